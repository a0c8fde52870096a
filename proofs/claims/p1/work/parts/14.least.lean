theorem p3 {N : Nat} (h : N ≤ 7) : 3 ^ N ≤ 2187 := Nat.le_trans (Nat.pow_le_pow_right (by decide) h) (by decide)
theorem hi_X4_init_X4 : ∀ w ∈ wsX40, w ∈ wsX4_init := fun _ h => List.mem_cons_of_mem _ (List.mem_append_left _ (List.mem_append_right _ h))
theorem hi_X4_init_X2 : ∀ w ∈ wsX20, w ∈ wsX4_init := fun _ h => List.mem_cons_of_mem _ (List.mem_append_right _ h)
abbrev rm_c_L_init : Room := { frames := 2, cells := 10, slots := 28852, locals := 44 }
set_option maxHeartbeats 4000000 in
set_option maxRecDepth 100000 in
theorem c_L_init (l : Launch) (g : va_G) (cT : Nat → ClassId) (sz : Nat) (o : Nat) (al : Nat)  : Ctr l g cT sz yX4_init wsX4_init rm_c_L_init [.ref o, .ref al] [(o, .inr (4, [.null, .null, .null, .null, .int 0, .null, .null, .null, .int 0, .null, .null, .int 0]))] (QV g (fun (u : Nat × Nat × Nat × Nat × Nat × Nat × Nat × Nat × Nat × Nat) => True) (fun (u : Nat × Nat × Nat × Nat × Nat × Nat × Nat × Nat × Nat × Nat) => [(o, .inr (4, [.ref al, .ref u.1, .ref u.2.1, .ref u.2.2.1, .int 0, .ref u.2.2.2.1, .ref u.2.2.2.2.1, .ref u.2.2.2.2.2.1, .int 0, .ref u.2.2.2.2.2.2.1, .ref u.2.2.2.2.2.2.2.1, .int (-1)])), (u.1, .inl (cT 0, 800, .inl (fun _ => 0))), (u.2.1, .inl (cT 0, 800, .inl (fun _ => 0))), (u.2.2.2.1, .inl (cT 0, 2400, .inl (fun _ => 0))), (u.2.2.2.2.1, .inl (cT 0, 10400, .inl (fun _ => 0))), (u.2.2.2.2.2.1, .inl (cT 0, 10001, .inl (fun _ => 0))), (u.2.2.2.2.2.2.1, .inl (cT 0, 800, .inl (fun _ => 0))), (u.2.2.2.2.2.2.2.1, .inl (cT 0, 800, .inl (fun _ => 0))), (u.2.2.1, .inr (2, [.ref u.2.2.2.2.2.2.2.2.1, .ref u.2.2.2.2.2.2.2.2.2, .int 0])), (u.2.2.2.2.2.2.2.2.1, .inl (cT 1, 800, .inr (.inl (fun _ => 0)))), (u.2.2.2.2.2.2.2.2.2, .inl (cT 0, 2048, .inl (fun _ => 0)))])) 10 28852 := by
  refine mk_ctr (cc := cX4_init) (maxL := 2) (ret := none) (by decide) rfl (Nat.le_of_ble_eq_true rfl) ?_
  intro p e s m args below meth c A Q hx hb hr hts hown hlocks hin hml hP hK hD hN hZ hA hS hQ ls hl
  have hl : lv_has ls 2 [(0, .ref o), (1, .ref al)] := hl
  obtain ⟨H, hH⟩ : ∃ H : Heap, H = s.heap := ⟨_, rfl⟩
  obtain ⟨locs, hlo⟩ : ∃ x : List Loc, x = [] := ⟨_, rfl⟩
  rw [← hH] at hP
  have hS : va_S A s.heap H locs := by rw [hH, hlo]; exact hS
  have hgo : W p l e rm_c_L_init s m args below meth c H locs 0 0 Q (F0 m 0 ls []) := by
    clear hH hlo
    refine lv_aload_n hx hb dX4_init_0 rfl (lv_at hl 0 rfl) ?_
    refine W.objInit hx hb hown (hts (.methodLink RX4 3 objectInit) (by decide +kernel)) (hts (.instanceMethod objectInit) (by decide +kernel)) (hts _ (List.mem_cons_of_mem _ (List.mem_append_left _ (List.mem_append_left _ (List.mem_append_left _ (List.mem_of_getElem? (i := 2) rfl)))))) rfl (by rw [hml]; exact hl.1) rfl dX4_init_1 (Nat.le_of_ble_eq_true rfl) (Nat.le_of_ble_eq_true rfl) ?_
    refine W.eq (g2 := F0 m 4 ls []) rfl ?_
    refine lv_aload_n hx hb dX4_init_4 rfl (lv_at hl 0 rfl) ?_
    refine lv_sipush (v := 800) hx hb dX4_init_5 (by decide) ?_
    refine w_newI hx hb (hts (.arrayClass .int) (by decide +kernel)) hK hP hD hS hA 800 1 800 dX4_init_8 (by decide) (by decide) (by decide) (Nat.le_of_ble_eq_true rfl) (Nat.le_of_ble_eq_true rfl) (Nat.le_of_ble_eq_true rfl) (Nat.le_of_ble_eq_true rfl) (fun q_1 H hP hD hS => ?_)
    have hP : va_P g vwCl [(o, .inr (4, [.null, .null, .null, .null, .int 0, .null, .null, .null, .int 0, .null, .null, .int 0])), (q_1, .inl (cT 0, 800, .inl (fun _ => 0)))] H := hP
    have hD : va_D A [(o, .inr (4, [.null, .null, .null, .null, .int 0, .null, .null, .null, .int 0, .null, .null, .int 0])), (q_1, .inl (cT 0, 800, .inl (fun _ => 0)))] := hD
    refine va_putF (C := RX4) (T := TX4) (N := 12) (v := .ref q_1) (ty := .array .int) hx hb hts hi_X4_init_X4 tyX4 tyX4_ok nmX4 hown hK hP hD hS 0 rfl rfl 1 (by decide) (hts (.fieldLink RX4 9 "BothWays$Least" "groups" "[I") (by decide +kernel)) (fun _ h => h) rfl hin rfl (by decide +kernel) rfl rfl (Nat.le_of_ble_eq_true rfl) dX4_init_10 (fun H locs hP hD hS => ?_)
    have hP : va_P g vwCl [(o, .inr (4, [.null, .ref q_1, .null, .null, .int 0, .null, .null, .null, .int 0, .null, .null, .int 0])), (q_1, .inl (cT 0, 800, .inl (fun _ => 0)))] H := hP
    have hD : va_D A [(o, .inr (4, [.null, .ref q_1, .null, .null, .int 0, .null, .null, .null, .int 0, .null, .null, .int 0])), (q_1, .inl (cT 0, 800, .inl (fun _ => 0)))] := hD
    refine lv_aload_n hx hb dX4_init_13 rfl (lv_at hl 0 rfl) ?_
    refine lv_sipush (v := 800) hx hb dX4_init_14 (by decide) ?_
    refine w_newI hx hb (hts (.arrayClass .int) (by decide +kernel)) hK hP hD hS hA 800 2 1600 dX4_init_17 (by decide) (by decide) (by decide) (Nat.le_of_ble_eq_true rfl) (Nat.le_of_ble_eq_true rfl) (Nat.le_of_ble_eq_true rfl) (Nat.le_of_ble_eq_true rfl) (fun q_2 H hP hD hS => ?_)
    have hP : va_P g vwCl [(o, .inr (4, [.null, .ref q_1, .null, .null, .int 0, .null, .null, .null, .int 0, .null, .null, .int 0])), (q_1, .inl (cT 0, 800, .inl (fun _ => 0))), (q_2, .inl (cT 0, 800, .inl (fun _ => 0)))] H := hP
    have hD : va_D A [(o, .inr (4, [.null, .ref q_1, .null, .null, .int 0, .null, .null, .null, .int 0, .null, .null, .int 0])), (q_1, .inl (cT 0, 800, .inl (fun _ => 0))), (q_2, .inl (cT 0, 800, .inl (fun _ => 0)))] := hD
    refine va_putF (C := RX4) (T := TX4) (N := 12) (v := .ref q_2) (ty := .array .int) hx hb hts hi_X4_init_X4 tyX4 tyX4_ok nmX4 hown hK hP hD hS 0 rfl rfl 2 (by decide) (hts (.fieldLink RX4 15 "BothWays$Least" "fresh" "[I") (by decide +kernel)) (fun _ h => h) rfl hin rfl (by decide +kernel) rfl rfl (Nat.le_of_ble_eq_true rfl) dX4_init_19 (fun H locs hP hD hS => ?_)
    have hP : va_P g vwCl [(o, .inr (4, [.null, .ref q_1, .ref q_2, .null, .int 0, .null, .null, .null, .int 0, .null, .null, .int 0])), (q_1, .inl (cT 0, 800, .inl (fun _ => 0))), (q_2, .inl (cT 0, 800, .inl (fun _ => 0)))] H := hP
    have hD : va_D A [(o, .inr (4, [.null, .ref q_1, .ref q_2, .null, .int 0, .null, .null, .null, .int 0, .null, .null, .int 0])), (q_1, .inl (cT 0, 800, .inl (fun _ => 0))), (q_2, .inl (cT 0, 800, .inl (fun _ => 0)))] := hD
    refine lv_aload_n hx hb dX4_init_22 rfl (lv_at hl 0 rfl) ?_
    refine va_new (ci := 2) (fs := [.null, .null, .int 0]) (C := RX2) (T := TX2) (N := 3) hx hb hts hi_X4_init_X2 tyX2 tyX2_ok hown (hts (.classLink RX4 18 RX2) (by decide +kernel)) (hts (.instantiable RX2 3) (by decide +kernel)) (hts (.initialized RX2) (by decide +kernel)) hK hP hD hS hA rfl dv_X2 (Nat.le_of_ble_eq_true rfl) (Nat.le_of_ble_eq_true rfl) dX4_init_23 (fun q_3 H hP hD hS => ?_)
    have hP : va_P g vwCl [(o, .inr (4, [.null, .ref q_1, .ref q_2, .null, .int 0, .null, .null, .null, .int 0, .null, .null, .int 0])), (q_1, .inl (cT 0, 800, .inl (fun _ => 0))), (q_2, .inl (cT 0, 800, .inl (fun _ => 0))), (q_3, .inr (2, [.null, .null, .int 0]))] H := hP
    have hD : va_D A [(o, .inr (4, [.null, .ref q_1, .ref q_2, .null, .int 0, .null, .null, .null, .int 0, .null, .null, .int 0])), (q_1, .inl (cT 0, 800, .inl (fun _ => 0))), (q_2, .inl (cT 0, 800, .inl (fun _ => 0))), (q_3, .inr (2, [.null, .null, .int 0]))] := hD
    refine W.widen (k := 3) (n := 1603) (Nat.le_of_ble_eq_true rfl) (Nat.le_of_ble_eq_true rfl) ?_
    refine lv_dup hx hb dX4_init_26 rfl ?_
    refine lv_sipush (v := 800) hx hb dX4_init_27 (by decide) ?_
    refine cj_v 5 4451 (wr := [(o, .inr (4, [.null, .ref q_1, .ref q_2, .null, .int 0, .null, .null, .null, .int 0, .null, .null, .int 0])), (q_1, .inl (cT 0, 800, .inl (fun _ => 0))), (q_2, .inl (cT 0, 800, .inl (fun _ => 0)))]) (va_runI (As := [.int 800]) (rest := [.ref q_3, .ref o]) ⟨hx, hb, hml, hown, hts⟩ (c_K_init_800 l g cT H.size q_3) (cwI 1 hts gX4_init_X2_init rfl rfl rfl (hts (.initialized RX2) (by decide +kernel)) (hts (.methodLink RX4 20 yX2_init) (by decide +kernel)) (hts (.instanceMethod yX2_init) (by decide +kernel)) rfl yd_X2_init.2 ⟨(Nat.le_of_ble_eq_true rfl), (Nat.le_of_ble_eq_true rfl)⟩) (preS (wc := [(q_3, .inr (2, [.null, .null, .int 0]))]) rfl hP hD hK hN hZ hS hA [3] rfl (by decide)) rfl rfl hl.1 rfl (lv_room (Nat.le_of_ble_eq_true rfl)) dX4_init_30 ⟨(Nat.le_of_ble_eq_true rfl), (Nat.le_of_ble_eq_true rfl)⟩) hP hD hS hA [3] [0, 1, 2] rfl rfl (by decide) (by decide) (Nat.le_of_ble_eq_true rfl) (Nat.le_of_ble_eq_true rfl) (fun u H locs h_5 hP hD hS => ?_)
    obtain ⟨u_6, u_7⟩ := u
    have hP : va_P g vwCl [(o, .inr (4, [.null, .ref q_1, .ref q_2, .null, .int 0, .null, .null, .null, .int 0, .null, .null, .int 0])), (q_1, .inl (cT 0, 800, .inl (fun _ => 0))), (q_2, .inl (cT 0, 800, .inl (fun _ => 0))), (q_3, .inr (2, [.ref u_6, .ref u_7, .int 0])), (u_6, .inl (cT 1, 800, .inr (.inl (fun _ => 0)))), (u_7, .inl (cT 0, 2048, .inl (fun _ => 0)))] H := hP
    have hD : va_D A [(o, .inr (4, [.null, .ref q_1, .ref q_2, .null, .int 0, .null, .null, .null, .int 0, .null, .null, .int 0])), (q_1, .inl (cT 0, 800, .inl (fun _ => 0))), (q_2, .inl (cT 0, 800, .inl (fun _ => 0))), (q_3, .inr (2, [.ref u_6, .ref u_7, .int 0])), (u_6, .inl (cT 1, 800, .inr (.inl (fun _ => 0)))), (u_7, .inl (cT 0, 2048, .inl (fun _ => 0)))] := hD
    refine va_putF (C := RX4) (T := TX4) (N := 12) (v := .ref q_3) (ty := .object "BothWays$Keys") hx hb hts hi_X4_init_X4 tyX4 tyX4_ok nmX4 hown hK hP hD hS 0 rfl rfl 3 (by decide) (hts (.fieldLink RX4 23 "BothWays$Least" "keys" "LBothWays$Keys;") (by decide +kernel)) (fun _ h => h) rfl hin rfl (by decide +kernel) rfl rfl (Nat.le_of_ble_eq_true rfl) dX4_init_33 (fun H locs hP hD hS => ?_)
    have hP : va_P g vwCl [(o, .inr (4, [.null, .ref q_1, .ref q_2, .ref q_3, .int 0, .null, .null, .null, .int 0, .null, .null, .int 0])), (q_1, .inl (cT 0, 800, .inl (fun _ => 0))), (q_2, .inl (cT 0, 800, .inl (fun _ => 0))), (q_3, .inr (2, [.ref u_6, .ref u_7, .int 0])), (u_6, .inl (cT 1, 800, .inr (.inl (fun _ => 0)))), (u_7, .inl (cT 0, 2048, .inl (fun _ => 0)))] H := hP
    have hD : va_D A [(o, .inr (4, [.null, .ref q_1, .ref q_2, .ref q_3, .int 0, .null, .null, .null, .int 0, .null, .null, .int 0])), (q_1, .inl (cT 0, 800, .inl (fun _ => 0))), (q_2, .inl (cT 0, 800, .inl (fun _ => 0))), (q_3, .inr (2, [.ref u_6, .ref u_7, .int 0])), (u_6, .inl (cT 1, 800, .inr (.inl (fun _ => 0)))), (u_7, .inl (cT 0, 2048, .inl (fun _ => 0)))] := hD
    refine lv_aload_n hx hb dX4_init_36 rfl (lv_at hl 0 rfl) ?_
    refine lv_iconst (v := 0) hx hb dX4_init_37 (by decide) ?_
    refine va_put (C := RX4) (T := TX4) (N := 12) (v := .int 0) (ty := .int) hx hb hts hi_X4_init_X4 tyX4 tyX4_ok nmX4 hown hK hP hD hS 0 rfl rfl 4 (by decide) (hts (.fieldLink RX4 27 "BothWays$Least" "size" "I") (by decide +kernel)) (fun _ h => h) rfl (by decide +kernel) rfl rfl (Nat.le_of_ble_eq_true rfl) dX4_init_38 (fun H locs hP hD hS => ?_)
    have hP : va_P g vwCl [(o, .inr (4, [.null, .ref q_1, .ref q_2, .ref q_3, .int 0, .null, .null, .null, .int 0, .null, .null, .int 0])), (q_1, .inl (cT 0, 800, .inl (fun _ => 0))), (q_2, .inl (cT 0, 800, .inl (fun _ => 0))), (q_3, .inr (2, [.ref u_6, .ref u_7, .int 0])), (u_6, .inl (cT 1, 800, .inr (.inl (fun _ => 0)))), (u_7, .inl (cT 0, 2048, .inl (fun _ => 0)))] H := hP
    have hD : va_D A [(o, .inr (4, [.null, .ref q_1, .ref q_2, .ref q_3, .int 0, .null, .null, .null, .int 0, .null, .null, .int 0])), (q_1, .inl (cT 0, 800, .inl (fun _ => 0))), (q_2, .inl (cT 0, 800, .inl (fun _ => 0))), (q_3, .inr (2, [.ref u_6, .ref u_7, .int 0])), (u_6, .inl (cT 1, 800, .inr (.inl (fun _ => 0)))), (u_7, .inl (cT 0, 2048, .inl (fun _ => 0)))] := hD
    refine lv_aload_n hx hb dX4_init_41 rfl (lv_at hl 0 rfl) ?_
    refine lv_sipush (v := 2400) hx hb dX4_init_42 (by decide) ?_
    refine w_newI hx hb (hts (.arrayClass .int) (by decide +kernel)) hK hP hD hS hA 2400 6 6851 dX4_init_45 (by decide) (by decide) (by decide) (Nat.le_of_ble_eq_true rfl) (Nat.le_of_ble_eq_true rfl) (Nat.le_of_ble_eq_true rfl) (Nat.le_of_ble_eq_true rfl) (fun q_8 H hP hD hS => ?_)
    have hP : va_P g vwCl [(o, .inr (4, [.null, .ref q_1, .ref q_2, .ref q_3, .int 0, .null, .null, .null, .int 0, .null, .null, .int 0])), (q_1, .inl (cT 0, 800, .inl (fun _ => 0))), (q_2, .inl (cT 0, 800, .inl (fun _ => 0))), (q_3, .inr (2, [.ref u_6, .ref u_7, .int 0])), (u_6, .inl (cT 1, 800, .inr (.inl (fun _ => 0)))), (u_7, .inl (cT 0, 2048, .inl (fun _ => 0))), (q_8, .inl (cT 0, 2400, .inl (fun _ => 0)))] H := hP
    have hD : va_D A [(o, .inr (4, [.null, .ref q_1, .ref q_2, .ref q_3, .int 0, .null, .null, .null, .int 0, .null, .null, .int 0])), (q_1, .inl (cT 0, 800, .inl (fun _ => 0))), (q_2, .inl (cT 0, 800, .inl (fun _ => 0))), (q_3, .inr (2, [.ref u_6, .ref u_7, .int 0])), (u_6, .inl (cT 1, 800, .inr (.inl (fun _ => 0)))), (u_7, .inl (cT 0, 2048, .inl (fun _ => 0))), (q_8, .inl (cT 0, 2400, .inl (fun _ => 0)))] := hD
    refine va_putF (C := RX4) (T := TX4) (N := 12) (v := .ref q_8) (ty := .array .int) hx hb hts hi_X4_init_X4 tyX4 tyX4_ok nmX4 hown hK hP hD hS 0 rfl rfl 5 (by decide) (hts (.fieldLink RX4 31 "BothWays$Least" "nexts" "[I") (by decide +kernel)) (fun _ h => h) rfl hin rfl (by decide +kernel) rfl rfl (Nat.le_of_ble_eq_true rfl) dX4_init_47 (fun H locs hP hD hS => ?_)
    have hP : va_P g vwCl [(o, .inr (4, [.null, .ref q_1, .ref q_2, .ref q_3, .int 0, .ref q_8, .null, .null, .int 0, .null, .null, .int 0])), (q_1, .inl (cT 0, 800, .inl (fun _ => 0))), (q_2, .inl (cT 0, 800, .inl (fun _ => 0))), (q_3, .inr (2, [.ref u_6, .ref u_7, .int 0])), (u_6, .inl (cT 1, 800, .inr (.inl (fun _ => 0)))), (u_7, .inl (cT 0, 2048, .inl (fun _ => 0))), (q_8, .inl (cT 0, 2400, .inl (fun _ => 0)))] H := hP
    have hD : va_D A [(o, .inr (4, [.null, .ref q_1, .ref q_2, .ref q_3, .int 0, .ref q_8, .null, .null, .int 0, .null, .null, .int 0])), (q_1, .inl (cT 0, 800, .inl (fun _ => 0))), (q_2, .inl (cT 0, 800, .inl (fun _ => 0))), (q_3, .inr (2, [.ref u_6, .ref u_7, .int 0])), (u_6, .inl (cT 1, 800, .inr (.inl (fun _ => 0)))), (u_7, .inl (cT 0, 2048, .inl (fun _ => 0))), (q_8, .inl (cT 0, 2400, .inl (fun _ => 0)))] := hD
    refine lv_aload_n hx hb dX4_init_50 rfl (lv_at hl 0 rfl) ?_
    refine lv_sipush (v := 10400) hx hb dX4_init_51 (by decide) ?_
    refine w_newI hx hb (hts (.arrayClass .int) (by decide +kernel)) hK hP hD hS hA 10400 7 17251 dX4_init_54 (by decide) (by decide) (by decide) (Nat.le_of_ble_eq_true rfl) (Nat.le_of_ble_eq_true rfl) (Nat.le_of_ble_eq_true rfl) (Nat.le_of_ble_eq_true rfl) (fun q_9 H hP hD hS => ?_)
    have hP : va_P g vwCl [(o, .inr (4, [.null, .ref q_1, .ref q_2, .ref q_3, .int 0, .ref q_8, .null, .null, .int 0, .null, .null, .int 0])), (q_1, .inl (cT 0, 800, .inl (fun _ => 0))), (q_2, .inl (cT 0, 800, .inl (fun _ => 0))), (q_3, .inr (2, [.ref u_6, .ref u_7, .int 0])), (u_6, .inl (cT 1, 800, .inr (.inl (fun _ => 0)))), (u_7, .inl (cT 0, 2048, .inl (fun _ => 0))), (q_8, .inl (cT 0, 2400, .inl (fun _ => 0))), (q_9, .inl (cT 0, 10400, .inl (fun _ => 0)))] H := hP
    have hD : va_D A [(o, .inr (4, [.null, .ref q_1, .ref q_2, .ref q_3, .int 0, .ref q_8, .null, .null, .int 0, .null, .null, .int 0])), (q_1, .inl (cT 0, 800, .inl (fun _ => 0))), (q_2, .inl (cT 0, 800, .inl (fun _ => 0))), (q_3, .inr (2, [.ref u_6, .ref u_7, .int 0])), (u_6, .inl (cT 1, 800, .inr (.inl (fun _ => 0)))), (u_7, .inl (cT 0, 2048, .inl (fun _ => 0))), (q_8, .inl (cT 0, 2400, .inl (fun _ => 0))), (q_9, .inl (cT 0, 10400, .inl (fun _ => 0)))] := hD
    refine va_putF (C := RX4) (T := TX4) (N := 12) (v := .ref q_9) (ty := .array .int) hx hb hts hi_X4_init_X4 tyX4 tyX4_ok nmX4 hown hK hP hD hS 0 rfl rfl 6 (by decide) (hts (.fieldLink RX4 34 "BothWays$Least" "ways" "[I") (by decide +kernel)) (fun _ h => h) rfl hin rfl (by decide +kernel) rfl rfl (Nat.le_of_ble_eq_true rfl) dX4_init_56 (fun H locs hP hD hS => ?_)
    have hP : va_P g vwCl [(o, .inr (4, [.null, .ref q_1, .ref q_2, .ref q_3, .int 0, .ref q_8, .ref q_9, .null, .int 0, .null, .null, .int 0])), (q_1, .inl (cT 0, 800, .inl (fun _ => 0))), (q_2, .inl (cT 0, 800, .inl (fun _ => 0))), (q_3, .inr (2, [.ref u_6, .ref u_7, .int 0])), (u_6, .inl (cT 1, 800, .inr (.inl (fun _ => 0)))), (u_7, .inl (cT 0, 2048, .inl (fun _ => 0))), (q_8, .inl (cT 0, 2400, .inl (fun _ => 0))), (q_9, .inl (cT 0, 10400, .inl (fun _ => 0)))] H := hP
    have hD : va_D A [(o, .inr (4, [.null, .ref q_1, .ref q_2, .ref q_3, .int 0, .ref q_8, .ref q_9, .null, .int 0, .null, .null, .int 0])), (q_1, .inl (cT 0, 800, .inl (fun _ => 0))), (q_2, .inl (cT 0, 800, .inl (fun _ => 0))), (q_3, .inr (2, [.ref u_6, .ref u_7, .int 0])), (u_6, .inl (cT 1, 800, .inr (.inl (fun _ => 0)))), (u_7, .inl (cT 0, 2048, .inl (fun _ => 0))), (q_8, .inl (cT 0, 2400, .inl (fun _ => 0))), (q_9, .inl (cT 0, 10400, .inl (fun _ => 0)))] := hD
    refine lv_aload_n hx hb dX4_init_59 rfl (lv_at hl 0 rfl) ?_
    refine lv_sipush (v := 10001) hx hb dX4_init_60 (by decide) ?_
    refine w_newI hx hb (hts (.arrayClass .int) (by decide +kernel)) hK hP hD hS hA 10001 8 27252 dX4_init_63 (by decide) (by decide) (by decide) (Nat.le_of_ble_eq_true rfl) (Nat.le_of_ble_eq_true rfl) (Nat.le_of_ble_eq_true rfl) (Nat.le_of_ble_eq_true rfl) (fun q_10 H hP hD hS => ?_)
    have hP : va_P g vwCl [(o, .inr (4, [.null, .ref q_1, .ref q_2, .ref q_3, .int 0, .ref q_8, .ref q_9, .null, .int 0, .null, .null, .int 0])), (q_1, .inl (cT 0, 800, .inl (fun _ => 0))), (q_2, .inl (cT 0, 800, .inl (fun _ => 0))), (q_3, .inr (2, [.ref u_6, .ref u_7, .int 0])), (u_6, .inl (cT 1, 800, .inr (.inl (fun _ => 0)))), (u_7, .inl (cT 0, 2048, .inl (fun _ => 0))), (q_8, .inl (cT 0, 2400, .inl (fun _ => 0))), (q_9, .inl (cT 0, 10400, .inl (fun _ => 0))), (q_10, .inl (cT 0, 10001, .inl (fun _ => 0)))] H := hP
    have hD : va_D A [(o, .inr (4, [.null, .ref q_1, .ref q_2, .ref q_3, .int 0, .ref q_8, .ref q_9, .null, .int 0, .null, .null, .int 0])), (q_1, .inl (cT 0, 800, .inl (fun _ => 0))), (q_2, .inl (cT 0, 800, .inl (fun _ => 0))), (q_3, .inr (2, [.ref u_6, .ref u_7, .int 0])), (u_6, .inl (cT 1, 800, .inr (.inl (fun _ => 0)))), (u_7, .inl (cT 0, 2048, .inl (fun _ => 0))), (q_8, .inl (cT 0, 2400, .inl (fun _ => 0))), (q_9, .inl (cT 0, 10400, .inl (fun _ => 0))), (q_10, .inl (cT 0, 10001, .inl (fun _ => 0)))] := hD
    refine va_putF (C := RX4) (T := TX4) (N := 12) (v := .ref q_10) (ty := .array .int) hx hb hts hi_X4_init_X4 tyX4 tyX4_ok nmX4 hown hK hP hD hS 0 rfl rfl 7 (by decide) (hts (.fieldLink RX4 37 "BothWays$Least" "series" "[I") (by decide +kernel)) (fun _ h => h) rfl hin rfl (by decide +kernel) rfl rfl (Nat.le_of_ble_eq_true rfl) dX4_init_65 (fun H locs hP hD hS => ?_)
    have hP : va_P g vwCl [(o, .inr (4, [.null, .ref q_1, .ref q_2, .ref q_3, .int 0, .ref q_8, .ref q_9, .ref q_10, .int 0, .null, .null, .int 0])), (q_1, .inl (cT 0, 800, .inl (fun _ => 0))), (q_2, .inl (cT 0, 800, .inl (fun _ => 0))), (q_3, .inr (2, [.ref u_6, .ref u_7, .int 0])), (u_6, .inl (cT 1, 800, .inr (.inl (fun _ => 0)))), (u_7, .inl (cT 0, 2048, .inl (fun _ => 0))), (q_8, .inl (cT 0, 2400, .inl (fun _ => 0))), (q_9, .inl (cT 0, 10400, .inl (fun _ => 0))), (q_10, .inl (cT 0, 10001, .inl (fun _ => 0)))] H := hP
    have hD : va_D A [(o, .inr (4, [.null, .ref q_1, .ref q_2, .ref q_3, .int 0, .ref q_8, .ref q_9, .ref q_10, .int 0, .null, .null, .int 0])), (q_1, .inl (cT 0, 800, .inl (fun _ => 0))), (q_2, .inl (cT 0, 800, .inl (fun _ => 0))), (q_3, .inr (2, [.ref u_6, .ref u_7, .int 0])), (u_6, .inl (cT 1, 800, .inr (.inl (fun _ => 0)))), (u_7, .inl (cT 0, 2048, .inl (fun _ => 0))), (q_8, .inl (cT 0, 2400, .inl (fun _ => 0))), (q_9, .inl (cT 0, 10400, .inl (fun _ => 0))), (q_10, .inl (cT 0, 10001, .inl (fun _ => 0)))] := hD
    refine lv_aload_n hx hb dX4_init_68 rfl (lv_at hl 0 rfl) ?_
    refine lv_iconst (v := 0) hx hb dX4_init_69 (by decide) ?_
    refine va_put (C := RX4) (T := TX4) (N := 12) (v := .int 0) (ty := .int) hx hb hts hi_X4_init_X4 tyX4 tyX4_ok nmX4 hown hK hP hD hS 0 rfl rfl 8 (by decide) (hts (.fieldLink RX4 40 "BothWays$Least" "seriesSize" "I") (by decide +kernel)) (fun _ h => h) rfl (by decide +kernel) rfl rfl (Nat.le_of_ble_eq_true rfl) dX4_init_70 (fun H locs hP hD hS => ?_)
    have hP : va_P g vwCl [(o, .inr (4, [.null, .ref q_1, .ref q_2, .ref q_3, .int 0, .ref q_8, .ref q_9, .ref q_10, .int 0, .null, .null, .int 0])), (q_1, .inl (cT 0, 800, .inl (fun _ => 0))), (q_2, .inl (cT 0, 800, .inl (fun _ => 0))), (q_3, .inr (2, [.ref u_6, .ref u_7, .int 0])), (u_6, .inl (cT 1, 800, .inr (.inl (fun _ => 0)))), (u_7, .inl (cT 0, 2048, .inl (fun _ => 0))), (q_8, .inl (cT 0, 2400, .inl (fun _ => 0))), (q_9, .inl (cT 0, 10400, .inl (fun _ => 0))), (q_10, .inl (cT 0, 10001, .inl (fun _ => 0)))] H := hP
    have hD : va_D A [(o, .inr (4, [.null, .ref q_1, .ref q_2, .ref q_3, .int 0, .ref q_8, .ref q_9, .ref q_10, .int 0, .null, .null, .int 0])), (q_1, .inl (cT 0, 800, .inl (fun _ => 0))), (q_2, .inl (cT 0, 800, .inl (fun _ => 0))), (q_3, .inr (2, [.ref u_6, .ref u_7, .int 0])), (u_6, .inl (cT 1, 800, .inr (.inl (fun _ => 0)))), (u_7, .inl (cT 0, 2048, .inl (fun _ => 0))), (q_8, .inl (cT 0, 2400, .inl (fun _ => 0))), (q_9, .inl (cT 0, 10400, .inl (fun _ => 0))), (q_10, .inl (cT 0, 10001, .inl (fun _ => 0)))] := hD
    refine lv_aload_n hx hb dX4_init_73 rfl (lv_at hl 0 rfl) ?_
    refine lv_sipush (v := 800) hx hb dX4_init_74 (by decide) ?_
    refine w_newI hx hb (hts (.arrayClass .int) (by decide +kernel)) hK hP hD hS hA 800 9 28052 dX4_init_77 (by decide) (by decide) (by decide) (Nat.le_of_ble_eq_true rfl) (Nat.le_of_ble_eq_true rfl) (Nat.le_of_ble_eq_true rfl) (Nat.le_of_ble_eq_true rfl) (fun q_11 H hP hD hS => ?_)
    have hP : va_P g vwCl [(o, .inr (4, [.null, .ref q_1, .ref q_2, .ref q_3, .int 0, .ref q_8, .ref q_9, .ref q_10, .int 0, .null, .null, .int 0])), (q_1, .inl (cT 0, 800, .inl (fun _ => 0))), (q_2, .inl (cT 0, 800, .inl (fun _ => 0))), (q_3, .inr (2, [.ref u_6, .ref u_7, .int 0])), (u_6, .inl (cT 1, 800, .inr (.inl (fun _ => 0)))), (u_7, .inl (cT 0, 2048, .inl (fun _ => 0))), (q_8, .inl (cT 0, 2400, .inl (fun _ => 0))), (q_9, .inl (cT 0, 10400, .inl (fun _ => 0))), (q_10, .inl (cT 0, 10001, .inl (fun _ => 0))), (q_11, .inl (cT 0, 800, .inl (fun _ => 0)))] H := hP
    have hD : va_D A [(o, .inr (4, [.null, .ref q_1, .ref q_2, .ref q_3, .int 0, .ref q_8, .ref q_9, .ref q_10, .int 0, .null, .null, .int 0])), (q_1, .inl (cT 0, 800, .inl (fun _ => 0))), (q_2, .inl (cT 0, 800, .inl (fun _ => 0))), (q_3, .inr (2, [.ref u_6, .ref u_7, .int 0])), (u_6, .inl (cT 1, 800, .inr (.inl (fun _ => 0)))), (u_7, .inl (cT 0, 2048, .inl (fun _ => 0))), (q_8, .inl (cT 0, 2400, .inl (fun _ => 0))), (q_9, .inl (cT 0, 10400, .inl (fun _ => 0))), (q_10, .inl (cT 0, 10001, .inl (fun _ => 0))), (q_11, .inl (cT 0, 800, .inl (fun _ => 0)))] := hD
    refine va_put (C := RX4) (T := TX4) (N := 12) (v := .ref q_11) (ty := .array .int) hx hb hts hi_X4_init_X4 tyX4 tyX4_ok nmX4 hown hK hP hD hS 0 rfl rfl 9 (by decide) (hts (.fieldLink RX4 43 "BothWays$Least" "now" "[I") (by decide +kernel)) (fun _ h => h) rfl (by decide +kernel) rfl rfl (Nat.le_of_ble_eq_true rfl) dX4_init_79 (fun H locs hP hD hS => ?_)
    have hP : va_P g vwCl [(o, .inr (4, [.null, .ref q_1, .ref q_2, .ref q_3, .int 0, .ref q_8, .ref q_9, .ref q_10, .int 0, .ref q_11, .null, .int 0])), (q_1, .inl (cT 0, 800, .inl (fun _ => 0))), (q_2, .inl (cT 0, 800, .inl (fun _ => 0))), (q_3, .inr (2, [.ref u_6, .ref u_7, .int 0])), (u_6, .inl (cT 1, 800, .inr (.inl (fun _ => 0)))), (u_7, .inl (cT 0, 2048, .inl (fun _ => 0))), (q_8, .inl (cT 0, 2400, .inl (fun _ => 0))), (q_9, .inl (cT 0, 10400, .inl (fun _ => 0))), (q_10, .inl (cT 0, 10001, .inl (fun _ => 0))), (q_11, .inl (cT 0, 800, .inl (fun _ => 0)))] H := hP
    have hD : va_D A [(o, .inr (4, [.null, .ref q_1, .ref q_2, .ref q_3, .int 0, .ref q_8, .ref q_9, .ref q_10, .int 0, .ref q_11, .null, .int 0])), (q_1, .inl (cT 0, 800, .inl (fun _ => 0))), (q_2, .inl (cT 0, 800, .inl (fun _ => 0))), (q_3, .inr (2, [.ref u_6, .ref u_7, .int 0])), (u_6, .inl (cT 1, 800, .inr (.inl (fun _ => 0)))), (u_7, .inl (cT 0, 2048, .inl (fun _ => 0))), (q_8, .inl (cT 0, 2400, .inl (fun _ => 0))), (q_9, .inl (cT 0, 10400, .inl (fun _ => 0))), (q_10, .inl (cT 0, 10001, .inl (fun _ => 0))), (q_11, .inl (cT 0, 800, .inl (fun _ => 0)))] := hD
    refine lv_aload_n hx hb dX4_init_82 rfl (lv_at hl 0 rfl) ?_
    refine lv_sipush (v := 800) hx hb dX4_init_83 (by decide) ?_
    refine w_newI hx hb (hts (.arrayClass .int) (by decide +kernel)) hK hP hD hS hA 800 10 28852 dX4_init_86 (by decide) (by decide) (by decide) (Nat.le_of_ble_eq_true rfl) (Nat.le_of_ble_eq_true rfl) (Nat.le_of_ble_eq_true rfl) (Nat.le_of_ble_eq_true rfl) (fun q_12 H hP hD hS => ?_)
    have hP : va_P g vwCl [(o, .inr (4, [.null, .ref q_1, .ref q_2, .ref q_3, .int 0, .ref q_8, .ref q_9, .ref q_10, .int 0, .ref q_11, .null, .int 0])), (q_1, .inl (cT 0, 800, .inl (fun _ => 0))), (q_2, .inl (cT 0, 800, .inl (fun _ => 0))), (q_3, .inr (2, [.ref u_6, .ref u_7, .int 0])), (u_6, .inl (cT 1, 800, .inr (.inl (fun _ => 0)))), (u_7, .inl (cT 0, 2048, .inl (fun _ => 0))), (q_8, .inl (cT 0, 2400, .inl (fun _ => 0))), (q_9, .inl (cT 0, 10400, .inl (fun _ => 0))), (q_10, .inl (cT 0, 10001, .inl (fun _ => 0))), (q_11, .inl (cT 0, 800, .inl (fun _ => 0))), (q_12, .inl (cT 0, 800, .inl (fun _ => 0)))] H := hP
    have hD : va_D A [(o, .inr (4, [.null, .ref q_1, .ref q_2, .ref q_3, .int 0, .ref q_8, .ref q_9, .ref q_10, .int 0, .ref q_11, .null, .int 0])), (q_1, .inl (cT 0, 800, .inl (fun _ => 0))), (q_2, .inl (cT 0, 800, .inl (fun _ => 0))), (q_3, .inr (2, [.ref u_6, .ref u_7, .int 0])), (u_6, .inl (cT 1, 800, .inr (.inl (fun _ => 0)))), (u_7, .inl (cT 0, 2048, .inl (fun _ => 0))), (q_8, .inl (cT 0, 2400, .inl (fun _ => 0))), (q_9, .inl (cT 0, 10400, .inl (fun _ => 0))), (q_10, .inl (cT 0, 10001, .inl (fun _ => 0))), (q_11, .inl (cT 0, 800, .inl (fun _ => 0))), (q_12, .inl (cT 0, 800, .inl (fun _ => 0)))] := hD
    refine va_put (C := RX4) (T := TX4) (N := 12) (v := .ref q_12) (ty := .array .int) hx hb hts hi_X4_init_X4 tyX4 tyX4_ok nmX4 hown hK hP hD hS 0 rfl rfl 10 (by decide) (hts (.fieldLink RX4 46 "BothWays$Least" "then" "[I") (by decide +kernel)) (fun _ h => h) rfl (by decide +kernel) rfl rfl (Nat.le_of_ble_eq_true rfl) dX4_init_88 (fun H locs hP hD hS => ?_)
    have hP : va_P g vwCl [(o, .inr (4, [.null, .ref q_1, .ref q_2, .ref q_3, .int 0, .ref q_8, .ref q_9, .ref q_10, .int 0, .ref q_11, .ref q_12, .int 0])), (q_1, .inl (cT 0, 800, .inl (fun _ => 0))), (q_2, .inl (cT 0, 800, .inl (fun _ => 0))), (q_3, .inr (2, [.ref u_6, .ref u_7, .int 0])), (u_6, .inl (cT 1, 800, .inr (.inl (fun _ => 0)))), (u_7, .inl (cT 0, 2048, .inl (fun _ => 0))), (q_8, .inl (cT 0, 2400, .inl (fun _ => 0))), (q_9, .inl (cT 0, 10400, .inl (fun _ => 0))), (q_10, .inl (cT 0, 10001, .inl (fun _ => 0))), (q_11, .inl (cT 0, 800, .inl (fun _ => 0))), (q_12, .inl (cT 0, 800, .inl (fun _ => 0)))] H := hP
    have hD : va_D A [(o, .inr (4, [.null, .ref q_1, .ref q_2, .ref q_3, .int 0, .ref q_8, .ref q_9, .ref q_10, .int 0, .ref q_11, .ref q_12, .int 0])), (q_1, .inl (cT 0, 800, .inl (fun _ => 0))), (q_2, .inl (cT 0, 800, .inl (fun _ => 0))), (q_3, .inr (2, [.ref u_6, .ref u_7, .int 0])), (u_6, .inl (cT 1, 800, .inr (.inl (fun _ => 0)))), (u_7, .inl (cT 0, 2048, .inl (fun _ => 0))), (q_8, .inl (cT 0, 2400, .inl (fun _ => 0))), (q_9, .inl (cT 0, 10400, .inl (fun _ => 0))), (q_10, .inl (cT 0, 10001, .inl (fun _ => 0))), (q_11, .inl (cT 0, 800, .inl (fun _ => 0))), (q_12, .inl (cT 0, 800, .inl (fun _ => 0)))] := hD
    refine lv_aload_n hx hb dX4_init_91 rfl (lv_at hl 0 rfl) ?_
    refine lv_iconst (v := (-1)) hx hb dX4_init_92 (by decide) ?_
    refine va_put (C := RX4) (T := TX4) (N := 12) (v := .int (-1)) (ty := .int) hx hb hts hi_X4_init_X4 tyX4 tyX4_ok nmX4 hown hK hP hD hS 0 rfl rfl 11 (by decide) (hts (.fieldLink RX4 49 "BothWays$Least" "version" "I") (by decide +kernel)) (fun _ h => h) rfl (by decide +kernel) rfl rfl (Nat.le_of_ble_eq_true rfl) dX4_init_93 (fun H locs hP hD hS => ?_)
    have hP : va_P g vwCl [(o, .inr (4, [.null, .ref q_1, .ref q_2, .ref q_3, .int 0, .ref q_8, .ref q_9, .ref q_10, .int 0, .ref q_11, .ref q_12, .int (-1)])), (q_1, .inl (cT 0, 800, .inl (fun _ => 0))), (q_2, .inl (cT 0, 800, .inl (fun _ => 0))), (q_3, .inr (2, [.ref u_6, .ref u_7, .int 0])), (u_6, .inl (cT 1, 800, .inr (.inl (fun _ => 0)))), (u_7, .inl (cT 0, 2048, .inl (fun _ => 0))), (q_8, .inl (cT 0, 2400, .inl (fun _ => 0))), (q_9, .inl (cT 0, 10400, .inl (fun _ => 0))), (q_10, .inl (cT 0, 10001, .inl (fun _ => 0))), (q_11, .inl (cT 0, 800, .inl (fun _ => 0))), (q_12, .inl (cT 0, 800, .inl (fun _ => 0)))] H := hP
    have hD : va_D A [(o, .inr (4, [.null, .ref q_1, .ref q_2, .ref q_3, .int 0, .ref q_8, .ref q_9, .ref q_10, .int 0, .ref q_11, .ref q_12, .int (-1)])), (q_1, .inl (cT 0, 800, .inl (fun _ => 0))), (q_2, .inl (cT 0, 800, .inl (fun _ => 0))), (q_3, .inr (2, [.ref u_6, .ref u_7, .int 0])), (u_6, .inl (cT 1, 800, .inr (.inl (fun _ => 0)))), (u_7, .inl (cT 0, 2048, .inl (fun _ => 0))), (q_8, .inl (cT 0, 2400, .inl (fun _ => 0))), (q_9, .inl (cT 0, 10400, .inl (fun _ => 0))), (q_10, .inl (cT 0, 10001, .inl (fun _ => 0))), (q_11, .inl (cT 0, 800, .inl (fun _ => 0))), (q_12, .inl (cT 0, 800, .inl (fun _ => 0)))] := hD
    refine lv_aload_n hx hb dX4_init_96 rfl (lv_at hl 0 rfl) ?_
    refine lv_aload_n hx hb dX4_init_97 rfl (lv_at hl 1 rfl) ?_
    refine va_putF (C := RX4) (T := TX4) (N := 12) (v := .ref al) (ty := .object "BothWays$Beginnings") hx hb hts hi_X4_init_X4 tyX4 tyX4_ok nmX4 hown hK hP hD hS 0 rfl rfl 0 (by decide) (hts (.fieldLink RX4 52 "BothWays$Least" "all" "LBothWays$Beginnings;") (by decide +kernel)) (fun _ h => h) rfl hin rfl (by decide +kernel) rfl rfl (Nat.le_of_ble_eq_true rfl) dX4_init_98 (fun H locs hP hD hS => ?_)
    have hP : va_P g vwCl [(o, .inr (4, [.ref al, .ref q_1, .ref q_2, .ref q_3, .int 0, .ref q_8, .ref q_9, .ref q_10, .int 0, .ref q_11, .ref q_12, .int (-1)])), (q_1, .inl (cT 0, 800, .inl (fun _ => 0))), (q_2, .inl (cT 0, 800, .inl (fun _ => 0))), (q_3, .inr (2, [.ref u_6, .ref u_7, .int 0])), (u_6, .inl (cT 1, 800, .inr (.inl (fun _ => 0)))), (u_7, .inl (cT 0, 2048, .inl (fun _ => 0))), (q_8, .inl (cT 0, 2400, .inl (fun _ => 0))), (q_9, .inl (cT 0, 10400, .inl (fun _ => 0))), (q_10, .inl (cT 0, 10001, .inl (fun _ => 0))), (q_11, .inl (cT 0, 800, .inl (fun _ => 0))), (q_12, .inl (cT 0, 800, .inl (fun _ => 0)))] H := hP
    have hD : va_D A [(o, .inr (4, [.ref al, .ref q_1, .ref q_2, .ref q_3, .int 0, .ref q_8, .ref q_9, .ref q_10, .int 0, .ref q_11, .ref q_12, .int (-1)])), (q_1, .inl (cT 0, 800, .inl (fun _ => 0))), (q_2, .inl (cT 0, 800, .inl (fun _ => 0))), (q_3, .inr (2, [.ref u_6, .ref u_7, .int 0])), (u_6, .inl (cT 1, 800, .inr (.inl (fun _ => 0)))), (u_7, .inl (cT 0, 2048, .inl (fun _ => 0))), (q_8, .inl (cT 0, 2400, .inl (fun _ => 0))), (q_9, .inl (cT 0, 10400, .inl (fun _ => 0))), (q_10, .inl (cT 0, 10001, .inl (fun _ => 0))), (q_11, .inl (cT 0, 800, .inl (fun _ => 0))), (q_12, .inl (cT 0, 800, .inl (fun _ => 0)))] := hD
    exact rt_v hx hb hr hlocks hQ hP hD hS (q_1, q_2, q_3, q_8, q_9, q_10, q_11, q_12, u_6, u_7) [0, 1, 2, 6, 7, 8, 9, 10, 3, 4, 5] dX4_init_101 (Nat.le_of_ble_eq_true rfl) (Nat.le_of_ble_eq_true rfl) rfl (by decide) trivial
  rw [hH, hlo] at hgo
  exact hgo
theorem hi_X4_groupBehind_X4 : ∀ w ∈ wsX40, w ∈ wsX4_groupBehind := fun _ h => List.mem_cons_of_mem _ (List.mem_append_left _ (List.mem_append_right _ h))
theorem yd_X0_next : yX0_next.cls = RX0 ∧ yX0_next.cls ≠ "java/lang/invoke/MethodHandle" ∧ yX0_next.cls ≠ "java/lang/invoke/VarHandle" ∧ (parseMethodDescriptor yX0_next.desc).map (fun d => d.parameters.length) = some 2 := by decide +kernel
abbrev rm_c_L_groupBehind_0 : Room := { frames := 2, cells := 0, slots := 0, locals := 44 }
set_option maxHeartbeats 4000000 in
set_option maxRecDepth 100000 in
theorem c_L_groupBehind_0 (l : Launch) (g : va_G) (cT : Nat → ClassId) (sz : Nat) (o : Nat) (al : Nat) (gr : Nat) (fr : Nat) (lk : Nat) (ln : Nat) (lw : Nat) (lz : Nat) (na : Nat) (nb : Nat) (sz1 : Int32) (sz2 : Int32) (v1 : Int32) (o6 : Nat) (fi : Nat) (nx : Nat) (en : Nat)  : Ctr l g cT sz yX4_groupBehind wsX4_groupBehind rm_c_L_groupBehind_0 [.ref o, .int 0, .int 0] [(o, .inr (4, [.ref al, .ref gr, .ref fr, .ref lk, .int sz1, .ref ln, .ref lw, .ref lz, .int sz2, .ref na, .ref nb, .int v1])), (gr, .inl (cT 0, 800, .inl (fun _ => 0))), (al, .inr (0, [.ref o6, .ref fi, .ref nx, .ref en, .int 0])), (nx, .inl (cT 0, 2400, .inl (fun _ => 0)))] (QI g (fun (r : Int32) (u : Unit) => r = 0) (fun (u : Unit) => [(o, .inr (4, [.ref al, .ref gr, .ref fr, .ref lk, .int sz1, .ref ln, .ref lw, .ref lz, .int sz2, .ref na, .ref nb, .int v1])), (gr, .inl (cT 0, 800, .inl (fun _ => 0))), (al, .inr (0, [.ref o6, .ref fi, .ref nx, .ref en, .int 0])), (nx, .inl (cT 0, 2400, .inl (fun _ => 0)))])) 0 0 := by
  refine mk_ctr (cc := cX4_groupBehind) (maxL := 4) (ret := (some .int)) (by decide) rfl (Nat.le_of_ble_eq_true rfl) ?_
  intro p e s m args below meth c A Q hx hb hr hts hown hlocks hin hml hP hK hD hN hZ hA hS hQ ls hl
  have hl : lv_has ls 4 [(0, .ref o), (1, .int 0), (2, .int 0)] := hl
  obtain ⟨H, hH⟩ : ∃ H : Heap, H = s.heap := ⟨_, rfl⟩
  obtain ⟨locs, hlo⟩ : ∃ x : List Loc, x = [] := ⟨_, rfl⟩
  rw [← hH] at hP
  have hS : va_S A s.heap H locs := by rw [hH, hlo]; exact hS
  have hgo : W p l e rm_c_L_groupBehind_0 s m args below meth c H locs 0 0 Q (F0 m 0 ls []) := by
    clear hH hlo
    refine lv_aload_n hx hb dX4_groupBehind_0 rfl (lv_at hl 0 rfl) ?_
    refine va_get (C := RX4) (T := TX4) (N := 12) (v := .ref al) hx hb hts hi_X4_groupBehind_X4 hown hK hP 0 rfl rfl 0 (by decide) (hts (.fieldLink RX4 52 "BothWays$Least" "all" "LBothWays$Beginnings;") (by decide +kernel)) (fun _ h => h) rfl dX4_groupBehind_1 ?_
    refine lv_iload_n hx hb dX4_groupBehind_4 rfl (lv_at hl 1 rfl) ?_
    refine lv_iload_n hx hb dX4_groupBehind_5 rfl (lv_at hl 2 rfl) ?_
    refine cj_i 0 0 (wr := [(o, .inr (4, [.ref al, .ref gr, .ref fr, .ref lk, .int sz1, .ref ln, .ref lw, .ref lz, .int sz2, .ref na, .ref nb, .int v1])), (gr, .inl (cT 0, 800, .inl (fun _ => 0)))]) (va_runV (As := [.int 0, .int 0]) (rest := []) ⟨hx, hb, hml, hown, hts⟩ (c_B_next_0 l g cT H.size al o6 fi nx en) (cwV 2 hts gX4_groupBehind_X0_next rfl rfl rfl yd_X0_next ⟨(Nat.le_of_ble_eq_true rfl), (Nat.le_of_ble_eq_true rfl)⟩) (preV (wc := [(al, .inr (0, [.ref o6, .ref fi, .ref nx, .ref en, .int 0])), (nx, .inl (cT 0, 2400, .inl (fun _ => 0)))]) rfl hP hD hK hN hZ hS hA [2, 3] rfl (by decide) (ci := 0) (q0 := 2) rfl rfl) rfl rfl hl.1 rfl (lv_room (Nat.le_of_ble_eq_true rfl)) dX4_groupBehind_6 ⟨(Nat.le_of_ble_eq_true rfl), (Nat.le_of_ble_eq_true rfl)⟩) hP hD hS hA [2, 3] [0, 1] rfl rfl (by decide) (by decide) (Nat.le_of_ble_eq_true rfl) (Nat.le_of_ble_eq_true rfl) (fun r_1 u H locs h_2 hP hD hS => ?_)
    have hP : va_P g vwCl [(o, .inr (4, [.ref al, .ref gr, .ref fr, .ref lk, .int sz1, .ref ln, .ref lw, .ref lz, .int sz2, .ref na, .ref nb, .int v1])), (gr, .inl (cT 0, 800, .inl (fun _ => 0))), (al, .inr (0, [.ref o6, .ref fi, .ref nx, .ref en, .int 0])), (nx, .inl (cT 0, 2400, .inl (fun _ => 0)))] H := hP
    have hD : va_D A [(o, .inr (4, [.ref al, .ref gr, .ref fr, .ref lk, .int sz1, .ref ln, .ref lw, .ref lz, .int sz2, .ref na, .ref nb, .int v1])), (gr, .inl (cT 0, 800, .inl (fun _ => 0))), (al, .inr (0, [.ref o6, .ref fi, .ref nx, .ref en, .int 0])), (nx, .inl (cT 0, 2400, .inl (fun _ => 0)))] := hD
    subst h_2
    refine lv_istore_n (lv' := [(3, .int 0), (0, .ref o), (1, .int 0), (2, .int 0)]) hx hb dX4_groupBehind_9 rfl hl (by decide) rfl (fun ls hl => ?_)
    refine lv_iload_n hx hb dX4_groupBehind_10 rfl (lv_at hl 0 rfl) ?_
    refine if_lt_f hx hb dX4_groupBehind_11 30 (by decide) (by decide) ?_
    refine lv_iload_n hx hb dX4_groupBehind_14 rfl (lv_at hl 0 rfl) ?_
    refine lv_sipush (v := 800) hx hb dX4_groupBehind_15 (by decide) ?_
    refine icmp_ge_f hx hb dX4_groupBehind_18 30 (by decide) (by decide) ?_
    refine lv_aload_n hx hb dX4_groupBehind_21 rfl (lv_at hl 1 rfl) ?_
    refine va_get (C := RX4) (T := TX4) (N := 12) (v := .ref gr) hx hb hts hi_X4_groupBehind_X4 hown hK hP 0 rfl rfl 1 (by decide) (hts (.fieldLink RX4 9 "BothWays$Least" "groups" "[I") (by decide +kernel)) (fun _ h => h) rfl dX4_groupBehind_22 ?_
    refine lv_iload_n hx hb dX4_groupBehind_25 rfl (lv_at hl 0 rfl) ?_
    refine w_iald (v := 0) hx hb hK hP 1 rfl dX4_groupBehind_26 (inC (by decide)) rfl ?_
    refine lv_goto (tgt := 31) hx hb dX4_groupBehind_27 (by decide) ?_
    exact rt_i hx hb hr hlocks hQ hP hD hS () [0, 1, 2, 3] dX4_groupBehind_31 rfl (Nat.le_of_ble_eq_true rfl) (Nat.le_of_ble_eq_true rfl) rfl (by decide) rfl
  rw [hH, hlo] at hgo
  exact hgo
abbrev rm_c_L_groupBehind_1 : Room := { frames := 2, cells := 0, slots := 0, locals := 44 }
set_option maxHeartbeats 4000000 in
set_option maxRecDepth 100000 in
theorem c_L_groupBehind_1 (l : Launch) (g : va_G) (cT : Nat → ClassId) (sz : Nat) (o : Nat) (al : Nat) (gr : Nat) (fr : Nat) (lk : Nat) (ln : Nat) (lw : Nat) (lz : Nat) (na : Nat) (nb : Nat) (sz1 : Int32) (sz2 : Int32) (v1 : Int32) (o6 : Nat) (fi : Nat) (nx : Nat) (en : Nat)  : Ctr l g cT sz yX4_groupBehind wsX4_groupBehind rm_c_L_groupBehind_1 [.ref o, .int 0, .int 1] [(o, .inr (4, [.ref al, .ref gr, .ref fr, .ref lk, .int sz1, .ref ln, .ref lw, .ref lz, .int sz2, .ref na, .ref nb, .int v1])), (gr, .inl (cT 0, 800, .inl (fun _ => 0))), (al, .inr (0, [.ref o6, .ref fi, .ref nx, .ref en, .int 0])), (nx, .inl (cT 0, 2400, .inl (fun _ => 0)))] (QI g (fun (r : Int32) (u : Unit) => r = 0) (fun (u : Unit) => [(o, .inr (4, [.ref al, .ref gr, .ref fr, .ref lk, .int sz1, .ref ln, .ref lw, .ref lz, .int sz2, .ref na, .ref nb, .int v1])), (gr, .inl (cT 0, 800, .inl (fun _ => 0))), (al, .inr (0, [.ref o6, .ref fi, .ref nx, .ref en, .int 0])), (nx, .inl (cT 0, 2400, .inl (fun _ => 0)))])) 0 0 := by
  refine mk_ctr (cc := cX4_groupBehind) (maxL := 4) (ret := (some .int)) (by decide) rfl (Nat.le_of_ble_eq_true rfl) ?_
  intro p e s m args below meth c A Q hx hb hr hts hown hlocks hin hml hP hK hD hN hZ hA hS hQ ls hl
  have hl : lv_has ls 4 [(0, .ref o), (1, .int 0), (2, .int 1)] := hl
  obtain ⟨H, hH⟩ : ∃ H : Heap, H = s.heap := ⟨_, rfl⟩
  obtain ⟨locs, hlo⟩ : ∃ x : List Loc, x = [] := ⟨_, rfl⟩
  rw [← hH] at hP
  have hS : va_S A s.heap H locs := by rw [hH, hlo]; exact hS
  have hgo : W p l e rm_c_L_groupBehind_1 s m args below meth c H locs 0 0 Q (F0 m 0 ls []) := by
    clear hH hlo
    refine lv_aload_n hx hb dX4_groupBehind_0 rfl (lv_at hl 0 rfl) ?_
    refine va_get (C := RX4) (T := TX4) (N := 12) (v := .ref al) hx hb hts hi_X4_groupBehind_X4 hown hK hP 0 rfl rfl 0 (by decide) (hts (.fieldLink RX4 52 "BothWays$Least" "all" "LBothWays$Beginnings;") (by decide +kernel)) (fun _ h => h) rfl dX4_groupBehind_1 ?_
    refine lv_iload_n hx hb dX4_groupBehind_4 rfl (lv_at hl 1 rfl) ?_
    refine lv_iload_n hx hb dX4_groupBehind_5 rfl (lv_at hl 2 rfl) ?_
    refine cj_i 0 0 (wr := [(o, .inr (4, [.ref al, .ref gr, .ref fr, .ref lk, .int sz1, .ref ln, .ref lw, .ref lz, .int sz2, .ref na, .ref nb, .int v1])), (gr, .inl (cT 0, 800, .inl (fun _ => 0)))]) (va_runV (As := [.int 0, .int 1]) (rest := []) ⟨hx, hb, hml, hown, hts⟩ (c_B_next_1 l g cT H.size al o6 fi nx en) (cwV 2 hts gX4_groupBehind_X0_next rfl rfl rfl yd_X0_next ⟨(Nat.le_of_ble_eq_true rfl), (Nat.le_of_ble_eq_true rfl)⟩) (preV (wc := [(al, .inr (0, [.ref o6, .ref fi, .ref nx, .ref en, .int 0])), (nx, .inl (cT 0, 2400, .inl (fun _ => 0)))]) rfl hP hD hK hN hZ hS hA [2, 3] rfl (by decide) (ci := 0) (q0 := 2) rfl rfl) rfl rfl hl.1 rfl (lv_room (Nat.le_of_ble_eq_true rfl)) dX4_groupBehind_6 ⟨(Nat.le_of_ble_eq_true rfl), (Nat.le_of_ble_eq_true rfl)⟩) hP hD hS hA [2, 3] [0, 1] rfl rfl (by decide) (by decide) (Nat.le_of_ble_eq_true rfl) (Nat.le_of_ble_eq_true rfl) (fun r_1 u H locs h_2 hP hD hS => ?_)
    have hP : va_P g vwCl [(o, .inr (4, [.ref al, .ref gr, .ref fr, .ref lk, .int sz1, .ref ln, .ref lw, .ref lz, .int sz2, .ref na, .ref nb, .int v1])), (gr, .inl (cT 0, 800, .inl (fun _ => 0))), (al, .inr (0, [.ref o6, .ref fi, .ref nx, .ref en, .int 0])), (nx, .inl (cT 0, 2400, .inl (fun _ => 0)))] H := hP
    have hD : va_D A [(o, .inr (4, [.ref al, .ref gr, .ref fr, .ref lk, .int sz1, .ref ln, .ref lw, .ref lz, .int sz2, .ref na, .ref nb, .int v1])), (gr, .inl (cT 0, 800, .inl (fun _ => 0))), (al, .inr (0, [.ref o6, .ref fi, .ref nx, .ref en, .int 0])), (nx, .inl (cT 0, 2400, .inl (fun _ => 0)))] := hD
    subst h_2
    refine lv_istore_n (lv' := [(3, .int 0), (0, .ref o), (1, .int 0), (2, .int 1)]) hx hb dX4_groupBehind_9 rfl hl (by decide) rfl (fun ls hl => ?_)
    refine lv_iload_n hx hb dX4_groupBehind_10 rfl (lv_at hl 0 rfl) ?_
    refine if_lt_f hx hb dX4_groupBehind_11 30 (by decide) (by decide) ?_
    refine lv_iload_n hx hb dX4_groupBehind_14 rfl (lv_at hl 0 rfl) ?_
    refine lv_sipush (v := 800) hx hb dX4_groupBehind_15 (by decide) ?_
    refine icmp_ge_f hx hb dX4_groupBehind_18 30 (by decide) (by decide) ?_
    refine lv_aload_n hx hb dX4_groupBehind_21 rfl (lv_at hl 1 rfl) ?_
    refine va_get (C := RX4) (T := TX4) (N := 12) (v := .ref gr) hx hb hts hi_X4_groupBehind_X4 hown hK hP 0 rfl rfl 1 (by decide) (hts (.fieldLink RX4 9 "BothWays$Least" "groups" "[I") (by decide +kernel)) (fun _ h => h) rfl dX4_groupBehind_22 ?_
    refine lv_iload_n hx hb dX4_groupBehind_25 rfl (lv_at hl 0 rfl) ?_
    refine w_iald (v := 0) hx hb hK hP 1 rfl dX4_groupBehind_26 (inC (by decide)) rfl ?_
    refine lv_goto (tgt := 31) hx hb dX4_groupBehind_27 (by decide) ?_
    exact rt_i hx hb hr hlocks hQ hP hD hS () [0, 1, 2, 3] dX4_groupBehind_31 rfl (Nat.le_of_ble_eq_true rfl) (Nat.le_of_ble_eq_true rfl) rfl (by decide) rfl
  rw [hH, hlo] at hgo
  exact hgo
abbrev rm_c_L_groupBehind_2 : Room := { frames := 2, cells := 0, slots := 0, locals := 44 }
set_option maxHeartbeats 4000000 in
set_option maxRecDepth 100000 in
theorem c_L_groupBehind_2 (l : Launch) (g : va_G) (cT : Nat → ClassId) (sz : Nat) (o : Nat) (al : Nat) (gr : Nat) (fr : Nat) (lk : Nat) (ln : Nat) (lw : Nat) (lz : Nat) (na : Nat) (nb : Nat) (sz1 : Int32) (sz2 : Int32) (v1 : Int32) (o6 : Nat) (fi : Nat) (nx : Nat) (en : Nat)  : Ctr l g cT sz yX4_groupBehind wsX4_groupBehind rm_c_L_groupBehind_2 [.ref o, .int 0, .int 2] [(o, .inr (4, [.ref al, .ref gr, .ref fr, .ref lk, .int sz1, .ref ln, .ref lw, .ref lz, .int sz2, .ref na, .ref nb, .int v1])), (gr, .inl (cT 0, 800, .inl (fun _ => 0))), (al, .inr (0, [.ref o6, .ref fi, .ref nx, .ref en, .int 0])), (nx, .inl (cT 0, 2400, .inl (fun _ => 0)))] (QI g (fun (r : Int32) (u : Unit) => r = 0) (fun (u : Unit) => [(o, .inr (4, [.ref al, .ref gr, .ref fr, .ref lk, .int sz1, .ref ln, .ref lw, .ref lz, .int sz2, .ref na, .ref nb, .int v1])), (gr, .inl (cT 0, 800, .inl (fun _ => 0))), (al, .inr (0, [.ref o6, .ref fi, .ref nx, .ref en, .int 0])), (nx, .inl (cT 0, 2400, .inl (fun _ => 0)))])) 0 0 := by
  refine mk_ctr (cc := cX4_groupBehind) (maxL := 4) (ret := (some .int)) (by decide) rfl (Nat.le_of_ble_eq_true rfl) ?_
  intro p e s m args below meth c A Q hx hb hr hts hown hlocks hin hml hP hK hD hN hZ hA hS hQ ls hl
  have hl : lv_has ls 4 [(0, .ref o), (1, .int 0), (2, .int 2)] := hl
  obtain ⟨H, hH⟩ : ∃ H : Heap, H = s.heap := ⟨_, rfl⟩
  obtain ⟨locs, hlo⟩ : ∃ x : List Loc, x = [] := ⟨_, rfl⟩
  rw [← hH] at hP
  have hS : va_S A s.heap H locs := by rw [hH, hlo]; exact hS
  have hgo : W p l e rm_c_L_groupBehind_2 s m args below meth c H locs 0 0 Q (F0 m 0 ls []) := by
    clear hH hlo
    refine lv_aload_n hx hb dX4_groupBehind_0 rfl (lv_at hl 0 rfl) ?_
    refine va_get (C := RX4) (T := TX4) (N := 12) (v := .ref al) hx hb hts hi_X4_groupBehind_X4 hown hK hP 0 rfl rfl 0 (by decide) (hts (.fieldLink RX4 52 "BothWays$Least" "all" "LBothWays$Beginnings;") (by decide +kernel)) (fun _ h => h) rfl dX4_groupBehind_1 ?_
    refine lv_iload_n hx hb dX4_groupBehind_4 rfl (lv_at hl 1 rfl) ?_
    refine lv_iload_n hx hb dX4_groupBehind_5 rfl (lv_at hl 2 rfl) ?_
    refine cj_i 0 0 (wr := [(o, .inr (4, [.ref al, .ref gr, .ref fr, .ref lk, .int sz1, .ref ln, .ref lw, .ref lz, .int sz2, .ref na, .ref nb, .int v1])), (gr, .inl (cT 0, 800, .inl (fun _ => 0)))]) (va_runV (As := [.int 0, .int 2]) (rest := []) ⟨hx, hb, hml, hown, hts⟩ (c_B_next_2 l g cT H.size al o6 fi nx en) (cwV 2 hts gX4_groupBehind_X0_next rfl rfl rfl yd_X0_next ⟨(Nat.le_of_ble_eq_true rfl), (Nat.le_of_ble_eq_true rfl)⟩) (preV (wc := [(al, .inr (0, [.ref o6, .ref fi, .ref nx, .ref en, .int 0])), (nx, .inl (cT 0, 2400, .inl (fun _ => 0)))]) rfl hP hD hK hN hZ hS hA [2, 3] rfl (by decide) (ci := 0) (q0 := 2) rfl rfl) rfl rfl hl.1 rfl (lv_room (Nat.le_of_ble_eq_true rfl)) dX4_groupBehind_6 ⟨(Nat.le_of_ble_eq_true rfl), (Nat.le_of_ble_eq_true rfl)⟩) hP hD hS hA [2, 3] [0, 1] rfl rfl (by decide) (by decide) (Nat.le_of_ble_eq_true rfl) (Nat.le_of_ble_eq_true rfl) (fun r_1 u H locs h_2 hP hD hS => ?_)
    have hP : va_P g vwCl [(o, .inr (4, [.ref al, .ref gr, .ref fr, .ref lk, .int sz1, .ref ln, .ref lw, .ref lz, .int sz2, .ref na, .ref nb, .int v1])), (gr, .inl (cT 0, 800, .inl (fun _ => 0))), (al, .inr (0, [.ref o6, .ref fi, .ref nx, .ref en, .int 0])), (nx, .inl (cT 0, 2400, .inl (fun _ => 0)))] H := hP
    have hD : va_D A [(o, .inr (4, [.ref al, .ref gr, .ref fr, .ref lk, .int sz1, .ref ln, .ref lw, .ref lz, .int sz2, .ref na, .ref nb, .int v1])), (gr, .inl (cT 0, 800, .inl (fun _ => 0))), (al, .inr (0, [.ref o6, .ref fi, .ref nx, .ref en, .int 0])), (nx, .inl (cT 0, 2400, .inl (fun _ => 0)))] := hD
    subst h_2
    refine lv_istore_n (lv' := [(3, .int 0), (0, .ref o), (1, .int 0), (2, .int 2)]) hx hb dX4_groupBehind_9 rfl hl (by decide) rfl (fun ls hl => ?_)
    refine lv_iload_n hx hb dX4_groupBehind_10 rfl (lv_at hl 0 rfl) ?_
    refine if_lt_f hx hb dX4_groupBehind_11 30 (by decide) (by decide) ?_
    refine lv_iload_n hx hb dX4_groupBehind_14 rfl (lv_at hl 0 rfl) ?_
    refine lv_sipush (v := 800) hx hb dX4_groupBehind_15 (by decide) ?_
    refine icmp_ge_f hx hb dX4_groupBehind_18 30 (by decide) (by decide) ?_
    refine lv_aload_n hx hb dX4_groupBehind_21 rfl (lv_at hl 1 rfl) ?_
    refine va_get (C := RX4) (T := TX4) (N := 12) (v := .ref gr) hx hb hts hi_X4_groupBehind_X4 hown hK hP 0 rfl rfl 1 (by decide) (hts (.fieldLink RX4 9 "BothWays$Least" "groups" "[I") (by decide +kernel)) (fun _ h => h) rfl dX4_groupBehind_22 ?_
    refine lv_iload_n hx hb dX4_groupBehind_25 rfl (lv_at hl 0 rfl) ?_
    refine w_iald (v := 0) hx hb hK hP 1 rfl dX4_groupBehind_26 (inC (by decide)) rfl ?_
    refine lv_goto (tgt := 31) hx hb dX4_groupBehind_27 (by decide) ?_
    exact rt_i hx hb hr hlocks hQ hP hD hS () [0, 1, 2, 3] dX4_groupBehind_31 rfl (Nat.le_of_ble_eq_true rfl) (Nat.le_of_ble_eq_true rfl) rfl (by decide) rfl
  rw [hH, hlo] at hgo
  exact hgo
theorem hi_X4_partBy_X4 : ∀ w ∈ wsX40, w ∈ wsX4_partBy := fun _ h => List.mem_cons_of_mem _ (List.mem_append_left _ (List.mem_append_left _ (List.mem_append_right _ h)))
theorem yd_X4_groupBehind : yX4_groupBehind.cls = RX4 ∧ yX4_groupBehind.cls ≠ "java/lang/invoke/MethodHandle" ∧ yX4_groupBehind.cls ≠ "java/lang/invoke/VarHandle" ∧ (parseMethodDescriptor yX4_groupBehind.desc).map (fun d => d.parameters.length) = some 2 := by decide +kernel
abbrev rm_c_L_partBy_0 : Room := { frames := 3, cells := 0, slots := 0, locals := 67 }
set_option maxHeartbeats 4000000 in
set_option maxRecDepth 100000 in
theorem c_L_partBy_0 (l : Launch) (g : va_G) (cT : Nat → ClassId) (sz : Nat) (o : Nat) (al : Nat) (gr : Nat) (fr : Nat) (lk : Nat) (ln : Nat) (lw : Nat) (lz : Nat) (na : Nat) (nb : Nat) (ka : Nat) (kb : Nat) (sz1 : Int32) (sz2 : Int32) (v1 : Int32) (o6 : Nat) (fi : Nat) (nx : Nat) (en : Nat)  : Ctr l g cT sz yX4_partBy wsX4_partBy rm_c_L_partBy_0 [.ref o, .int 0, .int 1] [(o, .inr (4, [.ref al, .ref gr, .ref fr, .ref lk, .int sz1, .ref ln, .ref lw, .ref lz, .int sz2, .ref na, .ref nb, .int v1])), (gr, .inl (cT 0, 800, .inl (fun _ => 0))), (fr, .inl (cT 0, 800, .inl (fun _ => 0))), (al, .inr (0, [.ref o6, .ref fi, .ref nx, .ref en, .int 0])), (nx, .inl (cT 0, 2400, .inl (fun _ => 0))), (lk, .inr (2, [.ref ka, .ref kb, .int 1])), (ka, .inl (cT 1, 800, .inr (.inl (fun _ => 0)))), (kb, .inl (cT 0, 2048, .inl (upd (fun _ => 0) 0 1)))] (QV g (fun (u : Unit) => True) (fun (u : Unit) => [(o, .inr (4, [.ref al, .ref gr, .ref fr, .ref lk, .int sz1, .ref ln, .ref lw, .ref lz, .int sz2, .ref na, .ref nb, .int v1])), (gr, .inl (cT 0, 800, .inl (fun _ => 0))), (fr, .inl (cT 0, 800, .inl (fun _ => 0))), (al, .inr (0, [.ref o6, .ref fi, .ref nx, .ref en, .int 0])), (nx, .inl (cT 0, 2400, .inl (fun _ => 0))), (lk, .inr (2, [.ref ka, .ref kb, .int 1])), (ka, .inl (cT 1, 800, .inr (.inl (fun _ => 0)))), (kb, .inl (cT 0, 2048, .inl (upd (fun _ => 0) 0 1)))])) 0 0 := by
  refine mk_ctr (cc := cX4_partBy) (maxL := 6) (ret := none) (by decide) rfl (Nat.le_of_ble_eq_true rfl) ?_
  intro p e s m args below meth c A Q hx hb hr hts hown hlocks hin hml hP hK hD hN hZ hA hS hQ ls hl
  have hl : lv_has ls 6 [(0, .ref o), (1, .int 0), (2, .int 1)] := hl
  obtain ⟨H, hH⟩ : ∃ H : Heap, H = s.heap := ⟨_, rfl⟩
  obtain ⟨locs, hlo⟩ : ∃ x : List Loc, x = [] := ⟨_, rfl⟩
  rw [← hH] at hP
  have hS : va_S A s.heap H locs := by rw [hH, hlo]; exact hS
  have hgo : W p l e rm_c_L_partBy_0 s m args below meth c H locs 0 0 Q (F0 m 0 ls []) := by
    clear hH hlo
    refine lv_aload_n hx hb dX4_partBy_0 rfl (lv_at hl 0 rfl) ?_
    refine va_get (C := RX4) (T := TX4) (N := 12) (v := .ref lk) hx hb hts hi_X4_partBy_X4 hown hK hP 0 rfl rfl 3 (by decide) (hts (.fieldLink RX4 23 "BothWays$Least" "keys" "LBothWays$Keys;") (by decide +kernel)) (fun _ h => h) rfl dX4_partBy_1 ?_
    refine cj_v 0 0 (wr := [(o, .inr (4, [.ref al, .ref gr, .ref fr, .ref lk, .int sz1, .ref ln, .ref lw, .ref lz, .int sz2, .ref na, .ref nb, .int v1])), (gr, .inl (cT 0, 800, .inl (fun _ => 0))), (fr, .inl (cT 0, 800, .inl (fun _ => 0))), (al, .inr (0, [.ref o6, .ref fi, .ref nx, .ref en, .int 0])), (nx, .inl (cT 0, 2400, .inl (fun _ => 0))), (ka, .inl (cT 1, 800, .inr (.inl (fun _ => 0))))]) (va_runV (As := []) (rest := []) ⟨hx, hb, hml, hown, hts⟩ (c_K_clear l g cT H.size lk ka kb 1 2048 (upd (fun _ => 0) 0 1) (by decide)) (cwV 0 hts gX4_partBy_X2_clear rfl rfl rfl yd_X2_clear ⟨(Nat.le_of_ble_eq_true rfl), (Nat.le_of_ble_eq_true rfl)⟩) (preV (wc := [(lk, .inr (2, [.ref ka, .ref kb, .int 1])), (kb, .inl (cT 0, 2048, .inl (upd (fun _ => 0) 0 1)))]) rfl hP hD hK hN hZ hS hA [5, 7] rfl (by decide) (ci := 2) (q0 := 5) rfl rfl) rfl rfl hl.1 rfl (lv_room (Nat.le_of_ble_eq_true rfl)) dX4_partBy_4 ⟨(Nat.le_of_ble_eq_true rfl), (Nat.le_of_ble_eq_true rfl)⟩) hP hD hS hA [5, 7] [0, 1, 2, 3, 4, 6] rfl rfl (by decide) (by decide) (Nat.le_of_ble_eq_true rfl) (Nat.le_of_ble_eq_true rfl) (fun u H locs h_2 hP hD hS => ?_)
    have hP : va_P g vwCl [(o, .inr (4, [.ref al, .ref gr, .ref fr, .ref lk, .int sz1, .ref ln, .ref lw, .ref lz, .int sz2, .ref na, .ref nb, .int v1])), (gr, .inl (cT 0, 800, .inl (fun _ => 0))), (fr, .inl (cT 0, 800, .inl (fun _ => 0))), (al, .inr (0, [.ref o6, .ref fi, .ref nx, .ref en, .int 0])), (nx, .inl (cT 0, 2400, .inl (fun _ => 0))), (ka, .inl (cT 1, 800, .inr (.inl (fun _ => 0)))), (lk, .inr (2, [.ref ka, .ref kb, .int 0])), (kb, .inl (cT 0, 2048, .inl (fun _ => 0)))] H := hP
    have hD : va_D A [(o, .inr (4, [.ref al, .ref gr, .ref fr, .ref lk, .int sz1, .ref ln, .ref lw, .ref lz, .int sz2, .ref na, .ref nb, .int v1])), (gr, .inl (cT 0, 800, .inl (fun _ => 0))), (fr, .inl (cT 0, 800, .inl (fun _ => 0))), (al, .inr (0, [.ref o6, .ref fi, .ref nx, .ref en, .int 0])), (nx, .inl (cT 0, 2400, .inl (fun _ => 0))), (ka, .inl (cT 1, 800, .inr (.inl (fun _ => 0)))), (lk, .inr (2, [.ref ka, .ref kb, .int 0])), (kb, .inl (cT 0, 2048, .inl (fun _ => 0)))] := hD
    refine lv_iconst (v := 0) hx hb dX4_partBy_7 (by decide) ?_
    refine lv_istore_n (lv' := [(3, .int 0), (0, .ref o), (1, .int 0), (2, .int 1)]) hx hb dX4_partBy_8 rfl hl (by decide) rfl (fun ls hl => ?_)
    refine lv_iload_n hx hb dX4_partBy_9 rfl (lv_at hl 0 rfl) ?_
    refine lv_iload_n hx hb dX4_partBy_10 rfl (lv_at hl 3 rfl) ?_
    refine icmp_ge_f hx hb dX4_partBy_11 67 (by decide) (by decide) ?_
    refine lv_iload_n hx hb dX4_partBy_14 rfl (lv_at hl 0 rfl) ?_
    refine lv_sipush (v := 800) hx hb dX4_partBy_15 (by decide) ?_
    refine icmp_ge_f hx hb dX4_partBy_18 67 (by decide) (by decide) ?_
    refine lv_aload_n hx hb dX4_partBy_21 rfl (lv_at hl 1 rfl) ?_
    refine va_get (C := RX4) (T := TX4) (N := 12) (v := .ref gr) hx hb hts hi_X4_partBy_X4 hown hK hP 0 rfl rfl 1 (by decide) (hts (.fieldLink RX4 9 "BothWays$Least" "groups" "[I") (by decide +kernel)) (fun _ h => h) rfl dX4_partBy_22 ?_
    refine lv_iload_n hx hb dX4_partBy_25 rfl (lv_at hl 0 rfl) ?_
    refine w_iald (v := 0) hx hb hK hP 1 rfl dX4_partBy_26 (inC (by decide)) rfl ?_
    refine lv_i2l (v := 0) hx hb dX4_partBy_27 (by decide) ?_
    refine lv_ldc2 (v := 800) hx hb hown (hts (.constantLong RX4 115 (800)) (by decide +kernel)) dX4_partBy_28 ?_
    refine w_lmul (v := 0) hx hb dX4_partBy_31 (by decide) ?_
    refine lv_aload_n hx hb dX4_partBy_32 rfl (lv_at hl 1 rfl) ?_
    refine lv_iload_n hx hb dX4_partBy_33 rfl (lv_at hl 0 rfl) ?_
    refine lv_iload_n hx hb dX4_partBy_34 rfl (lv_at hl 2 rfl) ?_
    refine cj_i 0 0 (wr := [(fr, .inl (cT 0, 800, .inl (fun _ => 0))), (ka, .inl (cT 1, 800, .inr (.inl (fun _ => 0)))), (lk, .inr (2, [.ref ka, .ref kb, .int 0])), (kb, .inl (cT 0, 2048, .inl (fun _ => 0)))]) (va_runV (As := [.int 0, .int 0]) (rest := [.long 0]) ⟨hx, hb, hml, hown, hts⟩ (c_L_groupBehind_0 l g cT H.size o al gr fr lk ln lw lz na nb sz1 sz2 v1 o6 fi nx en) (cwV 2 hts gX4_partBy_X4_groupBehind rfl rfl rfl yd_X4_groupBehind ⟨(Nat.le_of_ble_eq_true rfl), (Nat.le_of_ble_eq_true rfl)⟩) (preV (wc := [(o, .inr (4, [.ref al, .ref gr, .ref fr, .ref lk, .int sz1, .ref ln, .ref lw, .ref lz, .int sz2, .ref na, .ref nb, .int v1])), (gr, .inl (cT 0, 800, .inl (fun _ => 0))), (al, .inr (0, [.ref o6, .ref fi, .ref nx, .ref en, .int 0])), (nx, .inl (cT 0, 2400, .inl (fun _ => 0)))]) rfl hP hD hK hN hZ hS hA [0, 1, 3, 4] rfl (by decide) (ci := 4) (q0 := 0) rfl rfl) rfl rfl hl.1 rfl (lv_room (Nat.le_of_ble_eq_true rfl)) dX4_partBy_35 ⟨(Nat.le_of_ble_eq_true rfl), (Nat.le_of_ble_eq_true rfl)⟩) hP hD hS hA [0, 1, 3, 4] [2, 5, 6, 7] rfl rfl (by decide) (by decide) (Nat.le_of_ble_eq_true rfl) (Nat.le_of_ble_eq_true rfl) (fun r_3 u H locs h_4 hP hD hS => ?_)
    have hP : va_P g vwCl [(fr, .inl (cT 0, 800, .inl (fun _ => 0))), (ka, .inl (cT 1, 800, .inr (.inl (fun _ => 0)))), (lk, .inr (2, [.ref ka, .ref kb, .int 0])), (kb, .inl (cT 0, 2048, .inl (fun _ => 0))), (o, .inr (4, [.ref al, .ref gr, .ref fr, .ref lk, .int sz1, .ref ln, .ref lw, .ref lz, .int sz2, .ref na, .ref nb, .int v1])), (gr, .inl (cT 0, 800, .inl (fun _ => 0))), (al, .inr (0, [.ref o6, .ref fi, .ref nx, .ref en, .int 0])), (nx, .inl (cT 0, 2400, .inl (fun _ => 0)))] H := hP
    have hD : va_D A [(fr, .inl (cT 0, 800, .inl (fun _ => 0))), (ka, .inl (cT 1, 800, .inr (.inl (fun _ => 0)))), (lk, .inr (2, [.ref ka, .ref kb, .int 0])), (kb, .inl (cT 0, 2048, .inl (fun _ => 0))), (o, .inr (4, [.ref al, .ref gr, .ref fr, .ref lk, .int sz1, .ref ln, .ref lw, .ref lz, .int sz2, .ref na, .ref nb, .int v1])), (gr, .inl (cT 0, 800, .inl (fun _ => 0))), (al, .inr (0, [.ref o6, .ref fi, .ref nx, .ref en, .int 0])), (nx, .inl (cT 0, 2400, .inl (fun _ => 0)))] := hD
    subst h_4
    refine lv_i2l (v := 0) hx hb dX4_partBy_38 (by decide) ?_
    refine w_ladd (v := 0) hx hb dX4_partBy_39 (by decide) ?_
    refine lv_lstore (lv' := [(4, .long 0), (3, .int 0), (0, .ref o), (1, .int 0), (2, .int 1)]) hx hb dX4_partBy_40 hl (by decide) rfl (fun ls hl => ?_)
    refine lv_aload_n hx hb dX4_partBy_42 rfl (lv_at hl 2 rfl) ?_
    refine va_get (C := RX4) (T := TX4) (N := 12) (v := .ref fr) hx hb hts hi_X4_partBy_X4 hown hK hP 4 rfl rfl 2 (by decide) (hts (.fieldLink RX4 15 "BothWays$Least" "fresh" "[I") (by decide +kernel)) (fun _ h => h) rfl dX4_partBy_43 ?_
    refine lv_iload_n hx hb dX4_partBy_46 rfl (lv_at hl 1 rfl) ?_
    refine lv_iconst (v := 0) hx hb dX4_partBy_47 (by decide) ?_
    refine lv_aload_n hx hb dX4_partBy_48 rfl (lv_at hl 2 rfl) ?_
    refine va_get (C := RX4) (T := TX4) (N := 12) (v := .ref lk) hx hb hts hi_X4_partBy_X4 hown hK hP 4 rfl rfl 3 (by decide) (hts (.fieldLink RX4 23 "BothWays$Least" "keys" "LBothWays$Keys;") (by decide +kernel)) (fun _ h => h) rfl dX4_partBy_49 ?_
    refine lv_lload hx hb dX4_partBy_52 (lv_at hl 0 rfl) ?_
    refine cj_i 0 0 (wr := [(fr, .inl (cT 0, 800, .inl (fun _ => 0))), (o, .inr (4, [.ref al, .ref gr, .ref fr, .ref lk, .int sz1, .ref ln, .ref lw, .ref lz, .int sz2, .ref na, .ref nb, .int v1])), (gr, .inl (cT 0, 800, .inl (fun _ => 0))), (al, .inr (0, [.ref o6, .ref fi, .ref nx, .ref en, .int 0])), (nx, .inl (cT 0, 2400, .inl (fun _ => 0)))]) (va_runV (As := [.long 0]) (rest := [.int 0, .int 0, .ref fr]) ⟨hx, hb, hml, hown, hts⟩ (c_K_indexWith_800_0e l g cT H.size lk ka kb) (cwV 1 hts gX4_partBy_X2_indexWith rfl rfl rfl yd_X2_indexWith ⟨(Nat.le_of_ble_eq_true rfl), (Nat.le_of_ble_eq_true rfl)⟩) (preV (wc := [(lk, .inr (2, [.ref ka, .ref kb, .int 0])), (ka, .inl (cT 1, 800, .inr (.inl (fun _ => 0)))), (kb, .inl (cT 0, 2048, .inl (fun _ => 0)))]) rfl hP hD hK hN hZ hS hA [2, 1, 3] rfl (by decide) (ci := 2) (q0 := 2) rfl rfl) rfl rfl hl.1 rfl (lv_room (Nat.le_of_ble_eq_true rfl)) dX4_partBy_54 ⟨(Nat.le_of_ble_eq_true rfl), (Nat.le_of_ble_eq_true rfl)⟩) hP hD hS hA [2, 1, 3] [0, 4, 5, 6, 7] rfl rfl (by decide) (by decide) (Nat.le_of_ble_eq_true rfl) (Nat.le_of_ble_eq_true rfl) (fun r_5 u H locs h_6 hP hD hS => ?_)
    have hP : va_P g vwCl [(fr, .inl (cT 0, 800, .inl (fun _ => 0))), (o, .inr (4, [.ref al, .ref gr, .ref fr, .ref lk, .int sz1, .ref ln, .ref lw, .ref lz, .int sz2, .ref na, .ref nb, .int v1])), (gr, .inl (cT 0, 800, .inl (fun _ => 0))), (al, .inr (0, [.ref o6, .ref fi, .ref nx, .ref en, .int 0])), (nx, .inl (cT 0, 2400, .inl (fun _ => 0))), (lk, .inr (2, [.ref ka, .ref kb, .int 1])), (ka, .inl (cT 1, 800, .inr (.inl (fun _ => 0)))), (kb, .inl (cT 0, 2048, .inl (upd (fun _ => 0) 0 1)))] H := hP
    have hD : va_D A [(fr, .inl (cT 0, 800, .inl (fun _ => 0))), (o, .inr (4, [.ref al, .ref gr, .ref fr, .ref lk, .int sz1, .ref ln, .ref lw, .ref lz, .int sz2, .ref na, .ref nb, .int v1])), (gr, .inl (cT 0, 800, .inl (fun _ => 0))), (al, .inr (0, [.ref o6, .ref fi, .ref nx, .ref en, .int 0])), (nx, .inl (cT 0, 2400, .inl (fun _ => 0))), (lk, .inr (2, [.ref ka, .ref kb, .int 1])), (ka, .inl (cT 1, 800, .inr (.inl (fun _ => 0)))), (kb, .inl (cT 0, 2048, .inl (upd (fun _ => 0) 0 1)))] := hD
    subst h_6
    refine va_mmax hx hb (hml.trans hl.1.symm) hown (hts (.methodLink RX4 106 Lib.Math.max.name) (by decide +kernel)) (hts (.static Lib.Math.max.name) (by decide +kernel)) (hts (.initialized "java/lang/Math") (by decide +kernel)) (hts (.code Lib.Math.max.name Lib.Math.max.code 2 (some .int)) (by decide +kernel)) (Nat.le_of_ble_eq_true rfl) (Nat.le_of_ble_eq_true rfl) (Nat.le_of_ble_eq_true rfl) (Nat.le_of_ble_eq_true rfl) dX4_partBy_57 ?_
    refine tI 0 (by decide) ?_
    refine w_iast (f' := (fun _ => 0)) hx hb hK hP hD hS 0 rfl dX4_partBy_60 (inC (by decide)) (upd_c _ _) (fun H locs hP hD hS => ?_)
    have hP : va_P g vwCl [(fr, .inl (cT 0, 800, .inl (fun _ => 0))), (o, .inr (4, [.ref al, .ref gr, .ref fr, .ref lk, .int sz1, .ref ln, .ref lw, .ref lz, .int sz2, .ref na, .ref nb, .int v1])), (gr, .inl (cT 0, 800, .inl (fun _ => 0))), (al, .inr (0, [.ref o6, .ref fi, .ref nx, .ref en, .int 0])), (nx, .inl (cT 0, 2400, .inl (fun _ => 0))), (lk, .inr (2, [.ref ka, .ref kb, .int 1])), (ka, .inl (cT 1, 800, .inr (.inl (fun _ => 0)))), (kb, .inl (cT 0, 2048, .inl (upd (fun _ => 0) 0 1)))] H := hP
    have hD : va_D A [(fr, .inl (cT 0, 800, .inl (fun _ => 0))), (o, .inr (4, [.ref al, .ref gr, .ref fr, .ref lk, .int sz1, .ref ln, .ref lw, .ref lz, .int sz2, .ref na, .ref nb, .int v1])), (gr, .inl (cT 0, 800, .inl (fun _ => 0))), (al, .inr (0, [.ref o6, .ref fi, .ref nx, .ref en, .int 0])), (nx, .inl (cT 0, 2400, .inl (fun _ => 0))), (lk, .inr (2, [.ref ka, .ref kb, .int 1])), (ka, .inl (cT 1, 800, .inr (.inl (fun _ => 0)))), (kb, .inl (cT 0, 2048, .inl (upd (fun _ => 0) 0 1)))] := hD
    refine lv_iinc (v := 1) (lv' := [(3, .int 1), (4, .long 0), (0, .ref o), (1, .int 0), (2, .int 1)]) hx hb dX4_partBy_61 hl (k := 1) rfl (by decide) (by decide) rfl (fun ls hl => ?_)
    refine lv_goto (tgt := 9) hx hb dX4_partBy_64 (by decide) ?_
    refine lv_iload_n hx hb dX4_partBy_9 rfl (lv_at hl 0 rfl) ?_
    refine lv_iload_n hx hb dX4_partBy_10 rfl (lv_at hl 4 rfl) ?_
    refine icmp_ge_t hx hb 67 dX4_partBy_11 (by decide) (by decide) ?_
    refine lv_aload_n hx hb dX4_partBy_67 rfl (lv_at hl 2 rfl) ?_
    refine va_get (C := RX4) (T := TX4) (N := 12) (v := .ref fr) hx hb hts hi_X4_partBy_X4 hown hK hP 1 rfl rfl 2 (by decide) (hts (.fieldLink RX4 15 "BothWays$Least" "fresh" "[I") (by decide +kernel)) (fun _ h => h) rfl dX4_partBy_68 ?_
    refine lv_iconst (v := 0) hx hb dX4_partBy_71 (by decide) ?_
    refine lv_aload_n hx hb dX4_partBy_72 rfl (lv_at hl 2 rfl) ?_
    refine va_get (C := RX4) (T := TX4) (N := 12) (v := .ref gr) hx hb hts hi_X4_partBy_X4 hown hK hP 1 rfl rfl 1 (by decide) (hts (.fieldLink RX4 9 "BothWays$Least" "groups" "[I") (by decide +kernel)) (fun _ h => h) rfl dX4_partBy_73 ?_
    refine lv_iconst (v := 0) hx hb dX4_partBy_76 (by decide) ?_
    refine lv_sipush (v := 800) hx hb dX4_partBy_77 (by decide) ?_
    refine va_copyi hx hb (hml.trans hl.1.symm) hown (hts (.methodLink RX4 68 arraycopyName) (by decide +kernel)) (hts (.native arraycopyName) (by decide +kernel)) (hts (.static arraycopyName) (by decide +kernel)) (hts (.initialized "java/lang/System") (by decide +kernel)) hK hP hD hS 0 2 0 0 rfl rfl rfl rfl rfl (by decide) (by decide) (by decide) (by decide) (by decide) (fun _ _ => rfl) (Nat.le_of_ble_eq_true rfl) (by decide) dX4_partBy_80 (fun H locs hP hD hS => ?_)
    rw [cpy_c] at hP hD
    have hP : va_P g vwCl [(fr, .inl (cT 0, 800, .inl (fun _ => 0))), (o, .inr (4, [.ref al, .ref gr, .ref fr, .ref lk, .int sz1, .ref ln, .ref lw, .ref lz, .int sz2, .ref na, .ref nb, .int v1])), (gr, .inl (cT 0, 800, .inl (fun _ => 0))), (al, .inr (0, [.ref o6, .ref fi, .ref nx, .ref en, .int 0])), (nx, .inl (cT 0, 2400, .inl (fun _ => 0))), (lk, .inr (2, [.ref ka, .ref kb, .int 1])), (ka, .inl (cT 1, 800, .inr (.inl (fun _ => 0)))), (kb, .inl (cT 0, 2048, .inl (upd (fun _ => 0) 0 1)))] H := hP
    have hD : va_D A [(fr, .inl (cT 0, 800, .inl (fun _ => 0))), (o, .inr (4, [.ref al, .ref gr, .ref fr, .ref lk, .int sz1, .ref ln, .ref lw, .ref lz, .int sz2, .ref na, .ref nb, .int v1])), (gr, .inl (cT 0, 800, .inl (fun _ => 0))), (al, .inr (0, [.ref o6, .ref fi, .ref nx, .ref en, .int 0])), (nx, .inl (cT 0, 2400, .inl (fun _ => 0))), (lk, .inr (2, [.ref ka, .ref kb, .int 1])), (ka, .inl (cT 1, 800, .inr (.inl (fun _ => 0)))), (kb, .inl (cT 0, 2048, .inl (upd (fun _ => 0) 0 1)))] := hD
    exact rt_v hx hb hr hlocks hQ hP hD hS () [1, 2, 0, 3, 4, 5, 6, 7] dX4_partBy_83 (Nat.le_of_ble_eq_true rfl) (Nat.le_of_ble_eq_true rfl) rfl (by decide) trivial
  rw [hH, hlo] at hgo
  exact hgo
abbrev rm_c_L_partBy_1 : Room := { frames := 3, cells := 0, slots := 0, locals := 67 }
set_option maxHeartbeats 4000000 in
set_option maxRecDepth 100000 in
theorem c_L_partBy_1 (l : Launch) (g : va_G) (cT : Nat → ClassId) (sz : Nat) (o : Nat) (al : Nat) (gr : Nat) (fr : Nat) (lk : Nat) (ln : Nat) (lw : Nat) (lz : Nat) (na : Nat) (nb : Nat) (ka : Nat) (kb : Nat) (sz1 : Int32) (sz2 : Int32) (v1 : Int32) (o6 : Nat) (fi : Nat) (nx : Nat) (en : Nat)  : Ctr l g cT sz yX4_partBy wsX4_partBy rm_c_L_partBy_1 [.ref o, .int 1, .int 1] [(o, .inr (4, [.ref al, .ref gr, .ref fr, .ref lk, .int sz1, .ref ln, .ref lw, .ref lz, .int sz2, .ref na, .ref nb, .int v1])), (gr, .inl (cT 0, 800, .inl (fun _ => 0))), (fr, .inl (cT 0, 800, .inl (fun _ => 0))), (al, .inr (0, [.ref o6, .ref fi, .ref nx, .ref en, .int 0])), (nx, .inl (cT 0, 2400, .inl (fun _ => 0))), (lk, .inr (2, [.ref ka, .ref kb, .int 1])), (ka, .inl (cT 1, 800, .inr (.inl (fun _ => 0)))), (kb, .inl (cT 0, 2048, .inl (upd (fun _ => 0) 0 1)))] (QV g (fun (u : Unit) => True) (fun (u : Unit) => [(o, .inr (4, [.ref al, .ref gr, .ref fr, .ref lk, .int sz1, .ref ln, .ref lw, .ref lz, .int sz2, .ref na, .ref nb, .int v1])), (gr, .inl (cT 0, 800, .inl (fun _ => 0))), (fr, .inl (cT 0, 800, .inl (fun _ => 0))), (al, .inr (0, [.ref o6, .ref fi, .ref nx, .ref en, .int 0])), (nx, .inl (cT 0, 2400, .inl (fun _ => 0))), (lk, .inr (2, [.ref ka, .ref kb, .int 1])), (ka, .inl (cT 1, 800, .inr (.inl (fun _ => 0)))), (kb, .inl (cT 0, 2048, .inl (upd (fun _ => 0) 0 1)))])) 0 0 := by
  refine mk_ctr (cc := cX4_partBy) (maxL := 6) (ret := none) (by decide) rfl (Nat.le_of_ble_eq_true rfl) ?_
  intro p e s m args below meth c A Q hx hb hr hts hown hlocks hin hml hP hK hD hN hZ hA hS hQ ls hl
  have hl : lv_has ls 6 [(0, .ref o), (1, .int 1), (2, .int 1)] := hl
  obtain ⟨H, hH⟩ : ∃ H : Heap, H = s.heap := ⟨_, rfl⟩
  obtain ⟨locs, hlo⟩ : ∃ x : List Loc, x = [] := ⟨_, rfl⟩
  rw [← hH] at hP
  have hS : va_S A s.heap H locs := by rw [hH, hlo]; exact hS
  have hgo : W p l e rm_c_L_partBy_1 s m args below meth c H locs 0 0 Q (F0 m 0 ls []) := by
    clear hH hlo
    refine lv_aload_n hx hb dX4_partBy_0 rfl (lv_at hl 0 rfl) ?_
    refine va_get (C := RX4) (T := TX4) (N := 12) (v := .ref lk) hx hb hts hi_X4_partBy_X4 hown hK hP 0 rfl rfl 3 (by decide) (hts (.fieldLink RX4 23 "BothWays$Least" "keys" "LBothWays$Keys;") (by decide +kernel)) (fun _ h => h) rfl dX4_partBy_1 ?_
    refine cj_v 0 0 (wr := [(o, .inr (4, [.ref al, .ref gr, .ref fr, .ref lk, .int sz1, .ref ln, .ref lw, .ref lz, .int sz2, .ref na, .ref nb, .int v1])), (gr, .inl (cT 0, 800, .inl (fun _ => 0))), (fr, .inl (cT 0, 800, .inl (fun _ => 0))), (al, .inr (0, [.ref o6, .ref fi, .ref nx, .ref en, .int 0])), (nx, .inl (cT 0, 2400, .inl (fun _ => 0))), (ka, .inl (cT 1, 800, .inr (.inl (fun _ => 0))))]) (va_runV (As := []) (rest := []) ⟨hx, hb, hml, hown, hts⟩ (c_K_clear l g cT H.size lk ka kb 1 2048 (upd (fun _ => 0) 0 1) (by decide)) (cwV 0 hts gX4_partBy_X2_clear rfl rfl rfl yd_X2_clear ⟨(Nat.le_of_ble_eq_true rfl), (Nat.le_of_ble_eq_true rfl)⟩) (preV (wc := [(lk, .inr (2, [.ref ka, .ref kb, .int 1])), (kb, .inl (cT 0, 2048, .inl (upd (fun _ => 0) 0 1)))]) rfl hP hD hK hN hZ hS hA [5, 7] rfl (by decide) (ci := 2) (q0 := 5) rfl rfl) rfl rfl hl.1 rfl (lv_room (Nat.le_of_ble_eq_true rfl)) dX4_partBy_4 ⟨(Nat.le_of_ble_eq_true rfl), (Nat.le_of_ble_eq_true rfl)⟩) hP hD hS hA [5, 7] [0, 1, 2, 3, 4, 6] rfl rfl (by decide) (by decide) (Nat.le_of_ble_eq_true rfl) (Nat.le_of_ble_eq_true rfl) (fun u H locs h_2 hP hD hS => ?_)
    have hP : va_P g vwCl [(o, .inr (4, [.ref al, .ref gr, .ref fr, .ref lk, .int sz1, .ref ln, .ref lw, .ref lz, .int sz2, .ref na, .ref nb, .int v1])), (gr, .inl (cT 0, 800, .inl (fun _ => 0))), (fr, .inl (cT 0, 800, .inl (fun _ => 0))), (al, .inr (0, [.ref o6, .ref fi, .ref nx, .ref en, .int 0])), (nx, .inl (cT 0, 2400, .inl (fun _ => 0))), (ka, .inl (cT 1, 800, .inr (.inl (fun _ => 0)))), (lk, .inr (2, [.ref ka, .ref kb, .int 0])), (kb, .inl (cT 0, 2048, .inl (fun _ => 0)))] H := hP
    have hD : va_D A [(o, .inr (4, [.ref al, .ref gr, .ref fr, .ref lk, .int sz1, .ref ln, .ref lw, .ref lz, .int sz2, .ref na, .ref nb, .int v1])), (gr, .inl (cT 0, 800, .inl (fun _ => 0))), (fr, .inl (cT 0, 800, .inl (fun _ => 0))), (al, .inr (0, [.ref o6, .ref fi, .ref nx, .ref en, .int 0])), (nx, .inl (cT 0, 2400, .inl (fun _ => 0))), (ka, .inl (cT 1, 800, .inr (.inl (fun _ => 0)))), (lk, .inr (2, [.ref ka, .ref kb, .int 0])), (kb, .inl (cT 0, 2048, .inl (fun _ => 0)))] := hD
    refine lv_iconst (v := 0) hx hb dX4_partBy_7 (by decide) ?_
    refine lv_istore_n (lv' := [(3, .int 0), (0, .ref o), (1, .int 1), (2, .int 1)]) hx hb dX4_partBy_8 rfl hl (by decide) rfl (fun ls hl => ?_)
    refine lv_iload_n hx hb dX4_partBy_9 rfl (lv_at hl 0 rfl) ?_
    refine lv_iload_n hx hb dX4_partBy_10 rfl (lv_at hl 3 rfl) ?_
    refine icmp_ge_f hx hb dX4_partBy_11 67 (by decide) (by decide) ?_
    refine lv_iload_n hx hb dX4_partBy_14 rfl (lv_at hl 0 rfl) ?_
    refine lv_sipush (v := 800) hx hb dX4_partBy_15 (by decide) ?_
    refine icmp_ge_f hx hb dX4_partBy_18 67 (by decide) (by decide) ?_
    refine lv_aload_n hx hb dX4_partBy_21 rfl (lv_at hl 1 rfl) ?_
    refine va_get (C := RX4) (T := TX4) (N := 12) (v := .ref gr) hx hb hts hi_X4_partBy_X4 hown hK hP 0 rfl rfl 1 (by decide) (hts (.fieldLink RX4 9 "BothWays$Least" "groups" "[I") (by decide +kernel)) (fun _ h => h) rfl dX4_partBy_22 ?_
    refine lv_iload_n hx hb dX4_partBy_25 rfl (lv_at hl 0 rfl) ?_
    refine w_iald (v := 0) hx hb hK hP 1 rfl dX4_partBy_26 (inC (by decide)) rfl ?_
    refine lv_i2l (v := 0) hx hb dX4_partBy_27 (by decide) ?_
    refine lv_ldc2 (v := 800) hx hb hown (hts (.constantLong RX4 115 (800)) (by decide +kernel)) dX4_partBy_28 ?_
    refine w_lmul (v := 0) hx hb dX4_partBy_31 (by decide) ?_
    refine lv_aload_n hx hb dX4_partBy_32 rfl (lv_at hl 1 rfl) ?_
    refine lv_iload_n hx hb dX4_partBy_33 rfl (lv_at hl 0 rfl) ?_
    refine lv_iload_n hx hb dX4_partBy_34 rfl (lv_at hl 2 rfl) ?_
    refine cj_i 0 0 (wr := [(fr, .inl (cT 0, 800, .inl (fun _ => 0))), (ka, .inl (cT 1, 800, .inr (.inl (fun _ => 0)))), (lk, .inr (2, [.ref ka, .ref kb, .int 0])), (kb, .inl (cT 0, 2048, .inl (fun _ => 0)))]) (va_runV (As := [.int 0, .int 1]) (rest := [.long 0]) ⟨hx, hb, hml, hown, hts⟩ (c_L_groupBehind_1 l g cT H.size o al gr fr lk ln lw lz na nb sz1 sz2 v1 o6 fi nx en) (cwV 2 hts gX4_partBy_X4_groupBehind rfl rfl rfl yd_X4_groupBehind ⟨(Nat.le_of_ble_eq_true rfl), (Nat.le_of_ble_eq_true rfl)⟩) (preV (wc := [(o, .inr (4, [.ref al, .ref gr, .ref fr, .ref lk, .int sz1, .ref ln, .ref lw, .ref lz, .int sz2, .ref na, .ref nb, .int v1])), (gr, .inl (cT 0, 800, .inl (fun _ => 0))), (al, .inr (0, [.ref o6, .ref fi, .ref nx, .ref en, .int 0])), (nx, .inl (cT 0, 2400, .inl (fun _ => 0)))]) rfl hP hD hK hN hZ hS hA [0, 1, 3, 4] rfl (by decide) (ci := 4) (q0 := 0) rfl rfl) rfl rfl hl.1 rfl (lv_room (Nat.le_of_ble_eq_true rfl)) dX4_partBy_35 ⟨(Nat.le_of_ble_eq_true rfl), (Nat.le_of_ble_eq_true rfl)⟩) hP hD hS hA [0, 1, 3, 4] [2, 5, 6, 7] rfl rfl (by decide) (by decide) (Nat.le_of_ble_eq_true rfl) (Nat.le_of_ble_eq_true rfl) (fun r_3 u H locs h_4 hP hD hS => ?_)
    have hP : va_P g vwCl [(fr, .inl (cT 0, 800, .inl (fun _ => 0))), (ka, .inl (cT 1, 800, .inr (.inl (fun _ => 0)))), (lk, .inr (2, [.ref ka, .ref kb, .int 0])), (kb, .inl (cT 0, 2048, .inl (fun _ => 0))), (o, .inr (4, [.ref al, .ref gr, .ref fr, .ref lk, .int sz1, .ref ln, .ref lw, .ref lz, .int sz2, .ref na, .ref nb, .int v1])), (gr, .inl (cT 0, 800, .inl (fun _ => 0))), (al, .inr (0, [.ref o6, .ref fi, .ref nx, .ref en, .int 0])), (nx, .inl (cT 0, 2400, .inl (fun _ => 0)))] H := hP
    have hD : va_D A [(fr, .inl (cT 0, 800, .inl (fun _ => 0))), (ka, .inl (cT 1, 800, .inr (.inl (fun _ => 0)))), (lk, .inr (2, [.ref ka, .ref kb, .int 0])), (kb, .inl (cT 0, 2048, .inl (fun _ => 0))), (o, .inr (4, [.ref al, .ref gr, .ref fr, .ref lk, .int sz1, .ref ln, .ref lw, .ref lz, .int sz2, .ref na, .ref nb, .int v1])), (gr, .inl (cT 0, 800, .inl (fun _ => 0))), (al, .inr (0, [.ref o6, .ref fi, .ref nx, .ref en, .int 0])), (nx, .inl (cT 0, 2400, .inl (fun _ => 0)))] := hD
    subst h_4
    refine lv_i2l (v := 0) hx hb dX4_partBy_38 (by decide) ?_
    refine w_ladd (v := 0) hx hb dX4_partBy_39 (by decide) ?_
    refine lv_lstore (lv' := [(4, .long 0), (3, .int 0), (0, .ref o), (1, .int 1), (2, .int 1)]) hx hb dX4_partBy_40 hl (by decide) rfl (fun ls hl => ?_)
    refine lv_aload_n hx hb dX4_partBy_42 rfl (lv_at hl 2 rfl) ?_
    refine va_get (C := RX4) (T := TX4) (N := 12) (v := .ref fr) hx hb hts hi_X4_partBy_X4 hown hK hP 4 rfl rfl 2 (by decide) (hts (.fieldLink RX4 15 "BothWays$Least" "fresh" "[I") (by decide +kernel)) (fun _ h => h) rfl dX4_partBy_43 ?_
    refine lv_iload_n hx hb dX4_partBy_46 rfl (lv_at hl 1 rfl) ?_
    refine lv_iconst (v := 0) hx hb dX4_partBy_47 (by decide) ?_
    refine lv_aload_n hx hb dX4_partBy_48 rfl (lv_at hl 2 rfl) ?_
    refine va_get (C := RX4) (T := TX4) (N := 12) (v := .ref lk) hx hb hts hi_X4_partBy_X4 hown hK hP 4 rfl rfl 3 (by decide) (hts (.fieldLink RX4 23 "BothWays$Least" "keys" "LBothWays$Keys;") (by decide +kernel)) (fun _ h => h) rfl dX4_partBy_49 ?_
    refine lv_lload hx hb dX4_partBy_52 (lv_at hl 0 rfl) ?_
    refine cj_i 0 0 (wr := [(fr, .inl (cT 0, 800, .inl (fun _ => 0))), (o, .inr (4, [.ref al, .ref gr, .ref fr, .ref lk, .int sz1, .ref ln, .ref lw, .ref lz, .int sz2, .ref na, .ref nb, .int v1])), (gr, .inl (cT 0, 800, .inl (fun _ => 0))), (al, .inr (0, [.ref o6, .ref fi, .ref nx, .ref en, .int 0])), (nx, .inl (cT 0, 2400, .inl (fun _ => 0)))]) (va_runV (As := [.long 0]) (rest := [.int 0, .int 0, .ref fr]) ⟨hx, hb, hml, hown, hts⟩ (c_K_indexWith_800_0e l g cT H.size lk ka kb) (cwV 1 hts gX4_partBy_X2_indexWith rfl rfl rfl yd_X2_indexWith ⟨(Nat.le_of_ble_eq_true rfl), (Nat.le_of_ble_eq_true rfl)⟩) (preV (wc := [(lk, .inr (2, [.ref ka, .ref kb, .int 0])), (ka, .inl (cT 1, 800, .inr (.inl (fun _ => 0)))), (kb, .inl (cT 0, 2048, .inl (fun _ => 0)))]) rfl hP hD hK hN hZ hS hA [2, 1, 3] rfl (by decide) (ci := 2) (q0 := 2) rfl rfl) rfl rfl hl.1 rfl (lv_room (Nat.le_of_ble_eq_true rfl)) dX4_partBy_54 ⟨(Nat.le_of_ble_eq_true rfl), (Nat.le_of_ble_eq_true rfl)⟩) hP hD hS hA [2, 1, 3] [0, 4, 5, 6, 7] rfl rfl (by decide) (by decide) (Nat.le_of_ble_eq_true rfl) (Nat.le_of_ble_eq_true rfl) (fun r_5 u H locs h_6 hP hD hS => ?_)
    have hP : va_P g vwCl [(fr, .inl (cT 0, 800, .inl (fun _ => 0))), (o, .inr (4, [.ref al, .ref gr, .ref fr, .ref lk, .int sz1, .ref ln, .ref lw, .ref lz, .int sz2, .ref na, .ref nb, .int v1])), (gr, .inl (cT 0, 800, .inl (fun _ => 0))), (al, .inr (0, [.ref o6, .ref fi, .ref nx, .ref en, .int 0])), (nx, .inl (cT 0, 2400, .inl (fun _ => 0))), (lk, .inr (2, [.ref ka, .ref kb, .int 1])), (ka, .inl (cT 1, 800, .inr (.inl (fun _ => 0)))), (kb, .inl (cT 0, 2048, .inl (upd (fun _ => 0) 0 1)))] H := hP
    have hD : va_D A [(fr, .inl (cT 0, 800, .inl (fun _ => 0))), (o, .inr (4, [.ref al, .ref gr, .ref fr, .ref lk, .int sz1, .ref ln, .ref lw, .ref lz, .int sz2, .ref na, .ref nb, .int v1])), (gr, .inl (cT 0, 800, .inl (fun _ => 0))), (al, .inr (0, [.ref o6, .ref fi, .ref nx, .ref en, .int 0])), (nx, .inl (cT 0, 2400, .inl (fun _ => 0))), (lk, .inr (2, [.ref ka, .ref kb, .int 1])), (ka, .inl (cT 1, 800, .inr (.inl (fun _ => 0)))), (kb, .inl (cT 0, 2048, .inl (upd (fun _ => 0) 0 1)))] := hD
    subst h_6
    refine va_mmax hx hb (hml.trans hl.1.symm) hown (hts (.methodLink RX4 106 Lib.Math.max.name) (by decide +kernel)) (hts (.static Lib.Math.max.name) (by decide +kernel)) (hts (.initialized "java/lang/Math") (by decide +kernel)) (hts (.code Lib.Math.max.name Lib.Math.max.code 2 (some .int)) (by decide +kernel)) (Nat.le_of_ble_eq_true rfl) (Nat.le_of_ble_eq_true rfl) (Nat.le_of_ble_eq_true rfl) (Nat.le_of_ble_eq_true rfl) dX4_partBy_57 ?_
    refine tI 0 (by decide) ?_
    refine w_iast (f' := (fun _ => 0)) hx hb hK hP hD hS 0 rfl dX4_partBy_60 (inC (by decide)) (upd_c _ _) (fun H locs hP hD hS => ?_)
    have hP : va_P g vwCl [(fr, .inl (cT 0, 800, .inl (fun _ => 0))), (o, .inr (4, [.ref al, .ref gr, .ref fr, .ref lk, .int sz1, .ref ln, .ref lw, .ref lz, .int sz2, .ref na, .ref nb, .int v1])), (gr, .inl (cT 0, 800, .inl (fun _ => 0))), (al, .inr (0, [.ref o6, .ref fi, .ref nx, .ref en, .int 0])), (nx, .inl (cT 0, 2400, .inl (fun _ => 0))), (lk, .inr (2, [.ref ka, .ref kb, .int 1])), (ka, .inl (cT 1, 800, .inr (.inl (fun _ => 0)))), (kb, .inl (cT 0, 2048, .inl (upd (fun _ => 0) 0 1)))] H := hP
    have hD : va_D A [(fr, .inl (cT 0, 800, .inl (fun _ => 0))), (o, .inr (4, [.ref al, .ref gr, .ref fr, .ref lk, .int sz1, .ref ln, .ref lw, .ref lz, .int sz2, .ref na, .ref nb, .int v1])), (gr, .inl (cT 0, 800, .inl (fun _ => 0))), (al, .inr (0, [.ref o6, .ref fi, .ref nx, .ref en, .int 0])), (nx, .inl (cT 0, 2400, .inl (fun _ => 0))), (lk, .inr (2, [.ref ka, .ref kb, .int 1])), (ka, .inl (cT 1, 800, .inr (.inl (fun _ => 0)))), (kb, .inl (cT 0, 2048, .inl (upd (fun _ => 0) 0 1)))] := hD
    refine lv_iinc (v := 1) (lv' := [(3, .int 1), (4, .long 0), (0, .ref o), (1, .int 1), (2, .int 1)]) hx hb dX4_partBy_61 hl (k := 1) rfl (by decide) (by decide) rfl (fun ls hl => ?_)
    refine lv_goto (tgt := 9) hx hb dX4_partBy_64 (by decide) ?_
    refine lv_iload_n hx hb dX4_partBy_9 rfl (lv_at hl 0 rfl) ?_
    refine lv_iload_n hx hb dX4_partBy_10 rfl (lv_at hl 4 rfl) ?_
    refine icmp_ge_t hx hb 67 dX4_partBy_11 (by decide) (by decide) ?_
    refine lv_aload_n hx hb dX4_partBy_67 rfl (lv_at hl 2 rfl) ?_
    refine va_get (C := RX4) (T := TX4) (N := 12) (v := .ref fr) hx hb hts hi_X4_partBy_X4 hown hK hP 1 rfl rfl 2 (by decide) (hts (.fieldLink RX4 15 "BothWays$Least" "fresh" "[I") (by decide +kernel)) (fun _ h => h) rfl dX4_partBy_68 ?_
    refine lv_iconst (v := 0) hx hb dX4_partBy_71 (by decide) ?_
    refine lv_aload_n hx hb dX4_partBy_72 rfl (lv_at hl 2 rfl) ?_
    refine va_get (C := RX4) (T := TX4) (N := 12) (v := .ref gr) hx hb hts hi_X4_partBy_X4 hown hK hP 1 rfl rfl 1 (by decide) (hts (.fieldLink RX4 9 "BothWays$Least" "groups" "[I") (by decide +kernel)) (fun _ h => h) rfl dX4_partBy_73 ?_
    refine lv_iconst (v := 0) hx hb dX4_partBy_76 (by decide) ?_
    refine lv_sipush (v := 800) hx hb dX4_partBy_77 (by decide) ?_
    refine va_copyi hx hb (hml.trans hl.1.symm) hown (hts (.methodLink RX4 68 arraycopyName) (by decide +kernel)) (hts (.native arraycopyName) (by decide +kernel)) (hts (.static arraycopyName) (by decide +kernel)) (hts (.initialized "java/lang/System") (by decide +kernel)) hK hP hD hS 0 2 0 0 rfl rfl rfl rfl rfl (by decide) (by decide) (by decide) (by decide) (by decide) (fun _ _ => rfl) (Nat.le_of_ble_eq_true rfl) (by decide) dX4_partBy_80 (fun H locs hP hD hS => ?_)
    rw [cpy_c] at hP hD
    have hP : va_P g vwCl [(fr, .inl (cT 0, 800, .inl (fun _ => 0))), (o, .inr (4, [.ref al, .ref gr, .ref fr, .ref lk, .int sz1, .ref ln, .ref lw, .ref lz, .int sz2, .ref na, .ref nb, .int v1])), (gr, .inl (cT 0, 800, .inl (fun _ => 0))), (al, .inr (0, [.ref o6, .ref fi, .ref nx, .ref en, .int 0])), (nx, .inl (cT 0, 2400, .inl (fun _ => 0))), (lk, .inr (2, [.ref ka, .ref kb, .int 1])), (ka, .inl (cT 1, 800, .inr (.inl (fun _ => 0)))), (kb, .inl (cT 0, 2048, .inl (upd (fun _ => 0) 0 1)))] H := hP
    have hD : va_D A [(fr, .inl (cT 0, 800, .inl (fun _ => 0))), (o, .inr (4, [.ref al, .ref gr, .ref fr, .ref lk, .int sz1, .ref ln, .ref lw, .ref lz, .int sz2, .ref na, .ref nb, .int v1])), (gr, .inl (cT 0, 800, .inl (fun _ => 0))), (al, .inr (0, [.ref o6, .ref fi, .ref nx, .ref en, .int 0])), (nx, .inl (cT 0, 2400, .inl (fun _ => 0))), (lk, .inr (2, [.ref ka, .ref kb, .int 1])), (ka, .inl (cT 1, 800, .inr (.inl (fun _ => 0)))), (kb, .inl (cT 0, 2048, .inl (upd (fun _ => 0) 0 1)))] := hD
    exact rt_v hx hb hr hlocks hQ hP hD hS () [1, 2, 0, 3, 4, 5, 6, 7] dX4_partBy_83 (Nat.le_of_ble_eq_true rfl) (Nat.le_of_ble_eq_true rfl) rfl (by decide) trivial
  rw [hH, hlo] at hgo
  exact hgo
abbrev rm_c_L_partBy_2 : Room := { frames := 3, cells := 0, slots := 0, locals := 67 }
set_option maxHeartbeats 4000000 in
set_option maxRecDepth 100000 in
theorem c_L_partBy_2 (l : Launch) (g : va_G) (cT : Nat → ClassId) (sz : Nat) (o : Nat) (al : Nat) (gr : Nat) (fr : Nat) (lk : Nat) (ln : Nat) (lw : Nat) (lz : Nat) (na : Nat) (nb : Nat) (ka : Nat) (kb : Nat) (sz1 : Int32) (sz2 : Int32) (v1 : Int32) (o6 : Nat) (fi : Nat) (nx : Nat) (en : Nat)  : Ctr l g cT sz yX4_partBy wsX4_partBy rm_c_L_partBy_2 [.ref o, .int 2, .int 1] [(o, .inr (4, [.ref al, .ref gr, .ref fr, .ref lk, .int sz1, .ref ln, .ref lw, .ref lz, .int sz2, .ref na, .ref nb, .int v1])), (gr, .inl (cT 0, 800, .inl (fun _ => 0))), (fr, .inl (cT 0, 800, .inl (fun _ => 0))), (al, .inr (0, [.ref o6, .ref fi, .ref nx, .ref en, .int 0])), (nx, .inl (cT 0, 2400, .inl (fun _ => 0))), (lk, .inr (2, [.ref ka, .ref kb, .int 1])), (ka, .inl (cT 1, 800, .inr (.inl (fun _ => 0)))), (kb, .inl (cT 0, 2048, .inl (upd (fun _ => 0) 0 1)))] (QV g (fun (u : Unit) => True) (fun (u : Unit) => [(o, .inr (4, [.ref al, .ref gr, .ref fr, .ref lk, .int sz1, .ref ln, .ref lw, .ref lz, .int sz2, .ref na, .ref nb, .int v1])), (gr, .inl (cT 0, 800, .inl (fun _ => 0))), (fr, .inl (cT 0, 800, .inl (fun _ => 0))), (al, .inr (0, [.ref o6, .ref fi, .ref nx, .ref en, .int 0])), (nx, .inl (cT 0, 2400, .inl (fun _ => 0))), (lk, .inr (2, [.ref ka, .ref kb, .int 1])), (ka, .inl (cT 1, 800, .inr (.inl (fun _ => 0)))), (kb, .inl (cT 0, 2048, .inl (upd (fun _ => 0) 0 1)))])) 0 0 := by
  refine mk_ctr (cc := cX4_partBy) (maxL := 6) (ret := none) (by decide) rfl (Nat.le_of_ble_eq_true rfl) ?_
  intro p e s m args below meth c A Q hx hb hr hts hown hlocks hin hml hP hK hD hN hZ hA hS hQ ls hl
  have hl : lv_has ls 6 [(0, .ref o), (1, .int 2), (2, .int 1)] := hl
  obtain ⟨H, hH⟩ : ∃ H : Heap, H = s.heap := ⟨_, rfl⟩
  obtain ⟨locs, hlo⟩ : ∃ x : List Loc, x = [] := ⟨_, rfl⟩
  rw [← hH] at hP
  have hS : va_S A s.heap H locs := by rw [hH, hlo]; exact hS
  have hgo : W p l e rm_c_L_partBy_2 s m args below meth c H locs 0 0 Q (F0 m 0 ls []) := by
    clear hH hlo
    refine lv_aload_n hx hb dX4_partBy_0 rfl (lv_at hl 0 rfl) ?_
    refine va_get (C := RX4) (T := TX4) (N := 12) (v := .ref lk) hx hb hts hi_X4_partBy_X4 hown hK hP 0 rfl rfl 3 (by decide) (hts (.fieldLink RX4 23 "BothWays$Least" "keys" "LBothWays$Keys;") (by decide +kernel)) (fun _ h => h) rfl dX4_partBy_1 ?_
    refine cj_v 0 0 (wr := [(o, .inr (4, [.ref al, .ref gr, .ref fr, .ref lk, .int sz1, .ref ln, .ref lw, .ref lz, .int sz2, .ref na, .ref nb, .int v1])), (gr, .inl (cT 0, 800, .inl (fun _ => 0))), (fr, .inl (cT 0, 800, .inl (fun _ => 0))), (al, .inr (0, [.ref o6, .ref fi, .ref nx, .ref en, .int 0])), (nx, .inl (cT 0, 2400, .inl (fun _ => 0))), (ka, .inl (cT 1, 800, .inr (.inl (fun _ => 0))))]) (va_runV (As := []) (rest := []) ⟨hx, hb, hml, hown, hts⟩ (c_K_clear l g cT H.size lk ka kb 1 2048 (upd (fun _ => 0) 0 1) (by decide)) (cwV 0 hts gX4_partBy_X2_clear rfl rfl rfl yd_X2_clear ⟨(Nat.le_of_ble_eq_true rfl), (Nat.le_of_ble_eq_true rfl)⟩) (preV (wc := [(lk, .inr (2, [.ref ka, .ref kb, .int 1])), (kb, .inl (cT 0, 2048, .inl (upd (fun _ => 0) 0 1)))]) rfl hP hD hK hN hZ hS hA [5, 7] rfl (by decide) (ci := 2) (q0 := 5) rfl rfl) rfl rfl hl.1 rfl (lv_room (Nat.le_of_ble_eq_true rfl)) dX4_partBy_4 ⟨(Nat.le_of_ble_eq_true rfl), (Nat.le_of_ble_eq_true rfl)⟩) hP hD hS hA [5, 7] [0, 1, 2, 3, 4, 6] rfl rfl (by decide) (by decide) (Nat.le_of_ble_eq_true rfl) (Nat.le_of_ble_eq_true rfl) (fun u H locs h_2 hP hD hS => ?_)
    have hP : va_P g vwCl [(o, .inr (4, [.ref al, .ref gr, .ref fr, .ref lk, .int sz1, .ref ln, .ref lw, .ref lz, .int sz2, .ref na, .ref nb, .int v1])), (gr, .inl (cT 0, 800, .inl (fun _ => 0))), (fr, .inl (cT 0, 800, .inl (fun _ => 0))), (al, .inr (0, [.ref o6, .ref fi, .ref nx, .ref en, .int 0])), (nx, .inl (cT 0, 2400, .inl (fun _ => 0))), (ka, .inl (cT 1, 800, .inr (.inl (fun _ => 0)))), (lk, .inr (2, [.ref ka, .ref kb, .int 0])), (kb, .inl (cT 0, 2048, .inl (fun _ => 0)))] H := hP
    have hD : va_D A [(o, .inr (4, [.ref al, .ref gr, .ref fr, .ref lk, .int sz1, .ref ln, .ref lw, .ref lz, .int sz2, .ref na, .ref nb, .int v1])), (gr, .inl (cT 0, 800, .inl (fun _ => 0))), (fr, .inl (cT 0, 800, .inl (fun _ => 0))), (al, .inr (0, [.ref o6, .ref fi, .ref nx, .ref en, .int 0])), (nx, .inl (cT 0, 2400, .inl (fun _ => 0))), (ka, .inl (cT 1, 800, .inr (.inl (fun _ => 0)))), (lk, .inr (2, [.ref ka, .ref kb, .int 0])), (kb, .inl (cT 0, 2048, .inl (fun _ => 0)))] := hD
    refine lv_iconst (v := 0) hx hb dX4_partBy_7 (by decide) ?_
    refine lv_istore_n (lv' := [(3, .int 0), (0, .ref o), (1, .int 2), (2, .int 1)]) hx hb dX4_partBy_8 rfl hl (by decide) rfl (fun ls hl => ?_)
    refine lv_iload_n hx hb dX4_partBy_9 rfl (lv_at hl 0 rfl) ?_
    refine lv_iload_n hx hb dX4_partBy_10 rfl (lv_at hl 3 rfl) ?_
    refine icmp_ge_f hx hb dX4_partBy_11 67 (by decide) (by decide) ?_
    refine lv_iload_n hx hb dX4_partBy_14 rfl (lv_at hl 0 rfl) ?_
    refine lv_sipush (v := 800) hx hb dX4_partBy_15 (by decide) ?_
    refine icmp_ge_f hx hb dX4_partBy_18 67 (by decide) (by decide) ?_
    refine lv_aload_n hx hb dX4_partBy_21 rfl (lv_at hl 1 rfl) ?_
    refine va_get (C := RX4) (T := TX4) (N := 12) (v := .ref gr) hx hb hts hi_X4_partBy_X4 hown hK hP 0 rfl rfl 1 (by decide) (hts (.fieldLink RX4 9 "BothWays$Least" "groups" "[I") (by decide +kernel)) (fun _ h => h) rfl dX4_partBy_22 ?_
    refine lv_iload_n hx hb dX4_partBy_25 rfl (lv_at hl 0 rfl) ?_
    refine w_iald (v := 0) hx hb hK hP 1 rfl dX4_partBy_26 (inC (by decide)) rfl ?_
    refine lv_i2l (v := 0) hx hb dX4_partBy_27 (by decide) ?_
    refine lv_ldc2 (v := 800) hx hb hown (hts (.constantLong RX4 115 (800)) (by decide +kernel)) dX4_partBy_28 ?_
    refine w_lmul (v := 0) hx hb dX4_partBy_31 (by decide) ?_
    refine lv_aload_n hx hb dX4_partBy_32 rfl (lv_at hl 1 rfl) ?_
    refine lv_iload_n hx hb dX4_partBy_33 rfl (lv_at hl 0 rfl) ?_
    refine lv_iload_n hx hb dX4_partBy_34 rfl (lv_at hl 2 rfl) ?_
    refine cj_i 0 0 (wr := [(fr, .inl (cT 0, 800, .inl (fun _ => 0))), (ka, .inl (cT 1, 800, .inr (.inl (fun _ => 0)))), (lk, .inr (2, [.ref ka, .ref kb, .int 0])), (kb, .inl (cT 0, 2048, .inl (fun _ => 0)))]) (va_runV (As := [.int 0, .int 2]) (rest := [.long 0]) ⟨hx, hb, hml, hown, hts⟩ (c_L_groupBehind_2 l g cT H.size o al gr fr lk ln lw lz na nb sz1 sz2 v1 o6 fi nx en) (cwV 2 hts gX4_partBy_X4_groupBehind rfl rfl rfl yd_X4_groupBehind ⟨(Nat.le_of_ble_eq_true rfl), (Nat.le_of_ble_eq_true rfl)⟩) (preV (wc := [(o, .inr (4, [.ref al, .ref gr, .ref fr, .ref lk, .int sz1, .ref ln, .ref lw, .ref lz, .int sz2, .ref na, .ref nb, .int v1])), (gr, .inl (cT 0, 800, .inl (fun _ => 0))), (al, .inr (0, [.ref o6, .ref fi, .ref nx, .ref en, .int 0])), (nx, .inl (cT 0, 2400, .inl (fun _ => 0)))]) rfl hP hD hK hN hZ hS hA [0, 1, 3, 4] rfl (by decide) (ci := 4) (q0 := 0) rfl rfl) rfl rfl hl.1 rfl (lv_room (Nat.le_of_ble_eq_true rfl)) dX4_partBy_35 ⟨(Nat.le_of_ble_eq_true rfl), (Nat.le_of_ble_eq_true rfl)⟩) hP hD hS hA [0, 1, 3, 4] [2, 5, 6, 7] rfl rfl (by decide) (by decide) (Nat.le_of_ble_eq_true rfl) (Nat.le_of_ble_eq_true rfl) (fun r_3 u H locs h_4 hP hD hS => ?_)
    have hP : va_P g vwCl [(fr, .inl (cT 0, 800, .inl (fun _ => 0))), (ka, .inl (cT 1, 800, .inr (.inl (fun _ => 0)))), (lk, .inr (2, [.ref ka, .ref kb, .int 0])), (kb, .inl (cT 0, 2048, .inl (fun _ => 0))), (o, .inr (4, [.ref al, .ref gr, .ref fr, .ref lk, .int sz1, .ref ln, .ref lw, .ref lz, .int sz2, .ref na, .ref nb, .int v1])), (gr, .inl (cT 0, 800, .inl (fun _ => 0))), (al, .inr (0, [.ref o6, .ref fi, .ref nx, .ref en, .int 0])), (nx, .inl (cT 0, 2400, .inl (fun _ => 0)))] H := hP
    have hD : va_D A [(fr, .inl (cT 0, 800, .inl (fun _ => 0))), (ka, .inl (cT 1, 800, .inr (.inl (fun _ => 0)))), (lk, .inr (2, [.ref ka, .ref kb, .int 0])), (kb, .inl (cT 0, 2048, .inl (fun _ => 0))), (o, .inr (4, [.ref al, .ref gr, .ref fr, .ref lk, .int sz1, .ref ln, .ref lw, .ref lz, .int sz2, .ref na, .ref nb, .int v1])), (gr, .inl (cT 0, 800, .inl (fun _ => 0))), (al, .inr (0, [.ref o6, .ref fi, .ref nx, .ref en, .int 0])), (nx, .inl (cT 0, 2400, .inl (fun _ => 0)))] := hD
    subst h_4
    refine lv_i2l (v := 0) hx hb dX4_partBy_38 (by decide) ?_
    refine w_ladd (v := 0) hx hb dX4_partBy_39 (by decide) ?_
    refine lv_lstore (lv' := [(4, .long 0), (3, .int 0), (0, .ref o), (1, .int 2), (2, .int 1)]) hx hb dX4_partBy_40 hl (by decide) rfl (fun ls hl => ?_)
    refine lv_aload_n hx hb dX4_partBy_42 rfl (lv_at hl 2 rfl) ?_
    refine va_get (C := RX4) (T := TX4) (N := 12) (v := .ref fr) hx hb hts hi_X4_partBy_X4 hown hK hP 4 rfl rfl 2 (by decide) (hts (.fieldLink RX4 15 "BothWays$Least" "fresh" "[I") (by decide +kernel)) (fun _ h => h) rfl dX4_partBy_43 ?_
    refine lv_iload_n hx hb dX4_partBy_46 rfl (lv_at hl 1 rfl) ?_
    refine lv_iconst (v := 0) hx hb dX4_partBy_47 (by decide) ?_
    refine lv_aload_n hx hb dX4_partBy_48 rfl (lv_at hl 2 rfl) ?_
    refine va_get (C := RX4) (T := TX4) (N := 12) (v := .ref lk) hx hb hts hi_X4_partBy_X4 hown hK hP 4 rfl rfl 3 (by decide) (hts (.fieldLink RX4 23 "BothWays$Least" "keys" "LBothWays$Keys;") (by decide +kernel)) (fun _ h => h) rfl dX4_partBy_49 ?_
    refine lv_lload hx hb dX4_partBy_52 (lv_at hl 0 rfl) ?_
    refine cj_i 0 0 (wr := [(fr, .inl (cT 0, 800, .inl (fun _ => 0))), (o, .inr (4, [.ref al, .ref gr, .ref fr, .ref lk, .int sz1, .ref ln, .ref lw, .ref lz, .int sz2, .ref na, .ref nb, .int v1])), (gr, .inl (cT 0, 800, .inl (fun _ => 0))), (al, .inr (0, [.ref o6, .ref fi, .ref nx, .ref en, .int 0])), (nx, .inl (cT 0, 2400, .inl (fun _ => 0)))]) (va_runV (As := [.long 0]) (rest := [.int 0, .int 0, .ref fr]) ⟨hx, hb, hml, hown, hts⟩ (c_K_indexWith_800_0e l g cT H.size lk ka kb) (cwV 1 hts gX4_partBy_X2_indexWith rfl rfl rfl yd_X2_indexWith ⟨(Nat.le_of_ble_eq_true rfl), (Nat.le_of_ble_eq_true rfl)⟩) (preV (wc := [(lk, .inr (2, [.ref ka, .ref kb, .int 0])), (ka, .inl (cT 1, 800, .inr (.inl (fun _ => 0)))), (kb, .inl (cT 0, 2048, .inl (fun _ => 0)))]) rfl hP hD hK hN hZ hS hA [2, 1, 3] rfl (by decide) (ci := 2) (q0 := 2) rfl rfl) rfl rfl hl.1 rfl (lv_room (Nat.le_of_ble_eq_true rfl)) dX4_partBy_54 ⟨(Nat.le_of_ble_eq_true rfl), (Nat.le_of_ble_eq_true rfl)⟩) hP hD hS hA [2, 1, 3] [0, 4, 5, 6, 7] rfl rfl (by decide) (by decide) (Nat.le_of_ble_eq_true rfl) (Nat.le_of_ble_eq_true rfl) (fun r_5 u H locs h_6 hP hD hS => ?_)
    have hP : va_P g vwCl [(fr, .inl (cT 0, 800, .inl (fun _ => 0))), (o, .inr (4, [.ref al, .ref gr, .ref fr, .ref lk, .int sz1, .ref ln, .ref lw, .ref lz, .int sz2, .ref na, .ref nb, .int v1])), (gr, .inl (cT 0, 800, .inl (fun _ => 0))), (al, .inr (0, [.ref o6, .ref fi, .ref nx, .ref en, .int 0])), (nx, .inl (cT 0, 2400, .inl (fun _ => 0))), (lk, .inr (2, [.ref ka, .ref kb, .int 1])), (ka, .inl (cT 1, 800, .inr (.inl (fun _ => 0)))), (kb, .inl (cT 0, 2048, .inl (upd (fun _ => 0) 0 1)))] H := hP
    have hD : va_D A [(fr, .inl (cT 0, 800, .inl (fun _ => 0))), (o, .inr (4, [.ref al, .ref gr, .ref fr, .ref lk, .int sz1, .ref ln, .ref lw, .ref lz, .int sz2, .ref na, .ref nb, .int v1])), (gr, .inl (cT 0, 800, .inl (fun _ => 0))), (al, .inr (0, [.ref o6, .ref fi, .ref nx, .ref en, .int 0])), (nx, .inl (cT 0, 2400, .inl (fun _ => 0))), (lk, .inr (2, [.ref ka, .ref kb, .int 1])), (ka, .inl (cT 1, 800, .inr (.inl (fun _ => 0)))), (kb, .inl (cT 0, 2048, .inl (upd (fun _ => 0) 0 1)))] := hD
    subst h_6
    refine va_mmax hx hb (hml.trans hl.1.symm) hown (hts (.methodLink RX4 106 Lib.Math.max.name) (by decide +kernel)) (hts (.static Lib.Math.max.name) (by decide +kernel)) (hts (.initialized "java/lang/Math") (by decide +kernel)) (hts (.code Lib.Math.max.name Lib.Math.max.code 2 (some .int)) (by decide +kernel)) (Nat.le_of_ble_eq_true rfl) (Nat.le_of_ble_eq_true rfl) (Nat.le_of_ble_eq_true rfl) (Nat.le_of_ble_eq_true rfl) dX4_partBy_57 ?_
    refine tI 0 (by decide) ?_
    refine w_iast (f' := (fun _ => 0)) hx hb hK hP hD hS 0 rfl dX4_partBy_60 (inC (by decide)) (upd_c _ _) (fun H locs hP hD hS => ?_)
    have hP : va_P g vwCl [(fr, .inl (cT 0, 800, .inl (fun _ => 0))), (o, .inr (4, [.ref al, .ref gr, .ref fr, .ref lk, .int sz1, .ref ln, .ref lw, .ref lz, .int sz2, .ref na, .ref nb, .int v1])), (gr, .inl (cT 0, 800, .inl (fun _ => 0))), (al, .inr (0, [.ref o6, .ref fi, .ref nx, .ref en, .int 0])), (nx, .inl (cT 0, 2400, .inl (fun _ => 0))), (lk, .inr (2, [.ref ka, .ref kb, .int 1])), (ka, .inl (cT 1, 800, .inr (.inl (fun _ => 0)))), (kb, .inl (cT 0, 2048, .inl (upd (fun _ => 0) 0 1)))] H := hP
    have hD : va_D A [(fr, .inl (cT 0, 800, .inl (fun _ => 0))), (o, .inr (4, [.ref al, .ref gr, .ref fr, .ref lk, .int sz1, .ref ln, .ref lw, .ref lz, .int sz2, .ref na, .ref nb, .int v1])), (gr, .inl (cT 0, 800, .inl (fun _ => 0))), (al, .inr (0, [.ref o6, .ref fi, .ref nx, .ref en, .int 0])), (nx, .inl (cT 0, 2400, .inl (fun _ => 0))), (lk, .inr (2, [.ref ka, .ref kb, .int 1])), (ka, .inl (cT 1, 800, .inr (.inl (fun _ => 0)))), (kb, .inl (cT 0, 2048, .inl (upd (fun _ => 0) 0 1)))] := hD
    refine lv_iinc (v := 1) (lv' := [(3, .int 1), (4, .long 0), (0, .ref o), (1, .int 2), (2, .int 1)]) hx hb dX4_partBy_61 hl (k := 1) rfl (by decide) (by decide) rfl (fun ls hl => ?_)
    refine lv_goto (tgt := 9) hx hb dX4_partBy_64 (by decide) ?_
    refine lv_iload_n hx hb dX4_partBy_9 rfl (lv_at hl 0 rfl) ?_
    refine lv_iload_n hx hb dX4_partBy_10 rfl (lv_at hl 4 rfl) ?_
    refine icmp_ge_t hx hb 67 dX4_partBy_11 (by decide) (by decide) ?_
    refine lv_aload_n hx hb dX4_partBy_67 rfl (lv_at hl 2 rfl) ?_
    refine va_get (C := RX4) (T := TX4) (N := 12) (v := .ref fr) hx hb hts hi_X4_partBy_X4 hown hK hP 1 rfl rfl 2 (by decide) (hts (.fieldLink RX4 15 "BothWays$Least" "fresh" "[I") (by decide +kernel)) (fun _ h => h) rfl dX4_partBy_68 ?_
    refine lv_iconst (v := 0) hx hb dX4_partBy_71 (by decide) ?_
    refine lv_aload_n hx hb dX4_partBy_72 rfl (lv_at hl 2 rfl) ?_
    refine va_get (C := RX4) (T := TX4) (N := 12) (v := .ref gr) hx hb hts hi_X4_partBy_X4 hown hK hP 1 rfl rfl 1 (by decide) (hts (.fieldLink RX4 9 "BothWays$Least" "groups" "[I") (by decide +kernel)) (fun _ h => h) rfl dX4_partBy_73 ?_
    refine lv_iconst (v := 0) hx hb dX4_partBy_76 (by decide) ?_
    refine lv_sipush (v := 800) hx hb dX4_partBy_77 (by decide) ?_
    refine va_copyi hx hb (hml.trans hl.1.symm) hown (hts (.methodLink RX4 68 arraycopyName) (by decide +kernel)) (hts (.native arraycopyName) (by decide +kernel)) (hts (.static arraycopyName) (by decide +kernel)) (hts (.initialized "java/lang/System") (by decide +kernel)) hK hP hD hS 0 2 0 0 rfl rfl rfl rfl rfl (by decide) (by decide) (by decide) (by decide) (by decide) (fun _ _ => rfl) (Nat.le_of_ble_eq_true rfl) (by decide) dX4_partBy_80 (fun H locs hP hD hS => ?_)
    rw [cpy_c] at hP hD
    have hP : va_P g vwCl [(fr, .inl (cT 0, 800, .inl (fun _ => 0))), (o, .inr (4, [.ref al, .ref gr, .ref fr, .ref lk, .int sz1, .ref ln, .ref lw, .ref lz, .int sz2, .ref na, .ref nb, .int v1])), (gr, .inl (cT 0, 800, .inl (fun _ => 0))), (al, .inr (0, [.ref o6, .ref fi, .ref nx, .ref en, .int 0])), (nx, .inl (cT 0, 2400, .inl (fun _ => 0))), (lk, .inr (2, [.ref ka, .ref kb, .int 1])), (ka, .inl (cT 1, 800, .inr (.inl (fun _ => 0)))), (kb, .inl (cT 0, 2048, .inl (upd (fun _ => 0) 0 1)))] H := hP
    have hD : va_D A [(fr, .inl (cT 0, 800, .inl (fun _ => 0))), (o, .inr (4, [.ref al, .ref gr, .ref fr, .ref lk, .int sz1, .ref ln, .ref lw, .ref lz, .int sz2, .ref na, .ref nb, .int v1])), (gr, .inl (cT 0, 800, .inl (fun _ => 0))), (al, .inr (0, [.ref o6, .ref fi, .ref nx, .ref en, .int 0])), (nx, .inl (cT 0, 2400, .inl (fun _ => 0))), (lk, .inr (2, [.ref ka, .ref kb, .int 1])), (ka, .inl (cT 1, 800, .inr (.inl (fun _ => 0)))), (kb, .inl (cT 0, 2048, .inl (upd (fun _ => 0) 0 1)))] := hD
    exact rt_v hx hb hr hlocks hQ hP hD hS () [1, 2, 0, 3, 4, 5, 6, 7] dX4_partBy_83 (Nat.le_of_ble_eq_true rfl) (Nat.le_of_ble_eq_true rfl) rfl (by decide) trivial
  rw [hH, hlo] at hgo
  exact hgo
theorem hi_X4_part_X4 : ∀ w ∈ wsX40, w ∈ wsX4_part := fun _ h => List.mem_cons_of_mem _ (List.mem_append_left _ (List.mem_append_left _ (List.mem_append_left _ (List.mem_append_right _ h))))
theorem hi_X4_part_X0 : ∀ w ∈ wsX00, w ∈ wsX4_part := fun _ h => List.mem_cons_of_mem _ (List.mem_append_left _ (List.mem_append_left _ (List.mem_append_right _ h)))
theorem hi_X4_part_X1 : ∀ w ∈ wsX10, w ∈ wsX4_part := fun _ h => List.mem_cons_of_mem _ (List.mem_append_left _ (List.mem_append_right _ h))
theorem hi_X4_part_X2 : ∀ w ∈ wsX20, w ∈ wsX4_part := fun _ h => List.mem_cons_of_mem _ (List.mem_append_right _ h)
theorem yd_X0_takes : yX0_takes.cls = RX0 ∧ yX0_takes.cls ≠ "java/lang/invoke/MethodHandle" ∧ yX0_takes.cls ≠ "java/lang/invoke/VarHandle" ∧ (parseMethodDescriptor yX0_takes.desc).map (fun d => d.parameters.length) = some 1 := by decide +kernel
theorem yd_X4_partBy : yX4_partBy.cls = RX4 ∧ yX4_partBy.cls ≠ "java/lang/invoke/MethodHandle" ∧ yX4_partBy.cls ≠ "java/lang/invoke/VarHandle" ∧ (parseMethodDescriptor yX4_partBy.desc).map (fun d => d.parameters.length) = some 2 := by decide +kernel
abbrev rm_c_L_part : Room := { frames := 4, cells := 0, slots := 0, locals := 92 }
set_option maxHeartbeats 4000000 in
set_option maxRecDepth 100000 in
theorem c_L_part (l : Launch) (g : va_G) (cT : Nat → ClassId) (sz : Nat) (o : Nat) (al : Nat) (gr : Nat) (fr : Nat) (lk : Nat) (ln : Nat) (lw : Nat) (lz : Nat) (na : Nat) (nb : Nat) (ka : Nat) (kb : Nat) (o6 : Nat) (fi : Nat) (nx : Nat) (en : Nat) (k : Nat) (a : Nat) (b : Nat) (pa : Nat) (la : Nat) (le : Nat)  : Ctr l g cT sz yX4_part wsX4_part rm_c_L_part [.ref o] [(o, .inr (4, [.ref al, .ref gr, .ref fr, .ref lk, .int 0, .ref ln, .ref lw, .ref lz, .int 0, .ref na, .ref nb, .int 0])), (gr, .inl (cT 0, 800, .inl (fun _ => 0))), (fr, .inl (cT 0, 800, .inl (fun _ => 0))), (lk, .inr (2, [.ref ka, .ref kb, .int 0])), (ka, .inl (cT 1, 800, .inr (.inl (fun _ => 0)))), (kb, .inl (cT 0, 2048, .inl (fun _ => 0))), (al, .inr (0, [.ref o6, .ref fi, .ref nx, .ref en, .int 0])), (nx, .inl (cT 0, 2400, .inl (fun _ => 0))), (en, .inl (cT 0, 800, .inl (fun _ => 0))), (fi, .inr (1, [.ref k, .ref pa, .ref la, .ref le, .int 0])), (k, .inr (2, [.ref a, .ref b, .int 1]))] (QV g (fun (u : Unit) => True) (fun (u : Unit) => [(o, .inr (4, [.ref al, .ref gr, .ref fr, .ref lk, .int 1, .ref ln, .ref lw, .ref lz, .int 0, .ref na, .ref nb, .int 0])), (gr, .inl (cT 0, 800, .inl (fun _ => 0))), (fr, .inl (cT 0, 800, .inl (fun _ => 0))), (al, .inr (0, [.ref o6, .ref fi, .ref nx, .ref en, .int 0])), (nx, .inl (cT 0, 2400, .inl (fun _ => 0))), (en, .inl (cT 0, 800, .inl (fun _ => 0))), (fi, .inr (1, [.ref k, .ref pa, .ref la, .ref le, .int 0])), (k, .inr (2, [.ref a, .ref b, .int 1]))])) 0 0 := by
  refine mk_ctr (cc := cX4_part) (maxL := 5) (ret := none) (by decide) rfl (Nat.le_of_ble_eq_true rfl) ?_
  intro p e s m args below meth c A Q hx hb hr hts hown hlocks hin hml hP hK hD hN hZ hA hS hQ ls hl
  have hl : lv_has ls 5 [(0, .ref o)] := hl
  obtain ⟨H, hH⟩ : ∃ H : Heap, H = s.heap := ⟨_, rfl⟩
  obtain ⟨locs, hlo⟩ : ∃ x : List Loc, x = [] := ⟨_, rfl⟩
  rw [← hH] at hP
  have hS : va_S A s.heap H locs := by rw [hH, hlo]; exact hS
  have hgo : W p l e rm_c_L_part s m args below meth c H locs 0 0 Q (F0 m 0 ls []) := by
    clear hH hlo
    refine lv_aload_n hx hb dX4_part_0 rfl (lv_at hl 0 rfl) ?_
    refine va_get (C := RX4) (T := TX4) (N := 12) (v := .ref al) hx hb hts hi_X4_part_X4 hown hK hP 0 rfl rfl 0 (by decide) (hts (.fieldLink RX4 52 "BothWays$Least" "all" "LBothWays$Beginnings;") (by decide +kernel)) (fun _ h => h) rfl dX4_part_1 ?_
    refine va_getN (C := RX0) (T := TX0) (N := 5) (v := .ref fi) hx hb hts hi_X4_part_X0 hown hK hP 6 rfl rfl 1 (by decide) (nf_33 hN) (fun _ h => h) rfl dX4_part_4 ?_
    refine va_getN (C := RX1) (T := TX1) (N := 5) (v := .ref k) hx hb hts hi_X4_part_X1 hown hK hP 9 rfl rfl 0 (by decide) (nf_26 hN) (fun _ h => h) rfl dX4_part_7 ?_
    refine va_getN (C := RX2) (T := TX2) (N := 3) (v := .int 1) hx hb hts hi_X4_part_X2 hown hK hP 10 rfl rfl 2 (by decide) (nf_21 hN) (fun _ h => h) rfl dX4_part_10 ?_
    refine lv_istore_n (lv' := [(1, .int 1), (0, .ref o)]) hx hb dX4_part_13 rfl hl (by decide) rfl (fun ls hl => ?_)
    refine lv_aload_n hx hb dX4_part_14 rfl (lv_at hl 1 rfl) ?_
    refine va_get (C := RX4) (T := TX4) (N := 12) (v := .ref lk) hx hb hts hi_X4_part_X4 hown hK hP 0 rfl rfl 3 (by decide) (hts (.fieldLink RX4 23 "BothWays$Least" "keys" "LBothWays$Keys;") (by decide +kernel)) (fun _ h => h) rfl dX4_part_15 ?_
    refine cj_v 0 0 (wr := [(o, .inr (4, [.ref al, .ref gr, .ref fr, .ref lk, .int 0, .ref ln, .ref lw, .ref lz, .int 0, .ref na, .ref nb, .int 0])), (gr, .inl (cT 0, 800, .inl (fun _ => 0))), (fr, .inl (cT 0, 800, .inl (fun _ => 0))), (ka, .inl (cT 1, 800, .inr (.inl (fun _ => 0)))), (al, .inr (0, [.ref o6, .ref fi, .ref nx, .ref en, .int 0])), (nx, .inl (cT 0, 2400, .inl (fun _ => 0))), (en, .inl (cT 0, 800, .inl (fun _ => 0))), (fi, .inr (1, [.ref k, .ref pa, .ref la, .ref le, .int 0])), (k, .inr (2, [.ref a, .ref b, .int 1]))]) (va_runV (As := []) (rest := []) ⟨hx, hb, hml, hown, hts⟩ (c_K_clear l g cT H.size lk ka kb 0 2048 (fun _ => 0) (by decide)) (cwV 0 hts gX4_part_X2_clear rfl rfl rfl yd_X2_clear ⟨(Nat.le_of_ble_eq_true rfl), (Nat.le_of_ble_eq_true rfl)⟩) (preV (wc := [(lk, .inr (2, [.ref ka, .ref kb, .int 0])), (kb, .inl (cT 0, 2048, .inl (fun _ => 0)))]) rfl hP hD hK hN hZ hS hA [3, 5] rfl (by decide) (ci := 2) (q0 := 3) rfl rfl) rfl rfl hl.1 rfl (lv_room (Nat.le_of_ble_eq_true rfl)) dX4_part_18 ⟨(Nat.le_of_ble_eq_true rfl), (Nat.le_of_ble_eq_true rfl)⟩) hP hD hS hA [3, 5] [0, 1, 2, 4, 6, 7, 8, 9, 10] rfl rfl (by decide) (by decide) (Nat.le_of_ble_eq_true rfl) (Nat.le_of_ble_eq_true rfl) (fun u H locs h_2 hP hD hS => ?_)
    have hP : va_P g vwCl [(o, .inr (4, [.ref al, .ref gr, .ref fr, .ref lk, .int 0, .ref ln, .ref lw, .ref lz, .int 0, .ref na, .ref nb, .int 0])), (gr, .inl (cT 0, 800, .inl (fun _ => 0))), (fr, .inl (cT 0, 800, .inl (fun _ => 0))), (ka, .inl (cT 1, 800, .inr (.inl (fun _ => 0)))), (al, .inr (0, [.ref o6, .ref fi, .ref nx, .ref en, .int 0])), (nx, .inl (cT 0, 2400, .inl (fun _ => 0))), (en, .inl (cT 0, 800, .inl (fun _ => 0))), (fi, .inr (1, [.ref k, .ref pa, .ref la, .ref le, .int 0])), (k, .inr (2, [.ref a, .ref b, .int 1])), (lk, .inr (2, [.ref ka, .ref kb, .int 0])), (kb, .inl (cT 0, 2048, .inl (fun _ => 0)))] H := hP
    have hD : va_D A [(o, .inr (4, [.ref al, .ref gr, .ref fr, .ref lk, .int 0, .ref ln, .ref lw, .ref lz, .int 0, .ref na, .ref nb, .int 0])), (gr, .inl (cT 0, 800, .inl (fun _ => 0))), (fr, .inl (cT 0, 800, .inl (fun _ => 0))), (ka, .inl (cT 1, 800, .inr (.inl (fun _ => 0)))), (al, .inr (0, [.ref o6, .ref fi, .ref nx, .ref en, .int 0])), (nx, .inl (cT 0, 2400, .inl (fun _ => 0))), (en, .inl (cT 0, 800, .inl (fun _ => 0))), (fi, .inr (1, [.ref k, .ref pa, .ref la, .ref le, .int 0])), (k, .inr (2, [.ref a, .ref b, .int 1])), (lk, .inr (2, [.ref ka, .ref kb, .int 0])), (kb, .inl (cT 0, 2048, .inl (fun _ => 0)))] := hD
    refine lv_iconst (v := 0) hx hb dX4_part_21 (by decide) ?_
    refine lv_istore_n (lv' := [(2, .int 0), (1, .int 1), (0, .ref o)]) hx hb dX4_part_22 rfl hl (by decide) rfl (fun ls hl => ?_)
    refine lv_iload_n hx hb dX4_part_23 rfl (lv_at hl 0 rfl) ?_
    refine lv_iload_n hx hb dX4_part_24 rfl (lv_at hl 1 rfl) ?_
    refine icmp_ge_f hx hb dX4_part_25 74 (by decide) (by decide) ?_
    refine lv_iload_n hx hb dX4_part_28 rfl (lv_at hl 0 rfl) ?_
    refine lv_sipush (v := 800) hx hb dX4_part_29 (by decide) ?_
    refine icmp_ge_f hx hb dX4_part_32 74 (by decide) (by decide) ?_
    refine lv_aload_n hx hb dX4_part_35 rfl (lv_at hl 2 rfl) ?_
    refine va_get (C := RX4) (T := TX4) (N := 12) (v := .ref gr) hx hb hts hi_X4_part_X4 hown hK hP 0 rfl rfl 1 (by decide) (hts (.fieldLink RX4 9 "BothWays$Least" "groups" "[I") (by decide +kernel)) (fun _ h => h) rfl dX4_part_36 ?_
    refine lv_iload_n hx hb dX4_part_39 rfl (lv_at hl 0 rfl) ?_
    refine lv_iconst (v := 0) hx hb dX4_part_40 (by decide) ?_
    refine lv_aload_n hx hb dX4_part_41 rfl (lv_at hl 2 rfl) ?_
    refine va_get (C := RX4) (T := TX4) (N := 12) (v := .ref lk) hx hb hts hi_X4_part_X4 hown hK hP 0 rfl rfl 3 (by decide) (hts (.fieldLink RX4 23 "BothWays$Least" "keys" "LBothWays$Keys;") (by decide +kernel)) (fun _ h => h) rfl dX4_part_42 ?_
    refine lv_aload_n hx hb dX4_part_45 rfl (lv_at hl 2 rfl) ?_
    refine va_get (C := RX4) (T := TX4) (N := 12) (v := .ref al) hx hb hts hi_X4_part_X4 hown hK hP 0 rfl rfl 0 (by decide) (hts (.fieldLink RX4 52 "BothWays$Least" "all" "LBothWays$Beginnings;") (by decide +kernel)) (fun _ h => h) rfl dX4_part_46 ?_
    refine lv_iload_n hx hb dX4_part_49 rfl (lv_at hl 0 rfl) ?_
    refine cj_i 0 0 (wr := [(o, .inr (4, [.ref al, .ref gr, .ref fr, .ref lk, .int 0, .ref ln, .ref lw, .ref lz, .int 0, .ref na, .ref nb, .int 0])), (gr, .inl (cT 0, 800, .inl (fun _ => 0))), (fr, .inl (cT 0, 800, .inl (fun _ => 0))), (ka, .inl (cT 1, 800, .inr (.inl (fun _ => 0)))), (nx, .inl (cT 0, 2400, .inl (fun _ => 0))), (fi, .inr (1, [.ref k, .ref pa, .ref la, .ref le, .int 0])), (k, .inr (2, [.ref a, .ref b, .int 1])), (lk, .inr (2, [.ref ka, .ref kb, .int 0])), (kb, .inl (cT 0, 2048, .inl (fun _ => 0)))]) (va_runV (As := [.int 0]) (rest := [.ref lk, .int 0, .int 0, .ref gr]) ⟨hx, hb, hml, hown, hts⟩ (c_B_takes l g cT H.size al o6 fi nx en) (cwV 1 hts gX4_part_X0_takes rfl rfl rfl yd_X0_takes ⟨(Nat.le_of_ble_eq_true rfl), (Nat.le_of_ble_eq_true rfl)⟩) (preV (wc := [(al, .inr (0, [.ref o6, .ref fi, .ref nx, .ref en, .int 0])), (en, .inl (cT 0, 800, .inl (fun _ => 0)))]) rfl hP hD hK hN hZ hS hA [4, 6] rfl (by decide) (ci := 0) (q0 := 4) rfl rfl) rfl rfl hl.1 rfl (lv_room (Nat.le_of_ble_eq_true rfl)) dX4_part_50 ⟨(Nat.le_of_ble_eq_true rfl), (Nat.le_of_ble_eq_true rfl)⟩) hP hD hS hA [4, 6] [0, 1, 2, 3, 5, 7, 8, 9, 10] rfl rfl (by decide) (by decide) (Nat.le_of_ble_eq_true rfl) (Nat.le_of_ble_eq_true rfl) (fun r_3 u H locs h_4 hP hD hS => ?_)
    have hP : va_P g vwCl [(o, .inr (4, [.ref al, .ref gr, .ref fr, .ref lk, .int 0, .ref ln, .ref lw, .ref lz, .int 0, .ref na, .ref nb, .int 0])), (gr, .inl (cT 0, 800, .inl (fun _ => 0))), (fr, .inl (cT 0, 800, .inl (fun _ => 0))), (ka, .inl (cT 1, 800, .inr (.inl (fun _ => 0)))), (nx, .inl (cT 0, 2400, .inl (fun _ => 0))), (fi, .inr (1, [.ref k, .ref pa, .ref la, .ref le, .int 0])), (k, .inr (2, [.ref a, .ref b, .int 1])), (lk, .inr (2, [.ref ka, .ref kb, .int 0])), (kb, .inl (cT 0, 2048, .inl (fun _ => 0))), (al, .inr (0, [.ref o6, .ref fi, .ref nx, .ref en, .int 0])), (en, .inl (cT 0, 800, .inl (fun _ => 0)))] H := hP
    have hD : va_D A [(o, .inr (4, [.ref al, .ref gr, .ref fr, .ref lk, .int 0, .ref ln, .ref lw, .ref lz, .int 0, .ref na, .ref nb, .int 0])), (gr, .inl (cT 0, 800, .inl (fun _ => 0))), (fr, .inl (cT 0, 800, .inl (fun _ => 0))), (ka, .inl (cT 1, 800, .inr (.inl (fun _ => 0)))), (nx, .inl (cT 0, 2400, .inl (fun _ => 0))), (fi, .inr (1, [.ref k, .ref pa, .ref la, .ref le, .int 0])), (k, .inr (2, [.ref a, .ref b, .int 1])), (lk, .inr (2, [.ref ka, .ref kb, .int 0])), (kb, .inl (cT 0, 2048, .inl (fun _ => 0))), (al, .inr (0, [.ref o6, .ref fi, .ref nx, .ref en, .int 0])), (en, .inl (cT 0, 800, .inl (fun _ => 0)))] := hD
    subst h_4
    refine if_eq_t hx hb 60 dX4_part_53 (by decide) (by decide) ?_
    refine lv_lconst (v := 0) hx hb dX4_part_60 (by decide) ?_
    refine cj_i 0 0 (wr := [(o, .inr (4, [.ref al, .ref gr, .ref fr, .ref lk, .int 0, .ref ln, .ref lw, .ref lz, .int 0, .ref na, .ref nb, .int 0])), (gr, .inl (cT 0, 800, .inl (fun _ => 0))), (fr, .inl (cT 0, 800, .inl (fun _ => 0))), (nx, .inl (cT 0, 2400, .inl (fun _ => 0))), (fi, .inr (1, [.ref k, .ref pa, .ref la, .ref le, .int 0])), (k, .inr (2, [.ref a, .ref b, .int 1])), (al, .inr (0, [.ref o6, .ref fi, .ref nx, .ref en, .int 0])), (en, .inl (cT 0, 800, .inl (fun _ => 0)))]) (va_runV (As := [.long 0]) (rest := [.int 0, .int 0, .ref gr]) ⟨hx, hb, hml, hown, hts⟩ (c_K_indexWith_800_0e l g cT H.size lk ka kb) (cwV 1 hts gX4_part_X2_indexWith rfl rfl rfl yd_X2_indexWith ⟨(Nat.le_of_ble_eq_true rfl), (Nat.le_of_ble_eq_true rfl)⟩) (preV (wc := [(lk, .inr (2, [.ref ka, .ref kb, .int 0])), (ka, .inl (cT 1, 800, .inr (.inl (fun _ => 0)))), (kb, .inl (cT 0, 2048, .inl (fun _ => 0)))]) rfl hP hD hK hN hZ hS hA [7, 3, 8] rfl (by decide) (ci := 2) (q0 := 7) rfl rfl) rfl rfl hl.1 rfl (lv_room (Nat.le_of_ble_eq_true rfl)) dX4_part_61 ⟨(Nat.le_of_ble_eq_true rfl), (Nat.le_of_ble_eq_true rfl)⟩) hP hD hS hA [7, 3, 8] [0, 1, 2, 4, 5, 6, 9, 10] rfl rfl (by decide) (by decide) (Nat.le_of_ble_eq_true rfl) (Nat.le_of_ble_eq_true rfl) (fun r_5 u H locs h_6 hP hD hS => ?_)
    have hP : va_P g vwCl [(o, .inr (4, [.ref al, .ref gr, .ref fr, .ref lk, .int 0, .ref ln, .ref lw, .ref lz, .int 0, .ref na, .ref nb, .int 0])), (gr, .inl (cT 0, 800, .inl (fun _ => 0))), (fr, .inl (cT 0, 800, .inl (fun _ => 0))), (nx, .inl (cT 0, 2400, .inl (fun _ => 0))), (fi, .inr (1, [.ref k, .ref pa, .ref la, .ref le, .int 0])), (k, .inr (2, [.ref a, .ref b, .int 1])), (al, .inr (0, [.ref o6, .ref fi, .ref nx, .ref en, .int 0])), (en, .inl (cT 0, 800, .inl (fun _ => 0))), (lk, .inr (2, [.ref ka, .ref kb, .int 1])), (ka, .inl (cT 1, 800, .inr (.inl (fun _ => 0)))), (kb, .inl (cT 0, 2048, .inl (upd (fun _ => 0) 0 1)))] H := hP
    have hD : va_D A [(o, .inr (4, [.ref al, .ref gr, .ref fr, .ref lk, .int 0, .ref ln, .ref lw, .ref lz, .int 0, .ref na, .ref nb, .int 0])), (gr, .inl (cT 0, 800, .inl (fun _ => 0))), (fr, .inl (cT 0, 800, .inl (fun _ => 0))), (nx, .inl (cT 0, 2400, .inl (fun _ => 0))), (fi, .inr (1, [.ref k, .ref pa, .ref la, .ref le, .int 0])), (k, .inr (2, [.ref a, .ref b, .int 1])), (al, .inr (0, [.ref o6, .ref fi, .ref nx, .ref en, .int 0])), (en, .inl (cT 0, 800, .inl (fun _ => 0))), (lk, .inr (2, [.ref ka, .ref kb, .int 1])), (ka, .inl (cT 1, 800, .inr (.inl (fun _ => 0)))), (kb, .inl (cT 0, 2048, .inl (upd (fun _ => 0) 0 1)))] := hD
    subst h_6
    refine va_mmax hx hb (hml.trans hl.1.symm) hown (hts (.methodLink RX4 106 Lib.Math.max.name) (by decide +kernel)) (hts (.static Lib.Math.max.name) (by decide +kernel)) (hts (.initialized "java/lang/Math") (by decide +kernel)) (hts (.code Lib.Math.max.name Lib.Math.max.code 2 (some .int)) (by decide +kernel)) (Nat.le_of_ble_eq_true rfl) (Nat.le_of_ble_eq_true rfl) (Nat.le_of_ble_eq_true rfl) (Nat.le_of_ble_eq_true rfl) dX4_part_64 ?_
    refine tI 0 (by decide) ?_
    refine w_iast (f' := (fun _ => 0)) hx hb hK hP hD hS 1 rfl dX4_part_67 (inC (by decide)) (upd_c _ _) (fun H locs hP hD hS => ?_)
    have hP : va_P g vwCl [(o, .inr (4, [.ref al, .ref gr, .ref fr, .ref lk, .int 0, .ref ln, .ref lw, .ref lz, .int 0, .ref na, .ref nb, .int 0])), (gr, .inl (cT 0, 800, .inl (fun _ => 0))), (fr, .inl (cT 0, 800, .inl (fun _ => 0))), (nx, .inl (cT 0, 2400, .inl (fun _ => 0))), (fi, .inr (1, [.ref k, .ref pa, .ref la, .ref le, .int 0])), (k, .inr (2, [.ref a, .ref b, .int 1])), (al, .inr (0, [.ref o6, .ref fi, .ref nx, .ref en, .int 0])), (en, .inl (cT 0, 800, .inl (fun _ => 0))), (lk, .inr (2, [.ref ka, .ref kb, .int 1])), (ka, .inl (cT 1, 800, .inr (.inl (fun _ => 0)))), (kb, .inl (cT 0, 2048, .inl (upd (fun _ => 0) 0 1)))] H := hP
    have hD : va_D A [(o, .inr (4, [.ref al, .ref gr, .ref fr, .ref lk, .int 0, .ref ln, .ref lw, .ref lz, .int 0, .ref na, .ref nb, .int 0])), (gr, .inl (cT 0, 800, .inl (fun _ => 0))), (fr, .inl (cT 0, 800, .inl (fun _ => 0))), (nx, .inl (cT 0, 2400, .inl (fun _ => 0))), (fi, .inr (1, [.ref k, .ref pa, .ref la, .ref le, .int 0])), (k, .inr (2, [.ref a, .ref b, .int 1])), (al, .inr (0, [.ref o6, .ref fi, .ref nx, .ref en, .int 0])), (en, .inl (cT 0, 800, .inl (fun _ => 0))), (lk, .inr (2, [.ref ka, .ref kb, .int 1])), (ka, .inl (cT 1, 800, .inr (.inl (fun _ => 0)))), (kb, .inl (cT 0, 2048, .inl (upd (fun _ => 0) 0 1)))] := hD
    refine lv_iinc (v := 1) (lv' := [(2, .int 1), (1, .int 1), (0, .ref o)]) hx hb dX4_part_68 hl (k := 0) rfl (by decide) (by decide) rfl (fun ls hl => ?_)
    refine lv_goto (tgt := 23) hx hb dX4_part_71 (by decide) ?_
    refine lv_iload_n hx hb dX4_part_23 rfl (lv_at hl 0 rfl) ?_
    refine lv_iload_n hx hb dX4_part_24 rfl (lv_at hl 1 rfl) ?_
    refine icmp_ge_t hx hb 74 dX4_part_25 (by decide) (by decide) ?_
    refine lv_iconst (v := 0) hx hb dX4_part_74 (by decide) ?_
    refine lv_istore_n (lv' := [(2, .int 0), (1, .int 1), (0, .ref o)]) hx hb dX4_part_75 rfl hl (by decide) rfl (fun ls hl => ?_)
    refine lv_iload_n hx hb dX4_part_76 rfl (lv_at hl 0 rfl) ?_
    refine lv_sipush (v := 800) hx hb dX4_part_77 (by decide) ?_
    refine icmp_ge_f hx hb dX4_part_80 133 (by decide) (by decide) ?_
    refine lv_aload_n hx hb dX4_part_83 rfl (lv_at hl 2 rfl) ?_
    refine va_get (C := RX4) (T := TX4) (N := 12) (v := .ref lk) hx hb hts hi_X4_part_X4 hown hK hP 0 rfl rfl 3 (by decide) (hts (.fieldLink RX4 23 "BothWays$Least" "keys" "LBothWays$Keys;") (by decide +kernel)) (fun _ h => h) rfl dX4_part_84 ?_
    refine va_getN (C := RX2) (T := TX2) (N := 3) (v := .int 1) hx hb hts hi_X4_part_X2 hown hK hP 8 rfl rfl 2 (by decide) (nf_21 hN) (fun _ h => h) rfl dX4_part_87 ?_
    refine lv_istore_n (lv' := [(3, .int 1), (2, .int 0), (1, .int 1), (0, .ref o)]) hx hb dX4_part_90 rfl hl (by decide) rfl (fun ls hl => ?_)
    refine lv_iconst (v := 0) hx hb dX4_part_91 (by decide) ?_
    refine lv_istore (lv' := [(4, .int 0), (3, .int 1), (2, .int 0), (1, .int 1), (0, .ref o)]) hx hb dX4_part_92 hl (by decide) rfl (fun ls hl => ?_)
    refine lv_iload hx hb dX4_part_94 (lv_at hl 0 rfl) ?_
    refine lv_iconst (v := 3) hx hb dX4_part_96 (by decide) ?_
    refine icmp_ge_f hx hb dX4_part_97 113 (by decide) (by decide) ?_
    refine lv_aload_n hx hb dX4_part_100 rfl (lv_at hl 4 rfl) ?_
    refine lv_iload hx hb dX4_part_101 (lv_at hl 0 rfl) ?_
    refine lv_iload_n hx hb dX4_part_103 rfl (lv_at hl 3 rfl) ?_
    refine cj_v 0 0 (wr := [(fi, .inr (1, [.ref k, .ref pa, .ref la, .ref le, .int 0])), (k, .inr (2, [.ref a, .ref b, .int 1])), (en, .inl (cT 0, 800, .inl (fun _ => 0)))]) (va_runV (As := [.int 0, .int 1]) (rest := []) ⟨hx, hb, hml, hown, hts⟩ (c_L_partBy_0 l g cT H.size o al gr fr lk ln lw lz na nb ka kb 0 0 0 o6 fi nx en) (cwV 2 hts gX4_part_X4_partBy rfl rfl rfl yd_X4_partBy ⟨(Nat.le_of_ble_eq_true rfl), (Nat.le_of_ble_eq_true rfl)⟩) (preV (wc := [(o, .inr (4, [.ref al, .ref gr, .ref fr, .ref lk, .int 0, .ref ln, .ref lw, .ref lz, .int 0, .ref na, .ref nb, .int 0])), (gr, .inl (cT 0, 800, .inl (fun _ => 0))), (fr, .inl (cT 0, 800, .inl (fun _ => 0))), (al, .inr (0, [.ref o6, .ref fi, .ref nx, .ref en, .int 0])), (nx, .inl (cT 0, 2400, .inl (fun _ => 0))), (lk, .inr (2, [.ref ka, .ref kb, .int 1])), (ka, .inl (cT 1, 800, .inr (.inl (fun _ => 0)))), (kb, .inl (cT 0, 2048, .inl (upd (fun _ => 0) 0 1)))]) rfl hP hD hK hN hZ hS hA [0, 1, 2, 6, 3, 8, 9, 10] rfl (by decide) (ci := 4) (q0 := 0) rfl rfl) rfl rfl hl.1 rfl (lv_room (Nat.le_of_ble_eq_true rfl)) dX4_part_104 ⟨(Nat.le_of_ble_eq_true rfl), (Nat.le_of_ble_eq_true rfl)⟩) hP hD hS hA [0, 1, 2, 6, 3, 8, 9, 10] [4, 5, 7] rfl rfl (by decide) (by decide) (Nat.le_of_ble_eq_true rfl) (Nat.le_of_ble_eq_true rfl) (fun u H locs h_8 hP hD hS => ?_)
    have hP : va_P g vwCl [(fi, .inr (1, [.ref k, .ref pa, .ref la, .ref le, .int 0])), (k, .inr (2, [.ref a, .ref b, .int 1])), (en, .inl (cT 0, 800, .inl (fun _ => 0))), (o, .inr (4, [.ref al, .ref gr, .ref fr, .ref lk, .int 0, .ref ln, .ref lw, .ref lz, .int 0, .ref na, .ref nb, .int 0])), (gr, .inl (cT 0, 800, .inl (fun _ => 0))), (fr, .inl (cT 0, 800, .inl (fun _ => 0))), (al, .inr (0, [.ref o6, .ref fi, .ref nx, .ref en, .int 0])), (nx, .inl (cT 0, 2400, .inl (fun _ => 0))), (lk, .inr (2, [.ref ka, .ref kb, .int 1])), (ka, .inl (cT 1, 800, .inr (.inl (fun _ => 0)))), (kb, .inl (cT 0, 2048, .inl (upd (fun _ => 0) 0 1)))] H := hP
    have hD : va_D A [(fi, .inr (1, [.ref k, .ref pa, .ref la, .ref le, .int 0])), (k, .inr (2, [.ref a, .ref b, .int 1])), (en, .inl (cT 0, 800, .inl (fun _ => 0))), (o, .inr (4, [.ref al, .ref gr, .ref fr, .ref lk, .int 0, .ref ln, .ref lw, .ref lz, .int 0, .ref na, .ref nb, .int 0])), (gr, .inl (cT 0, 800, .inl (fun _ => 0))), (fr, .inl (cT 0, 800, .inl (fun _ => 0))), (al, .inr (0, [.ref o6, .ref fi, .ref nx, .ref en, .int 0])), (nx, .inl (cT 0, 2400, .inl (fun _ => 0))), (lk, .inr (2, [.ref ka, .ref kb, .int 1])), (ka, .inl (cT 1, 800, .inr (.inl (fun _ => 0)))), (kb, .inl (cT 0, 2048, .inl (upd (fun _ => 0) 0 1)))] := hD
    refine lv_iinc (v := 1) (lv' := [(4, .int 1), (3, .int 1), (2, .int 0), (1, .int 1), (0, .ref o)]) hx hb dX4_part_107 hl (k := 0) rfl (by decide) (by decide) rfl (fun ls hl => ?_)
    refine lv_goto (tgt := 94) hx hb dX4_part_110 (by decide) ?_
    refine lv_iload hx hb dX4_part_94 (lv_at hl 0 rfl) ?_
    refine lv_iconst (v := 3) hx hb dX4_part_96 (by decide) ?_
    refine icmp_ge_f hx hb dX4_part_97 113 (by decide) (by decide) ?_
    refine lv_aload_n hx hb dX4_part_100 rfl (lv_at hl 4 rfl) ?_
    refine lv_iload hx hb dX4_part_101 (lv_at hl 0 rfl) ?_
    refine lv_iload_n hx hb dX4_part_103 rfl (lv_at hl 3 rfl) ?_
    refine cj_v 0 0 (wr := [(fi, .inr (1, [.ref k, .ref pa, .ref la, .ref le, .int 0])), (k, .inr (2, [.ref a, .ref b, .int 1])), (en, .inl (cT 0, 800, .inl (fun _ => 0)))]) (va_runV (As := [.int 1, .int 1]) (rest := []) ⟨hx, hb, hml, hown, hts⟩ (c_L_partBy_1 l g cT H.size o al gr fr lk ln lw lz na nb ka kb 0 0 0 o6 fi nx en) (cwV 2 hts gX4_part_X4_partBy rfl rfl rfl yd_X4_partBy ⟨(Nat.le_of_ble_eq_true rfl), (Nat.le_of_ble_eq_true rfl)⟩) (preV (wc := [(o, .inr (4, [.ref al, .ref gr, .ref fr, .ref lk, .int 0, .ref ln, .ref lw, .ref lz, .int 0, .ref na, .ref nb, .int 0])), (gr, .inl (cT 0, 800, .inl (fun _ => 0))), (fr, .inl (cT 0, 800, .inl (fun _ => 0))), (al, .inr (0, [.ref o6, .ref fi, .ref nx, .ref en, .int 0])), (nx, .inl (cT 0, 2400, .inl (fun _ => 0))), (lk, .inr (2, [.ref ka, .ref kb, .int 1])), (ka, .inl (cT 1, 800, .inr (.inl (fun _ => 0)))), (kb, .inl (cT 0, 2048, .inl (upd (fun _ => 0) 0 1)))]) rfl hP hD hK hN hZ hS hA [3, 4, 5, 6, 7, 8, 9, 10] rfl (by decide) (ci := 4) (q0 := 3) rfl rfl) rfl rfl hl.1 rfl (lv_room (Nat.le_of_ble_eq_true rfl)) dX4_part_104 ⟨(Nat.le_of_ble_eq_true rfl), (Nat.le_of_ble_eq_true rfl)⟩) hP hD hS hA [3, 4, 5, 6, 7, 8, 9, 10] [0, 1, 2] rfl rfl (by decide) (by decide) (Nat.le_of_ble_eq_true rfl) (Nat.le_of_ble_eq_true rfl) (fun u H locs h_10 hP hD hS => ?_)
    have hP : va_P g vwCl [(fi, .inr (1, [.ref k, .ref pa, .ref la, .ref le, .int 0])), (k, .inr (2, [.ref a, .ref b, .int 1])), (en, .inl (cT 0, 800, .inl (fun _ => 0))), (o, .inr (4, [.ref al, .ref gr, .ref fr, .ref lk, .int 0, .ref ln, .ref lw, .ref lz, .int 0, .ref na, .ref nb, .int 0])), (gr, .inl (cT 0, 800, .inl (fun _ => 0))), (fr, .inl (cT 0, 800, .inl (fun _ => 0))), (al, .inr (0, [.ref o6, .ref fi, .ref nx, .ref en, .int 0])), (nx, .inl (cT 0, 2400, .inl (fun _ => 0))), (lk, .inr (2, [.ref ka, .ref kb, .int 1])), (ka, .inl (cT 1, 800, .inr (.inl (fun _ => 0)))), (kb, .inl (cT 0, 2048, .inl (upd (fun _ => 0) 0 1)))] H := hP
    have hD : va_D A [(fi, .inr (1, [.ref k, .ref pa, .ref la, .ref le, .int 0])), (k, .inr (2, [.ref a, .ref b, .int 1])), (en, .inl (cT 0, 800, .inl (fun _ => 0))), (o, .inr (4, [.ref al, .ref gr, .ref fr, .ref lk, .int 0, .ref ln, .ref lw, .ref lz, .int 0, .ref na, .ref nb, .int 0])), (gr, .inl (cT 0, 800, .inl (fun _ => 0))), (fr, .inl (cT 0, 800, .inl (fun _ => 0))), (al, .inr (0, [.ref o6, .ref fi, .ref nx, .ref en, .int 0])), (nx, .inl (cT 0, 2400, .inl (fun _ => 0))), (lk, .inr (2, [.ref ka, .ref kb, .int 1])), (ka, .inl (cT 1, 800, .inr (.inl (fun _ => 0)))), (kb, .inl (cT 0, 2048, .inl (upd (fun _ => 0) 0 1)))] := hD
    refine lv_iinc (v := 2) (lv' := [(4, .int 2), (3, .int 1), (2, .int 0), (1, .int 1), (0, .ref o)]) hx hb dX4_part_107 hl (k := 0) rfl (by decide) (by decide) rfl (fun ls hl => ?_)
    refine lv_goto (tgt := 94) hx hb dX4_part_110 (by decide) ?_
    refine lv_iload hx hb dX4_part_94 (lv_at hl 0 rfl) ?_
    refine lv_iconst (v := 3) hx hb dX4_part_96 (by decide) ?_
    refine icmp_ge_f hx hb dX4_part_97 113 (by decide) (by decide) ?_
    refine lv_aload_n hx hb dX4_part_100 rfl (lv_at hl 4 rfl) ?_
    refine lv_iload hx hb dX4_part_101 (lv_at hl 0 rfl) ?_
    refine lv_iload_n hx hb dX4_part_103 rfl (lv_at hl 3 rfl) ?_
    refine cj_v 0 0 (wr := [(fi, .inr (1, [.ref k, .ref pa, .ref la, .ref le, .int 0])), (k, .inr (2, [.ref a, .ref b, .int 1])), (en, .inl (cT 0, 800, .inl (fun _ => 0)))]) (va_runV (As := [.int 2, .int 1]) (rest := []) ⟨hx, hb, hml, hown, hts⟩ (c_L_partBy_2 l g cT H.size o al gr fr lk ln lw lz na nb ka kb 0 0 0 o6 fi nx en) (cwV 2 hts gX4_part_X4_partBy rfl rfl rfl yd_X4_partBy ⟨(Nat.le_of_ble_eq_true rfl), (Nat.le_of_ble_eq_true rfl)⟩) (preV (wc := [(o, .inr (4, [.ref al, .ref gr, .ref fr, .ref lk, .int 0, .ref ln, .ref lw, .ref lz, .int 0, .ref na, .ref nb, .int 0])), (gr, .inl (cT 0, 800, .inl (fun _ => 0))), (fr, .inl (cT 0, 800, .inl (fun _ => 0))), (al, .inr (0, [.ref o6, .ref fi, .ref nx, .ref en, .int 0])), (nx, .inl (cT 0, 2400, .inl (fun _ => 0))), (lk, .inr (2, [.ref ka, .ref kb, .int 1])), (ka, .inl (cT 1, 800, .inr (.inl (fun _ => 0)))), (kb, .inl (cT 0, 2048, .inl (upd (fun _ => 0) 0 1)))]) rfl hP hD hK hN hZ hS hA [3, 4, 5, 6, 7, 8, 9, 10] rfl (by decide) (ci := 4) (q0 := 3) rfl rfl) rfl rfl hl.1 rfl (lv_room (Nat.le_of_ble_eq_true rfl)) dX4_part_104 ⟨(Nat.le_of_ble_eq_true rfl), (Nat.le_of_ble_eq_true rfl)⟩) hP hD hS hA [3, 4, 5, 6, 7, 8, 9, 10] [0, 1, 2] rfl rfl (by decide) (by decide) (Nat.le_of_ble_eq_true rfl) (Nat.le_of_ble_eq_true rfl) (fun u H locs h_12 hP hD hS => ?_)
    have hP : va_P g vwCl [(fi, .inr (1, [.ref k, .ref pa, .ref la, .ref le, .int 0])), (k, .inr (2, [.ref a, .ref b, .int 1])), (en, .inl (cT 0, 800, .inl (fun _ => 0))), (o, .inr (4, [.ref al, .ref gr, .ref fr, .ref lk, .int 0, .ref ln, .ref lw, .ref lz, .int 0, .ref na, .ref nb, .int 0])), (gr, .inl (cT 0, 800, .inl (fun _ => 0))), (fr, .inl (cT 0, 800, .inl (fun _ => 0))), (al, .inr (0, [.ref o6, .ref fi, .ref nx, .ref en, .int 0])), (nx, .inl (cT 0, 2400, .inl (fun _ => 0))), (lk, .inr (2, [.ref ka, .ref kb, .int 1])), (ka, .inl (cT 1, 800, .inr (.inl (fun _ => 0)))), (kb, .inl (cT 0, 2048, .inl (upd (fun _ => 0) 0 1)))] H := hP
    have hD : va_D A [(fi, .inr (1, [.ref k, .ref pa, .ref la, .ref le, .int 0])), (k, .inr (2, [.ref a, .ref b, .int 1])), (en, .inl (cT 0, 800, .inl (fun _ => 0))), (o, .inr (4, [.ref al, .ref gr, .ref fr, .ref lk, .int 0, .ref ln, .ref lw, .ref lz, .int 0, .ref na, .ref nb, .int 0])), (gr, .inl (cT 0, 800, .inl (fun _ => 0))), (fr, .inl (cT 0, 800, .inl (fun _ => 0))), (al, .inr (0, [.ref o6, .ref fi, .ref nx, .ref en, .int 0])), (nx, .inl (cT 0, 2400, .inl (fun _ => 0))), (lk, .inr (2, [.ref ka, .ref kb, .int 1])), (ka, .inl (cT 1, 800, .inr (.inl (fun _ => 0)))), (kb, .inl (cT 0, 2048, .inl (upd (fun _ => 0) 0 1)))] := hD
    refine lv_iinc (v := 3) (lv' := [(4, .int 3), (3, .int 1), (2, .int 0), (1, .int 1), (0, .ref o)]) hx hb dX4_part_107 hl (k := 0) rfl (by decide) (by decide) rfl (fun ls hl => ?_)
    refine lv_goto (tgt := 94) hx hb dX4_part_110 (by decide) ?_
    refine lv_iload hx hb dX4_part_94 (lv_at hl 0 rfl) ?_
    refine lv_iconst (v := 3) hx hb dX4_part_96 (by decide) ?_
    refine icmp_ge_t hx hb 113 dX4_part_97 (by decide) (by decide) ?_
    refine lv_aload_n hx hb dX4_part_113 rfl (lv_at hl 4 rfl) ?_
    refine va_get (C := RX4) (T := TX4) (N := 12) (v := .ref lk) hx hb hts hi_X4_part_X4 hown hK hP 3 rfl rfl 3 (by decide) (hts (.fieldLink RX4 23 "BothWays$Least" "keys" "LBothWays$Keys;") (by decide +kernel)) (fun _ h => h) rfl dX4_part_114 ?_
    refine va_getN (C := RX2) (T := TX2) (N := 3) (v := .int 1) hx hb hts hi_X4_part_X2 hown hK hP 8 rfl rfl 2 (by decide) (nf_21 hN) (fun _ h => h) rfl dX4_part_117 ?_
    refine lv_iload_n hx hb dX4_part_120 rfl (lv_at hl 1 rfl) ?_
    refine icmp_ne_f hx hb dX4_part_121 127 (by decide) (by decide) ?_
    refine lv_goto (tgt := 133) hx hb dX4_part_124 (by decide) ?_
    refine lv_aload_n hx hb dX4_part_133 rfl (lv_at hl 4 rfl) ?_
    refine lv_aload_n hx hb dX4_part_134 rfl (lv_at hl 4 rfl) ?_
    refine va_get (C := RX4) (T := TX4) (N := 12) (v := .ref lk) hx hb hts hi_X4_part_X4 hown hK hP 3 rfl rfl 3 (by decide) (hts (.fieldLink RX4 23 "BothWays$Least" "keys" "LBothWays$Keys;") (by decide +kernel)) (fun _ h => h) rfl dX4_part_135 ?_
    refine va_getN (C := RX2) (T := TX2) (N := 3) (v := .int 1) hx hb hts hi_X4_part_X2 hown hK hP 8 rfl rfl 2 (by decide) (nf_21 hN) (fun _ h => h) rfl dX4_part_138 ?_
    refine va_put (C := RX4) (T := TX4) (N := 12) (v := .int 1) (ty := .int) hx hb hts hi_X4_part_X4 tyX4 tyX4_ok nmX4 hown hK hP hD hS 3 rfl rfl 4 (by decide) (hts (.fieldLink RX4 27 "BothWays$Least" "size" "I") (by decide +kernel)) (fun _ h => h) rfl (by decide +kernel) rfl rfl (Nat.le_of_ble_eq_true rfl) dX4_part_141 (fun H locs hP hD hS => ?_)
    have hP : va_P g vwCl [(fi, .inr (1, [.ref k, .ref pa, .ref la, .ref le, .int 0])), (k, .inr (2, [.ref a, .ref b, .int 1])), (en, .inl (cT 0, 800, .inl (fun _ => 0))), (o, .inr (4, [.ref al, .ref gr, .ref fr, .ref lk, .int 1, .ref ln, .ref lw, .ref lz, .int 0, .ref na, .ref nb, .int 0])), (gr, .inl (cT 0, 800, .inl (fun _ => 0))), (fr, .inl (cT 0, 800, .inl (fun _ => 0))), (al, .inr (0, [.ref o6, .ref fi, .ref nx, .ref en, .int 0])), (nx, .inl (cT 0, 2400, .inl (fun _ => 0))), (lk, .inr (2, [.ref ka, .ref kb, .int 1])), (ka, .inl (cT 1, 800, .inr (.inl (fun _ => 0)))), (kb, .inl (cT 0, 2048, .inl (upd (fun _ => 0) 0 1)))] H := hP
    have hD : va_D A [(fi, .inr (1, [.ref k, .ref pa, .ref la, .ref le, .int 0])), (k, .inr (2, [.ref a, .ref b, .int 1])), (en, .inl (cT 0, 800, .inl (fun _ => 0))), (o, .inr (4, [.ref al, .ref gr, .ref fr, .ref lk, .int 1, .ref ln, .ref lw, .ref lz, .int 0, .ref na, .ref nb, .int 0])), (gr, .inl (cT 0, 800, .inl (fun _ => 0))), (fr, .inl (cT 0, 800, .inl (fun _ => 0))), (al, .inr (0, [.ref o6, .ref fi, .ref nx, .ref en, .int 0])), (nx, .inl (cT 0, 2400, .inl (fun _ => 0))), (lk, .inr (2, [.ref ka, .ref kb, .int 1])), (ka, .inl (cT 1, 800, .inr (.inl (fun _ => 0)))), (kb, .inl (cT 0, 2048, .inl (upd (fun _ => 0) 0 1)))] := hD
    exact rt_v hx hb hr hlocks hQ hP hD hS () [3, 4, 5, 6, 7, 2, 0, 1] dX4_part_144 (Nat.le_of_ble_eq_true rfl) (Nat.le_of_ble_eq_true rfl) rfl (by decide) trivial
  rw [hH, hlo] at hgo
  exact hgo
theorem hi_X4_link_X4 : ∀ w ∈ wsX40, w ∈ wsX4_link := fun _ h => List.mem_cons_of_mem _ (List.mem_append_left _ (List.mem_append_left _ (List.mem_append_left _ (List.mem_append_right _ h))))
theorem hi_X4_link_X0 : ∀ w ∈ wsX00, w ∈ wsX4_link := fun _ h => List.mem_cons_of_mem _ (List.mem_append_left _ (List.mem_append_left _ (List.mem_append_right _ h)))
theorem hi_X4_link_X1 : ∀ w ∈ wsX10, w ∈ wsX4_link := fun _ h => List.mem_cons_of_mem _ (List.mem_append_left _ (List.mem_append_right _ h))
theorem hi_X4_link_X2 : ∀ w ∈ wsX20, w ∈ wsX4_link := fun _ h => List.mem_cons_of_mem _ (List.mem_append_right _ h)
abbrev rm_c_L_link : Room := { frames := 3, cells := 0, slots := 0, locals := 67 }
set_option maxHeartbeats 4000000 in
set_option maxRecDepth 100000 in
theorem c_L_link (l : Launch) (g : va_G) (cT : Nat → ClassId) (sz : Nat) (o : Nat) (al : Nat) (gr : Nat) (fr : Nat) (lk : Nat) (ln : Nat) (lw : Nat) (lz : Nat) (na : Nat) (nb : Nat) (o6 : Nat) (fi : Nat) (nx : Nat) (en : Nat) (k : Nat) (a : Nat) (b : Nat) (pa : Nat) (la : Nat) (le : Nat)  : Ctr l g cT sz yX4_link wsX4_link rm_c_L_link [.ref o] [(o, .inr (4, [.ref al, .ref gr, .ref fr, .ref lk, .int 1, .ref ln, .ref lw, .ref lz, .int 0, .ref na, .ref nb, .int 0])), (gr, .inl (cT 0, 800, .inl (fun _ => 0))), (lw, .inl (cT 0, 10400, .inl (fun _ => 0))), (ln, .inl (cT 0, 2400, .inl (fun _ => 0))), (al, .inr (0, [.ref o6, .ref fi, .ref nx, .ref en, .int 0])), (nx, .inl (cT 0, 2400, .inl (fun _ => 0))), (en, .inl (cT 0, 800, .inl (fun _ => 0))), (fi, .inr (1, [.ref k, .ref pa, .ref la, .ref le, .int 0])), (k, .inr (2, [.ref a, .ref b, .int 1]))] (QV g (fun (u : Unit) => True) (fun (u : Unit) => [(o, .inr (4, [.ref al, .ref gr, .ref fr, .ref lk, .int 1, .ref ln, .ref lw, .ref lz, .int 0, .ref na, .ref nb, .int 0])), (gr, .inl (cT 0, 800, .inl (fun _ => 0))), (lw, .inl (cT 0, 10400, .inl (fun _ => 0))), (ln, .inl (cT 0, 2400, .inl (fun _ => 0))), (al, .inr (0, [.ref o6, .ref fi, .ref nx, .ref en, .int 0])), (nx, .inl (cT 0, 2400, .inl (fun _ => 0))), (en, .inl (cT 0, 800, .inl (fun _ => 0))), (fi, .inr (1, [.ref k, .ref pa, .ref la, .ref le, .int 0])), (k, .inr (2, [.ref a, .ref b, .int 1]))])) 0 0 := by
  refine mk_ctr (cc := cX4_link) (maxL := 4) (ret := none) (by decide) rfl (Nat.le_of_ble_eq_true rfl) ?_
  intro p e s m args below meth c A Q hx hb hr hts hown hlocks hin hml hP hK hD hN hZ hA hS hQ ls hl
  have hl : lv_has ls 4 [(0, .ref o)] := hl
  obtain ⟨H, hH⟩ : ∃ H : Heap, H = s.heap := ⟨_, rfl⟩
  obtain ⟨locs, hlo⟩ : ∃ x : List Loc, x = [] := ⟨_, rfl⟩
  rw [← hH] at hP
  have hS : va_S A s.heap H locs := by rw [hH, hlo]; exact hS
  have hgo : W p l e rm_c_L_link s m args below meth c H locs 0 0 Q (F0 m 0 ls []) := by
    clear hH hlo
    refine lv_aload_n hx hb dX4_link_0 rfl (lv_at hl 0 rfl) ?_
    refine va_get (C := RX4) (T := TX4) (N := 12) (v := .ref lw) hx hb hts hi_X4_link_X4 hown hK hP 0 rfl rfl 6 (by decide) (hts (.fieldLink RX4 34 "BothWays$Least" "ways" "[I") (by decide +kernel)) (fun _ h => h) rfl dX4_link_1 ?_
    refine lv_iconst (v := 0) hx hb dX4_link_4 (by decide) ?_
    refine cj_v 0 0 (wr := [(o, .inr (4, [.ref al, .ref gr, .ref fr, .ref lk, .int 1, .ref ln, .ref lw, .ref lz, .int 0, .ref na, .ref nb, .int 0])), (gr, .inl (cT 0, 800, .inl (fun _ => 0))), (ln, .inl (cT 0, 2400, .inl (fun _ => 0))), (al, .inr (0, [.ref o6, .ref fi, .ref nx, .ref en, .int 0])), (nx, .inl (cT 0, 2400, .inl (fun _ => 0))), (en, .inl (cT 0, 800, .inl (fun _ => 0))), (fi, .inr (1, [.ref k, .ref pa, .ref la, .ref le, .int 0])), (k, .inr (2, [.ref a, .ref b, .int 1]))]) (va_runS (As := [.ref lw, .int 0]) (rest := []) ⟨hx, hb, hml, hown, hts⟩ (c_fillI l g cT H.size lw 10400 (fun _ => 0) 0 (by decide)) (va_cwS 2 hts gX4_link_J7_fill_53178 rfl rfl rfl yd_J7_fill_53178.2 ⟨(Nat.le_of_ble_eq_true rfl), (Nat.le_of_ble_eq_true rfl)⟩) (preS (wc := [(lw, .inl (cT 0, 10400, .inl (fun _ => 0)))]) rfl hP hD hK hN hZ hS hA [2] rfl (by decide)) rfl rfl hl.1 rfl (lv_room (Nat.le_of_ble_eq_true rfl)) dX4_link_5 ⟨(Nat.le_of_ble_eq_true rfl), (Nat.le_of_ble_eq_true rfl)⟩) hP hD hS hA [2] [0, 1, 3, 4, 5, 6, 7, 8] rfl rfl (by decide) (by decide) (Nat.le_of_ble_eq_true rfl) (Nat.le_of_ble_eq_true rfl) (fun u H locs h_2 hP hD hS => ?_)
    have hP : va_P g vwCl [(o, .inr (4, [.ref al, .ref gr, .ref fr, .ref lk, .int 1, .ref ln, .ref lw, .ref lz, .int 0, .ref na, .ref nb, .int 0])), (gr, .inl (cT 0, 800, .inl (fun _ => 0))), (ln, .inl (cT 0, 2400, .inl (fun _ => 0))), (al, .inr (0, [.ref o6, .ref fi, .ref nx, .ref en, .int 0])), (nx, .inl (cT 0, 2400, .inl (fun _ => 0))), (en, .inl (cT 0, 800, .inl (fun _ => 0))), (fi, .inr (1, [.ref k, .ref pa, .ref la, .ref le, .int 0])), (k, .inr (2, [.ref a, .ref b, .int 1])), (lw, .inl (cT 0, 10400, .inl (fun _ => 0)))] H := hP
    have hD : va_D A [(o, .inr (4, [.ref al, .ref gr, .ref fr, .ref lk, .int 1, .ref ln, .ref lw, .ref lz, .int 0, .ref na, .ref nb, .int 0])), (gr, .inl (cT 0, 800, .inl (fun _ => 0))), (ln, .inl (cT 0, 2400, .inl (fun _ => 0))), (al, .inr (0, [.ref o6, .ref fi, .ref nx, .ref en, .int 0])), (nx, .inl (cT 0, 2400, .inl (fun _ => 0))), (en, .inl (cT 0, 800, .inl (fun _ => 0))), (fi, .inr (1, [.ref k, .ref pa, .ref la, .ref le, .int 0])), (k, .inr (2, [.ref a, .ref b, .int 1])), (lw, .inl (cT 0, 10400, .inl (fun _ => 0)))] := hD
    refine lv_iconst (v := 0) hx hb dX4_link_8 (by decide) ?_
    refine lv_istore_n (lv' := [(1, .int 0), (0, .ref o)]) hx hb dX4_link_9 rfl hl (by decide) rfl (fun ls hl => ?_)
    refine lv_iload_n hx hb dX4_link_10 rfl (lv_at hl 0 rfl) ?_
    refine lv_aload_n hx hb dX4_link_11 rfl (lv_at hl 1 rfl) ?_
    refine va_get (C := RX4) (T := TX4) (N := 12) (v := .ref al) hx hb hts hi_X4_link_X4 hown hK hP 0 rfl rfl 0 (by decide) (hts (.fieldLink RX4 52 "BothWays$Least" "all" "LBothWays$Beginnings;") (by decide +kernel)) (fun _ h => h) rfl dX4_link_12 ?_
    refine va_getN (C := RX0) (T := TX0) (N := 5) (v := .ref fi) hx hb hts hi_X4_link_X0 hown hK hP 3 rfl rfl 1 (by decide) (nf_33 hN) (fun _ h => h) rfl dX4_link_15 ?_
    refine va_getN (C := RX1) (T := TX1) (N := 5) (v := .ref k) hx hb hts hi_X4_link_X1 hown hK hP 6 rfl rfl 0 (by decide) (nf_26 hN) (fun _ h => h) rfl dX4_link_18 ?_
    refine va_getN (C := RX2) (T := TX2) (N := 3) (v := .int 1) hx hb hts hi_X4_link_X2 hown hK hP 7 rfl rfl 2 (by decide) (nf_21 hN) (fun _ h => h) rfl dX4_link_21 ?_
    refine icmp_ge_f hx hb dX4_link_24 112 (by decide) (by decide) ?_
    refine lv_iload_n hx hb dX4_link_27 rfl (lv_at hl 0 rfl) ?_
    refine lv_sipush (v := 800) hx hb dX4_link_28 (by decide) ?_
    refine icmp_ge_f hx hb dX4_link_31 112 (by decide) (by decide) ?_
    refine lv_aload_n hx hb dX4_link_34 rfl (lv_at hl 1 rfl) ?_
    refine va_get (C := RX4) (T := TX4) (N := 12) (v := .ref gr) hx hb hts hi_X4_link_X4 hown hK hP 0 rfl rfl 1 (by decide) (hts (.fieldLink RX4 9 "BothWays$Least" "groups" "[I") (by decide +kernel)) (fun _ h => h) rfl dX4_link_35 ?_
    refine lv_iload_n hx hb dX4_link_38 rfl (lv_at hl 0 rfl) ?_
    refine w_iald (v := 0) hx hb hK hP 1 rfl dX4_link_39 (inC (by decide)) rfl ?_
    refine lv_istore_n (lv' := [(2, .int 0), (1, .int 0), (0, .ref o)]) hx hb dX4_link_40 rfl hl (by decide) rfl (fun ls hl => ?_)
    refine lv_iload_n hx hb dX4_link_41 rfl (lv_at hl 0 rfl) ?_
    refine if_lt_f hx hb dX4_link_42 106 (by decide) (by decide) ?_
    refine lv_iload_n hx hb dX4_link_45 rfl (lv_at hl 0 rfl) ?_
    refine lv_sipush (v := 800) hx hb dX4_link_46 (by decide) ?_
    refine icmp_lt_t hx hb 55 dX4_link_49 (by decide) (by decide) ?_
    refine lv_aload_n hx hb dX4_link_55 rfl (lv_at hl 2 rfl) ?_
    refine va_get (C := RX4) (T := TX4) (N := 12) (v := .ref lw) hx hb hts hi_X4_link_X4 hown hK hP 0 rfl rfl 6 (by decide) (hts (.fieldLink RX4 34 "BothWays$Least" "ways" "[I") (by decide +kernel)) (fun _ h => h) rfl dX4_link_56 ?_
    refine lv_iload_n hx hb dX4_link_59 rfl (lv_at hl 0 rfl) ?_
    refine lv_aload_n hx hb dX4_link_60 rfl (lv_at hl 2 rfl) ?_
    refine va_get (C := RX4) (T := TX4) (N := 12) (v := .ref al) hx hb hts hi_X4_link_X4 hown hK hP 0 rfl rfl 0 (by decide) (hts (.fieldLink RX4 52 "BothWays$Least" "all" "LBothWays$Beginnings;") (by decide +kernel)) (fun _ h => h) rfl dX4_link_61 ?_
    refine lv_iload_n hx hb dX4_link_64 rfl (lv_at hl 1 rfl) ?_
    refine cj_i 0 0 (wr := [(o, .inr (4, [.ref al, .ref gr, .ref fr, .ref lk, .int 1, .ref ln, .ref lw, .ref lz, .int 0, .ref na, .ref nb, .int 0])), (gr, .inl (cT 0, 800, .inl (fun _ => 0))), (ln, .inl (cT 0, 2400, .inl (fun _ => 0))), (nx, .inl (cT 0, 2400, .inl (fun _ => 0))), (fi, .inr (1, [.ref k, .ref pa, .ref la, .ref le, .int 0])), (k, .inr (2, [.ref a, .ref b, .int 1])), (lw, .inl (cT 0, 10400, .inl (fun _ => 0)))]) (va_runV (As := [.int 0]) (rest := [.int 0, .ref lw]) ⟨hx, hb, hml, hown, hts⟩ (c_B_takes l g cT H.size al o6 fi nx en) (cwV 1 hts gX4_link_X0_takes rfl rfl rfl yd_X0_takes ⟨(Nat.le_of_ble_eq_true rfl), (Nat.le_of_ble_eq_true rfl)⟩) (preV (wc := [(al, .inr (0, [.ref o6, .ref fi, .ref nx, .ref en, .int 0])), (en, .inl (cT 0, 800, .inl (fun _ => 0)))]) rfl hP hD hK hN hZ hS hA [3, 5] rfl (by decide) (ci := 0) (q0 := 3) rfl rfl) rfl rfl hl.1 rfl (lv_room (Nat.le_of_ble_eq_true rfl)) dX4_link_65 ⟨(Nat.le_of_ble_eq_true rfl), (Nat.le_of_ble_eq_true rfl)⟩) hP hD hS hA [3, 5] [0, 1, 2, 4, 6, 7, 8] rfl rfl (by decide) (by decide) (Nat.le_of_ble_eq_true rfl) (Nat.le_of_ble_eq_true rfl) (fun r_3 u H locs h_4 hP hD hS => ?_)
    have hP : va_P g vwCl [(o, .inr (4, [.ref al, .ref gr, .ref fr, .ref lk, .int 1, .ref ln, .ref lw, .ref lz, .int 0, .ref na, .ref nb, .int 0])), (gr, .inl (cT 0, 800, .inl (fun _ => 0))), (ln, .inl (cT 0, 2400, .inl (fun _ => 0))), (nx, .inl (cT 0, 2400, .inl (fun _ => 0))), (fi, .inr (1, [.ref k, .ref pa, .ref la, .ref le, .int 0])), (k, .inr (2, [.ref a, .ref b, .int 1])), (lw, .inl (cT 0, 10400, .inl (fun _ => 0))), (al, .inr (0, [.ref o6, .ref fi, .ref nx, .ref en, .int 0])), (en, .inl (cT 0, 800, .inl (fun _ => 0)))] H := hP
    have hD : va_D A [(o, .inr (4, [.ref al, .ref gr, .ref fr, .ref lk, .int 1, .ref ln, .ref lw, .ref lz, .int 0, .ref na, .ref nb, .int 0])), (gr, .inl (cT 0, 800, .inl (fun _ => 0))), (ln, .inl (cT 0, 2400, .inl (fun _ => 0))), (nx, .inl (cT 0, 2400, .inl (fun _ => 0))), (fi, .inr (1, [.ref k, .ref pa, .ref la, .ref le, .int 0])), (k, .inr (2, [.ref a, .ref b, .int 1])), (lw, .inl (cT 0, 10400, .inl (fun _ => 0))), (al, .inr (0, [.ref o6, .ref fi, .ref nx, .ref en, .int 0])), (en, .inl (cT 0, 800, .inl (fun _ => 0)))] := hD
    subst h_4
    refine if_eq_t hx hb 75 dX4_link_68 (by decide) (by decide) ?_
    refine lv_iconst (v := 0) hx hb dX4_link_75 (by decide) ?_
    refine w_iast (f' := (fun _ => 0)) hx hb hK hP hD hS 6 rfl dX4_link_76 (inC (by decide)) (upd_c _ _) (fun H locs hP hD hS => ?_)
    have hP : va_P g vwCl [(o, .inr (4, [.ref al, .ref gr, .ref fr, .ref lk, .int 1, .ref ln, .ref lw, .ref lz, .int 0, .ref na, .ref nb, .int 0])), (gr, .inl (cT 0, 800, .inl (fun _ => 0))), (ln, .inl (cT 0, 2400, .inl (fun _ => 0))), (nx, .inl (cT 0, 2400, .inl (fun _ => 0))), (fi, .inr (1, [.ref k, .ref pa, .ref la, .ref le, .int 0])), (k, .inr (2, [.ref a, .ref b, .int 1])), (lw, .inl (cT 0, 10400, .inl (fun _ => 0))), (al, .inr (0, [.ref o6, .ref fi, .ref nx, .ref en, .int 0])), (en, .inl (cT 0, 800, .inl (fun _ => 0)))] H := hP
    have hD : va_D A [(o, .inr (4, [.ref al, .ref gr, .ref fr, .ref lk, .int 1, .ref ln, .ref lw, .ref lz, .int 0, .ref na, .ref nb, .int 0])), (gr, .inl (cT 0, 800, .inl (fun _ => 0))), (ln, .inl (cT 0, 2400, .inl (fun _ => 0))), (nx, .inl (cT 0, 2400, .inl (fun _ => 0))), (fi, .inr (1, [.ref k, .ref pa, .ref la, .ref le, .int 0])), (k, .inr (2, [.ref a, .ref b, .int 1])), (lw, .inl (cT 0, 10400, .inl (fun _ => 0))), (al, .inr (0, [.ref o6, .ref fi, .ref nx, .ref en, .int 0])), (en, .inl (cT 0, 800, .inl (fun _ => 0)))] := hD
    refine lv_iconst (v := 0) hx hb dX4_link_77 (by decide) ?_
    refine lv_istore_n (lv' := [(3, .int 0), (2, .int 0), (1, .int 0), (0, .ref o)]) hx hb dX4_link_78 rfl hl (by decide) rfl (fun ls hl => ?_)
    refine lv_iload_n hx hb dX4_link_79 rfl (lv_at hl 0 rfl) ?_
    refine lv_iconst (v := 3) hx hb dX4_link_80 (by decide) ?_
    refine icmp_ge_f hx hb dX4_link_81 106 (by decide) (by decide) ?_
    refine lv_aload_n hx hb dX4_link_84 rfl (lv_at hl 3 rfl) ?_
    refine va_get (C := RX4) (T := TX4) (N := 12) (v := .ref ln) hx hb hts hi_X4_link_X4 hown hK hP 0 rfl rfl 5 (by decide) (hts (.fieldLink RX4 31 "BothWays$Least" "nexts" "[I") (by decide +kernel)) (fun _ h => h) rfl dX4_link_85 ?_
    refine lv_iload_n hx hb dX4_link_88 rfl (lv_at hl 1 rfl) ?_
    refine lv_iconst (v := 3) hx hb dX4_link_89 (by decide) ?_
    refine w_imul (v := 0) hx hb dX4_link_90 (by decide) ?_
    refine lv_iload_n hx hb dX4_link_91 rfl (lv_at hl 0 rfl) ?_
    refine w_iadd (v := 0) hx hb dX4_link_92 (by decide) ?_
    refine lv_aload_n hx hb dX4_link_93 rfl (lv_at hl 3 rfl) ?_
    refine lv_iload_n hx hb dX4_link_94 rfl (lv_at hl 2 rfl) ?_
    refine lv_iload_n hx hb dX4_link_95 rfl (lv_at hl 0 rfl) ?_
    refine cj_i 0 0 (wr := [(ln, .inl (cT 0, 2400, .inl (fun _ => 0))), (fi, .inr (1, [.ref k, .ref pa, .ref la, .ref le, .int 0])), (k, .inr (2, [.ref a, .ref b, .int 1])), (lw, .inl (cT 0, 10400, .inl (fun _ => 0))), (en, .inl (cT 0, 800, .inl (fun _ => 0)))]) (va_runV (As := [.int 0, .int 0]) (rest := [.int 0, .ref ln]) ⟨hx, hb, hml, hown, hts⟩ (c_L_groupBehind_0 l g cT H.size o al gr fr lk ln lw lz na nb 1 0 0 o6 fi nx en) (cwV 2 hts gX4_link_X4_groupBehind rfl rfl rfl yd_X4_groupBehind ⟨(Nat.le_of_ble_eq_true rfl), (Nat.le_of_ble_eq_true rfl)⟩) (preV (wc := [(o, .inr (4, [.ref al, .ref gr, .ref fr, .ref lk, .int 1, .ref ln, .ref lw, .ref lz, .int 0, .ref na, .ref nb, .int 0])), (gr, .inl (cT 0, 800, .inl (fun _ => 0))), (al, .inr (0, [.ref o6, .ref fi, .ref nx, .ref en, .int 0])), (nx, .inl (cT 0, 2400, .inl (fun _ => 0)))]) rfl hP hD hK hN hZ hS hA [0, 1, 7, 3] rfl (by decide) (ci := 4) (q0 := 0) rfl rfl) rfl rfl hl.1 rfl (lv_room (Nat.le_of_ble_eq_true rfl)) dX4_link_96 ⟨(Nat.le_of_ble_eq_true rfl), (Nat.le_of_ble_eq_true rfl)⟩) hP hD hS hA [0, 1, 7, 3] [2, 4, 5, 6, 8] rfl rfl (by decide) (by decide) (Nat.le_of_ble_eq_true rfl) (Nat.le_of_ble_eq_true rfl) (fun r_5 u H locs h_6 hP hD hS => ?_)
    have hP : va_P g vwCl [(ln, .inl (cT 0, 2400, .inl (fun _ => 0))), (fi, .inr (1, [.ref k, .ref pa, .ref la, .ref le, .int 0])), (k, .inr (2, [.ref a, .ref b, .int 1])), (lw, .inl (cT 0, 10400, .inl (fun _ => 0))), (en, .inl (cT 0, 800, .inl (fun _ => 0))), (o, .inr (4, [.ref al, .ref gr, .ref fr, .ref lk, .int 1, .ref ln, .ref lw, .ref lz, .int 0, .ref na, .ref nb, .int 0])), (gr, .inl (cT 0, 800, .inl (fun _ => 0))), (al, .inr (0, [.ref o6, .ref fi, .ref nx, .ref en, .int 0])), (nx, .inl (cT 0, 2400, .inl (fun _ => 0)))] H := hP
    have hD : va_D A [(ln, .inl (cT 0, 2400, .inl (fun _ => 0))), (fi, .inr (1, [.ref k, .ref pa, .ref la, .ref le, .int 0])), (k, .inr (2, [.ref a, .ref b, .int 1])), (lw, .inl (cT 0, 10400, .inl (fun _ => 0))), (en, .inl (cT 0, 800, .inl (fun _ => 0))), (o, .inr (4, [.ref al, .ref gr, .ref fr, .ref lk, .int 1, .ref ln, .ref lw, .ref lz, .int 0, .ref na, .ref nb, .int 0])), (gr, .inl (cT 0, 800, .inl (fun _ => 0))), (al, .inr (0, [.ref o6, .ref fi, .ref nx, .ref en, .int 0])), (nx, .inl (cT 0, 2400, .inl (fun _ => 0)))] := hD
    subst h_6
    refine w_iast (f' := (fun _ => 0)) hx hb hK hP hD hS 0 rfl dX4_link_99 (inC (by decide)) (upd_c _ _) (fun H locs hP hD hS => ?_)
    have hP : va_P g vwCl [(ln, .inl (cT 0, 2400, .inl (fun _ => 0))), (fi, .inr (1, [.ref k, .ref pa, .ref la, .ref le, .int 0])), (k, .inr (2, [.ref a, .ref b, .int 1])), (lw, .inl (cT 0, 10400, .inl (fun _ => 0))), (en, .inl (cT 0, 800, .inl (fun _ => 0))), (o, .inr (4, [.ref al, .ref gr, .ref fr, .ref lk, .int 1, .ref ln, .ref lw, .ref lz, .int 0, .ref na, .ref nb, .int 0])), (gr, .inl (cT 0, 800, .inl (fun _ => 0))), (al, .inr (0, [.ref o6, .ref fi, .ref nx, .ref en, .int 0])), (nx, .inl (cT 0, 2400, .inl (fun _ => 0)))] H := hP
    have hD : va_D A [(ln, .inl (cT 0, 2400, .inl (fun _ => 0))), (fi, .inr (1, [.ref k, .ref pa, .ref la, .ref le, .int 0])), (k, .inr (2, [.ref a, .ref b, .int 1])), (lw, .inl (cT 0, 10400, .inl (fun _ => 0))), (en, .inl (cT 0, 800, .inl (fun _ => 0))), (o, .inr (4, [.ref al, .ref gr, .ref fr, .ref lk, .int 1, .ref ln, .ref lw, .ref lz, .int 0, .ref na, .ref nb, .int 0])), (gr, .inl (cT 0, 800, .inl (fun _ => 0))), (al, .inr (0, [.ref o6, .ref fi, .ref nx, .ref en, .int 0])), (nx, .inl (cT 0, 2400, .inl (fun _ => 0)))] := hD
    refine lv_iinc (v := 1) (lv' := [(3, .int 1), (2, .int 0), (1, .int 0), (0, .ref o)]) hx hb dX4_link_100 hl (k := 0) rfl (by decide) (by decide) rfl (fun ls hl => ?_)
    refine lv_goto (tgt := 79) hx hb dX4_link_103 (by decide) ?_
    refine lv_iload_n hx hb dX4_link_79 rfl (lv_at hl 0 rfl) ?_
    refine lv_iconst (v := 3) hx hb dX4_link_80 (by decide) ?_
    refine icmp_ge_f hx hb dX4_link_81 106 (by decide) (by decide) ?_
    refine lv_aload_n hx hb dX4_link_84 rfl (lv_at hl 3 rfl) ?_
    refine va_get (C := RX4) (T := TX4) (N := 12) (v := .ref ln) hx hb hts hi_X4_link_X4 hown hK hP 5 rfl rfl 5 (by decide) (hts (.fieldLink RX4 31 "BothWays$Least" "nexts" "[I") (by decide +kernel)) (fun _ h => h) rfl dX4_link_85 ?_
    refine lv_iload_n hx hb dX4_link_88 rfl (lv_at hl 1 rfl) ?_
    refine lv_iconst (v := 3) hx hb dX4_link_89 (by decide) ?_
    refine w_imul (v := 0) hx hb dX4_link_90 (by decide) ?_
    refine lv_iload_n hx hb dX4_link_91 rfl (lv_at hl 0 rfl) ?_
    refine w_iadd (v := 1) hx hb dX4_link_92 (by decide) ?_
    refine lv_aload_n hx hb dX4_link_93 rfl (lv_at hl 3 rfl) ?_
    refine lv_iload_n hx hb dX4_link_94 rfl (lv_at hl 2 rfl) ?_
    refine lv_iload_n hx hb dX4_link_95 rfl (lv_at hl 0 rfl) ?_
    refine cj_i 0 0 (wr := [(ln, .inl (cT 0, 2400, .inl (fun _ => 0))), (fi, .inr (1, [.ref k, .ref pa, .ref la, .ref le, .int 0])), (k, .inr (2, [.ref a, .ref b, .int 1])), (lw, .inl (cT 0, 10400, .inl (fun _ => 0))), (en, .inl (cT 0, 800, .inl (fun _ => 0)))]) (va_runV (As := [.int 0, .int 1]) (rest := [.int 1, .ref ln]) ⟨hx, hb, hml, hown, hts⟩ (c_L_groupBehind_1 l g cT H.size o al gr fr lk ln lw lz na nb 1 0 0 o6 fi nx en) (cwV 2 hts gX4_link_X4_groupBehind rfl rfl rfl yd_X4_groupBehind ⟨(Nat.le_of_ble_eq_true rfl), (Nat.le_of_ble_eq_true rfl)⟩) (preV (wc := [(o, .inr (4, [.ref al, .ref gr, .ref fr, .ref lk, .int 1, .ref ln, .ref lw, .ref lz, .int 0, .ref na, .ref nb, .int 0])), (gr, .inl (cT 0, 800, .inl (fun _ => 0))), (al, .inr (0, [.ref o6, .ref fi, .ref nx, .ref en, .int 0])), (nx, .inl (cT 0, 2400, .inl (fun _ => 0)))]) rfl hP hD hK hN hZ hS hA [5, 6, 7, 8] rfl (by decide) (ci := 4) (q0 := 5) rfl rfl) rfl rfl hl.1 rfl (lv_room (Nat.le_of_ble_eq_true rfl)) dX4_link_96 ⟨(Nat.le_of_ble_eq_true rfl), (Nat.le_of_ble_eq_true rfl)⟩) hP hD hS hA [5, 6, 7, 8] [0, 1, 2, 3, 4] rfl rfl (by decide) (by decide) (Nat.le_of_ble_eq_true rfl) (Nat.le_of_ble_eq_true rfl) (fun r_7 u H locs h_8 hP hD hS => ?_)
    have hP : va_P g vwCl [(ln, .inl (cT 0, 2400, .inl (fun _ => 0))), (fi, .inr (1, [.ref k, .ref pa, .ref la, .ref le, .int 0])), (k, .inr (2, [.ref a, .ref b, .int 1])), (lw, .inl (cT 0, 10400, .inl (fun _ => 0))), (en, .inl (cT 0, 800, .inl (fun _ => 0))), (o, .inr (4, [.ref al, .ref gr, .ref fr, .ref lk, .int 1, .ref ln, .ref lw, .ref lz, .int 0, .ref na, .ref nb, .int 0])), (gr, .inl (cT 0, 800, .inl (fun _ => 0))), (al, .inr (0, [.ref o6, .ref fi, .ref nx, .ref en, .int 0])), (nx, .inl (cT 0, 2400, .inl (fun _ => 0)))] H := hP
    have hD : va_D A [(ln, .inl (cT 0, 2400, .inl (fun _ => 0))), (fi, .inr (1, [.ref k, .ref pa, .ref la, .ref le, .int 0])), (k, .inr (2, [.ref a, .ref b, .int 1])), (lw, .inl (cT 0, 10400, .inl (fun _ => 0))), (en, .inl (cT 0, 800, .inl (fun _ => 0))), (o, .inr (4, [.ref al, .ref gr, .ref fr, .ref lk, .int 1, .ref ln, .ref lw, .ref lz, .int 0, .ref na, .ref nb, .int 0])), (gr, .inl (cT 0, 800, .inl (fun _ => 0))), (al, .inr (0, [.ref o6, .ref fi, .ref nx, .ref en, .int 0])), (nx, .inl (cT 0, 2400, .inl (fun _ => 0)))] := hD
    subst h_8
    refine w_iast (f' := (fun _ => 0)) hx hb hK hP hD hS 0 rfl dX4_link_99 (inC (by decide)) (upd_c _ _) (fun H locs hP hD hS => ?_)
    have hP : va_P g vwCl [(ln, .inl (cT 0, 2400, .inl (fun _ => 0))), (fi, .inr (1, [.ref k, .ref pa, .ref la, .ref le, .int 0])), (k, .inr (2, [.ref a, .ref b, .int 1])), (lw, .inl (cT 0, 10400, .inl (fun _ => 0))), (en, .inl (cT 0, 800, .inl (fun _ => 0))), (o, .inr (4, [.ref al, .ref gr, .ref fr, .ref lk, .int 1, .ref ln, .ref lw, .ref lz, .int 0, .ref na, .ref nb, .int 0])), (gr, .inl (cT 0, 800, .inl (fun _ => 0))), (al, .inr (0, [.ref o6, .ref fi, .ref nx, .ref en, .int 0])), (nx, .inl (cT 0, 2400, .inl (fun _ => 0)))] H := hP
    have hD : va_D A [(ln, .inl (cT 0, 2400, .inl (fun _ => 0))), (fi, .inr (1, [.ref k, .ref pa, .ref la, .ref le, .int 0])), (k, .inr (2, [.ref a, .ref b, .int 1])), (lw, .inl (cT 0, 10400, .inl (fun _ => 0))), (en, .inl (cT 0, 800, .inl (fun _ => 0))), (o, .inr (4, [.ref al, .ref gr, .ref fr, .ref lk, .int 1, .ref ln, .ref lw, .ref lz, .int 0, .ref na, .ref nb, .int 0])), (gr, .inl (cT 0, 800, .inl (fun _ => 0))), (al, .inr (0, [.ref o6, .ref fi, .ref nx, .ref en, .int 0])), (nx, .inl (cT 0, 2400, .inl (fun _ => 0)))] := hD
    refine lv_iinc (v := 2) (lv' := [(3, .int 2), (2, .int 0), (1, .int 0), (0, .ref o)]) hx hb dX4_link_100 hl (k := 0) rfl (by decide) (by decide) rfl (fun ls hl => ?_)
    refine lv_goto (tgt := 79) hx hb dX4_link_103 (by decide) ?_
    refine lv_iload_n hx hb dX4_link_79 rfl (lv_at hl 0 rfl) ?_
    refine lv_iconst (v := 3) hx hb dX4_link_80 (by decide) ?_
    refine icmp_ge_f hx hb dX4_link_81 106 (by decide) (by decide) ?_
    refine lv_aload_n hx hb dX4_link_84 rfl (lv_at hl 3 rfl) ?_
    refine va_get (C := RX4) (T := TX4) (N := 12) (v := .ref ln) hx hb hts hi_X4_link_X4 hown hK hP 5 rfl rfl 5 (by decide) (hts (.fieldLink RX4 31 "BothWays$Least" "nexts" "[I") (by decide +kernel)) (fun _ h => h) rfl dX4_link_85 ?_
    refine lv_iload_n hx hb dX4_link_88 rfl (lv_at hl 1 rfl) ?_
    refine lv_iconst (v := 3) hx hb dX4_link_89 (by decide) ?_
    refine w_imul (v := 0) hx hb dX4_link_90 (by decide) ?_
    refine lv_iload_n hx hb dX4_link_91 rfl (lv_at hl 0 rfl) ?_
    refine w_iadd (v := 2) hx hb dX4_link_92 (by decide) ?_
    refine lv_aload_n hx hb dX4_link_93 rfl (lv_at hl 3 rfl) ?_
    refine lv_iload_n hx hb dX4_link_94 rfl (lv_at hl 2 rfl) ?_
    refine lv_iload_n hx hb dX4_link_95 rfl (lv_at hl 0 rfl) ?_
    refine cj_i 0 0 (wr := [(ln, .inl (cT 0, 2400, .inl (fun _ => 0))), (fi, .inr (1, [.ref k, .ref pa, .ref la, .ref le, .int 0])), (k, .inr (2, [.ref a, .ref b, .int 1])), (lw, .inl (cT 0, 10400, .inl (fun _ => 0))), (en, .inl (cT 0, 800, .inl (fun _ => 0)))]) (va_runV (As := [.int 0, .int 2]) (rest := [.int 2, .ref ln]) ⟨hx, hb, hml, hown, hts⟩ (c_L_groupBehind_2 l g cT H.size o al gr fr lk ln lw lz na nb 1 0 0 o6 fi nx en) (cwV 2 hts gX4_link_X4_groupBehind rfl rfl rfl yd_X4_groupBehind ⟨(Nat.le_of_ble_eq_true rfl), (Nat.le_of_ble_eq_true rfl)⟩) (preV (wc := [(o, .inr (4, [.ref al, .ref gr, .ref fr, .ref lk, .int 1, .ref ln, .ref lw, .ref lz, .int 0, .ref na, .ref nb, .int 0])), (gr, .inl (cT 0, 800, .inl (fun _ => 0))), (al, .inr (0, [.ref o6, .ref fi, .ref nx, .ref en, .int 0])), (nx, .inl (cT 0, 2400, .inl (fun _ => 0)))]) rfl hP hD hK hN hZ hS hA [5, 6, 7, 8] rfl (by decide) (ci := 4) (q0 := 5) rfl rfl) rfl rfl hl.1 rfl (lv_room (Nat.le_of_ble_eq_true rfl)) dX4_link_96 ⟨(Nat.le_of_ble_eq_true rfl), (Nat.le_of_ble_eq_true rfl)⟩) hP hD hS hA [5, 6, 7, 8] [0, 1, 2, 3, 4] rfl rfl (by decide) (by decide) (Nat.le_of_ble_eq_true rfl) (Nat.le_of_ble_eq_true rfl) (fun r_9 u H locs h_10 hP hD hS => ?_)
    have hP : va_P g vwCl [(ln, .inl (cT 0, 2400, .inl (fun _ => 0))), (fi, .inr (1, [.ref k, .ref pa, .ref la, .ref le, .int 0])), (k, .inr (2, [.ref a, .ref b, .int 1])), (lw, .inl (cT 0, 10400, .inl (fun _ => 0))), (en, .inl (cT 0, 800, .inl (fun _ => 0))), (o, .inr (4, [.ref al, .ref gr, .ref fr, .ref lk, .int 1, .ref ln, .ref lw, .ref lz, .int 0, .ref na, .ref nb, .int 0])), (gr, .inl (cT 0, 800, .inl (fun _ => 0))), (al, .inr (0, [.ref o6, .ref fi, .ref nx, .ref en, .int 0])), (nx, .inl (cT 0, 2400, .inl (fun _ => 0)))] H := hP
    have hD : va_D A [(ln, .inl (cT 0, 2400, .inl (fun _ => 0))), (fi, .inr (1, [.ref k, .ref pa, .ref la, .ref le, .int 0])), (k, .inr (2, [.ref a, .ref b, .int 1])), (lw, .inl (cT 0, 10400, .inl (fun _ => 0))), (en, .inl (cT 0, 800, .inl (fun _ => 0))), (o, .inr (4, [.ref al, .ref gr, .ref fr, .ref lk, .int 1, .ref ln, .ref lw, .ref lz, .int 0, .ref na, .ref nb, .int 0])), (gr, .inl (cT 0, 800, .inl (fun _ => 0))), (al, .inr (0, [.ref o6, .ref fi, .ref nx, .ref en, .int 0])), (nx, .inl (cT 0, 2400, .inl (fun _ => 0)))] := hD
    subst h_10
    refine w_iast (f' := (fun _ => 0)) hx hb hK hP hD hS 0 rfl dX4_link_99 (inC (by decide)) (upd_c _ _) (fun H locs hP hD hS => ?_)
    have hP : va_P g vwCl [(ln, .inl (cT 0, 2400, .inl (fun _ => 0))), (fi, .inr (1, [.ref k, .ref pa, .ref la, .ref le, .int 0])), (k, .inr (2, [.ref a, .ref b, .int 1])), (lw, .inl (cT 0, 10400, .inl (fun _ => 0))), (en, .inl (cT 0, 800, .inl (fun _ => 0))), (o, .inr (4, [.ref al, .ref gr, .ref fr, .ref lk, .int 1, .ref ln, .ref lw, .ref lz, .int 0, .ref na, .ref nb, .int 0])), (gr, .inl (cT 0, 800, .inl (fun _ => 0))), (al, .inr (0, [.ref o6, .ref fi, .ref nx, .ref en, .int 0])), (nx, .inl (cT 0, 2400, .inl (fun _ => 0)))] H := hP
    have hD : va_D A [(ln, .inl (cT 0, 2400, .inl (fun _ => 0))), (fi, .inr (1, [.ref k, .ref pa, .ref la, .ref le, .int 0])), (k, .inr (2, [.ref a, .ref b, .int 1])), (lw, .inl (cT 0, 10400, .inl (fun _ => 0))), (en, .inl (cT 0, 800, .inl (fun _ => 0))), (o, .inr (4, [.ref al, .ref gr, .ref fr, .ref lk, .int 1, .ref ln, .ref lw, .ref lz, .int 0, .ref na, .ref nb, .int 0])), (gr, .inl (cT 0, 800, .inl (fun _ => 0))), (al, .inr (0, [.ref o6, .ref fi, .ref nx, .ref en, .int 0])), (nx, .inl (cT 0, 2400, .inl (fun _ => 0)))] := hD
    refine lv_iinc (v := 3) (lv' := [(3, .int 3), (2, .int 0), (1, .int 0), (0, .ref o)]) hx hb dX4_link_100 hl (k := 0) rfl (by decide) (by decide) rfl (fun ls hl => ?_)
    refine lv_goto (tgt := 79) hx hb dX4_link_103 (by decide) ?_
    refine lv_iload_n hx hb dX4_link_79 rfl (lv_at hl 0 rfl) ?_
    refine lv_iconst (v := 3) hx hb dX4_link_80 (by decide) ?_
    refine icmp_ge_t hx hb 106 dX4_link_81 (by decide) (by decide) ?_
    refine lv_iinc (v := 1) (lv' := [(1, .int 1), (3, .int 3), (2, .int 0), (0, .ref o)]) hx hb dX4_link_106 hl (k := 2) rfl (by decide) (by decide) rfl (fun ls hl => ?_)
    refine lv_goto (tgt := 10) hx hb dX4_link_109 (by decide) ?_
    refine lv_iload_n hx hb dX4_link_10 rfl (lv_at hl 0 rfl) ?_
    refine lv_aload_n hx hb dX4_link_11 rfl (lv_at hl 3 rfl) ?_
    refine va_get (C := RX4) (T := TX4) (N := 12) (v := .ref al) hx hb hts hi_X4_link_X4 hown hK hP 5 rfl rfl 0 (by decide) (hts (.fieldLink RX4 52 "BothWays$Least" "all" "LBothWays$Beginnings;") (by decide +kernel)) (fun _ h => h) rfl dX4_link_12 ?_
    refine va_getN (C := RX0) (T := TX0) (N := 5) (v := .ref fi) hx hb hts hi_X4_link_X0 hown hK hP 7 rfl rfl 1 (by decide) (nf_33 hN) (fun _ h => h) rfl dX4_link_15 ?_
    refine va_getN (C := RX1) (T := TX1) (N := 5) (v := .ref k) hx hb hts hi_X4_link_X1 hown hK hP 1 rfl rfl 0 (by decide) (nf_26 hN) (fun _ h => h) rfl dX4_link_18 ?_
    refine va_getN (C := RX2) (T := TX2) (N := 3) (v := .int 1) hx hb hts hi_X4_link_X2 hown hK hP 2 rfl rfl 2 (by decide) (nf_21 hN) (fun _ h => h) rfl dX4_link_21 ?_
    refine icmp_ge_t hx hb 112 dX4_link_24 (by decide) (by decide) ?_
    exact rt_v hx hb hr hlocks hQ hP hD hS () [5, 6, 3, 0, 7, 8, 4, 1, 2] dX4_link_112 (Nat.le_of_ble_eq_true rfl) (Nat.le_of_ble_eq_true rfl) rfl (by decide) trivial
  rw [hH, hlo] at hgo
  exact hgo
theorem hi_X4_next_X4 : ∀ w ∈ wsX40, w ∈ wsX4_next := fun _ h => List.mem_cons_of_mem _ (List.mem_append_right _ h)
theorem yd_X11_isLetter : yX11_isLetter.cls = RX11 ∧ yX11_isLetter.cls ≠ "java/lang/invoke/MethodHandle" ∧ yX11_isLetter.cls ≠ "java/lang/invoke/VarHandle" ∧ (parseMethodDescriptor yX11_isLetter.desc).map (fun d => d.parameters.length) = some 1 := by decide +kernel
abbrev rm_c_L_next_0 : Room := { frames := 1, cells := 0, slots := 0, locals := 20 }
set_option maxHeartbeats 4000000 in
set_option maxRecDepth 100000 in
theorem c_L_next_0 (l : Launch) (g : va_G) (cT : Nat → ClassId) (sz : Nat) (o : Nat) (al : Nat) (gr : Nat) (fr : Nat) (lk : Nat) (ln : Nat) (lw : Nat) (lz : Nat) (na : Nat) (nb : Nat) (ss : Int32)  : Ctr l g cT sz yX4_next wsX4_next rm_c_L_next_0 [.ref o, .int 0, .int 0] [(o, .inr (4, [.ref al, .ref gr, .ref fr, .ref lk, .int 1, .ref ln, .ref lw, .ref lz, .int ss, .ref na, .ref nb, .int 0])), (ln, .inl (cT 0, 2400, .inl (fun _ => 0)))] (QI g (fun (r : Int32) (u : Unit) => r = 0) (fun (u : Unit) => [(o, .inr (4, [.ref al, .ref gr, .ref fr, .ref lk, .int 1, .ref ln, .ref lw, .ref lz, .int ss, .ref na, .ref nb, .int 0])), (ln, .inl (cT 0, 2400, .inl (fun _ => 0)))])) 0 0 := by
  refine mk_ctr (cc := cX4_next) (maxL := 3) (ret := (some .int)) (by decide) rfl (Nat.le_of_ble_eq_true rfl) ?_
  intro p e s m args below meth c A Q hx hb hr hts hown hlocks hin hml hP hK hD hN hZ hA hS hQ ls hl
  have hl : lv_has ls 3 [(0, .ref o), (1, .int 0), (2, .int 0)] := hl
  obtain ⟨H, hH⟩ : ∃ H : Heap, H = s.heap := ⟨_, rfl⟩
  obtain ⟨locs, hlo⟩ : ∃ x : List Loc, x = [] := ⟨_, rfl⟩
  rw [← hH] at hP
  have hS : va_S A s.heap H locs := by rw [hH, hlo]; exact hS
  have hgo : W p l e rm_c_L_next_0 s m args below meth c H locs 0 0 Q (F0 m 0 ls []) := by
    clear hH hlo
    refine lv_iload_n hx hb dX4_next_0 rfl (lv_at hl 1 rfl) ?_
    refine if_lt_f hx hb dX4_next_1 32 (by decide) (by decide) ?_
    refine lv_iload_n hx hb dX4_next_4 rfl (lv_at hl 1 rfl) ?_
    refine lv_aload_n hx hb dX4_next_5 rfl (lv_at hl 0 rfl) ?_
    refine va_get (C := RX4) (T := TX4) (N := 12) (v := .int 1) hx hb hts hi_X4_next_X4 hown hK hP 0 rfl rfl 4 (by decide) (hts (.fieldLink RX4 27 "BothWays$Least" "size" "I") (by decide +kernel)) (fun _ h => h) rfl dX4_next_6 ?_
    refine icmp_ge_f hx hb dX4_next_9 32 (by decide) (by decide) ?_
    refine lv_iload_n hx hb dX4_next_12 rfl (lv_at hl 2 rfl) ?_
    refine cp_i (va_runSN (As := [.int 0]) (rest := []) ⟨hx, hb, hml, hown, hts⟩ (c_isLetter l g cT H.size 0) ⟨va_cnB 1 hts ggX4_next_X11_isLetter rfl rfl rfl (nm_5 hN) (hts (.initialized RX11) (by decide +kernel)) yd_X11_isLetter.2 ⟨(Nat.le_of_ble_eq_true rfl), (Nat.le_of_ble_eq_true rfl)⟩, (hts (.static yX11_isLetter) (by decide +kernel)), trivial⟩ (preS (ws := []) (wc := []) rfl (fun _ _ h => by simp at h) (va_D_nil (A := A)) hK hN hZ hS hA [] rfl rfl) rfl rfl hl.1 rfl (lv_room (Nat.le_of_ble_eq_true rfl)) dX4_next_13 ⟨(Nat.le_of_ble_eq_true rfl), (Nat.le_of_ble_eq_true rfl)⟩) hP hS hA (fun r_1 u H locs h_2 hP hS => ?_)
    rcases h_2 with ⟨rfl, h_3⟩ | ⟨rfl, h_4⟩
    · skip
      refine if_eq_f hx hb dX4_next_16 32 (by decide) (by decide) ?_
      refine lv_aload_n hx hb dX4_next_19 rfl (lv_at hl 0 rfl) ?_
      refine va_get (C := RX4) (T := TX4) (N := 12) (v := .ref ln) hx hb hts hi_X4_next_X4 hown hK hP 0 rfl rfl 5 (by decide) (hts (.fieldLink RX4 31 "BothWays$Least" "nexts" "[I") (by decide +kernel)) (fun _ h => h) rfl dX4_next_20 ?_
      refine lv_iload_n hx hb dX4_next_23 rfl (lv_at hl 1 rfl) ?_
      refine lv_iconst (v := 3) hx hb dX4_next_24 (by decide) ?_
      refine w_imul (v := 0) hx hb dX4_next_25 (by decide) ?_
      refine lv_iload_n hx hb dX4_next_26 rfl (lv_at hl 2 rfl) ?_
      refine w_iadd (v := 0) hx hb dX4_next_27 (by decide) ?_
      refine w_iald (v := 0) hx hb hK hP 1 rfl dX4_next_28 (inC (by decide)) rfl ?_
      refine lv_goto (tgt := 33) hx hb dX4_next_29 (by decide) ?_
      exact rt_i hx hb hr hlocks hQ hP hD hS () [0, 1] dX4_next_33 rfl (Nat.le_of_ble_eq_true rfl) (Nat.le_of_ble_eq_true rfl) rfl (by decide) rfl
    · exact absurd h_4 (by decide)
  rw [hH, hlo] at hgo
  exact hgo
abbrev rm_c_L_next_1 : Room := { frames := 1, cells := 0, slots := 0, locals := 20 }
set_option maxHeartbeats 4000000 in
set_option maxRecDepth 100000 in
theorem c_L_next_1 (l : Launch) (g : va_G) (cT : Nat → ClassId) (sz : Nat) (o : Nat) (al : Nat) (gr : Nat) (fr : Nat) (lk : Nat) (ln : Nat) (lw : Nat) (lz : Nat) (na : Nat) (nb : Nat) (ss : Int32)  : Ctr l g cT sz yX4_next wsX4_next rm_c_L_next_1 [.ref o, .int 0, .int 1] [(o, .inr (4, [.ref al, .ref gr, .ref fr, .ref lk, .int 1, .ref ln, .ref lw, .ref lz, .int ss, .ref na, .ref nb, .int 0])), (ln, .inl (cT 0, 2400, .inl (fun _ => 0)))] (QI g (fun (r : Int32) (u : Unit) => r = 0) (fun (u : Unit) => [(o, .inr (4, [.ref al, .ref gr, .ref fr, .ref lk, .int 1, .ref ln, .ref lw, .ref lz, .int ss, .ref na, .ref nb, .int 0])), (ln, .inl (cT 0, 2400, .inl (fun _ => 0)))])) 0 0 := by
  refine mk_ctr (cc := cX4_next) (maxL := 3) (ret := (some .int)) (by decide) rfl (Nat.le_of_ble_eq_true rfl) ?_
  intro p e s m args below meth c A Q hx hb hr hts hown hlocks hin hml hP hK hD hN hZ hA hS hQ ls hl
  have hl : lv_has ls 3 [(0, .ref o), (1, .int 0), (2, .int 1)] := hl
  obtain ⟨H, hH⟩ : ∃ H : Heap, H = s.heap := ⟨_, rfl⟩
  obtain ⟨locs, hlo⟩ : ∃ x : List Loc, x = [] := ⟨_, rfl⟩
  rw [← hH] at hP
  have hS : va_S A s.heap H locs := by rw [hH, hlo]; exact hS
  have hgo : W p l e rm_c_L_next_1 s m args below meth c H locs 0 0 Q (F0 m 0 ls []) := by
    clear hH hlo
    refine lv_iload_n hx hb dX4_next_0 rfl (lv_at hl 1 rfl) ?_
    refine if_lt_f hx hb dX4_next_1 32 (by decide) (by decide) ?_
    refine lv_iload_n hx hb dX4_next_4 rfl (lv_at hl 1 rfl) ?_
    refine lv_aload_n hx hb dX4_next_5 rfl (lv_at hl 0 rfl) ?_
    refine va_get (C := RX4) (T := TX4) (N := 12) (v := .int 1) hx hb hts hi_X4_next_X4 hown hK hP 0 rfl rfl 4 (by decide) (hts (.fieldLink RX4 27 "BothWays$Least" "size" "I") (by decide +kernel)) (fun _ h => h) rfl dX4_next_6 ?_
    refine icmp_ge_f hx hb dX4_next_9 32 (by decide) (by decide) ?_
    refine lv_iload_n hx hb dX4_next_12 rfl (lv_at hl 2 rfl) ?_
    refine cp_i (va_runSN (As := [.int 1]) (rest := []) ⟨hx, hb, hml, hown, hts⟩ (c_isLetter l g cT H.size 1) ⟨va_cnB 1 hts ggX4_next_X11_isLetter rfl rfl rfl (nm_5 hN) (hts (.initialized RX11) (by decide +kernel)) yd_X11_isLetter.2 ⟨(Nat.le_of_ble_eq_true rfl), (Nat.le_of_ble_eq_true rfl)⟩, (hts (.static yX11_isLetter) (by decide +kernel)), trivial⟩ (preS (ws := []) (wc := []) rfl (fun _ _ h => by simp at h) (va_D_nil (A := A)) hK hN hZ hS hA [] rfl rfl) rfl rfl hl.1 rfl (lv_room (Nat.le_of_ble_eq_true rfl)) dX4_next_13 ⟨(Nat.le_of_ble_eq_true rfl), (Nat.le_of_ble_eq_true rfl)⟩) hP hS hA (fun r_1 u H locs h_2 hP hS => ?_)
    rcases h_2 with ⟨rfl, h_3⟩ | ⟨rfl, h_4⟩
    · skip
      refine if_eq_f hx hb dX4_next_16 32 (by decide) (by decide) ?_
      refine lv_aload_n hx hb dX4_next_19 rfl (lv_at hl 0 rfl) ?_
      refine va_get (C := RX4) (T := TX4) (N := 12) (v := .ref ln) hx hb hts hi_X4_next_X4 hown hK hP 0 rfl rfl 5 (by decide) (hts (.fieldLink RX4 31 "BothWays$Least" "nexts" "[I") (by decide +kernel)) (fun _ h => h) rfl dX4_next_20 ?_
      refine lv_iload_n hx hb dX4_next_23 rfl (lv_at hl 1 rfl) ?_
      refine lv_iconst (v := 3) hx hb dX4_next_24 (by decide) ?_
      refine w_imul (v := 0) hx hb dX4_next_25 (by decide) ?_
      refine lv_iload_n hx hb dX4_next_26 rfl (lv_at hl 2 rfl) ?_
      refine w_iadd (v := 1) hx hb dX4_next_27 (by decide) ?_
      refine w_iald (v := 0) hx hb hK hP 1 rfl dX4_next_28 (inC (by decide)) rfl ?_
      refine lv_goto (tgt := 33) hx hb dX4_next_29 (by decide) ?_
      exact rt_i hx hb hr hlocks hQ hP hD hS () [0, 1] dX4_next_33 rfl (Nat.le_of_ble_eq_true rfl) (Nat.le_of_ble_eq_true rfl) rfl (by decide) rfl
    · exact absurd h_4 (by decide)
  rw [hH, hlo] at hgo
  exact hgo
abbrev rm_c_L_next_2 : Room := { frames := 1, cells := 0, slots := 0, locals := 20 }
set_option maxHeartbeats 4000000 in
set_option maxRecDepth 100000 in
theorem c_L_next_2 (l : Launch) (g : va_G) (cT : Nat → ClassId) (sz : Nat) (o : Nat) (al : Nat) (gr : Nat) (fr : Nat) (lk : Nat) (ln : Nat) (lw : Nat) (lz : Nat) (na : Nat) (nb : Nat) (ss : Int32)  : Ctr l g cT sz yX4_next wsX4_next rm_c_L_next_2 [.ref o, .int 0, .int 2] [(o, .inr (4, [.ref al, .ref gr, .ref fr, .ref lk, .int 1, .ref ln, .ref lw, .ref lz, .int ss, .ref na, .ref nb, .int 0])), (ln, .inl (cT 0, 2400, .inl (fun _ => 0)))] (QI g (fun (r : Int32) (u : Unit) => r = 0) (fun (u : Unit) => [(o, .inr (4, [.ref al, .ref gr, .ref fr, .ref lk, .int 1, .ref ln, .ref lw, .ref lz, .int ss, .ref na, .ref nb, .int 0])), (ln, .inl (cT 0, 2400, .inl (fun _ => 0)))])) 0 0 := by
  refine mk_ctr (cc := cX4_next) (maxL := 3) (ret := (some .int)) (by decide) rfl (Nat.le_of_ble_eq_true rfl) ?_
  intro p e s m args below meth c A Q hx hb hr hts hown hlocks hin hml hP hK hD hN hZ hA hS hQ ls hl
  have hl : lv_has ls 3 [(0, .ref o), (1, .int 0), (2, .int 2)] := hl
  obtain ⟨H, hH⟩ : ∃ H : Heap, H = s.heap := ⟨_, rfl⟩
  obtain ⟨locs, hlo⟩ : ∃ x : List Loc, x = [] := ⟨_, rfl⟩
  rw [← hH] at hP
  have hS : va_S A s.heap H locs := by rw [hH, hlo]; exact hS
  have hgo : W p l e rm_c_L_next_2 s m args below meth c H locs 0 0 Q (F0 m 0 ls []) := by
    clear hH hlo
    refine lv_iload_n hx hb dX4_next_0 rfl (lv_at hl 1 rfl) ?_
    refine if_lt_f hx hb dX4_next_1 32 (by decide) (by decide) ?_
    refine lv_iload_n hx hb dX4_next_4 rfl (lv_at hl 1 rfl) ?_
    refine lv_aload_n hx hb dX4_next_5 rfl (lv_at hl 0 rfl) ?_
    refine va_get (C := RX4) (T := TX4) (N := 12) (v := .int 1) hx hb hts hi_X4_next_X4 hown hK hP 0 rfl rfl 4 (by decide) (hts (.fieldLink RX4 27 "BothWays$Least" "size" "I") (by decide +kernel)) (fun _ h => h) rfl dX4_next_6 ?_
    refine icmp_ge_f hx hb dX4_next_9 32 (by decide) (by decide) ?_
    refine lv_iload_n hx hb dX4_next_12 rfl (lv_at hl 2 rfl) ?_
    refine cp_i (va_runSN (As := [.int 2]) (rest := []) ⟨hx, hb, hml, hown, hts⟩ (c_isLetter l g cT H.size 2) ⟨va_cnB 1 hts ggX4_next_X11_isLetter rfl rfl rfl (nm_5 hN) (hts (.initialized RX11) (by decide +kernel)) yd_X11_isLetter.2 ⟨(Nat.le_of_ble_eq_true rfl), (Nat.le_of_ble_eq_true rfl)⟩, (hts (.static yX11_isLetter) (by decide +kernel)), trivial⟩ (preS (ws := []) (wc := []) rfl (fun _ _ h => by simp at h) (va_D_nil (A := A)) hK hN hZ hS hA [] rfl rfl) rfl rfl hl.1 rfl (lv_room (Nat.le_of_ble_eq_true rfl)) dX4_next_13 ⟨(Nat.le_of_ble_eq_true rfl), (Nat.le_of_ble_eq_true rfl)⟩) hP hS hA (fun r_1 u H locs h_2 hP hS => ?_)
    rcases h_2 with ⟨rfl, h_3⟩ | ⟨rfl, h_4⟩
    · skip
      refine if_eq_f hx hb dX4_next_16 32 (by decide) (by decide) ?_
      refine lv_aload_n hx hb dX4_next_19 rfl (lv_at hl 0 rfl) ?_
      refine va_get (C := RX4) (T := TX4) (N := 12) (v := .ref ln) hx hb hts hi_X4_next_X4 hown hK hP 0 rfl rfl 5 (by decide) (hts (.fieldLink RX4 31 "BothWays$Least" "nexts" "[I") (by decide +kernel)) (fun _ h => h) rfl dX4_next_20 ?_
      refine lv_iload_n hx hb dX4_next_23 rfl (lv_at hl 1 rfl) ?_
      refine lv_iconst (v := 3) hx hb dX4_next_24 (by decide) ?_
      refine w_imul (v := 0) hx hb dX4_next_25 (by decide) ?_
      refine lv_iload_n hx hb dX4_next_26 rfl (lv_at hl 2 rfl) ?_
      refine w_iadd (v := 2) hx hb dX4_next_27 (by decide) ?_
      refine w_iald (v := 0) hx hb hK hP 1 rfl dX4_next_28 (inC (by decide)) rfl ?_
      refine lv_goto (tgt := 33) hx hb dX4_next_29 (by decide) ?_
      exact rt_i hx hb hr hlocks hQ hP hD hS () [0, 1] dX4_next_33 rfl (Nat.le_of_ble_eq_true rfl) (Nat.le_of_ble_eq_true rfl) rfl (by decide) rfl
    · exact absurd h_4 (by decide)
  rw [hH, hlo] at hgo
  exact hgo
theorem hi_X4_waysFrom_X4 : ∀ w ∈ wsX40, w ∈ wsX4_waysFrom := fun _ h => List.mem_cons_of_mem _ (List.mem_append_right _ h)
abbrev rm_c_L_waysFrom : Room := { frames := 0, cells := 0, slots := 0, locals := 0 }
set_option maxHeartbeats 4000000 in
set_option maxRecDepth 100000 in
theorem c_L_waysFrom (l : Launch) (g : va_G) (cT : Nat → ClassId) (sz : Nat) (o : Nat) (al : Nat) (gr : Nat) (fr : Nat) (lk : Nat) (ln : Nat) (lw : Nat) (lz : Nat) (na : Nat) (nb : Nat) (ss : Int32) (N : Nat) (hM : N ≤ 12) : Ctr l g cT sz yX4_waysFrom wsX4_waysFrom rm_c_L_waysFrom [.ref o, .int 0, .int (nI N)] [(o, .inr (4, [.ref al, .ref gr, .ref fr, .ref lk, .int 1, .ref ln, .ref lw, .ref lz, .int ss, .ref na, .ref nb, .int 0])), (lw, .inl (cT 0, 10400, .inl (fun _ => 0)))] (QI g (fun (r : Int32) (u : Unit) => r = 0) (fun (u : Unit) => [(o, .inr (4, [.ref al, .ref gr, .ref fr, .ref lk, .int 1, .ref ln, .ref lw, .ref lz, .int ss, .ref na, .ref nb, .int 0])), (lw, .inl (cT 0, 10400, .inl (fun _ => 0)))])) 0 0 := by
  refine mk_ctr (cc := cX4_waysFrom) (maxL := 4) (ret := (some .int)) (by decide) rfl (Nat.le_of_ble_eq_true rfl) ?_
  intro p e s m args below meth c A Q hx hb hr hts hown hlocks hin hml hP hK hD hN hZ hA hS hQ ls hl
  have hl : lv_has ls 4 [(0, .ref o), (1, .int 0), (2, .int (nI N))] := hl
  obtain ⟨H, hH⟩ : ∃ H : Heap, H = s.heap := ⟨_, rfl⟩
  obtain ⟨locs, hlo⟩ : ∃ x : List Loc, x = [] := ⟨_, rfl⟩
  rw [← hH] at hP
  have hS : va_S A s.heap H locs := by rw [hH, hlo]; exact hS
  have hgo : W p l e rm_c_L_waysFrom s m args below meth c H locs 0 0 Q (F0 m 0 ls []) := by
    clear hH hlo
    refine lv_iload_n hx hb dX4_waysFrom_0 rfl (lv_at hl 1 rfl) ?_
    refine if_lt_f hx hb dX4_waysFrom_1 26 (by decide) (by decide) ?_
    refine lv_iload_n hx hb dX4_waysFrom_4 rfl (lv_at hl 1 rfl) ?_
    refine lv_aload_n hx hb dX4_waysFrom_5 rfl (lv_at hl 0 rfl) ?_
    refine va_get (C := RX4) (T := TX4) (N := 12) (v := .int 1) hx hb hts hi_X4_waysFrom_X4 hown hK hP 0 rfl rfl 4 (by decide) (hts (.fieldLink RX4 27 "BothWays$Least" "size" "I") (by decide +kernel)) (fun _ h => h) rfl dX4_waysFrom_6 ?_
    refine icmp_ge_f hx hb dX4_waysFrom_9 26 (by decide) (by decide) ?_
    refine lv_iload_n hx hb dX4_waysFrom_12 rfl (lv_at hl 2 rfl) ?_
    refine if_lt_f hx hb dX4_waysFrom_13 26 (by decide) (nI_pos (by omega)) ?_
    refine lv_iload_n hx hb dX4_waysFrom_16 rfl (lv_at hl 2 rfl) ?_
    refine lv_bipush (v := 12) hx hb dX4_waysFrom_17 (by decide) ?_
    refine icmp_gt_f hx hb dX4_waysFrom_19 26 (by decide) (nI_nlt (a := 12) (by omega) (by decide)) ?_
    refine lv_iconst (v := 1) hx hb dX4_waysFrom_22 (by decide) ?_
    refine lv_goto (tgt := 27) hx hb dX4_waysFrom_23 (by decide) ?_
    refine lv_istore_n (lv' := [(3, .int 1), (0, .ref o), (1, .int 0), (2, .int (nI N))]) hx hb dX4_waysFrom_27 rfl hl (by decide) rfl (fun ls hl => ?_)
    refine lv_iload_n hx hb dX4_waysFrom_28 rfl (lv_at hl 0 rfl) ?_
    refine if_eq_f hx hb dX4_waysFrom_29 47 (by decide) (by decide) ?_
    refine lv_aload_n hx hb dX4_waysFrom_32 rfl (lv_at hl 1 rfl) ?_
    refine va_get (C := RX4) (T := TX4) (N := 12) (v := .ref lw) hx hb hts hi_X4_waysFrom_X4 hown hK hP 0 rfl rfl 6 (by decide) (hts (.fieldLink RX4 34 "BothWays$Least" "ways" "[I") (by decide +kernel)) (fun _ h => h) rfl dX4_waysFrom_33 ?_
    refine lv_iload_n hx hb dX4_waysFrom_36 rfl (lv_at hl 3 rfl) ?_
    refine lv_sipush (v := 800) hx hb dX4_waysFrom_37 (by decide) ?_
    refine w_imul (v := (nI (N * 800))) hx hb dX4_waysFrom_40 (pk_mul N 800) ?_
    refine lv_iload_n hx hb dX4_waysFrom_41 rfl (lv_at hl 2 rfl) ?_
    refine w_iadd (v := (nI (N * 800))) hx hb dX4_waysFrom_42 (Int32.add_zero _) ?_
    refine w_iald (v := 0) hx hb hK hP 1 rfl dX4_waysFrom_43 (vp_in_nI (show N * 800 < 10400 by omega) (by decide)) rfl ?_
    refine lv_goto (tgt := 48) hx hb dX4_waysFrom_44 (by decide) ?_
    exact rt_i hx hb hr hlocks hQ hP hD hS () [0, 1] dX4_waysFrom_48 rfl (Nat.le_of_ble_eq_true rfl) (Nat.le_of_ble_eq_true rfl) rfl (by decide) rfl
  rw [hH, hlo] at hgo
  exact hgo
theorem hi_X4_countShort_X4 : ∀ w ∈ wsX40, w ∈ wsX4_countShort := fun _ h => List.mem_cons_of_mem _ (List.mem_append_right _ h)
theorem yd_X4_next : yX4_next.cls = RX4 ∧ yX4_next.cls ≠ "java/lang/invoke/MethodHandle" ∧ yX4_next.cls ≠ "java/lang/invoke/VarHandle" ∧ (parseMethodDescriptor yX4_next.desc).map (fun d => d.parameters.length) = some 2 := by decide +kernel
theorem yd_X4_waysFrom : yX4_waysFrom.cls = RX4 ∧ yX4_waysFrom.cls ≠ "java/lang/invoke/MethodHandle" ∧ yX4_waysFrom.cls ≠ "java/lang/invoke/VarHandle" ∧ (parseMethodDescriptor yX4_waysFrom.desc).map (fun d => d.parameters.length) = some 2 := by decide +kernel
abbrev rm_c_L_countShort : Room := { frames := 2, cells := 0, slots := 0, locals := 42 }
set_option maxHeartbeats 4000000 in
set_option maxRecDepth 100000 in
theorem c_L_countShort (l : Launch) (g : va_G) (cT : Nat → ClassId) (sz : Nat) (o : Nat) (al : Nat) (gr : Nat) (fr : Nat) (lk : Nat) (ln : Nat) (lw : Nat) (lz : Nat) (na : Nat) (nb : Nat)  : Ctr l g cT sz yX4_countShort wsX4_countShort rm_c_L_countShort [.ref o] [(o, .inr (4, [.ref al, .ref gr, .ref fr, .ref lk, .int 1, .ref ln, .ref lw, .ref lz, .int 0, .ref na, .ref nb, .int 0])), (ln, .inl (cT 0, 2400, .inl (fun _ => 0))), (lw, .inl (cT 0, 10400, .inl (fun _ => 0)))] (QV g (fun (u : Unit) => True) (fun (u : Unit) => [(o, .inr (4, [.ref al, .ref gr, .ref fr, .ref lk, .int 1, .ref ln, .ref lw, .ref lz, .int 0, .ref na, .ref nb, .int 0])), (ln, .inl (cT 0, 2400, .inl (fun _ => 0))), (lw, .inl (cT 0, 10400, .inl (fun _ => 0)))])) 0 0 := by
  refine mk_ctr (cc := cX4_countShort) (maxL := 5) (ret := none) (by decide) rfl (Nat.le_of_ble_eq_true rfl) ?_
  intro p e s m args below meth c A Q hx hb hr hts hown hlocks hin hml hP hK hD hN hZ hA hS hQ ls hl
  have hl : lv_has ls 5 [(0, .ref o)] := hl
  obtain ⟨H, hH⟩ : ∃ H : Heap, H = s.heap := ⟨_, rfl⟩
  obtain ⟨locs, hlo⟩ : ∃ x : List Loc, x = [] := ⟨_, rfl⟩
  rw [← hH] at hP
  have hS : va_S A s.heap H locs := by rw [hH, hlo]; exact hS
  have hgo : W p l e rm_c_L_countShort s m args below meth c H locs 0 0 Q (F0 m 0 ls []) := by
    clear hH hlo
    refine lv_iconst (v := 1) hx hb dX4_countShort_0 (by decide) ?_
    refine lv_istore_n (lv' := [(1, .int 1), (0, .ref o)]) hx hb dX4_countShort_1 rfl hl (by decide) rfl (fun ls hl => ?_)
    have loop_1 : ∀ (fuel : Nat) (j : Nat), 1 ≤ j → j ≤ 13 → 13 - j < fuel → ∀ (H : Heap) (locs : List Loc), va_P g vwCl [(o, .inr (4, [.ref al, .ref gr, .ref fr, .ref lk, .int 1, .ref ln, .ref lw, .ref lz, .int 0, .ref na, .ref nb, .int 0])), (ln, .inl (cT 0, 2400, .inl (fun _ => 0))), (lw, .inl (cT 0, 10400, .inl (fun _ => 0)))] H → va_D A [(o, .inr (4, [.ref al, .ref gr, .ref fr, .ref lk, .int 1, .ref ln, .ref lw, .ref lz, .int 0, .ref na, .ref nb, .int 0])), (ln, .inl (cT 0, 2400, .inl (fun _ => 0))), (lw, .inl (cT 0, 10400, .inl (fun _ => 0)))] → va_S A s.heap H locs → ∀ ls : Array Slot, lv_has ls 5 [(1, .int (nI j)), (0, .ref o)] → W p l e rm_c_L_countShort s m args below meth c H locs 0 0 Q (F0 m 2 ls []) := by
      intro fuel
      induction fuel with
      | zero => intro j hj0 hj hfu; omega
      | succ fuel ih_loop_1 =>
        intro j hj0 hj hfu H locs hP hD hS ls hl
        refine lv_iload_n hx hb dX4_countShort_2 rfl (lv_at hl 0 rfl) ?_
        refine lv_bipush (v := 12) hx hb dX4_countShort_3 (by decide) ?_
        refine lv_icmp_gt (tgt := 84) hx hb dX4_countShort_5 (by decide) (fun c_2 => ?_) (fun c_2 => ?_)
        · skip
          exact rt_v hx hb hr hlocks hQ hP hD hS () [0, 1, 2] dX4_countShort_84 (Nat.le_of_ble_eq_true rfl) (Nat.le_of_ble_eq_true rfl) rfl (by decide) trivial
        · skip
          have hlt : j ≤ 12 := Nat.le_of_not_lt (fun h => c_2 (nI_lt (a := 12) h (by omega)))
          refine lv_iconst (v := 0) hx hb dX4_countShort_8 (by decide) ?_
          refine lv_istore_n (lv' := [(2, .int 0), (1, .int (nI j)), (0, .ref o)]) hx hb dX4_countShort_9 rfl hl (by decide) rfl (fun ls hl => ?_)
          refine lv_iload_n hx hb dX4_countShort_10 rfl (lv_at hl 0 rfl) ?_
          refine lv_aload_n hx hb dX4_countShort_11 rfl (lv_at hl 2 rfl) ?_
          refine va_get (C := RX4) (T := TX4) (N := 12) (v := .int 1) hx hb hts hi_X4_countShort_X4 hown hK hP 0 rfl rfl 4 (by decide) (hts (.fieldLink RX4 27 "BothWays$Least" "size" "I") (by decide +kernel)) (fun _ h => h) rfl dX4_countShort_12 ?_
          refine icmp_ge_f hx hb dX4_countShort_15 78 (by decide) (by decide) ?_
          refine lv_iload_n hx hb dX4_countShort_18 rfl (lv_at hl 0 rfl) ?_
          refine lv_sipush (v := 800) hx hb dX4_countShort_19 (by decide) ?_
          refine icmp_ge_f hx hb dX4_countShort_22 78 (by decide) (by decide) ?_
          refine lv_iconst (v := 0) hx hb dX4_countShort_25 (by decide) ?_
          refine lv_istore_n (lv' := [(3, .int 0), (2, .int 0), (1, .int (nI j)), (0, .ref o)]) hx hb dX4_countShort_26 rfl hl (by decide) rfl (fun ls hl => ?_)
          refine lv_iconst (v := 0) hx hb dX4_countShort_27 (by decide) ?_
          refine lv_istore (lv' := [(4, .int 0), (3, .int 0), (2, .int 0), (1, .int (nI j)), (0, .ref o)]) hx hb dX4_countShort_28 hl (by decide) rfl (fun ls hl => ?_)
          refine lv_iload hx hb dX4_countShort_30 (lv_at hl 0 rfl) ?_
          refine lv_iconst (v := 3) hx hb dX4_countShort_32 (by decide) ?_
          refine icmp_ge_f hx hb dX4_countShort_33 59 (by decide) (by decide) ?_
          refine lv_iload_n hx hb dX4_countShort_36 rfl (lv_at hl 1 rfl) ?_
          refine lv_aload_n hx hb dX4_countShort_37 rfl (lv_at hl 4 rfl) ?_
          refine lv_aload_n hx hb dX4_countShort_38 rfl (lv_at hl 4 rfl) ?_
          refine lv_iload_n hx hb dX4_countShort_39 rfl (lv_at hl 2 rfl) ?_
          refine lv_iload hx hb dX4_countShort_40 (lv_at hl 0 rfl) ?_
          refine cj_i 0 0 (wr := [(lw, .inl (cT 0, 10400, .inl (fun _ => 0)))]) (va_runV (As := [.int 0, .int 0]) (rest := [.ref o, .int 0]) ⟨hx, hb, hml, hown, hts⟩ (c_L_next_0 l g cT H.size o al gr fr lk ln lw lz na nb 0) (cwV 2 hts gX4_countShort_X4_next rfl rfl rfl yd_X4_next ⟨(Nat.le_of_ble_eq_true rfl), (Nat.le_of_ble_eq_true rfl)⟩) (preV (wc := [(o, .inr (4, [.ref al, .ref gr, .ref fr, .ref lk, .int 1, .ref ln, .ref lw, .ref lz, .int 0, .ref na, .ref nb, .int 0])), (ln, .inl (cT 0, 2400, .inl (fun _ => 0)))]) rfl hP hD hK hN hZ hS hA [0, 1] rfl (by decide) (ci := 4) (q0 := 0) rfl rfl) rfl rfl hl.1 rfl (lv_room (Nat.le_of_ble_eq_true rfl)) dX4_countShort_42 ⟨(Nat.le_of_ble_eq_true rfl), (Nat.le_of_ble_eq_true rfl)⟩) hP hD hS hA [0, 1] [2] rfl rfl (by decide) (by decide) (Nat.le_of_ble_eq_true rfl) (Nat.le_of_ble_eq_true rfl) (fun r_3 u H locs h_4 hP hD hS => ?_)
          have hP : va_P g vwCl [(lw, .inl (cT 0, 10400, .inl (fun _ => 0))), (o, .inr (4, [.ref al, .ref gr, .ref fr, .ref lk, .int 1, .ref ln, .ref lw, .ref lz, .int 0, .ref na, .ref nb, .int 0])), (ln, .inl (cT 0, 2400, .inl (fun _ => 0)))] H := hP
          have hD : va_D A [(lw, .inl (cT 0, 10400, .inl (fun _ => 0))), (o, .inr (4, [.ref al, .ref gr, .ref fr, .ref lk, .int 1, .ref ln, .ref lw, .ref lz, .int 0, .ref na, .ref nb, .int 0])), (ln, .inl (cT 0, 2400, .inl (fun _ => 0)))] := hD
          subst h_4
          refine lv_iload_n hx hb dX4_countShort_45 rfl (lv_at hl 3 rfl) ?_
          refine lv_iconst (v := 1) hx hb dX4_countShort_46 (by decide) ?_
          refine w_isub (v := (nI (j - 1))) hx hb dX4_countShort_47 (pk_sub (b := 1) hj0) ?_
          refine cj_i 0 0 (wr := [(ln, .inl (cT 0, 2400, .inl (fun _ => 0)))]) (va_runV (As := [.int 0, .int (nI (j - 1))]) (rest := [.int 0]) ⟨hx, hb, hml, hown, hts⟩ (c_L_waysFrom l g cT H.size o al gr fr lk ln lw lz na nb 0 (j - 1) (by omega)) (cwV 2 hts gX4_countShort_X4_waysFrom rfl rfl rfl yd_X4_waysFrom ⟨(Nat.le_of_ble_eq_true rfl), (Nat.le_of_ble_eq_true rfl)⟩) (preV (wc := [(o, .inr (4, [.ref al, .ref gr, .ref fr, .ref lk, .int 1, .ref ln, .ref lw, .ref lz, .int 0, .ref na, .ref nb, .int 0])), (lw, .inl (cT 0, 10400, .inl (fun _ => 0)))]) rfl hP hD hK hN hZ hS hA [1, 0] rfl (by decide) (ci := 4) (q0 := 1) rfl rfl) rfl rfl hl.1 rfl (lv_room (Nat.le_of_ble_eq_true rfl)) dX4_countShort_48 ⟨(Nat.le_of_ble_eq_true rfl), (Nat.le_of_ble_eq_true rfl)⟩) hP hD hS hA [1, 0] [2] rfl rfl (by decide) (by decide) (Nat.le_of_ble_eq_true rfl) (Nat.le_of_ble_eq_true rfl) (fun r_5 u H locs h_6 hP hD hS => ?_)
          have hP : va_P g vwCl [(ln, .inl (cT 0, 2400, .inl (fun _ => 0))), (o, .inr (4, [.ref al, .ref gr, .ref fr, .ref lk, .int 1, .ref ln, .ref lw, .ref lz, .int 0, .ref na, .ref nb, .int 0])), (lw, .inl (cT 0, 10400, .inl (fun _ => 0)))] H := hP
          have hD : va_D A [(ln, .inl (cT 0, 2400, .inl (fun _ => 0))), (o, .inr (4, [.ref al, .ref gr, .ref fr, .ref lk, .int 1, .ref ln, .ref lw, .ref lz, .int 0, .ref na, .ref nb, .int 0])), (lw, .inl (cT 0, 10400, .inl (fun _ => 0)))] := hD
          subst h_6
          refine w_iadd (v := 0) hx hb dX4_countShort_51 (by decide) ?_
          refine lv_istore_n (lv' := [(3, .int 0), (4, .int 0), (2, .int 0), (1, .int (nI j)), (0, .ref o)]) hx hb dX4_countShort_52 rfl hl (by decide) rfl (fun ls hl => ?_)
          refine lv_iinc (v := 1) (lv' := [(4, .int 1), (3, .int 0), (2, .int 0), (1, .int (nI j)), (0, .ref o)]) hx hb dX4_countShort_53 hl (k := 1) rfl (by decide) (by decide) rfl (fun ls hl => ?_)
          refine lv_goto (tgt := 30) hx hb dX4_countShort_56 (by decide) ?_
          refine lv_iload hx hb dX4_countShort_30 (lv_at hl 0 rfl) ?_
          refine lv_iconst (v := 3) hx hb dX4_countShort_32 (by decide) ?_
          refine icmp_ge_f hx hb dX4_countShort_33 59 (by decide) (by decide) ?_
          refine lv_iload_n hx hb dX4_countShort_36 rfl (lv_at hl 1 rfl) ?_
          refine lv_aload_n hx hb dX4_countShort_37 rfl (lv_at hl 4 rfl) ?_
          refine lv_aload_n hx hb dX4_countShort_38 rfl (lv_at hl 4 rfl) ?_
          refine lv_iload_n hx hb dX4_countShort_39 rfl (lv_at hl 2 rfl) ?_
          refine lv_iload hx hb dX4_countShort_40 (lv_at hl 0 rfl) ?_
          refine cj_i 0 0 (wr := [(lw, .inl (cT 0, 10400, .inl (fun _ => 0)))]) (va_runV (As := [.int 0, .int 1]) (rest := [.ref o, .int 0]) ⟨hx, hb, hml, hown, hts⟩ (c_L_next_1 l g cT H.size o al gr fr lk ln lw lz na nb 0) (cwV 2 hts gX4_countShort_X4_next rfl rfl rfl yd_X4_next ⟨(Nat.le_of_ble_eq_true rfl), (Nat.le_of_ble_eq_true rfl)⟩) (preV (wc := [(o, .inr (4, [.ref al, .ref gr, .ref fr, .ref lk, .int 1, .ref ln, .ref lw, .ref lz, .int 0, .ref na, .ref nb, .int 0])), (ln, .inl (cT 0, 2400, .inl (fun _ => 0)))]) rfl hP hD hK hN hZ hS hA [1, 0] rfl (by decide) (ci := 4) (q0 := 1) rfl rfl) rfl rfl hl.1 rfl (lv_room (Nat.le_of_ble_eq_true rfl)) dX4_countShort_42 ⟨(Nat.le_of_ble_eq_true rfl), (Nat.le_of_ble_eq_true rfl)⟩) hP hD hS hA [1, 0] [2] rfl rfl (by decide) (by decide) (Nat.le_of_ble_eq_true rfl) (Nat.le_of_ble_eq_true rfl) (fun r_7 u H locs h_8 hP hD hS => ?_)
          have hP : va_P g vwCl [(lw, .inl (cT 0, 10400, .inl (fun _ => 0))), (o, .inr (4, [.ref al, .ref gr, .ref fr, .ref lk, .int 1, .ref ln, .ref lw, .ref lz, .int 0, .ref na, .ref nb, .int 0])), (ln, .inl (cT 0, 2400, .inl (fun _ => 0)))] H := hP
          have hD : va_D A [(lw, .inl (cT 0, 10400, .inl (fun _ => 0))), (o, .inr (4, [.ref al, .ref gr, .ref fr, .ref lk, .int 1, .ref ln, .ref lw, .ref lz, .int 0, .ref na, .ref nb, .int 0])), (ln, .inl (cT 0, 2400, .inl (fun _ => 0)))] := hD
          subst h_8
          refine lv_iload_n hx hb dX4_countShort_45 rfl (lv_at hl 3 rfl) ?_
          refine lv_iconst (v := 1) hx hb dX4_countShort_46 (by decide) ?_
          refine w_isub (v := (nI (j - 1))) hx hb dX4_countShort_47 (pk_sub (b := 1) hj0) ?_
          refine cj_i 0 0 (wr := [(ln, .inl (cT 0, 2400, .inl (fun _ => 0)))]) (va_runV (As := [.int 0, .int (nI (j - 1))]) (rest := [.int 0]) ⟨hx, hb, hml, hown, hts⟩ (c_L_waysFrom l g cT H.size o al gr fr lk ln lw lz na nb 0 (j - 1) (by omega)) (cwV 2 hts gX4_countShort_X4_waysFrom rfl rfl rfl yd_X4_waysFrom ⟨(Nat.le_of_ble_eq_true rfl), (Nat.le_of_ble_eq_true rfl)⟩) (preV (wc := [(o, .inr (4, [.ref al, .ref gr, .ref fr, .ref lk, .int 1, .ref ln, .ref lw, .ref lz, .int 0, .ref na, .ref nb, .int 0])), (lw, .inl (cT 0, 10400, .inl (fun _ => 0)))]) rfl hP hD hK hN hZ hS hA [1, 0] rfl (by decide) (ci := 4) (q0 := 1) rfl rfl) rfl rfl hl.1 rfl (lv_room (Nat.le_of_ble_eq_true rfl)) dX4_countShort_48 ⟨(Nat.le_of_ble_eq_true rfl), (Nat.le_of_ble_eq_true rfl)⟩) hP hD hS hA [1, 0] [2] rfl rfl (by decide) (by decide) (Nat.le_of_ble_eq_true rfl) (Nat.le_of_ble_eq_true rfl) (fun r_9 u H locs h_10 hP hD hS => ?_)
          have hP : va_P g vwCl [(ln, .inl (cT 0, 2400, .inl (fun _ => 0))), (o, .inr (4, [.ref al, .ref gr, .ref fr, .ref lk, .int 1, .ref ln, .ref lw, .ref lz, .int 0, .ref na, .ref nb, .int 0])), (lw, .inl (cT 0, 10400, .inl (fun _ => 0)))] H := hP
          have hD : va_D A [(ln, .inl (cT 0, 2400, .inl (fun _ => 0))), (o, .inr (4, [.ref al, .ref gr, .ref fr, .ref lk, .int 1, .ref ln, .ref lw, .ref lz, .int 0, .ref na, .ref nb, .int 0])), (lw, .inl (cT 0, 10400, .inl (fun _ => 0)))] := hD
          subst h_10
          refine w_iadd (v := 0) hx hb dX4_countShort_51 (by decide) ?_
          refine lv_istore_n (lv' := [(3, .int 0), (4, .int 1), (2, .int 0), (1, .int (nI j)), (0, .ref o)]) hx hb dX4_countShort_52 rfl hl (by decide) rfl (fun ls hl => ?_)
          refine lv_iinc (v := 2) (lv' := [(4, .int 2), (3, .int 0), (2, .int 0), (1, .int (nI j)), (0, .ref o)]) hx hb dX4_countShort_53 hl (k := 1) rfl (by decide) (by decide) rfl (fun ls hl => ?_)
          refine lv_goto (tgt := 30) hx hb dX4_countShort_56 (by decide) ?_
          refine lv_iload hx hb dX4_countShort_30 (lv_at hl 0 rfl) ?_
          refine lv_iconst (v := 3) hx hb dX4_countShort_32 (by decide) ?_
          refine icmp_ge_f hx hb dX4_countShort_33 59 (by decide) (by decide) ?_
          refine lv_iload_n hx hb dX4_countShort_36 rfl (lv_at hl 1 rfl) ?_
          refine lv_aload_n hx hb dX4_countShort_37 rfl (lv_at hl 4 rfl) ?_
          refine lv_aload_n hx hb dX4_countShort_38 rfl (lv_at hl 4 rfl) ?_
          refine lv_iload_n hx hb dX4_countShort_39 rfl (lv_at hl 2 rfl) ?_
          refine lv_iload hx hb dX4_countShort_40 (lv_at hl 0 rfl) ?_
          refine cj_i 0 0 (wr := [(lw, .inl (cT 0, 10400, .inl (fun _ => 0)))]) (va_runV (As := [.int 0, .int 2]) (rest := [.ref o, .int 0]) ⟨hx, hb, hml, hown, hts⟩ (c_L_next_2 l g cT H.size o al gr fr lk ln lw lz na nb 0) (cwV 2 hts gX4_countShort_X4_next rfl rfl rfl yd_X4_next ⟨(Nat.le_of_ble_eq_true rfl), (Nat.le_of_ble_eq_true rfl)⟩) (preV (wc := [(o, .inr (4, [.ref al, .ref gr, .ref fr, .ref lk, .int 1, .ref ln, .ref lw, .ref lz, .int 0, .ref na, .ref nb, .int 0])), (ln, .inl (cT 0, 2400, .inl (fun _ => 0)))]) rfl hP hD hK hN hZ hS hA [1, 0] rfl (by decide) (ci := 4) (q0 := 1) rfl rfl) rfl rfl hl.1 rfl (lv_room (Nat.le_of_ble_eq_true rfl)) dX4_countShort_42 ⟨(Nat.le_of_ble_eq_true rfl), (Nat.le_of_ble_eq_true rfl)⟩) hP hD hS hA [1, 0] [2] rfl rfl (by decide) (by decide) (Nat.le_of_ble_eq_true rfl) (Nat.le_of_ble_eq_true rfl) (fun r_11 u H locs h_12 hP hD hS => ?_)
          have hP : va_P g vwCl [(lw, .inl (cT 0, 10400, .inl (fun _ => 0))), (o, .inr (4, [.ref al, .ref gr, .ref fr, .ref lk, .int 1, .ref ln, .ref lw, .ref lz, .int 0, .ref na, .ref nb, .int 0])), (ln, .inl (cT 0, 2400, .inl (fun _ => 0)))] H := hP
          have hD : va_D A [(lw, .inl (cT 0, 10400, .inl (fun _ => 0))), (o, .inr (4, [.ref al, .ref gr, .ref fr, .ref lk, .int 1, .ref ln, .ref lw, .ref lz, .int 0, .ref na, .ref nb, .int 0])), (ln, .inl (cT 0, 2400, .inl (fun _ => 0)))] := hD
          subst h_12
          refine lv_iload_n hx hb dX4_countShort_45 rfl (lv_at hl 3 rfl) ?_
          refine lv_iconst (v := 1) hx hb dX4_countShort_46 (by decide) ?_
          refine w_isub (v := (nI (j - 1))) hx hb dX4_countShort_47 (pk_sub (b := 1) hj0) ?_
          refine cj_i 0 0 (wr := [(ln, .inl (cT 0, 2400, .inl (fun _ => 0)))]) (va_runV (As := [.int 0, .int (nI (j - 1))]) (rest := [.int 0]) ⟨hx, hb, hml, hown, hts⟩ (c_L_waysFrom l g cT H.size o al gr fr lk ln lw lz na nb 0 (j - 1) (by omega)) (cwV 2 hts gX4_countShort_X4_waysFrom rfl rfl rfl yd_X4_waysFrom ⟨(Nat.le_of_ble_eq_true rfl), (Nat.le_of_ble_eq_true rfl)⟩) (preV (wc := [(o, .inr (4, [.ref al, .ref gr, .ref fr, .ref lk, .int 1, .ref ln, .ref lw, .ref lz, .int 0, .ref na, .ref nb, .int 0])), (lw, .inl (cT 0, 10400, .inl (fun _ => 0)))]) rfl hP hD hK hN hZ hS hA [1, 0] rfl (by decide) (ci := 4) (q0 := 1) rfl rfl) rfl rfl hl.1 rfl (lv_room (Nat.le_of_ble_eq_true rfl)) dX4_countShort_48 ⟨(Nat.le_of_ble_eq_true rfl), (Nat.le_of_ble_eq_true rfl)⟩) hP hD hS hA [1, 0] [2] rfl rfl (by decide) (by decide) (Nat.le_of_ble_eq_true rfl) (Nat.le_of_ble_eq_true rfl) (fun r_13 u H locs h_14 hP hD hS => ?_)
          have hP : va_P g vwCl [(ln, .inl (cT 0, 2400, .inl (fun _ => 0))), (o, .inr (4, [.ref al, .ref gr, .ref fr, .ref lk, .int 1, .ref ln, .ref lw, .ref lz, .int 0, .ref na, .ref nb, .int 0])), (lw, .inl (cT 0, 10400, .inl (fun _ => 0)))] H := hP
          have hD : va_D A [(ln, .inl (cT 0, 2400, .inl (fun _ => 0))), (o, .inr (4, [.ref al, .ref gr, .ref fr, .ref lk, .int 1, .ref ln, .ref lw, .ref lz, .int 0, .ref na, .ref nb, .int 0])), (lw, .inl (cT 0, 10400, .inl (fun _ => 0)))] := hD
          subst h_14
          refine w_iadd (v := 0) hx hb dX4_countShort_51 (by decide) ?_
          refine lv_istore_n (lv' := [(3, .int 0), (4, .int 2), (2, .int 0), (1, .int (nI j)), (0, .ref o)]) hx hb dX4_countShort_52 rfl hl (by decide) rfl (fun ls hl => ?_)
          refine lv_iinc (v := 3) (lv' := [(4, .int 3), (3, .int 0), (2, .int 0), (1, .int (nI j)), (0, .ref o)]) hx hb dX4_countShort_53 hl (k := 1) rfl (by decide) (by decide) rfl (fun ls hl => ?_)
          refine lv_goto (tgt := 30) hx hb dX4_countShort_56 (by decide) ?_
          refine lv_iload hx hb dX4_countShort_30 (lv_at hl 0 rfl) ?_
          refine lv_iconst (v := 3) hx hb dX4_countShort_32 (by decide) ?_
          refine icmp_ge_t hx hb 59 dX4_countShort_33 (by decide) (by decide) ?_
          refine lv_aload_n hx hb dX4_countShort_59 rfl (lv_at hl 4 rfl) ?_
          refine va_get (C := RX4) (T := TX4) (N := 12) (v := .ref lw) hx hb hts hi_X4_countShort_X4 hown hK hP 1 rfl rfl 6 (by decide) (hts (.fieldLink RX4 34 "BothWays$Least" "ways" "[I") (by decide +kernel)) (fun _ h => h) rfl dX4_countShort_60 ?_
          refine lv_iload_n hx hb dX4_countShort_63 rfl (lv_at hl 3 rfl) ?_
          refine lv_sipush (v := 800) hx hb dX4_countShort_64 (by decide) ?_
          refine w_imul (v := (nI (j * 800))) hx hb dX4_countShort_67 (pk_mul j 800) ?_
          refine lv_iload_n hx hb dX4_countShort_68 rfl (lv_at hl 2 rfl) ?_
          refine w_iadd (v := (nI (j * 800))) hx hb dX4_countShort_69 (Int32.add_zero _) ?_
          refine lv_iload_n hx hb dX4_countShort_70 rfl (lv_at hl 1 rfl) ?_
          refine w_iast (f' := (fun _ => 0)) hx hb hK hP hD hS 2 rfl dX4_countShort_71 (vp_in_nI (show j * 800 < 10400 by omega) (by decide)) (upd_c _ _) (fun H locs hP hD hS => ?_)
          have hP : va_P g vwCl [(ln, .inl (cT 0, 2400, .inl (fun _ => 0))), (o, .inr (4, [.ref al, .ref gr, .ref fr, .ref lk, .int 1, .ref ln, .ref lw, .ref lz, .int 0, .ref na, .ref nb, .int 0])), (lw, .inl (cT 0, 10400, .inl (fun _ => 0)))] H := hP
          have hD : va_D A [(ln, .inl (cT 0, 2400, .inl (fun _ => 0))), (o, .inr (4, [.ref al, .ref gr, .ref fr, .ref lk, .int 1, .ref ln, .ref lw, .ref lz, .int 0, .ref na, .ref nb, .int 0])), (lw, .inl (cT 0, 10400, .inl (fun _ => 0)))] := hD
          refine lv_iinc (v := 1) (lv' := [(2, .int 1), (4, .int 3), (3, .int 0), (1, .int (nI j)), (0, .ref o)]) hx hb dX4_countShort_72 hl (k := 2) rfl (by decide) (by decide) rfl (fun ls hl => ?_)
          refine lv_goto (tgt := 10) hx hb dX4_countShort_75 (by decide) ?_
          refine lv_iload_n hx hb dX4_countShort_10 rfl (lv_at hl 0 rfl) ?_
          refine lv_aload_n hx hb dX4_countShort_11 rfl (lv_at hl 4 rfl) ?_
          refine va_get (C := RX4) (T := TX4) (N := 12) (v := .int 1) hx hb hts hi_X4_countShort_X4 hown hK hP 1 rfl rfl 4 (by decide) (hts (.fieldLink RX4 27 "BothWays$Least" "size" "I") (by decide +kernel)) (fun _ h => h) rfl dX4_countShort_12 ?_
          refine icmp_ge_t hx hb 78 dX4_countShort_15 (by decide) (by decide) ?_
          refine lv_iinc (v := (nI (j + 1))) (lv' := [(1, .int (nI (j + 1))), (2, .int 1), (4, .int 3), (3, .int 0), (0, .ref o)]) hx hb dX4_countShort_78 hl (k := 3) rfl (nI_1 j) (by decide) rfl (fun ls hl => ?_)
          refine lv_goto (tgt := 2) hx hb dX4_countShort_81 (by decide) ?_
          exact ih_loop_1 (j + 1) (by omega) (by omega) (by omega) _ _ (hP.sub [1, 0, 2] rfl) (hD.sub [1, 0, 2] (by decide) rfl) hS ls (lv_sub hl [0, 4] rfl)
    exact loop_1 _ 1 (Nat.le_refl _) (by decide) (Nat.lt_succ_self _) _ _ (hP.sub [0, 1, 2] rfl) (hD.sub [0, 1, 2] (by decide) rfl) hS ls (lv_sub hl [0, 1] rfl)
  rw [hH, hlo] at hgo
  exact hgo
theorem hi_X4_renew_X4 : ∀ w ∈ wsX40, w ∈ wsX4_renew := fun _ h => List.mem_cons_of_mem _ (List.mem_append_left _ (List.mem_append_left _ (List.mem_append_left _ (List.mem_append_right _ h))))
theorem hi_X4_renew_X0 : ∀ w ∈ wsX00, w ∈ wsX4_renew := fun _ h => List.mem_cons_of_mem _ (List.mem_append_left _ (List.mem_append_left _ (List.mem_append_right _ h)))
theorem yd_X4_part : yX4_part.cls = RX4 ∧ yX4_part.cls ≠ "java/lang/invoke/MethodHandle" ∧ yX4_part.cls ≠ "java/lang/invoke/VarHandle" ∧ (parseMethodDescriptor yX4_part.desc).map (fun d => d.parameters.length) = some 0 := by decide +kernel
theorem yd_X4_link : yX4_link.cls = RX4 ∧ yX4_link.cls ≠ "java/lang/invoke/MethodHandle" ∧ yX4_link.cls ≠ "java/lang/invoke/VarHandle" ∧ (parseMethodDescriptor yX4_link.desc).map (fun d => d.parameters.length) = some 0 := by decide +kernel
theorem yd_X4_countShort : yX4_countShort.cls = RX4 ∧ yX4_countShort.cls ≠ "java/lang/invoke/MethodHandle" ∧ yX4_countShort.cls ≠ "java/lang/invoke/VarHandle" ∧ (parseMethodDescriptor yX4_countShort.desc).map (fun d => d.parameters.length) = some 0 := by decide +kernel
abbrev rm_c_L_renew : Room := { frames := 5, cells := 0, slots := 0, locals := 116 }
set_option maxHeartbeats 4000000 in
set_option maxRecDepth 100000 in
theorem c_L_renew (l : Launch) (g : va_G) (cT : Nat → ClassId) (sz : Nat) (o : Nat) (al : Nat) (gr : Nat) (fr : Nat) (lk : Nat) (ln : Nat) (lw : Nat) (lz : Nat) (na : Nat) (nb : Nat) (ka : Nat) (kb : Nat) (o6 : Nat) (fi : Nat) (nx : Nat) (en : Nat) (k : Nat) (a : Nat) (b : Nat) (pa : Nat) (la : Nat) (le : Nat)  : Ctr l g cT sz yX4_renew wsX4_renew rm_c_L_renew [.ref o] [(o, .inr (4, [.ref al, .ref gr, .ref fr, .ref lk, .int 0, .ref ln, .ref lw, .ref lz, .int 0, .ref na, .ref nb, .int (-1)])), (gr, .inl (cT 0, 800, .inl (fun _ => 0))), (fr, .inl (cT 0, 800, .inl (fun _ => 0))), (ln, .inl (cT 0, 2400, .inl (fun _ => 0))), (lw, .inl (cT 0, 10400, .inl (fun _ => 0))), (lz, .inl (cT 0, 10001, .inl (fun _ => 0))), (na, .inl (cT 0, 800, .inl (fun _ => 0))), (nb, .inl (cT 0, 800, .inl (fun _ => 0))), (lk, .inr (2, [.ref ka, .ref kb, .int 0])), (ka, .inl (cT 1, 800, .inr (.inl (fun _ => 0)))), (kb, .inl (cT 0, 2048, .inl (fun _ => 0))), (al, .inr (0, [.ref o6, .ref fi, .ref nx, .ref en, .int 0])), (nx, .inl (cT 0, 2400, .inl (fun _ => 0))), (en, .inl (cT 0, 800, .inl (fun _ => 0))), (fi, .inr (1, [.ref k, .ref pa, .ref la, .ref le, .int 0])), (k, .inr (2, [.ref a, .ref b, .int 1]))] (QV g (fun (u : Unit) => True) (fun (u : Unit) => [(o, .inr (4, [.ref al, .ref gr, .ref fr, .ref lk, .int 1, .ref ln, .ref lw, .ref lz, .int 0, .ref na, .ref nb, .int 0])), (ln, .inl (cT 0, 2400, .inl (fun _ => 0))), (lw, .inl (cT 0, 10400, .inl (fun _ => 0))), (lz, .inl (cT 0, 10001, .inl (fun _ => 0))), (na, .inl (cT 0, 800, .inl (fun _ => 0))), (nb, .inl (cT 0, 800, .inl (fun _ => 0)))])) 0 0 := by
  refine mk_ctr (cc := cX4_renew) (maxL := 1) (ret := none) (by decide) rfl (Nat.le_of_ble_eq_true rfl) ?_
  intro p e s m args below meth c A Q hx hb hr hts hown hlocks hin hml hP hK hD hN hZ hA hS hQ ls hl
  have hl : lv_has ls 1 [(0, .ref o)] := hl
  obtain ⟨H, hH⟩ : ∃ H : Heap, H = s.heap := ⟨_, rfl⟩
  obtain ⟨locs, hlo⟩ : ∃ x : List Loc, x = [] := ⟨_, rfl⟩
  rw [← hH] at hP
  have hS : va_S A s.heap H locs := by rw [hH, hlo]; exact hS
  have hgo : W p l e rm_c_L_renew s m args below meth c H locs 0 0 Q (F0 m 0 ls []) := by
    clear hH hlo
    refine lv_aload_n hx hb dX4_renew_0 rfl (lv_at hl 0 rfl) ?_
    refine va_get (C := RX4) (T := TX4) (N := 12) (v := .int (-1)) hx hb hts hi_X4_renew_X4 hown hK hP 0 rfl rfl 11 (by decide) (hts (.fieldLink RX4 49 "BothWays$Least" "version" "I") (by decide +kernel)) (fun _ h => h) rfl dX4_renew_1 ?_
    refine lv_aload_n hx hb dX4_renew_4 rfl (lv_at hl 0 rfl) ?_
    refine va_get (C := RX4) (T := TX4) (N := 12) (v := .ref al) hx hb hts hi_X4_renew_X4 hown hK hP 0 rfl rfl 0 (by decide) (hts (.fieldLink RX4 52 "BothWays$Least" "all" "LBothWays$Beginnings;") (by decide +kernel)) (fun _ h => h) rfl dX4_renew_5 ?_
    refine va_getN (C := RX0) (T := TX0) (N := 5) (v := .int 0) hx hb hts hi_X4_renew_X0 hown hK hP 11 rfl rfl 4 (by decide) (nf_35 hN) (fun _ h => h) rfl dX4_renew_8 ?_
    refine icmp_ne_t hx hb 15 dX4_renew_11 (by decide) (by decide) ?_
    refine lv_aload_n hx hb dX4_renew_15 rfl (lv_at hl 0 rfl) ?_
    refine lv_aload_n hx hb dX4_renew_16 rfl (lv_at hl 0 rfl) ?_
    refine va_get (C := RX4) (T := TX4) (N := 12) (v := .ref al) hx hb hts hi_X4_renew_X4 hown hK hP 0 rfl rfl 0 (by decide) (hts (.fieldLink RX4 52 "BothWays$Least" "all" "LBothWays$Beginnings;") (by decide +kernel)) (fun _ h => h) rfl dX4_renew_17 ?_
    refine va_getN (C := RX0) (T := TX0) (N := 5) (v := .int 0) hx hb hts hi_X4_renew_X0 hown hK hP 11 rfl rfl 4 (by decide) (nf_35 hN) (fun _ h => h) rfl dX4_renew_20 ?_
    refine va_put (C := RX4) (T := TX4) (N := 12) (v := .int 0) (ty := .int) hx hb hts hi_X4_renew_X4 tyX4 tyX4_ok nmX4 hown hK hP hD hS 0 rfl rfl 11 (by decide) (hts (.fieldLink RX4 49 "BothWays$Least" "version" "I") (by decide +kernel)) (fun _ h => h) rfl (by decide +kernel) rfl rfl (Nat.le_of_ble_eq_true rfl) dX4_renew_23 (fun H locs hP hD hS => ?_)
    have hP : va_P g vwCl [(o, .inr (4, [.ref al, .ref gr, .ref fr, .ref lk, .int 0, .ref ln, .ref lw, .ref lz, .int 0, .ref na, .ref nb, .int 0])), (gr, .inl (cT 0, 800, .inl (fun _ => 0))), (fr, .inl (cT 0, 800, .inl (fun _ => 0))), (ln, .inl (cT 0, 2400, .inl (fun _ => 0))), (lw, .inl (cT 0, 10400, .inl (fun _ => 0))), (lz, .inl (cT 0, 10001, .inl (fun _ => 0))), (na, .inl (cT 0, 800, .inl (fun _ => 0))), (nb, .inl (cT 0, 800, .inl (fun _ => 0))), (lk, .inr (2, [.ref ka, .ref kb, .int 0])), (ka, .inl (cT 1, 800, .inr (.inl (fun _ => 0)))), (kb, .inl (cT 0, 2048, .inl (fun _ => 0))), (al, .inr (0, [.ref o6, .ref fi, .ref nx, .ref en, .int 0])), (nx, .inl (cT 0, 2400, .inl (fun _ => 0))), (en, .inl (cT 0, 800, .inl (fun _ => 0))), (fi, .inr (1, [.ref k, .ref pa, .ref la, .ref le, .int 0])), (k, .inr (2, [.ref a, .ref b, .int 1]))] H := hP
    have hD : va_D A [(o, .inr (4, [.ref al, .ref gr, .ref fr, .ref lk, .int 0, .ref ln, .ref lw, .ref lz, .int 0, .ref na, .ref nb, .int 0])), (gr, .inl (cT 0, 800, .inl (fun _ => 0))), (fr, .inl (cT 0, 800, .inl (fun _ => 0))), (ln, .inl (cT 0, 2400, .inl (fun _ => 0))), (lw, .inl (cT 0, 10400, .inl (fun _ => 0))), (lz, .inl (cT 0, 10001, .inl (fun _ => 0))), (na, .inl (cT 0, 800, .inl (fun _ => 0))), (nb, .inl (cT 0, 800, .inl (fun _ => 0))), (lk, .inr (2, [.ref ka, .ref kb, .int 0])), (ka, .inl (cT 1, 800, .inr (.inl (fun _ => 0)))), (kb, .inl (cT 0, 2048, .inl (fun _ => 0))), (al, .inr (0, [.ref o6, .ref fi, .ref nx, .ref en, .int 0])), (nx, .inl (cT 0, 2400, .inl (fun _ => 0))), (en, .inl (cT 0, 800, .inl (fun _ => 0))), (fi, .inr (1, [.ref k, .ref pa, .ref la, .ref le, .int 0])), (k, .inr (2, [.ref a, .ref b, .int 1]))] := hD
    refine lv_aload_n hx hb dX4_renew_26 rfl (lv_at hl 0 rfl) ?_
    refine cj_v 0 0 (wr := [(ln, .inl (cT 0, 2400, .inl (fun _ => 0))), (lw, .inl (cT 0, 10400, .inl (fun _ => 0))), (lz, .inl (cT 0, 10001, .inl (fun _ => 0))), (na, .inl (cT 0, 800, .inl (fun _ => 0))), (nb, .inl (cT 0, 800, .inl (fun _ => 0)))]) (va_runV (As := []) (rest := []) ⟨hx, hb, hml, hown, hts⟩ (c_L_part l g cT H.size o al gr fr lk ln lw lz na nb ka kb o6 fi nx en k a b pa la le) (cwV 0 hts gX4_renew_X4_part rfl rfl rfl yd_X4_part ⟨(Nat.le_of_ble_eq_true rfl), (Nat.le_of_ble_eq_true rfl)⟩) (preV (wc := [(o, .inr (4, [.ref al, .ref gr, .ref fr, .ref lk, .int 0, .ref ln, .ref lw, .ref lz, .int 0, .ref na, .ref nb, .int 0])), (gr, .inl (cT 0, 800, .inl (fun _ => 0))), (fr, .inl (cT 0, 800, .inl (fun _ => 0))), (lk, .inr (2, [.ref ka, .ref kb, .int 0])), (ka, .inl (cT 1, 800, .inr (.inl (fun _ => 0)))), (kb, .inl (cT 0, 2048, .inl (fun _ => 0))), (al, .inr (0, [.ref o6, .ref fi, .ref nx, .ref en, .int 0])), (nx, .inl (cT 0, 2400, .inl (fun _ => 0))), (en, .inl (cT 0, 800, .inl (fun _ => 0))), (fi, .inr (1, [.ref k, .ref pa, .ref la, .ref le, .int 0])), (k, .inr (2, [.ref a, .ref b, .int 1]))]) rfl hP hD hK hN hZ hS hA [0, 1, 2, 8, 9, 10, 11, 12, 13, 14, 15] rfl (by decide) (ci := 4) (q0 := 0) rfl rfl) rfl rfl hl.1 rfl (lv_room (Nat.le_of_ble_eq_true rfl)) dX4_renew_27 ⟨(Nat.le_of_ble_eq_true rfl), (Nat.le_of_ble_eq_true rfl)⟩) hP hD hS hA [0, 1, 2, 8, 9, 10, 11, 12, 13, 14, 15] [3, 4, 5, 6, 7] rfl rfl (by decide) (by decide) (Nat.le_of_ble_eq_true rfl) (Nat.le_of_ble_eq_true rfl) (fun u H locs h_2 hP hD hS => ?_)
    have hP : va_P g vwCl [(ln, .inl (cT 0, 2400, .inl (fun _ => 0))), (lw, .inl (cT 0, 10400, .inl (fun _ => 0))), (lz, .inl (cT 0, 10001, .inl (fun _ => 0))), (na, .inl (cT 0, 800, .inl (fun _ => 0))), (nb, .inl (cT 0, 800, .inl (fun _ => 0))), (o, .inr (4, [.ref al, .ref gr, .ref fr, .ref lk, .int 1, .ref ln, .ref lw, .ref lz, .int 0, .ref na, .ref nb, .int 0])), (gr, .inl (cT 0, 800, .inl (fun _ => 0))), (fr, .inl (cT 0, 800, .inl (fun _ => 0))), (al, .inr (0, [.ref o6, .ref fi, .ref nx, .ref en, .int 0])), (nx, .inl (cT 0, 2400, .inl (fun _ => 0))), (en, .inl (cT 0, 800, .inl (fun _ => 0))), (fi, .inr (1, [.ref k, .ref pa, .ref la, .ref le, .int 0])), (k, .inr (2, [.ref a, .ref b, .int 1]))] H := hP
    have hD : va_D A [(ln, .inl (cT 0, 2400, .inl (fun _ => 0))), (lw, .inl (cT 0, 10400, .inl (fun _ => 0))), (lz, .inl (cT 0, 10001, .inl (fun _ => 0))), (na, .inl (cT 0, 800, .inl (fun _ => 0))), (nb, .inl (cT 0, 800, .inl (fun _ => 0))), (o, .inr (4, [.ref al, .ref gr, .ref fr, .ref lk, .int 1, .ref ln, .ref lw, .ref lz, .int 0, .ref na, .ref nb, .int 0])), (gr, .inl (cT 0, 800, .inl (fun _ => 0))), (fr, .inl (cT 0, 800, .inl (fun _ => 0))), (al, .inr (0, [.ref o6, .ref fi, .ref nx, .ref en, .int 0])), (nx, .inl (cT 0, 2400, .inl (fun _ => 0))), (en, .inl (cT 0, 800, .inl (fun _ => 0))), (fi, .inr (1, [.ref k, .ref pa, .ref la, .ref le, .int 0])), (k, .inr (2, [.ref a, .ref b, .int 1]))] := hD
    refine lv_aload_n hx hb dX4_renew_30 rfl (lv_at hl 0 rfl) ?_
    refine cj_v 0 0 (wr := [(lz, .inl (cT 0, 10001, .inl (fun _ => 0))), (na, .inl (cT 0, 800, .inl (fun _ => 0))), (nb, .inl (cT 0, 800, .inl (fun _ => 0))), (fr, .inl (cT 0, 800, .inl (fun _ => 0)))]) (va_runV (As := []) (rest := []) ⟨hx, hb, hml, hown, hts⟩ (c_L_link l g cT H.size o al gr fr lk ln lw lz na nb o6 fi nx en k a b pa la le) (cwV 0 hts gX4_renew_X4_link rfl rfl rfl yd_X4_link ⟨(Nat.le_of_ble_eq_true rfl), (Nat.le_of_ble_eq_true rfl)⟩) (preV (wc := [(o, .inr (4, [.ref al, .ref gr, .ref fr, .ref lk, .int 1, .ref ln, .ref lw, .ref lz, .int 0, .ref na, .ref nb, .int 0])), (gr, .inl (cT 0, 800, .inl (fun _ => 0))), (lw, .inl (cT 0, 10400, .inl (fun _ => 0))), (ln, .inl (cT 0, 2400, .inl (fun _ => 0))), (al, .inr (0, [.ref o6, .ref fi, .ref nx, .ref en, .int 0])), (nx, .inl (cT 0, 2400, .inl (fun _ => 0))), (en, .inl (cT 0, 800, .inl (fun _ => 0))), (fi, .inr (1, [.ref k, .ref pa, .ref la, .ref le, .int 0])), (k, .inr (2, [.ref a, .ref b, .int 1]))]) rfl hP hD hK hN hZ hS hA [5, 6, 1, 0, 8, 9, 10, 11, 12] rfl (by decide) (ci := 4) (q0 := 5) rfl rfl) rfl rfl hl.1 rfl (lv_room (Nat.le_of_ble_eq_true rfl)) dX4_renew_31 ⟨(Nat.le_of_ble_eq_true rfl), (Nat.le_of_ble_eq_true rfl)⟩) hP hD hS hA [5, 6, 1, 0, 8, 9, 10, 11, 12] [2, 3, 4, 7] rfl rfl (by decide) (by decide) (Nat.le_of_ble_eq_true rfl) (Nat.le_of_ble_eq_true rfl) (fun u H locs h_4 hP hD hS => ?_)
    have hP : va_P g vwCl [(lz, .inl (cT 0, 10001, .inl (fun _ => 0))), (na, .inl (cT 0, 800, .inl (fun _ => 0))), (nb, .inl (cT 0, 800, .inl (fun _ => 0))), (fr, .inl (cT 0, 800, .inl (fun _ => 0))), (o, .inr (4, [.ref al, .ref gr, .ref fr, .ref lk, .int 1, .ref ln, .ref lw, .ref lz, .int 0, .ref na, .ref nb, .int 0])), (gr, .inl (cT 0, 800, .inl (fun _ => 0))), (lw, .inl (cT 0, 10400, .inl (fun _ => 0))), (ln, .inl (cT 0, 2400, .inl (fun _ => 0))), (al, .inr (0, [.ref o6, .ref fi, .ref nx, .ref en, .int 0])), (nx, .inl (cT 0, 2400, .inl (fun _ => 0))), (en, .inl (cT 0, 800, .inl (fun _ => 0))), (fi, .inr (1, [.ref k, .ref pa, .ref la, .ref le, .int 0])), (k, .inr (2, [.ref a, .ref b, .int 1]))] H := hP
    have hD : va_D A [(lz, .inl (cT 0, 10001, .inl (fun _ => 0))), (na, .inl (cT 0, 800, .inl (fun _ => 0))), (nb, .inl (cT 0, 800, .inl (fun _ => 0))), (fr, .inl (cT 0, 800, .inl (fun _ => 0))), (o, .inr (4, [.ref al, .ref gr, .ref fr, .ref lk, .int 1, .ref ln, .ref lw, .ref lz, .int 0, .ref na, .ref nb, .int 0])), (gr, .inl (cT 0, 800, .inl (fun _ => 0))), (lw, .inl (cT 0, 10400, .inl (fun _ => 0))), (ln, .inl (cT 0, 2400, .inl (fun _ => 0))), (al, .inr (0, [.ref o6, .ref fi, .ref nx, .ref en, .int 0])), (nx, .inl (cT 0, 2400, .inl (fun _ => 0))), (en, .inl (cT 0, 800, .inl (fun _ => 0))), (fi, .inr (1, [.ref k, .ref pa, .ref la, .ref le, .int 0])), (k, .inr (2, [.ref a, .ref b, .int 1]))] := hD
    refine lv_aload_n hx hb dX4_renew_34 rfl (lv_at hl 0 rfl) ?_
    refine cj_v 0 0 (wr := [(lz, .inl (cT 0, 10001, .inl (fun _ => 0))), (na, .inl (cT 0, 800, .inl (fun _ => 0))), (nb, .inl (cT 0, 800, .inl (fun _ => 0))), (fr, .inl (cT 0, 800, .inl (fun _ => 0))), (gr, .inl (cT 0, 800, .inl (fun _ => 0))), (al, .inr (0, [.ref o6, .ref fi, .ref nx, .ref en, .int 0])), (nx, .inl (cT 0, 2400, .inl (fun _ => 0))), (en, .inl (cT 0, 800, .inl (fun _ => 0))), (fi, .inr (1, [.ref k, .ref pa, .ref la, .ref le, .int 0])), (k, .inr (2, [.ref a, .ref b, .int 1]))]) (va_runV (As := []) (rest := []) ⟨hx, hb, hml, hown, hts⟩ (c_L_countShort l g cT H.size o al gr fr lk ln lw lz na nb) (cwV 0 hts gX4_renew_X4_countShort rfl rfl rfl yd_X4_countShort ⟨(Nat.le_of_ble_eq_true rfl), (Nat.le_of_ble_eq_true rfl)⟩) (preV (wc := [(o, .inr (4, [.ref al, .ref gr, .ref fr, .ref lk, .int 1, .ref ln, .ref lw, .ref lz, .int 0, .ref na, .ref nb, .int 0])), (ln, .inl (cT 0, 2400, .inl (fun _ => 0))), (lw, .inl (cT 0, 10400, .inl (fun _ => 0)))]) rfl hP hD hK hN hZ hS hA [4, 7, 6] rfl (by decide) (ci := 4) (q0 := 4) rfl rfl) rfl rfl hl.1 rfl (lv_room (Nat.le_of_ble_eq_true rfl)) dX4_renew_35 ⟨(Nat.le_of_ble_eq_true rfl), (Nat.le_of_ble_eq_true rfl)⟩) hP hD hS hA [4, 7, 6] [0, 1, 2, 3, 5, 8, 9, 10, 11, 12] rfl rfl (by decide) (by decide) (Nat.le_of_ble_eq_true rfl) (Nat.le_of_ble_eq_true rfl) (fun u H locs h_6 hP hD hS => ?_)
    have hP : va_P g vwCl [(lz, .inl (cT 0, 10001, .inl (fun _ => 0))), (na, .inl (cT 0, 800, .inl (fun _ => 0))), (nb, .inl (cT 0, 800, .inl (fun _ => 0))), (fr, .inl (cT 0, 800, .inl (fun _ => 0))), (gr, .inl (cT 0, 800, .inl (fun _ => 0))), (al, .inr (0, [.ref o6, .ref fi, .ref nx, .ref en, .int 0])), (nx, .inl (cT 0, 2400, .inl (fun _ => 0))), (en, .inl (cT 0, 800, .inl (fun _ => 0))), (fi, .inr (1, [.ref k, .ref pa, .ref la, .ref le, .int 0])), (k, .inr (2, [.ref a, .ref b, .int 1])), (o, .inr (4, [.ref al, .ref gr, .ref fr, .ref lk, .int 1, .ref ln, .ref lw, .ref lz, .int 0, .ref na, .ref nb, .int 0])), (ln, .inl (cT 0, 2400, .inl (fun _ => 0))), (lw, .inl (cT 0, 10400, .inl (fun _ => 0)))] H := hP
    have hD : va_D A [(lz, .inl (cT 0, 10001, .inl (fun _ => 0))), (na, .inl (cT 0, 800, .inl (fun _ => 0))), (nb, .inl (cT 0, 800, .inl (fun _ => 0))), (fr, .inl (cT 0, 800, .inl (fun _ => 0))), (gr, .inl (cT 0, 800, .inl (fun _ => 0))), (al, .inr (0, [.ref o6, .ref fi, .ref nx, .ref en, .int 0])), (nx, .inl (cT 0, 2400, .inl (fun _ => 0))), (en, .inl (cT 0, 800, .inl (fun _ => 0))), (fi, .inr (1, [.ref k, .ref pa, .ref la, .ref le, .int 0])), (k, .inr (2, [.ref a, .ref b, .int 1])), (o, .inr (4, [.ref al, .ref gr, .ref fr, .ref lk, .int 1, .ref ln, .ref lw, .ref lz, .int 0, .ref na, .ref nb, .int 0])), (ln, .inl (cT 0, 2400, .inl (fun _ => 0))), (lw, .inl (cT 0, 10400, .inl (fun _ => 0)))] := hD
    refine lv_aload_n hx hb dX4_renew_38 rfl (lv_at hl 0 rfl) ?_
    refine lv_iconst (v := 0) hx hb dX4_renew_39 (by decide) ?_
    refine va_put (C := RX4) (T := TX4) (N := 12) (v := .int 0) (ty := .int) hx hb hts hi_X4_renew_X4 tyX4 tyX4_ok nmX4 hown hK hP hD hS 10 rfl rfl 8 (by decide) (hts (.fieldLink RX4 40 "BothWays$Least" "seriesSize" "I") (by decide +kernel)) (fun _ h => h) rfl (by decide +kernel) rfl rfl (Nat.le_of_ble_eq_true rfl) dX4_renew_40 (fun H locs hP hD hS => ?_)
    have hP : va_P g vwCl [(lz, .inl (cT 0, 10001, .inl (fun _ => 0))), (na, .inl (cT 0, 800, .inl (fun _ => 0))), (nb, .inl (cT 0, 800, .inl (fun _ => 0))), (fr, .inl (cT 0, 800, .inl (fun _ => 0))), (gr, .inl (cT 0, 800, .inl (fun _ => 0))), (al, .inr (0, [.ref o6, .ref fi, .ref nx, .ref en, .int 0])), (nx, .inl (cT 0, 2400, .inl (fun _ => 0))), (en, .inl (cT 0, 800, .inl (fun _ => 0))), (fi, .inr (1, [.ref k, .ref pa, .ref la, .ref le, .int 0])), (k, .inr (2, [.ref a, .ref b, .int 1])), (o, .inr (4, [.ref al, .ref gr, .ref fr, .ref lk, .int 1, .ref ln, .ref lw, .ref lz, .int 0, .ref na, .ref nb, .int 0])), (ln, .inl (cT 0, 2400, .inl (fun _ => 0))), (lw, .inl (cT 0, 10400, .inl (fun _ => 0)))] H := hP
    have hD : va_D A [(lz, .inl (cT 0, 10001, .inl (fun _ => 0))), (na, .inl (cT 0, 800, .inl (fun _ => 0))), (nb, .inl (cT 0, 800, .inl (fun _ => 0))), (fr, .inl (cT 0, 800, .inl (fun _ => 0))), (gr, .inl (cT 0, 800, .inl (fun _ => 0))), (al, .inr (0, [.ref o6, .ref fi, .ref nx, .ref en, .int 0])), (nx, .inl (cT 0, 2400, .inl (fun _ => 0))), (en, .inl (cT 0, 800, .inl (fun _ => 0))), (fi, .inr (1, [.ref k, .ref pa, .ref la, .ref le, .int 0])), (k, .inr (2, [.ref a, .ref b, .int 1])), (o, .inr (4, [.ref al, .ref gr, .ref fr, .ref lk, .int 1, .ref ln, .ref lw, .ref lz, .int 0, .ref na, .ref nb, .int 0])), (ln, .inl (cT 0, 2400, .inl (fun _ => 0))), (lw, .inl (cT 0, 10400, .inl (fun _ => 0)))] := hD
    refine lv_aload_n hx hb dX4_renew_43 rfl (lv_at hl 0 rfl) ?_
    refine va_get (C := RX4) (T := TX4) (N := 12) (v := .ref lw) hx hb hts hi_X4_renew_X4 hown hK hP 10 rfl rfl 6 (by decide) (hts (.fieldLink RX4 34 "BothWays$Least" "ways" "[I") (by decide +kernel)) (fun _ h => h) rfl dX4_renew_44 ?_
    refine lv_iconst (v := 0) hx hb dX4_renew_47 (by decide) ?_
    refine lv_aload_n hx hb dX4_renew_48 rfl (lv_at hl 0 rfl) ?_
    refine va_get (C := RX4) (T := TX4) (N := 12) (v := .ref na) hx hb hts hi_X4_renew_X4 hown hK hP 10 rfl rfl 9 (by decide) (hts (.fieldLink RX4 43 "BothWays$Least" "now" "[I") (by decide +kernel)) (fun _ h => h) rfl dX4_renew_49 ?_
    refine lv_iconst (v := 0) hx hb dX4_renew_52 (by decide) ?_
    refine lv_sipush (v := 800) hx hb dX4_renew_53 (by decide) ?_
    refine va_copyi hx hb (hml.trans hl.1.symm) hown (hts (.methodLink RX4 68 arraycopyName) (by decide +kernel)) (hts (.native arraycopyName) (by decide +kernel)) (hts (.static arraycopyName) (by decide +kernel)) (hts (.initialized "java/lang/System") (by decide +kernel)) hK hP hD hS 12 1 0 0 rfl rfl rfl rfl rfl (by decide) (by decide) (by decide) (by decide) (by decide) (fun _ _ => rfl) (Nat.le_of_ble_eq_true rfl) (by decide) dX4_renew_56 (fun H locs hP hD hS => ?_)
    rw [cpy_c] at hP hD
    have hP : va_P g vwCl [(lz, .inl (cT 0, 10001, .inl (fun _ => 0))), (na, .inl (cT 0, 800, .inl (fun _ => 0))), (nb, .inl (cT 0, 800, .inl (fun _ => 0))), (fr, .inl (cT 0, 800, .inl (fun _ => 0))), (gr, .inl (cT 0, 800, .inl (fun _ => 0))), (al, .inr (0, [.ref o6, .ref fi, .ref nx, .ref en, .int 0])), (nx, .inl (cT 0, 2400, .inl (fun _ => 0))), (en, .inl (cT 0, 800, .inl (fun _ => 0))), (fi, .inr (1, [.ref k, .ref pa, .ref la, .ref le, .int 0])), (k, .inr (2, [.ref a, .ref b, .int 1])), (o, .inr (4, [.ref al, .ref gr, .ref fr, .ref lk, .int 1, .ref ln, .ref lw, .ref lz, .int 0, .ref na, .ref nb, .int 0])), (ln, .inl (cT 0, 2400, .inl (fun _ => 0))), (lw, .inl (cT 0, 10400, .inl (fun _ => 0)))] H := hP
    have hD : va_D A [(lz, .inl (cT 0, 10001, .inl (fun _ => 0))), (na, .inl (cT 0, 800, .inl (fun _ => 0))), (nb, .inl (cT 0, 800, .inl (fun _ => 0))), (fr, .inl (cT 0, 800, .inl (fun _ => 0))), (gr, .inl (cT 0, 800, .inl (fun _ => 0))), (al, .inr (0, [.ref o6, .ref fi, .ref nx, .ref en, .int 0])), (nx, .inl (cT 0, 2400, .inl (fun _ => 0))), (en, .inl (cT 0, 800, .inl (fun _ => 0))), (fi, .inr (1, [.ref k, .ref pa, .ref la, .ref le, .int 0])), (k, .inr (2, [.ref a, .ref b, .int 1])), (o, .inr (4, [.ref al, .ref gr, .ref fr, .ref lk, .int 1, .ref ln, .ref lw, .ref lz, .int 0, .ref na, .ref nb, .int 0])), (ln, .inl (cT 0, 2400, .inl (fun _ => 0))), (lw, .inl (cT 0, 10400, .inl (fun _ => 0)))] := hD
    exact rt_v hx hb hr hlocks hQ hP hD hS () [10, 11, 12, 0, 1, 2] dX4_renew_59 (Nat.le_of_ble_eq_true rfl) (Nat.le_of_ble_eq_true rfl) rfl (by decide) trivial
  rw [hH, hlo] at hgo
  exact hgo
theorem hi_X4_lengthen_X4 : ∀ w ∈ wsX40, w ∈ wsX4_lengthen := fun _ h => List.mem_cons_of_mem _ (List.mem_append_right _ h)
abbrev rm_c_L_lengthen : Room := { frames := 2, cells := 0, slots := 0, locals := 42 }
set_option maxHeartbeats 4000000 in
set_option maxRecDepth 100000 in
theorem c_L_lengthen (l : Launch) (g : va_G) (cT : Nat → ClassId) (sz : Nat) (o : Nat) (al : Nat) (gr : Nat) (fr : Nat) (lk : Nat) (ln : Nat) (lw : Nat) (lz : Nat) (na : Nat) (nb : Nat) (ss : Int32)  : Ctr l g cT sz yX4_lengthen wsX4_lengthen rm_c_L_lengthen [.ref o] [(o, .inr (4, [.ref al, .ref gr, .ref fr, .ref lk, .int 1, .ref ln, .ref lw, .ref lz, .int ss, .ref na, .ref nb, .int 0])), (ln, .inl (cT 0, 2400, .inl (fun _ => 0))), (na, .inl (cT 0, 800, .inl (fun _ => 0))), (nb, .inl (cT 0, 800, .inl (fun _ => 0)))] (QV g (fun (u : Unit) => True) (fun (u : Unit) => [(o, .inr (4, [.ref al, .ref gr, .ref fr, .ref lk, .int 1, .ref ln, .ref lw, .ref lz, .int ss, .ref nb, .ref na, .int 0])), (ln, .inl (cT 0, 2400, .inl (fun _ => 0))), (na, .inl (cT 0, 800, .inl (fun _ => 0))), (nb, .inl (cT 0, 800, .inl (fun _ => 0)))])) 0 0 := by
  refine mk_ctr (cc := cX4_lengthen) (maxL := 6) (ret := none) (by decide) rfl (Nat.le_of_ble_eq_true rfl) ?_
  intro p e s m args below meth c A Q hx hb hr hts hown hlocks hin hml hP hK hD hN hZ hA hS hQ ls hl
  have hl : lv_has ls 6 [(0, .ref o)] := hl
  obtain ⟨H, hH⟩ : ∃ H : Heap, H = s.heap := ⟨_, rfl⟩
  obtain ⟨locs, hlo⟩ : ∃ x : List Loc, x = [] := ⟨_, rfl⟩
  rw [← hH] at hP
  have hS : va_S A s.heap H locs := by rw [hH, hlo]; exact hS
  have hgo : W p l e rm_c_L_lengthen s m args below meth c H locs 0 0 Q (F0 m 0 ls []) := by
    clear hH hlo
    refine lv_iconst (v := 0) hx hb dX4_lengthen_0 (by decide) ?_
    refine lv_istore_n (lv' := [(1, .int 0), (0, .ref o)]) hx hb dX4_lengthen_1 rfl hl (by decide) rfl (fun ls hl => ?_)
    refine lv_iload_n hx hb dX4_lengthen_2 rfl (lv_at hl 0 rfl) ?_
    refine lv_aload_n hx hb dX4_lengthen_3 rfl (lv_at hl 1 rfl) ?_
    refine va_get (C := RX4) (T := TX4) (N := 12) (v := .int 1) hx hb hts hi_X4_lengthen_X4 hown hK hP 0 rfl rfl 4 (by decide) (hts (.fieldLink RX4 27 "BothWays$Least" "size" "I") (by decide +kernel)) (fun _ h => h) rfl dX4_lengthen_4 ?_
    refine icmp_ge_f hx hb dX4_lengthen_7 93 (by decide) (by decide) ?_
    refine lv_iload_n hx hb dX4_lengthen_10 rfl (lv_at hl 0 rfl) ?_
    refine lv_aload_n hx hb dX4_lengthen_11 rfl (lv_at hl 1 rfl) ?_
    refine va_get (C := RX4) (T := TX4) (N := 12) (v := .ref nb) hx hb hts hi_X4_lengthen_X4 hown hK hP 0 rfl rfl 10 (by decide) (hts (.fieldLink RX4 46 "BothWays$Least" "then" "[I") (by decide +kernel)) (fun _ h => h) rfl dX4_lengthen_12 ?_
    refine va_alen (v := 800) hx hb hK hP 3 0 rfl rfl rfl dX4_lengthen_15 ?_
    refine icmp_ge_f hx hb dX4_lengthen_16 93 (by decide) (by decide) ?_
    refine lv_lconst (v := 0) hx hb dX4_lengthen_19 (by decide) ?_
    refine lv_lstore_n (lv' := [(2, .long 0), (1, .int 0), (0, .ref o)]) hx hb dX4_lengthen_20 rfl hl (by decide) rfl (fun ls hl => ?_)
    refine lv_iconst (v := 0) hx hb dX4_lengthen_21 (by decide) ?_
    refine lv_istore (lv' := [(4, .int 0), (2, .long 0), (1, .int 0), (0, .ref o)]) hx hb dX4_lengthen_22 hl (by decide) rfl (fun ls hl => ?_)
    refine lv_iload hx hb dX4_lengthen_24 (lv_at hl 0 rfl) ?_
    refine lv_iconst (v := 3) hx hb dX4_lengthen_26 (by decide) ?_
    refine icmp_ge_f hx hb dX4_lengthen_27 75 (by decide) (by decide) ?_
    refine lv_aload_n hx hb dX4_lengthen_30 rfl (lv_at hl 3 rfl) ?_
    refine lv_iload_n hx hb dX4_lengthen_31 rfl (lv_at hl 2 rfl) ?_
    refine lv_iload hx hb dX4_lengthen_32 (lv_at hl 0 rfl) ?_
    refine cj_i 0 0 (wr := [(na, .inl (cT 0, 800, .inl (fun _ => 0))), (nb, .inl (cT 0, 800, .inl (fun _ => 0)))]) (va_runV (As := [.int 0, .int 0]) (rest := []) ⟨hx, hb, hml, hown, hts⟩ (c_L_next_0 l g cT H.size o al gr fr lk ln lw lz na nb ss) (cwV 2 hts gX4_lengthen_X4_next rfl rfl rfl yd_X4_next ⟨(Nat.le_of_ble_eq_true rfl), (Nat.le_of_ble_eq_true rfl)⟩) (preV (wc := [(o, .inr (4, [.ref al, .ref gr, .ref fr, .ref lk, .int 1, .ref ln, .ref lw, .ref lz, .int ss, .ref na, .ref nb, .int 0])), (ln, .inl (cT 0, 2400, .inl (fun _ => 0)))]) rfl hP hD hK hN hZ hS hA [0, 1] rfl (by decide) (ci := 4) (q0 := 0) rfl rfl) rfl rfl hl.1 rfl (lv_room (Nat.le_of_ble_eq_true rfl)) dX4_lengthen_34 ⟨(Nat.le_of_ble_eq_true rfl), (Nat.le_of_ble_eq_true rfl)⟩) hP hD hS hA [0, 1] [2, 3] rfl rfl (by decide) (by decide) (Nat.le_of_ble_eq_true rfl) (Nat.le_of_ble_eq_true rfl) (fun r_1 u H locs h_2 hP hD hS => ?_)
    have hP : va_P g vwCl [(na, .inl (cT 0, 800, .inl (fun _ => 0))), (nb, .inl (cT 0, 800, .inl (fun _ => 0))), (o, .inr (4, [.ref al, .ref gr, .ref fr, .ref lk, .int 1, .ref ln, .ref lw, .ref lz, .int ss, .ref na, .ref nb, .int 0])), (ln, .inl (cT 0, 2400, .inl (fun _ => 0)))] H := hP
    have hD : va_D A [(na, .inl (cT 0, 800, .inl (fun _ => 0))), (nb, .inl (cT 0, 800, .inl (fun _ => 0))), (o, .inr (4, [.ref al, .ref gr, .ref fr, .ref lk, .int 1, .ref ln, .ref lw, .ref lz, .int ss, .ref na, .ref nb, .int 0])), (ln, .inl (cT 0, 2400, .inl (fun _ => 0)))] := hD
    subst h_2
    refine lv_istore (lv' := [(5, .int 0), (4, .int 0), (2, .long 0), (1, .int 0), (0, .ref o)]) hx hb dX4_lengthen_37 hl (by decide) rfl (fun ls hl => ?_)
    refine lv_lload_n hx hb dX4_lengthen_39 rfl (lv_at hl 2 rfl) ?_
    refine lv_iload hx hb dX4_lengthen_40 (lv_at hl 0 rfl) ?_
    refine if_lt_f hx hb dX4_lengthen_42 66 (by decide) (by decide) ?_
    refine lv_iload hx hb dX4_lengthen_45 (lv_at hl 0 rfl) ?_
    refine lv_aload_n hx hb dX4_lengthen_47 rfl (lv_at hl 4 rfl) ?_
    refine va_get (C := RX4) (T := TX4) (N := 12) (v := .ref na) hx hb hts hi_X4_lengthen_X4 hown hK hP 2 rfl rfl 9 (by decide) (hts (.fieldLink RX4 43 "BothWays$Least" "now" "[I") (by decide +kernel)) (fun _ h => h) rfl dX4_lengthen_48 ?_
    refine va_alen (v := 800) hx hb hK hP 0 0 rfl rfl rfl dX4_lengthen_51 ?_
    refine icmp_ge_f hx hb dX4_lengthen_52 66 (by decide) (by decide) ?_
    refine lv_aload_n hx hb dX4_lengthen_55 rfl (lv_at hl 4 rfl) ?_
    refine va_get (C := RX4) (T := TX4) (N := 12) (v := .ref na) hx hb hts hi_X4_lengthen_X4 hown hK hP 2 rfl rfl 9 (by decide) (hts (.fieldLink RX4 43 "BothWays$Least" "now" "[I") (by decide +kernel)) (fun _ h => h) rfl dX4_lengthen_56 ?_
    refine lv_iload hx hb dX4_lengthen_59 (lv_at hl 0 rfl) ?_
    refine w_iald (v := 0) hx hb hK hP 0 rfl dX4_lengthen_61 (inC (by decide)) rfl ?_
    refine lv_i2l (v := 0) hx hb dX4_lengthen_62 (by decide) ?_
    refine lv_goto (tgt := 67) hx hb dX4_lengthen_63 (by decide) ?_
    refine w_ladd (v := 0) hx hb dX4_lengthen_67 (by decide) ?_
    refine lv_lstore_n (lv' := [(2, .long 0), (5, .int 0), (4, .int 0), (1, .int 0), (0, .ref o)]) hx hb dX4_lengthen_68 rfl hl (by decide) rfl (fun ls hl => ?_)
    refine lv_iinc (v := 1) (lv' := [(4, .int 1), (2, .long 0), (5, .int 0), (1, .int 0), (0, .ref o)]) hx hb dX4_lengthen_69 hl (k := 2) rfl (by decide) (by decide) rfl (fun ls hl => ?_)
    refine lv_goto (tgt := 24) hx hb dX4_lengthen_72 (by decide) ?_
    refine lv_iload hx hb dX4_lengthen_24 (lv_at hl 0 rfl) ?_
    refine lv_iconst (v := 3) hx hb dX4_lengthen_26 (by decide) ?_
    refine icmp_ge_f hx hb dX4_lengthen_27 75 (by decide) (by decide) ?_
    refine lv_aload_n hx hb dX4_lengthen_30 rfl (lv_at hl 4 rfl) ?_
    refine lv_iload_n hx hb dX4_lengthen_31 rfl (lv_at hl 3 rfl) ?_
    refine lv_iload hx hb dX4_lengthen_32 (lv_at hl 0 rfl) ?_
    refine cj_i 0 0 (wr := [(na, .inl (cT 0, 800, .inl (fun _ => 0))), (nb, .inl (cT 0, 800, .inl (fun _ => 0)))]) (va_runV (As := [.int 0, .int 1]) (rest := []) ⟨hx, hb, hml, hown, hts⟩ (c_L_next_1 l g cT H.size o al gr fr lk ln lw lz na nb ss) (cwV 2 hts gX4_lengthen_X4_next rfl rfl rfl yd_X4_next ⟨(Nat.le_of_ble_eq_true rfl), (Nat.le_of_ble_eq_true rfl)⟩) (preV (wc := [(o, .inr (4, [.ref al, .ref gr, .ref fr, .ref lk, .int 1, .ref ln, .ref lw, .ref lz, .int ss, .ref na, .ref nb, .int 0])), (ln, .inl (cT 0, 2400, .inl (fun _ => 0)))]) rfl hP hD hK hN hZ hS hA [2, 3] rfl (by decide) (ci := 4) (q0 := 2) rfl rfl) rfl rfl hl.1 rfl (lv_room (Nat.le_of_ble_eq_true rfl)) dX4_lengthen_34 ⟨(Nat.le_of_ble_eq_true rfl), (Nat.le_of_ble_eq_true rfl)⟩) hP hD hS hA [2, 3] [0, 1] rfl rfl (by decide) (by decide) (Nat.le_of_ble_eq_true rfl) (Nat.le_of_ble_eq_true rfl) (fun r_3 u H locs h_4 hP hD hS => ?_)
    have hP : va_P g vwCl [(na, .inl (cT 0, 800, .inl (fun _ => 0))), (nb, .inl (cT 0, 800, .inl (fun _ => 0))), (o, .inr (4, [.ref al, .ref gr, .ref fr, .ref lk, .int 1, .ref ln, .ref lw, .ref lz, .int ss, .ref na, .ref nb, .int 0])), (ln, .inl (cT 0, 2400, .inl (fun _ => 0)))] H := hP
    have hD : va_D A [(na, .inl (cT 0, 800, .inl (fun _ => 0))), (nb, .inl (cT 0, 800, .inl (fun _ => 0))), (o, .inr (4, [.ref al, .ref gr, .ref fr, .ref lk, .int 1, .ref ln, .ref lw, .ref lz, .int ss, .ref na, .ref nb, .int 0])), (ln, .inl (cT 0, 2400, .inl (fun _ => 0)))] := hD
    subst h_4
    refine lv_istore (lv' := [(5, .int 0), (4, .int 1), (2, .long 0), (1, .int 0), (0, .ref o)]) hx hb dX4_lengthen_37 hl (by decide) rfl (fun ls hl => ?_)
    refine lv_lload_n hx hb dX4_lengthen_39 rfl (lv_at hl 2 rfl) ?_
    refine lv_iload hx hb dX4_lengthen_40 (lv_at hl 0 rfl) ?_
    refine if_lt_f hx hb dX4_lengthen_42 66 (by decide) (by decide) ?_
    refine lv_iload hx hb dX4_lengthen_45 (lv_at hl 0 rfl) ?_
    refine lv_aload_n hx hb dX4_lengthen_47 rfl (lv_at hl 4 rfl) ?_
    refine va_get (C := RX4) (T := TX4) (N := 12) (v := .ref na) hx hb hts hi_X4_lengthen_X4 hown hK hP 2 rfl rfl 9 (by decide) (hts (.fieldLink RX4 43 "BothWays$Least" "now" "[I") (by decide +kernel)) (fun _ h => h) rfl dX4_lengthen_48 ?_
    refine va_alen (v := 800) hx hb hK hP 0 0 rfl rfl rfl dX4_lengthen_51 ?_
    refine icmp_ge_f hx hb dX4_lengthen_52 66 (by decide) (by decide) ?_
    refine lv_aload_n hx hb dX4_lengthen_55 rfl (lv_at hl 4 rfl) ?_
    refine va_get (C := RX4) (T := TX4) (N := 12) (v := .ref na) hx hb hts hi_X4_lengthen_X4 hown hK hP 2 rfl rfl 9 (by decide) (hts (.fieldLink RX4 43 "BothWays$Least" "now" "[I") (by decide +kernel)) (fun _ h => h) rfl dX4_lengthen_56 ?_
    refine lv_iload hx hb dX4_lengthen_59 (lv_at hl 0 rfl) ?_
    refine w_iald (v := 0) hx hb hK hP 0 rfl dX4_lengthen_61 (inC (by decide)) rfl ?_
    refine lv_i2l (v := 0) hx hb dX4_lengthen_62 (by decide) ?_
    refine lv_goto (tgt := 67) hx hb dX4_lengthen_63 (by decide) ?_
    refine w_ladd (v := 0) hx hb dX4_lengthen_67 (by decide) ?_
    refine lv_lstore_n (lv' := [(2, .long 0), (5, .int 0), (4, .int 1), (1, .int 0), (0, .ref o)]) hx hb dX4_lengthen_68 rfl hl (by decide) rfl (fun ls hl => ?_)
    refine lv_iinc (v := 2) (lv' := [(4, .int 2), (2, .long 0), (5, .int 0), (1, .int 0), (0, .ref o)]) hx hb dX4_lengthen_69 hl (k := 2) rfl (by decide) (by decide) rfl (fun ls hl => ?_)
    refine lv_goto (tgt := 24) hx hb dX4_lengthen_72 (by decide) ?_
    refine lv_iload hx hb dX4_lengthen_24 (lv_at hl 0 rfl) ?_
    refine lv_iconst (v := 3) hx hb dX4_lengthen_26 (by decide) ?_
    refine icmp_ge_f hx hb dX4_lengthen_27 75 (by decide) (by decide) ?_
    refine lv_aload_n hx hb dX4_lengthen_30 rfl (lv_at hl 4 rfl) ?_
    refine lv_iload_n hx hb dX4_lengthen_31 rfl (lv_at hl 3 rfl) ?_
    refine lv_iload hx hb dX4_lengthen_32 (lv_at hl 0 rfl) ?_
    refine cj_i 0 0 (wr := [(na, .inl (cT 0, 800, .inl (fun _ => 0))), (nb, .inl (cT 0, 800, .inl (fun _ => 0)))]) (va_runV (As := [.int 0, .int 2]) (rest := []) ⟨hx, hb, hml, hown, hts⟩ (c_L_next_2 l g cT H.size o al gr fr lk ln lw lz na nb ss) (cwV 2 hts gX4_lengthen_X4_next rfl rfl rfl yd_X4_next ⟨(Nat.le_of_ble_eq_true rfl), (Nat.le_of_ble_eq_true rfl)⟩) (preV (wc := [(o, .inr (4, [.ref al, .ref gr, .ref fr, .ref lk, .int 1, .ref ln, .ref lw, .ref lz, .int ss, .ref na, .ref nb, .int 0])), (ln, .inl (cT 0, 2400, .inl (fun _ => 0)))]) rfl hP hD hK hN hZ hS hA [2, 3] rfl (by decide) (ci := 4) (q0 := 2) rfl rfl) rfl rfl hl.1 rfl (lv_room (Nat.le_of_ble_eq_true rfl)) dX4_lengthen_34 ⟨(Nat.le_of_ble_eq_true rfl), (Nat.le_of_ble_eq_true rfl)⟩) hP hD hS hA [2, 3] [0, 1] rfl rfl (by decide) (by decide) (Nat.le_of_ble_eq_true rfl) (Nat.le_of_ble_eq_true rfl) (fun r_5 u H locs h_6 hP hD hS => ?_)
    have hP : va_P g vwCl [(na, .inl (cT 0, 800, .inl (fun _ => 0))), (nb, .inl (cT 0, 800, .inl (fun _ => 0))), (o, .inr (4, [.ref al, .ref gr, .ref fr, .ref lk, .int 1, .ref ln, .ref lw, .ref lz, .int ss, .ref na, .ref nb, .int 0])), (ln, .inl (cT 0, 2400, .inl (fun _ => 0)))] H := hP
    have hD : va_D A [(na, .inl (cT 0, 800, .inl (fun _ => 0))), (nb, .inl (cT 0, 800, .inl (fun _ => 0))), (o, .inr (4, [.ref al, .ref gr, .ref fr, .ref lk, .int 1, .ref ln, .ref lw, .ref lz, .int ss, .ref na, .ref nb, .int 0])), (ln, .inl (cT 0, 2400, .inl (fun _ => 0)))] := hD
    subst h_6
    refine lv_istore (lv' := [(5, .int 0), (4, .int 2), (2, .long 0), (1, .int 0), (0, .ref o)]) hx hb dX4_lengthen_37 hl (by decide) rfl (fun ls hl => ?_)
    refine lv_lload_n hx hb dX4_lengthen_39 rfl (lv_at hl 2 rfl) ?_
    refine lv_iload hx hb dX4_lengthen_40 (lv_at hl 0 rfl) ?_
    refine if_lt_f hx hb dX4_lengthen_42 66 (by decide) (by decide) ?_
    refine lv_iload hx hb dX4_lengthen_45 (lv_at hl 0 rfl) ?_
    refine lv_aload_n hx hb dX4_lengthen_47 rfl (lv_at hl 4 rfl) ?_
    refine va_get (C := RX4) (T := TX4) (N := 12) (v := .ref na) hx hb hts hi_X4_lengthen_X4 hown hK hP 2 rfl rfl 9 (by decide) (hts (.fieldLink RX4 43 "BothWays$Least" "now" "[I") (by decide +kernel)) (fun _ h => h) rfl dX4_lengthen_48 ?_
    refine va_alen (v := 800) hx hb hK hP 0 0 rfl rfl rfl dX4_lengthen_51 ?_
    refine icmp_ge_f hx hb dX4_lengthen_52 66 (by decide) (by decide) ?_
    refine lv_aload_n hx hb dX4_lengthen_55 rfl (lv_at hl 4 rfl) ?_
    refine va_get (C := RX4) (T := TX4) (N := 12) (v := .ref na) hx hb hts hi_X4_lengthen_X4 hown hK hP 2 rfl rfl 9 (by decide) (hts (.fieldLink RX4 43 "BothWays$Least" "now" "[I") (by decide +kernel)) (fun _ h => h) rfl dX4_lengthen_56 ?_
    refine lv_iload hx hb dX4_lengthen_59 (lv_at hl 0 rfl) ?_
    refine w_iald (v := 0) hx hb hK hP 0 rfl dX4_lengthen_61 (inC (by decide)) rfl ?_
    refine lv_i2l (v := 0) hx hb dX4_lengthen_62 (by decide) ?_
    refine lv_goto (tgt := 67) hx hb dX4_lengthen_63 (by decide) ?_
    refine w_ladd (v := 0) hx hb dX4_lengthen_67 (by decide) ?_
    refine lv_lstore_n (lv' := [(2, .long 0), (5, .int 0), (4, .int 2), (1, .int 0), (0, .ref o)]) hx hb dX4_lengthen_68 rfl hl (by decide) rfl (fun ls hl => ?_)
    refine lv_iinc (v := 3) (lv' := [(4, .int 3), (2, .long 0), (5, .int 0), (1, .int 0), (0, .ref o)]) hx hb dX4_lengthen_69 hl (k := 2) rfl (by decide) (by decide) rfl (fun ls hl => ?_)
    refine lv_goto (tgt := 24) hx hb dX4_lengthen_72 (by decide) ?_
    refine lv_iload hx hb dX4_lengthen_24 (lv_at hl 0 rfl) ?_
    refine lv_iconst (v := 3) hx hb dX4_lengthen_26 (by decide) ?_
    refine icmp_ge_t hx hb 75 dX4_lengthen_27 (by decide) (by decide) ?_
    refine lv_aload_n hx hb dX4_lengthen_75 rfl (lv_at hl 4 rfl) ?_
    refine va_get (C := RX4) (T := TX4) (N := 12) (v := .ref nb) hx hb hts hi_X4_lengthen_X4 hown hK hP 2 rfl rfl 10 (by decide) (hts (.fieldLink RX4 46 "BothWays$Least" "then" "[I") (by decide +kernel)) (fun _ h => h) rfl dX4_lengthen_76 ?_
    refine lv_iload_n hx hb dX4_lengthen_79 rfl (lv_at hl 3 rfl) ?_
    refine lv_lload_n hx hb dX4_lengthen_80 rfl (lv_at hl 1 rfl) ?_
    refine lv_ldc2 (v := 1000000007) hx hb hown (hts (.constantLong RX4 127 (1000000007)) (by decide +kernel)) dX4_lengthen_81 ?_
    refine w_lrem (v := 0) hx hb dX4_lengthen_84 (by decide) (by decide) ?_
    refine lv_l2i (v := 0) hx hb dX4_lengthen_85 (by decide) ?_
    refine w_iast (f' := (fun _ => 0)) hx hb hK hP hD hS 1 rfl dX4_lengthen_86 (inC (by decide)) (upd_c _ _) (fun H locs hP hD hS => ?_)
    have hP : va_P g vwCl [(na, .inl (cT 0, 800, .inl (fun _ => 0))), (nb, .inl (cT 0, 800, .inl (fun _ => 0))), (o, .inr (4, [.ref al, .ref gr, .ref fr, .ref lk, .int 1, .ref ln, .ref lw, .ref lz, .int ss, .ref na, .ref nb, .int 0])), (ln, .inl (cT 0, 2400, .inl (fun _ => 0)))] H := hP
    have hD : va_D A [(na, .inl (cT 0, 800, .inl (fun _ => 0))), (nb, .inl (cT 0, 800, .inl (fun _ => 0))), (o, .inr (4, [.ref al, .ref gr, .ref fr, .ref lk, .int 1, .ref ln, .ref lw, .ref lz, .int ss, .ref na, .ref nb, .int 0])), (ln, .inl (cT 0, 2400, .inl (fun _ => 0)))] := hD
    refine lv_iinc (v := 1) (lv' := [(1, .int 1), (4, .int 3), (2, .long 0), (5, .int 0), (0, .ref o)]) hx hb dX4_lengthen_87 hl (k := 3) rfl (by decide) (by decide) rfl (fun ls hl => ?_)
    refine lv_goto (tgt := 2) hx hb dX4_lengthen_90 (by decide) ?_
    refine lv_iload_n hx hb dX4_lengthen_2 rfl (lv_at hl 0 rfl) ?_
    refine lv_aload_n hx hb dX4_lengthen_3 rfl (lv_at hl 4 rfl) ?_
    refine va_get (C := RX4) (T := TX4) (N := 12) (v := .int 1) hx hb hts hi_X4_lengthen_X4 hown hK hP 2 rfl rfl 4 (by decide) (hts (.fieldLink RX4 27 "BothWays$Least" "size" "I") (by decide +kernel)) (fun _ h => h) rfl dX4_lengthen_4 ?_
    refine icmp_ge_t hx hb 93 dX4_lengthen_7 (by decide) (by decide) ?_
    refine lv_aload_n hx hb dX4_lengthen_93 rfl (lv_at hl 4 rfl) ?_
    refine va_get (C := RX4) (T := TX4) (N := 12) (v := .ref na) hx hb hts hi_X4_lengthen_X4 hown hK hP 2 rfl rfl 9 (by decide) (hts (.fieldLink RX4 43 "BothWays$Least" "now" "[I") (by decide +kernel)) (fun _ h => h) rfl dX4_lengthen_94 ?_
    refine lv_astore_n (lv' := [(1, .ref na), (4, .int 3), (2, .long 0), (5, .int 0), (0, .ref o)]) hx hb dX4_lengthen_97 rfl hl (by decide) rfl (fun ls hl => ?_)
    refine lv_aload_n hx hb dX4_lengthen_98 rfl (lv_at hl 4 rfl) ?_
    refine lv_aload_n hx hb dX4_lengthen_99 rfl (lv_at hl 4 rfl) ?_
    refine va_get (C := RX4) (T := TX4) (N := 12) (v := .ref nb) hx hb hts hi_X4_lengthen_X4 hown hK hP 2 rfl rfl 10 (by decide) (hts (.fieldLink RX4 46 "BothWays$Least" "then" "[I") (by decide +kernel)) (fun _ h => h) rfl dX4_lengthen_100 ?_
    refine va_put (C := RX4) (T := TX4) (N := 12) (v := .ref nb) (ty := .array .int) hx hb hts hi_X4_lengthen_X4 tyX4 tyX4_ok nmX4 hown hK hP hD hS 2 rfl rfl 9 (by decide) (hts (.fieldLink RX4 43 "BothWays$Least" "now" "[I") (by decide +kernel)) (fun _ h => h) rfl (by decide +kernel) rfl rfl (Nat.le_of_ble_eq_true rfl) dX4_lengthen_103 (fun H locs hP hD hS => ?_)
    have hP : va_P g vwCl [(na, .inl (cT 0, 800, .inl (fun _ => 0))), (nb, .inl (cT 0, 800, .inl (fun _ => 0))), (o, .inr (4, [.ref al, .ref gr, .ref fr, .ref lk, .int 1, .ref ln, .ref lw, .ref lz, .int ss, .ref nb, .ref nb, .int 0])), (ln, .inl (cT 0, 2400, .inl (fun _ => 0)))] H := hP
    have hD : va_D A [(na, .inl (cT 0, 800, .inl (fun _ => 0))), (nb, .inl (cT 0, 800, .inl (fun _ => 0))), (o, .inr (4, [.ref al, .ref gr, .ref fr, .ref lk, .int 1, .ref ln, .ref lw, .ref lz, .int ss, .ref nb, .ref nb, .int 0])), (ln, .inl (cT 0, 2400, .inl (fun _ => 0)))] := hD
    refine lv_aload_n hx hb dX4_lengthen_106 rfl (lv_at hl 4 rfl) ?_
    refine lv_aload_n hx hb dX4_lengthen_107 rfl (lv_at hl 0 rfl) ?_
    refine va_put (C := RX4) (T := TX4) (N := 12) (v := .ref na) (ty := .array .int) hx hb hts hi_X4_lengthen_X4 tyX4 tyX4_ok nmX4 hown hK hP hD hS 2 rfl rfl 10 (by decide) (hts (.fieldLink RX4 46 "BothWays$Least" "then" "[I") (by decide +kernel)) (fun _ h => h) rfl (by decide +kernel) rfl rfl (Nat.le_of_ble_eq_true rfl) dX4_lengthen_108 (fun H locs hP hD hS => ?_)
    have hP : va_P g vwCl [(na, .inl (cT 0, 800, .inl (fun _ => 0))), (nb, .inl (cT 0, 800, .inl (fun _ => 0))), (o, .inr (4, [.ref al, .ref gr, .ref fr, .ref lk, .int 1, .ref ln, .ref lw, .ref lz, .int ss, .ref nb, .ref na, .int 0])), (ln, .inl (cT 0, 2400, .inl (fun _ => 0)))] H := hP
    have hD : va_D A [(na, .inl (cT 0, 800, .inl (fun _ => 0))), (nb, .inl (cT 0, 800, .inl (fun _ => 0))), (o, .inr (4, [.ref al, .ref gr, .ref fr, .ref lk, .int 1, .ref ln, .ref lw, .ref lz, .int ss, .ref nb, .ref na, .int 0])), (ln, .inl (cT 0, 2400, .inl (fun _ => 0)))] := hD
    exact rt_v hx hb hr hlocks hQ hP hD hS () [2, 3, 0, 1] dX4_lengthen_111 (Nat.le_of_ble_eq_true rfl) (Nat.le_of_ble_eq_true rfl) rfl (by decide) trivial
  rw [hH, hlo] at hgo
  exact hgo
theorem hi_X4_takenOfLength_X4 : ∀ w ∈ wsX40, w ∈ wsX4_takenOfLength := fun _ h => List.mem_cons_of_mem _ (List.mem_append_right _ h)
theorem yd_X4_lengthen : yX4_lengthen.cls = RX4 ∧ yX4_lengthen.cls ≠ "java/lang/invoke/MethodHandle" ∧ yX4_lengthen.cls ≠ "java/lang/invoke/VarHandle" ∧ (parseMethodDescriptor yX4_lengthen.desc).map (fun d => d.parameters.length) = some 0 := by decide +kernel
abbrev rm_c_L_takenOfLength : Room := { frames := 3, cells := 0, slots := 0, locals := 67 }
set_option maxHeartbeats 4000000 in
set_option maxRecDepth 100000 in
theorem c_L_takenOfLength (l : Launch) (g : va_G) (cT : Nat → ClassId) (sz : Nat) (o : Nat) (al : Nat) (gr : Nat) (fr : Nat) (lk : Nat) (ln : Nat) (lw : Nat) (lz : Nat) (na : Nat) (nb : Nat) (N : Nat) (hM : N ≤ 10000) : Ctr l g cT sz yX4_takenOfLength wsX4_takenOfLength rm_c_L_takenOfLength [.ref o, .int (nI N)] [(o, .inr (4, [.ref al, .ref gr, .ref fr, .ref lk, .int 1, .ref ln, .ref lw, .ref lz, .int 0, .ref na, .ref nb, .int 0])), (ln, .inl (cT 0, 2400, .inl (fun _ => 0))), (lz, .inl (cT 0, 10001, .inl (fun _ => 0))), (na, .inl (cT 0, 800, .inl (fun _ => 0))), (nb, .inl (cT 0, 800, .inl (fun _ => 0)))] (QI g (fun (r : Int32) (u : Unit) => r = 0) (fun (u : Unit) => [])) 0 0 := by
  refine mk_ctr (cc := cX4_takenOfLength) (maxL := 3) (ret := (some .int)) (by decide) rfl (Nat.le_of_ble_eq_true rfl) ?_
  intro p e s m args below meth c A Q hx hb hr hts hown hlocks hin hml hP hK hD hN hZ hA hS hQ ls hl
  have hl : lv_has ls 3 [(0, .ref o), (1, .int (nI N))] := hl
  obtain ⟨H, hH⟩ : ∃ H : Heap, H = s.heap := ⟨_, rfl⟩
  obtain ⟨locs, hlo⟩ : ∃ x : List Loc, x = [] := ⟨_, rfl⟩
  rw [← hH] at hP
  have hS : va_S A s.heap H locs := by rw [hH, hlo]; exact hS
  have hgo : W p l e rm_c_L_takenOfLength s m args below meth c H locs 0 0 Q (F0 m 0 ls []) := by
    clear hH hlo
    refine lv_aload_n hx hb dX4_takenOfLength_0 rfl (lv_at hl 0 rfl) ?_
    refine va_get (C := RX4) (T := TX4) (N := 12) (v := .int 0) hx hb hts hi_X4_takenOfLength_X4 hown hK hP 0 rfl rfl 8 (by decide) (hts (.fieldLink RX4 40 "BothWays$Least" "seriesSize" "I") (by decide +kernel)) (fun _ h => h) rfl dX4_takenOfLength_1 ?_
    refine lv_istore_n (lv' := [(2, .int 0), (0, .ref o), (1, .int (nI N))]) hx hb dX4_takenOfLength_4 rfl hl (by decide) rfl (fun ls hl => ?_)
    have loop_1 : ∀ (fuel : Nat) (j : Nat) (n1 : Nat) (n2 : Nat), j ≤ N + 1 → N + 1 - j < fuel → ∀ (H : Heap) (locs : List Loc), va_P g vwCl [(o, .inr (4, [.ref al, .ref gr, .ref fr, .ref lk, .int 1, .ref ln, .ref lw, .ref lz, .int (nI j), .ref n1, .ref n2, .int 0])), (ln, .inl (cT 0, 2400, .inl (fun _ => 0))), (lz, .inl (cT 0, 10001, .inl (fun _ => 0))), (n1, .inl (cT 0, 800, .inl (fun _ => 0))), (n2, .inl (cT 0, 800, .inl (fun _ => 0)))] H → va_D A [(o, .inr (4, [.ref al, .ref gr, .ref fr, .ref lk, .int 1, .ref ln, .ref lw, .ref lz, .int (nI j), .ref n1, .ref n2, .int 0])), (ln, .inl (cT 0, 2400, .inl (fun _ => 0))), (lz, .inl (cT 0, 10001, .inl (fun _ => 0))), (n1, .inl (cT 0, 800, .inl (fun _ => 0))), (n2, .inl (cT 0, 800, .inl (fun _ => 0)))] → va_S A s.heap H locs → ∀ ls : Array Slot, lv_has ls 3 [(2, .int (nI j)), (0, .ref o), (1, .int (nI N))] → W p l e rm_c_L_takenOfLength s m args below meth c H locs 0 0 Q (F0 m 5 ls []) := by
      intro fuel
      induction fuel with
      | zero => intro j n1 n2 hj hfu; omega
      | succ fuel ih_loop_1 =>
        intro j n1 n2 hj hfu H locs hP hD hS ls hl
        refine lv_iload_n hx hb dX4_takenOfLength_5 rfl (lv_at hl 0 rfl) ?_
        refine lv_iload_n hx hb dX4_takenOfLength_6 rfl (lv_at hl 2 rfl) ?_
        refine lv_icmp_gt (tgt := 46) hx hb dX4_takenOfLength_7 (by decide) (fun c_2 => ?_) (fun c_2 => ?_)
        · skip
          refine lv_iload_n hx hb dX4_takenOfLength_46 rfl (lv_at hl 2 rfl) ?_
          refine if_lt_f hx hb dX4_takenOfLength_47 66 (by decide) (nI_pos (by omega)) ?_
          refine lv_iload_n hx hb dX4_takenOfLength_50 rfl (lv_at hl 2 rfl) ?_
          refine lv_sipush (v := 10000) hx hb dX4_takenOfLength_51 (by decide) ?_
          refine icmp_gt_f hx hb dX4_takenOfLength_54 66 (by decide) (nI_nlt (a := 10000) (by omega) (by decide)) ?_
          refine lv_aload_n hx hb dX4_takenOfLength_57 rfl (lv_at hl 1 rfl) ?_
          refine va_get (C := RX4) (T := TX4) (N := 12) (v := .ref lz) hx hb hts hi_X4_takenOfLength_X4 hown hK hP 0 rfl rfl 7 (by decide) (hts (.fieldLink RX4 37 "BothWays$Least" "series" "[I") (by decide +kernel)) (fun _ h => h) rfl dX4_takenOfLength_58 ?_
          refine lv_iload_n hx hb dX4_takenOfLength_61 rfl (lv_at hl 2 rfl) ?_
          refine w_iald (v := 0) hx hb hK hP 2 rfl dX4_takenOfLength_62 (vp_in_nI (show N < 10001 by omega) (by decide)) rfl ?_
          refine lv_goto (tgt := 67) hx hb dX4_takenOfLength_63 (by decide) ?_
          exact rt_i hx hb hr hlocks hQ hP hD hS () [] dX4_takenOfLength_67 rfl (Nat.le_of_ble_eq_true rfl) (Nat.le_of_ble_eq_true rfl) rfl (by decide) rfl
        · skip
          have hlt : j ≤ N := Nat.le_of_not_lt (fun h => c_2 (nI_lt h (by omega)))
          refine lv_iload_n hx hb dX4_takenOfLength_10 rfl (lv_at hl 0 rfl) ?_
          refine lv_sipush (v := 10000) hx hb dX4_takenOfLength_11 (by decide) ?_
          refine icmp_gt_f hx hb dX4_takenOfLength_14 46 (by decide) (nI_nlt (a := 10000) (by omega) (by decide)) ?_
          refine lv_aload_n hx hb dX4_takenOfLength_17 rfl (lv_at hl 1 rfl) ?_
          refine va_get (C := RX4) (T := TX4) (N := 12) (v := .ref lz) hx hb hts hi_X4_takenOfLength_X4 hown hK hP 0 rfl rfl 7 (by decide) (hts (.fieldLink RX4 37 "BothWays$Least" "series" "[I") (by decide +kernel)) (fun _ h => h) rfl dX4_takenOfLength_18 ?_
          refine lv_iload_n hx hb dX4_takenOfLength_21 rfl (lv_at hl 0 rfl) ?_
          refine lv_aload_n hx hb dX4_takenOfLength_22 rfl (lv_at hl 1 rfl) ?_
          refine va_get (C := RX4) (T := TX4) (N := 12) (v := .ref n1) hx hb hts hi_X4_takenOfLength_X4 hown hK hP 0 rfl rfl 9 (by decide) (hts (.fieldLink RX4 43 "BothWays$Least" "now" "[I") (by decide +kernel)) (fun _ h => h) rfl dX4_takenOfLength_23 ?_
          refine lv_iconst (v := 0) hx hb dX4_takenOfLength_26 (by decide) ?_
          refine w_iald (v := 0) hx hb hK hP 3 rfl dX4_takenOfLength_27 (inC (by decide)) rfl ?_
          refine w_iast (f' := (fun _ => 0)) hx hb hK hP hD hS 2 rfl dX4_takenOfLength_28 (vp_in_nI (show j < 10001 by omega) (by decide)) (upd_c _ _) (fun H locs hP hD hS => ?_)
          have hP : va_P g vwCl [(o, .inr (4, [.ref al, .ref gr, .ref fr, .ref lk, .int 1, .ref ln, .ref lw, .ref lz, .int (nI j), .ref n1, .ref n2, .int 0])), (ln, .inl (cT 0, 2400, .inl (fun _ => 0))), (lz, .inl (cT 0, 10001, .inl (fun _ => 0))), (n1, .inl (cT 0, 800, .inl (fun _ => 0))), (n2, .inl (cT 0, 800, .inl (fun _ => 0)))] H := hP
          have hD : va_D A [(o, .inr (4, [.ref al, .ref gr, .ref fr, .ref lk, .int 1, .ref ln, .ref lw, .ref lz, .int (nI j), .ref n1, .ref n2, .int 0])), (ln, .inl (cT 0, 2400, .inl (fun _ => 0))), (lz, .inl (cT 0, 10001, .inl (fun _ => 0))), (n1, .inl (cT 0, 800, .inl (fun _ => 0))), (n2, .inl (cT 0, 800, .inl (fun _ => 0)))] := hD
          refine lv_aload_n hx hb dX4_takenOfLength_29 rfl (lv_at hl 1 rfl) ?_
          refine lv_iload_n hx hb dX4_takenOfLength_30 rfl (lv_at hl 0 rfl) ?_
          refine lv_iconst (v := 1) hx hb dX4_takenOfLength_31 (by decide) ?_
          refine w_iadd (v := (nI (j + 1))) hx hb dX4_takenOfLength_32 (nI_1 j) ?_
          refine va_put (C := RX4) (T := TX4) (N := 12) (v := .int (nI (j + 1))) (ty := .int) hx hb hts hi_X4_takenOfLength_X4 tyX4 tyX4_ok nmX4 hown hK hP hD hS 0 rfl rfl 8 (by decide) (hts (.fieldLink RX4 40 "BothWays$Least" "seriesSize" "I") (by decide +kernel)) (fun _ h => h) rfl (by decide +kernel) rfl rfl (Nat.le_of_ble_eq_true rfl) dX4_takenOfLength_33 (fun H locs hP hD hS => ?_)
          have hP : va_P g vwCl [(o, .inr (4, [.ref al, .ref gr, .ref fr, .ref lk, .int 1, .ref ln, .ref lw, .ref lz, .int (nI (j + 1)), .ref n1, .ref n2, .int 0])), (ln, .inl (cT 0, 2400, .inl (fun _ => 0))), (lz, .inl (cT 0, 10001, .inl (fun _ => 0))), (n1, .inl (cT 0, 800, .inl (fun _ => 0))), (n2, .inl (cT 0, 800, .inl (fun _ => 0)))] H := hP
          have hD : va_D A [(o, .inr (4, [.ref al, .ref gr, .ref fr, .ref lk, .int 1, .ref ln, .ref lw, .ref lz, .int (nI (j + 1)), .ref n1, .ref n2, .int 0])), (ln, .inl (cT 0, 2400, .inl (fun _ => 0))), (lz, .inl (cT 0, 10001, .inl (fun _ => 0))), (n1, .inl (cT 0, 800, .inl (fun _ => 0))), (n2, .inl (cT 0, 800, .inl (fun _ => 0)))] := hD
          refine lv_aload_n hx hb dX4_takenOfLength_36 rfl (lv_at hl 1 rfl) ?_
          refine cj_v 0 0 (wr := [(lz, .inl (cT 0, 10001, .inl (fun _ => 0)))]) (va_runV (As := []) (rest := []) ⟨hx, hb, hml, hown, hts⟩ (c_L_lengthen l g cT H.size o al gr fr lk ln lw lz n1 n2 (nI (j + 1))) (cwV 0 hts gX4_takenOfLength_X4_lengthen rfl rfl rfl yd_X4_lengthen ⟨(Nat.le_of_ble_eq_true rfl), (Nat.le_of_ble_eq_true rfl)⟩) (preV (wc := [(o, .inr (4, [.ref al, .ref gr, .ref fr, .ref lk, .int 1, .ref ln, .ref lw, .ref lz, .int (nI (j + 1)), .ref n1, .ref n2, .int 0])), (ln, .inl (cT 0, 2400, .inl (fun _ => 0))), (n1, .inl (cT 0, 800, .inl (fun _ => 0))), (n2, .inl (cT 0, 800, .inl (fun _ => 0)))]) rfl hP hD hK hN hZ hS hA [0, 1, 3, 4] rfl (by decide) (ci := 4) (q0 := 0) rfl rfl) rfl rfl hl.1 rfl (lv_room (Nat.le_of_ble_eq_true rfl)) dX4_takenOfLength_37 ⟨(Nat.le_of_ble_eq_true rfl), (Nat.le_of_ble_eq_true rfl)⟩) hP hD hS hA [0, 1, 3, 4] [2] rfl rfl (by decide) (by decide) (Nat.le_of_ble_eq_true rfl) (Nat.le_of_ble_eq_true rfl) (fun u H locs h_4 hP hD hS => ?_)
          have hP : va_P g vwCl [(lz, .inl (cT 0, 10001, .inl (fun _ => 0))), (o, .inr (4, [.ref al, .ref gr, .ref fr, .ref lk, .int 1, .ref ln, .ref lw, .ref lz, .int (nI (j + 1)), .ref n2, .ref n1, .int 0])), (ln, .inl (cT 0, 2400, .inl (fun _ => 0))), (n1, .inl (cT 0, 800, .inl (fun _ => 0))), (n2, .inl (cT 0, 800, .inl (fun _ => 0)))] H := hP
          have hD : va_D A [(lz, .inl (cT 0, 10001, .inl (fun _ => 0))), (o, .inr (4, [.ref al, .ref gr, .ref fr, .ref lk, .int 1, .ref ln, .ref lw, .ref lz, .int (nI (j + 1)), .ref n2, .ref n1, .int 0])), (ln, .inl (cT 0, 2400, .inl (fun _ => 0))), (n1, .inl (cT 0, 800, .inl (fun _ => 0))), (n2, .inl (cT 0, 800, .inl (fun _ => 0)))] := hD
          refine lv_iinc (v := (nI (j + 1))) (lv' := [(2, .int (nI (j + 1))), (0, .ref o), (1, .int (nI N))]) hx hb dX4_takenOfLength_40 hl (k := 0) rfl (nI_1 j) (by decide) rfl (fun ls hl => ?_)
          refine lv_goto (tgt := 5) hx hb dX4_takenOfLength_43 (by decide) ?_
          exact ih_loop_1 (j + 1) n2 n1 (by omega) (by omega) _ _ (hP.sub [1, 2, 0, 4, 3] rfl) (hD.sub [1, 2, 0, 4, 3] (by decide) rfl) hS ls (lv_sub hl [0, 1, 2] rfl)
    exact loop_1 _ 0 na nb (Nat.zero_le _) (Nat.lt_succ_self _) _ _ (hP.sub [0, 1, 2, 3, 4] rfl) (hD.sub [0, 1, 2, 3, 4] (by decide) rfl) hS ls (lv_sub hl [0, 1, 2] rfl)
  rw [hH, hlo] at hgo
  exact hgo
abbrev rm_c_L_letterOfTaken : Room := { frames := 1, cells := 0, slots := 0, locals := 23 }
set_option maxHeartbeats 4000000 in
set_option maxRecDepth 100000 in
theorem c_L_letterOfTaken (l : Launch) (g : va_G) (cT : Nat → ClassId) (sz : Nat) (o : Nat) (al : Nat) (gr : Nat) (fr : Nat) (lk : Nat) (ln : Nat) (lw : Nat) (lz : Nat) (na : Nat) (nb : Nat) (N : Nat) (i : Int32) (kk : Int32) (hM : N ≤ 12) (hi : 0 ≤ i) : Ctr l g cT sz yX4_letterOfTaken wsX4_letterOfTaken rm_c_L_letterOfTaken [.ref o, .int (nI N), .int i, .int kk] [(o, .inr (4, [.ref al, .ref gr, .ref fr, .ref lk, .int 1, .ref ln, .ref lw, .ref lz, .int 0, .ref na, .ref nb, .int 0])), (lw, .inl (cT 0, 10400, .inl (fun _ => 0)))] (QI g (fun (r : Int32) (u : Unit) => r = (-1)) (fun (u : Unit) => [])) 0 0 := by
  refine mk_ctr (cc := cX4_letterOfTaken) (maxL := 10) (ret := (some .int)) (by decide) rfl (Nat.le_of_ble_eq_true rfl) ?_
  intro p e s m args below meth c A Q hx hb hr hts hown hlocks hin hml hP hK hD hN hZ hA hS hQ ls hl
  have hl : lv_has ls 10 [(0, .ref o), (1, .int (nI N)), (2, .int i), (3, .int kk)] := hl
  obtain ⟨H, hH⟩ : ∃ H : Heap, H = s.heap := ⟨_, rfl⟩
  obtain ⟨locs, hlo⟩ : ∃ x : List Loc, x = [] := ⟨_, rfl⟩
  rw [← hH] at hP
  have hS : va_S A s.heap H locs := by rw [hH, hlo]; exact hS
  have hgo : W p l e rm_c_L_letterOfTaken s m args below meth c H locs 0 0 Q (F0 m 0 ls []) := by
    clear hH hlo
    refine lv_iload_n hx hb dX4_letterOfTaken_0 rfl (lv_at hl 3 rfl) ?_
    refine lv_iload_n hx hb dX4_letterOfTaken_1 rfl (lv_at hl 1 rfl) ?_
    refine lv_icmp_ge (tgt := 15) hx hb dX4_letterOfTaken_2 (by decide) (fun c_1 => ?_) (fun c_1 => ?_)
    · skip
      refine lv_iconst (v := (-1)) hx hb dX4_letterOfTaken_15 (by decide) ?_
      exact rt_i hx hb hr hlocks hQ hP hD hS () [] dX4_letterOfTaken_16 rfl (Nat.le_of_ble_eq_true rfl) (Nat.le_of_ble_eq_true rfl) rfl (by decide) rfl
    · skip
      refine lv_iload_n hx hb dX4_letterOfTaken_5 rfl (lv_at hl 2 rfl) ?_
      refine lv_aload_n hx hb dX4_letterOfTaken_6 rfl (lv_at hl 0 rfl) ?_
      refine lv_iconst (v := 0) hx hb dX4_letterOfTaken_7 (by decide) ?_
      refine lv_iload_n hx hb dX4_letterOfTaken_8 rfl (lv_at hl 1 rfl) ?_
      refine cj_i 0 0 (wr := []) (va_runV (As := [.int 0, .int (nI N)]) (rest := [.int i]) ⟨hx, hb, hml, hown, hts⟩ (c_L_waysFrom l g cT H.size o al gr fr lk ln lw lz na nb 0 N hM) (cwV 2 hts gX4_letterOfTaken_X4_waysFrom rfl rfl rfl yd_X4_waysFrom ⟨(Nat.le_of_ble_eq_true rfl), (Nat.le_of_ble_eq_true rfl)⟩) (preV (wc := [(o, .inr (4, [.ref al, .ref gr, .ref fr, .ref lk, .int 1, .ref ln, .ref lw, .ref lz, .int 0, .ref na, .ref nb, .int 0])), (lw, .inl (cT 0, 10400, .inl (fun _ => 0)))]) rfl hP hD hK hN hZ hS hA [0, 1] rfl (by decide) (ci := 4) (q0 := 0) rfl rfl) rfl rfl hl.1 rfl (lv_room (Nat.le_of_ble_eq_true rfl)) dX4_letterOfTaken_9 ⟨(Nat.le_of_ble_eq_true rfl), (Nat.le_of_ble_eq_true rfl)⟩) hP hD hS hA [0, 1] [] rfl rfl (by decide) (by decide) (Nat.le_of_ble_eq_true rfl) (Nat.le_of_ble_eq_true rfl) (fun r_2 u H locs h_3 hP hD hS => ?_)
      have hP : va_P g vwCl [(o, .inr (4, [.ref al, .ref gr, .ref fr, .ref lk, .int 1, .ref ln, .ref lw, .ref lz, .int 0, .ref na, .ref nb, .int 0])), (lw, .inl (cT 0, 10400, .inl (fun _ => 0)))] H := hP
      have hD : va_D A [(o, .inr (4, [.ref al, .ref gr, .ref fr, .ref lk, .int 1, .ref ln, .ref lw, .ref lz, .int 0, .ref na, .ref nb, .int 0])), (lw, .inl (cT 0, 10400, .inl (fun _ => 0)))] := hD
      subst h_3
      refine icmp_lt_f hx hb dX4_letterOfTaken_12 17 (by decide) (Int32.not_lt.mpr hi) ?_
      refine lv_iconst (v := (-1)) hx hb dX4_letterOfTaken_15 (by decide) ?_
      exact rt_i hx hb hr hlocks hQ hP hD hS () [] dX4_letterOfTaken_16 rfl (Nat.le_of_ble_eq_true rfl) (Nat.le_of_ble_eq_true rfl) rfl (by decide) rfl
  rw [hH, hlo] at hgo
  exact hgo
abbrev rm_c_L_placeOfRow : Room := { frames := 1, cells := 0, slots := 0, locals := 23 }
set_option maxHeartbeats 4000000 in
set_option maxRecDepth 100000 in
theorem c_L_placeOfRow (l : Launch) (g : va_G) (cT : Nat → ClassId) (sz : Nat) (o : Nat) (al : Nat) (gr : Nat) (fr : Nat) (lk : Nat) (ln : Nat) (lw : Nat) (lz : Nat) (na : Nat) (nb : Nat) (ra : Nat)  : Ctr l g cT sz yX4_placeOfRow wsX4_placeOfRow rm_c_L_placeOfRow [.ref o, .ref ra, .int 0] [(o, .inr (4, [.ref al, .ref gr, .ref fr, .ref lk, .int 1, .ref ln, .ref lw, .ref lz, .int 0, .ref na, .ref nb, .int 0])), (lw, .inl (cT 0, 10400, .inl (fun _ => 0)))] (QI g (fun (r : Int32) (u : Unit) => r = (-1)) (fun (u : Unit) => [])) 0 0 := by
  refine mk_ctr (cc := cX4_placeOfRow) (maxL := 7) (ret := (some .int)) (by decide) rfl (Nat.le_of_ble_eq_true rfl) ?_
  intro p e s m args below meth c A Q hx hb hr hts hown hlocks hin hml hP hK hD hN hZ hA hS hQ ls hl
  have hl : lv_has ls 7 [(0, .ref o), (1, .ref ra), (2, .int 0)] := hl
  obtain ⟨H, hH⟩ : ∃ H : Heap, H = s.heap := ⟨_, rfl⟩
  obtain ⟨locs, hlo⟩ : ∃ x : List Loc, x = [] := ⟨_, rfl⟩
  rw [← hH] at hP
  have hS : va_S A s.heap H locs := by rw [hH, hlo]; exact hS
  have hgo : W p l e rm_c_L_placeOfRow s m args below meth c H locs 0 0 Q (F0 m 0 ls []) := by
    clear hH hlo
    refine lv_iconst (v := 0) hx hb dX4_placeOfRow_0 (by decide) ?_
    refine lv_istore_n (lv' := [(3, .int 0), (0, .ref o), (1, .ref ra), (2, .int 0)]) hx hb dX4_placeOfRow_1 rfl hl (by decide) rfl (fun ls hl => ?_)
    refine lv_iconst (v := 0) hx hb dX4_placeOfRow_2 (by decide) ?_
    refine lv_istore (lv' := [(4, .int 0), (3, .int 0), (0, .ref o), (1, .ref ra), (2, .int 0)]) hx hb dX4_placeOfRow_3 hl (by decide) rfl (fun ls hl => ?_)
    refine lv_iconst (v := 0) hx hb dX4_placeOfRow_5 (by decide) ?_
    refine lv_istore (lv' := [(5, .int 0), (4, .int 0), (3, .int 0), (0, .ref o), (1, .ref ra), (2, .int 0)]) hx hb dX4_placeOfRow_6 hl (by decide) rfl (fun ls hl => ?_)
    refine lv_iload hx hb dX4_placeOfRow_8 (lv_at hl 0 rfl) ?_
    refine lv_iload_n hx hb dX4_placeOfRow_10 rfl (lv_at hl 5 rfl) ?_
    refine icmp_ge_t hx hb 77 dX4_placeOfRow_11 (by decide) (by decide) ?_
    refine lv_aload_n hx hb dX4_placeOfRow_77 rfl (lv_at hl 3 rfl) ?_
    refine lv_iload_n hx hb dX4_placeOfRow_78 rfl (lv_at hl 2 rfl) ?_
    refine lv_iconst (v := 0) hx hb dX4_placeOfRow_79 (by decide) ?_
    refine cj_i 0 0 (wr := []) (va_runV (As := [.int 0, .int 0]) (rest := []) ⟨hx, hb, hml, hown, hts⟩ (c_L_waysFrom l g cT H.size o al gr fr lk ln lw lz na nb 0 0 (by decide)) (cwV 2 hts gX4_placeOfRow_X4_waysFrom rfl rfl rfl yd_X4_waysFrom ⟨(Nat.le_of_ble_eq_true rfl), (Nat.le_of_ble_eq_true rfl)⟩) (preV (wc := [(o, .inr (4, [.ref al, .ref gr, .ref fr, .ref lk, .int 1, .ref ln, .ref lw, .ref lz, .int 0, .ref na, .ref nb, .int 0])), (lw, .inl (cT 0, 10400, .inl (fun _ => 0)))]) rfl hP hD hK hN hZ hS hA [0, 1] rfl (by decide) (ci := 4) (q0 := 0) rfl rfl) rfl rfl hl.1 rfl (lv_room (Nat.le_of_ble_eq_true rfl)) dX4_placeOfRow_80 ⟨(Nat.le_of_ble_eq_true rfl), (Nat.le_of_ble_eq_true rfl)⟩) hP hD hS hA [0, 1] [] rfl rfl (by decide) (by decide) (Nat.le_of_ble_eq_true rfl) (Nat.le_of_ble_eq_true rfl) (fun r_1 u H locs h_2 hP hD hS => ?_)
    have hP : va_P g vwCl [(o, .inr (4, [.ref al, .ref gr, .ref fr, .ref lk, .int 1, .ref ln, .ref lw, .ref lz, .int 0, .ref na, .ref nb, .int 0])), (lw, .inl (cT 0, 10400, .inl (fun _ => 0)))] H := hP
    have hD : va_D A [(o, .inr (4, [.ref al, .ref gr, .ref fr, .ref lk, .int 1, .ref ln, .ref lw, .ref lz, .int 0, .ref na, .ref nb, .int 0])), (lw, .inl (cT 0, 10400, .inl (fun _ => 0)))] := hD
    subst h_2
    refine lv_iconst (v := 1) hx hb dX4_placeOfRow_83 (by decide) ?_
    refine icmp_ne_t hx hb 92 dX4_placeOfRow_84 (by decide) (by decide) ?_
    refine lv_iconst (v := (-1)) hx hb dX4_placeOfRow_92 (by decide) ?_
    exact rt_i hx hb hr hlocks hQ hP hD hS () [] dX4_placeOfRow_93 rfl (Nat.le_of_ble_eq_true rfl) (Nat.le_of_ble_eq_true rfl) rfl (by decide) rfl
  rw [hH, hlo] at hgo
  exact hgo
abbrev rm_c_L_stateBehind : Room := { frames := 0, cells := 0, slots := 0, locals := 0 }
set_option maxHeartbeats 4000000 in
set_option maxRecDepth 100000 in
theorem c_L_stateBehind (l : Launch) (g : va_G) (cT : Nat → ClassId) (sz : Nat) (o : Nat) (al : Nat) (gr : Nat) (fr : Nat) (lk : Nat) (ln : Nat) (lw : Nat) (lz : Nat) (na : Nat) (nb : Nat) (ra : Nat)  : Ctr l g cT sz yX4_stateBehind wsX4_stateBehind rm_c_L_stateBehind [.ref o, .ref ra, .int 0] [(o, .inr (4, [.ref al, .ref gr, .ref fr, .ref lk, .int 1, .ref ln, .ref lw, .ref lz, .int 0, .ref na, .ref nb, .int 0]))] (QI g (fun (r : Int32) (u : Unit) => r = 0) (fun (u : Unit) => [(o, .inr (4, [.ref al, .ref gr, .ref fr, .ref lk, .int 1, .ref ln, .ref lw, .ref lz, .int 0, .ref na, .ref nb, .int 0]))])) 0 0 := by
  refine mk_ctr (cc := cX4_stateBehind) (maxL := 5) (ret := (some .int)) (by decide) rfl (Nat.le_of_ble_eq_true rfl) ?_
  intro p e s m args below meth c A Q hx hb hr hts hown hlocks hin hml hP hK hD hN hZ hA hS hQ ls hl
  have hl : lv_has ls 5 [(0, .ref o), (1, .ref ra), (2, .int 0)] := hl
  obtain ⟨H, hH⟩ : ∃ H : Heap, H = s.heap := ⟨_, rfl⟩
  obtain ⟨locs, hlo⟩ : ∃ x : List Loc, x = [] := ⟨_, rfl⟩
  rw [← hH] at hP
  have hS : va_S A s.heap H locs := by rw [hH, hlo]; exact hS
  have hgo : W p l e rm_c_L_stateBehind s m args below meth c H locs 0 0 Q (F0 m 0 ls []) := by
    clear hH hlo
    refine lv_iconst (v := 0) hx hb dX4_stateBehind_0 (by decide) ?_
    refine lv_istore_n (lv' := [(3, .int 0), (0, .ref o), (1, .ref ra), (2, .int 0)]) hx hb dX4_stateBehind_1 rfl hl (by decide) rfl (fun ls hl => ?_)
    refine lv_iconst (v := 0) hx hb dX4_stateBehind_2 (by decide) ?_
    refine lv_istore (lv' := [(4, .int 0), (3, .int 0), (0, .ref o), (1, .ref ra), (2, .int 0)]) hx hb dX4_stateBehind_3 hl (by decide) rfl (fun ls hl => ?_)
    refine lv_iload hx hb dX4_stateBehind_5 (lv_at hl 0 rfl) ?_
    refine lv_iload_n hx hb dX4_stateBehind_7 rfl (lv_at hl 4 rfl) ?_
    refine icmp_ge_t hx hb 34 dX4_stateBehind_8 (by decide) (by decide) ?_
    refine lv_iload_n hx hb dX4_stateBehind_34 rfl (lv_at hl 1 rfl) ?_
    exact rt_i hx hb hr hlocks hQ hP hD hS () [0] dX4_stateBehind_35 rfl (Nat.le_of_ble_eq_true rfl) (Nat.le_of_ble_eq_true rfl) rfl (by decide) rfl
  rw [hH, hlo] at hgo
  exact hgo
