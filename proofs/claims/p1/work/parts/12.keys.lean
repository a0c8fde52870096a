theorem hi_X2_init_X2 : ∀ w ∈ wsX20, w ∈ wsX2_init := fun _ h => List.mem_cons_of_mem _ (List.mem_append_right _ h)
abbrev rm_c_K_init_800 : Room := { frames := 1, cells := 2, slots := 2848, locals := 21 }
set_option maxHeartbeats 4000000 in
set_option maxRecDepth 100000 in
theorem c_K_init_800 (l : Launch) (g : va_G) (cT : Nat → ClassId) (sz : Nat) (o : Nat)  : Ctr l g cT sz yX2_init wsX2_init rm_c_K_init_800 [.ref o, .int 800] [(o, .inr (2, [.null, .null, .int 0]))] (QV g (fun (u : Nat × Nat) => True) (fun (u : Nat × Nat) => [(o, .inr (2, [.ref u.1, .ref u.2, .int 0])), (u.1, .inl (cT 1, 800, .inr (.inl (fun _ => 0)))), (u.2, .inl (cT 0, 2048, .inl (fun _ => 0)))])) 2 2848 := by
  refine mk_ctr (cc := cX2_init) (maxL := 4) (ret := none) (by decide) rfl (Nat.le_of_ble_eq_true rfl) ?_
  intro p e s m args below meth c A Q hx hb hr hts hown hlocks hin hml hP hK hD hN hZ hA hS hQ ls hl
  have hl : lv_has ls 4 [(0, .ref o), (1, .int 800)] := hl
  obtain ⟨H, hH⟩ : ∃ H : Heap, H = s.heap := ⟨_, rfl⟩
  obtain ⟨locs, hlo⟩ : ∃ x : List Loc, x = [] := ⟨_, rfl⟩
  rw [← hH] at hP
  have hS : va_S A s.heap H locs := by rw [hH, hlo]; exact hS
  have hgo : W p l e rm_c_K_init_800 s m args below meth c H locs 0 0 Q (F0 m 0 ls []) := by
    clear hH hlo
    refine lv_aload_n hx hb dX2_init_0 rfl (lv_at hl 0 rfl) ?_
    refine W.objInit hx hb hown (hts (.methodLink RX2 1 objectInit) (by decide +kernel)) (hts (.instanceMethod objectInit) (by decide +kernel)) (hts _ (List.mem_cons_of_mem _ (List.mem_append_left _ (List.mem_of_getElem? (i := 2) rfl)))) rfl (by rw [hml]; exact hl.1) rfl dX2_init_1 (Nat.le_of_ble_eq_true rfl) (Nat.le_of_ble_eq_true rfl) ?_
    refine W.eq (g2 := F0 m 4 ls []) rfl ?_
    refine lv_aload_n hx hb dX2_init_4 rfl (lv_at hl 0 rfl) ?_
    refine lv_iconst (v := 0) hx hb dX2_init_5 (by decide) ?_
    refine va_put (C := RX2) (T := TX2) (N := 3) (v := .int 0) (ty := .int) hx hb hts hi_X2_init_X2 tyX2 tyX2_ok nmX2 hown hK hP hD hS 0 rfl rfl 2 (by decide) (hts (.fieldLink RX2 7 "BothWays$Keys" "size" "I") (by decide +kernel)) (fun _ h => h) rfl (by decide +kernel) rfl rfl (Nat.le_of_ble_eq_true rfl) dX2_init_6 (fun H locs hP hD hS => ?_)
    have hP : va_P g vwCl [(o, .inr (2, [.null, .null, .int 0]))] H := hP
    have hD : va_D A [(o, .inr (2, [.null, .null, .int 0]))] := hD
    refine lv_iconst (v := 2) hx hb dX2_init_9 (by decide) ?_
    refine lv_istore_n (lv' := [(2, .int 2), (0, .ref o), (1, .int 800)]) hx hb dX2_init_10 rfl hl (by decide) rfl (fun ls hl => ?_)
    refine lv_iconst (v := 0) hx hb dX2_init_11 (by decide) ?_
    refine lv_istore_n (lv' := [(3, .int 0), (2, .int 2), (0, .ref o), (1, .int 800)]) hx hb dX2_init_12 rfl hl (by decide) rfl (fun ls hl => ?_)
    refine lv_iload_n hx hb dX2_init_13 rfl (lv_at hl 0 rfl) ?_
    refine lv_bipush (v := 20) hx hb dX2_init_14 (by decide) ?_
    refine icmp_ge_f hx hb dX2_init_16 36 (by decide) (by decide) ?_
    refine lv_iload_n hx hb dX2_init_19 rfl (lv_at hl 1 rfl) ?_
    refine lv_iconst (v := 2) hx hb dX2_init_20 (by decide) ?_
    refine lv_iload_n hx hb dX2_init_21 rfl (lv_at hl 3 rfl) ?_
    refine w_imul (v := 1600) hx hb dX2_init_22 (by decide) ?_
    refine icmp_ge_f hx hb dX2_init_23 36 (by decide) (by decide) ?_
    refine lv_iload_n hx hb dX2_init_26 rfl (lv_at hl 1 rfl) ?_
    refine lv_iconst (v := 2) hx hb dX2_init_27 (by decide) ?_
    refine w_imul (v := 4) hx hb dX2_init_28 (by decide) ?_
    refine lv_istore_n (lv' := [(2, .int 4), (3, .int 0), (0, .ref o), (1, .int 800)]) hx hb dX2_init_29 rfl hl (by decide) rfl (fun ls hl => ?_)
    refine lv_iinc (v := 1) (lv' := [(3, .int 1), (2, .int 4), (0, .ref o), (1, .int 800)]) hx hb dX2_init_30 hl (k := 1) rfl (by decide) (by decide) rfl (fun ls hl => ?_)
    refine lv_goto (tgt := 13) hx hb dX2_init_33 (by decide) ?_
    refine lv_iload_n hx hb dX2_init_13 rfl (lv_at hl 0 rfl) ?_
    refine lv_bipush (v := 20) hx hb dX2_init_14 (by decide) ?_
    refine icmp_ge_f hx hb dX2_init_16 36 (by decide) (by decide) ?_
    refine lv_iload_n hx hb dX2_init_19 rfl (lv_at hl 1 rfl) ?_
    refine lv_iconst (v := 2) hx hb dX2_init_20 (by decide) ?_
    refine lv_iload_n hx hb dX2_init_21 rfl (lv_at hl 3 rfl) ?_
    refine w_imul (v := 1600) hx hb dX2_init_22 (by decide) ?_
    refine icmp_ge_f hx hb dX2_init_23 36 (by decide) (by decide) ?_
    refine lv_iload_n hx hb dX2_init_26 rfl (lv_at hl 1 rfl) ?_
    refine lv_iconst (v := 2) hx hb dX2_init_27 (by decide) ?_
    refine w_imul (v := 8) hx hb dX2_init_28 (by decide) ?_
    refine lv_istore_n (lv' := [(2, .int 8), (3, .int 1), (0, .ref o), (1, .int 800)]) hx hb dX2_init_29 rfl hl (by decide) rfl (fun ls hl => ?_)
    refine lv_iinc (v := 2) (lv' := [(3, .int 2), (2, .int 8), (0, .ref o), (1, .int 800)]) hx hb dX2_init_30 hl (k := 1) rfl (by decide) (by decide) rfl (fun ls hl => ?_)
    refine lv_goto (tgt := 13) hx hb dX2_init_33 (by decide) ?_
    refine lv_iload_n hx hb dX2_init_13 rfl (lv_at hl 0 rfl) ?_
    refine lv_bipush (v := 20) hx hb dX2_init_14 (by decide) ?_
    refine icmp_ge_f hx hb dX2_init_16 36 (by decide) (by decide) ?_
    refine lv_iload_n hx hb dX2_init_19 rfl (lv_at hl 1 rfl) ?_
    refine lv_iconst (v := 2) hx hb dX2_init_20 (by decide) ?_
    refine lv_iload_n hx hb dX2_init_21 rfl (lv_at hl 3 rfl) ?_
    refine w_imul (v := 1600) hx hb dX2_init_22 (by decide) ?_
    refine icmp_ge_f hx hb dX2_init_23 36 (by decide) (by decide) ?_
    refine lv_iload_n hx hb dX2_init_26 rfl (lv_at hl 1 rfl) ?_
    refine lv_iconst (v := 2) hx hb dX2_init_27 (by decide) ?_
    refine w_imul (v := 16) hx hb dX2_init_28 (by decide) ?_
    refine lv_istore_n (lv' := [(2, .int 16), (3, .int 2), (0, .ref o), (1, .int 800)]) hx hb dX2_init_29 rfl hl (by decide) rfl (fun ls hl => ?_)
    refine lv_iinc (v := 3) (lv' := [(3, .int 3), (2, .int 16), (0, .ref o), (1, .int 800)]) hx hb dX2_init_30 hl (k := 1) rfl (by decide) (by decide) rfl (fun ls hl => ?_)
    refine lv_goto (tgt := 13) hx hb dX2_init_33 (by decide) ?_
    refine lv_iload_n hx hb dX2_init_13 rfl (lv_at hl 0 rfl) ?_
    refine lv_bipush (v := 20) hx hb dX2_init_14 (by decide) ?_
    refine icmp_ge_f hx hb dX2_init_16 36 (by decide) (by decide) ?_
    refine lv_iload_n hx hb dX2_init_19 rfl (lv_at hl 1 rfl) ?_
    refine lv_iconst (v := 2) hx hb dX2_init_20 (by decide) ?_
    refine lv_iload_n hx hb dX2_init_21 rfl (lv_at hl 3 rfl) ?_
    refine w_imul (v := 1600) hx hb dX2_init_22 (by decide) ?_
    refine icmp_ge_f hx hb dX2_init_23 36 (by decide) (by decide) ?_
    refine lv_iload_n hx hb dX2_init_26 rfl (lv_at hl 1 rfl) ?_
    refine lv_iconst (v := 2) hx hb dX2_init_27 (by decide) ?_
    refine w_imul (v := 32) hx hb dX2_init_28 (by decide) ?_
    refine lv_istore_n (lv' := [(2, .int 32), (3, .int 3), (0, .ref o), (1, .int 800)]) hx hb dX2_init_29 rfl hl (by decide) rfl (fun ls hl => ?_)
    refine lv_iinc (v := 4) (lv' := [(3, .int 4), (2, .int 32), (0, .ref o), (1, .int 800)]) hx hb dX2_init_30 hl (k := 1) rfl (by decide) (by decide) rfl (fun ls hl => ?_)
    refine lv_goto (tgt := 13) hx hb dX2_init_33 (by decide) ?_
    refine lv_iload_n hx hb dX2_init_13 rfl (lv_at hl 0 rfl) ?_
    refine lv_bipush (v := 20) hx hb dX2_init_14 (by decide) ?_
    refine icmp_ge_f hx hb dX2_init_16 36 (by decide) (by decide) ?_
    refine lv_iload_n hx hb dX2_init_19 rfl (lv_at hl 1 rfl) ?_
    refine lv_iconst (v := 2) hx hb dX2_init_20 (by decide) ?_
    refine lv_iload_n hx hb dX2_init_21 rfl (lv_at hl 3 rfl) ?_
    refine w_imul (v := 1600) hx hb dX2_init_22 (by decide) ?_
    refine icmp_ge_f hx hb dX2_init_23 36 (by decide) (by decide) ?_
    refine lv_iload_n hx hb dX2_init_26 rfl (lv_at hl 1 rfl) ?_
    refine lv_iconst (v := 2) hx hb dX2_init_27 (by decide) ?_
    refine w_imul (v := 64) hx hb dX2_init_28 (by decide) ?_
    refine lv_istore_n (lv' := [(2, .int 64), (3, .int 4), (0, .ref o), (1, .int 800)]) hx hb dX2_init_29 rfl hl (by decide) rfl (fun ls hl => ?_)
    refine lv_iinc (v := 5) (lv' := [(3, .int 5), (2, .int 64), (0, .ref o), (1, .int 800)]) hx hb dX2_init_30 hl (k := 1) rfl (by decide) (by decide) rfl (fun ls hl => ?_)
    refine lv_goto (tgt := 13) hx hb dX2_init_33 (by decide) ?_
    refine lv_iload_n hx hb dX2_init_13 rfl (lv_at hl 0 rfl) ?_
    refine lv_bipush (v := 20) hx hb dX2_init_14 (by decide) ?_
    refine icmp_ge_f hx hb dX2_init_16 36 (by decide) (by decide) ?_
    refine lv_iload_n hx hb dX2_init_19 rfl (lv_at hl 1 rfl) ?_
    refine lv_iconst (v := 2) hx hb dX2_init_20 (by decide) ?_
    refine lv_iload_n hx hb dX2_init_21 rfl (lv_at hl 3 rfl) ?_
    refine w_imul (v := 1600) hx hb dX2_init_22 (by decide) ?_
    refine icmp_ge_f hx hb dX2_init_23 36 (by decide) (by decide) ?_
    refine lv_iload_n hx hb dX2_init_26 rfl (lv_at hl 1 rfl) ?_
    refine lv_iconst (v := 2) hx hb dX2_init_27 (by decide) ?_
    refine w_imul (v := 128) hx hb dX2_init_28 (by decide) ?_
    refine lv_istore_n (lv' := [(2, .int 128), (3, .int 5), (0, .ref o), (1, .int 800)]) hx hb dX2_init_29 rfl hl (by decide) rfl (fun ls hl => ?_)
    refine lv_iinc (v := 6) (lv' := [(3, .int 6), (2, .int 128), (0, .ref o), (1, .int 800)]) hx hb dX2_init_30 hl (k := 1) rfl (by decide) (by decide) rfl (fun ls hl => ?_)
    refine lv_goto (tgt := 13) hx hb dX2_init_33 (by decide) ?_
    refine lv_iload_n hx hb dX2_init_13 rfl (lv_at hl 0 rfl) ?_
    refine lv_bipush (v := 20) hx hb dX2_init_14 (by decide) ?_
    refine icmp_ge_f hx hb dX2_init_16 36 (by decide) (by decide) ?_
    refine lv_iload_n hx hb dX2_init_19 rfl (lv_at hl 1 rfl) ?_
    refine lv_iconst (v := 2) hx hb dX2_init_20 (by decide) ?_
    refine lv_iload_n hx hb dX2_init_21 rfl (lv_at hl 3 rfl) ?_
    refine w_imul (v := 1600) hx hb dX2_init_22 (by decide) ?_
    refine icmp_ge_f hx hb dX2_init_23 36 (by decide) (by decide) ?_
    refine lv_iload_n hx hb dX2_init_26 rfl (lv_at hl 1 rfl) ?_
    refine lv_iconst (v := 2) hx hb dX2_init_27 (by decide) ?_
    refine w_imul (v := 256) hx hb dX2_init_28 (by decide) ?_
    refine lv_istore_n (lv' := [(2, .int 256), (3, .int 6), (0, .ref o), (1, .int 800)]) hx hb dX2_init_29 rfl hl (by decide) rfl (fun ls hl => ?_)
    refine lv_iinc (v := 7) (lv' := [(3, .int 7), (2, .int 256), (0, .ref o), (1, .int 800)]) hx hb dX2_init_30 hl (k := 1) rfl (by decide) (by decide) rfl (fun ls hl => ?_)
    refine lv_goto (tgt := 13) hx hb dX2_init_33 (by decide) ?_
    refine lv_iload_n hx hb dX2_init_13 rfl (lv_at hl 0 rfl) ?_
    refine lv_bipush (v := 20) hx hb dX2_init_14 (by decide) ?_
    refine icmp_ge_f hx hb dX2_init_16 36 (by decide) (by decide) ?_
    refine lv_iload_n hx hb dX2_init_19 rfl (lv_at hl 1 rfl) ?_
    refine lv_iconst (v := 2) hx hb dX2_init_20 (by decide) ?_
    refine lv_iload_n hx hb dX2_init_21 rfl (lv_at hl 3 rfl) ?_
    refine w_imul (v := 1600) hx hb dX2_init_22 (by decide) ?_
    refine icmp_ge_f hx hb dX2_init_23 36 (by decide) (by decide) ?_
    refine lv_iload_n hx hb dX2_init_26 rfl (lv_at hl 1 rfl) ?_
    refine lv_iconst (v := 2) hx hb dX2_init_27 (by decide) ?_
    refine w_imul (v := 512) hx hb dX2_init_28 (by decide) ?_
    refine lv_istore_n (lv' := [(2, .int 512), (3, .int 7), (0, .ref o), (1, .int 800)]) hx hb dX2_init_29 rfl hl (by decide) rfl (fun ls hl => ?_)
    refine lv_iinc (v := 8) (lv' := [(3, .int 8), (2, .int 512), (0, .ref o), (1, .int 800)]) hx hb dX2_init_30 hl (k := 1) rfl (by decide) (by decide) rfl (fun ls hl => ?_)
    refine lv_goto (tgt := 13) hx hb dX2_init_33 (by decide) ?_
    refine lv_iload_n hx hb dX2_init_13 rfl (lv_at hl 0 rfl) ?_
    refine lv_bipush (v := 20) hx hb dX2_init_14 (by decide) ?_
    refine icmp_ge_f hx hb dX2_init_16 36 (by decide) (by decide) ?_
    refine lv_iload_n hx hb dX2_init_19 rfl (lv_at hl 1 rfl) ?_
    refine lv_iconst (v := 2) hx hb dX2_init_20 (by decide) ?_
    refine lv_iload_n hx hb dX2_init_21 rfl (lv_at hl 3 rfl) ?_
    refine w_imul (v := 1600) hx hb dX2_init_22 (by decide) ?_
    refine icmp_ge_f hx hb dX2_init_23 36 (by decide) (by decide) ?_
    refine lv_iload_n hx hb dX2_init_26 rfl (lv_at hl 1 rfl) ?_
    refine lv_iconst (v := 2) hx hb dX2_init_27 (by decide) ?_
    refine w_imul (v := 1024) hx hb dX2_init_28 (by decide) ?_
    refine lv_istore_n (lv' := [(2, .int 1024), (3, .int 8), (0, .ref o), (1, .int 800)]) hx hb dX2_init_29 rfl hl (by decide) rfl (fun ls hl => ?_)
    refine lv_iinc (v := 9) (lv' := [(3, .int 9), (2, .int 1024), (0, .ref o), (1, .int 800)]) hx hb dX2_init_30 hl (k := 1) rfl (by decide) (by decide) rfl (fun ls hl => ?_)
    refine lv_goto (tgt := 13) hx hb dX2_init_33 (by decide) ?_
    refine lv_iload_n hx hb dX2_init_13 rfl (lv_at hl 0 rfl) ?_
    refine lv_bipush (v := 20) hx hb dX2_init_14 (by decide) ?_
    refine icmp_ge_f hx hb dX2_init_16 36 (by decide) (by decide) ?_
    refine lv_iload_n hx hb dX2_init_19 rfl (lv_at hl 1 rfl) ?_
    refine lv_iconst (v := 2) hx hb dX2_init_20 (by decide) ?_
    refine lv_iload_n hx hb dX2_init_21 rfl (lv_at hl 3 rfl) ?_
    refine w_imul (v := 1600) hx hb dX2_init_22 (by decide) ?_
    refine icmp_ge_f hx hb dX2_init_23 36 (by decide) (by decide) ?_
    refine lv_iload_n hx hb dX2_init_26 rfl (lv_at hl 1 rfl) ?_
    refine lv_iconst (v := 2) hx hb dX2_init_27 (by decide) ?_
    refine w_imul (v := 2048) hx hb dX2_init_28 (by decide) ?_
    refine lv_istore_n (lv' := [(2, .int 2048), (3, .int 9), (0, .ref o), (1, .int 800)]) hx hb dX2_init_29 rfl hl (by decide) rfl (fun ls hl => ?_)
    refine lv_iinc (v := 10) (lv' := [(3, .int 10), (2, .int 2048), (0, .ref o), (1, .int 800)]) hx hb dX2_init_30 hl (k := 1) rfl (by decide) (by decide) rfl (fun ls hl => ?_)
    refine lv_goto (tgt := 13) hx hb dX2_init_33 (by decide) ?_
    refine lv_iload_n hx hb dX2_init_13 rfl (lv_at hl 0 rfl) ?_
    refine lv_bipush (v := 20) hx hb dX2_init_14 (by decide) ?_
    refine icmp_ge_f hx hb dX2_init_16 36 (by decide) (by decide) ?_
    refine lv_iload_n hx hb dX2_init_19 rfl (lv_at hl 1 rfl) ?_
    refine lv_iconst (v := 2) hx hb dX2_init_20 (by decide) ?_
    refine lv_iload_n hx hb dX2_init_21 rfl (lv_at hl 3 rfl) ?_
    refine w_imul (v := 1600) hx hb dX2_init_22 (by decide) ?_
    refine icmp_ge_t hx hb 36 dX2_init_23 (by decide) (by decide) ?_
    refine lv_aload_n hx hb dX2_init_36 rfl (lv_at hl 2 rfl) ?_
    refine lv_iconst (v := 0) hx hb dX2_init_37 (by decide) ?_
    refine lv_iload_n hx hb dX2_init_38 rfl (lv_at hl 3 rfl) ?_
    refine lv_iload_n hx hb dX2_init_39 rfl (lv_at hl 1 rfl) ?_
    refine lv_iconst (v := 2) hx hb dX2_init_40 (by decide) ?_
    refine w_idiv (v := 1024) hx hb dX2_init_41 (by decide) (by decide) ?_
    refine va_mmin hx hb (hml.trans hl.1.symm) hown (hts (.methodLink RX2 13 Lib.Math.min.name) (by decide +kernel)) (hts (.static Lib.Math.min.name) (by decide +kernel)) (hts (.initialized "java/lang/Math") (by decide +kernel)) (hts (.code Lib.Math.min.name Lib.Math.min.code 2 (some .int)) (by decide +kernel)) (Nat.le_of_ble_eq_true rfl) (Nat.le_of_ble_eq_true rfl) (Nat.le_of_ble_eq_true rfl) (Nat.le_of_ble_eq_true rfl) dX2_init_42 ?_
    refine tI 800 (by decide) ?_
    refine va_mmax hx hb (hml.trans hl.1.symm) hown (hts (.methodLink RX2 19 Lib.Math.max.name) (by decide +kernel)) (hts (.static Lib.Math.max.name) (by decide +kernel)) (hts (.initialized "java/lang/Math") (by decide +kernel)) (hts (.code Lib.Math.max.name Lib.Math.max.code 2 (some .int)) (by decide +kernel)) (Nat.le_of_ble_eq_true rfl) (Nat.le_of_ble_eq_true rfl) (Nat.le_of_ble_eq_true rfl) (Nat.le_of_ble_eq_true rfl) dX2_init_45 ?_
    refine tI 800 (by decide) ?_
    refine w_newJ hx hb (hts (.arrayClass .long) (by decide +kernel)) hK hP hD hS hA 800 1 800 dX2_init_48 (by decide) (by decide) (by decide) (Nat.le_of_ble_eq_true rfl) (Nat.le_of_ble_eq_true rfl) (Nat.le_of_ble_eq_true rfl) (Nat.le_of_ble_eq_true rfl) (fun q_1 H hP hD hS => ?_)
    have hP : va_P g vwCl [(o, .inr (2, [.null, .null, .int 0])), (q_1, .inl (cT 1, 800, .inr (.inl (fun _ => 0))))] H := hP
    have hD : va_D A [(o, .inr (2, [.null, .null, .int 0])), (q_1, .inl (cT 1, 800, .inr (.inl (fun _ => 0))))] := hD
    refine va_putF (C := RX2) (T := TX2) (N := 3) (v := .ref q_1) (ty := .array .long) hx hb hts hi_X2_init_X2 tyX2 tyX2_ok nmX2 hown hK hP hD hS 0 rfl rfl 0 (by decide) (hts (.fieldLink RX2 22 "BothWays$Keys" "keys" "[J") (by decide +kernel)) (fun _ h => h) rfl hin rfl (by decide +kernel) rfl rfl (Nat.le_of_ble_eq_true rfl) dX2_init_50 (fun H locs hP hD hS => ?_)
    have hP : va_P g vwCl [(o, .inr (2, [.ref q_1, .null, .int 0])), (q_1, .inl (cT 1, 800, .inr (.inl (fun _ => 0))))] H := hP
    have hD : va_D A [(o, .inr (2, [.ref q_1, .null, .int 0])), (q_1, .inl (cT 1, 800, .inr (.inl (fun _ => 0))))] := hD
    refine lv_aload_n hx hb dX2_init_53 rfl (lv_at hl 2 rfl) ?_
    refine lv_iload_n hx hb dX2_init_54 rfl (lv_at hl 1 rfl) ?_
    refine w_newI hx hb (hts (.arrayClass .int) (by decide +kernel)) hK hP hD hS hA 2048 2 2848 dX2_init_55 (by decide) (by decide) (by decide) (Nat.le_of_ble_eq_true rfl) (Nat.le_of_ble_eq_true rfl) (Nat.le_of_ble_eq_true rfl) (Nat.le_of_ble_eq_true rfl) (fun q_2 H hP hD hS => ?_)
    have hP : va_P g vwCl [(o, .inr (2, [.ref q_1, .null, .int 0])), (q_1, .inl (cT 1, 800, .inr (.inl (fun _ => 0)))), (q_2, .inl (cT 0, 2048, .inl (fun _ => 0)))] H := hP
    have hD : va_D A [(o, .inr (2, [.ref q_1, .null, .int 0])), (q_1, .inl (cT 1, 800, .inr (.inl (fun _ => 0)))), (q_2, .inl (cT 0, 2048, .inl (fun _ => 0)))] := hD
    refine va_putF (C := RX2) (T := TX2) (N := 3) (v := .ref q_2) (ty := .array .int) hx hb hts hi_X2_init_X2 tyX2 tyX2_ok nmX2 hown hK hP hD hS 0 rfl rfl 1 (by decide) (hts (.fieldLink RX2 26 "BothWays$Keys" "slots" "[I") (by decide +kernel)) (fun _ h => h) rfl hin rfl (by decide +kernel) rfl rfl (Nat.le_of_ble_eq_true rfl) dX2_init_57 (fun H locs hP hD hS => ?_)
    have hP : va_P g vwCl [(o, .inr (2, [.ref q_1, .ref q_2, .int 0])), (q_1, .inl (cT 1, 800, .inr (.inl (fun _ => 0)))), (q_2, .inl (cT 0, 2048, .inl (fun _ => 0)))] H := hP
    have hD : va_D A [(o, .inr (2, [.ref q_1, .ref q_2, .int 0])), (q_1, .inl (cT 1, 800, .inr (.inl (fun _ => 0)))), (q_2, .inl (cT 0, 2048, .inl (fun _ => 0)))] := hD
    exact rt_v hx hb hr hlocks hQ hP hD hS (q_1, q_2) [0, 1, 2] dX2_init_60 (Nat.le_of_ble_eq_true rfl) (Nat.le_of_ble_eq_true rfl) rfl (by decide) trivial
  rw [hH, hlo] at hgo
  exact hgo
abbrev rm_c_K_init_4000 : Room := { frames := 1, cells := 2, slots := 12192, locals := 21 }
set_option maxHeartbeats 4000000 in
set_option maxRecDepth 100000 in
theorem c_K_init_4000 (l : Launch) (g : va_G) (cT : Nat → ClassId) (sz : Nat) (o : Nat)  : Ctr l g cT sz yX2_init wsX2_init rm_c_K_init_4000 [.ref o, .int 4000] [(o, .inr (2, [.null, .null, .int 0]))] (QV g (fun (u : Nat × Nat) => True) (fun (u : Nat × Nat) => [(o, .inr (2, [.ref u.1, .ref u.2, .int 0])), (u.1, .inl (cT 1, 4000, .inr (.inl (fun _ => 0)))), (u.2, .inl (cT 0, 8192, .inl (fun _ => 0)))])) 2 12192 := by
  refine mk_ctr (cc := cX2_init) (maxL := 4) (ret := none) (by decide) rfl (Nat.le_of_ble_eq_true rfl) ?_
  intro p e s m args below meth c A Q hx hb hr hts hown hlocks hin hml hP hK hD hN hZ hA hS hQ ls hl
  have hl : lv_has ls 4 [(0, .ref o), (1, .int 4000)] := hl
  obtain ⟨H, hH⟩ : ∃ H : Heap, H = s.heap := ⟨_, rfl⟩
  obtain ⟨locs, hlo⟩ : ∃ x : List Loc, x = [] := ⟨_, rfl⟩
  rw [← hH] at hP
  have hS : va_S A s.heap H locs := by rw [hH, hlo]; exact hS
  have hgo : W p l e rm_c_K_init_4000 s m args below meth c H locs 0 0 Q (F0 m 0 ls []) := by
    clear hH hlo
    refine lv_aload_n hx hb dX2_init_0 rfl (lv_at hl 0 rfl) ?_
    refine W.objInit hx hb hown (hts (.methodLink RX2 1 objectInit) (by decide +kernel)) (hts (.instanceMethod objectInit) (by decide +kernel)) (hts _ (List.mem_cons_of_mem _ (List.mem_append_left _ (List.mem_of_getElem? (i := 2) rfl)))) rfl (by rw [hml]; exact hl.1) rfl dX2_init_1 (Nat.le_of_ble_eq_true rfl) (Nat.le_of_ble_eq_true rfl) ?_
    refine W.eq (g2 := F0 m 4 ls []) rfl ?_
    refine lv_aload_n hx hb dX2_init_4 rfl (lv_at hl 0 rfl) ?_
    refine lv_iconst (v := 0) hx hb dX2_init_5 (by decide) ?_
    refine va_put (C := RX2) (T := TX2) (N := 3) (v := .int 0) (ty := .int) hx hb hts hi_X2_init_X2 tyX2 tyX2_ok nmX2 hown hK hP hD hS 0 rfl rfl 2 (by decide) (hts (.fieldLink RX2 7 "BothWays$Keys" "size" "I") (by decide +kernel)) (fun _ h => h) rfl (by decide +kernel) rfl rfl (Nat.le_of_ble_eq_true rfl) dX2_init_6 (fun H locs hP hD hS => ?_)
    have hP : va_P g vwCl [(o, .inr (2, [.null, .null, .int 0]))] H := hP
    have hD : va_D A [(o, .inr (2, [.null, .null, .int 0]))] := hD
    refine lv_iconst (v := 2) hx hb dX2_init_9 (by decide) ?_
    refine lv_istore_n (lv' := [(2, .int 2), (0, .ref o), (1, .int 4000)]) hx hb dX2_init_10 rfl hl (by decide) rfl (fun ls hl => ?_)
    refine lv_iconst (v := 0) hx hb dX2_init_11 (by decide) ?_
    refine lv_istore_n (lv' := [(3, .int 0), (2, .int 2), (0, .ref o), (1, .int 4000)]) hx hb dX2_init_12 rfl hl (by decide) rfl (fun ls hl => ?_)
    refine lv_iload_n hx hb dX2_init_13 rfl (lv_at hl 0 rfl) ?_
    refine lv_bipush (v := 20) hx hb dX2_init_14 (by decide) ?_
    refine icmp_ge_f hx hb dX2_init_16 36 (by decide) (by decide) ?_
    refine lv_iload_n hx hb dX2_init_19 rfl (lv_at hl 1 rfl) ?_
    refine lv_iconst (v := 2) hx hb dX2_init_20 (by decide) ?_
    refine lv_iload_n hx hb dX2_init_21 rfl (lv_at hl 3 rfl) ?_
    refine w_imul (v := 8000) hx hb dX2_init_22 (by decide) ?_
    refine icmp_ge_f hx hb dX2_init_23 36 (by decide) (by decide) ?_
    refine lv_iload_n hx hb dX2_init_26 rfl (lv_at hl 1 rfl) ?_
    refine lv_iconst (v := 2) hx hb dX2_init_27 (by decide) ?_
    refine w_imul (v := 4) hx hb dX2_init_28 (by decide) ?_
    refine lv_istore_n (lv' := [(2, .int 4), (3, .int 0), (0, .ref o), (1, .int 4000)]) hx hb dX2_init_29 rfl hl (by decide) rfl (fun ls hl => ?_)
    refine lv_iinc (v := 1) (lv' := [(3, .int 1), (2, .int 4), (0, .ref o), (1, .int 4000)]) hx hb dX2_init_30 hl (k := 1) rfl (by decide) (by decide) rfl (fun ls hl => ?_)
    refine lv_goto (tgt := 13) hx hb dX2_init_33 (by decide) ?_
    refine lv_iload_n hx hb dX2_init_13 rfl (lv_at hl 0 rfl) ?_
    refine lv_bipush (v := 20) hx hb dX2_init_14 (by decide) ?_
    refine icmp_ge_f hx hb dX2_init_16 36 (by decide) (by decide) ?_
    refine lv_iload_n hx hb dX2_init_19 rfl (lv_at hl 1 rfl) ?_
    refine lv_iconst (v := 2) hx hb dX2_init_20 (by decide) ?_
    refine lv_iload_n hx hb dX2_init_21 rfl (lv_at hl 3 rfl) ?_
    refine w_imul (v := 8000) hx hb dX2_init_22 (by decide) ?_
    refine icmp_ge_f hx hb dX2_init_23 36 (by decide) (by decide) ?_
    refine lv_iload_n hx hb dX2_init_26 rfl (lv_at hl 1 rfl) ?_
    refine lv_iconst (v := 2) hx hb dX2_init_27 (by decide) ?_
    refine w_imul (v := 8) hx hb dX2_init_28 (by decide) ?_
    refine lv_istore_n (lv' := [(2, .int 8), (3, .int 1), (0, .ref o), (1, .int 4000)]) hx hb dX2_init_29 rfl hl (by decide) rfl (fun ls hl => ?_)
    refine lv_iinc (v := 2) (lv' := [(3, .int 2), (2, .int 8), (0, .ref o), (1, .int 4000)]) hx hb dX2_init_30 hl (k := 1) rfl (by decide) (by decide) rfl (fun ls hl => ?_)
    refine lv_goto (tgt := 13) hx hb dX2_init_33 (by decide) ?_
    refine lv_iload_n hx hb dX2_init_13 rfl (lv_at hl 0 rfl) ?_
    refine lv_bipush (v := 20) hx hb dX2_init_14 (by decide) ?_
    refine icmp_ge_f hx hb dX2_init_16 36 (by decide) (by decide) ?_
    refine lv_iload_n hx hb dX2_init_19 rfl (lv_at hl 1 rfl) ?_
    refine lv_iconst (v := 2) hx hb dX2_init_20 (by decide) ?_
    refine lv_iload_n hx hb dX2_init_21 rfl (lv_at hl 3 rfl) ?_
    refine w_imul (v := 8000) hx hb dX2_init_22 (by decide) ?_
    refine icmp_ge_f hx hb dX2_init_23 36 (by decide) (by decide) ?_
    refine lv_iload_n hx hb dX2_init_26 rfl (lv_at hl 1 rfl) ?_
    refine lv_iconst (v := 2) hx hb dX2_init_27 (by decide) ?_
    refine w_imul (v := 16) hx hb dX2_init_28 (by decide) ?_
    refine lv_istore_n (lv' := [(2, .int 16), (3, .int 2), (0, .ref o), (1, .int 4000)]) hx hb dX2_init_29 rfl hl (by decide) rfl (fun ls hl => ?_)
    refine lv_iinc (v := 3) (lv' := [(3, .int 3), (2, .int 16), (0, .ref o), (1, .int 4000)]) hx hb dX2_init_30 hl (k := 1) rfl (by decide) (by decide) rfl (fun ls hl => ?_)
    refine lv_goto (tgt := 13) hx hb dX2_init_33 (by decide) ?_
    refine lv_iload_n hx hb dX2_init_13 rfl (lv_at hl 0 rfl) ?_
    refine lv_bipush (v := 20) hx hb dX2_init_14 (by decide) ?_
    refine icmp_ge_f hx hb dX2_init_16 36 (by decide) (by decide) ?_
    refine lv_iload_n hx hb dX2_init_19 rfl (lv_at hl 1 rfl) ?_
    refine lv_iconst (v := 2) hx hb dX2_init_20 (by decide) ?_
    refine lv_iload_n hx hb dX2_init_21 rfl (lv_at hl 3 rfl) ?_
    refine w_imul (v := 8000) hx hb dX2_init_22 (by decide) ?_
    refine icmp_ge_f hx hb dX2_init_23 36 (by decide) (by decide) ?_
    refine lv_iload_n hx hb dX2_init_26 rfl (lv_at hl 1 rfl) ?_
    refine lv_iconst (v := 2) hx hb dX2_init_27 (by decide) ?_
    refine w_imul (v := 32) hx hb dX2_init_28 (by decide) ?_
    refine lv_istore_n (lv' := [(2, .int 32), (3, .int 3), (0, .ref o), (1, .int 4000)]) hx hb dX2_init_29 rfl hl (by decide) rfl (fun ls hl => ?_)
    refine lv_iinc (v := 4) (lv' := [(3, .int 4), (2, .int 32), (0, .ref o), (1, .int 4000)]) hx hb dX2_init_30 hl (k := 1) rfl (by decide) (by decide) rfl (fun ls hl => ?_)
    refine lv_goto (tgt := 13) hx hb dX2_init_33 (by decide) ?_
    refine lv_iload_n hx hb dX2_init_13 rfl (lv_at hl 0 rfl) ?_
    refine lv_bipush (v := 20) hx hb dX2_init_14 (by decide) ?_
    refine icmp_ge_f hx hb dX2_init_16 36 (by decide) (by decide) ?_
    refine lv_iload_n hx hb dX2_init_19 rfl (lv_at hl 1 rfl) ?_
    refine lv_iconst (v := 2) hx hb dX2_init_20 (by decide) ?_
    refine lv_iload_n hx hb dX2_init_21 rfl (lv_at hl 3 rfl) ?_
    refine w_imul (v := 8000) hx hb dX2_init_22 (by decide) ?_
    refine icmp_ge_f hx hb dX2_init_23 36 (by decide) (by decide) ?_
    refine lv_iload_n hx hb dX2_init_26 rfl (lv_at hl 1 rfl) ?_
    refine lv_iconst (v := 2) hx hb dX2_init_27 (by decide) ?_
    refine w_imul (v := 64) hx hb dX2_init_28 (by decide) ?_
    refine lv_istore_n (lv' := [(2, .int 64), (3, .int 4), (0, .ref o), (1, .int 4000)]) hx hb dX2_init_29 rfl hl (by decide) rfl (fun ls hl => ?_)
    refine lv_iinc (v := 5) (lv' := [(3, .int 5), (2, .int 64), (0, .ref o), (1, .int 4000)]) hx hb dX2_init_30 hl (k := 1) rfl (by decide) (by decide) rfl (fun ls hl => ?_)
    refine lv_goto (tgt := 13) hx hb dX2_init_33 (by decide) ?_
    refine lv_iload_n hx hb dX2_init_13 rfl (lv_at hl 0 rfl) ?_
    refine lv_bipush (v := 20) hx hb dX2_init_14 (by decide) ?_
    refine icmp_ge_f hx hb dX2_init_16 36 (by decide) (by decide) ?_
    refine lv_iload_n hx hb dX2_init_19 rfl (lv_at hl 1 rfl) ?_
    refine lv_iconst (v := 2) hx hb dX2_init_20 (by decide) ?_
    refine lv_iload_n hx hb dX2_init_21 rfl (lv_at hl 3 rfl) ?_
    refine w_imul (v := 8000) hx hb dX2_init_22 (by decide) ?_
    refine icmp_ge_f hx hb dX2_init_23 36 (by decide) (by decide) ?_
    refine lv_iload_n hx hb dX2_init_26 rfl (lv_at hl 1 rfl) ?_
    refine lv_iconst (v := 2) hx hb dX2_init_27 (by decide) ?_
    refine w_imul (v := 128) hx hb dX2_init_28 (by decide) ?_
    refine lv_istore_n (lv' := [(2, .int 128), (3, .int 5), (0, .ref o), (1, .int 4000)]) hx hb dX2_init_29 rfl hl (by decide) rfl (fun ls hl => ?_)
    refine lv_iinc (v := 6) (lv' := [(3, .int 6), (2, .int 128), (0, .ref o), (1, .int 4000)]) hx hb dX2_init_30 hl (k := 1) rfl (by decide) (by decide) rfl (fun ls hl => ?_)
    refine lv_goto (tgt := 13) hx hb dX2_init_33 (by decide) ?_
    refine lv_iload_n hx hb dX2_init_13 rfl (lv_at hl 0 rfl) ?_
    refine lv_bipush (v := 20) hx hb dX2_init_14 (by decide) ?_
    refine icmp_ge_f hx hb dX2_init_16 36 (by decide) (by decide) ?_
    refine lv_iload_n hx hb dX2_init_19 rfl (lv_at hl 1 rfl) ?_
    refine lv_iconst (v := 2) hx hb dX2_init_20 (by decide) ?_
    refine lv_iload_n hx hb dX2_init_21 rfl (lv_at hl 3 rfl) ?_
    refine w_imul (v := 8000) hx hb dX2_init_22 (by decide) ?_
    refine icmp_ge_f hx hb dX2_init_23 36 (by decide) (by decide) ?_
    refine lv_iload_n hx hb dX2_init_26 rfl (lv_at hl 1 rfl) ?_
    refine lv_iconst (v := 2) hx hb dX2_init_27 (by decide) ?_
    refine w_imul (v := 256) hx hb dX2_init_28 (by decide) ?_
    refine lv_istore_n (lv' := [(2, .int 256), (3, .int 6), (0, .ref o), (1, .int 4000)]) hx hb dX2_init_29 rfl hl (by decide) rfl (fun ls hl => ?_)
    refine lv_iinc (v := 7) (lv' := [(3, .int 7), (2, .int 256), (0, .ref o), (1, .int 4000)]) hx hb dX2_init_30 hl (k := 1) rfl (by decide) (by decide) rfl (fun ls hl => ?_)
    refine lv_goto (tgt := 13) hx hb dX2_init_33 (by decide) ?_
    refine lv_iload_n hx hb dX2_init_13 rfl (lv_at hl 0 rfl) ?_
    refine lv_bipush (v := 20) hx hb dX2_init_14 (by decide) ?_
    refine icmp_ge_f hx hb dX2_init_16 36 (by decide) (by decide) ?_
    refine lv_iload_n hx hb dX2_init_19 rfl (lv_at hl 1 rfl) ?_
    refine lv_iconst (v := 2) hx hb dX2_init_20 (by decide) ?_
    refine lv_iload_n hx hb dX2_init_21 rfl (lv_at hl 3 rfl) ?_
    refine w_imul (v := 8000) hx hb dX2_init_22 (by decide) ?_
    refine icmp_ge_f hx hb dX2_init_23 36 (by decide) (by decide) ?_
    refine lv_iload_n hx hb dX2_init_26 rfl (lv_at hl 1 rfl) ?_
    refine lv_iconst (v := 2) hx hb dX2_init_27 (by decide) ?_
    refine w_imul (v := 512) hx hb dX2_init_28 (by decide) ?_
    refine lv_istore_n (lv' := [(2, .int 512), (3, .int 7), (0, .ref o), (1, .int 4000)]) hx hb dX2_init_29 rfl hl (by decide) rfl (fun ls hl => ?_)
    refine lv_iinc (v := 8) (lv' := [(3, .int 8), (2, .int 512), (0, .ref o), (1, .int 4000)]) hx hb dX2_init_30 hl (k := 1) rfl (by decide) (by decide) rfl (fun ls hl => ?_)
    refine lv_goto (tgt := 13) hx hb dX2_init_33 (by decide) ?_
    refine lv_iload_n hx hb dX2_init_13 rfl (lv_at hl 0 rfl) ?_
    refine lv_bipush (v := 20) hx hb dX2_init_14 (by decide) ?_
    refine icmp_ge_f hx hb dX2_init_16 36 (by decide) (by decide) ?_
    refine lv_iload_n hx hb dX2_init_19 rfl (lv_at hl 1 rfl) ?_
    refine lv_iconst (v := 2) hx hb dX2_init_20 (by decide) ?_
    refine lv_iload_n hx hb dX2_init_21 rfl (lv_at hl 3 rfl) ?_
    refine w_imul (v := 8000) hx hb dX2_init_22 (by decide) ?_
    refine icmp_ge_f hx hb dX2_init_23 36 (by decide) (by decide) ?_
    refine lv_iload_n hx hb dX2_init_26 rfl (lv_at hl 1 rfl) ?_
    refine lv_iconst (v := 2) hx hb dX2_init_27 (by decide) ?_
    refine w_imul (v := 1024) hx hb dX2_init_28 (by decide) ?_
    refine lv_istore_n (lv' := [(2, .int 1024), (3, .int 8), (0, .ref o), (1, .int 4000)]) hx hb dX2_init_29 rfl hl (by decide) rfl (fun ls hl => ?_)
    refine lv_iinc (v := 9) (lv' := [(3, .int 9), (2, .int 1024), (0, .ref o), (1, .int 4000)]) hx hb dX2_init_30 hl (k := 1) rfl (by decide) (by decide) rfl (fun ls hl => ?_)
    refine lv_goto (tgt := 13) hx hb dX2_init_33 (by decide) ?_
    refine lv_iload_n hx hb dX2_init_13 rfl (lv_at hl 0 rfl) ?_
    refine lv_bipush (v := 20) hx hb dX2_init_14 (by decide) ?_
    refine icmp_ge_f hx hb dX2_init_16 36 (by decide) (by decide) ?_
    refine lv_iload_n hx hb dX2_init_19 rfl (lv_at hl 1 rfl) ?_
    refine lv_iconst (v := 2) hx hb dX2_init_20 (by decide) ?_
    refine lv_iload_n hx hb dX2_init_21 rfl (lv_at hl 3 rfl) ?_
    refine w_imul (v := 8000) hx hb dX2_init_22 (by decide) ?_
    refine icmp_ge_f hx hb dX2_init_23 36 (by decide) (by decide) ?_
    refine lv_iload_n hx hb dX2_init_26 rfl (lv_at hl 1 rfl) ?_
    refine lv_iconst (v := 2) hx hb dX2_init_27 (by decide) ?_
    refine w_imul (v := 2048) hx hb dX2_init_28 (by decide) ?_
    refine lv_istore_n (lv' := [(2, .int 2048), (3, .int 9), (0, .ref o), (1, .int 4000)]) hx hb dX2_init_29 rfl hl (by decide) rfl (fun ls hl => ?_)
    refine lv_iinc (v := 10) (lv' := [(3, .int 10), (2, .int 2048), (0, .ref o), (1, .int 4000)]) hx hb dX2_init_30 hl (k := 1) rfl (by decide) (by decide) rfl (fun ls hl => ?_)
    refine lv_goto (tgt := 13) hx hb dX2_init_33 (by decide) ?_
    refine lv_iload_n hx hb dX2_init_13 rfl (lv_at hl 0 rfl) ?_
    refine lv_bipush (v := 20) hx hb dX2_init_14 (by decide) ?_
    refine icmp_ge_f hx hb dX2_init_16 36 (by decide) (by decide) ?_
    refine lv_iload_n hx hb dX2_init_19 rfl (lv_at hl 1 rfl) ?_
    refine lv_iconst (v := 2) hx hb dX2_init_20 (by decide) ?_
    refine lv_iload_n hx hb dX2_init_21 rfl (lv_at hl 3 rfl) ?_
    refine w_imul (v := 8000) hx hb dX2_init_22 (by decide) ?_
    refine icmp_ge_f hx hb dX2_init_23 36 (by decide) (by decide) ?_
    refine lv_iload_n hx hb dX2_init_26 rfl (lv_at hl 1 rfl) ?_
    refine lv_iconst (v := 2) hx hb dX2_init_27 (by decide) ?_
    refine w_imul (v := 4096) hx hb dX2_init_28 (by decide) ?_
    refine lv_istore_n (lv' := [(2, .int 4096), (3, .int 10), (0, .ref o), (1, .int 4000)]) hx hb dX2_init_29 rfl hl (by decide) rfl (fun ls hl => ?_)
    refine lv_iinc (v := 11) (lv' := [(3, .int 11), (2, .int 4096), (0, .ref o), (1, .int 4000)]) hx hb dX2_init_30 hl (k := 1) rfl (by decide) (by decide) rfl (fun ls hl => ?_)
    refine lv_goto (tgt := 13) hx hb dX2_init_33 (by decide) ?_
    refine lv_iload_n hx hb dX2_init_13 rfl (lv_at hl 0 rfl) ?_
    refine lv_bipush (v := 20) hx hb dX2_init_14 (by decide) ?_
    refine icmp_ge_f hx hb dX2_init_16 36 (by decide) (by decide) ?_
    refine lv_iload_n hx hb dX2_init_19 rfl (lv_at hl 1 rfl) ?_
    refine lv_iconst (v := 2) hx hb dX2_init_20 (by decide) ?_
    refine lv_iload_n hx hb dX2_init_21 rfl (lv_at hl 3 rfl) ?_
    refine w_imul (v := 8000) hx hb dX2_init_22 (by decide) ?_
    refine icmp_ge_f hx hb dX2_init_23 36 (by decide) (by decide) ?_
    refine lv_iload_n hx hb dX2_init_26 rfl (lv_at hl 1 rfl) ?_
    refine lv_iconst (v := 2) hx hb dX2_init_27 (by decide) ?_
    refine w_imul (v := 8192) hx hb dX2_init_28 (by decide) ?_
    refine lv_istore_n (lv' := [(2, .int 8192), (3, .int 11), (0, .ref o), (1, .int 4000)]) hx hb dX2_init_29 rfl hl (by decide) rfl (fun ls hl => ?_)
    refine lv_iinc (v := 12) (lv' := [(3, .int 12), (2, .int 8192), (0, .ref o), (1, .int 4000)]) hx hb dX2_init_30 hl (k := 1) rfl (by decide) (by decide) rfl (fun ls hl => ?_)
    refine lv_goto (tgt := 13) hx hb dX2_init_33 (by decide) ?_
    refine lv_iload_n hx hb dX2_init_13 rfl (lv_at hl 0 rfl) ?_
    refine lv_bipush (v := 20) hx hb dX2_init_14 (by decide) ?_
    refine icmp_ge_f hx hb dX2_init_16 36 (by decide) (by decide) ?_
    refine lv_iload_n hx hb dX2_init_19 rfl (lv_at hl 1 rfl) ?_
    refine lv_iconst (v := 2) hx hb dX2_init_20 (by decide) ?_
    refine lv_iload_n hx hb dX2_init_21 rfl (lv_at hl 3 rfl) ?_
    refine w_imul (v := 8000) hx hb dX2_init_22 (by decide) ?_
    refine icmp_ge_t hx hb 36 dX2_init_23 (by decide) (by decide) ?_
    refine lv_aload_n hx hb dX2_init_36 rfl (lv_at hl 2 rfl) ?_
    refine lv_iconst (v := 0) hx hb dX2_init_37 (by decide) ?_
    refine lv_iload_n hx hb dX2_init_38 rfl (lv_at hl 3 rfl) ?_
    refine lv_iload_n hx hb dX2_init_39 rfl (lv_at hl 1 rfl) ?_
    refine lv_iconst (v := 2) hx hb dX2_init_40 (by decide) ?_
    refine w_idiv (v := 4096) hx hb dX2_init_41 (by decide) (by decide) ?_
    refine va_mmin hx hb (hml.trans hl.1.symm) hown (hts (.methodLink RX2 13 Lib.Math.min.name) (by decide +kernel)) (hts (.static Lib.Math.min.name) (by decide +kernel)) (hts (.initialized "java/lang/Math") (by decide +kernel)) (hts (.code Lib.Math.min.name Lib.Math.min.code 2 (some .int)) (by decide +kernel)) (Nat.le_of_ble_eq_true rfl) (Nat.le_of_ble_eq_true rfl) (Nat.le_of_ble_eq_true rfl) (Nat.le_of_ble_eq_true rfl) dX2_init_42 ?_
    refine tI 4000 (by decide) ?_
    refine va_mmax hx hb (hml.trans hl.1.symm) hown (hts (.methodLink RX2 19 Lib.Math.max.name) (by decide +kernel)) (hts (.static Lib.Math.max.name) (by decide +kernel)) (hts (.initialized "java/lang/Math") (by decide +kernel)) (hts (.code Lib.Math.max.name Lib.Math.max.code 2 (some .int)) (by decide +kernel)) (Nat.le_of_ble_eq_true rfl) (Nat.le_of_ble_eq_true rfl) (Nat.le_of_ble_eq_true rfl) (Nat.le_of_ble_eq_true rfl) dX2_init_45 ?_
    refine tI 4000 (by decide) ?_
    refine w_newJ hx hb (hts (.arrayClass .long) (by decide +kernel)) hK hP hD hS hA 4000 1 4000 dX2_init_48 (by decide) (by decide) (by decide) (Nat.le_of_ble_eq_true rfl) (Nat.le_of_ble_eq_true rfl) (Nat.le_of_ble_eq_true rfl) (Nat.le_of_ble_eq_true rfl) (fun q_1 H hP hD hS => ?_)
    have hP : va_P g vwCl [(o, .inr (2, [.null, .null, .int 0])), (q_1, .inl (cT 1, 4000, .inr (.inl (fun _ => 0))))] H := hP
    have hD : va_D A [(o, .inr (2, [.null, .null, .int 0])), (q_1, .inl (cT 1, 4000, .inr (.inl (fun _ => 0))))] := hD
    refine va_putF (C := RX2) (T := TX2) (N := 3) (v := .ref q_1) (ty := .array .long) hx hb hts hi_X2_init_X2 tyX2 tyX2_ok nmX2 hown hK hP hD hS 0 rfl rfl 0 (by decide) (hts (.fieldLink RX2 22 "BothWays$Keys" "keys" "[J") (by decide +kernel)) (fun _ h => h) rfl hin rfl (by decide +kernel) rfl rfl (Nat.le_of_ble_eq_true rfl) dX2_init_50 (fun H locs hP hD hS => ?_)
    have hP : va_P g vwCl [(o, .inr (2, [.ref q_1, .null, .int 0])), (q_1, .inl (cT 1, 4000, .inr (.inl (fun _ => 0))))] H := hP
    have hD : va_D A [(o, .inr (2, [.ref q_1, .null, .int 0])), (q_1, .inl (cT 1, 4000, .inr (.inl (fun _ => 0))))] := hD
    refine lv_aload_n hx hb dX2_init_53 rfl (lv_at hl 2 rfl) ?_
    refine lv_iload_n hx hb dX2_init_54 rfl (lv_at hl 1 rfl) ?_
    refine w_newI hx hb (hts (.arrayClass .int) (by decide +kernel)) hK hP hD hS hA 8192 2 12192 dX2_init_55 (by decide) (by decide) (by decide) (Nat.le_of_ble_eq_true rfl) (Nat.le_of_ble_eq_true rfl) (Nat.le_of_ble_eq_true rfl) (Nat.le_of_ble_eq_true rfl) (fun q_2 H hP hD hS => ?_)
    have hP : va_P g vwCl [(o, .inr (2, [.ref q_1, .null, .int 0])), (q_1, .inl (cT 1, 4000, .inr (.inl (fun _ => 0)))), (q_2, .inl (cT 0, 8192, .inl (fun _ => 0)))] H := hP
    have hD : va_D A [(o, .inr (2, [.ref q_1, .null, .int 0])), (q_1, .inl (cT 1, 4000, .inr (.inl (fun _ => 0)))), (q_2, .inl (cT 0, 8192, .inl (fun _ => 0)))] := hD
    refine va_putF (C := RX2) (T := TX2) (N := 3) (v := .ref q_2) (ty := .array .int) hx hb hts hi_X2_init_X2 tyX2 tyX2_ok nmX2 hown hK hP hD hS 0 rfl rfl 1 (by decide) (hts (.fieldLink RX2 26 "BothWays$Keys" "slots" "[I") (by decide +kernel)) (fun _ h => h) rfl hin rfl (by decide +kernel) rfl rfl (Nat.le_of_ble_eq_true rfl) dX2_init_57 (fun H locs hP hD hS => ?_)
    have hP : va_P g vwCl [(o, .inr (2, [.ref q_1, .ref q_2, .int 0])), (q_1, .inl (cT 1, 4000, .inr (.inl (fun _ => 0)))), (q_2, .inl (cT 0, 8192, .inl (fun _ => 0)))] H := hP
    have hD : va_D A [(o, .inr (2, [.ref q_1, .ref q_2, .int 0])), (q_1, .inl (cT 1, 4000, .inr (.inl (fun _ => 0)))), (q_2, .inl (cT 0, 8192, .inl (fun _ => 0)))] := hD
    exact rt_v hx hb hr hlocks hQ hP hD hS (q_1, q_2) [0, 1, 2] dX2_init_60 (Nat.le_of_ble_eq_true rfl) (Nat.le_of_ble_eq_true rfl) rfl (by decide) trivial
  rw [hH, hlo] at hgo
  exact hgo
theorem hi_X2_clear_X2 : ∀ w ∈ wsX20, w ∈ wsX2_clear := fun _ h => List.mem_cons_of_mem _ (List.mem_append_right _ h)
abbrev rm_c_K_clear : Room := { frames := 1, cells := 0, slots := 0, locals := 23 }
set_option maxHeartbeats 4000000 in
set_option maxRecDepth 100000 in
theorem c_K_clear (l : Launch) (g : va_G) (cT : Nat → ClassId) (sz : Nat) (o : Nat) (a : Nat) (b : Nat) (z : Int32) (n : Nat) (f : Nat → Int32) (hn : n < 2 ^ 31) : Ctr l g cT sz yX2_clear wsX2_clear rm_c_K_clear [.ref o] [(o, .inr (2, [.ref a, .ref b, .int z])), (b, .inl (cT 0, n, .inl f))] (QV g (fun (u : Unit) => True) (fun (u : Unit) => [(o, .inr (2, [.ref a, .ref b, .int 0])), (b, .inl (cT 0, n, .inl (fun _ => 0)))])) 0 0 := by
  refine mk_ctr (cc := cX2_clear) (maxL := 1) (ret := none) (by decide) rfl (Nat.le_of_ble_eq_true rfl) ?_
  intro p e s m args below meth c A Q hx hb hr hts hown hlocks hin hml hP hK hD hN hZ hA hS hQ ls hl
  have hl : lv_has ls 1 [(0, .ref o)] := hl
  obtain ⟨H, hH⟩ : ∃ H : Heap, H = s.heap := ⟨_, rfl⟩
  obtain ⟨locs, hlo⟩ : ∃ x : List Loc, x = [] := ⟨_, rfl⟩
  rw [← hH] at hP
  have hS : va_S A s.heap H locs := by rw [hH, hlo]; exact hS
  have hgo : W p l e rm_c_K_clear s m args below meth c H locs 0 0 Q (F0 m 0 ls []) := by
    clear hH hlo
    refine lv_aload_n hx hb dX2_clear_0 rfl (lv_at hl 0 rfl) ?_
    refine lv_iconst (v := 0) hx hb dX2_clear_1 (by decide) ?_
    refine va_put (C := RX2) (T := TX2) (N := 3) (v := .int 0) (ty := .int) hx hb hts hi_X2_clear_X2 tyX2 tyX2_ok nmX2 hown hK hP hD hS 0 rfl rfl 2 (by decide) (hts (.fieldLink RX2 7 "BothWays$Keys" "size" "I") (by decide +kernel)) (fun _ h => h) rfl (by decide +kernel) rfl rfl (Nat.le_of_ble_eq_true rfl) dX2_clear_2 (fun H locs hP hD hS => ?_)
    have hP : va_P g vwCl [(o, .inr (2, [.ref a, .ref b, .int 0])), (b, .inl (cT 0, n, .inl f))] H := hP
    have hD : va_D A [(o, .inr (2, [.ref a, .ref b, .int 0])), (b, .inl (cT 0, n, .inl f))] := hD
    refine lv_aload_n hx hb dX2_clear_5 rfl (lv_at hl 0 rfl) ?_
    refine va_get (C := RX2) (T := TX2) (N := 3) (v := .ref b) hx hb hts hi_X2_clear_X2 hown hK hP 0 rfl rfl 1 (by decide) (hts (.fieldLink RX2 26 "BothWays$Keys" "slots" "[I") (by decide +kernel)) (fun _ h => h) rfl dX2_clear_6 ?_
    refine lv_iconst (v := 0) hx hb dX2_clear_9 (by decide) ?_
    refine cj_v 0 0 (wr := [(o, .inr (2, [.ref a, .ref b, .int 0]))]) (va_runS (As := [.ref b, .int 0]) (rest := []) ⟨hx, hb, hml, hown, hts⟩ (c_fillI l g cT H.size b n f 0 hn) (va_cwS 2 hts gX2_clear_J7_fill_53178 rfl rfl rfl yd_J7_fill_53178.2 ⟨(Nat.le_of_ble_eq_true rfl), (Nat.le_of_ble_eq_true rfl)⟩) (preS (wc := [(b, .inl (cT 0, n, .inl f))]) rfl hP hD hK hN hZ hS hA [1] rfl (by decide)) rfl rfl hl.1 rfl (lv_room (Nat.le_of_ble_eq_true rfl)) dX2_clear_10 ⟨(Nat.le_of_ble_eq_true rfl), (Nat.le_of_ble_eq_true rfl)⟩) hP hD hS hA [1] [0] rfl rfl (by decide) (by decide) (Nat.le_of_ble_eq_true rfl) (Nat.le_of_ble_eq_true rfl) (fun u H locs h_2 hP hD hS => ?_)
    have hP : va_P g vwCl [(o, .inr (2, [.ref a, .ref b, .int 0])), (b, .inl (cT 0, n, .inl (fun _ => 0)))] H := hP
    have hD : va_D A [(o, .inr (2, [.ref a, .ref b, .int 0])), (b, .inl (cT 0, n, .inl (fun _ => 0)))] := hD
    exact rt_v hx hb hr hlocks hQ hP hD hS () [0, 1] dX2_clear_13 (Nat.le_of_ble_eq_true rfl) (Nat.le_of_ble_eq_true rfl) rfl (by decide) trivial
  rw [hH, hlo] at hgo
  exact hgo
theorem hi_X2_isFull_X2 : ∀ w ∈ wsX20, w ∈ wsX2_isFull := fun _ h => List.mem_cons_of_mem _ (List.mem_append_right _ h)
abbrev rm_c_K_isFull_800 : Room := { frames := 0, cells := 0, slots := 0, locals := 0 }
set_option maxHeartbeats 4000000 in
set_option maxRecDepth 100000 in
theorem c_K_isFull_800 (l : Launch) (g : va_G) (cT : Nat → ClassId) (sz : Nat) (o : Nat) (a : Nat) (b : Nat) (f : Nat → Int64)  : Ctr l g cT sz yX2_isFull wsX2_isFull rm_c_K_isFull_800 [.ref o] [(o, .inr (2, [.ref a, .ref b, .int 0])), (a, .inl (cT 1, 800, .inr (.inl f)))] (QI g (fun (r : Int32) (u : Unit) => r = 0) (fun (u : Unit) => [(o, .inr (2, [.ref a, .ref b, .int 0])), (a, .inl (cT 1, 800, .inr (.inl f)))])) 0 0 := by
  refine mk_ctr (cc := cX2_isFull) (maxL := 1) (ret := (some .boolean)) (by decide) rfl (Nat.le_of_ble_eq_true rfl) ?_
  intro p e s m args below meth c A Q hx hb hr hts hown hlocks hin hml hP hK hD hN hZ hA hS hQ ls hl
  have hl : lv_has ls 1 [(0, .ref o)] := hl
  obtain ⟨H, hH⟩ : ∃ H : Heap, H = s.heap := ⟨_, rfl⟩
  obtain ⟨locs, hlo⟩ : ∃ x : List Loc, x = [] := ⟨_, rfl⟩
  rw [← hH] at hP
  have hS : va_S A s.heap H locs := by rw [hH, hlo]; exact hS
  have hgo : W p l e rm_c_K_isFull_800 s m args below meth c H locs 0 0 Q (F0 m 0 ls []) := by
    clear hH hlo
    refine lv_aload_n hx hb dX2_isFull_0 rfl (lv_at hl 0 rfl) ?_
    refine va_get (C := RX2) (T := TX2) (N := 3) (v := .int 0) hx hb hts hi_X2_isFull_X2 hown hK hP 0 rfl rfl 2 (by decide) (hts (.fieldLink RX2 7 "BothWays$Keys" "size" "I") (by decide +kernel)) (fun _ h => h) rfl dX2_isFull_1 ?_
    refine lv_aload_n hx hb dX2_isFull_4 rfl (lv_at hl 0 rfl) ?_
    refine va_get (C := RX2) (T := TX2) (N := 3) (v := .ref a) hx hb hts hi_X2_isFull_X2 hown hK hP 0 rfl rfl 0 (by decide) (hts (.fieldLink RX2 22 "BothWays$Keys" "keys" "[J") (by decide +kernel)) (fun _ h => h) rfl dX2_isFull_5 ?_
    refine va_alen (v := 800) hx hb hK hP 1 1 rfl rfl rfl dX2_isFull_8 ?_
    refine icmp_lt_t hx hb 16 dX2_isFull_9 (by decide) (by decide) ?_
    refine lv_iconst (v := 0) hx hb dX2_isFull_16 (by decide) ?_
    exact rt_i hx hb hr hlocks hQ hP hD hS () [0, 1] dX2_isFull_17 rfl (Nat.le_of_ble_eq_true rfl) (Nat.le_of_ble_eq_true rfl) rfl (by decide) rfl
  rw [hH, hlo] at hgo
  exact hgo
abbrev rm_c_K_isFull_4000 : Room := { frames := 0, cells := 0, slots := 0, locals := 0 }
set_option maxHeartbeats 4000000 in
set_option maxRecDepth 100000 in
theorem c_K_isFull_4000 (l : Launch) (g : va_G) (cT : Nat → ClassId) (sz : Nat) (o : Nat) (a : Nat) (b : Nat) (f : Nat → Int64)  : Ctr l g cT sz yX2_isFull wsX2_isFull rm_c_K_isFull_4000 [.ref o] [(o, .inr (2, [.ref a, .ref b, .int 0])), (a, .inl (cT 1, 4000, .inr (.inl f)))] (QI g (fun (r : Int32) (u : Unit) => r = 0) (fun (u : Unit) => [(o, .inr (2, [.ref a, .ref b, .int 0])), (a, .inl (cT 1, 4000, .inr (.inl f)))])) 0 0 := by
  refine mk_ctr (cc := cX2_isFull) (maxL := 1) (ret := (some .boolean)) (by decide) rfl (Nat.le_of_ble_eq_true rfl) ?_
  intro p e s m args below meth c A Q hx hb hr hts hown hlocks hin hml hP hK hD hN hZ hA hS hQ ls hl
  have hl : lv_has ls 1 [(0, .ref o)] := hl
  obtain ⟨H, hH⟩ : ∃ H : Heap, H = s.heap := ⟨_, rfl⟩
  obtain ⟨locs, hlo⟩ : ∃ x : List Loc, x = [] := ⟨_, rfl⟩
  rw [← hH] at hP
  have hS : va_S A s.heap H locs := by rw [hH, hlo]; exact hS
  have hgo : W p l e rm_c_K_isFull_4000 s m args below meth c H locs 0 0 Q (F0 m 0 ls []) := by
    clear hH hlo
    refine lv_aload_n hx hb dX2_isFull_0 rfl (lv_at hl 0 rfl) ?_
    refine va_get (C := RX2) (T := TX2) (N := 3) (v := .int 0) hx hb hts hi_X2_isFull_X2 hown hK hP 0 rfl rfl 2 (by decide) (hts (.fieldLink RX2 7 "BothWays$Keys" "size" "I") (by decide +kernel)) (fun _ h => h) rfl dX2_isFull_1 ?_
    refine lv_aload_n hx hb dX2_isFull_4 rfl (lv_at hl 0 rfl) ?_
    refine va_get (C := RX2) (T := TX2) (N := 3) (v := .ref a) hx hb hts hi_X2_isFull_X2 hown hK hP 0 rfl rfl 0 (by decide) (hts (.fieldLink RX2 22 "BothWays$Keys" "keys" "[J") (by decide +kernel)) (fun _ h => h) rfl dX2_isFull_5 ?_
    refine va_alen (v := 4000) hx hb hK hP 1 1 rfl rfl rfl dX2_isFull_8 ?_
    refine icmp_lt_t hx hb 16 dX2_isFull_9 (by decide) (by decide) ?_
    refine lv_iconst (v := 0) hx hb dX2_isFull_16 (by decide) ?_
    exact rt_i hx hb hr hlocks hQ hP hD hS () [0, 1] dX2_isFull_17 rfl (Nat.le_of_ble_eq_true rfl) (Nat.le_of_ble_eq_true rfl) rfl (by decide) rfl
  rw [hH, hlo] at hgo
  exact hgo
theorem hi_X2_slotOf_X2 : ∀ w ∈ wsX20, w ∈ wsX2_slotOf := fun _ h => List.mem_cons_of_mem _ (List.mem_append_right _ h)
abbrev rm_c_K_slotOf_800_10485770e : Room := { frames := 0, cells := 0, slots := 0, locals := 0 }
set_option maxHeartbeats 4000000 in
set_option maxRecDepth 100000 in
theorem c_K_slotOf_800_10485770e (l : Launch) (g : va_G) (cT : Nat → ClassId) (sz : Nat) (o : Nat) (a : Nat) (b : Nat)  : Ctr l g cT sz yX2_slotOf wsX2_slotOf rm_c_K_slotOf_800_10485770e [.ref o, .long 10485770] [(o, .inr (2, [.ref a, .ref b, .int 0])), (a, .inl (cT 1, 800, .inr (.inl (fun _ => 0)))), (b, .inl (cT 0, 2048, .inl (fun _ => 0)))] (QI g (fun (r : Int32) (u : Unit) => r = 591) (fun (u : Unit) => [(o, .inr (2, [.ref a, .ref b, .int 0])), (a, .inl (cT 1, 800, .inr (.inl (fun _ => 0)))), (b, .inl (cT 0, 2048, .inl (fun _ => 0)))])) 0 0 := by
  refine mk_ctr (cc := cX2_slotOf) (maxL := 7) (ret := (some .int)) (by decide) rfl (Nat.le_of_ble_eq_true rfl) ?_
  intro p e s m args below meth c A Q hx hb hr hts hown hlocks hin hml hP hK hD hN hZ hA hS hQ ls hl
  have hl : lv_has ls 7 [(0, .ref o), (1, .long 10485770)] := hl
  obtain ⟨H, hH⟩ : ∃ H : Heap, H = s.heap := ⟨_, rfl⟩
  obtain ⟨locs, hlo⟩ : ∃ x : List Loc, x = [] := ⟨_, rfl⟩
  rw [← hH] at hP
  have hS : va_S A s.heap H locs := by rw [hH, hlo]; exact hS
  have hgo : W p l e rm_c_K_slotOf_800_10485770e s m args below meth c H locs 0 0 Q (F0 m 0 ls []) := by
    clear hH hlo
    refine lv_aload_n hx hb dX2_slotOf_0 rfl (lv_at hl 0 rfl) ?_
    refine va_get (C := RX2) (T := TX2) (N := 3) (v := .ref b) hx hb hts hi_X2_slotOf_X2 hown hK hP 0 rfl rfl 1 (by decide) (hts (.fieldLink RX2 26 "BothWays$Keys" "slots" "[I") (by decide +kernel)) (fun _ h => h) rfl dX2_slotOf_1 ?_
    refine va_alen (v := 2048) hx hb hK hP 2 0 rfl rfl rfl dX2_slotOf_4 ?_
    refine lv_iconst (v := 1) hx hb dX2_slotOf_5 (by decide) ?_
    refine w_isub (v := 2047) hx hb dX2_slotOf_6 (by decide) ?_
    refine lv_istore_n (lv' := [(3, .int 2047), (0, .ref o), (1, .long 10485770)]) hx hb dX2_slotOf_7 rfl hl (by decide) rfl (fun ls hl => ?_)
    refine lv_lload_n hx hb dX2_slotOf_8 rfl (lv_at hl 2 rfl) ?_
    refine lv_ldc2 (v := (-7046029254386353131)) hx hb hown (hts (.constantLong RX2 44 (-7046029254386353131)) (by decide +kernel)) dX2_slotOf_9 ?_
    refine w_lmul (v := 4763207295738370258) hx hb dX2_slotOf_12 (by decide) ?_
    refine lv_bipush (v := 40) hx hb dX2_slotOf_13 (by decide) ?_
    refine lv_lushr (v := 4332111) hx hb dX2_slotOf_15 (by decide) ?_
    refine lv_l2i (v := 4332111) hx hb dX2_slotOf_16 (by decide) ?_
    refine lv_iload_n hx hb dX2_slotOf_17 rfl (lv_at hl 0 rfl) ?_
    refine w_iand (v := 591) hx hb dX2_slotOf_18 (by decide) ?_
    refine lv_istore (lv' := [(4, .int 591), (3, .int 2047), (0, .ref o), (1, .long 10485770)]) hx hb dX2_slotOf_19 hl (by decide) rfl (fun ls hl => ?_)
    refine lv_iconst (v := 0) hx hb dX2_slotOf_21 (by decide) ?_
    refine lv_istore (lv' := [(5, .int 0), (4, .int 591), (3, .int 2047), (0, .ref o), (1, .long 10485770)]) hx hb dX2_slotOf_22 hl (by decide) rfl (fun ls hl => ?_)
    refine lv_iload hx hb dX2_slotOf_24 (lv_at hl 0 rfl) ?_
    refine lv_iload_n hx hb dX2_slotOf_26 rfl (lv_at hl 2 rfl) ?_
    refine icmp_ge_f hx hb dX2_slotOf_27 85 (by decide) (by decide) ?_
    refine lv_aload_n hx hb dX2_slotOf_30 rfl (lv_at hl 3 rfl) ?_
    refine va_get (C := RX2) (T := TX2) (N := 3) (v := .ref b) hx hb hts hi_X2_slotOf_X2 hown hK hP 0 rfl rfl 1 (by decide) (hts (.fieldLink RX2 26 "BothWays$Keys" "slots" "[I") (by decide +kernel)) (fun _ h => h) rfl dX2_slotOf_31 ?_
    refine lv_iload hx hb dX2_slotOf_34 (lv_at hl 1 rfl) ?_
    refine w_iald (v := 0) hx hb hK hP 2 rfl dX2_slotOf_36 (inC (by decide)) rfl ?_
    refine lv_iconst (v := 1) hx hb dX2_slotOf_37 (by decide) ?_
    refine w_isub (v := (-1)) hx hb dX2_slotOf_38 (by decide) ?_
    refine lv_istore (lv' := [(6, .int (-1)), (5, .int 0), (4, .int 591), (3, .int 2047), (0, .ref o), (1, .long 10485770)]) hx hb dX2_slotOf_39 hl (by decide) rfl (fun ls hl => ?_)
    refine lv_iload hx hb dX2_slotOf_41 (lv_at hl 0 rfl) ?_
    refine if_lt_t hx hb 68 dX2_slotOf_43 (by decide) (by decide) ?_
    refine lv_iload hx hb dX2_slotOf_68 (lv_at hl 2 rfl) ?_
    exact rt_i hx hb hr hlocks hQ hP hD hS () [0, 1, 2] dX2_slotOf_70 rfl (Nat.le_of_ble_eq_true rfl) (Nat.le_of_ble_eq_true rfl) rfl (by decide) rfl
  rw [hH, hlo] at hgo
  exact hgo
theorem hi_X2_indexWith_X2 : ∀ w ∈ wsX20, w ∈ wsX2_indexWith := fun _ h => List.mem_cons_of_mem _ (List.mem_append_right _ h)
theorem yd_X2_slotOf : yX2_slotOf.cls = RX2 ∧ yX2_slotOf.cls ≠ "java/lang/invoke/MethodHandle" ∧ yX2_slotOf.cls ≠ "java/lang/invoke/VarHandle" ∧ (parseMethodDescriptor yX2_slotOf.desc).map (fun d => d.parameters.length) = some 1 := by decide +kernel
theorem yd_X2_isFull : yX2_isFull.cls = RX2 ∧ yX2_isFull.cls ≠ "java/lang/invoke/MethodHandle" ∧ yX2_isFull.cls ≠ "java/lang/invoke/VarHandle" ∧ (parseMethodDescriptor yX2_isFull.desc).map (fun d => d.parameters.length) = some 0 := by decide +kernel
abbrev rm_c_K_indexWith_800_10485770e : Room := { frames := 1, cells := 0, slots := 0, locals := 26 }
set_option maxHeartbeats 4000000 in
set_option maxRecDepth 100000 in
theorem c_K_indexWith_800_10485770e (l : Launch) (g : va_G) (cT : Nat → ClassId) (sz : Nat) (o : Nat) (a : Nat) (b : Nat)  : Ctr l g cT sz yX2_indexWith wsX2_indexWith rm_c_K_indexWith_800_10485770e [.ref o, .long 10485770] [(o, .inr (2, [.ref a, .ref b, .int 0])), (a, .inl (cT 1, 800, .inr (.inl (fun _ => 0)))), (b, .inl (cT 0, 2048, .inl (fun _ => 0)))] (QI g (fun (r : Int32) (u : Unit) => r = 0) (fun (u : Unit) => [(o, .inr (2, [.ref a, .ref b, .int 1])), (a, .inl (cT 1, 800, .inr (.inl (vp_updL (fun _ => 0) 0 10485770)))), (b, .inl (cT 0, 2048, .inl (upd (fun _ => 0) 591 1)))])) 0 0 := by
  refine mk_ctr (cc := cX2_indexWith) (maxL := 4) (ret := (some .int)) (by decide) rfl (Nat.le_of_ble_eq_true rfl) ?_
  intro p e s m args below meth c A Q hx hb hr hts hown hlocks hin hml hP hK hD hN hZ hA hS hQ ls hl
  have hl : lv_has ls 4 [(0, .ref o), (1, .long 10485770)] := hl
  obtain ⟨H, hH⟩ : ∃ H : Heap, H = s.heap := ⟨_, rfl⟩
  obtain ⟨locs, hlo⟩ : ∃ x : List Loc, x = [] := ⟨_, rfl⟩
  rw [← hH] at hP
  have hS : va_S A s.heap H locs := by rw [hH, hlo]; exact hS
  have hgo : W p l e rm_c_K_indexWith_800_10485770e s m args below meth c H locs 0 0 Q (F0 m 0 ls []) := by
    clear hH hlo
    refine lv_aload_n hx hb dX2_indexWith_0 rfl (lv_at hl 0 rfl) ?_
    refine lv_lload_n hx hb dX2_indexWith_1 rfl (lv_at hl 1 rfl) ?_
    refine cj_i 0 0 (wr := []) (va_runV (As := [.long 10485770]) (rest := []) ⟨hx, hb, hml, hown, hts⟩ (c_K_slotOf_800_10485770e l g cT H.size o a b) (cwV 1 hts gX2_indexWith_X2_slotOf rfl rfl rfl yd_X2_slotOf ⟨(Nat.le_of_ble_eq_true rfl), (Nat.le_of_ble_eq_true rfl)⟩) (preV (wc := [(o, .inr (2, [.ref a, .ref b, .int 0])), (a, .inl (cT 1, 800, .inr (.inl (fun _ => 0)))), (b, .inl (cT 0, 2048, .inl (fun _ => 0)))]) rfl hP hD hK hN hZ hS hA [0, 1, 2] rfl (by decide) (ci := 2) (q0 := 0) rfl rfl) rfl rfl hl.1 rfl (lv_room (Nat.le_of_ble_eq_true rfl)) dX2_indexWith_2 ⟨(Nat.le_of_ble_eq_true rfl), (Nat.le_of_ble_eq_true rfl)⟩) hP hD hS hA [0, 1, 2] [] rfl rfl (by decide) (by decide) (Nat.le_of_ble_eq_true rfl) (Nat.le_of_ble_eq_true rfl) (fun r_1 u H locs h_2 hP hD hS => ?_)
    have hP : va_P g vwCl [(o, .inr (2, [.ref a, .ref b, .int 0])), (a, .inl (cT 1, 800, .inr (.inl (fun _ => 0)))), (b, .inl (cT 0, 2048, .inl (fun _ => 0)))] H := hP
    have hD : va_D A [(o, .inr (2, [.ref a, .ref b, .int 0])), (a, .inl (cT 1, 800, .inr (.inl (fun _ => 0)))), (b, .inl (cT 0, 2048, .inl (fun _ => 0)))] := hD
    subst h_2
    refine lv_istore_n (lv' := [(3, .int 591), (0, .ref o), (1, .long 10485770)]) hx hb dX2_indexWith_5 rfl hl (by decide) rfl (fun ls hl => ?_)
    refine lv_aload_n hx hb dX2_indexWith_6 rfl (lv_at hl 1 rfl) ?_
    refine va_get (C := RX2) (T := TX2) (N := 3) (v := .ref b) hx hb hts hi_X2_indexWith_X2 hown hK hP 0 rfl rfl 1 (by decide) (hts (.fieldLink RX2 26 "BothWays$Keys" "slots" "[I") (by decide +kernel)) (fun _ h => h) rfl dX2_indexWith_7 ?_
    refine lv_iload_n hx hb dX2_indexWith_10 rfl (lv_at hl 0 rfl) ?_
    refine w_iald (v := 0) hx hb hK hP 2 rfl dX2_indexWith_11 (inC (by decide)) rfl ?_
    refine if_ne_f hx hb dX2_indexWith_12 52 (by decide) (by decide) ?_
    refine lv_aload_n hx hb dX2_indexWith_15 rfl (lv_at hl 1 rfl) ?_
    refine cj_i 0 0 (wr := [(b, .inl (cT 0, 2048, .inl (fun _ => 0)))]) (va_runV (As := []) (rest := []) ⟨hx, hb, hml, hown, hts⟩ (c_K_isFull_800 l g cT H.size o a b (fun _ => 0)) (cwV 0 hts gX2_indexWith_X2_isFull rfl rfl rfl yd_X2_isFull ⟨(Nat.le_of_ble_eq_true rfl), (Nat.le_of_ble_eq_true rfl)⟩) (preV (wc := [(o, .inr (2, [.ref a, .ref b, .int 0])), (a, .inl (cT 1, 800, .inr (.inl (fun _ => 0))))]) rfl hP hD hK hN hZ hS hA [0, 1] rfl (by decide) (ci := 2) (q0 := 0) rfl rfl) rfl rfl hl.1 rfl (lv_room (Nat.le_of_ble_eq_true rfl)) dX2_indexWith_16 ⟨(Nat.le_of_ble_eq_true rfl), (Nat.le_of_ble_eq_true rfl)⟩) hP hD hS hA [0, 1] [2] rfl rfl (by decide) (by decide) (Nat.le_of_ble_eq_true rfl) (Nat.le_of_ble_eq_true rfl) (fun r_3 u H locs h_4 hP hD hS => ?_)
    have hP : va_P g vwCl [(b, .inl (cT 0, 2048, .inl (fun _ => 0))), (o, .inr (2, [.ref a, .ref b, .int 0])), (a, .inl (cT 1, 800, .inr (.inl (fun _ => 0))))] H := hP
    have hD : va_D A [(b, .inl (cT 0, 2048, .inl (fun _ => 0))), (o, .inr (2, [.ref a, .ref b, .int 0])), (a, .inl (cT 1, 800, .inr (.inl (fun _ => 0))))] := hD
    subst h_4
    refine if_ne_f hx hb dX2_indexWith_19 52 (by decide) (by decide) ?_
    refine lv_aload_n hx hb dX2_indexWith_22 rfl (lv_at hl 1 rfl) ?_
    refine va_get (C := RX2) (T := TX2) (N := 3) (v := .ref a) hx hb hts hi_X2_indexWith_X2 hown hK hP 1 rfl rfl 0 (by decide) (hts (.fieldLink RX2 22 "BothWays$Keys" "keys" "[J") (by decide +kernel)) (fun _ h => h) rfl dX2_indexWith_23 ?_
    refine lv_aload_n hx hb dX2_indexWith_26 rfl (lv_at hl 1 rfl) ?_
    refine va_get (C := RX2) (T := TX2) (N := 3) (v := .int 0) hx hb hts hi_X2_indexWith_X2 hown hK hP 1 rfl rfl 2 (by decide) (hts (.fieldLink RX2 7 "BothWays$Keys" "size" "I") (by decide +kernel)) (fun _ h => h) rfl dX2_indexWith_27 ?_
    refine lv_lload_n hx hb dX2_indexWith_30 rfl (lv_at hl 2 rfl) ?_
    refine w_last (f' := (vp_updL (fun _ => 0) 0 10485770)) hx hb hK hP hD hS 2 rfl dX2_indexWith_31 (inC (by decide)) rfl (fun H locs hP hD hS => ?_)
    have hP : va_P g vwCl [(b, .inl (cT 0, 2048, .inl (fun _ => 0))), (o, .inr (2, [.ref a, .ref b, .int 0])), (a, .inl (cT 1, 800, .inr (.inl (vp_updL (fun _ => 0) 0 10485770))))] H := hP
    have hD : va_D A [(b, .inl (cT 0, 2048, .inl (fun _ => 0))), (o, .inr (2, [.ref a, .ref b, .int 0])), (a, .inl (cT 1, 800, .inr (.inl (vp_updL (fun _ => 0) 0 10485770))))] := hD
    refine lv_aload_n hx hb dX2_indexWith_32 rfl (lv_at hl 1 rfl) ?_
    refine lv_dup hx hb dX2_indexWith_33 rfl ?_
    refine va_get (C := RX2) (T := TX2) (N := 3) (v := .int 0) hx hb hts hi_X2_indexWith_X2 hown hK hP 1 rfl rfl 2 (by decide) (hts (.fieldLink RX2 7 "BothWays$Keys" "size" "I") (by decide +kernel)) (fun _ h => h) rfl dX2_indexWith_34 ?_
    refine lv_iconst (v := 1) hx hb dX2_indexWith_37 (by decide) ?_
    refine w_iadd (v := 1) hx hb dX2_indexWith_38 (by decide) ?_
    refine va_put (C := RX2) (T := TX2) (N := 3) (v := .int 1) (ty := .int) hx hb hts hi_X2_indexWith_X2 tyX2 tyX2_ok nmX2 hown hK hP hD hS 1 rfl rfl 2 (by decide) (hts (.fieldLink RX2 7 "BothWays$Keys" "size" "I") (by decide +kernel)) (fun _ h => h) rfl (by decide +kernel) rfl rfl (Nat.le_of_ble_eq_true rfl) dX2_indexWith_39 (fun H locs hP hD hS => ?_)
    have hP : va_P g vwCl [(b, .inl (cT 0, 2048, .inl (fun _ => 0))), (o, .inr (2, [.ref a, .ref b, .int 1])), (a, .inl (cT 1, 800, .inr (.inl (vp_updL (fun _ => 0) 0 10485770))))] H := hP
    have hD : va_D A [(b, .inl (cT 0, 2048, .inl (fun _ => 0))), (o, .inr (2, [.ref a, .ref b, .int 1])), (a, .inl (cT 1, 800, .inr (.inl (vp_updL (fun _ => 0) 0 10485770))))] := hD
    refine lv_aload_n hx hb dX2_indexWith_42 rfl (lv_at hl 1 rfl) ?_
    refine va_get (C := RX2) (T := TX2) (N := 3) (v := .ref b) hx hb hts hi_X2_indexWith_X2 hown hK hP 1 rfl rfl 1 (by decide) (hts (.fieldLink RX2 26 "BothWays$Keys" "slots" "[I") (by decide +kernel)) (fun _ h => h) rfl dX2_indexWith_43 ?_
    refine lv_iload_n hx hb dX2_indexWith_46 rfl (lv_at hl 0 rfl) ?_
    refine lv_aload_n hx hb dX2_indexWith_47 rfl (lv_at hl 1 rfl) ?_
    refine va_get (C := RX2) (T := TX2) (N := 3) (v := .int 1) hx hb hts hi_X2_indexWith_X2 hown hK hP 1 rfl rfl 2 (by decide) (hts (.fieldLink RX2 7 "BothWays$Keys" "size" "I") (by decide +kernel)) (fun _ h => h) rfl dX2_indexWith_48 ?_
    refine w_iast (f' := (upd (fun _ => 0) 591 1)) hx hb hK hP hD hS 0 rfl dX2_indexWith_51 (inC (by decide)) rfl (fun H locs hP hD hS => ?_)
    have hP : va_P g vwCl [(b, .inl (cT 0, 2048, .inl (upd (fun _ => 0) 591 1))), (o, .inr (2, [.ref a, .ref b, .int 1])), (a, .inl (cT 1, 800, .inr (.inl (vp_updL (fun _ => 0) 0 10485770))))] H := hP
    have hD : va_D A [(b, .inl (cT 0, 2048, .inl (upd (fun _ => 0) 591 1))), (o, .inr (2, [.ref a, .ref b, .int 1])), (a, .inl (cT 1, 800, .inr (.inl (vp_updL (fun _ => 0) 0 10485770))))] := hD
    refine lv_aload_n hx hb dX2_indexWith_52 rfl (lv_at hl 1 rfl) ?_
    refine va_get (C := RX2) (T := TX2) (N := 3) (v := .ref b) hx hb hts hi_X2_indexWith_X2 hown hK hP 1 rfl rfl 1 (by decide) (hts (.fieldLink RX2 26 "BothWays$Keys" "slots" "[I") (by decide +kernel)) (fun _ h => h) rfl dX2_indexWith_53 ?_
    refine lv_iload_n hx hb dX2_indexWith_56 rfl (lv_at hl 0 rfl) ?_
    refine w_iald (v := 1) hx hb hK hP 0 rfl dX2_indexWith_57 (inC (by decide)) (by decide) ?_
    refine lv_iconst (v := 1) hx hb dX2_indexWith_58 (by decide) ?_
    refine w_isub (v := 0) hx hb dX2_indexWith_59 (by decide) ?_
    exact rt_i hx hb hr hlocks hQ hP hD hS () [1, 2, 0] dX2_indexWith_60 rfl (Nat.le_of_ble_eq_true rfl) (Nat.le_of_ble_eq_true rfl) rfl (by decide) rfl
  rw [hH, hlo] at hgo
  exact hgo
abbrev rm_c_K_slotOf_800_10485770p : Room := { frames := 0, cells := 0, slots := 0, locals := 0 }
set_option maxHeartbeats 4000000 in
set_option maxRecDepth 100000 in
theorem c_K_slotOf_800_10485770p (l : Launch) (g : va_G) (cT : Nat → ClassId) (sz : Nat) (o : Nat) (a : Nat) (b : Nat)  : Ctr l g cT sz yX2_slotOf wsX2_slotOf rm_c_K_slotOf_800_10485770p [.ref o, .long 10485770] [(o, .inr (2, [.ref a, .ref b, .int 1])), (a, .inl (cT 1, 800, .inr (.inl (vp_updL (fun _ => 0) 0 10485770)))), (b, .inl (cT 0, 2048, .inl (upd (fun _ => 0) 591 1)))] (QI g (fun (r : Int32) (u : Unit) => r = 591) (fun (u : Unit) => [(o, .inr (2, [.ref a, .ref b, .int 1])), (a, .inl (cT 1, 800, .inr (.inl (vp_updL (fun _ => 0) 0 10485770)))), (b, .inl (cT 0, 2048, .inl (upd (fun _ => 0) 591 1)))])) 0 0 := by
  refine mk_ctr (cc := cX2_slotOf) (maxL := 7) (ret := (some .int)) (by decide) rfl (Nat.le_of_ble_eq_true rfl) ?_
  intro p e s m args below meth c A Q hx hb hr hts hown hlocks hin hml hP hK hD hN hZ hA hS hQ ls hl
  have hl : lv_has ls 7 [(0, .ref o), (1, .long 10485770)] := hl
  obtain ⟨H, hH⟩ : ∃ H : Heap, H = s.heap := ⟨_, rfl⟩
  obtain ⟨locs, hlo⟩ : ∃ x : List Loc, x = [] := ⟨_, rfl⟩
  rw [← hH] at hP
  have hS : va_S A s.heap H locs := by rw [hH, hlo]; exact hS
  have hgo : W p l e rm_c_K_slotOf_800_10485770p s m args below meth c H locs 0 0 Q (F0 m 0 ls []) := by
    clear hH hlo
    refine lv_aload_n hx hb dX2_slotOf_0 rfl (lv_at hl 0 rfl) ?_
    refine va_get (C := RX2) (T := TX2) (N := 3) (v := .ref b) hx hb hts hi_X2_slotOf_X2 hown hK hP 0 rfl rfl 1 (by decide) (hts (.fieldLink RX2 26 "BothWays$Keys" "slots" "[I") (by decide +kernel)) (fun _ h => h) rfl dX2_slotOf_1 ?_
    refine va_alen (v := 2048) hx hb hK hP 2 0 rfl rfl rfl dX2_slotOf_4 ?_
    refine lv_iconst (v := 1) hx hb dX2_slotOf_5 (by decide) ?_
    refine w_isub (v := 2047) hx hb dX2_slotOf_6 (by decide) ?_
    refine lv_istore_n (lv' := [(3, .int 2047), (0, .ref o), (1, .long 10485770)]) hx hb dX2_slotOf_7 rfl hl (by decide) rfl (fun ls hl => ?_)
    refine lv_lload_n hx hb dX2_slotOf_8 rfl (lv_at hl 2 rfl) ?_
    refine lv_ldc2 (v := (-7046029254386353131)) hx hb hown (hts (.constantLong RX2 44 (-7046029254386353131)) (by decide +kernel)) dX2_slotOf_9 ?_
    refine w_lmul (v := 4763207295738370258) hx hb dX2_slotOf_12 (by decide) ?_
    refine lv_bipush (v := 40) hx hb dX2_slotOf_13 (by decide) ?_
    refine lv_lushr (v := 4332111) hx hb dX2_slotOf_15 (by decide) ?_
    refine lv_l2i (v := 4332111) hx hb dX2_slotOf_16 (by decide) ?_
    refine lv_iload_n hx hb dX2_slotOf_17 rfl (lv_at hl 0 rfl) ?_
    refine w_iand (v := 591) hx hb dX2_slotOf_18 (by decide) ?_
    refine lv_istore (lv' := [(4, .int 591), (3, .int 2047), (0, .ref o), (1, .long 10485770)]) hx hb dX2_slotOf_19 hl (by decide) rfl (fun ls hl => ?_)
    refine lv_iconst (v := 0) hx hb dX2_slotOf_21 (by decide) ?_
    refine lv_istore (lv' := [(5, .int 0), (4, .int 591), (3, .int 2047), (0, .ref o), (1, .long 10485770)]) hx hb dX2_slotOf_22 hl (by decide) rfl (fun ls hl => ?_)
    refine lv_iload hx hb dX2_slotOf_24 (lv_at hl 0 rfl) ?_
    refine lv_iload_n hx hb dX2_slotOf_26 rfl (lv_at hl 2 rfl) ?_
    refine icmp_ge_f hx hb dX2_slotOf_27 85 (by decide) (by decide) ?_
    refine lv_aload_n hx hb dX2_slotOf_30 rfl (lv_at hl 3 rfl) ?_
    refine va_get (C := RX2) (T := TX2) (N := 3) (v := .ref b) hx hb hts hi_X2_slotOf_X2 hown hK hP 0 rfl rfl 1 (by decide) (hts (.fieldLink RX2 26 "BothWays$Keys" "slots" "[I") (by decide +kernel)) (fun _ h => h) rfl dX2_slotOf_31 ?_
    refine lv_iload hx hb dX2_slotOf_34 (lv_at hl 1 rfl) ?_
    refine w_iald (v := 1) hx hb hK hP 2 rfl dX2_slotOf_36 (inC (by decide)) (by decide) ?_
    refine lv_iconst (v := 1) hx hb dX2_slotOf_37 (by decide) ?_
    refine w_isub (v := 0) hx hb dX2_slotOf_38 (by decide) ?_
    refine lv_istore (lv' := [(6, .int 0), (5, .int 0), (4, .int 591), (3, .int 2047), (0, .ref o), (1, .long 10485770)]) hx hb dX2_slotOf_39 hl (by decide) rfl (fun ls hl => ?_)
    refine lv_iload hx hb dX2_slotOf_41 (lv_at hl 0 rfl) ?_
    refine if_lt_f hx hb dX2_slotOf_43 68 (by decide) (by decide) ?_
    refine lv_iload hx hb dX2_slotOf_46 (lv_at hl 0 rfl) ?_
    refine lv_aload_n hx hb dX2_slotOf_48 rfl (lv_at hl 4 rfl) ?_
    refine va_get (C := RX2) (T := TX2) (N := 3) (v := .ref a) hx hb hts hi_X2_slotOf_X2 hown hK hP 0 rfl rfl 0 (by decide) (hts (.fieldLink RX2 22 "BothWays$Keys" "keys" "[J") (by decide +kernel)) (fun _ h => h) rfl dX2_slotOf_49 ?_
    refine va_alen (v := 800) hx hb hK hP 1 1 rfl rfl rfl dX2_slotOf_52 ?_
    refine icmp_ge_f hx hb dX2_slotOf_53 68 (by decide) (by decide) ?_
    refine lv_aload_n hx hb dX2_slotOf_56 rfl (lv_at hl 4 rfl) ?_
    refine va_get (C := RX2) (T := TX2) (N := 3) (v := .ref a) hx hb hts hi_X2_slotOf_X2 hown hK hP 0 rfl rfl 0 (by decide) (hts (.fieldLink RX2 22 "BothWays$Keys" "keys" "[J") (by decide +kernel)) (fun _ h => h) rfl dX2_slotOf_57 ?_
    refine lv_iload hx hb dX2_slotOf_60 (lv_at hl 0 rfl) ?_
    refine w_lald (v := 10485770) hx hb hK hP 1 rfl dX2_slotOf_62 (inC (by decide)) (by decide) ?_
    refine lv_lload_n hx hb dX2_slotOf_63 rfl (lv_at hl 5 rfl) ?_
    refine w_lcmp (v := 0) hx hb dX2_slotOf_64 (by decide) ?_
    refine if_ne_f hx hb dX2_slotOf_65 71 (by decide) (by decide) ?_
    refine lv_iload hx hb dX2_slotOf_68 (lv_at hl 2 rfl) ?_
    exact rt_i hx hb hr hlocks hQ hP hD hS () [0, 1, 2] dX2_slotOf_70 rfl (Nat.le_of_ble_eq_true rfl) (Nat.le_of_ble_eq_true rfl) rfl (by decide) rfl
  rw [hH, hlo] at hgo
  exact hgo
abbrev rm_c_K_indexWith_800_10485770p : Room := { frames := 1, cells := 0, slots := 0, locals := 26 }
set_option maxHeartbeats 4000000 in
set_option maxRecDepth 100000 in
theorem c_K_indexWith_800_10485770p (l : Launch) (g : va_G) (cT : Nat → ClassId) (sz : Nat) (o : Nat) (a : Nat) (b : Nat)  : Ctr l g cT sz yX2_indexWith wsX2_indexWith rm_c_K_indexWith_800_10485770p [.ref o, .long 10485770] [(o, .inr (2, [.ref a, .ref b, .int 1])), (a, .inl (cT 1, 800, .inr (.inl (vp_updL (fun _ => 0) 0 10485770)))), (b, .inl (cT 0, 2048, .inl (upd (fun _ => 0) 591 1)))] (QI g (fun (r : Int32) (u : Unit) => r = 0) (fun (u : Unit) => [(o, .inr (2, [.ref a, .ref b, .int 1])), (a, .inl (cT 1, 800, .inr (.inl (vp_updL (fun _ => 0) 0 10485770)))), (b, .inl (cT 0, 2048, .inl (upd (fun _ => 0) 591 1)))])) 0 0 := by
  refine mk_ctr (cc := cX2_indexWith) (maxL := 4) (ret := (some .int)) (by decide) rfl (Nat.le_of_ble_eq_true rfl) ?_
  intro p e s m args below meth c A Q hx hb hr hts hown hlocks hin hml hP hK hD hN hZ hA hS hQ ls hl
  have hl : lv_has ls 4 [(0, .ref o), (1, .long 10485770)] := hl
  obtain ⟨H, hH⟩ : ∃ H : Heap, H = s.heap := ⟨_, rfl⟩
  obtain ⟨locs, hlo⟩ : ∃ x : List Loc, x = [] := ⟨_, rfl⟩
  rw [← hH] at hP
  have hS : va_S A s.heap H locs := by rw [hH, hlo]; exact hS
  have hgo : W p l e rm_c_K_indexWith_800_10485770p s m args below meth c H locs 0 0 Q (F0 m 0 ls []) := by
    clear hH hlo
    refine lv_aload_n hx hb dX2_indexWith_0 rfl (lv_at hl 0 rfl) ?_
    refine lv_lload_n hx hb dX2_indexWith_1 rfl (lv_at hl 1 rfl) ?_
    refine cj_i 0 0 (wr := []) (va_runV (As := [.long 10485770]) (rest := []) ⟨hx, hb, hml, hown, hts⟩ (c_K_slotOf_800_10485770p l g cT H.size o a b) (cwV 1 hts gX2_indexWith_X2_slotOf rfl rfl rfl yd_X2_slotOf ⟨(Nat.le_of_ble_eq_true rfl), (Nat.le_of_ble_eq_true rfl)⟩) (preV (wc := [(o, .inr (2, [.ref a, .ref b, .int 1])), (a, .inl (cT 1, 800, .inr (.inl (vp_updL (fun _ => 0) 0 10485770)))), (b, .inl (cT 0, 2048, .inl (upd (fun _ => 0) 591 1)))]) rfl hP hD hK hN hZ hS hA [0, 1, 2] rfl (by decide) (ci := 2) (q0 := 0) rfl rfl) rfl rfl hl.1 rfl (lv_room (Nat.le_of_ble_eq_true rfl)) dX2_indexWith_2 ⟨(Nat.le_of_ble_eq_true rfl), (Nat.le_of_ble_eq_true rfl)⟩) hP hD hS hA [0, 1, 2] [] rfl rfl (by decide) (by decide) (Nat.le_of_ble_eq_true rfl) (Nat.le_of_ble_eq_true rfl) (fun r_1 u H locs h_2 hP hD hS => ?_)
    have hP : va_P g vwCl [(o, .inr (2, [.ref a, .ref b, .int 1])), (a, .inl (cT 1, 800, .inr (.inl (vp_updL (fun _ => 0) 0 10485770)))), (b, .inl (cT 0, 2048, .inl (upd (fun _ => 0) 591 1)))] H := hP
    have hD : va_D A [(o, .inr (2, [.ref a, .ref b, .int 1])), (a, .inl (cT 1, 800, .inr (.inl (vp_updL (fun _ => 0) 0 10485770)))), (b, .inl (cT 0, 2048, .inl (upd (fun _ => 0) 591 1)))] := hD
    subst h_2
    refine lv_istore_n (lv' := [(3, .int 591), (0, .ref o), (1, .long 10485770)]) hx hb dX2_indexWith_5 rfl hl (by decide) rfl (fun ls hl => ?_)
    refine lv_aload_n hx hb dX2_indexWith_6 rfl (lv_at hl 1 rfl) ?_
    refine va_get (C := RX2) (T := TX2) (N := 3) (v := .ref b) hx hb hts hi_X2_indexWith_X2 hown hK hP 0 rfl rfl 1 (by decide) (hts (.fieldLink RX2 26 "BothWays$Keys" "slots" "[I") (by decide +kernel)) (fun _ h => h) rfl dX2_indexWith_7 ?_
    refine lv_iload_n hx hb dX2_indexWith_10 rfl (lv_at hl 0 rfl) ?_
    refine w_iald (v := 1) hx hb hK hP 2 rfl dX2_indexWith_11 (inC (by decide)) (by decide) ?_
    refine if_ne_t hx hb 52 dX2_indexWith_12 (by decide) (by decide) ?_
    refine lv_aload_n hx hb dX2_indexWith_52 rfl (lv_at hl 1 rfl) ?_
    refine va_get (C := RX2) (T := TX2) (N := 3) (v := .ref b) hx hb hts hi_X2_indexWith_X2 hown hK hP 0 rfl rfl 1 (by decide) (hts (.fieldLink RX2 26 "BothWays$Keys" "slots" "[I") (by decide +kernel)) (fun _ h => h) rfl dX2_indexWith_53 ?_
    refine lv_iload_n hx hb dX2_indexWith_56 rfl (lv_at hl 0 rfl) ?_
    refine w_iald (v := 1) hx hb hK hP 2 rfl dX2_indexWith_57 (inC (by decide)) (by decide) ?_
    refine lv_iconst (v := 1) hx hb dX2_indexWith_58 (by decide) ?_
    refine w_isub (v := 0) hx hb dX2_indexWith_59 (by decide) ?_
    exact rt_i hx hb hr hlocks hQ hP hD hS () [0, 1, 2] dX2_indexWith_60 rfl (Nat.le_of_ble_eq_true rfl) (Nat.le_of_ble_eq_true rfl) rfl (by decide) rfl
  rw [hH, hlo] at hgo
  exact hgo
theorem hi_X2_keyAt_X2 : ∀ w ∈ wsX20, w ∈ wsX2_keyAt := fun _ h => List.mem_cons_of_mem _ (List.mem_append_right _ h)
abbrev rm_c_K_keyAt_800_10485770 : Room := { frames := 0, cells := 0, slots := 0, locals := 0 }
set_option maxHeartbeats 4000000 in
set_option maxRecDepth 100000 in
theorem c_K_keyAt_800_10485770 (l : Launch) (g : va_G) (cT : Nat → ClassId) (sz : Nat) (o : Nat) (a : Nat) (b : Nat)  : Ctr l g cT sz yX2_keyAt wsX2_keyAt rm_c_K_keyAt_800_10485770 [.ref o, .int 0] [(o, .inr (2, [.ref a, .ref b, .int 1])), (a, .inl (cT 1, 800, .inr (.inl (vp_updL (fun _ => 0) 0 10485770))))] (QL g (fun (r : Int64) (u : Unit) => r = 10485770) (fun (u : Unit) => [(o, .inr (2, [.ref a, .ref b, .int 1])), (a, .inl (cT 1, 800, .inr (.inl (vp_updL (fun _ => 0) 0 10485770))))])) 0 0 := by
  refine mk_ctr (cc := cX2_keyAt) (maxL := 2) (ret := (some .long)) (by decide) rfl (Nat.le_of_ble_eq_true rfl) ?_
  intro p e s m args below meth c A Q hx hb hr hts hown hlocks hin hml hP hK hD hN hZ hA hS hQ ls hl
  have hl : lv_has ls 2 [(0, .ref o), (1, .int 0)] := hl
  obtain ⟨H, hH⟩ : ∃ H : Heap, H = s.heap := ⟨_, rfl⟩
  obtain ⟨locs, hlo⟩ : ∃ x : List Loc, x = [] := ⟨_, rfl⟩
  rw [← hH] at hP
  have hS : va_S A s.heap H locs := by rw [hH, hlo]; exact hS
  have hgo : W p l e rm_c_K_keyAt_800_10485770 s m args below meth c H locs 0 0 Q (F0 m 0 ls []) := by
    clear hH hlo
    refine lv_iload_n hx hb dX2_keyAt_0 rfl (lv_at hl 1 rfl) ?_
    refine if_lt_f hx hb dX2_keyAt_1 21 (by decide) (by decide) ?_
    refine lv_iload_n hx hb dX2_keyAt_4 rfl (lv_at hl 1 rfl) ?_
    refine lv_aload_n hx hb dX2_keyAt_5 rfl (lv_at hl 0 rfl) ?_
    refine va_get (C := RX2) (T := TX2) (N := 3) (v := .int 1) hx hb hts hi_X2_keyAt_X2 hown hK hP 0 rfl rfl 2 (by decide) (hts (.fieldLink RX2 7 "BothWays$Keys" "size" "I") (by decide +kernel)) (fun _ h => h) rfl dX2_keyAt_6 ?_
    refine icmp_ge_f hx hb dX2_keyAt_9 21 (by decide) (by decide) ?_
    refine lv_aload_n hx hb dX2_keyAt_12 rfl (lv_at hl 0 rfl) ?_
    refine va_get (C := RX2) (T := TX2) (N := 3) (v := .ref a) hx hb hts hi_X2_keyAt_X2 hown hK hP 0 rfl rfl 0 (by decide) (hts (.fieldLink RX2 22 "BothWays$Keys" "keys" "[J") (by decide +kernel)) (fun _ h => h) rfl dX2_keyAt_13 ?_
    refine lv_iload_n hx hb dX2_keyAt_16 rfl (lv_at hl 1 rfl) ?_
    refine w_lald (v := 10485770) hx hb hK hP 1 rfl dX2_keyAt_17 (inC (by decide)) (by decide) ?_
    refine lv_goto (tgt := 22) hx hb dX2_keyAt_18 (by decide) ?_
    exact rt_l hx hb hr hlocks hQ hP hD hS () [0, 1] dX2_keyAt_22 (Nat.le_of_ble_eq_true rfl) (Nat.le_of_ble_eq_true rfl) rfl (by decide) rfl
  rw [hH, hlo] at hgo
  exact hgo
abbrev rm_c_K_slotOf_800_45e : Room := { frames := 0, cells := 0, slots := 0, locals := 0 }
set_option maxHeartbeats 4000000 in
set_option maxRecDepth 100000 in
theorem c_K_slotOf_800_45e (l : Launch) (g : va_G) (cT : Nat → ClassId) (sz : Nat) (o : Nat) (a : Nat) (b : Nat)  : Ctr l g cT sz yX2_slotOf wsX2_slotOf rm_c_K_slotOf_800_45e [.ref o, .long 45] [(o, .inr (2, [.ref a, .ref b, .int 0])), (a, .inl (cT 1, 800, .inr (.inl (fun _ => 0)))), (b, .inl (cT 0, 2048, .inl (fun _ => 0)))] (QI g (fun (r : Int32) (u : Unit) => r = 101) (fun (u : Unit) => [(o, .inr (2, [.ref a, .ref b, .int 0])), (a, .inl (cT 1, 800, .inr (.inl (fun _ => 0)))), (b, .inl (cT 0, 2048, .inl (fun _ => 0)))])) 0 0 := by
  refine mk_ctr (cc := cX2_slotOf) (maxL := 7) (ret := (some .int)) (by decide) rfl (Nat.le_of_ble_eq_true rfl) ?_
  intro p e s m args below meth c A Q hx hb hr hts hown hlocks hin hml hP hK hD hN hZ hA hS hQ ls hl
  have hl : lv_has ls 7 [(0, .ref o), (1, .long 45)] := hl
  obtain ⟨H, hH⟩ : ∃ H : Heap, H = s.heap := ⟨_, rfl⟩
  obtain ⟨locs, hlo⟩ : ∃ x : List Loc, x = [] := ⟨_, rfl⟩
  rw [← hH] at hP
  have hS : va_S A s.heap H locs := by rw [hH, hlo]; exact hS
  have hgo : W p l e rm_c_K_slotOf_800_45e s m args below meth c H locs 0 0 Q (F0 m 0 ls []) := by
    clear hH hlo
    refine lv_aload_n hx hb dX2_slotOf_0 rfl (lv_at hl 0 rfl) ?_
    refine va_get (C := RX2) (T := TX2) (N := 3) (v := .ref b) hx hb hts hi_X2_slotOf_X2 hown hK hP 0 rfl rfl 1 (by decide) (hts (.fieldLink RX2 26 "BothWays$Keys" "slots" "[I") (by decide +kernel)) (fun _ h => h) rfl dX2_slotOf_1 ?_
    refine va_alen (v := 2048) hx hb hK hP 2 0 rfl rfl rfl dX2_slotOf_4 ?_
    refine lv_iconst (v := 1) hx hb dX2_slotOf_5 (by decide) ?_
    refine w_isub (v := 2047) hx hb dX2_slotOf_6 (by decide) ?_
    refine lv_istore_n (lv' := [(3, .int 2047), (0, .ref o), (1, .long 45)]) hx hb dX2_slotOf_7 rfl hl (by decide) rfl (fun ls hl => ?_)
    refine lv_lload_n hx hb dX2_slotOf_8 rfl (lv_at hl 2 rfl) ?_
    refine lv_ldc2 (v := (-7046029254386353131)) hx hb hown (hts (.constantLong RX2 44 (-7046029254386353131)) (by decide +kernel)) dX2_slotOf_9 ?_
    refine w_lmul (v := (-3476667194323513423)) hx hb dX2_slotOf_12 (by decide) ?_
    refine lv_bipush (v := 40) hx hb dX2_slotOf_13 (by decide) ?_
    refine lv_lushr (v := 13615205) hx hb dX2_slotOf_15 (by decide) ?_
    refine lv_l2i (v := 13615205) hx hb dX2_slotOf_16 (by decide) ?_
    refine lv_iload_n hx hb dX2_slotOf_17 rfl (lv_at hl 0 rfl) ?_
    refine w_iand (v := 101) hx hb dX2_slotOf_18 (by decide) ?_
    refine lv_istore (lv' := [(4, .int 101), (3, .int 2047), (0, .ref o), (1, .long 45)]) hx hb dX2_slotOf_19 hl (by decide) rfl (fun ls hl => ?_)
    refine lv_iconst (v := 0) hx hb dX2_slotOf_21 (by decide) ?_
    refine lv_istore (lv' := [(5, .int 0), (4, .int 101), (3, .int 2047), (0, .ref o), (1, .long 45)]) hx hb dX2_slotOf_22 hl (by decide) rfl (fun ls hl => ?_)
    refine lv_iload hx hb dX2_slotOf_24 (lv_at hl 0 rfl) ?_
    refine lv_iload_n hx hb dX2_slotOf_26 rfl (lv_at hl 2 rfl) ?_
    refine icmp_ge_f hx hb dX2_slotOf_27 85 (by decide) (by decide) ?_
    refine lv_aload_n hx hb dX2_slotOf_30 rfl (lv_at hl 3 rfl) ?_
    refine va_get (C := RX2) (T := TX2) (N := 3) (v := .ref b) hx hb hts hi_X2_slotOf_X2 hown hK hP 0 rfl rfl 1 (by decide) (hts (.fieldLink RX2 26 "BothWays$Keys" "slots" "[I") (by decide +kernel)) (fun _ h => h) rfl dX2_slotOf_31 ?_
    refine lv_iload hx hb dX2_slotOf_34 (lv_at hl 1 rfl) ?_
    refine w_iald (v := 0) hx hb hK hP 2 rfl dX2_slotOf_36 (inC (by decide)) rfl ?_
    refine lv_iconst (v := 1) hx hb dX2_slotOf_37 (by decide) ?_
    refine w_isub (v := (-1)) hx hb dX2_slotOf_38 (by decide) ?_
    refine lv_istore (lv' := [(6, .int (-1)), (5, .int 0), (4, .int 101), (3, .int 2047), (0, .ref o), (1, .long 45)]) hx hb dX2_slotOf_39 hl (by decide) rfl (fun ls hl => ?_)
    refine lv_iload hx hb dX2_slotOf_41 (lv_at hl 0 rfl) ?_
    refine if_lt_t hx hb 68 dX2_slotOf_43 (by decide) (by decide) ?_
    refine lv_iload hx hb dX2_slotOf_68 (lv_at hl 2 rfl) ?_
    exact rt_i hx hb hr hlocks hQ hP hD hS () [0, 1, 2] dX2_slotOf_70 rfl (Nat.le_of_ble_eq_true rfl) (Nat.le_of_ble_eq_true rfl) rfl (by decide) rfl
  rw [hH, hlo] at hgo
  exact hgo
abbrev rm_c_K_indexWith_800_45e : Room := { frames := 1, cells := 0, slots := 0, locals := 26 }
set_option maxHeartbeats 4000000 in
set_option maxRecDepth 100000 in
theorem c_K_indexWith_800_45e (l : Launch) (g : va_G) (cT : Nat → ClassId) (sz : Nat) (o : Nat) (a : Nat) (b : Nat)  : Ctr l g cT sz yX2_indexWith wsX2_indexWith rm_c_K_indexWith_800_45e [.ref o, .long 45] [(o, .inr (2, [.ref a, .ref b, .int 0])), (a, .inl (cT 1, 800, .inr (.inl (fun _ => 0)))), (b, .inl (cT 0, 2048, .inl (fun _ => 0)))] (QI g (fun (r : Int32) (u : Unit) => r = 0) (fun (u : Unit) => [(o, .inr (2, [.ref a, .ref b, .int 1])), (a, .inl (cT 1, 800, .inr (.inl (vp_updL (fun _ => 0) 0 45)))), (b, .inl (cT 0, 2048, .inl (upd (fun _ => 0) 101 1)))])) 0 0 := by
  refine mk_ctr (cc := cX2_indexWith) (maxL := 4) (ret := (some .int)) (by decide) rfl (Nat.le_of_ble_eq_true rfl) ?_
  intro p e s m args below meth c A Q hx hb hr hts hown hlocks hin hml hP hK hD hN hZ hA hS hQ ls hl
  have hl : lv_has ls 4 [(0, .ref o), (1, .long 45)] := hl
  obtain ⟨H, hH⟩ : ∃ H : Heap, H = s.heap := ⟨_, rfl⟩
  obtain ⟨locs, hlo⟩ : ∃ x : List Loc, x = [] := ⟨_, rfl⟩
  rw [← hH] at hP
  have hS : va_S A s.heap H locs := by rw [hH, hlo]; exact hS
  have hgo : W p l e rm_c_K_indexWith_800_45e s m args below meth c H locs 0 0 Q (F0 m 0 ls []) := by
    clear hH hlo
    refine lv_aload_n hx hb dX2_indexWith_0 rfl (lv_at hl 0 rfl) ?_
    refine lv_lload_n hx hb dX2_indexWith_1 rfl (lv_at hl 1 rfl) ?_
    refine cj_i 0 0 (wr := []) (va_runV (As := [.long 45]) (rest := []) ⟨hx, hb, hml, hown, hts⟩ (c_K_slotOf_800_45e l g cT H.size o a b) (cwV 1 hts gX2_indexWith_X2_slotOf rfl rfl rfl yd_X2_slotOf ⟨(Nat.le_of_ble_eq_true rfl), (Nat.le_of_ble_eq_true rfl)⟩) (preV (wc := [(o, .inr (2, [.ref a, .ref b, .int 0])), (a, .inl (cT 1, 800, .inr (.inl (fun _ => 0)))), (b, .inl (cT 0, 2048, .inl (fun _ => 0)))]) rfl hP hD hK hN hZ hS hA [0, 1, 2] rfl (by decide) (ci := 2) (q0 := 0) rfl rfl) rfl rfl hl.1 rfl (lv_room (Nat.le_of_ble_eq_true rfl)) dX2_indexWith_2 ⟨(Nat.le_of_ble_eq_true rfl), (Nat.le_of_ble_eq_true rfl)⟩) hP hD hS hA [0, 1, 2] [] rfl rfl (by decide) (by decide) (Nat.le_of_ble_eq_true rfl) (Nat.le_of_ble_eq_true rfl) (fun r_1 u H locs h_2 hP hD hS => ?_)
    have hP : va_P g vwCl [(o, .inr (2, [.ref a, .ref b, .int 0])), (a, .inl (cT 1, 800, .inr (.inl (fun _ => 0)))), (b, .inl (cT 0, 2048, .inl (fun _ => 0)))] H := hP
    have hD : va_D A [(o, .inr (2, [.ref a, .ref b, .int 0])), (a, .inl (cT 1, 800, .inr (.inl (fun _ => 0)))), (b, .inl (cT 0, 2048, .inl (fun _ => 0)))] := hD
    subst h_2
    refine lv_istore_n (lv' := [(3, .int 101), (0, .ref o), (1, .long 45)]) hx hb dX2_indexWith_5 rfl hl (by decide) rfl (fun ls hl => ?_)
    refine lv_aload_n hx hb dX2_indexWith_6 rfl (lv_at hl 1 rfl) ?_
    refine va_get (C := RX2) (T := TX2) (N := 3) (v := .ref b) hx hb hts hi_X2_indexWith_X2 hown hK hP 0 rfl rfl 1 (by decide) (hts (.fieldLink RX2 26 "BothWays$Keys" "slots" "[I") (by decide +kernel)) (fun _ h => h) rfl dX2_indexWith_7 ?_
    refine lv_iload_n hx hb dX2_indexWith_10 rfl (lv_at hl 0 rfl) ?_
    refine w_iald (v := 0) hx hb hK hP 2 rfl dX2_indexWith_11 (inC (by decide)) rfl ?_
    refine if_ne_f hx hb dX2_indexWith_12 52 (by decide) (by decide) ?_
    refine lv_aload_n hx hb dX2_indexWith_15 rfl (lv_at hl 1 rfl) ?_
    refine cj_i 0 0 (wr := [(b, .inl (cT 0, 2048, .inl (fun _ => 0)))]) (va_runV (As := []) (rest := []) ⟨hx, hb, hml, hown, hts⟩ (c_K_isFull_800 l g cT H.size o a b (fun _ => 0)) (cwV 0 hts gX2_indexWith_X2_isFull rfl rfl rfl yd_X2_isFull ⟨(Nat.le_of_ble_eq_true rfl), (Nat.le_of_ble_eq_true rfl)⟩) (preV (wc := [(o, .inr (2, [.ref a, .ref b, .int 0])), (a, .inl (cT 1, 800, .inr (.inl (fun _ => 0))))]) rfl hP hD hK hN hZ hS hA [0, 1] rfl (by decide) (ci := 2) (q0 := 0) rfl rfl) rfl rfl hl.1 rfl (lv_room (Nat.le_of_ble_eq_true rfl)) dX2_indexWith_16 ⟨(Nat.le_of_ble_eq_true rfl), (Nat.le_of_ble_eq_true rfl)⟩) hP hD hS hA [0, 1] [2] rfl rfl (by decide) (by decide) (Nat.le_of_ble_eq_true rfl) (Nat.le_of_ble_eq_true rfl) (fun r_3 u H locs h_4 hP hD hS => ?_)
    have hP : va_P g vwCl [(b, .inl (cT 0, 2048, .inl (fun _ => 0))), (o, .inr (2, [.ref a, .ref b, .int 0])), (a, .inl (cT 1, 800, .inr (.inl (fun _ => 0))))] H := hP
    have hD : va_D A [(b, .inl (cT 0, 2048, .inl (fun _ => 0))), (o, .inr (2, [.ref a, .ref b, .int 0])), (a, .inl (cT 1, 800, .inr (.inl (fun _ => 0))))] := hD
    subst h_4
    refine if_ne_f hx hb dX2_indexWith_19 52 (by decide) (by decide) ?_
    refine lv_aload_n hx hb dX2_indexWith_22 rfl (lv_at hl 1 rfl) ?_
    refine va_get (C := RX2) (T := TX2) (N := 3) (v := .ref a) hx hb hts hi_X2_indexWith_X2 hown hK hP 1 rfl rfl 0 (by decide) (hts (.fieldLink RX2 22 "BothWays$Keys" "keys" "[J") (by decide +kernel)) (fun _ h => h) rfl dX2_indexWith_23 ?_
    refine lv_aload_n hx hb dX2_indexWith_26 rfl (lv_at hl 1 rfl) ?_
    refine va_get (C := RX2) (T := TX2) (N := 3) (v := .int 0) hx hb hts hi_X2_indexWith_X2 hown hK hP 1 rfl rfl 2 (by decide) (hts (.fieldLink RX2 7 "BothWays$Keys" "size" "I") (by decide +kernel)) (fun _ h => h) rfl dX2_indexWith_27 ?_
    refine lv_lload_n hx hb dX2_indexWith_30 rfl (lv_at hl 2 rfl) ?_
    refine w_last (f' := (vp_updL (fun _ => 0) 0 45)) hx hb hK hP hD hS 2 rfl dX2_indexWith_31 (inC (by decide)) rfl (fun H locs hP hD hS => ?_)
    have hP : va_P g vwCl [(b, .inl (cT 0, 2048, .inl (fun _ => 0))), (o, .inr (2, [.ref a, .ref b, .int 0])), (a, .inl (cT 1, 800, .inr (.inl (vp_updL (fun _ => 0) 0 45))))] H := hP
    have hD : va_D A [(b, .inl (cT 0, 2048, .inl (fun _ => 0))), (o, .inr (2, [.ref a, .ref b, .int 0])), (a, .inl (cT 1, 800, .inr (.inl (vp_updL (fun _ => 0) 0 45))))] := hD
    refine lv_aload_n hx hb dX2_indexWith_32 rfl (lv_at hl 1 rfl) ?_
    refine lv_dup hx hb dX2_indexWith_33 rfl ?_
    refine va_get (C := RX2) (T := TX2) (N := 3) (v := .int 0) hx hb hts hi_X2_indexWith_X2 hown hK hP 1 rfl rfl 2 (by decide) (hts (.fieldLink RX2 7 "BothWays$Keys" "size" "I") (by decide +kernel)) (fun _ h => h) rfl dX2_indexWith_34 ?_
    refine lv_iconst (v := 1) hx hb dX2_indexWith_37 (by decide) ?_
    refine w_iadd (v := 1) hx hb dX2_indexWith_38 (by decide) ?_
    refine va_put (C := RX2) (T := TX2) (N := 3) (v := .int 1) (ty := .int) hx hb hts hi_X2_indexWith_X2 tyX2 tyX2_ok nmX2 hown hK hP hD hS 1 rfl rfl 2 (by decide) (hts (.fieldLink RX2 7 "BothWays$Keys" "size" "I") (by decide +kernel)) (fun _ h => h) rfl (by decide +kernel) rfl rfl (Nat.le_of_ble_eq_true rfl) dX2_indexWith_39 (fun H locs hP hD hS => ?_)
    have hP : va_P g vwCl [(b, .inl (cT 0, 2048, .inl (fun _ => 0))), (o, .inr (2, [.ref a, .ref b, .int 1])), (a, .inl (cT 1, 800, .inr (.inl (vp_updL (fun _ => 0) 0 45))))] H := hP
    have hD : va_D A [(b, .inl (cT 0, 2048, .inl (fun _ => 0))), (o, .inr (2, [.ref a, .ref b, .int 1])), (a, .inl (cT 1, 800, .inr (.inl (vp_updL (fun _ => 0) 0 45))))] := hD
    refine lv_aload_n hx hb dX2_indexWith_42 rfl (lv_at hl 1 rfl) ?_
    refine va_get (C := RX2) (T := TX2) (N := 3) (v := .ref b) hx hb hts hi_X2_indexWith_X2 hown hK hP 1 rfl rfl 1 (by decide) (hts (.fieldLink RX2 26 "BothWays$Keys" "slots" "[I") (by decide +kernel)) (fun _ h => h) rfl dX2_indexWith_43 ?_
    refine lv_iload_n hx hb dX2_indexWith_46 rfl (lv_at hl 0 rfl) ?_
    refine lv_aload_n hx hb dX2_indexWith_47 rfl (lv_at hl 1 rfl) ?_
    refine va_get (C := RX2) (T := TX2) (N := 3) (v := .int 1) hx hb hts hi_X2_indexWith_X2 hown hK hP 1 rfl rfl 2 (by decide) (hts (.fieldLink RX2 7 "BothWays$Keys" "size" "I") (by decide +kernel)) (fun _ h => h) rfl dX2_indexWith_48 ?_
    refine w_iast (f' := (upd (fun _ => 0) 101 1)) hx hb hK hP hD hS 0 rfl dX2_indexWith_51 (inC (by decide)) rfl (fun H locs hP hD hS => ?_)
    have hP : va_P g vwCl [(b, .inl (cT 0, 2048, .inl (upd (fun _ => 0) 101 1))), (o, .inr (2, [.ref a, .ref b, .int 1])), (a, .inl (cT 1, 800, .inr (.inl (vp_updL (fun _ => 0) 0 45))))] H := hP
    have hD : va_D A [(b, .inl (cT 0, 2048, .inl (upd (fun _ => 0) 101 1))), (o, .inr (2, [.ref a, .ref b, .int 1])), (a, .inl (cT 1, 800, .inr (.inl (vp_updL (fun _ => 0) 0 45))))] := hD
    refine lv_aload_n hx hb dX2_indexWith_52 rfl (lv_at hl 1 rfl) ?_
    refine va_get (C := RX2) (T := TX2) (N := 3) (v := .ref b) hx hb hts hi_X2_indexWith_X2 hown hK hP 1 rfl rfl 1 (by decide) (hts (.fieldLink RX2 26 "BothWays$Keys" "slots" "[I") (by decide +kernel)) (fun _ h => h) rfl dX2_indexWith_53 ?_
    refine lv_iload_n hx hb dX2_indexWith_56 rfl (lv_at hl 0 rfl) ?_
    refine w_iald (v := 1) hx hb hK hP 0 rfl dX2_indexWith_57 (inC (by decide)) (by decide) ?_
    refine lv_iconst (v := 1) hx hb dX2_indexWith_58 (by decide) ?_
    refine w_isub (v := 0) hx hb dX2_indexWith_59 (by decide) ?_
    exact rt_i hx hb hr hlocks hQ hP hD hS () [1, 2, 0] dX2_indexWith_60 rfl (Nat.le_of_ble_eq_true rfl) (Nat.le_of_ble_eq_true rfl) rfl (by decide) rfl
  rw [hH, hlo] at hgo
  exact hgo
abbrev rm_c_K_slotOf_800_45p : Room := { frames := 0, cells := 0, slots := 0, locals := 0 }
set_option maxHeartbeats 4000000 in
set_option maxRecDepth 100000 in
theorem c_K_slotOf_800_45p (l : Launch) (g : va_G) (cT : Nat → ClassId) (sz : Nat) (o : Nat) (a : Nat) (b : Nat)  : Ctr l g cT sz yX2_slotOf wsX2_slotOf rm_c_K_slotOf_800_45p [.ref o, .long 45] [(o, .inr (2, [.ref a, .ref b, .int 1])), (a, .inl (cT 1, 800, .inr (.inl (vp_updL (fun _ => 0) 0 45)))), (b, .inl (cT 0, 2048, .inl (upd (fun _ => 0) 101 1)))] (QI g (fun (r : Int32) (u : Unit) => r = 101) (fun (u : Unit) => [(o, .inr (2, [.ref a, .ref b, .int 1])), (a, .inl (cT 1, 800, .inr (.inl (vp_updL (fun _ => 0) 0 45)))), (b, .inl (cT 0, 2048, .inl (upd (fun _ => 0) 101 1)))])) 0 0 := by
  refine mk_ctr (cc := cX2_slotOf) (maxL := 7) (ret := (some .int)) (by decide) rfl (Nat.le_of_ble_eq_true rfl) ?_
  intro p e s m args below meth c A Q hx hb hr hts hown hlocks hin hml hP hK hD hN hZ hA hS hQ ls hl
  have hl : lv_has ls 7 [(0, .ref o), (1, .long 45)] := hl
  obtain ⟨H, hH⟩ : ∃ H : Heap, H = s.heap := ⟨_, rfl⟩
  obtain ⟨locs, hlo⟩ : ∃ x : List Loc, x = [] := ⟨_, rfl⟩
  rw [← hH] at hP
  have hS : va_S A s.heap H locs := by rw [hH, hlo]; exact hS
  have hgo : W p l e rm_c_K_slotOf_800_45p s m args below meth c H locs 0 0 Q (F0 m 0 ls []) := by
    clear hH hlo
    refine lv_aload_n hx hb dX2_slotOf_0 rfl (lv_at hl 0 rfl) ?_
    refine va_get (C := RX2) (T := TX2) (N := 3) (v := .ref b) hx hb hts hi_X2_slotOf_X2 hown hK hP 0 rfl rfl 1 (by decide) (hts (.fieldLink RX2 26 "BothWays$Keys" "slots" "[I") (by decide +kernel)) (fun _ h => h) rfl dX2_slotOf_1 ?_
    refine va_alen (v := 2048) hx hb hK hP 2 0 rfl rfl rfl dX2_slotOf_4 ?_
    refine lv_iconst (v := 1) hx hb dX2_slotOf_5 (by decide) ?_
    refine w_isub (v := 2047) hx hb dX2_slotOf_6 (by decide) ?_
    refine lv_istore_n (lv' := [(3, .int 2047), (0, .ref o), (1, .long 45)]) hx hb dX2_slotOf_7 rfl hl (by decide) rfl (fun ls hl => ?_)
    refine lv_lload_n hx hb dX2_slotOf_8 rfl (lv_at hl 2 rfl) ?_
    refine lv_ldc2 (v := (-7046029254386353131)) hx hb hown (hts (.constantLong RX2 44 (-7046029254386353131)) (by decide +kernel)) dX2_slotOf_9 ?_
    refine w_lmul (v := (-3476667194323513423)) hx hb dX2_slotOf_12 (by decide) ?_
    refine lv_bipush (v := 40) hx hb dX2_slotOf_13 (by decide) ?_
    refine lv_lushr (v := 13615205) hx hb dX2_slotOf_15 (by decide) ?_
    refine lv_l2i (v := 13615205) hx hb dX2_slotOf_16 (by decide) ?_
    refine lv_iload_n hx hb dX2_slotOf_17 rfl (lv_at hl 0 rfl) ?_
    refine w_iand (v := 101) hx hb dX2_slotOf_18 (by decide) ?_
    refine lv_istore (lv' := [(4, .int 101), (3, .int 2047), (0, .ref o), (1, .long 45)]) hx hb dX2_slotOf_19 hl (by decide) rfl (fun ls hl => ?_)
    refine lv_iconst (v := 0) hx hb dX2_slotOf_21 (by decide) ?_
    refine lv_istore (lv' := [(5, .int 0), (4, .int 101), (3, .int 2047), (0, .ref o), (1, .long 45)]) hx hb dX2_slotOf_22 hl (by decide) rfl (fun ls hl => ?_)
    refine lv_iload hx hb dX2_slotOf_24 (lv_at hl 0 rfl) ?_
    refine lv_iload_n hx hb dX2_slotOf_26 rfl (lv_at hl 2 rfl) ?_
    refine icmp_ge_f hx hb dX2_slotOf_27 85 (by decide) (by decide) ?_
    refine lv_aload_n hx hb dX2_slotOf_30 rfl (lv_at hl 3 rfl) ?_
    refine va_get (C := RX2) (T := TX2) (N := 3) (v := .ref b) hx hb hts hi_X2_slotOf_X2 hown hK hP 0 rfl rfl 1 (by decide) (hts (.fieldLink RX2 26 "BothWays$Keys" "slots" "[I") (by decide +kernel)) (fun _ h => h) rfl dX2_slotOf_31 ?_
    refine lv_iload hx hb dX2_slotOf_34 (lv_at hl 1 rfl) ?_
    refine w_iald (v := 1) hx hb hK hP 2 rfl dX2_slotOf_36 (inC (by decide)) (by decide) ?_
    refine lv_iconst (v := 1) hx hb dX2_slotOf_37 (by decide) ?_
    refine w_isub (v := 0) hx hb dX2_slotOf_38 (by decide) ?_
    refine lv_istore (lv' := [(6, .int 0), (5, .int 0), (4, .int 101), (3, .int 2047), (0, .ref o), (1, .long 45)]) hx hb dX2_slotOf_39 hl (by decide) rfl (fun ls hl => ?_)
    refine lv_iload hx hb dX2_slotOf_41 (lv_at hl 0 rfl) ?_
    refine if_lt_f hx hb dX2_slotOf_43 68 (by decide) (by decide) ?_
    refine lv_iload hx hb dX2_slotOf_46 (lv_at hl 0 rfl) ?_
    refine lv_aload_n hx hb dX2_slotOf_48 rfl (lv_at hl 4 rfl) ?_
    refine va_get (C := RX2) (T := TX2) (N := 3) (v := .ref a) hx hb hts hi_X2_slotOf_X2 hown hK hP 0 rfl rfl 0 (by decide) (hts (.fieldLink RX2 22 "BothWays$Keys" "keys" "[J") (by decide +kernel)) (fun _ h => h) rfl dX2_slotOf_49 ?_
    refine va_alen (v := 800) hx hb hK hP 1 1 rfl rfl rfl dX2_slotOf_52 ?_
    refine icmp_ge_f hx hb dX2_slotOf_53 68 (by decide) (by decide) ?_
    refine lv_aload_n hx hb dX2_slotOf_56 rfl (lv_at hl 4 rfl) ?_
    refine va_get (C := RX2) (T := TX2) (N := 3) (v := .ref a) hx hb hts hi_X2_slotOf_X2 hown hK hP 0 rfl rfl 0 (by decide) (hts (.fieldLink RX2 22 "BothWays$Keys" "keys" "[J") (by decide +kernel)) (fun _ h => h) rfl dX2_slotOf_57 ?_
    refine lv_iload hx hb dX2_slotOf_60 (lv_at hl 0 rfl) ?_
    refine w_lald (v := 45) hx hb hK hP 1 rfl dX2_slotOf_62 (inC (by decide)) (by decide) ?_
    refine lv_lload_n hx hb dX2_slotOf_63 rfl (lv_at hl 5 rfl) ?_
    refine w_lcmp (v := 0) hx hb dX2_slotOf_64 (by decide) ?_
    refine if_ne_f hx hb dX2_slotOf_65 71 (by decide) (by decide) ?_
    refine lv_iload hx hb dX2_slotOf_68 (lv_at hl 2 rfl) ?_
    exact rt_i hx hb hr hlocks hQ hP hD hS () [0, 1, 2] dX2_slotOf_70 rfl (Nat.le_of_ble_eq_true rfl) (Nat.le_of_ble_eq_true rfl) rfl (by decide) rfl
  rw [hH, hlo] at hgo
  exact hgo
abbrev rm_c_K_indexWith_800_45p : Room := { frames := 1, cells := 0, slots := 0, locals := 26 }
set_option maxHeartbeats 4000000 in
set_option maxRecDepth 100000 in
theorem c_K_indexWith_800_45p (l : Launch) (g : va_G) (cT : Nat → ClassId) (sz : Nat) (o : Nat) (a : Nat) (b : Nat)  : Ctr l g cT sz yX2_indexWith wsX2_indexWith rm_c_K_indexWith_800_45p [.ref o, .long 45] [(o, .inr (2, [.ref a, .ref b, .int 1])), (a, .inl (cT 1, 800, .inr (.inl (vp_updL (fun _ => 0) 0 45)))), (b, .inl (cT 0, 2048, .inl (upd (fun _ => 0) 101 1)))] (QI g (fun (r : Int32) (u : Unit) => r = 0) (fun (u : Unit) => [(o, .inr (2, [.ref a, .ref b, .int 1])), (a, .inl (cT 1, 800, .inr (.inl (vp_updL (fun _ => 0) 0 45)))), (b, .inl (cT 0, 2048, .inl (upd (fun _ => 0) 101 1)))])) 0 0 := by
  refine mk_ctr (cc := cX2_indexWith) (maxL := 4) (ret := (some .int)) (by decide) rfl (Nat.le_of_ble_eq_true rfl) ?_
  intro p e s m args below meth c A Q hx hb hr hts hown hlocks hin hml hP hK hD hN hZ hA hS hQ ls hl
  have hl : lv_has ls 4 [(0, .ref o), (1, .long 45)] := hl
  obtain ⟨H, hH⟩ : ∃ H : Heap, H = s.heap := ⟨_, rfl⟩
  obtain ⟨locs, hlo⟩ : ∃ x : List Loc, x = [] := ⟨_, rfl⟩
  rw [← hH] at hP
  have hS : va_S A s.heap H locs := by rw [hH, hlo]; exact hS
  have hgo : W p l e rm_c_K_indexWith_800_45p s m args below meth c H locs 0 0 Q (F0 m 0 ls []) := by
    clear hH hlo
    refine lv_aload_n hx hb dX2_indexWith_0 rfl (lv_at hl 0 rfl) ?_
    refine lv_lload_n hx hb dX2_indexWith_1 rfl (lv_at hl 1 rfl) ?_
    refine cj_i 0 0 (wr := []) (va_runV (As := [.long 45]) (rest := []) ⟨hx, hb, hml, hown, hts⟩ (c_K_slotOf_800_45p l g cT H.size o a b) (cwV 1 hts gX2_indexWith_X2_slotOf rfl rfl rfl yd_X2_slotOf ⟨(Nat.le_of_ble_eq_true rfl), (Nat.le_of_ble_eq_true rfl)⟩) (preV (wc := [(o, .inr (2, [.ref a, .ref b, .int 1])), (a, .inl (cT 1, 800, .inr (.inl (vp_updL (fun _ => 0) 0 45)))), (b, .inl (cT 0, 2048, .inl (upd (fun _ => 0) 101 1)))]) rfl hP hD hK hN hZ hS hA [0, 1, 2] rfl (by decide) (ci := 2) (q0 := 0) rfl rfl) rfl rfl hl.1 rfl (lv_room (Nat.le_of_ble_eq_true rfl)) dX2_indexWith_2 ⟨(Nat.le_of_ble_eq_true rfl), (Nat.le_of_ble_eq_true rfl)⟩) hP hD hS hA [0, 1, 2] [] rfl rfl (by decide) (by decide) (Nat.le_of_ble_eq_true rfl) (Nat.le_of_ble_eq_true rfl) (fun r_1 u H locs h_2 hP hD hS => ?_)
    have hP : va_P g vwCl [(o, .inr (2, [.ref a, .ref b, .int 1])), (a, .inl (cT 1, 800, .inr (.inl (vp_updL (fun _ => 0) 0 45)))), (b, .inl (cT 0, 2048, .inl (upd (fun _ => 0) 101 1)))] H := hP
    have hD : va_D A [(o, .inr (2, [.ref a, .ref b, .int 1])), (a, .inl (cT 1, 800, .inr (.inl (vp_updL (fun _ => 0) 0 45)))), (b, .inl (cT 0, 2048, .inl (upd (fun _ => 0) 101 1)))] := hD
    subst h_2
    refine lv_istore_n (lv' := [(3, .int 101), (0, .ref o), (1, .long 45)]) hx hb dX2_indexWith_5 rfl hl (by decide) rfl (fun ls hl => ?_)
    refine lv_aload_n hx hb dX2_indexWith_6 rfl (lv_at hl 1 rfl) ?_
    refine va_get (C := RX2) (T := TX2) (N := 3) (v := .ref b) hx hb hts hi_X2_indexWith_X2 hown hK hP 0 rfl rfl 1 (by decide) (hts (.fieldLink RX2 26 "BothWays$Keys" "slots" "[I") (by decide +kernel)) (fun _ h => h) rfl dX2_indexWith_7 ?_
    refine lv_iload_n hx hb dX2_indexWith_10 rfl (lv_at hl 0 rfl) ?_
    refine w_iald (v := 1) hx hb hK hP 2 rfl dX2_indexWith_11 (inC (by decide)) (by decide) ?_
    refine if_ne_t hx hb 52 dX2_indexWith_12 (by decide) (by decide) ?_
    refine lv_aload_n hx hb dX2_indexWith_52 rfl (lv_at hl 1 rfl) ?_
    refine va_get (C := RX2) (T := TX2) (N := 3) (v := .ref b) hx hb hts hi_X2_indexWith_X2 hown hK hP 0 rfl rfl 1 (by decide) (hts (.fieldLink RX2 26 "BothWays$Keys" "slots" "[I") (by decide +kernel)) (fun _ h => h) rfl dX2_indexWith_53 ?_
    refine lv_iload_n hx hb dX2_indexWith_56 rfl (lv_at hl 0 rfl) ?_
    refine w_iald (v := 1) hx hb hK hP 2 rfl dX2_indexWith_57 (inC (by decide)) (by decide) ?_
    refine lv_iconst (v := 1) hx hb dX2_indexWith_58 (by decide) ?_
    refine w_isub (v := 0) hx hb dX2_indexWith_59 (by decide) ?_
    exact rt_i hx hb hr hlocks hQ hP hD hS () [0, 1, 2] dX2_indexWith_60 rfl (Nat.le_of_ble_eq_true rfl) (Nat.le_of_ble_eq_true rfl) rfl (by decide) rfl
  rw [hH, hlo] at hgo
  exact hgo
abbrev rm_c_K_keyAt_800_45 : Room := { frames := 0, cells := 0, slots := 0, locals := 0 }
set_option maxHeartbeats 4000000 in
set_option maxRecDepth 100000 in
theorem c_K_keyAt_800_45 (l : Launch) (g : va_G) (cT : Nat → ClassId) (sz : Nat) (o : Nat) (a : Nat) (b : Nat)  : Ctr l g cT sz yX2_keyAt wsX2_keyAt rm_c_K_keyAt_800_45 [.ref o, .int 0] [(o, .inr (2, [.ref a, .ref b, .int 1])), (a, .inl (cT 1, 800, .inr (.inl (vp_updL (fun _ => 0) 0 45))))] (QL g (fun (r : Int64) (u : Unit) => r = 45) (fun (u : Unit) => [(o, .inr (2, [.ref a, .ref b, .int 1])), (a, .inl (cT 1, 800, .inr (.inl (vp_updL (fun _ => 0) 0 45))))])) 0 0 := by
  refine mk_ctr (cc := cX2_keyAt) (maxL := 2) (ret := (some .long)) (by decide) rfl (Nat.le_of_ble_eq_true rfl) ?_
  intro p e s m args below meth c A Q hx hb hr hts hown hlocks hin hml hP hK hD hN hZ hA hS hQ ls hl
  have hl : lv_has ls 2 [(0, .ref o), (1, .int 0)] := hl
  obtain ⟨H, hH⟩ : ∃ H : Heap, H = s.heap := ⟨_, rfl⟩
  obtain ⟨locs, hlo⟩ : ∃ x : List Loc, x = [] := ⟨_, rfl⟩
  rw [← hH] at hP
  have hS : va_S A s.heap H locs := by rw [hH, hlo]; exact hS
  have hgo : W p l e rm_c_K_keyAt_800_45 s m args below meth c H locs 0 0 Q (F0 m 0 ls []) := by
    clear hH hlo
    refine lv_iload_n hx hb dX2_keyAt_0 rfl (lv_at hl 1 rfl) ?_
    refine if_lt_f hx hb dX2_keyAt_1 21 (by decide) (by decide) ?_
    refine lv_iload_n hx hb dX2_keyAt_4 rfl (lv_at hl 1 rfl) ?_
    refine lv_aload_n hx hb dX2_keyAt_5 rfl (lv_at hl 0 rfl) ?_
    refine va_get (C := RX2) (T := TX2) (N := 3) (v := .int 1) hx hb hts hi_X2_keyAt_X2 hown hK hP 0 rfl rfl 2 (by decide) (hts (.fieldLink RX2 7 "BothWays$Keys" "size" "I") (by decide +kernel)) (fun _ h => h) rfl dX2_keyAt_6 ?_
    refine icmp_ge_f hx hb dX2_keyAt_9 21 (by decide) (by decide) ?_
    refine lv_aload_n hx hb dX2_keyAt_12 rfl (lv_at hl 0 rfl) ?_
    refine va_get (C := RX2) (T := TX2) (N := 3) (v := .ref a) hx hb hts hi_X2_keyAt_X2 hown hK hP 0 rfl rfl 0 (by decide) (hts (.fieldLink RX2 22 "BothWays$Keys" "keys" "[J") (by decide +kernel)) (fun _ h => h) rfl dX2_keyAt_13 ?_
    refine lv_iload_n hx hb dX2_keyAt_16 rfl (lv_at hl 1 rfl) ?_
    refine w_lald (v := 45) hx hb hK hP 1 rfl dX2_keyAt_17 (inC (by decide)) (by decide) ?_
    refine lv_goto (tgt := 22) hx hb dX2_keyAt_18 (by decide) ?_
    exact rt_l hx hb hr hlocks hQ hP hD hS () [0, 1] dX2_keyAt_22 (Nat.le_of_ble_eq_true rfl) (Nat.le_of_ble_eq_true rfl) rfl (by decide) rfl
  rw [hH, hlo] at hgo
  exact hgo
abbrev rm_c_K_slotOf_800_0e : Room := { frames := 0, cells := 0, slots := 0, locals := 0 }
set_option maxHeartbeats 4000000 in
set_option maxRecDepth 100000 in
theorem c_K_slotOf_800_0e (l : Launch) (g : va_G) (cT : Nat → ClassId) (sz : Nat) (o : Nat) (a : Nat) (b : Nat)  : Ctr l g cT sz yX2_slotOf wsX2_slotOf rm_c_K_slotOf_800_0e [.ref o, .long 0] [(o, .inr (2, [.ref a, .ref b, .int 0])), (a, .inl (cT 1, 800, .inr (.inl (fun _ => 0)))), (b, .inl (cT 0, 2048, .inl (fun _ => 0)))] (QI g (fun (r : Int32) (u : Unit) => r = 0) (fun (u : Unit) => [(o, .inr (2, [.ref a, .ref b, .int 0])), (a, .inl (cT 1, 800, .inr (.inl (fun _ => 0)))), (b, .inl (cT 0, 2048, .inl (fun _ => 0)))])) 0 0 := by
  refine mk_ctr (cc := cX2_slotOf) (maxL := 7) (ret := (some .int)) (by decide) rfl (Nat.le_of_ble_eq_true rfl) ?_
  intro p e s m args below meth c A Q hx hb hr hts hown hlocks hin hml hP hK hD hN hZ hA hS hQ ls hl
  have hl : lv_has ls 7 [(0, .ref o), (1, .long 0)] := hl
  obtain ⟨H, hH⟩ : ∃ H : Heap, H = s.heap := ⟨_, rfl⟩
  obtain ⟨locs, hlo⟩ : ∃ x : List Loc, x = [] := ⟨_, rfl⟩
  rw [← hH] at hP
  have hS : va_S A s.heap H locs := by rw [hH, hlo]; exact hS
  have hgo : W p l e rm_c_K_slotOf_800_0e s m args below meth c H locs 0 0 Q (F0 m 0 ls []) := by
    clear hH hlo
    refine lv_aload_n hx hb dX2_slotOf_0 rfl (lv_at hl 0 rfl) ?_
    refine va_get (C := RX2) (T := TX2) (N := 3) (v := .ref b) hx hb hts hi_X2_slotOf_X2 hown hK hP 0 rfl rfl 1 (by decide) (hts (.fieldLink RX2 26 "BothWays$Keys" "slots" "[I") (by decide +kernel)) (fun _ h => h) rfl dX2_slotOf_1 ?_
    refine va_alen (v := 2048) hx hb hK hP 2 0 rfl rfl rfl dX2_slotOf_4 ?_
    refine lv_iconst (v := 1) hx hb dX2_slotOf_5 (by decide) ?_
    refine w_isub (v := 2047) hx hb dX2_slotOf_6 (by decide) ?_
    refine lv_istore_n (lv' := [(3, .int 2047), (0, .ref o), (1, .long 0)]) hx hb dX2_slotOf_7 rfl hl (by decide) rfl (fun ls hl => ?_)
    refine lv_lload_n hx hb dX2_slotOf_8 rfl (lv_at hl 2 rfl) ?_
    refine lv_ldc2 (v := (-7046029254386353131)) hx hb hown (hts (.constantLong RX2 44 (-7046029254386353131)) (by decide +kernel)) dX2_slotOf_9 ?_
    refine w_lmul (v := 0) hx hb dX2_slotOf_12 (by decide) ?_
    refine lv_bipush (v := 40) hx hb dX2_slotOf_13 (by decide) ?_
    refine lv_lushr (v := 0) hx hb dX2_slotOf_15 (by decide) ?_
    refine lv_l2i (v := 0) hx hb dX2_slotOf_16 (by decide) ?_
    refine lv_iload_n hx hb dX2_slotOf_17 rfl (lv_at hl 0 rfl) ?_
    refine w_iand (v := 0) hx hb dX2_slotOf_18 (by decide) ?_
    refine lv_istore (lv' := [(4, .int 0), (3, .int 2047), (0, .ref o), (1, .long 0)]) hx hb dX2_slotOf_19 hl (by decide) rfl (fun ls hl => ?_)
    refine lv_iconst (v := 0) hx hb dX2_slotOf_21 (by decide) ?_
    refine lv_istore (lv' := [(5, .int 0), (4, .int 0), (3, .int 2047), (0, .ref o), (1, .long 0)]) hx hb dX2_slotOf_22 hl (by decide) rfl (fun ls hl => ?_)
    refine lv_iload hx hb dX2_slotOf_24 (lv_at hl 0 rfl) ?_
    refine lv_iload_n hx hb dX2_slotOf_26 rfl (lv_at hl 2 rfl) ?_
    refine icmp_ge_f hx hb dX2_slotOf_27 85 (by decide) (by decide) ?_
    refine lv_aload_n hx hb dX2_slotOf_30 rfl (lv_at hl 3 rfl) ?_
    refine va_get (C := RX2) (T := TX2) (N := 3) (v := .ref b) hx hb hts hi_X2_slotOf_X2 hown hK hP 0 rfl rfl 1 (by decide) (hts (.fieldLink RX2 26 "BothWays$Keys" "slots" "[I") (by decide +kernel)) (fun _ h => h) rfl dX2_slotOf_31 ?_
    refine lv_iload hx hb dX2_slotOf_34 (lv_at hl 1 rfl) ?_
    refine w_iald (v := 0) hx hb hK hP 2 rfl dX2_slotOf_36 (inC (by decide)) rfl ?_
    refine lv_iconst (v := 1) hx hb dX2_slotOf_37 (by decide) ?_
    refine w_isub (v := (-1)) hx hb dX2_slotOf_38 (by decide) ?_
    refine lv_istore (lv' := [(6, .int (-1)), (5, .int 0), (4, .int 0), (3, .int 2047), (0, .ref o), (1, .long 0)]) hx hb dX2_slotOf_39 hl (by decide) rfl (fun ls hl => ?_)
    refine lv_iload hx hb dX2_slotOf_41 (lv_at hl 0 rfl) ?_
    refine if_lt_t hx hb 68 dX2_slotOf_43 (by decide) (by decide) ?_
    refine lv_iload hx hb dX2_slotOf_68 (lv_at hl 2 rfl) ?_
    exact rt_i hx hb hr hlocks hQ hP hD hS () [0, 1, 2] dX2_slotOf_70 rfl (Nat.le_of_ble_eq_true rfl) (Nat.le_of_ble_eq_true rfl) rfl (by decide) rfl
  rw [hH, hlo] at hgo
  exact hgo
abbrev rm_c_K_indexWith_800_0e : Room := { frames := 1, cells := 0, slots := 0, locals := 26 }
set_option maxHeartbeats 4000000 in
set_option maxRecDepth 100000 in
theorem c_K_indexWith_800_0e (l : Launch) (g : va_G) (cT : Nat → ClassId) (sz : Nat) (o : Nat) (a : Nat) (b : Nat)  : Ctr l g cT sz yX2_indexWith wsX2_indexWith rm_c_K_indexWith_800_0e [.ref o, .long 0] [(o, .inr (2, [.ref a, .ref b, .int 0])), (a, .inl (cT 1, 800, .inr (.inl (fun _ => 0)))), (b, .inl (cT 0, 2048, .inl (fun _ => 0)))] (QI g (fun (r : Int32) (u : Unit) => r = 0) (fun (u : Unit) => [(o, .inr (2, [.ref a, .ref b, .int 1])), (a, .inl (cT 1, 800, .inr (.inl (fun _ => 0)))), (b, .inl (cT 0, 2048, .inl (upd (fun _ => 0) 0 1)))])) 0 0 := by
  refine mk_ctr (cc := cX2_indexWith) (maxL := 4) (ret := (some .int)) (by decide) rfl (Nat.le_of_ble_eq_true rfl) ?_
  intro p e s m args below meth c A Q hx hb hr hts hown hlocks hin hml hP hK hD hN hZ hA hS hQ ls hl
  have hl : lv_has ls 4 [(0, .ref o), (1, .long 0)] := hl
  obtain ⟨H, hH⟩ : ∃ H : Heap, H = s.heap := ⟨_, rfl⟩
  obtain ⟨locs, hlo⟩ : ∃ x : List Loc, x = [] := ⟨_, rfl⟩
  rw [← hH] at hP
  have hS : va_S A s.heap H locs := by rw [hH, hlo]; exact hS
  have hgo : W p l e rm_c_K_indexWith_800_0e s m args below meth c H locs 0 0 Q (F0 m 0 ls []) := by
    clear hH hlo
    refine lv_aload_n hx hb dX2_indexWith_0 rfl (lv_at hl 0 rfl) ?_
    refine lv_lload_n hx hb dX2_indexWith_1 rfl (lv_at hl 1 rfl) ?_
    refine cj_i 0 0 (wr := []) (va_runV (As := [.long 0]) (rest := []) ⟨hx, hb, hml, hown, hts⟩ (c_K_slotOf_800_0e l g cT H.size o a b) (cwV 1 hts gX2_indexWith_X2_slotOf rfl rfl rfl yd_X2_slotOf ⟨(Nat.le_of_ble_eq_true rfl), (Nat.le_of_ble_eq_true rfl)⟩) (preV (wc := [(o, .inr (2, [.ref a, .ref b, .int 0])), (a, .inl (cT 1, 800, .inr (.inl (fun _ => 0)))), (b, .inl (cT 0, 2048, .inl (fun _ => 0)))]) rfl hP hD hK hN hZ hS hA [0, 1, 2] rfl (by decide) (ci := 2) (q0 := 0) rfl rfl) rfl rfl hl.1 rfl (lv_room (Nat.le_of_ble_eq_true rfl)) dX2_indexWith_2 ⟨(Nat.le_of_ble_eq_true rfl), (Nat.le_of_ble_eq_true rfl)⟩) hP hD hS hA [0, 1, 2] [] rfl rfl (by decide) (by decide) (Nat.le_of_ble_eq_true rfl) (Nat.le_of_ble_eq_true rfl) (fun r_1 u H locs h_2 hP hD hS => ?_)
    have hP : va_P g vwCl [(o, .inr (2, [.ref a, .ref b, .int 0])), (a, .inl (cT 1, 800, .inr (.inl (fun _ => 0)))), (b, .inl (cT 0, 2048, .inl (fun _ => 0)))] H := hP
    have hD : va_D A [(o, .inr (2, [.ref a, .ref b, .int 0])), (a, .inl (cT 1, 800, .inr (.inl (fun _ => 0)))), (b, .inl (cT 0, 2048, .inl (fun _ => 0)))] := hD
    subst h_2
    refine lv_istore_n (lv' := [(3, .int 0), (0, .ref o), (1, .long 0)]) hx hb dX2_indexWith_5 rfl hl (by decide) rfl (fun ls hl => ?_)
    refine lv_aload_n hx hb dX2_indexWith_6 rfl (lv_at hl 1 rfl) ?_
    refine va_get (C := RX2) (T := TX2) (N := 3) (v := .ref b) hx hb hts hi_X2_indexWith_X2 hown hK hP 0 rfl rfl 1 (by decide) (hts (.fieldLink RX2 26 "BothWays$Keys" "slots" "[I") (by decide +kernel)) (fun _ h => h) rfl dX2_indexWith_7 ?_
    refine lv_iload_n hx hb dX2_indexWith_10 rfl (lv_at hl 0 rfl) ?_
    refine w_iald (v := 0) hx hb hK hP 2 rfl dX2_indexWith_11 (inC (by decide)) rfl ?_
    refine if_ne_f hx hb dX2_indexWith_12 52 (by decide) (by decide) ?_
    refine lv_aload_n hx hb dX2_indexWith_15 rfl (lv_at hl 1 rfl) ?_
    refine cj_i 0 0 (wr := [(b, .inl (cT 0, 2048, .inl (fun _ => 0)))]) (va_runV (As := []) (rest := []) ⟨hx, hb, hml, hown, hts⟩ (c_K_isFull_800 l g cT H.size o a b (fun _ => 0)) (cwV 0 hts gX2_indexWith_X2_isFull rfl rfl rfl yd_X2_isFull ⟨(Nat.le_of_ble_eq_true rfl), (Nat.le_of_ble_eq_true rfl)⟩) (preV (wc := [(o, .inr (2, [.ref a, .ref b, .int 0])), (a, .inl (cT 1, 800, .inr (.inl (fun _ => 0))))]) rfl hP hD hK hN hZ hS hA [0, 1] rfl (by decide) (ci := 2) (q0 := 0) rfl rfl) rfl rfl hl.1 rfl (lv_room (Nat.le_of_ble_eq_true rfl)) dX2_indexWith_16 ⟨(Nat.le_of_ble_eq_true rfl), (Nat.le_of_ble_eq_true rfl)⟩) hP hD hS hA [0, 1] [2] rfl rfl (by decide) (by decide) (Nat.le_of_ble_eq_true rfl) (Nat.le_of_ble_eq_true rfl) (fun r_3 u H locs h_4 hP hD hS => ?_)
    have hP : va_P g vwCl [(b, .inl (cT 0, 2048, .inl (fun _ => 0))), (o, .inr (2, [.ref a, .ref b, .int 0])), (a, .inl (cT 1, 800, .inr (.inl (fun _ => 0))))] H := hP
    have hD : va_D A [(b, .inl (cT 0, 2048, .inl (fun _ => 0))), (o, .inr (2, [.ref a, .ref b, .int 0])), (a, .inl (cT 1, 800, .inr (.inl (fun _ => 0))))] := hD
    subst h_4
    refine if_ne_f hx hb dX2_indexWith_19 52 (by decide) (by decide) ?_
    refine lv_aload_n hx hb dX2_indexWith_22 rfl (lv_at hl 1 rfl) ?_
    refine va_get (C := RX2) (T := TX2) (N := 3) (v := .ref a) hx hb hts hi_X2_indexWith_X2 hown hK hP 1 rfl rfl 0 (by decide) (hts (.fieldLink RX2 22 "BothWays$Keys" "keys" "[J") (by decide +kernel)) (fun _ h => h) rfl dX2_indexWith_23 ?_
    refine lv_aload_n hx hb dX2_indexWith_26 rfl (lv_at hl 1 rfl) ?_
    refine va_get (C := RX2) (T := TX2) (N := 3) (v := .int 0) hx hb hts hi_X2_indexWith_X2 hown hK hP 1 rfl rfl 2 (by decide) (hts (.fieldLink RX2 7 "BothWays$Keys" "size" "I") (by decide +kernel)) (fun _ h => h) rfl dX2_indexWith_27 ?_
    refine lv_lload_n hx hb dX2_indexWith_30 rfl (lv_at hl 2 rfl) ?_
    refine w_last (f' := (fun _ => 0)) hx hb hK hP hD hS 2 rfl dX2_indexWith_31 (inC (by decide)) (updL_c _ _) (fun H locs hP hD hS => ?_)
    have hP : va_P g vwCl [(b, .inl (cT 0, 2048, .inl (fun _ => 0))), (o, .inr (2, [.ref a, .ref b, .int 0])), (a, .inl (cT 1, 800, .inr (.inl (fun _ => 0))))] H := hP
    have hD : va_D A [(b, .inl (cT 0, 2048, .inl (fun _ => 0))), (o, .inr (2, [.ref a, .ref b, .int 0])), (a, .inl (cT 1, 800, .inr (.inl (fun _ => 0))))] := hD
    refine lv_aload_n hx hb dX2_indexWith_32 rfl (lv_at hl 1 rfl) ?_
    refine lv_dup hx hb dX2_indexWith_33 rfl ?_
    refine va_get (C := RX2) (T := TX2) (N := 3) (v := .int 0) hx hb hts hi_X2_indexWith_X2 hown hK hP 1 rfl rfl 2 (by decide) (hts (.fieldLink RX2 7 "BothWays$Keys" "size" "I") (by decide +kernel)) (fun _ h => h) rfl dX2_indexWith_34 ?_
    refine lv_iconst (v := 1) hx hb dX2_indexWith_37 (by decide) ?_
    refine w_iadd (v := 1) hx hb dX2_indexWith_38 (by decide) ?_
    refine va_put (C := RX2) (T := TX2) (N := 3) (v := .int 1) (ty := .int) hx hb hts hi_X2_indexWith_X2 tyX2 tyX2_ok nmX2 hown hK hP hD hS 1 rfl rfl 2 (by decide) (hts (.fieldLink RX2 7 "BothWays$Keys" "size" "I") (by decide +kernel)) (fun _ h => h) rfl (by decide +kernel) rfl rfl (Nat.le_of_ble_eq_true rfl) dX2_indexWith_39 (fun H locs hP hD hS => ?_)
    have hP : va_P g vwCl [(b, .inl (cT 0, 2048, .inl (fun _ => 0))), (o, .inr (2, [.ref a, .ref b, .int 1])), (a, .inl (cT 1, 800, .inr (.inl (fun _ => 0))))] H := hP
    have hD : va_D A [(b, .inl (cT 0, 2048, .inl (fun _ => 0))), (o, .inr (2, [.ref a, .ref b, .int 1])), (a, .inl (cT 1, 800, .inr (.inl (fun _ => 0))))] := hD
    refine lv_aload_n hx hb dX2_indexWith_42 rfl (lv_at hl 1 rfl) ?_
    refine va_get (C := RX2) (T := TX2) (N := 3) (v := .ref b) hx hb hts hi_X2_indexWith_X2 hown hK hP 1 rfl rfl 1 (by decide) (hts (.fieldLink RX2 26 "BothWays$Keys" "slots" "[I") (by decide +kernel)) (fun _ h => h) rfl dX2_indexWith_43 ?_
    refine lv_iload_n hx hb dX2_indexWith_46 rfl (lv_at hl 0 rfl) ?_
    refine lv_aload_n hx hb dX2_indexWith_47 rfl (lv_at hl 1 rfl) ?_
    refine va_get (C := RX2) (T := TX2) (N := 3) (v := .int 1) hx hb hts hi_X2_indexWith_X2 hown hK hP 1 rfl rfl 2 (by decide) (hts (.fieldLink RX2 7 "BothWays$Keys" "size" "I") (by decide +kernel)) (fun _ h => h) rfl dX2_indexWith_48 ?_
    refine w_iast (f' := (upd (fun _ => 0) 0 1)) hx hb hK hP hD hS 0 rfl dX2_indexWith_51 (inC (by decide)) rfl (fun H locs hP hD hS => ?_)
    have hP : va_P g vwCl [(b, .inl (cT 0, 2048, .inl (upd (fun _ => 0) 0 1))), (o, .inr (2, [.ref a, .ref b, .int 1])), (a, .inl (cT 1, 800, .inr (.inl (fun _ => 0))))] H := hP
    have hD : va_D A [(b, .inl (cT 0, 2048, .inl (upd (fun _ => 0) 0 1))), (o, .inr (2, [.ref a, .ref b, .int 1])), (a, .inl (cT 1, 800, .inr (.inl (fun _ => 0))))] := hD
    refine lv_aload_n hx hb dX2_indexWith_52 rfl (lv_at hl 1 rfl) ?_
    refine va_get (C := RX2) (T := TX2) (N := 3) (v := .ref b) hx hb hts hi_X2_indexWith_X2 hown hK hP 1 rfl rfl 1 (by decide) (hts (.fieldLink RX2 26 "BothWays$Keys" "slots" "[I") (by decide +kernel)) (fun _ h => h) rfl dX2_indexWith_53 ?_
    refine lv_iload_n hx hb dX2_indexWith_56 rfl (lv_at hl 0 rfl) ?_
    refine w_iald (v := 1) hx hb hK hP 0 rfl dX2_indexWith_57 (inC (by decide)) (by decide) ?_
    refine lv_iconst (v := 1) hx hb dX2_indexWith_58 (by decide) ?_
    refine w_isub (v := 0) hx hb dX2_indexWith_59 (by decide) ?_
    exact rt_i hx hb hr hlocks hQ hP hD hS () [1, 2, 0] dX2_indexWith_60 rfl (Nat.le_of_ble_eq_true rfl) (Nat.le_of_ble_eq_true rfl) rfl (by decide) rfl
  rw [hH, hlo] at hgo
  exact hgo
abbrev rm_c_K_slotOf_800_0p : Room := { frames := 0, cells := 0, slots := 0, locals := 0 }
set_option maxHeartbeats 4000000 in
set_option maxRecDepth 100000 in
theorem c_K_slotOf_800_0p (l : Launch) (g : va_G) (cT : Nat → ClassId) (sz : Nat) (o : Nat) (a : Nat) (b : Nat)  : Ctr l g cT sz yX2_slotOf wsX2_slotOf rm_c_K_slotOf_800_0p [.ref o, .long 0] [(o, .inr (2, [.ref a, .ref b, .int 1])), (a, .inl (cT 1, 800, .inr (.inl (fun _ => 0)))), (b, .inl (cT 0, 2048, .inl (upd (fun _ => 0) 0 1)))] (QI g (fun (r : Int32) (u : Unit) => r = 0) (fun (u : Unit) => [(o, .inr (2, [.ref a, .ref b, .int 1])), (a, .inl (cT 1, 800, .inr (.inl (fun _ => 0)))), (b, .inl (cT 0, 2048, .inl (upd (fun _ => 0) 0 1)))])) 0 0 := by
  refine mk_ctr (cc := cX2_slotOf) (maxL := 7) (ret := (some .int)) (by decide) rfl (Nat.le_of_ble_eq_true rfl) ?_
  intro p e s m args below meth c A Q hx hb hr hts hown hlocks hin hml hP hK hD hN hZ hA hS hQ ls hl
  have hl : lv_has ls 7 [(0, .ref o), (1, .long 0)] := hl
  obtain ⟨H, hH⟩ : ∃ H : Heap, H = s.heap := ⟨_, rfl⟩
  obtain ⟨locs, hlo⟩ : ∃ x : List Loc, x = [] := ⟨_, rfl⟩
  rw [← hH] at hP
  have hS : va_S A s.heap H locs := by rw [hH, hlo]; exact hS
  have hgo : W p l e rm_c_K_slotOf_800_0p s m args below meth c H locs 0 0 Q (F0 m 0 ls []) := by
    clear hH hlo
    refine lv_aload_n hx hb dX2_slotOf_0 rfl (lv_at hl 0 rfl) ?_
    refine va_get (C := RX2) (T := TX2) (N := 3) (v := .ref b) hx hb hts hi_X2_slotOf_X2 hown hK hP 0 rfl rfl 1 (by decide) (hts (.fieldLink RX2 26 "BothWays$Keys" "slots" "[I") (by decide +kernel)) (fun _ h => h) rfl dX2_slotOf_1 ?_
    refine va_alen (v := 2048) hx hb hK hP 2 0 rfl rfl rfl dX2_slotOf_4 ?_
    refine lv_iconst (v := 1) hx hb dX2_slotOf_5 (by decide) ?_
    refine w_isub (v := 2047) hx hb dX2_slotOf_6 (by decide) ?_
    refine lv_istore_n (lv' := [(3, .int 2047), (0, .ref o), (1, .long 0)]) hx hb dX2_slotOf_7 rfl hl (by decide) rfl (fun ls hl => ?_)
    refine lv_lload_n hx hb dX2_slotOf_8 rfl (lv_at hl 2 rfl) ?_
    refine lv_ldc2 (v := (-7046029254386353131)) hx hb hown (hts (.constantLong RX2 44 (-7046029254386353131)) (by decide +kernel)) dX2_slotOf_9 ?_
    refine w_lmul (v := 0) hx hb dX2_slotOf_12 (by decide) ?_
    refine lv_bipush (v := 40) hx hb dX2_slotOf_13 (by decide) ?_
    refine lv_lushr (v := 0) hx hb dX2_slotOf_15 (by decide) ?_
    refine lv_l2i (v := 0) hx hb dX2_slotOf_16 (by decide) ?_
    refine lv_iload_n hx hb dX2_slotOf_17 rfl (lv_at hl 0 rfl) ?_
    refine w_iand (v := 0) hx hb dX2_slotOf_18 (by decide) ?_
    refine lv_istore (lv' := [(4, .int 0), (3, .int 2047), (0, .ref o), (1, .long 0)]) hx hb dX2_slotOf_19 hl (by decide) rfl (fun ls hl => ?_)
    refine lv_iconst (v := 0) hx hb dX2_slotOf_21 (by decide) ?_
    refine lv_istore (lv' := [(5, .int 0), (4, .int 0), (3, .int 2047), (0, .ref o), (1, .long 0)]) hx hb dX2_slotOf_22 hl (by decide) rfl (fun ls hl => ?_)
    refine lv_iload hx hb dX2_slotOf_24 (lv_at hl 0 rfl) ?_
    refine lv_iload_n hx hb dX2_slotOf_26 rfl (lv_at hl 2 rfl) ?_
    refine icmp_ge_f hx hb dX2_slotOf_27 85 (by decide) (by decide) ?_
    refine lv_aload_n hx hb dX2_slotOf_30 rfl (lv_at hl 3 rfl) ?_
    refine va_get (C := RX2) (T := TX2) (N := 3) (v := .ref b) hx hb hts hi_X2_slotOf_X2 hown hK hP 0 rfl rfl 1 (by decide) (hts (.fieldLink RX2 26 "BothWays$Keys" "slots" "[I") (by decide +kernel)) (fun _ h => h) rfl dX2_slotOf_31 ?_
    refine lv_iload hx hb dX2_slotOf_34 (lv_at hl 1 rfl) ?_
    refine w_iald (v := 1) hx hb hK hP 2 rfl dX2_slotOf_36 (inC (by decide)) (by decide) ?_
    refine lv_iconst (v := 1) hx hb dX2_slotOf_37 (by decide) ?_
    refine w_isub (v := 0) hx hb dX2_slotOf_38 (by decide) ?_
    refine lv_istore (lv' := [(6, .int 0), (5, .int 0), (4, .int 0), (3, .int 2047), (0, .ref o), (1, .long 0)]) hx hb dX2_slotOf_39 hl (by decide) rfl (fun ls hl => ?_)
    refine lv_iload hx hb dX2_slotOf_41 (lv_at hl 0 rfl) ?_
    refine if_lt_f hx hb dX2_slotOf_43 68 (by decide) (by decide) ?_
    refine lv_iload hx hb dX2_slotOf_46 (lv_at hl 0 rfl) ?_
    refine lv_aload_n hx hb dX2_slotOf_48 rfl (lv_at hl 4 rfl) ?_
    refine va_get (C := RX2) (T := TX2) (N := 3) (v := .ref a) hx hb hts hi_X2_slotOf_X2 hown hK hP 0 rfl rfl 0 (by decide) (hts (.fieldLink RX2 22 "BothWays$Keys" "keys" "[J") (by decide +kernel)) (fun _ h => h) rfl dX2_slotOf_49 ?_
    refine va_alen (v := 800) hx hb hK hP 1 1 rfl rfl rfl dX2_slotOf_52 ?_
    refine icmp_ge_f hx hb dX2_slotOf_53 68 (by decide) (by decide) ?_
    refine lv_aload_n hx hb dX2_slotOf_56 rfl (lv_at hl 4 rfl) ?_
    refine va_get (C := RX2) (T := TX2) (N := 3) (v := .ref a) hx hb hts hi_X2_slotOf_X2 hown hK hP 0 rfl rfl 0 (by decide) (hts (.fieldLink RX2 22 "BothWays$Keys" "keys" "[J") (by decide +kernel)) (fun _ h => h) rfl dX2_slotOf_57 ?_
    refine lv_iload hx hb dX2_slotOf_60 (lv_at hl 0 rfl) ?_
    refine w_lald (v := 0) hx hb hK hP 1 rfl dX2_slotOf_62 (inC (by decide)) rfl ?_
    refine lv_lload_n hx hb dX2_slotOf_63 rfl (lv_at hl 5 rfl) ?_
    refine w_lcmp (v := 0) hx hb dX2_slotOf_64 (by decide) ?_
    refine if_ne_f hx hb dX2_slotOf_65 71 (by decide) (by decide) ?_
    refine lv_iload hx hb dX2_slotOf_68 (lv_at hl 2 rfl) ?_
    exact rt_i hx hb hr hlocks hQ hP hD hS () [0, 1, 2] dX2_slotOf_70 rfl (Nat.le_of_ble_eq_true rfl) (Nat.le_of_ble_eq_true rfl) rfl (by decide) rfl
  rw [hH, hlo] at hgo
  exact hgo
abbrev rm_c_K_indexWith_800_0p : Room := { frames := 1, cells := 0, slots := 0, locals := 26 }
set_option maxHeartbeats 4000000 in
set_option maxRecDepth 100000 in
theorem c_K_indexWith_800_0p (l : Launch) (g : va_G) (cT : Nat → ClassId) (sz : Nat) (o : Nat) (a : Nat) (b : Nat)  : Ctr l g cT sz yX2_indexWith wsX2_indexWith rm_c_K_indexWith_800_0p [.ref o, .long 0] [(o, .inr (2, [.ref a, .ref b, .int 1])), (a, .inl (cT 1, 800, .inr (.inl (fun _ => 0)))), (b, .inl (cT 0, 2048, .inl (upd (fun _ => 0) 0 1)))] (QI g (fun (r : Int32) (u : Unit) => r = 0) (fun (u : Unit) => [(o, .inr (2, [.ref a, .ref b, .int 1])), (a, .inl (cT 1, 800, .inr (.inl (fun _ => 0)))), (b, .inl (cT 0, 2048, .inl (upd (fun _ => 0) 0 1)))])) 0 0 := by
  refine mk_ctr (cc := cX2_indexWith) (maxL := 4) (ret := (some .int)) (by decide) rfl (Nat.le_of_ble_eq_true rfl) ?_
  intro p e s m args below meth c A Q hx hb hr hts hown hlocks hin hml hP hK hD hN hZ hA hS hQ ls hl
  have hl : lv_has ls 4 [(0, .ref o), (1, .long 0)] := hl
  obtain ⟨H, hH⟩ : ∃ H : Heap, H = s.heap := ⟨_, rfl⟩
  obtain ⟨locs, hlo⟩ : ∃ x : List Loc, x = [] := ⟨_, rfl⟩
  rw [← hH] at hP
  have hS : va_S A s.heap H locs := by rw [hH, hlo]; exact hS
  have hgo : W p l e rm_c_K_indexWith_800_0p s m args below meth c H locs 0 0 Q (F0 m 0 ls []) := by
    clear hH hlo
    refine lv_aload_n hx hb dX2_indexWith_0 rfl (lv_at hl 0 rfl) ?_
    refine lv_lload_n hx hb dX2_indexWith_1 rfl (lv_at hl 1 rfl) ?_
    refine cj_i 0 0 (wr := []) (va_runV (As := [.long 0]) (rest := []) ⟨hx, hb, hml, hown, hts⟩ (c_K_slotOf_800_0p l g cT H.size o a b) (cwV 1 hts gX2_indexWith_X2_slotOf rfl rfl rfl yd_X2_slotOf ⟨(Nat.le_of_ble_eq_true rfl), (Nat.le_of_ble_eq_true rfl)⟩) (preV (wc := [(o, .inr (2, [.ref a, .ref b, .int 1])), (a, .inl (cT 1, 800, .inr (.inl (fun _ => 0)))), (b, .inl (cT 0, 2048, .inl (upd (fun _ => 0) 0 1)))]) rfl hP hD hK hN hZ hS hA [0, 1, 2] rfl (by decide) (ci := 2) (q0 := 0) rfl rfl) rfl rfl hl.1 rfl (lv_room (Nat.le_of_ble_eq_true rfl)) dX2_indexWith_2 ⟨(Nat.le_of_ble_eq_true rfl), (Nat.le_of_ble_eq_true rfl)⟩) hP hD hS hA [0, 1, 2] [] rfl rfl (by decide) (by decide) (Nat.le_of_ble_eq_true rfl) (Nat.le_of_ble_eq_true rfl) (fun r_1 u H locs h_2 hP hD hS => ?_)
    have hP : va_P g vwCl [(o, .inr (2, [.ref a, .ref b, .int 1])), (a, .inl (cT 1, 800, .inr (.inl (fun _ => 0)))), (b, .inl (cT 0, 2048, .inl (upd (fun _ => 0) 0 1)))] H := hP
    have hD : va_D A [(o, .inr (2, [.ref a, .ref b, .int 1])), (a, .inl (cT 1, 800, .inr (.inl (fun _ => 0)))), (b, .inl (cT 0, 2048, .inl (upd (fun _ => 0) 0 1)))] := hD
    subst h_2
    refine lv_istore_n (lv' := [(3, .int 0), (0, .ref o), (1, .long 0)]) hx hb dX2_indexWith_5 rfl hl (by decide) rfl (fun ls hl => ?_)
    refine lv_aload_n hx hb dX2_indexWith_6 rfl (lv_at hl 1 rfl) ?_
    refine va_get (C := RX2) (T := TX2) (N := 3) (v := .ref b) hx hb hts hi_X2_indexWith_X2 hown hK hP 0 rfl rfl 1 (by decide) (hts (.fieldLink RX2 26 "BothWays$Keys" "slots" "[I") (by decide +kernel)) (fun _ h => h) rfl dX2_indexWith_7 ?_
    refine lv_iload_n hx hb dX2_indexWith_10 rfl (lv_at hl 0 rfl) ?_
    refine w_iald (v := 1) hx hb hK hP 2 rfl dX2_indexWith_11 (inC (by decide)) (by decide) ?_
    refine if_ne_t hx hb 52 dX2_indexWith_12 (by decide) (by decide) ?_
    refine lv_aload_n hx hb dX2_indexWith_52 rfl (lv_at hl 1 rfl) ?_
    refine va_get (C := RX2) (T := TX2) (N := 3) (v := .ref b) hx hb hts hi_X2_indexWith_X2 hown hK hP 0 rfl rfl 1 (by decide) (hts (.fieldLink RX2 26 "BothWays$Keys" "slots" "[I") (by decide +kernel)) (fun _ h => h) rfl dX2_indexWith_53 ?_
    refine lv_iload_n hx hb dX2_indexWith_56 rfl (lv_at hl 0 rfl) ?_
    refine w_iald (v := 1) hx hb hK hP 2 rfl dX2_indexWith_57 (inC (by decide)) (by decide) ?_
    refine lv_iconst (v := 1) hx hb dX2_indexWith_58 (by decide) ?_
    refine w_isub (v := 0) hx hb dX2_indexWith_59 (by decide) ?_
    exact rt_i hx hb hr hlocks hQ hP hD hS () [0, 1, 2] dX2_indexWith_60 rfl (Nat.le_of_ble_eq_true rfl) (Nat.le_of_ble_eq_true rfl) rfl (by decide) rfl
  rw [hH, hlo] at hgo
  exact hgo
abbrev rm_c_K_keyAt_800_0 : Room := { frames := 0, cells := 0, slots := 0, locals := 0 }
set_option maxHeartbeats 4000000 in
set_option maxRecDepth 100000 in
theorem c_K_keyAt_800_0 (l : Launch) (g : va_G) (cT : Nat → ClassId) (sz : Nat) (o : Nat) (a : Nat) (b : Nat)  : Ctr l g cT sz yX2_keyAt wsX2_keyAt rm_c_K_keyAt_800_0 [.ref o, .int 0] [(o, .inr (2, [.ref a, .ref b, .int 1])), (a, .inl (cT 1, 800, .inr (.inl (fun _ => 0))))] (QL g (fun (r : Int64) (u : Unit) => r = 0) (fun (u : Unit) => [(o, .inr (2, [.ref a, .ref b, .int 1])), (a, .inl (cT 1, 800, .inr (.inl (fun _ => 0))))])) 0 0 := by
  refine mk_ctr (cc := cX2_keyAt) (maxL := 2) (ret := (some .long)) (by decide) rfl (Nat.le_of_ble_eq_true rfl) ?_
  intro p e s m args below meth c A Q hx hb hr hts hown hlocks hin hml hP hK hD hN hZ hA hS hQ ls hl
  have hl : lv_has ls 2 [(0, .ref o), (1, .int 0)] := hl
  obtain ⟨H, hH⟩ : ∃ H : Heap, H = s.heap := ⟨_, rfl⟩
  obtain ⟨locs, hlo⟩ : ∃ x : List Loc, x = [] := ⟨_, rfl⟩
  rw [← hH] at hP
  have hS : va_S A s.heap H locs := by rw [hH, hlo]; exact hS
  have hgo : W p l e rm_c_K_keyAt_800_0 s m args below meth c H locs 0 0 Q (F0 m 0 ls []) := by
    clear hH hlo
    refine lv_iload_n hx hb dX2_keyAt_0 rfl (lv_at hl 1 rfl) ?_
    refine if_lt_f hx hb dX2_keyAt_1 21 (by decide) (by decide) ?_
    refine lv_iload_n hx hb dX2_keyAt_4 rfl (lv_at hl 1 rfl) ?_
    refine lv_aload_n hx hb dX2_keyAt_5 rfl (lv_at hl 0 rfl) ?_
    refine va_get (C := RX2) (T := TX2) (N := 3) (v := .int 1) hx hb hts hi_X2_keyAt_X2 hown hK hP 0 rfl rfl 2 (by decide) (hts (.fieldLink RX2 7 "BothWays$Keys" "size" "I") (by decide +kernel)) (fun _ h => h) rfl dX2_keyAt_6 ?_
    refine icmp_ge_f hx hb dX2_keyAt_9 21 (by decide) (by decide) ?_
    refine lv_aload_n hx hb dX2_keyAt_12 rfl (lv_at hl 0 rfl) ?_
    refine va_get (C := RX2) (T := TX2) (N := 3) (v := .ref a) hx hb hts hi_X2_keyAt_X2 hown hK hP 0 rfl rfl 0 (by decide) (hts (.fieldLink RX2 22 "BothWays$Keys" "keys" "[J") (by decide +kernel)) (fun _ h => h) rfl dX2_keyAt_13 ?_
    refine lv_iload_n hx hb dX2_keyAt_16 rfl (lv_at hl 1 rfl) ?_
    refine w_lald (v := 0) hx hb hK hP 1 rfl dX2_keyAt_17 (inC (by decide)) rfl ?_
    refine lv_goto (tgt := 22) hx hb dX2_keyAt_18 (by decide) ?_
    exact rt_l hx hb hr hlocks hQ hP hD hS () [0, 1] dX2_keyAt_22 (Nat.le_of_ble_eq_true rfl) (Nat.le_of_ble_eq_true rfl) rfl (by decide) rfl
  rw [hH, hlo] at hgo
  exact hgo
abbrev rm_c_K_slotOf_4000_0e : Room := { frames := 0, cells := 0, slots := 0, locals := 0 }
set_option maxHeartbeats 4000000 in
set_option maxRecDepth 100000 in
theorem c_K_slotOf_4000_0e (l : Launch) (g : va_G) (cT : Nat → ClassId) (sz : Nat) (o : Nat) (a : Nat) (b : Nat)  : Ctr l g cT sz yX2_slotOf wsX2_slotOf rm_c_K_slotOf_4000_0e [.ref o, .long 0] [(o, .inr (2, [.ref a, .ref b, .int 0])), (a, .inl (cT 1, 4000, .inr (.inl (fun _ => 0)))), (b, .inl (cT 0, 8192, .inl (fun _ => 0)))] (QI g (fun (r : Int32) (u : Unit) => r = 0) (fun (u : Unit) => [(o, .inr (2, [.ref a, .ref b, .int 0])), (a, .inl (cT 1, 4000, .inr (.inl (fun _ => 0)))), (b, .inl (cT 0, 8192, .inl (fun _ => 0)))])) 0 0 := by
  refine mk_ctr (cc := cX2_slotOf) (maxL := 7) (ret := (some .int)) (by decide) rfl (Nat.le_of_ble_eq_true rfl) ?_
  intro p e s m args below meth c A Q hx hb hr hts hown hlocks hin hml hP hK hD hN hZ hA hS hQ ls hl
  have hl : lv_has ls 7 [(0, .ref o), (1, .long 0)] := hl
  obtain ⟨H, hH⟩ : ∃ H : Heap, H = s.heap := ⟨_, rfl⟩
  obtain ⟨locs, hlo⟩ : ∃ x : List Loc, x = [] := ⟨_, rfl⟩
  rw [← hH] at hP
  have hS : va_S A s.heap H locs := by rw [hH, hlo]; exact hS
  have hgo : W p l e rm_c_K_slotOf_4000_0e s m args below meth c H locs 0 0 Q (F0 m 0 ls []) := by
    clear hH hlo
    refine lv_aload_n hx hb dX2_slotOf_0 rfl (lv_at hl 0 rfl) ?_
    refine va_get (C := RX2) (T := TX2) (N := 3) (v := .ref b) hx hb hts hi_X2_slotOf_X2 hown hK hP 0 rfl rfl 1 (by decide) (hts (.fieldLink RX2 26 "BothWays$Keys" "slots" "[I") (by decide +kernel)) (fun _ h => h) rfl dX2_slotOf_1 ?_
    refine va_alen (v := 8192) hx hb hK hP 2 0 rfl rfl rfl dX2_slotOf_4 ?_
    refine lv_iconst (v := 1) hx hb dX2_slotOf_5 (by decide) ?_
    refine w_isub (v := 8191) hx hb dX2_slotOf_6 (by decide) ?_
    refine lv_istore_n (lv' := [(3, .int 8191), (0, .ref o), (1, .long 0)]) hx hb dX2_slotOf_7 rfl hl (by decide) rfl (fun ls hl => ?_)
    refine lv_lload_n hx hb dX2_slotOf_8 rfl (lv_at hl 2 rfl) ?_
    refine lv_ldc2 (v := (-7046029254386353131)) hx hb hown (hts (.constantLong RX2 44 (-7046029254386353131)) (by decide +kernel)) dX2_slotOf_9 ?_
    refine w_lmul (v := 0) hx hb dX2_slotOf_12 (by decide) ?_
    refine lv_bipush (v := 40) hx hb dX2_slotOf_13 (by decide) ?_
    refine lv_lushr (v := 0) hx hb dX2_slotOf_15 (by decide) ?_
    refine lv_l2i (v := 0) hx hb dX2_slotOf_16 (by decide) ?_
    refine lv_iload_n hx hb dX2_slotOf_17 rfl (lv_at hl 0 rfl) ?_
    refine w_iand (v := 0) hx hb dX2_slotOf_18 (by decide) ?_
    refine lv_istore (lv' := [(4, .int 0), (3, .int 8191), (0, .ref o), (1, .long 0)]) hx hb dX2_slotOf_19 hl (by decide) rfl (fun ls hl => ?_)
    refine lv_iconst (v := 0) hx hb dX2_slotOf_21 (by decide) ?_
    refine lv_istore (lv' := [(5, .int 0), (4, .int 0), (3, .int 8191), (0, .ref o), (1, .long 0)]) hx hb dX2_slotOf_22 hl (by decide) rfl (fun ls hl => ?_)
    refine lv_iload hx hb dX2_slotOf_24 (lv_at hl 0 rfl) ?_
    refine lv_iload_n hx hb dX2_slotOf_26 rfl (lv_at hl 2 rfl) ?_
    refine icmp_ge_f hx hb dX2_slotOf_27 85 (by decide) (by decide) ?_
    refine lv_aload_n hx hb dX2_slotOf_30 rfl (lv_at hl 3 rfl) ?_
    refine va_get (C := RX2) (T := TX2) (N := 3) (v := .ref b) hx hb hts hi_X2_slotOf_X2 hown hK hP 0 rfl rfl 1 (by decide) (hts (.fieldLink RX2 26 "BothWays$Keys" "slots" "[I") (by decide +kernel)) (fun _ h => h) rfl dX2_slotOf_31 ?_
    refine lv_iload hx hb dX2_slotOf_34 (lv_at hl 1 rfl) ?_
    refine w_iald (v := 0) hx hb hK hP 2 rfl dX2_slotOf_36 (inC (by decide)) rfl ?_
    refine lv_iconst (v := 1) hx hb dX2_slotOf_37 (by decide) ?_
    refine w_isub (v := (-1)) hx hb dX2_slotOf_38 (by decide) ?_
    refine lv_istore (lv' := [(6, .int (-1)), (5, .int 0), (4, .int 0), (3, .int 8191), (0, .ref o), (1, .long 0)]) hx hb dX2_slotOf_39 hl (by decide) rfl (fun ls hl => ?_)
    refine lv_iload hx hb dX2_slotOf_41 (lv_at hl 0 rfl) ?_
    refine if_lt_t hx hb 68 dX2_slotOf_43 (by decide) (by decide) ?_
    refine lv_iload hx hb dX2_slotOf_68 (lv_at hl 2 rfl) ?_
    exact rt_i hx hb hr hlocks hQ hP hD hS () [0, 1, 2] dX2_slotOf_70 rfl (Nat.le_of_ble_eq_true rfl) (Nat.le_of_ble_eq_true rfl) rfl (by decide) rfl
  rw [hH, hlo] at hgo
  exact hgo
abbrev rm_c_K_indexWith_4000_0e : Room := { frames := 1, cells := 0, slots := 0, locals := 26 }
set_option maxHeartbeats 4000000 in
set_option maxRecDepth 100000 in
theorem c_K_indexWith_4000_0e (l : Launch) (g : va_G) (cT : Nat → ClassId) (sz : Nat) (o : Nat) (a : Nat) (b : Nat)  : Ctr l g cT sz yX2_indexWith wsX2_indexWith rm_c_K_indexWith_4000_0e [.ref o, .long 0] [(o, .inr (2, [.ref a, .ref b, .int 0])), (a, .inl (cT 1, 4000, .inr (.inl (fun _ => 0)))), (b, .inl (cT 0, 8192, .inl (fun _ => 0)))] (QI g (fun (r : Int32) (u : Unit) => r = 0) (fun (u : Unit) => [(o, .inr (2, [.ref a, .ref b, .int 1])), (a, .inl (cT 1, 4000, .inr (.inl (fun _ => 0)))), (b, .inl (cT 0, 8192, .inl (upd (fun _ => 0) 0 1)))])) 0 0 := by
  refine mk_ctr (cc := cX2_indexWith) (maxL := 4) (ret := (some .int)) (by decide) rfl (Nat.le_of_ble_eq_true rfl) ?_
  intro p e s m args below meth c A Q hx hb hr hts hown hlocks hin hml hP hK hD hN hZ hA hS hQ ls hl
  have hl : lv_has ls 4 [(0, .ref o), (1, .long 0)] := hl
  obtain ⟨H, hH⟩ : ∃ H : Heap, H = s.heap := ⟨_, rfl⟩
  obtain ⟨locs, hlo⟩ : ∃ x : List Loc, x = [] := ⟨_, rfl⟩
  rw [← hH] at hP
  have hS : va_S A s.heap H locs := by rw [hH, hlo]; exact hS
  have hgo : W p l e rm_c_K_indexWith_4000_0e s m args below meth c H locs 0 0 Q (F0 m 0 ls []) := by
    clear hH hlo
    refine lv_aload_n hx hb dX2_indexWith_0 rfl (lv_at hl 0 rfl) ?_
    refine lv_lload_n hx hb dX2_indexWith_1 rfl (lv_at hl 1 rfl) ?_
    refine cj_i 0 0 (wr := []) (va_runV (As := [.long 0]) (rest := []) ⟨hx, hb, hml, hown, hts⟩ (c_K_slotOf_4000_0e l g cT H.size o a b) (cwV 1 hts gX2_indexWith_X2_slotOf rfl rfl rfl yd_X2_slotOf ⟨(Nat.le_of_ble_eq_true rfl), (Nat.le_of_ble_eq_true rfl)⟩) (preV (wc := [(o, .inr (2, [.ref a, .ref b, .int 0])), (a, .inl (cT 1, 4000, .inr (.inl (fun _ => 0)))), (b, .inl (cT 0, 8192, .inl (fun _ => 0)))]) rfl hP hD hK hN hZ hS hA [0, 1, 2] rfl (by decide) (ci := 2) (q0 := 0) rfl rfl) rfl rfl hl.1 rfl (lv_room (Nat.le_of_ble_eq_true rfl)) dX2_indexWith_2 ⟨(Nat.le_of_ble_eq_true rfl), (Nat.le_of_ble_eq_true rfl)⟩) hP hD hS hA [0, 1, 2] [] rfl rfl (by decide) (by decide) (Nat.le_of_ble_eq_true rfl) (Nat.le_of_ble_eq_true rfl) (fun r_1 u H locs h_2 hP hD hS => ?_)
    have hP : va_P g vwCl [(o, .inr (2, [.ref a, .ref b, .int 0])), (a, .inl (cT 1, 4000, .inr (.inl (fun _ => 0)))), (b, .inl (cT 0, 8192, .inl (fun _ => 0)))] H := hP
    have hD : va_D A [(o, .inr (2, [.ref a, .ref b, .int 0])), (a, .inl (cT 1, 4000, .inr (.inl (fun _ => 0)))), (b, .inl (cT 0, 8192, .inl (fun _ => 0)))] := hD
    subst h_2
    refine lv_istore_n (lv' := [(3, .int 0), (0, .ref o), (1, .long 0)]) hx hb dX2_indexWith_5 rfl hl (by decide) rfl (fun ls hl => ?_)
    refine lv_aload_n hx hb dX2_indexWith_6 rfl (lv_at hl 1 rfl) ?_
    refine va_get (C := RX2) (T := TX2) (N := 3) (v := .ref b) hx hb hts hi_X2_indexWith_X2 hown hK hP 0 rfl rfl 1 (by decide) (hts (.fieldLink RX2 26 "BothWays$Keys" "slots" "[I") (by decide +kernel)) (fun _ h => h) rfl dX2_indexWith_7 ?_
    refine lv_iload_n hx hb dX2_indexWith_10 rfl (lv_at hl 0 rfl) ?_
    refine w_iald (v := 0) hx hb hK hP 2 rfl dX2_indexWith_11 (inC (by decide)) rfl ?_
    refine if_ne_f hx hb dX2_indexWith_12 52 (by decide) (by decide) ?_
    refine lv_aload_n hx hb dX2_indexWith_15 rfl (lv_at hl 1 rfl) ?_
    refine cj_i 0 0 (wr := [(b, .inl (cT 0, 8192, .inl (fun _ => 0)))]) (va_runV (As := []) (rest := []) ⟨hx, hb, hml, hown, hts⟩ (c_K_isFull_4000 l g cT H.size o a b (fun _ => 0)) (cwV 0 hts gX2_indexWith_X2_isFull rfl rfl rfl yd_X2_isFull ⟨(Nat.le_of_ble_eq_true rfl), (Nat.le_of_ble_eq_true rfl)⟩) (preV (wc := [(o, .inr (2, [.ref a, .ref b, .int 0])), (a, .inl (cT 1, 4000, .inr (.inl (fun _ => 0))))]) rfl hP hD hK hN hZ hS hA [0, 1] rfl (by decide) (ci := 2) (q0 := 0) rfl rfl) rfl rfl hl.1 rfl (lv_room (Nat.le_of_ble_eq_true rfl)) dX2_indexWith_16 ⟨(Nat.le_of_ble_eq_true rfl), (Nat.le_of_ble_eq_true rfl)⟩) hP hD hS hA [0, 1] [2] rfl rfl (by decide) (by decide) (Nat.le_of_ble_eq_true rfl) (Nat.le_of_ble_eq_true rfl) (fun r_3 u H locs h_4 hP hD hS => ?_)
    have hP : va_P g vwCl [(b, .inl (cT 0, 8192, .inl (fun _ => 0))), (o, .inr (2, [.ref a, .ref b, .int 0])), (a, .inl (cT 1, 4000, .inr (.inl (fun _ => 0))))] H := hP
    have hD : va_D A [(b, .inl (cT 0, 8192, .inl (fun _ => 0))), (o, .inr (2, [.ref a, .ref b, .int 0])), (a, .inl (cT 1, 4000, .inr (.inl (fun _ => 0))))] := hD
    subst h_4
    refine if_ne_f hx hb dX2_indexWith_19 52 (by decide) (by decide) ?_
    refine lv_aload_n hx hb dX2_indexWith_22 rfl (lv_at hl 1 rfl) ?_
    refine va_get (C := RX2) (T := TX2) (N := 3) (v := .ref a) hx hb hts hi_X2_indexWith_X2 hown hK hP 1 rfl rfl 0 (by decide) (hts (.fieldLink RX2 22 "BothWays$Keys" "keys" "[J") (by decide +kernel)) (fun _ h => h) rfl dX2_indexWith_23 ?_
    refine lv_aload_n hx hb dX2_indexWith_26 rfl (lv_at hl 1 rfl) ?_
    refine va_get (C := RX2) (T := TX2) (N := 3) (v := .int 0) hx hb hts hi_X2_indexWith_X2 hown hK hP 1 rfl rfl 2 (by decide) (hts (.fieldLink RX2 7 "BothWays$Keys" "size" "I") (by decide +kernel)) (fun _ h => h) rfl dX2_indexWith_27 ?_
    refine lv_lload_n hx hb dX2_indexWith_30 rfl (lv_at hl 2 rfl) ?_
    refine w_last (f' := (fun _ => 0)) hx hb hK hP hD hS 2 rfl dX2_indexWith_31 (inC (by decide)) (updL_c _ _) (fun H locs hP hD hS => ?_)
    have hP : va_P g vwCl [(b, .inl (cT 0, 8192, .inl (fun _ => 0))), (o, .inr (2, [.ref a, .ref b, .int 0])), (a, .inl (cT 1, 4000, .inr (.inl (fun _ => 0))))] H := hP
    have hD : va_D A [(b, .inl (cT 0, 8192, .inl (fun _ => 0))), (o, .inr (2, [.ref a, .ref b, .int 0])), (a, .inl (cT 1, 4000, .inr (.inl (fun _ => 0))))] := hD
    refine lv_aload_n hx hb dX2_indexWith_32 rfl (lv_at hl 1 rfl) ?_
    refine lv_dup hx hb dX2_indexWith_33 rfl ?_
    refine va_get (C := RX2) (T := TX2) (N := 3) (v := .int 0) hx hb hts hi_X2_indexWith_X2 hown hK hP 1 rfl rfl 2 (by decide) (hts (.fieldLink RX2 7 "BothWays$Keys" "size" "I") (by decide +kernel)) (fun _ h => h) rfl dX2_indexWith_34 ?_
    refine lv_iconst (v := 1) hx hb dX2_indexWith_37 (by decide) ?_
    refine w_iadd (v := 1) hx hb dX2_indexWith_38 (by decide) ?_
    refine va_put (C := RX2) (T := TX2) (N := 3) (v := .int 1) (ty := .int) hx hb hts hi_X2_indexWith_X2 tyX2 tyX2_ok nmX2 hown hK hP hD hS 1 rfl rfl 2 (by decide) (hts (.fieldLink RX2 7 "BothWays$Keys" "size" "I") (by decide +kernel)) (fun _ h => h) rfl (by decide +kernel) rfl rfl (Nat.le_of_ble_eq_true rfl) dX2_indexWith_39 (fun H locs hP hD hS => ?_)
    have hP : va_P g vwCl [(b, .inl (cT 0, 8192, .inl (fun _ => 0))), (o, .inr (2, [.ref a, .ref b, .int 1])), (a, .inl (cT 1, 4000, .inr (.inl (fun _ => 0))))] H := hP
    have hD : va_D A [(b, .inl (cT 0, 8192, .inl (fun _ => 0))), (o, .inr (2, [.ref a, .ref b, .int 1])), (a, .inl (cT 1, 4000, .inr (.inl (fun _ => 0))))] := hD
    refine lv_aload_n hx hb dX2_indexWith_42 rfl (lv_at hl 1 rfl) ?_
    refine va_get (C := RX2) (T := TX2) (N := 3) (v := .ref b) hx hb hts hi_X2_indexWith_X2 hown hK hP 1 rfl rfl 1 (by decide) (hts (.fieldLink RX2 26 "BothWays$Keys" "slots" "[I") (by decide +kernel)) (fun _ h => h) rfl dX2_indexWith_43 ?_
    refine lv_iload_n hx hb dX2_indexWith_46 rfl (lv_at hl 0 rfl) ?_
    refine lv_aload_n hx hb dX2_indexWith_47 rfl (lv_at hl 1 rfl) ?_
    refine va_get (C := RX2) (T := TX2) (N := 3) (v := .int 1) hx hb hts hi_X2_indexWith_X2 hown hK hP 1 rfl rfl 2 (by decide) (hts (.fieldLink RX2 7 "BothWays$Keys" "size" "I") (by decide +kernel)) (fun _ h => h) rfl dX2_indexWith_48 ?_
    refine w_iast (f' := (upd (fun _ => 0) 0 1)) hx hb hK hP hD hS 0 rfl dX2_indexWith_51 (inC (by decide)) rfl (fun H locs hP hD hS => ?_)
    have hP : va_P g vwCl [(b, .inl (cT 0, 8192, .inl (upd (fun _ => 0) 0 1))), (o, .inr (2, [.ref a, .ref b, .int 1])), (a, .inl (cT 1, 4000, .inr (.inl (fun _ => 0))))] H := hP
    have hD : va_D A [(b, .inl (cT 0, 8192, .inl (upd (fun _ => 0) 0 1))), (o, .inr (2, [.ref a, .ref b, .int 1])), (a, .inl (cT 1, 4000, .inr (.inl (fun _ => 0))))] := hD
    refine lv_aload_n hx hb dX2_indexWith_52 rfl (lv_at hl 1 rfl) ?_
    refine va_get (C := RX2) (T := TX2) (N := 3) (v := .ref b) hx hb hts hi_X2_indexWith_X2 hown hK hP 1 rfl rfl 1 (by decide) (hts (.fieldLink RX2 26 "BothWays$Keys" "slots" "[I") (by decide +kernel)) (fun _ h => h) rfl dX2_indexWith_53 ?_
    refine lv_iload_n hx hb dX2_indexWith_56 rfl (lv_at hl 0 rfl) ?_
    refine w_iald (v := 1) hx hb hK hP 0 rfl dX2_indexWith_57 (inC (by decide)) (by decide) ?_
    refine lv_iconst (v := 1) hx hb dX2_indexWith_58 (by decide) ?_
    refine w_isub (v := 0) hx hb dX2_indexWith_59 (by decide) ?_
    exact rt_i hx hb hr hlocks hQ hP hD hS () [1, 2, 0] dX2_indexWith_60 rfl (Nat.le_of_ble_eq_true rfl) (Nat.le_of_ble_eq_true rfl) rfl (by decide) rfl
  rw [hH, hlo] at hgo
  exact hgo
abbrev rm_c_K_slotOf_4000_0p : Room := { frames := 0, cells := 0, slots := 0, locals := 0 }
set_option maxHeartbeats 4000000 in
set_option maxRecDepth 100000 in
theorem c_K_slotOf_4000_0p (l : Launch) (g : va_G) (cT : Nat → ClassId) (sz : Nat) (o : Nat) (a : Nat) (b : Nat)  : Ctr l g cT sz yX2_slotOf wsX2_slotOf rm_c_K_slotOf_4000_0p [.ref o, .long 0] [(o, .inr (2, [.ref a, .ref b, .int 1])), (a, .inl (cT 1, 4000, .inr (.inl (fun _ => 0)))), (b, .inl (cT 0, 8192, .inl (upd (fun _ => 0) 0 1)))] (QI g (fun (r : Int32) (u : Unit) => r = 0) (fun (u : Unit) => [(o, .inr (2, [.ref a, .ref b, .int 1])), (a, .inl (cT 1, 4000, .inr (.inl (fun _ => 0)))), (b, .inl (cT 0, 8192, .inl (upd (fun _ => 0) 0 1)))])) 0 0 := by
  refine mk_ctr (cc := cX2_slotOf) (maxL := 7) (ret := (some .int)) (by decide) rfl (Nat.le_of_ble_eq_true rfl) ?_
  intro p e s m args below meth c A Q hx hb hr hts hown hlocks hin hml hP hK hD hN hZ hA hS hQ ls hl
  have hl : lv_has ls 7 [(0, .ref o), (1, .long 0)] := hl
  obtain ⟨H, hH⟩ : ∃ H : Heap, H = s.heap := ⟨_, rfl⟩
  obtain ⟨locs, hlo⟩ : ∃ x : List Loc, x = [] := ⟨_, rfl⟩
  rw [← hH] at hP
  have hS : va_S A s.heap H locs := by rw [hH, hlo]; exact hS
  have hgo : W p l e rm_c_K_slotOf_4000_0p s m args below meth c H locs 0 0 Q (F0 m 0 ls []) := by
    clear hH hlo
    refine lv_aload_n hx hb dX2_slotOf_0 rfl (lv_at hl 0 rfl) ?_
    refine va_get (C := RX2) (T := TX2) (N := 3) (v := .ref b) hx hb hts hi_X2_slotOf_X2 hown hK hP 0 rfl rfl 1 (by decide) (hts (.fieldLink RX2 26 "BothWays$Keys" "slots" "[I") (by decide +kernel)) (fun _ h => h) rfl dX2_slotOf_1 ?_
    refine va_alen (v := 8192) hx hb hK hP 2 0 rfl rfl rfl dX2_slotOf_4 ?_
    refine lv_iconst (v := 1) hx hb dX2_slotOf_5 (by decide) ?_
    refine w_isub (v := 8191) hx hb dX2_slotOf_6 (by decide) ?_
    refine lv_istore_n (lv' := [(3, .int 8191), (0, .ref o), (1, .long 0)]) hx hb dX2_slotOf_7 rfl hl (by decide) rfl (fun ls hl => ?_)
    refine lv_lload_n hx hb dX2_slotOf_8 rfl (lv_at hl 2 rfl) ?_
    refine lv_ldc2 (v := (-7046029254386353131)) hx hb hown (hts (.constantLong RX2 44 (-7046029254386353131)) (by decide +kernel)) dX2_slotOf_9 ?_
    refine w_lmul (v := 0) hx hb dX2_slotOf_12 (by decide) ?_
    refine lv_bipush (v := 40) hx hb dX2_slotOf_13 (by decide) ?_
    refine lv_lushr (v := 0) hx hb dX2_slotOf_15 (by decide) ?_
    refine lv_l2i (v := 0) hx hb dX2_slotOf_16 (by decide) ?_
    refine lv_iload_n hx hb dX2_slotOf_17 rfl (lv_at hl 0 rfl) ?_
    refine w_iand (v := 0) hx hb dX2_slotOf_18 (by decide) ?_
    refine lv_istore (lv' := [(4, .int 0), (3, .int 8191), (0, .ref o), (1, .long 0)]) hx hb dX2_slotOf_19 hl (by decide) rfl (fun ls hl => ?_)
    refine lv_iconst (v := 0) hx hb dX2_slotOf_21 (by decide) ?_
    refine lv_istore (lv' := [(5, .int 0), (4, .int 0), (3, .int 8191), (0, .ref o), (1, .long 0)]) hx hb dX2_slotOf_22 hl (by decide) rfl (fun ls hl => ?_)
    refine lv_iload hx hb dX2_slotOf_24 (lv_at hl 0 rfl) ?_
    refine lv_iload_n hx hb dX2_slotOf_26 rfl (lv_at hl 2 rfl) ?_
    refine icmp_ge_f hx hb dX2_slotOf_27 85 (by decide) (by decide) ?_
    refine lv_aload_n hx hb dX2_slotOf_30 rfl (lv_at hl 3 rfl) ?_
    refine va_get (C := RX2) (T := TX2) (N := 3) (v := .ref b) hx hb hts hi_X2_slotOf_X2 hown hK hP 0 rfl rfl 1 (by decide) (hts (.fieldLink RX2 26 "BothWays$Keys" "slots" "[I") (by decide +kernel)) (fun _ h => h) rfl dX2_slotOf_31 ?_
    refine lv_iload hx hb dX2_slotOf_34 (lv_at hl 1 rfl) ?_
    refine w_iald (v := 1) hx hb hK hP 2 rfl dX2_slotOf_36 (inC (by decide)) (by decide) ?_
    refine lv_iconst (v := 1) hx hb dX2_slotOf_37 (by decide) ?_
    refine w_isub (v := 0) hx hb dX2_slotOf_38 (by decide) ?_
    refine lv_istore (lv' := [(6, .int 0), (5, .int 0), (4, .int 0), (3, .int 8191), (0, .ref o), (1, .long 0)]) hx hb dX2_slotOf_39 hl (by decide) rfl (fun ls hl => ?_)
    refine lv_iload hx hb dX2_slotOf_41 (lv_at hl 0 rfl) ?_
    refine if_lt_f hx hb dX2_slotOf_43 68 (by decide) (by decide) ?_
    refine lv_iload hx hb dX2_slotOf_46 (lv_at hl 0 rfl) ?_
    refine lv_aload_n hx hb dX2_slotOf_48 rfl (lv_at hl 4 rfl) ?_
    refine va_get (C := RX2) (T := TX2) (N := 3) (v := .ref a) hx hb hts hi_X2_slotOf_X2 hown hK hP 0 rfl rfl 0 (by decide) (hts (.fieldLink RX2 22 "BothWays$Keys" "keys" "[J") (by decide +kernel)) (fun _ h => h) rfl dX2_slotOf_49 ?_
    refine va_alen (v := 4000) hx hb hK hP 1 1 rfl rfl rfl dX2_slotOf_52 ?_
    refine icmp_ge_f hx hb dX2_slotOf_53 68 (by decide) (by decide) ?_
    refine lv_aload_n hx hb dX2_slotOf_56 rfl (lv_at hl 4 rfl) ?_
    refine va_get (C := RX2) (T := TX2) (N := 3) (v := .ref a) hx hb hts hi_X2_slotOf_X2 hown hK hP 0 rfl rfl 0 (by decide) (hts (.fieldLink RX2 22 "BothWays$Keys" "keys" "[J") (by decide +kernel)) (fun _ h => h) rfl dX2_slotOf_57 ?_
    refine lv_iload hx hb dX2_slotOf_60 (lv_at hl 0 rfl) ?_
    refine w_lald (v := 0) hx hb hK hP 1 rfl dX2_slotOf_62 (inC (by decide)) rfl ?_
    refine lv_lload_n hx hb dX2_slotOf_63 rfl (lv_at hl 5 rfl) ?_
    refine w_lcmp (v := 0) hx hb dX2_slotOf_64 (by decide) ?_
    refine if_ne_f hx hb dX2_slotOf_65 71 (by decide) (by decide) ?_
    refine lv_iload hx hb dX2_slotOf_68 (lv_at hl 2 rfl) ?_
    exact rt_i hx hb hr hlocks hQ hP hD hS () [0, 1, 2] dX2_slotOf_70 rfl (Nat.le_of_ble_eq_true rfl) (Nat.le_of_ble_eq_true rfl) rfl (by decide) rfl
  rw [hH, hlo] at hgo
  exact hgo
abbrev rm_c_K_indexWith_4000_0p : Room := { frames := 1, cells := 0, slots := 0, locals := 26 }
set_option maxHeartbeats 4000000 in
set_option maxRecDepth 100000 in
theorem c_K_indexWith_4000_0p (l : Launch) (g : va_G) (cT : Nat → ClassId) (sz : Nat) (o : Nat) (a : Nat) (b : Nat)  : Ctr l g cT sz yX2_indexWith wsX2_indexWith rm_c_K_indexWith_4000_0p [.ref o, .long 0] [(o, .inr (2, [.ref a, .ref b, .int 1])), (a, .inl (cT 1, 4000, .inr (.inl (fun _ => 0)))), (b, .inl (cT 0, 8192, .inl (upd (fun _ => 0) 0 1)))] (QI g (fun (r : Int32) (u : Unit) => r = 0) (fun (u : Unit) => [(o, .inr (2, [.ref a, .ref b, .int 1])), (a, .inl (cT 1, 4000, .inr (.inl (fun _ => 0)))), (b, .inl (cT 0, 8192, .inl (upd (fun _ => 0) 0 1)))])) 0 0 := by
  refine mk_ctr (cc := cX2_indexWith) (maxL := 4) (ret := (some .int)) (by decide) rfl (Nat.le_of_ble_eq_true rfl) ?_
  intro p e s m args below meth c A Q hx hb hr hts hown hlocks hin hml hP hK hD hN hZ hA hS hQ ls hl
  have hl : lv_has ls 4 [(0, .ref o), (1, .long 0)] := hl
  obtain ⟨H, hH⟩ : ∃ H : Heap, H = s.heap := ⟨_, rfl⟩
  obtain ⟨locs, hlo⟩ : ∃ x : List Loc, x = [] := ⟨_, rfl⟩
  rw [← hH] at hP
  have hS : va_S A s.heap H locs := by rw [hH, hlo]; exact hS
  have hgo : W p l e rm_c_K_indexWith_4000_0p s m args below meth c H locs 0 0 Q (F0 m 0 ls []) := by
    clear hH hlo
    refine lv_aload_n hx hb dX2_indexWith_0 rfl (lv_at hl 0 rfl) ?_
    refine lv_lload_n hx hb dX2_indexWith_1 rfl (lv_at hl 1 rfl) ?_
    refine cj_i 0 0 (wr := []) (va_runV (As := [.long 0]) (rest := []) ⟨hx, hb, hml, hown, hts⟩ (c_K_slotOf_4000_0p l g cT H.size o a b) (cwV 1 hts gX2_indexWith_X2_slotOf rfl rfl rfl yd_X2_slotOf ⟨(Nat.le_of_ble_eq_true rfl), (Nat.le_of_ble_eq_true rfl)⟩) (preV (wc := [(o, .inr (2, [.ref a, .ref b, .int 1])), (a, .inl (cT 1, 4000, .inr (.inl (fun _ => 0)))), (b, .inl (cT 0, 8192, .inl (upd (fun _ => 0) 0 1)))]) rfl hP hD hK hN hZ hS hA [0, 1, 2] rfl (by decide) (ci := 2) (q0 := 0) rfl rfl) rfl rfl hl.1 rfl (lv_room (Nat.le_of_ble_eq_true rfl)) dX2_indexWith_2 ⟨(Nat.le_of_ble_eq_true rfl), (Nat.le_of_ble_eq_true rfl)⟩) hP hD hS hA [0, 1, 2] [] rfl rfl (by decide) (by decide) (Nat.le_of_ble_eq_true rfl) (Nat.le_of_ble_eq_true rfl) (fun r_1 u H locs h_2 hP hD hS => ?_)
    have hP : va_P g vwCl [(o, .inr (2, [.ref a, .ref b, .int 1])), (a, .inl (cT 1, 4000, .inr (.inl (fun _ => 0)))), (b, .inl (cT 0, 8192, .inl (upd (fun _ => 0) 0 1)))] H := hP
    have hD : va_D A [(o, .inr (2, [.ref a, .ref b, .int 1])), (a, .inl (cT 1, 4000, .inr (.inl (fun _ => 0)))), (b, .inl (cT 0, 8192, .inl (upd (fun _ => 0) 0 1)))] := hD
    subst h_2
    refine lv_istore_n (lv' := [(3, .int 0), (0, .ref o), (1, .long 0)]) hx hb dX2_indexWith_5 rfl hl (by decide) rfl (fun ls hl => ?_)
    refine lv_aload_n hx hb dX2_indexWith_6 rfl (lv_at hl 1 rfl) ?_
    refine va_get (C := RX2) (T := TX2) (N := 3) (v := .ref b) hx hb hts hi_X2_indexWith_X2 hown hK hP 0 rfl rfl 1 (by decide) (hts (.fieldLink RX2 26 "BothWays$Keys" "slots" "[I") (by decide +kernel)) (fun _ h => h) rfl dX2_indexWith_7 ?_
    refine lv_iload_n hx hb dX2_indexWith_10 rfl (lv_at hl 0 rfl) ?_
    refine w_iald (v := 1) hx hb hK hP 2 rfl dX2_indexWith_11 (inC (by decide)) (by decide) ?_
    refine if_ne_t hx hb 52 dX2_indexWith_12 (by decide) (by decide) ?_
    refine lv_aload_n hx hb dX2_indexWith_52 rfl (lv_at hl 1 rfl) ?_
    refine va_get (C := RX2) (T := TX2) (N := 3) (v := .ref b) hx hb hts hi_X2_indexWith_X2 hown hK hP 0 rfl rfl 1 (by decide) (hts (.fieldLink RX2 26 "BothWays$Keys" "slots" "[I") (by decide +kernel)) (fun _ h => h) rfl dX2_indexWith_53 ?_
    refine lv_iload_n hx hb dX2_indexWith_56 rfl (lv_at hl 0 rfl) ?_
    refine w_iald (v := 1) hx hb hK hP 2 rfl dX2_indexWith_57 (inC (by decide)) (by decide) ?_
    refine lv_iconst (v := 1) hx hb dX2_indexWith_58 (by decide) ?_
    refine w_isub (v := 0) hx hb dX2_indexWith_59 (by decide) ?_
    exact rt_i hx hb hr hlocks hQ hP hD hS () [0, 1, 2] dX2_indexWith_60 rfl (Nat.le_of_ble_eq_true rfl) (Nat.le_of_ble_eq_true rfl) rfl (by decide) rfl
  rw [hH, hlo] at hgo
  exact hgo
abbrev rm_c_K_keyAt_4000_0 : Room := { frames := 0, cells := 0, slots := 0, locals := 0 }
set_option maxHeartbeats 4000000 in
set_option maxRecDepth 100000 in
theorem c_K_keyAt_4000_0 (l : Launch) (g : va_G) (cT : Nat → ClassId) (sz : Nat) (o : Nat) (a : Nat) (b : Nat)  : Ctr l g cT sz yX2_keyAt wsX2_keyAt rm_c_K_keyAt_4000_0 [.ref o, .int 0] [(o, .inr (2, [.ref a, .ref b, .int 1])), (a, .inl (cT 1, 4000, .inr (.inl (fun _ => 0))))] (QL g (fun (r : Int64) (u : Unit) => r = 0) (fun (u : Unit) => [(o, .inr (2, [.ref a, .ref b, .int 1])), (a, .inl (cT 1, 4000, .inr (.inl (fun _ => 0))))])) 0 0 := by
  refine mk_ctr (cc := cX2_keyAt) (maxL := 2) (ret := (some .long)) (by decide) rfl (Nat.le_of_ble_eq_true rfl) ?_
  intro p e s m args below meth c A Q hx hb hr hts hown hlocks hin hml hP hK hD hN hZ hA hS hQ ls hl
  have hl : lv_has ls 2 [(0, .ref o), (1, .int 0)] := hl
  obtain ⟨H, hH⟩ : ∃ H : Heap, H = s.heap := ⟨_, rfl⟩
  obtain ⟨locs, hlo⟩ : ∃ x : List Loc, x = [] := ⟨_, rfl⟩
  rw [← hH] at hP
  have hS : va_S A s.heap H locs := by rw [hH, hlo]; exact hS
  have hgo : W p l e rm_c_K_keyAt_4000_0 s m args below meth c H locs 0 0 Q (F0 m 0 ls []) := by
    clear hH hlo
    refine lv_iload_n hx hb dX2_keyAt_0 rfl (lv_at hl 1 rfl) ?_
    refine if_lt_f hx hb dX2_keyAt_1 21 (by decide) (by decide) ?_
    refine lv_iload_n hx hb dX2_keyAt_4 rfl (lv_at hl 1 rfl) ?_
    refine lv_aload_n hx hb dX2_keyAt_5 rfl (lv_at hl 0 rfl) ?_
    refine va_get (C := RX2) (T := TX2) (N := 3) (v := .int 1) hx hb hts hi_X2_keyAt_X2 hown hK hP 0 rfl rfl 2 (by decide) (hts (.fieldLink RX2 7 "BothWays$Keys" "size" "I") (by decide +kernel)) (fun _ h => h) rfl dX2_keyAt_6 ?_
    refine icmp_ge_f hx hb dX2_keyAt_9 21 (by decide) (by decide) ?_
    refine lv_aload_n hx hb dX2_keyAt_12 rfl (lv_at hl 0 rfl) ?_
    refine va_get (C := RX2) (T := TX2) (N := 3) (v := .ref a) hx hb hts hi_X2_keyAt_X2 hown hK hP 0 rfl rfl 0 (by decide) (hts (.fieldLink RX2 22 "BothWays$Keys" "keys" "[J") (by decide +kernel)) (fun _ h => h) rfl dX2_keyAt_13 ?_
    refine lv_iload_n hx hb dX2_keyAt_16 rfl (lv_at hl 1 rfl) ?_
    refine w_lald (v := 0) hx hb hK hP 1 rfl dX2_keyAt_17 (inC (by decide)) rfl ?_
    refine lv_goto (tgt := 22) hx hb dX2_keyAt_18 (by decide) ?_
    exact rt_l hx hb hr hlocks hQ hP hD hS () [0, 1] dX2_keyAt_22 (Nat.le_of_ble_eq_true rfl) (Nat.le_of_ble_eq_true rfl) rfl (by decide) rfl
  rw [hH, hlo] at hgo
  exact hgo
theorem hi_X1_init_X1 : ∀ w ∈ wsX10, w ∈ wsX1_init := fun _ h => List.mem_cons_of_mem _ (List.mem_append_left _ (List.mem_append_right _ h))
theorem hi_X1_init_X2 : ∀ w ∈ wsX20, w ∈ wsX1_init := fun _ h => List.mem_cons_of_mem _ (List.mem_append_right _ h)
theorem yd_X2_init : yX2_init.cls = RX2 ∧ yX2_init.cls ≠ "java/lang/invoke/MethodHandle" ∧ yX2_init.cls ≠ "java/lang/invoke/VarHandle" ∧ (parseMethodDescriptor yX2_init.desc).map (fun d => d.parameters.length) = some 1 := by decide +kernel
abbrev rm_c_F_init_800 : Room := { frames := 2, cells := 6, slots := 5251, locals := 44 }
set_option maxHeartbeats 4000000 in
set_option maxRecDepth 100000 in
theorem c_F_init_800 (l : Launch) (g : va_G) (cT : Nat → ClassId) (sz : Nat) (o : Nat)  : Ctr l g cT sz yX1_init wsX1_init rm_c_F_init_800 [.ref o, .int 800] [(o, .inr (1, [.null, .null, .null, .null, .int 0]))] (QV g (fun (u : Nat × Nat × Nat × Nat × Nat × Nat) => True) (fun (u : Nat × Nat × Nat × Nat × Nat × Nat) => [(o, .inr (1, [.ref u.1, .ref u.2.2.2.1, .ref u.2.2.2.2.1, .ref u.2.2.2.2.2, .int 0])), (u.2.2.2.1, .inl (cT 0, 800, .inl (fun _ => 0))), (u.2.2.2.2.1, .inl (cT 0, 800, .inl (fun _ => 0))), (u.2.2.2.2.2, .inl (cT 0, 800, .inl (fun _ => 0))), (u.1, .inr (2, [.ref u.2.1, .ref u.2.2.1, .int 0])), (u.2.1, .inl (cT 1, 800, .inr (.inl (fun _ => 0)))), (u.2.2.1, .inl (cT 0, 2048, .inl (fun _ => 0)))])) 6 5251 := by
  refine mk_ctr (cc := cX1_init) (maxL := 3) (ret := none) (by decide) rfl (Nat.le_of_ble_eq_true rfl) ?_
  intro p e s m args below meth c A Q hx hb hr hts hown hlocks hin hml hP hK hD hN hZ hA hS hQ ls hl
  have hl : lv_has ls 3 [(0, .ref o), (1, .int 800)] := hl
  obtain ⟨H, hH⟩ : ∃ H : Heap, H = s.heap := ⟨_, rfl⟩
  obtain ⟨locs, hlo⟩ : ∃ x : List Loc, x = [] := ⟨_, rfl⟩
  rw [← hH] at hP
  have hS : va_S A s.heap H locs := by rw [hH, hlo]; exact hS
  have hgo : W p l e rm_c_F_init_800 s m args below meth c H locs 0 0 Q (F0 m 0 ls []) := by
    clear hH hlo
    refine lv_aload_n hx hb dX1_init_0 rfl (lv_at hl 0 rfl) ?_
    refine W.objInit hx hb hown (hts (.methodLink RX1 3 objectInit) (by decide +kernel)) (hts (.instanceMethod objectInit) (by decide +kernel)) (hts _ (List.mem_cons_of_mem _ (List.mem_append_left _ (List.mem_append_left _ (List.mem_append_left _ (List.mem_of_getElem? (i := 2) rfl)))))) rfl (by rw [hml]; exact hl.1) rfl dX1_init_1 (Nat.le_of_ble_eq_true rfl) (Nat.le_of_ble_eq_true rfl) ?_
    refine W.eq (g2 := F0 m 4 ls []) rfl ?_
    refine lv_aload_n hx hb dX1_init_4 rfl (lv_at hl 0 rfl) ?_
    refine lv_iconst (v := 0) hx hb dX1_init_5 (by decide) ?_
    refine va_put (C := RX1) (T := TX1) (N := 5) (v := .int 0) (ty := .boolean) hx hb hts hi_X1_init_X1 tyX1 tyX1_ok nmX1 hown hK hP hD hS 0 rfl rfl 4 (by decide) (hts (.fieldLink RX1 9 "BothWays$Finds" "spent" "Z") (by decide +kernel)) (fun _ h => h) rfl (by decide +kernel) rfl rfl (Nat.le_of_ble_eq_true rfl) dX1_init_6 (fun H locs hP hD hS => ?_)
    have hP : va_P g vwCl [(o, .inr (1, [.null, .null, .null, .null, .int 0]))] H := hP
    have hD : va_D A [(o, .inr (1, [.null, .null, .null, .null, .int 0]))] := hD
    refine lv_iconst (v := 0) hx hb dX1_init_9 (by decide) ?_
    refine lv_iload_n hx hb dX1_init_10 rfl (lv_at hl 1 rfl) ?_
    refine va_mmax hx hb (hml.trans hl.1.symm) hown (hts (.methodLink RX1 15 Lib.Math.max.name) (by decide +kernel)) (hts (.static Lib.Math.max.name) (by decide +kernel)) (hts (.initialized "java/lang/Math") (by decide +kernel)) (hts (.code Lib.Math.max.name Lib.Math.max.code 2 (some .int)) (by decide +kernel)) (Nat.le_of_ble_eq_true rfl) (Nat.le_of_ble_eq_true rfl) (Nat.le_of_ble_eq_true rfl) (Nat.le_of_ble_eq_true rfl) dX1_init_11 ?_
    refine tI 800 (by decide) ?_
    refine lv_istore_n (lv' := [(2, .int 800), (0, .ref o), (1, .int 800)]) hx hb dX1_init_14 rfl hl (by decide) rfl (fun ls hl => ?_)
    refine lv_aload_n hx hb dX1_init_15 rfl (lv_at hl 1 rfl) ?_
    refine va_new (ci := 2) (fs := [.null, .null, .int 0]) (C := RX2) (T := TX2) (N := 3) hx hb hts hi_X1_init_X2 tyX2 tyX2_ok hown (hts (.classLink RX1 21 RX2) (by decide +kernel)) (hts (.instantiable RX2 3) (by decide +kernel)) (hts (.initialized RX2) (by decide +kernel)) hK hP hD hS hA rfl dv_X2 (Nat.le_of_ble_eq_true rfl) (Nat.le_of_ble_eq_true rfl) dX1_init_16 (fun q_1 H hP hD hS => ?_)
    have hP : va_P g vwCl [(o, .inr (1, [.null, .null, .null, .null, .int 0])), (q_1, .inr (2, [.null, .null, .int 0]))] H := hP
    have hD : va_D A [(o, .inr (1, [.null, .null, .null, .null, .int 0])), (q_1, .inr (2, [.null, .null, .int 0]))] := hD
    refine W.widen (k := 1) (n := 3) (Nat.le_of_ble_eq_true rfl) (Nat.le_of_ble_eq_true rfl) ?_
    refine lv_dup hx hb dX1_init_19 rfl ?_
    refine lv_iload_n hx hb dX1_init_20 rfl (lv_at hl 0 rfl) ?_
    refine cj_v 3 2851 (wr := [(o, .inr (1, [.null, .null, .null, .null, .int 0]))]) (va_runI (As := [.int 800]) (rest := [.ref q_1, .ref o]) ⟨hx, hb, hml, hown, hts⟩ (c_K_init_800 l g cT H.size q_1) (cwI 1 hts gX1_init_X2_init rfl rfl rfl (hts (.initialized RX2) (by decide +kernel)) (hts (.methodLink RX1 23 yX2_init) (by decide +kernel)) (hts (.instanceMethod yX2_init) (by decide +kernel)) rfl yd_X2_init.2 ⟨(Nat.le_of_ble_eq_true rfl), (Nat.le_of_ble_eq_true rfl)⟩) (preS (wc := [(q_1, .inr (2, [.null, .null, .int 0]))]) rfl hP hD hK hN hZ hS hA [1] rfl (by decide)) rfl rfl hl.1 rfl (lv_room (Nat.le_of_ble_eq_true rfl)) dX1_init_21 ⟨(Nat.le_of_ble_eq_true rfl), (Nat.le_of_ble_eq_true rfl)⟩) hP hD hS hA [1] [0] rfl rfl (by decide) (by decide) (Nat.le_of_ble_eq_true rfl) (Nat.le_of_ble_eq_true rfl) (fun u H locs h_3 hP hD hS => ?_)
    obtain ⟨u_4, u_5⟩ := u
    have hP : va_P g vwCl [(o, .inr (1, [.null, .null, .null, .null, .int 0])), (q_1, .inr (2, [.ref u_4, .ref u_5, .int 0])), (u_4, .inl (cT 1, 800, .inr (.inl (fun _ => 0)))), (u_5, .inl (cT 0, 2048, .inl (fun _ => 0)))] H := hP
    have hD : va_D A [(o, .inr (1, [.null, .null, .null, .null, .int 0])), (q_1, .inr (2, [.ref u_4, .ref u_5, .int 0])), (u_4, .inl (cT 1, 800, .inr (.inl (fun _ => 0)))), (u_5, .inl (cT 0, 2048, .inl (fun _ => 0)))] := hD
    refine va_putF (C := RX1) (T := TX1) (N := 5) (v := .ref q_1) (ty := .object "BothWays$Keys") hx hb hts hi_X1_init_X1 tyX1 tyX1_ok nmX1 hown hK hP hD hS 0 rfl rfl 0 (by decide) (hts (.fieldLink RX1 26 "BothWays$Finds" "keys" "LBothWays$Keys;") (by decide +kernel)) (fun _ h => h) rfl hin rfl (by decide +kernel) rfl rfl (Nat.le_of_ble_eq_true rfl) dX1_init_24 (fun H locs hP hD hS => ?_)
    have hP : va_P g vwCl [(o, .inr (1, [.ref q_1, .null, .null, .null, .int 0])), (q_1, .inr (2, [.ref u_4, .ref u_5, .int 0])), (u_4, .inl (cT 1, 800, .inr (.inl (fun _ => 0)))), (u_5, .inl (cT 0, 2048, .inl (fun _ => 0)))] H := hP
    have hD : va_D A [(o, .inr (1, [.ref q_1, .null, .null, .null, .int 0])), (q_1, .inr (2, [.ref u_4, .ref u_5, .int 0])), (u_4, .inl (cT 1, 800, .inr (.inl (fun _ => 0)))), (u_5, .inl (cT 0, 2048, .inl (fun _ => 0)))] := hD
    refine lv_aload_n hx hb dX1_init_27 rfl (lv_at hl 1 rfl) ?_
    refine lv_iload_n hx hb dX1_init_28 rfl (lv_at hl 0 rfl) ?_
    refine w_newI hx hb (hts (.arrayClass .int) (by decide +kernel)) hK hP hD hS hA 800 4 3651 dX1_init_29 (by decide) (by decide) (by decide) (Nat.le_of_ble_eq_true rfl) (Nat.le_of_ble_eq_true rfl) (Nat.le_of_ble_eq_true rfl) (Nat.le_of_ble_eq_true rfl) (fun q_6 H hP hD hS => ?_)
    have hP : va_P g vwCl [(o, .inr (1, [.ref q_1, .null, .null, .null, .int 0])), (q_1, .inr (2, [.ref u_4, .ref u_5, .int 0])), (u_4, .inl (cT 1, 800, .inr (.inl (fun _ => 0)))), (u_5, .inl (cT 0, 2048, .inl (fun _ => 0))), (q_6, .inl (cT 0, 800, .inl (fun _ => 0)))] H := hP
    have hD : va_D A [(o, .inr (1, [.ref q_1, .null, .null, .null, .int 0])), (q_1, .inr (2, [.ref u_4, .ref u_5, .int 0])), (u_4, .inl (cT 1, 800, .inr (.inl (fun _ => 0)))), (u_5, .inl (cT 0, 2048, .inl (fun _ => 0))), (q_6, .inl (cT 0, 800, .inl (fun _ => 0)))] := hD
    refine va_putF (C := RX1) (T := TX1) (N := 5) (v := .ref q_6) (ty := .array .int) hx hb hts hi_X1_init_X1 tyX1 tyX1_ok nmX1 hown hK hP hD hS 0 rfl rfl 1 (by decide) (hts (.fieldLink RX1 30 "BothWays$Finds" "parents" "[I") (by decide +kernel)) (fun _ h => h) rfl hin rfl (by decide +kernel) rfl rfl (Nat.le_of_ble_eq_true rfl) dX1_init_31 (fun H locs hP hD hS => ?_)
    have hP : va_P g vwCl [(o, .inr (1, [.ref q_1, .ref q_6, .null, .null, .int 0])), (q_1, .inr (2, [.ref u_4, .ref u_5, .int 0])), (u_4, .inl (cT 1, 800, .inr (.inl (fun _ => 0)))), (u_5, .inl (cT 0, 2048, .inl (fun _ => 0))), (q_6, .inl (cT 0, 800, .inl (fun _ => 0)))] H := hP
    have hD : va_D A [(o, .inr (1, [.ref q_1, .ref q_6, .null, .null, .int 0])), (q_1, .inr (2, [.ref u_4, .ref u_5, .int 0])), (u_4, .inl (cT 1, 800, .inr (.inl (fun _ => 0)))), (u_5, .inl (cT 0, 2048, .inl (fun _ => 0))), (q_6, .inl (cT 0, 800, .inl (fun _ => 0)))] := hD
    refine lv_aload_n hx hb dX1_init_34 rfl (lv_at hl 1 rfl) ?_
    refine lv_iload_n hx hb dX1_init_35 rfl (lv_at hl 0 rfl) ?_
    refine w_newI hx hb (hts (.arrayClass .int) (by decide +kernel)) hK hP hD hS hA 800 5 4451 dX1_init_36 (by decide) (by decide) (by decide) (Nat.le_of_ble_eq_true rfl) (Nat.le_of_ble_eq_true rfl) (Nat.le_of_ble_eq_true rfl) (Nat.le_of_ble_eq_true rfl) (fun q_7 H hP hD hS => ?_)
    have hP : va_P g vwCl [(o, .inr (1, [.ref q_1, .ref q_6, .null, .null, .int 0])), (q_1, .inr (2, [.ref u_4, .ref u_5, .int 0])), (u_4, .inl (cT 1, 800, .inr (.inl (fun _ => 0)))), (u_5, .inl (cT 0, 2048, .inl (fun _ => 0))), (q_6, .inl (cT 0, 800, .inl (fun _ => 0))), (q_7, .inl (cT 0, 800, .inl (fun _ => 0)))] H := hP
    have hD : va_D A [(o, .inr (1, [.ref q_1, .ref q_6, .null, .null, .int 0])), (q_1, .inr (2, [.ref u_4, .ref u_5, .int 0])), (u_4, .inl (cT 1, 800, .inr (.inl (fun _ => 0)))), (u_5, .inl (cT 0, 2048, .inl (fun _ => 0))), (q_6, .inl (cT 0, 800, .inl (fun _ => 0))), (q_7, .inl (cT 0, 800, .inl (fun _ => 0)))] := hD
    refine va_putF (C := RX1) (T := TX1) (N := 5) (v := .ref q_7) (ty := .array .int) hx hb hts hi_X1_init_X1 tyX1 tyX1_ok nmX1 hown hK hP hD hS 0 rfl rfl 2 (by decide) (hts (.fieldLink RX1 34 "BothWays$Finds" "lasts" "[I") (by decide +kernel)) (fun _ h => h) rfl hin rfl (by decide +kernel) rfl rfl (Nat.le_of_ble_eq_true rfl) dX1_init_38 (fun H locs hP hD hS => ?_)
    have hP : va_P g vwCl [(o, .inr (1, [.ref q_1, .ref q_6, .ref q_7, .null, .int 0])), (q_1, .inr (2, [.ref u_4, .ref u_5, .int 0])), (u_4, .inl (cT 1, 800, .inr (.inl (fun _ => 0)))), (u_5, .inl (cT 0, 2048, .inl (fun _ => 0))), (q_6, .inl (cT 0, 800, .inl (fun _ => 0))), (q_7, .inl (cT 0, 800, .inl (fun _ => 0)))] H := hP
    have hD : va_D A [(o, .inr (1, [.ref q_1, .ref q_6, .ref q_7, .null, .int 0])), (q_1, .inr (2, [.ref u_4, .ref u_5, .int 0])), (u_4, .inl (cT 1, 800, .inr (.inl (fun _ => 0)))), (u_5, .inl (cT 0, 2048, .inl (fun _ => 0))), (q_6, .inl (cT 0, 800, .inl (fun _ => 0))), (q_7, .inl (cT 0, 800, .inl (fun _ => 0)))] := hD
    refine lv_aload_n hx hb dX1_init_41 rfl (lv_at hl 1 rfl) ?_
    refine lv_iload_n hx hb dX1_init_42 rfl (lv_at hl 0 rfl) ?_
    refine w_newI hx hb (hts (.arrayClass .int) (by decide +kernel)) hK hP hD hS hA 800 6 5251 dX1_init_43 (by decide) (by decide) (by decide) (Nat.le_of_ble_eq_true rfl) (Nat.le_of_ble_eq_true rfl) (Nat.le_of_ble_eq_true rfl) (Nat.le_of_ble_eq_true rfl) (fun q_8 H hP hD hS => ?_)
    have hP : va_P g vwCl [(o, .inr (1, [.ref q_1, .ref q_6, .ref q_7, .null, .int 0])), (q_1, .inr (2, [.ref u_4, .ref u_5, .int 0])), (u_4, .inl (cT 1, 800, .inr (.inl (fun _ => 0)))), (u_5, .inl (cT 0, 2048, .inl (fun _ => 0))), (q_6, .inl (cT 0, 800, .inl (fun _ => 0))), (q_7, .inl (cT 0, 800, .inl (fun _ => 0))), (q_8, .inl (cT 0, 800, .inl (fun _ => 0)))] H := hP
    have hD : va_D A [(o, .inr (1, [.ref q_1, .ref q_6, .ref q_7, .null, .int 0])), (q_1, .inr (2, [.ref u_4, .ref u_5, .int 0])), (u_4, .inl (cT 1, 800, .inr (.inl (fun _ => 0)))), (u_5, .inl (cT 0, 2048, .inl (fun _ => 0))), (q_6, .inl (cT 0, 800, .inl (fun _ => 0))), (q_7, .inl (cT 0, 800, .inl (fun _ => 0))), (q_8, .inl (cT 0, 800, .inl (fun _ => 0)))] := hD
    refine va_putF (C := RX1) (T := TX1) (N := 5) (v := .ref q_8) (ty := .array .int) hx hb hts hi_X1_init_X1 tyX1 tyX1_ok nmX1 hown hK hP hD hS 0 rfl rfl 3 (by decide) (hts (.fieldLink RX1 37 "BothWays$Finds" "lengths" "[I") (by decide +kernel)) (fun _ h => h) rfl hin rfl (by decide +kernel) rfl rfl (Nat.le_of_ble_eq_true rfl) dX1_init_45 (fun H locs hP hD hS => ?_)
    have hP : va_P g vwCl [(o, .inr (1, [.ref q_1, .ref q_6, .ref q_7, .ref q_8, .int 0])), (q_1, .inr (2, [.ref u_4, .ref u_5, .int 0])), (u_4, .inl (cT 1, 800, .inr (.inl (fun _ => 0)))), (u_5, .inl (cT 0, 2048, .inl (fun _ => 0))), (q_6, .inl (cT 0, 800, .inl (fun _ => 0))), (q_7, .inl (cT 0, 800, .inl (fun _ => 0))), (q_8, .inl (cT 0, 800, .inl (fun _ => 0)))] H := hP
    have hD : va_D A [(o, .inr (1, [.ref q_1, .ref q_6, .ref q_7, .ref q_8, .int 0])), (q_1, .inr (2, [.ref u_4, .ref u_5, .int 0])), (u_4, .inl (cT 1, 800, .inr (.inl (fun _ => 0)))), (u_5, .inl (cT 0, 2048, .inl (fun _ => 0))), (q_6, .inl (cT 0, 800, .inl (fun _ => 0))), (q_7, .inl (cT 0, 800, .inl (fun _ => 0))), (q_8, .inl (cT 0, 800, .inl (fun _ => 0)))] := hD
    exact rt_v hx hb hr hlocks hQ hP hD hS (q_1, u_4, u_5, q_6, q_7, q_8) [0, 4, 5, 6, 1, 2, 3] dX1_init_48 (Nat.le_of_ble_eq_true rfl) (Nat.le_of_ble_eq_true rfl) rfl (by decide) trivial
  rw [hH, hlo] at hgo
  exact hgo
abbrev rm_c_F_init_4000 : Room := { frames := 2, cells := 6, slots := 24195, locals := 44 }
set_option maxHeartbeats 4000000 in
set_option maxRecDepth 100000 in
theorem c_F_init_4000 (l : Launch) (g : va_G) (cT : Nat → ClassId) (sz : Nat) (o : Nat)  : Ctr l g cT sz yX1_init wsX1_init rm_c_F_init_4000 [.ref o, .int 4000] [(o, .inr (1, [.null, .null, .null, .null, .int 0]))] (QV g (fun (u : Nat × Nat × Nat × Nat × Nat × Nat) => True) (fun (u : Nat × Nat × Nat × Nat × Nat × Nat) => [(o, .inr (1, [.ref u.1, .ref u.2.2.2.1, .ref u.2.2.2.2.1, .ref u.2.2.2.2.2, .int 0])), (u.2.2.2.1, .inl (cT 0, 4000, .inl (fun _ => 0))), (u.2.2.2.2.1, .inl (cT 0, 4000, .inl (fun _ => 0))), (u.2.2.2.2.2, .inl (cT 0, 4000, .inl (fun _ => 0))), (u.1, .inr (2, [.ref u.2.1, .ref u.2.2.1, .int 0])), (u.2.1, .inl (cT 1, 4000, .inr (.inl (fun _ => 0)))), (u.2.2.1, .inl (cT 0, 8192, .inl (fun _ => 0)))])) 6 24195 := by
  refine mk_ctr (cc := cX1_init) (maxL := 3) (ret := none) (by decide) rfl (Nat.le_of_ble_eq_true rfl) ?_
  intro p e s m args below meth c A Q hx hb hr hts hown hlocks hin hml hP hK hD hN hZ hA hS hQ ls hl
  have hl : lv_has ls 3 [(0, .ref o), (1, .int 4000)] := hl
  obtain ⟨H, hH⟩ : ∃ H : Heap, H = s.heap := ⟨_, rfl⟩
  obtain ⟨locs, hlo⟩ : ∃ x : List Loc, x = [] := ⟨_, rfl⟩
  rw [← hH] at hP
  have hS : va_S A s.heap H locs := by rw [hH, hlo]; exact hS
  have hgo : W p l e rm_c_F_init_4000 s m args below meth c H locs 0 0 Q (F0 m 0 ls []) := by
    clear hH hlo
    refine lv_aload_n hx hb dX1_init_0 rfl (lv_at hl 0 rfl) ?_
    refine W.objInit hx hb hown (hts (.methodLink RX1 3 objectInit) (by decide +kernel)) (hts (.instanceMethod objectInit) (by decide +kernel)) (hts _ (List.mem_cons_of_mem _ (List.mem_append_left _ (List.mem_append_left _ (List.mem_append_left _ (List.mem_of_getElem? (i := 2) rfl)))))) rfl (by rw [hml]; exact hl.1) rfl dX1_init_1 (Nat.le_of_ble_eq_true rfl) (Nat.le_of_ble_eq_true rfl) ?_
    refine W.eq (g2 := F0 m 4 ls []) rfl ?_
    refine lv_aload_n hx hb dX1_init_4 rfl (lv_at hl 0 rfl) ?_
    refine lv_iconst (v := 0) hx hb dX1_init_5 (by decide) ?_
    refine va_put (C := RX1) (T := TX1) (N := 5) (v := .int 0) (ty := .boolean) hx hb hts hi_X1_init_X1 tyX1 tyX1_ok nmX1 hown hK hP hD hS 0 rfl rfl 4 (by decide) (hts (.fieldLink RX1 9 "BothWays$Finds" "spent" "Z") (by decide +kernel)) (fun _ h => h) rfl (by decide +kernel) rfl rfl (Nat.le_of_ble_eq_true rfl) dX1_init_6 (fun H locs hP hD hS => ?_)
    have hP : va_P g vwCl [(o, .inr (1, [.null, .null, .null, .null, .int 0]))] H := hP
    have hD : va_D A [(o, .inr (1, [.null, .null, .null, .null, .int 0]))] := hD
    refine lv_iconst (v := 0) hx hb dX1_init_9 (by decide) ?_
    refine lv_iload_n hx hb dX1_init_10 rfl (lv_at hl 1 rfl) ?_
    refine va_mmax hx hb (hml.trans hl.1.symm) hown (hts (.methodLink RX1 15 Lib.Math.max.name) (by decide +kernel)) (hts (.static Lib.Math.max.name) (by decide +kernel)) (hts (.initialized "java/lang/Math") (by decide +kernel)) (hts (.code Lib.Math.max.name Lib.Math.max.code 2 (some .int)) (by decide +kernel)) (Nat.le_of_ble_eq_true rfl) (Nat.le_of_ble_eq_true rfl) (Nat.le_of_ble_eq_true rfl) (Nat.le_of_ble_eq_true rfl) dX1_init_11 ?_
    refine tI 4000 (by decide) ?_
    refine lv_istore_n (lv' := [(2, .int 4000), (0, .ref o), (1, .int 4000)]) hx hb dX1_init_14 rfl hl (by decide) rfl (fun ls hl => ?_)
    refine lv_aload_n hx hb dX1_init_15 rfl (lv_at hl 1 rfl) ?_
    refine va_new (ci := 2) (fs := [.null, .null, .int 0]) (C := RX2) (T := TX2) (N := 3) hx hb hts hi_X1_init_X2 tyX2 tyX2_ok hown (hts (.classLink RX1 21 RX2) (by decide +kernel)) (hts (.instantiable RX2 3) (by decide +kernel)) (hts (.initialized RX2) (by decide +kernel)) hK hP hD hS hA rfl dv_X2 (Nat.le_of_ble_eq_true rfl) (Nat.le_of_ble_eq_true rfl) dX1_init_16 (fun q_1 H hP hD hS => ?_)
    have hP : va_P g vwCl [(o, .inr (1, [.null, .null, .null, .null, .int 0])), (q_1, .inr (2, [.null, .null, .int 0]))] H := hP
    have hD : va_D A [(o, .inr (1, [.null, .null, .null, .null, .int 0])), (q_1, .inr (2, [.null, .null, .int 0]))] := hD
    refine W.widen (k := 1) (n := 3) (Nat.le_of_ble_eq_true rfl) (Nat.le_of_ble_eq_true rfl) ?_
    refine lv_dup hx hb dX1_init_19 rfl ?_
    refine lv_iload_n hx hb dX1_init_20 rfl (lv_at hl 0 rfl) ?_
    refine cj_v 3 12195 (wr := [(o, .inr (1, [.null, .null, .null, .null, .int 0]))]) (va_runI (As := [.int 4000]) (rest := [.ref q_1, .ref o]) ⟨hx, hb, hml, hown, hts⟩ (c_K_init_4000 l g cT H.size q_1) (cwI 1 hts gX1_init_X2_init rfl rfl rfl (hts (.initialized RX2) (by decide +kernel)) (hts (.methodLink RX1 23 yX2_init) (by decide +kernel)) (hts (.instanceMethod yX2_init) (by decide +kernel)) rfl yd_X2_init.2 ⟨(Nat.le_of_ble_eq_true rfl), (Nat.le_of_ble_eq_true rfl)⟩) (preS (wc := [(q_1, .inr (2, [.null, .null, .int 0]))]) rfl hP hD hK hN hZ hS hA [1] rfl (by decide)) rfl rfl hl.1 rfl (lv_room (Nat.le_of_ble_eq_true rfl)) dX1_init_21 ⟨(Nat.le_of_ble_eq_true rfl), (Nat.le_of_ble_eq_true rfl)⟩) hP hD hS hA [1] [0] rfl rfl (by decide) (by decide) (Nat.le_of_ble_eq_true rfl) (Nat.le_of_ble_eq_true rfl) (fun u H locs h_3 hP hD hS => ?_)
    obtain ⟨u_4, u_5⟩ := u
    have hP : va_P g vwCl [(o, .inr (1, [.null, .null, .null, .null, .int 0])), (q_1, .inr (2, [.ref u_4, .ref u_5, .int 0])), (u_4, .inl (cT 1, 4000, .inr (.inl (fun _ => 0)))), (u_5, .inl (cT 0, 8192, .inl (fun _ => 0)))] H := hP
    have hD : va_D A [(o, .inr (1, [.null, .null, .null, .null, .int 0])), (q_1, .inr (2, [.ref u_4, .ref u_5, .int 0])), (u_4, .inl (cT 1, 4000, .inr (.inl (fun _ => 0)))), (u_5, .inl (cT 0, 8192, .inl (fun _ => 0)))] := hD
    refine va_putF (C := RX1) (T := TX1) (N := 5) (v := .ref q_1) (ty := .object "BothWays$Keys") hx hb hts hi_X1_init_X1 tyX1 tyX1_ok nmX1 hown hK hP hD hS 0 rfl rfl 0 (by decide) (hts (.fieldLink RX1 26 "BothWays$Finds" "keys" "LBothWays$Keys;") (by decide +kernel)) (fun _ h => h) rfl hin rfl (by decide +kernel) rfl rfl (Nat.le_of_ble_eq_true rfl) dX1_init_24 (fun H locs hP hD hS => ?_)
    have hP : va_P g vwCl [(o, .inr (1, [.ref q_1, .null, .null, .null, .int 0])), (q_1, .inr (2, [.ref u_4, .ref u_5, .int 0])), (u_4, .inl (cT 1, 4000, .inr (.inl (fun _ => 0)))), (u_5, .inl (cT 0, 8192, .inl (fun _ => 0)))] H := hP
    have hD : va_D A [(o, .inr (1, [.ref q_1, .null, .null, .null, .int 0])), (q_1, .inr (2, [.ref u_4, .ref u_5, .int 0])), (u_4, .inl (cT 1, 4000, .inr (.inl (fun _ => 0)))), (u_5, .inl (cT 0, 8192, .inl (fun _ => 0)))] := hD
    refine lv_aload_n hx hb dX1_init_27 rfl (lv_at hl 1 rfl) ?_
    refine lv_iload_n hx hb dX1_init_28 rfl (lv_at hl 0 rfl) ?_
    refine w_newI hx hb (hts (.arrayClass .int) (by decide +kernel)) hK hP hD hS hA 4000 4 16195 dX1_init_29 (by decide) (by decide) (by decide) (Nat.le_of_ble_eq_true rfl) (Nat.le_of_ble_eq_true rfl) (Nat.le_of_ble_eq_true rfl) (Nat.le_of_ble_eq_true rfl) (fun q_6 H hP hD hS => ?_)
    have hP : va_P g vwCl [(o, .inr (1, [.ref q_1, .null, .null, .null, .int 0])), (q_1, .inr (2, [.ref u_4, .ref u_5, .int 0])), (u_4, .inl (cT 1, 4000, .inr (.inl (fun _ => 0)))), (u_5, .inl (cT 0, 8192, .inl (fun _ => 0))), (q_6, .inl (cT 0, 4000, .inl (fun _ => 0)))] H := hP
    have hD : va_D A [(o, .inr (1, [.ref q_1, .null, .null, .null, .int 0])), (q_1, .inr (2, [.ref u_4, .ref u_5, .int 0])), (u_4, .inl (cT 1, 4000, .inr (.inl (fun _ => 0)))), (u_5, .inl (cT 0, 8192, .inl (fun _ => 0))), (q_6, .inl (cT 0, 4000, .inl (fun _ => 0)))] := hD
    refine va_putF (C := RX1) (T := TX1) (N := 5) (v := .ref q_6) (ty := .array .int) hx hb hts hi_X1_init_X1 tyX1 tyX1_ok nmX1 hown hK hP hD hS 0 rfl rfl 1 (by decide) (hts (.fieldLink RX1 30 "BothWays$Finds" "parents" "[I") (by decide +kernel)) (fun _ h => h) rfl hin rfl (by decide +kernel) rfl rfl (Nat.le_of_ble_eq_true rfl) dX1_init_31 (fun H locs hP hD hS => ?_)
    have hP : va_P g vwCl [(o, .inr (1, [.ref q_1, .ref q_6, .null, .null, .int 0])), (q_1, .inr (2, [.ref u_4, .ref u_5, .int 0])), (u_4, .inl (cT 1, 4000, .inr (.inl (fun _ => 0)))), (u_5, .inl (cT 0, 8192, .inl (fun _ => 0))), (q_6, .inl (cT 0, 4000, .inl (fun _ => 0)))] H := hP
    have hD : va_D A [(o, .inr (1, [.ref q_1, .ref q_6, .null, .null, .int 0])), (q_1, .inr (2, [.ref u_4, .ref u_5, .int 0])), (u_4, .inl (cT 1, 4000, .inr (.inl (fun _ => 0)))), (u_5, .inl (cT 0, 8192, .inl (fun _ => 0))), (q_6, .inl (cT 0, 4000, .inl (fun _ => 0)))] := hD
    refine lv_aload_n hx hb dX1_init_34 rfl (lv_at hl 1 rfl) ?_
    refine lv_iload_n hx hb dX1_init_35 rfl (lv_at hl 0 rfl) ?_
    refine w_newI hx hb (hts (.arrayClass .int) (by decide +kernel)) hK hP hD hS hA 4000 5 20195 dX1_init_36 (by decide) (by decide) (by decide) (Nat.le_of_ble_eq_true rfl) (Nat.le_of_ble_eq_true rfl) (Nat.le_of_ble_eq_true rfl) (Nat.le_of_ble_eq_true rfl) (fun q_7 H hP hD hS => ?_)
    have hP : va_P g vwCl [(o, .inr (1, [.ref q_1, .ref q_6, .null, .null, .int 0])), (q_1, .inr (2, [.ref u_4, .ref u_5, .int 0])), (u_4, .inl (cT 1, 4000, .inr (.inl (fun _ => 0)))), (u_5, .inl (cT 0, 8192, .inl (fun _ => 0))), (q_6, .inl (cT 0, 4000, .inl (fun _ => 0))), (q_7, .inl (cT 0, 4000, .inl (fun _ => 0)))] H := hP
    have hD : va_D A [(o, .inr (1, [.ref q_1, .ref q_6, .null, .null, .int 0])), (q_1, .inr (2, [.ref u_4, .ref u_5, .int 0])), (u_4, .inl (cT 1, 4000, .inr (.inl (fun _ => 0)))), (u_5, .inl (cT 0, 8192, .inl (fun _ => 0))), (q_6, .inl (cT 0, 4000, .inl (fun _ => 0))), (q_7, .inl (cT 0, 4000, .inl (fun _ => 0)))] := hD
    refine va_putF (C := RX1) (T := TX1) (N := 5) (v := .ref q_7) (ty := .array .int) hx hb hts hi_X1_init_X1 tyX1 tyX1_ok nmX1 hown hK hP hD hS 0 rfl rfl 2 (by decide) (hts (.fieldLink RX1 34 "BothWays$Finds" "lasts" "[I") (by decide +kernel)) (fun _ h => h) rfl hin rfl (by decide +kernel) rfl rfl (Nat.le_of_ble_eq_true rfl) dX1_init_38 (fun H locs hP hD hS => ?_)
    have hP : va_P g vwCl [(o, .inr (1, [.ref q_1, .ref q_6, .ref q_7, .null, .int 0])), (q_1, .inr (2, [.ref u_4, .ref u_5, .int 0])), (u_4, .inl (cT 1, 4000, .inr (.inl (fun _ => 0)))), (u_5, .inl (cT 0, 8192, .inl (fun _ => 0))), (q_6, .inl (cT 0, 4000, .inl (fun _ => 0))), (q_7, .inl (cT 0, 4000, .inl (fun _ => 0)))] H := hP
    have hD : va_D A [(o, .inr (1, [.ref q_1, .ref q_6, .ref q_7, .null, .int 0])), (q_1, .inr (2, [.ref u_4, .ref u_5, .int 0])), (u_4, .inl (cT 1, 4000, .inr (.inl (fun _ => 0)))), (u_5, .inl (cT 0, 8192, .inl (fun _ => 0))), (q_6, .inl (cT 0, 4000, .inl (fun _ => 0))), (q_7, .inl (cT 0, 4000, .inl (fun _ => 0)))] := hD
    refine lv_aload_n hx hb dX1_init_41 rfl (lv_at hl 1 rfl) ?_
    refine lv_iload_n hx hb dX1_init_42 rfl (lv_at hl 0 rfl) ?_
    refine w_newI hx hb (hts (.arrayClass .int) (by decide +kernel)) hK hP hD hS hA 4000 6 24195 dX1_init_43 (by decide) (by decide) (by decide) (Nat.le_of_ble_eq_true rfl) (Nat.le_of_ble_eq_true rfl) (Nat.le_of_ble_eq_true rfl) (Nat.le_of_ble_eq_true rfl) (fun q_8 H hP hD hS => ?_)
    have hP : va_P g vwCl [(o, .inr (1, [.ref q_1, .ref q_6, .ref q_7, .null, .int 0])), (q_1, .inr (2, [.ref u_4, .ref u_5, .int 0])), (u_4, .inl (cT 1, 4000, .inr (.inl (fun _ => 0)))), (u_5, .inl (cT 0, 8192, .inl (fun _ => 0))), (q_6, .inl (cT 0, 4000, .inl (fun _ => 0))), (q_7, .inl (cT 0, 4000, .inl (fun _ => 0))), (q_8, .inl (cT 0, 4000, .inl (fun _ => 0)))] H := hP
    have hD : va_D A [(o, .inr (1, [.ref q_1, .ref q_6, .ref q_7, .null, .int 0])), (q_1, .inr (2, [.ref u_4, .ref u_5, .int 0])), (u_4, .inl (cT 1, 4000, .inr (.inl (fun _ => 0)))), (u_5, .inl (cT 0, 8192, .inl (fun _ => 0))), (q_6, .inl (cT 0, 4000, .inl (fun _ => 0))), (q_7, .inl (cT 0, 4000, .inl (fun _ => 0))), (q_8, .inl (cT 0, 4000, .inl (fun _ => 0)))] := hD
    refine va_putF (C := RX1) (T := TX1) (N := 5) (v := .ref q_8) (ty := .array .int) hx hb hts hi_X1_init_X1 tyX1 tyX1_ok nmX1 hown hK hP hD hS 0 rfl rfl 3 (by decide) (hts (.fieldLink RX1 37 "BothWays$Finds" "lengths" "[I") (by decide +kernel)) (fun _ h => h) rfl hin rfl (by decide +kernel) rfl rfl (Nat.le_of_ble_eq_true rfl) dX1_init_45 (fun H locs hP hD hS => ?_)
    have hP : va_P g vwCl [(o, .inr (1, [.ref q_1, .ref q_6, .ref q_7, .ref q_8, .int 0])), (q_1, .inr (2, [.ref u_4, .ref u_5, .int 0])), (u_4, .inl (cT 1, 4000, .inr (.inl (fun _ => 0)))), (u_5, .inl (cT 0, 8192, .inl (fun _ => 0))), (q_6, .inl (cT 0, 4000, .inl (fun _ => 0))), (q_7, .inl (cT 0, 4000, .inl (fun _ => 0))), (q_8, .inl (cT 0, 4000, .inl (fun _ => 0)))] H := hP
    have hD : va_D A [(o, .inr (1, [.ref q_1, .ref q_6, .ref q_7, .ref q_8, .int 0])), (q_1, .inr (2, [.ref u_4, .ref u_5, .int 0])), (u_4, .inl (cT 1, 4000, .inr (.inl (fun _ => 0)))), (u_5, .inl (cT 0, 8192, .inl (fun _ => 0))), (q_6, .inl (cT 0, 4000, .inl (fun _ => 0))), (q_7, .inl (cT 0, 4000, .inl (fun _ => 0))), (q_8, .inl (cT 0, 4000, .inl (fun _ => 0)))] := hD
    exact rt_v hx hb hr hlocks hQ hP hD hS (q_1, u_4, u_5, q_6, q_7, q_8) [0, 4, 5, 6, 1, 2, 3] dX1_init_48 (Nat.le_of_ble_eq_true rfl) (Nat.le_of_ble_eq_true rfl) rfl (by decide) trivial
  rw [hH, hlo] at hgo
  exact hgo
theorem hi_X1_clear_X1 : ∀ w ∈ wsX10, w ∈ wsX1_clear := fun _ h => List.mem_cons_of_mem _ (List.mem_append_left _ (List.mem_append_right _ h))
theorem yd_X2_clear : yX2_clear.cls = RX2 ∧ yX2_clear.cls ≠ "java/lang/invoke/MethodHandle" ∧ yX2_clear.cls ≠ "java/lang/invoke/VarHandle" ∧ (parseMethodDescriptor yX2_clear.desc).map (fun d => d.parameters.length) = some 0 := by decide +kernel
abbrev rm_c_F_clear : Room := { frames := 2, cells := 0, slots := 0, locals := 43 }
set_option maxHeartbeats 4000000 in
set_option maxRecDepth 100000 in
theorem c_F_clear (l : Launch) (g : va_G) (cT : Nat → ClassId) (sz : Nat) (o : Nat) (k : Nat) (a : Nat) (b : Nat) (pa : Nat) (la : Nat) (le : Nat) (z : Int32) (n : Nat) (f : Nat → Int32) (y : Int32) (hn : n < 2 ^ 31) : Ctr l g cT sz yX1_clear wsX1_clear rm_c_F_clear [.ref o] [(o, .inr (1, [.ref k, .ref pa, .ref la, .ref le, .int y])), (k, .inr (2, [.ref a, .ref b, .int z])), (b, .inl (cT 0, n, .inl f))] (QV g (fun (u : Unit) => True) (fun (u : Unit) => [(o, .inr (1, [.ref k, .ref pa, .ref la, .ref le, .int 0])), (k, .inr (2, [.ref a, .ref b, .int 0])), (b, .inl (cT 0, n, .inl (fun _ => 0)))])) 0 0 := by
  refine mk_ctr (cc := cX1_clear) (maxL := 1) (ret := none) (by decide) rfl (Nat.le_of_ble_eq_true rfl) ?_
  intro p e s m args below meth c A Q hx hb hr hts hown hlocks hin hml hP hK hD hN hZ hA hS hQ ls hl
  have hl : lv_has ls 1 [(0, .ref o)] := hl
  obtain ⟨H, hH⟩ : ∃ H : Heap, H = s.heap := ⟨_, rfl⟩
  obtain ⟨locs, hlo⟩ : ∃ x : List Loc, x = [] := ⟨_, rfl⟩
  rw [← hH] at hP
  have hS : va_S A s.heap H locs := by rw [hH, hlo]; exact hS
  have hgo : W p l e rm_c_F_clear s m args below meth c H locs 0 0 Q (F0 m 0 ls []) := by
    clear hH hlo
    refine lv_aload_n hx hb dX1_clear_0 rfl (lv_at hl 0 rfl) ?_
    refine va_get (C := RX1) (T := TX1) (N := 5) (v := .ref k) hx hb hts hi_X1_clear_X1 hown hK hP 0 rfl rfl 0 (by decide) (hts (.fieldLink RX1 26 "BothWays$Finds" "keys" "LBothWays$Keys;") (by decide +kernel)) (fun _ h => h) rfl dX1_clear_1 ?_
    refine cj_v 0 0 (wr := [(o, .inr (1, [.ref k, .ref pa, .ref la, .ref le, .int y]))]) (va_runV (As := []) (rest := []) ⟨hx, hb, hml, hown, hts⟩ (c_K_clear l g cT H.size k a b z n f hn) (cwV 0 hts gX1_clear_X2_clear rfl rfl rfl yd_X2_clear ⟨(Nat.le_of_ble_eq_true rfl), (Nat.le_of_ble_eq_true rfl)⟩) (preV (wc := [(k, .inr (2, [.ref a, .ref b, .int z])), (b, .inl (cT 0, n, .inl f))]) rfl hP hD hK hN hZ hS hA [1, 2] rfl (by decide) (ci := 2) (q0 := 1) rfl rfl) rfl rfl hl.1 rfl (lv_room (Nat.le_of_ble_eq_true rfl)) dX1_clear_4 ⟨(Nat.le_of_ble_eq_true rfl), (Nat.le_of_ble_eq_true rfl)⟩) hP hD hS hA [1, 2] [0] rfl rfl (by decide) (by decide) (Nat.le_of_ble_eq_true rfl) (Nat.le_of_ble_eq_true rfl) (fun u H locs h_2 hP hD hS => ?_)
    have hP : va_P g vwCl [(o, .inr (1, [.ref k, .ref pa, .ref la, .ref le, .int y])), (k, .inr (2, [.ref a, .ref b, .int 0])), (b, .inl (cT 0, n, .inl (fun _ => 0)))] H := hP
    have hD : va_D A [(o, .inr (1, [.ref k, .ref pa, .ref la, .ref le, .int y])), (k, .inr (2, [.ref a, .ref b, .int 0])), (b, .inl (cT 0, n, .inl (fun _ => 0)))] := hD
    refine lv_aload_n hx hb dX1_clear_7 rfl (lv_at hl 0 rfl) ?_
    refine lv_iconst (v := 0) hx hb dX1_clear_8 (by decide) ?_
    refine va_put (C := RX1) (T := TX1) (N := 5) (v := .int 0) (ty := .boolean) hx hb hts hi_X1_clear_X1 tyX1 tyX1_ok nmX1 hown hK hP hD hS 0 rfl rfl 4 (by decide) (hts (.fieldLink RX1 9 "BothWays$Finds" "spent" "Z") (by decide +kernel)) (fun _ h => h) rfl (by decide +kernel) rfl rfl (Nat.le_of_ble_eq_true rfl) dX1_clear_9 (fun H locs hP hD hS => ?_)
    have hP : va_P g vwCl [(o, .inr (1, [.ref k, .ref pa, .ref la, .ref le, .int 0])), (k, .inr (2, [.ref a, .ref b, .int 0])), (b, .inl (cT 0, n, .inl (fun _ => 0)))] H := hP
    have hD : va_D A [(o, .inr (1, [.ref k, .ref pa, .ref la, .ref le, .int 0])), (k, .inr (2, [.ref a, .ref b, .int 0])), (b, .inl (cT 0, n, .inl (fun _ => 0)))] := hD
    exact rt_v hx hb hr hlocks hQ hP hD hS () [0, 1, 2] dX1_clear_12 (Nat.le_of_ble_eq_true rfl) (Nat.le_of_ble_eq_true rfl) rfl (by decide) trivial
  rw [hH, hlo] at hgo
  exact hgo
theorem hi_X1_reach_X1 : ∀ w ∈ wsX10, w ∈ wsX1_reach := fun _ h => List.mem_cons_of_mem _ (List.mem_append_left _ (List.mem_append_right _ h))
theorem hi_X1_reach_X2 : ∀ w ∈ wsX20, w ∈ wsX1_reach := fun _ h => List.mem_cons_of_mem _ (List.mem_append_right _ h)
theorem yd_X2_indexWith : yX2_indexWith.cls = RX2 ∧ yX2_indexWith.cls ≠ "java/lang/invoke/MethodHandle" ∧ yX2_indexWith.cls ≠ "java/lang/invoke/VarHandle" ∧ (parseMethodDescriptor yX2_indexWith.desc).map (fun d => d.parameters.length) = some 1 := by decide +kernel
abbrev rm_c_F_reach_800_10485770e : Room := { frames := 2, cells := 0, slots := 0, locals := 49 }
set_option maxHeartbeats 4000000 in
set_option maxRecDepth 100000 in
theorem c_F_reach_800_10485770e (l : Launch) (g : va_G) (cT : Nat → ClassId) (sz : Nat) (o : Nat) (k : Nat) (a : Nat) (b : Nat) (pa : Nat) (la : Nat) (le : Nat)  : Ctr l g cT sz yX1_reach wsX1_reach rm_c_F_reach_800_10485770e [.ref o, .long 10485770, .int (-1), .int 0] [(o, .inr (1, [.ref k, .ref pa, .ref la, .ref le, .int 0])), (pa, .inl (cT 0, 800, .inl (fun _ => 0))), (la, .inl (cT 0, 800, .inl (fun _ => 0))), (le, .inl (cT 0, 800, .inl (fun _ => 0))), (k, .inr (2, [.ref a, .ref b, .int 0])), (a, .inl (cT 1, 800, .inr (.inl (fun _ => 0)))), (b, .inl (cT 0, 2048, .inl (fun _ => 0)))] (QI g (fun (r : Int32) (u : Unit) => r = 0) (fun (u : Unit) => [(o, .inr (1, [.ref k, .ref pa, .ref la, .ref le, .int 0])), (pa, .inl (cT 0, 800, .inl (upd (fun _ => 0) 0 (-1)))), (la, .inl (cT 0, 800, .inl (fun _ => 0))), (le, .inl (cT 0, 800, .inl (upd (fun _ => 0) 0 1))), (k, .inr (2, [.ref a, .ref b, .int 1])), (a, .inl (cT 1, 800, .inr (.inl (vp_updL (fun _ => 0) 0 10485770)))), (b, .inl (cT 0, 2048, .inl (upd (fun _ => 0) 591 1)))])) 0 0 := by
  refine mk_ctr (cc := cX1_reach) (maxL := 7) (ret := (some .int)) (by decide) rfl (Nat.le_of_ble_eq_true rfl) ?_
  intro p e s m args below meth c A Q hx hb hr hts hown hlocks hin hml hP hK hD hN hZ hA hS hQ ls hl
  have hl : lv_has ls 7 [(0, .ref o), (1, .long 10485770), (3, .int (-1)), (4, .int 0)] := hl
  obtain ⟨H, hH⟩ : ∃ H : Heap, H = s.heap := ⟨_, rfl⟩
  obtain ⟨locs, hlo⟩ : ∃ x : List Loc, x = [] := ⟨_, rfl⟩
  rw [← hH] at hP
  have hS : va_S A s.heap H locs := by rw [hH, hlo]; exact hS
  have hgo : W p l e rm_c_F_reach_800_10485770e s m args below meth c H locs 0 0 Q (F0 m 0 ls []) := by
    clear hH hlo
    refine lv_aload_n hx hb dX1_reach_0 rfl (lv_at hl 0 rfl) ?_
    refine va_get (C := RX1) (T := TX1) (N := 5) (v := .ref k) hx hb hts hi_X1_reach_X1 hown hK hP 0 rfl rfl 0 (by decide) (hts (.fieldLink RX1 26 "BothWays$Finds" "keys" "LBothWays$Keys;") (by decide +kernel)) (fun _ h => h) rfl dX1_reach_1 ?_
    refine va_getN (C := RX2) (T := TX2) (N := 3) (v := .int 0) hx hb hts hi_X1_reach_X2 hown hK hP 4 rfl rfl 2 (by decide) (nf_20 hN) (fun _ h => h) rfl dX1_reach_4 ?_
    refine lv_istore (lv' := [(5, .int 0), (0, .ref o), (1, .long 10485770), (3, .int (-1)), (4, .int 0)]) hx hb dX1_reach_7 hl (by decide) rfl (fun ls hl => ?_)
    refine lv_aload_n hx hb dX1_reach_9 rfl (lv_at hl 1 rfl) ?_
    refine va_get (C := RX1) (T := TX1) (N := 5) (v := .ref k) hx hb hts hi_X1_reach_X1 hown hK hP 0 rfl rfl 0 (by decide) (hts (.fieldLink RX1 26 "BothWays$Finds" "keys" "LBothWays$Keys;") (by decide +kernel)) (fun _ h => h) rfl dX1_reach_10 ?_
    refine lv_lload_n hx hb dX1_reach_13 rfl (lv_at hl 2 rfl) ?_
    refine cj_i 0 0 (wr := [(o, .inr (1, [.ref k, .ref pa, .ref la, .ref le, .int 0])), (pa, .inl (cT 0, 800, .inl (fun _ => 0))), (la, .inl (cT 0, 800, .inl (fun _ => 0))), (le, .inl (cT 0, 800, .inl (fun _ => 0)))]) (va_runV (As := [.long 10485770]) (rest := []) ⟨hx, hb, hml, hown, hts⟩ (c_K_indexWith_800_10485770e l g cT H.size k a b) (cwV 1 hts gX1_reach_X2_indexWith rfl rfl rfl yd_X2_indexWith ⟨(Nat.le_of_ble_eq_true rfl), (Nat.le_of_ble_eq_true rfl)⟩) (preV (wc := [(k, .inr (2, [.ref a, .ref b, .int 0])), (a, .inl (cT 1, 800, .inr (.inl (fun _ => 0)))), (b, .inl (cT 0, 2048, .inl (fun _ => 0)))]) rfl hP hD hK hN hZ hS hA [4, 5, 6] rfl (by decide) (ci := 2) (q0 := 4) rfl rfl) rfl rfl hl.1 rfl (lv_room (Nat.le_of_ble_eq_true rfl)) dX1_reach_14 ⟨(Nat.le_of_ble_eq_true rfl), (Nat.le_of_ble_eq_true rfl)⟩) hP hD hS hA [4, 5, 6] [0, 1, 2, 3] rfl rfl (by decide) (by decide) (Nat.le_of_ble_eq_true rfl) (Nat.le_of_ble_eq_true rfl) (fun r_1 u H locs h_2 hP hD hS => ?_)
    have hP : va_P g vwCl [(o, .inr (1, [.ref k, .ref pa, .ref la, .ref le, .int 0])), (pa, .inl (cT 0, 800, .inl (fun _ => 0))), (la, .inl (cT 0, 800, .inl (fun _ => 0))), (le, .inl (cT 0, 800, .inl (fun _ => 0))), (k, .inr (2, [.ref a, .ref b, .int 1])), (a, .inl (cT 1, 800, .inr (.inl (vp_updL (fun _ => 0) 0 10485770)))), (b, .inl (cT 0, 2048, .inl (upd (fun _ => 0) 591 1)))] H := hP
    have hD : va_D A [(o, .inr (1, [.ref k, .ref pa, .ref la, .ref le, .int 0])), (pa, .inl (cT 0, 800, .inl (fun _ => 0))), (la, .inl (cT 0, 800, .inl (fun _ => 0))), (le, .inl (cT 0, 800, .inl (fun _ => 0))), (k, .inr (2, [.ref a, .ref b, .int 1])), (a, .inl (cT 1, 800, .inr (.inl (vp_updL (fun _ => 0) 0 10485770)))), (b, .inl (cT 0, 2048, .inl (upd (fun _ => 0) 591 1)))] := hD
    subst h_2
    refine lv_istore (lv' := [(6, .int 0), (5, .int 0), (0, .ref o), (1, .long 10485770), (3, .int (-1)), (4, .int 0)]) hx hb dX1_reach_17 hl (by decide) rfl (fun ls hl => ?_)
    refine lv_iload hx hb dX1_reach_19 (lv_at hl 0 rfl) ?_
    refine lv_iconst (v := (-1)) hx hb dX1_reach_21 (by decide) ?_
    refine icmp_ne_t hx hb 33 dX1_reach_22 (by decide) (by decide) ?_
    refine lv_iload hx hb dX1_reach_33 (lv_at hl 0 rfl) ?_
    refine lv_iload hx hb dX1_reach_35 (lv_at hl 1 rfl) ?_
    refine icmp_ne_f hx hb dX1_reach_37 106 (by decide) (by decide) ?_
    refine lv_iload hx hb dX1_reach_40 (lv_at hl 0 rfl) ?_
    refine lv_aload_n hx hb dX1_reach_42 rfl (lv_at hl 2 rfl) ?_
    refine va_get (C := RX1) (T := TX1) (N := 5) (v := .ref pa) hx hb hts hi_X1_reach_X1 hown hK hP 0 rfl rfl 1 (by decide) (hts (.fieldLink RX1 30 "BothWays$Finds" "parents" "[I") (by decide +kernel)) (fun _ h => h) rfl dX1_reach_43 ?_
    refine va_alen (v := 800) hx hb hK hP 1 0 rfl rfl rfl dX1_reach_46 ?_
    refine icmp_ge_f hx hb dX1_reach_47 106 (by decide) (by decide) ?_
    refine lv_aload_n hx hb dX1_reach_50 rfl (lv_at hl 2 rfl) ?_
    refine va_get (C := RX1) (T := TX1) (N := 5) (v := .ref pa) hx hb hts hi_X1_reach_X1 hown hK hP 0 rfl rfl 1 (by decide) (hts (.fieldLink RX1 30 "BothWays$Finds" "parents" "[I") (by decide +kernel)) (fun _ h => h) rfl dX1_reach_51 ?_
    refine lv_iload hx hb dX1_reach_54 (lv_at hl 0 rfl) ?_
    refine lv_iload_n hx hb dX1_reach_56 rfl (lv_at hl 4 rfl) ?_
    refine w_iast (f' := (upd (fun _ => 0) 0 (-1))) hx hb hK hP hD hS 1 rfl dX1_reach_57 (inC (by decide)) rfl (fun H locs hP hD hS => ?_)
    have hP : va_P g vwCl [(o, .inr (1, [.ref k, .ref pa, .ref la, .ref le, .int 0])), (pa, .inl (cT 0, 800, .inl (upd (fun _ => 0) 0 (-1)))), (la, .inl (cT 0, 800, .inl (fun _ => 0))), (le, .inl (cT 0, 800, .inl (fun _ => 0))), (k, .inr (2, [.ref a, .ref b, .int 1])), (a, .inl (cT 1, 800, .inr (.inl (vp_updL (fun _ => 0) 0 10485770)))), (b, .inl (cT 0, 2048, .inl (upd (fun _ => 0) 591 1)))] H := hP
    have hD : va_D A [(o, .inr (1, [.ref k, .ref pa, .ref la, .ref le, .int 0])), (pa, .inl (cT 0, 800, .inl (upd (fun _ => 0) 0 (-1)))), (la, .inl (cT 0, 800, .inl (fun _ => 0))), (le, .inl (cT 0, 800, .inl (fun _ => 0))), (k, .inr (2, [.ref a, .ref b, .int 1])), (a, .inl (cT 1, 800, .inr (.inl (vp_updL (fun _ => 0) 0 10485770)))), (b, .inl (cT 0, 2048, .inl (upd (fun _ => 0) 591 1)))] := hD
    refine lv_aload_n hx hb dX1_reach_58 rfl (lv_at hl 2 rfl) ?_
    refine va_get (C := RX1) (T := TX1) (N := 5) (v := .ref la) hx hb hts hi_X1_reach_X1 hown hK hP 0 rfl rfl 2 (by decide) (hts (.fieldLink RX1 34 "BothWays$Finds" "lasts" "[I") (by decide +kernel)) (fun _ h => h) rfl dX1_reach_59 ?_
    refine lv_iload hx hb dX1_reach_62 (lv_at hl 0 rfl) ?_
    refine lv_iload hx hb dX1_reach_64 (lv_at hl 5 rfl) ?_
    refine w_iast (f' := (fun _ => 0)) hx hb hK hP hD hS 2 rfl dX1_reach_66 (inC (by decide)) (upd_c _ _) (fun H locs hP hD hS => ?_)
    have hP : va_P g vwCl [(o, .inr (1, [.ref k, .ref pa, .ref la, .ref le, .int 0])), (pa, .inl (cT 0, 800, .inl (upd (fun _ => 0) 0 (-1)))), (la, .inl (cT 0, 800, .inl (fun _ => 0))), (le, .inl (cT 0, 800, .inl (fun _ => 0))), (k, .inr (2, [.ref a, .ref b, .int 1])), (a, .inl (cT 1, 800, .inr (.inl (vp_updL (fun _ => 0) 0 10485770)))), (b, .inl (cT 0, 2048, .inl (upd (fun _ => 0) 591 1)))] H := hP
    have hD : va_D A [(o, .inr (1, [.ref k, .ref pa, .ref la, .ref le, .int 0])), (pa, .inl (cT 0, 800, .inl (upd (fun _ => 0) 0 (-1)))), (la, .inl (cT 0, 800, .inl (fun _ => 0))), (le, .inl (cT 0, 800, .inl (fun _ => 0))), (k, .inr (2, [.ref a, .ref b, .int 1])), (a, .inl (cT 1, 800, .inr (.inl (vp_updL (fun _ => 0) 0 10485770)))), (b, .inl (cT 0, 2048, .inl (upd (fun _ => 0) 591 1)))] := hD
    refine lv_aload_n hx hb dX1_reach_67 rfl (lv_at hl 2 rfl) ?_
    refine va_get (C := RX1) (T := TX1) (N := 5) (v := .ref le) hx hb hts hi_X1_reach_X1 hown hK hP 0 rfl rfl 3 (by decide) (hts (.fieldLink RX1 37 "BothWays$Finds" "lengths" "[I") (by decide +kernel)) (fun _ h => h) rfl dX1_reach_68 ?_
    refine lv_iload hx hb dX1_reach_71 (lv_at hl 0 rfl) ?_
    refine lv_iload_n hx hb dX1_reach_73 rfl (lv_at hl 4 rfl) ?_
    refine if_lt_t hx hb 92 dX1_reach_74 (by decide) (by decide) ?_
    refine lv_iconst (v := 0) hx hb dX1_reach_92 (by decide) ?_
    refine lv_iload hx hb dX1_reach_93 (lv_at hl 5 rfl) ?_
    refine lv_iconst (v := (-1)) hx hb dX1_reach_95 (by decide) ?_
    refine icmp_ne_t hx hb 103 dX1_reach_96 (by decide) (by decide) ?_
    refine lv_iconst (v := 1) hx hb dX1_reach_103 (by decide) ?_
    refine w_iadd (v := 1) hx hb dX1_reach_104 (by decide) ?_
    refine w_iast (f' := (upd (fun _ => 0) 0 1)) hx hb hK hP hD hS 3 rfl dX1_reach_105 (inC (by decide)) rfl (fun H locs hP hD hS => ?_)
    have hP : va_P g vwCl [(o, .inr (1, [.ref k, .ref pa, .ref la, .ref le, .int 0])), (pa, .inl (cT 0, 800, .inl (upd (fun _ => 0) 0 (-1)))), (la, .inl (cT 0, 800, .inl (fun _ => 0))), (le, .inl (cT 0, 800, .inl (upd (fun _ => 0) 0 1))), (k, .inr (2, [.ref a, .ref b, .int 1])), (a, .inl (cT 1, 800, .inr (.inl (vp_updL (fun _ => 0) 0 10485770)))), (b, .inl (cT 0, 2048, .inl (upd (fun _ => 0) 591 1)))] H := hP
    have hD : va_D A [(o, .inr (1, [.ref k, .ref pa, .ref la, .ref le, .int 0])), (pa, .inl (cT 0, 800, .inl (upd (fun _ => 0) 0 (-1)))), (la, .inl (cT 0, 800, .inl (fun _ => 0))), (le, .inl (cT 0, 800, .inl (upd (fun _ => 0) 0 1))), (k, .inr (2, [.ref a, .ref b, .int 1])), (a, .inl (cT 1, 800, .inr (.inl (vp_updL (fun _ => 0) 0 10485770)))), (b, .inl (cT 0, 2048, .inl (upd (fun _ => 0) 591 1)))] := hD
    refine lv_iload hx hb dX1_reach_106 (lv_at hl 0 rfl) ?_
    exact rt_i hx hb hr hlocks hQ hP hD hS () [0, 1, 2, 3, 4, 5, 6] dX1_reach_108 rfl (Nat.le_of_ble_eq_true rfl) (Nat.le_of_ble_eq_true rfl) rfl (by decide) rfl
  rw [hH, hlo] at hgo
  exact hgo
abbrev rm_c_F_reach_800_10485770p : Room := { frames := 2, cells := 0, slots := 0, locals := 49 }
set_option maxHeartbeats 4000000 in
set_option maxRecDepth 100000 in
theorem c_F_reach_800_10485770p (l : Launch) (g : va_G) (cT : Nat → ClassId) (sz : Nat) (o : Nat) (k : Nat) (a : Nat) (b : Nat) (pa : Nat) (la : Nat) (le : Nat) (pr : Int32) (lt : Int32)  : Ctr l g cT sz yX1_reach wsX1_reach rm_c_F_reach_800_10485770p [.ref o, .long 10485770, .int pr, .int lt] [(o, .inr (1, [.ref k, .ref pa, .ref la, .ref le, .int 0])), (pa, .inl (cT 0, 800, .inl (upd (fun _ => 0) 0 (-1)))), (la, .inl (cT 0, 800, .inl (fun _ => 0))), (le, .inl (cT 0, 800, .inl (upd (fun _ => 0) 0 1))), (k, .inr (2, [.ref a, .ref b, .int 1])), (a, .inl (cT 1, 800, .inr (.inl (vp_updL (fun _ => 0) 0 10485770)))), (b, .inl (cT 0, 2048, .inl (upd (fun _ => 0) 591 1)))] (QI g (fun (r : Int32) (u : Unit) => r = 0) (fun (u : Unit) => [(o, .inr (1, [.ref k, .ref pa, .ref la, .ref le, .int 0])), (pa, .inl (cT 0, 800, .inl (upd (fun _ => 0) 0 (-1)))), (la, .inl (cT 0, 800, .inl (fun _ => 0))), (le, .inl (cT 0, 800, .inl (upd (fun _ => 0) 0 1))), (k, .inr (2, [.ref a, .ref b, .int 1])), (a, .inl (cT 1, 800, .inr (.inl (vp_updL (fun _ => 0) 0 10485770)))), (b, .inl (cT 0, 2048, .inl (upd (fun _ => 0) 591 1)))])) 0 0 := by
  refine mk_ctr (cc := cX1_reach) (maxL := 7) (ret := (some .int)) (by decide) rfl (Nat.le_of_ble_eq_true rfl) ?_
  intro p e s m args below meth c A Q hx hb hr hts hown hlocks hin hml hP hK hD hN hZ hA hS hQ ls hl
  have hl : lv_has ls 7 [(0, .ref o), (1, .long 10485770), (3, .int pr), (4, .int lt)] := hl
  obtain ⟨H, hH⟩ : ∃ H : Heap, H = s.heap := ⟨_, rfl⟩
  obtain ⟨locs, hlo⟩ : ∃ x : List Loc, x = [] := ⟨_, rfl⟩
  rw [← hH] at hP
  have hS : va_S A s.heap H locs := by rw [hH, hlo]; exact hS
  have hgo : W p l e rm_c_F_reach_800_10485770p s m args below meth c H locs 0 0 Q (F0 m 0 ls []) := by
    clear hH hlo
    refine lv_aload_n hx hb dX1_reach_0 rfl (lv_at hl 0 rfl) ?_
    refine va_get (C := RX1) (T := TX1) (N := 5) (v := .ref k) hx hb hts hi_X1_reach_X1 hown hK hP 0 rfl rfl 0 (by decide) (hts (.fieldLink RX1 26 "BothWays$Finds" "keys" "LBothWays$Keys;") (by decide +kernel)) (fun _ h => h) rfl dX1_reach_1 ?_
    refine va_getN (C := RX2) (T := TX2) (N := 3) (v := .int 1) hx hb hts hi_X1_reach_X2 hown hK hP 4 rfl rfl 2 (by decide) (nf_20 hN) (fun _ h => h) rfl dX1_reach_4 ?_
    refine lv_istore (lv' := [(5, .int 1), (0, .ref o), (1, .long 10485770), (3, .int pr), (4, .int lt)]) hx hb dX1_reach_7 hl (by decide) rfl (fun ls hl => ?_)
    refine lv_aload_n hx hb dX1_reach_9 rfl (lv_at hl 1 rfl) ?_
    refine va_get (C := RX1) (T := TX1) (N := 5) (v := .ref k) hx hb hts hi_X1_reach_X1 hown hK hP 0 rfl rfl 0 (by decide) (hts (.fieldLink RX1 26 "BothWays$Finds" "keys" "LBothWays$Keys;") (by decide +kernel)) (fun _ h => h) rfl dX1_reach_10 ?_
    refine lv_lload_n hx hb dX1_reach_13 rfl (lv_at hl 2 rfl) ?_
    refine cj_i 0 0 (wr := [(o, .inr (1, [.ref k, .ref pa, .ref la, .ref le, .int 0])), (pa, .inl (cT 0, 800, .inl (upd (fun _ => 0) 0 (-1)))), (la, .inl (cT 0, 800, .inl (fun _ => 0))), (le, .inl (cT 0, 800, .inl (upd (fun _ => 0) 0 1)))]) (va_runV (As := [.long 10485770]) (rest := []) ⟨hx, hb, hml, hown, hts⟩ (c_K_indexWith_800_10485770p l g cT H.size k a b) (cwV 1 hts gX1_reach_X2_indexWith rfl rfl rfl yd_X2_indexWith ⟨(Nat.le_of_ble_eq_true rfl), (Nat.le_of_ble_eq_true rfl)⟩) (preV (wc := [(k, .inr (2, [.ref a, .ref b, .int 1])), (a, .inl (cT 1, 800, .inr (.inl (vp_updL (fun _ => 0) 0 10485770)))), (b, .inl (cT 0, 2048, .inl (upd (fun _ => 0) 591 1)))]) rfl hP hD hK hN hZ hS hA [4, 5, 6] rfl (by decide) (ci := 2) (q0 := 4) rfl rfl) rfl rfl hl.1 rfl (lv_room (Nat.le_of_ble_eq_true rfl)) dX1_reach_14 ⟨(Nat.le_of_ble_eq_true rfl), (Nat.le_of_ble_eq_true rfl)⟩) hP hD hS hA [4, 5, 6] [0, 1, 2, 3] rfl rfl (by decide) (by decide) (Nat.le_of_ble_eq_true rfl) (Nat.le_of_ble_eq_true rfl) (fun r_1 u H locs h_2 hP hD hS => ?_)
    have hP : va_P g vwCl [(o, .inr (1, [.ref k, .ref pa, .ref la, .ref le, .int 0])), (pa, .inl (cT 0, 800, .inl (upd (fun _ => 0) 0 (-1)))), (la, .inl (cT 0, 800, .inl (fun _ => 0))), (le, .inl (cT 0, 800, .inl (upd (fun _ => 0) 0 1))), (k, .inr (2, [.ref a, .ref b, .int 1])), (a, .inl (cT 1, 800, .inr (.inl (vp_updL (fun _ => 0) 0 10485770)))), (b, .inl (cT 0, 2048, .inl (upd (fun _ => 0) 591 1)))] H := hP
    have hD : va_D A [(o, .inr (1, [.ref k, .ref pa, .ref la, .ref le, .int 0])), (pa, .inl (cT 0, 800, .inl (upd (fun _ => 0) 0 (-1)))), (la, .inl (cT 0, 800, .inl (fun _ => 0))), (le, .inl (cT 0, 800, .inl (upd (fun _ => 0) 0 1))), (k, .inr (2, [.ref a, .ref b, .int 1])), (a, .inl (cT 1, 800, .inr (.inl (vp_updL (fun _ => 0) 0 10485770)))), (b, .inl (cT 0, 2048, .inl (upd (fun _ => 0) 591 1)))] := hD
    subst h_2
    refine lv_istore (lv' := [(6, .int 0), (5, .int 1), (0, .ref o), (1, .long 10485770), (3, .int pr), (4, .int lt)]) hx hb dX1_reach_17 hl (by decide) rfl (fun ls hl => ?_)
    refine lv_iload hx hb dX1_reach_19 (lv_at hl 0 rfl) ?_
    refine lv_iconst (v := (-1)) hx hb dX1_reach_21 (by decide) ?_
    refine icmp_ne_t hx hb 33 dX1_reach_22 (by decide) (by decide) ?_
    refine lv_iload hx hb dX1_reach_33 (lv_at hl 0 rfl) ?_
    refine lv_iload hx hb dX1_reach_35 (lv_at hl 1 rfl) ?_
    refine icmp_ne_t hx hb 106 dX1_reach_37 (by decide) (by decide) ?_
    refine lv_iload hx hb dX1_reach_106 (lv_at hl 0 rfl) ?_
    exact rt_i hx hb hr hlocks hQ hP hD hS () [0, 1, 2, 3, 4, 5, 6] dX1_reach_108 rfl (Nat.le_of_ble_eq_true rfl) (Nat.le_of_ble_eq_true rfl) rfl (by decide) rfl
  rw [hH, hlo] at hgo
  exact hgo
abbrev rm_c_F_reach_800_45e : Room := { frames := 2, cells := 0, slots := 0, locals := 49 }
set_option maxHeartbeats 4000000 in
set_option maxRecDepth 100000 in
theorem c_F_reach_800_45e (l : Launch) (g : va_G) (cT : Nat → ClassId) (sz : Nat) (o : Nat) (k : Nat) (a : Nat) (b : Nat) (pa : Nat) (la : Nat) (le : Nat)  : Ctr l g cT sz yX1_reach wsX1_reach rm_c_F_reach_800_45e [.ref o, .long 45, .int (-1), .int (-1)] [(o, .inr (1, [.ref k, .ref pa, .ref la, .ref le, .int 0])), (pa, .inl (cT 0, 800, .inl (fun _ => 0))), (la, .inl (cT 0, 800, .inl (fun _ => 0))), (le, .inl (cT 0, 800, .inl (fun _ => 0))), (k, .inr (2, [.ref a, .ref b, .int 0])), (a, .inl (cT 1, 800, .inr (.inl (fun _ => 0)))), (b, .inl (cT 0, 2048, .inl (fun _ => 0)))] (QI g (fun (r : Int32) (u : Unit) => r = 0) (fun (u : Unit) => [(o, .inr (1, [.ref k, .ref pa, .ref la, .ref le, .int 0])), (pa, .inl (cT 0, 800, .inl (upd (fun _ => 0) 0 (-1)))), (la, .inl (cT 0, 800, .inl (upd (fun _ => 0) 0 (-1)))), (le, .inl (cT 0, 800, .inl (fun _ => 0))), (k, .inr (2, [.ref a, .ref b, .int 1])), (a, .inl (cT 1, 800, .inr (.inl (vp_updL (fun _ => 0) 0 45)))), (b, .inl (cT 0, 2048, .inl (upd (fun _ => 0) 101 1)))])) 0 0 := by
  refine mk_ctr (cc := cX1_reach) (maxL := 7) (ret := (some .int)) (by decide) rfl (Nat.le_of_ble_eq_true rfl) ?_
  intro p e s m args below meth c A Q hx hb hr hts hown hlocks hin hml hP hK hD hN hZ hA hS hQ ls hl
  have hl : lv_has ls 7 [(0, .ref o), (1, .long 45), (3, .int (-1)), (4, .int (-1))] := hl
  obtain ⟨H, hH⟩ : ∃ H : Heap, H = s.heap := ⟨_, rfl⟩
  obtain ⟨locs, hlo⟩ : ∃ x : List Loc, x = [] := ⟨_, rfl⟩
  rw [← hH] at hP
  have hS : va_S A s.heap H locs := by rw [hH, hlo]; exact hS
  have hgo : W p l e rm_c_F_reach_800_45e s m args below meth c H locs 0 0 Q (F0 m 0 ls []) := by
    clear hH hlo
    refine lv_aload_n hx hb dX1_reach_0 rfl (lv_at hl 0 rfl) ?_
    refine va_get (C := RX1) (T := TX1) (N := 5) (v := .ref k) hx hb hts hi_X1_reach_X1 hown hK hP 0 rfl rfl 0 (by decide) (hts (.fieldLink RX1 26 "BothWays$Finds" "keys" "LBothWays$Keys;") (by decide +kernel)) (fun _ h => h) rfl dX1_reach_1 ?_
    refine va_getN (C := RX2) (T := TX2) (N := 3) (v := .int 0) hx hb hts hi_X1_reach_X2 hown hK hP 4 rfl rfl 2 (by decide) (nf_20 hN) (fun _ h => h) rfl dX1_reach_4 ?_
    refine lv_istore (lv' := [(5, .int 0), (0, .ref o), (1, .long 45), (3, .int (-1)), (4, .int (-1))]) hx hb dX1_reach_7 hl (by decide) rfl (fun ls hl => ?_)
    refine lv_aload_n hx hb dX1_reach_9 rfl (lv_at hl 1 rfl) ?_
    refine va_get (C := RX1) (T := TX1) (N := 5) (v := .ref k) hx hb hts hi_X1_reach_X1 hown hK hP 0 rfl rfl 0 (by decide) (hts (.fieldLink RX1 26 "BothWays$Finds" "keys" "LBothWays$Keys;") (by decide +kernel)) (fun _ h => h) rfl dX1_reach_10 ?_
    refine lv_lload_n hx hb dX1_reach_13 rfl (lv_at hl 2 rfl) ?_
    refine cj_i 0 0 (wr := [(o, .inr (1, [.ref k, .ref pa, .ref la, .ref le, .int 0])), (pa, .inl (cT 0, 800, .inl (fun _ => 0))), (la, .inl (cT 0, 800, .inl (fun _ => 0))), (le, .inl (cT 0, 800, .inl (fun _ => 0)))]) (va_runV (As := [.long 45]) (rest := []) ⟨hx, hb, hml, hown, hts⟩ (c_K_indexWith_800_45e l g cT H.size k a b) (cwV 1 hts gX1_reach_X2_indexWith rfl rfl rfl yd_X2_indexWith ⟨(Nat.le_of_ble_eq_true rfl), (Nat.le_of_ble_eq_true rfl)⟩) (preV (wc := [(k, .inr (2, [.ref a, .ref b, .int 0])), (a, .inl (cT 1, 800, .inr (.inl (fun _ => 0)))), (b, .inl (cT 0, 2048, .inl (fun _ => 0)))]) rfl hP hD hK hN hZ hS hA [4, 5, 6] rfl (by decide) (ci := 2) (q0 := 4) rfl rfl) rfl rfl hl.1 rfl (lv_room (Nat.le_of_ble_eq_true rfl)) dX1_reach_14 ⟨(Nat.le_of_ble_eq_true rfl), (Nat.le_of_ble_eq_true rfl)⟩) hP hD hS hA [4, 5, 6] [0, 1, 2, 3] rfl rfl (by decide) (by decide) (Nat.le_of_ble_eq_true rfl) (Nat.le_of_ble_eq_true rfl) (fun r_1 u H locs h_2 hP hD hS => ?_)
    have hP : va_P g vwCl [(o, .inr (1, [.ref k, .ref pa, .ref la, .ref le, .int 0])), (pa, .inl (cT 0, 800, .inl (fun _ => 0))), (la, .inl (cT 0, 800, .inl (fun _ => 0))), (le, .inl (cT 0, 800, .inl (fun _ => 0))), (k, .inr (2, [.ref a, .ref b, .int 1])), (a, .inl (cT 1, 800, .inr (.inl (vp_updL (fun _ => 0) 0 45)))), (b, .inl (cT 0, 2048, .inl (upd (fun _ => 0) 101 1)))] H := hP
    have hD : va_D A [(o, .inr (1, [.ref k, .ref pa, .ref la, .ref le, .int 0])), (pa, .inl (cT 0, 800, .inl (fun _ => 0))), (la, .inl (cT 0, 800, .inl (fun _ => 0))), (le, .inl (cT 0, 800, .inl (fun _ => 0))), (k, .inr (2, [.ref a, .ref b, .int 1])), (a, .inl (cT 1, 800, .inr (.inl (vp_updL (fun _ => 0) 0 45)))), (b, .inl (cT 0, 2048, .inl (upd (fun _ => 0) 101 1)))] := hD
    subst h_2
    refine lv_istore (lv' := [(6, .int 0), (5, .int 0), (0, .ref o), (1, .long 45), (3, .int (-1)), (4, .int (-1))]) hx hb dX1_reach_17 hl (by decide) rfl (fun ls hl => ?_)
    refine lv_iload hx hb dX1_reach_19 (lv_at hl 0 rfl) ?_
    refine lv_iconst (v := (-1)) hx hb dX1_reach_21 (by decide) ?_
    refine icmp_ne_t hx hb 33 dX1_reach_22 (by decide) (by decide) ?_
    refine lv_iload hx hb dX1_reach_33 (lv_at hl 0 rfl) ?_
    refine lv_iload hx hb dX1_reach_35 (lv_at hl 1 rfl) ?_
    refine icmp_ne_f hx hb dX1_reach_37 106 (by decide) (by decide) ?_
    refine lv_iload hx hb dX1_reach_40 (lv_at hl 0 rfl) ?_
    refine lv_aload_n hx hb dX1_reach_42 rfl (lv_at hl 2 rfl) ?_
    refine va_get (C := RX1) (T := TX1) (N := 5) (v := .ref pa) hx hb hts hi_X1_reach_X1 hown hK hP 0 rfl rfl 1 (by decide) (hts (.fieldLink RX1 30 "BothWays$Finds" "parents" "[I") (by decide +kernel)) (fun _ h => h) rfl dX1_reach_43 ?_
    refine va_alen (v := 800) hx hb hK hP 1 0 rfl rfl rfl dX1_reach_46 ?_
    refine icmp_ge_f hx hb dX1_reach_47 106 (by decide) (by decide) ?_
    refine lv_aload_n hx hb dX1_reach_50 rfl (lv_at hl 2 rfl) ?_
    refine va_get (C := RX1) (T := TX1) (N := 5) (v := .ref pa) hx hb hts hi_X1_reach_X1 hown hK hP 0 rfl rfl 1 (by decide) (hts (.fieldLink RX1 30 "BothWays$Finds" "parents" "[I") (by decide +kernel)) (fun _ h => h) rfl dX1_reach_51 ?_
    refine lv_iload hx hb dX1_reach_54 (lv_at hl 0 rfl) ?_
    refine lv_iload_n hx hb dX1_reach_56 rfl (lv_at hl 4 rfl) ?_
    refine w_iast (f' := (upd (fun _ => 0) 0 (-1))) hx hb hK hP hD hS 1 rfl dX1_reach_57 (inC (by decide)) rfl (fun H locs hP hD hS => ?_)
    have hP : va_P g vwCl [(o, .inr (1, [.ref k, .ref pa, .ref la, .ref le, .int 0])), (pa, .inl (cT 0, 800, .inl (upd (fun _ => 0) 0 (-1)))), (la, .inl (cT 0, 800, .inl (fun _ => 0))), (le, .inl (cT 0, 800, .inl (fun _ => 0))), (k, .inr (2, [.ref a, .ref b, .int 1])), (a, .inl (cT 1, 800, .inr (.inl (vp_updL (fun _ => 0) 0 45)))), (b, .inl (cT 0, 2048, .inl (upd (fun _ => 0) 101 1)))] H := hP
    have hD : va_D A [(o, .inr (1, [.ref k, .ref pa, .ref la, .ref le, .int 0])), (pa, .inl (cT 0, 800, .inl (upd (fun _ => 0) 0 (-1)))), (la, .inl (cT 0, 800, .inl (fun _ => 0))), (le, .inl (cT 0, 800, .inl (fun _ => 0))), (k, .inr (2, [.ref a, .ref b, .int 1])), (a, .inl (cT 1, 800, .inr (.inl (vp_updL (fun _ => 0) 0 45)))), (b, .inl (cT 0, 2048, .inl (upd (fun _ => 0) 101 1)))] := hD
    refine lv_aload_n hx hb dX1_reach_58 rfl (lv_at hl 2 rfl) ?_
    refine va_get (C := RX1) (T := TX1) (N := 5) (v := .ref la) hx hb hts hi_X1_reach_X1 hown hK hP 0 rfl rfl 2 (by decide) (hts (.fieldLink RX1 34 "BothWays$Finds" "lasts" "[I") (by decide +kernel)) (fun _ h => h) rfl dX1_reach_59 ?_
    refine lv_iload hx hb dX1_reach_62 (lv_at hl 0 rfl) ?_
    refine lv_iload hx hb dX1_reach_64 (lv_at hl 5 rfl) ?_
    refine w_iast (f' := (upd (fun _ => 0) 0 (-1))) hx hb hK hP hD hS 2 rfl dX1_reach_66 (inC (by decide)) rfl (fun H locs hP hD hS => ?_)
    have hP : va_P g vwCl [(o, .inr (1, [.ref k, .ref pa, .ref la, .ref le, .int 0])), (pa, .inl (cT 0, 800, .inl (upd (fun _ => 0) 0 (-1)))), (la, .inl (cT 0, 800, .inl (upd (fun _ => 0) 0 (-1)))), (le, .inl (cT 0, 800, .inl (fun _ => 0))), (k, .inr (2, [.ref a, .ref b, .int 1])), (a, .inl (cT 1, 800, .inr (.inl (vp_updL (fun _ => 0) 0 45)))), (b, .inl (cT 0, 2048, .inl (upd (fun _ => 0) 101 1)))] H := hP
    have hD : va_D A [(o, .inr (1, [.ref k, .ref pa, .ref la, .ref le, .int 0])), (pa, .inl (cT 0, 800, .inl (upd (fun _ => 0) 0 (-1)))), (la, .inl (cT 0, 800, .inl (upd (fun _ => 0) 0 (-1)))), (le, .inl (cT 0, 800, .inl (fun _ => 0))), (k, .inr (2, [.ref a, .ref b, .int 1])), (a, .inl (cT 1, 800, .inr (.inl (vp_updL (fun _ => 0) 0 45)))), (b, .inl (cT 0, 2048, .inl (upd (fun _ => 0) 101 1)))] := hD
    refine lv_aload_n hx hb dX1_reach_67 rfl (lv_at hl 2 rfl) ?_
    refine va_get (C := RX1) (T := TX1) (N := 5) (v := .ref le) hx hb hts hi_X1_reach_X1 hown hK hP 0 rfl rfl 3 (by decide) (hts (.fieldLink RX1 37 "BothWays$Finds" "lengths" "[I") (by decide +kernel)) (fun _ h => h) rfl dX1_reach_68 ?_
    refine lv_iload hx hb dX1_reach_71 (lv_at hl 0 rfl) ?_
    refine lv_iload_n hx hb dX1_reach_73 rfl (lv_at hl 4 rfl) ?_
    refine if_lt_t hx hb 92 dX1_reach_74 (by decide) (by decide) ?_
    refine lv_iconst (v := 0) hx hb dX1_reach_92 (by decide) ?_
    refine lv_iload hx hb dX1_reach_93 (lv_at hl 5 rfl) ?_
    refine lv_iconst (v := (-1)) hx hb dX1_reach_95 (by decide) ?_
    refine icmp_ne_f hx hb dX1_reach_96 103 (by decide) (by decide) ?_
    refine lv_iconst (v := 0) hx hb dX1_reach_99 (by decide) ?_
    refine lv_goto (tgt := 104) hx hb dX1_reach_100 (by decide) ?_
    refine w_iadd (v := 0) hx hb dX1_reach_104 (by decide) ?_
    refine w_iast (f' := (fun _ => 0)) hx hb hK hP hD hS 3 rfl dX1_reach_105 (inC (by decide)) (upd_c _ _) (fun H locs hP hD hS => ?_)
    have hP : va_P g vwCl [(o, .inr (1, [.ref k, .ref pa, .ref la, .ref le, .int 0])), (pa, .inl (cT 0, 800, .inl (upd (fun _ => 0) 0 (-1)))), (la, .inl (cT 0, 800, .inl (upd (fun _ => 0) 0 (-1)))), (le, .inl (cT 0, 800, .inl (fun _ => 0))), (k, .inr (2, [.ref a, .ref b, .int 1])), (a, .inl (cT 1, 800, .inr (.inl (vp_updL (fun _ => 0) 0 45)))), (b, .inl (cT 0, 2048, .inl (upd (fun _ => 0) 101 1)))] H := hP
    have hD : va_D A [(o, .inr (1, [.ref k, .ref pa, .ref la, .ref le, .int 0])), (pa, .inl (cT 0, 800, .inl (upd (fun _ => 0) 0 (-1)))), (la, .inl (cT 0, 800, .inl (upd (fun _ => 0) 0 (-1)))), (le, .inl (cT 0, 800, .inl (fun _ => 0))), (k, .inr (2, [.ref a, .ref b, .int 1])), (a, .inl (cT 1, 800, .inr (.inl (vp_updL (fun _ => 0) 0 45)))), (b, .inl (cT 0, 2048, .inl (upd (fun _ => 0) 101 1)))] := hD
    refine lv_iload hx hb dX1_reach_106 (lv_at hl 0 rfl) ?_
    exact rt_i hx hb hr hlocks hQ hP hD hS () [0, 1, 2, 3, 4, 5, 6] dX1_reach_108 rfl (Nat.le_of_ble_eq_true rfl) (Nat.le_of_ble_eq_true rfl) rfl (by decide) rfl
  rw [hH, hlo] at hgo
  exact hgo
abbrev rm_c_F_reach_800_45p : Room := { frames := 2, cells := 0, slots := 0, locals := 49 }
set_option maxHeartbeats 4000000 in
set_option maxRecDepth 100000 in
theorem c_F_reach_800_45p (l : Launch) (g : va_G) (cT : Nat → ClassId) (sz : Nat) (o : Nat) (k : Nat) (a : Nat) (b : Nat) (pa : Nat) (la : Nat) (le : Nat) (pr : Int32) (lt : Int32)  : Ctr l g cT sz yX1_reach wsX1_reach rm_c_F_reach_800_45p [.ref o, .long 45, .int pr, .int lt] [(o, .inr (1, [.ref k, .ref pa, .ref la, .ref le, .int 0])), (pa, .inl (cT 0, 800, .inl (upd (fun _ => 0) 0 (-1)))), (la, .inl (cT 0, 800, .inl (upd (fun _ => 0) 0 (-1)))), (le, .inl (cT 0, 800, .inl (fun _ => 0))), (k, .inr (2, [.ref a, .ref b, .int 1])), (a, .inl (cT 1, 800, .inr (.inl (vp_updL (fun _ => 0) 0 45)))), (b, .inl (cT 0, 2048, .inl (upd (fun _ => 0) 101 1)))] (QI g (fun (r : Int32) (u : Unit) => r = 0) (fun (u : Unit) => [(o, .inr (1, [.ref k, .ref pa, .ref la, .ref le, .int 0])), (pa, .inl (cT 0, 800, .inl (upd (fun _ => 0) 0 (-1)))), (la, .inl (cT 0, 800, .inl (upd (fun _ => 0) 0 (-1)))), (le, .inl (cT 0, 800, .inl (fun _ => 0))), (k, .inr (2, [.ref a, .ref b, .int 1])), (a, .inl (cT 1, 800, .inr (.inl (vp_updL (fun _ => 0) 0 45)))), (b, .inl (cT 0, 2048, .inl (upd (fun _ => 0) 101 1)))])) 0 0 := by
  refine mk_ctr (cc := cX1_reach) (maxL := 7) (ret := (some .int)) (by decide) rfl (Nat.le_of_ble_eq_true rfl) ?_
  intro p e s m args below meth c A Q hx hb hr hts hown hlocks hin hml hP hK hD hN hZ hA hS hQ ls hl
  have hl : lv_has ls 7 [(0, .ref o), (1, .long 45), (3, .int pr), (4, .int lt)] := hl
  obtain ⟨H, hH⟩ : ∃ H : Heap, H = s.heap := ⟨_, rfl⟩
  obtain ⟨locs, hlo⟩ : ∃ x : List Loc, x = [] := ⟨_, rfl⟩
  rw [← hH] at hP
  have hS : va_S A s.heap H locs := by rw [hH, hlo]; exact hS
  have hgo : W p l e rm_c_F_reach_800_45p s m args below meth c H locs 0 0 Q (F0 m 0 ls []) := by
    clear hH hlo
    refine lv_aload_n hx hb dX1_reach_0 rfl (lv_at hl 0 rfl) ?_
    refine va_get (C := RX1) (T := TX1) (N := 5) (v := .ref k) hx hb hts hi_X1_reach_X1 hown hK hP 0 rfl rfl 0 (by decide) (hts (.fieldLink RX1 26 "BothWays$Finds" "keys" "LBothWays$Keys;") (by decide +kernel)) (fun _ h => h) rfl dX1_reach_1 ?_
    refine va_getN (C := RX2) (T := TX2) (N := 3) (v := .int 1) hx hb hts hi_X1_reach_X2 hown hK hP 4 rfl rfl 2 (by decide) (nf_20 hN) (fun _ h => h) rfl dX1_reach_4 ?_
    refine lv_istore (lv' := [(5, .int 1), (0, .ref o), (1, .long 45), (3, .int pr), (4, .int lt)]) hx hb dX1_reach_7 hl (by decide) rfl (fun ls hl => ?_)
    refine lv_aload_n hx hb dX1_reach_9 rfl (lv_at hl 1 rfl) ?_
    refine va_get (C := RX1) (T := TX1) (N := 5) (v := .ref k) hx hb hts hi_X1_reach_X1 hown hK hP 0 rfl rfl 0 (by decide) (hts (.fieldLink RX1 26 "BothWays$Finds" "keys" "LBothWays$Keys;") (by decide +kernel)) (fun _ h => h) rfl dX1_reach_10 ?_
    refine lv_lload_n hx hb dX1_reach_13 rfl (lv_at hl 2 rfl) ?_
    refine cj_i 0 0 (wr := [(o, .inr (1, [.ref k, .ref pa, .ref la, .ref le, .int 0])), (pa, .inl (cT 0, 800, .inl (upd (fun _ => 0) 0 (-1)))), (la, .inl (cT 0, 800, .inl (upd (fun _ => 0) 0 (-1)))), (le, .inl (cT 0, 800, .inl (fun _ => 0)))]) (va_runV (As := [.long 45]) (rest := []) ⟨hx, hb, hml, hown, hts⟩ (c_K_indexWith_800_45p l g cT H.size k a b) (cwV 1 hts gX1_reach_X2_indexWith rfl rfl rfl yd_X2_indexWith ⟨(Nat.le_of_ble_eq_true rfl), (Nat.le_of_ble_eq_true rfl)⟩) (preV (wc := [(k, .inr (2, [.ref a, .ref b, .int 1])), (a, .inl (cT 1, 800, .inr (.inl (vp_updL (fun _ => 0) 0 45)))), (b, .inl (cT 0, 2048, .inl (upd (fun _ => 0) 101 1)))]) rfl hP hD hK hN hZ hS hA [4, 5, 6] rfl (by decide) (ci := 2) (q0 := 4) rfl rfl) rfl rfl hl.1 rfl (lv_room (Nat.le_of_ble_eq_true rfl)) dX1_reach_14 ⟨(Nat.le_of_ble_eq_true rfl), (Nat.le_of_ble_eq_true rfl)⟩) hP hD hS hA [4, 5, 6] [0, 1, 2, 3] rfl rfl (by decide) (by decide) (Nat.le_of_ble_eq_true rfl) (Nat.le_of_ble_eq_true rfl) (fun r_1 u H locs h_2 hP hD hS => ?_)
    have hP : va_P g vwCl [(o, .inr (1, [.ref k, .ref pa, .ref la, .ref le, .int 0])), (pa, .inl (cT 0, 800, .inl (upd (fun _ => 0) 0 (-1)))), (la, .inl (cT 0, 800, .inl (upd (fun _ => 0) 0 (-1)))), (le, .inl (cT 0, 800, .inl (fun _ => 0))), (k, .inr (2, [.ref a, .ref b, .int 1])), (a, .inl (cT 1, 800, .inr (.inl (vp_updL (fun _ => 0) 0 45)))), (b, .inl (cT 0, 2048, .inl (upd (fun _ => 0) 101 1)))] H := hP
    have hD : va_D A [(o, .inr (1, [.ref k, .ref pa, .ref la, .ref le, .int 0])), (pa, .inl (cT 0, 800, .inl (upd (fun _ => 0) 0 (-1)))), (la, .inl (cT 0, 800, .inl (upd (fun _ => 0) 0 (-1)))), (le, .inl (cT 0, 800, .inl (fun _ => 0))), (k, .inr (2, [.ref a, .ref b, .int 1])), (a, .inl (cT 1, 800, .inr (.inl (vp_updL (fun _ => 0) 0 45)))), (b, .inl (cT 0, 2048, .inl (upd (fun _ => 0) 101 1)))] := hD
    subst h_2
    refine lv_istore (lv' := [(6, .int 0), (5, .int 1), (0, .ref o), (1, .long 45), (3, .int pr), (4, .int lt)]) hx hb dX1_reach_17 hl (by decide) rfl (fun ls hl => ?_)
    refine lv_iload hx hb dX1_reach_19 (lv_at hl 0 rfl) ?_
    refine lv_iconst (v := (-1)) hx hb dX1_reach_21 (by decide) ?_
    refine icmp_ne_t hx hb 33 dX1_reach_22 (by decide) (by decide) ?_
    refine lv_iload hx hb dX1_reach_33 (lv_at hl 0 rfl) ?_
    refine lv_iload hx hb dX1_reach_35 (lv_at hl 1 rfl) ?_
    refine icmp_ne_t hx hb 106 dX1_reach_37 (by decide) (by decide) ?_
    refine lv_iload hx hb dX1_reach_106 (lv_at hl 0 rfl) ?_
    exact rt_i hx hb hr hlocks hQ hP hD hS () [0, 1, 2, 3, 4, 5, 6] dX1_reach_108 rfl (Nat.le_of_ble_eq_true rfl) (Nat.le_of_ble_eq_true rfl) rfl (by decide) rfl
  rw [hH, hlo] at hgo
  exact hgo
abbrev rm_c_F_reach_4000_0e : Room := { frames := 2, cells := 0, slots := 0, locals := 49 }
set_option maxHeartbeats 4000000 in
set_option maxRecDepth 100000 in
theorem c_F_reach_4000_0e (l : Launch) (g : va_G) (cT : Nat → ClassId) (sz : Nat) (o : Nat) (k : Nat) (a : Nat) (b : Nat) (pa : Nat) (la : Nat) (le : Nat)  : Ctr l g cT sz yX1_reach wsX1_reach rm_c_F_reach_4000_0e [.ref o, .long 0, .int (-1), .int (-1)] [(o, .inr (1, [.ref k, .ref pa, .ref la, .ref le, .int 0])), (pa, .inl (cT 0, 4000, .inl (fun _ => 0))), (la, .inl (cT 0, 4000, .inl (fun _ => 0))), (le, .inl (cT 0, 4000, .inl (fun _ => 0))), (k, .inr (2, [.ref a, .ref b, .int 0])), (a, .inl (cT 1, 4000, .inr (.inl (fun _ => 0)))), (b, .inl (cT 0, 8192, .inl (fun _ => 0)))] (QI g (fun (r : Int32) (u : Unit) => r = 0) (fun (u : Unit) => [(o, .inr (1, [.ref k, .ref pa, .ref la, .ref le, .int 0])), (pa, .inl (cT 0, 4000, .inl (upd (fun _ => 0) 0 (-1)))), (la, .inl (cT 0, 4000, .inl (upd (fun _ => 0) 0 (-1)))), (le, .inl (cT 0, 4000, .inl (fun _ => 0))), (k, .inr (2, [.ref a, .ref b, .int 1])), (a, .inl (cT 1, 4000, .inr (.inl (fun _ => 0)))), (b, .inl (cT 0, 8192, .inl (upd (fun _ => 0) 0 1)))])) 0 0 := by
  refine mk_ctr (cc := cX1_reach) (maxL := 7) (ret := (some .int)) (by decide) rfl (Nat.le_of_ble_eq_true rfl) ?_
  intro p e s m args below meth c A Q hx hb hr hts hown hlocks hin hml hP hK hD hN hZ hA hS hQ ls hl
  have hl : lv_has ls 7 [(0, .ref o), (1, .long 0), (3, .int (-1)), (4, .int (-1))] := hl
  obtain ⟨H, hH⟩ : ∃ H : Heap, H = s.heap := ⟨_, rfl⟩
  obtain ⟨locs, hlo⟩ : ∃ x : List Loc, x = [] := ⟨_, rfl⟩
  rw [← hH] at hP
  have hS : va_S A s.heap H locs := by rw [hH, hlo]; exact hS
  have hgo : W p l e rm_c_F_reach_4000_0e s m args below meth c H locs 0 0 Q (F0 m 0 ls []) := by
    clear hH hlo
    refine lv_aload_n hx hb dX1_reach_0 rfl (lv_at hl 0 rfl) ?_
    refine va_get (C := RX1) (T := TX1) (N := 5) (v := .ref k) hx hb hts hi_X1_reach_X1 hown hK hP 0 rfl rfl 0 (by decide) (hts (.fieldLink RX1 26 "BothWays$Finds" "keys" "LBothWays$Keys;") (by decide +kernel)) (fun _ h => h) rfl dX1_reach_1 ?_
    refine va_getN (C := RX2) (T := TX2) (N := 3) (v := .int 0) hx hb hts hi_X1_reach_X2 hown hK hP 4 rfl rfl 2 (by decide) (nf_20 hN) (fun _ h => h) rfl dX1_reach_4 ?_
    refine lv_istore (lv' := [(5, .int 0), (0, .ref o), (1, .long 0), (3, .int (-1)), (4, .int (-1))]) hx hb dX1_reach_7 hl (by decide) rfl (fun ls hl => ?_)
    refine lv_aload_n hx hb dX1_reach_9 rfl (lv_at hl 1 rfl) ?_
    refine va_get (C := RX1) (T := TX1) (N := 5) (v := .ref k) hx hb hts hi_X1_reach_X1 hown hK hP 0 rfl rfl 0 (by decide) (hts (.fieldLink RX1 26 "BothWays$Finds" "keys" "LBothWays$Keys;") (by decide +kernel)) (fun _ h => h) rfl dX1_reach_10 ?_
    refine lv_lload_n hx hb dX1_reach_13 rfl (lv_at hl 2 rfl) ?_
    refine cj_i 0 0 (wr := [(o, .inr (1, [.ref k, .ref pa, .ref la, .ref le, .int 0])), (pa, .inl (cT 0, 4000, .inl (fun _ => 0))), (la, .inl (cT 0, 4000, .inl (fun _ => 0))), (le, .inl (cT 0, 4000, .inl (fun _ => 0)))]) (va_runV (As := [.long 0]) (rest := []) ⟨hx, hb, hml, hown, hts⟩ (c_K_indexWith_4000_0e l g cT H.size k a b) (cwV 1 hts gX1_reach_X2_indexWith rfl rfl rfl yd_X2_indexWith ⟨(Nat.le_of_ble_eq_true rfl), (Nat.le_of_ble_eq_true rfl)⟩) (preV (wc := [(k, .inr (2, [.ref a, .ref b, .int 0])), (a, .inl (cT 1, 4000, .inr (.inl (fun _ => 0)))), (b, .inl (cT 0, 8192, .inl (fun _ => 0)))]) rfl hP hD hK hN hZ hS hA [4, 5, 6] rfl (by decide) (ci := 2) (q0 := 4) rfl rfl) rfl rfl hl.1 rfl (lv_room (Nat.le_of_ble_eq_true rfl)) dX1_reach_14 ⟨(Nat.le_of_ble_eq_true rfl), (Nat.le_of_ble_eq_true rfl)⟩) hP hD hS hA [4, 5, 6] [0, 1, 2, 3] rfl rfl (by decide) (by decide) (Nat.le_of_ble_eq_true rfl) (Nat.le_of_ble_eq_true rfl) (fun r_1 u H locs h_2 hP hD hS => ?_)
    have hP : va_P g vwCl [(o, .inr (1, [.ref k, .ref pa, .ref la, .ref le, .int 0])), (pa, .inl (cT 0, 4000, .inl (fun _ => 0))), (la, .inl (cT 0, 4000, .inl (fun _ => 0))), (le, .inl (cT 0, 4000, .inl (fun _ => 0))), (k, .inr (2, [.ref a, .ref b, .int 1])), (a, .inl (cT 1, 4000, .inr (.inl (fun _ => 0)))), (b, .inl (cT 0, 8192, .inl (upd (fun _ => 0) 0 1)))] H := hP
    have hD : va_D A [(o, .inr (1, [.ref k, .ref pa, .ref la, .ref le, .int 0])), (pa, .inl (cT 0, 4000, .inl (fun _ => 0))), (la, .inl (cT 0, 4000, .inl (fun _ => 0))), (le, .inl (cT 0, 4000, .inl (fun _ => 0))), (k, .inr (2, [.ref a, .ref b, .int 1])), (a, .inl (cT 1, 4000, .inr (.inl (fun _ => 0)))), (b, .inl (cT 0, 8192, .inl (upd (fun _ => 0) 0 1)))] := hD
    subst h_2
    refine lv_istore (lv' := [(6, .int 0), (5, .int 0), (0, .ref o), (1, .long 0), (3, .int (-1)), (4, .int (-1))]) hx hb dX1_reach_17 hl (by decide) rfl (fun ls hl => ?_)
    refine lv_iload hx hb dX1_reach_19 (lv_at hl 0 rfl) ?_
    refine lv_iconst (v := (-1)) hx hb dX1_reach_21 (by decide) ?_
    refine icmp_ne_t hx hb 33 dX1_reach_22 (by decide) (by decide) ?_
    refine lv_iload hx hb dX1_reach_33 (lv_at hl 0 rfl) ?_
    refine lv_iload hx hb dX1_reach_35 (lv_at hl 1 rfl) ?_
    refine icmp_ne_f hx hb dX1_reach_37 106 (by decide) (by decide) ?_
    refine lv_iload hx hb dX1_reach_40 (lv_at hl 0 rfl) ?_
    refine lv_aload_n hx hb dX1_reach_42 rfl (lv_at hl 2 rfl) ?_
    refine va_get (C := RX1) (T := TX1) (N := 5) (v := .ref pa) hx hb hts hi_X1_reach_X1 hown hK hP 0 rfl rfl 1 (by decide) (hts (.fieldLink RX1 30 "BothWays$Finds" "parents" "[I") (by decide +kernel)) (fun _ h => h) rfl dX1_reach_43 ?_
    refine va_alen (v := 4000) hx hb hK hP 1 0 rfl rfl rfl dX1_reach_46 ?_
    refine icmp_ge_f hx hb dX1_reach_47 106 (by decide) (by decide) ?_
    refine lv_aload_n hx hb dX1_reach_50 rfl (lv_at hl 2 rfl) ?_
    refine va_get (C := RX1) (T := TX1) (N := 5) (v := .ref pa) hx hb hts hi_X1_reach_X1 hown hK hP 0 rfl rfl 1 (by decide) (hts (.fieldLink RX1 30 "BothWays$Finds" "parents" "[I") (by decide +kernel)) (fun _ h => h) rfl dX1_reach_51 ?_
    refine lv_iload hx hb dX1_reach_54 (lv_at hl 0 rfl) ?_
    refine lv_iload_n hx hb dX1_reach_56 rfl (lv_at hl 4 rfl) ?_
    refine w_iast (f' := (upd (fun _ => 0) 0 (-1))) hx hb hK hP hD hS 1 rfl dX1_reach_57 (inC (by decide)) rfl (fun H locs hP hD hS => ?_)
    have hP : va_P g vwCl [(o, .inr (1, [.ref k, .ref pa, .ref la, .ref le, .int 0])), (pa, .inl (cT 0, 4000, .inl (upd (fun _ => 0) 0 (-1)))), (la, .inl (cT 0, 4000, .inl (fun _ => 0))), (le, .inl (cT 0, 4000, .inl (fun _ => 0))), (k, .inr (2, [.ref a, .ref b, .int 1])), (a, .inl (cT 1, 4000, .inr (.inl (fun _ => 0)))), (b, .inl (cT 0, 8192, .inl (upd (fun _ => 0) 0 1)))] H := hP
    have hD : va_D A [(o, .inr (1, [.ref k, .ref pa, .ref la, .ref le, .int 0])), (pa, .inl (cT 0, 4000, .inl (upd (fun _ => 0) 0 (-1)))), (la, .inl (cT 0, 4000, .inl (fun _ => 0))), (le, .inl (cT 0, 4000, .inl (fun _ => 0))), (k, .inr (2, [.ref a, .ref b, .int 1])), (a, .inl (cT 1, 4000, .inr (.inl (fun _ => 0)))), (b, .inl (cT 0, 8192, .inl (upd (fun _ => 0) 0 1)))] := hD
    refine lv_aload_n hx hb dX1_reach_58 rfl (lv_at hl 2 rfl) ?_
    refine va_get (C := RX1) (T := TX1) (N := 5) (v := .ref la) hx hb hts hi_X1_reach_X1 hown hK hP 0 rfl rfl 2 (by decide) (hts (.fieldLink RX1 34 "BothWays$Finds" "lasts" "[I") (by decide +kernel)) (fun _ h => h) rfl dX1_reach_59 ?_
    refine lv_iload hx hb dX1_reach_62 (lv_at hl 0 rfl) ?_
    refine lv_iload hx hb dX1_reach_64 (lv_at hl 5 rfl) ?_
    refine w_iast (f' := (upd (fun _ => 0) 0 (-1))) hx hb hK hP hD hS 2 rfl dX1_reach_66 (inC (by decide)) rfl (fun H locs hP hD hS => ?_)
    have hP : va_P g vwCl [(o, .inr (1, [.ref k, .ref pa, .ref la, .ref le, .int 0])), (pa, .inl (cT 0, 4000, .inl (upd (fun _ => 0) 0 (-1)))), (la, .inl (cT 0, 4000, .inl (upd (fun _ => 0) 0 (-1)))), (le, .inl (cT 0, 4000, .inl (fun _ => 0))), (k, .inr (2, [.ref a, .ref b, .int 1])), (a, .inl (cT 1, 4000, .inr (.inl (fun _ => 0)))), (b, .inl (cT 0, 8192, .inl (upd (fun _ => 0) 0 1)))] H := hP
    have hD : va_D A [(o, .inr (1, [.ref k, .ref pa, .ref la, .ref le, .int 0])), (pa, .inl (cT 0, 4000, .inl (upd (fun _ => 0) 0 (-1)))), (la, .inl (cT 0, 4000, .inl (upd (fun _ => 0) 0 (-1)))), (le, .inl (cT 0, 4000, .inl (fun _ => 0))), (k, .inr (2, [.ref a, .ref b, .int 1])), (a, .inl (cT 1, 4000, .inr (.inl (fun _ => 0)))), (b, .inl (cT 0, 8192, .inl (upd (fun _ => 0) 0 1)))] := hD
    refine lv_aload_n hx hb dX1_reach_67 rfl (lv_at hl 2 rfl) ?_
    refine va_get (C := RX1) (T := TX1) (N := 5) (v := .ref le) hx hb hts hi_X1_reach_X1 hown hK hP 0 rfl rfl 3 (by decide) (hts (.fieldLink RX1 37 "BothWays$Finds" "lengths" "[I") (by decide +kernel)) (fun _ h => h) rfl dX1_reach_68 ?_
    refine lv_iload hx hb dX1_reach_71 (lv_at hl 0 rfl) ?_
    refine lv_iload_n hx hb dX1_reach_73 rfl (lv_at hl 4 rfl) ?_
    refine if_lt_t hx hb 92 dX1_reach_74 (by decide) (by decide) ?_
    refine lv_iconst (v := 0) hx hb dX1_reach_92 (by decide) ?_
    refine lv_iload hx hb dX1_reach_93 (lv_at hl 5 rfl) ?_
    refine lv_iconst (v := (-1)) hx hb dX1_reach_95 (by decide) ?_
    refine icmp_ne_f hx hb dX1_reach_96 103 (by decide) (by decide) ?_
    refine lv_iconst (v := 0) hx hb dX1_reach_99 (by decide) ?_
    refine lv_goto (tgt := 104) hx hb dX1_reach_100 (by decide) ?_
    refine w_iadd (v := 0) hx hb dX1_reach_104 (by decide) ?_
    refine w_iast (f' := (fun _ => 0)) hx hb hK hP hD hS 3 rfl dX1_reach_105 (inC (by decide)) (upd_c _ _) (fun H locs hP hD hS => ?_)
    have hP : va_P g vwCl [(o, .inr (1, [.ref k, .ref pa, .ref la, .ref le, .int 0])), (pa, .inl (cT 0, 4000, .inl (upd (fun _ => 0) 0 (-1)))), (la, .inl (cT 0, 4000, .inl (upd (fun _ => 0) 0 (-1)))), (le, .inl (cT 0, 4000, .inl (fun _ => 0))), (k, .inr (2, [.ref a, .ref b, .int 1])), (a, .inl (cT 1, 4000, .inr (.inl (fun _ => 0)))), (b, .inl (cT 0, 8192, .inl (upd (fun _ => 0) 0 1)))] H := hP
    have hD : va_D A [(o, .inr (1, [.ref k, .ref pa, .ref la, .ref le, .int 0])), (pa, .inl (cT 0, 4000, .inl (upd (fun _ => 0) 0 (-1)))), (la, .inl (cT 0, 4000, .inl (upd (fun _ => 0) 0 (-1)))), (le, .inl (cT 0, 4000, .inl (fun _ => 0))), (k, .inr (2, [.ref a, .ref b, .int 1])), (a, .inl (cT 1, 4000, .inr (.inl (fun _ => 0)))), (b, .inl (cT 0, 8192, .inl (upd (fun _ => 0) 0 1)))] := hD
    refine lv_iload hx hb dX1_reach_106 (lv_at hl 0 rfl) ?_
    exact rt_i hx hb hr hlocks hQ hP hD hS () [0, 1, 2, 3, 4, 5, 6] dX1_reach_108 rfl (Nat.le_of_ble_eq_true rfl) (Nat.le_of_ble_eq_true rfl) rfl (by decide) rfl
  rw [hH, hlo] at hgo
  exact hgo
abbrev rm_c_F_reach_4000_0p : Room := { frames := 2, cells := 0, slots := 0, locals := 49 }
set_option maxHeartbeats 4000000 in
set_option maxRecDepth 100000 in
theorem c_F_reach_4000_0p (l : Launch) (g : va_G) (cT : Nat → ClassId) (sz : Nat) (o : Nat) (k : Nat) (a : Nat) (b : Nat) (pa : Nat) (la : Nat) (le : Nat) (pr : Int32) (lt : Int32)  : Ctr l g cT sz yX1_reach wsX1_reach rm_c_F_reach_4000_0p [.ref o, .long 0, .int pr, .int lt] [(o, .inr (1, [.ref k, .ref pa, .ref la, .ref le, .int 0])), (pa, .inl (cT 0, 4000, .inl (upd (fun _ => 0) 0 (-1)))), (la, .inl (cT 0, 4000, .inl (upd (fun _ => 0) 0 (-1)))), (le, .inl (cT 0, 4000, .inl (fun _ => 0))), (k, .inr (2, [.ref a, .ref b, .int 1])), (a, .inl (cT 1, 4000, .inr (.inl (fun _ => 0)))), (b, .inl (cT 0, 8192, .inl (upd (fun _ => 0) 0 1)))] (QI g (fun (r : Int32) (u : Unit) => r = 0) (fun (u : Unit) => [(o, .inr (1, [.ref k, .ref pa, .ref la, .ref le, .int 0])), (pa, .inl (cT 0, 4000, .inl (upd (fun _ => 0) 0 (-1)))), (la, .inl (cT 0, 4000, .inl (upd (fun _ => 0) 0 (-1)))), (le, .inl (cT 0, 4000, .inl (fun _ => 0))), (k, .inr (2, [.ref a, .ref b, .int 1])), (a, .inl (cT 1, 4000, .inr (.inl (fun _ => 0)))), (b, .inl (cT 0, 8192, .inl (upd (fun _ => 0) 0 1)))])) 0 0 := by
  refine mk_ctr (cc := cX1_reach) (maxL := 7) (ret := (some .int)) (by decide) rfl (Nat.le_of_ble_eq_true rfl) ?_
  intro p e s m args below meth c A Q hx hb hr hts hown hlocks hin hml hP hK hD hN hZ hA hS hQ ls hl
  have hl : lv_has ls 7 [(0, .ref o), (1, .long 0), (3, .int pr), (4, .int lt)] := hl
  obtain ⟨H, hH⟩ : ∃ H : Heap, H = s.heap := ⟨_, rfl⟩
  obtain ⟨locs, hlo⟩ : ∃ x : List Loc, x = [] := ⟨_, rfl⟩
  rw [← hH] at hP
  have hS : va_S A s.heap H locs := by rw [hH, hlo]; exact hS
  have hgo : W p l e rm_c_F_reach_4000_0p s m args below meth c H locs 0 0 Q (F0 m 0 ls []) := by
    clear hH hlo
    refine lv_aload_n hx hb dX1_reach_0 rfl (lv_at hl 0 rfl) ?_
    refine va_get (C := RX1) (T := TX1) (N := 5) (v := .ref k) hx hb hts hi_X1_reach_X1 hown hK hP 0 rfl rfl 0 (by decide) (hts (.fieldLink RX1 26 "BothWays$Finds" "keys" "LBothWays$Keys;") (by decide +kernel)) (fun _ h => h) rfl dX1_reach_1 ?_
    refine va_getN (C := RX2) (T := TX2) (N := 3) (v := .int 1) hx hb hts hi_X1_reach_X2 hown hK hP 4 rfl rfl 2 (by decide) (nf_20 hN) (fun _ h => h) rfl dX1_reach_4 ?_
    refine lv_istore (lv' := [(5, .int 1), (0, .ref o), (1, .long 0), (3, .int pr), (4, .int lt)]) hx hb dX1_reach_7 hl (by decide) rfl (fun ls hl => ?_)
    refine lv_aload_n hx hb dX1_reach_9 rfl (lv_at hl 1 rfl) ?_
    refine va_get (C := RX1) (T := TX1) (N := 5) (v := .ref k) hx hb hts hi_X1_reach_X1 hown hK hP 0 rfl rfl 0 (by decide) (hts (.fieldLink RX1 26 "BothWays$Finds" "keys" "LBothWays$Keys;") (by decide +kernel)) (fun _ h => h) rfl dX1_reach_10 ?_
    refine lv_lload_n hx hb dX1_reach_13 rfl (lv_at hl 2 rfl) ?_
    refine cj_i 0 0 (wr := [(o, .inr (1, [.ref k, .ref pa, .ref la, .ref le, .int 0])), (pa, .inl (cT 0, 4000, .inl (upd (fun _ => 0) 0 (-1)))), (la, .inl (cT 0, 4000, .inl (upd (fun _ => 0) 0 (-1)))), (le, .inl (cT 0, 4000, .inl (fun _ => 0)))]) (va_runV (As := [.long 0]) (rest := []) ⟨hx, hb, hml, hown, hts⟩ (c_K_indexWith_4000_0p l g cT H.size k a b) (cwV 1 hts gX1_reach_X2_indexWith rfl rfl rfl yd_X2_indexWith ⟨(Nat.le_of_ble_eq_true rfl), (Nat.le_of_ble_eq_true rfl)⟩) (preV (wc := [(k, .inr (2, [.ref a, .ref b, .int 1])), (a, .inl (cT 1, 4000, .inr (.inl (fun _ => 0)))), (b, .inl (cT 0, 8192, .inl (upd (fun _ => 0) 0 1)))]) rfl hP hD hK hN hZ hS hA [4, 5, 6] rfl (by decide) (ci := 2) (q0 := 4) rfl rfl) rfl rfl hl.1 rfl (lv_room (Nat.le_of_ble_eq_true rfl)) dX1_reach_14 ⟨(Nat.le_of_ble_eq_true rfl), (Nat.le_of_ble_eq_true rfl)⟩) hP hD hS hA [4, 5, 6] [0, 1, 2, 3] rfl rfl (by decide) (by decide) (Nat.le_of_ble_eq_true rfl) (Nat.le_of_ble_eq_true rfl) (fun r_1 u H locs h_2 hP hD hS => ?_)
    have hP : va_P g vwCl [(o, .inr (1, [.ref k, .ref pa, .ref la, .ref le, .int 0])), (pa, .inl (cT 0, 4000, .inl (upd (fun _ => 0) 0 (-1)))), (la, .inl (cT 0, 4000, .inl (upd (fun _ => 0) 0 (-1)))), (le, .inl (cT 0, 4000, .inl (fun _ => 0))), (k, .inr (2, [.ref a, .ref b, .int 1])), (a, .inl (cT 1, 4000, .inr (.inl (fun _ => 0)))), (b, .inl (cT 0, 8192, .inl (upd (fun _ => 0) 0 1)))] H := hP
    have hD : va_D A [(o, .inr (1, [.ref k, .ref pa, .ref la, .ref le, .int 0])), (pa, .inl (cT 0, 4000, .inl (upd (fun _ => 0) 0 (-1)))), (la, .inl (cT 0, 4000, .inl (upd (fun _ => 0) 0 (-1)))), (le, .inl (cT 0, 4000, .inl (fun _ => 0))), (k, .inr (2, [.ref a, .ref b, .int 1])), (a, .inl (cT 1, 4000, .inr (.inl (fun _ => 0)))), (b, .inl (cT 0, 8192, .inl (upd (fun _ => 0) 0 1)))] := hD
    subst h_2
    refine lv_istore (lv' := [(6, .int 0), (5, .int 1), (0, .ref o), (1, .long 0), (3, .int pr), (4, .int lt)]) hx hb dX1_reach_17 hl (by decide) rfl (fun ls hl => ?_)
    refine lv_iload hx hb dX1_reach_19 (lv_at hl 0 rfl) ?_
    refine lv_iconst (v := (-1)) hx hb dX1_reach_21 (by decide) ?_
    refine icmp_ne_t hx hb 33 dX1_reach_22 (by decide) (by decide) ?_
    refine lv_iload hx hb dX1_reach_33 (lv_at hl 0 rfl) ?_
    refine lv_iload hx hb dX1_reach_35 (lv_at hl 1 rfl) ?_
    refine icmp_ne_t hx hb 106 dX1_reach_37 (by decide) (by decide) ?_
    refine lv_iload hx hb dX1_reach_106 (lv_at hl 0 rfl) ?_
    exact rt_i hx hb hr hlocks hQ hP hD hS () [0, 1, 2, 3, 4, 5, 6] dX1_reach_108 rfl (Nat.le_of_ble_eq_true rfl) (Nat.le_of_ble_eq_true rfl) rfl (by decide) rfl
  rw [hH, hlo] at hgo
  exact hgo
abbrev rm_c_F_rowTo : Room := { frames := 0, cells := 0, slots := 0, locals := 0 }
set_option maxHeartbeats 4000000 in
set_option maxRecDepth 100000 in
theorem c_F_rowTo (l : Launch) (g : va_G) (cT : Nat → ClassId) (sz : Nat) (o : Nat) (k : Nat) (pa : Nat) (la : Nat) (le : Nat) (y : Int32) (i : Int32)  : Ctr l g cT sz yX1_rowTo wsX1_rowTo rm_c_F_rowTo [.ref o, .int (-1), .int i] [(o, .inr (1, [.ref k, .ref pa, .ref la, .ref le, .int y]))] (QI g (fun (r : Int32) (u : Unit) => r = (-1)) (fun (u : Unit) => [])) 0 0 := by
  refine mk_ctr (cc := cX1_rowTo) (maxL := 5) (ret := (some .int)) (by decide) rfl (Nat.le_of_ble_eq_true rfl) ?_
  intro p e s m args below meth c A Q hx hb hr hts hown hlocks hin hml hP hK hD hN hZ hA hS hQ ls hl
  have hl : lv_has ls 5 [(0, .ref o), (1, .int (-1)), (2, .int i)] := hl
  obtain ⟨H, hH⟩ : ∃ H : Heap, H = s.heap := ⟨_, rfl⟩
  obtain ⟨locs, hlo⟩ : ∃ x : List Loc, x = [] := ⟨_, rfl⟩
  rw [← hH] at hP
  have hS : va_S A s.heap H locs := by rw [hH, hlo]; exact hS
  have hgo : W p l e rm_c_F_rowTo s m args below meth c H locs 0 0 Q (F0 m 0 ls []) := by
    clear hH hlo
    refine lv_iload_n hx hb dX1_rowTo_0 rfl (lv_at hl 1 rfl) ?_
    refine if_lt_t hx hb 34 dX1_rowTo_1 (by decide) (by decide) ?_
    refine lv_iconst (v := (-1)) hx hb dX1_rowTo_34 (by decide) ?_
    exact rt_i hx hb hr hlocks hQ hP hD hS () [] dX1_rowTo_35 rfl (Nat.le_of_ble_eq_true rfl) (Nat.le_of_ble_eq_true rfl) rfl (by decide) rfl
  rw [hH, hlo] at hgo
  exact hgo
