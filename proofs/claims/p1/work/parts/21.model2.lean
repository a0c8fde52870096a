theorem hi_X12_go_X12 : ∀ w ∈ wsX120, w ∈ wsX12_go := fun _ h => List.mem_cons_of_mem _ (List.mem_append_right _ h)
abbrev rm_c_M_go_0 : Room := { frames := 1, cells := 0, slots := 0, locals := 22 }
set_option maxHeartbeats 4000000 in
set_option maxRecDepth 100000 in
theorem c_M_go_0 (l : Launch) (g : va_G) (cT : Nat → ClassId) (sz : Nat) (y : Nat) (qq : Nat → Nat) (z6 : Int32) (z12 : Int32) (z14 : Int32) (z15 : Int32) (z16 : Int32) (z17 : Int32) (z21 : Int32) (z22 : Int32) (z23 : Int32) (z24 : Int32) (z26 : Int32) (z30 : Int32) (gm : Int32) (f : Nat → Int32) (hg : 0 ≤ gm) : Ctr l g cT sz yX12_go wsX12_go rm_c_M_go_0 [.ref y, .int 0] [(y, .inr (12, [.ref (qq 0), .ref (qq 1), .ref (qq 2), .ref (qq 3), .ref (qq 4), .ref (qq 5), .int z6, .ref (qq 7), .ref (qq 8), .ref (qq 9), .ref (qq 10), .ref (qq 11), .int z12, .ref (qq 13), .int z14, .int z15, .int z16, .int z17, .ref (qq 18), .int gm, .ref (qq 20), .int z21, .int z22, .int z23, .int z24, .ref (qq 25), .int z26, .ref (qq 27), .ref (qq 28), .ref (qq 29), .int z30, .ref (qq 31), .ref (qq 32), .ref (qq 33), .ref (qq 34), .ref (qq 35), .ref (qq 36), .ref (qq 37), .ref (qq 38), .ref (qq 39), .ref (qq 40), .ref (qq 41), .ref (qq 42)])), ((qq 2), .inl (cT 0, 50, .inl (fun _ => (-1)))), ((qq 20), .inl (cT 2, 130, .inl f))] (QV g (fun (u : (Nat → Int32)) => True) (fun (u : (Nat → Int32)) => [(y, .inr (12, [.ref (qq 0), .ref (qq 1), .ref (qq 2), .ref (qq 3), .ref (qq 4), .ref (qq 5), .int z6, .ref (qq 7), .ref (qq 8), .ref (qq 9), .ref (qq 10), .ref (qq 11), .int z12, .ref (qq 13), .int z14, .int z15, .int z16, .int z17, .ref (qq 18), .int gm, .ref (qq 20), .int 0, .int 0, .int 0, .int 0, .ref (qq 25), .int 0, .ref (qq 27), .ref (qq 28), .ref (qq 29), .int z30, .ref (qq 31), .ref (qq 32), .ref (qq 33), .ref (qq 34), .ref (qq 35), .ref (qq 36), .ref (qq 37), .ref (qq 38), .ref (qq 39), .ref (qq 40), .ref (qq 41), .ref (qq 42)])), ((qq 2), .inl (cT 0, 50, .inl (fun _ => (-1)))), ((qq 20), .inl (cT 2, 130, .inl u))])) 0 0 := by
  refine mk_ctr (cc := cX12_go) (maxL := 3) (ret := none) (by decide) rfl (Nat.le_of_ble_eq_true rfl) ?_
  intro p e s m args below meth c A Q hx hb hr hts hown hlocks hin hml hP hK hD hN hZ hA hS hQ ls hl
  have hl : lv_has ls 3 [(0, .ref y), (1, .int 0)] := hl
  obtain ⟨H, hH⟩ : ∃ H : Heap, H = s.heap := ⟨_, rfl⟩
  obtain ⟨locs, hlo⟩ : ∃ x : List Loc, x = [] := ⟨_, rfl⟩
  rw [← hH] at hP
  have hS : va_S A s.heap H locs := by rw [hH, hlo]; exact hS
  have hgo : W p l e rm_c_M_go_0 s m args below meth c H locs 0 0 Q (F0 m 0 ls []) := by
    clear hH hlo
    refine lv_iconst (v := 0) hx hb dX12_go_0 (by decide) ?_
    refine lv_istore_n (lv' := [(2, .int 0), (0, .ref y), (1, .int 0)]) hx hb dX12_go_1 rfl hl (by decide) rfl (fun ls hl => ?_)
    have loop_1 : ∀ (fuel : Nat) (j : Nat) (f2 : Nat → Int32), j ≤ 130 → (∀ k, k < j → f2 k = 0) → 130 - j < fuel → ∀ (H : Heap) (locs : List Loc), va_P g vwCl [(y, .inr (12, [.ref (qq 0), .ref (qq 1), .ref (qq 2), .ref (qq 3), .ref (qq 4), .ref (qq 5), .int z6, .ref (qq 7), .ref (qq 8), .ref (qq 9), .ref (qq 10), .ref (qq 11), .int z12, .ref (qq 13), .int z14, .int z15, .int z16, .int z17, .ref (qq 18), .int gm, .ref (qq 20), .int z21, .int z22, .int z23, .int z24, .ref (qq 25), .int z26, .ref (qq 27), .ref (qq 28), .ref (qq 29), .int z30, .ref (qq 31), .ref (qq 32), .ref (qq 33), .ref (qq 34), .ref (qq 35), .ref (qq 36), .ref (qq 37), .ref (qq 38), .ref (qq 39), .ref (qq 40), .ref (qq 41), .ref (qq 42)])), ((qq 2), .inl (cT 0, 50, .inl (fun _ => (-1)))), ((qq 20), .inl (cT 2, 130, .inl f2))] H → va_D A [(y, .inr (12, [.ref (qq 0), .ref (qq 1), .ref (qq 2), .ref (qq 3), .ref (qq 4), .ref (qq 5), .int z6, .ref (qq 7), .ref (qq 8), .ref (qq 9), .ref (qq 10), .ref (qq 11), .int z12, .ref (qq 13), .int z14, .int z15, .int z16, .int z17, .ref (qq 18), .int gm, .ref (qq 20), .int z21, .int z22, .int z23, .int z24, .ref (qq 25), .int z26, .ref (qq 27), .ref (qq 28), .ref (qq 29), .int z30, .ref (qq 31), .ref (qq 32), .ref (qq 33), .ref (qq 34), .ref (qq 35), .ref (qq 36), .ref (qq 37), .ref (qq 38), .ref (qq 39), .ref (qq 40), .ref (qq 41), .ref (qq 42)])), ((qq 2), .inl (cT 0, 50, .inl (fun _ => (-1)))), ((qq 20), .inl (cT 2, 130, .inl f2))] → va_S A s.heap H locs → ∀ ls : Array Slot, lv_has ls 3 [(2, .int (nI j)), (0, .ref y), (1, .int 0)] → W p l e rm_c_M_go_0 s m args below meth c H locs 0 0 Q (F0 m 2 ls []) := by
      intro fuel
      induction fuel with
      | zero => intro j f2 hj hf hfu; omega
      | succ fuel ih_loop_1 =>
        intro j f2 hj hf hfu H locs hP hD hS ls hl
        refine lv_iload_n hx hb dX12_go_2 rfl (lv_at hl 0 rfl) ?_
        refine lv_sipush (v := 130) hx hb dX12_go_3 (by decide) ?_
        refine lv_icmp_ge (tgt := 22) hx hb dX12_go_6 (by decide) (fun c_2 => ?_) (fun c_2 => ?_)
        · skip
          have hge : 130 ≤ j := (nI_leI (a := 130) (by decide) (by omega)).mp c_2
          obtain ⟨hP, hD⟩ := swI hP hD 2 (fun _ => 0) rfl (fun k hk => hf k (by omega))
          have hP : va_P g vwCl [(y, .inr (12, [.ref (qq 0), .ref (qq 1), .ref (qq 2), .ref (qq 3), .ref (qq 4), .ref (qq 5), .int z6, .ref (qq 7), .ref (qq 8), .ref (qq 9), .ref (qq 10), .ref (qq 11), .int z12, .ref (qq 13), .int z14, .int z15, .int z16, .int z17, .ref (qq 18), .int gm, .ref (qq 20), .int z21, .int z22, .int z23, .int z24, .ref (qq 25), .int z26, .ref (qq 27), .ref (qq 28), .ref (qq 29), .int z30, .ref (qq 31), .ref (qq 32), .ref (qq 33), .ref (qq 34), .ref (qq 35), .ref (qq 36), .ref (qq 37), .ref (qq 38), .ref (qq 39), .ref (qq 40), .ref (qq 41), .ref (qq 42)])), ((qq 2), .inl (cT 0, 50, .inl (fun _ => (-1)))), ((qq 20), .inl (cT 2, 130, .inl (fun _ => 0)))] H := hP
          have hD : va_D A [(y, .inr (12, [.ref (qq 0), .ref (qq 1), .ref (qq 2), .ref (qq 3), .ref (qq 4), .ref (qq 5), .int z6, .ref (qq 7), .ref (qq 8), .ref (qq 9), .ref (qq 10), .ref (qq 11), .int z12, .ref (qq 13), .int z14, .int z15, .int z16, .int z17, .ref (qq 18), .int gm, .ref (qq 20), .int z21, .int z22, .int z23, .int z24, .ref (qq 25), .int z26, .ref (qq 27), .ref (qq 28), .ref (qq 29), .int z30, .ref (qq 31), .ref (qq 32), .ref (qq 33), .ref (qq 34), .ref (qq 35), .ref (qq 36), .ref (qq 37), .ref (qq 38), .ref (qq 39), .ref (qq 40), .ref (qq 41), .ref (qq 42)])), ((qq 2), .inl (cT 0, 50, .inl (fun _ => (-1)))), ((qq 20), .inl (cT 2, 130, .inl (fun _ => 0)))] := hD
          refine lv_aload_n hx hb dX12_go_22 rfl (lv_at hl 1 rfl) ?_
          refine lv_iconst (v := (-1)) hx hb dX12_go_23 (by decide) ?_
          refine va_put (C := RX12) (T := TX12) (N := 43) (v := .int (-1)) (ty := .int) hx hb hts hi_X12_go_X12 tyX12 tyX12_ok nmX12 hown hK hP hD hS 0 rfl rfl 21 (by decide) (hts (.fieldLink RX12 185 "BothWaysModel" "ends" "I") (by decide +kernel)) (fun _ h => h) rfl (by decide +kernel) rfl rfl (Nat.le_of_ble_eq_true rfl) dX12_go_24 (fun H locs hP hD hS => ?_)
          have hP : va_P g vwCl [(y, .inr (12, [.ref (qq 0), .ref (qq 1), .ref (qq 2), .ref (qq 3), .ref (qq 4), .ref (qq 5), .int z6, .ref (qq 7), .ref (qq 8), .ref (qq 9), .ref (qq 10), .ref (qq 11), .int z12, .ref (qq 13), .int z14, .int z15, .int z16, .int z17, .ref (qq 18), .int gm, .ref (qq 20), .int (-1), .int z22, .int z23, .int z24, .ref (qq 25), .int z26, .ref (qq 27), .ref (qq 28), .ref (qq 29), .int z30, .ref (qq 31), .ref (qq 32), .ref (qq 33), .ref (qq 34), .ref (qq 35), .ref (qq 36), .ref (qq 37), .ref (qq 38), .ref (qq 39), .ref (qq 40), .ref (qq 41), .ref (qq 42)])), ((qq 2), .inl (cT 0, 50, .inl (fun _ => (-1)))), ((qq 20), .inl (cT 2, 130, .inl (fun _ => 0)))] H := hP
          have hD : va_D A [(y, .inr (12, [.ref (qq 0), .ref (qq 1), .ref (qq 2), .ref (qq 3), .ref (qq 4), .ref (qq 5), .int z6, .ref (qq 7), .ref (qq 8), .ref (qq 9), .ref (qq 10), .ref (qq 11), .int z12, .ref (qq 13), .int z14, .int z15, .int z16, .int z17, .ref (qq 18), .int gm, .ref (qq 20), .int (-1), .int z22, .int z23, .int z24, .ref (qq 25), .int z26, .ref (qq 27), .ref (qq 28), .ref (qq 29), .int z30, .ref (qq 31), .ref (qq 32), .ref (qq 33), .ref (qq 34), .ref (qq 35), .ref (qq 36), .ref (qq 37), .ref (qq 38), .ref (qq 39), .ref (qq 40), .ref (qq 41), .ref (qq 42)])), ((qq 2), .inl (cT 0, 50, .inl (fun _ => (-1)))), ((qq 20), .inl (cT 2, 130, .inl (fun _ => 0)))] := hD
          refine lv_aload_n hx hb dX12_go_27 rfl (lv_at hl 1 rfl) ?_
          refine lv_iconst (v := 0) hx hb dX12_go_28 (by decide) ?_
          refine va_put (C := RX12) (T := TX12) (N := 43) (v := .int 0) (ty := .int) hx hb hts hi_X12_go_X12 tyX12 tyX12_ok nmX12 hown hK hP hD hS 0 rfl rfl 22 (by decide) (hts (.fieldLink RX12 188 "BothWaysModel" "made" "I") (by decide +kernel)) (fun _ h => h) rfl (by decide +kernel) rfl rfl (Nat.le_of_ble_eq_true rfl) dX12_go_29 (fun H locs hP hD hS => ?_)
          have hP : va_P g vwCl [(y, .inr (12, [.ref (qq 0), .ref (qq 1), .ref (qq 2), .ref (qq 3), .ref (qq 4), .ref (qq 5), .int z6, .ref (qq 7), .ref (qq 8), .ref (qq 9), .ref (qq 10), .ref (qq 11), .int z12, .ref (qq 13), .int z14, .int z15, .int z16, .int z17, .ref (qq 18), .int gm, .ref (qq 20), .int (-1), .int 0, .int z23, .int z24, .ref (qq 25), .int z26, .ref (qq 27), .ref (qq 28), .ref (qq 29), .int z30, .ref (qq 31), .ref (qq 32), .ref (qq 33), .ref (qq 34), .ref (qq 35), .ref (qq 36), .ref (qq 37), .ref (qq 38), .ref (qq 39), .ref (qq 40), .ref (qq 41), .ref (qq 42)])), ((qq 2), .inl (cT 0, 50, .inl (fun _ => (-1)))), ((qq 20), .inl (cT 2, 130, .inl (fun _ => 0)))] H := hP
          have hD : va_D A [(y, .inr (12, [.ref (qq 0), .ref (qq 1), .ref (qq 2), .ref (qq 3), .ref (qq 4), .ref (qq 5), .int z6, .ref (qq 7), .ref (qq 8), .ref (qq 9), .ref (qq 10), .ref (qq 11), .int z12, .ref (qq 13), .int z14, .int z15, .int z16, .int z17, .ref (qq 18), .int gm, .ref (qq 20), .int (-1), .int 0, .int z23, .int z24, .ref (qq 25), .int z26, .ref (qq 27), .ref (qq 28), .ref (qq 29), .int z30, .ref (qq 31), .ref (qq 32), .ref (qq 33), .ref (qq 34), .ref (qq 35), .ref (qq 36), .ref (qq 37), .ref (qq 38), .ref (qq 39), .ref (qq 40), .ref (qq 41), .ref (qq 42)])), ((qq 2), .inl (cT 0, 50, .inl (fun _ => (-1)))), ((qq 20), .inl (cT 2, 130, .inl (fun _ => 0)))] := hD
          refine lv_aload_n hx hb dX12_go_32 rfl (lv_at hl 1 rfl) ?_
          refine lv_iconst (v := 0) hx hb dX12_go_33 (by decide) ?_
          refine va_put (C := RX12) (T := TX12) (N := 43) (v := .int 0) (ty := .int) hx hb hts hi_X12_go_X12 tyX12 tyX12_ok nmX12 hown hK hP hD hS 0 rfl rfl 23 (by decide) (hts (.fieldLink RX12 191 "BothWaysModel" "where" "I") (by decide +kernel)) (fun _ h => h) rfl (by decide +kernel) rfl rfl (Nat.le_of_ble_eq_true rfl) dX12_go_34 (fun H locs hP hD hS => ?_)
          have hP : va_P g vwCl [(y, .inr (12, [.ref (qq 0), .ref (qq 1), .ref (qq 2), .ref (qq 3), .ref (qq 4), .ref (qq 5), .int z6, .ref (qq 7), .ref (qq 8), .ref (qq 9), .ref (qq 10), .ref (qq 11), .int z12, .ref (qq 13), .int z14, .int z15, .int z16, .int z17, .ref (qq 18), .int gm, .ref (qq 20), .int (-1), .int 0, .int 0, .int z24, .ref (qq 25), .int z26, .ref (qq 27), .ref (qq 28), .ref (qq 29), .int z30, .ref (qq 31), .ref (qq 32), .ref (qq 33), .ref (qq 34), .ref (qq 35), .ref (qq 36), .ref (qq 37), .ref (qq 38), .ref (qq 39), .ref (qq 40), .ref (qq 41), .ref (qq 42)])), ((qq 2), .inl (cT 0, 50, .inl (fun _ => (-1)))), ((qq 20), .inl (cT 2, 130, .inl (fun _ => 0)))] H := hP
          have hD : va_D A [(y, .inr (12, [.ref (qq 0), .ref (qq 1), .ref (qq 2), .ref (qq 3), .ref (qq 4), .ref (qq 5), .int z6, .ref (qq 7), .ref (qq 8), .ref (qq 9), .ref (qq 10), .ref (qq 11), .int z12, .ref (qq 13), .int z14, .int z15, .int z16, .int z17, .ref (qq 18), .int gm, .ref (qq 20), .int (-1), .int 0, .int 0, .int z24, .ref (qq 25), .int z26, .ref (qq 27), .ref (qq 28), .ref (qq 29), .int z30, .ref (qq 31), .ref (qq 32), .ref (qq 33), .ref (qq 34), .ref (qq 35), .ref (qq 36), .ref (qq 37), .ref (qq 38), .ref (qq 39), .ref (qq 40), .ref (qq 41), .ref (qq 42)])), ((qq 2), .inl (cT 0, 50, .inl (fun _ => (-1)))), ((qq 20), .inl (cT 2, 130, .inl (fun _ => 0)))] := hD
          refine lv_aload_n hx hb dX12_go_37 rfl (lv_at hl 1 rfl) ?_
          refine lv_iconst (v := 0) hx hb dX12_go_38 (by decide) ?_
          refine va_put (C := RX12) (T := TX12) (N := 43) (v := .int 0) (ty := .int) hx hb hts hi_X12_go_X12 tyX12 tyX12_ok nmX12 hown hK hP hD hS 0 rfl rfl 24 (by decide) (hts (.fieldLink RX12 194 "BothWaysModel" "state" "I") (by decide +kernel)) (fun _ h => h) rfl (by decide +kernel) rfl rfl (Nat.le_of_ble_eq_true rfl) dX12_go_39 (fun H locs hP hD hS => ?_)
          have hP : va_P g vwCl [(y, .inr (12, [.ref (qq 0), .ref (qq 1), .ref (qq 2), .ref (qq 3), .ref (qq 4), .ref (qq 5), .int z6, .ref (qq 7), .ref (qq 8), .ref (qq 9), .ref (qq 10), .ref (qq 11), .int z12, .ref (qq 13), .int z14, .int z15, .int z16, .int z17, .ref (qq 18), .int gm, .ref (qq 20), .int (-1), .int 0, .int 0, .int 0, .ref (qq 25), .int z26, .ref (qq 27), .ref (qq 28), .ref (qq 29), .int z30, .ref (qq 31), .ref (qq 32), .ref (qq 33), .ref (qq 34), .ref (qq 35), .ref (qq 36), .ref (qq 37), .ref (qq 38), .ref (qq 39), .ref (qq 40), .ref (qq 41), .ref (qq 42)])), ((qq 2), .inl (cT 0, 50, .inl (fun _ => (-1)))), ((qq 20), .inl (cT 2, 130, .inl (fun _ => 0)))] H := hP
          have hD : va_D A [(y, .inr (12, [.ref (qq 0), .ref (qq 1), .ref (qq 2), .ref (qq 3), .ref (qq 4), .ref (qq 5), .int z6, .ref (qq 7), .ref (qq 8), .ref (qq 9), .ref (qq 10), .ref (qq 11), .int z12, .ref (qq 13), .int z14, .int z15, .int z16, .int z17, .ref (qq 18), .int gm, .ref (qq 20), .int (-1), .int 0, .int 0, .int 0, .ref (qq 25), .int z26, .ref (qq 27), .ref (qq 28), .ref (qq 29), .int z30, .ref (qq 31), .ref (qq 32), .ref (qq 33), .ref (qq 34), .ref (qq 35), .ref (qq 36), .ref (qq 37), .ref (qq 38), .ref (qq 39), .ref (qq 40), .ref (qq 41), .ref (qq 42)])), ((qq 2), .inl (cT 0, 50, .inl (fun _ => (-1)))), ((qq 20), .inl (cT 2, 130, .inl (fun _ => 0)))] := hD
          refine lv_aload_n hx hb dX12_go_42 rfl (lv_at hl 1 rfl) ?_
          refine lv_iconst (v := 0) hx hb dX12_go_43 (by decide) ?_
          refine va_put (C := RX12) (T := TX12) (N := 43) (v := .int 0) (ty := .int) hx hb hts hi_X12_go_X12 tyX12 tyX12_ok nmX12 hown hK hP hD hS 0 rfl rfl 26 (by decide) (hts (.fieldLink RX12 197 "BothWaysModel" "saidMany" "I") (by decide +kernel)) (fun _ h => h) rfl (by decide +kernel) rfl rfl (Nat.le_of_ble_eq_true rfl) dX12_go_44 (fun H locs hP hD hS => ?_)
          have hP : va_P g vwCl [(y, .inr (12, [.ref (qq 0), .ref (qq 1), .ref (qq 2), .ref (qq 3), .ref (qq 4), .ref (qq 5), .int z6, .ref (qq 7), .ref (qq 8), .ref (qq 9), .ref (qq 10), .ref (qq 11), .int z12, .ref (qq 13), .int z14, .int z15, .int z16, .int z17, .ref (qq 18), .int gm, .ref (qq 20), .int (-1), .int 0, .int 0, .int 0, .ref (qq 25), .int 0, .ref (qq 27), .ref (qq 28), .ref (qq 29), .int z30, .ref (qq 31), .ref (qq 32), .ref (qq 33), .ref (qq 34), .ref (qq 35), .ref (qq 36), .ref (qq 37), .ref (qq 38), .ref (qq 39), .ref (qq 40), .ref (qq 41), .ref (qq 42)])), ((qq 2), .inl (cT 0, 50, .inl (fun _ => (-1)))), ((qq 20), .inl (cT 2, 130, .inl (fun _ => 0)))] H := hP
          have hD : va_D A [(y, .inr (12, [.ref (qq 0), .ref (qq 1), .ref (qq 2), .ref (qq 3), .ref (qq 4), .ref (qq 5), .int z6, .ref (qq 7), .ref (qq 8), .ref (qq 9), .ref (qq 10), .ref (qq 11), .int z12, .ref (qq 13), .int z14, .int z15, .int z16, .int z17, .ref (qq 18), .int gm, .ref (qq 20), .int (-1), .int 0, .int 0, .int 0, .ref (qq 25), .int 0, .ref (qq 27), .ref (qq 28), .ref (qq 29), .int z30, .ref (qq 31), .ref (qq 32), .ref (qq 33), .ref (qq 34), .ref (qq 35), .ref (qq 36), .ref (qq 37), .ref (qq 38), .ref (qq 39), .ref (qq 40), .ref (qq 41), .ref (qq 42)])), ((qq 2), .inl (cT 0, 50, .inl (fun _ => (-1)))), ((qq 20), .inl (cT 2, 130, .inl (fun _ => 0)))] := hD
          refine lv_aload_n hx hb dX12_go_47 rfl (lv_at hl 1 rfl) ?_
          refine va_get (C := RX12) (T := TX12) (N := 43) (v := .int (-1)) hx hb hts hi_X12_go_X12 hown hK hP 0 rfl rfl 21 (by decide) (hts (.fieldLink RX12 185 "BothWaysModel" "ends" "I") (by decide +kernel)) (fun _ h => h) rfl dX12_go_48 ?_
          refine lv_iconst (v := (-1)) hx hb dX12_go_51 (by decide) ?_
          refine icmp_ne_f hx hb dX12_go_52 277 (by decide) (by decide) ?_
          refine lv_aload_n hx hb dX12_go_55 rfl (lv_at hl 1 rfl) ?_
          refine va_get (C := RX12) (T := TX12) (N := 43) (v := .ref (qq 20)) hx hb hts hi_X12_go_X12 hown hK hP 0 rfl rfl 20 (by decide) (hts (.fieldLink RX12 49 "BothWaysModel" "met" "[Z") (by decide +kernel)) (fun _ h => h) rfl dX12_go_56 ?_
          refine lv_iconst (v := 5) hx hb dX12_go_59 (by decide) ?_
          refine lv_aload_n hx hb dX12_go_60 rfl (lv_at hl 1 rfl) ?_
          refine va_get (C := RX12) (T := TX12) (N := 43) (v := .int 0) hx hb hts hi_X12_go_X12 hown hK hP 0 rfl rfl 23 (by decide) (hts (.fieldLink RX12 191 "BothWaysModel" "where" "I") (by decide +kernel)) (fun _ h => h) rfl dX12_go_61 ?_
          refine w_imul (v := 0) hx hb dX12_go_64 (by decide) ?_
          refine lv_aload_n hx hb dX12_go_65 rfl (lv_at hl 1 rfl) ?_
          refine va_get (C := RX12) (T := TX12) (N := 43) (v := .int 0) hx hb hts hi_X12_go_X12 hown hK hP 0 rfl rfl 24 (by decide) (hts (.fieldLink RX12 194 "BothWaysModel" "state" "I") (by decide +kernel)) (fun _ h => h) rfl dX12_go_66 ?_
          refine w_iadd (v := 0) hx hb dX12_go_69 (by decide) ?_
          refine w_zald (v := 0) hx hb hK hP 2 rfl dX12_go_70 (inC (by decide)) rfl ?_
          refine if_eq_t hx hb 82 dX12_go_71 (by decide) (by decide) ?_
          refine lv_aload_n hx hb dX12_go_82 rfl (lv_at hl 1 rfl) ?_
          refine va_get (C := RX12) (T := TX12) (N := 43) (v := .ref (qq 20)) hx hb hts hi_X12_go_X12 hown hK hP 0 rfl rfl 20 (by decide) (hts (.fieldLink RX12 49 "BothWaysModel" "met" "[Z") (by decide +kernel)) (fun _ h => h) rfl dX12_go_83 ?_
          refine lv_iconst (v := 5) hx hb dX12_go_86 (by decide) ?_
          refine lv_aload_n hx hb dX12_go_87 rfl (lv_at hl 1 rfl) ?_
          refine va_get (C := RX12) (T := TX12) (N := 43) (v := .int 0) hx hb hts hi_X12_go_X12 hown hK hP 0 rfl rfl 23 (by decide) (hts (.fieldLink RX12 191 "BothWaysModel" "where" "I") (by decide +kernel)) (fun _ h => h) rfl dX12_go_88 ?_
          refine w_imul (v := 0) hx hb dX12_go_91 (by decide) ?_
          refine lv_aload_n hx hb dX12_go_92 rfl (lv_at hl 1 rfl) ?_
          refine va_get (C := RX12) (T := TX12) (N := 43) (v := .int 0) hx hb hts hi_X12_go_X12 hown hK hP 0 rfl rfl 24 (by decide) (hts (.fieldLink RX12 194 "BothWaysModel" "state" "I") (by decide +kernel)) (fun _ h => h) rfl dX12_go_93 ?_
          refine w_iadd (v := 0) hx hb dX12_go_96 (by decide) ?_
          refine lv_iconst (v := 1) hx hb dX12_go_97 (by decide) ?_
          obtain ⟨f_3, ef_3⟩ : ∃ z, z = upd (fun _ => 0) (0 : Int32).toNatClampNeg (vp_nar .boolean 1) := ⟨_, rfl⟩
          refine w_zast (f' := f_3) hx hb hK hP hD hS 2 rfl dX12_go_98 (inC (by decide)) ef_3.symm (fun H locs hP hD hS => ?_)
          have hP : va_P g vwCl [(y, .inr (12, [.ref (qq 0), .ref (qq 1), .ref (qq 2), .ref (qq 3), .ref (qq 4), .ref (qq 5), .int z6, .ref (qq 7), .ref (qq 8), .ref (qq 9), .ref (qq 10), .ref (qq 11), .int z12, .ref (qq 13), .int z14, .int z15, .int z16, .int z17, .ref (qq 18), .int gm, .ref (qq 20), .int (-1), .int 0, .int 0, .int 0, .ref (qq 25), .int 0, .ref (qq 27), .ref (qq 28), .ref (qq 29), .int z30, .ref (qq 31), .ref (qq 32), .ref (qq 33), .ref (qq 34), .ref (qq 35), .ref (qq 36), .ref (qq 37), .ref (qq 38), .ref (qq 39), .ref (qq 40), .ref (qq 41), .ref (qq 42)])), ((qq 2), .inl (cT 0, 50, .inl (fun _ => (-1)))), ((qq 20), .inl (cT 2, 130, .inl f_3))] H := hP
          have hD : va_D A [(y, .inr (12, [.ref (qq 0), .ref (qq 1), .ref (qq 2), .ref (qq 3), .ref (qq 4), .ref (qq 5), .int z6, .ref (qq 7), .ref (qq 8), .ref (qq 9), .ref (qq 10), .ref (qq 11), .int z12, .ref (qq 13), .int z14, .int z15, .int z16, .int z17, .ref (qq 18), .int gm, .ref (qq 20), .int (-1), .int 0, .int 0, .int 0, .ref (qq 25), .int 0, .ref (qq 27), .ref (qq 28), .ref (qq 29), .int z30, .ref (qq 31), .ref (qq 32), .ref (qq 33), .ref (qq 34), .ref (qq 35), .ref (qq 36), .ref (qq 37), .ref (qq 38), .ref (qq 39), .ref (qq 40), .ref (qq 41), .ref (qq 42)])), ((qq 2), .inl (cT 0, 50, .inl (fun _ => (-1)))), ((qq 20), .inl (cT 2, 130, .inl f_3))] := hD
          refine lv_iload_n hx hb dX12_go_99 rfl (lv_at hl 2 rfl) ?_
          refine lv_aload_n hx hb dX12_go_100 rfl (lv_at hl 1 rfl) ?_
          refine va_get (C := RX12) (T := TX12) (N := 43) (v := .int 0) hx hb hts hi_X12_go_X12 hown hK hP 0 rfl rfl 24 (by decide) (hts (.fieldLink RX12 194 "BothWaysModel" "state" "I") (by decide +kernel)) (fun _ h => h) rfl dX12_go_101 ?_
          refine lv_aload_n hx hb dX12_go_104 rfl (lv_at hl 1 rfl) ?_
          refine va_get (C := RX12) (T := TX12) (N := 43) (v := .int 0) hx hb hts hi_X12_go_X12 hown hK hP 0 rfl rfl 23 (by decide) (hts (.fieldLink RX12 191 "BothWaysModel" "where" "I") (by decide +kernel)) (fun _ h => h) rfl dX12_go_105 ?_
          refine if_ne_f hx hb dX12_go_108 115 (by decide) (by decide) ?_
          refine lv_iconst (v := 3) hx hb dX12_go_111 (by decide) ?_
          refine lv_goto (tgt := 141) hx hb dX12_go_112 (by decide) ?_
          refine cp_i (va_runS (As := [.int 0, .int 0, .int 3]) (rest := []) ⟨hx, hb, hml, hown, hts⟩ (c_M_at0 l g cT H.size 0 0 3) (va_cwS 3 hts gX12_go_X12_at0 rfl rfl rfl yd_X12_at0.2 ⟨(Nat.le_of_ble_eq_true rfl), (Nat.le_of_ble_eq_true rfl)⟩) (preS (ws := []) (wc := []) rfl (fun _ _ h => by simp at h) (va_D_nil (A := A)) hK hN hZ hS hA [] rfl rfl) rfl rfl hl.1 rfl (lv_room (Nat.le_of_ble_eq_true rfl)) dX12_go_141 ⟨(Nat.le_of_ble_eq_true rfl), (Nat.le_of_ble_eq_true rfl)⟩) hP hS hA (fun r_4 u H locs h_5 hP hS => ?_)
          subst h_5
          refine tI 3 (by decide) ?_
          refine lv_istore_n (lv' := [(2, .int 3), (0, .ref y), (1, .int 0)]) hx hb dX12_go_144 rfl hl (by decide) rfl (fun ls hl => ?_)
          refine lv_aload_n hx hb dX12_go_145 rfl (lv_at hl 1 rfl) ?_
          refine va_get (C := RX12) (T := TX12) (N := 43) (v := .ref (qq 2)) hx hb hts hi_X12_go_X12 hown hK hP 0 rfl rfl 2 (by decide) (hts (.fieldLink RX12 16 "BothWaysModel" "goTo" "[I") (by decide +kernel)) (fun _ h => h) rfl dX12_go_146 ?_
          refine lv_iload_n hx hb dX12_go_149 rfl (lv_at hl 0 rfl) ?_
          refine w_iald (v := (-1)) hx hb hK hP 1 rfl dX12_go_150 (inC (by decide)) rfl ?_
          refine lv_iconst (v := (-1)) hx hb dX12_go_151 (by decide) ?_
          refine icmp_ne_f hx hb dX12_go_152 195 (by decide) (by decide) ?_
          refine lv_aload_n hx hb dX12_go_155 rfl (lv_at hl 1 rfl) ?_
          refine lv_aload_n hx hb dX12_go_156 rfl (lv_at hl 1 rfl) ?_
          refine va_get (C := RX12) (T := TX12) (N := 43) (v := .int 0) hx hb hts hi_X12_go_X12 hown hK hP 0 rfl rfl 23 (by decide) (hts (.fieldLink RX12 191 "BothWaysModel" "where" "I") (by decide +kernel)) (fun _ h => h) rfl dX12_go_157 ?_
          refine lv_aload_n hx hb dX12_go_160 rfl (lv_at hl 1 rfl) ?_
          refine va_get (C := RX12) (T := TX12) (N := 43) (v := .int gm) hx hb hts hi_X12_go_X12 hown hK hP 0 rfl rfl 19 (by decide) (hts (.fieldLink RX12 200 "BothWaysModel" "groundMany" "I") (by decide +kernel)) (fun _ h => h) rfl dX12_go_161 ?_
          refine icmp_le_t hx hb 188 dX12_go_164 (by decide) hg ?_
          refine lv_iconst (v := 0) hx hb dX12_go_188 (by decide) ?_
          refine va_put (C := RX12) (T := TX12) (N := 43) (v := .int 0) (ty := .int) hx hb hts hi_X12_go_X12 tyX12 tyX12_ok nmX12 hown hK hP hD hS 0 rfl rfl 21 (by decide) (hts (.fieldLink RX12 185 "BothWaysModel" "ends" "I") (by decide +kernel)) (fun _ h => h) rfl (by decide +kernel) rfl rfl (Nat.le_of_ble_eq_true rfl) dX12_go_189 (fun H locs hP hD hS => ?_)
          have hP : va_P g vwCl [(y, .inr (12, [.ref (qq 0), .ref (qq 1), .ref (qq 2), .ref (qq 3), .ref (qq 4), .ref (qq 5), .int z6, .ref (qq 7), .ref (qq 8), .ref (qq 9), .ref (qq 10), .ref (qq 11), .int z12, .ref (qq 13), .int z14, .int z15, .int z16, .int z17, .ref (qq 18), .int gm, .ref (qq 20), .int 0, .int 0, .int 0, .int 0, .ref (qq 25), .int 0, .ref (qq 27), .ref (qq 28), .ref (qq 29), .int z30, .ref (qq 31), .ref (qq 32), .ref (qq 33), .ref (qq 34), .ref (qq 35), .ref (qq 36), .ref (qq 37), .ref (qq 38), .ref (qq 39), .ref (qq 40), .ref (qq 41), .ref (qq 42)])), ((qq 2), .inl (cT 0, 50, .inl (fun _ => (-1)))), ((qq 20), .inl (cT 2, 130, .inl f_3))] H := hP
          have hD : va_D A [(y, .inr (12, [.ref (qq 0), .ref (qq 1), .ref (qq 2), .ref (qq 3), .ref (qq 4), .ref (qq 5), .int z6, .ref (qq 7), .ref (qq 8), .ref (qq 9), .ref (qq 10), .ref (qq 11), .int z12, .ref (qq 13), .int z14, .int z15, .int z16, .int z17, .ref (qq 18), .int gm, .ref (qq 20), .int 0, .int 0, .int 0, .int 0, .ref (qq 25), .int 0, .ref (qq 27), .ref (qq 28), .ref (qq 29), .int z30, .ref (qq 31), .ref (qq 32), .ref (qq 33), .ref (qq 34), .ref (qq 35), .ref (qq 36), .ref (qq 37), .ref (qq 38), .ref (qq 39), .ref (qq 40), .ref (qq 41), .ref (qq 42)])), ((qq 2), .inl (cT 0, 50, .inl (fun _ => (-1)))), ((qq 20), .inl (cT 2, 130, .inl f_3))] := hD
          refine lv_goto (tgt := 274) hx hb dX12_go_192 (by decide) ?_
          refine lv_goto (tgt := 47) hx hb dX12_go_274 (by decide) ?_
          refine lv_aload_n hx hb dX12_go_47 rfl (lv_at hl 1 rfl) ?_
          refine va_get (C := RX12) (T := TX12) (N := 43) (v := .int 0) hx hb hts hi_X12_go_X12 hown hK hP 0 rfl rfl 21 (by decide) (hts (.fieldLink RX12 185 "BothWaysModel" "ends" "I") (by decide +kernel)) (fun _ h => h) rfl dX12_go_48 ?_
          refine lv_iconst (v := (-1)) hx hb dX12_go_51 (by decide) ?_
          refine icmp_ne_t hx hb 277 dX12_go_52 (by decide) (by decide) ?_
          exact rt_v hx hb hr hlocks hQ hP hD hS f_3 [0, 1, 2] dX12_go_277 (Nat.le_of_ble_eq_true rfl) (Nat.le_of_ble_eq_true rfl) rfl (by decide) trivial
        · skip
          have hlt : j < 130 := Nat.lt_of_not_le (fun h => c_2 (nI_le (a := 130) h (by omega)))
          refine lv_aload_n hx hb dX12_go_9 rfl (lv_at hl 1 rfl) ?_
          refine va_get (C := RX12) (T := TX12) (N := 43) (v := .ref (qq 20)) hx hb hts hi_X12_go_X12 hown hK hP 0 rfl rfl 20 (by decide) (hts (.fieldLink RX12 49 "BothWaysModel" "met" "[Z") (by decide +kernel)) (fun _ h => h) rfl dX12_go_10 ?_
          refine lv_iload_n hx hb dX12_go_13 rfl (lv_at hl 0 rfl) ?_
          refine lv_iconst (v := 0) hx hb dX12_go_14 (by decide) ?_
          obtain ⟨f_6, ef_6⟩ : ∃ z, z = upd f2 (nI j).toNatClampNeg (vp_nar .boolean 0) := ⟨_, rfl⟩
          refine w_zast (f' := f_6) hx hb hK hP hD hS 2 rfl dX12_go_15 (vp_in_nI (show j < 130 by omega) (by decide)) ef_6.symm (fun H locs hP hD hS => ?_)
          have hP : va_P g vwCl [(y, .inr (12, [.ref (qq 0), .ref (qq 1), .ref (qq 2), .ref (qq 3), .ref (qq 4), .ref (qq 5), .int z6, .ref (qq 7), .ref (qq 8), .ref (qq 9), .ref (qq 10), .ref (qq 11), .int z12, .ref (qq 13), .int z14, .int z15, .int z16, .int z17, .ref (qq 18), .int gm, .ref (qq 20), .int z21, .int z22, .int z23, .int z24, .ref (qq 25), .int z26, .ref (qq 27), .ref (qq 28), .ref (qq 29), .int z30, .ref (qq 31), .ref (qq 32), .ref (qq 33), .ref (qq 34), .ref (qq 35), .ref (qq 36), .ref (qq 37), .ref (qq 38), .ref (qq 39), .ref (qq 40), .ref (qq 41), .ref (qq 42)])), ((qq 2), .inl (cT 0, 50, .inl (fun _ => (-1)))), ((qq 20), .inl (cT 2, 130, .inl f_6))] H := hP
          have hD : va_D A [(y, .inr (12, [.ref (qq 0), .ref (qq 1), .ref (qq 2), .ref (qq 3), .ref (qq 4), .ref (qq 5), .int z6, .ref (qq 7), .ref (qq 8), .ref (qq 9), .ref (qq 10), .ref (qq 11), .int z12, .ref (qq 13), .int z14, .int z15, .int z16, .int z17, .ref (qq 18), .int gm, .ref (qq 20), .int z21, .int z22, .int z23, .int z24, .ref (qq 25), .int z26, .ref (qq 27), .ref (qq 28), .ref (qq 29), .int z30, .ref (qq 31), .ref (qq 32), .ref (qq 33), .ref (qq 34), .ref (qq 35), .ref (qq 36), .ref (qq 37), .ref (qq 38), .ref (qq 39), .ref (qq 40), .ref (qq 41), .ref (qq 42)])), ((qq 2), .inl (cT 0, 50, .inl (fun _ => (-1)))), ((qq 20), .inl (cT 2, 130, .inl f_6))] := hD
          refine lv_iinc (v := (nI (j + 1))) (lv' := [(2, .int (nI (j + 1))), (0, .ref y), (1, .int 0)]) hx hb dX12_go_16 hl (k := 0) rfl (nI_1 j) (by decide) rfl (fun ls hl => ?_)
          refine lv_goto (tgt := 2) hx hb dX12_go_19 (by decide) ?_
          exact ih_loop_1 (j + 1) f_6 (by omega) (fun k hk => by rw [ef_6]; simp only [upd, nI_clamp (show j < 2 ^ 31 by omega)]; split; rfl; exact hf k (by omega)) (by omega) _ _ (hP.sub [0, 1, 2] rfl) (hD.sub [0, 1, 2] (by decide) rfl) hS ls (lv_sub hl [0, 1, 2] rfl)
    exact loop_1 _ 0 f (Nat.zero_le _) (fun k hk => absurd hk (Nat.not_lt_zero k)) (Nat.lt_succ_self _) _ _ (hP.sub [0, 1, 2] rfl) (hD.sub [0, 1, 2] (by decide) rfl) hS ls (lv_sub hl [0, 1, 2] rfl)
  rw [hH, hlo] at hgo
  exact hgo
theorem hi_X12_goRow_X12 : ∀ w ∈ wsX120, w ∈ wsX12_goRow := fun _ h => List.mem_cons_of_mem _ (List.mem_append_right _ h)
theorem yd_X12_go : yX12_go.cls = RX12 ∧ yX12_go.cls ≠ "java/lang/invoke/MethodHandle" ∧ yX12_go.cls ≠ "java/lang/invoke/VarHandle" ∧ (parseMethodDescriptor yX12_go.desc).map (fun d => d.parameters.length) = some 1 := by decide +kernel
abbrev rm_c_M_goRow_0 : Room := { frames := 2, cells := 0, slots := 0, locals := 44 }
set_option maxHeartbeats 4000000 in
set_option maxRecDepth 100000 in
theorem c_M_goRow_0 (l : Launch) (g : va_G) (cT : Nat → ClassId) (sz : Nat) (y : Nat) (qq : Nat → Nat) (z6 : Int32) (z12 : Int32) (z15 : Int32) (z16 : Int32) (z17 : Int32) (z19 : Int32) (z21 : Int32) (z22 : Int32) (z23 : Int32) (z24 : Int32) (z26 : Int32) (z30 : Int32) (f : Nat → Int32)  : Ctr l g cT sz yX12_goRow wsX12_goRow rm_c_M_goRow_0 [.ref y, .int 0] [(y, .inr (12, [.ref (qq 0), .ref (qq 1), .ref (qq 2), .ref (qq 3), .ref (qq 4), .ref (qq 5), .int z6, .ref (qq 7), .ref (qq 8), .ref (qq 9), .ref (qq 10), .ref (qq 11), .int z12, .ref (qq 13), .int 0, .int z15, .int z16, .int z17, .ref (qq 18), .int z19, .ref (qq 20), .int z21, .int z22, .int z23, .int z24, .ref (qq 25), .int z26, .ref (qq 27), .ref (qq 28), .ref (qq 29), .int z30, .ref (qq 31), .ref (qq 32), .ref (qq 33), .ref (qq 34), .ref (qq 35), .ref (qq 36), .ref (qq 37), .ref (qq 38), .ref (qq 39), .ref (qq 40), .ref (qq 41), .ref (qq 42)])), ((qq 2), .inl (cT 0, 50, .inl (fun _ => (-1)))), ((qq 20), .inl (cT 2, 130, .inl f))] (QV g (fun (u : Unit) => True) (fun (u : Unit) => [(y, .inr (12, [.ref (qq 0), .ref (qq 1), .ref (qq 2), .ref (qq 3), .ref (qq 4), .ref (qq 5), .int z6, .ref (qq 7), .ref (qq 8), .ref (qq 9), .ref (qq 10), .ref (qq 11), .int z12, .ref (qq 13), .int 0, .int z15, .int z16, .int z17, .ref (qq 18), .int 0, .ref (qq 20), .int 0, .int 0, .int 0, .int 0, .ref (qq 25), .int 0, .ref (qq 27), .ref (qq 28), .ref (qq 29), .int z30, .ref (qq 31), .ref (qq 32), .ref (qq 33), .ref (qq 34), .ref (qq 35), .ref (qq 36), .ref (qq 37), .ref (qq 38), .ref (qq 39), .ref (qq 40), .ref (qq 41), .ref (qq 42)]))])) 0 0 := by
  refine mk_ctr (cc := cX12_goRow) (maxL := 3) (ret := none) (by decide) rfl (Nat.le_of_ble_eq_true rfl) ?_
  intro p e s m args below meth c A Q hx hb hr hts hown hlocks hin hml hP hK hD hN hZ hA hS hQ ls hl
  have hl : lv_has ls 3 [(0, .ref y), (1, .int 0)] := hl
  obtain ⟨H, hH⟩ : ∃ H : Heap, H = s.heap := ⟨_, rfl⟩
  obtain ⟨locs, hlo⟩ : ∃ x : List Loc, x = [] := ⟨_, rfl⟩
  rw [← hH] at hP
  have hS : va_S A s.heap H locs := by rw [hH, hlo]; exact hS
  have hgo : W p l e rm_c_M_goRow_0 s m args below meth c H locs 0 0 Q (F0 m 0 ls []) := by
    clear hH hlo
    refine lv_iconst (v := 0) hx hb dX12_goRow_0 (by decide) ?_
    refine lv_istore_n (lv' := [(2, .int 0), (0, .ref y), (1, .int 0)]) hx hb dX12_goRow_1 rfl hl (by decide) rfl (fun ls hl => ?_)
    refine lv_iload_n hx hb dX12_goRow_2 rfl (lv_at hl 0 rfl) ?_
    refine lv_aload_n hx hb dX12_goRow_3 rfl (lv_at hl 1 rfl) ?_
    refine va_get (C := RX12) (T := TX12) (N := 43) (v := .int 0) hx hb hts hi_X12_goRow_X12 hown hK hP 0 rfl rfl 14 (by decide) (hts (.fieldLink RX12 178 "BothWaysModel" "letters" "I") (by decide +kernel)) (fun _ h => h) rfl dX12_goRow_4 ?_
    refine icmp_ge_t hx hb 28 dX12_goRow_7 (by decide) (by decide) ?_
    refine lv_aload_n hx hb dX12_goRow_28 rfl (lv_at hl 1 rfl) ?_
    refine lv_aload_n hx hb dX12_goRow_29 rfl (lv_at hl 1 rfl) ?_
    refine va_get (C := RX12) (T := TX12) (N := 43) (v := .int 0) hx hb hts hi_X12_goRow_X12 hown hK hP 0 rfl rfl 14 (by decide) (hts (.fieldLink RX12 178 "BothWaysModel" "letters" "I") (by decide +kernel)) (fun _ h => h) rfl dX12_goRow_30 ?_
    refine va_put (C := RX12) (T := TX12) (N := 43) (v := .int 0) (ty := .int) hx hb hts hi_X12_goRow_X12 tyX12 tyX12_ok nmX12 hown hK hP hD hS 0 rfl rfl 19 (by decide) (hts (.fieldLink RX12 200 "BothWaysModel" "groundMany" "I") (by decide +kernel)) (fun _ h => h) rfl (by decide +kernel) rfl rfl (Nat.le_of_ble_eq_true rfl) dX12_goRow_33 (fun H locs hP hD hS => ?_)
    have hP : va_P g vwCl [(y, .inr (12, [.ref (qq 0), .ref (qq 1), .ref (qq 2), .ref (qq 3), .ref (qq 4), .ref (qq 5), .int z6, .ref (qq 7), .ref (qq 8), .ref (qq 9), .ref (qq 10), .ref (qq 11), .int z12, .ref (qq 13), .int 0, .int z15, .int z16, .int z17, .ref (qq 18), .int 0, .ref (qq 20), .int z21, .int z22, .int z23, .int z24, .ref (qq 25), .int z26, .ref (qq 27), .ref (qq 28), .ref (qq 29), .int z30, .ref (qq 31), .ref (qq 32), .ref (qq 33), .ref (qq 34), .ref (qq 35), .ref (qq 36), .ref (qq 37), .ref (qq 38), .ref (qq 39), .ref (qq 40), .ref (qq 41), .ref (qq 42)])), ((qq 2), .inl (cT 0, 50, .inl (fun _ => (-1)))), ((qq 20), .inl (cT 2, 130, .inl f))] H := hP
    have hD : va_D A [(y, .inr (12, [.ref (qq 0), .ref (qq 1), .ref (qq 2), .ref (qq 3), .ref (qq 4), .ref (qq 5), .int z6, .ref (qq 7), .ref (qq 8), .ref (qq 9), .ref (qq 10), .ref (qq 11), .int z12, .ref (qq 13), .int 0, .int z15, .int z16, .int z17, .ref (qq 18), .int 0, .ref (qq 20), .int z21, .int z22, .int z23, .int z24, .ref (qq 25), .int z26, .ref (qq 27), .ref (qq 28), .ref (qq 29), .int z30, .ref (qq 31), .ref (qq 32), .ref (qq 33), .ref (qq 34), .ref (qq 35), .ref (qq 36), .ref (qq 37), .ref (qq 38), .ref (qq 39), .ref (qq 40), .ref (qq 41), .ref (qq 42)])), ((qq 2), .inl (cT 0, 50, .inl (fun _ => (-1)))), ((qq 20), .inl (cT 2, 130, .inl f))] := hD
    refine lv_aload_n hx hb dX12_goRow_36 rfl (lv_at hl 1 rfl) ?_
    refine lv_iload_n hx hb dX12_goRow_37 rfl (lv_at hl 2 rfl) ?_
    refine cj_v 0 0 (wr := []) (va_runV (As := [.int 0]) (rest := []) ⟨hx, hb, hml, hown, hts⟩ (c_M_go_0 l g cT H.size y qq z6 z12 0 z15 z16 z17 z21 z22 z23 z24 z26 z30 0 f (by decide)) (cwV 1 hts gX12_goRow_X12_go rfl rfl rfl yd_X12_go ⟨(Nat.le_of_ble_eq_true rfl), (Nat.le_of_ble_eq_true rfl)⟩) (preV (wc := [(y, .inr (12, [.ref (qq 0), .ref (qq 1), .ref (qq 2), .ref (qq 3), .ref (qq 4), .ref (qq 5), .int z6, .ref (qq 7), .ref (qq 8), .ref (qq 9), .ref (qq 10), .ref (qq 11), .int z12, .ref (qq 13), .int 0, .int z15, .int z16, .int z17, .ref (qq 18), .int 0, .ref (qq 20), .int z21, .int z22, .int z23, .int z24, .ref (qq 25), .int z26, .ref (qq 27), .ref (qq 28), .ref (qq 29), .int z30, .ref (qq 31), .ref (qq 32), .ref (qq 33), .ref (qq 34), .ref (qq 35), .ref (qq 36), .ref (qq 37), .ref (qq 38), .ref (qq 39), .ref (qq 40), .ref (qq 41), .ref (qq 42)])), ((qq 2), .inl (cT 0, 50, .inl (fun _ => (-1)))), ((qq 20), .inl (cT 2, 130, .inl f))]) rfl hP hD hK hN hZ hS hA [0, 1, 2] rfl (by decide) (ci := 12) (q0 := 0) rfl rfl) rfl rfl hl.1 rfl (lv_room (Nat.le_of_ble_eq_true rfl)) dX12_goRow_38 ⟨(Nat.le_of_ble_eq_true rfl), (Nat.le_of_ble_eq_true rfl)⟩) hP hD hS hA [0, 1, 2] [] rfl rfl (by decide) (by decide) (Nat.le_of_ble_eq_true rfl) (Nat.le_of_ble_eq_true rfl) (fun u H locs h_2 hP hD hS => ?_)
    obtain ⟨f_3, rfl⟩ : ∃ z, z = u := ⟨_, rfl⟩
    have hP : va_P g vwCl [(y, .inr (12, [.ref (qq 0), .ref (qq 1), .ref (qq 2), .ref (qq 3), .ref (qq 4), .ref (qq 5), .int z6, .ref (qq 7), .ref (qq 8), .ref (qq 9), .ref (qq 10), .ref (qq 11), .int z12, .ref (qq 13), .int 0, .int z15, .int z16, .int z17, .ref (qq 18), .int 0, .ref (qq 20), .int 0, .int 0, .int 0, .int 0, .ref (qq 25), .int 0, .ref (qq 27), .ref (qq 28), .ref (qq 29), .int z30, .ref (qq 31), .ref (qq 32), .ref (qq 33), .ref (qq 34), .ref (qq 35), .ref (qq 36), .ref (qq 37), .ref (qq 38), .ref (qq 39), .ref (qq 40), .ref (qq 41), .ref (qq 42)])), ((qq 2), .inl (cT 0, 50, .inl (fun _ => (-1)))), ((qq 20), .inl (cT 2, 130, .inl f_3))] H := hP
    have hD : va_D A [(y, .inr (12, [.ref (qq 0), .ref (qq 1), .ref (qq 2), .ref (qq 3), .ref (qq 4), .ref (qq 5), .int z6, .ref (qq 7), .ref (qq 8), .ref (qq 9), .ref (qq 10), .ref (qq 11), .int z12, .ref (qq 13), .int 0, .int z15, .int z16, .int z17, .ref (qq 18), .int 0, .ref (qq 20), .int 0, .int 0, .int 0, .int 0, .ref (qq 25), .int 0, .ref (qq 27), .ref (qq 28), .ref (qq 29), .int z30, .ref (qq 31), .ref (qq 32), .ref (qq 33), .ref (qq 34), .ref (qq 35), .ref (qq 36), .ref (qq 37), .ref (qq 38), .ref (qq 39), .ref (qq 40), .ref (qq 41), .ref (qq 42)])), ((qq 2), .inl (cT 0, 50, .inl (fun _ => (-1)))), ((qq 20), .inl (cT 2, 130, .inl f_3))] := hD
    exact rt_v hx hb hr hlocks hQ hP hD hS () [0] dX12_goRow_41 (Nat.le_of_ble_eq_true rfl) (Nat.le_of_ble_eq_true rfl) rfl (by decide) trivial
  rw [hH, hlo] at hgo
  exact hgo
abbrev rm_c_M_go_1 : Room := { frames := 1, cells := 0, slots := 0, locals := 22 }
set_option maxHeartbeats 4000000 in
set_option maxRecDepth 100000 in
theorem c_M_go_1 (l : Launch) (g : va_G) (cT : Nat → ClassId) (sz : Nat) (y : Nat) (qq : Nat → Nat) (z6 : Int32) (z12 : Int32) (z14 : Int32) (z15 : Int32) (z16 : Int32) (z17 : Int32) (z21 : Int32) (z22 : Int32) (z23 : Int32) (z24 : Int32) (z26 : Int32) (z30 : Int32) (gm : Int32) (f : Nat → Int32) (hg : 0 ≤ gm) : Ctr l g cT sz yX12_go wsX12_go rm_c_M_go_1 [.ref y, .int 1] [(y, .inr (12, [.ref (qq 0), .ref (qq 1), .ref (qq 2), .ref (qq 3), .ref (qq 4), .ref (qq 5), .int z6, .ref (qq 7), .ref (qq 8), .ref (qq 9), .ref (qq 10), .ref (qq 11), .int z12, .ref (qq 13), .int z14, .int z15, .int z16, .int z17, .ref (qq 18), .int gm, .ref (qq 20), .int z21, .int z22, .int z23, .int z24, .ref (qq 25), .int z26, .ref (qq 27), .ref (qq 28), .ref (qq 29), .int z30, .ref (qq 31), .ref (qq 32), .ref (qq 33), .ref (qq 34), .ref (qq 35), .ref (qq 36), .ref (qq 37), .ref (qq 38), .ref (qq 39), .ref (qq 40), .ref (qq 41), .ref (qq 42)])), ((qq 2), .inl (cT 0, 50, .inl (fun _ => (-1)))), ((qq 20), .inl (cT 2, 130, .inl f))] (QV g (fun (u : (Nat → Int32)) => True) (fun (u : (Nat → Int32)) => [(y, .inr (12, [.ref (qq 0), .ref (qq 1), .ref (qq 2), .ref (qq 3), .ref (qq 4), .ref (qq 5), .int z6, .ref (qq 7), .ref (qq 8), .ref (qq 9), .ref (qq 10), .ref (qq 11), .int z12, .ref (qq 13), .int z14, .int z15, .int z16, .int z17, .ref (qq 18), .int gm, .ref (qq 20), .int 0, .int 0, .int 0, .int 0, .ref (qq 25), .int 0, .ref (qq 27), .ref (qq 28), .ref (qq 29), .int z30, .ref (qq 31), .ref (qq 32), .ref (qq 33), .ref (qq 34), .ref (qq 35), .ref (qq 36), .ref (qq 37), .ref (qq 38), .ref (qq 39), .ref (qq 40), .ref (qq 41), .ref (qq 42)])), ((qq 2), .inl (cT 0, 50, .inl (fun _ => (-1)))), ((qq 20), .inl (cT 2, 130, .inl u))])) 0 0 := by
  refine mk_ctr (cc := cX12_go) (maxL := 3) (ret := none) (by decide) rfl (Nat.le_of_ble_eq_true rfl) ?_
  intro p e s m args below meth c A Q hx hb hr hts hown hlocks hin hml hP hK hD hN hZ hA hS hQ ls hl
  have hl : lv_has ls 3 [(0, .ref y), (1, .int 1)] := hl
  obtain ⟨H, hH⟩ : ∃ H : Heap, H = s.heap := ⟨_, rfl⟩
  obtain ⟨locs, hlo⟩ : ∃ x : List Loc, x = [] := ⟨_, rfl⟩
  rw [← hH] at hP
  have hS : va_S A s.heap H locs := by rw [hH, hlo]; exact hS
  have hgo : W p l e rm_c_M_go_1 s m args below meth c H locs 0 0 Q (F0 m 0 ls []) := by
    clear hH hlo
    refine lv_iconst (v := 0) hx hb dX12_go_0 (by decide) ?_
    refine lv_istore_n (lv' := [(2, .int 0), (0, .ref y), (1, .int 1)]) hx hb dX12_go_1 rfl hl (by decide) rfl (fun ls hl => ?_)
    have loop_1 : ∀ (fuel : Nat) (j : Nat) (f2 : Nat → Int32), j ≤ 130 → (∀ k, k < j → f2 k = 0) → 130 - j < fuel → ∀ (H : Heap) (locs : List Loc), va_P g vwCl [(y, .inr (12, [.ref (qq 0), .ref (qq 1), .ref (qq 2), .ref (qq 3), .ref (qq 4), .ref (qq 5), .int z6, .ref (qq 7), .ref (qq 8), .ref (qq 9), .ref (qq 10), .ref (qq 11), .int z12, .ref (qq 13), .int z14, .int z15, .int z16, .int z17, .ref (qq 18), .int gm, .ref (qq 20), .int z21, .int z22, .int z23, .int z24, .ref (qq 25), .int z26, .ref (qq 27), .ref (qq 28), .ref (qq 29), .int z30, .ref (qq 31), .ref (qq 32), .ref (qq 33), .ref (qq 34), .ref (qq 35), .ref (qq 36), .ref (qq 37), .ref (qq 38), .ref (qq 39), .ref (qq 40), .ref (qq 41), .ref (qq 42)])), ((qq 2), .inl (cT 0, 50, .inl (fun _ => (-1)))), ((qq 20), .inl (cT 2, 130, .inl f2))] H → va_D A [(y, .inr (12, [.ref (qq 0), .ref (qq 1), .ref (qq 2), .ref (qq 3), .ref (qq 4), .ref (qq 5), .int z6, .ref (qq 7), .ref (qq 8), .ref (qq 9), .ref (qq 10), .ref (qq 11), .int z12, .ref (qq 13), .int z14, .int z15, .int z16, .int z17, .ref (qq 18), .int gm, .ref (qq 20), .int z21, .int z22, .int z23, .int z24, .ref (qq 25), .int z26, .ref (qq 27), .ref (qq 28), .ref (qq 29), .int z30, .ref (qq 31), .ref (qq 32), .ref (qq 33), .ref (qq 34), .ref (qq 35), .ref (qq 36), .ref (qq 37), .ref (qq 38), .ref (qq 39), .ref (qq 40), .ref (qq 41), .ref (qq 42)])), ((qq 2), .inl (cT 0, 50, .inl (fun _ => (-1)))), ((qq 20), .inl (cT 2, 130, .inl f2))] → va_S A s.heap H locs → ∀ ls : Array Slot, lv_has ls 3 [(2, .int (nI j)), (0, .ref y), (1, .int 1)] → W p l e rm_c_M_go_1 s m args below meth c H locs 0 0 Q (F0 m 2 ls []) := by
      intro fuel
      induction fuel with
      | zero => intro j f2 hj hf hfu; omega
      | succ fuel ih_loop_1 =>
        intro j f2 hj hf hfu H locs hP hD hS ls hl
        refine lv_iload_n hx hb dX12_go_2 rfl (lv_at hl 0 rfl) ?_
        refine lv_sipush (v := 130) hx hb dX12_go_3 (by decide) ?_
        refine lv_icmp_ge (tgt := 22) hx hb dX12_go_6 (by decide) (fun c_2 => ?_) (fun c_2 => ?_)
        · skip
          have hge : 130 ≤ j := (nI_leI (a := 130) (by decide) (by omega)).mp c_2
          obtain ⟨hP, hD⟩ := swI hP hD 2 (fun _ => 0) rfl (fun k hk => hf k (by omega))
          have hP : va_P g vwCl [(y, .inr (12, [.ref (qq 0), .ref (qq 1), .ref (qq 2), .ref (qq 3), .ref (qq 4), .ref (qq 5), .int z6, .ref (qq 7), .ref (qq 8), .ref (qq 9), .ref (qq 10), .ref (qq 11), .int z12, .ref (qq 13), .int z14, .int z15, .int z16, .int z17, .ref (qq 18), .int gm, .ref (qq 20), .int z21, .int z22, .int z23, .int z24, .ref (qq 25), .int z26, .ref (qq 27), .ref (qq 28), .ref (qq 29), .int z30, .ref (qq 31), .ref (qq 32), .ref (qq 33), .ref (qq 34), .ref (qq 35), .ref (qq 36), .ref (qq 37), .ref (qq 38), .ref (qq 39), .ref (qq 40), .ref (qq 41), .ref (qq 42)])), ((qq 2), .inl (cT 0, 50, .inl (fun _ => (-1)))), ((qq 20), .inl (cT 2, 130, .inl (fun _ => 0)))] H := hP
          have hD : va_D A [(y, .inr (12, [.ref (qq 0), .ref (qq 1), .ref (qq 2), .ref (qq 3), .ref (qq 4), .ref (qq 5), .int z6, .ref (qq 7), .ref (qq 8), .ref (qq 9), .ref (qq 10), .ref (qq 11), .int z12, .ref (qq 13), .int z14, .int z15, .int z16, .int z17, .ref (qq 18), .int gm, .ref (qq 20), .int z21, .int z22, .int z23, .int z24, .ref (qq 25), .int z26, .ref (qq 27), .ref (qq 28), .ref (qq 29), .int z30, .ref (qq 31), .ref (qq 32), .ref (qq 33), .ref (qq 34), .ref (qq 35), .ref (qq 36), .ref (qq 37), .ref (qq 38), .ref (qq 39), .ref (qq 40), .ref (qq 41), .ref (qq 42)])), ((qq 2), .inl (cT 0, 50, .inl (fun _ => (-1)))), ((qq 20), .inl (cT 2, 130, .inl (fun _ => 0)))] := hD
          refine lv_aload_n hx hb dX12_go_22 rfl (lv_at hl 1 rfl) ?_
          refine lv_iconst (v := (-1)) hx hb dX12_go_23 (by decide) ?_
          refine va_put (C := RX12) (T := TX12) (N := 43) (v := .int (-1)) (ty := .int) hx hb hts hi_X12_go_X12 tyX12 tyX12_ok nmX12 hown hK hP hD hS 0 rfl rfl 21 (by decide) (hts (.fieldLink RX12 185 "BothWaysModel" "ends" "I") (by decide +kernel)) (fun _ h => h) rfl (by decide +kernel) rfl rfl (Nat.le_of_ble_eq_true rfl) dX12_go_24 (fun H locs hP hD hS => ?_)
          have hP : va_P g vwCl [(y, .inr (12, [.ref (qq 0), .ref (qq 1), .ref (qq 2), .ref (qq 3), .ref (qq 4), .ref (qq 5), .int z6, .ref (qq 7), .ref (qq 8), .ref (qq 9), .ref (qq 10), .ref (qq 11), .int z12, .ref (qq 13), .int z14, .int z15, .int z16, .int z17, .ref (qq 18), .int gm, .ref (qq 20), .int (-1), .int z22, .int z23, .int z24, .ref (qq 25), .int z26, .ref (qq 27), .ref (qq 28), .ref (qq 29), .int z30, .ref (qq 31), .ref (qq 32), .ref (qq 33), .ref (qq 34), .ref (qq 35), .ref (qq 36), .ref (qq 37), .ref (qq 38), .ref (qq 39), .ref (qq 40), .ref (qq 41), .ref (qq 42)])), ((qq 2), .inl (cT 0, 50, .inl (fun _ => (-1)))), ((qq 20), .inl (cT 2, 130, .inl (fun _ => 0)))] H := hP
          have hD : va_D A [(y, .inr (12, [.ref (qq 0), .ref (qq 1), .ref (qq 2), .ref (qq 3), .ref (qq 4), .ref (qq 5), .int z6, .ref (qq 7), .ref (qq 8), .ref (qq 9), .ref (qq 10), .ref (qq 11), .int z12, .ref (qq 13), .int z14, .int z15, .int z16, .int z17, .ref (qq 18), .int gm, .ref (qq 20), .int (-1), .int z22, .int z23, .int z24, .ref (qq 25), .int z26, .ref (qq 27), .ref (qq 28), .ref (qq 29), .int z30, .ref (qq 31), .ref (qq 32), .ref (qq 33), .ref (qq 34), .ref (qq 35), .ref (qq 36), .ref (qq 37), .ref (qq 38), .ref (qq 39), .ref (qq 40), .ref (qq 41), .ref (qq 42)])), ((qq 2), .inl (cT 0, 50, .inl (fun _ => (-1)))), ((qq 20), .inl (cT 2, 130, .inl (fun _ => 0)))] := hD
          refine lv_aload_n hx hb dX12_go_27 rfl (lv_at hl 1 rfl) ?_
          refine lv_iconst (v := 0) hx hb dX12_go_28 (by decide) ?_
          refine va_put (C := RX12) (T := TX12) (N := 43) (v := .int 0) (ty := .int) hx hb hts hi_X12_go_X12 tyX12 tyX12_ok nmX12 hown hK hP hD hS 0 rfl rfl 22 (by decide) (hts (.fieldLink RX12 188 "BothWaysModel" "made" "I") (by decide +kernel)) (fun _ h => h) rfl (by decide +kernel) rfl rfl (Nat.le_of_ble_eq_true rfl) dX12_go_29 (fun H locs hP hD hS => ?_)
          have hP : va_P g vwCl [(y, .inr (12, [.ref (qq 0), .ref (qq 1), .ref (qq 2), .ref (qq 3), .ref (qq 4), .ref (qq 5), .int z6, .ref (qq 7), .ref (qq 8), .ref (qq 9), .ref (qq 10), .ref (qq 11), .int z12, .ref (qq 13), .int z14, .int z15, .int z16, .int z17, .ref (qq 18), .int gm, .ref (qq 20), .int (-1), .int 0, .int z23, .int z24, .ref (qq 25), .int z26, .ref (qq 27), .ref (qq 28), .ref (qq 29), .int z30, .ref (qq 31), .ref (qq 32), .ref (qq 33), .ref (qq 34), .ref (qq 35), .ref (qq 36), .ref (qq 37), .ref (qq 38), .ref (qq 39), .ref (qq 40), .ref (qq 41), .ref (qq 42)])), ((qq 2), .inl (cT 0, 50, .inl (fun _ => (-1)))), ((qq 20), .inl (cT 2, 130, .inl (fun _ => 0)))] H := hP
          have hD : va_D A [(y, .inr (12, [.ref (qq 0), .ref (qq 1), .ref (qq 2), .ref (qq 3), .ref (qq 4), .ref (qq 5), .int z6, .ref (qq 7), .ref (qq 8), .ref (qq 9), .ref (qq 10), .ref (qq 11), .int z12, .ref (qq 13), .int z14, .int z15, .int z16, .int z17, .ref (qq 18), .int gm, .ref (qq 20), .int (-1), .int 0, .int z23, .int z24, .ref (qq 25), .int z26, .ref (qq 27), .ref (qq 28), .ref (qq 29), .int z30, .ref (qq 31), .ref (qq 32), .ref (qq 33), .ref (qq 34), .ref (qq 35), .ref (qq 36), .ref (qq 37), .ref (qq 38), .ref (qq 39), .ref (qq 40), .ref (qq 41), .ref (qq 42)])), ((qq 2), .inl (cT 0, 50, .inl (fun _ => (-1)))), ((qq 20), .inl (cT 2, 130, .inl (fun _ => 0)))] := hD
          refine lv_aload_n hx hb dX12_go_32 rfl (lv_at hl 1 rfl) ?_
          refine lv_iconst (v := 0) hx hb dX12_go_33 (by decide) ?_
          refine va_put (C := RX12) (T := TX12) (N := 43) (v := .int 0) (ty := .int) hx hb hts hi_X12_go_X12 tyX12 tyX12_ok nmX12 hown hK hP hD hS 0 rfl rfl 23 (by decide) (hts (.fieldLink RX12 191 "BothWaysModel" "where" "I") (by decide +kernel)) (fun _ h => h) rfl (by decide +kernel) rfl rfl (Nat.le_of_ble_eq_true rfl) dX12_go_34 (fun H locs hP hD hS => ?_)
          have hP : va_P g vwCl [(y, .inr (12, [.ref (qq 0), .ref (qq 1), .ref (qq 2), .ref (qq 3), .ref (qq 4), .ref (qq 5), .int z6, .ref (qq 7), .ref (qq 8), .ref (qq 9), .ref (qq 10), .ref (qq 11), .int z12, .ref (qq 13), .int z14, .int z15, .int z16, .int z17, .ref (qq 18), .int gm, .ref (qq 20), .int (-1), .int 0, .int 0, .int z24, .ref (qq 25), .int z26, .ref (qq 27), .ref (qq 28), .ref (qq 29), .int z30, .ref (qq 31), .ref (qq 32), .ref (qq 33), .ref (qq 34), .ref (qq 35), .ref (qq 36), .ref (qq 37), .ref (qq 38), .ref (qq 39), .ref (qq 40), .ref (qq 41), .ref (qq 42)])), ((qq 2), .inl (cT 0, 50, .inl (fun _ => (-1)))), ((qq 20), .inl (cT 2, 130, .inl (fun _ => 0)))] H := hP
          have hD : va_D A [(y, .inr (12, [.ref (qq 0), .ref (qq 1), .ref (qq 2), .ref (qq 3), .ref (qq 4), .ref (qq 5), .int z6, .ref (qq 7), .ref (qq 8), .ref (qq 9), .ref (qq 10), .ref (qq 11), .int z12, .ref (qq 13), .int z14, .int z15, .int z16, .int z17, .ref (qq 18), .int gm, .ref (qq 20), .int (-1), .int 0, .int 0, .int z24, .ref (qq 25), .int z26, .ref (qq 27), .ref (qq 28), .ref (qq 29), .int z30, .ref (qq 31), .ref (qq 32), .ref (qq 33), .ref (qq 34), .ref (qq 35), .ref (qq 36), .ref (qq 37), .ref (qq 38), .ref (qq 39), .ref (qq 40), .ref (qq 41), .ref (qq 42)])), ((qq 2), .inl (cT 0, 50, .inl (fun _ => (-1)))), ((qq 20), .inl (cT 2, 130, .inl (fun _ => 0)))] := hD
          refine lv_aload_n hx hb dX12_go_37 rfl (lv_at hl 1 rfl) ?_
          refine lv_iconst (v := 0) hx hb dX12_go_38 (by decide) ?_
          refine va_put (C := RX12) (T := TX12) (N := 43) (v := .int 0) (ty := .int) hx hb hts hi_X12_go_X12 tyX12 tyX12_ok nmX12 hown hK hP hD hS 0 rfl rfl 24 (by decide) (hts (.fieldLink RX12 194 "BothWaysModel" "state" "I") (by decide +kernel)) (fun _ h => h) rfl (by decide +kernel) rfl rfl (Nat.le_of_ble_eq_true rfl) dX12_go_39 (fun H locs hP hD hS => ?_)
          have hP : va_P g vwCl [(y, .inr (12, [.ref (qq 0), .ref (qq 1), .ref (qq 2), .ref (qq 3), .ref (qq 4), .ref (qq 5), .int z6, .ref (qq 7), .ref (qq 8), .ref (qq 9), .ref (qq 10), .ref (qq 11), .int z12, .ref (qq 13), .int z14, .int z15, .int z16, .int z17, .ref (qq 18), .int gm, .ref (qq 20), .int (-1), .int 0, .int 0, .int 0, .ref (qq 25), .int z26, .ref (qq 27), .ref (qq 28), .ref (qq 29), .int z30, .ref (qq 31), .ref (qq 32), .ref (qq 33), .ref (qq 34), .ref (qq 35), .ref (qq 36), .ref (qq 37), .ref (qq 38), .ref (qq 39), .ref (qq 40), .ref (qq 41), .ref (qq 42)])), ((qq 2), .inl (cT 0, 50, .inl (fun _ => (-1)))), ((qq 20), .inl (cT 2, 130, .inl (fun _ => 0)))] H := hP
          have hD : va_D A [(y, .inr (12, [.ref (qq 0), .ref (qq 1), .ref (qq 2), .ref (qq 3), .ref (qq 4), .ref (qq 5), .int z6, .ref (qq 7), .ref (qq 8), .ref (qq 9), .ref (qq 10), .ref (qq 11), .int z12, .ref (qq 13), .int z14, .int z15, .int z16, .int z17, .ref (qq 18), .int gm, .ref (qq 20), .int (-1), .int 0, .int 0, .int 0, .ref (qq 25), .int z26, .ref (qq 27), .ref (qq 28), .ref (qq 29), .int z30, .ref (qq 31), .ref (qq 32), .ref (qq 33), .ref (qq 34), .ref (qq 35), .ref (qq 36), .ref (qq 37), .ref (qq 38), .ref (qq 39), .ref (qq 40), .ref (qq 41), .ref (qq 42)])), ((qq 2), .inl (cT 0, 50, .inl (fun _ => (-1)))), ((qq 20), .inl (cT 2, 130, .inl (fun _ => 0)))] := hD
          refine lv_aload_n hx hb dX12_go_42 rfl (lv_at hl 1 rfl) ?_
          refine lv_iconst (v := 0) hx hb dX12_go_43 (by decide) ?_
          refine va_put (C := RX12) (T := TX12) (N := 43) (v := .int 0) (ty := .int) hx hb hts hi_X12_go_X12 tyX12 tyX12_ok nmX12 hown hK hP hD hS 0 rfl rfl 26 (by decide) (hts (.fieldLink RX12 197 "BothWaysModel" "saidMany" "I") (by decide +kernel)) (fun _ h => h) rfl (by decide +kernel) rfl rfl (Nat.le_of_ble_eq_true rfl) dX12_go_44 (fun H locs hP hD hS => ?_)
          have hP : va_P g vwCl [(y, .inr (12, [.ref (qq 0), .ref (qq 1), .ref (qq 2), .ref (qq 3), .ref (qq 4), .ref (qq 5), .int z6, .ref (qq 7), .ref (qq 8), .ref (qq 9), .ref (qq 10), .ref (qq 11), .int z12, .ref (qq 13), .int z14, .int z15, .int z16, .int z17, .ref (qq 18), .int gm, .ref (qq 20), .int (-1), .int 0, .int 0, .int 0, .ref (qq 25), .int 0, .ref (qq 27), .ref (qq 28), .ref (qq 29), .int z30, .ref (qq 31), .ref (qq 32), .ref (qq 33), .ref (qq 34), .ref (qq 35), .ref (qq 36), .ref (qq 37), .ref (qq 38), .ref (qq 39), .ref (qq 40), .ref (qq 41), .ref (qq 42)])), ((qq 2), .inl (cT 0, 50, .inl (fun _ => (-1)))), ((qq 20), .inl (cT 2, 130, .inl (fun _ => 0)))] H := hP
          have hD : va_D A [(y, .inr (12, [.ref (qq 0), .ref (qq 1), .ref (qq 2), .ref (qq 3), .ref (qq 4), .ref (qq 5), .int z6, .ref (qq 7), .ref (qq 8), .ref (qq 9), .ref (qq 10), .ref (qq 11), .int z12, .ref (qq 13), .int z14, .int z15, .int z16, .int z17, .ref (qq 18), .int gm, .ref (qq 20), .int (-1), .int 0, .int 0, .int 0, .ref (qq 25), .int 0, .ref (qq 27), .ref (qq 28), .ref (qq 29), .int z30, .ref (qq 31), .ref (qq 32), .ref (qq 33), .ref (qq 34), .ref (qq 35), .ref (qq 36), .ref (qq 37), .ref (qq 38), .ref (qq 39), .ref (qq 40), .ref (qq 41), .ref (qq 42)])), ((qq 2), .inl (cT 0, 50, .inl (fun _ => (-1)))), ((qq 20), .inl (cT 2, 130, .inl (fun _ => 0)))] := hD
          refine lv_aload_n hx hb dX12_go_47 rfl (lv_at hl 1 rfl) ?_
          refine va_get (C := RX12) (T := TX12) (N := 43) (v := .int (-1)) hx hb hts hi_X12_go_X12 hown hK hP 0 rfl rfl 21 (by decide) (hts (.fieldLink RX12 185 "BothWaysModel" "ends" "I") (by decide +kernel)) (fun _ h => h) rfl dX12_go_48 ?_
          refine lv_iconst (v := (-1)) hx hb dX12_go_51 (by decide) ?_
          refine icmp_ne_f hx hb dX12_go_52 277 (by decide) (by decide) ?_
          refine lv_aload_n hx hb dX12_go_55 rfl (lv_at hl 1 rfl) ?_
          refine va_get (C := RX12) (T := TX12) (N := 43) (v := .ref (qq 20)) hx hb hts hi_X12_go_X12 hown hK hP 0 rfl rfl 20 (by decide) (hts (.fieldLink RX12 49 "BothWaysModel" "met" "[Z") (by decide +kernel)) (fun _ h => h) rfl dX12_go_56 ?_
          refine lv_iconst (v := 5) hx hb dX12_go_59 (by decide) ?_
          refine lv_aload_n hx hb dX12_go_60 rfl (lv_at hl 1 rfl) ?_
          refine va_get (C := RX12) (T := TX12) (N := 43) (v := .int 0) hx hb hts hi_X12_go_X12 hown hK hP 0 rfl rfl 23 (by decide) (hts (.fieldLink RX12 191 "BothWaysModel" "where" "I") (by decide +kernel)) (fun _ h => h) rfl dX12_go_61 ?_
          refine w_imul (v := 0) hx hb dX12_go_64 (by decide) ?_
          refine lv_aload_n hx hb dX12_go_65 rfl (lv_at hl 1 rfl) ?_
          refine va_get (C := RX12) (T := TX12) (N := 43) (v := .int 0) hx hb hts hi_X12_go_X12 hown hK hP 0 rfl rfl 24 (by decide) (hts (.fieldLink RX12 194 "BothWaysModel" "state" "I") (by decide +kernel)) (fun _ h => h) rfl dX12_go_66 ?_
          refine w_iadd (v := 0) hx hb dX12_go_69 (by decide) ?_
          refine w_zald (v := 0) hx hb hK hP 2 rfl dX12_go_70 (inC (by decide)) rfl ?_
          refine if_eq_t hx hb 82 dX12_go_71 (by decide) (by decide) ?_
          refine lv_aload_n hx hb dX12_go_82 rfl (lv_at hl 1 rfl) ?_
          refine va_get (C := RX12) (T := TX12) (N := 43) (v := .ref (qq 20)) hx hb hts hi_X12_go_X12 hown hK hP 0 rfl rfl 20 (by decide) (hts (.fieldLink RX12 49 "BothWaysModel" "met" "[Z") (by decide +kernel)) (fun _ h => h) rfl dX12_go_83 ?_
          refine lv_iconst (v := 5) hx hb dX12_go_86 (by decide) ?_
          refine lv_aload_n hx hb dX12_go_87 rfl (lv_at hl 1 rfl) ?_
          refine va_get (C := RX12) (T := TX12) (N := 43) (v := .int 0) hx hb hts hi_X12_go_X12 hown hK hP 0 rfl rfl 23 (by decide) (hts (.fieldLink RX12 191 "BothWaysModel" "where" "I") (by decide +kernel)) (fun _ h => h) rfl dX12_go_88 ?_
          refine w_imul (v := 0) hx hb dX12_go_91 (by decide) ?_
          refine lv_aload_n hx hb dX12_go_92 rfl (lv_at hl 1 rfl) ?_
          refine va_get (C := RX12) (T := TX12) (N := 43) (v := .int 0) hx hb hts hi_X12_go_X12 hown hK hP 0 rfl rfl 24 (by decide) (hts (.fieldLink RX12 194 "BothWaysModel" "state" "I") (by decide +kernel)) (fun _ h => h) rfl dX12_go_93 ?_
          refine w_iadd (v := 0) hx hb dX12_go_96 (by decide) ?_
          refine lv_iconst (v := 1) hx hb dX12_go_97 (by decide) ?_
          obtain ⟨f_3, ef_3⟩ : ∃ z, z = upd (fun _ => 0) (0 : Int32).toNatClampNeg (vp_nar .boolean 1) := ⟨_, rfl⟩
          refine w_zast (f' := f_3) hx hb hK hP hD hS 2 rfl dX12_go_98 (inC (by decide)) ef_3.symm (fun H locs hP hD hS => ?_)
          have hP : va_P g vwCl [(y, .inr (12, [.ref (qq 0), .ref (qq 1), .ref (qq 2), .ref (qq 3), .ref (qq 4), .ref (qq 5), .int z6, .ref (qq 7), .ref (qq 8), .ref (qq 9), .ref (qq 10), .ref (qq 11), .int z12, .ref (qq 13), .int z14, .int z15, .int z16, .int z17, .ref (qq 18), .int gm, .ref (qq 20), .int (-1), .int 0, .int 0, .int 0, .ref (qq 25), .int 0, .ref (qq 27), .ref (qq 28), .ref (qq 29), .int z30, .ref (qq 31), .ref (qq 32), .ref (qq 33), .ref (qq 34), .ref (qq 35), .ref (qq 36), .ref (qq 37), .ref (qq 38), .ref (qq 39), .ref (qq 40), .ref (qq 41), .ref (qq 42)])), ((qq 2), .inl (cT 0, 50, .inl (fun _ => (-1)))), ((qq 20), .inl (cT 2, 130, .inl f_3))] H := hP
          have hD : va_D A [(y, .inr (12, [.ref (qq 0), .ref (qq 1), .ref (qq 2), .ref (qq 3), .ref (qq 4), .ref (qq 5), .int z6, .ref (qq 7), .ref (qq 8), .ref (qq 9), .ref (qq 10), .ref (qq 11), .int z12, .ref (qq 13), .int z14, .int z15, .int z16, .int z17, .ref (qq 18), .int gm, .ref (qq 20), .int (-1), .int 0, .int 0, .int 0, .ref (qq 25), .int 0, .ref (qq 27), .ref (qq 28), .ref (qq 29), .int z30, .ref (qq 31), .ref (qq 32), .ref (qq 33), .ref (qq 34), .ref (qq 35), .ref (qq 36), .ref (qq 37), .ref (qq 38), .ref (qq 39), .ref (qq 40), .ref (qq 41), .ref (qq 42)])), ((qq 2), .inl (cT 0, 50, .inl (fun _ => (-1)))), ((qq 20), .inl (cT 2, 130, .inl f_3))] := hD
          refine lv_iload_n hx hb dX12_go_99 rfl (lv_at hl 2 rfl) ?_
          refine lv_aload_n hx hb dX12_go_100 rfl (lv_at hl 1 rfl) ?_
          refine va_get (C := RX12) (T := TX12) (N := 43) (v := .int 0) hx hb hts hi_X12_go_X12 hown hK hP 0 rfl rfl 24 (by decide) (hts (.fieldLink RX12 194 "BothWaysModel" "state" "I") (by decide +kernel)) (fun _ h => h) rfl dX12_go_101 ?_
          refine lv_aload_n hx hb dX12_go_104 rfl (lv_at hl 1 rfl) ?_
          refine va_get (C := RX12) (T := TX12) (N := 43) (v := .int 0) hx hb hts hi_X12_go_X12 hown hK hP 0 rfl rfl 23 (by decide) (hts (.fieldLink RX12 191 "BothWaysModel" "where" "I") (by decide +kernel)) (fun _ h => h) rfl dX12_go_105 ?_
          refine if_ne_f hx hb dX12_go_108 115 (by decide) (by decide) ?_
          refine lv_iconst (v := 3) hx hb dX12_go_111 (by decide) ?_
          refine lv_goto (tgt := 141) hx hb dX12_go_112 (by decide) ?_
          refine cp_i (va_runS (As := [.int 1, .int 0, .int 3]) (rest := []) ⟨hx, hb, hml, hown, hts⟩ (c_M_at0 l g cT H.size 1 0 3) (va_cwS 3 hts gX12_go_X12_at0 rfl rfl rfl yd_X12_at0.2 ⟨(Nat.le_of_ble_eq_true rfl), (Nat.le_of_ble_eq_true rfl)⟩) (preS (ws := []) (wc := []) rfl (fun _ _ h => by simp at h) (va_D_nil (A := A)) hK hN hZ hS hA [] rfl rfl) rfl rfl hl.1 rfl (lv_room (Nat.le_of_ble_eq_true rfl)) dX12_go_141 ⟨(Nat.le_of_ble_eq_true rfl), (Nat.le_of_ble_eq_true rfl)⟩) hP hS hA (fun r_4 u H locs h_5 hP hS => ?_)
          subst h_5
          refine tI 28 (by decide) ?_
          refine lv_istore_n (lv' := [(2, .int 28), (0, .ref y), (1, .int 1)]) hx hb dX12_go_144 rfl hl (by decide) rfl (fun ls hl => ?_)
          refine lv_aload_n hx hb dX12_go_145 rfl (lv_at hl 1 rfl) ?_
          refine va_get (C := RX12) (T := TX12) (N := 43) (v := .ref (qq 2)) hx hb hts hi_X12_go_X12 hown hK hP 0 rfl rfl 2 (by decide) (hts (.fieldLink RX12 16 "BothWaysModel" "goTo" "[I") (by decide +kernel)) (fun _ h => h) rfl dX12_go_146 ?_
          refine lv_iload_n hx hb dX12_go_149 rfl (lv_at hl 0 rfl) ?_
          refine w_iald (v := (-1)) hx hb hK hP 1 rfl dX12_go_150 (inC (by decide)) rfl ?_
          refine lv_iconst (v := (-1)) hx hb dX12_go_151 (by decide) ?_
          refine icmp_ne_f hx hb dX12_go_152 195 (by decide) (by decide) ?_
          refine lv_aload_n hx hb dX12_go_155 rfl (lv_at hl 1 rfl) ?_
          refine lv_aload_n hx hb dX12_go_156 rfl (lv_at hl 1 rfl) ?_
          refine va_get (C := RX12) (T := TX12) (N := 43) (v := .int 0) hx hb hts hi_X12_go_X12 hown hK hP 0 rfl rfl 23 (by decide) (hts (.fieldLink RX12 191 "BothWaysModel" "where" "I") (by decide +kernel)) (fun _ h => h) rfl dX12_go_157 ?_
          refine lv_aload_n hx hb dX12_go_160 rfl (lv_at hl 1 rfl) ?_
          refine va_get (C := RX12) (T := TX12) (N := 43) (v := .int gm) hx hb hts hi_X12_go_X12 hown hK hP 0 rfl rfl 19 (by decide) (hts (.fieldLink RX12 200 "BothWaysModel" "groundMany" "I") (by decide +kernel)) (fun _ h => h) rfl dX12_go_161 ?_
          refine icmp_le_t hx hb 188 dX12_go_164 (by decide) hg ?_
          refine lv_iconst (v := 0) hx hb dX12_go_188 (by decide) ?_
          refine va_put (C := RX12) (T := TX12) (N := 43) (v := .int 0) (ty := .int) hx hb hts hi_X12_go_X12 tyX12 tyX12_ok nmX12 hown hK hP hD hS 0 rfl rfl 21 (by decide) (hts (.fieldLink RX12 185 "BothWaysModel" "ends" "I") (by decide +kernel)) (fun _ h => h) rfl (by decide +kernel) rfl rfl (Nat.le_of_ble_eq_true rfl) dX12_go_189 (fun H locs hP hD hS => ?_)
          have hP : va_P g vwCl [(y, .inr (12, [.ref (qq 0), .ref (qq 1), .ref (qq 2), .ref (qq 3), .ref (qq 4), .ref (qq 5), .int z6, .ref (qq 7), .ref (qq 8), .ref (qq 9), .ref (qq 10), .ref (qq 11), .int z12, .ref (qq 13), .int z14, .int z15, .int z16, .int z17, .ref (qq 18), .int gm, .ref (qq 20), .int 0, .int 0, .int 0, .int 0, .ref (qq 25), .int 0, .ref (qq 27), .ref (qq 28), .ref (qq 29), .int z30, .ref (qq 31), .ref (qq 32), .ref (qq 33), .ref (qq 34), .ref (qq 35), .ref (qq 36), .ref (qq 37), .ref (qq 38), .ref (qq 39), .ref (qq 40), .ref (qq 41), .ref (qq 42)])), ((qq 2), .inl (cT 0, 50, .inl (fun _ => (-1)))), ((qq 20), .inl (cT 2, 130, .inl f_3))] H := hP
          have hD : va_D A [(y, .inr (12, [.ref (qq 0), .ref (qq 1), .ref (qq 2), .ref (qq 3), .ref (qq 4), .ref (qq 5), .int z6, .ref (qq 7), .ref (qq 8), .ref (qq 9), .ref (qq 10), .ref (qq 11), .int z12, .ref (qq 13), .int z14, .int z15, .int z16, .int z17, .ref (qq 18), .int gm, .ref (qq 20), .int 0, .int 0, .int 0, .int 0, .ref (qq 25), .int 0, .ref (qq 27), .ref (qq 28), .ref (qq 29), .int z30, .ref (qq 31), .ref (qq 32), .ref (qq 33), .ref (qq 34), .ref (qq 35), .ref (qq 36), .ref (qq 37), .ref (qq 38), .ref (qq 39), .ref (qq 40), .ref (qq 41), .ref (qq 42)])), ((qq 2), .inl (cT 0, 50, .inl (fun _ => (-1)))), ((qq 20), .inl (cT 2, 130, .inl f_3))] := hD
          refine lv_goto (tgt := 274) hx hb dX12_go_192 (by decide) ?_
          refine lv_goto (tgt := 47) hx hb dX12_go_274 (by decide) ?_
          refine lv_aload_n hx hb dX12_go_47 rfl (lv_at hl 1 rfl) ?_
          refine va_get (C := RX12) (T := TX12) (N := 43) (v := .int 0) hx hb hts hi_X12_go_X12 hown hK hP 0 rfl rfl 21 (by decide) (hts (.fieldLink RX12 185 "BothWaysModel" "ends" "I") (by decide +kernel)) (fun _ h => h) rfl dX12_go_48 ?_
          refine lv_iconst (v := (-1)) hx hb dX12_go_51 (by decide) ?_
          refine icmp_ne_t hx hb 277 dX12_go_52 (by decide) (by decide) ?_
          exact rt_v hx hb hr hlocks hQ hP hD hS f_3 [0, 1, 2] dX12_go_277 (Nat.le_of_ble_eq_true rfl) (Nat.le_of_ble_eq_true rfl) rfl (by decide) trivial
        · skip
          have hlt : j < 130 := Nat.lt_of_not_le (fun h => c_2 (nI_le (a := 130) h (by omega)))
          refine lv_aload_n hx hb dX12_go_9 rfl (lv_at hl 1 rfl) ?_
          refine va_get (C := RX12) (T := TX12) (N := 43) (v := .ref (qq 20)) hx hb hts hi_X12_go_X12 hown hK hP 0 rfl rfl 20 (by decide) (hts (.fieldLink RX12 49 "BothWaysModel" "met" "[Z") (by decide +kernel)) (fun _ h => h) rfl dX12_go_10 ?_
          refine lv_iload_n hx hb dX12_go_13 rfl (lv_at hl 0 rfl) ?_
          refine lv_iconst (v := 0) hx hb dX12_go_14 (by decide) ?_
          obtain ⟨f_6, ef_6⟩ : ∃ z, z = upd f2 (nI j).toNatClampNeg (vp_nar .boolean 0) := ⟨_, rfl⟩
          refine w_zast (f' := f_6) hx hb hK hP hD hS 2 rfl dX12_go_15 (vp_in_nI (show j < 130 by omega) (by decide)) ef_6.symm (fun H locs hP hD hS => ?_)
          have hP : va_P g vwCl [(y, .inr (12, [.ref (qq 0), .ref (qq 1), .ref (qq 2), .ref (qq 3), .ref (qq 4), .ref (qq 5), .int z6, .ref (qq 7), .ref (qq 8), .ref (qq 9), .ref (qq 10), .ref (qq 11), .int z12, .ref (qq 13), .int z14, .int z15, .int z16, .int z17, .ref (qq 18), .int gm, .ref (qq 20), .int z21, .int z22, .int z23, .int z24, .ref (qq 25), .int z26, .ref (qq 27), .ref (qq 28), .ref (qq 29), .int z30, .ref (qq 31), .ref (qq 32), .ref (qq 33), .ref (qq 34), .ref (qq 35), .ref (qq 36), .ref (qq 37), .ref (qq 38), .ref (qq 39), .ref (qq 40), .ref (qq 41), .ref (qq 42)])), ((qq 2), .inl (cT 0, 50, .inl (fun _ => (-1)))), ((qq 20), .inl (cT 2, 130, .inl f_6))] H := hP
          have hD : va_D A [(y, .inr (12, [.ref (qq 0), .ref (qq 1), .ref (qq 2), .ref (qq 3), .ref (qq 4), .ref (qq 5), .int z6, .ref (qq 7), .ref (qq 8), .ref (qq 9), .ref (qq 10), .ref (qq 11), .int z12, .ref (qq 13), .int z14, .int z15, .int z16, .int z17, .ref (qq 18), .int gm, .ref (qq 20), .int z21, .int z22, .int z23, .int z24, .ref (qq 25), .int z26, .ref (qq 27), .ref (qq 28), .ref (qq 29), .int z30, .ref (qq 31), .ref (qq 32), .ref (qq 33), .ref (qq 34), .ref (qq 35), .ref (qq 36), .ref (qq 37), .ref (qq 38), .ref (qq 39), .ref (qq 40), .ref (qq 41), .ref (qq 42)])), ((qq 2), .inl (cT 0, 50, .inl (fun _ => (-1)))), ((qq 20), .inl (cT 2, 130, .inl f_6))] := hD
          refine lv_iinc (v := (nI (j + 1))) (lv' := [(2, .int (nI (j + 1))), (0, .ref y), (1, .int 1)]) hx hb dX12_go_16 hl (k := 0) rfl (nI_1 j) (by decide) rfl (fun ls hl => ?_)
          refine lv_goto (tgt := 2) hx hb dX12_go_19 (by decide) ?_
          exact ih_loop_1 (j + 1) f_6 (by omega) (fun k hk => by rw [ef_6]; simp only [upd, nI_clamp (show j < 2 ^ 31 by omega)]; split; rfl; exact hf k (by omega)) (by omega) _ _ (hP.sub [0, 1, 2] rfl) (hD.sub [0, 1, 2] (by decide) rfl) hS ls (lv_sub hl [0, 1, 2] rfl)
    exact loop_1 _ 0 f (Nat.zero_le _) (fun k hk => absurd hk (Nat.not_lt_zero k)) (Nat.lt_succ_self _) _ _ (hP.sub [0, 1, 2] rfl) (hD.sub [0, 1, 2] (by decide) rfl) hS ls (lv_sub hl [0, 1, 2] rfl)
  rw [hH, hlo] at hgo
  exact hgo
abbrev rm_c_M_goRow_1 : Room := { frames := 2, cells := 0, slots := 0, locals := 44 }
set_option maxHeartbeats 4000000 in
set_option maxRecDepth 100000 in
theorem c_M_goRow_1 (l : Launch) (g : va_G) (cT : Nat → ClassId) (sz : Nat) (y : Nat) (qq : Nat → Nat) (z6 : Int32) (z12 : Int32) (z15 : Int32) (z16 : Int32) (z17 : Int32) (z19 : Int32) (z21 : Int32) (z22 : Int32) (z23 : Int32) (z24 : Int32) (z26 : Int32) (z30 : Int32) (f : Nat → Int32)  : Ctr l g cT sz yX12_goRow wsX12_goRow rm_c_M_goRow_1 [.ref y, .int 1] [(y, .inr (12, [.ref (qq 0), .ref (qq 1), .ref (qq 2), .ref (qq 3), .ref (qq 4), .ref (qq 5), .int z6, .ref (qq 7), .ref (qq 8), .ref (qq 9), .ref (qq 10), .ref (qq 11), .int z12, .ref (qq 13), .int 0, .int z15, .int z16, .int z17, .ref (qq 18), .int z19, .ref (qq 20), .int z21, .int z22, .int z23, .int z24, .ref (qq 25), .int z26, .ref (qq 27), .ref (qq 28), .ref (qq 29), .int z30, .ref (qq 31), .ref (qq 32), .ref (qq 33), .ref (qq 34), .ref (qq 35), .ref (qq 36), .ref (qq 37), .ref (qq 38), .ref (qq 39), .ref (qq 40), .ref (qq 41), .ref (qq 42)])), ((qq 2), .inl (cT 0, 50, .inl (fun _ => (-1)))), ((qq 20), .inl (cT 2, 130, .inl f))] (QV g (fun (u : Unit) => True) (fun (u : Unit) => [(y, .inr (12, [.ref (qq 0), .ref (qq 1), .ref (qq 2), .ref (qq 3), .ref (qq 4), .ref (qq 5), .int z6, .ref (qq 7), .ref (qq 8), .ref (qq 9), .ref (qq 10), .ref (qq 11), .int z12, .ref (qq 13), .int 0, .int z15, .int z16, .int z17, .ref (qq 18), .int 0, .ref (qq 20), .int 0, .int 0, .int 0, .int 0, .ref (qq 25), .int 0, .ref (qq 27), .ref (qq 28), .ref (qq 29), .int z30, .ref (qq 31), .ref (qq 32), .ref (qq 33), .ref (qq 34), .ref (qq 35), .ref (qq 36), .ref (qq 37), .ref (qq 38), .ref (qq 39), .ref (qq 40), .ref (qq 41), .ref (qq 42)]))])) 0 0 := by
  refine mk_ctr (cc := cX12_goRow) (maxL := 3) (ret := none) (by decide) rfl (Nat.le_of_ble_eq_true rfl) ?_
  intro p e s m args below meth c A Q hx hb hr hts hown hlocks hin hml hP hK hD hN hZ hA hS hQ ls hl
  have hl : lv_has ls 3 [(0, .ref y), (1, .int 1)] := hl
  obtain ⟨H, hH⟩ : ∃ H : Heap, H = s.heap := ⟨_, rfl⟩
  obtain ⟨locs, hlo⟩ : ∃ x : List Loc, x = [] := ⟨_, rfl⟩
  rw [← hH] at hP
  have hS : va_S A s.heap H locs := by rw [hH, hlo]; exact hS
  have hgo : W p l e rm_c_M_goRow_1 s m args below meth c H locs 0 0 Q (F0 m 0 ls []) := by
    clear hH hlo
    refine lv_iconst (v := 0) hx hb dX12_goRow_0 (by decide) ?_
    refine lv_istore_n (lv' := [(2, .int 0), (0, .ref y), (1, .int 1)]) hx hb dX12_goRow_1 rfl hl (by decide) rfl (fun ls hl => ?_)
    refine lv_iload_n hx hb dX12_goRow_2 rfl (lv_at hl 0 rfl) ?_
    refine lv_aload_n hx hb dX12_goRow_3 rfl (lv_at hl 1 rfl) ?_
    refine va_get (C := RX12) (T := TX12) (N := 43) (v := .int 0) hx hb hts hi_X12_goRow_X12 hown hK hP 0 rfl rfl 14 (by decide) (hts (.fieldLink RX12 178 "BothWaysModel" "letters" "I") (by decide +kernel)) (fun _ h => h) rfl dX12_goRow_4 ?_
    refine icmp_ge_t hx hb 28 dX12_goRow_7 (by decide) (by decide) ?_
    refine lv_aload_n hx hb dX12_goRow_28 rfl (lv_at hl 1 rfl) ?_
    refine lv_aload_n hx hb dX12_goRow_29 rfl (lv_at hl 1 rfl) ?_
    refine va_get (C := RX12) (T := TX12) (N := 43) (v := .int 0) hx hb hts hi_X12_goRow_X12 hown hK hP 0 rfl rfl 14 (by decide) (hts (.fieldLink RX12 178 "BothWaysModel" "letters" "I") (by decide +kernel)) (fun _ h => h) rfl dX12_goRow_30 ?_
    refine va_put (C := RX12) (T := TX12) (N := 43) (v := .int 0) (ty := .int) hx hb hts hi_X12_goRow_X12 tyX12 tyX12_ok nmX12 hown hK hP hD hS 0 rfl rfl 19 (by decide) (hts (.fieldLink RX12 200 "BothWaysModel" "groundMany" "I") (by decide +kernel)) (fun _ h => h) rfl (by decide +kernel) rfl rfl (Nat.le_of_ble_eq_true rfl) dX12_goRow_33 (fun H locs hP hD hS => ?_)
    have hP : va_P g vwCl [(y, .inr (12, [.ref (qq 0), .ref (qq 1), .ref (qq 2), .ref (qq 3), .ref (qq 4), .ref (qq 5), .int z6, .ref (qq 7), .ref (qq 8), .ref (qq 9), .ref (qq 10), .ref (qq 11), .int z12, .ref (qq 13), .int 0, .int z15, .int z16, .int z17, .ref (qq 18), .int 0, .ref (qq 20), .int z21, .int z22, .int z23, .int z24, .ref (qq 25), .int z26, .ref (qq 27), .ref (qq 28), .ref (qq 29), .int z30, .ref (qq 31), .ref (qq 32), .ref (qq 33), .ref (qq 34), .ref (qq 35), .ref (qq 36), .ref (qq 37), .ref (qq 38), .ref (qq 39), .ref (qq 40), .ref (qq 41), .ref (qq 42)])), ((qq 2), .inl (cT 0, 50, .inl (fun _ => (-1)))), ((qq 20), .inl (cT 2, 130, .inl f))] H := hP
    have hD : va_D A [(y, .inr (12, [.ref (qq 0), .ref (qq 1), .ref (qq 2), .ref (qq 3), .ref (qq 4), .ref (qq 5), .int z6, .ref (qq 7), .ref (qq 8), .ref (qq 9), .ref (qq 10), .ref (qq 11), .int z12, .ref (qq 13), .int 0, .int z15, .int z16, .int z17, .ref (qq 18), .int 0, .ref (qq 20), .int z21, .int z22, .int z23, .int z24, .ref (qq 25), .int z26, .ref (qq 27), .ref (qq 28), .ref (qq 29), .int z30, .ref (qq 31), .ref (qq 32), .ref (qq 33), .ref (qq 34), .ref (qq 35), .ref (qq 36), .ref (qq 37), .ref (qq 38), .ref (qq 39), .ref (qq 40), .ref (qq 41), .ref (qq 42)])), ((qq 2), .inl (cT 0, 50, .inl (fun _ => (-1)))), ((qq 20), .inl (cT 2, 130, .inl f))] := hD
    refine lv_aload_n hx hb dX12_goRow_36 rfl (lv_at hl 1 rfl) ?_
    refine lv_iload_n hx hb dX12_goRow_37 rfl (lv_at hl 2 rfl) ?_
    refine cj_v 0 0 (wr := []) (va_runV (As := [.int 1]) (rest := []) ⟨hx, hb, hml, hown, hts⟩ (c_M_go_1 l g cT H.size y qq z6 z12 0 z15 z16 z17 z21 z22 z23 z24 z26 z30 0 f (by decide)) (cwV 1 hts gX12_goRow_X12_go rfl rfl rfl yd_X12_go ⟨(Nat.le_of_ble_eq_true rfl), (Nat.le_of_ble_eq_true rfl)⟩) (preV (wc := [(y, .inr (12, [.ref (qq 0), .ref (qq 1), .ref (qq 2), .ref (qq 3), .ref (qq 4), .ref (qq 5), .int z6, .ref (qq 7), .ref (qq 8), .ref (qq 9), .ref (qq 10), .ref (qq 11), .int z12, .ref (qq 13), .int 0, .int z15, .int z16, .int z17, .ref (qq 18), .int 0, .ref (qq 20), .int z21, .int z22, .int z23, .int z24, .ref (qq 25), .int z26, .ref (qq 27), .ref (qq 28), .ref (qq 29), .int z30, .ref (qq 31), .ref (qq 32), .ref (qq 33), .ref (qq 34), .ref (qq 35), .ref (qq 36), .ref (qq 37), .ref (qq 38), .ref (qq 39), .ref (qq 40), .ref (qq 41), .ref (qq 42)])), ((qq 2), .inl (cT 0, 50, .inl (fun _ => (-1)))), ((qq 20), .inl (cT 2, 130, .inl f))]) rfl hP hD hK hN hZ hS hA [0, 1, 2] rfl (by decide) (ci := 12) (q0 := 0) rfl rfl) rfl rfl hl.1 rfl (lv_room (Nat.le_of_ble_eq_true rfl)) dX12_goRow_38 ⟨(Nat.le_of_ble_eq_true rfl), (Nat.le_of_ble_eq_true rfl)⟩) hP hD hS hA [0, 1, 2] [] rfl rfl (by decide) (by decide) (Nat.le_of_ble_eq_true rfl) (Nat.le_of_ble_eq_true rfl) (fun u H locs h_2 hP hD hS => ?_)
    obtain ⟨f_3, rfl⟩ : ∃ z, z = u := ⟨_, rfl⟩
    have hP : va_P g vwCl [(y, .inr (12, [.ref (qq 0), .ref (qq 1), .ref (qq 2), .ref (qq 3), .ref (qq 4), .ref (qq 5), .int z6, .ref (qq 7), .ref (qq 8), .ref (qq 9), .ref (qq 10), .ref (qq 11), .int z12, .ref (qq 13), .int 0, .int z15, .int z16, .int z17, .ref (qq 18), .int 0, .ref (qq 20), .int 0, .int 0, .int 0, .int 0, .ref (qq 25), .int 0, .ref (qq 27), .ref (qq 28), .ref (qq 29), .int z30, .ref (qq 31), .ref (qq 32), .ref (qq 33), .ref (qq 34), .ref (qq 35), .ref (qq 36), .ref (qq 37), .ref (qq 38), .ref (qq 39), .ref (qq 40), .ref (qq 41), .ref (qq 42)])), ((qq 2), .inl (cT 0, 50, .inl (fun _ => (-1)))), ((qq 20), .inl (cT 2, 130, .inl f_3))] H := hP
    have hD : va_D A [(y, .inr (12, [.ref (qq 0), .ref (qq 1), .ref (qq 2), .ref (qq 3), .ref (qq 4), .ref (qq 5), .int z6, .ref (qq 7), .ref (qq 8), .ref (qq 9), .ref (qq 10), .ref (qq 11), .int z12, .ref (qq 13), .int 0, .int z15, .int z16, .int z17, .ref (qq 18), .int 0, .ref (qq 20), .int 0, .int 0, .int 0, .int 0, .ref (qq 25), .int 0, .ref (qq 27), .ref (qq 28), .ref (qq 29), .int z30, .ref (qq 31), .ref (qq 32), .ref (qq 33), .ref (qq 34), .ref (qq 35), .ref (qq 36), .ref (qq 37), .ref (qq 38), .ref (qq 39), .ref (qq 40), .ref (qq 41), .ref (qq 42)])), ((qq 2), .inl (cT 0, 50, .inl (fun _ => (-1)))), ((qq 20), .inl (cT 2, 130, .inl f_3))] := hD
    exact rt_v hx hb hr hlocks hQ hP hD hS () [0] dX12_goRow_41 (Nat.le_of_ble_eq_true rfl) (Nat.le_of_ble_eq_true rfl) rfl (by decide) trivial
  rw [hH, hlo] at hgo
  exact hgo
theorem hi_X12_run_X12 : ∀ w ∈ wsX120, w ∈ wsX12_run := fun _ h => List.mem_cons_of_mem _ (List.mem_append_right _ h)
theorem yd_X12_goRow : yX12_goRow.cls = RX12 ∧ yX12_goRow.cls ≠ "java/lang/invoke/MethodHandle" ∧ yX12_goRow.cls ≠ "java/lang/invoke/VarHandle" ∧ (parseMethodDescriptor yX12_goRow.desc).map (fun d => d.parameters.length) = some 1 := by decide +kernel
abbrev rm_c_M_run : Room := { frames := 3, cells := 0, slots := 0, locals := 66 }
theorem lf_c_M_run_0 (w : Int32) (h_7 : 0 ≤ w.toInt64 ∧ w.toInt64 ≤ 4) (c_11 : ¬ w = 0) (c_12 : ¬ w = 1) (c_13 : ¬ w = 2) (c_14 : ¬ w = 3) : (0 : Int32) = sp_run 0 w := by (unfold sp_run; rw [if_pos, if_neg] <;> (simp only [true_or, or_true, false_or, or_false, true_and, and_true, false_and, and_false, not_true_eq_false, not_false_eq_true, i_lt, i_le, i_eq, j_lt, j_le, j_eq, Int32.toInt_toInt64, li_0, lj_0, li_1, lj_1, li_2, lj_2, li_3, lj_3, li_4, lj_4, li_5, lj_5, li_6, lj_6, li_7, lj_7, li_8, lj_8, li_10, lj_10, li_11, lj_11, li_12, lj_12, li_24, lj_24, li_25, lj_25, li_50, lj_50, li_130, lj_130, li_160, lj_160, li_800, lj_800, li_4000, lj_4000, li_10000, lj_10000, li_16384, lj_16384, li_26, lj_26, li_32, lj_32, li_48, lj_48, li_57, lj_57, li_59, lj_59, li_97, lj_97, li_99, lj_99, li_122, lj_122, li_m1, lj_m1, li_m2, lj_m2, li_m3, lj_m3, li_m4, lj_m4, li_m5, lj_m5, li_m6, lj_m6] at * <;> omega))
theorem lf_c_M_run_1 (w : Int32) (h_7 : 0 ≤ w.toInt64 ∧ w.toInt64 ≤ 4) (c_11 : ¬ w = 0) (c_12 : ¬ w = 1) (c_13 : ¬ w = 2) (c_14 : w = 3) : (0 : Int32) = sp_run 0 w := by (unfold sp_run; rw [if_pos, if_neg] <;> (simp only [true_or, or_true, false_or, or_false, true_and, and_true, false_and, and_false, not_true_eq_false, not_false_eq_true, i_lt, i_le, i_eq, j_lt, j_le, j_eq, Int32.toInt_toInt64, li_0, lj_0, li_1, lj_1, li_2, lj_2, li_3, lj_3, li_4, lj_4, li_5, lj_5, li_6, lj_6, li_7, lj_7, li_8, lj_8, li_10, lj_10, li_11, lj_11, li_12, lj_12, li_24, lj_24, li_25, lj_25, li_50, lj_50, li_130, lj_130, li_160, lj_160, li_800, lj_800, li_4000, lj_4000, li_10000, lj_10000, li_16384, lj_16384, li_26, lj_26, li_32, lj_32, li_48, lj_48, li_57, lj_57, li_59, lj_59, li_97, lj_97, li_99, lj_99, li_122, lj_122, li_m1, lj_m1, li_m2, lj_m2, li_m3, lj_m3, li_m4, lj_m4, li_m5, lj_m5, li_m6, lj_m6] at * <;> omega))
theorem lf_c_M_run_2 (w : Int32) (h_7 : 0 ≤ w.toInt64 ∧ w.toInt64 ≤ 4) (c_11 : ¬ w = 0) (c_12 : ¬ w = 1) (c_13 : w = 2) : (0 : Int32) = sp_run 0 w := by (unfold sp_run; rw [if_pos, if_neg] <;> (simp only [true_or, or_true, false_or, or_false, true_and, and_true, false_and, and_false, not_true_eq_false, not_false_eq_true, i_lt, i_le, i_eq, j_lt, j_le, j_eq, Int32.toInt_toInt64, li_0, lj_0, li_1, lj_1, li_2, lj_2, li_3, lj_3, li_4, lj_4, li_5, lj_5, li_6, lj_6, li_7, lj_7, li_8, lj_8, li_10, lj_10, li_11, lj_11, li_12, lj_12, li_24, lj_24, li_25, lj_25, li_50, lj_50, li_130, lj_130, li_160, lj_160, li_800, lj_800, li_4000, lj_4000, li_10000, lj_10000, li_16384, lj_16384, li_26, lj_26, li_32, lj_32, li_48, lj_48, li_57, lj_57, li_59, lj_59, li_97, lj_97, li_99, lj_99, li_122, lj_122, li_m1, lj_m1, li_m2, lj_m2, li_m3, lj_m3, li_m4, lj_m4, li_m5, lj_m5, li_m6, lj_m6] at * <;> omega))
theorem lf_c_M_run_3 (w : Int32) (h_7 : 0 ≤ w.toInt64 ∧ w.toInt64 ≤ 4) (c_11 : ¬ w = 0) (c_12 : w = 1) : (0 : Int32) = sp_run 0 w := by (unfold sp_run; rw [if_pos, if_neg] <;> (simp only [true_or, or_true, false_or, or_false, true_and, and_true, false_and, and_false, not_true_eq_false, not_false_eq_true, i_lt, i_le, i_eq, j_lt, j_le, j_eq, Int32.toInt_toInt64, li_0, lj_0, li_1, lj_1, li_2, lj_2, li_3, lj_3, li_4, lj_4, li_5, lj_5, li_6, lj_6, li_7, lj_7, li_8, lj_8, li_10, lj_10, li_11, lj_11, li_12, lj_12, li_24, lj_24, li_25, lj_25, li_50, lj_50, li_130, lj_130, li_160, lj_160, li_800, lj_800, li_4000, lj_4000, li_10000, lj_10000, li_16384, lj_16384, li_26, lj_26, li_32, lj_32, li_48, lj_48, li_57, lj_57, li_59, lj_59, li_97, lj_97, li_99, lj_99, li_122, lj_122, li_m1, lj_m1, li_m2, lj_m2, li_m3, lj_m3, li_m4, lj_m4, li_m5, lj_m5, li_m6, lj_m6] at * <;> omega))
theorem lf_c_M_run_4 (w : Int32) (h_7 : 0 ≤ w.toInt64 ∧ w.toInt64 ≤ 4) (c_11 : w = 0) : (0 : Int32) = sp_run 0 w := by (unfold sp_run; rw [if_pos, if_neg] <;> (simp only [true_or, or_true, false_or, or_false, true_and, and_true, false_and, and_false, not_true_eq_false, not_false_eq_true, i_lt, i_le, i_eq, j_lt, j_le, j_eq, Int32.toInt_toInt64, li_0, lj_0, li_1, lj_1, li_2, lj_2, li_3, lj_3, li_4, lj_4, li_5, lj_5, li_6, lj_6, li_7, lj_7, li_8, lj_8, li_10, lj_10, li_11, lj_11, li_12, lj_12, li_24, lj_24, li_25, lj_25, li_50, lj_50, li_130, lj_130, li_160, lj_160, li_800, lj_800, li_4000, lj_4000, li_10000, lj_10000, li_16384, lj_16384, li_26, lj_26, li_32, lj_32, li_48, lj_48, li_57, lj_57, li_59, lj_59, li_97, lj_97, li_99, lj_99, li_122, lj_122, li_m1, lj_m1, li_m2, lj_m2, li_m3, lj_m3, li_m4, lj_m4, li_m5, lj_m5, li_m6, lj_m6] at * <;> omega))
theorem lf_c_M_run_5 (w : Int32) (h_8 : ¬ (0 ≤ w.toInt64 ∧ w.toInt64 ≤ 4)) : ((-3) : Int32) = sp_run 0 w := by (unfold sp_run; rw [if_pos, if_pos] <;> (simp only [true_or, or_true, false_or, or_false, true_and, and_true, false_and, and_false, not_true_eq_false, not_false_eq_true, i_lt, i_le, i_eq, j_lt, j_le, j_eq, Int32.toInt_toInt64, li_0, lj_0, li_1, lj_1, li_2, lj_2, li_3, lj_3, li_4, lj_4, li_5, lj_5, li_6, lj_6, li_7, lj_7, li_8, lj_8, li_10, lj_10, li_11, lj_11, li_12, lj_12, li_24, lj_24, li_25, lj_25, li_50, lj_50, li_130, lj_130, li_160, lj_160, li_800, lj_800, li_4000, lj_4000, li_10000, lj_10000, li_16384, lj_16384, li_26, lj_26, li_32, lj_32, li_48, lj_48, li_57, lj_57, li_59, lj_59, li_97, lj_97, li_99, lj_99, li_122, lj_122, li_m1, lj_m1, li_m2, lj_m2, li_m3, lj_m3, li_m4, lj_m4, li_m5, lj_m5, li_m6, lj_m6] at * <;> omega))
theorem lf_c_M_run_6 (w : Int32) (h_17 : 0 ≤ w.toInt64 ∧ w.toInt64 ≤ 4) (c_21 : ¬ w = 0) (c_22 : ¬ w = 1) (c_23 : ¬ w = 2) (c_24 : ¬ w = 3) : (0 : Int32) = sp_run 1 w := by (unfold sp_run; rw [if_pos, if_neg] <;> (simp only [true_or, or_true, false_or, or_false, true_and, and_true, false_and, and_false, not_true_eq_false, not_false_eq_true, i_lt, i_le, i_eq, j_lt, j_le, j_eq, Int32.toInt_toInt64, li_0, lj_0, li_1, lj_1, li_2, lj_2, li_3, lj_3, li_4, lj_4, li_5, lj_5, li_6, lj_6, li_7, lj_7, li_8, lj_8, li_10, lj_10, li_11, lj_11, li_12, lj_12, li_24, lj_24, li_25, lj_25, li_50, lj_50, li_130, lj_130, li_160, lj_160, li_800, lj_800, li_4000, lj_4000, li_10000, lj_10000, li_16384, lj_16384, li_26, lj_26, li_32, lj_32, li_48, lj_48, li_57, lj_57, li_59, lj_59, li_97, lj_97, li_99, lj_99, li_122, lj_122, li_m1, lj_m1, li_m2, lj_m2, li_m3, lj_m3, li_m4, lj_m4, li_m5, lj_m5, li_m6, lj_m6] at * <;> omega))
theorem lf_c_M_run_7 (w : Int32) (h_17 : 0 ≤ w.toInt64 ∧ w.toInt64 ≤ 4) (c_21 : ¬ w = 0) (c_22 : ¬ w = 1) (c_23 : ¬ w = 2) (c_24 : w = 3) : (0 : Int32) = sp_run 1 w := by (unfold sp_run; rw [if_pos, if_neg] <;> (simp only [true_or, or_true, false_or, or_false, true_and, and_true, false_and, and_false, not_true_eq_false, not_false_eq_true, i_lt, i_le, i_eq, j_lt, j_le, j_eq, Int32.toInt_toInt64, li_0, lj_0, li_1, lj_1, li_2, lj_2, li_3, lj_3, li_4, lj_4, li_5, lj_5, li_6, lj_6, li_7, lj_7, li_8, lj_8, li_10, lj_10, li_11, lj_11, li_12, lj_12, li_24, lj_24, li_25, lj_25, li_50, lj_50, li_130, lj_130, li_160, lj_160, li_800, lj_800, li_4000, lj_4000, li_10000, lj_10000, li_16384, lj_16384, li_26, lj_26, li_32, lj_32, li_48, lj_48, li_57, lj_57, li_59, lj_59, li_97, lj_97, li_99, lj_99, li_122, lj_122, li_m1, lj_m1, li_m2, lj_m2, li_m3, lj_m3, li_m4, lj_m4, li_m5, lj_m5, li_m6, lj_m6] at * <;> omega))
theorem lf_c_M_run_8 (w : Int32) (h_17 : 0 ≤ w.toInt64 ∧ w.toInt64 ≤ 4) (c_21 : ¬ w = 0) (c_22 : ¬ w = 1) (c_23 : w = 2) : (0 : Int32) = sp_run 1 w := by (unfold sp_run; rw [if_pos, if_neg] <;> (simp only [true_or, or_true, false_or, or_false, true_and, and_true, false_and, and_false, not_true_eq_false, not_false_eq_true, i_lt, i_le, i_eq, j_lt, j_le, j_eq, Int32.toInt_toInt64, li_0, lj_0, li_1, lj_1, li_2, lj_2, li_3, lj_3, li_4, lj_4, li_5, lj_5, li_6, lj_6, li_7, lj_7, li_8, lj_8, li_10, lj_10, li_11, lj_11, li_12, lj_12, li_24, lj_24, li_25, lj_25, li_50, lj_50, li_130, lj_130, li_160, lj_160, li_800, lj_800, li_4000, lj_4000, li_10000, lj_10000, li_16384, lj_16384, li_26, lj_26, li_32, lj_32, li_48, lj_48, li_57, lj_57, li_59, lj_59, li_97, lj_97, li_99, lj_99, li_122, lj_122, li_m1, lj_m1, li_m2, lj_m2, li_m3, lj_m3, li_m4, lj_m4, li_m5, lj_m5, li_m6, lj_m6] at * <;> omega))
theorem lf_c_M_run_9 (w : Int32) (h_17 : 0 ≤ w.toInt64 ∧ w.toInt64 ≤ 4) (c_21 : ¬ w = 0) (c_22 : w = 1) : (0 : Int32) = sp_run 1 w := by (unfold sp_run; rw [if_pos, if_neg] <;> (simp only [true_or, or_true, false_or, or_false, true_and, and_true, false_and, and_false, not_true_eq_false, not_false_eq_true, i_lt, i_le, i_eq, j_lt, j_le, j_eq, Int32.toInt_toInt64, li_0, lj_0, li_1, lj_1, li_2, lj_2, li_3, lj_3, li_4, lj_4, li_5, lj_5, li_6, lj_6, li_7, lj_7, li_8, lj_8, li_10, lj_10, li_11, lj_11, li_12, lj_12, li_24, lj_24, li_25, lj_25, li_50, lj_50, li_130, lj_130, li_160, lj_160, li_800, lj_800, li_4000, lj_4000, li_10000, lj_10000, li_16384, lj_16384, li_26, lj_26, li_32, lj_32, li_48, lj_48, li_57, lj_57, li_59, lj_59, li_97, lj_97, li_99, lj_99, li_122, lj_122, li_m1, lj_m1, li_m2, lj_m2, li_m3, lj_m3, li_m4, lj_m4, li_m5, lj_m5, li_m6, lj_m6] at * <;> omega))
theorem lf_c_M_run_10 (w : Int32) (h_17 : 0 ≤ w.toInt64 ∧ w.toInt64 ≤ 4) (c_21 : w = 0) : (0 : Int32) = sp_run 1 w := by (unfold sp_run; rw [if_pos, if_neg] <;> (simp only [true_or, or_true, false_or, or_false, true_and, and_true, false_and, and_false, not_true_eq_false, not_false_eq_true, i_lt, i_le, i_eq, j_lt, j_le, j_eq, Int32.toInt_toInt64, li_0, lj_0, li_1, lj_1, li_2, lj_2, li_3, lj_3, li_4, lj_4, li_5, lj_5, li_6, lj_6, li_7, lj_7, li_8, lj_8, li_10, lj_10, li_11, lj_11, li_12, lj_12, li_24, lj_24, li_25, lj_25, li_50, lj_50, li_130, lj_130, li_160, lj_160, li_800, lj_800, li_4000, lj_4000, li_10000, lj_10000, li_16384, lj_16384, li_26, lj_26, li_32, lj_32, li_48, lj_48, li_57, lj_57, li_59, lj_59, li_97, lj_97, li_99, lj_99, li_122, lj_122, li_m1, lj_m1, li_m2, lj_m2, li_m3, lj_m3, li_m4, lj_m4, li_m5, lj_m5, li_m6, lj_m6] at * <;> omega))
theorem lf_c_M_run_11 (w : Int32) (h_18 : ¬ (0 ≤ w.toInt64 ∧ w.toInt64 ≤ 4)) : ((-3) : Int32) = sp_run 1 w := by (unfold sp_run; rw [if_pos, if_pos] <;> (simp only [true_or, or_true, false_or, or_false, true_and, and_true, false_and, and_false, not_true_eq_false, not_false_eq_true, i_lt, i_le, i_eq, j_lt, j_le, j_eq, Int32.toInt_toInt64, li_0, lj_0, li_1, lj_1, li_2, lj_2, li_3, lj_3, li_4, lj_4, li_5, lj_5, li_6, lj_6, li_7, lj_7, li_8, lj_8, li_10, lj_10, li_11, lj_11, li_12, lj_12, li_24, lj_24, li_25, lj_25, li_50, lj_50, li_130, lj_130, li_160, lj_160, li_800, lj_800, li_4000, lj_4000, li_10000, lj_10000, li_16384, lj_16384, li_26, lj_26, li_32, lj_32, li_48, lj_48, li_57, lj_57, li_59, lj_59, li_97, lj_97, li_99, lj_99, li_122, lj_122, li_m1, lj_m1, li_m2, lj_m2, li_m3, lj_m3, li_m4, lj_m4, li_m5, lj_m5, li_m6, lj_m6] at * <;> omega))
theorem lf_c_M_run_12 (x : Int32) (w : Int32) (h_4 : ¬ (x = 0 ∨ x = 1)) : ((-2) : Int32) = sp_run x w := by (unfold sp_run; rw [if_neg] <;> (simp only [true_or, or_true, false_or, or_false, true_and, and_true, false_and, and_false, not_true_eq_false, not_false_eq_true, i_lt, i_le, i_eq, j_lt, j_le, j_eq, Int32.toInt_toInt64, li_0, lj_0, li_1, lj_1, li_2, lj_2, li_3, lj_3, li_4, lj_4, li_5, lj_5, li_6, lj_6, li_7, lj_7, li_8, lj_8, li_10, lj_10, li_11, lj_11, li_12, lj_12, li_24, lj_24, li_25, lj_25, li_50, lj_50, li_130, lj_130, li_160, lj_160, li_800, lj_800, li_4000, lj_4000, li_10000, lj_10000, li_16384, lj_16384, li_26, lj_26, li_32, lj_32, li_48, lj_48, li_57, lj_57, li_59, lj_59, li_97, lj_97, li_99, lj_99, li_122, lj_122, li_m1, lj_m1, li_m2, lj_m2, li_m3, lj_m3, li_m4, lj_m4, li_m5, lj_m5, li_m6, lj_m6] at * <;> omega))
set_option maxHeartbeats 4000000 in
set_option maxRecDepth 100000 in
theorem c_M_run (l : Launch) (g : va_G) (cT : Nat → ClassId) (sz : Nat) (y : Nat) (qq : Nat → Nat) (z6 : Int32) (z12 : Int32) (z15 : Int32) (z16 : Int32) (z17 : Int32) (z19 : Int32) (z21 : Int32) (z22 : Int32) (z23 : Int32) (z24 : Int32) (z26 : Int32) (z30 : Int32) (x : Int32) (w : Int32)  : Ctr l g cT sz yX12_run wsX12_run rm_c_M_run [.ref y, .int x, .int w] [(y, .inr (12, [.ref (qq 0), .ref (qq 1), .ref (qq 2), .ref (qq 3), .ref (qq 4), .ref (qq 5), .int z6, .ref (qq 7), .ref (qq 8), .ref (qq 9), .ref (qq 10), .ref (qq 11), .int z12, .ref (qq 13), .int 0, .int z15, .int z16, .int z17, .ref (qq 18), .int z19, .ref (qq 20), .int z21, .int z22, .int z23, .int z24, .ref (qq 25), .int z26, .ref (qq 27), .ref (qq 28), .ref (qq 29), .int z30, .ref (qq 31), .ref (qq 32), .ref (qq 33), .ref (qq 34), .ref (qq 35), .ref (qq 36), .ref (qq 37), .ref (qq 38), .ref (qq 39), .ref (qq 40), .ref (qq 41), .ref (qq 42)])), ((qq 2), .inl (cT 0, 50, .inl (fun _ => (-1)))), ((qq 20), .inl (cT 2, 130, .inl (fun _ => 0)))] (QI g (fun (r : Int32) (u : Unit) => r = sp_run x w) (fun (u : Unit) => [])) 0 0 := by
  refine mk_ctr (cc := cX12_run) (maxL := 3) (ret := (some .int)) (by decide) rfl (Nat.le_of_ble_eq_true rfl) ?_
  intro p e s m args below meth c A Q hx hb hr hts hown hlocks hin hml hP hK hD hN hZ hA hS hQ ls hl
  have hl : lv_has ls 3 [(0, .ref y), (1, .int x), (2, .int w)] := hl
  obtain ⟨H, hH⟩ : ∃ H : Heap, H = s.heap := ⟨_, rfl⟩
  obtain ⟨locs, hlo⟩ : ∃ x : List Loc, x = [] := ⟨_, rfl⟩
  rw [← hH] at hP
  have hS : va_S A s.heap H locs := by rw [hH, hlo]; exact hS
  have hgo : W p l e rm_c_M_run s m args below meth c H locs 0 0 Q (F0 m 0 ls []) := by
    clear hH hlo
    refine lv_iload_n hx hb dX12_run_0 rfl (lv_at hl 1 rfl) ?_
    refine cp_i (va_runS (As := [.int x]) (rest := []) ⟨hx, hb, hml, hown, hts⟩ (c_M_isReader l g cT H.size x) (va_cwS 1 hts gX12_run_X12_isReader rfl rfl rfl yd_X12_isReader.2 ⟨(Nat.le_of_ble_eq_true rfl), (Nat.le_of_ble_eq_true rfl)⟩) (preS (ws := []) (wc := []) rfl (fun _ _ h => by simp at h) (va_D_nil (A := A)) hK hN hZ hS hA [] rfl rfl) rfl rfl hl.1 rfl (lv_room (Nat.le_of_ble_eq_true rfl)) dX12_run_1 ⟨(Nat.le_of_ble_eq_true rfl), (Nat.le_of_ble_eq_true rfl)⟩) hP hS hA (fun r_1 u H locs h_2 hP hS => ?_)
    rcases h_2 with ⟨rfl, h_3⟩ | ⟨rfl, h_4⟩
    · skip
      rcases h_3 with rfl | rfl
      · skip
        refine if_ne_t hx hb 10 dX12_run_4 (by decide) (by decide) ?_
        refine lv_iload_n hx hb dX12_run_10 rfl (lv_at hl 2 rfl) ?_
        refine lv_i2l (v := w.toInt64) hx hb dX12_run_11 rfl ?_
        refine lv_lconst (v := 0) hx hb dX12_run_12 (by decide) ?_
        refine lv_ldc2 (v := 4) hx hb hown (hts (.constantLong RX12 174 (4)) (by decide +kernel)) dX12_run_13 ?_
        refine cp_i (va_runS (As := [.long w.toInt64, .long 0, .long 4]) (rest := []) ⟨hx, hb, hml, hown, hts⟩ (c_M_in l g cT H.size w.toInt64 0 4) (va_cwS 3 hts gX12_run_X12_in rfl rfl rfl yd_X12_in.2 ⟨(Nat.le_of_ble_eq_true rfl), (Nat.le_of_ble_eq_true rfl)⟩) (preS (ws := []) (wc := []) rfl (fun _ _ h => by simp at h) (va_D_nil (A := A)) hK hN hZ hS hA [] rfl rfl) rfl rfl hl.1 rfl (lv_room (Nat.le_of_ble_eq_true rfl)) dX12_run_16 ⟨(Nat.le_of_ble_eq_true rfl), (Nat.le_of_ble_eq_true rfl)⟩) hP hS hA (fun r_5 u H locs h_6 hP hS => ?_)
        rcases h_6 with ⟨rfl, h_7⟩ | ⟨rfl, h_8⟩
        · skip
          refine if_ne_t hx hb 25 dX12_run_19 (by decide) (by decide) ?_
          refine lv_aload_n hx hb dX12_run_25 rfl (lv_at hl 0 rfl) ?_
          refine lv_iload_n hx hb dX12_run_26 rfl (lv_at hl 1 rfl) ?_
          refine cj_v 0 0 (wr := []) (va_runV (As := [.int 0]) (rest := []) ⟨hx, hb, hml, hown, hts⟩ (c_M_goRow_0 l g cT H.size y qq z6 z12 z15 z16 z17 z19 z21 z22 z23 z24 z26 z30 (fun _ => 0)) (cwV 1 hts gX12_run_X12_goRow rfl rfl rfl yd_X12_goRow ⟨(Nat.le_of_ble_eq_true rfl), (Nat.le_of_ble_eq_true rfl)⟩) (preV (wc := [(y, .inr (12, [.ref (qq 0), .ref (qq 1), .ref (qq 2), .ref (qq 3), .ref (qq 4), .ref (qq 5), .int z6, .ref (qq 7), .ref (qq 8), .ref (qq 9), .ref (qq 10), .ref (qq 11), .int z12, .ref (qq 13), .int 0, .int z15, .int z16, .int z17, .ref (qq 18), .int z19, .ref (qq 20), .int z21, .int z22, .int z23, .int z24, .ref (qq 25), .int z26, .ref (qq 27), .ref (qq 28), .ref (qq 29), .int z30, .ref (qq 31), .ref (qq 32), .ref (qq 33), .ref (qq 34), .ref (qq 35), .ref (qq 36), .ref (qq 37), .ref (qq 38), .ref (qq 39), .ref (qq 40), .ref (qq 41), .ref (qq 42)])), ((qq 2), .inl (cT 0, 50, .inl (fun _ => (-1)))), ((qq 20), .inl (cT 2, 130, .inl (fun _ => 0)))]) rfl hP hD hK hN hZ hS hA [0, 1, 2] rfl (by decide) (ci := 12) (q0 := 0) rfl rfl) rfl rfl hl.1 rfl (lv_room (Nat.le_of_ble_eq_true rfl)) dX12_run_27 ⟨(Nat.le_of_ble_eq_true rfl), (Nat.le_of_ble_eq_true rfl)⟩) hP hD hS hA [0, 1, 2] [] rfl rfl (by decide) (by decide) (Nat.le_of_ble_eq_true rfl) (Nat.le_of_ble_eq_true rfl) (fun u H locs h_10 hP hD hS => ?_)
          have hP : va_P g vwCl [(y, .inr (12, [.ref (qq 0), .ref (qq 1), .ref (qq 2), .ref (qq 3), .ref (qq 4), .ref (qq 5), .int z6, .ref (qq 7), .ref (qq 8), .ref (qq 9), .ref (qq 10), .ref (qq 11), .int z12, .ref (qq 13), .int 0, .int z15, .int z16, .int z17, .ref (qq 18), .int 0, .ref (qq 20), .int 0, .int 0, .int 0, .int 0, .ref (qq 25), .int 0, .ref (qq 27), .ref (qq 28), .ref (qq 29), .int z30, .ref (qq 31), .ref (qq 32), .ref (qq 33), .ref (qq 34), .ref (qq 35), .ref (qq 36), .ref (qq 37), .ref (qq 38), .ref (qq 39), .ref (qq 40), .ref (qq 41), .ref (qq 42)]))] H := hP
          have hD : va_D A [(y, .inr (12, [.ref (qq 0), .ref (qq 1), .ref (qq 2), .ref (qq 3), .ref (qq 4), .ref (qq 5), .int z6, .ref (qq 7), .ref (qq 8), .ref (qq 9), .ref (qq 10), .ref (qq 11), .int z12, .ref (qq 13), .int 0, .int z15, .int z16, .int z17, .ref (qq 18), .int 0, .ref (qq 20), .int 0, .int 0, .int 0, .int 0, .ref (qq 25), .int 0, .ref (qq 27), .ref (qq 28), .ref (qq 29), .int z30, .ref (qq 31), .ref (qq 32), .ref (qq 33), .ref (qq 34), .ref (qq 35), .ref (qq 36), .ref (qq 37), .ref (qq 38), .ref (qq 39), .ref (qq 40), .ref (qq 41), .ref (qq 42)]))] := hD
          refine lv_iload_n hx hb dX12_run_30 rfl (lv_at hl 2 rfl) ?_
          refine lv_if_ne (tgt := 41) hx hb dX12_run_31 (by decide) (fun c_11 => ?_) (fun c_11 => ?_)
          · skip
            refine lv_iload_n hx hb dX12_run_41 rfl (lv_at hl 2 rfl) ?_
            refine lv_iconst (v := 1) hx hb dX12_run_42 (by decide) ?_
            refine lv_icmp_ne (tgt := 53) hx hb dX12_run_43 (by decide) (fun c_12 => ?_) (fun c_12 => ?_)
            · skip
              refine lv_iload_n hx hb dX12_run_53 rfl (lv_at hl 2 rfl) ?_
              refine lv_iconst (v := 2) hx hb dX12_run_54 (by decide) ?_
              refine lv_icmp_ne (tgt := 65) hx hb dX12_run_55 (by decide) (fun c_13 => ?_) (fun c_13 => ?_)
              · skip
                refine lv_iload_n hx hb dX12_run_65 rfl (lv_at hl 2 rfl) ?_
                refine lv_iconst (v := 3) hx hb dX12_run_66 (by decide) ?_
                refine lv_icmp_ne (tgt := 77) hx hb dX12_run_67 (by decide) (fun c_14 => ?_) (fun c_14 => ?_)
                · skip
                  refine lv_aload_n hx hb dX12_run_77 rfl (lv_at hl 0 rfl) ?_
                  refine va_get (C := RX12) (T := TX12) (N := 43) (v := .int 0) hx hb hts hi_X12_run_X12 hown hK hP 0 rfl rfl 26 (by decide) (hts (.fieldLink RX12 197 "BothWaysModel" "saidMany" "I") (by decide +kernel)) (fun _ h => h) rfl dX12_run_78 ?_
                  exact rt_i hx hb hr hlocks hQ hP hD hS () [] dX12_run_81 rfl (Nat.le_of_ble_eq_true rfl) (Nat.le_of_ble_eq_true rfl) rfl (by decide) (lf_c_M_run_0 w h_7 c_11 c_12 c_13 c_14)
                · skip
                  refine lv_aload_n hx hb dX12_run_70 rfl (lv_at hl 0 rfl) ?_
                  refine va_get (C := RX12) (T := TX12) (N := 43) (v := .int 0) hx hb hts hi_X12_run_X12 hown hK hP 0 rfl rfl 24 (by decide) (hts (.fieldLink RX12 194 "BothWaysModel" "state" "I") (by decide +kernel)) (fun _ h => h) rfl dX12_run_71 ?_
                  refine lv_goto (tgt := 81) hx hb dX12_run_74 (by decide) ?_
                  exact rt_i hx hb hr hlocks hQ hP hD hS () [] dX12_run_81 rfl (Nat.le_of_ble_eq_true rfl) (Nat.le_of_ble_eq_true rfl) rfl (by decide) (lf_c_M_run_1 w h_7 c_11 c_12 c_13 c_14)
              · skip
                refine lv_aload_n hx hb dX12_run_58 rfl (lv_at hl 0 rfl) ?_
                refine va_get (C := RX12) (T := TX12) (N := 43) (v := .int 0) hx hb hts hi_X12_run_X12 hown hK hP 0 rfl rfl 23 (by decide) (hts (.fieldLink RX12 191 "BothWaysModel" "where" "I") (by decide +kernel)) (fun _ h => h) rfl dX12_run_59 ?_
                refine lv_goto (tgt := 81) hx hb dX12_run_62 (by decide) ?_
                exact rt_i hx hb hr hlocks hQ hP hD hS () [] dX12_run_81 rfl (Nat.le_of_ble_eq_true rfl) (Nat.le_of_ble_eq_true rfl) rfl (by decide) (lf_c_M_run_2 w h_7 c_11 c_12 c_13)
            · skip
              refine lv_aload_n hx hb dX12_run_46 rfl (lv_at hl 0 rfl) ?_
              refine va_get (C := RX12) (T := TX12) (N := 43) (v := .int 0) hx hb hts hi_X12_run_X12 hown hK hP 0 rfl rfl 22 (by decide) (hts (.fieldLink RX12 188 "BothWaysModel" "made" "I") (by decide +kernel)) (fun _ h => h) rfl dX12_run_47 ?_
              refine lv_goto (tgt := 81) hx hb dX12_run_50 (by decide) ?_
              exact rt_i hx hb hr hlocks hQ hP hD hS () [] dX12_run_81 rfl (Nat.le_of_ble_eq_true rfl) (Nat.le_of_ble_eq_true rfl) rfl (by decide) (lf_c_M_run_3 w h_7 c_11 c_12)
          · skip
            refine lv_aload_n hx hb dX12_run_34 rfl (lv_at hl 0 rfl) ?_
            refine va_get (C := RX12) (T := TX12) (N := 43) (v := .int 0) hx hb hts hi_X12_run_X12 hown hK hP 0 rfl rfl 21 (by decide) (hts (.fieldLink RX12 185 "BothWaysModel" "ends" "I") (by decide +kernel)) (fun _ h => h) rfl dX12_run_35 ?_
            refine lv_goto (tgt := 81) hx hb dX12_run_38 (by decide) ?_
            exact rt_i hx hb hr hlocks hQ hP hD hS () [] dX12_run_81 rfl (Nat.le_of_ble_eq_true rfl) (Nat.le_of_ble_eq_true rfl) rfl (by decide) (lf_c_M_run_4 w h_7 c_11)
        · skip
          refine if_ne_f hx hb dX12_run_19 25 (by decide) (by decide) ?_
          refine lv_bipush (v := (-3)) hx hb dX12_run_22 (by decide) ?_
          exact rt_i hx hb hr hlocks hQ hP hD hS () [] dX12_run_24 rfl (Nat.le_of_ble_eq_true rfl) (Nat.le_of_ble_eq_true rfl) rfl (by decide) (lf_c_M_run_5 w h_8)
      · skip
        refine if_ne_t hx hb 10 dX12_run_4 (by decide) (by decide) ?_
        refine lv_iload_n hx hb dX12_run_10 rfl (lv_at hl 2 rfl) ?_
        refine lv_i2l (v := w.toInt64) hx hb dX12_run_11 rfl ?_
        refine lv_lconst (v := 0) hx hb dX12_run_12 (by decide) ?_
        refine lv_ldc2 (v := 4) hx hb hown (hts (.constantLong RX12 174 (4)) (by decide +kernel)) dX12_run_13 ?_
        refine cp_i (va_runS (As := [.long w.toInt64, .long 0, .long 4]) (rest := []) ⟨hx, hb, hml, hown, hts⟩ (c_M_in l g cT H.size w.toInt64 0 4) (va_cwS 3 hts gX12_run_X12_in rfl rfl rfl yd_X12_in.2 ⟨(Nat.le_of_ble_eq_true rfl), (Nat.le_of_ble_eq_true rfl)⟩) (preS (ws := []) (wc := []) rfl (fun _ _ h => by simp at h) (va_D_nil (A := A)) hK hN hZ hS hA [] rfl rfl) rfl rfl hl.1 rfl (lv_room (Nat.le_of_ble_eq_true rfl)) dX12_run_16 ⟨(Nat.le_of_ble_eq_true rfl), (Nat.le_of_ble_eq_true rfl)⟩) hP hS hA (fun r_15 u H locs h_16 hP hS => ?_)
        rcases h_16 with ⟨rfl, h_17⟩ | ⟨rfl, h_18⟩
        · skip
          refine if_ne_t hx hb 25 dX12_run_19 (by decide) (by decide) ?_
          refine lv_aload_n hx hb dX12_run_25 rfl (lv_at hl 0 rfl) ?_
          refine lv_iload_n hx hb dX12_run_26 rfl (lv_at hl 1 rfl) ?_
          refine cj_v 0 0 (wr := []) (va_runV (As := [.int 1]) (rest := []) ⟨hx, hb, hml, hown, hts⟩ (c_M_goRow_1 l g cT H.size y qq z6 z12 z15 z16 z17 z19 z21 z22 z23 z24 z26 z30 (fun _ => 0)) (cwV 1 hts gX12_run_X12_goRow rfl rfl rfl yd_X12_goRow ⟨(Nat.le_of_ble_eq_true rfl), (Nat.le_of_ble_eq_true rfl)⟩) (preV (wc := [(y, .inr (12, [.ref (qq 0), .ref (qq 1), .ref (qq 2), .ref (qq 3), .ref (qq 4), .ref (qq 5), .int z6, .ref (qq 7), .ref (qq 8), .ref (qq 9), .ref (qq 10), .ref (qq 11), .int z12, .ref (qq 13), .int 0, .int z15, .int z16, .int z17, .ref (qq 18), .int z19, .ref (qq 20), .int z21, .int z22, .int z23, .int z24, .ref (qq 25), .int z26, .ref (qq 27), .ref (qq 28), .ref (qq 29), .int z30, .ref (qq 31), .ref (qq 32), .ref (qq 33), .ref (qq 34), .ref (qq 35), .ref (qq 36), .ref (qq 37), .ref (qq 38), .ref (qq 39), .ref (qq 40), .ref (qq 41), .ref (qq 42)])), ((qq 2), .inl (cT 0, 50, .inl (fun _ => (-1)))), ((qq 20), .inl (cT 2, 130, .inl (fun _ => 0)))]) rfl hP hD hK hN hZ hS hA [0, 1, 2] rfl (by decide) (ci := 12) (q0 := 0) rfl rfl) rfl rfl hl.1 rfl (lv_room (Nat.le_of_ble_eq_true rfl)) dX12_run_27 ⟨(Nat.le_of_ble_eq_true rfl), (Nat.le_of_ble_eq_true rfl)⟩) hP hD hS hA [0, 1, 2] [] rfl rfl (by decide) (by decide) (Nat.le_of_ble_eq_true rfl) (Nat.le_of_ble_eq_true rfl) (fun u H locs h_20 hP hD hS => ?_)
          have hP : va_P g vwCl [(y, .inr (12, [.ref (qq 0), .ref (qq 1), .ref (qq 2), .ref (qq 3), .ref (qq 4), .ref (qq 5), .int z6, .ref (qq 7), .ref (qq 8), .ref (qq 9), .ref (qq 10), .ref (qq 11), .int z12, .ref (qq 13), .int 0, .int z15, .int z16, .int z17, .ref (qq 18), .int 0, .ref (qq 20), .int 0, .int 0, .int 0, .int 0, .ref (qq 25), .int 0, .ref (qq 27), .ref (qq 28), .ref (qq 29), .int z30, .ref (qq 31), .ref (qq 32), .ref (qq 33), .ref (qq 34), .ref (qq 35), .ref (qq 36), .ref (qq 37), .ref (qq 38), .ref (qq 39), .ref (qq 40), .ref (qq 41), .ref (qq 42)]))] H := hP
          have hD : va_D A [(y, .inr (12, [.ref (qq 0), .ref (qq 1), .ref (qq 2), .ref (qq 3), .ref (qq 4), .ref (qq 5), .int z6, .ref (qq 7), .ref (qq 8), .ref (qq 9), .ref (qq 10), .ref (qq 11), .int z12, .ref (qq 13), .int 0, .int z15, .int z16, .int z17, .ref (qq 18), .int 0, .ref (qq 20), .int 0, .int 0, .int 0, .int 0, .ref (qq 25), .int 0, .ref (qq 27), .ref (qq 28), .ref (qq 29), .int z30, .ref (qq 31), .ref (qq 32), .ref (qq 33), .ref (qq 34), .ref (qq 35), .ref (qq 36), .ref (qq 37), .ref (qq 38), .ref (qq 39), .ref (qq 40), .ref (qq 41), .ref (qq 42)]))] := hD
          refine lv_iload_n hx hb dX12_run_30 rfl (lv_at hl 2 rfl) ?_
          refine lv_if_ne (tgt := 41) hx hb dX12_run_31 (by decide) (fun c_21 => ?_) (fun c_21 => ?_)
          · skip
            refine lv_iload_n hx hb dX12_run_41 rfl (lv_at hl 2 rfl) ?_
            refine lv_iconst (v := 1) hx hb dX12_run_42 (by decide) ?_
            refine lv_icmp_ne (tgt := 53) hx hb dX12_run_43 (by decide) (fun c_22 => ?_) (fun c_22 => ?_)
            · skip
              refine lv_iload_n hx hb dX12_run_53 rfl (lv_at hl 2 rfl) ?_
              refine lv_iconst (v := 2) hx hb dX12_run_54 (by decide) ?_
              refine lv_icmp_ne (tgt := 65) hx hb dX12_run_55 (by decide) (fun c_23 => ?_) (fun c_23 => ?_)
              · skip
                refine lv_iload_n hx hb dX12_run_65 rfl (lv_at hl 2 rfl) ?_
                refine lv_iconst (v := 3) hx hb dX12_run_66 (by decide) ?_
                refine lv_icmp_ne (tgt := 77) hx hb dX12_run_67 (by decide) (fun c_24 => ?_) (fun c_24 => ?_)
                · skip
                  refine lv_aload_n hx hb dX12_run_77 rfl (lv_at hl 0 rfl) ?_
                  refine va_get (C := RX12) (T := TX12) (N := 43) (v := .int 0) hx hb hts hi_X12_run_X12 hown hK hP 0 rfl rfl 26 (by decide) (hts (.fieldLink RX12 197 "BothWaysModel" "saidMany" "I") (by decide +kernel)) (fun _ h => h) rfl dX12_run_78 ?_
                  exact rt_i hx hb hr hlocks hQ hP hD hS () [] dX12_run_81 rfl (Nat.le_of_ble_eq_true rfl) (Nat.le_of_ble_eq_true rfl) rfl (by decide) (lf_c_M_run_6 w h_17 c_21 c_22 c_23 c_24)
                · skip
                  refine lv_aload_n hx hb dX12_run_70 rfl (lv_at hl 0 rfl) ?_
                  refine va_get (C := RX12) (T := TX12) (N := 43) (v := .int 0) hx hb hts hi_X12_run_X12 hown hK hP 0 rfl rfl 24 (by decide) (hts (.fieldLink RX12 194 "BothWaysModel" "state" "I") (by decide +kernel)) (fun _ h => h) rfl dX12_run_71 ?_
                  refine lv_goto (tgt := 81) hx hb dX12_run_74 (by decide) ?_
                  exact rt_i hx hb hr hlocks hQ hP hD hS () [] dX12_run_81 rfl (Nat.le_of_ble_eq_true rfl) (Nat.le_of_ble_eq_true rfl) rfl (by decide) (lf_c_M_run_7 w h_17 c_21 c_22 c_23 c_24)
              · skip
                refine lv_aload_n hx hb dX12_run_58 rfl (lv_at hl 0 rfl) ?_
                refine va_get (C := RX12) (T := TX12) (N := 43) (v := .int 0) hx hb hts hi_X12_run_X12 hown hK hP 0 rfl rfl 23 (by decide) (hts (.fieldLink RX12 191 "BothWaysModel" "where" "I") (by decide +kernel)) (fun _ h => h) rfl dX12_run_59 ?_
                refine lv_goto (tgt := 81) hx hb dX12_run_62 (by decide) ?_
                exact rt_i hx hb hr hlocks hQ hP hD hS () [] dX12_run_81 rfl (Nat.le_of_ble_eq_true rfl) (Nat.le_of_ble_eq_true rfl) rfl (by decide) (lf_c_M_run_8 w h_17 c_21 c_22 c_23)
            · skip
              refine lv_aload_n hx hb dX12_run_46 rfl (lv_at hl 0 rfl) ?_
              refine va_get (C := RX12) (T := TX12) (N := 43) (v := .int 0) hx hb hts hi_X12_run_X12 hown hK hP 0 rfl rfl 22 (by decide) (hts (.fieldLink RX12 188 "BothWaysModel" "made" "I") (by decide +kernel)) (fun _ h => h) rfl dX12_run_47 ?_
              refine lv_goto (tgt := 81) hx hb dX12_run_50 (by decide) ?_
              exact rt_i hx hb hr hlocks hQ hP hD hS () [] dX12_run_81 rfl (Nat.le_of_ble_eq_true rfl) (Nat.le_of_ble_eq_true rfl) rfl (by decide) (lf_c_M_run_9 w h_17 c_21 c_22)
          · skip
            refine lv_aload_n hx hb dX12_run_34 rfl (lv_at hl 0 rfl) ?_
            refine va_get (C := RX12) (T := TX12) (N := 43) (v := .int 0) hx hb hts hi_X12_run_X12 hown hK hP 0 rfl rfl 21 (by decide) (hts (.fieldLink RX12 185 "BothWaysModel" "ends" "I") (by decide +kernel)) (fun _ h => h) rfl dX12_run_35 ?_
            refine lv_goto (tgt := 81) hx hb dX12_run_38 (by decide) ?_
            exact rt_i hx hb hr hlocks hQ hP hD hS () [] dX12_run_81 rfl (Nat.le_of_ble_eq_true rfl) (Nat.le_of_ble_eq_true rfl) rfl (by decide) (lf_c_M_run_10 w h_17 c_21)
        · skip
          refine if_ne_f hx hb dX12_run_19 25 (by decide) (by decide) ?_
          refine lv_bipush (v := (-3)) hx hb dX12_run_22 (by decide) ?_
          exact rt_i hx hb hr hlocks hQ hP hD hS () [] dX12_run_24 rfl (Nat.le_of_ble_eq_true rfl) (Nat.le_of_ble_eq_true rfl) rfl (by decide) (lf_c_M_run_11 w h_18)
    · skip
      refine if_ne_f hx hb dX12_run_4 10 (by decide) (by decide) ?_
      refine lv_bipush (v := (-2)) hx hb dX12_run_7 (by decide) ?_
      exact rt_i hx hb hr hlocks hQ hP hD hS () [] dX12_run_9 rfl (Nat.le_of_ble_eq_true rfl) (Nat.le_of_ble_eq_true rfl) rfl (by decide) (lf_c_M_run_12 x w h_4)
  rw [hH, hlo] at hgo
  exact hgo
theorem hi_X12_said_X12 : ∀ w ∈ wsX120, w ∈ wsX12_said := fun _ h => List.mem_cons_of_mem _ (List.mem_append_right _ h)
abbrev rm_c_M_said : Room := { frames := 3, cells := 0, slots := 0, locals := 66 }
theorem lf_c_M_said_0 (kk : Int32) (c_5 : 0 ≤ kk) : ((-1) : Int32) = sp_said 0 kk := by (unfold sp_said; rw [if_pos, if_neg] <;> (simp only [true_or, or_true, false_or, or_false, true_and, and_true, false_and, and_false, not_true_eq_false, not_false_eq_true, i_lt, i_le, i_eq, j_lt, j_le, j_eq, Int32.toInt_toInt64, li_0, lj_0, li_1, lj_1, li_2, lj_2, li_3, lj_3, li_4, lj_4, li_5, lj_5, li_6, lj_6, li_7, lj_7, li_8, lj_8, li_10, lj_10, li_11, lj_11, li_12, lj_12, li_24, lj_24, li_25, lj_25, li_50, lj_50, li_130, lj_130, li_160, lj_160, li_800, lj_800, li_4000, lj_4000, li_10000, lj_10000, li_16384, lj_16384, li_26, lj_26, li_32, lj_32, li_48, lj_48, li_57, lj_57, li_59, lj_59, li_97, lj_97, li_99, lj_99, li_122, lj_122, li_m1, lj_m1, li_m2, lj_m2, li_m3, lj_m3, li_m4, lj_m4, li_m5, lj_m5, li_m6, lj_m6] at * <;> omega))
theorem lf_c_M_said_1 (kk : Int32) (c_5 : ¬ 0 ≤ kk) : ((-3) : Int32) = sp_said 0 kk := by (unfold sp_said; rw [if_pos, if_pos] <;> (simp only [true_or, or_true, false_or, or_false, true_and, and_true, false_and, and_false, not_true_eq_false, not_false_eq_true, i_lt, i_le, i_eq, j_lt, j_le, j_eq, Int32.toInt_toInt64, li_0, lj_0, li_1, lj_1, li_2, lj_2, li_3, lj_3, li_4, lj_4, li_5, lj_5, li_6, lj_6, li_7, lj_7, li_8, lj_8, li_10, lj_10, li_11, lj_11, li_12, lj_12, li_24, lj_24, li_25, lj_25, li_50, lj_50, li_130, lj_130, li_160, lj_160, li_800, lj_800, li_4000, lj_4000, li_10000, lj_10000, li_16384, lj_16384, li_26, lj_26, li_32, lj_32, li_48, lj_48, li_57, lj_57, li_59, lj_59, li_97, lj_97, li_99, lj_99, li_122, lj_122, li_m1, lj_m1, li_m2, lj_m2, li_m3, lj_m3, li_m4, lj_m4, li_m5, lj_m5, li_m6, lj_m6] at * <;> omega))
theorem lf_c_M_said_2 (kk : Int32) (c_8 : 0 ≤ kk) : ((-1) : Int32) = sp_said 1 kk := by (unfold sp_said; rw [if_pos, if_neg] <;> (simp only [true_or, or_true, false_or, or_false, true_and, and_true, false_and, and_false, not_true_eq_false, not_false_eq_true, i_lt, i_le, i_eq, j_lt, j_le, j_eq, Int32.toInt_toInt64, li_0, lj_0, li_1, lj_1, li_2, lj_2, li_3, lj_3, li_4, lj_4, li_5, lj_5, li_6, lj_6, li_7, lj_7, li_8, lj_8, li_10, lj_10, li_11, lj_11, li_12, lj_12, li_24, lj_24, li_25, lj_25, li_50, lj_50, li_130, lj_130, li_160, lj_160, li_800, lj_800, li_4000, lj_4000, li_10000, lj_10000, li_16384, lj_16384, li_26, lj_26, li_32, lj_32, li_48, lj_48, li_57, lj_57, li_59, lj_59, li_97, lj_97, li_99, lj_99, li_122, lj_122, li_m1, lj_m1, li_m2, lj_m2, li_m3, lj_m3, li_m4, lj_m4, li_m5, lj_m5, li_m6, lj_m6] at * <;> omega))
theorem lf_c_M_said_3 (kk : Int32) (c_8 : ¬ 0 ≤ kk) : ((-3) : Int32) = sp_said 1 kk := by (unfold sp_said; rw [if_pos, if_pos] <;> (simp only [true_or, or_true, false_or, or_false, true_and, and_true, false_and, and_false, not_true_eq_false, not_false_eq_true, i_lt, i_le, i_eq, j_lt, j_le, j_eq, Int32.toInt_toInt64, li_0, lj_0, li_1, lj_1, li_2, lj_2, li_3, lj_3, li_4, lj_4, li_5, lj_5, li_6, lj_6, li_7, lj_7, li_8, lj_8, li_10, lj_10, li_11, lj_11, li_12, lj_12, li_24, lj_24, li_25, lj_25, li_50, lj_50, li_130, lj_130, li_160, lj_160, li_800, lj_800, li_4000, lj_4000, li_10000, lj_10000, li_16384, lj_16384, li_26, lj_26, li_32, lj_32, li_48, lj_48, li_57, lj_57, li_59, lj_59, li_97, lj_97, li_99, lj_99, li_122, lj_122, li_m1, lj_m1, li_m2, lj_m2, li_m3, lj_m3, li_m4, lj_m4, li_m5, lj_m5, li_m6, lj_m6] at * <;> omega))
theorem lf_c_M_said_4 (x : Int32) (kk : Int32) (h_4 : ¬ (x = 0 ∨ x = 1)) : ((-2) : Int32) = sp_said x kk := by (unfold sp_said; rw [if_neg] <;> (simp only [true_or, or_true, false_or, or_false, true_and, and_true, false_and, and_false, not_true_eq_false, not_false_eq_true, i_lt, i_le, i_eq, j_lt, j_le, j_eq, Int32.toInt_toInt64, li_0, lj_0, li_1, lj_1, li_2, lj_2, li_3, lj_3, li_4, lj_4, li_5, lj_5, li_6, lj_6, li_7, lj_7, li_8, lj_8, li_10, lj_10, li_11, lj_11, li_12, lj_12, li_24, lj_24, li_25, lj_25, li_50, lj_50, li_130, lj_130, li_160, lj_160, li_800, lj_800, li_4000, lj_4000, li_10000, lj_10000, li_16384, lj_16384, li_26, lj_26, li_32, lj_32, li_48, lj_48, li_57, lj_57, li_59, lj_59, li_97, lj_97, li_99, lj_99, li_122, lj_122, li_m1, lj_m1, li_m2, lj_m2, li_m3, lj_m3, li_m4, lj_m4, li_m5, lj_m5, li_m6, lj_m6] at * <;> omega))
set_option maxHeartbeats 4000000 in
set_option maxRecDepth 100000 in
theorem c_M_said (l : Launch) (g : va_G) (cT : Nat → ClassId) (sz : Nat) (y : Nat) (qq : Nat → Nat) (z6 : Int32) (z12 : Int32) (z15 : Int32) (z16 : Int32) (z17 : Int32) (z19 : Int32) (z21 : Int32) (z22 : Int32) (z23 : Int32) (z24 : Int32) (z26 : Int32) (z30 : Int32) (x : Int32) (kk : Int32)  : Ctr l g cT sz yX12_said wsX12_said rm_c_M_said [.ref y, .int x, .int kk] [(y, .inr (12, [.ref (qq 0), .ref (qq 1), .ref (qq 2), .ref (qq 3), .ref (qq 4), .ref (qq 5), .int z6, .ref (qq 7), .ref (qq 8), .ref (qq 9), .ref (qq 10), .ref (qq 11), .int z12, .ref (qq 13), .int 0, .int z15, .int z16, .int z17, .ref (qq 18), .int z19, .ref (qq 20), .int z21, .int z22, .int z23, .int z24, .ref (qq 25), .int z26, .ref (qq 27), .ref (qq 28), .ref (qq 29), .int z30, .ref (qq 31), .ref (qq 32), .ref (qq 33), .ref (qq 34), .ref (qq 35), .ref (qq 36), .ref (qq 37), .ref (qq 38), .ref (qq 39), .ref (qq 40), .ref (qq 41), .ref (qq 42)])), ((qq 2), .inl (cT 0, 50, .inl (fun _ => (-1)))), ((qq 20), .inl (cT 2, 130, .inl (fun _ => 0)))] (QI g (fun (r : Int32) (u : Unit) => r = sp_said x kk) (fun (u : Unit) => [])) 0 0 := by
  refine mk_ctr (cc := cX12_said) (maxL := 3) (ret := (some .int)) (by decide) rfl (Nat.le_of_ble_eq_true rfl) ?_
  intro p e s m args below meth c A Q hx hb hr hts hown hlocks hin hml hP hK hD hN hZ hA hS hQ ls hl
  have hl : lv_has ls 3 [(0, .ref y), (1, .int x), (2, .int kk)] := hl
  obtain ⟨H, hH⟩ : ∃ H : Heap, H = s.heap := ⟨_, rfl⟩
  obtain ⟨locs, hlo⟩ : ∃ x : List Loc, x = [] := ⟨_, rfl⟩
  rw [← hH] at hP
  have hS : va_S A s.heap H locs := by rw [hH, hlo]; exact hS
  have hgo : W p l e rm_c_M_said s m args below meth c H locs 0 0 Q (F0 m 0 ls []) := by
    clear hH hlo
    refine lv_iload_n hx hb dX12_said_0 rfl (lv_at hl 1 rfl) ?_
    refine cp_i (va_runS (As := [.int x]) (rest := []) ⟨hx, hb, hml, hown, hts⟩ (c_M_isReader l g cT H.size x) (va_cwS 1 hts gX12_said_X12_isReader rfl rfl rfl yd_X12_isReader.2 ⟨(Nat.le_of_ble_eq_true rfl), (Nat.le_of_ble_eq_true rfl)⟩) (preS (ws := []) (wc := []) rfl (fun _ _ h => by simp at h) (va_D_nil (A := A)) hK hN hZ hS hA [] rfl rfl) rfl rfl hl.1 rfl (lv_room (Nat.le_of_ble_eq_true rfl)) dX12_said_1 ⟨(Nat.le_of_ble_eq_true rfl), (Nat.le_of_ble_eq_true rfl)⟩) hP hS hA (fun r_1 u H locs h_2 hP hS => ?_)
    rcases h_2 with ⟨rfl, h_3⟩ | ⟨rfl, h_4⟩
    · skip
      rcases h_3 with rfl | rfl
      · skip
        refine if_ne_t hx hb 10 dX12_said_4 (by decide) (by decide) ?_
        refine lv_iload_n hx hb dX12_said_10 rfl (lv_at hl 2 rfl) ?_
        refine lv_if_ge (tgt := 17) hx hb dX12_said_11 (by decide) (fun c_5 => ?_) (fun c_5 => ?_)
        · skip
          refine lv_aload_n hx hb dX12_said_17 rfl (lv_at hl 0 rfl) ?_
          refine lv_iload_n hx hb dX12_said_18 rfl (lv_at hl 1 rfl) ?_
          refine cj_v 0 0 (wr := []) (va_runV (As := [.int 0]) (rest := []) ⟨hx, hb, hml, hown, hts⟩ (c_M_goRow_0 l g cT H.size y qq z6 z12 z15 z16 z17 z19 z21 z22 z23 z24 z26 z30 (fun _ => 0)) (cwV 1 hts gX12_said_X12_goRow rfl rfl rfl yd_X12_goRow ⟨(Nat.le_of_ble_eq_true rfl), (Nat.le_of_ble_eq_true rfl)⟩) (preV (wc := [(y, .inr (12, [.ref (qq 0), .ref (qq 1), .ref (qq 2), .ref (qq 3), .ref (qq 4), .ref (qq 5), .int z6, .ref (qq 7), .ref (qq 8), .ref (qq 9), .ref (qq 10), .ref (qq 11), .int z12, .ref (qq 13), .int 0, .int z15, .int z16, .int z17, .ref (qq 18), .int z19, .ref (qq 20), .int z21, .int z22, .int z23, .int z24, .ref (qq 25), .int z26, .ref (qq 27), .ref (qq 28), .ref (qq 29), .int z30, .ref (qq 31), .ref (qq 32), .ref (qq 33), .ref (qq 34), .ref (qq 35), .ref (qq 36), .ref (qq 37), .ref (qq 38), .ref (qq 39), .ref (qq 40), .ref (qq 41), .ref (qq 42)])), ((qq 2), .inl (cT 0, 50, .inl (fun _ => (-1)))), ((qq 20), .inl (cT 2, 130, .inl (fun _ => 0)))]) rfl hP hD hK hN hZ hS hA [0, 1, 2] rfl (by decide) (ci := 12) (q0 := 0) rfl rfl) rfl rfl hl.1 rfl (lv_room (Nat.le_of_ble_eq_true rfl)) dX12_said_19 ⟨(Nat.le_of_ble_eq_true rfl), (Nat.le_of_ble_eq_true rfl)⟩) hP hD hS hA [0, 1, 2] [] rfl rfl (by decide) (by decide) (Nat.le_of_ble_eq_true rfl) (Nat.le_of_ble_eq_true rfl) (fun u H locs h_7 hP hD hS => ?_)
          have hP : va_P g vwCl [(y, .inr (12, [.ref (qq 0), .ref (qq 1), .ref (qq 2), .ref (qq 3), .ref (qq 4), .ref (qq 5), .int z6, .ref (qq 7), .ref (qq 8), .ref (qq 9), .ref (qq 10), .ref (qq 11), .int z12, .ref (qq 13), .int 0, .int z15, .int z16, .int z17, .ref (qq 18), .int 0, .ref (qq 20), .int 0, .int 0, .int 0, .int 0, .ref (qq 25), .int 0, .ref (qq 27), .ref (qq 28), .ref (qq 29), .int z30, .ref (qq 31), .ref (qq 32), .ref (qq 33), .ref (qq 34), .ref (qq 35), .ref (qq 36), .ref (qq 37), .ref (qq 38), .ref (qq 39), .ref (qq 40), .ref (qq 41), .ref (qq 42)]))] H := hP
          have hD : va_D A [(y, .inr (12, [.ref (qq 0), .ref (qq 1), .ref (qq 2), .ref (qq 3), .ref (qq 4), .ref (qq 5), .int z6, .ref (qq 7), .ref (qq 8), .ref (qq 9), .ref (qq 10), .ref (qq 11), .int z12, .ref (qq 13), .int 0, .int z15, .int z16, .int z17, .ref (qq 18), .int 0, .ref (qq 20), .int 0, .int 0, .int 0, .int 0, .ref (qq 25), .int 0, .ref (qq 27), .ref (qq 28), .ref (qq 29), .int z30, .ref (qq 31), .ref (qq 32), .ref (qq 33), .ref (qq 34), .ref (qq 35), .ref (qq 36), .ref (qq 37), .ref (qq 38), .ref (qq 39), .ref (qq 40), .ref (qq 41), .ref (qq 42)]))] := hD
          refine lv_iload_n hx hb dX12_said_22 rfl (lv_at hl 2 rfl) ?_
          refine lv_aload_n hx hb dX12_said_23 rfl (lv_at hl 0 rfl) ?_
          refine va_get (C := RX12) (T := TX12) (N := 43) (v := .int 0) hx hb hts hi_X12_said_X12 hown hK hP 0 rfl rfl 26 (by decide) (hts (.fieldLink RX12 197 "BothWaysModel" "saidMany" "I") (by decide +kernel)) (fun _ h => h) rfl dX12_said_24 ?_
          refine icmp_ge_t hx hb 39 dX12_said_27 (by decide) c_5 ?_
          refine lv_iconst (v := (-1)) hx hb dX12_said_39 (by decide) ?_
          exact rt_i hx hb hr hlocks hQ hP hD hS () [] dX12_said_40 rfl (Nat.le_of_ble_eq_true rfl) (Nat.le_of_ble_eq_true rfl) rfl (by decide) (lf_c_M_said_0 kk c_5)
        · skip
          refine lv_bipush (v := (-3)) hx hb dX12_said_14 (by decide) ?_
          exact rt_i hx hb hr hlocks hQ hP hD hS () [] dX12_said_16 rfl (Nat.le_of_ble_eq_true rfl) (Nat.le_of_ble_eq_true rfl) rfl (by decide) (lf_c_M_said_1 kk c_5)
      · skip
        refine if_ne_t hx hb 10 dX12_said_4 (by decide) (by decide) ?_
        refine lv_iload_n hx hb dX12_said_10 rfl (lv_at hl 2 rfl) ?_
        refine lv_if_ge (tgt := 17) hx hb dX12_said_11 (by decide) (fun c_8 => ?_) (fun c_8 => ?_)
        · skip
          refine lv_aload_n hx hb dX12_said_17 rfl (lv_at hl 0 rfl) ?_
          refine lv_iload_n hx hb dX12_said_18 rfl (lv_at hl 1 rfl) ?_
          refine cj_v 0 0 (wr := []) (va_runV (As := [.int 1]) (rest := []) ⟨hx, hb, hml, hown, hts⟩ (c_M_goRow_1 l g cT H.size y qq z6 z12 z15 z16 z17 z19 z21 z22 z23 z24 z26 z30 (fun _ => 0)) (cwV 1 hts gX12_said_X12_goRow rfl rfl rfl yd_X12_goRow ⟨(Nat.le_of_ble_eq_true rfl), (Nat.le_of_ble_eq_true rfl)⟩) (preV (wc := [(y, .inr (12, [.ref (qq 0), .ref (qq 1), .ref (qq 2), .ref (qq 3), .ref (qq 4), .ref (qq 5), .int z6, .ref (qq 7), .ref (qq 8), .ref (qq 9), .ref (qq 10), .ref (qq 11), .int z12, .ref (qq 13), .int 0, .int z15, .int z16, .int z17, .ref (qq 18), .int z19, .ref (qq 20), .int z21, .int z22, .int z23, .int z24, .ref (qq 25), .int z26, .ref (qq 27), .ref (qq 28), .ref (qq 29), .int z30, .ref (qq 31), .ref (qq 32), .ref (qq 33), .ref (qq 34), .ref (qq 35), .ref (qq 36), .ref (qq 37), .ref (qq 38), .ref (qq 39), .ref (qq 40), .ref (qq 41), .ref (qq 42)])), ((qq 2), .inl (cT 0, 50, .inl (fun _ => (-1)))), ((qq 20), .inl (cT 2, 130, .inl (fun _ => 0)))]) rfl hP hD hK hN hZ hS hA [0, 1, 2] rfl (by decide) (ci := 12) (q0 := 0) rfl rfl) rfl rfl hl.1 rfl (lv_room (Nat.le_of_ble_eq_true rfl)) dX12_said_19 ⟨(Nat.le_of_ble_eq_true rfl), (Nat.le_of_ble_eq_true rfl)⟩) hP hD hS hA [0, 1, 2] [] rfl rfl (by decide) (by decide) (Nat.le_of_ble_eq_true rfl) (Nat.le_of_ble_eq_true rfl) (fun u H locs h_10 hP hD hS => ?_)
          have hP : va_P g vwCl [(y, .inr (12, [.ref (qq 0), .ref (qq 1), .ref (qq 2), .ref (qq 3), .ref (qq 4), .ref (qq 5), .int z6, .ref (qq 7), .ref (qq 8), .ref (qq 9), .ref (qq 10), .ref (qq 11), .int z12, .ref (qq 13), .int 0, .int z15, .int z16, .int z17, .ref (qq 18), .int 0, .ref (qq 20), .int 0, .int 0, .int 0, .int 0, .ref (qq 25), .int 0, .ref (qq 27), .ref (qq 28), .ref (qq 29), .int z30, .ref (qq 31), .ref (qq 32), .ref (qq 33), .ref (qq 34), .ref (qq 35), .ref (qq 36), .ref (qq 37), .ref (qq 38), .ref (qq 39), .ref (qq 40), .ref (qq 41), .ref (qq 42)]))] H := hP
          have hD : va_D A [(y, .inr (12, [.ref (qq 0), .ref (qq 1), .ref (qq 2), .ref (qq 3), .ref (qq 4), .ref (qq 5), .int z6, .ref (qq 7), .ref (qq 8), .ref (qq 9), .ref (qq 10), .ref (qq 11), .int z12, .ref (qq 13), .int 0, .int z15, .int z16, .int z17, .ref (qq 18), .int 0, .ref (qq 20), .int 0, .int 0, .int 0, .int 0, .ref (qq 25), .int 0, .ref (qq 27), .ref (qq 28), .ref (qq 29), .int z30, .ref (qq 31), .ref (qq 32), .ref (qq 33), .ref (qq 34), .ref (qq 35), .ref (qq 36), .ref (qq 37), .ref (qq 38), .ref (qq 39), .ref (qq 40), .ref (qq 41), .ref (qq 42)]))] := hD
          refine lv_iload_n hx hb dX12_said_22 rfl (lv_at hl 2 rfl) ?_
          refine lv_aload_n hx hb dX12_said_23 rfl (lv_at hl 0 rfl) ?_
          refine va_get (C := RX12) (T := TX12) (N := 43) (v := .int 0) hx hb hts hi_X12_said_X12 hown hK hP 0 rfl rfl 26 (by decide) (hts (.fieldLink RX12 197 "BothWaysModel" "saidMany" "I") (by decide +kernel)) (fun _ h => h) rfl dX12_said_24 ?_
          refine icmp_ge_t hx hb 39 dX12_said_27 (by decide) c_8 ?_
          refine lv_iconst (v := (-1)) hx hb dX12_said_39 (by decide) ?_
          exact rt_i hx hb hr hlocks hQ hP hD hS () [] dX12_said_40 rfl (Nat.le_of_ble_eq_true rfl) (Nat.le_of_ble_eq_true rfl) rfl (by decide) (lf_c_M_said_2 kk c_8)
        · skip
          refine lv_bipush (v := (-3)) hx hb dX12_said_14 (by decide) ?_
          exact rt_i hx hb hr hlocks hQ hP hD hS () [] dX12_said_16 rfl (Nat.le_of_ble_eq_true rfl) (Nat.le_of_ble_eq_true rfl) rfl (by decide) (lf_c_M_said_3 kk c_8)
    · skip
      refine if_ne_f hx hb dX12_said_4 10 (by decide) (by decide) ?_
      refine lv_bipush (v := (-2)) hx hb dX12_said_7 (by decide) ?_
      exact rt_i hx hb hr hlocks hQ hP hD hS () [] dX12_said_9 rfl (Nat.le_of_ble_eq_true rfl) (Nat.le_of_ble_eq_true rfl) rfl (by decide) (lf_c_M_said_4 x kk h_4)
  rw [hH, hlo] at hgo
  exact hgo
abbrev rm_c_M_entry : Room := { frames := 0, cells := 0, slots := 0, locals := 0 }
set_option maxHeartbeats 4000000 in
set_option maxRecDepth 100000 in
theorem c_M_entry (l : Launch) (g : va_G) (cT : Nat → ClassId) (sz : Nat) (t : Int64) (sd : Int32) (q : Int32)  : Ctr l g cT sz yX12_entry wsX12_entry rm_c_M_entry [.long t, .int sd, .int q] [] (QI g (fun (r : Int32) (u : Unit) => r = ((t >>> (((4 : Int32) * ((5 : Int32) * sd + q)).toInt64 &&& 63)) &&& (15 : Int64)).toInt32) (fun (u : Unit) => [])) 0 0 := by
  refine mk_ctr (cc := cX12_entry) (maxL := 4) (ret := (some .int)) (by decide) rfl (Nat.le_of_ble_eq_true rfl) ?_
  intro p e s m args below meth c A Q hx hb hr hts hown hlocks hin hml hP hK hD hN hZ hA hS hQ ls hl
  have hl : lv_has ls 4 [(0, .long t), (2, .int sd), (3, .int q)] := hl
  obtain ⟨H, hH⟩ : ∃ H : Heap, H = s.heap := ⟨_, rfl⟩
  obtain ⟨locs, hlo⟩ : ∃ x : List Loc, x = [] := ⟨_, rfl⟩
  rw [← hH] at hP
  have hS : va_S A s.heap H locs := by rw [hH, hlo]; exact hS
  have hgo : W p l e rm_c_M_entry s m args below meth c H locs 0 0 Q (F0 m 0 ls []) := by
    clear hH hlo
    refine lv_lload_n hx hb dX12_entry_0 rfl (lv_at hl 0 rfl) ?_
    refine lv_iconst (v := 4) hx hb dX12_entry_1 (by decide) ?_
    refine lv_iconst (v := 5) hx hb dX12_entry_2 (by decide) ?_
    refine lv_iload_n hx hb dX12_entry_3 rfl (lv_at hl 1 rfl) ?_
    refine w_imul (v := (5 : Int32) * sd) hx hb dX12_entry_4 rfl ?_
    refine lv_iload_n hx hb dX12_entry_5 rfl (lv_at hl 2 rfl) ?_
    refine w_iadd (v := ((5 : Int32) * sd) + q) hx hb dX12_entry_6 rfl ?_
    refine w_imul (v := (4 : Int32) * (((5 : Int32) * sd) + q)) hx hb dX12_entry_7 rfl ?_
    refine lv_lshr (v := t >>> (((4 : Int32) * (((5 : Int32) * sd) + q)).toInt64 &&& 63)) hx hb dX12_entry_8 rfl ?_
    refine lv_ldc2 (v := 15) hx hb hown (hts (.constantLong RX12 210 (15)) (by decide +kernel)) dX12_entry_9 ?_
    refine w_land (v := (t >>> (((4 : Int32) * (((5 : Int32) * sd) + q)).toInt64 &&& 63)) &&& (15 : Int64)) hx hb dX12_entry_12 rfl ?_
    refine lv_l2i (v := ((t >>> (((4 : Int32) * (((5 : Int32) * sd) + q)).toInt64 &&& 63)) &&& (15 : Int64)).toInt32) hx hb dX12_entry_13 rfl ?_
    exact rt_i hx hb hr hlocks hQ hP hD hS () [] dX12_entry_14 rfl (Nat.le_of_ble_eq_true rfl) (Nat.le_of_ble_eq_true rfl) rfl (by decide) (by first | rfl | decide)
  rw [hH, hlo] at hgo
  exact hgo
theorem hi_X12_letterTable_X12 : ∀ w ∈ wsX120, w ∈ wsX12_letterTable := fun _ h => List.mem_cons_of_mem _ (List.mem_append_right _ h)
abbrev rm_c_M_letterTable_0_0 : Room := { frames := 1, cells := 0, slots := 0, locals := 22 }
set_option maxHeartbeats 4000000 in
set_option maxRecDepth 100000 in
theorem c_M_letterTable_0_0 (l : Launch) (g : va_G) (cT : Nat → ClassId) (sz : Nat) (y : Nat) (qq : Nat → Nat) (z6 : Int32) (z12 : Int32) (z14 : Int32) (z15 : Int32) (z16 : Int32) (z17 : Int32) (z19 : Int32) (z21 : Int32) (z22 : Int32) (z23 : Int32) (z24 : Int32) (z26 : Int32) (z30 : Int32)  : Ctr l g cT sz yX12_letterTable wsX12_letterTable rm_c_M_letterTable_0_0 [.ref y, .int 0, .int 0] [(y, .inr (12, [.ref (qq 0), .ref (qq 1), .ref (qq 2), .ref (qq 3), .ref (qq 4), .ref (qq 5), .int z6, .ref (qq 7), .ref (qq 8), .ref (qq 9), .ref (qq 10), .ref (qq 11), .int z12, .ref (qq 13), .int z14, .int z15, .int z16, .int z17, .ref (qq 18), .int z19, .ref (qq 20), .int z21, .int z22, .int z23, .int z24, .ref (qq 25), .int z26, .ref (qq 27), .ref (qq 28), .ref (qq 29), .int z30, .ref (qq 31), .ref (qq 32), .ref (qq 33), .ref (qq 34), .ref (qq 35), .ref (qq 36), .ref (qq 37), .ref (qq 38), .ref (qq 39), .ref (qq 40), .ref (qq 41), .ref (qq 42)])), ((qq 0), .inl (cT 0, 2, .inl (fun _ => 1))), ((qq 2), .inl (cT 0, 50, .inl (fun _ => (-1))))] (QL g (fun (r : Int64) (u : Unit) => r = 10485770) (fun (u : Unit) => [(y, .inr (12, [.ref (qq 0), .ref (qq 1), .ref (qq 2), .ref (qq 3), .ref (qq 4), .ref (qq 5), .int z6, .ref (qq 7), .ref (qq 8), .ref (qq 9), .ref (qq 10), .ref (qq 11), .int z12, .ref (qq 13), .int z14, .int z15, .int z16, .int z17, .ref (qq 18), .int z19, .ref (qq 20), .int z21, .int z22, .int z23, .int z24, .ref (qq 25), .int z26, .ref (qq 27), .ref (qq 28), .ref (qq 29), .int z30, .ref (qq 31), .ref (qq 32), .ref (qq 33), .ref (qq 34), .ref (qq 35), .ref (qq 36), .ref (qq 37), .ref (qq 38), .ref (qq 39), .ref (qq 40), .ref (qq 41), .ref (qq 42)])), ((qq 0), .inl (cT 0, 2, .inl (fun _ => 1))), ((qq 2), .inl (cT 0, 50, .inl (fun _ => (-1))))])) 0 0 := by
  refine mk_ctr (cc := cX12_letterTable) (maxL := 10) (ret := (some .long)) (by decide) rfl (Nat.le_of_ble_eq_true rfl) ?_
  intro p e s m args below meth c A Q hx hb hr hts hown hlocks hin hml hP hK hD hN hZ hA hS hQ ls hl
  have hl : lv_has ls 10 [(0, .ref y), (1, .int 0), (2, .int 0)] := hl
  obtain ⟨H, hH⟩ : ∃ H : Heap, H = s.heap := ⟨_, rfl⟩
  obtain ⟨locs, hlo⟩ : ∃ x : List Loc, x = [] := ⟨_, rfl⟩
  rw [← hH] at hP
  have hS : va_S A s.heap H locs := by rw [hH, hlo]; exact hS
  have hgo : W p l e rm_c_M_letterTable_0_0 s m args below meth c H locs 0 0 Q (F0 m 0 ls []) := by
    clear hH hlo
    refine lv_lconst (v := 0) hx hb dX12_letterTable_0 (by decide) ?_
    refine lv_lstore_n (lv' := [(3, .long 0), (0, .ref y), (1, .int 0), (2, .int 0)]) hx hb dX12_letterTable_1 rfl hl (by decide) rfl (fun ls hl => ?_)
    refine lv_iconst (v := 0) hx hb dX12_letterTable_2 (by decide) ?_
    refine lv_istore (lv' := [(5, .int 0), (3, .long 0), (0, .ref y), (1, .int 0), (2, .int 0)]) hx hb dX12_letterTable_3 hl (by decide) rfl (fun ls hl => ?_)
    refine lv_iload hx hb dX12_letterTable_5 (lv_at hl 0 rfl) ?_
    refine lv_iconst (v := 2) hx hb dX12_letterTable_7 (by decide) ?_
    refine icmp_ge_f hx hb dX12_letterTable_8 98 (by decide) (by decide) ?_
    refine lv_iconst (v := 0) hx hb dX12_letterTable_11 (by decide) ?_
    refine lv_istore (lv' := [(6, .int 0), (5, .int 0), (3, .long 0), (0, .ref y), (1, .int 0), (2, .int 0)]) hx hb dX12_letterTable_12 hl (by decide) rfl (fun ls hl => ?_)
    refine lv_iload hx hb dX12_letterTable_14 (lv_at hl 0 rfl) ?_
    refine lv_aload_n hx hb dX12_letterTable_16 rfl (lv_at hl 3 rfl) ?_
    refine va_get (C := RX12) (T := TX12) (N := 43) (v := .ref (qq 0)) hx hb hts hi_X12_letterTable_X12 hown hK hP 0 rfl rfl 0 (by decide) (hts (.fieldLink RX12 7 "BothWaysModel" "states" "[I") (by decide +kernel)) (fun _ h => h) rfl dX12_letterTable_17 ?_
    refine lv_iload_n hx hb dX12_letterTable_20 rfl (lv_at hl 4 rfl) ?_
    refine w_iald (v := 1) hx hb hK hP 1 rfl dX12_letterTable_21 (inC (by decide)) rfl ?_
    refine icmp_ge_f hx hb dX12_letterTable_22 92 (by decide) (by decide) ?_
    refine lv_iload_n hx hb dX12_letterTable_25 rfl (lv_at hl 4 rfl) ?_
    refine lv_iload hx hb dX12_letterTable_26 (lv_at hl 0 rfl) ?_
    refine lv_iload_n hx hb dX12_letterTable_28 rfl (lv_at hl 5 rfl) ?_
    refine cp_i (va_runS (As := [.int 0, .int 0, .int 0]) (rest := []) ⟨hx, hb, hml, hown, hts⟩ (c_M_at0 l g cT H.size 0 0 0) (va_cwS 3 hts gX12_letterTable_X12_at0 rfl rfl rfl yd_X12_at0.2 ⟨(Nat.le_of_ble_eq_true rfl), (Nat.le_of_ble_eq_true rfl)⟩) (preS (ws := []) (wc := []) rfl (fun _ _ h => by simp at h) (va_D_nil (A := A)) hK hN hZ hS hA [] rfl rfl) rfl rfl hl.1 rfl (lv_room (Nat.le_of_ble_eq_true rfl)) dX12_letterTable_29 ⟨(Nat.le_of_ble_eq_true rfl), (Nat.le_of_ble_eq_true rfl)⟩) hP hS hA (fun r_1 u H locs h_2 hP hS => ?_)
    subst h_2
    refine tI 0 (by decide) ?_
    refine lv_istore (lv' := [(7, .int 0), (6, .int 0), (5, .int 0), (3, .long 0), (0, .ref y), (1, .int 0), (2, .int 0)]) hx hb dX12_letterTable_32 hl (by decide) rfl (fun ls hl => ?_)
    refine lv_aload_n hx hb dX12_letterTable_34 rfl (lv_at hl 4 rfl) ?_
    refine va_get (C := RX12) (T := TX12) (N := 43) (v := .ref (qq 2)) hx hb hts hi_X12_letterTable_X12 hown hK hP 0 rfl rfl 2 (by decide) (hts (.fieldLink RX12 16 "BothWaysModel" "goTo" "[I") (by decide +kernel)) (fun _ h => h) rfl dX12_letterTable_35 ?_
    refine lv_iload hx hb dX12_letterTable_38 (lv_at hl 0 rfl) ?_
    refine w_iald (v := (-1)) hx hb hK hP 2 rfl dX12_letterTable_40 (inC (by decide)) rfl ?_
    refine lv_iconst (v := (-1)) hx hb dX12_letterTable_41 (by decide) ?_
    refine icmp_ne_f hx hb dX12_letterTable_42 51 (by decide) (by decide) ?_
    refine lv_ldc2 (v := 10) hx hb hown (hts (.constantLong RX12 212 (10)) (by decide +kernel)) dX12_letterTable_45 ?_
    refine lv_goto (tgt := 69) hx hb dX12_letterTable_48 (by decide) ?_
    refine lv_lstore (lv' := [(8, .long 10), (7, .int 0), (6, .int 0), (5, .int 0), (3, .long 0), (0, .ref y), (1, .int 0), (2, .int 0)]) hx hb dX12_letterTable_69 hl (by decide) rfl (fun ls hl => ?_)
    refine lv_lload_n hx hb dX12_letterTable_71 rfl (lv_at hl 4 rfl) ?_
    refine lv_lload hx hb dX12_letterTable_72 (lv_at hl 0 rfl) ?_
    refine lv_iconst (v := 4) hx hb dX12_letterTable_74 (by decide) ?_
    refine lv_iconst (v := 5) hx hb dX12_letterTable_75 (by decide) ?_
    refine lv_iload hx hb dX12_letterTable_76 (lv_at hl 3 rfl) ?_
    refine w_imul (v := 0) hx hb dX12_letterTable_78 (by decide) ?_
    refine lv_iload hx hb dX12_letterTable_79 (lv_at hl 2 rfl) ?_
    refine w_iadd (v := 0) hx hb dX12_letterTable_81 (by decide) ?_
    refine w_imul (v := 0) hx hb dX12_letterTable_82 (by decide) ?_
    refine lv_lshl (v := 10) hx hb dX12_letterTable_83 (by decide) ?_
    refine w_lor (v := 10) hx hb dX12_letterTable_84 (by decide) ?_
    refine lv_lstore_n (lv' := [(3, .long 10), (8, .long 10), (7, .int 0), (6, .int 0), (5, .int 0), (0, .ref y), (1, .int 0), (2, .int 0)]) hx hb dX12_letterTable_85 rfl hl (by decide) rfl (fun ls hl => ?_)
    refine lv_iinc (v := 1) (lv' := [(6, .int 1), (3, .long 10), (8, .long 10), (7, .int 0), (5, .int 0), (0, .ref y), (1, .int 0), (2, .int 0)]) hx hb dX12_letterTable_86 hl (k := 3) rfl (by decide) (by decide) rfl (fun ls hl => ?_)
    refine lv_goto (tgt := 14) hx hb dX12_letterTable_89 (by decide) ?_
    refine lv_iload hx hb dX12_letterTable_14 (lv_at hl 0 rfl) ?_
    refine lv_aload_n hx hb dX12_letterTable_16 rfl (lv_at hl 5 rfl) ?_
    refine va_get (C := RX12) (T := TX12) (N := 43) (v := .ref (qq 0)) hx hb hts hi_X12_letterTable_X12 hown hK hP 0 rfl rfl 0 (by decide) (hts (.fieldLink RX12 7 "BothWaysModel" "states" "[I") (by decide +kernel)) (fun _ h => h) rfl dX12_letterTable_17 ?_
    refine lv_iload_n hx hb dX12_letterTable_20 rfl (lv_at hl 6 rfl) ?_
    refine w_iald (v := 1) hx hb hK hP 1 rfl dX12_letterTable_21 (inC (by decide)) rfl ?_
    refine icmp_ge_t hx hb 92 dX12_letterTable_22 (by decide) (by decide) ?_
    refine lv_iinc (v := 1) (lv' := [(5, .int 1), (6, .int 1), (3, .long 10), (8, .long 10), (7, .int 0), (0, .ref y), (1, .int 0), (2, .int 0)]) hx hb dX12_letterTable_92 hl (k := 4) rfl (by decide) (by decide) rfl (fun ls hl => ?_)
    refine lv_goto (tgt := 5) hx hb dX12_letterTable_95 (by decide) ?_
    refine lv_iload hx hb dX12_letterTable_5 (lv_at hl 0 rfl) ?_
    refine lv_iconst (v := 2) hx hb dX12_letterTable_7 (by decide) ?_
    refine icmp_ge_f hx hb dX12_letterTable_8 98 (by decide) (by decide) ?_
    refine lv_iconst (v := 0) hx hb dX12_letterTable_11 (by decide) ?_
    refine lv_istore (lv' := [(6, .int 0), (5, .int 1), (3, .long 10), (8, .long 10), (7, .int 0), (0, .ref y), (1, .int 0), (2, .int 0)]) hx hb dX12_letterTable_12 hl (by decide) rfl (fun ls hl => ?_)
    refine lv_iload hx hb dX12_letterTable_14 (lv_at hl 0 rfl) ?_
    refine lv_aload_n hx hb dX12_letterTable_16 rfl (lv_at hl 5 rfl) ?_
    refine va_get (C := RX12) (T := TX12) (N := 43) (v := .ref (qq 0)) hx hb hts hi_X12_letterTable_X12 hown hK hP 0 rfl rfl 0 (by decide) (hts (.fieldLink RX12 7 "BothWaysModel" "states" "[I") (by decide +kernel)) (fun _ h => h) rfl dX12_letterTable_17 ?_
    refine lv_iload_n hx hb dX12_letterTable_20 rfl (lv_at hl 6 rfl) ?_
    refine w_iald (v := 1) hx hb hK hP 1 rfl dX12_letterTable_21 (inC (by decide)) rfl ?_
    refine icmp_ge_f hx hb dX12_letterTable_22 92 (by decide) (by decide) ?_
    refine lv_iload_n hx hb dX12_letterTable_25 rfl (lv_at hl 6 rfl) ?_
    refine lv_iload hx hb dX12_letterTable_26 (lv_at hl 0 rfl) ?_
    refine lv_iload_n hx hb dX12_letterTable_28 rfl (lv_at hl 7 rfl) ?_
    refine cp_i (va_runS (As := [.int 0, .int 0, .int 0]) (rest := []) ⟨hx, hb, hml, hown, hts⟩ (c_M_at0 l g cT H.size 0 0 0) (va_cwS 3 hts gX12_letterTable_X12_at0 rfl rfl rfl yd_X12_at0.2 ⟨(Nat.le_of_ble_eq_true rfl), (Nat.le_of_ble_eq_true rfl)⟩) (preS (ws := []) (wc := []) rfl (fun _ _ h => by simp at h) (va_D_nil (A := A)) hK hN hZ hS hA [] rfl rfl) rfl rfl hl.1 rfl (lv_room (Nat.le_of_ble_eq_true rfl)) dX12_letterTable_29 ⟨(Nat.le_of_ble_eq_true rfl), (Nat.le_of_ble_eq_true rfl)⟩) hP hS hA (fun r_3 u H locs h_4 hP hS => ?_)
    subst h_4
    refine tI 0 (by decide) ?_
    refine lv_istore (lv' := [(7, .int 0), (6, .int 0), (5, .int 1), (3, .long 10), (8, .long 10), (0, .ref y), (1, .int 0), (2, .int 0)]) hx hb dX12_letterTable_32 hl (by decide) rfl (fun ls hl => ?_)
    refine lv_aload_n hx hb dX12_letterTable_34 rfl (lv_at hl 5 rfl) ?_
    refine va_get (C := RX12) (T := TX12) (N := 43) (v := .ref (qq 2)) hx hb hts hi_X12_letterTable_X12 hown hK hP 0 rfl rfl 2 (by decide) (hts (.fieldLink RX12 16 "BothWaysModel" "goTo" "[I") (by decide +kernel)) (fun _ h => h) rfl dX12_letterTable_35 ?_
    refine lv_iload hx hb dX12_letterTable_38 (lv_at hl 0 rfl) ?_
    refine w_iald (v := (-1)) hx hb hK hP 2 rfl dX12_letterTable_40 (inC (by decide)) rfl ?_
    refine lv_iconst (v := (-1)) hx hb dX12_letterTable_41 (by decide) ?_
    refine icmp_ne_f hx hb dX12_letterTable_42 51 (by decide) (by decide) ?_
    refine lv_ldc2 (v := 10) hx hb hown (hts (.constantLong RX12 212 (10)) (by decide +kernel)) dX12_letterTable_45 ?_
    refine lv_goto (tgt := 69) hx hb dX12_letterTable_48 (by decide) ?_
    refine lv_lstore (lv' := [(8, .long 10), (7, .int 0), (6, .int 0), (5, .int 1), (3, .long 10), (0, .ref y), (1, .int 0), (2, .int 0)]) hx hb dX12_letterTable_69 hl (by decide) rfl (fun ls hl => ?_)
    refine lv_lload_n hx hb dX12_letterTable_71 rfl (lv_at hl 4 rfl) ?_
    refine lv_lload hx hb dX12_letterTable_72 (lv_at hl 0 rfl) ?_
    refine lv_iconst (v := 4) hx hb dX12_letterTable_74 (by decide) ?_
    refine lv_iconst (v := 5) hx hb dX12_letterTable_75 (by decide) ?_
    refine lv_iload hx hb dX12_letterTable_76 (lv_at hl 3 rfl) ?_
    refine w_imul (v := 5) hx hb dX12_letterTable_78 (by decide) ?_
    refine lv_iload hx hb dX12_letterTable_79 (lv_at hl 2 rfl) ?_
    refine w_iadd (v := 5) hx hb dX12_letterTable_81 (by decide) ?_
    refine w_imul (v := 20) hx hb dX12_letterTable_82 (by decide) ?_
    refine lv_lshl (v := 10485760) hx hb dX12_letterTable_83 (by decide) ?_
    refine w_lor (v := 10485770) hx hb dX12_letterTable_84 (by decide) ?_
    refine lv_lstore_n (lv' := [(3, .long 10485770), (8, .long 10), (7, .int 0), (6, .int 0), (5, .int 1), (0, .ref y), (1, .int 0), (2, .int 0)]) hx hb dX12_letterTable_85 rfl hl (by decide) rfl (fun ls hl => ?_)
    refine lv_iinc (v := 1) (lv' := [(6, .int 1), (3, .long 10485770), (8, .long 10), (7, .int 0), (5, .int 1), (0, .ref y), (1, .int 0), (2, .int 0)]) hx hb dX12_letterTable_86 hl (k := 3) rfl (by decide) (by decide) rfl (fun ls hl => ?_)
    refine lv_goto (tgt := 14) hx hb dX12_letterTable_89 (by decide) ?_
    refine lv_iload hx hb dX12_letterTable_14 (lv_at hl 0 rfl) ?_
    refine lv_aload_n hx hb dX12_letterTable_16 rfl (lv_at hl 5 rfl) ?_
    refine va_get (C := RX12) (T := TX12) (N := 43) (v := .ref (qq 0)) hx hb hts hi_X12_letterTable_X12 hown hK hP 0 rfl rfl 0 (by decide) (hts (.fieldLink RX12 7 "BothWaysModel" "states" "[I") (by decide +kernel)) (fun _ h => h) rfl dX12_letterTable_17 ?_
    refine lv_iload_n hx hb dX12_letterTable_20 rfl (lv_at hl 6 rfl) ?_
    refine w_iald (v := 1) hx hb hK hP 1 rfl dX12_letterTable_21 (inC (by decide)) rfl ?_
    refine icmp_ge_t hx hb 92 dX12_letterTable_22 (by decide) (by decide) ?_
    refine lv_iinc (v := 2) (lv' := [(5, .int 2), (6, .int 1), (3, .long 10485770), (8, .long 10), (7, .int 0), (0, .ref y), (1, .int 0), (2, .int 0)]) hx hb dX12_letterTable_92 hl (k := 4) rfl (by decide) (by decide) rfl (fun ls hl => ?_)
    refine lv_goto (tgt := 5) hx hb dX12_letterTable_95 (by decide) ?_
    refine lv_iload hx hb dX12_letterTable_5 (lv_at hl 0 rfl) ?_
    refine lv_iconst (v := 2) hx hb dX12_letterTable_7 (by decide) ?_
    refine icmp_ge_t hx hb 98 dX12_letterTable_8 (by decide) (by decide) ?_
    refine lv_lload_n hx hb dX12_letterTable_98 rfl (lv_at hl 2 rfl) ?_
    exact rt_l hx hb hr hlocks hQ hP hD hS () [0, 1, 2] dX12_letterTable_99 (Nat.le_of_ble_eq_true rfl) (Nat.le_of_ble_eq_true rfl) rfl (by decide) rfl
  rw [hH, hlo] at hgo
  exact hgo
abbrev rm_c_M_letterTable_0_1 : Room := { frames := 1, cells := 0, slots := 0, locals := 22 }
set_option maxHeartbeats 4000000 in
set_option maxRecDepth 100000 in
theorem c_M_letterTable_0_1 (l : Launch) (g : va_G) (cT : Nat → ClassId) (sz : Nat) (y : Nat) (qq : Nat → Nat) (z6 : Int32) (z12 : Int32) (z14 : Int32) (z15 : Int32) (z16 : Int32) (z17 : Int32) (z19 : Int32) (z21 : Int32) (z22 : Int32) (z23 : Int32) (z24 : Int32) (z26 : Int32) (z30 : Int32)  : Ctr l g cT sz yX12_letterTable wsX12_letterTable rm_c_M_letterTable_0_1 [.ref y, .int 0, .int 1] [(y, .inr (12, [.ref (qq 0), .ref (qq 1), .ref (qq 2), .ref (qq 3), .ref (qq 4), .ref (qq 5), .int z6, .ref (qq 7), .ref (qq 8), .ref (qq 9), .ref (qq 10), .ref (qq 11), .int z12, .ref (qq 13), .int z14, .int z15, .int z16, .int z17, .ref (qq 18), .int z19, .ref (qq 20), .int z21, .int z22, .int z23, .int z24, .ref (qq 25), .int z26, .ref (qq 27), .ref (qq 28), .ref (qq 29), .int z30, .ref (qq 31), .ref (qq 32), .ref (qq 33), .ref (qq 34), .ref (qq 35), .ref (qq 36), .ref (qq 37), .ref (qq 38), .ref (qq 39), .ref (qq 40), .ref (qq 41), .ref (qq 42)])), ((qq 0), .inl (cT 0, 2, .inl (fun _ => 1))), ((qq 2), .inl (cT 0, 50, .inl (fun _ => (-1))))] (QL g (fun (r : Int64) (u : Unit) => r = 10485770) (fun (u : Unit) => [(y, .inr (12, [.ref (qq 0), .ref (qq 1), .ref (qq 2), .ref (qq 3), .ref (qq 4), .ref (qq 5), .int z6, .ref (qq 7), .ref (qq 8), .ref (qq 9), .ref (qq 10), .ref (qq 11), .int z12, .ref (qq 13), .int z14, .int z15, .int z16, .int z17, .ref (qq 18), .int z19, .ref (qq 20), .int z21, .int z22, .int z23, .int z24, .ref (qq 25), .int z26, .ref (qq 27), .ref (qq 28), .ref (qq 29), .int z30, .ref (qq 31), .ref (qq 32), .ref (qq 33), .ref (qq 34), .ref (qq 35), .ref (qq 36), .ref (qq 37), .ref (qq 38), .ref (qq 39), .ref (qq 40), .ref (qq 41), .ref (qq 42)])), ((qq 0), .inl (cT 0, 2, .inl (fun _ => 1))), ((qq 2), .inl (cT 0, 50, .inl (fun _ => (-1))))])) 0 0 := by
  refine mk_ctr (cc := cX12_letterTable) (maxL := 10) (ret := (some .long)) (by decide) rfl (Nat.le_of_ble_eq_true rfl) ?_
  intro p e s m args below meth c A Q hx hb hr hts hown hlocks hin hml hP hK hD hN hZ hA hS hQ ls hl
  have hl : lv_has ls 10 [(0, .ref y), (1, .int 0), (2, .int 1)] := hl
  obtain ⟨H, hH⟩ : ∃ H : Heap, H = s.heap := ⟨_, rfl⟩
  obtain ⟨locs, hlo⟩ : ∃ x : List Loc, x = [] := ⟨_, rfl⟩
  rw [← hH] at hP
  have hS : va_S A s.heap H locs := by rw [hH, hlo]; exact hS
  have hgo : W p l e rm_c_M_letterTable_0_1 s m args below meth c H locs 0 0 Q (F0 m 0 ls []) := by
    clear hH hlo
    refine lv_lconst (v := 0) hx hb dX12_letterTable_0 (by decide) ?_
    refine lv_lstore_n (lv' := [(3, .long 0), (0, .ref y), (1, .int 0), (2, .int 1)]) hx hb dX12_letterTable_1 rfl hl (by decide) rfl (fun ls hl => ?_)
    refine lv_iconst (v := 0) hx hb dX12_letterTable_2 (by decide) ?_
    refine lv_istore (lv' := [(5, .int 0), (3, .long 0), (0, .ref y), (1, .int 0), (2, .int 1)]) hx hb dX12_letterTable_3 hl (by decide) rfl (fun ls hl => ?_)
    refine lv_iload hx hb dX12_letterTable_5 (lv_at hl 0 rfl) ?_
    refine lv_iconst (v := 2) hx hb dX12_letterTable_7 (by decide) ?_
    refine icmp_ge_f hx hb dX12_letterTable_8 98 (by decide) (by decide) ?_
    refine lv_iconst (v := 0) hx hb dX12_letterTable_11 (by decide) ?_
    refine lv_istore (lv' := [(6, .int 0), (5, .int 0), (3, .long 0), (0, .ref y), (1, .int 0), (2, .int 1)]) hx hb dX12_letterTable_12 hl (by decide) rfl (fun ls hl => ?_)
    refine lv_iload hx hb dX12_letterTable_14 (lv_at hl 0 rfl) ?_
    refine lv_aload_n hx hb dX12_letterTable_16 rfl (lv_at hl 3 rfl) ?_
    refine va_get (C := RX12) (T := TX12) (N := 43) (v := .ref (qq 0)) hx hb hts hi_X12_letterTable_X12 hown hK hP 0 rfl rfl 0 (by decide) (hts (.fieldLink RX12 7 "BothWaysModel" "states" "[I") (by decide +kernel)) (fun _ h => h) rfl dX12_letterTable_17 ?_
    refine lv_iload_n hx hb dX12_letterTable_20 rfl (lv_at hl 4 rfl) ?_
    refine w_iald (v := 1) hx hb hK hP 1 rfl dX12_letterTable_21 (inC (by decide)) rfl ?_
    refine icmp_ge_f hx hb dX12_letterTable_22 92 (by decide) (by decide) ?_
    refine lv_iload_n hx hb dX12_letterTable_25 rfl (lv_at hl 4 rfl) ?_
    refine lv_iload hx hb dX12_letterTable_26 (lv_at hl 0 rfl) ?_
    refine lv_iload_n hx hb dX12_letterTable_28 rfl (lv_at hl 5 rfl) ?_
    refine cp_i (va_runS (As := [.int 0, .int 0, .int 1]) (rest := []) ⟨hx, hb, hml, hown, hts⟩ (c_M_at0 l g cT H.size 0 0 1) (va_cwS 3 hts gX12_letterTable_X12_at0 rfl rfl rfl yd_X12_at0.2 ⟨(Nat.le_of_ble_eq_true rfl), (Nat.le_of_ble_eq_true rfl)⟩) (preS (ws := []) (wc := []) rfl (fun _ _ h => by simp at h) (va_D_nil (A := A)) hK hN hZ hS hA [] rfl rfl) rfl rfl hl.1 rfl (lv_room (Nat.le_of_ble_eq_true rfl)) dX12_letterTable_29 ⟨(Nat.le_of_ble_eq_true rfl), (Nat.le_of_ble_eq_true rfl)⟩) hP hS hA (fun r_1 u H locs h_2 hP hS => ?_)
    subst h_2
    refine tI 1 (by decide) ?_
    refine lv_istore (lv' := [(7, .int 1), (6, .int 0), (5, .int 0), (3, .long 0), (0, .ref y), (1, .int 0), (2, .int 1)]) hx hb dX12_letterTable_32 hl (by decide) rfl (fun ls hl => ?_)
    refine lv_aload_n hx hb dX12_letterTable_34 rfl (lv_at hl 4 rfl) ?_
    refine va_get (C := RX12) (T := TX12) (N := 43) (v := .ref (qq 2)) hx hb hts hi_X12_letterTable_X12 hown hK hP 0 rfl rfl 2 (by decide) (hts (.fieldLink RX12 16 "BothWaysModel" "goTo" "[I") (by decide +kernel)) (fun _ h => h) rfl dX12_letterTable_35 ?_
    refine lv_iload hx hb dX12_letterTable_38 (lv_at hl 0 rfl) ?_
    refine w_iald (v := (-1)) hx hb hK hP 2 rfl dX12_letterTable_40 (inC (by decide)) rfl ?_
    refine lv_iconst (v := (-1)) hx hb dX12_letterTable_41 (by decide) ?_
    refine icmp_ne_f hx hb dX12_letterTable_42 51 (by decide) (by decide) ?_
    refine lv_ldc2 (v := 10) hx hb hown (hts (.constantLong RX12 212 (10)) (by decide +kernel)) dX12_letterTable_45 ?_
    refine lv_goto (tgt := 69) hx hb dX12_letterTable_48 (by decide) ?_
    refine lv_lstore (lv' := [(8, .long 10), (7, .int 1), (6, .int 0), (5, .int 0), (3, .long 0), (0, .ref y), (1, .int 0), (2, .int 1)]) hx hb dX12_letterTable_69 hl (by decide) rfl (fun ls hl => ?_)
    refine lv_lload_n hx hb dX12_letterTable_71 rfl (lv_at hl 4 rfl) ?_
    refine lv_lload hx hb dX12_letterTable_72 (lv_at hl 0 rfl) ?_
    refine lv_iconst (v := 4) hx hb dX12_letterTable_74 (by decide) ?_
    refine lv_iconst (v := 5) hx hb dX12_letterTable_75 (by decide) ?_
    refine lv_iload hx hb dX12_letterTable_76 (lv_at hl 3 rfl) ?_
    refine w_imul (v := 0) hx hb dX12_letterTable_78 (by decide) ?_
    refine lv_iload hx hb dX12_letterTable_79 (lv_at hl 2 rfl) ?_
    refine w_iadd (v := 0) hx hb dX12_letterTable_81 (by decide) ?_
    refine w_imul (v := 0) hx hb dX12_letterTable_82 (by decide) ?_
    refine lv_lshl (v := 10) hx hb dX12_letterTable_83 (by decide) ?_
    refine w_lor (v := 10) hx hb dX12_letterTable_84 (by decide) ?_
    refine lv_lstore_n (lv' := [(3, .long 10), (8, .long 10), (7, .int 1), (6, .int 0), (5, .int 0), (0, .ref y), (1, .int 0), (2, .int 1)]) hx hb dX12_letterTable_85 rfl hl (by decide) rfl (fun ls hl => ?_)
    refine lv_iinc (v := 1) (lv' := [(6, .int 1), (3, .long 10), (8, .long 10), (7, .int 1), (5, .int 0), (0, .ref y), (1, .int 0), (2, .int 1)]) hx hb dX12_letterTable_86 hl (k := 3) rfl (by decide) (by decide) rfl (fun ls hl => ?_)
    refine lv_goto (tgt := 14) hx hb dX12_letterTable_89 (by decide) ?_
    refine lv_iload hx hb dX12_letterTable_14 (lv_at hl 0 rfl) ?_
    refine lv_aload_n hx hb dX12_letterTable_16 rfl (lv_at hl 5 rfl) ?_
    refine va_get (C := RX12) (T := TX12) (N := 43) (v := .ref (qq 0)) hx hb hts hi_X12_letterTable_X12 hown hK hP 0 rfl rfl 0 (by decide) (hts (.fieldLink RX12 7 "BothWaysModel" "states" "[I") (by decide +kernel)) (fun _ h => h) rfl dX12_letterTable_17 ?_
    refine lv_iload_n hx hb dX12_letterTable_20 rfl (lv_at hl 6 rfl) ?_
    refine w_iald (v := 1) hx hb hK hP 1 rfl dX12_letterTable_21 (inC (by decide)) rfl ?_
    refine icmp_ge_t hx hb 92 dX12_letterTable_22 (by decide) (by decide) ?_
    refine lv_iinc (v := 1) (lv' := [(5, .int 1), (6, .int 1), (3, .long 10), (8, .long 10), (7, .int 1), (0, .ref y), (1, .int 0), (2, .int 1)]) hx hb dX12_letterTable_92 hl (k := 4) rfl (by decide) (by decide) rfl (fun ls hl => ?_)
    refine lv_goto (tgt := 5) hx hb dX12_letterTable_95 (by decide) ?_
    refine lv_iload hx hb dX12_letterTable_5 (lv_at hl 0 rfl) ?_
    refine lv_iconst (v := 2) hx hb dX12_letterTable_7 (by decide) ?_
    refine icmp_ge_f hx hb dX12_letterTable_8 98 (by decide) (by decide) ?_
    refine lv_iconst (v := 0) hx hb dX12_letterTable_11 (by decide) ?_
    refine lv_istore (lv' := [(6, .int 0), (5, .int 1), (3, .long 10), (8, .long 10), (7, .int 1), (0, .ref y), (1, .int 0), (2, .int 1)]) hx hb dX12_letterTable_12 hl (by decide) rfl (fun ls hl => ?_)
    refine lv_iload hx hb dX12_letterTable_14 (lv_at hl 0 rfl) ?_
    refine lv_aload_n hx hb dX12_letterTable_16 rfl (lv_at hl 5 rfl) ?_
    refine va_get (C := RX12) (T := TX12) (N := 43) (v := .ref (qq 0)) hx hb hts hi_X12_letterTable_X12 hown hK hP 0 rfl rfl 0 (by decide) (hts (.fieldLink RX12 7 "BothWaysModel" "states" "[I") (by decide +kernel)) (fun _ h => h) rfl dX12_letterTable_17 ?_
    refine lv_iload_n hx hb dX12_letterTable_20 rfl (lv_at hl 6 rfl) ?_
    refine w_iald (v := 1) hx hb hK hP 1 rfl dX12_letterTable_21 (inC (by decide)) rfl ?_
    refine icmp_ge_f hx hb dX12_letterTable_22 92 (by decide) (by decide) ?_
    refine lv_iload_n hx hb dX12_letterTable_25 rfl (lv_at hl 6 rfl) ?_
    refine lv_iload hx hb dX12_letterTable_26 (lv_at hl 0 rfl) ?_
    refine lv_iload_n hx hb dX12_letterTable_28 rfl (lv_at hl 7 rfl) ?_
    refine cp_i (va_runS (As := [.int 0, .int 0, .int 1]) (rest := []) ⟨hx, hb, hml, hown, hts⟩ (c_M_at0 l g cT H.size 0 0 1) (va_cwS 3 hts gX12_letterTable_X12_at0 rfl rfl rfl yd_X12_at0.2 ⟨(Nat.le_of_ble_eq_true rfl), (Nat.le_of_ble_eq_true rfl)⟩) (preS (ws := []) (wc := []) rfl (fun _ _ h => by simp at h) (va_D_nil (A := A)) hK hN hZ hS hA [] rfl rfl) rfl rfl hl.1 rfl (lv_room (Nat.le_of_ble_eq_true rfl)) dX12_letterTable_29 ⟨(Nat.le_of_ble_eq_true rfl), (Nat.le_of_ble_eq_true rfl)⟩) hP hS hA (fun r_3 u H locs h_4 hP hS => ?_)
    subst h_4
    refine tI 1 (by decide) ?_
    refine lv_istore (lv' := [(7, .int 1), (6, .int 0), (5, .int 1), (3, .long 10), (8, .long 10), (0, .ref y), (1, .int 0), (2, .int 1)]) hx hb dX12_letterTable_32 hl (by decide) rfl (fun ls hl => ?_)
    refine lv_aload_n hx hb dX12_letterTable_34 rfl (lv_at hl 5 rfl) ?_
    refine va_get (C := RX12) (T := TX12) (N := 43) (v := .ref (qq 2)) hx hb hts hi_X12_letterTable_X12 hown hK hP 0 rfl rfl 2 (by decide) (hts (.fieldLink RX12 16 "BothWaysModel" "goTo" "[I") (by decide +kernel)) (fun _ h => h) rfl dX12_letterTable_35 ?_
    refine lv_iload hx hb dX12_letterTable_38 (lv_at hl 0 rfl) ?_
    refine w_iald (v := (-1)) hx hb hK hP 2 rfl dX12_letterTable_40 (inC (by decide)) rfl ?_
    refine lv_iconst (v := (-1)) hx hb dX12_letterTable_41 (by decide) ?_
    refine icmp_ne_f hx hb dX12_letterTable_42 51 (by decide) (by decide) ?_
    refine lv_ldc2 (v := 10) hx hb hown (hts (.constantLong RX12 212 (10)) (by decide +kernel)) dX12_letterTable_45 ?_
    refine lv_goto (tgt := 69) hx hb dX12_letterTable_48 (by decide) ?_
    refine lv_lstore (lv' := [(8, .long 10), (7, .int 1), (6, .int 0), (5, .int 1), (3, .long 10), (0, .ref y), (1, .int 0), (2, .int 1)]) hx hb dX12_letterTable_69 hl (by decide) rfl (fun ls hl => ?_)
    refine lv_lload_n hx hb dX12_letterTable_71 rfl (lv_at hl 4 rfl) ?_
    refine lv_lload hx hb dX12_letterTable_72 (lv_at hl 0 rfl) ?_
    refine lv_iconst (v := 4) hx hb dX12_letterTable_74 (by decide) ?_
    refine lv_iconst (v := 5) hx hb dX12_letterTable_75 (by decide) ?_
    refine lv_iload hx hb dX12_letterTable_76 (lv_at hl 3 rfl) ?_
    refine w_imul (v := 5) hx hb dX12_letterTable_78 (by decide) ?_
    refine lv_iload hx hb dX12_letterTable_79 (lv_at hl 2 rfl) ?_
    refine w_iadd (v := 5) hx hb dX12_letterTable_81 (by decide) ?_
    refine w_imul (v := 20) hx hb dX12_letterTable_82 (by decide) ?_
    refine lv_lshl (v := 10485760) hx hb dX12_letterTable_83 (by decide) ?_
    refine w_lor (v := 10485770) hx hb dX12_letterTable_84 (by decide) ?_
    refine lv_lstore_n (lv' := [(3, .long 10485770), (8, .long 10), (7, .int 1), (6, .int 0), (5, .int 1), (0, .ref y), (1, .int 0), (2, .int 1)]) hx hb dX12_letterTable_85 rfl hl (by decide) rfl (fun ls hl => ?_)
    refine lv_iinc (v := 1) (lv' := [(6, .int 1), (3, .long 10485770), (8, .long 10), (7, .int 1), (5, .int 1), (0, .ref y), (1, .int 0), (2, .int 1)]) hx hb dX12_letterTable_86 hl (k := 3) rfl (by decide) (by decide) rfl (fun ls hl => ?_)
    refine lv_goto (tgt := 14) hx hb dX12_letterTable_89 (by decide) ?_
    refine lv_iload hx hb dX12_letterTable_14 (lv_at hl 0 rfl) ?_
    refine lv_aload_n hx hb dX12_letterTable_16 rfl (lv_at hl 5 rfl) ?_
    refine va_get (C := RX12) (T := TX12) (N := 43) (v := .ref (qq 0)) hx hb hts hi_X12_letterTable_X12 hown hK hP 0 rfl rfl 0 (by decide) (hts (.fieldLink RX12 7 "BothWaysModel" "states" "[I") (by decide +kernel)) (fun _ h => h) rfl dX12_letterTable_17 ?_
    refine lv_iload_n hx hb dX12_letterTable_20 rfl (lv_at hl 6 rfl) ?_
    refine w_iald (v := 1) hx hb hK hP 1 rfl dX12_letterTable_21 (inC (by decide)) rfl ?_
    refine icmp_ge_t hx hb 92 dX12_letterTable_22 (by decide) (by decide) ?_
    refine lv_iinc (v := 2) (lv' := [(5, .int 2), (6, .int 1), (3, .long 10485770), (8, .long 10), (7, .int 1), (0, .ref y), (1, .int 0), (2, .int 1)]) hx hb dX12_letterTable_92 hl (k := 4) rfl (by decide) (by decide) rfl (fun ls hl => ?_)
    refine lv_goto (tgt := 5) hx hb dX12_letterTable_95 (by decide) ?_
    refine lv_iload hx hb dX12_letterTable_5 (lv_at hl 0 rfl) ?_
    refine lv_iconst (v := 2) hx hb dX12_letterTable_7 (by decide) ?_
    refine icmp_ge_t hx hb 98 dX12_letterTable_8 (by decide) (by decide) ?_
    refine lv_lload_n hx hb dX12_letterTable_98 rfl (lv_at hl 2 rfl) ?_
    exact rt_l hx hb hr hlocks hQ hP hD hS () [0, 1, 2] dX12_letterTable_99 (Nat.le_of_ble_eq_true rfl) (Nat.le_of_ble_eq_true rfl) rfl (by decide) rfl
  rw [hH, hlo] at hgo
  exact hgo
abbrev rm_c_M_letterTable_0_2 : Room := { frames := 1, cells := 0, slots := 0, locals := 22 }
set_option maxHeartbeats 4000000 in
set_option maxRecDepth 100000 in
theorem c_M_letterTable_0_2 (l : Launch) (g : va_G) (cT : Nat → ClassId) (sz : Nat) (y : Nat) (qq : Nat → Nat) (z6 : Int32) (z12 : Int32) (z14 : Int32) (z15 : Int32) (z16 : Int32) (z17 : Int32) (z19 : Int32) (z21 : Int32) (z22 : Int32) (z23 : Int32) (z24 : Int32) (z26 : Int32) (z30 : Int32)  : Ctr l g cT sz yX12_letterTable wsX12_letterTable rm_c_M_letterTable_0_2 [.ref y, .int 0, .int 2] [(y, .inr (12, [.ref (qq 0), .ref (qq 1), .ref (qq 2), .ref (qq 3), .ref (qq 4), .ref (qq 5), .int z6, .ref (qq 7), .ref (qq 8), .ref (qq 9), .ref (qq 10), .ref (qq 11), .int z12, .ref (qq 13), .int z14, .int z15, .int z16, .int z17, .ref (qq 18), .int z19, .ref (qq 20), .int z21, .int z22, .int z23, .int z24, .ref (qq 25), .int z26, .ref (qq 27), .ref (qq 28), .ref (qq 29), .int z30, .ref (qq 31), .ref (qq 32), .ref (qq 33), .ref (qq 34), .ref (qq 35), .ref (qq 36), .ref (qq 37), .ref (qq 38), .ref (qq 39), .ref (qq 40), .ref (qq 41), .ref (qq 42)])), ((qq 0), .inl (cT 0, 2, .inl (fun _ => 1))), ((qq 2), .inl (cT 0, 50, .inl (fun _ => (-1))))] (QL g (fun (r : Int64) (u : Unit) => r = 10485770) (fun (u : Unit) => [(y, .inr (12, [.ref (qq 0), .ref (qq 1), .ref (qq 2), .ref (qq 3), .ref (qq 4), .ref (qq 5), .int z6, .ref (qq 7), .ref (qq 8), .ref (qq 9), .ref (qq 10), .ref (qq 11), .int z12, .ref (qq 13), .int z14, .int z15, .int z16, .int z17, .ref (qq 18), .int z19, .ref (qq 20), .int z21, .int z22, .int z23, .int z24, .ref (qq 25), .int z26, .ref (qq 27), .ref (qq 28), .ref (qq 29), .int z30, .ref (qq 31), .ref (qq 32), .ref (qq 33), .ref (qq 34), .ref (qq 35), .ref (qq 36), .ref (qq 37), .ref (qq 38), .ref (qq 39), .ref (qq 40), .ref (qq 41), .ref (qq 42)])), ((qq 0), .inl (cT 0, 2, .inl (fun _ => 1))), ((qq 2), .inl (cT 0, 50, .inl (fun _ => (-1))))])) 0 0 := by
  refine mk_ctr (cc := cX12_letterTable) (maxL := 10) (ret := (some .long)) (by decide) rfl (Nat.le_of_ble_eq_true rfl) ?_
  intro p e s m args below meth c A Q hx hb hr hts hown hlocks hin hml hP hK hD hN hZ hA hS hQ ls hl
  have hl : lv_has ls 10 [(0, .ref y), (1, .int 0), (2, .int 2)] := hl
  obtain ⟨H, hH⟩ : ∃ H : Heap, H = s.heap := ⟨_, rfl⟩
  obtain ⟨locs, hlo⟩ : ∃ x : List Loc, x = [] := ⟨_, rfl⟩
  rw [← hH] at hP
  have hS : va_S A s.heap H locs := by rw [hH, hlo]; exact hS
  have hgo : W p l e rm_c_M_letterTable_0_2 s m args below meth c H locs 0 0 Q (F0 m 0 ls []) := by
    clear hH hlo
    refine lv_lconst (v := 0) hx hb dX12_letterTable_0 (by decide) ?_
    refine lv_lstore_n (lv' := [(3, .long 0), (0, .ref y), (1, .int 0), (2, .int 2)]) hx hb dX12_letterTable_1 rfl hl (by decide) rfl (fun ls hl => ?_)
    refine lv_iconst (v := 0) hx hb dX12_letterTable_2 (by decide) ?_
    refine lv_istore (lv' := [(5, .int 0), (3, .long 0), (0, .ref y), (1, .int 0), (2, .int 2)]) hx hb dX12_letterTable_3 hl (by decide) rfl (fun ls hl => ?_)
    refine lv_iload hx hb dX12_letterTable_5 (lv_at hl 0 rfl) ?_
    refine lv_iconst (v := 2) hx hb dX12_letterTable_7 (by decide) ?_
    refine icmp_ge_f hx hb dX12_letterTable_8 98 (by decide) (by decide) ?_
    refine lv_iconst (v := 0) hx hb dX12_letterTable_11 (by decide) ?_
    refine lv_istore (lv' := [(6, .int 0), (5, .int 0), (3, .long 0), (0, .ref y), (1, .int 0), (2, .int 2)]) hx hb dX12_letterTable_12 hl (by decide) rfl (fun ls hl => ?_)
    refine lv_iload hx hb dX12_letterTable_14 (lv_at hl 0 rfl) ?_
    refine lv_aload_n hx hb dX12_letterTable_16 rfl (lv_at hl 3 rfl) ?_
    refine va_get (C := RX12) (T := TX12) (N := 43) (v := .ref (qq 0)) hx hb hts hi_X12_letterTable_X12 hown hK hP 0 rfl rfl 0 (by decide) (hts (.fieldLink RX12 7 "BothWaysModel" "states" "[I") (by decide +kernel)) (fun _ h => h) rfl dX12_letterTable_17 ?_
    refine lv_iload_n hx hb dX12_letterTable_20 rfl (lv_at hl 4 rfl) ?_
    refine w_iald (v := 1) hx hb hK hP 1 rfl dX12_letterTable_21 (inC (by decide)) rfl ?_
    refine icmp_ge_f hx hb dX12_letterTable_22 92 (by decide) (by decide) ?_
    refine lv_iload_n hx hb dX12_letterTable_25 rfl (lv_at hl 4 rfl) ?_
    refine lv_iload hx hb dX12_letterTable_26 (lv_at hl 0 rfl) ?_
    refine lv_iload_n hx hb dX12_letterTable_28 rfl (lv_at hl 5 rfl) ?_
    refine cp_i (va_runS (As := [.int 0, .int 0, .int 2]) (rest := []) ⟨hx, hb, hml, hown, hts⟩ (c_M_at0 l g cT H.size 0 0 2) (va_cwS 3 hts gX12_letterTable_X12_at0 rfl rfl rfl yd_X12_at0.2 ⟨(Nat.le_of_ble_eq_true rfl), (Nat.le_of_ble_eq_true rfl)⟩) (preS (ws := []) (wc := []) rfl (fun _ _ h => by simp at h) (va_D_nil (A := A)) hK hN hZ hS hA [] rfl rfl) rfl rfl hl.1 rfl (lv_room (Nat.le_of_ble_eq_true rfl)) dX12_letterTable_29 ⟨(Nat.le_of_ble_eq_true rfl), (Nat.le_of_ble_eq_true rfl)⟩) hP hS hA (fun r_1 u H locs h_2 hP hS => ?_)
    subst h_2
    refine tI 2 (by decide) ?_
    refine lv_istore (lv' := [(7, .int 2), (6, .int 0), (5, .int 0), (3, .long 0), (0, .ref y), (1, .int 0), (2, .int 2)]) hx hb dX12_letterTable_32 hl (by decide) rfl (fun ls hl => ?_)
    refine lv_aload_n hx hb dX12_letterTable_34 rfl (lv_at hl 4 rfl) ?_
    refine va_get (C := RX12) (T := TX12) (N := 43) (v := .ref (qq 2)) hx hb hts hi_X12_letterTable_X12 hown hK hP 0 rfl rfl 2 (by decide) (hts (.fieldLink RX12 16 "BothWaysModel" "goTo" "[I") (by decide +kernel)) (fun _ h => h) rfl dX12_letterTable_35 ?_
    refine lv_iload hx hb dX12_letterTable_38 (lv_at hl 0 rfl) ?_
    refine w_iald (v := (-1)) hx hb hK hP 2 rfl dX12_letterTable_40 (inC (by decide)) rfl ?_
    refine lv_iconst (v := (-1)) hx hb dX12_letterTable_41 (by decide) ?_
    refine icmp_ne_f hx hb dX12_letterTable_42 51 (by decide) (by decide) ?_
    refine lv_ldc2 (v := 10) hx hb hown (hts (.constantLong RX12 212 (10)) (by decide +kernel)) dX12_letterTable_45 ?_
    refine lv_goto (tgt := 69) hx hb dX12_letterTable_48 (by decide) ?_
    refine lv_lstore (lv' := [(8, .long 10), (7, .int 2), (6, .int 0), (5, .int 0), (3, .long 0), (0, .ref y), (1, .int 0), (2, .int 2)]) hx hb dX12_letterTable_69 hl (by decide) rfl (fun ls hl => ?_)
    refine lv_lload_n hx hb dX12_letterTable_71 rfl (lv_at hl 4 rfl) ?_
    refine lv_lload hx hb dX12_letterTable_72 (lv_at hl 0 rfl) ?_
    refine lv_iconst (v := 4) hx hb dX12_letterTable_74 (by decide) ?_
    refine lv_iconst (v := 5) hx hb dX12_letterTable_75 (by decide) ?_
    refine lv_iload hx hb dX12_letterTable_76 (lv_at hl 3 rfl) ?_
    refine w_imul (v := 0) hx hb dX12_letterTable_78 (by decide) ?_
    refine lv_iload hx hb dX12_letterTable_79 (lv_at hl 2 rfl) ?_
    refine w_iadd (v := 0) hx hb dX12_letterTable_81 (by decide) ?_
    refine w_imul (v := 0) hx hb dX12_letterTable_82 (by decide) ?_
    refine lv_lshl (v := 10) hx hb dX12_letterTable_83 (by decide) ?_
    refine w_lor (v := 10) hx hb dX12_letterTable_84 (by decide) ?_
    refine lv_lstore_n (lv' := [(3, .long 10), (8, .long 10), (7, .int 2), (6, .int 0), (5, .int 0), (0, .ref y), (1, .int 0), (2, .int 2)]) hx hb dX12_letterTable_85 rfl hl (by decide) rfl (fun ls hl => ?_)
    refine lv_iinc (v := 1) (lv' := [(6, .int 1), (3, .long 10), (8, .long 10), (7, .int 2), (5, .int 0), (0, .ref y), (1, .int 0), (2, .int 2)]) hx hb dX12_letterTable_86 hl (k := 3) rfl (by decide) (by decide) rfl (fun ls hl => ?_)
    refine lv_goto (tgt := 14) hx hb dX12_letterTable_89 (by decide) ?_
    refine lv_iload hx hb dX12_letterTable_14 (lv_at hl 0 rfl) ?_
    refine lv_aload_n hx hb dX12_letterTable_16 rfl (lv_at hl 5 rfl) ?_
    refine va_get (C := RX12) (T := TX12) (N := 43) (v := .ref (qq 0)) hx hb hts hi_X12_letterTable_X12 hown hK hP 0 rfl rfl 0 (by decide) (hts (.fieldLink RX12 7 "BothWaysModel" "states" "[I") (by decide +kernel)) (fun _ h => h) rfl dX12_letterTable_17 ?_
    refine lv_iload_n hx hb dX12_letterTable_20 rfl (lv_at hl 6 rfl) ?_
    refine w_iald (v := 1) hx hb hK hP 1 rfl dX12_letterTable_21 (inC (by decide)) rfl ?_
    refine icmp_ge_t hx hb 92 dX12_letterTable_22 (by decide) (by decide) ?_
    refine lv_iinc (v := 1) (lv' := [(5, .int 1), (6, .int 1), (3, .long 10), (8, .long 10), (7, .int 2), (0, .ref y), (1, .int 0), (2, .int 2)]) hx hb dX12_letterTable_92 hl (k := 4) rfl (by decide) (by decide) rfl (fun ls hl => ?_)
    refine lv_goto (tgt := 5) hx hb dX12_letterTable_95 (by decide) ?_
    refine lv_iload hx hb dX12_letterTable_5 (lv_at hl 0 rfl) ?_
    refine lv_iconst (v := 2) hx hb dX12_letterTable_7 (by decide) ?_
    refine icmp_ge_f hx hb dX12_letterTable_8 98 (by decide) (by decide) ?_
    refine lv_iconst (v := 0) hx hb dX12_letterTable_11 (by decide) ?_
    refine lv_istore (lv' := [(6, .int 0), (5, .int 1), (3, .long 10), (8, .long 10), (7, .int 2), (0, .ref y), (1, .int 0), (2, .int 2)]) hx hb dX12_letterTable_12 hl (by decide) rfl (fun ls hl => ?_)
    refine lv_iload hx hb dX12_letterTable_14 (lv_at hl 0 rfl) ?_
    refine lv_aload_n hx hb dX12_letterTable_16 rfl (lv_at hl 5 rfl) ?_
    refine va_get (C := RX12) (T := TX12) (N := 43) (v := .ref (qq 0)) hx hb hts hi_X12_letterTable_X12 hown hK hP 0 rfl rfl 0 (by decide) (hts (.fieldLink RX12 7 "BothWaysModel" "states" "[I") (by decide +kernel)) (fun _ h => h) rfl dX12_letterTable_17 ?_
    refine lv_iload_n hx hb dX12_letterTable_20 rfl (lv_at hl 6 rfl) ?_
    refine w_iald (v := 1) hx hb hK hP 1 rfl dX12_letterTable_21 (inC (by decide)) rfl ?_
    refine icmp_ge_f hx hb dX12_letterTable_22 92 (by decide) (by decide) ?_
    refine lv_iload_n hx hb dX12_letterTable_25 rfl (lv_at hl 6 rfl) ?_
    refine lv_iload hx hb dX12_letterTable_26 (lv_at hl 0 rfl) ?_
    refine lv_iload_n hx hb dX12_letterTable_28 rfl (lv_at hl 7 rfl) ?_
    refine cp_i (va_runS (As := [.int 0, .int 0, .int 2]) (rest := []) ⟨hx, hb, hml, hown, hts⟩ (c_M_at0 l g cT H.size 0 0 2) (va_cwS 3 hts gX12_letterTable_X12_at0 rfl rfl rfl yd_X12_at0.2 ⟨(Nat.le_of_ble_eq_true rfl), (Nat.le_of_ble_eq_true rfl)⟩) (preS (ws := []) (wc := []) rfl (fun _ _ h => by simp at h) (va_D_nil (A := A)) hK hN hZ hS hA [] rfl rfl) rfl rfl hl.1 rfl (lv_room (Nat.le_of_ble_eq_true rfl)) dX12_letterTable_29 ⟨(Nat.le_of_ble_eq_true rfl), (Nat.le_of_ble_eq_true rfl)⟩) hP hS hA (fun r_3 u H locs h_4 hP hS => ?_)
    subst h_4
    refine tI 2 (by decide) ?_
    refine lv_istore (lv' := [(7, .int 2), (6, .int 0), (5, .int 1), (3, .long 10), (8, .long 10), (0, .ref y), (1, .int 0), (2, .int 2)]) hx hb dX12_letterTable_32 hl (by decide) rfl (fun ls hl => ?_)
    refine lv_aload_n hx hb dX12_letterTable_34 rfl (lv_at hl 5 rfl) ?_
    refine va_get (C := RX12) (T := TX12) (N := 43) (v := .ref (qq 2)) hx hb hts hi_X12_letterTable_X12 hown hK hP 0 rfl rfl 2 (by decide) (hts (.fieldLink RX12 16 "BothWaysModel" "goTo" "[I") (by decide +kernel)) (fun _ h => h) rfl dX12_letterTable_35 ?_
    refine lv_iload hx hb dX12_letterTable_38 (lv_at hl 0 rfl) ?_
    refine w_iald (v := (-1)) hx hb hK hP 2 rfl dX12_letterTable_40 (inC (by decide)) rfl ?_
    refine lv_iconst (v := (-1)) hx hb dX12_letterTable_41 (by decide) ?_
    refine icmp_ne_f hx hb dX12_letterTable_42 51 (by decide) (by decide) ?_
    refine lv_ldc2 (v := 10) hx hb hown (hts (.constantLong RX12 212 (10)) (by decide +kernel)) dX12_letterTable_45 ?_
    refine lv_goto (tgt := 69) hx hb dX12_letterTable_48 (by decide) ?_
    refine lv_lstore (lv' := [(8, .long 10), (7, .int 2), (6, .int 0), (5, .int 1), (3, .long 10), (0, .ref y), (1, .int 0), (2, .int 2)]) hx hb dX12_letterTable_69 hl (by decide) rfl (fun ls hl => ?_)
    refine lv_lload_n hx hb dX12_letterTable_71 rfl (lv_at hl 4 rfl) ?_
    refine lv_lload hx hb dX12_letterTable_72 (lv_at hl 0 rfl) ?_
    refine lv_iconst (v := 4) hx hb dX12_letterTable_74 (by decide) ?_
    refine lv_iconst (v := 5) hx hb dX12_letterTable_75 (by decide) ?_
    refine lv_iload hx hb dX12_letterTable_76 (lv_at hl 3 rfl) ?_
    refine w_imul (v := 5) hx hb dX12_letterTable_78 (by decide) ?_
    refine lv_iload hx hb dX12_letterTable_79 (lv_at hl 2 rfl) ?_
    refine w_iadd (v := 5) hx hb dX12_letterTable_81 (by decide) ?_
    refine w_imul (v := 20) hx hb dX12_letterTable_82 (by decide) ?_
    refine lv_lshl (v := 10485760) hx hb dX12_letterTable_83 (by decide) ?_
    refine w_lor (v := 10485770) hx hb dX12_letterTable_84 (by decide) ?_
    refine lv_lstore_n (lv' := [(3, .long 10485770), (8, .long 10), (7, .int 2), (6, .int 0), (5, .int 1), (0, .ref y), (1, .int 0), (2, .int 2)]) hx hb dX12_letterTable_85 rfl hl (by decide) rfl (fun ls hl => ?_)
    refine lv_iinc (v := 1) (lv' := [(6, .int 1), (3, .long 10485770), (8, .long 10), (7, .int 2), (5, .int 1), (0, .ref y), (1, .int 0), (2, .int 2)]) hx hb dX12_letterTable_86 hl (k := 3) rfl (by decide) (by decide) rfl (fun ls hl => ?_)
    refine lv_goto (tgt := 14) hx hb dX12_letterTable_89 (by decide) ?_
    refine lv_iload hx hb dX12_letterTable_14 (lv_at hl 0 rfl) ?_
    refine lv_aload_n hx hb dX12_letterTable_16 rfl (lv_at hl 5 rfl) ?_
    refine va_get (C := RX12) (T := TX12) (N := 43) (v := .ref (qq 0)) hx hb hts hi_X12_letterTable_X12 hown hK hP 0 rfl rfl 0 (by decide) (hts (.fieldLink RX12 7 "BothWaysModel" "states" "[I") (by decide +kernel)) (fun _ h => h) rfl dX12_letterTable_17 ?_
    refine lv_iload_n hx hb dX12_letterTable_20 rfl (lv_at hl 6 rfl) ?_
    refine w_iald (v := 1) hx hb hK hP 1 rfl dX12_letterTable_21 (inC (by decide)) rfl ?_
    refine icmp_ge_t hx hb 92 dX12_letterTable_22 (by decide) (by decide) ?_
    refine lv_iinc (v := 2) (lv' := [(5, .int 2), (6, .int 1), (3, .long 10485770), (8, .long 10), (7, .int 2), (0, .ref y), (1, .int 0), (2, .int 2)]) hx hb dX12_letterTable_92 hl (k := 4) rfl (by decide) (by decide) rfl (fun ls hl => ?_)
    refine lv_goto (tgt := 5) hx hb dX12_letterTable_95 (by decide) ?_
    refine lv_iload hx hb dX12_letterTable_5 (lv_at hl 0 rfl) ?_
    refine lv_iconst (v := 2) hx hb dX12_letterTable_7 (by decide) ?_
    refine icmp_ge_t hx hb 98 dX12_letterTable_8 (by decide) (by decide) ?_
    refine lv_lload_n hx hb dX12_letterTable_98 rfl (lv_at hl 2 rfl) ?_
    exact rt_l hx hb hr hlocks hQ hP hD hS () [0, 1, 2] dX12_letterTable_99 (Nat.le_of_ble_eq_true rfl) (Nat.le_of_ble_eq_true rfl) rfl (by decide) rfl
  rw [hH, hlo] at hgo
  exact hgo
abbrev rm_c_M_letterTable_1_0 : Room := { frames := 1, cells := 0, slots := 0, locals := 22 }
set_option maxHeartbeats 4000000 in
set_option maxRecDepth 100000 in
theorem c_M_letterTable_1_0 (l : Launch) (g : va_G) (cT : Nat → ClassId) (sz : Nat) (y : Nat) (qq : Nat → Nat) (z6 : Int32) (z12 : Int32) (z14 : Int32) (z15 : Int32) (z16 : Int32) (z17 : Int32) (z19 : Int32) (z21 : Int32) (z22 : Int32) (z23 : Int32) (z24 : Int32) (z26 : Int32) (z30 : Int32)  : Ctr l g cT sz yX12_letterTable wsX12_letterTable rm_c_M_letterTable_1_0 [.ref y, .int 1, .int 0] [(y, .inr (12, [.ref (qq 0), .ref (qq 1), .ref (qq 2), .ref (qq 3), .ref (qq 4), .ref (qq 5), .int z6, .ref (qq 7), .ref (qq 8), .ref (qq 9), .ref (qq 10), .ref (qq 11), .int z12, .ref (qq 13), .int z14, .int z15, .int z16, .int z17, .ref (qq 18), .int z19, .ref (qq 20), .int z21, .int z22, .int z23, .int z24, .ref (qq 25), .int z26, .ref (qq 27), .ref (qq 28), .ref (qq 29), .int z30, .ref (qq 31), .ref (qq 32), .ref (qq 33), .ref (qq 34), .ref (qq 35), .ref (qq 36), .ref (qq 37), .ref (qq 38), .ref (qq 39), .ref (qq 40), .ref (qq 41), .ref (qq 42)])), ((qq 0), .inl (cT 0, 2, .inl (fun _ => 1))), ((qq 2), .inl (cT 0, 50, .inl (fun _ => (-1))))] (QL g (fun (r : Int64) (u : Unit) => r = 10485770) (fun (u : Unit) => [(y, .inr (12, [.ref (qq 0), .ref (qq 1), .ref (qq 2), .ref (qq 3), .ref (qq 4), .ref (qq 5), .int z6, .ref (qq 7), .ref (qq 8), .ref (qq 9), .ref (qq 10), .ref (qq 11), .int z12, .ref (qq 13), .int z14, .int z15, .int z16, .int z17, .ref (qq 18), .int z19, .ref (qq 20), .int z21, .int z22, .int z23, .int z24, .ref (qq 25), .int z26, .ref (qq 27), .ref (qq 28), .ref (qq 29), .int z30, .ref (qq 31), .ref (qq 32), .ref (qq 33), .ref (qq 34), .ref (qq 35), .ref (qq 36), .ref (qq 37), .ref (qq 38), .ref (qq 39), .ref (qq 40), .ref (qq 41), .ref (qq 42)])), ((qq 0), .inl (cT 0, 2, .inl (fun _ => 1))), ((qq 2), .inl (cT 0, 50, .inl (fun _ => (-1))))])) 0 0 := by
  refine mk_ctr (cc := cX12_letterTable) (maxL := 10) (ret := (some .long)) (by decide) rfl (Nat.le_of_ble_eq_true rfl) ?_
  intro p e s m args below meth c A Q hx hb hr hts hown hlocks hin hml hP hK hD hN hZ hA hS hQ ls hl
  have hl : lv_has ls 10 [(0, .ref y), (1, .int 1), (2, .int 0)] := hl
  obtain ⟨H, hH⟩ : ∃ H : Heap, H = s.heap := ⟨_, rfl⟩
  obtain ⟨locs, hlo⟩ : ∃ x : List Loc, x = [] := ⟨_, rfl⟩
  rw [← hH] at hP
  have hS : va_S A s.heap H locs := by rw [hH, hlo]; exact hS
  have hgo : W p l e rm_c_M_letterTable_1_0 s m args below meth c H locs 0 0 Q (F0 m 0 ls []) := by
    clear hH hlo
    refine lv_lconst (v := 0) hx hb dX12_letterTable_0 (by decide) ?_
    refine lv_lstore_n (lv' := [(3, .long 0), (0, .ref y), (1, .int 1), (2, .int 0)]) hx hb dX12_letterTable_1 rfl hl (by decide) rfl (fun ls hl => ?_)
    refine lv_iconst (v := 0) hx hb dX12_letterTable_2 (by decide) ?_
    refine lv_istore (lv' := [(5, .int 0), (3, .long 0), (0, .ref y), (1, .int 1), (2, .int 0)]) hx hb dX12_letterTable_3 hl (by decide) rfl (fun ls hl => ?_)
    refine lv_iload hx hb dX12_letterTable_5 (lv_at hl 0 rfl) ?_
    refine lv_iconst (v := 2) hx hb dX12_letterTable_7 (by decide) ?_
    refine icmp_ge_f hx hb dX12_letterTable_8 98 (by decide) (by decide) ?_
    refine lv_iconst (v := 0) hx hb dX12_letterTable_11 (by decide) ?_
    refine lv_istore (lv' := [(6, .int 0), (5, .int 0), (3, .long 0), (0, .ref y), (1, .int 1), (2, .int 0)]) hx hb dX12_letterTable_12 hl (by decide) rfl (fun ls hl => ?_)
    refine lv_iload hx hb dX12_letterTable_14 (lv_at hl 0 rfl) ?_
    refine lv_aload_n hx hb dX12_letterTable_16 rfl (lv_at hl 3 rfl) ?_
    refine va_get (C := RX12) (T := TX12) (N := 43) (v := .ref (qq 0)) hx hb hts hi_X12_letterTable_X12 hown hK hP 0 rfl rfl 0 (by decide) (hts (.fieldLink RX12 7 "BothWaysModel" "states" "[I") (by decide +kernel)) (fun _ h => h) rfl dX12_letterTable_17 ?_
    refine lv_iload_n hx hb dX12_letterTable_20 rfl (lv_at hl 4 rfl) ?_
    refine w_iald (v := 1) hx hb hK hP 1 rfl dX12_letterTable_21 (inC (by decide)) rfl ?_
    refine icmp_ge_f hx hb dX12_letterTable_22 92 (by decide) (by decide) ?_
    refine lv_iload_n hx hb dX12_letterTable_25 rfl (lv_at hl 4 rfl) ?_
    refine lv_iload hx hb dX12_letterTable_26 (lv_at hl 0 rfl) ?_
    refine lv_iload_n hx hb dX12_letterTable_28 rfl (lv_at hl 5 rfl) ?_
    refine cp_i (va_runS (As := [.int 1, .int 0, .int 0]) (rest := []) ⟨hx, hb, hml, hown, hts⟩ (c_M_at0 l g cT H.size 1 0 0) (va_cwS 3 hts gX12_letterTable_X12_at0 rfl rfl rfl yd_X12_at0.2 ⟨(Nat.le_of_ble_eq_true rfl), (Nat.le_of_ble_eq_true rfl)⟩) (preS (ws := []) (wc := []) rfl (fun _ _ h => by simp at h) (va_D_nil (A := A)) hK hN hZ hS hA [] rfl rfl) rfl rfl hl.1 rfl (lv_room (Nat.le_of_ble_eq_true rfl)) dX12_letterTable_29 ⟨(Nat.le_of_ble_eq_true rfl), (Nat.le_of_ble_eq_true rfl)⟩) hP hS hA (fun r_1 u H locs h_2 hP hS => ?_)
    subst h_2
    refine tI 25 (by decide) ?_
    refine lv_istore (lv' := [(7, .int 25), (6, .int 0), (5, .int 0), (3, .long 0), (0, .ref y), (1, .int 1), (2, .int 0)]) hx hb dX12_letterTable_32 hl (by decide) rfl (fun ls hl => ?_)
    refine lv_aload_n hx hb dX12_letterTable_34 rfl (lv_at hl 4 rfl) ?_
    refine va_get (C := RX12) (T := TX12) (N := 43) (v := .ref (qq 2)) hx hb hts hi_X12_letterTable_X12 hown hK hP 0 rfl rfl 2 (by decide) (hts (.fieldLink RX12 16 "BothWaysModel" "goTo" "[I") (by decide +kernel)) (fun _ h => h) rfl dX12_letterTable_35 ?_
    refine lv_iload hx hb dX12_letterTable_38 (lv_at hl 0 rfl) ?_
    refine w_iald (v := (-1)) hx hb hK hP 2 rfl dX12_letterTable_40 (inC (by decide)) rfl ?_
    refine lv_iconst (v := (-1)) hx hb dX12_letterTable_41 (by decide) ?_
    refine icmp_ne_f hx hb dX12_letterTable_42 51 (by decide) (by decide) ?_
    refine lv_ldc2 (v := 10) hx hb hown (hts (.constantLong RX12 212 (10)) (by decide +kernel)) dX12_letterTable_45 ?_
    refine lv_goto (tgt := 69) hx hb dX12_letterTable_48 (by decide) ?_
    refine lv_lstore (lv' := [(8, .long 10), (7, .int 25), (6, .int 0), (5, .int 0), (3, .long 0), (0, .ref y), (1, .int 1), (2, .int 0)]) hx hb dX12_letterTable_69 hl (by decide) rfl (fun ls hl => ?_)
    refine lv_lload_n hx hb dX12_letterTable_71 rfl (lv_at hl 4 rfl) ?_
    refine lv_lload hx hb dX12_letterTable_72 (lv_at hl 0 rfl) ?_
    refine lv_iconst (v := 4) hx hb dX12_letterTable_74 (by decide) ?_
    refine lv_iconst (v := 5) hx hb dX12_letterTable_75 (by decide) ?_
    refine lv_iload hx hb dX12_letterTable_76 (lv_at hl 3 rfl) ?_
    refine w_imul (v := 0) hx hb dX12_letterTable_78 (by decide) ?_
    refine lv_iload hx hb dX12_letterTable_79 (lv_at hl 2 rfl) ?_
    refine w_iadd (v := 0) hx hb dX12_letterTable_81 (by decide) ?_
    refine w_imul (v := 0) hx hb dX12_letterTable_82 (by decide) ?_
    refine lv_lshl (v := 10) hx hb dX12_letterTable_83 (by decide) ?_
    refine w_lor (v := 10) hx hb dX12_letterTable_84 (by decide) ?_
    refine lv_lstore_n (lv' := [(3, .long 10), (8, .long 10), (7, .int 25), (6, .int 0), (5, .int 0), (0, .ref y), (1, .int 1), (2, .int 0)]) hx hb dX12_letterTable_85 rfl hl (by decide) rfl (fun ls hl => ?_)
    refine lv_iinc (v := 1) (lv' := [(6, .int 1), (3, .long 10), (8, .long 10), (7, .int 25), (5, .int 0), (0, .ref y), (1, .int 1), (2, .int 0)]) hx hb dX12_letterTable_86 hl (k := 3) rfl (by decide) (by decide) rfl (fun ls hl => ?_)
    refine lv_goto (tgt := 14) hx hb dX12_letterTable_89 (by decide) ?_
    refine lv_iload hx hb dX12_letterTable_14 (lv_at hl 0 rfl) ?_
    refine lv_aload_n hx hb dX12_letterTable_16 rfl (lv_at hl 5 rfl) ?_
    refine va_get (C := RX12) (T := TX12) (N := 43) (v := .ref (qq 0)) hx hb hts hi_X12_letterTable_X12 hown hK hP 0 rfl rfl 0 (by decide) (hts (.fieldLink RX12 7 "BothWaysModel" "states" "[I") (by decide +kernel)) (fun _ h => h) rfl dX12_letterTable_17 ?_
    refine lv_iload_n hx hb dX12_letterTable_20 rfl (lv_at hl 6 rfl) ?_
    refine w_iald (v := 1) hx hb hK hP 1 rfl dX12_letterTable_21 (inC (by decide)) rfl ?_
    refine icmp_ge_t hx hb 92 dX12_letterTable_22 (by decide) (by decide) ?_
    refine lv_iinc (v := 1) (lv' := [(5, .int 1), (6, .int 1), (3, .long 10), (8, .long 10), (7, .int 25), (0, .ref y), (1, .int 1), (2, .int 0)]) hx hb dX12_letterTable_92 hl (k := 4) rfl (by decide) (by decide) rfl (fun ls hl => ?_)
    refine lv_goto (tgt := 5) hx hb dX12_letterTable_95 (by decide) ?_
    refine lv_iload hx hb dX12_letterTable_5 (lv_at hl 0 rfl) ?_
    refine lv_iconst (v := 2) hx hb dX12_letterTable_7 (by decide) ?_
    refine icmp_ge_f hx hb dX12_letterTable_8 98 (by decide) (by decide) ?_
    refine lv_iconst (v := 0) hx hb dX12_letterTable_11 (by decide) ?_
    refine lv_istore (lv' := [(6, .int 0), (5, .int 1), (3, .long 10), (8, .long 10), (7, .int 25), (0, .ref y), (1, .int 1), (2, .int 0)]) hx hb dX12_letterTable_12 hl (by decide) rfl (fun ls hl => ?_)
    refine lv_iload hx hb dX12_letterTable_14 (lv_at hl 0 rfl) ?_
    refine lv_aload_n hx hb dX12_letterTable_16 rfl (lv_at hl 5 rfl) ?_
    refine va_get (C := RX12) (T := TX12) (N := 43) (v := .ref (qq 0)) hx hb hts hi_X12_letterTable_X12 hown hK hP 0 rfl rfl 0 (by decide) (hts (.fieldLink RX12 7 "BothWaysModel" "states" "[I") (by decide +kernel)) (fun _ h => h) rfl dX12_letterTable_17 ?_
    refine lv_iload_n hx hb dX12_letterTable_20 rfl (lv_at hl 6 rfl) ?_
    refine w_iald (v := 1) hx hb hK hP 1 rfl dX12_letterTable_21 (inC (by decide)) rfl ?_
    refine icmp_ge_f hx hb dX12_letterTable_22 92 (by decide) (by decide) ?_
    refine lv_iload_n hx hb dX12_letterTable_25 rfl (lv_at hl 6 rfl) ?_
    refine lv_iload hx hb dX12_letterTable_26 (lv_at hl 0 rfl) ?_
    refine lv_iload_n hx hb dX12_letterTable_28 rfl (lv_at hl 7 rfl) ?_
    refine cp_i (va_runS (As := [.int 1, .int 0, .int 0]) (rest := []) ⟨hx, hb, hml, hown, hts⟩ (c_M_at0 l g cT H.size 1 0 0) (va_cwS 3 hts gX12_letterTable_X12_at0 rfl rfl rfl yd_X12_at0.2 ⟨(Nat.le_of_ble_eq_true rfl), (Nat.le_of_ble_eq_true rfl)⟩) (preS (ws := []) (wc := []) rfl (fun _ _ h => by simp at h) (va_D_nil (A := A)) hK hN hZ hS hA [] rfl rfl) rfl rfl hl.1 rfl (lv_room (Nat.le_of_ble_eq_true rfl)) dX12_letterTable_29 ⟨(Nat.le_of_ble_eq_true rfl), (Nat.le_of_ble_eq_true rfl)⟩) hP hS hA (fun r_3 u H locs h_4 hP hS => ?_)
    subst h_4
    refine tI 25 (by decide) ?_
    refine lv_istore (lv' := [(7, .int 25), (6, .int 0), (5, .int 1), (3, .long 10), (8, .long 10), (0, .ref y), (1, .int 1), (2, .int 0)]) hx hb dX12_letterTable_32 hl (by decide) rfl (fun ls hl => ?_)
    refine lv_aload_n hx hb dX12_letterTable_34 rfl (lv_at hl 5 rfl) ?_
    refine va_get (C := RX12) (T := TX12) (N := 43) (v := .ref (qq 2)) hx hb hts hi_X12_letterTable_X12 hown hK hP 0 rfl rfl 2 (by decide) (hts (.fieldLink RX12 16 "BothWaysModel" "goTo" "[I") (by decide +kernel)) (fun _ h => h) rfl dX12_letterTable_35 ?_
    refine lv_iload hx hb dX12_letterTable_38 (lv_at hl 0 rfl) ?_
    refine w_iald (v := (-1)) hx hb hK hP 2 rfl dX12_letterTable_40 (inC (by decide)) rfl ?_
    refine lv_iconst (v := (-1)) hx hb dX12_letterTable_41 (by decide) ?_
    refine icmp_ne_f hx hb dX12_letterTable_42 51 (by decide) (by decide) ?_
    refine lv_ldc2 (v := 10) hx hb hown (hts (.constantLong RX12 212 (10)) (by decide +kernel)) dX12_letterTable_45 ?_
    refine lv_goto (tgt := 69) hx hb dX12_letterTable_48 (by decide) ?_
    refine lv_lstore (lv' := [(8, .long 10), (7, .int 25), (6, .int 0), (5, .int 1), (3, .long 10), (0, .ref y), (1, .int 1), (2, .int 0)]) hx hb dX12_letterTable_69 hl (by decide) rfl (fun ls hl => ?_)
    refine lv_lload_n hx hb dX12_letterTable_71 rfl (lv_at hl 4 rfl) ?_
    refine lv_lload hx hb dX12_letterTable_72 (lv_at hl 0 rfl) ?_
    refine lv_iconst (v := 4) hx hb dX12_letterTable_74 (by decide) ?_
    refine lv_iconst (v := 5) hx hb dX12_letterTable_75 (by decide) ?_
    refine lv_iload hx hb dX12_letterTable_76 (lv_at hl 3 rfl) ?_
    refine w_imul (v := 5) hx hb dX12_letterTable_78 (by decide) ?_
    refine lv_iload hx hb dX12_letterTable_79 (lv_at hl 2 rfl) ?_
    refine w_iadd (v := 5) hx hb dX12_letterTable_81 (by decide) ?_
    refine w_imul (v := 20) hx hb dX12_letterTable_82 (by decide) ?_
    refine lv_lshl (v := 10485760) hx hb dX12_letterTable_83 (by decide) ?_
    refine w_lor (v := 10485770) hx hb dX12_letterTable_84 (by decide) ?_
    refine lv_lstore_n (lv' := [(3, .long 10485770), (8, .long 10), (7, .int 25), (6, .int 0), (5, .int 1), (0, .ref y), (1, .int 1), (2, .int 0)]) hx hb dX12_letterTable_85 rfl hl (by decide) rfl (fun ls hl => ?_)
    refine lv_iinc (v := 1) (lv' := [(6, .int 1), (3, .long 10485770), (8, .long 10), (7, .int 25), (5, .int 1), (0, .ref y), (1, .int 1), (2, .int 0)]) hx hb dX12_letterTable_86 hl (k := 3) rfl (by decide) (by decide) rfl (fun ls hl => ?_)
    refine lv_goto (tgt := 14) hx hb dX12_letterTable_89 (by decide) ?_
    refine lv_iload hx hb dX12_letterTable_14 (lv_at hl 0 rfl) ?_
    refine lv_aload_n hx hb dX12_letterTable_16 rfl (lv_at hl 5 rfl) ?_
    refine va_get (C := RX12) (T := TX12) (N := 43) (v := .ref (qq 0)) hx hb hts hi_X12_letterTable_X12 hown hK hP 0 rfl rfl 0 (by decide) (hts (.fieldLink RX12 7 "BothWaysModel" "states" "[I") (by decide +kernel)) (fun _ h => h) rfl dX12_letterTable_17 ?_
    refine lv_iload_n hx hb dX12_letterTable_20 rfl (lv_at hl 6 rfl) ?_
    refine w_iald (v := 1) hx hb hK hP 1 rfl dX12_letterTable_21 (inC (by decide)) rfl ?_
    refine icmp_ge_t hx hb 92 dX12_letterTable_22 (by decide) (by decide) ?_
    refine lv_iinc (v := 2) (lv' := [(5, .int 2), (6, .int 1), (3, .long 10485770), (8, .long 10), (7, .int 25), (0, .ref y), (1, .int 1), (2, .int 0)]) hx hb dX12_letterTable_92 hl (k := 4) rfl (by decide) (by decide) rfl (fun ls hl => ?_)
    refine lv_goto (tgt := 5) hx hb dX12_letterTable_95 (by decide) ?_
    refine lv_iload hx hb dX12_letterTable_5 (lv_at hl 0 rfl) ?_
    refine lv_iconst (v := 2) hx hb dX12_letterTable_7 (by decide) ?_
    refine icmp_ge_t hx hb 98 dX12_letterTable_8 (by decide) (by decide) ?_
    refine lv_lload_n hx hb dX12_letterTable_98 rfl (lv_at hl 2 rfl) ?_
    exact rt_l hx hb hr hlocks hQ hP hD hS () [0, 1, 2] dX12_letterTable_99 (Nat.le_of_ble_eq_true rfl) (Nat.le_of_ble_eq_true rfl) rfl (by decide) rfl
  rw [hH, hlo] at hgo
  exact hgo
abbrev rm_c_M_letterTable_1_1 : Room := { frames := 1, cells := 0, slots := 0, locals := 22 }
set_option maxHeartbeats 4000000 in
set_option maxRecDepth 100000 in
theorem c_M_letterTable_1_1 (l : Launch) (g : va_G) (cT : Nat → ClassId) (sz : Nat) (y : Nat) (qq : Nat → Nat) (z6 : Int32) (z12 : Int32) (z14 : Int32) (z15 : Int32) (z16 : Int32) (z17 : Int32) (z19 : Int32) (z21 : Int32) (z22 : Int32) (z23 : Int32) (z24 : Int32) (z26 : Int32) (z30 : Int32)  : Ctr l g cT sz yX12_letterTable wsX12_letterTable rm_c_M_letterTable_1_1 [.ref y, .int 1, .int 1] [(y, .inr (12, [.ref (qq 0), .ref (qq 1), .ref (qq 2), .ref (qq 3), .ref (qq 4), .ref (qq 5), .int z6, .ref (qq 7), .ref (qq 8), .ref (qq 9), .ref (qq 10), .ref (qq 11), .int z12, .ref (qq 13), .int z14, .int z15, .int z16, .int z17, .ref (qq 18), .int z19, .ref (qq 20), .int z21, .int z22, .int z23, .int z24, .ref (qq 25), .int z26, .ref (qq 27), .ref (qq 28), .ref (qq 29), .int z30, .ref (qq 31), .ref (qq 32), .ref (qq 33), .ref (qq 34), .ref (qq 35), .ref (qq 36), .ref (qq 37), .ref (qq 38), .ref (qq 39), .ref (qq 40), .ref (qq 41), .ref (qq 42)])), ((qq 0), .inl (cT 0, 2, .inl (fun _ => 1))), ((qq 2), .inl (cT 0, 50, .inl (fun _ => (-1))))] (QL g (fun (r : Int64) (u : Unit) => r = 10485770) (fun (u : Unit) => [(y, .inr (12, [.ref (qq 0), .ref (qq 1), .ref (qq 2), .ref (qq 3), .ref (qq 4), .ref (qq 5), .int z6, .ref (qq 7), .ref (qq 8), .ref (qq 9), .ref (qq 10), .ref (qq 11), .int z12, .ref (qq 13), .int z14, .int z15, .int z16, .int z17, .ref (qq 18), .int z19, .ref (qq 20), .int z21, .int z22, .int z23, .int z24, .ref (qq 25), .int z26, .ref (qq 27), .ref (qq 28), .ref (qq 29), .int z30, .ref (qq 31), .ref (qq 32), .ref (qq 33), .ref (qq 34), .ref (qq 35), .ref (qq 36), .ref (qq 37), .ref (qq 38), .ref (qq 39), .ref (qq 40), .ref (qq 41), .ref (qq 42)])), ((qq 0), .inl (cT 0, 2, .inl (fun _ => 1))), ((qq 2), .inl (cT 0, 50, .inl (fun _ => (-1))))])) 0 0 := by
  refine mk_ctr (cc := cX12_letterTable) (maxL := 10) (ret := (some .long)) (by decide) rfl (Nat.le_of_ble_eq_true rfl) ?_
  intro p e s m args below meth c A Q hx hb hr hts hown hlocks hin hml hP hK hD hN hZ hA hS hQ ls hl
  have hl : lv_has ls 10 [(0, .ref y), (1, .int 1), (2, .int 1)] := hl
  obtain ⟨H, hH⟩ : ∃ H : Heap, H = s.heap := ⟨_, rfl⟩
  obtain ⟨locs, hlo⟩ : ∃ x : List Loc, x = [] := ⟨_, rfl⟩
  rw [← hH] at hP
  have hS : va_S A s.heap H locs := by rw [hH, hlo]; exact hS
  have hgo : W p l e rm_c_M_letterTable_1_1 s m args below meth c H locs 0 0 Q (F0 m 0 ls []) := by
    clear hH hlo
    refine lv_lconst (v := 0) hx hb dX12_letterTable_0 (by decide) ?_
    refine lv_lstore_n (lv' := [(3, .long 0), (0, .ref y), (1, .int 1), (2, .int 1)]) hx hb dX12_letterTable_1 rfl hl (by decide) rfl (fun ls hl => ?_)
    refine lv_iconst (v := 0) hx hb dX12_letterTable_2 (by decide) ?_
    refine lv_istore (lv' := [(5, .int 0), (3, .long 0), (0, .ref y), (1, .int 1), (2, .int 1)]) hx hb dX12_letterTable_3 hl (by decide) rfl (fun ls hl => ?_)
    refine lv_iload hx hb dX12_letterTable_5 (lv_at hl 0 rfl) ?_
    refine lv_iconst (v := 2) hx hb dX12_letterTable_7 (by decide) ?_
    refine icmp_ge_f hx hb dX12_letterTable_8 98 (by decide) (by decide) ?_
    refine lv_iconst (v := 0) hx hb dX12_letterTable_11 (by decide) ?_
    refine lv_istore (lv' := [(6, .int 0), (5, .int 0), (3, .long 0), (0, .ref y), (1, .int 1), (2, .int 1)]) hx hb dX12_letterTable_12 hl (by decide) rfl (fun ls hl => ?_)
    refine lv_iload hx hb dX12_letterTable_14 (lv_at hl 0 rfl) ?_
    refine lv_aload_n hx hb dX12_letterTable_16 rfl (lv_at hl 3 rfl) ?_
    refine va_get (C := RX12) (T := TX12) (N := 43) (v := .ref (qq 0)) hx hb hts hi_X12_letterTable_X12 hown hK hP 0 rfl rfl 0 (by decide) (hts (.fieldLink RX12 7 "BothWaysModel" "states" "[I") (by decide +kernel)) (fun _ h => h) rfl dX12_letterTable_17 ?_
    refine lv_iload_n hx hb dX12_letterTable_20 rfl (lv_at hl 4 rfl) ?_
    refine w_iald (v := 1) hx hb hK hP 1 rfl dX12_letterTable_21 (inC (by decide)) rfl ?_
    refine icmp_ge_f hx hb dX12_letterTable_22 92 (by decide) (by decide) ?_
    refine lv_iload_n hx hb dX12_letterTable_25 rfl (lv_at hl 4 rfl) ?_
    refine lv_iload hx hb dX12_letterTable_26 (lv_at hl 0 rfl) ?_
    refine lv_iload_n hx hb dX12_letterTable_28 rfl (lv_at hl 5 rfl) ?_
    refine cp_i (va_runS (As := [.int 1, .int 0, .int 1]) (rest := []) ⟨hx, hb, hml, hown, hts⟩ (c_M_at0 l g cT H.size 1 0 1) (va_cwS 3 hts gX12_letterTable_X12_at0 rfl rfl rfl yd_X12_at0.2 ⟨(Nat.le_of_ble_eq_true rfl), (Nat.le_of_ble_eq_true rfl)⟩) (preS (ws := []) (wc := []) rfl (fun _ _ h => by simp at h) (va_D_nil (A := A)) hK hN hZ hS hA [] rfl rfl) rfl rfl hl.1 rfl (lv_room (Nat.le_of_ble_eq_true rfl)) dX12_letterTable_29 ⟨(Nat.le_of_ble_eq_true rfl), (Nat.le_of_ble_eq_true rfl)⟩) hP hS hA (fun r_1 u H locs h_2 hP hS => ?_)
    subst h_2
    refine tI 26 (by decide) ?_
    refine lv_istore (lv' := [(7, .int 26), (6, .int 0), (5, .int 0), (3, .long 0), (0, .ref y), (1, .int 1), (2, .int 1)]) hx hb dX12_letterTable_32 hl (by decide) rfl (fun ls hl => ?_)
    refine lv_aload_n hx hb dX12_letterTable_34 rfl (lv_at hl 4 rfl) ?_
    refine va_get (C := RX12) (T := TX12) (N := 43) (v := .ref (qq 2)) hx hb hts hi_X12_letterTable_X12 hown hK hP 0 rfl rfl 2 (by decide) (hts (.fieldLink RX12 16 "BothWaysModel" "goTo" "[I") (by decide +kernel)) (fun _ h => h) rfl dX12_letterTable_35 ?_
    refine lv_iload hx hb dX12_letterTable_38 (lv_at hl 0 rfl) ?_
    refine w_iald (v := (-1)) hx hb hK hP 2 rfl dX12_letterTable_40 (inC (by decide)) rfl ?_
    refine lv_iconst (v := (-1)) hx hb dX12_letterTable_41 (by decide) ?_
    refine icmp_ne_f hx hb dX12_letterTable_42 51 (by decide) (by decide) ?_
    refine lv_ldc2 (v := 10) hx hb hown (hts (.constantLong RX12 212 (10)) (by decide +kernel)) dX12_letterTable_45 ?_
    refine lv_goto (tgt := 69) hx hb dX12_letterTable_48 (by decide) ?_
    refine lv_lstore (lv' := [(8, .long 10), (7, .int 26), (6, .int 0), (5, .int 0), (3, .long 0), (0, .ref y), (1, .int 1), (2, .int 1)]) hx hb dX12_letterTable_69 hl (by decide) rfl (fun ls hl => ?_)
    refine lv_lload_n hx hb dX12_letterTable_71 rfl (lv_at hl 4 rfl) ?_
    refine lv_lload hx hb dX12_letterTable_72 (lv_at hl 0 rfl) ?_
    refine lv_iconst (v := 4) hx hb dX12_letterTable_74 (by decide) ?_
    refine lv_iconst (v := 5) hx hb dX12_letterTable_75 (by decide) ?_
    refine lv_iload hx hb dX12_letterTable_76 (lv_at hl 3 rfl) ?_
    refine w_imul (v := 0) hx hb dX12_letterTable_78 (by decide) ?_
    refine lv_iload hx hb dX12_letterTable_79 (lv_at hl 2 rfl) ?_
    refine w_iadd (v := 0) hx hb dX12_letterTable_81 (by decide) ?_
    refine w_imul (v := 0) hx hb dX12_letterTable_82 (by decide) ?_
    refine lv_lshl (v := 10) hx hb dX12_letterTable_83 (by decide) ?_
    refine w_lor (v := 10) hx hb dX12_letterTable_84 (by decide) ?_
    refine lv_lstore_n (lv' := [(3, .long 10), (8, .long 10), (7, .int 26), (6, .int 0), (5, .int 0), (0, .ref y), (1, .int 1), (2, .int 1)]) hx hb dX12_letterTable_85 rfl hl (by decide) rfl (fun ls hl => ?_)
    refine lv_iinc (v := 1) (lv' := [(6, .int 1), (3, .long 10), (8, .long 10), (7, .int 26), (5, .int 0), (0, .ref y), (1, .int 1), (2, .int 1)]) hx hb dX12_letterTable_86 hl (k := 3) rfl (by decide) (by decide) rfl (fun ls hl => ?_)
    refine lv_goto (tgt := 14) hx hb dX12_letterTable_89 (by decide) ?_
    refine lv_iload hx hb dX12_letterTable_14 (lv_at hl 0 rfl) ?_
    refine lv_aload_n hx hb dX12_letterTable_16 rfl (lv_at hl 5 rfl) ?_
    refine va_get (C := RX12) (T := TX12) (N := 43) (v := .ref (qq 0)) hx hb hts hi_X12_letterTable_X12 hown hK hP 0 rfl rfl 0 (by decide) (hts (.fieldLink RX12 7 "BothWaysModel" "states" "[I") (by decide +kernel)) (fun _ h => h) rfl dX12_letterTable_17 ?_
    refine lv_iload_n hx hb dX12_letterTable_20 rfl (lv_at hl 6 rfl) ?_
    refine w_iald (v := 1) hx hb hK hP 1 rfl dX12_letterTable_21 (inC (by decide)) rfl ?_
    refine icmp_ge_t hx hb 92 dX12_letterTable_22 (by decide) (by decide) ?_
    refine lv_iinc (v := 1) (lv' := [(5, .int 1), (6, .int 1), (3, .long 10), (8, .long 10), (7, .int 26), (0, .ref y), (1, .int 1), (2, .int 1)]) hx hb dX12_letterTable_92 hl (k := 4) rfl (by decide) (by decide) rfl (fun ls hl => ?_)
    refine lv_goto (tgt := 5) hx hb dX12_letterTable_95 (by decide) ?_
    refine lv_iload hx hb dX12_letterTable_5 (lv_at hl 0 rfl) ?_
    refine lv_iconst (v := 2) hx hb dX12_letterTable_7 (by decide) ?_
    refine icmp_ge_f hx hb dX12_letterTable_8 98 (by decide) (by decide) ?_
    refine lv_iconst (v := 0) hx hb dX12_letterTable_11 (by decide) ?_
    refine lv_istore (lv' := [(6, .int 0), (5, .int 1), (3, .long 10), (8, .long 10), (7, .int 26), (0, .ref y), (1, .int 1), (2, .int 1)]) hx hb dX12_letterTable_12 hl (by decide) rfl (fun ls hl => ?_)
    refine lv_iload hx hb dX12_letterTable_14 (lv_at hl 0 rfl) ?_
    refine lv_aload_n hx hb dX12_letterTable_16 rfl (lv_at hl 5 rfl) ?_
    refine va_get (C := RX12) (T := TX12) (N := 43) (v := .ref (qq 0)) hx hb hts hi_X12_letterTable_X12 hown hK hP 0 rfl rfl 0 (by decide) (hts (.fieldLink RX12 7 "BothWaysModel" "states" "[I") (by decide +kernel)) (fun _ h => h) rfl dX12_letterTable_17 ?_
    refine lv_iload_n hx hb dX12_letterTable_20 rfl (lv_at hl 6 rfl) ?_
    refine w_iald (v := 1) hx hb hK hP 1 rfl dX12_letterTable_21 (inC (by decide)) rfl ?_
    refine icmp_ge_f hx hb dX12_letterTable_22 92 (by decide) (by decide) ?_
    refine lv_iload_n hx hb dX12_letterTable_25 rfl (lv_at hl 6 rfl) ?_
    refine lv_iload hx hb dX12_letterTable_26 (lv_at hl 0 rfl) ?_
    refine lv_iload_n hx hb dX12_letterTable_28 rfl (lv_at hl 7 rfl) ?_
    refine cp_i (va_runS (As := [.int 1, .int 0, .int 1]) (rest := []) ⟨hx, hb, hml, hown, hts⟩ (c_M_at0 l g cT H.size 1 0 1) (va_cwS 3 hts gX12_letterTable_X12_at0 rfl rfl rfl yd_X12_at0.2 ⟨(Nat.le_of_ble_eq_true rfl), (Nat.le_of_ble_eq_true rfl)⟩) (preS (ws := []) (wc := []) rfl (fun _ _ h => by simp at h) (va_D_nil (A := A)) hK hN hZ hS hA [] rfl rfl) rfl rfl hl.1 rfl (lv_room (Nat.le_of_ble_eq_true rfl)) dX12_letterTable_29 ⟨(Nat.le_of_ble_eq_true rfl), (Nat.le_of_ble_eq_true rfl)⟩) hP hS hA (fun r_3 u H locs h_4 hP hS => ?_)
    subst h_4
    refine tI 26 (by decide) ?_
    refine lv_istore (lv' := [(7, .int 26), (6, .int 0), (5, .int 1), (3, .long 10), (8, .long 10), (0, .ref y), (1, .int 1), (2, .int 1)]) hx hb dX12_letterTable_32 hl (by decide) rfl (fun ls hl => ?_)
    refine lv_aload_n hx hb dX12_letterTable_34 rfl (lv_at hl 5 rfl) ?_
    refine va_get (C := RX12) (T := TX12) (N := 43) (v := .ref (qq 2)) hx hb hts hi_X12_letterTable_X12 hown hK hP 0 rfl rfl 2 (by decide) (hts (.fieldLink RX12 16 "BothWaysModel" "goTo" "[I") (by decide +kernel)) (fun _ h => h) rfl dX12_letterTable_35 ?_
    refine lv_iload hx hb dX12_letterTable_38 (lv_at hl 0 rfl) ?_
    refine w_iald (v := (-1)) hx hb hK hP 2 rfl dX12_letterTable_40 (inC (by decide)) rfl ?_
    refine lv_iconst (v := (-1)) hx hb dX12_letterTable_41 (by decide) ?_
    refine icmp_ne_f hx hb dX12_letterTable_42 51 (by decide) (by decide) ?_
    refine lv_ldc2 (v := 10) hx hb hown (hts (.constantLong RX12 212 (10)) (by decide +kernel)) dX12_letterTable_45 ?_
    refine lv_goto (tgt := 69) hx hb dX12_letterTable_48 (by decide) ?_
    refine lv_lstore (lv' := [(8, .long 10), (7, .int 26), (6, .int 0), (5, .int 1), (3, .long 10), (0, .ref y), (1, .int 1), (2, .int 1)]) hx hb dX12_letterTable_69 hl (by decide) rfl (fun ls hl => ?_)
    refine lv_lload_n hx hb dX12_letterTable_71 rfl (lv_at hl 4 rfl) ?_
    refine lv_lload hx hb dX12_letterTable_72 (lv_at hl 0 rfl) ?_
    refine lv_iconst (v := 4) hx hb dX12_letterTable_74 (by decide) ?_
    refine lv_iconst (v := 5) hx hb dX12_letterTable_75 (by decide) ?_
    refine lv_iload hx hb dX12_letterTable_76 (lv_at hl 3 rfl) ?_
    refine w_imul (v := 5) hx hb dX12_letterTable_78 (by decide) ?_
    refine lv_iload hx hb dX12_letterTable_79 (lv_at hl 2 rfl) ?_
    refine w_iadd (v := 5) hx hb dX12_letterTable_81 (by decide) ?_
    refine w_imul (v := 20) hx hb dX12_letterTable_82 (by decide) ?_
    refine lv_lshl (v := 10485760) hx hb dX12_letterTable_83 (by decide) ?_
    refine w_lor (v := 10485770) hx hb dX12_letterTable_84 (by decide) ?_
    refine lv_lstore_n (lv' := [(3, .long 10485770), (8, .long 10), (7, .int 26), (6, .int 0), (5, .int 1), (0, .ref y), (1, .int 1), (2, .int 1)]) hx hb dX12_letterTable_85 rfl hl (by decide) rfl (fun ls hl => ?_)
    refine lv_iinc (v := 1) (lv' := [(6, .int 1), (3, .long 10485770), (8, .long 10), (7, .int 26), (5, .int 1), (0, .ref y), (1, .int 1), (2, .int 1)]) hx hb dX12_letterTable_86 hl (k := 3) rfl (by decide) (by decide) rfl (fun ls hl => ?_)
    refine lv_goto (tgt := 14) hx hb dX12_letterTable_89 (by decide) ?_
    refine lv_iload hx hb dX12_letterTable_14 (lv_at hl 0 rfl) ?_
    refine lv_aload_n hx hb dX12_letterTable_16 rfl (lv_at hl 5 rfl) ?_
    refine va_get (C := RX12) (T := TX12) (N := 43) (v := .ref (qq 0)) hx hb hts hi_X12_letterTable_X12 hown hK hP 0 rfl rfl 0 (by decide) (hts (.fieldLink RX12 7 "BothWaysModel" "states" "[I") (by decide +kernel)) (fun _ h => h) rfl dX12_letterTable_17 ?_
    refine lv_iload_n hx hb dX12_letterTable_20 rfl (lv_at hl 6 rfl) ?_
    refine w_iald (v := 1) hx hb hK hP 1 rfl dX12_letterTable_21 (inC (by decide)) rfl ?_
    refine icmp_ge_t hx hb 92 dX12_letterTable_22 (by decide) (by decide) ?_
    refine lv_iinc (v := 2) (lv' := [(5, .int 2), (6, .int 1), (3, .long 10485770), (8, .long 10), (7, .int 26), (0, .ref y), (1, .int 1), (2, .int 1)]) hx hb dX12_letterTable_92 hl (k := 4) rfl (by decide) (by decide) rfl (fun ls hl => ?_)
    refine lv_goto (tgt := 5) hx hb dX12_letterTable_95 (by decide) ?_
    refine lv_iload hx hb dX12_letterTable_5 (lv_at hl 0 rfl) ?_
    refine lv_iconst (v := 2) hx hb dX12_letterTable_7 (by decide) ?_
    refine icmp_ge_t hx hb 98 dX12_letterTable_8 (by decide) (by decide) ?_
    refine lv_lload_n hx hb dX12_letterTable_98 rfl (lv_at hl 2 rfl) ?_
    exact rt_l hx hb hr hlocks hQ hP hD hS () [0, 1, 2] dX12_letterTable_99 (Nat.le_of_ble_eq_true rfl) (Nat.le_of_ble_eq_true rfl) rfl (by decide) rfl
  rw [hH, hlo] at hgo
  exact hgo
abbrev rm_c_M_letterTable_1_2 : Room := { frames := 1, cells := 0, slots := 0, locals := 22 }
set_option maxHeartbeats 4000000 in
set_option maxRecDepth 100000 in
theorem c_M_letterTable_1_2 (l : Launch) (g : va_G) (cT : Nat → ClassId) (sz : Nat) (y : Nat) (qq : Nat → Nat) (z6 : Int32) (z12 : Int32) (z14 : Int32) (z15 : Int32) (z16 : Int32) (z17 : Int32) (z19 : Int32) (z21 : Int32) (z22 : Int32) (z23 : Int32) (z24 : Int32) (z26 : Int32) (z30 : Int32)  : Ctr l g cT sz yX12_letterTable wsX12_letterTable rm_c_M_letterTable_1_2 [.ref y, .int 1, .int 2] [(y, .inr (12, [.ref (qq 0), .ref (qq 1), .ref (qq 2), .ref (qq 3), .ref (qq 4), .ref (qq 5), .int z6, .ref (qq 7), .ref (qq 8), .ref (qq 9), .ref (qq 10), .ref (qq 11), .int z12, .ref (qq 13), .int z14, .int z15, .int z16, .int z17, .ref (qq 18), .int z19, .ref (qq 20), .int z21, .int z22, .int z23, .int z24, .ref (qq 25), .int z26, .ref (qq 27), .ref (qq 28), .ref (qq 29), .int z30, .ref (qq 31), .ref (qq 32), .ref (qq 33), .ref (qq 34), .ref (qq 35), .ref (qq 36), .ref (qq 37), .ref (qq 38), .ref (qq 39), .ref (qq 40), .ref (qq 41), .ref (qq 42)])), ((qq 0), .inl (cT 0, 2, .inl (fun _ => 1))), ((qq 2), .inl (cT 0, 50, .inl (fun _ => (-1))))] (QL g (fun (r : Int64) (u : Unit) => r = 10485770) (fun (u : Unit) => [(y, .inr (12, [.ref (qq 0), .ref (qq 1), .ref (qq 2), .ref (qq 3), .ref (qq 4), .ref (qq 5), .int z6, .ref (qq 7), .ref (qq 8), .ref (qq 9), .ref (qq 10), .ref (qq 11), .int z12, .ref (qq 13), .int z14, .int z15, .int z16, .int z17, .ref (qq 18), .int z19, .ref (qq 20), .int z21, .int z22, .int z23, .int z24, .ref (qq 25), .int z26, .ref (qq 27), .ref (qq 28), .ref (qq 29), .int z30, .ref (qq 31), .ref (qq 32), .ref (qq 33), .ref (qq 34), .ref (qq 35), .ref (qq 36), .ref (qq 37), .ref (qq 38), .ref (qq 39), .ref (qq 40), .ref (qq 41), .ref (qq 42)])), ((qq 0), .inl (cT 0, 2, .inl (fun _ => 1))), ((qq 2), .inl (cT 0, 50, .inl (fun _ => (-1))))])) 0 0 := by
  refine mk_ctr (cc := cX12_letterTable) (maxL := 10) (ret := (some .long)) (by decide) rfl (Nat.le_of_ble_eq_true rfl) ?_
  intro p e s m args below meth c A Q hx hb hr hts hown hlocks hin hml hP hK hD hN hZ hA hS hQ ls hl
  have hl : lv_has ls 10 [(0, .ref y), (1, .int 1), (2, .int 2)] := hl
  obtain ⟨H, hH⟩ : ∃ H : Heap, H = s.heap := ⟨_, rfl⟩
  obtain ⟨locs, hlo⟩ : ∃ x : List Loc, x = [] := ⟨_, rfl⟩
  rw [← hH] at hP
  have hS : va_S A s.heap H locs := by rw [hH, hlo]; exact hS
  have hgo : W p l e rm_c_M_letterTable_1_2 s m args below meth c H locs 0 0 Q (F0 m 0 ls []) := by
    clear hH hlo
    refine lv_lconst (v := 0) hx hb dX12_letterTable_0 (by decide) ?_
    refine lv_lstore_n (lv' := [(3, .long 0), (0, .ref y), (1, .int 1), (2, .int 2)]) hx hb dX12_letterTable_1 rfl hl (by decide) rfl (fun ls hl => ?_)
    refine lv_iconst (v := 0) hx hb dX12_letterTable_2 (by decide) ?_
    refine lv_istore (lv' := [(5, .int 0), (3, .long 0), (0, .ref y), (1, .int 1), (2, .int 2)]) hx hb dX12_letterTable_3 hl (by decide) rfl (fun ls hl => ?_)
    refine lv_iload hx hb dX12_letterTable_5 (lv_at hl 0 rfl) ?_
    refine lv_iconst (v := 2) hx hb dX12_letterTable_7 (by decide) ?_
    refine icmp_ge_f hx hb dX12_letterTable_8 98 (by decide) (by decide) ?_
    refine lv_iconst (v := 0) hx hb dX12_letterTable_11 (by decide) ?_
    refine lv_istore (lv' := [(6, .int 0), (5, .int 0), (3, .long 0), (0, .ref y), (1, .int 1), (2, .int 2)]) hx hb dX12_letterTable_12 hl (by decide) rfl (fun ls hl => ?_)
    refine lv_iload hx hb dX12_letterTable_14 (lv_at hl 0 rfl) ?_
    refine lv_aload_n hx hb dX12_letterTable_16 rfl (lv_at hl 3 rfl) ?_
    refine va_get (C := RX12) (T := TX12) (N := 43) (v := .ref (qq 0)) hx hb hts hi_X12_letterTable_X12 hown hK hP 0 rfl rfl 0 (by decide) (hts (.fieldLink RX12 7 "BothWaysModel" "states" "[I") (by decide +kernel)) (fun _ h => h) rfl dX12_letterTable_17 ?_
    refine lv_iload_n hx hb dX12_letterTable_20 rfl (lv_at hl 4 rfl) ?_
    refine w_iald (v := 1) hx hb hK hP 1 rfl dX12_letterTable_21 (inC (by decide)) rfl ?_
    refine icmp_ge_f hx hb dX12_letterTable_22 92 (by decide) (by decide) ?_
    refine lv_iload_n hx hb dX12_letterTable_25 rfl (lv_at hl 4 rfl) ?_
    refine lv_iload hx hb dX12_letterTable_26 (lv_at hl 0 rfl) ?_
    refine lv_iload_n hx hb dX12_letterTable_28 rfl (lv_at hl 5 rfl) ?_
    refine cp_i (va_runS (As := [.int 1, .int 0, .int 2]) (rest := []) ⟨hx, hb, hml, hown, hts⟩ (c_M_at0 l g cT H.size 1 0 2) (va_cwS 3 hts gX12_letterTable_X12_at0 rfl rfl rfl yd_X12_at0.2 ⟨(Nat.le_of_ble_eq_true rfl), (Nat.le_of_ble_eq_true rfl)⟩) (preS (ws := []) (wc := []) rfl (fun _ _ h => by simp at h) (va_D_nil (A := A)) hK hN hZ hS hA [] rfl rfl) rfl rfl hl.1 rfl (lv_room (Nat.le_of_ble_eq_true rfl)) dX12_letterTable_29 ⟨(Nat.le_of_ble_eq_true rfl), (Nat.le_of_ble_eq_true rfl)⟩) hP hS hA (fun r_1 u H locs h_2 hP hS => ?_)
    subst h_2
    refine tI 27 (by decide) ?_
    refine lv_istore (lv' := [(7, .int 27), (6, .int 0), (5, .int 0), (3, .long 0), (0, .ref y), (1, .int 1), (2, .int 2)]) hx hb dX12_letterTable_32 hl (by decide) rfl (fun ls hl => ?_)
    refine lv_aload_n hx hb dX12_letterTable_34 rfl (lv_at hl 4 rfl) ?_
    refine va_get (C := RX12) (T := TX12) (N := 43) (v := .ref (qq 2)) hx hb hts hi_X12_letterTable_X12 hown hK hP 0 rfl rfl 2 (by decide) (hts (.fieldLink RX12 16 "BothWaysModel" "goTo" "[I") (by decide +kernel)) (fun _ h => h) rfl dX12_letterTable_35 ?_
    refine lv_iload hx hb dX12_letterTable_38 (lv_at hl 0 rfl) ?_
    refine w_iald (v := (-1)) hx hb hK hP 2 rfl dX12_letterTable_40 (inC (by decide)) rfl ?_
    refine lv_iconst (v := (-1)) hx hb dX12_letterTable_41 (by decide) ?_
    refine icmp_ne_f hx hb dX12_letterTable_42 51 (by decide) (by decide) ?_
    refine lv_ldc2 (v := 10) hx hb hown (hts (.constantLong RX12 212 (10)) (by decide +kernel)) dX12_letterTable_45 ?_
    refine lv_goto (tgt := 69) hx hb dX12_letterTable_48 (by decide) ?_
    refine lv_lstore (lv' := [(8, .long 10), (7, .int 27), (6, .int 0), (5, .int 0), (3, .long 0), (0, .ref y), (1, .int 1), (2, .int 2)]) hx hb dX12_letterTable_69 hl (by decide) rfl (fun ls hl => ?_)
    refine lv_lload_n hx hb dX12_letterTable_71 rfl (lv_at hl 4 rfl) ?_
    refine lv_lload hx hb dX12_letterTable_72 (lv_at hl 0 rfl) ?_
    refine lv_iconst (v := 4) hx hb dX12_letterTable_74 (by decide) ?_
    refine lv_iconst (v := 5) hx hb dX12_letterTable_75 (by decide) ?_
    refine lv_iload hx hb dX12_letterTable_76 (lv_at hl 3 rfl) ?_
    refine w_imul (v := 0) hx hb dX12_letterTable_78 (by decide) ?_
    refine lv_iload hx hb dX12_letterTable_79 (lv_at hl 2 rfl) ?_
    refine w_iadd (v := 0) hx hb dX12_letterTable_81 (by decide) ?_
    refine w_imul (v := 0) hx hb dX12_letterTable_82 (by decide) ?_
    refine lv_lshl (v := 10) hx hb dX12_letterTable_83 (by decide) ?_
    refine w_lor (v := 10) hx hb dX12_letterTable_84 (by decide) ?_
    refine lv_lstore_n (lv' := [(3, .long 10), (8, .long 10), (7, .int 27), (6, .int 0), (5, .int 0), (0, .ref y), (1, .int 1), (2, .int 2)]) hx hb dX12_letterTable_85 rfl hl (by decide) rfl (fun ls hl => ?_)
    refine lv_iinc (v := 1) (lv' := [(6, .int 1), (3, .long 10), (8, .long 10), (7, .int 27), (5, .int 0), (0, .ref y), (1, .int 1), (2, .int 2)]) hx hb dX12_letterTable_86 hl (k := 3) rfl (by decide) (by decide) rfl (fun ls hl => ?_)
    refine lv_goto (tgt := 14) hx hb dX12_letterTable_89 (by decide) ?_
    refine lv_iload hx hb dX12_letterTable_14 (lv_at hl 0 rfl) ?_
    refine lv_aload_n hx hb dX12_letterTable_16 rfl (lv_at hl 5 rfl) ?_
    refine va_get (C := RX12) (T := TX12) (N := 43) (v := .ref (qq 0)) hx hb hts hi_X12_letterTable_X12 hown hK hP 0 rfl rfl 0 (by decide) (hts (.fieldLink RX12 7 "BothWaysModel" "states" "[I") (by decide +kernel)) (fun _ h => h) rfl dX12_letterTable_17 ?_
    refine lv_iload_n hx hb dX12_letterTable_20 rfl (lv_at hl 6 rfl) ?_
    refine w_iald (v := 1) hx hb hK hP 1 rfl dX12_letterTable_21 (inC (by decide)) rfl ?_
    refine icmp_ge_t hx hb 92 dX12_letterTable_22 (by decide) (by decide) ?_
    refine lv_iinc (v := 1) (lv' := [(5, .int 1), (6, .int 1), (3, .long 10), (8, .long 10), (7, .int 27), (0, .ref y), (1, .int 1), (2, .int 2)]) hx hb dX12_letterTable_92 hl (k := 4) rfl (by decide) (by decide) rfl (fun ls hl => ?_)
    refine lv_goto (tgt := 5) hx hb dX12_letterTable_95 (by decide) ?_
    refine lv_iload hx hb dX12_letterTable_5 (lv_at hl 0 rfl) ?_
    refine lv_iconst (v := 2) hx hb dX12_letterTable_7 (by decide) ?_
    refine icmp_ge_f hx hb dX12_letterTable_8 98 (by decide) (by decide) ?_
    refine lv_iconst (v := 0) hx hb dX12_letterTable_11 (by decide) ?_
    refine lv_istore (lv' := [(6, .int 0), (5, .int 1), (3, .long 10), (8, .long 10), (7, .int 27), (0, .ref y), (1, .int 1), (2, .int 2)]) hx hb dX12_letterTable_12 hl (by decide) rfl (fun ls hl => ?_)
    refine lv_iload hx hb dX12_letterTable_14 (lv_at hl 0 rfl) ?_
    refine lv_aload_n hx hb dX12_letterTable_16 rfl (lv_at hl 5 rfl) ?_
    refine va_get (C := RX12) (T := TX12) (N := 43) (v := .ref (qq 0)) hx hb hts hi_X12_letterTable_X12 hown hK hP 0 rfl rfl 0 (by decide) (hts (.fieldLink RX12 7 "BothWaysModel" "states" "[I") (by decide +kernel)) (fun _ h => h) rfl dX12_letterTable_17 ?_
    refine lv_iload_n hx hb dX12_letterTable_20 rfl (lv_at hl 6 rfl) ?_
    refine w_iald (v := 1) hx hb hK hP 1 rfl dX12_letterTable_21 (inC (by decide)) rfl ?_
    refine icmp_ge_f hx hb dX12_letterTable_22 92 (by decide) (by decide) ?_
    refine lv_iload_n hx hb dX12_letterTable_25 rfl (lv_at hl 6 rfl) ?_
    refine lv_iload hx hb dX12_letterTable_26 (lv_at hl 0 rfl) ?_
    refine lv_iload_n hx hb dX12_letterTable_28 rfl (lv_at hl 7 rfl) ?_
    refine cp_i (va_runS (As := [.int 1, .int 0, .int 2]) (rest := []) ⟨hx, hb, hml, hown, hts⟩ (c_M_at0 l g cT H.size 1 0 2) (va_cwS 3 hts gX12_letterTable_X12_at0 rfl rfl rfl yd_X12_at0.2 ⟨(Nat.le_of_ble_eq_true rfl), (Nat.le_of_ble_eq_true rfl)⟩) (preS (ws := []) (wc := []) rfl (fun _ _ h => by simp at h) (va_D_nil (A := A)) hK hN hZ hS hA [] rfl rfl) rfl rfl hl.1 rfl (lv_room (Nat.le_of_ble_eq_true rfl)) dX12_letterTable_29 ⟨(Nat.le_of_ble_eq_true rfl), (Nat.le_of_ble_eq_true rfl)⟩) hP hS hA (fun r_3 u H locs h_4 hP hS => ?_)
    subst h_4
    refine tI 27 (by decide) ?_
    refine lv_istore (lv' := [(7, .int 27), (6, .int 0), (5, .int 1), (3, .long 10), (8, .long 10), (0, .ref y), (1, .int 1), (2, .int 2)]) hx hb dX12_letterTable_32 hl (by decide) rfl (fun ls hl => ?_)
    refine lv_aload_n hx hb dX12_letterTable_34 rfl (lv_at hl 5 rfl) ?_
    refine va_get (C := RX12) (T := TX12) (N := 43) (v := .ref (qq 2)) hx hb hts hi_X12_letterTable_X12 hown hK hP 0 rfl rfl 2 (by decide) (hts (.fieldLink RX12 16 "BothWaysModel" "goTo" "[I") (by decide +kernel)) (fun _ h => h) rfl dX12_letterTable_35 ?_
    refine lv_iload hx hb dX12_letterTable_38 (lv_at hl 0 rfl) ?_
    refine w_iald (v := (-1)) hx hb hK hP 2 rfl dX12_letterTable_40 (inC (by decide)) rfl ?_
    refine lv_iconst (v := (-1)) hx hb dX12_letterTable_41 (by decide) ?_
    refine icmp_ne_f hx hb dX12_letterTable_42 51 (by decide) (by decide) ?_
    refine lv_ldc2 (v := 10) hx hb hown (hts (.constantLong RX12 212 (10)) (by decide +kernel)) dX12_letterTable_45 ?_
    refine lv_goto (tgt := 69) hx hb dX12_letterTable_48 (by decide) ?_
    refine lv_lstore (lv' := [(8, .long 10), (7, .int 27), (6, .int 0), (5, .int 1), (3, .long 10), (0, .ref y), (1, .int 1), (2, .int 2)]) hx hb dX12_letterTable_69 hl (by decide) rfl (fun ls hl => ?_)
    refine lv_lload_n hx hb dX12_letterTable_71 rfl (lv_at hl 4 rfl) ?_
    refine lv_lload hx hb dX12_letterTable_72 (lv_at hl 0 rfl) ?_
    refine lv_iconst (v := 4) hx hb dX12_letterTable_74 (by decide) ?_
    refine lv_iconst (v := 5) hx hb dX12_letterTable_75 (by decide) ?_
    refine lv_iload hx hb dX12_letterTable_76 (lv_at hl 3 rfl) ?_
    refine w_imul (v := 5) hx hb dX12_letterTable_78 (by decide) ?_
    refine lv_iload hx hb dX12_letterTable_79 (lv_at hl 2 rfl) ?_
    refine w_iadd (v := 5) hx hb dX12_letterTable_81 (by decide) ?_
    refine w_imul (v := 20) hx hb dX12_letterTable_82 (by decide) ?_
    refine lv_lshl (v := 10485760) hx hb dX12_letterTable_83 (by decide) ?_
    refine w_lor (v := 10485770) hx hb dX12_letterTable_84 (by decide) ?_
    refine lv_lstore_n (lv' := [(3, .long 10485770), (8, .long 10), (7, .int 27), (6, .int 0), (5, .int 1), (0, .ref y), (1, .int 1), (2, .int 2)]) hx hb dX12_letterTable_85 rfl hl (by decide) rfl (fun ls hl => ?_)
    refine lv_iinc (v := 1) (lv' := [(6, .int 1), (3, .long 10485770), (8, .long 10), (7, .int 27), (5, .int 1), (0, .ref y), (1, .int 1), (2, .int 2)]) hx hb dX12_letterTable_86 hl (k := 3) rfl (by decide) (by decide) rfl (fun ls hl => ?_)
    refine lv_goto (tgt := 14) hx hb dX12_letterTable_89 (by decide) ?_
    refine lv_iload hx hb dX12_letterTable_14 (lv_at hl 0 rfl) ?_
    refine lv_aload_n hx hb dX12_letterTable_16 rfl (lv_at hl 5 rfl) ?_
    refine va_get (C := RX12) (T := TX12) (N := 43) (v := .ref (qq 0)) hx hb hts hi_X12_letterTable_X12 hown hK hP 0 rfl rfl 0 (by decide) (hts (.fieldLink RX12 7 "BothWaysModel" "states" "[I") (by decide +kernel)) (fun _ h => h) rfl dX12_letterTable_17 ?_
    refine lv_iload_n hx hb dX12_letterTable_20 rfl (lv_at hl 6 rfl) ?_
    refine w_iald (v := 1) hx hb hK hP 1 rfl dX12_letterTable_21 (inC (by decide)) rfl ?_
    refine icmp_ge_t hx hb 92 dX12_letterTable_22 (by decide) (by decide) ?_
    refine lv_iinc (v := 2) (lv' := [(5, .int 2), (6, .int 1), (3, .long 10485770), (8, .long 10), (7, .int 27), (0, .ref y), (1, .int 1), (2, .int 2)]) hx hb dX12_letterTable_92 hl (k := 4) rfl (by decide) (by decide) rfl (fun ls hl => ?_)
    refine lv_goto (tgt := 5) hx hb dX12_letterTable_95 (by decide) ?_
    refine lv_iload hx hb dX12_letterTable_5 (lv_at hl 0 rfl) ?_
    refine lv_iconst (v := 2) hx hb dX12_letterTable_7 (by decide) ?_
    refine icmp_ge_t hx hb 98 dX12_letterTable_8 (by decide) (by decide) ?_
    refine lv_lload_n hx hb dX12_letterTable_98 rfl (lv_at hl 2 rfl) ?_
    exact rt_l hx hb hr hlocks hQ hP hD hS () [0, 1, 2] dX12_letterTable_99 (Nat.le_of_ble_eq_true rfl) (Nat.le_of_ble_eq_true rfl) rfl (by decide) rfl
  rw [hH, hlo] at hgo
  exact hgo
theorem yd_X12_entry : yX12_entry.cls = RX12 ∧ yX12_entry.cls ≠ "java/lang/invoke/MethodHandle" ∧ yX12_entry.cls ≠ "java/lang/invoke/VarHandle" ∧ (parseMethodDescriptor yX12_entry.desc).map (fun d => d.parameters.length) = some 3 := by decide +kernel
abbrev rm_c_M_through_0 : Room := { frames := 1, cells := 0, slots := 0, locals := 23 }
set_option maxHeartbeats 4000000 in
set_option maxRecDepth 100000 in
theorem c_M_through_0 (l : Launch) (g : va_G) (cT : Nat → ClassId) (sz : Nat) (y : Nat) (qq : Nat → Nat) (z6 : Int32) (z12 : Int32) (z14 : Int32) (z15 : Int32) (z16 : Int32) (z17 : Int32) (z19 : Int32) (z21 : Int32) (z22 : Int32) (z23 : Int32) (z24 : Int32) (z26 : Int32) (z30 : Int32)  : Ctr l g cT sz yX12_through wsX12_through rm_c_M_through_0 [.ref y, .long 10485770, .long 10485770, .int 0, .int 0] [(y, .inr (12, [.ref (qq 0), .ref (qq 1), .ref (qq 2), .ref (qq 3), .ref (qq 4), .ref (qq 5), .int z6, .ref (qq 7), .ref (qq 8), .ref (qq 9), .ref (qq 10), .ref (qq 11), .int z12, .ref (qq 13), .int z14, .int z15, .int z16, .int z17, .ref (qq 18), .int z19, .ref (qq 20), .int z21, .int z22, .int z23, .int z24, .ref (qq 25), .int z26, .ref (qq 27), .ref (qq 28), .ref (qq 29), .int z30, .ref (qq 31), .ref (qq 32), .ref (qq 33), .ref (qq 34), .ref (qq 35), .ref (qq 36), .ref (qq 37), .ref (qq 38), .ref (qq 39), .ref (qq 40), .ref (qq 41), .ref (qq 42)]))] (QI g (fun (r : Int32) (u : Unit) => r = 10) (fun (u : Unit) => [(y, .inr (12, [.ref (qq 0), .ref (qq 1), .ref (qq 2), .ref (qq 3), .ref (qq 4), .ref (qq 5), .int z6, .ref (qq 7), .ref (qq 8), .ref (qq 9), .ref (qq 10), .ref (qq 11), .int z12, .ref (qq 13), .int z14, .int z15, .int z16, .int z17, .ref (qq 18), .int z19, .ref (qq 20), .int z21, .int z22, .int z23, .int z24, .ref (qq 25), .int z26, .ref (qq 27), .ref (qq 28), .ref (qq 29), .int z30, .ref (qq 31), .ref (qq 32), .ref (qq 33), .ref (qq 34), .ref (qq 35), .ref (qq 36), .ref (qq 37), .ref (qq 38), .ref (qq 39), .ref (qq 40), .ref (qq 41), .ref (qq 42)]))])) 0 0 := by
  refine mk_ctr (cc := cX12_through) (maxL := 13) (ret := (some .int)) (by decide) rfl (Nat.le_of_ble_eq_true rfl) ?_
  intro p e s m args below meth c A Q hx hb hr hts hown hlocks hin hml hP hK hD hN hZ hA hS hQ ls hl
  have hl : lv_has ls 13 [(0, .ref y), (1, .long 10485770), (3, .long 10485770), (5, .int 0), (6, .int 0)] := hl
  obtain ⟨H, hH⟩ : ∃ H : Heap, H = s.heap := ⟨_, rfl⟩
  obtain ⟨locs, hlo⟩ : ∃ x : List Loc, x = [] := ⟨_, rfl⟩
  rw [← hH] at hP
  have hS : va_S A s.heap H locs := by rw [hH, hlo]; exact hS
  have hgo : W p l e rm_c_M_through_0 s m args below meth c H locs 0 0 Q (F0 m 0 ls []) := by
    clear hH hlo
    refine lv_iload hx hb dX12_through_0 (lv_at hl 3 rfl) ?_
    refine lv_istore (lv' := [(7, .int 0), (0, .ref y), (1, .long 10485770), (3, .long 10485770), (5, .int 0), (6, .int 0)]) hx hb dX12_through_2 hl (by decide) rfl (fun ls hl => ?_)
    refine lv_iload hx hb dX12_through_4 (lv_at hl 4 rfl) ?_
    refine lv_istore (lv' := [(8, .int 0), (7, .int 0), (0, .ref y), (1, .long 10485770), (3, .long 10485770), (5, .int 0), (6, .int 0)]) hx hb dX12_through_6 hl (by decide) rfl (fun ls hl => ?_)
    refine lv_iload hx hb dX12_through_8 (lv_at hl 6 rfl) ?_
    refine lv_istore (lv' := [(9, .int 0), (8, .int 0), (7, .int 0), (0, .ref y), (1, .long 10485770), (3, .long 10485770), (5, .int 0), (6, .int 0)]) hx hb dX12_through_10 hl (by decide) rfl (fun ls hl => ?_)
    refine lv_iconst (v := 0) hx hb dX12_through_12 (by decide) ?_
    refine lv_istore (lv' := [(10, .int 0), (9, .int 0), (8, .int 0), (7, .int 0), (0, .ref y), (1, .long 10485770), (3, .long 10485770), (5, .int 0), (6, .int 0)]) hx hb dX12_through_13 hl (by decide) rfl (fun ls hl => ?_)
    refine lv_iload hx hb dX12_through_15 (lv_at hl 0 rfl) ?_
    refine lv_bipush (v := 24) hx hb dX12_through_17 (by decide) ?_
    refine icmp_ge_f hx hb dX12_through_19 121 (by decide) (by decide) ?_
    refine lv_iload hx hb dX12_through_22 (lv_at hl 3 rfl) ?_
    refine if_ne_f hx hb dX12_through_24 31 (by decide) (by decide) ?_
    refine lv_lload_n hx hb dX12_through_27 rfl (lv_at hl 5 rfl) ?_
    refine lv_goto (tgt := 32) hx hb dX12_through_28 (by decide) ?_
    refine lv_iload hx hb dX12_through_32 (lv_at hl 2 rfl) ?_
    refine lv_iload hx hb dX12_through_34 (lv_at hl 1 rfl) ?_
    refine cp_i (va_runS (As := [.long 10485770, .int 0, .int 0]) (rest := []) ⟨hx, hb, hml, hown, hts⟩ (c_M_entry l g cT H.size 10485770 0 0) (va_cwS 3 hts gX12_through_X12_entry rfl rfl rfl yd_X12_entry.2 ⟨(Nat.le_of_ble_eq_true rfl), (Nat.le_of_ble_eq_true rfl)⟩) (preS (ws := []) (wc := []) rfl (fun _ _ h => by simp at h) (va_D_nil (A := A)) hK hN hZ hS hA [] rfl rfl) rfl rfl hl.1 rfl (lv_room (Nat.le_of_ble_eq_true rfl)) dX12_through_36 ⟨(Nat.le_of_ble_eq_true rfl), (Nat.le_of_ble_eq_true rfl)⟩) hP hS hA (fun r_1 u H locs h_2 hP hS => ?_)
    subst h_2
    refine tI 10 (by decide) ?_
    refine lv_istore (lv' := [(11, .int 10), (10, .int 0), (9, .int 0), (8, .int 0), (7, .int 0), (0, .ref y), (1, .long 10485770), (3, .long 10485770), (5, .int 0), (6, .int 0)]) hx hb dX12_through_39 hl (by decide) rfl (fun ls hl => ?_)
    refine lv_iload hx hb dX12_through_41 (lv_at hl 0 rfl) ?_
    refine lv_bipush (v := 9) hx hb dX12_through_43 (by decide) ?_
    refine icmp_le_f hx hb dX12_through_45 51 (by decide) (by decide) ?_
    refine lv_iload hx hb dX12_through_48 (lv_at hl 0 rfl) ?_
    exact rt_i hx hb hr hlocks hQ hP hD hS () [0] dX12_through_50 rfl (Nat.le_of_ble_eq_true rfl) (Nat.le_of_ble_eq_true rfl) rfl (by decide) rfl
  rw [hH, hlo] at hgo
  exact hgo
abbrev rm_c_M_through_1 : Room := { frames := 1, cells := 0, slots := 0, locals := 23 }
set_option maxHeartbeats 4000000 in
set_option maxRecDepth 100000 in
theorem c_M_through_1 (l : Launch) (g : va_G) (cT : Nat → ClassId) (sz : Nat) (y : Nat) (qq : Nat → Nat) (z6 : Int32) (z12 : Int32) (z14 : Int32) (z15 : Int32) (z16 : Int32) (z17 : Int32) (z19 : Int32) (z21 : Int32) (z22 : Int32) (z23 : Int32) (z24 : Int32) (z26 : Int32) (z30 : Int32)  : Ctr l g cT sz yX12_through wsX12_through rm_c_M_through_1 [.ref y, .long 10485770, .long 10485770, .int 1, .int 0] [(y, .inr (12, [.ref (qq 0), .ref (qq 1), .ref (qq 2), .ref (qq 3), .ref (qq 4), .ref (qq 5), .int z6, .ref (qq 7), .ref (qq 8), .ref (qq 9), .ref (qq 10), .ref (qq 11), .int z12, .ref (qq 13), .int z14, .int z15, .int z16, .int z17, .ref (qq 18), .int z19, .ref (qq 20), .int z21, .int z22, .int z23, .int z24, .ref (qq 25), .int z26, .ref (qq 27), .ref (qq 28), .ref (qq 29), .int z30, .ref (qq 31), .ref (qq 32), .ref (qq 33), .ref (qq 34), .ref (qq 35), .ref (qq 36), .ref (qq 37), .ref (qq 38), .ref (qq 39), .ref (qq 40), .ref (qq 41), .ref (qq 42)]))] (QI g (fun (r : Int32) (u : Unit) => r = 10) (fun (u : Unit) => [(y, .inr (12, [.ref (qq 0), .ref (qq 1), .ref (qq 2), .ref (qq 3), .ref (qq 4), .ref (qq 5), .int z6, .ref (qq 7), .ref (qq 8), .ref (qq 9), .ref (qq 10), .ref (qq 11), .int z12, .ref (qq 13), .int z14, .int z15, .int z16, .int z17, .ref (qq 18), .int z19, .ref (qq 20), .int z21, .int z22, .int z23, .int z24, .ref (qq 25), .int z26, .ref (qq 27), .ref (qq 28), .ref (qq 29), .int z30, .ref (qq 31), .ref (qq 32), .ref (qq 33), .ref (qq 34), .ref (qq 35), .ref (qq 36), .ref (qq 37), .ref (qq 38), .ref (qq 39), .ref (qq 40), .ref (qq 41), .ref (qq 42)]))])) 0 0 := by
  refine mk_ctr (cc := cX12_through) (maxL := 13) (ret := (some .int)) (by decide) rfl (Nat.le_of_ble_eq_true rfl) ?_
  intro p e s m args below meth c A Q hx hb hr hts hown hlocks hin hml hP hK hD hN hZ hA hS hQ ls hl
  have hl : lv_has ls 13 [(0, .ref y), (1, .long 10485770), (3, .long 10485770), (5, .int 1), (6, .int 0)] := hl
  obtain ⟨H, hH⟩ : ∃ H : Heap, H = s.heap := ⟨_, rfl⟩
  obtain ⟨locs, hlo⟩ : ∃ x : List Loc, x = [] := ⟨_, rfl⟩
  rw [← hH] at hP
  have hS : va_S A s.heap H locs := by rw [hH, hlo]; exact hS
  have hgo : W p l e rm_c_M_through_1 s m args below meth c H locs 0 0 Q (F0 m 0 ls []) := by
    clear hH hlo
    refine lv_iload hx hb dX12_through_0 (lv_at hl 3 rfl) ?_
    refine lv_istore (lv' := [(7, .int 1), (0, .ref y), (1, .long 10485770), (3, .long 10485770), (5, .int 1), (6, .int 0)]) hx hb dX12_through_2 hl (by decide) rfl (fun ls hl => ?_)
    refine lv_iload hx hb dX12_through_4 (lv_at hl 4 rfl) ?_
    refine lv_istore (lv' := [(8, .int 1), (7, .int 1), (0, .ref y), (1, .long 10485770), (3, .long 10485770), (5, .int 1), (6, .int 0)]) hx hb dX12_through_6 hl (by decide) rfl (fun ls hl => ?_)
    refine lv_iload hx hb dX12_through_8 (lv_at hl 6 rfl) ?_
    refine lv_istore (lv' := [(9, .int 0), (8, .int 1), (7, .int 1), (0, .ref y), (1, .long 10485770), (3, .long 10485770), (5, .int 1), (6, .int 0)]) hx hb dX12_through_10 hl (by decide) rfl (fun ls hl => ?_)
    refine lv_iconst (v := 0) hx hb dX12_through_12 (by decide) ?_
    refine lv_istore (lv' := [(10, .int 0), (9, .int 0), (8, .int 1), (7, .int 1), (0, .ref y), (1, .long 10485770), (3, .long 10485770), (5, .int 1), (6, .int 0)]) hx hb dX12_through_13 hl (by decide) rfl (fun ls hl => ?_)
    refine lv_iload hx hb dX12_through_15 (lv_at hl 0 rfl) ?_
    refine lv_bipush (v := 24) hx hb dX12_through_17 (by decide) ?_
    refine icmp_ge_f hx hb dX12_through_19 121 (by decide) (by decide) ?_
    refine lv_iload hx hb dX12_through_22 (lv_at hl 3 rfl) ?_
    refine if_ne_t hx hb 31 dX12_through_24 (by decide) (by decide) ?_
    refine lv_lload_n hx hb dX12_through_31 rfl (lv_at hl 6 rfl) ?_
    refine lv_iload hx hb dX12_through_32 (lv_at hl 2 rfl) ?_
    refine lv_iload hx hb dX12_through_34 (lv_at hl 1 rfl) ?_
    refine cp_i (va_runS (As := [.long 10485770, .int 1, .int 0]) (rest := []) ⟨hx, hb, hml, hown, hts⟩ (c_M_entry l g cT H.size 10485770 1 0) (va_cwS 3 hts gX12_through_X12_entry rfl rfl rfl yd_X12_entry.2 ⟨(Nat.le_of_ble_eq_true rfl), (Nat.le_of_ble_eq_true rfl)⟩) (preS (ws := []) (wc := []) rfl (fun _ _ h => by simp at h) (va_D_nil (A := A)) hK hN hZ hS hA [] rfl rfl) rfl rfl hl.1 rfl (lv_room (Nat.le_of_ble_eq_true rfl)) dX12_through_36 ⟨(Nat.le_of_ble_eq_true rfl), (Nat.le_of_ble_eq_true rfl)⟩) hP hS hA (fun r_1 u H locs h_2 hP hS => ?_)
    subst h_2
    refine tI 10 (by decide) ?_
    refine lv_istore (lv' := [(11, .int 10), (10, .int 0), (9, .int 0), (8, .int 1), (7, .int 1), (0, .ref y), (1, .long 10485770), (3, .long 10485770), (5, .int 1), (6, .int 0)]) hx hb dX12_through_39 hl (by decide) rfl (fun ls hl => ?_)
    refine lv_iload hx hb dX12_through_41 (lv_at hl 0 rfl) ?_
    refine lv_bipush (v := 9) hx hb dX12_through_43 (by decide) ?_
    refine icmp_le_f hx hb dX12_through_45 51 (by decide) (by decide) ?_
    refine lv_iload hx hb dX12_through_48 (lv_at hl 0 rfl) ?_
    exact rt_i hx hb hr hlocks hQ hP hD hS () [0] dX12_through_50 rfl (Nat.le_of_ble_eq_true rfl) (Nat.le_of_ble_eq_true rfl) rfl (by decide) rfl
  rw [hH, hlo] at hgo
  exact hgo
theorem hi_X12_join_X12 : ∀ w ∈ wsX120, w ∈ wsX12_join := fun _ h => List.mem_cons_of_mem _ (List.mem_append_right _ h)
theorem yd_X12_through : yX12_through.cls = RX12 ∧ yX12_through.cls ≠ "java/lang/invoke/MethodHandle" ∧ yX12_through.cls ≠ "java/lang/invoke/VarHandle" ∧ (parseMethodDescriptor yX12_through.desc).map (fun d => d.parameters.length) = some 4 := by decide +kernel
abbrev rm_c_M_join_0 : Room := { frames := 2, cells := 0, slots := 0, locals := 55 }
set_option maxHeartbeats 4000000 in
set_option maxRecDepth 100000 in
theorem c_M_join_0 (l : Launch) (g : va_G) (cT : Nat → ClassId) (sz : Nat) (y : Nat) (qq : Nat → Nat) (z6 : Int32) (z12 : Int32) (z14 : Int32) (z15 : Int32) (z16 : Int32) (z17 : Int32) (z19 : Int32) (z21 : Int32) (z22 : Int32) (z23 : Int32) (z24 : Int32) (z26 : Int32) (z30 : Int32)  : Ctr l g cT sz yX12_join wsX12_join rm_c_M_join_0 [.ref y, .int 0, .long 10485770, .long 10485770] [(y, .inr (12, [.ref (qq 0), .ref (qq 1), .ref (qq 2), .ref (qq 3), .ref (qq 4), .ref (qq 5), .int z6, .ref (qq 7), .ref (qq 8), .ref (qq 9), .ref (qq 10), .ref (qq 11), .int z12, .ref (qq 13), .int z14, .int z15, .int z16, .int z17, .ref (qq 18), .int z19, .ref (qq 20), .int z21, .int z22, .int z23, .int z24, .ref (qq 25), .int z26, .ref (qq 27), .ref (qq 28), .ref (qq 29), .int z30, .ref (qq 31), .ref (qq 32), .ref (qq 33), .ref (qq 34), .ref (qq 35), .ref (qq 36), .ref (qq 37), .ref (qq 38), .ref (qq 39), .ref (qq 40), .ref (qq 41), .ref (qq 42)])), ((qq 0), .inl (cT 0, 2, .inl (fun _ => 1)))] (QL g (fun (r : Int64) (u : Unit) => r = 10485770) (fun (u : Unit) => [(y, .inr (12, [.ref (qq 0), .ref (qq 1), .ref (qq 2), .ref (qq 3), .ref (qq 4), .ref (qq 5), .int z6, .ref (qq 7), .ref (qq 8), .ref (qq 9), .ref (qq 10), .ref (qq 11), .int z12, .ref (qq 13), .int z14, .int z15, .int z16, .int z17, .ref (qq 18), .int z19, .ref (qq 20), .int z21, .int z22, .int z23, .int z24, .ref (qq 25), .int z26, .ref (qq 27), .ref (qq 28), .ref (qq 29), .int z30, .ref (qq 31), .ref (qq 32), .ref (qq 33), .ref (qq 34), .ref (qq 35), .ref (qq 36), .ref (qq 37), .ref (qq 38), .ref (qq 39), .ref (qq 40), .ref (qq 41), .ref (qq 42)])), ((qq 0), .inl (cT 0, 2, .inl (fun _ => 1)))])) 0 0 := by
  refine mk_ctr (cc := cX12_join) (maxL := 10) (ret := (some .long)) (by decide) rfl (Nat.le_of_ble_eq_true rfl) ?_
  intro p e s m args below meth c A Q hx hb hr hts hown hlocks hin hml hP hK hD hN hZ hA hS hQ ls hl
  have hl : lv_has ls 10 [(0, .ref y), (1, .int 0), (2, .long 10485770), (4, .long 10485770)] := hl
  obtain ⟨H, hH⟩ : ∃ H : Heap, H = s.heap := ⟨_, rfl⟩
  obtain ⟨locs, hlo⟩ : ∃ x : List Loc, x = [] := ⟨_, rfl⟩
  rw [← hH] at hP
  have hS : va_S A s.heap H locs := by rw [hH, hlo]; exact hS
  have hgo : W p l e rm_c_M_join_0 s m args below meth c H locs 0 0 Q (F0 m 0 ls []) := by
    clear hH hlo
    refine lv_lconst (v := 0) hx hb dX12_join_0 (by decide) ?_
    refine lv_lstore (lv' := [(6, .long 0), (0, .ref y), (1, .int 0), (2, .long 10485770), (4, .long 10485770)]) hx hb dX12_join_1 hl (by decide) rfl (fun ls hl => ?_)
    refine lv_iconst (v := 0) hx hb dX12_join_3 (by decide) ?_
    refine lv_istore (lv' := [(8, .int 0), (6, .long 0), (0, .ref y), (1, .int 0), (2, .long 10485770), (4, .long 10485770)]) hx hb dX12_join_4 hl (by decide) rfl (fun ls hl => ?_)
    refine lv_iload hx hb dX12_join_6 (lv_at hl 0 rfl) ?_
    refine lv_iconst (v := 2) hx hb dX12_join_8 (by decide) ?_
    refine icmp_ge_f hx hb dX12_join_9 65 (by decide) (by decide) ?_
    refine lv_iconst (v := 0) hx hb dX12_join_12 (by decide) ?_
    refine lv_istore (lv' := [(9, .int 0), (8, .int 0), (6, .long 0), (0, .ref y), (1, .int 0), (2, .long 10485770), (4, .long 10485770)]) hx hb dX12_join_13 hl (by decide) rfl (fun ls hl => ?_)
    refine lv_iload hx hb dX12_join_15 (lv_at hl 0 rfl) ?_
    refine lv_aload_n hx hb dX12_join_17 rfl (lv_at hl 3 rfl) ?_
    refine va_get (C := RX12) (T := TX12) (N := 43) (v := .ref (qq 0)) hx hb hts hi_X12_join_X12 hown hK hP 0 rfl rfl 0 (by decide) (hts (.fieldLink RX12 7 "BothWaysModel" "states" "[I") (by decide +kernel)) (fun _ h => h) rfl dX12_join_18 ?_
    refine lv_iload_n hx hb dX12_join_21 rfl (lv_at hl 4 rfl) ?_
    refine w_iald (v := 1) hx hb hK hP 1 rfl dX12_join_22 (inC (by decide)) rfl ?_
    refine icmp_ge_f hx hb dX12_join_23 59 (by decide) (by decide) ?_
    refine lv_lload hx hb dX12_join_26 (lv_at hl 2 rfl) ?_
    refine lv_aload_n hx hb dX12_join_28 rfl (lv_at hl 3 rfl) ?_
    refine lv_lload_n hx hb dX12_join_29 rfl (lv_at hl 5 rfl) ?_
    refine lv_lload hx hb dX12_join_30 (lv_at hl 6 rfl) ?_
    refine lv_iload hx hb dX12_join_32 (lv_at hl 1 rfl) ?_
    refine lv_iload hx hb dX12_join_34 (lv_at hl 0 rfl) ?_
    refine cj_i 0 0 (wr := [((qq 0), .inl (cT 0, 2, .inl (fun _ => 1)))]) (va_runV (As := [.long 10485770, .long 10485770, .int 0, .int 0]) (rest := [.long 0]) ⟨hx, hb, hml, hown, hts⟩ (c_M_through_0 l g cT H.size y qq z6 z12 z14 z15 z16 z17 z19 z21 z22 z23 z24 z26 z30) (cwV 4 hts gX12_join_X12_through rfl rfl rfl yd_X12_through ⟨(Nat.le_of_ble_eq_true rfl), (Nat.le_of_ble_eq_true rfl)⟩) (preV (wc := [(y, .inr (12, [.ref (qq 0), .ref (qq 1), .ref (qq 2), .ref (qq 3), .ref (qq 4), .ref (qq 5), .int z6, .ref (qq 7), .ref (qq 8), .ref (qq 9), .ref (qq 10), .ref (qq 11), .int z12, .ref (qq 13), .int z14, .int z15, .int z16, .int z17, .ref (qq 18), .int z19, .ref (qq 20), .int z21, .int z22, .int z23, .int z24, .ref (qq 25), .int z26, .ref (qq 27), .ref (qq 28), .ref (qq 29), .int z30, .ref (qq 31), .ref (qq 32), .ref (qq 33), .ref (qq 34), .ref (qq 35), .ref (qq 36), .ref (qq 37), .ref (qq 38), .ref (qq 39), .ref (qq 40), .ref (qq 41), .ref (qq 42)]))]) rfl hP hD hK hN hZ hS hA [0] rfl (by decide) (ci := 12) (q0 := 0) rfl rfl) rfl rfl hl.1 rfl (lv_room (Nat.le_of_ble_eq_true rfl)) dX12_join_36 ⟨(Nat.le_of_ble_eq_true rfl), (Nat.le_of_ble_eq_true rfl)⟩) hP hD hS hA [0] [1] rfl rfl (by decide) (by decide) (Nat.le_of_ble_eq_true rfl) (Nat.le_of_ble_eq_true rfl) (fun r_1 u H locs h_2 hP hD hS => ?_)
    have hP : va_P g vwCl [((qq 0), .inl (cT 0, 2, .inl (fun _ => 1))), (y, .inr (12, [.ref (qq 0), .ref (qq 1), .ref (qq 2), .ref (qq 3), .ref (qq 4), .ref (qq 5), .int z6, .ref (qq 7), .ref (qq 8), .ref (qq 9), .ref (qq 10), .ref (qq 11), .int z12, .ref (qq 13), .int z14, .int z15, .int z16, .int z17, .ref (qq 18), .int z19, .ref (qq 20), .int z21, .int z22, .int z23, .int z24, .ref (qq 25), .int z26, .ref (qq 27), .ref (qq 28), .ref (qq 29), .int z30, .ref (qq 31), .ref (qq 32), .ref (qq 33), .ref (qq 34), .ref (qq 35), .ref (qq 36), .ref (qq 37), .ref (qq 38), .ref (qq 39), .ref (qq 40), .ref (qq 41), .ref (qq 42)]))] H := hP
    have hD : va_D A [((qq 0), .inl (cT 0, 2, .inl (fun _ => 1))), (y, .inr (12, [.ref (qq 0), .ref (qq 1), .ref (qq 2), .ref (qq 3), .ref (qq 4), .ref (qq 5), .int z6, .ref (qq 7), .ref (qq 8), .ref (qq 9), .ref (qq 10), .ref (qq 11), .int z12, .ref (qq 13), .int z14, .int z15, .int z16, .int z17, .ref (qq 18), .int z19, .ref (qq 20), .int z21, .int z22, .int z23, .int z24, .ref (qq 25), .int z26, .ref (qq 27), .ref (qq 28), .ref (qq 29), .int z30, .ref (qq 31), .ref (qq 32), .ref (qq 33), .ref (qq 34), .ref (qq 35), .ref (qq 36), .ref (qq 37), .ref (qq 38), .ref (qq 39), .ref (qq 40), .ref (qq 41), .ref (qq 42)]))] := hD
    subst h_2
    refine lv_i2l (v := 10) hx hb dX12_join_39 (by decide) ?_
    refine lv_iconst (v := 4) hx hb dX12_join_40 (by decide) ?_
    refine lv_iconst (v := 5) hx hb dX12_join_41 (by decide) ?_
    refine lv_iload hx hb dX12_join_42 (lv_at hl 1 rfl) ?_
    refine w_imul (v := 0) hx hb dX12_join_44 (by decide) ?_
    refine lv_iload hx hb dX12_join_45 (lv_at hl 0 rfl) ?_
    refine w_iadd (v := 0) hx hb dX12_join_47 (by decide) ?_
    refine w_imul (v := 0) hx hb dX12_join_48 (by decide) ?_
    refine lv_lshl (v := 10) hx hb dX12_join_49 (by decide) ?_
    refine w_lor (v := 10) hx hb dX12_join_50 (by decide) ?_
    refine lv_lstore (lv' := [(6, .long 10), (9, .int 0), (8, .int 0), (0, .ref y), (1, .int 0), (2, .long 10485770), (4, .long 10485770)]) hx hb dX12_join_51 hl (by decide) rfl (fun ls hl => ?_)
    refine lv_iinc (v := 1) (lv' := [(9, .int 1), (6, .long 10), (8, .int 0), (0, .ref y), (1, .int 0), (2, .long 10485770), (4, .long 10485770)]) hx hb dX12_join_53 hl (k := 1) rfl (by decide) (by decide) rfl (fun ls hl => ?_)
    refine lv_goto (tgt := 15) hx hb dX12_join_56 (by decide) ?_
    refine lv_iload hx hb dX12_join_15 (lv_at hl 0 rfl) ?_
    refine lv_aload_n hx hb dX12_join_17 rfl (lv_at hl 3 rfl) ?_
    refine va_get (C := RX12) (T := TX12) (N := 43) (v := .ref (qq 0)) hx hb hts hi_X12_join_X12 hown hK hP 1 rfl rfl 0 (by decide) (hts (.fieldLink RX12 7 "BothWaysModel" "states" "[I") (by decide +kernel)) (fun _ h => h) rfl dX12_join_18 ?_
    refine lv_iload_n hx hb dX12_join_21 rfl (lv_at hl 4 rfl) ?_
    refine w_iald (v := 1) hx hb hK hP 0 rfl dX12_join_22 (inC (by decide)) rfl ?_
    refine icmp_ge_t hx hb 59 dX12_join_23 (by decide) (by decide) ?_
    refine lv_iinc (v := 1) (lv' := [(8, .int 1), (9, .int 1), (6, .long 10), (0, .ref y), (1, .int 0), (2, .long 10485770), (4, .long 10485770)]) hx hb dX12_join_59 hl (k := 2) rfl (by decide) (by decide) rfl (fun ls hl => ?_)
    refine lv_goto (tgt := 6) hx hb dX12_join_62 (by decide) ?_
    refine lv_iload hx hb dX12_join_6 (lv_at hl 0 rfl) ?_
    refine lv_iconst (v := 2) hx hb dX12_join_8 (by decide) ?_
    refine icmp_ge_f hx hb dX12_join_9 65 (by decide) (by decide) ?_
    refine lv_iconst (v := 0) hx hb dX12_join_12 (by decide) ?_
    refine lv_istore (lv' := [(9, .int 0), (8, .int 1), (6, .long 10), (0, .ref y), (1, .int 0), (2, .long 10485770), (4, .long 10485770)]) hx hb dX12_join_13 hl (by decide) rfl (fun ls hl => ?_)
    refine lv_iload hx hb dX12_join_15 (lv_at hl 0 rfl) ?_
    refine lv_aload_n hx hb dX12_join_17 rfl (lv_at hl 3 rfl) ?_
    refine va_get (C := RX12) (T := TX12) (N := 43) (v := .ref (qq 0)) hx hb hts hi_X12_join_X12 hown hK hP 1 rfl rfl 0 (by decide) (hts (.fieldLink RX12 7 "BothWaysModel" "states" "[I") (by decide +kernel)) (fun _ h => h) rfl dX12_join_18 ?_
    refine lv_iload_n hx hb dX12_join_21 rfl (lv_at hl 4 rfl) ?_
    refine w_iald (v := 1) hx hb hK hP 0 rfl dX12_join_22 (inC (by decide)) rfl ?_
    refine icmp_ge_f hx hb dX12_join_23 59 (by decide) (by decide) ?_
    refine lv_lload hx hb dX12_join_26 (lv_at hl 2 rfl) ?_
    refine lv_aload_n hx hb dX12_join_28 rfl (lv_at hl 3 rfl) ?_
    refine lv_lload_n hx hb dX12_join_29 rfl (lv_at hl 5 rfl) ?_
    refine lv_lload hx hb dX12_join_30 (lv_at hl 6 rfl) ?_
    refine lv_iload hx hb dX12_join_32 (lv_at hl 1 rfl) ?_
    refine lv_iload hx hb dX12_join_34 (lv_at hl 0 rfl) ?_
    refine cj_i 0 0 (wr := [((qq 0), .inl (cT 0, 2, .inl (fun _ => 1)))]) (va_runV (As := [.long 10485770, .long 10485770, .int 1, .int 0]) (rest := [.long 10]) ⟨hx, hb, hml, hown, hts⟩ (c_M_through_1 l g cT H.size y qq z6 z12 z14 z15 z16 z17 z19 z21 z22 z23 z24 z26 z30) (cwV 4 hts gX12_join_X12_through rfl rfl rfl yd_X12_through ⟨(Nat.le_of_ble_eq_true rfl), (Nat.le_of_ble_eq_true rfl)⟩) (preV (wc := [(y, .inr (12, [.ref (qq 0), .ref (qq 1), .ref (qq 2), .ref (qq 3), .ref (qq 4), .ref (qq 5), .int z6, .ref (qq 7), .ref (qq 8), .ref (qq 9), .ref (qq 10), .ref (qq 11), .int z12, .ref (qq 13), .int z14, .int z15, .int z16, .int z17, .ref (qq 18), .int z19, .ref (qq 20), .int z21, .int z22, .int z23, .int z24, .ref (qq 25), .int z26, .ref (qq 27), .ref (qq 28), .ref (qq 29), .int z30, .ref (qq 31), .ref (qq 32), .ref (qq 33), .ref (qq 34), .ref (qq 35), .ref (qq 36), .ref (qq 37), .ref (qq 38), .ref (qq 39), .ref (qq 40), .ref (qq 41), .ref (qq 42)]))]) rfl hP hD hK hN hZ hS hA [1] rfl (by decide) (ci := 12) (q0 := 1) rfl rfl) rfl rfl hl.1 rfl (lv_room (Nat.le_of_ble_eq_true rfl)) dX12_join_36 ⟨(Nat.le_of_ble_eq_true rfl), (Nat.le_of_ble_eq_true rfl)⟩) hP hD hS hA [1] [0] rfl rfl (by decide) (by decide) (Nat.le_of_ble_eq_true rfl) (Nat.le_of_ble_eq_true rfl) (fun r_3 u H locs h_4 hP hD hS => ?_)
    have hP : va_P g vwCl [((qq 0), .inl (cT 0, 2, .inl (fun _ => 1))), (y, .inr (12, [.ref (qq 0), .ref (qq 1), .ref (qq 2), .ref (qq 3), .ref (qq 4), .ref (qq 5), .int z6, .ref (qq 7), .ref (qq 8), .ref (qq 9), .ref (qq 10), .ref (qq 11), .int z12, .ref (qq 13), .int z14, .int z15, .int z16, .int z17, .ref (qq 18), .int z19, .ref (qq 20), .int z21, .int z22, .int z23, .int z24, .ref (qq 25), .int z26, .ref (qq 27), .ref (qq 28), .ref (qq 29), .int z30, .ref (qq 31), .ref (qq 32), .ref (qq 33), .ref (qq 34), .ref (qq 35), .ref (qq 36), .ref (qq 37), .ref (qq 38), .ref (qq 39), .ref (qq 40), .ref (qq 41), .ref (qq 42)]))] H := hP
    have hD : va_D A [((qq 0), .inl (cT 0, 2, .inl (fun _ => 1))), (y, .inr (12, [.ref (qq 0), .ref (qq 1), .ref (qq 2), .ref (qq 3), .ref (qq 4), .ref (qq 5), .int z6, .ref (qq 7), .ref (qq 8), .ref (qq 9), .ref (qq 10), .ref (qq 11), .int z12, .ref (qq 13), .int z14, .int z15, .int z16, .int z17, .ref (qq 18), .int z19, .ref (qq 20), .int z21, .int z22, .int z23, .int z24, .ref (qq 25), .int z26, .ref (qq 27), .ref (qq 28), .ref (qq 29), .int z30, .ref (qq 31), .ref (qq 32), .ref (qq 33), .ref (qq 34), .ref (qq 35), .ref (qq 36), .ref (qq 37), .ref (qq 38), .ref (qq 39), .ref (qq 40), .ref (qq 41), .ref (qq 42)]))] := hD
    subst h_4
    refine lv_i2l (v := 10) hx hb dX12_join_39 (by decide) ?_
    refine lv_iconst (v := 4) hx hb dX12_join_40 (by decide) ?_
    refine lv_iconst (v := 5) hx hb dX12_join_41 (by decide) ?_
    refine lv_iload hx hb dX12_join_42 (lv_at hl 1 rfl) ?_
    refine w_imul (v := 5) hx hb dX12_join_44 (by decide) ?_
    refine lv_iload hx hb dX12_join_45 (lv_at hl 0 rfl) ?_
    refine w_iadd (v := 5) hx hb dX12_join_47 (by decide) ?_
    refine w_imul (v := 20) hx hb dX12_join_48 (by decide) ?_
    refine lv_lshl (v := 10485760) hx hb dX12_join_49 (by decide) ?_
    refine w_lor (v := 10485770) hx hb dX12_join_50 (by decide) ?_
    refine lv_lstore (lv' := [(6, .long 10485770), (9, .int 0), (8, .int 1), (0, .ref y), (1, .int 0), (2, .long 10485770), (4, .long 10485770)]) hx hb dX12_join_51 hl (by decide) rfl (fun ls hl => ?_)
    refine lv_iinc (v := 1) (lv' := [(9, .int 1), (6, .long 10485770), (8, .int 1), (0, .ref y), (1, .int 0), (2, .long 10485770), (4, .long 10485770)]) hx hb dX12_join_53 hl (k := 1) rfl (by decide) (by decide) rfl (fun ls hl => ?_)
    refine lv_goto (tgt := 15) hx hb dX12_join_56 (by decide) ?_
    refine lv_iload hx hb dX12_join_15 (lv_at hl 0 rfl) ?_
    refine lv_aload_n hx hb dX12_join_17 rfl (lv_at hl 3 rfl) ?_
    refine va_get (C := RX12) (T := TX12) (N := 43) (v := .ref (qq 0)) hx hb hts hi_X12_join_X12 hown hK hP 1 rfl rfl 0 (by decide) (hts (.fieldLink RX12 7 "BothWaysModel" "states" "[I") (by decide +kernel)) (fun _ h => h) rfl dX12_join_18 ?_
    refine lv_iload_n hx hb dX12_join_21 rfl (lv_at hl 4 rfl) ?_
    refine w_iald (v := 1) hx hb hK hP 0 rfl dX12_join_22 (inC (by decide)) rfl ?_
    refine icmp_ge_t hx hb 59 dX12_join_23 (by decide) (by decide) ?_
    refine lv_iinc (v := 2) (lv' := [(8, .int 2), (9, .int 1), (6, .long 10485770), (0, .ref y), (1, .int 0), (2, .long 10485770), (4, .long 10485770)]) hx hb dX12_join_59 hl (k := 2) rfl (by decide) (by decide) rfl (fun ls hl => ?_)
    refine lv_goto (tgt := 6) hx hb dX12_join_62 (by decide) ?_
    refine lv_iload hx hb dX12_join_6 (lv_at hl 0 rfl) ?_
    refine lv_iconst (v := 2) hx hb dX12_join_8 (by decide) ?_
    refine icmp_ge_t hx hb 65 dX12_join_9 (by decide) (by decide) ?_
    refine lv_lload hx hb dX12_join_65 (lv_at hl 2 rfl) ?_
    exact rt_l hx hb hr hlocks hQ hP hD hS () [1, 0] dX12_join_67 (Nat.le_of_ble_eq_true rfl) (Nat.le_of_ble_eq_true rfl) rfl (by decide) rfl
  rw [hH, hlo] at hgo
  exact hgo
abbrev rm_c_M_join_1 : Room := { frames := 2, cells := 0, slots := 0, locals := 55 }
set_option maxHeartbeats 4000000 in
set_option maxRecDepth 100000 in
theorem c_M_join_1 (l : Launch) (g : va_G) (cT : Nat → ClassId) (sz : Nat) (y : Nat) (qq : Nat → Nat) (z6 : Int32) (z12 : Int32) (z14 : Int32) (z15 : Int32) (z16 : Int32) (z17 : Int32) (z19 : Int32) (z21 : Int32) (z22 : Int32) (z23 : Int32) (z24 : Int32) (z26 : Int32) (z30 : Int32)  : Ctr l g cT sz yX12_join wsX12_join rm_c_M_join_1 [.ref y, .int 1, .long 10485770, .long 10485770] [(y, .inr (12, [.ref (qq 0), .ref (qq 1), .ref (qq 2), .ref (qq 3), .ref (qq 4), .ref (qq 5), .int z6, .ref (qq 7), .ref (qq 8), .ref (qq 9), .ref (qq 10), .ref (qq 11), .int z12, .ref (qq 13), .int z14, .int z15, .int z16, .int z17, .ref (qq 18), .int z19, .ref (qq 20), .int z21, .int z22, .int z23, .int z24, .ref (qq 25), .int z26, .ref (qq 27), .ref (qq 28), .ref (qq 29), .int z30, .ref (qq 31), .ref (qq 32), .ref (qq 33), .ref (qq 34), .ref (qq 35), .ref (qq 36), .ref (qq 37), .ref (qq 38), .ref (qq 39), .ref (qq 40), .ref (qq 41), .ref (qq 42)])), ((qq 0), .inl (cT 0, 2, .inl (fun _ => 1)))] (QL g (fun (r : Int64) (u : Unit) => r = 10485770) (fun (u : Unit) => [(y, .inr (12, [.ref (qq 0), .ref (qq 1), .ref (qq 2), .ref (qq 3), .ref (qq 4), .ref (qq 5), .int z6, .ref (qq 7), .ref (qq 8), .ref (qq 9), .ref (qq 10), .ref (qq 11), .int z12, .ref (qq 13), .int z14, .int z15, .int z16, .int z17, .ref (qq 18), .int z19, .ref (qq 20), .int z21, .int z22, .int z23, .int z24, .ref (qq 25), .int z26, .ref (qq 27), .ref (qq 28), .ref (qq 29), .int z30, .ref (qq 31), .ref (qq 32), .ref (qq 33), .ref (qq 34), .ref (qq 35), .ref (qq 36), .ref (qq 37), .ref (qq 38), .ref (qq 39), .ref (qq 40), .ref (qq 41), .ref (qq 42)])), ((qq 0), .inl (cT 0, 2, .inl (fun _ => 1)))])) 0 0 := by
  refine mk_ctr (cc := cX12_join) (maxL := 10) (ret := (some .long)) (by decide) rfl (Nat.le_of_ble_eq_true rfl) ?_
  intro p e s m args below meth c A Q hx hb hr hts hown hlocks hin hml hP hK hD hN hZ hA hS hQ ls hl
  have hl : lv_has ls 10 [(0, .ref y), (1, .int 1), (2, .long 10485770), (4, .long 10485770)] := hl
  obtain ⟨H, hH⟩ : ∃ H : Heap, H = s.heap := ⟨_, rfl⟩
  obtain ⟨locs, hlo⟩ : ∃ x : List Loc, x = [] := ⟨_, rfl⟩
  rw [← hH] at hP
  have hS : va_S A s.heap H locs := by rw [hH, hlo]; exact hS
  have hgo : W p l e rm_c_M_join_1 s m args below meth c H locs 0 0 Q (F0 m 0 ls []) := by
    clear hH hlo
    refine lv_lconst (v := 0) hx hb dX12_join_0 (by decide) ?_
    refine lv_lstore (lv' := [(6, .long 0), (0, .ref y), (1, .int 1), (2, .long 10485770), (4, .long 10485770)]) hx hb dX12_join_1 hl (by decide) rfl (fun ls hl => ?_)
    refine lv_iconst (v := 0) hx hb dX12_join_3 (by decide) ?_
    refine lv_istore (lv' := [(8, .int 0), (6, .long 0), (0, .ref y), (1, .int 1), (2, .long 10485770), (4, .long 10485770)]) hx hb dX12_join_4 hl (by decide) rfl (fun ls hl => ?_)
    refine lv_iload hx hb dX12_join_6 (lv_at hl 0 rfl) ?_
    refine lv_iconst (v := 2) hx hb dX12_join_8 (by decide) ?_
    refine icmp_ge_f hx hb dX12_join_9 65 (by decide) (by decide) ?_
    refine lv_iconst (v := 0) hx hb dX12_join_12 (by decide) ?_
    refine lv_istore (lv' := [(9, .int 0), (8, .int 0), (6, .long 0), (0, .ref y), (1, .int 1), (2, .long 10485770), (4, .long 10485770)]) hx hb dX12_join_13 hl (by decide) rfl (fun ls hl => ?_)
    refine lv_iload hx hb dX12_join_15 (lv_at hl 0 rfl) ?_
    refine lv_aload_n hx hb dX12_join_17 rfl (lv_at hl 3 rfl) ?_
    refine va_get (C := RX12) (T := TX12) (N := 43) (v := .ref (qq 0)) hx hb hts hi_X12_join_X12 hown hK hP 0 rfl rfl 0 (by decide) (hts (.fieldLink RX12 7 "BothWaysModel" "states" "[I") (by decide +kernel)) (fun _ h => h) rfl dX12_join_18 ?_
    refine lv_iload_n hx hb dX12_join_21 rfl (lv_at hl 4 rfl) ?_
    refine w_iald (v := 1) hx hb hK hP 1 rfl dX12_join_22 (inC (by decide)) rfl ?_
    refine icmp_ge_f hx hb dX12_join_23 59 (by decide) (by decide) ?_
    refine lv_lload hx hb dX12_join_26 (lv_at hl 2 rfl) ?_
    refine lv_aload_n hx hb dX12_join_28 rfl (lv_at hl 3 rfl) ?_
    refine lv_lload_n hx hb dX12_join_29 rfl (lv_at hl 5 rfl) ?_
    refine lv_lload hx hb dX12_join_30 (lv_at hl 6 rfl) ?_
    refine lv_iload hx hb dX12_join_32 (lv_at hl 1 rfl) ?_
    refine lv_iload hx hb dX12_join_34 (lv_at hl 0 rfl) ?_
    refine cj_i 0 0 (wr := [((qq 0), .inl (cT 0, 2, .inl (fun _ => 1)))]) (va_runV (As := [.long 10485770, .long 10485770, .int 0, .int 0]) (rest := [.long 0]) ⟨hx, hb, hml, hown, hts⟩ (c_M_through_0 l g cT H.size y qq z6 z12 z14 z15 z16 z17 z19 z21 z22 z23 z24 z26 z30) (cwV 4 hts gX12_join_X12_through rfl rfl rfl yd_X12_through ⟨(Nat.le_of_ble_eq_true rfl), (Nat.le_of_ble_eq_true rfl)⟩) (preV (wc := [(y, .inr (12, [.ref (qq 0), .ref (qq 1), .ref (qq 2), .ref (qq 3), .ref (qq 4), .ref (qq 5), .int z6, .ref (qq 7), .ref (qq 8), .ref (qq 9), .ref (qq 10), .ref (qq 11), .int z12, .ref (qq 13), .int z14, .int z15, .int z16, .int z17, .ref (qq 18), .int z19, .ref (qq 20), .int z21, .int z22, .int z23, .int z24, .ref (qq 25), .int z26, .ref (qq 27), .ref (qq 28), .ref (qq 29), .int z30, .ref (qq 31), .ref (qq 32), .ref (qq 33), .ref (qq 34), .ref (qq 35), .ref (qq 36), .ref (qq 37), .ref (qq 38), .ref (qq 39), .ref (qq 40), .ref (qq 41), .ref (qq 42)]))]) rfl hP hD hK hN hZ hS hA [0] rfl (by decide) (ci := 12) (q0 := 0) rfl rfl) rfl rfl hl.1 rfl (lv_room (Nat.le_of_ble_eq_true rfl)) dX12_join_36 ⟨(Nat.le_of_ble_eq_true rfl), (Nat.le_of_ble_eq_true rfl)⟩) hP hD hS hA [0] [1] rfl rfl (by decide) (by decide) (Nat.le_of_ble_eq_true rfl) (Nat.le_of_ble_eq_true rfl) (fun r_1 u H locs h_2 hP hD hS => ?_)
    have hP : va_P g vwCl [((qq 0), .inl (cT 0, 2, .inl (fun _ => 1))), (y, .inr (12, [.ref (qq 0), .ref (qq 1), .ref (qq 2), .ref (qq 3), .ref (qq 4), .ref (qq 5), .int z6, .ref (qq 7), .ref (qq 8), .ref (qq 9), .ref (qq 10), .ref (qq 11), .int z12, .ref (qq 13), .int z14, .int z15, .int z16, .int z17, .ref (qq 18), .int z19, .ref (qq 20), .int z21, .int z22, .int z23, .int z24, .ref (qq 25), .int z26, .ref (qq 27), .ref (qq 28), .ref (qq 29), .int z30, .ref (qq 31), .ref (qq 32), .ref (qq 33), .ref (qq 34), .ref (qq 35), .ref (qq 36), .ref (qq 37), .ref (qq 38), .ref (qq 39), .ref (qq 40), .ref (qq 41), .ref (qq 42)]))] H := hP
    have hD : va_D A [((qq 0), .inl (cT 0, 2, .inl (fun _ => 1))), (y, .inr (12, [.ref (qq 0), .ref (qq 1), .ref (qq 2), .ref (qq 3), .ref (qq 4), .ref (qq 5), .int z6, .ref (qq 7), .ref (qq 8), .ref (qq 9), .ref (qq 10), .ref (qq 11), .int z12, .ref (qq 13), .int z14, .int z15, .int z16, .int z17, .ref (qq 18), .int z19, .ref (qq 20), .int z21, .int z22, .int z23, .int z24, .ref (qq 25), .int z26, .ref (qq 27), .ref (qq 28), .ref (qq 29), .int z30, .ref (qq 31), .ref (qq 32), .ref (qq 33), .ref (qq 34), .ref (qq 35), .ref (qq 36), .ref (qq 37), .ref (qq 38), .ref (qq 39), .ref (qq 40), .ref (qq 41), .ref (qq 42)]))] := hD
    subst h_2
    refine lv_i2l (v := 10) hx hb dX12_join_39 (by decide) ?_
    refine lv_iconst (v := 4) hx hb dX12_join_40 (by decide) ?_
    refine lv_iconst (v := 5) hx hb dX12_join_41 (by decide) ?_
    refine lv_iload hx hb dX12_join_42 (lv_at hl 1 rfl) ?_
    refine w_imul (v := 0) hx hb dX12_join_44 (by decide) ?_
    refine lv_iload hx hb dX12_join_45 (lv_at hl 0 rfl) ?_
    refine w_iadd (v := 0) hx hb dX12_join_47 (by decide) ?_
    refine w_imul (v := 0) hx hb dX12_join_48 (by decide) ?_
    refine lv_lshl (v := 10) hx hb dX12_join_49 (by decide) ?_
    refine w_lor (v := 10) hx hb dX12_join_50 (by decide) ?_
    refine lv_lstore (lv' := [(6, .long 10), (9, .int 0), (8, .int 0), (0, .ref y), (1, .int 1), (2, .long 10485770), (4, .long 10485770)]) hx hb dX12_join_51 hl (by decide) rfl (fun ls hl => ?_)
    refine lv_iinc (v := 1) (lv' := [(9, .int 1), (6, .long 10), (8, .int 0), (0, .ref y), (1, .int 1), (2, .long 10485770), (4, .long 10485770)]) hx hb dX12_join_53 hl (k := 1) rfl (by decide) (by decide) rfl (fun ls hl => ?_)
    refine lv_goto (tgt := 15) hx hb dX12_join_56 (by decide) ?_
    refine lv_iload hx hb dX12_join_15 (lv_at hl 0 rfl) ?_
    refine lv_aload_n hx hb dX12_join_17 rfl (lv_at hl 3 rfl) ?_
    refine va_get (C := RX12) (T := TX12) (N := 43) (v := .ref (qq 0)) hx hb hts hi_X12_join_X12 hown hK hP 1 rfl rfl 0 (by decide) (hts (.fieldLink RX12 7 "BothWaysModel" "states" "[I") (by decide +kernel)) (fun _ h => h) rfl dX12_join_18 ?_
    refine lv_iload_n hx hb dX12_join_21 rfl (lv_at hl 4 rfl) ?_
    refine w_iald (v := 1) hx hb hK hP 0 rfl dX12_join_22 (inC (by decide)) rfl ?_
    refine icmp_ge_t hx hb 59 dX12_join_23 (by decide) (by decide) ?_
    refine lv_iinc (v := 1) (lv' := [(8, .int 1), (9, .int 1), (6, .long 10), (0, .ref y), (1, .int 1), (2, .long 10485770), (4, .long 10485770)]) hx hb dX12_join_59 hl (k := 2) rfl (by decide) (by decide) rfl (fun ls hl => ?_)
    refine lv_goto (tgt := 6) hx hb dX12_join_62 (by decide) ?_
    refine lv_iload hx hb dX12_join_6 (lv_at hl 0 rfl) ?_
    refine lv_iconst (v := 2) hx hb dX12_join_8 (by decide) ?_
    refine icmp_ge_f hx hb dX12_join_9 65 (by decide) (by decide) ?_
    refine lv_iconst (v := 0) hx hb dX12_join_12 (by decide) ?_
    refine lv_istore (lv' := [(9, .int 0), (8, .int 1), (6, .long 10), (0, .ref y), (1, .int 1), (2, .long 10485770), (4, .long 10485770)]) hx hb dX12_join_13 hl (by decide) rfl (fun ls hl => ?_)
    refine lv_iload hx hb dX12_join_15 (lv_at hl 0 rfl) ?_
    refine lv_aload_n hx hb dX12_join_17 rfl (lv_at hl 3 rfl) ?_
    refine va_get (C := RX12) (T := TX12) (N := 43) (v := .ref (qq 0)) hx hb hts hi_X12_join_X12 hown hK hP 1 rfl rfl 0 (by decide) (hts (.fieldLink RX12 7 "BothWaysModel" "states" "[I") (by decide +kernel)) (fun _ h => h) rfl dX12_join_18 ?_
    refine lv_iload_n hx hb dX12_join_21 rfl (lv_at hl 4 rfl) ?_
    refine w_iald (v := 1) hx hb hK hP 0 rfl dX12_join_22 (inC (by decide)) rfl ?_
    refine icmp_ge_f hx hb dX12_join_23 59 (by decide) (by decide) ?_
    refine lv_lload hx hb dX12_join_26 (lv_at hl 2 rfl) ?_
    refine lv_aload_n hx hb dX12_join_28 rfl (lv_at hl 3 rfl) ?_
    refine lv_lload_n hx hb dX12_join_29 rfl (lv_at hl 5 rfl) ?_
    refine lv_lload hx hb dX12_join_30 (lv_at hl 6 rfl) ?_
    refine lv_iload hx hb dX12_join_32 (lv_at hl 1 rfl) ?_
    refine lv_iload hx hb dX12_join_34 (lv_at hl 0 rfl) ?_
    refine cj_i 0 0 (wr := [((qq 0), .inl (cT 0, 2, .inl (fun _ => 1)))]) (va_runV (As := [.long 10485770, .long 10485770, .int 1, .int 0]) (rest := [.long 10]) ⟨hx, hb, hml, hown, hts⟩ (c_M_through_1 l g cT H.size y qq z6 z12 z14 z15 z16 z17 z19 z21 z22 z23 z24 z26 z30) (cwV 4 hts gX12_join_X12_through rfl rfl rfl yd_X12_through ⟨(Nat.le_of_ble_eq_true rfl), (Nat.le_of_ble_eq_true rfl)⟩) (preV (wc := [(y, .inr (12, [.ref (qq 0), .ref (qq 1), .ref (qq 2), .ref (qq 3), .ref (qq 4), .ref (qq 5), .int z6, .ref (qq 7), .ref (qq 8), .ref (qq 9), .ref (qq 10), .ref (qq 11), .int z12, .ref (qq 13), .int z14, .int z15, .int z16, .int z17, .ref (qq 18), .int z19, .ref (qq 20), .int z21, .int z22, .int z23, .int z24, .ref (qq 25), .int z26, .ref (qq 27), .ref (qq 28), .ref (qq 29), .int z30, .ref (qq 31), .ref (qq 32), .ref (qq 33), .ref (qq 34), .ref (qq 35), .ref (qq 36), .ref (qq 37), .ref (qq 38), .ref (qq 39), .ref (qq 40), .ref (qq 41), .ref (qq 42)]))]) rfl hP hD hK hN hZ hS hA [1] rfl (by decide) (ci := 12) (q0 := 1) rfl rfl) rfl rfl hl.1 rfl (lv_room (Nat.le_of_ble_eq_true rfl)) dX12_join_36 ⟨(Nat.le_of_ble_eq_true rfl), (Nat.le_of_ble_eq_true rfl)⟩) hP hD hS hA [1] [0] rfl rfl (by decide) (by decide) (Nat.le_of_ble_eq_true rfl) (Nat.le_of_ble_eq_true rfl) (fun r_3 u H locs h_4 hP hD hS => ?_)
    have hP : va_P g vwCl [((qq 0), .inl (cT 0, 2, .inl (fun _ => 1))), (y, .inr (12, [.ref (qq 0), .ref (qq 1), .ref (qq 2), .ref (qq 3), .ref (qq 4), .ref (qq 5), .int z6, .ref (qq 7), .ref (qq 8), .ref (qq 9), .ref (qq 10), .ref (qq 11), .int z12, .ref (qq 13), .int z14, .int z15, .int z16, .int z17, .ref (qq 18), .int z19, .ref (qq 20), .int z21, .int z22, .int z23, .int z24, .ref (qq 25), .int z26, .ref (qq 27), .ref (qq 28), .ref (qq 29), .int z30, .ref (qq 31), .ref (qq 32), .ref (qq 33), .ref (qq 34), .ref (qq 35), .ref (qq 36), .ref (qq 37), .ref (qq 38), .ref (qq 39), .ref (qq 40), .ref (qq 41), .ref (qq 42)]))] H := hP
    have hD : va_D A [((qq 0), .inl (cT 0, 2, .inl (fun _ => 1))), (y, .inr (12, [.ref (qq 0), .ref (qq 1), .ref (qq 2), .ref (qq 3), .ref (qq 4), .ref (qq 5), .int z6, .ref (qq 7), .ref (qq 8), .ref (qq 9), .ref (qq 10), .ref (qq 11), .int z12, .ref (qq 13), .int z14, .int z15, .int z16, .int z17, .ref (qq 18), .int z19, .ref (qq 20), .int z21, .int z22, .int z23, .int z24, .ref (qq 25), .int z26, .ref (qq 27), .ref (qq 28), .ref (qq 29), .int z30, .ref (qq 31), .ref (qq 32), .ref (qq 33), .ref (qq 34), .ref (qq 35), .ref (qq 36), .ref (qq 37), .ref (qq 38), .ref (qq 39), .ref (qq 40), .ref (qq 41), .ref (qq 42)]))] := hD
    subst h_4
    refine lv_i2l (v := 10) hx hb dX12_join_39 (by decide) ?_
    refine lv_iconst (v := 4) hx hb dX12_join_40 (by decide) ?_
    refine lv_iconst (v := 5) hx hb dX12_join_41 (by decide) ?_
    refine lv_iload hx hb dX12_join_42 (lv_at hl 1 rfl) ?_
    refine w_imul (v := 5) hx hb dX12_join_44 (by decide) ?_
    refine lv_iload hx hb dX12_join_45 (lv_at hl 0 rfl) ?_
    refine w_iadd (v := 5) hx hb dX12_join_47 (by decide) ?_
    refine w_imul (v := 20) hx hb dX12_join_48 (by decide) ?_
    refine lv_lshl (v := 10485760) hx hb dX12_join_49 (by decide) ?_
    refine w_lor (v := 10485770) hx hb dX12_join_50 (by decide) ?_
    refine lv_lstore (lv' := [(6, .long 10485770), (9, .int 0), (8, .int 1), (0, .ref y), (1, .int 1), (2, .long 10485770), (4, .long 10485770)]) hx hb dX12_join_51 hl (by decide) rfl (fun ls hl => ?_)
    refine lv_iinc (v := 1) (lv' := [(9, .int 1), (6, .long 10485770), (8, .int 1), (0, .ref y), (1, .int 1), (2, .long 10485770), (4, .long 10485770)]) hx hb dX12_join_53 hl (k := 1) rfl (by decide) (by decide) rfl (fun ls hl => ?_)
    refine lv_goto (tgt := 15) hx hb dX12_join_56 (by decide) ?_
    refine lv_iload hx hb dX12_join_15 (lv_at hl 0 rfl) ?_
    refine lv_aload_n hx hb dX12_join_17 rfl (lv_at hl 3 rfl) ?_
    refine va_get (C := RX12) (T := TX12) (N := 43) (v := .ref (qq 0)) hx hb hts hi_X12_join_X12 hown hK hP 1 rfl rfl 0 (by decide) (hts (.fieldLink RX12 7 "BothWaysModel" "states" "[I") (by decide +kernel)) (fun _ h => h) rfl dX12_join_18 ?_
    refine lv_iload_n hx hb dX12_join_21 rfl (lv_at hl 4 rfl) ?_
    refine w_iald (v := 1) hx hb hK hP 0 rfl dX12_join_22 (inC (by decide)) rfl ?_
    refine icmp_ge_t hx hb 59 dX12_join_23 (by decide) (by decide) ?_
    refine lv_iinc (v := 2) (lv' := [(8, .int 2), (9, .int 1), (6, .long 10485770), (0, .ref y), (1, .int 1), (2, .long 10485770), (4, .long 10485770)]) hx hb dX12_join_59 hl (k := 2) rfl (by decide) (by decide) rfl (fun ls hl => ?_)
    refine lv_goto (tgt := 6) hx hb dX12_join_62 (by decide) ?_
    refine lv_iload hx hb dX12_join_6 (lv_at hl 0 rfl) ?_
    refine lv_iconst (v := 2) hx hb dX12_join_8 (by decide) ?_
    refine icmp_ge_t hx hb 65 dX12_join_9 (by decide) (by decide) ?_
    refine lv_lload hx hb dX12_join_65 (lv_at hl 2 rfl) ?_
    exact rt_l hx hb hr hlocks hQ hP hD hS () [1, 0] dX12_join_67 (Nat.le_of_ble_eq_true rfl) (Nat.le_of_ble_eq_true rfl) rfl (by decide) rfl
  rw [hH, hlo] at hgo
  exact hgo
theorem hi_X12_table_X12 : ∀ w ∈ wsX120, w ∈ wsX12_table := fun _ h => List.mem_cons_of_mem _ (List.mem_append_right _ h)
abbrev rm_c_M_table : Room := { frames := 3, cells := 0, slots := 0, locals := 67 }
theorem lf_c_M_table_0 (x : Int32) (y0 : Int32) (q : Int32) (h_3 : (x = 0 ∨ x = 1) ∧ q = 0) (h_7 : 0 ≤ y0.toInt64 ∧ y0.toInt64 ≤ 1) : ((-4) : Int32) = sp_table x y0 q := by (unfold sp_table; rw [if_pos, if_neg] <;> (simp only [true_or, or_true, false_or, or_false, true_and, and_true, false_and, and_false, not_true_eq_false, not_false_eq_true, i_lt, i_le, i_eq, j_lt, j_le, j_eq, Int32.toInt_toInt64, li_0, lj_0, li_1, lj_1, li_2, lj_2, li_3, lj_3, li_4, lj_4, li_5, lj_5, li_6, lj_6, li_7, lj_7, li_8, lj_8, li_10, lj_10, li_11, lj_11, li_12, lj_12, li_24, lj_24, li_25, lj_25, li_50, lj_50, li_130, lj_130, li_160, lj_160, li_800, lj_800, li_4000, lj_4000, li_10000, lj_10000, li_16384, lj_16384, li_26, lj_26, li_32, lj_32, li_48, lj_48, li_57, lj_57, li_59, lj_59, li_97, lj_97, li_99, lj_99, li_122, lj_122, li_m1, lj_m1, li_m2, lj_m2, li_m3, lj_m3, li_m4, lj_m4, li_m5, lj_m5, li_m6, lj_m6] at * <;> omega))
theorem lf_c_M_table_1 (x : Int32) (y0 : Int32) (q : Int32) (h_3 : (x = 0 ∨ x = 1) ∧ q = 0) (h_8 : ¬ (0 ≤ y0.toInt64 ∧ y0.toInt64 ≤ 1)) : ((-3) : Int32) = sp_table x y0 q := by (unfold sp_table; rw [if_pos, if_pos] <;> (simp only [true_or, or_true, false_or, or_false, true_and, and_true, false_and, and_false, not_true_eq_false, not_false_eq_true, i_lt, i_le, i_eq, j_lt, j_le, j_eq, Int32.toInt_toInt64, li_0, lj_0, li_1, lj_1, li_2, lj_2, li_3, lj_3, li_4, lj_4, li_5, lj_5, li_6, lj_6, li_7, lj_7, li_8, lj_8, li_10, lj_10, li_11, lj_11, li_12, lj_12, li_24, lj_24, li_25, lj_25, li_50, lj_50, li_130, lj_130, li_160, lj_160, li_800, lj_800, li_4000, lj_4000, li_10000, lj_10000, li_16384, lj_16384, li_26, lj_26, li_32, lj_32, li_48, lj_48, li_57, lj_57, li_59, lj_59, li_97, lj_97, li_99, lj_99, li_122, lj_122, li_m1, lj_m1, li_m2, lj_m2, li_m3, lj_m3, li_m4, lj_m4, li_m5, lj_m5, li_m6, lj_m6] at * <;> omega))
theorem lf_c_M_table_2 (x : Int32) (y0 : Int32) (q : Int32) (h_4 : ¬ ((x = 0 ∨ x = 1) ∧ q = 0)) : ((-2) : Int32) = sp_table x y0 q := by (unfold sp_table; rw [if_neg] <;> (simp only [true_or, or_true, false_or, or_false, true_and, and_true, false_and, and_false, not_true_eq_false, not_false_eq_true, i_lt, i_le, i_eq, j_lt, j_le, j_eq, Int32.toInt_toInt64, li_0, lj_0, li_1, lj_1, li_2, lj_2, li_3, lj_3, li_4, lj_4, li_5, lj_5, li_6, lj_6, li_7, lj_7, li_8, lj_8, li_10, lj_10, li_11, lj_11, li_12, lj_12, li_24, lj_24, li_25, lj_25, li_50, lj_50, li_130, lj_130, li_160, lj_160, li_800, lj_800, li_4000, lj_4000, li_10000, lj_10000, li_16384, lj_16384, li_26, lj_26, li_32, lj_32, li_48, lj_48, li_57, lj_57, li_59, lj_59, li_97, lj_97, li_99, lj_99, li_122, lj_122, li_m1, lj_m1, li_m2, lj_m2, li_m3, lj_m3, li_m4, lj_m4, li_m5, lj_m5, li_m6, lj_m6] at * <;> omega))
set_option maxHeartbeats 4000000 in
set_option maxRecDepth 100000 in
theorem c_M_table (l : Launch) (g : va_G) (cT : Nat → ClassId) (sz : Nat) (y : Nat) (qq : Nat → Nat) (z6 : Int32) (z12 : Int32) (z15 : Int32) (z16 : Int32) (z17 : Int32) (z19 : Int32) (z21 : Int32) (z22 : Int32) (z23 : Int32) (z24 : Int32) (z26 : Int32) (z30 : Int32) (x : Int32) (y0 : Int32) (q : Int32)  : Ctr l g cT sz yX12_table wsX12_table rm_c_M_table [.ref y, .int x, .int y0, .int q] [(y, .inr (12, [.ref (qq 0), .ref (qq 1), .ref (qq 2), .ref (qq 3), .ref (qq 4), .ref (qq 5), .int z6, .ref (qq 7), .ref (qq 8), .ref (qq 9), .ref (qq 10), .ref (qq 11), .int z12, .ref (qq 13), .int 0, .int z15, .int z16, .int z17, .ref (qq 18), .int z19, .ref (qq 20), .int z21, .int z22, .int z23, .int z24, .ref (qq 25), .int z26, .ref (qq 27), .ref (qq 28), .ref (qq 29), .int z30, .ref (qq 31), .ref (qq 32), .ref (qq 33), .ref (qq 34), .ref (qq 35), .ref (qq 36), .ref (qq 37), .ref (qq 38), .ref (qq 39), .ref (qq 40), .ref (qq 41), .ref (qq 42)])), ((qq 0), .inl (cT 0, 2, .inl (fun _ => 1)))] (QI g (fun (r : Int32) (u : Unit) => r = sp_table x y0 q) (fun (u : Unit) => [])) 0 0 := by
  refine mk_ctr (cc := cX12_table) (maxL := 4) (ret := (some .int)) (by decide) rfl (Nat.le_of_ble_eq_true rfl) ?_
  intro p e s m args below meth c A Q hx hb hr hts hown hlocks hin hml hP hK hD hN hZ hA hS hQ ls hl
  have hl : lv_has ls 4 [(0, .ref y), (1, .int x), (2, .int y0), (3, .int q)] := hl
  obtain ⟨H, hH⟩ : ∃ H : Heap, H = s.heap := ⟨_, rfl⟩
  obtain ⟨locs, hlo⟩ : ∃ x : List Loc, x = [] := ⟨_, rfl⟩
  rw [← hH] at hP
  have hS : va_S A s.heap H locs := by rw [hH, hlo]; exact hS
  have hgo : W p l e rm_c_M_table s m args below meth c H locs 0 0 Q (F0 m 0 ls []) := by
    clear hH hlo
    refine lv_aload_n hx hb dX12_table_0 rfl (lv_at hl 0 rfl) ?_
    refine lv_iload_n hx hb dX12_table_1 rfl (lv_at hl 1 rfl) ?_
    refine lv_iload_n hx hb dX12_table_2 rfl (lv_at hl 3 rfl) ?_
    refine cj_i 0 0 (wr := []) (va_runV (As := [.int x, .int q]) (rest := []) ⟨hx, hb, hml, hown, hts⟩ (c_M_isState l g cT H.size y qq z6 z12 0 z15 z16 z17 z19 z21 z22 z23 z24 z26 z30 x q) (cwV 2 hts gX12_table_X12_isState rfl rfl rfl yd_X12_isState ⟨(Nat.le_of_ble_eq_true rfl), (Nat.le_of_ble_eq_true rfl)⟩) (preV (wc := [(y, .inr (12, [.ref (qq 0), .ref (qq 1), .ref (qq 2), .ref (qq 3), .ref (qq 4), .ref (qq 5), .int z6, .ref (qq 7), .ref (qq 8), .ref (qq 9), .ref (qq 10), .ref (qq 11), .int z12, .ref (qq 13), .int 0, .int z15, .int z16, .int z17, .ref (qq 18), .int z19, .ref (qq 20), .int z21, .int z22, .int z23, .int z24, .ref (qq 25), .int z26, .ref (qq 27), .ref (qq 28), .ref (qq 29), .int z30, .ref (qq 31), .ref (qq 32), .ref (qq 33), .ref (qq 34), .ref (qq 35), .ref (qq 36), .ref (qq 37), .ref (qq 38), .ref (qq 39), .ref (qq 40), .ref (qq 41), .ref (qq 42)])), ((qq 0), .inl (cT 0, 2, .inl (fun _ => 1)))]) rfl hP hD hK hN hZ hS hA [0, 1] rfl (by decide) (ci := 12) (q0 := 0) rfl rfl) rfl rfl hl.1 rfl (lv_room (Nat.le_of_ble_eq_true rfl)) dX12_table_3 ⟨(Nat.le_of_ble_eq_true rfl), (Nat.le_of_ble_eq_true rfl)⟩) hP hD hS hA [0, 1] [] rfl rfl (by decide) (by decide) (Nat.le_of_ble_eq_true rfl) (Nat.le_of_ble_eq_true rfl) (fun r_1 u H locs h_2 hP hD hS => ?_)
    have hP : va_P g vwCl [(y, .inr (12, [.ref (qq 0), .ref (qq 1), .ref (qq 2), .ref (qq 3), .ref (qq 4), .ref (qq 5), .int z6, .ref (qq 7), .ref (qq 8), .ref (qq 9), .ref (qq 10), .ref (qq 11), .int z12, .ref (qq 13), .int 0, .int z15, .int z16, .int z17, .ref (qq 18), .int z19, .ref (qq 20), .int z21, .int z22, .int z23, .int z24, .ref (qq 25), .int z26, .ref (qq 27), .ref (qq 28), .ref (qq 29), .int z30, .ref (qq 31), .ref (qq 32), .ref (qq 33), .ref (qq 34), .ref (qq 35), .ref (qq 36), .ref (qq 37), .ref (qq 38), .ref (qq 39), .ref (qq 40), .ref (qq 41), .ref (qq 42)])), ((qq 0), .inl (cT 0, 2, .inl (fun _ => 1)))] H := hP
    have hD : va_D A [(y, .inr (12, [.ref (qq 0), .ref (qq 1), .ref (qq 2), .ref (qq 3), .ref (qq 4), .ref (qq 5), .int z6, .ref (qq 7), .ref (qq 8), .ref (qq 9), .ref (qq 10), .ref (qq 11), .int z12, .ref (qq 13), .int 0, .int z15, .int z16, .int z17, .ref (qq 18), .int z19, .ref (qq 20), .int z21, .int z22, .int z23, .int z24, .ref (qq 25), .int z26, .ref (qq 27), .ref (qq 28), .ref (qq 29), .int z30, .ref (qq 31), .ref (qq 32), .ref (qq 33), .ref (qq 34), .ref (qq 35), .ref (qq 36), .ref (qq 37), .ref (qq 38), .ref (qq 39), .ref (qq 40), .ref (qq 41), .ref (qq 42)])), ((qq 0), .inl (cT 0, 2, .inl (fun _ => 1)))] := hD
    rcases h_2 with ⟨rfl, h_3⟩ | ⟨rfl, h_4⟩
    · skip
      refine if_ne_t hx hb 12 dX12_table_6 (by decide) (by decide) ?_
      refine lv_iload_n hx hb dX12_table_12 rfl (lv_at hl 2 rfl) ?_
      refine lv_i2l (v := y0.toInt64) hx hb dX12_table_13 rfl ?_
      refine lv_lconst (v := 0) hx hb dX12_table_14 (by decide) ?_
      refine lv_lconst (v := 1) hx hb dX12_table_15 (by decide) ?_
      refine cp_i (va_runS (As := [.long y0.toInt64, .long 0, .long 1]) (rest := []) ⟨hx, hb, hml, hown, hts⟩ (c_M_in l g cT H.size y0.toInt64 0 1) (va_cwS 3 hts gX12_table_X12_in rfl rfl rfl yd_X12_in.2 ⟨(Nat.le_of_ble_eq_true rfl), (Nat.le_of_ble_eq_true rfl)⟩) (preS (ws := []) (wc := []) rfl (fun _ _ h => by simp at h) (va_D_nil (A := A)) hK hN hZ hS hA [] rfl rfl) rfl rfl hl.1 rfl (lv_room (Nat.le_of_ble_eq_true rfl)) dX12_table_16 ⟨(Nat.le_of_ble_eq_true rfl), (Nat.le_of_ble_eq_true rfl)⟩) hP hS hA (fun r_5 u H locs h_6 hP hS => ?_)
      rcases h_6 with ⟨rfl, h_7⟩ | ⟨rfl, h_8⟩
      · skip
        refine if_ne_t hx hb 25 dX12_table_19 (by decide) (by decide) ?_
        refine lv_aload_n hx hb dX12_table_25 rfl (lv_at hl 0 rfl) ?_
        refine va_get (C := RX12) (T := TX12) (N := 43) (v := .int 0) hx hb hts hi_X12_table_X12 hown hK hP 0 rfl rfl 14 (by decide) (hts (.fieldLink RX12 178 "BothWaysModel" "letters" "I") (by decide +kernel)) (fun _ h => h) rfl dX12_table_26 ?_
        refine if_ne_f hx hb dX12_table_29 37 (by decide) (by decide) ?_
        refine lv_bipush (v := (-4)) hx hb dX12_table_32 (by decide) ?_
        refine lv_goto (tgt := 47) hx hb dX12_table_34 (by decide) ?_
        exact rt_i hx hb hr hlocks hQ hP hD hS () [] dX12_table_47 rfl (Nat.le_of_ble_eq_true rfl) (Nat.le_of_ble_eq_true rfl) rfl (by decide) (lf_c_M_table_0 x y0 q h_3 h_7)
      · skip
        refine if_ne_f hx hb dX12_table_19 25 (by decide) (by decide) ?_
        refine lv_bipush (v := (-3)) hx hb dX12_table_22 (by decide) ?_
        exact rt_i hx hb hr hlocks hQ hP hD hS () [] dX12_table_24 rfl (Nat.le_of_ble_eq_true rfl) (Nat.le_of_ble_eq_true rfl) rfl (by decide) (lf_c_M_table_1 x y0 q h_3 h_8)
    · skip
      refine if_ne_f hx hb dX12_table_6 12 (by decide) (by decide) ?_
      refine lv_bipush (v := (-2)) hx hb dX12_table_9 (by decide) ?_
      exact rt_i hx hb hr hlocks hQ hP hD hS () [] dX12_table_11 rfl (Nat.le_of_ble_eq_true rfl) (Nat.le_of_ble_eq_true rfl) rfl (by decide) (lf_c_M_table_2 x y0 q h_4)
  rw [hH, hlo] at hgo
  exact hgo
theorem hi_X12_kindOf_X12 : ∀ w ∈ wsX120, w ∈ wsX12_kindOf := fun _ h => List.mem_cons_of_mem _ (List.mem_append_right _ h)
abbrev rm_c_M_kindOf_0 : Room := { frames := 0, cells := 0, slots := 0, locals := 0 }
set_option maxHeartbeats 4000000 in
set_option maxRecDepth 100000 in
theorem c_M_kindOf_0 (l : Launch) (g : va_G) (cT : Nat → ClassId) (sz : Nat) (y : Nat) (qq : Nat → Nat) (z6 : Int32) (z12 : Int32) (z14 : Int32) (z15 : Int32) (z16 : Int32) (z17 : Int32) (z19 : Int32) (z21 : Int32) (z22 : Int32) (z23 : Int32) (z24 : Int32) (z26 : Int32) (t : Int64)  : Ctr l g cT sz yX12_kindOf wsX12_kindOf rm_c_M_kindOf_0 [.ref y, .long t] [(y, .inr (12, [.ref (qq 0), .ref (qq 1), .ref (qq 2), .ref (qq 3), .ref (qq 4), .ref (qq 5), .int z6, .ref (qq 7), .ref (qq 8), .ref (qq 9), .ref (qq 10), .ref (qq 11), .int z12, .ref (qq 13), .int z14, .int z15, .int z16, .int z17, .ref (qq 18), .int z19, .ref (qq 20), .int z21, .int z22, .int z23, .int z24, .ref (qq 25), .int z26, .ref (qq 27), .ref (qq 28), .ref (qq 29), .int 0, .ref (qq 31), .ref (qq 32), .ref (qq 33), .ref (qq 34), .ref (qq 35), .ref (qq 36), .ref (qq 37), .ref (qq 38), .ref (qq 39), .ref (qq 40), .ref (qq 41), .ref (qq 42)]))] (QI g (fun (r : Int32) (u : Unit) => r = (-1)) (fun (u : Unit) => [(y, .inr (12, [.ref (qq 0), .ref (qq 1), .ref (qq 2), .ref (qq 3), .ref (qq 4), .ref (qq 5), .int z6, .ref (qq 7), .ref (qq 8), .ref (qq 9), .ref (qq 10), .ref (qq 11), .int z12, .ref (qq 13), .int z14, .int z15, .int z16, .int z17, .ref (qq 18), .int z19, .ref (qq 20), .int z21, .int z22, .int z23, .int z24, .ref (qq 25), .int z26, .ref (qq 27), .ref (qq 28), .ref (qq 29), .int 0, .ref (qq 31), .ref (qq 32), .ref (qq 33), .ref (qq 34), .ref (qq 35), .ref (qq 36), .ref (qq 37), .ref (qq 38), .ref (qq 39), .ref (qq 40), .ref (qq 41), .ref (qq 42)]))])) 0 0 := by
  refine mk_ctr (cc := cX12_kindOf) (maxL := 4) (ret := (some .int)) (by decide) rfl (Nat.le_of_ble_eq_true rfl) ?_
  intro p e s m args below meth c A Q hx hb hr hts hown hlocks hin hml hP hK hD hN hZ hA hS hQ ls hl
  have hl : lv_has ls 4 [(0, .ref y), (1, .long t)] := hl
  obtain ⟨H, hH⟩ : ∃ H : Heap, H = s.heap := ⟨_, rfl⟩
  obtain ⟨locs, hlo⟩ : ∃ x : List Loc, x = [] := ⟨_, rfl⟩
  rw [← hH] at hP
  have hS : va_S A s.heap H locs := by rw [hH, hlo]; exact hS
  have hgo : W p l e rm_c_M_kindOf_0 s m args below meth c H locs 0 0 Q (F0 m 0 ls []) := by
    clear hH hlo
    refine lv_iconst (v := 0) hx hb dX12_kindOf_0 (by decide) ?_
    refine lv_istore_n (lv' := [(3, .int 0), (0, .ref y), (1, .long t)]) hx hb dX12_kindOf_1 rfl hl (by decide) rfl (fun ls hl => ?_)
    refine lv_iload_n hx hb dX12_kindOf_2 rfl (lv_at hl 0 rfl) ?_
    refine lv_aload_n hx hb dX12_kindOf_3 rfl (lv_at hl 1 rfl) ?_
    refine va_get (C := RX12) (T := TX12) (N := 43) (v := .int 0) hx hb hts hi_X12_kindOf_X12 hown hK hP 0 rfl rfl 30 (by decide) (hts (.fieldLink RX12 234 "BothWaysModel" "kindMany" "I") (by decide +kernel)) (fun _ h => h) rfl dX12_kindOf_4 ?_
    refine icmp_ge_t hx hb 29 dX12_kindOf_7 (by decide) (by decide) ?_
    refine lv_iconst (v := (-1)) hx hb dX12_kindOf_29 (by decide) ?_
    exact rt_i hx hb hr hlocks hQ hP hD hS () [0] dX12_kindOf_30 rfl (Nat.le_of_ble_eq_true rfl) (Nat.le_of_ble_eq_true rfl) rfl (by decide) rfl
  rw [hH, hlo] at hgo
  exact hgo
abbrev rm_c_M_kindOf_1 : Room := { frames := 0, cells := 0, slots := 0, locals := 0 }
set_option maxHeartbeats 4000000 in
set_option maxRecDepth 100000 in
theorem c_M_kindOf_1 (l : Launch) (g : va_G) (cT : Nat → ClassId) (sz : Nat) (y : Nat) (qq : Nat → Nat) (z6 : Int32) (z12 : Int32) (z14 : Int32) (z15 : Int32) (z16 : Int32) (z17 : Int32) (z19 : Int32) (z21 : Int32) (z22 : Int32) (z23 : Int32) (z24 : Int32) (z26 : Int32)  : Ctr l g cT sz yX12_kindOf wsX12_kindOf rm_c_M_kindOf_1 [.ref y, .long 10485770] [(y, .inr (12, [.ref (qq 0), .ref (qq 1), .ref (qq 2), .ref (qq 3), .ref (qq 4), .ref (qq 5), .int z6, .ref (qq 7), .ref (qq 8), .ref (qq 9), .ref (qq 10), .ref (qq 11), .int z12, .ref (qq 13), .int z14, .int z15, .int z16, .int z17, .ref (qq 18), .int z19, .ref (qq 20), .int z21, .int z22, .int z23, .int z24, .ref (qq 25), .int z26, .ref (qq 27), .ref (qq 28), .ref (qq 29), .int 1, .ref (qq 31), .ref (qq 32), .ref (qq 33), .ref (qq 34), .ref (qq 35), .ref (qq 36), .ref (qq 37), .ref (qq 38), .ref (qq 39), .ref (qq 40), .ref (qq 41), .ref (qq 42)])), ((qq 27), .inl (cT 1, 4001, .inr (.inl (vp_updL (fun _ => 0) 0 10485770))))] (QI g (fun (r : Int32) (u : Unit) => r = 0) (fun (u : Unit) => [(y, .inr (12, [.ref (qq 0), .ref (qq 1), .ref (qq 2), .ref (qq 3), .ref (qq 4), .ref (qq 5), .int z6, .ref (qq 7), .ref (qq 8), .ref (qq 9), .ref (qq 10), .ref (qq 11), .int z12, .ref (qq 13), .int z14, .int z15, .int z16, .int z17, .ref (qq 18), .int z19, .ref (qq 20), .int z21, .int z22, .int z23, .int z24, .ref (qq 25), .int z26, .ref (qq 27), .ref (qq 28), .ref (qq 29), .int 1, .ref (qq 31), .ref (qq 32), .ref (qq 33), .ref (qq 34), .ref (qq 35), .ref (qq 36), .ref (qq 37), .ref (qq 38), .ref (qq 39), .ref (qq 40), .ref (qq 41), .ref (qq 42)])), ((qq 27), .inl (cT 1, 4001, .inr (.inl (vp_updL (fun _ => 0) 0 10485770))))])) 0 0 := by
  refine mk_ctr (cc := cX12_kindOf) (maxL := 4) (ret := (some .int)) (by decide) rfl (Nat.le_of_ble_eq_true rfl) ?_
  intro p e s m args below meth c A Q hx hb hr hts hown hlocks hin hml hP hK hD hN hZ hA hS hQ ls hl
  have hl : lv_has ls 4 [(0, .ref y), (1, .long 10485770)] := hl
  obtain ⟨H, hH⟩ : ∃ H : Heap, H = s.heap := ⟨_, rfl⟩
  obtain ⟨locs, hlo⟩ : ∃ x : List Loc, x = [] := ⟨_, rfl⟩
  rw [← hH] at hP
  have hS : va_S A s.heap H locs := by rw [hH, hlo]; exact hS
  have hgo : W p l e rm_c_M_kindOf_1 s m args below meth c H locs 0 0 Q (F0 m 0 ls []) := by
    clear hH hlo
    refine lv_iconst (v := 0) hx hb dX12_kindOf_0 (by decide) ?_
    refine lv_istore_n (lv' := [(3, .int 0), (0, .ref y), (1, .long 10485770)]) hx hb dX12_kindOf_1 rfl hl (by decide) rfl (fun ls hl => ?_)
    refine lv_iload_n hx hb dX12_kindOf_2 rfl (lv_at hl 0 rfl) ?_
    refine lv_aload_n hx hb dX12_kindOf_3 rfl (lv_at hl 1 rfl) ?_
    refine va_get (C := RX12) (T := TX12) (N := 43) (v := .int 1) hx hb hts hi_X12_kindOf_X12 hown hK hP 0 rfl rfl 30 (by decide) (hts (.fieldLink RX12 234 "BothWaysModel" "kindMany" "I") (by decide +kernel)) (fun _ h => h) rfl dX12_kindOf_4 ?_
    refine icmp_ge_f hx hb dX12_kindOf_7 29 (by decide) (by decide) ?_
    refine lv_aload_n hx hb dX12_kindOf_10 rfl (lv_at hl 1 rfl) ?_
    refine va_get (C := RX12) (T := TX12) (N := 43) (v := .ref (qq 27)) hx hb hts hi_X12_kindOf_X12 hown hK hP 0 rfl rfl 27 (by decide) (hts (.fieldLink RX12 56 "BothWaysModel" "kinds" "[J") (by decide +kernel)) (fun _ h => h) rfl dX12_kindOf_11 ?_
    refine lv_iload_n hx hb dX12_kindOf_14 rfl (lv_at hl 0 rfl) ?_
    refine w_lald (v := 10485770) hx hb hK hP 1 rfl dX12_kindOf_15 (inC (by decide)) (by decide) ?_
    refine lv_lload_n hx hb dX12_kindOf_16 rfl (lv_at hl 2 rfl) ?_
    refine w_lcmp (v := 0) hx hb dX12_kindOf_17 (by decide) ?_
    refine if_ne_f hx hb dX12_kindOf_18 23 (by decide) (by decide) ?_
    refine lv_iload_n hx hb dX12_kindOf_21 rfl (lv_at hl 0 rfl) ?_
    exact rt_i hx hb hr hlocks hQ hP hD hS () [0, 1] dX12_kindOf_22 rfl (Nat.le_of_ble_eq_true rfl) (Nat.le_of_ble_eq_true rfl) rfl (by decide) rfl
  rw [hH, hlo] at hgo
  exact hgo
theorem hi_X12_addKind_X12 : ∀ w ∈ wsX120, w ∈ wsX12_addKind := fun _ h => List.mem_cons_of_mem _ (List.mem_append_right _ h)
abbrev rm_c_M_addKind_K : Room := { frames := 0, cells := 0, slots := 0, locals := 0 }
set_option maxHeartbeats 4000000 in
set_option maxRecDepth 100000 in
theorem c_M_addKind_K (l : Launch) (g : va_G) (cT : Nat → ClassId) (sz : Nat) (y : Nat) (qq : Nat → Nat) (z6 : Int32) (z12 : Int32) (z14 : Int32) (z15 : Int32) (z16 : Int32) (z17 : Int32) (z19 : Int32) (z21 : Int32) (z22 : Int32) (z23 : Int32) (z24 : Int32) (z26 : Int32)  : Ctr l g cT sz yX12_addKind wsX12_addKind rm_c_M_addKind_K [.ref y, .long 10485770, .int (-1), .int 0] [(y, .inr (12, [.ref (qq 0), .ref (qq 1), .ref (qq 2), .ref (qq 3), .ref (qq 4), .ref (qq 5), .int z6, .ref (qq 7), .ref (qq 8), .ref (qq 9), .ref (qq 10), .ref (qq 11), .int z12, .ref (qq 13), .int z14, .int z15, .int z16, .int z17, .ref (qq 18), .int z19, .ref (qq 20), .int z21, .int z22, .int z23, .int z24, .ref (qq 25), .int z26, .ref (qq 27), .ref (qq 28), .ref (qq 29), .int 0, .ref (qq 31), .ref (qq 32), .ref (qq 33), .ref (qq 34), .ref (qq 35), .ref (qq 36), .ref (qq 37), .ref (qq 38), .ref (qq 39), .ref (qq 40), .ref (qq 41), .ref (qq 42)])), ((qq 27), .inl (cT 1, 4001, .inr (.inl (fun _ => 0)))), ((qq 28), .inl (cT 0, 4001, .inl (fun _ => 0))), ((qq 29), .inl (cT 0, 4001, .inl (fun _ => 0)))] (QV g (fun (u : Unit) => True) (fun (u : Unit) => [(y, .inr (12, [.ref (qq 0), .ref (qq 1), .ref (qq 2), .ref (qq 3), .ref (qq 4), .ref (qq 5), .int z6, .ref (qq 7), .ref (qq 8), .ref (qq 9), .ref (qq 10), .ref (qq 11), .int z12, .ref (qq 13), .int z14, .int z15, .int z16, .int z17, .ref (qq 18), .int z19, .ref (qq 20), .int z21, .int z22, .int z23, .int z24, .ref (qq 25), .int z26, .ref (qq 27), .ref (qq 28), .ref (qq 29), .int 1, .ref (qq 31), .ref (qq 32), .ref (qq 33), .ref (qq 34), .ref (qq 35), .ref (qq 36), .ref (qq 37), .ref (qq 38), .ref (qq 39), .ref (qq 40), .ref (qq 41), .ref (qq 42)])), ((qq 27), .inl (cT 1, 4001, .inr (.inl (vp_updL (fun _ => 0) 0 10485770)))), ((qq 28), .inl (cT 0, 4001, .inl (upd (fun _ => 0) 0 (-1)))), ((qq 29), .inl (cT 0, 4001, .inl (fun _ => 0)))])) 0 0 := by
  refine mk_ctr (cc := cX12_addKind) (maxL := 5) (ret := none) (by decide) rfl (Nat.le_of_ble_eq_true rfl) ?_
  intro p e s m args below meth c A Q hx hb hr hts hown hlocks hin hml hP hK hD hN hZ hA hS hQ ls hl
  have hl : lv_has ls 5 [(0, .ref y), (1, .long 10485770), (3, .int (-1)), (4, .int 0)] := hl
  obtain ⟨H, hH⟩ : ∃ H : Heap, H = s.heap := ⟨_, rfl⟩
  obtain ⟨locs, hlo⟩ : ∃ x : List Loc, x = [] := ⟨_, rfl⟩
  rw [← hH] at hP
  have hS : va_S A s.heap H locs := by rw [hH, hlo]; exact hS
  have hgo : W p l e rm_c_M_addKind_K s m args below meth c H locs 0 0 Q (F0 m 0 ls []) := by
    clear hH hlo
    refine lv_aload_n hx hb dX12_addKind_0 rfl (lv_at hl 0 rfl) ?_
    refine va_get (C := RX12) (T := TX12) (N := 43) (v := .ref (qq 27)) hx hb hts hi_X12_addKind_X12 hown hK hP 0 rfl rfl 27 (by decide) (hts (.fieldLink RX12 56 "BothWaysModel" "kinds" "[J") (by decide +kernel)) (fun _ h => h) rfl dX12_addKind_1 ?_
    refine lv_aload_n hx hb dX12_addKind_4 rfl (lv_at hl 0 rfl) ?_
    refine va_get (C := RX12) (T := TX12) (N := 43) (v := .int 0) hx hb hts hi_X12_addKind_X12 hown hK hP 0 rfl rfl 30 (by decide) (hts (.fieldLink RX12 234 "BothWaysModel" "kindMany" "I") (by decide +kernel)) (fun _ h => h) rfl dX12_addKind_5 ?_
    refine lv_lload_n hx hb dX12_addKind_8 rfl (lv_at hl 1 rfl) ?_
    refine w_last (f' := (vp_updL (fun _ => 0) 0 10485770)) hx hb hK hP hD hS 1 rfl dX12_addKind_9 (inC (by decide)) rfl (fun H locs hP hD hS => ?_)
    have hP : va_P g vwCl [(y, .inr (12, [.ref (qq 0), .ref (qq 1), .ref (qq 2), .ref (qq 3), .ref (qq 4), .ref (qq 5), .int z6, .ref (qq 7), .ref (qq 8), .ref (qq 9), .ref (qq 10), .ref (qq 11), .int z12, .ref (qq 13), .int z14, .int z15, .int z16, .int z17, .ref (qq 18), .int z19, .ref (qq 20), .int z21, .int z22, .int z23, .int z24, .ref (qq 25), .int z26, .ref (qq 27), .ref (qq 28), .ref (qq 29), .int 0, .ref (qq 31), .ref (qq 32), .ref (qq 33), .ref (qq 34), .ref (qq 35), .ref (qq 36), .ref (qq 37), .ref (qq 38), .ref (qq 39), .ref (qq 40), .ref (qq 41), .ref (qq 42)])), ((qq 27), .inl (cT 1, 4001, .inr (.inl (vp_updL (fun _ => 0) 0 10485770)))), ((qq 28), .inl (cT 0, 4001, .inl (fun _ => 0))), ((qq 29), .inl (cT 0, 4001, .inl (fun _ => 0)))] H := hP
    have hD : va_D A [(y, .inr (12, [.ref (qq 0), .ref (qq 1), .ref (qq 2), .ref (qq 3), .ref (qq 4), .ref (qq 5), .int z6, .ref (qq 7), .ref (qq 8), .ref (qq 9), .ref (qq 10), .ref (qq 11), .int z12, .ref (qq 13), .int z14, .int z15, .int z16, .int z17, .ref (qq 18), .int z19, .ref (qq 20), .int z21, .int z22, .int z23, .int z24, .ref (qq 25), .int z26, .ref (qq 27), .ref (qq 28), .ref (qq 29), .int 0, .ref (qq 31), .ref (qq 32), .ref (qq 33), .ref (qq 34), .ref (qq 35), .ref (qq 36), .ref (qq 37), .ref (qq 38), .ref (qq 39), .ref (qq 40), .ref (qq 41), .ref (qq 42)])), ((qq 27), .inl (cT 1, 4001, .inr (.inl (vp_updL (fun _ => 0) 0 10485770)))), ((qq 28), .inl (cT 0, 4001, .inl (fun _ => 0))), ((qq 29), .inl (cT 0, 4001, .inl (fun _ => 0)))] := hD
    refine lv_aload_n hx hb dX12_addKind_10 rfl (lv_at hl 0 rfl) ?_
    refine va_get (C := RX12) (T := TX12) (N := 43) (v := .ref (qq 28)) hx hb hts hi_X12_addKind_X12 hown hK hP 0 rfl rfl 28 (by decide) (hts (.fieldLink RX12 60 "BothWaysModel" "parent" "[I") (by decide +kernel)) (fun _ h => h) rfl dX12_addKind_11 ?_
    refine lv_aload_n hx hb dX12_addKind_14 rfl (lv_at hl 0 rfl) ?_
    refine va_get (C := RX12) (T := TX12) (N := 43) (v := .int 0) hx hb hts hi_X12_addKind_X12 hown hK hP 0 rfl rfl 30 (by decide) (hts (.fieldLink RX12 234 "BothWaysModel" "kindMany" "I") (by decide +kernel)) (fun _ h => h) rfl dX12_addKind_15 ?_
    refine lv_iload_n hx hb dX12_addKind_18 rfl (lv_at hl 2 rfl) ?_
    refine w_iast (f' := (upd (fun _ => 0) 0 (-1))) hx hb hK hP hD hS 2 rfl dX12_addKind_19 (inC (by decide)) rfl (fun H locs hP hD hS => ?_)
    have hP : va_P g vwCl [(y, .inr (12, [.ref (qq 0), .ref (qq 1), .ref (qq 2), .ref (qq 3), .ref (qq 4), .ref (qq 5), .int z6, .ref (qq 7), .ref (qq 8), .ref (qq 9), .ref (qq 10), .ref (qq 11), .int z12, .ref (qq 13), .int z14, .int z15, .int z16, .int z17, .ref (qq 18), .int z19, .ref (qq 20), .int z21, .int z22, .int z23, .int z24, .ref (qq 25), .int z26, .ref (qq 27), .ref (qq 28), .ref (qq 29), .int 0, .ref (qq 31), .ref (qq 32), .ref (qq 33), .ref (qq 34), .ref (qq 35), .ref (qq 36), .ref (qq 37), .ref (qq 38), .ref (qq 39), .ref (qq 40), .ref (qq 41), .ref (qq 42)])), ((qq 27), .inl (cT 1, 4001, .inr (.inl (vp_updL (fun _ => 0) 0 10485770)))), ((qq 28), .inl (cT 0, 4001, .inl (upd (fun _ => 0) 0 (-1)))), ((qq 29), .inl (cT 0, 4001, .inl (fun _ => 0)))] H := hP
    have hD : va_D A [(y, .inr (12, [.ref (qq 0), .ref (qq 1), .ref (qq 2), .ref (qq 3), .ref (qq 4), .ref (qq 5), .int z6, .ref (qq 7), .ref (qq 8), .ref (qq 9), .ref (qq 10), .ref (qq 11), .int z12, .ref (qq 13), .int z14, .int z15, .int z16, .int z17, .ref (qq 18), .int z19, .ref (qq 20), .int z21, .int z22, .int z23, .int z24, .ref (qq 25), .int z26, .ref (qq 27), .ref (qq 28), .ref (qq 29), .int 0, .ref (qq 31), .ref (qq 32), .ref (qq 33), .ref (qq 34), .ref (qq 35), .ref (qq 36), .ref (qq 37), .ref (qq 38), .ref (qq 39), .ref (qq 40), .ref (qq 41), .ref (qq 42)])), ((qq 27), .inl (cT 1, 4001, .inr (.inl (vp_updL (fun _ => 0) 0 10485770)))), ((qq 28), .inl (cT 0, 4001, .inl (upd (fun _ => 0) 0 (-1)))), ((qq 29), .inl (cT 0, 4001, .inl (fun _ => 0)))] := hD
    refine lv_aload_n hx hb dX12_addKind_20 rfl (lv_at hl 0 rfl) ?_
    refine va_get (C := RX12) (T := TX12) (N := 43) (v := .ref (qq 29)) hx hb hts hi_X12_addKind_X12 hown hK hP 0 rfl rfl 29 (by decide) (hts (.fieldLink RX12 63 "BothWaysModel" "by" "[I") (by decide +kernel)) (fun _ h => h) rfl dX12_addKind_21 ?_
    refine lv_aload_n hx hb dX12_addKind_24 rfl (lv_at hl 0 rfl) ?_
    refine va_get (C := RX12) (T := TX12) (N := 43) (v := .int 0) hx hb hts hi_X12_addKind_X12 hown hK hP 0 rfl rfl 30 (by decide) (hts (.fieldLink RX12 234 "BothWaysModel" "kindMany" "I") (by decide +kernel)) (fun _ h => h) rfl dX12_addKind_25 ?_
    refine lv_iload hx hb dX12_addKind_28 (lv_at hl 3 rfl) ?_
    refine w_iast (f' := (fun _ => 0)) hx hb hK hP hD hS 3 rfl dX12_addKind_30 (inC (by decide)) (upd_c _ _) (fun H locs hP hD hS => ?_)
    have hP : va_P g vwCl [(y, .inr (12, [.ref (qq 0), .ref (qq 1), .ref (qq 2), .ref (qq 3), .ref (qq 4), .ref (qq 5), .int z6, .ref (qq 7), .ref (qq 8), .ref (qq 9), .ref (qq 10), .ref (qq 11), .int z12, .ref (qq 13), .int z14, .int z15, .int z16, .int z17, .ref (qq 18), .int z19, .ref (qq 20), .int z21, .int z22, .int z23, .int z24, .ref (qq 25), .int z26, .ref (qq 27), .ref (qq 28), .ref (qq 29), .int 0, .ref (qq 31), .ref (qq 32), .ref (qq 33), .ref (qq 34), .ref (qq 35), .ref (qq 36), .ref (qq 37), .ref (qq 38), .ref (qq 39), .ref (qq 40), .ref (qq 41), .ref (qq 42)])), ((qq 27), .inl (cT 1, 4001, .inr (.inl (vp_updL (fun _ => 0) 0 10485770)))), ((qq 28), .inl (cT 0, 4001, .inl (upd (fun _ => 0) 0 (-1)))), ((qq 29), .inl (cT 0, 4001, .inl (fun _ => 0)))] H := hP
    have hD : va_D A [(y, .inr (12, [.ref (qq 0), .ref (qq 1), .ref (qq 2), .ref (qq 3), .ref (qq 4), .ref (qq 5), .int z6, .ref (qq 7), .ref (qq 8), .ref (qq 9), .ref (qq 10), .ref (qq 11), .int z12, .ref (qq 13), .int z14, .int z15, .int z16, .int z17, .ref (qq 18), .int z19, .ref (qq 20), .int z21, .int z22, .int z23, .int z24, .ref (qq 25), .int z26, .ref (qq 27), .ref (qq 28), .ref (qq 29), .int 0, .ref (qq 31), .ref (qq 32), .ref (qq 33), .ref (qq 34), .ref (qq 35), .ref (qq 36), .ref (qq 37), .ref (qq 38), .ref (qq 39), .ref (qq 40), .ref (qq 41), .ref (qq 42)])), ((qq 27), .inl (cT 1, 4001, .inr (.inl (vp_updL (fun _ => 0) 0 10485770)))), ((qq 28), .inl (cT 0, 4001, .inl (upd (fun _ => 0) 0 (-1)))), ((qq 29), .inl (cT 0, 4001, .inl (fun _ => 0)))] := hD
    refine lv_aload_n hx hb dX12_addKind_31 rfl (lv_at hl 0 rfl) ?_
    refine lv_dup hx hb dX12_addKind_32 rfl ?_
    refine va_get (C := RX12) (T := TX12) (N := 43) (v := .int 0) hx hb hts hi_X12_addKind_X12 hown hK hP 0 rfl rfl 30 (by decide) (hts (.fieldLink RX12 234 "BothWaysModel" "kindMany" "I") (by decide +kernel)) (fun _ h => h) rfl dX12_addKind_33 ?_
    refine lv_iconst (v := 1) hx hb dX12_addKind_36 (by decide) ?_
    refine w_iadd (v := 1) hx hb dX12_addKind_37 (by decide) ?_
    refine va_put (C := RX12) (T := TX12) (N := 43) (v := .int 1) (ty := .int) hx hb hts hi_X12_addKind_X12 tyX12 tyX12_ok nmX12 hown hK hP hD hS 0 rfl rfl 30 (by decide) (hts (.fieldLink RX12 234 "BothWaysModel" "kindMany" "I") (by decide +kernel)) (fun _ h => h) rfl (by decide +kernel) rfl rfl (Nat.le_of_ble_eq_true rfl) dX12_addKind_38 (fun H locs hP hD hS => ?_)
    have hP : va_P g vwCl [(y, .inr (12, [.ref (qq 0), .ref (qq 1), .ref (qq 2), .ref (qq 3), .ref (qq 4), .ref (qq 5), .int z6, .ref (qq 7), .ref (qq 8), .ref (qq 9), .ref (qq 10), .ref (qq 11), .int z12, .ref (qq 13), .int z14, .int z15, .int z16, .int z17, .ref (qq 18), .int z19, .ref (qq 20), .int z21, .int z22, .int z23, .int z24, .ref (qq 25), .int z26, .ref (qq 27), .ref (qq 28), .ref (qq 29), .int 1, .ref (qq 31), .ref (qq 32), .ref (qq 33), .ref (qq 34), .ref (qq 35), .ref (qq 36), .ref (qq 37), .ref (qq 38), .ref (qq 39), .ref (qq 40), .ref (qq 41), .ref (qq 42)])), ((qq 27), .inl (cT 1, 4001, .inr (.inl (vp_updL (fun _ => 0) 0 10485770)))), ((qq 28), .inl (cT 0, 4001, .inl (upd (fun _ => 0) 0 (-1)))), ((qq 29), .inl (cT 0, 4001, .inl (fun _ => 0)))] H := hP
    have hD : va_D A [(y, .inr (12, [.ref (qq 0), .ref (qq 1), .ref (qq 2), .ref (qq 3), .ref (qq 4), .ref (qq 5), .int z6, .ref (qq 7), .ref (qq 8), .ref (qq 9), .ref (qq 10), .ref (qq 11), .int z12, .ref (qq 13), .int z14, .int z15, .int z16, .int z17, .ref (qq 18), .int z19, .ref (qq 20), .int z21, .int z22, .int z23, .int z24, .ref (qq 25), .int z26, .ref (qq 27), .ref (qq 28), .ref (qq 29), .int 1, .ref (qq 31), .ref (qq 32), .ref (qq 33), .ref (qq 34), .ref (qq 35), .ref (qq 36), .ref (qq 37), .ref (qq 38), .ref (qq 39), .ref (qq 40), .ref (qq 41), .ref (qq 42)])), ((qq 27), .inl (cT 1, 4001, .inr (.inl (vp_updL (fun _ => 0) 0 10485770)))), ((qq 28), .inl (cT 0, 4001, .inl (upd (fun _ => 0) 0 (-1)))), ((qq 29), .inl (cT 0, 4001, .inl (fun _ => 0)))] := hD
    exact rt_v hx hb hr hlocks hQ hP hD hS () [0, 1, 2, 3] dX12_addKind_41 (Nat.le_of_ble_eq_true rfl) (Nat.le_of_ble_eq_true rfl) rfl (by decide) trivial
  rw [hH, hlo] at hgo
  exact hgo
abbrev rm_c_M_addKind_P : Room := { frames := 0, cells := 0, slots := 0, locals := 0 }
set_option maxHeartbeats 4000000 in
set_option maxRecDepth 100000 in
theorem c_M_addKind_P (l : Launch) (g : va_G) (cT : Nat → ClassId) (sz : Nat) (y : Nat) (qq : Nat → Nat) (z6 : Int32) (z12 : Int32) (z14 : Int32) (z15 : Int32) (z16 : Int32) (z17 : Int32) (z19 : Int32) (z21 : Int32) (z22 : Int32) (z23 : Int32) (z24 : Int32) (z26 : Int32)  : Ctr l g cT sz yX12_addKind wsX12_addKind rm_c_M_addKind_P [.ref y, .long 0, .int (-1), .int (-1)] [(y, .inr (12, [.ref (qq 0), .ref (qq 1), .ref (qq 2), .ref (qq 3), .ref (qq 4), .ref (qq 5), .int z6, .ref (qq 7), .ref (qq 8), .ref (qq 9), .ref (qq 10), .ref (qq 11), .int z12, .ref (qq 13), .int z14, .int z15, .int z16, .int z17, .ref (qq 18), .int z19, .ref (qq 20), .int z21, .int z22, .int z23, .int z24, .ref (qq 25), .int z26, .ref (qq 27), .ref (qq 28), .ref (qq 29), .int 0, .ref (qq 31), .ref (qq 32), .ref (qq 33), .ref (qq 34), .ref (qq 35), .ref (qq 36), .ref (qq 37), .ref (qq 38), .ref (qq 39), .ref (qq 40), .ref (qq 41), .ref (qq 42)])), ((qq 27), .inl (cT 1, 4001, .inr (.inl (fun _ => 0)))), ((qq 28), .inl (cT 0, 4001, .inl (fun _ => 0))), ((qq 29), .inl (cT 0, 4001, .inl (fun _ => 0)))] (QV g (fun (u : Unit) => True) (fun (u : Unit) => [(y, .inr (12, [.ref (qq 0), .ref (qq 1), .ref (qq 2), .ref (qq 3), .ref (qq 4), .ref (qq 5), .int z6, .ref (qq 7), .ref (qq 8), .ref (qq 9), .ref (qq 10), .ref (qq 11), .int z12, .ref (qq 13), .int z14, .int z15, .int z16, .int z17, .ref (qq 18), .int z19, .ref (qq 20), .int z21, .int z22, .int z23, .int z24, .ref (qq 25), .int z26, .ref (qq 27), .ref (qq 28), .ref (qq 29), .int 1, .ref (qq 31), .ref (qq 32), .ref (qq 33), .ref (qq 34), .ref (qq 35), .ref (qq 36), .ref (qq 37), .ref (qq 38), .ref (qq 39), .ref (qq 40), .ref (qq 41), .ref (qq 42)])), ((qq 27), .inl (cT 1, 4001, .inr (.inl (fun _ => 0)))), ((qq 28), .inl (cT 0, 4001, .inl (upd (fun _ => 0) 0 (-1)))), ((qq 29), .inl (cT 0, 4001, .inl (upd (fun _ => 0) 0 (-1))))])) 0 0 := by
  refine mk_ctr (cc := cX12_addKind) (maxL := 5) (ret := none) (by decide) rfl (Nat.le_of_ble_eq_true rfl) ?_
  intro p e s m args below meth c A Q hx hb hr hts hown hlocks hin hml hP hK hD hN hZ hA hS hQ ls hl
  have hl : lv_has ls 5 [(0, .ref y), (1, .long 0), (3, .int (-1)), (4, .int (-1))] := hl
  obtain ⟨H, hH⟩ : ∃ H : Heap, H = s.heap := ⟨_, rfl⟩
  obtain ⟨locs, hlo⟩ : ∃ x : List Loc, x = [] := ⟨_, rfl⟩
  rw [← hH] at hP
  have hS : va_S A s.heap H locs := by rw [hH, hlo]; exact hS
  have hgo : W p l e rm_c_M_addKind_P s m args below meth c H locs 0 0 Q (F0 m 0 ls []) := by
    clear hH hlo
    refine lv_aload_n hx hb dX12_addKind_0 rfl (lv_at hl 0 rfl) ?_
    refine va_get (C := RX12) (T := TX12) (N := 43) (v := .ref (qq 27)) hx hb hts hi_X12_addKind_X12 hown hK hP 0 rfl rfl 27 (by decide) (hts (.fieldLink RX12 56 "BothWaysModel" "kinds" "[J") (by decide +kernel)) (fun _ h => h) rfl dX12_addKind_1 ?_
    refine lv_aload_n hx hb dX12_addKind_4 rfl (lv_at hl 0 rfl) ?_
    refine va_get (C := RX12) (T := TX12) (N := 43) (v := .int 0) hx hb hts hi_X12_addKind_X12 hown hK hP 0 rfl rfl 30 (by decide) (hts (.fieldLink RX12 234 "BothWaysModel" "kindMany" "I") (by decide +kernel)) (fun _ h => h) rfl dX12_addKind_5 ?_
    refine lv_lload_n hx hb dX12_addKind_8 rfl (lv_at hl 1 rfl) ?_
    refine w_last (f' := (fun _ => 0)) hx hb hK hP hD hS 1 rfl dX12_addKind_9 (inC (by decide)) (updL_c _ _) (fun H locs hP hD hS => ?_)
    have hP : va_P g vwCl [(y, .inr (12, [.ref (qq 0), .ref (qq 1), .ref (qq 2), .ref (qq 3), .ref (qq 4), .ref (qq 5), .int z6, .ref (qq 7), .ref (qq 8), .ref (qq 9), .ref (qq 10), .ref (qq 11), .int z12, .ref (qq 13), .int z14, .int z15, .int z16, .int z17, .ref (qq 18), .int z19, .ref (qq 20), .int z21, .int z22, .int z23, .int z24, .ref (qq 25), .int z26, .ref (qq 27), .ref (qq 28), .ref (qq 29), .int 0, .ref (qq 31), .ref (qq 32), .ref (qq 33), .ref (qq 34), .ref (qq 35), .ref (qq 36), .ref (qq 37), .ref (qq 38), .ref (qq 39), .ref (qq 40), .ref (qq 41), .ref (qq 42)])), ((qq 27), .inl (cT 1, 4001, .inr (.inl (fun _ => 0)))), ((qq 28), .inl (cT 0, 4001, .inl (fun _ => 0))), ((qq 29), .inl (cT 0, 4001, .inl (fun _ => 0)))] H := hP
    have hD : va_D A [(y, .inr (12, [.ref (qq 0), .ref (qq 1), .ref (qq 2), .ref (qq 3), .ref (qq 4), .ref (qq 5), .int z6, .ref (qq 7), .ref (qq 8), .ref (qq 9), .ref (qq 10), .ref (qq 11), .int z12, .ref (qq 13), .int z14, .int z15, .int z16, .int z17, .ref (qq 18), .int z19, .ref (qq 20), .int z21, .int z22, .int z23, .int z24, .ref (qq 25), .int z26, .ref (qq 27), .ref (qq 28), .ref (qq 29), .int 0, .ref (qq 31), .ref (qq 32), .ref (qq 33), .ref (qq 34), .ref (qq 35), .ref (qq 36), .ref (qq 37), .ref (qq 38), .ref (qq 39), .ref (qq 40), .ref (qq 41), .ref (qq 42)])), ((qq 27), .inl (cT 1, 4001, .inr (.inl (fun _ => 0)))), ((qq 28), .inl (cT 0, 4001, .inl (fun _ => 0))), ((qq 29), .inl (cT 0, 4001, .inl (fun _ => 0)))] := hD
    refine lv_aload_n hx hb dX12_addKind_10 rfl (lv_at hl 0 rfl) ?_
    refine va_get (C := RX12) (T := TX12) (N := 43) (v := .ref (qq 28)) hx hb hts hi_X12_addKind_X12 hown hK hP 0 rfl rfl 28 (by decide) (hts (.fieldLink RX12 60 "BothWaysModel" "parent" "[I") (by decide +kernel)) (fun _ h => h) rfl dX12_addKind_11 ?_
    refine lv_aload_n hx hb dX12_addKind_14 rfl (lv_at hl 0 rfl) ?_
    refine va_get (C := RX12) (T := TX12) (N := 43) (v := .int 0) hx hb hts hi_X12_addKind_X12 hown hK hP 0 rfl rfl 30 (by decide) (hts (.fieldLink RX12 234 "BothWaysModel" "kindMany" "I") (by decide +kernel)) (fun _ h => h) rfl dX12_addKind_15 ?_
    refine lv_iload_n hx hb dX12_addKind_18 rfl (lv_at hl 2 rfl) ?_
    refine w_iast (f' := (upd (fun _ => 0) 0 (-1))) hx hb hK hP hD hS 2 rfl dX12_addKind_19 (inC (by decide)) rfl (fun H locs hP hD hS => ?_)
    have hP : va_P g vwCl [(y, .inr (12, [.ref (qq 0), .ref (qq 1), .ref (qq 2), .ref (qq 3), .ref (qq 4), .ref (qq 5), .int z6, .ref (qq 7), .ref (qq 8), .ref (qq 9), .ref (qq 10), .ref (qq 11), .int z12, .ref (qq 13), .int z14, .int z15, .int z16, .int z17, .ref (qq 18), .int z19, .ref (qq 20), .int z21, .int z22, .int z23, .int z24, .ref (qq 25), .int z26, .ref (qq 27), .ref (qq 28), .ref (qq 29), .int 0, .ref (qq 31), .ref (qq 32), .ref (qq 33), .ref (qq 34), .ref (qq 35), .ref (qq 36), .ref (qq 37), .ref (qq 38), .ref (qq 39), .ref (qq 40), .ref (qq 41), .ref (qq 42)])), ((qq 27), .inl (cT 1, 4001, .inr (.inl (fun _ => 0)))), ((qq 28), .inl (cT 0, 4001, .inl (upd (fun _ => 0) 0 (-1)))), ((qq 29), .inl (cT 0, 4001, .inl (fun _ => 0)))] H := hP
    have hD : va_D A [(y, .inr (12, [.ref (qq 0), .ref (qq 1), .ref (qq 2), .ref (qq 3), .ref (qq 4), .ref (qq 5), .int z6, .ref (qq 7), .ref (qq 8), .ref (qq 9), .ref (qq 10), .ref (qq 11), .int z12, .ref (qq 13), .int z14, .int z15, .int z16, .int z17, .ref (qq 18), .int z19, .ref (qq 20), .int z21, .int z22, .int z23, .int z24, .ref (qq 25), .int z26, .ref (qq 27), .ref (qq 28), .ref (qq 29), .int 0, .ref (qq 31), .ref (qq 32), .ref (qq 33), .ref (qq 34), .ref (qq 35), .ref (qq 36), .ref (qq 37), .ref (qq 38), .ref (qq 39), .ref (qq 40), .ref (qq 41), .ref (qq 42)])), ((qq 27), .inl (cT 1, 4001, .inr (.inl (fun _ => 0)))), ((qq 28), .inl (cT 0, 4001, .inl (upd (fun _ => 0) 0 (-1)))), ((qq 29), .inl (cT 0, 4001, .inl (fun _ => 0)))] := hD
    refine lv_aload_n hx hb dX12_addKind_20 rfl (lv_at hl 0 rfl) ?_
    refine va_get (C := RX12) (T := TX12) (N := 43) (v := .ref (qq 29)) hx hb hts hi_X12_addKind_X12 hown hK hP 0 rfl rfl 29 (by decide) (hts (.fieldLink RX12 63 "BothWaysModel" "by" "[I") (by decide +kernel)) (fun _ h => h) rfl dX12_addKind_21 ?_
    refine lv_aload_n hx hb dX12_addKind_24 rfl (lv_at hl 0 rfl) ?_
    refine va_get (C := RX12) (T := TX12) (N := 43) (v := .int 0) hx hb hts hi_X12_addKind_X12 hown hK hP 0 rfl rfl 30 (by decide) (hts (.fieldLink RX12 234 "BothWaysModel" "kindMany" "I") (by decide +kernel)) (fun _ h => h) rfl dX12_addKind_25 ?_
    refine lv_iload hx hb dX12_addKind_28 (lv_at hl 3 rfl) ?_
    refine w_iast (f' := (upd (fun _ => 0) 0 (-1))) hx hb hK hP hD hS 3 rfl dX12_addKind_30 (inC (by decide)) rfl (fun H locs hP hD hS => ?_)
    have hP : va_P g vwCl [(y, .inr (12, [.ref (qq 0), .ref (qq 1), .ref (qq 2), .ref (qq 3), .ref (qq 4), .ref (qq 5), .int z6, .ref (qq 7), .ref (qq 8), .ref (qq 9), .ref (qq 10), .ref (qq 11), .int z12, .ref (qq 13), .int z14, .int z15, .int z16, .int z17, .ref (qq 18), .int z19, .ref (qq 20), .int z21, .int z22, .int z23, .int z24, .ref (qq 25), .int z26, .ref (qq 27), .ref (qq 28), .ref (qq 29), .int 0, .ref (qq 31), .ref (qq 32), .ref (qq 33), .ref (qq 34), .ref (qq 35), .ref (qq 36), .ref (qq 37), .ref (qq 38), .ref (qq 39), .ref (qq 40), .ref (qq 41), .ref (qq 42)])), ((qq 27), .inl (cT 1, 4001, .inr (.inl (fun _ => 0)))), ((qq 28), .inl (cT 0, 4001, .inl (upd (fun _ => 0) 0 (-1)))), ((qq 29), .inl (cT 0, 4001, .inl (upd (fun _ => 0) 0 (-1))))] H := hP
    have hD : va_D A [(y, .inr (12, [.ref (qq 0), .ref (qq 1), .ref (qq 2), .ref (qq 3), .ref (qq 4), .ref (qq 5), .int z6, .ref (qq 7), .ref (qq 8), .ref (qq 9), .ref (qq 10), .ref (qq 11), .int z12, .ref (qq 13), .int z14, .int z15, .int z16, .int z17, .ref (qq 18), .int z19, .ref (qq 20), .int z21, .int z22, .int z23, .int z24, .ref (qq 25), .int z26, .ref (qq 27), .ref (qq 28), .ref (qq 29), .int 0, .ref (qq 31), .ref (qq 32), .ref (qq 33), .ref (qq 34), .ref (qq 35), .ref (qq 36), .ref (qq 37), .ref (qq 38), .ref (qq 39), .ref (qq 40), .ref (qq 41), .ref (qq 42)])), ((qq 27), .inl (cT 1, 4001, .inr (.inl (fun _ => 0)))), ((qq 28), .inl (cT 0, 4001, .inl (upd (fun _ => 0) 0 (-1)))), ((qq 29), .inl (cT 0, 4001, .inl (upd (fun _ => 0) 0 (-1))))] := hD
    refine lv_aload_n hx hb dX12_addKind_31 rfl (lv_at hl 0 rfl) ?_
    refine lv_dup hx hb dX12_addKind_32 rfl ?_
    refine va_get (C := RX12) (T := TX12) (N := 43) (v := .int 0) hx hb hts hi_X12_addKind_X12 hown hK hP 0 rfl rfl 30 (by decide) (hts (.fieldLink RX12 234 "BothWaysModel" "kindMany" "I") (by decide +kernel)) (fun _ h => h) rfl dX12_addKind_33 ?_
    refine lv_iconst (v := 1) hx hb dX12_addKind_36 (by decide) ?_
    refine w_iadd (v := 1) hx hb dX12_addKind_37 (by decide) ?_
    refine va_put (C := RX12) (T := TX12) (N := 43) (v := .int 1) (ty := .int) hx hb hts hi_X12_addKind_X12 tyX12 tyX12_ok nmX12 hown hK hP hD hS 0 rfl rfl 30 (by decide) (hts (.fieldLink RX12 234 "BothWaysModel" "kindMany" "I") (by decide +kernel)) (fun _ h => h) rfl (by decide +kernel) rfl rfl (Nat.le_of_ble_eq_true rfl) dX12_addKind_38 (fun H locs hP hD hS => ?_)
    have hP : va_P g vwCl [(y, .inr (12, [.ref (qq 0), .ref (qq 1), .ref (qq 2), .ref (qq 3), .ref (qq 4), .ref (qq 5), .int z6, .ref (qq 7), .ref (qq 8), .ref (qq 9), .ref (qq 10), .ref (qq 11), .int z12, .ref (qq 13), .int z14, .int z15, .int z16, .int z17, .ref (qq 18), .int z19, .ref (qq 20), .int z21, .int z22, .int z23, .int z24, .ref (qq 25), .int z26, .ref (qq 27), .ref (qq 28), .ref (qq 29), .int 1, .ref (qq 31), .ref (qq 32), .ref (qq 33), .ref (qq 34), .ref (qq 35), .ref (qq 36), .ref (qq 37), .ref (qq 38), .ref (qq 39), .ref (qq 40), .ref (qq 41), .ref (qq 42)])), ((qq 27), .inl (cT 1, 4001, .inr (.inl (fun _ => 0)))), ((qq 28), .inl (cT 0, 4001, .inl (upd (fun _ => 0) 0 (-1)))), ((qq 29), .inl (cT 0, 4001, .inl (upd (fun _ => 0) 0 (-1))))] H := hP
    have hD : va_D A [(y, .inr (12, [.ref (qq 0), .ref (qq 1), .ref (qq 2), .ref (qq 3), .ref (qq 4), .ref (qq 5), .int z6, .ref (qq 7), .ref (qq 8), .ref (qq 9), .ref (qq 10), .ref (qq 11), .int z12, .ref (qq 13), .int z14, .int z15, .int z16, .int z17, .ref (qq 18), .int z19, .ref (qq 20), .int z21, .int z22, .int z23, .int z24, .ref (qq 25), .int z26, .ref (qq 27), .ref (qq 28), .ref (qq 29), .int 1, .ref (qq 31), .ref (qq 32), .ref (qq 33), .ref (qq 34), .ref (qq 35), .ref (qq 36), .ref (qq 37), .ref (qq 38), .ref (qq 39), .ref (qq 40), .ref (qq 41), .ref (qq 42)])), ((qq 27), .inl (cT 1, 4001, .inr (.inl (fun _ => 0)))), ((qq 28), .inl (cT 0, 4001, .inl (upd (fun _ => 0) 0 (-1)))), ((qq 29), .inl (cT 0, 4001, .inl (upd (fun _ => 0) 0 (-1))))] := hD
    exact rt_v hx hb hr hlocks hQ hP hD hS () [0, 1, 2, 3] dX12_addKind_41 (Nat.le_of_ble_eq_true rfl) (Nat.le_of_ble_eq_true rfl) rfl (by decide) trivial
  rw [hH, hlo] at hgo
  exact hgo
theorem hi_X12_layTables_X12 : ∀ w ∈ wsX120, w ∈ wsX12_layTables := fun _ h => List.mem_cons_of_mem _ (List.mem_append_right _ h)
theorem yd_X12_letterTable : yX12_letterTable.cls = RX12 ∧ yX12_letterTable.cls ≠ "java/lang/invoke/MethodHandle" ∧ yX12_letterTable.cls ≠ "java/lang/invoke/VarHandle" ∧ (parseMethodDescriptor yX12_letterTable.desc).map (fun d => d.parameters.length) = some 2 := by decide +kernel
theorem yd_X12_kindOf : yX12_kindOf.cls = RX12 ∧ yX12_kindOf.cls ≠ "java/lang/invoke/MethodHandle" ∧ yX12_kindOf.cls ≠ "java/lang/invoke/VarHandle" ∧ (parseMethodDescriptor yX12_kindOf.desc).map (fun d => d.parameters.length) = some 1 := by decide +kernel
theorem yd_X12_addKind : yX12_addKind.cls = RX12 ∧ yX12_addKind.cls ≠ "java/lang/invoke/MethodHandle" ∧ yX12_addKind.cls ≠ "java/lang/invoke/VarHandle" ∧ (parseMethodDescriptor yX12_addKind.desc).map (fun d => d.parameters.length) = some 3 := by decide +kernel
theorem yd_X12_join : yX12_join.cls = RX12 ∧ yX12_join.cls ≠ "java/lang/invoke/MethodHandle" ∧ yX12_join.cls ≠ "java/lang/invoke/VarHandle" ∧ (parseMethodDescriptor yX12_join.desc).map (fun d => d.parameters.length) = some 3 := by decide +kernel
abbrev rm_c_M_layTables_0 : Room := { frames := 3, cells := 0, slots := 0, locals := 84 }
set_option maxHeartbeats 4000000 in
set_option maxRecDepth 100000 in
theorem c_M_layTables_0 (l : Launch) (g : va_G) (cT : Nat → ClassId) (sz : Nat) (y : Nat) (qq : Nat → Nat) (z6 : Int32) (z12 : Int32) (z14 : Int32) (z15 : Int32) (z16 : Int32) (z17 : Int32) (z19 : Int32) (z21 : Int32) (z22 : Int32) (z23 : Int32) (z24 : Int32) (z26 : Int32) (z30 : Int32)  : Ctr l g cT sz yX12_layTables wsX12_layTables rm_c_M_layTables_0 [.ref y, .int 0] [(y, .inr (12, [.ref (qq 0), .ref (qq 1), .ref (qq 2), .ref (qq 3), .ref (qq 4), .ref (qq 5), .int z6, .ref (qq 7), .ref (qq 8), .ref (qq 9), .ref (qq 10), .ref (qq 11), .int z12, .ref (qq 13), .int z14, .int z15, .int z16, .int z17, .ref (qq 18), .int z19, .ref (qq 20), .int z21, .int z22, .int z23, .int z24, .ref (qq 25), .int z26, .ref (qq 27), .ref (qq 28), .ref (qq 29), .int z30, .ref (qq 31), .ref (qq 32), .ref (qq 33), .ref (qq 34), .ref (qq 35), .ref (qq 36), .ref (qq 37), .ref (qq 38), .ref (qq 39), .ref (qq 40), .ref (qq 41), .ref (qq 42)])), ((qq 0), .inl (cT 0, 2, .inl (fun _ => 1))), ((qq 2), .inl (cT 0, 50, .inl (fun _ => (-1)))), ((qq 27), .inl (cT 1, 4001, .inr (.inl (fun _ => 0)))), ((qq 28), .inl (cT 0, 4001, .inl (fun _ => 0))), ((qq 29), .inl (cT 0, 4001, .inl (fun _ => 0)))] (QI g (fun (r : Int32) (u : Unit) => r = 1) (fun (u : Unit) => [(y, .inr (12, [.ref (qq 0), .ref (qq 1), .ref (qq 2), .ref (qq 3), .ref (qq 4), .ref (qq 5), .int z6, .ref (qq 7), .ref (qq 8), .ref (qq 9), .ref (qq 10), .ref (qq 11), .int z12, .ref (qq 13), .int z14, .int z15, .int z16, .int z17, .ref (qq 18), .int z19, .ref (qq 20), .int z21, .int z22, .int z23, .int z24, .ref (qq 25), .int z26, .ref (qq 27), .ref (qq 28), .ref (qq 29), .int 1, .ref (qq 31), .ref (qq 32), .ref (qq 33), .ref (qq 34), .ref (qq 35), .ref (qq 36), .ref (qq 37), .ref (qq 38), .ref (qq 39), .ref (qq 40), .ref (qq 41), .ref (qq 42)]))])) 0 0 := by
  refine mk_ctr (cc := cX12_layTables) (maxL := 6) (ret := (some .boolean)) (by decide) rfl (Nat.le_of_ble_eq_true rfl) ?_
  intro p e s m args below meth c A Q hx hb hr hts hown hlocks hin hml hP hK hD hN hZ hA hS hQ ls hl
  have hl : lv_has ls 6 [(0, .ref y), (1, .int 0)] := hl
  obtain ⟨H, hH⟩ : ∃ H : Heap, H = s.heap := ⟨_, rfl⟩
  obtain ⟨locs, hlo⟩ : ∃ x : List Loc, x = [] := ⟨_, rfl⟩
  rw [← hH] at hP
  have hS : va_S A s.heap H locs := by rw [hH, hlo]; exact hS
  have hgo : W p l e rm_c_M_layTables_0 s m args below meth c H locs 0 0 Q (F0 m 0 ls []) := by
    clear hH hlo
    refine lv_aload_n hx hb dX12_layTables_0 rfl (lv_at hl 0 rfl) ?_
    refine lv_iconst (v := 0) hx hb dX12_layTables_1 (by decide) ?_
    refine va_put (C := RX12) (T := TX12) (N := 43) (v := .int 0) (ty := .int) hx hb hts hi_X12_layTables_X12 tyX12 tyX12_ok nmX12 hown hK hP hD hS 0 rfl rfl 30 (by decide) (hts (.fieldLink RX12 234 "BothWaysModel" "kindMany" "I") (by decide +kernel)) (fun _ h => h) rfl (by decide +kernel) rfl rfl (Nat.le_of_ble_eq_true rfl) dX12_layTables_2 (fun H locs hP hD hS => ?_)
    have hP : va_P g vwCl [(y, .inr (12, [.ref (qq 0), .ref (qq 1), .ref (qq 2), .ref (qq 3), .ref (qq 4), .ref (qq 5), .int z6, .ref (qq 7), .ref (qq 8), .ref (qq 9), .ref (qq 10), .ref (qq 11), .int z12, .ref (qq 13), .int z14, .int z15, .int z16, .int z17, .ref (qq 18), .int z19, .ref (qq 20), .int z21, .int z22, .int z23, .int z24, .ref (qq 25), .int z26, .ref (qq 27), .ref (qq 28), .ref (qq 29), .int 0, .ref (qq 31), .ref (qq 32), .ref (qq 33), .ref (qq 34), .ref (qq 35), .ref (qq 36), .ref (qq 37), .ref (qq 38), .ref (qq 39), .ref (qq 40), .ref (qq 41), .ref (qq 42)])), ((qq 0), .inl (cT 0, 2, .inl (fun _ => 1))), ((qq 2), .inl (cT 0, 50, .inl (fun _ => (-1)))), ((qq 27), .inl (cT 1, 4001, .inr (.inl (fun _ => 0)))), ((qq 28), .inl (cT 0, 4001, .inl (fun _ => 0))), ((qq 29), .inl (cT 0, 4001, .inl (fun _ => 0)))] H := hP
    have hD : va_D A [(y, .inr (12, [.ref (qq 0), .ref (qq 1), .ref (qq 2), .ref (qq 3), .ref (qq 4), .ref (qq 5), .int z6, .ref (qq 7), .ref (qq 8), .ref (qq 9), .ref (qq 10), .ref (qq 11), .int z12, .ref (qq 13), .int z14, .int z15, .int z16, .int z17, .ref (qq 18), .int z19, .ref (qq 20), .int z21, .int z22, .int z23, .int z24, .ref (qq 25), .int z26, .ref (qq 27), .ref (qq 28), .ref (qq 29), .int 0, .ref (qq 31), .ref (qq 32), .ref (qq 33), .ref (qq 34), .ref (qq 35), .ref (qq 36), .ref (qq 37), .ref (qq 38), .ref (qq 39), .ref (qq 40), .ref (qq 41), .ref (qq 42)])), ((qq 0), .inl (cT 0, 2, .inl (fun _ => 1))), ((qq 2), .inl (cT 0, 50, .inl (fun _ => (-1)))), ((qq 27), .inl (cT 1, 4001, .inr (.inl (fun _ => 0)))), ((qq 28), .inl (cT 0, 4001, .inl (fun _ => 0))), ((qq 29), .inl (cT 0, 4001, .inl (fun _ => 0)))] := hD
    refine lv_iconst (v := 0) hx hb dX12_layTables_5 (by decide) ?_
    refine lv_istore_n (lv' := [(2, .int 0), (0, .ref y), (1, .int 0)]) hx hb dX12_layTables_6 rfl hl (by decide) rfl (fun ls hl => ?_)
    refine lv_iload_n hx hb dX12_layTables_7 rfl (lv_at hl 0 rfl) ?_
    refine lv_iconst (v := 3) hx hb dX12_layTables_8 (by decide) ?_
    refine icmp_ge_f hx hb dX12_layTables_9 44 (by decide) (by decide) ?_
    refine lv_aload_n hx hb dX12_layTables_12 rfl (lv_at hl 1 rfl) ?_
    refine lv_aload_n hx hb dX12_layTables_13 rfl (lv_at hl 1 rfl) ?_
    refine lv_iload_n hx hb dX12_layTables_14 rfl (lv_at hl 2 rfl) ?_
    refine lv_iload_n hx hb dX12_layTables_15 rfl (lv_at hl 0 rfl) ?_
    refine cj_l 0 0 (wr := [((qq 27), .inl (cT 1, 4001, .inr (.inl (fun _ => 0)))), ((qq 28), .inl (cT 0, 4001, .inl (fun _ => 0))), ((qq 29), .inl (cT 0, 4001, .inl (fun _ => 0)))]) (va_runV (As := [.int 0, .int 0]) (rest := [.ref y]) ⟨hx, hb, hml, hown, hts⟩ (c_M_letterTable_0_0 l g cT H.size y qq z6 z12 z14 z15 z16 z17 z19 z21 z22 z23 z24 z26 0) (cwV 2 hts gX12_layTables_X12_letterTable rfl rfl rfl yd_X12_letterTable ⟨(Nat.le_of_ble_eq_true rfl), (Nat.le_of_ble_eq_true rfl)⟩) (preV (wc := [(y, .inr (12, [.ref (qq 0), .ref (qq 1), .ref (qq 2), .ref (qq 3), .ref (qq 4), .ref (qq 5), .int z6, .ref (qq 7), .ref (qq 8), .ref (qq 9), .ref (qq 10), .ref (qq 11), .int z12, .ref (qq 13), .int z14, .int z15, .int z16, .int z17, .ref (qq 18), .int z19, .ref (qq 20), .int z21, .int z22, .int z23, .int z24, .ref (qq 25), .int z26, .ref (qq 27), .ref (qq 28), .ref (qq 29), .int 0, .ref (qq 31), .ref (qq 32), .ref (qq 33), .ref (qq 34), .ref (qq 35), .ref (qq 36), .ref (qq 37), .ref (qq 38), .ref (qq 39), .ref (qq 40), .ref (qq 41), .ref (qq 42)])), ((qq 0), .inl (cT 0, 2, .inl (fun _ => 1))), ((qq 2), .inl (cT 0, 50, .inl (fun _ => (-1))))]) rfl hP hD hK hN hZ hS hA [0, 1, 2] rfl (by decide) (ci := 12) (q0 := 0) rfl rfl) rfl rfl hl.1 rfl (lv_room (Nat.le_of_ble_eq_true rfl)) dX12_layTables_16 ⟨(Nat.le_of_ble_eq_true rfl), (Nat.le_of_ble_eq_true rfl)⟩) hP hD hS hA [0, 1, 2] [3, 4, 5] rfl rfl (by decide) (by decide) (Nat.le_of_ble_eq_true rfl) (Nat.le_of_ble_eq_true rfl) (fun r_1 u H locs h_2 hP hD hS => ?_)
    have hP : va_P g vwCl [((qq 27), .inl (cT 1, 4001, .inr (.inl (fun _ => 0)))), ((qq 28), .inl (cT 0, 4001, .inl (fun _ => 0))), ((qq 29), .inl (cT 0, 4001, .inl (fun _ => 0))), (y, .inr (12, [.ref (qq 0), .ref (qq 1), .ref (qq 2), .ref (qq 3), .ref (qq 4), .ref (qq 5), .int z6, .ref (qq 7), .ref (qq 8), .ref (qq 9), .ref (qq 10), .ref (qq 11), .int z12, .ref (qq 13), .int z14, .int z15, .int z16, .int z17, .ref (qq 18), .int z19, .ref (qq 20), .int z21, .int z22, .int z23, .int z24, .ref (qq 25), .int z26, .ref (qq 27), .ref (qq 28), .ref (qq 29), .int 0, .ref (qq 31), .ref (qq 32), .ref (qq 33), .ref (qq 34), .ref (qq 35), .ref (qq 36), .ref (qq 37), .ref (qq 38), .ref (qq 39), .ref (qq 40), .ref (qq 41), .ref (qq 42)])), ((qq 0), .inl (cT 0, 2, .inl (fun _ => 1))), ((qq 2), .inl (cT 0, 50, .inl (fun _ => (-1))))] H := hP
    have hD : va_D A [((qq 27), .inl (cT 1, 4001, .inr (.inl (fun _ => 0)))), ((qq 28), .inl (cT 0, 4001, .inl (fun _ => 0))), ((qq 29), .inl (cT 0, 4001, .inl (fun _ => 0))), (y, .inr (12, [.ref (qq 0), .ref (qq 1), .ref (qq 2), .ref (qq 3), .ref (qq 4), .ref (qq 5), .int z6, .ref (qq 7), .ref (qq 8), .ref (qq 9), .ref (qq 10), .ref (qq 11), .int z12, .ref (qq 13), .int z14, .int z15, .int z16, .int z17, .ref (qq 18), .int z19, .ref (qq 20), .int z21, .int z22, .int z23, .int z24, .ref (qq 25), .int z26, .ref (qq 27), .ref (qq 28), .ref (qq 29), .int 0, .ref (qq 31), .ref (qq 32), .ref (qq 33), .ref (qq 34), .ref (qq 35), .ref (qq 36), .ref (qq 37), .ref (qq 38), .ref (qq 39), .ref (qq 40), .ref (qq 41), .ref (qq 42)])), ((qq 0), .inl (cT 0, 2, .inl (fun _ => 1))), ((qq 2), .inl (cT 0, 50, .inl (fun _ => (-1))))] := hD
    subst h_2
    refine cj_i 0 0 (wr := [((qq 27), .inl (cT 1, 4001, .inr (.inl (fun _ => 0)))), ((qq 28), .inl (cT 0, 4001, .inl (fun _ => 0))), ((qq 29), .inl (cT 0, 4001, .inl (fun _ => 0))), ((qq 0), .inl (cT 0, 2, .inl (fun _ => 1))), ((qq 2), .inl (cT 0, 50, .inl (fun _ => (-1))))]) (va_runV (As := [.long 10485770]) (rest := []) ⟨hx, hb, hml, hown, hts⟩ (c_M_kindOf_0 l g cT H.size y qq z6 z12 z14 z15 z16 z17 z19 z21 z22 z23 z24 z26 10485770) (cwV 1 hts gX12_layTables_X12_kindOf rfl rfl rfl yd_X12_kindOf ⟨(Nat.le_of_ble_eq_true rfl), (Nat.le_of_ble_eq_true rfl)⟩) (preV (wc := [(y, .inr (12, [.ref (qq 0), .ref (qq 1), .ref (qq 2), .ref (qq 3), .ref (qq 4), .ref (qq 5), .int z6, .ref (qq 7), .ref (qq 8), .ref (qq 9), .ref (qq 10), .ref (qq 11), .int z12, .ref (qq 13), .int z14, .int z15, .int z16, .int z17, .ref (qq 18), .int z19, .ref (qq 20), .int z21, .int z22, .int z23, .int z24, .ref (qq 25), .int z26, .ref (qq 27), .ref (qq 28), .ref (qq 29), .int 0, .ref (qq 31), .ref (qq 32), .ref (qq 33), .ref (qq 34), .ref (qq 35), .ref (qq 36), .ref (qq 37), .ref (qq 38), .ref (qq 39), .ref (qq 40), .ref (qq 41), .ref (qq 42)]))]) rfl hP hD hK hN hZ hS hA [3] rfl (by decide) (ci := 12) (q0 := 3) rfl rfl) rfl rfl hl.1 rfl (lv_room (Nat.le_of_ble_eq_true rfl)) dX12_layTables_19 ⟨(Nat.le_of_ble_eq_true rfl), (Nat.le_of_ble_eq_true rfl)⟩) hP hD hS hA [3] [0, 1, 2, 4, 5] rfl rfl (by decide) (by decide) (Nat.le_of_ble_eq_true rfl) (Nat.le_of_ble_eq_true rfl) (fun r_3 u H locs h_4 hP hD hS => ?_)
    have hP : va_P g vwCl [((qq 27), .inl (cT 1, 4001, .inr (.inl (fun _ => 0)))), ((qq 28), .inl (cT 0, 4001, .inl (fun _ => 0))), ((qq 29), .inl (cT 0, 4001, .inl (fun _ => 0))), ((qq 0), .inl (cT 0, 2, .inl (fun _ => 1))), ((qq 2), .inl (cT 0, 50, .inl (fun _ => (-1)))), (y, .inr (12, [.ref (qq 0), .ref (qq 1), .ref (qq 2), .ref (qq 3), .ref (qq 4), .ref (qq 5), .int z6, .ref (qq 7), .ref (qq 8), .ref (qq 9), .ref (qq 10), .ref (qq 11), .int z12, .ref (qq 13), .int z14, .int z15, .int z16, .int z17, .ref (qq 18), .int z19, .ref (qq 20), .int z21, .int z22, .int z23, .int z24, .ref (qq 25), .int z26, .ref (qq 27), .ref (qq 28), .ref (qq 29), .int 0, .ref (qq 31), .ref (qq 32), .ref (qq 33), .ref (qq 34), .ref (qq 35), .ref (qq 36), .ref (qq 37), .ref (qq 38), .ref (qq 39), .ref (qq 40), .ref (qq 41), .ref (qq 42)]))] H := hP
    have hD : va_D A [((qq 27), .inl (cT 1, 4001, .inr (.inl (fun _ => 0)))), ((qq 28), .inl (cT 0, 4001, .inl (fun _ => 0))), ((qq 29), .inl (cT 0, 4001, .inl (fun _ => 0))), ((qq 0), .inl (cT 0, 2, .inl (fun _ => 1))), ((qq 2), .inl (cT 0, 50, .inl (fun _ => (-1)))), (y, .inr (12, [.ref (qq 0), .ref (qq 1), .ref (qq 2), .ref (qq 3), .ref (qq 4), .ref (qq 5), .int z6, .ref (qq 7), .ref (qq 8), .ref (qq 9), .ref (qq 10), .ref (qq 11), .int z12, .ref (qq 13), .int z14, .int z15, .int z16, .int z17, .ref (qq 18), .int z19, .ref (qq 20), .int z21, .int z22, .int z23, .int z24, .ref (qq 25), .int z26, .ref (qq 27), .ref (qq 28), .ref (qq 29), .int 0, .ref (qq 31), .ref (qq 32), .ref (qq 33), .ref (qq 34), .ref (qq 35), .ref (qq 36), .ref (qq 37), .ref (qq 38), .ref (qq 39), .ref (qq 40), .ref (qq 41), .ref (qq 42)]))] := hD
    subst h_4
    refine lv_iconst (v := (-1)) hx hb dX12_layTables_22 (by decide) ?_
    refine icmp_ne_f hx hb dX12_layTables_23 38 (by decide) (by decide) ?_
    refine lv_aload_n hx hb dX12_layTables_26 rfl (lv_at hl 1 rfl) ?_
    refine lv_aload_n hx hb dX12_layTables_27 rfl (lv_at hl 1 rfl) ?_
    refine lv_iload_n hx hb dX12_layTables_28 rfl (lv_at hl 2 rfl) ?_
    refine lv_iload_n hx hb dX12_layTables_29 rfl (lv_at hl 0 rfl) ?_
    refine cj_l 0 0 (wr := [((qq 27), .inl (cT 1, 4001, .inr (.inl (fun _ => 0)))), ((qq 28), .inl (cT 0, 4001, .inl (fun _ => 0))), ((qq 29), .inl (cT 0, 4001, .inl (fun _ => 0)))]) (va_runV (As := [.int 0, .int 0]) (rest := [.ref y]) ⟨hx, hb, hml, hown, hts⟩ (c_M_letterTable_0_0 l g cT H.size y qq z6 z12 z14 z15 z16 z17 z19 z21 z22 z23 z24 z26 0) (cwV 2 hts gX12_layTables_X12_letterTable rfl rfl rfl yd_X12_letterTable ⟨(Nat.le_of_ble_eq_true rfl), (Nat.le_of_ble_eq_true rfl)⟩) (preV (wc := [(y, .inr (12, [.ref (qq 0), .ref (qq 1), .ref (qq 2), .ref (qq 3), .ref (qq 4), .ref (qq 5), .int z6, .ref (qq 7), .ref (qq 8), .ref (qq 9), .ref (qq 10), .ref (qq 11), .int z12, .ref (qq 13), .int z14, .int z15, .int z16, .int z17, .ref (qq 18), .int z19, .ref (qq 20), .int z21, .int z22, .int z23, .int z24, .ref (qq 25), .int z26, .ref (qq 27), .ref (qq 28), .ref (qq 29), .int 0, .ref (qq 31), .ref (qq 32), .ref (qq 33), .ref (qq 34), .ref (qq 35), .ref (qq 36), .ref (qq 37), .ref (qq 38), .ref (qq 39), .ref (qq 40), .ref (qq 41), .ref (qq 42)])), ((qq 0), .inl (cT 0, 2, .inl (fun _ => 1))), ((qq 2), .inl (cT 0, 50, .inl (fun _ => (-1))))]) rfl hP hD hK hN hZ hS hA [5, 3, 4] rfl (by decide) (ci := 12) (q0 := 5) rfl rfl) rfl rfl hl.1 rfl (lv_room (Nat.le_of_ble_eq_true rfl)) dX12_layTables_30 ⟨(Nat.le_of_ble_eq_true rfl), (Nat.le_of_ble_eq_true rfl)⟩) hP hD hS hA [5, 3, 4] [0, 1, 2] rfl rfl (by decide) (by decide) (Nat.le_of_ble_eq_true rfl) (Nat.le_of_ble_eq_true rfl) (fun r_5 u H locs h_6 hP hD hS => ?_)
    have hP : va_P g vwCl [((qq 27), .inl (cT 1, 4001, .inr (.inl (fun _ => 0)))), ((qq 28), .inl (cT 0, 4001, .inl (fun _ => 0))), ((qq 29), .inl (cT 0, 4001, .inl (fun _ => 0))), (y, .inr (12, [.ref (qq 0), .ref (qq 1), .ref (qq 2), .ref (qq 3), .ref (qq 4), .ref (qq 5), .int z6, .ref (qq 7), .ref (qq 8), .ref (qq 9), .ref (qq 10), .ref (qq 11), .int z12, .ref (qq 13), .int z14, .int z15, .int z16, .int z17, .ref (qq 18), .int z19, .ref (qq 20), .int z21, .int z22, .int z23, .int z24, .ref (qq 25), .int z26, .ref (qq 27), .ref (qq 28), .ref (qq 29), .int 0, .ref (qq 31), .ref (qq 32), .ref (qq 33), .ref (qq 34), .ref (qq 35), .ref (qq 36), .ref (qq 37), .ref (qq 38), .ref (qq 39), .ref (qq 40), .ref (qq 41), .ref (qq 42)])), ((qq 0), .inl (cT 0, 2, .inl (fun _ => 1))), ((qq 2), .inl (cT 0, 50, .inl (fun _ => (-1))))] H := hP
    have hD : va_D A [((qq 27), .inl (cT 1, 4001, .inr (.inl (fun _ => 0)))), ((qq 28), .inl (cT 0, 4001, .inl (fun _ => 0))), ((qq 29), .inl (cT 0, 4001, .inl (fun _ => 0))), (y, .inr (12, [.ref (qq 0), .ref (qq 1), .ref (qq 2), .ref (qq 3), .ref (qq 4), .ref (qq 5), .int z6, .ref (qq 7), .ref (qq 8), .ref (qq 9), .ref (qq 10), .ref (qq 11), .int z12, .ref (qq 13), .int z14, .int z15, .int z16, .int z17, .ref (qq 18), .int z19, .ref (qq 20), .int z21, .int z22, .int z23, .int z24, .ref (qq 25), .int z26, .ref (qq 27), .ref (qq 28), .ref (qq 29), .int 0, .ref (qq 31), .ref (qq 32), .ref (qq 33), .ref (qq 34), .ref (qq 35), .ref (qq 36), .ref (qq 37), .ref (qq 38), .ref (qq 39), .ref (qq 40), .ref (qq 41), .ref (qq 42)])), ((qq 0), .inl (cT 0, 2, .inl (fun _ => 1))), ((qq 2), .inl (cT 0, 50, .inl (fun _ => (-1))))] := hD
    subst h_6
    refine lv_iconst (v := (-1)) hx hb dX12_layTables_33 (by decide) ?_
    refine lv_iload_n hx hb dX12_layTables_34 rfl (lv_at hl 0 rfl) ?_
    refine cj_v 0 0 (wr := [((qq 0), .inl (cT 0, 2, .inl (fun _ => 1))), ((qq 2), .inl (cT 0, 50, .inl (fun _ => (-1))))]) (va_runV (As := [.long 10485770, .int (-1), .int 0]) (rest := []) ⟨hx, hb, hml, hown, hts⟩ (c_M_addKind_K l g cT H.size y qq z6 z12 z14 z15 z16 z17 z19 z21 z22 z23 z24 z26) (cwV 3 hts gX12_layTables_X12_addKind rfl rfl rfl yd_X12_addKind ⟨(Nat.le_of_ble_eq_true rfl), (Nat.le_of_ble_eq_true rfl)⟩) (preV (wc := [(y, .inr (12, [.ref (qq 0), .ref (qq 1), .ref (qq 2), .ref (qq 3), .ref (qq 4), .ref (qq 5), .int z6, .ref (qq 7), .ref (qq 8), .ref (qq 9), .ref (qq 10), .ref (qq 11), .int z12, .ref (qq 13), .int z14, .int z15, .int z16, .int z17, .ref (qq 18), .int z19, .ref (qq 20), .int z21, .int z22, .int z23, .int z24, .ref (qq 25), .int z26, .ref (qq 27), .ref (qq 28), .ref (qq 29), .int 0, .ref (qq 31), .ref (qq 32), .ref (qq 33), .ref (qq 34), .ref (qq 35), .ref (qq 36), .ref (qq 37), .ref (qq 38), .ref (qq 39), .ref (qq 40), .ref (qq 41), .ref (qq 42)])), ((qq 27), .inl (cT 1, 4001, .inr (.inl (fun _ => 0)))), ((qq 28), .inl (cT 0, 4001, .inl (fun _ => 0))), ((qq 29), .inl (cT 0, 4001, .inl (fun _ => 0)))]) rfl hP hD hK hN hZ hS hA [3, 0, 1, 2] rfl (by decide) (ci := 12) (q0 := 3) rfl rfl) rfl rfl hl.1 rfl (lv_room (Nat.le_of_ble_eq_true rfl)) dX12_layTables_35 ⟨(Nat.le_of_ble_eq_true rfl), (Nat.le_of_ble_eq_true rfl)⟩) hP hD hS hA [3, 0, 1, 2] [4, 5] rfl rfl (by decide) (by decide) (Nat.le_of_ble_eq_true rfl) (Nat.le_of_ble_eq_true rfl) (fun u H locs h_8 hP hD hS => ?_)
    have hP : va_P g vwCl [((qq 0), .inl (cT 0, 2, .inl (fun _ => 1))), ((qq 2), .inl (cT 0, 50, .inl (fun _ => (-1)))), (y, .inr (12, [.ref (qq 0), .ref (qq 1), .ref (qq 2), .ref (qq 3), .ref (qq 4), .ref (qq 5), .int z6, .ref (qq 7), .ref (qq 8), .ref (qq 9), .ref (qq 10), .ref (qq 11), .int z12, .ref (qq 13), .int z14, .int z15, .int z16, .int z17, .ref (qq 18), .int z19, .ref (qq 20), .int z21, .int z22, .int z23, .int z24, .ref (qq 25), .int z26, .ref (qq 27), .ref (qq 28), .ref (qq 29), .int 1, .ref (qq 31), .ref (qq 32), .ref (qq 33), .ref (qq 34), .ref (qq 35), .ref (qq 36), .ref (qq 37), .ref (qq 38), .ref (qq 39), .ref (qq 40), .ref (qq 41), .ref (qq 42)])), ((qq 27), .inl (cT 1, 4001, .inr (.inl (vp_updL (fun _ => 0) 0 10485770)))), ((qq 28), .inl (cT 0, 4001, .inl (upd (fun _ => 0) 0 (-1)))), ((qq 29), .inl (cT 0, 4001, .inl (fun _ => 0)))] H := hP
    have hD : va_D A [((qq 0), .inl (cT 0, 2, .inl (fun _ => 1))), ((qq 2), .inl (cT 0, 50, .inl (fun _ => (-1)))), (y, .inr (12, [.ref (qq 0), .ref (qq 1), .ref (qq 2), .ref (qq 3), .ref (qq 4), .ref (qq 5), .int z6, .ref (qq 7), .ref (qq 8), .ref (qq 9), .ref (qq 10), .ref (qq 11), .int z12, .ref (qq 13), .int z14, .int z15, .int z16, .int z17, .ref (qq 18), .int z19, .ref (qq 20), .int z21, .int z22, .int z23, .int z24, .ref (qq 25), .int z26, .ref (qq 27), .ref (qq 28), .ref (qq 29), .int 1, .ref (qq 31), .ref (qq 32), .ref (qq 33), .ref (qq 34), .ref (qq 35), .ref (qq 36), .ref (qq 37), .ref (qq 38), .ref (qq 39), .ref (qq 40), .ref (qq 41), .ref (qq 42)])), ((qq 27), .inl (cT 1, 4001, .inr (.inl (vp_updL (fun _ => 0) 0 10485770)))), ((qq 28), .inl (cT 0, 4001, .inl (upd (fun _ => 0) 0 (-1)))), ((qq 29), .inl (cT 0, 4001, .inl (fun _ => 0)))] := hD
    refine lv_iinc (v := 1) (lv' := [(2, .int 1), (0, .ref y), (1, .int 0)]) hx hb dX12_layTables_38 hl (k := 0) rfl (by decide) (by decide) rfl (fun ls hl => ?_)
    refine lv_goto (tgt := 7) hx hb dX12_layTables_41 (by decide) ?_
    refine lv_iload_n hx hb dX12_layTables_7 rfl (lv_at hl 0 rfl) ?_
    refine lv_iconst (v := 3) hx hb dX12_layTables_8 (by decide) ?_
    refine icmp_ge_f hx hb dX12_layTables_9 44 (by decide) (by decide) ?_
    refine lv_aload_n hx hb dX12_layTables_12 rfl (lv_at hl 1 rfl) ?_
    refine lv_aload_n hx hb dX12_layTables_13 rfl (lv_at hl 1 rfl) ?_
    refine lv_iload_n hx hb dX12_layTables_14 rfl (lv_at hl 2 rfl) ?_
    refine lv_iload_n hx hb dX12_layTables_15 rfl (lv_at hl 0 rfl) ?_
    refine cj_l 0 0 (wr := [((qq 27), .inl (cT 1, 4001, .inr (.inl (vp_updL (fun _ => 0) 0 10485770)))), ((qq 28), .inl (cT 0, 4001, .inl (upd (fun _ => 0) 0 (-1)))), ((qq 29), .inl (cT 0, 4001, .inl (fun _ => 0)))]) (va_runV (As := [.int 0, .int 1]) (rest := [.ref y]) ⟨hx, hb, hml, hown, hts⟩ (c_M_letterTable_0_1 l g cT H.size y qq z6 z12 z14 z15 z16 z17 z19 z21 z22 z23 z24 z26 1) (cwV 2 hts gX12_layTables_X12_letterTable rfl rfl rfl yd_X12_letterTable ⟨(Nat.le_of_ble_eq_true rfl), (Nat.le_of_ble_eq_true rfl)⟩) (preV (wc := [(y, .inr (12, [.ref (qq 0), .ref (qq 1), .ref (qq 2), .ref (qq 3), .ref (qq 4), .ref (qq 5), .int z6, .ref (qq 7), .ref (qq 8), .ref (qq 9), .ref (qq 10), .ref (qq 11), .int z12, .ref (qq 13), .int z14, .int z15, .int z16, .int z17, .ref (qq 18), .int z19, .ref (qq 20), .int z21, .int z22, .int z23, .int z24, .ref (qq 25), .int z26, .ref (qq 27), .ref (qq 28), .ref (qq 29), .int 1, .ref (qq 31), .ref (qq 32), .ref (qq 33), .ref (qq 34), .ref (qq 35), .ref (qq 36), .ref (qq 37), .ref (qq 38), .ref (qq 39), .ref (qq 40), .ref (qq 41), .ref (qq 42)])), ((qq 0), .inl (cT 0, 2, .inl (fun _ => 1))), ((qq 2), .inl (cT 0, 50, .inl (fun _ => (-1))))]) rfl hP hD hK hN hZ hS hA [2, 0, 1] rfl (by decide) (ci := 12) (q0 := 2) rfl rfl) rfl rfl hl.1 rfl (lv_room (Nat.le_of_ble_eq_true rfl)) dX12_layTables_16 ⟨(Nat.le_of_ble_eq_true rfl), (Nat.le_of_ble_eq_true rfl)⟩) hP hD hS hA [2, 0, 1] [3, 4, 5] rfl rfl (by decide) (by decide) (Nat.le_of_ble_eq_true rfl) (Nat.le_of_ble_eq_true rfl) (fun r_9 u H locs h_10 hP hD hS => ?_)
    have hP : va_P g vwCl [((qq 27), .inl (cT 1, 4001, .inr (.inl (vp_updL (fun _ => 0) 0 10485770)))), ((qq 28), .inl (cT 0, 4001, .inl (upd (fun _ => 0) 0 (-1)))), ((qq 29), .inl (cT 0, 4001, .inl (fun _ => 0))), (y, .inr (12, [.ref (qq 0), .ref (qq 1), .ref (qq 2), .ref (qq 3), .ref (qq 4), .ref (qq 5), .int z6, .ref (qq 7), .ref (qq 8), .ref (qq 9), .ref (qq 10), .ref (qq 11), .int z12, .ref (qq 13), .int z14, .int z15, .int z16, .int z17, .ref (qq 18), .int z19, .ref (qq 20), .int z21, .int z22, .int z23, .int z24, .ref (qq 25), .int z26, .ref (qq 27), .ref (qq 28), .ref (qq 29), .int 1, .ref (qq 31), .ref (qq 32), .ref (qq 33), .ref (qq 34), .ref (qq 35), .ref (qq 36), .ref (qq 37), .ref (qq 38), .ref (qq 39), .ref (qq 40), .ref (qq 41), .ref (qq 42)])), ((qq 0), .inl (cT 0, 2, .inl (fun _ => 1))), ((qq 2), .inl (cT 0, 50, .inl (fun _ => (-1))))] H := hP
    have hD : va_D A [((qq 27), .inl (cT 1, 4001, .inr (.inl (vp_updL (fun _ => 0) 0 10485770)))), ((qq 28), .inl (cT 0, 4001, .inl (upd (fun _ => 0) 0 (-1)))), ((qq 29), .inl (cT 0, 4001, .inl (fun _ => 0))), (y, .inr (12, [.ref (qq 0), .ref (qq 1), .ref (qq 2), .ref (qq 3), .ref (qq 4), .ref (qq 5), .int z6, .ref (qq 7), .ref (qq 8), .ref (qq 9), .ref (qq 10), .ref (qq 11), .int z12, .ref (qq 13), .int z14, .int z15, .int z16, .int z17, .ref (qq 18), .int z19, .ref (qq 20), .int z21, .int z22, .int z23, .int z24, .ref (qq 25), .int z26, .ref (qq 27), .ref (qq 28), .ref (qq 29), .int 1, .ref (qq 31), .ref (qq 32), .ref (qq 33), .ref (qq 34), .ref (qq 35), .ref (qq 36), .ref (qq 37), .ref (qq 38), .ref (qq 39), .ref (qq 40), .ref (qq 41), .ref (qq 42)])), ((qq 0), .inl (cT 0, 2, .inl (fun _ => 1))), ((qq 2), .inl (cT 0, 50, .inl (fun _ => (-1))))] := hD
    subst h_10
    refine cj_i 0 0 (wr := [((qq 28), .inl (cT 0, 4001, .inl (upd (fun _ => 0) 0 (-1)))), ((qq 29), .inl (cT 0, 4001, .inl (fun _ => 0))), ((qq 0), .inl (cT 0, 2, .inl (fun _ => 1))), ((qq 2), .inl (cT 0, 50, .inl (fun _ => (-1))))]) (va_runV (As := [.long 10485770]) (rest := []) ⟨hx, hb, hml, hown, hts⟩ (c_M_kindOf_1 l g cT H.size y qq z6 z12 z14 z15 z16 z17 z19 z21 z22 z23 z24 z26) (cwV 1 hts gX12_layTables_X12_kindOf rfl rfl rfl yd_X12_kindOf ⟨(Nat.le_of_ble_eq_true rfl), (Nat.le_of_ble_eq_true rfl)⟩) (preV (wc := [(y, .inr (12, [.ref (qq 0), .ref (qq 1), .ref (qq 2), .ref (qq 3), .ref (qq 4), .ref (qq 5), .int z6, .ref (qq 7), .ref (qq 8), .ref (qq 9), .ref (qq 10), .ref (qq 11), .int z12, .ref (qq 13), .int z14, .int z15, .int z16, .int z17, .ref (qq 18), .int z19, .ref (qq 20), .int z21, .int z22, .int z23, .int z24, .ref (qq 25), .int z26, .ref (qq 27), .ref (qq 28), .ref (qq 29), .int 1, .ref (qq 31), .ref (qq 32), .ref (qq 33), .ref (qq 34), .ref (qq 35), .ref (qq 36), .ref (qq 37), .ref (qq 38), .ref (qq 39), .ref (qq 40), .ref (qq 41), .ref (qq 42)])), ((qq 27), .inl (cT 1, 4001, .inr (.inl (vp_updL (fun _ => 0) 0 10485770))))]) rfl hP hD hK hN hZ hS hA [3, 0] rfl (by decide) (ci := 12) (q0 := 3) rfl rfl) rfl rfl hl.1 rfl (lv_room (Nat.le_of_ble_eq_true rfl)) dX12_layTables_19 ⟨(Nat.le_of_ble_eq_true rfl), (Nat.le_of_ble_eq_true rfl)⟩) hP hD hS hA [3, 0] [1, 2, 4, 5] rfl rfl (by decide) (by decide) (Nat.le_of_ble_eq_true rfl) (Nat.le_of_ble_eq_true rfl) (fun r_11 u H locs h_12 hP hD hS => ?_)
    have hP : va_P g vwCl [((qq 28), .inl (cT 0, 4001, .inl (upd (fun _ => 0) 0 (-1)))), ((qq 29), .inl (cT 0, 4001, .inl (fun _ => 0))), ((qq 0), .inl (cT 0, 2, .inl (fun _ => 1))), ((qq 2), .inl (cT 0, 50, .inl (fun _ => (-1)))), (y, .inr (12, [.ref (qq 0), .ref (qq 1), .ref (qq 2), .ref (qq 3), .ref (qq 4), .ref (qq 5), .int z6, .ref (qq 7), .ref (qq 8), .ref (qq 9), .ref (qq 10), .ref (qq 11), .int z12, .ref (qq 13), .int z14, .int z15, .int z16, .int z17, .ref (qq 18), .int z19, .ref (qq 20), .int z21, .int z22, .int z23, .int z24, .ref (qq 25), .int z26, .ref (qq 27), .ref (qq 28), .ref (qq 29), .int 1, .ref (qq 31), .ref (qq 32), .ref (qq 33), .ref (qq 34), .ref (qq 35), .ref (qq 36), .ref (qq 37), .ref (qq 38), .ref (qq 39), .ref (qq 40), .ref (qq 41), .ref (qq 42)])), ((qq 27), .inl (cT 1, 4001, .inr (.inl (vp_updL (fun _ => 0) 0 10485770))))] H := hP
    have hD : va_D A [((qq 28), .inl (cT 0, 4001, .inl (upd (fun _ => 0) 0 (-1)))), ((qq 29), .inl (cT 0, 4001, .inl (fun _ => 0))), ((qq 0), .inl (cT 0, 2, .inl (fun _ => 1))), ((qq 2), .inl (cT 0, 50, .inl (fun _ => (-1)))), (y, .inr (12, [.ref (qq 0), .ref (qq 1), .ref (qq 2), .ref (qq 3), .ref (qq 4), .ref (qq 5), .int z6, .ref (qq 7), .ref (qq 8), .ref (qq 9), .ref (qq 10), .ref (qq 11), .int z12, .ref (qq 13), .int z14, .int z15, .int z16, .int z17, .ref (qq 18), .int z19, .ref (qq 20), .int z21, .int z22, .int z23, .int z24, .ref (qq 25), .int z26, .ref (qq 27), .ref (qq 28), .ref (qq 29), .int 1, .ref (qq 31), .ref (qq 32), .ref (qq 33), .ref (qq 34), .ref (qq 35), .ref (qq 36), .ref (qq 37), .ref (qq 38), .ref (qq 39), .ref (qq 40), .ref (qq 41), .ref (qq 42)])), ((qq 27), .inl (cT 1, 4001, .inr (.inl (vp_updL (fun _ => 0) 0 10485770))))] := hD
    subst h_12
    refine lv_iconst (v := (-1)) hx hb dX12_layTables_22 (by decide) ?_
    refine icmp_ne_t hx hb 38 dX12_layTables_23 (by decide) (by decide) ?_
    refine lv_iinc (v := 2) (lv' := [(2, .int 2), (0, .ref y), (1, .int 0)]) hx hb dX12_layTables_38 hl (k := 0) rfl (by decide) (by decide) rfl (fun ls hl => ?_)
    refine lv_goto (tgt := 7) hx hb dX12_layTables_41 (by decide) ?_
    refine lv_iload_n hx hb dX12_layTables_7 rfl (lv_at hl 0 rfl) ?_
    refine lv_iconst (v := 3) hx hb dX12_layTables_8 (by decide) ?_
    refine icmp_ge_f hx hb dX12_layTables_9 44 (by decide) (by decide) ?_
    refine lv_aload_n hx hb dX12_layTables_12 rfl (lv_at hl 1 rfl) ?_
    refine lv_aload_n hx hb dX12_layTables_13 rfl (lv_at hl 1 rfl) ?_
    refine lv_iload_n hx hb dX12_layTables_14 rfl (lv_at hl 2 rfl) ?_
    refine lv_iload_n hx hb dX12_layTables_15 rfl (lv_at hl 0 rfl) ?_
    refine cj_l 0 0 (wr := [((qq 28), .inl (cT 0, 4001, .inl (upd (fun _ => 0) 0 (-1)))), ((qq 29), .inl (cT 0, 4001, .inl (fun _ => 0))), ((qq 27), .inl (cT 1, 4001, .inr (.inl (vp_updL (fun _ => 0) 0 10485770))))]) (va_runV (As := [.int 0, .int 2]) (rest := [.ref y]) ⟨hx, hb, hml, hown, hts⟩ (c_M_letterTable_0_2 l g cT H.size y qq z6 z12 z14 z15 z16 z17 z19 z21 z22 z23 z24 z26 1) (cwV 2 hts gX12_layTables_X12_letterTable rfl rfl rfl yd_X12_letterTable ⟨(Nat.le_of_ble_eq_true rfl), (Nat.le_of_ble_eq_true rfl)⟩) (preV (wc := [(y, .inr (12, [.ref (qq 0), .ref (qq 1), .ref (qq 2), .ref (qq 3), .ref (qq 4), .ref (qq 5), .int z6, .ref (qq 7), .ref (qq 8), .ref (qq 9), .ref (qq 10), .ref (qq 11), .int z12, .ref (qq 13), .int z14, .int z15, .int z16, .int z17, .ref (qq 18), .int z19, .ref (qq 20), .int z21, .int z22, .int z23, .int z24, .ref (qq 25), .int z26, .ref (qq 27), .ref (qq 28), .ref (qq 29), .int 1, .ref (qq 31), .ref (qq 32), .ref (qq 33), .ref (qq 34), .ref (qq 35), .ref (qq 36), .ref (qq 37), .ref (qq 38), .ref (qq 39), .ref (qq 40), .ref (qq 41), .ref (qq 42)])), ((qq 0), .inl (cT 0, 2, .inl (fun _ => 1))), ((qq 2), .inl (cT 0, 50, .inl (fun _ => (-1))))]) rfl hP hD hK hN hZ hS hA [4, 2, 3] rfl (by decide) (ci := 12) (q0 := 4) rfl rfl) rfl rfl hl.1 rfl (lv_room (Nat.le_of_ble_eq_true rfl)) dX12_layTables_16 ⟨(Nat.le_of_ble_eq_true rfl), (Nat.le_of_ble_eq_true rfl)⟩) hP hD hS hA [4, 2, 3] [0, 1, 5] rfl rfl (by decide) (by decide) (Nat.le_of_ble_eq_true rfl) (Nat.le_of_ble_eq_true rfl) (fun r_13 u H locs h_14 hP hD hS => ?_)
    have hP : va_P g vwCl [((qq 28), .inl (cT 0, 4001, .inl (upd (fun _ => 0) 0 (-1)))), ((qq 29), .inl (cT 0, 4001, .inl (fun _ => 0))), ((qq 27), .inl (cT 1, 4001, .inr (.inl (vp_updL (fun _ => 0) 0 10485770)))), (y, .inr (12, [.ref (qq 0), .ref (qq 1), .ref (qq 2), .ref (qq 3), .ref (qq 4), .ref (qq 5), .int z6, .ref (qq 7), .ref (qq 8), .ref (qq 9), .ref (qq 10), .ref (qq 11), .int z12, .ref (qq 13), .int z14, .int z15, .int z16, .int z17, .ref (qq 18), .int z19, .ref (qq 20), .int z21, .int z22, .int z23, .int z24, .ref (qq 25), .int z26, .ref (qq 27), .ref (qq 28), .ref (qq 29), .int 1, .ref (qq 31), .ref (qq 32), .ref (qq 33), .ref (qq 34), .ref (qq 35), .ref (qq 36), .ref (qq 37), .ref (qq 38), .ref (qq 39), .ref (qq 40), .ref (qq 41), .ref (qq 42)])), ((qq 0), .inl (cT 0, 2, .inl (fun _ => 1))), ((qq 2), .inl (cT 0, 50, .inl (fun _ => (-1))))] H := hP
    have hD : va_D A [((qq 28), .inl (cT 0, 4001, .inl (upd (fun _ => 0) 0 (-1)))), ((qq 29), .inl (cT 0, 4001, .inl (fun _ => 0))), ((qq 27), .inl (cT 1, 4001, .inr (.inl (vp_updL (fun _ => 0) 0 10485770)))), (y, .inr (12, [.ref (qq 0), .ref (qq 1), .ref (qq 2), .ref (qq 3), .ref (qq 4), .ref (qq 5), .int z6, .ref (qq 7), .ref (qq 8), .ref (qq 9), .ref (qq 10), .ref (qq 11), .int z12, .ref (qq 13), .int z14, .int z15, .int z16, .int z17, .ref (qq 18), .int z19, .ref (qq 20), .int z21, .int z22, .int z23, .int z24, .ref (qq 25), .int z26, .ref (qq 27), .ref (qq 28), .ref (qq 29), .int 1, .ref (qq 31), .ref (qq 32), .ref (qq 33), .ref (qq 34), .ref (qq 35), .ref (qq 36), .ref (qq 37), .ref (qq 38), .ref (qq 39), .ref (qq 40), .ref (qq 41), .ref (qq 42)])), ((qq 0), .inl (cT 0, 2, .inl (fun _ => 1))), ((qq 2), .inl (cT 0, 50, .inl (fun _ => (-1))))] := hD
    subst h_14
    refine cj_i 0 0 (wr := [((qq 28), .inl (cT 0, 4001, .inl (upd (fun _ => 0) 0 (-1)))), ((qq 29), .inl (cT 0, 4001, .inl (fun _ => 0))), ((qq 0), .inl (cT 0, 2, .inl (fun _ => 1))), ((qq 2), .inl (cT 0, 50, .inl (fun _ => (-1))))]) (va_runV (As := [.long 10485770]) (rest := []) ⟨hx, hb, hml, hown, hts⟩ (c_M_kindOf_1 l g cT H.size y qq z6 z12 z14 z15 z16 z17 z19 z21 z22 z23 z24 z26) (cwV 1 hts gX12_layTables_X12_kindOf rfl rfl rfl yd_X12_kindOf ⟨(Nat.le_of_ble_eq_true rfl), (Nat.le_of_ble_eq_true rfl)⟩) (preV (wc := [(y, .inr (12, [.ref (qq 0), .ref (qq 1), .ref (qq 2), .ref (qq 3), .ref (qq 4), .ref (qq 5), .int z6, .ref (qq 7), .ref (qq 8), .ref (qq 9), .ref (qq 10), .ref (qq 11), .int z12, .ref (qq 13), .int z14, .int z15, .int z16, .int z17, .ref (qq 18), .int z19, .ref (qq 20), .int z21, .int z22, .int z23, .int z24, .ref (qq 25), .int z26, .ref (qq 27), .ref (qq 28), .ref (qq 29), .int 1, .ref (qq 31), .ref (qq 32), .ref (qq 33), .ref (qq 34), .ref (qq 35), .ref (qq 36), .ref (qq 37), .ref (qq 38), .ref (qq 39), .ref (qq 40), .ref (qq 41), .ref (qq 42)])), ((qq 27), .inl (cT 1, 4001, .inr (.inl (vp_updL (fun _ => 0) 0 10485770))))]) rfl hP hD hK hN hZ hS hA [3, 2] rfl (by decide) (ci := 12) (q0 := 3) rfl rfl) rfl rfl hl.1 rfl (lv_room (Nat.le_of_ble_eq_true rfl)) dX12_layTables_19 ⟨(Nat.le_of_ble_eq_true rfl), (Nat.le_of_ble_eq_true rfl)⟩) hP hD hS hA [3, 2] [0, 1, 4, 5] rfl rfl (by decide) (by decide) (Nat.le_of_ble_eq_true rfl) (Nat.le_of_ble_eq_true rfl) (fun r_15 u H locs h_16 hP hD hS => ?_)
    have hP : va_P g vwCl [((qq 28), .inl (cT 0, 4001, .inl (upd (fun _ => 0) 0 (-1)))), ((qq 29), .inl (cT 0, 4001, .inl (fun _ => 0))), ((qq 0), .inl (cT 0, 2, .inl (fun _ => 1))), ((qq 2), .inl (cT 0, 50, .inl (fun _ => (-1)))), (y, .inr (12, [.ref (qq 0), .ref (qq 1), .ref (qq 2), .ref (qq 3), .ref (qq 4), .ref (qq 5), .int z6, .ref (qq 7), .ref (qq 8), .ref (qq 9), .ref (qq 10), .ref (qq 11), .int z12, .ref (qq 13), .int z14, .int z15, .int z16, .int z17, .ref (qq 18), .int z19, .ref (qq 20), .int z21, .int z22, .int z23, .int z24, .ref (qq 25), .int z26, .ref (qq 27), .ref (qq 28), .ref (qq 29), .int 1, .ref (qq 31), .ref (qq 32), .ref (qq 33), .ref (qq 34), .ref (qq 35), .ref (qq 36), .ref (qq 37), .ref (qq 38), .ref (qq 39), .ref (qq 40), .ref (qq 41), .ref (qq 42)])), ((qq 27), .inl (cT 1, 4001, .inr (.inl (vp_updL (fun _ => 0) 0 10485770))))] H := hP
    have hD : va_D A [((qq 28), .inl (cT 0, 4001, .inl (upd (fun _ => 0) 0 (-1)))), ((qq 29), .inl (cT 0, 4001, .inl (fun _ => 0))), ((qq 0), .inl (cT 0, 2, .inl (fun _ => 1))), ((qq 2), .inl (cT 0, 50, .inl (fun _ => (-1)))), (y, .inr (12, [.ref (qq 0), .ref (qq 1), .ref (qq 2), .ref (qq 3), .ref (qq 4), .ref (qq 5), .int z6, .ref (qq 7), .ref (qq 8), .ref (qq 9), .ref (qq 10), .ref (qq 11), .int z12, .ref (qq 13), .int z14, .int z15, .int z16, .int z17, .ref (qq 18), .int z19, .ref (qq 20), .int z21, .int z22, .int z23, .int z24, .ref (qq 25), .int z26, .ref (qq 27), .ref (qq 28), .ref (qq 29), .int 1, .ref (qq 31), .ref (qq 32), .ref (qq 33), .ref (qq 34), .ref (qq 35), .ref (qq 36), .ref (qq 37), .ref (qq 38), .ref (qq 39), .ref (qq 40), .ref (qq 41), .ref (qq 42)])), ((qq 27), .inl (cT 1, 4001, .inr (.inl (vp_updL (fun _ => 0) 0 10485770))))] := hD
    subst h_16
    refine lv_iconst (v := (-1)) hx hb dX12_layTables_22 (by decide) ?_
    refine icmp_ne_t hx hb 38 dX12_layTables_23 (by decide) (by decide) ?_
    refine lv_iinc (v := 3) (lv' := [(2, .int 3), (0, .ref y), (1, .int 0)]) hx hb dX12_layTables_38 hl (k := 0) rfl (by decide) (by decide) rfl (fun ls hl => ?_)
    refine lv_goto (tgt := 7) hx hb dX12_layTables_41 (by decide) ?_
    refine lv_iload_n hx hb dX12_layTables_7 rfl (lv_at hl 0 rfl) ?_
    refine lv_iconst (v := 3) hx hb dX12_layTables_8 (by decide) ?_
    refine icmp_ge_t hx hb 44 dX12_layTables_9 (by decide) (by decide) ?_
    refine lv_iconst (v := 0) hx hb dX12_layTables_44 (by decide) ?_
    refine lv_istore_n (lv' := [(2, .int 0), (0, .ref y), (1, .int 0)]) hx hb dX12_layTables_45 rfl hl (by decide) rfl (fun ls hl => ?_)
    refine lv_iload_n hx hb dX12_layTables_46 rfl (lv_at hl 0 rfl) ?_
    refine lv_aload_n hx hb dX12_layTables_47 rfl (lv_at hl 1 rfl) ?_
    refine va_get (C := RX12) (T := TX12) (N := 43) (v := .int 1) hx hb hts hi_X12_layTables_X12 hown hK hP 4 rfl rfl 30 (by decide) (hts (.fieldLink RX12 234 "BothWaysModel" "kindMany" "I") (by decide +kernel)) (fun _ h => h) rfl dX12_layTables_48 ?_
    refine icmp_ge_f hx hb dX12_layTables_51 122 (by decide) (by decide) ?_
    refine lv_iconst (v := 0) hx hb dX12_layTables_54 (by decide) ?_
    refine lv_istore_n (lv' := [(3, .int 0), (2, .int 0), (0, .ref y), (1, .int 0)]) hx hb dX12_layTables_55 rfl hl (by decide) rfl (fun ls hl => ?_)
    refine lv_iload_n hx hb dX12_layTables_56 rfl (lv_at hl 0 rfl) ?_
    refine lv_iconst (v := 3) hx hb dX12_layTables_57 (by decide) ?_
    refine icmp_ge_f hx hb dX12_layTables_58 116 (by decide) (by decide) ?_
    refine lv_aload_n hx hb dX12_layTables_61 rfl (lv_at hl 2 rfl) ?_
    refine lv_iload_n hx hb dX12_layTables_62 rfl (lv_at hl 3 rfl) ?_
    refine lv_aload_n hx hb dX12_layTables_63 rfl (lv_at hl 2 rfl) ?_
    refine va_get (C := RX12) (T := TX12) (N := 43) (v := .ref (qq 27)) hx hb hts hi_X12_layTables_X12 hown hK hP 4 rfl rfl 27 (by decide) (hts (.fieldLink RX12 56 "BothWaysModel" "kinds" "[J") (by decide +kernel)) (fun _ h => h) rfl dX12_layTables_64 ?_
    refine lv_iload_n hx hb dX12_layTables_67 rfl (lv_at hl 1 rfl) ?_
    refine w_lald (v := 10485770) hx hb hK hP 5 rfl dX12_layTables_68 (inC (by decide)) (by decide) ?_
    refine lv_aload_n hx hb dX12_layTables_69 rfl (lv_at hl 2 rfl) ?_
    refine lv_iload_n hx hb dX12_layTables_70 rfl (lv_at hl 3 rfl) ?_
    refine lv_iload_n hx hb dX12_layTables_71 rfl (lv_at hl 0 rfl) ?_
    refine cj_l 0 0 (wr := [((qq 28), .inl (cT 0, 4001, .inl (upd (fun _ => 0) 0 (-1)))), ((qq 29), .inl (cT 0, 4001, .inl (fun _ => 0))), ((qq 27), .inl (cT 1, 4001, .inr (.inl (vp_updL (fun _ => 0) 0 10485770))))]) (va_runV (As := [.int 0, .int 0]) (rest := [.long 10485770, .int 0, .ref y]) ⟨hx, hb, hml, hown, hts⟩ (c_M_letterTable_0_0 l g cT H.size y qq z6 z12 z14 z15 z16 z17 z19 z21 z22 z23 z24 z26 1) (cwV 2 hts gX12_layTables_X12_letterTable rfl rfl rfl yd_X12_letterTable ⟨(Nat.le_of_ble_eq_true rfl), (Nat.le_of_ble_eq_true rfl)⟩) (preV (wc := [(y, .inr (12, [.ref (qq 0), .ref (qq 1), .ref (qq 2), .ref (qq 3), .ref (qq 4), .ref (qq 5), .int z6, .ref (qq 7), .ref (qq 8), .ref (qq 9), .ref (qq 10), .ref (qq 11), .int z12, .ref (qq 13), .int z14, .int z15, .int z16, .int z17, .ref (qq 18), .int z19, .ref (qq 20), .int z21, .int z22, .int z23, .int z24, .ref (qq 25), .int z26, .ref (qq 27), .ref (qq 28), .ref (qq 29), .int 1, .ref (qq 31), .ref (qq 32), .ref (qq 33), .ref (qq 34), .ref (qq 35), .ref (qq 36), .ref (qq 37), .ref (qq 38), .ref (qq 39), .ref (qq 40), .ref (qq 41), .ref (qq 42)])), ((qq 0), .inl (cT 0, 2, .inl (fun _ => 1))), ((qq 2), .inl (cT 0, 50, .inl (fun _ => (-1))))]) rfl hP hD hK hN hZ hS hA [4, 2, 3] rfl (by decide) (ci := 12) (q0 := 4) rfl rfl) rfl rfl hl.1 rfl (lv_room (Nat.le_of_ble_eq_true rfl)) dX12_layTables_72 ⟨(Nat.le_of_ble_eq_true rfl), (Nat.le_of_ble_eq_true rfl)⟩) hP hD hS hA [4, 2, 3] [0, 1, 5] rfl rfl (by decide) (by decide) (Nat.le_of_ble_eq_true rfl) (Nat.le_of_ble_eq_true rfl) (fun r_17 u H locs h_18 hP hD hS => ?_)
    have hP : va_P g vwCl [((qq 28), .inl (cT 0, 4001, .inl (upd (fun _ => 0) 0 (-1)))), ((qq 29), .inl (cT 0, 4001, .inl (fun _ => 0))), ((qq 27), .inl (cT 1, 4001, .inr (.inl (vp_updL (fun _ => 0) 0 10485770)))), (y, .inr (12, [.ref (qq 0), .ref (qq 1), .ref (qq 2), .ref (qq 3), .ref (qq 4), .ref (qq 5), .int z6, .ref (qq 7), .ref (qq 8), .ref (qq 9), .ref (qq 10), .ref (qq 11), .int z12, .ref (qq 13), .int z14, .int z15, .int z16, .int z17, .ref (qq 18), .int z19, .ref (qq 20), .int z21, .int z22, .int z23, .int z24, .ref (qq 25), .int z26, .ref (qq 27), .ref (qq 28), .ref (qq 29), .int 1, .ref (qq 31), .ref (qq 32), .ref (qq 33), .ref (qq 34), .ref (qq 35), .ref (qq 36), .ref (qq 37), .ref (qq 38), .ref (qq 39), .ref (qq 40), .ref (qq 41), .ref (qq 42)])), ((qq 0), .inl (cT 0, 2, .inl (fun _ => 1))), ((qq 2), .inl (cT 0, 50, .inl (fun _ => (-1))))] H := hP
    have hD : va_D A [((qq 28), .inl (cT 0, 4001, .inl (upd (fun _ => 0) 0 (-1)))), ((qq 29), .inl (cT 0, 4001, .inl (fun _ => 0))), ((qq 27), .inl (cT 1, 4001, .inr (.inl (vp_updL (fun _ => 0) 0 10485770)))), (y, .inr (12, [.ref (qq 0), .ref (qq 1), .ref (qq 2), .ref (qq 3), .ref (qq 4), .ref (qq 5), .int z6, .ref (qq 7), .ref (qq 8), .ref (qq 9), .ref (qq 10), .ref (qq 11), .int z12, .ref (qq 13), .int z14, .int z15, .int z16, .int z17, .ref (qq 18), .int z19, .ref (qq 20), .int z21, .int z22, .int z23, .int z24, .ref (qq 25), .int z26, .ref (qq 27), .ref (qq 28), .ref (qq 29), .int 1, .ref (qq 31), .ref (qq 32), .ref (qq 33), .ref (qq 34), .ref (qq 35), .ref (qq 36), .ref (qq 37), .ref (qq 38), .ref (qq 39), .ref (qq 40), .ref (qq 41), .ref (qq 42)])), ((qq 0), .inl (cT 0, 2, .inl (fun _ => 1))), ((qq 2), .inl (cT 0, 50, .inl (fun _ => (-1))))] := hD
    subst h_18
    refine cj_l 0 0 (wr := [((qq 28), .inl (cT 0, 4001, .inl (upd (fun _ => 0) 0 (-1)))), ((qq 29), .inl (cT 0, 4001, .inl (fun _ => 0))), ((qq 27), .inl (cT 1, 4001, .inr (.inl (vp_updL (fun _ => 0) 0 10485770)))), ((qq 2), .inl (cT 0, 50, .inl (fun _ => (-1))))]) (va_runV (As := [.int 0, .long 10485770, .long 10485770]) (rest := []) ⟨hx, hb, hml, hown, hts⟩ (c_M_join_0 l g cT H.size y qq z6 z12 z14 z15 z16 z17 z19 z21 z22 z23 z24 z26 1) (cwV 3 hts gX12_layTables_X12_join rfl rfl rfl yd_X12_join ⟨(Nat.le_of_ble_eq_true rfl), (Nat.le_of_ble_eq_true rfl)⟩) (preV (wc := [(y, .inr (12, [.ref (qq 0), .ref (qq 1), .ref (qq 2), .ref (qq 3), .ref (qq 4), .ref (qq 5), .int z6, .ref (qq 7), .ref (qq 8), .ref (qq 9), .ref (qq 10), .ref (qq 11), .int z12, .ref (qq 13), .int z14, .int z15, .int z16, .int z17, .ref (qq 18), .int z19, .ref (qq 20), .int z21, .int z22, .int z23, .int z24, .ref (qq 25), .int z26, .ref (qq 27), .ref (qq 28), .ref (qq 29), .int 1, .ref (qq 31), .ref (qq 32), .ref (qq 33), .ref (qq 34), .ref (qq 35), .ref (qq 36), .ref (qq 37), .ref (qq 38), .ref (qq 39), .ref (qq 40), .ref (qq 41), .ref (qq 42)])), ((qq 0), .inl (cT 0, 2, .inl (fun _ => 1)))]) rfl hP hD hK hN hZ hS hA [3, 4] rfl (by decide) (ci := 12) (q0 := 3) rfl rfl) rfl rfl hl.1 rfl (lv_room (Nat.le_of_ble_eq_true rfl)) dX12_layTables_75 ⟨(Nat.le_of_ble_eq_true rfl), (Nat.le_of_ble_eq_true rfl)⟩) hP hD hS hA [3, 4] [0, 1, 2, 5] rfl rfl (by decide) (by decide) (Nat.le_of_ble_eq_true rfl) (Nat.le_of_ble_eq_true rfl) (fun r_19 u H locs h_20 hP hD hS => ?_)
    have hP : va_P g vwCl [((qq 28), .inl (cT 0, 4001, .inl (upd (fun _ => 0) 0 (-1)))), ((qq 29), .inl (cT 0, 4001, .inl (fun _ => 0))), ((qq 27), .inl (cT 1, 4001, .inr (.inl (vp_updL (fun _ => 0) 0 10485770)))), ((qq 2), .inl (cT 0, 50, .inl (fun _ => (-1)))), (y, .inr (12, [.ref (qq 0), .ref (qq 1), .ref (qq 2), .ref (qq 3), .ref (qq 4), .ref (qq 5), .int z6, .ref (qq 7), .ref (qq 8), .ref (qq 9), .ref (qq 10), .ref (qq 11), .int z12, .ref (qq 13), .int z14, .int z15, .int z16, .int z17, .ref (qq 18), .int z19, .ref (qq 20), .int z21, .int z22, .int z23, .int z24, .ref (qq 25), .int z26, .ref (qq 27), .ref (qq 28), .ref (qq 29), .int 1, .ref (qq 31), .ref (qq 32), .ref (qq 33), .ref (qq 34), .ref (qq 35), .ref (qq 36), .ref (qq 37), .ref (qq 38), .ref (qq 39), .ref (qq 40), .ref (qq 41), .ref (qq 42)])), ((qq 0), .inl (cT 0, 2, .inl (fun _ => 1)))] H := hP
    have hD : va_D A [((qq 28), .inl (cT 0, 4001, .inl (upd (fun _ => 0) 0 (-1)))), ((qq 29), .inl (cT 0, 4001, .inl (fun _ => 0))), ((qq 27), .inl (cT 1, 4001, .inr (.inl (vp_updL (fun _ => 0) 0 10485770)))), ((qq 2), .inl (cT 0, 50, .inl (fun _ => (-1)))), (y, .inr (12, [.ref (qq 0), .ref (qq 1), .ref (qq 2), .ref (qq 3), .ref (qq 4), .ref (qq 5), .int z6, .ref (qq 7), .ref (qq 8), .ref (qq 9), .ref (qq 10), .ref (qq 11), .int z12, .ref (qq 13), .int z14, .int z15, .int z16, .int z17, .ref (qq 18), .int z19, .ref (qq 20), .int z21, .int z22, .int z23, .int z24, .ref (qq 25), .int z26, .ref (qq 27), .ref (qq 28), .ref (qq 29), .int 1, .ref (qq 31), .ref (qq 32), .ref (qq 33), .ref (qq 34), .ref (qq 35), .ref (qq 36), .ref (qq 37), .ref (qq 38), .ref (qq 39), .ref (qq 40), .ref (qq 41), .ref (qq 42)])), ((qq 0), .inl (cT 0, 2, .inl (fun _ => 1)))] := hD
    subst h_20
    refine lv_lstore (lv' := [(4, .long 10485770), (3, .int 0), (2, .int 0), (0, .ref y), (1, .int 0)]) hx hb dX12_layTables_78 hl (by decide) rfl (fun ls hl => ?_)
    refine lv_aload_n hx hb dX12_layTables_80 rfl (lv_at hl 3 rfl) ?_
    refine lv_lload hx hb dX12_layTables_81 (lv_at hl 0 rfl) ?_
    refine cj_i 0 0 (wr := [((qq 28), .inl (cT 0, 4001, .inl (upd (fun _ => 0) 0 (-1)))), ((qq 29), .inl (cT 0, 4001, .inl (fun _ => 0))), ((qq 2), .inl (cT 0, 50, .inl (fun _ => (-1)))), ((qq 0), .inl (cT 0, 2, .inl (fun _ => 1)))]) (va_runV (As := [.long 10485770]) (rest := []) ⟨hx, hb, hml, hown, hts⟩ (c_M_kindOf_1 l g cT H.size y qq z6 z12 z14 z15 z16 z17 z19 z21 z22 z23 z24 z26) (cwV 1 hts gX12_layTables_X12_kindOf rfl rfl rfl yd_X12_kindOf ⟨(Nat.le_of_ble_eq_true rfl), (Nat.le_of_ble_eq_true rfl)⟩) (preV (wc := [(y, .inr (12, [.ref (qq 0), .ref (qq 1), .ref (qq 2), .ref (qq 3), .ref (qq 4), .ref (qq 5), .int z6, .ref (qq 7), .ref (qq 8), .ref (qq 9), .ref (qq 10), .ref (qq 11), .int z12, .ref (qq 13), .int z14, .int z15, .int z16, .int z17, .ref (qq 18), .int z19, .ref (qq 20), .int z21, .int z22, .int z23, .int z24, .ref (qq 25), .int z26, .ref (qq 27), .ref (qq 28), .ref (qq 29), .int 1, .ref (qq 31), .ref (qq 32), .ref (qq 33), .ref (qq 34), .ref (qq 35), .ref (qq 36), .ref (qq 37), .ref (qq 38), .ref (qq 39), .ref (qq 40), .ref (qq 41), .ref (qq 42)])), ((qq 27), .inl (cT 1, 4001, .inr (.inl (vp_updL (fun _ => 0) 0 10485770))))]) rfl hP hD hK hN hZ hS hA [4, 2] rfl (by decide) (ci := 12) (q0 := 4) rfl rfl) rfl rfl hl.1 rfl (lv_room (Nat.le_of_ble_eq_true rfl)) dX12_layTables_83 ⟨(Nat.le_of_ble_eq_true rfl), (Nat.le_of_ble_eq_true rfl)⟩) hP hD hS hA [4, 2] [0, 1, 3, 5] rfl rfl (by decide) (by decide) (Nat.le_of_ble_eq_true rfl) (Nat.le_of_ble_eq_true rfl) (fun r_21 u H locs h_22 hP hD hS => ?_)
    have hP : va_P g vwCl [((qq 28), .inl (cT 0, 4001, .inl (upd (fun _ => 0) 0 (-1)))), ((qq 29), .inl (cT 0, 4001, .inl (fun _ => 0))), ((qq 2), .inl (cT 0, 50, .inl (fun _ => (-1)))), ((qq 0), .inl (cT 0, 2, .inl (fun _ => 1))), (y, .inr (12, [.ref (qq 0), .ref (qq 1), .ref (qq 2), .ref (qq 3), .ref (qq 4), .ref (qq 5), .int z6, .ref (qq 7), .ref (qq 8), .ref (qq 9), .ref (qq 10), .ref (qq 11), .int z12, .ref (qq 13), .int z14, .int z15, .int z16, .int z17, .ref (qq 18), .int z19, .ref (qq 20), .int z21, .int z22, .int z23, .int z24, .ref (qq 25), .int z26, .ref (qq 27), .ref (qq 28), .ref (qq 29), .int 1, .ref (qq 31), .ref (qq 32), .ref (qq 33), .ref (qq 34), .ref (qq 35), .ref (qq 36), .ref (qq 37), .ref (qq 38), .ref (qq 39), .ref (qq 40), .ref (qq 41), .ref (qq 42)])), ((qq 27), .inl (cT 1, 4001, .inr (.inl (vp_updL (fun _ => 0) 0 10485770))))] H := hP
    have hD : va_D A [((qq 28), .inl (cT 0, 4001, .inl (upd (fun _ => 0) 0 (-1)))), ((qq 29), .inl (cT 0, 4001, .inl (fun _ => 0))), ((qq 2), .inl (cT 0, 50, .inl (fun _ => (-1)))), ((qq 0), .inl (cT 0, 2, .inl (fun _ => 1))), (y, .inr (12, [.ref (qq 0), .ref (qq 1), .ref (qq 2), .ref (qq 3), .ref (qq 4), .ref (qq 5), .int z6, .ref (qq 7), .ref (qq 8), .ref (qq 9), .ref (qq 10), .ref (qq 11), .int z12, .ref (qq 13), .int z14, .int z15, .int z16, .int z17, .ref (qq 18), .int z19, .ref (qq 20), .int z21, .int z22, .int z23, .int z24, .ref (qq 25), .int z26, .ref (qq 27), .ref (qq 28), .ref (qq 29), .int 1, .ref (qq 31), .ref (qq 32), .ref (qq 33), .ref (qq 34), .ref (qq 35), .ref (qq 36), .ref (qq 37), .ref (qq 38), .ref (qq 39), .ref (qq 40), .ref (qq 41), .ref (qq 42)])), ((qq 27), .inl (cT 1, 4001, .inr (.inl (vp_updL (fun _ => 0) 0 10485770))))] := hD
    subst h_22
    refine lv_iconst (v := (-1)) hx hb dX12_layTables_86 (by decide) ?_
    refine icmp_ne_t hx hb 110 dX12_layTables_87 (by decide) (by decide) ?_
    refine lv_iinc (v := 1) (lv' := [(3, .int 1), (4, .long 10485770), (2, .int 0), (0, .ref y), (1, .int 0)]) hx hb dX12_layTables_110 hl (k := 1) rfl (by decide) (by decide) rfl (fun ls hl => ?_)
    refine lv_goto (tgt := 56) hx hb dX12_layTables_113 (by decide) ?_
    refine lv_iload_n hx hb dX12_layTables_56 rfl (lv_at hl 0 rfl) ?_
    refine lv_iconst (v := 3) hx hb dX12_layTables_57 (by decide) ?_
    refine icmp_ge_f hx hb dX12_layTables_58 116 (by decide) (by decide) ?_
    refine lv_aload_n hx hb dX12_layTables_61 rfl (lv_at hl 3 rfl) ?_
    refine lv_iload_n hx hb dX12_layTables_62 rfl (lv_at hl 4 rfl) ?_
    refine lv_aload_n hx hb dX12_layTables_63 rfl (lv_at hl 3 rfl) ?_
    refine va_get (C := RX12) (T := TX12) (N := 43) (v := .ref (qq 27)) hx hb hts hi_X12_layTables_X12 hown hK hP 4 rfl rfl 27 (by decide) (hts (.fieldLink RX12 56 "BothWaysModel" "kinds" "[J") (by decide +kernel)) (fun _ h => h) rfl dX12_layTables_64 ?_
    refine lv_iload_n hx hb dX12_layTables_67 rfl (lv_at hl 2 rfl) ?_
    refine w_lald (v := 10485770) hx hb hK hP 5 rfl dX12_layTables_68 (inC (by decide)) (by decide) ?_
    refine lv_aload_n hx hb dX12_layTables_69 rfl (lv_at hl 3 rfl) ?_
    refine lv_iload_n hx hb dX12_layTables_70 rfl (lv_at hl 4 rfl) ?_
    refine lv_iload_n hx hb dX12_layTables_71 rfl (lv_at hl 0 rfl) ?_
    refine cj_l 0 0 (wr := [((qq 28), .inl (cT 0, 4001, .inl (upd (fun _ => 0) 0 (-1)))), ((qq 29), .inl (cT 0, 4001, .inl (fun _ => 0))), ((qq 27), .inl (cT 1, 4001, .inr (.inl (vp_updL (fun _ => 0) 0 10485770))))]) (va_runV (As := [.int 0, .int 1]) (rest := [.long 10485770, .int 0, .ref y]) ⟨hx, hb, hml, hown, hts⟩ (c_M_letterTable_0_1 l g cT H.size y qq z6 z12 z14 z15 z16 z17 z19 z21 z22 z23 z24 z26 1) (cwV 2 hts gX12_layTables_X12_letterTable rfl rfl rfl yd_X12_letterTable ⟨(Nat.le_of_ble_eq_true rfl), (Nat.le_of_ble_eq_true rfl)⟩) (preV (wc := [(y, .inr (12, [.ref (qq 0), .ref (qq 1), .ref (qq 2), .ref (qq 3), .ref (qq 4), .ref (qq 5), .int z6, .ref (qq 7), .ref (qq 8), .ref (qq 9), .ref (qq 10), .ref (qq 11), .int z12, .ref (qq 13), .int z14, .int z15, .int z16, .int z17, .ref (qq 18), .int z19, .ref (qq 20), .int z21, .int z22, .int z23, .int z24, .ref (qq 25), .int z26, .ref (qq 27), .ref (qq 28), .ref (qq 29), .int 1, .ref (qq 31), .ref (qq 32), .ref (qq 33), .ref (qq 34), .ref (qq 35), .ref (qq 36), .ref (qq 37), .ref (qq 38), .ref (qq 39), .ref (qq 40), .ref (qq 41), .ref (qq 42)])), ((qq 0), .inl (cT 0, 2, .inl (fun _ => 1))), ((qq 2), .inl (cT 0, 50, .inl (fun _ => (-1))))]) rfl hP hD hK hN hZ hS hA [4, 3, 2] rfl (by decide) (ci := 12) (q0 := 4) rfl rfl) rfl rfl hl.1 rfl (lv_room (Nat.le_of_ble_eq_true rfl)) dX12_layTables_72 ⟨(Nat.le_of_ble_eq_true rfl), (Nat.le_of_ble_eq_true rfl)⟩) hP hD hS hA [4, 3, 2] [0, 1, 5] rfl rfl (by decide) (by decide) (Nat.le_of_ble_eq_true rfl) (Nat.le_of_ble_eq_true rfl) (fun r_23 u H locs h_24 hP hD hS => ?_)
    have hP : va_P g vwCl [((qq 28), .inl (cT 0, 4001, .inl (upd (fun _ => 0) 0 (-1)))), ((qq 29), .inl (cT 0, 4001, .inl (fun _ => 0))), ((qq 27), .inl (cT 1, 4001, .inr (.inl (vp_updL (fun _ => 0) 0 10485770)))), (y, .inr (12, [.ref (qq 0), .ref (qq 1), .ref (qq 2), .ref (qq 3), .ref (qq 4), .ref (qq 5), .int z6, .ref (qq 7), .ref (qq 8), .ref (qq 9), .ref (qq 10), .ref (qq 11), .int z12, .ref (qq 13), .int z14, .int z15, .int z16, .int z17, .ref (qq 18), .int z19, .ref (qq 20), .int z21, .int z22, .int z23, .int z24, .ref (qq 25), .int z26, .ref (qq 27), .ref (qq 28), .ref (qq 29), .int 1, .ref (qq 31), .ref (qq 32), .ref (qq 33), .ref (qq 34), .ref (qq 35), .ref (qq 36), .ref (qq 37), .ref (qq 38), .ref (qq 39), .ref (qq 40), .ref (qq 41), .ref (qq 42)])), ((qq 0), .inl (cT 0, 2, .inl (fun _ => 1))), ((qq 2), .inl (cT 0, 50, .inl (fun _ => (-1))))] H := hP
    have hD : va_D A [((qq 28), .inl (cT 0, 4001, .inl (upd (fun _ => 0) 0 (-1)))), ((qq 29), .inl (cT 0, 4001, .inl (fun _ => 0))), ((qq 27), .inl (cT 1, 4001, .inr (.inl (vp_updL (fun _ => 0) 0 10485770)))), (y, .inr (12, [.ref (qq 0), .ref (qq 1), .ref (qq 2), .ref (qq 3), .ref (qq 4), .ref (qq 5), .int z6, .ref (qq 7), .ref (qq 8), .ref (qq 9), .ref (qq 10), .ref (qq 11), .int z12, .ref (qq 13), .int z14, .int z15, .int z16, .int z17, .ref (qq 18), .int z19, .ref (qq 20), .int z21, .int z22, .int z23, .int z24, .ref (qq 25), .int z26, .ref (qq 27), .ref (qq 28), .ref (qq 29), .int 1, .ref (qq 31), .ref (qq 32), .ref (qq 33), .ref (qq 34), .ref (qq 35), .ref (qq 36), .ref (qq 37), .ref (qq 38), .ref (qq 39), .ref (qq 40), .ref (qq 41), .ref (qq 42)])), ((qq 0), .inl (cT 0, 2, .inl (fun _ => 1))), ((qq 2), .inl (cT 0, 50, .inl (fun _ => (-1))))] := hD
    subst h_24
    refine cj_l 0 0 (wr := [((qq 28), .inl (cT 0, 4001, .inl (upd (fun _ => 0) 0 (-1)))), ((qq 29), .inl (cT 0, 4001, .inl (fun _ => 0))), ((qq 27), .inl (cT 1, 4001, .inr (.inl (vp_updL (fun _ => 0) 0 10485770)))), ((qq 2), .inl (cT 0, 50, .inl (fun _ => (-1))))]) (va_runV (As := [.int 0, .long 10485770, .long 10485770]) (rest := []) ⟨hx, hb, hml, hown, hts⟩ (c_M_join_0 l g cT H.size y qq z6 z12 z14 z15 z16 z17 z19 z21 z22 z23 z24 z26 1) (cwV 3 hts gX12_layTables_X12_join rfl rfl rfl yd_X12_join ⟨(Nat.le_of_ble_eq_true rfl), (Nat.le_of_ble_eq_true rfl)⟩) (preV (wc := [(y, .inr (12, [.ref (qq 0), .ref (qq 1), .ref (qq 2), .ref (qq 3), .ref (qq 4), .ref (qq 5), .int z6, .ref (qq 7), .ref (qq 8), .ref (qq 9), .ref (qq 10), .ref (qq 11), .int z12, .ref (qq 13), .int z14, .int z15, .int z16, .int z17, .ref (qq 18), .int z19, .ref (qq 20), .int z21, .int z22, .int z23, .int z24, .ref (qq 25), .int z26, .ref (qq 27), .ref (qq 28), .ref (qq 29), .int 1, .ref (qq 31), .ref (qq 32), .ref (qq 33), .ref (qq 34), .ref (qq 35), .ref (qq 36), .ref (qq 37), .ref (qq 38), .ref (qq 39), .ref (qq 40), .ref (qq 41), .ref (qq 42)])), ((qq 0), .inl (cT 0, 2, .inl (fun _ => 1)))]) rfl hP hD hK hN hZ hS hA [3, 4] rfl (by decide) (ci := 12) (q0 := 3) rfl rfl) rfl rfl hl.1 rfl (lv_room (Nat.le_of_ble_eq_true rfl)) dX12_layTables_75 ⟨(Nat.le_of_ble_eq_true rfl), (Nat.le_of_ble_eq_true rfl)⟩) hP hD hS hA [3, 4] [0, 1, 2, 5] rfl rfl (by decide) (by decide) (Nat.le_of_ble_eq_true rfl) (Nat.le_of_ble_eq_true rfl) (fun r_25 u H locs h_26 hP hD hS => ?_)
    have hP : va_P g vwCl [((qq 28), .inl (cT 0, 4001, .inl (upd (fun _ => 0) 0 (-1)))), ((qq 29), .inl (cT 0, 4001, .inl (fun _ => 0))), ((qq 27), .inl (cT 1, 4001, .inr (.inl (vp_updL (fun _ => 0) 0 10485770)))), ((qq 2), .inl (cT 0, 50, .inl (fun _ => (-1)))), (y, .inr (12, [.ref (qq 0), .ref (qq 1), .ref (qq 2), .ref (qq 3), .ref (qq 4), .ref (qq 5), .int z6, .ref (qq 7), .ref (qq 8), .ref (qq 9), .ref (qq 10), .ref (qq 11), .int z12, .ref (qq 13), .int z14, .int z15, .int z16, .int z17, .ref (qq 18), .int z19, .ref (qq 20), .int z21, .int z22, .int z23, .int z24, .ref (qq 25), .int z26, .ref (qq 27), .ref (qq 28), .ref (qq 29), .int 1, .ref (qq 31), .ref (qq 32), .ref (qq 33), .ref (qq 34), .ref (qq 35), .ref (qq 36), .ref (qq 37), .ref (qq 38), .ref (qq 39), .ref (qq 40), .ref (qq 41), .ref (qq 42)])), ((qq 0), .inl (cT 0, 2, .inl (fun _ => 1)))] H := hP
    have hD : va_D A [((qq 28), .inl (cT 0, 4001, .inl (upd (fun _ => 0) 0 (-1)))), ((qq 29), .inl (cT 0, 4001, .inl (fun _ => 0))), ((qq 27), .inl (cT 1, 4001, .inr (.inl (vp_updL (fun _ => 0) 0 10485770)))), ((qq 2), .inl (cT 0, 50, .inl (fun _ => (-1)))), (y, .inr (12, [.ref (qq 0), .ref (qq 1), .ref (qq 2), .ref (qq 3), .ref (qq 4), .ref (qq 5), .int z6, .ref (qq 7), .ref (qq 8), .ref (qq 9), .ref (qq 10), .ref (qq 11), .int z12, .ref (qq 13), .int z14, .int z15, .int z16, .int z17, .ref (qq 18), .int z19, .ref (qq 20), .int z21, .int z22, .int z23, .int z24, .ref (qq 25), .int z26, .ref (qq 27), .ref (qq 28), .ref (qq 29), .int 1, .ref (qq 31), .ref (qq 32), .ref (qq 33), .ref (qq 34), .ref (qq 35), .ref (qq 36), .ref (qq 37), .ref (qq 38), .ref (qq 39), .ref (qq 40), .ref (qq 41), .ref (qq 42)])), ((qq 0), .inl (cT 0, 2, .inl (fun _ => 1)))] := hD
    subst h_26
    refine lv_lstore (lv' := [(4, .long 10485770), (3, .int 1), (2, .int 0), (0, .ref y), (1, .int 0)]) hx hb dX12_layTables_78 hl (by decide) rfl (fun ls hl => ?_)
    refine lv_aload_n hx hb dX12_layTables_80 rfl (lv_at hl 3 rfl) ?_
    refine lv_lload hx hb dX12_layTables_81 (lv_at hl 0 rfl) ?_
    refine cj_i 0 0 (wr := [((qq 28), .inl (cT 0, 4001, .inl (upd (fun _ => 0) 0 (-1)))), ((qq 29), .inl (cT 0, 4001, .inl (fun _ => 0))), ((qq 2), .inl (cT 0, 50, .inl (fun _ => (-1)))), ((qq 0), .inl (cT 0, 2, .inl (fun _ => 1)))]) (va_runV (As := [.long 10485770]) (rest := []) ⟨hx, hb, hml, hown, hts⟩ (c_M_kindOf_1 l g cT H.size y qq z6 z12 z14 z15 z16 z17 z19 z21 z22 z23 z24 z26) (cwV 1 hts gX12_layTables_X12_kindOf rfl rfl rfl yd_X12_kindOf ⟨(Nat.le_of_ble_eq_true rfl), (Nat.le_of_ble_eq_true rfl)⟩) (preV (wc := [(y, .inr (12, [.ref (qq 0), .ref (qq 1), .ref (qq 2), .ref (qq 3), .ref (qq 4), .ref (qq 5), .int z6, .ref (qq 7), .ref (qq 8), .ref (qq 9), .ref (qq 10), .ref (qq 11), .int z12, .ref (qq 13), .int z14, .int z15, .int z16, .int z17, .ref (qq 18), .int z19, .ref (qq 20), .int z21, .int z22, .int z23, .int z24, .ref (qq 25), .int z26, .ref (qq 27), .ref (qq 28), .ref (qq 29), .int 1, .ref (qq 31), .ref (qq 32), .ref (qq 33), .ref (qq 34), .ref (qq 35), .ref (qq 36), .ref (qq 37), .ref (qq 38), .ref (qq 39), .ref (qq 40), .ref (qq 41), .ref (qq 42)])), ((qq 27), .inl (cT 1, 4001, .inr (.inl (vp_updL (fun _ => 0) 0 10485770))))]) rfl hP hD hK hN hZ hS hA [4, 2] rfl (by decide) (ci := 12) (q0 := 4) rfl rfl) rfl rfl hl.1 rfl (lv_room (Nat.le_of_ble_eq_true rfl)) dX12_layTables_83 ⟨(Nat.le_of_ble_eq_true rfl), (Nat.le_of_ble_eq_true rfl)⟩) hP hD hS hA [4, 2] [0, 1, 3, 5] rfl rfl (by decide) (by decide) (Nat.le_of_ble_eq_true rfl) (Nat.le_of_ble_eq_true rfl) (fun r_27 u H locs h_28 hP hD hS => ?_)
    have hP : va_P g vwCl [((qq 28), .inl (cT 0, 4001, .inl (upd (fun _ => 0) 0 (-1)))), ((qq 29), .inl (cT 0, 4001, .inl (fun _ => 0))), ((qq 2), .inl (cT 0, 50, .inl (fun _ => (-1)))), ((qq 0), .inl (cT 0, 2, .inl (fun _ => 1))), (y, .inr (12, [.ref (qq 0), .ref (qq 1), .ref (qq 2), .ref (qq 3), .ref (qq 4), .ref (qq 5), .int z6, .ref (qq 7), .ref (qq 8), .ref (qq 9), .ref (qq 10), .ref (qq 11), .int z12, .ref (qq 13), .int z14, .int z15, .int z16, .int z17, .ref (qq 18), .int z19, .ref (qq 20), .int z21, .int z22, .int z23, .int z24, .ref (qq 25), .int z26, .ref (qq 27), .ref (qq 28), .ref (qq 29), .int 1, .ref (qq 31), .ref (qq 32), .ref (qq 33), .ref (qq 34), .ref (qq 35), .ref (qq 36), .ref (qq 37), .ref (qq 38), .ref (qq 39), .ref (qq 40), .ref (qq 41), .ref (qq 42)])), ((qq 27), .inl (cT 1, 4001, .inr (.inl (vp_updL (fun _ => 0) 0 10485770))))] H := hP
    have hD : va_D A [((qq 28), .inl (cT 0, 4001, .inl (upd (fun _ => 0) 0 (-1)))), ((qq 29), .inl (cT 0, 4001, .inl (fun _ => 0))), ((qq 2), .inl (cT 0, 50, .inl (fun _ => (-1)))), ((qq 0), .inl (cT 0, 2, .inl (fun _ => 1))), (y, .inr (12, [.ref (qq 0), .ref (qq 1), .ref (qq 2), .ref (qq 3), .ref (qq 4), .ref (qq 5), .int z6, .ref (qq 7), .ref (qq 8), .ref (qq 9), .ref (qq 10), .ref (qq 11), .int z12, .ref (qq 13), .int z14, .int z15, .int z16, .int z17, .ref (qq 18), .int z19, .ref (qq 20), .int z21, .int z22, .int z23, .int z24, .ref (qq 25), .int z26, .ref (qq 27), .ref (qq 28), .ref (qq 29), .int 1, .ref (qq 31), .ref (qq 32), .ref (qq 33), .ref (qq 34), .ref (qq 35), .ref (qq 36), .ref (qq 37), .ref (qq 38), .ref (qq 39), .ref (qq 40), .ref (qq 41), .ref (qq 42)])), ((qq 27), .inl (cT 1, 4001, .inr (.inl (vp_updL (fun _ => 0) 0 10485770))))] := hD
    subst h_28
    refine lv_iconst (v := (-1)) hx hb dX12_layTables_86 (by decide) ?_
    refine icmp_ne_t hx hb 110 dX12_layTables_87 (by decide) (by decide) ?_
    refine lv_iinc (v := 2) (lv' := [(3, .int 2), (4, .long 10485770), (2, .int 0), (0, .ref y), (1, .int 0)]) hx hb dX12_layTables_110 hl (k := 1) rfl (by decide) (by decide) rfl (fun ls hl => ?_)
    refine lv_goto (tgt := 56) hx hb dX12_layTables_113 (by decide) ?_
    refine lv_iload_n hx hb dX12_layTables_56 rfl (lv_at hl 0 rfl) ?_
    refine lv_iconst (v := 3) hx hb dX12_layTables_57 (by decide) ?_
    refine icmp_ge_f hx hb dX12_layTables_58 116 (by decide) (by decide) ?_
    refine lv_aload_n hx hb dX12_layTables_61 rfl (lv_at hl 3 rfl) ?_
    refine lv_iload_n hx hb dX12_layTables_62 rfl (lv_at hl 4 rfl) ?_
    refine lv_aload_n hx hb dX12_layTables_63 rfl (lv_at hl 3 rfl) ?_
    refine va_get (C := RX12) (T := TX12) (N := 43) (v := .ref (qq 27)) hx hb hts hi_X12_layTables_X12 hown hK hP 4 rfl rfl 27 (by decide) (hts (.fieldLink RX12 56 "BothWaysModel" "kinds" "[J") (by decide +kernel)) (fun _ h => h) rfl dX12_layTables_64 ?_
    refine lv_iload_n hx hb dX12_layTables_67 rfl (lv_at hl 2 rfl) ?_
    refine w_lald (v := 10485770) hx hb hK hP 5 rfl dX12_layTables_68 (inC (by decide)) (by decide) ?_
    refine lv_aload_n hx hb dX12_layTables_69 rfl (lv_at hl 3 rfl) ?_
    refine lv_iload_n hx hb dX12_layTables_70 rfl (lv_at hl 4 rfl) ?_
    refine lv_iload_n hx hb dX12_layTables_71 rfl (lv_at hl 0 rfl) ?_
    refine cj_l 0 0 (wr := [((qq 28), .inl (cT 0, 4001, .inl (upd (fun _ => 0) 0 (-1)))), ((qq 29), .inl (cT 0, 4001, .inl (fun _ => 0))), ((qq 27), .inl (cT 1, 4001, .inr (.inl (vp_updL (fun _ => 0) 0 10485770))))]) (va_runV (As := [.int 0, .int 2]) (rest := [.long 10485770, .int 0, .ref y]) ⟨hx, hb, hml, hown, hts⟩ (c_M_letterTable_0_2 l g cT H.size y qq z6 z12 z14 z15 z16 z17 z19 z21 z22 z23 z24 z26 1) (cwV 2 hts gX12_layTables_X12_letterTable rfl rfl rfl yd_X12_letterTable ⟨(Nat.le_of_ble_eq_true rfl), (Nat.le_of_ble_eq_true rfl)⟩) (preV (wc := [(y, .inr (12, [.ref (qq 0), .ref (qq 1), .ref (qq 2), .ref (qq 3), .ref (qq 4), .ref (qq 5), .int z6, .ref (qq 7), .ref (qq 8), .ref (qq 9), .ref (qq 10), .ref (qq 11), .int z12, .ref (qq 13), .int z14, .int z15, .int z16, .int z17, .ref (qq 18), .int z19, .ref (qq 20), .int z21, .int z22, .int z23, .int z24, .ref (qq 25), .int z26, .ref (qq 27), .ref (qq 28), .ref (qq 29), .int 1, .ref (qq 31), .ref (qq 32), .ref (qq 33), .ref (qq 34), .ref (qq 35), .ref (qq 36), .ref (qq 37), .ref (qq 38), .ref (qq 39), .ref (qq 40), .ref (qq 41), .ref (qq 42)])), ((qq 0), .inl (cT 0, 2, .inl (fun _ => 1))), ((qq 2), .inl (cT 0, 50, .inl (fun _ => (-1))))]) rfl hP hD hK hN hZ hS hA [4, 3, 2] rfl (by decide) (ci := 12) (q0 := 4) rfl rfl) rfl rfl hl.1 rfl (lv_room (Nat.le_of_ble_eq_true rfl)) dX12_layTables_72 ⟨(Nat.le_of_ble_eq_true rfl), (Nat.le_of_ble_eq_true rfl)⟩) hP hD hS hA [4, 3, 2] [0, 1, 5] rfl rfl (by decide) (by decide) (Nat.le_of_ble_eq_true rfl) (Nat.le_of_ble_eq_true rfl) (fun r_29 u H locs h_30 hP hD hS => ?_)
    have hP : va_P g vwCl [((qq 28), .inl (cT 0, 4001, .inl (upd (fun _ => 0) 0 (-1)))), ((qq 29), .inl (cT 0, 4001, .inl (fun _ => 0))), ((qq 27), .inl (cT 1, 4001, .inr (.inl (vp_updL (fun _ => 0) 0 10485770)))), (y, .inr (12, [.ref (qq 0), .ref (qq 1), .ref (qq 2), .ref (qq 3), .ref (qq 4), .ref (qq 5), .int z6, .ref (qq 7), .ref (qq 8), .ref (qq 9), .ref (qq 10), .ref (qq 11), .int z12, .ref (qq 13), .int z14, .int z15, .int z16, .int z17, .ref (qq 18), .int z19, .ref (qq 20), .int z21, .int z22, .int z23, .int z24, .ref (qq 25), .int z26, .ref (qq 27), .ref (qq 28), .ref (qq 29), .int 1, .ref (qq 31), .ref (qq 32), .ref (qq 33), .ref (qq 34), .ref (qq 35), .ref (qq 36), .ref (qq 37), .ref (qq 38), .ref (qq 39), .ref (qq 40), .ref (qq 41), .ref (qq 42)])), ((qq 0), .inl (cT 0, 2, .inl (fun _ => 1))), ((qq 2), .inl (cT 0, 50, .inl (fun _ => (-1))))] H := hP
    have hD : va_D A [((qq 28), .inl (cT 0, 4001, .inl (upd (fun _ => 0) 0 (-1)))), ((qq 29), .inl (cT 0, 4001, .inl (fun _ => 0))), ((qq 27), .inl (cT 1, 4001, .inr (.inl (vp_updL (fun _ => 0) 0 10485770)))), (y, .inr (12, [.ref (qq 0), .ref (qq 1), .ref (qq 2), .ref (qq 3), .ref (qq 4), .ref (qq 5), .int z6, .ref (qq 7), .ref (qq 8), .ref (qq 9), .ref (qq 10), .ref (qq 11), .int z12, .ref (qq 13), .int z14, .int z15, .int z16, .int z17, .ref (qq 18), .int z19, .ref (qq 20), .int z21, .int z22, .int z23, .int z24, .ref (qq 25), .int z26, .ref (qq 27), .ref (qq 28), .ref (qq 29), .int 1, .ref (qq 31), .ref (qq 32), .ref (qq 33), .ref (qq 34), .ref (qq 35), .ref (qq 36), .ref (qq 37), .ref (qq 38), .ref (qq 39), .ref (qq 40), .ref (qq 41), .ref (qq 42)])), ((qq 0), .inl (cT 0, 2, .inl (fun _ => 1))), ((qq 2), .inl (cT 0, 50, .inl (fun _ => (-1))))] := hD
    subst h_30
    refine cj_l 0 0 (wr := [((qq 28), .inl (cT 0, 4001, .inl (upd (fun _ => 0) 0 (-1)))), ((qq 29), .inl (cT 0, 4001, .inl (fun _ => 0))), ((qq 27), .inl (cT 1, 4001, .inr (.inl (vp_updL (fun _ => 0) 0 10485770)))), ((qq 2), .inl (cT 0, 50, .inl (fun _ => (-1))))]) (va_runV (As := [.int 0, .long 10485770, .long 10485770]) (rest := []) ⟨hx, hb, hml, hown, hts⟩ (c_M_join_0 l g cT H.size y qq z6 z12 z14 z15 z16 z17 z19 z21 z22 z23 z24 z26 1) (cwV 3 hts gX12_layTables_X12_join rfl rfl rfl yd_X12_join ⟨(Nat.le_of_ble_eq_true rfl), (Nat.le_of_ble_eq_true rfl)⟩) (preV (wc := [(y, .inr (12, [.ref (qq 0), .ref (qq 1), .ref (qq 2), .ref (qq 3), .ref (qq 4), .ref (qq 5), .int z6, .ref (qq 7), .ref (qq 8), .ref (qq 9), .ref (qq 10), .ref (qq 11), .int z12, .ref (qq 13), .int z14, .int z15, .int z16, .int z17, .ref (qq 18), .int z19, .ref (qq 20), .int z21, .int z22, .int z23, .int z24, .ref (qq 25), .int z26, .ref (qq 27), .ref (qq 28), .ref (qq 29), .int 1, .ref (qq 31), .ref (qq 32), .ref (qq 33), .ref (qq 34), .ref (qq 35), .ref (qq 36), .ref (qq 37), .ref (qq 38), .ref (qq 39), .ref (qq 40), .ref (qq 41), .ref (qq 42)])), ((qq 0), .inl (cT 0, 2, .inl (fun _ => 1)))]) rfl hP hD hK hN hZ hS hA [3, 4] rfl (by decide) (ci := 12) (q0 := 3) rfl rfl) rfl rfl hl.1 rfl (lv_room (Nat.le_of_ble_eq_true rfl)) dX12_layTables_75 ⟨(Nat.le_of_ble_eq_true rfl), (Nat.le_of_ble_eq_true rfl)⟩) hP hD hS hA [3, 4] [0, 1, 2, 5] rfl rfl (by decide) (by decide) (Nat.le_of_ble_eq_true rfl) (Nat.le_of_ble_eq_true rfl) (fun r_31 u H locs h_32 hP hD hS => ?_)
    have hP : va_P g vwCl [((qq 28), .inl (cT 0, 4001, .inl (upd (fun _ => 0) 0 (-1)))), ((qq 29), .inl (cT 0, 4001, .inl (fun _ => 0))), ((qq 27), .inl (cT 1, 4001, .inr (.inl (vp_updL (fun _ => 0) 0 10485770)))), ((qq 2), .inl (cT 0, 50, .inl (fun _ => (-1)))), (y, .inr (12, [.ref (qq 0), .ref (qq 1), .ref (qq 2), .ref (qq 3), .ref (qq 4), .ref (qq 5), .int z6, .ref (qq 7), .ref (qq 8), .ref (qq 9), .ref (qq 10), .ref (qq 11), .int z12, .ref (qq 13), .int z14, .int z15, .int z16, .int z17, .ref (qq 18), .int z19, .ref (qq 20), .int z21, .int z22, .int z23, .int z24, .ref (qq 25), .int z26, .ref (qq 27), .ref (qq 28), .ref (qq 29), .int 1, .ref (qq 31), .ref (qq 32), .ref (qq 33), .ref (qq 34), .ref (qq 35), .ref (qq 36), .ref (qq 37), .ref (qq 38), .ref (qq 39), .ref (qq 40), .ref (qq 41), .ref (qq 42)])), ((qq 0), .inl (cT 0, 2, .inl (fun _ => 1)))] H := hP
    have hD : va_D A [((qq 28), .inl (cT 0, 4001, .inl (upd (fun _ => 0) 0 (-1)))), ((qq 29), .inl (cT 0, 4001, .inl (fun _ => 0))), ((qq 27), .inl (cT 1, 4001, .inr (.inl (vp_updL (fun _ => 0) 0 10485770)))), ((qq 2), .inl (cT 0, 50, .inl (fun _ => (-1)))), (y, .inr (12, [.ref (qq 0), .ref (qq 1), .ref (qq 2), .ref (qq 3), .ref (qq 4), .ref (qq 5), .int z6, .ref (qq 7), .ref (qq 8), .ref (qq 9), .ref (qq 10), .ref (qq 11), .int z12, .ref (qq 13), .int z14, .int z15, .int z16, .int z17, .ref (qq 18), .int z19, .ref (qq 20), .int z21, .int z22, .int z23, .int z24, .ref (qq 25), .int z26, .ref (qq 27), .ref (qq 28), .ref (qq 29), .int 1, .ref (qq 31), .ref (qq 32), .ref (qq 33), .ref (qq 34), .ref (qq 35), .ref (qq 36), .ref (qq 37), .ref (qq 38), .ref (qq 39), .ref (qq 40), .ref (qq 41), .ref (qq 42)])), ((qq 0), .inl (cT 0, 2, .inl (fun _ => 1)))] := hD
    subst h_32
    refine lv_lstore (lv' := [(4, .long 10485770), (3, .int 2), (2, .int 0), (0, .ref y), (1, .int 0)]) hx hb dX12_layTables_78 hl (by decide) rfl (fun ls hl => ?_)
    refine lv_aload_n hx hb dX12_layTables_80 rfl (lv_at hl 3 rfl) ?_
    refine lv_lload hx hb dX12_layTables_81 (lv_at hl 0 rfl) ?_
    refine cj_i 0 0 (wr := [((qq 28), .inl (cT 0, 4001, .inl (upd (fun _ => 0) 0 (-1)))), ((qq 29), .inl (cT 0, 4001, .inl (fun _ => 0))), ((qq 2), .inl (cT 0, 50, .inl (fun _ => (-1)))), ((qq 0), .inl (cT 0, 2, .inl (fun _ => 1)))]) (va_runV (As := [.long 10485770]) (rest := []) ⟨hx, hb, hml, hown, hts⟩ (c_M_kindOf_1 l g cT H.size y qq z6 z12 z14 z15 z16 z17 z19 z21 z22 z23 z24 z26) (cwV 1 hts gX12_layTables_X12_kindOf rfl rfl rfl yd_X12_kindOf ⟨(Nat.le_of_ble_eq_true rfl), (Nat.le_of_ble_eq_true rfl)⟩) (preV (wc := [(y, .inr (12, [.ref (qq 0), .ref (qq 1), .ref (qq 2), .ref (qq 3), .ref (qq 4), .ref (qq 5), .int z6, .ref (qq 7), .ref (qq 8), .ref (qq 9), .ref (qq 10), .ref (qq 11), .int z12, .ref (qq 13), .int z14, .int z15, .int z16, .int z17, .ref (qq 18), .int z19, .ref (qq 20), .int z21, .int z22, .int z23, .int z24, .ref (qq 25), .int z26, .ref (qq 27), .ref (qq 28), .ref (qq 29), .int 1, .ref (qq 31), .ref (qq 32), .ref (qq 33), .ref (qq 34), .ref (qq 35), .ref (qq 36), .ref (qq 37), .ref (qq 38), .ref (qq 39), .ref (qq 40), .ref (qq 41), .ref (qq 42)])), ((qq 27), .inl (cT 1, 4001, .inr (.inl (vp_updL (fun _ => 0) 0 10485770))))]) rfl hP hD hK hN hZ hS hA [4, 2] rfl (by decide) (ci := 12) (q0 := 4) rfl rfl) rfl rfl hl.1 rfl (lv_room (Nat.le_of_ble_eq_true rfl)) dX12_layTables_83 ⟨(Nat.le_of_ble_eq_true rfl), (Nat.le_of_ble_eq_true rfl)⟩) hP hD hS hA [4, 2] [0, 1, 3, 5] rfl rfl (by decide) (by decide) (Nat.le_of_ble_eq_true rfl) (Nat.le_of_ble_eq_true rfl) (fun r_33 u H locs h_34 hP hD hS => ?_)
    have hP : va_P g vwCl [((qq 28), .inl (cT 0, 4001, .inl (upd (fun _ => 0) 0 (-1)))), ((qq 29), .inl (cT 0, 4001, .inl (fun _ => 0))), ((qq 2), .inl (cT 0, 50, .inl (fun _ => (-1)))), ((qq 0), .inl (cT 0, 2, .inl (fun _ => 1))), (y, .inr (12, [.ref (qq 0), .ref (qq 1), .ref (qq 2), .ref (qq 3), .ref (qq 4), .ref (qq 5), .int z6, .ref (qq 7), .ref (qq 8), .ref (qq 9), .ref (qq 10), .ref (qq 11), .int z12, .ref (qq 13), .int z14, .int z15, .int z16, .int z17, .ref (qq 18), .int z19, .ref (qq 20), .int z21, .int z22, .int z23, .int z24, .ref (qq 25), .int z26, .ref (qq 27), .ref (qq 28), .ref (qq 29), .int 1, .ref (qq 31), .ref (qq 32), .ref (qq 33), .ref (qq 34), .ref (qq 35), .ref (qq 36), .ref (qq 37), .ref (qq 38), .ref (qq 39), .ref (qq 40), .ref (qq 41), .ref (qq 42)])), ((qq 27), .inl (cT 1, 4001, .inr (.inl (vp_updL (fun _ => 0) 0 10485770))))] H := hP
    have hD : va_D A [((qq 28), .inl (cT 0, 4001, .inl (upd (fun _ => 0) 0 (-1)))), ((qq 29), .inl (cT 0, 4001, .inl (fun _ => 0))), ((qq 2), .inl (cT 0, 50, .inl (fun _ => (-1)))), ((qq 0), .inl (cT 0, 2, .inl (fun _ => 1))), (y, .inr (12, [.ref (qq 0), .ref (qq 1), .ref (qq 2), .ref (qq 3), .ref (qq 4), .ref (qq 5), .int z6, .ref (qq 7), .ref (qq 8), .ref (qq 9), .ref (qq 10), .ref (qq 11), .int z12, .ref (qq 13), .int z14, .int z15, .int z16, .int z17, .ref (qq 18), .int z19, .ref (qq 20), .int z21, .int z22, .int z23, .int z24, .ref (qq 25), .int z26, .ref (qq 27), .ref (qq 28), .ref (qq 29), .int 1, .ref (qq 31), .ref (qq 32), .ref (qq 33), .ref (qq 34), .ref (qq 35), .ref (qq 36), .ref (qq 37), .ref (qq 38), .ref (qq 39), .ref (qq 40), .ref (qq 41), .ref (qq 42)])), ((qq 27), .inl (cT 1, 4001, .inr (.inl (vp_updL (fun _ => 0) 0 10485770))))] := hD
    subst h_34
    refine lv_iconst (v := (-1)) hx hb dX12_layTables_86 (by decide) ?_
    refine icmp_ne_t hx hb 110 dX12_layTables_87 (by decide) (by decide) ?_
    refine lv_iinc (v := 3) (lv' := [(3, .int 3), (4, .long 10485770), (2, .int 0), (0, .ref y), (1, .int 0)]) hx hb dX12_layTables_110 hl (k := 1) rfl (by decide) (by decide) rfl (fun ls hl => ?_)
    refine lv_goto (tgt := 56) hx hb dX12_layTables_113 (by decide) ?_
    refine lv_iload_n hx hb dX12_layTables_56 rfl (lv_at hl 0 rfl) ?_
    refine lv_iconst (v := 3) hx hb dX12_layTables_57 (by decide) ?_
    refine icmp_ge_t hx hb 116 dX12_layTables_58 (by decide) (by decide) ?_
    refine lv_iinc (v := 1) (lv' := [(2, .int 1), (3, .int 3), (4, .long 10485770), (0, .ref y), (1, .int 0)]) hx hb dX12_layTables_116 hl (k := 2) rfl (by decide) (by decide) rfl (fun ls hl => ?_)
    refine lv_goto (tgt := 46) hx hb dX12_layTables_119 (by decide) ?_
    refine lv_iload_n hx hb dX12_layTables_46 rfl (lv_at hl 0 rfl) ?_
    refine lv_aload_n hx hb dX12_layTables_47 rfl (lv_at hl 3 rfl) ?_
    refine va_get (C := RX12) (T := TX12) (N := 43) (v := .int 1) hx hb hts hi_X12_layTables_X12 hown hK hP 4 rfl rfl 30 (by decide) (hts (.fieldLink RX12 234 "BothWaysModel" "kindMany" "I") (by decide +kernel)) (fun _ h => h) rfl dX12_layTables_48 ?_
    refine icmp_ge_t hx hb 122 dX12_layTables_51 (by decide) (by decide) ?_
    refine lv_iconst (v := 1) hx hb dX12_layTables_122 (by decide) ?_
    exact rt_i hx hb hr hlocks hQ hP hD hS () [4] dX12_layTables_123 rfl (Nat.le_of_ble_eq_true rfl) (Nat.le_of_ble_eq_true rfl) rfl (by decide) rfl
  rw [hH, hlo] at hgo
  exact hgo
abbrev rm_c_M_layTables_1 : Room := { frames := 3, cells := 0, slots := 0, locals := 84 }
set_option maxHeartbeats 4000000 in
set_option maxRecDepth 100000 in
theorem c_M_layTables_1 (l : Launch) (g : va_G) (cT : Nat → ClassId) (sz : Nat) (y : Nat) (qq : Nat → Nat) (z6 : Int32) (z12 : Int32) (z14 : Int32) (z15 : Int32) (z16 : Int32) (z17 : Int32) (z19 : Int32) (z21 : Int32) (z22 : Int32) (z23 : Int32) (z24 : Int32) (z26 : Int32) (z30 : Int32)  : Ctr l g cT sz yX12_layTables wsX12_layTables rm_c_M_layTables_1 [.ref y, .int 1] [(y, .inr (12, [.ref (qq 0), .ref (qq 1), .ref (qq 2), .ref (qq 3), .ref (qq 4), .ref (qq 5), .int z6, .ref (qq 7), .ref (qq 8), .ref (qq 9), .ref (qq 10), .ref (qq 11), .int z12, .ref (qq 13), .int z14, .int z15, .int z16, .int z17, .ref (qq 18), .int z19, .ref (qq 20), .int z21, .int z22, .int z23, .int z24, .ref (qq 25), .int z26, .ref (qq 27), .ref (qq 28), .ref (qq 29), .int z30, .ref (qq 31), .ref (qq 32), .ref (qq 33), .ref (qq 34), .ref (qq 35), .ref (qq 36), .ref (qq 37), .ref (qq 38), .ref (qq 39), .ref (qq 40), .ref (qq 41), .ref (qq 42)])), ((qq 0), .inl (cT 0, 2, .inl (fun _ => 1))), ((qq 2), .inl (cT 0, 50, .inl (fun _ => (-1)))), ((qq 27), .inl (cT 1, 4001, .inr (.inl (fun _ => 0)))), ((qq 28), .inl (cT 0, 4001, .inl (fun _ => 0))), ((qq 29), .inl (cT 0, 4001, .inl (fun _ => 0)))] (QI g (fun (r : Int32) (u : Unit) => r = 1) (fun (u : Unit) => [(y, .inr (12, [.ref (qq 0), .ref (qq 1), .ref (qq 2), .ref (qq 3), .ref (qq 4), .ref (qq 5), .int z6, .ref (qq 7), .ref (qq 8), .ref (qq 9), .ref (qq 10), .ref (qq 11), .int z12, .ref (qq 13), .int z14, .int z15, .int z16, .int z17, .ref (qq 18), .int z19, .ref (qq 20), .int z21, .int z22, .int z23, .int z24, .ref (qq 25), .int z26, .ref (qq 27), .ref (qq 28), .ref (qq 29), .int 1, .ref (qq 31), .ref (qq 32), .ref (qq 33), .ref (qq 34), .ref (qq 35), .ref (qq 36), .ref (qq 37), .ref (qq 38), .ref (qq 39), .ref (qq 40), .ref (qq 41), .ref (qq 42)]))])) 0 0 := by
  refine mk_ctr (cc := cX12_layTables) (maxL := 6) (ret := (some .boolean)) (by decide) rfl (Nat.le_of_ble_eq_true rfl) ?_
  intro p e s m args below meth c A Q hx hb hr hts hown hlocks hin hml hP hK hD hN hZ hA hS hQ ls hl
  have hl : lv_has ls 6 [(0, .ref y), (1, .int 1)] := hl
  obtain ⟨H, hH⟩ : ∃ H : Heap, H = s.heap := ⟨_, rfl⟩
  obtain ⟨locs, hlo⟩ : ∃ x : List Loc, x = [] := ⟨_, rfl⟩
  rw [← hH] at hP
  have hS : va_S A s.heap H locs := by rw [hH, hlo]; exact hS
  have hgo : W p l e rm_c_M_layTables_1 s m args below meth c H locs 0 0 Q (F0 m 0 ls []) := by
    clear hH hlo
    refine lv_aload_n hx hb dX12_layTables_0 rfl (lv_at hl 0 rfl) ?_
    refine lv_iconst (v := 0) hx hb dX12_layTables_1 (by decide) ?_
    refine va_put (C := RX12) (T := TX12) (N := 43) (v := .int 0) (ty := .int) hx hb hts hi_X12_layTables_X12 tyX12 tyX12_ok nmX12 hown hK hP hD hS 0 rfl rfl 30 (by decide) (hts (.fieldLink RX12 234 "BothWaysModel" "kindMany" "I") (by decide +kernel)) (fun _ h => h) rfl (by decide +kernel) rfl rfl (Nat.le_of_ble_eq_true rfl) dX12_layTables_2 (fun H locs hP hD hS => ?_)
    have hP : va_P g vwCl [(y, .inr (12, [.ref (qq 0), .ref (qq 1), .ref (qq 2), .ref (qq 3), .ref (qq 4), .ref (qq 5), .int z6, .ref (qq 7), .ref (qq 8), .ref (qq 9), .ref (qq 10), .ref (qq 11), .int z12, .ref (qq 13), .int z14, .int z15, .int z16, .int z17, .ref (qq 18), .int z19, .ref (qq 20), .int z21, .int z22, .int z23, .int z24, .ref (qq 25), .int z26, .ref (qq 27), .ref (qq 28), .ref (qq 29), .int 0, .ref (qq 31), .ref (qq 32), .ref (qq 33), .ref (qq 34), .ref (qq 35), .ref (qq 36), .ref (qq 37), .ref (qq 38), .ref (qq 39), .ref (qq 40), .ref (qq 41), .ref (qq 42)])), ((qq 0), .inl (cT 0, 2, .inl (fun _ => 1))), ((qq 2), .inl (cT 0, 50, .inl (fun _ => (-1)))), ((qq 27), .inl (cT 1, 4001, .inr (.inl (fun _ => 0)))), ((qq 28), .inl (cT 0, 4001, .inl (fun _ => 0))), ((qq 29), .inl (cT 0, 4001, .inl (fun _ => 0)))] H := hP
    have hD : va_D A [(y, .inr (12, [.ref (qq 0), .ref (qq 1), .ref (qq 2), .ref (qq 3), .ref (qq 4), .ref (qq 5), .int z6, .ref (qq 7), .ref (qq 8), .ref (qq 9), .ref (qq 10), .ref (qq 11), .int z12, .ref (qq 13), .int z14, .int z15, .int z16, .int z17, .ref (qq 18), .int z19, .ref (qq 20), .int z21, .int z22, .int z23, .int z24, .ref (qq 25), .int z26, .ref (qq 27), .ref (qq 28), .ref (qq 29), .int 0, .ref (qq 31), .ref (qq 32), .ref (qq 33), .ref (qq 34), .ref (qq 35), .ref (qq 36), .ref (qq 37), .ref (qq 38), .ref (qq 39), .ref (qq 40), .ref (qq 41), .ref (qq 42)])), ((qq 0), .inl (cT 0, 2, .inl (fun _ => 1))), ((qq 2), .inl (cT 0, 50, .inl (fun _ => (-1)))), ((qq 27), .inl (cT 1, 4001, .inr (.inl (fun _ => 0)))), ((qq 28), .inl (cT 0, 4001, .inl (fun _ => 0))), ((qq 29), .inl (cT 0, 4001, .inl (fun _ => 0)))] := hD
    refine lv_iconst (v := 0) hx hb dX12_layTables_5 (by decide) ?_
    refine lv_istore_n (lv' := [(2, .int 0), (0, .ref y), (1, .int 1)]) hx hb dX12_layTables_6 rfl hl (by decide) rfl (fun ls hl => ?_)
    refine lv_iload_n hx hb dX12_layTables_7 rfl (lv_at hl 0 rfl) ?_
    refine lv_iconst (v := 3) hx hb dX12_layTables_8 (by decide) ?_
    refine icmp_ge_f hx hb dX12_layTables_9 44 (by decide) (by decide) ?_
    refine lv_aload_n hx hb dX12_layTables_12 rfl (lv_at hl 1 rfl) ?_
    refine lv_aload_n hx hb dX12_layTables_13 rfl (lv_at hl 1 rfl) ?_
    refine lv_iload_n hx hb dX12_layTables_14 rfl (lv_at hl 2 rfl) ?_
    refine lv_iload_n hx hb dX12_layTables_15 rfl (lv_at hl 0 rfl) ?_
    refine cj_l 0 0 (wr := [((qq 27), .inl (cT 1, 4001, .inr (.inl (fun _ => 0)))), ((qq 28), .inl (cT 0, 4001, .inl (fun _ => 0))), ((qq 29), .inl (cT 0, 4001, .inl (fun _ => 0)))]) (va_runV (As := [.int 1, .int 0]) (rest := [.ref y]) ⟨hx, hb, hml, hown, hts⟩ (c_M_letterTable_1_0 l g cT H.size y qq z6 z12 z14 z15 z16 z17 z19 z21 z22 z23 z24 z26 0) (cwV 2 hts gX12_layTables_X12_letterTable rfl rfl rfl yd_X12_letterTable ⟨(Nat.le_of_ble_eq_true rfl), (Nat.le_of_ble_eq_true rfl)⟩) (preV (wc := [(y, .inr (12, [.ref (qq 0), .ref (qq 1), .ref (qq 2), .ref (qq 3), .ref (qq 4), .ref (qq 5), .int z6, .ref (qq 7), .ref (qq 8), .ref (qq 9), .ref (qq 10), .ref (qq 11), .int z12, .ref (qq 13), .int z14, .int z15, .int z16, .int z17, .ref (qq 18), .int z19, .ref (qq 20), .int z21, .int z22, .int z23, .int z24, .ref (qq 25), .int z26, .ref (qq 27), .ref (qq 28), .ref (qq 29), .int 0, .ref (qq 31), .ref (qq 32), .ref (qq 33), .ref (qq 34), .ref (qq 35), .ref (qq 36), .ref (qq 37), .ref (qq 38), .ref (qq 39), .ref (qq 40), .ref (qq 41), .ref (qq 42)])), ((qq 0), .inl (cT 0, 2, .inl (fun _ => 1))), ((qq 2), .inl (cT 0, 50, .inl (fun _ => (-1))))]) rfl hP hD hK hN hZ hS hA [0, 1, 2] rfl (by decide) (ci := 12) (q0 := 0) rfl rfl) rfl rfl hl.1 rfl (lv_room (Nat.le_of_ble_eq_true rfl)) dX12_layTables_16 ⟨(Nat.le_of_ble_eq_true rfl), (Nat.le_of_ble_eq_true rfl)⟩) hP hD hS hA [0, 1, 2] [3, 4, 5] rfl rfl (by decide) (by decide) (Nat.le_of_ble_eq_true rfl) (Nat.le_of_ble_eq_true rfl) (fun r_1 u H locs h_2 hP hD hS => ?_)
    have hP : va_P g vwCl [((qq 27), .inl (cT 1, 4001, .inr (.inl (fun _ => 0)))), ((qq 28), .inl (cT 0, 4001, .inl (fun _ => 0))), ((qq 29), .inl (cT 0, 4001, .inl (fun _ => 0))), (y, .inr (12, [.ref (qq 0), .ref (qq 1), .ref (qq 2), .ref (qq 3), .ref (qq 4), .ref (qq 5), .int z6, .ref (qq 7), .ref (qq 8), .ref (qq 9), .ref (qq 10), .ref (qq 11), .int z12, .ref (qq 13), .int z14, .int z15, .int z16, .int z17, .ref (qq 18), .int z19, .ref (qq 20), .int z21, .int z22, .int z23, .int z24, .ref (qq 25), .int z26, .ref (qq 27), .ref (qq 28), .ref (qq 29), .int 0, .ref (qq 31), .ref (qq 32), .ref (qq 33), .ref (qq 34), .ref (qq 35), .ref (qq 36), .ref (qq 37), .ref (qq 38), .ref (qq 39), .ref (qq 40), .ref (qq 41), .ref (qq 42)])), ((qq 0), .inl (cT 0, 2, .inl (fun _ => 1))), ((qq 2), .inl (cT 0, 50, .inl (fun _ => (-1))))] H := hP
    have hD : va_D A [((qq 27), .inl (cT 1, 4001, .inr (.inl (fun _ => 0)))), ((qq 28), .inl (cT 0, 4001, .inl (fun _ => 0))), ((qq 29), .inl (cT 0, 4001, .inl (fun _ => 0))), (y, .inr (12, [.ref (qq 0), .ref (qq 1), .ref (qq 2), .ref (qq 3), .ref (qq 4), .ref (qq 5), .int z6, .ref (qq 7), .ref (qq 8), .ref (qq 9), .ref (qq 10), .ref (qq 11), .int z12, .ref (qq 13), .int z14, .int z15, .int z16, .int z17, .ref (qq 18), .int z19, .ref (qq 20), .int z21, .int z22, .int z23, .int z24, .ref (qq 25), .int z26, .ref (qq 27), .ref (qq 28), .ref (qq 29), .int 0, .ref (qq 31), .ref (qq 32), .ref (qq 33), .ref (qq 34), .ref (qq 35), .ref (qq 36), .ref (qq 37), .ref (qq 38), .ref (qq 39), .ref (qq 40), .ref (qq 41), .ref (qq 42)])), ((qq 0), .inl (cT 0, 2, .inl (fun _ => 1))), ((qq 2), .inl (cT 0, 50, .inl (fun _ => (-1))))] := hD
    subst h_2
    refine cj_i 0 0 (wr := [((qq 27), .inl (cT 1, 4001, .inr (.inl (fun _ => 0)))), ((qq 28), .inl (cT 0, 4001, .inl (fun _ => 0))), ((qq 29), .inl (cT 0, 4001, .inl (fun _ => 0))), ((qq 0), .inl (cT 0, 2, .inl (fun _ => 1))), ((qq 2), .inl (cT 0, 50, .inl (fun _ => (-1))))]) (va_runV (As := [.long 10485770]) (rest := []) ⟨hx, hb, hml, hown, hts⟩ (c_M_kindOf_0 l g cT H.size y qq z6 z12 z14 z15 z16 z17 z19 z21 z22 z23 z24 z26 10485770) (cwV 1 hts gX12_layTables_X12_kindOf rfl rfl rfl yd_X12_kindOf ⟨(Nat.le_of_ble_eq_true rfl), (Nat.le_of_ble_eq_true rfl)⟩) (preV (wc := [(y, .inr (12, [.ref (qq 0), .ref (qq 1), .ref (qq 2), .ref (qq 3), .ref (qq 4), .ref (qq 5), .int z6, .ref (qq 7), .ref (qq 8), .ref (qq 9), .ref (qq 10), .ref (qq 11), .int z12, .ref (qq 13), .int z14, .int z15, .int z16, .int z17, .ref (qq 18), .int z19, .ref (qq 20), .int z21, .int z22, .int z23, .int z24, .ref (qq 25), .int z26, .ref (qq 27), .ref (qq 28), .ref (qq 29), .int 0, .ref (qq 31), .ref (qq 32), .ref (qq 33), .ref (qq 34), .ref (qq 35), .ref (qq 36), .ref (qq 37), .ref (qq 38), .ref (qq 39), .ref (qq 40), .ref (qq 41), .ref (qq 42)]))]) rfl hP hD hK hN hZ hS hA [3] rfl (by decide) (ci := 12) (q0 := 3) rfl rfl) rfl rfl hl.1 rfl (lv_room (Nat.le_of_ble_eq_true rfl)) dX12_layTables_19 ⟨(Nat.le_of_ble_eq_true rfl), (Nat.le_of_ble_eq_true rfl)⟩) hP hD hS hA [3] [0, 1, 2, 4, 5] rfl rfl (by decide) (by decide) (Nat.le_of_ble_eq_true rfl) (Nat.le_of_ble_eq_true rfl) (fun r_3 u H locs h_4 hP hD hS => ?_)
    have hP : va_P g vwCl [((qq 27), .inl (cT 1, 4001, .inr (.inl (fun _ => 0)))), ((qq 28), .inl (cT 0, 4001, .inl (fun _ => 0))), ((qq 29), .inl (cT 0, 4001, .inl (fun _ => 0))), ((qq 0), .inl (cT 0, 2, .inl (fun _ => 1))), ((qq 2), .inl (cT 0, 50, .inl (fun _ => (-1)))), (y, .inr (12, [.ref (qq 0), .ref (qq 1), .ref (qq 2), .ref (qq 3), .ref (qq 4), .ref (qq 5), .int z6, .ref (qq 7), .ref (qq 8), .ref (qq 9), .ref (qq 10), .ref (qq 11), .int z12, .ref (qq 13), .int z14, .int z15, .int z16, .int z17, .ref (qq 18), .int z19, .ref (qq 20), .int z21, .int z22, .int z23, .int z24, .ref (qq 25), .int z26, .ref (qq 27), .ref (qq 28), .ref (qq 29), .int 0, .ref (qq 31), .ref (qq 32), .ref (qq 33), .ref (qq 34), .ref (qq 35), .ref (qq 36), .ref (qq 37), .ref (qq 38), .ref (qq 39), .ref (qq 40), .ref (qq 41), .ref (qq 42)]))] H := hP
    have hD : va_D A [((qq 27), .inl (cT 1, 4001, .inr (.inl (fun _ => 0)))), ((qq 28), .inl (cT 0, 4001, .inl (fun _ => 0))), ((qq 29), .inl (cT 0, 4001, .inl (fun _ => 0))), ((qq 0), .inl (cT 0, 2, .inl (fun _ => 1))), ((qq 2), .inl (cT 0, 50, .inl (fun _ => (-1)))), (y, .inr (12, [.ref (qq 0), .ref (qq 1), .ref (qq 2), .ref (qq 3), .ref (qq 4), .ref (qq 5), .int z6, .ref (qq 7), .ref (qq 8), .ref (qq 9), .ref (qq 10), .ref (qq 11), .int z12, .ref (qq 13), .int z14, .int z15, .int z16, .int z17, .ref (qq 18), .int z19, .ref (qq 20), .int z21, .int z22, .int z23, .int z24, .ref (qq 25), .int z26, .ref (qq 27), .ref (qq 28), .ref (qq 29), .int 0, .ref (qq 31), .ref (qq 32), .ref (qq 33), .ref (qq 34), .ref (qq 35), .ref (qq 36), .ref (qq 37), .ref (qq 38), .ref (qq 39), .ref (qq 40), .ref (qq 41), .ref (qq 42)]))] := hD
    subst h_4
    refine lv_iconst (v := (-1)) hx hb dX12_layTables_22 (by decide) ?_
    refine icmp_ne_f hx hb dX12_layTables_23 38 (by decide) (by decide) ?_
    refine lv_aload_n hx hb dX12_layTables_26 rfl (lv_at hl 1 rfl) ?_
    refine lv_aload_n hx hb dX12_layTables_27 rfl (lv_at hl 1 rfl) ?_
    refine lv_iload_n hx hb dX12_layTables_28 rfl (lv_at hl 2 rfl) ?_
    refine lv_iload_n hx hb dX12_layTables_29 rfl (lv_at hl 0 rfl) ?_
    refine cj_l 0 0 (wr := [((qq 27), .inl (cT 1, 4001, .inr (.inl (fun _ => 0)))), ((qq 28), .inl (cT 0, 4001, .inl (fun _ => 0))), ((qq 29), .inl (cT 0, 4001, .inl (fun _ => 0)))]) (va_runV (As := [.int 1, .int 0]) (rest := [.ref y]) ⟨hx, hb, hml, hown, hts⟩ (c_M_letterTable_1_0 l g cT H.size y qq z6 z12 z14 z15 z16 z17 z19 z21 z22 z23 z24 z26 0) (cwV 2 hts gX12_layTables_X12_letterTable rfl rfl rfl yd_X12_letterTable ⟨(Nat.le_of_ble_eq_true rfl), (Nat.le_of_ble_eq_true rfl)⟩) (preV (wc := [(y, .inr (12, [.ref (qq 0), .ref (qq 1), .ref (qq 2), .ref (qq 3), .ref (qq 4), .ref (qq 5), .int z6, .ref (qq 7), .ref (qq 8), .ref (qq 9), .ref (qq 10), .ref (qq 11), .int z12, .ref (qq 13), .int z14, .int z15, .int z16, .int z17, .ref (qq 18), .int z19, .ref (qq 20), .int z21, .int z22, .int z23, .int z24, .ref (qq 25), .int z26, .ref (qq 27), .ref (qq 28), .ref (qq 29), .int 0, .ref (qq 31), .ref (qq 32), .ref (qq 33), .ref (qq 34), .ref (qq 35), .ref (qq 36), .ref (qq 37), .ref (qq 38), .ref (qq 39), .ref (qq 40), .ref (qq 41), .ref (qq 42)])), ((qq 0), .inl (cT 0, 2, .inl (fun _ => 1))), ((qq 2), .inl (cT 0, 50, .inl (fun _ => (-1))))]) rfl hP hD hK hN hZ hS hA [5, 3, 4] rfl (by decide) (ci := 12) (q0 := 5) rfl rfl) rfl rfl hl.1 rfl (lv_room (Nat.le_of_ble_eq_true rfl)) dX12_layTables_30 ⟨(Nat.le_of_ble_eq_true rfl), (Nat.le_of_ble_eq_true rfl)⟩) hP hD hS hA [5, 3, 4] [0, 1, 2] rfl rfl (by decide) (by decide) (Nat.le_of_ble_eq_true rfl) (Nat.le_of_ble_eq_true rfl) (fun r_5 u H locs h_6 hP hD hS => ?_)
    have hP : va_P g vwCl [((qq 27), .inl (cT 1, 4001, .inr (.inl (fun _ => 0)))), ((qq 28), .inl (cT 0, 4001, .inl (fun _ => 0))), ((qq 29), .inl (cT 0, 4001, .inl (fun _ => 0))), (y, .inr (12, [.ref (qq 0), .ref (qq 1), .ref (qq 2), .ref (qq 3), .ref (qq 4), .ref (qq 5), .int z6, .ref (qq 7), .ref (qq 8), .ref (qq 9), .ref (qq 10), .ref (qq 11), .int z12, .ref (qq 13), .int z14, .int z15, .int z16, .int z17, .ref (qq 18), .int z19, .ref (qq 20), .int z21, .int z22, .int z23, .int z24, .ref (qq 25), .int z26, .ref (qq 27), .ref (qq 28), .ref (qq 29), .int 0, .ref (qq 31), .ref (qq 32), .ref (qq 33), .ref (qq 34), .ref (qq 35), .ref (qq 36), .ref (qq 37), .ref (qq 38), .ref (qq 39), .ref (qq 40), .ref (qq 41), .ref (qq 42)])), ((qq 0), .inl (cT 0, 2, .inl (fun _ => 1))), ((qq 2), .inl (cT 0, 50, .inl (fun _ => (-1))))] H := hP
    have hD : va_D A [((qq 27), .inl (cT 1, 4001, .inr (.inl (fun _ => 0)))), ((qq 28), .inl (cT 0, 4001, .inl (fun _ => 0))), ((qq 29), .inl (cT 0, 4001, .inl (fun _ => 0))), (y, .inr (12, [.ref (qq 0), .ref (qq 1), .ref (qq 2), .ref (qq 3), .ref (qq 4), .ref (qq 5), .int z6, .ref (qq 7), .ref (qq 8), .ref (qq 9), .ref (qq 10), .ref (qq 11), .int z12, .ref (qq 13), .int z14, .int z15, .int z16, .int z17, .ref (qq 18), .int z19, .ref (qq 20), .int z21, .int z22, .int z23, .int z24, .ref (qq 25), .int z26, .ref (qq 27), .ref (qq 28), .ref (qq 29), .int 0, .ref (qq 31), .ref (qq 32), .ref (qq 33), .ref (qq 34), .ref (qq 35), .ref (qq 36), .ref (qq 37), .ref (qq 38), .ref (qq 39), .ref (qq 40), .ref (qq 41), .ref (qq 42)])), ((qq 0), .inl (cT 0, 2, .inl (fun _ => 1))), ((qq 2), .inl (cT 0, 50, .inl (fun _ => (-1))))] := hD
    subst h_6
    refine lv_iconst (v := (-1)) hx hb dX12_layTables_33 (by decide) ?_
    refine lv_iload_n hx hb dX12_layTables_34 rfl (lv_at hl 0 rfl) ?_
    refine cj_v 0 0 (wr := [((qq 0), .inl (cT 0, 2, .inl (fun _ => 1))), ((qq 2), .inl (cT 0, 50, .inl (fun _ => (-1))))]) (va_runV (As := [.long 10485770, .int (-1), .int 0]) (rest := []) ⟨hx, hb, hml, hown, hts⟩ (c_M_addKind_K l g cT H.size y qq z6 z12 z14 z15 z16 z17 z19 z21 z22 z23 z24 z26) (cwV 3 hts gX12_layTables_X12_addKind rfl rfl rfl yd_X12_addKind ⟨(Nat.le_of_ble_eq_true rfl), (Nat.le_of_ble_eq_true rfl)⟩) (preV (wc := [(y, .inr (12, [.ref (qq 0), .ref (qq 1), .ref (qq 2), .ref (qq 3), .ref (qq 4), .ref (qq 5), .int z6, .ref (qq 7), .ref (qq 8), .ref (qq 9), .ref (qq 10), .ref (qq 11), .int z12, .ref (qq 13), .int z14, .int z15, .int z16, .int z17, .ref (qq 18), .int z19, .ref (qq 20), .int z21, .int z22, .int z23, .int z24, .ref (qq 25), .int z26, .ref (qq 27), .ref (qq 28), .ref (qq 29), .int 0, .ref (qq 31), .ref (qq 32), .ref (qq 33), .ref (qq 34), .ref (qq 35), .ref (qq 36), .ref (qq 37), .ref (qq 38), .ref (qq 39), .ref (qq 40), .ref (qq 41), .ref (qq 42)])), ((qq 27), .inl (cT 1, 4001, .inr (.inl (fun _ => 0)))), ((qq 28), .inl (cT 0, 4001, .inl (fun _ => 0))), ((qq 29), .inl (cT 0, 4001, .inl (fun _ => 0)))]) rfl hP hD hK hN hZ hS hA [3, 0, 1, 2] rfl (by decide) (ci := 12) (q0 := 3) rfl rfl) rfl rfl hl.1 rfl (lv_room (Nat.le_of_ble_eq_true rfl)) dX12_layTables_35 ⟨(Nat.le_of_ble_eq_true rfl), (Nat.le_of_ble_eq_true rfl)⟩) hP hD hS hA [3, 0, 1, 2] [4, 5] rfl rfl (by decide) (by decide) (Nat.le_of_ble_eq_true rfl) (Nat.le_of_ble_eq_true rfl) (fun u H locs h_8 hP hD hS => ?_)
    have hP : va_P g vwCl [((qq 0), .inl (cT 0, 2, .inl (fun _ => 1))), ((qq 2), .inl (cT 0, 50, .inl (fun _ => (-1)))), (y, .inr (12, [.ref (qq 0), .ref (qq 1), .ref (qq 2), .ref (qq 3), .ref (qq 4), .ref (qq 5), .int z6, .ref (qq 7), .ref (qq 8), .ref (qq 9), .ref (qq 10), .ref (qq 11), .int z12, .ref (qq 13), .int z14, .int z15, .int z16, .int z17, .ref (qq 18), .int z19, .ref (qq 20), .int z21, .int z22, .int z23, .int z24, .ref (qq 25), .int z26, .ref (qq 27), .ref (qq 28), .ref (qq 29), .int 1, .ref (qq 31), .ref (qq 32), .ref (qq 33), .ref (qq 34), .ref (qq 35), .ref (qq 36), .ref (qq 37), .ref (qq 38), .ref (qq 39), .ref (qq 40), .ref (qq 41), .ref (qq 42)])), ((qq 27), .inl (cT 1, 4001, .inr (.inl (vp_updL (fun _ => 0) 0 10485770)))), ((qq 28), .inl (cT 0, 4001, .inl (upd (fun _ => 0) 0 (-1)))), ((qq 29), .inl (cT 0, 4001, .inl (fun _ => 0)))] H := hP
    have hD : va_D A [((qq 0), .inl (cT 0, 2, .inl (fun _ => 1))), ((qq 2), .inl (cT 0, 50, .inl (fun _ => (-1)))), (y, .inr (12, [.ref (qq 0), .ref (qq 1), .ref (qq 2), .ref (qq 3), .ref (qq 4), .ref (qq 5), .int z6, .ref (qq 7), .ref (qq 8), .ref (qq 9), .ref (qq 10), .ref (qq 11), .int z12, .ref (qq 13), .int z14, .int z15, .int z16, .int z17, .ref (qq 18), .int z19, .ref (qq 20), .int z21, .int z22, .int z23, .int z24, .ref (qq 25), .int z26, .ref (qq 27), .ref (qq 28), .ref (qq 29), .int 1, .ref (qq 31), .ref (qq 32), .ref (qq 33), .ref (qq 34), .ref (qq 35), .ref (qq 36), .ref (qq 37), .ref (qq 38), .ref (qq 39), .ref (qq 40), .ref (qq 41), .ref (qq 42)])), ((qq 27), .inl (cT 1, 4001, .inr (.inl (vp_updL (fun _ => 0) 0 10485770)))), ((qq 28), .inl (cT 0, 4001, .inl (upd (fun _ => 0) 0 (-1)))), ((qq 29), .inl (cT 0, 4001, .inl (fun _ => 0)))] := hD
    refine lv_iinc (v := 1) (lv' := [(2, .int 1), (0, .ref y), (1, .int 1)]) hx hb dX12_layTables_38 hl (k := 0) rfl (by decide) (by decide) rfl (fun ls hl => ?_)
    refine lv_goto (tgt := 7) hx hb dX12_layTables_41 (by decide) ?_
    refine lv_iload_n hx hb dX12_layTables_7 rfl (lv_at hl 0 rfl) ?_
    refine lv_iconst (v := 3) hx hb dX12_layTables_8 (by decide) ?_
    refine icmp_ge_f hx hb dX12_layTables_9 44 (by decide) (by decide) ?_
    refine lv_aload_n hx hb dX12_layTables_12 rfl (lv_at hl 1 rfl) ?_
    refine lv_aload_n hx hb dX12_layTables_13 rfl (lv_at hl 1 rfl) ?_
    refine lv_iload_n hx hb dX12_layTables_14 rfl (lv_at hl 2 rfl) ?_
    refine lv_iload_n hx hb dX12_layTables_15 rfl (lv_at hl 0 rfl) ?_
    refine cj_l 0 0 (wr := [((qq 27), .inl (cT 1, 4001, .inr (.inl (vp_updL (fun _ => 0) 0 10485770)))), ((qq 28), .inl (cT 0, 4001, .inl (upd (fun _ => 0) 0 (-1)))), ((qq 29), .inl (cT 0, 4001, .inl (fun _ => 0)))]) (va_runV (As := [.int 1, .int 1]) (rest := [.ref y]) ⟨hx, hb, hml, hown, hts⟩ (c_M_letterTable_1_1 l g cT H.size y qq z6 z12 z14 z15 z16 z17 z19 z21 z22 z23 z24 z26 1) (cwV 2 hts gX12_layTables_X12_letterTable rfl rfl rfl yd_X12_letterTable ⟨(Nat.le_of_ble_eq_true rfl), (Nat.le_of_ble_eq_true rfl)⟩) (preV (wc := [(y, .inr (12, [.ref (qq 0), .ref (qq 1), .ref (qq 2), .ref (qq 3), .ref (qq 4), .ref (qq 5), .int z6, .ref (qq 7), .ref (qq 8), .ref (qq 9), .ref (qq 10), .ref (qq 11), .int z12, .ref (qq 13), .int z14, .int z15, .int z16, .int z17, .ref (qq 18), .int z19, .ref (qq 20), .int z21, .int z22, .int z23, .int z24, .ref (qq 25), .int z26, .ref (qq 27), .ref (qq 28), .ref (qq 29), .int 1, .ref (qq 31), .ref (qq 32), .ref (qq 33), .ref (qq 34), .ref (qq 35), .ref (qq 36), .ref (qq 37), .ref (qq 38), .ref (qq 39), .ref (qq 40), .ref (qq 41), .ref (qq 42)])), ((qq 0), .inl (cT 0, 2, .inl (fun _ => 1))), ((qq 2), .inl (cT 0, 50, .inl (fun _ => (-1))))]) rfl hP hD hK hN hZ hS hA [2, 0, 1] rfl (by decide) (ci := 12) (q0 := 2) rfl rfl) rfl rfl hl.1 rfl (lv_room (Nat.le_of_ble_eq_true rfl)) dX12_layTables_16 ⟨(Nat.le_of_ble_eq_true rfl), (Nat.le_of_ble_eq_true rfl)⟩) hP hD hS hA [2, 0, 1] [3, 4, 5] rfl rfl (by decide) (by decide) (Nat.le_of_ble_eq_true rfl) (Nat.le_of_ble_eq_true rfl) (fun r_9 u H locs h_10 hP hD hS => ?_)
    have hP : va_P g vwCl [((qq 27), .inl (cT 1, 4001, .inr (.inl (vp_updL (fun _ => 0) 0 10485770)))), ((qq 28), .inl (cT 0, 4001, .inl (upd (fun _ => 0) 0 (-1)))), ((qq 29), .inl (cT 0, 4001, .inl (fun _ => 0))), (y, .inr (12, [.ref (qq 0), .ref (qq 1), .ref (qq 2), .ref (qq 3), .ref (qq 4), .ref (qq 5), .int z6, .ref (qq 7), .ref (qq 8), .ref (qq 9), .ref (qq 10), .ref (qq 11), .int z12, .ref (qq 13), .int z14, .int z15, .int z16, .int z17, .ref (qq 18), .int z19, .ref (qq 20), .int z21, .int z22, .int z23, .int z24, .ref (qq 25), .int z26, .ref (qq 27), .ref (qq 28), .ref (qq 29), .int 1, .ref (qq 31), .ref (qq 32), .ref (qq 33), .ref (qq 34), .ref (qq 35), .ref (qq 36), .ref (qq 37), .ref (qq 38), .ref (qq 39), .ref (qq 40), .ref (qq 41), .ref (qq 42)])), ((qq 0), .inl (cT 0, 2, .inl (fun _ => 1))), ((qq 2), .inl (cT 0, 50, .inl (fun _ => (-1))))] H := hP
    have hD : va_D A [((qq 27), .inl (cT 1, 4001, .inr (.inl (vp_updL (fun _ => 0) 0 10485770)))), ((qq 28), .inl (cT 0, 4001, .inl (upd (fun _ => 0) 0 (-1)))), ((qq 29), .inl (cT 0, 4001, .inl (fun _ => 0))), (y, .inr (12, [.ref (qq 0), .ref (qq 1), .ref (qq 2), .ref (qq 3), .ref (qq 4), .ref (qq 5), .int z6, .ref (qq 7), .ref (qq 8), .ref (qq 9), .ref (qq 10), .ref (qq 11), .int z12, .ref (qq 13), .int z14, .int z15, .int z16, .int z17, .ref (qq 18), .int z19, .ref (qq 20), .int z21, .int z22, .int z23, .int z24, .ref (qq 25), .int z26, .ref (qq 27), .ref (qq 28), .ref (qq 29), .int 1, .ref (qq 31), .ref (qq 32), .ref (qq 33), .ref (qq 34), .ref (qq 35), .ref (qq 36), .ref (qq 37), .ref (qq 38), .ref (qq 39), .ref (qq 40), .ref (qq 41), .ref (qq 42)])), ((qq 0), .inl (cT 0, 2, .inl (fun _ => 1))), ((qq 2), .inl (cT 0, 50, .inl (fun _ => (-1))))] := hD
    subst h_10
    refine cj_i 0 0 (wr := [((qq 28), .inl (cT 0, 4001, .inl (upd (fun _ => 0) 0 (-1)))), ((qq 29), .inl (cT 0, 4001, .inl (fun _ => 0))), ((qq 0), .inl (cT 0, 2, .inl (fun _ => 1))), ((qq 2), .inl (cT 0, 50, .inl (fun _ => (-1))))]) (va_runV (As := [.long 10485770]) (rest := []) ⟨hx, hb, hml, hown, hts⟩ (c_M_kindOf_1 l g cT H.size y qq z6 z12 z14 z15 z16 z17 z19 z21 z22 z23 z24 z26) (cwV 1 hts gX12_layTables_X12_kindOf rfl rfl rfl yd_X12_kindOf ⟨(Nat.le_of_ble_eq_true rfl), (Nat.le_of_ble_eq_true rfl)⟩) (preV (wc := [(y, .inr (12, [.ref (qq 0), .ref (qq 1), .ref (qq 2), .ref (qq 3), .ref (qq 4), .ref (qq 5), .int z6, .ref (qq 7), .ref (qq 8), .ref (qq 9), .ref (qq 10), .ref (qq 11), .int z12, .ref (qq 13), .int z14, .int z15, .int z16, .int z17, .ref (qq 18), .int z19, .ref (qq 20), .int z21, .int z22, .int z23, .int z24, .ref (qq 25), .int z26, .ref (qq 27), .ref (qq 28), .ref (qq 29), .int 1, .ref (qq 31), .ref (qq 32), .ref (qq 33), .ref (qq 34), .ref (qq 35), .ref (qq 36), .ref (qq 37), .ref (qq 38), .ref (qq 39), .ref (qq 40), .ref (qq 41), .ref (qq 42)])), ((qq 27), .inl (cT 1, 4001, .inr (.inl (vp_updL (fun _ => 0) 0 10485770))))]) rfl hP hD hK hN hZ hS hA [3, 0] rfl (by decide) (ci := 12) (q0 := 3) rfl rfl) rfl rfl hl.1 rfl (lv_room (Nat.le_of_ble_eq_true rfl)) dX12_layTables_19 ⟨(Nat.le_of_ble_eq_true rfl), (Nat.le_of_ble_eq_true rfl)⟩) hP hD hS hA [3, 0] [1, 2, 4, 5] rfl rfl (by decide) (by decide) (Nat.le_of_ble_eq_true rfl) (Nat.le_of_ble_eq_true rfl) (fun r_11 u H locs h_12 hP hD hS => ?_)
    have hP : va_P g vwCl [((qq 28), .inl (cT 0, 4001, .inl (upd (fun _ => 0) 0 (-1)))), ((qq 29), .inl (cT 0, 4001, .inl (fun _ => 0))), ((qq 0), .inl (cT 0, 2, .inl (fun _ => 1))), ((qq 2), .inl (cT 0, 50, .inl (fun _ => (-1)))), (y, .inr (12, [.ref (qq 0), .ref (qq 1), .ref (qq 2), .ref (qq 3), .ref (qq 4), .ref (qq 5), .int z6, .ref (qq 7), .ref (qq 8), .ref (qq 9), .ref (qq 10), .ref (qq 11), .int z12, .ref (qq 13), .int z14, .int z15, .int z16, .int z17, .ref (qq 18), .int z19, .ref (qq 20), .int z21, .int z22, .int z23, .int z24, .ref (qq 25), .int z26, .ref (qq 27), .ref (qq 28), .ref (qq 29), .int 1, .ref (qq 31), .ref (qq 32), .ref (qq 33), .ref (qq 34), .ref (qq 35), .ref (qq 36), .ref (qq 37), .ref (qq 38), .ref (qq 39), .ref (qq 40), .ref (qq 41), .ref (qq 42)])), ((qq 27), .inl (cT 1, 4001, .inr (.inl (vp_updL (fun _ => 0) 0 10485770))))] H := hP
    have hD : va_D A [((qq 28), .inl (cT 0, 4001, .inl (upd (fun _ => 0) 0 (-1)))), ((qq 29), .inl (cT 0, 4001, .inl (fun _ => 0))), ((qq 0), .inl (cT 0, 2, .inl (fun _ => 1))), ((qq 2), .inl (cT 0, 50, .inl (fun _ => (-1)))), (y, .inr (12, [.ref (qq 0), .ref (qq 1), .ref (qq 2), .ref (qq 3), .ref (qq 4), .ref (qq 5), .int z6, .ref (qq 7), .ref (qq 8), .ref (qq 9), .ref (qq 10), .ref (qq 11), .int z12, .ref (qq 13), .int z14, .int z15, .int z16, .int z17, .ref (qq 18), .int z19, .ref (qq 20), .int z21, .int z22, .int z23, .int z24, .ref (qq 25), .int z26, .ref (qq 27), .ref (qq 28), .ref (qq 29), .int 1, .ref (qq 31), .ref (qq 32), .ref (qq 33), .ref (qq 34), .ref (qq 35), .ref (qq 36), .ref (qq 37), .ref (qq 38), .ref (qq 39), .ref (qq 40), .ref (qq 41), .ref (qq 42)])), ((qq 27), .inl (cT 1, 4001, .inr (.inl (vp_updL (fun _ => 0) 0 10485770))))] := hD
    subst h_12
    refine lv_iconst (v := (-1)) hx hb dX12_layTables_22 (by decide) ?_
    refine icmp_ne_t hx hb 38 dX12_layTables_23 (by decide) (by decide) ?_
    refine lv_iinc (v := 2) (lv' := [(2, .int 2), (0, .ref y), (1, .int 1)]) hx hb dX12_layTables_38 hl (k := 0) rfl (by decide) (by decide) rfl (fun ls hl => ?_)
    refine lv_goto (tgt := 7) hx hb dX12_layTables_41 (by decide) ?_
    refine lv_iload_n hx hb dX12_layTables_7 rfl (lv_at hl 0 rfl) ?_
    refine lv_iconst (v := 3) hx hb dX12_layTables_8 (by decide) ?_
    refine icmp_ge_f hx hb dX12_layTables_9 44 (by decide) (by decide) ?_
    refine lv_aload_n hx hb dX12_layTables_12 rfl (lv_at hl 1 rfl) ?_
    refine lv_aload_n hx hb dX12_layTables_13 rfl (lv_at hl 1 rfl) ?_
    refine lv_iload_n hx hb dX12_layTables_14 rfl (lv_at hl 2 rfl) ?_
    refine lv_iload_n hx hb dX12_layTables_15 rfl (lv_at hl 0 rfl) ?_
    refine cj_l 0 0 (wr := [((qq 28), .inl (cT 0, 4001, .inl (upd (fun _ => 0) 0 (-1)))), ((qq 29), .inl (cT 0, 4001, .inl (fun _ => 0))), ((qq 27), .inl (cT 1, 4001, .inr (.inl (vp_updL (fun _ => 0) 0 10485770))))]) (va_runV (As := [.int 1, .int 2]) (rest := [.ref y]) ⟨hx, hb, hml, hown, hts⟩ (c_M_letterTable_1_2 l g cT H.size y qq z6 z12 z14 z15 z16 z17 z19 z21 z22 z23 z24 z26 1) (cwV 2 hts gX12_layTables_X12_letterTable rfl rfl rfl yd_X12_letterTable ⟨(Nat.le_of_ble_eq_true rfl), (Nat.le_of_ble_eq_true rfl)⟩) (preV (wc := [(y, .inr (12, [.ref (qq 0), .ref (qq 1), .ref (qq 2), .ref (qq 3), .ref (qq 4), .ref (qq 5), .int z6, .ref (qq 7), .ref (qq 8), .ref (qq 9), .ref (qq 10), .ref (qq 11), .int z12, .ref (qq 13), .int z14, .int z15, .int z16, .int z17, .ref (qq 18), .int z19, .ref (qq 20), .int z21, .int z22, .int z23, .int z24, .ref (qq 25), .int z26, .ref (qq 27), .ref (qq 28), .ref (qq 29), .int 1, .ref (qq 31), .ref (qq 32), .ref (qq 33), .ref (qq 34), .ref (qq 35), .ref (qq 36), .ref (qq 37), .ref (qq 38), .ref (qq 39), .ref (qq 40), .ref (qq 41), .ref (qq 42)])), ((qq 0), .inl (cT 0, 2, .inl (fun _ => 1))), ((qq 2), .inl (cT 0, 50, .inl (fun _ => (-1))))]) rfl hP hD hK hN hZ hS hA [4, 2, 3] rfl (by decide) (ci := 12) (q0 := 4) rfl rfl) rfl rfl hl.1 rfl (lv_room (Nat.le_of_ble_eq_true rfl)) dX12_layTables_16 ⟨(Nat.le_of_ble_eq_true rfl), (Nat.le_of_ble_eq_true rfl)⟩) hP hD hS hA [4, 2, 3] [0, 1, 5] rfl rfl (by decide) (by decide) (Nat.le_of_ble_eq_true rfl) (Nat.le_of_ble_eq_true rfl) (fun r_13 u H locs h_14 hP hD hS => ?_)
    have hP : va_P g vwCl [((qq 28), .inl (cT 0, 4001, .inl (upd (fun _ => 0) 0 (-1)))), ((qq 29), .inl (cT 0, 4001, .inl (fun _ => 0))), ((qq 27), .inl (cT 1, 4001, .inr (.inl (vp_updL (fun _ => 0) 0 10485770)))), (y, .inr (12, [.ref (qq 0), .ref (qq 1), .ref (qq 2), .ref (qq 3), .ref (qq 4), .ref (qq 5), .int z6, .ref (qq 7), .ref (qq 8), .ref (qq 9), .ref (qq 10), .ref (qq 11), .int z12, .ref (qq 13), .int z14, .int z15, .int z16, .int z17, .ref (qq 18), .int z19, .ref (qq 20), .int z21, .int z22, .int z23, .int z24, .ref (qq 25), .int z26, .ref (qq 27), .ref (qq 28), .ref (qq 29), .int 1, .ref (qq 31), .ref (qq 32), .ref (qq 33), .ref (qq 34), .ref (qq 35), .ref (qq 36), .ref (qq 37), .ref (qq 38), .ref (qq 39), .ref (qq 40), .ref (qq 41), .ref (qq 42)])), ((qq 0), .inl (cT 0, 2, .inl (fun _ => 1))), ((qq 2), .inl (cT 0, 50, .inl (fun _ => (-1))))] H := hP
    have hD : va_D A [((qq 28), .inl (cT 0, 4001, .inl (upd (fun _ => 0) 0 (-1)))), ((qq 29), .inl (cT 0, 4001, .inl (fun _ => 0))), ((qq 27), .inl (cT 1, 4001, .inr (.inl (vp_updL (fun _ => 0) 0 10485770)))), (y, .inr (12, [.ref (qq 0), .ref (qq 1), .ref (qq 2), .ref (qq 3), .ref (qq 4), .ref (qq 5), .int z6, .ref (qq 7), .ref (qq 8), .ref (qq 9), .ref (qq 10), .ref (qq 11), .int z12, .ref (qq 13), .int z14, .int z15, .int z16, .int z17, .ref (qq 18), .int z19, .ref (qq 20), .int z21, .int z22, .int z23, .int z24, .ref (qq 25), .int z26, .ref (qq 27), .ref (qq 28), .ref (qq 29), .int 1, .ref (qq 31), .ref (qq 32), .ref (qq 33), .ref (qq 34), .ref (qq 35), .ref (qq 36), .ref (qq 37), .ref (qq 38), .ref (qq 39), .ref (qq 40), .ref (qq 41), .ref (qq 42)])), ((qq 0), .inl (cT 0, 2, .inl (fun _ => 1))), ((qq 2), .inl (cT 0, 50, .inl (fun _ => (-1))))] := hD
    subst h_14
    refine cj_i 0 0 (wr := [((qq 28), .inl (cT 0, 4001, .inl (upd (fun _ => 0) 0 (-1)))), ((qq 29), .inl (cT 0, 4001, .inl (fun _ => 0))), ((qq 0), .inl (cT 0, 2, .inl (fun _ => 1))), ((qq 2), .inl (cT 0, 50, .inl (fun _ => (-1))))]) (va_runV (As := [.long 10485770]) (rest := []) ⟨hx, hb, hml, hown, hts⟩ (c_M_kindOf_1 l g cT H.size y qq z6 z12 z14 z15 z16 z17 z19 z21 z22 z23 z24 z26) (cwV 1 hts gX12_layTables_X12_kindOf rfl rfl rfl yd_X12_kindOf ⟨(Nat.le_of_ble_eq_true rfl), (Nat.le_of_ble_eq_true rfl)⟩) (preV (wc := [(y, .inr (12, [.ref (qq 0), .ref (qq 1), .ref (qq 2), .ref (qq 3), .ref (qq 4), .ref (qq 5), .int z6, .ref (qq 7), .ref (qq 8), .ref (qq 9), .ref (qq 10), .ref (qq 11), .int z12, .ref (qq 13), .int z14, .int z15, .int z16, .int z17, .ref (qq 18), .int z19, .ref (qq 20), .int z21, .int z22, .int z23, .int z24, .ref (qq 25), .int z26, .ref (qq 27), .ref (qq 28), .ref (qq 29), .int 1, .ref (qq 31), .ref (qq 32), .ref (qq 33), .ref (qq 34), .ref (qq 35), .ref (qq 36), .ref (qq 37), .ref (qq 38), .ref (qq 39), .ref (qq 40), .ref (qq 41), .ref (qq 42)])), ((qq 27), .inl (cT 1, 4001, .inr (.inl (vp_updL (fun _ => 0) 0 10485770))))]) rfl hP hD hK hN hZ hS hA [3, 2] rfl (by decide) (ci := 12) (q0 := 3) rfl rfl) rfl rfl hl.1 rfl (lv_room (Nat.le_of_ble_eq_true rfl)) dX12_layTables_19 ⟨(Nat.le_of_ble_eq_true rfl), (Nat.le_of_ble_eq_true rfl)⟩) hP hD hS hA [3, 2] [0, 1, 4, 5] rfl rfl (by decide) (by decide) (Nat.le_of_ble_eq_true rfl) (Nat.le_of_ble_eq_true rfl) (fun r_15 u H locs h_16 hP hD hS => ?_)
    have hP : va_P g vwCl [((qq 28), .inl (cT 0, 4001, .inl (upd (fun _ => 0) 0 (-1)))), ((qq 29), .inl (cT 0, 4001, .inl (fun _ => 0))), ((qq 0), .inl (cT 0, 2, .inl (fun _ => 1))), ((qq 2), .inl (cT 0, 50, .inl (fun _ => (-1)))), (y, .inr (12, [.ref (qq 0), .ref (qq 1), .ref (qq 2), .ref (qq 3), .ref (qq 4), .ref (qq 5), .int z6, .ref (qq 7), .ref (qq 8), .ref (qq 9), .ref (qq 10), .ref (qq 11), .int z12, .ref (qq 13), .int z14, .int z15, .int z16, .int z17, .ref (qq 18), .int z19, .ref (qq 20), .int z21, .int z22, .int z23, .int z24, .ref (qq 25), .int z26, .ref (qq 27), .ref (qq 28), .ref (qq 29), .int 1, .ref (qq 31), .ref (qq 32), .ref (qq 33), .ref (qq 34), .ref (qq 35), .ref (qq 36), .ref (qq 37), .ref (qq 38), .ref (qq 39), .ref (qq 40), .ref (qq 41), .ref (qq 42)])), ((qq 27), .inl (cT 1, 4001, .inr (.inl (vp_updL (fun _ => 0) 0 10485770))))] H := hP
    have hD : va_D A [((qq 28), .inl (cT 0, 4001, .inl (upd (fun _ => 0) 0 (-1)))), ((qq 29), .inl (cT 0, 4001, .inl (fun _ => 0))), ((qq 0), .inl (cT 0, 2, .inl (fun _ => 1))), ((qq 2), .inl (cT 0, 50, .inl (fun _ => (-1)))), (y, .inr (12, [.ref (qq 0), .ref (qq 1), .ref (qq 2), .ref (qq 3), .ref (qq 4), .ref (qq 5), .int z6, .ref (qq 7), .ref (qq 8), .ref (qq 9), .ref (qq 10), .ref (qq 11), .int z12, .ref (qq 13), .int z14, .int z15, .int z16, .int z17, .ref (qq 18), .int z19, .ref (qq 20), .int z21, .int z22, .int z23, .int z24, .ref (qq 25), .int z26, .ref (qq 27), .ref (qq 28), .ref (qq 29), .int 1, .ref (qq 31), .ref (qq 32), .ref (qq 33), .ref (qq 34), .ref (qq 35), .ref (qq 36), .ref (qq 37), .ref (qq 38), .ref (qq 39), .ref (qq 40), .ref (qq 41), .ref (qq 42)])), ((qq 27), .inl (cT 1, 4001, .inr (.inl (vp_updL (fun _ => 0) 0 10485770))))] := hD
    subst h_16
    refine lv_iconst (v := (-1)) hx hb dX12_layTables_22 (by decide) ?_
    refine icmp_ne_t hx hb 38 dX12_layTables_23 (by decide) (by decide) ?_
    refine lv_iinc (v := 3) (lv' := [(2, .int 3), (0, .ref y), (1, .int 1)]) hx hb dX12_layTables_38 hl (k := 0) rfl (by decide) (by decide) rfl (fun ls hl => ?_)
    refine lv_goto (tgt := 7) hx hb dX12_layTables_41 (by decide) ?_
    refine lv_iload_n hx hb dX12_layTables_7 rfl (lv_at hl 0 rfl) ?_
    refine lv_iconst (v := 3) hx hb dX12_layTables_8 (by decide) ?_
    refine icmp_ge_t hx hb 44 dX12_layTables_9 (by decide) (by decide) ?_
    refine lv_iconst (v := 0) hx hb dX12_layTables_44 (by decide) ?_
    refine lv_istore_n (lv' := [(2, .int 0), (0, .ref y), (1, .int 1)]) hx hb dX12_layTables_45 rfl hl (by decide) rfl (fun ls hl => ?_)
    refine lv_iload_n hx hb dX12_layTables_46 rfl (lv_at hl 0 rfl) ?_
    refine lv_aload_n hx hb dX12_layTables_47 rfl (lv_at hl 1 rfl) ?_
    refine va_get (C := RX12) (T := TX12) (N := 43) (v := .int 1) hx hb hts hi_X12_layTables_X12 hown hK hP 4 rfl rfl 30 (by decide) (hts (.fieldLink RX12 234 "BothWaysModel" "kindMany" "I") (by decide +kernel)) (fun _ h => h) rfl dX12_layTables_48 ?_
    refine icmp_ge_f hx hb dX12_layTables_51 122 (by decide) (by decide) ?_
    refine lv_iconst (v := 0) hx hb dX12_layTables_54 (by decide) ?_
    refine lv_istore_n (lv' := [(3, .int 0), (2, .int 0), (0, .ref y), (1, .int 1)]) hx hb dX12_layTables_55 rfl hl (by decide) rfl (fun ls hl => ?_)
    refine lv_iload_n hx hb dX12_layTables_56 rfl (lv_at hl 0 rfl) ?_
    refine lv_iconst (v := 3) hx hb dX12_layTables_57 (by decide) ?_
    refine icmp_ge_f hx hb dX12_layTables_58 116 (by decide) (by decide) ?_
    refine lv_aload_n hx hb dX12_layTables_61 rfl (lv_at hl 2 rfl) ?_
    refine lv_iload_n hx hb dX12_layTables_62 rfl (lv_at hl 3 rfl) ?_
    refine lv_aload_n hx hb dX12_layTables_63 rfl (lv_at hl 2 rfl) ?_
    refine va_get (C := RX12) (T := TX12) (N := 43) (v := .ref (qq 27)) hx hb hts hi_X12_layTables_X12 hown hK hP 4 rfl rfl 27 (by decide) (hts (.fieldLink RX12 56 "BothWaysModel" "kinds" "[J") (by decide +kernel)) (fun _ h => h) rfl dX12_layTables_64 ?_
    refine lv_iload_n hx hb dX12_layTables_67 rfl (lv_at hl 1 rfl) ?_
    refine w_lald (v := 10485770) hx hb hK hP 5 rfl dX12_layTables_68 (inC (by decide)) (by decide) ?_
    refine lv_aload_n hx hb dX12_layTables_69 rfl (lv_at hl 2 rfl) ?_
    refine lv_iload_n hx hb dX12_layTables_70 rfl (lv_at hl 3 rfl) ?_
    refine lv_iload_n hx hb dX12_layTables_71 rfl (lv_at hl 0 rfl) ?_
    refine cj_l 0 0 (wr := [((qq 28), .inl (cT 0, 4001, .inl (upd (fun _ => 0) 0 (-1)))), ((qq 29), .inl (cT 0, 4001, .inl (fun _ => 0))), ((qq 27), .inl (cT 1, 4001, .inr (.inl (vp_updL (fun _ => 0) 0 10485770))))]) (va_runV (As := [.int 1, .int 0]) (rest := [.long 10485770, .int 1, .ref y]) ⟨hx, hb, hml, hown, hts⟩ (c_M_letterTable_1_0 l g cT H.size y qq z6 z12 z14 z15 z16 z17 z19 z21 z22 z23 z24 z26 1) (cwV 2 hts gX12_layTables_X12_letterTable rfl rfl rfl yd_X12_letterTable ⟨(Nat.le_of_ble_eq_true rfl), (Nat.le_of_ble_eq_true rfl)⟩) (preV (wc := [(y, .inr (12, [.ref (qq 0), .ref (qq 1), .ref (qq 2), .ref (qq 3), .ref (qq 4), .ref (qq 5), .int z6, .ref (qq 7), .ref (qq 8), .ref (qq 9), .ref (qq 10), .ref (qq 11), .int z12, .ref (qq 13), .int z14, .int z15, .int z16, .int z17, .ref (qq 18), .int z19, .ref (qq 20), .int z21, .int z22, .int z23, .int z24, .ref (qq 25), .int z26, .ref (qq 27), .ref (qq 28), .ref (qq 29), .int 1, .ref (qq 31), .ref (qq 32), .ref (qq 33), .ref (qq 34), .ref (qq 35), .ref (qq 36), .ref (qq 37), .ref (qq 38), .ref (qq 39), .ref (qq 40), .ref (qq 41), .ref (qq 42)])), ((qq 0), .inl (cT 0, 2, .inl (fun _ => 1))), ((qq 2), .inl (cT 0, 50, .inl (fun _ => (-1))))]) rfl hP hD hK hN hZ hS hA [4, 2, 3] rfl (by decide) (ci := 12) (q0 := 4) rfl rfl) rfl rfl hl.1 rfl (lv_room (Nat.le_of_ble_eq_true rfl)) dX12_layTables_72 ⟨(Nat.le_of_ble_eq_true rfl), (Nat.le_of_ble_eq_true rfl)⟩) hP hD hS hA [4, 2, 3] [0, 1, 5] rfl rfl (by decide) (by decide) (Nat.le_of_ble_eq_true rfl) (Nat.le_of_ble_eq_true rfl) (fun r_17 u H locs h_18 hP hD hS => ?_)
    have hP : va_P g vwCl [((qq 28), .inl (cT 0, 4001, .inl (upd (fun _ => 0) 0 (-1)))), ((qq 29), .inl (cT 0, 4001, .inl (fun _ => 0))), ((qq 27), .inl (cT 1, 4001, .inr (.inl (vp_updL (fun _ => 0) 0 10485770)))), (y, .inr (12, [.ref (qq 0), .ref (qq 1), .ref (qq 2), .ref (qq 3), .ref (qq 4), .ref (qq 5), .int z6, .ref (qq 7), .ref (qq 8), .ref (qq 9), .ref (qq 10), .ref (qq 11), .int z12, .ref (qq 13), .int z14, .int z15, .int z16, .int z17, .ref (qq 18), .int z19, .ref (qq 20), .int z21, .int z22, .int z23, .int z24, .ref (qq 25), .int z26, .ref (qq 27), .ref (qq 28), .ref (qq 29), .int 1, .ref (qq 31), .ref (qq 32), .ref (qq 33), .ref (qq 34), .ref (qq 35), .ref (qq 36), .ref (qq 37), .ref (qq 38), .ref (qq 39), .ref (qq 40), .ref (qq 41), .ref (qq 42)])), ((qq 0), .inl (cT 0, 2, .inl (fun _ => 1))), ((qq 2), .inl (cT 0, 50, .inl (fun _ => (-1))))] H := hP
    have hD : va_D A [((qq 28), .inl (cT 0, 4001, .inl (upd (fun _ => 0) 0 (-1)))), ((qq 29), .inl (cT 0, 4001, .inl (fun _ => 0))), ((qq 27), .inl (cT 1, 4001, .inr (.inl (vp_updL (fun _ => 0) 0 10485770)))), (y, .inr (12, [.ref (qq 0), .ref (qq 1), .ref (qq 2), .ref (qq 3), .ref (qq 4), .ref (qq 5), .int z6, .ref (qq 7), .ref (qq 8), .ref (qq 9), .ref (qq 10), .ref (qq 11), .int z12, .ref (qq 13), .int z14, .int z15, .int z16, .int z17, .ref (qq 18), .int z19, .ref (qq 20), .int z21, .int z22, .int z23, .int z24, .ref (qq 25), .int z26, .ref (qq 27), .ref (qq 28), .ref (qq 29), .int 1, .ref (qq 31), .ref (qq 32), .ref (qq 33), .ref (qq 34), .ref (qq 35), .ref (qq 36), .ref (qq 37), .ref (qq 38), .ref (qq 39), .ref (qq 40), .ref (qq 41), .ref (qq 42)])), ((qq 0), .inl (cT 0, 2, .inl (fun _ => 1))), ((qq 2), .inl (cT 0, 50, .inl (fun _ => (-1))))] := hD
    subst h_18
    refine cj_l 0 0 (wr := [((qq 28), .inl (cT 0, 4001, .inl (upd (fun _ => 0) 0 (-1)))), ((qq 29), .inl (cT 0, 4001, .inl (fun _ => 0))), ((qq 27), .inl (cT 1, 4001, .inr (.inl (vp_updL (fun _ => 0) 0 10485770)))), ((qq 2), .inl (cT 0, 50, .inl (fun _ => (-1))))]) (va_runV (As := [.int 1, .long 10485770, .long 10485770]) (rest := []) ⟨hx, hb, hml, hown, hts⟩ (c_M_join_1 l g cT H.size y qq z6 z12 z14 z15 z16 z17 z19 z21 z22 z23 z24 z26 1) (cwV 3 hts gX12_layTables_X12_join rfl rfl rfl yd_X12_join ⟨(Nat.le_of_ble_eq_true rfl), (Nat.le_of_ble_eq_true rfl)⟩) (preV (wc := [(y, .inr (12, [.ref (qq 0), .ref (qq 1), .ref (qq 2), .ref (qq 3), .ref (qq 4), .ref (qq 5), .int z6, .ref (qq 7), .ref (qq 8), .ref (qq 9), .ref (qq 10), .ref (qq 11), .int z12, .ref (qq 13), .int z14, .int z15, .int z16, .int z17, .ref (qq 18), .int z19, .ref (qq 20), .int z21, .int z22, .int z23, .int z24, .ref (qq 25), .int z26, .ref (qq 27), .ref (qq 28), .ref (qq 29), .int 1, .ref (qq 31), .ref (qq 32), .ref (qq 33), .ref (qq 34), .ref (qq 35), .ref (qq 36), .ref (qq 37), .ref (qq 38), .ref (qq 39), .ref (qq 40), .ref (qq 41), .ref (qq 42)])), ((qq 0), .inl (cT 0, 2, .inl (fun _ => 1)))]) rfl hP hD hK hN hZ hS hA [3, 4] rfl (by decide) (ci := 12) (q0 := 3) rfl rfl) rfl rfl hl.1 rfl (lv_room (Nat.le_of_ble_eq_true rfl)) dX12_layTables_75 ⟨(Nat.le_of_ble_eq_true rfl), (Nat.le_of_ble_eq_true rfl)⟩) hP hD hS hA [3, 4] [0, 1, 2, 5] rfl rfl (by decide) (by decide) (Nat.le_of_ble_eq_true rfl) (Nat.le_of_ble_eq_true rfl) (fun r_19 u H locs h_20 hP hD hS => ?_)
    have hP : va_P g vwCl [((qq 28), .inl (cT 0, 4001, .inl (upd (fun _ => 0) 0 (-1)))), ((qq 29), .inl (cT 0, 4001, .inl (fun _ => 0))), ((qq 27), .inl (cT 1, 4001, .inr (.inl (vp_updL (fun _ => 0) 0 10485770)))), ((qq 2), .inl (cT 0, 50, .inl (fun _ => (-1)))), (y, .inr (12, [.ref (qq 0), .ref (qq 1), .ref (qq 2), .ref (qq 3), .ref (qq 4), .ref (qq 5), .int z6, .ref (qq 7), .ref (qq 8), .ref (qq 9), .ref (qq 10), .ref (qq 11), .int z12, .ref (qq 13), .int z14, .int z15, .int z16, .int z17, .ref (qq 18), .int z19, .ref (qq 20), .int z21, .int z22, .int z23, .int z24, .ref (qq 25), .int z26, .ref (qq 27), .ref (qq 28), .ref (qq 29), .int 1, .ref (qq 31), .ref (qq 32), .ref (qq 33), .ref (qq 34), .ref (qq 35), .ref (qq 36), .ref (qq 37), .ref (qq 38), .ref (qq 39), .ref (qq 40), .ref (qq 41), .ref (qq 42)])), ((qq 0), .inl (cT 0, 2, .inl (fun _ => 1)))] H := hP
    have hD : va_D A [((qq 28), .inl (cT 0, 4001, .inl (upd (fun _ => 0) 0 (-1)))), ((qq 29), .inl (cT 0, 4001, .inl (fun _ => 0))), ((qq 27), .inl (cT 1, 4001, .inr (.inl (vp_updL (fun _ => 0) 0 10485770)))), ((qq 2), .inl (cT 0, 50, .inl (fun _ => (-1)))), (y, .inr (12, [.ref (qq 0), .ref (qq 1), .ref (qq 2), .ref (qq 3), .ref (qq 4), .ref (qq 5), .int z6, .ref (qq 7), .ref (qq 8), .ref (qq 9), .ref (qq 10), .ref (qq 11), .int z12, .ref (qq 13), .int z14, .int z15, .int z16, .int z17, .ref (qq 18), .int z19, .ref (qq 20), .int z21, .int z22, .int z23, .int z24, .ref (qq 25), .int z26, .ref (qq 27), .ref (qq 28), .ref (qq 29), .int 1, .ref (qq 31), .ref (qq 32), .ref (qq 33), .ref (qq 34), .ref (qq 35), .ref (qq 36), .ref (qq 37), .ref (qq 38), .ref (qq 39), .ref (qq 40), .ref (qq 41), .ref (qq 42)])), ((qq 0), .inl (cT 0, 2, .inl (fun _ => 1)))] := hD
    subst h_20
    refine lv_lstore (lv' := [(4, .long 10485770), (3, .int 0), (2, .int 0), (0, .ref y), (1, .int 1)]) hx hb dX12_layTables_78 hl (by decide) rfl (fun ls hl => ?_)
    refine lv_aload_n hx hb dX12_layTables_80 rfl (lv_at hl 3 rfl) ?_
    refine lv_lload hx hb dX12_layTables_81 (lv_at hl 0 rfl) ?_
    refine cj_i 0 0 (wr := [((qq 28), .inl (cT 0, 4001, .inl (upd (fun _ => 0) 0 (-1)))), ((qq 29), .inl (cT 0, 4001, .inl (fun _ => 0))), ((qq 2), .inl (cT 0, 50, .inl (fun _ => (-1)))), ((qq 0), .inl (cT 0, 2, .inl (fun _ => 1)))]) (va_runV (As := [.long 10485770]) (rest := []) ⟨hx, hb, hml, hown, hts⟩ (c_M_kindOf_1 l g cT H.size y qq z6 z12 z14 z15 z16 z17 z19 z21 z22 z23 z24 z26) (cwV 1 hts gX12_layTables_X12_kindOf rfl rfl rfl yd_X12_kindOf ⟨(Nat.le_of_ble_eq_true rfl), (Nat.le_of_ble_eq_true rfl)⟩) (preV (wc := [(y, .inr (12, [.ref (qq 0), .ref (qq 1), .ref (qq 2), .ref (qq 3), .ref (qq 4), .ref (qq 5), .int z6, .ref (qq 7), .ref (qq 8), .ref (qq 9), .ref (qq 10), .ref (qq 11), .int z12, .ref (qq 13), .int z14, .int z15, .int z16, .int z17, .ref (qq 18), .int z19, .ref (qq 20), .int z21, .int z22, .int z23, .int z24, .ref (qq 25), .int z26, .ref (qq 27), .ref (qq 28), .ref (qq 29), .int 1, .ref (qq 31), .ref (qq 32), .ref (qq 33), .ref (qq 34), .ref (qq 35), .ref (qq 36), .ref (qq 37), .ref (qq 38), .ref (qq 39), .ref (qq 40), .ref (qq 41), .ref (qq 42)])), ((qq 27), .inl (cT 1, 4001, .inr (.inl (vp_updL (fun _ => 0) 0 10485770))))]) rfl hP hD hK hN hZ hS hA [4, 2] rfl (by decide) (ci := 12) (q0 := 4) rfl rfl) rfl rfl hl.1 rfl (lv_room (Nat.le_of_ble_eq_true rfl)) dX12_layTables_83 ⟨(Nat.le_of_ble_eq_true rfl), (Nat.le_of_ble_eq_true rfl)⟩) hP hD hS hA [4, 2] [0, 1, 3, 5] rfl rfl (by decide) (by decide) (Nat.le_of_ble_eq_true rfl) (Nat.le_of_ble_eq_true rfl) (fun r_21 u H locs h_22 hP hD hS => ?_)
    have hP : va_P g vwCl [((qq 28), .inl (cT 0, 4001, .inl (upd (fun _ => 0) 0 (-1)))), ((qq 29), .inl (cT 0, 4001, .inl (fun _ => 0))), ((qq 2), .inl (cT 0, 50, .inl (fun _ => (-1)))), ((qq 0), .inl (cT 0, 2, .inl (fun _ => 1))), (y, .inr (12, [.ref (qq 0), .ref (qq 1), .ref (qq 2), .ref (qq 3), .ref (qq 4), .ref (qq 5), .int z6, .ref (qq 7), .ref (qq 8), .ref (qq 9), .ref (qq 10), .ref (qq 11), .int z12, .ref (qq 13), .int z14, .int z15, .int z16, .int z17, .ref (qq 18), .int z19, .ref (qq 20), .int z21, .int z22, .int z23, .int z24, .ref (qq 25), .int z26, .ref (qq 27), .ref (qq 28), .ref (qq 29), .int 1, .ref (qq 31), .ref (qq 32), .ref (qq 33), .ref (qq 34), .ref (qq 35), .ref (qq 36), .ref (qq 37), .ref (qq 38), .ref (qq 39), .ref (qq 40), .ref (qq 41), .ref (qq 42)])), ((qq 27), .inl (cT 1, 4001, .inr (.inl (vp_updL (fun _ => 0) 0 10485770))))] H := hP
    have hD : va_D A [((qq 28), .inl (cT 0, 4001, .inl (upd (fun _ => 0) 0 (-1)))), ((qq 29), .inl (cT 0, 4001, .inl (fun _ => 0))), ((qq 2), .inl (cT 0, 50, .inl (fun _ => (-1)))), ((qq 0), .inl (cT 0, 2, .inl (fun _ => 1))), (y, .inr (12, [.ref (qq 0), .ref (qq 1), .ref (qq 2), .ref (qq 3), .ref (qq 4), .ref (qq 5), .int z6, .ref (qq 7), .ref (qq 8), .ref (qq 9), .ref (qq 10), .ref (qq 11), .int z12, .ref (qq 13), .int z14, .int z15, .int z16, .int z17, .ref (qq 18), .int z19, .ref (qq 20), .int z21, .int z22, .int z23, .int z24, .ref (qq 25), .int z26, .ref (qq 27), .ref (qq 28), .ref (qq 29), .int 1, .ref (qq 31), .ref (qq 32), .ref (qq 33), .ref (qq 34), .ref (qq 35), .ref (qq 36), .ref (qq 37), .ref (qq 38), .ref (qq 39), .ref (qq 40), .ref (qq 41), .ref (qq 42)])), ((qq 27), .inl (cT 1, 4001, .inr (.inl (vp_updL (fun _ => 0) 0 10485770))))] := hD
    subst h_22
    refine lv_iconst (v := (-1)) hx hb dX12_layTables_86 (by decide) ?_
    refine icmp_ne_t hx hb 110 dX12_layTables_87 (by decide) (by decide) ?_
    refine lv_iinc (v := 1) (lv' := [(3, .int 1), (4, .long 10485770), (2, .int 0), (0, .ref y), (1, .int 1)]) hx hb dX12_layTables_110 hl (k := 1) rfl (by decide) (by decide) rfl (fun ls hl => ?_)
    refine lv_goto (tgt := 56) hx hb dX12_layTables_113 (by decide) ?_
    refine lv_iload_n hx hb dX12_layTables_56 rfl (lv_at hl 0 rfl) ?_
    refine lv_iconst (v := 3) hx hb dX12_layTables_57 (by decide) ?_
    refine icmp_ge_f hx hb dX12_layTables_58 116 (by decide) (by decide) ?_
    refine lv_aload_n hx hb dX12_layTables_61 rfl (lv_at hl 3 rfl) ?_
    refine lv_iload_n hx hb dX12_layTables_62 rfl (lv_at hl 4 rfl) ?_
    refine lv_aload_n hx hb dX12_layTables_63 rfl (lv_at hl 3 rfl) ?_
    refine va_get (C := RX12) (T := TX12) (N := 43) (v := .ref (qq 27)) hx hb hts hi_X12_layTables_X12 hown hK hP 4 rfl rfl 27 (by decide) (hts (.fieldLink RX12 56 "BothWaysModel" "kinds" "[J") (by decide +kernel)) (fun _ h => h) rfl dX12_layTables_64 ?_
    refine lv_iload_n hx hb dX12_layTables_67 rfl (lv_at hl 2 rfl) ?_
    refine w_lald (v := 10485770) hx hb hK hP 5 rfl dX12_layTables_68 (inC (by decide)) (by decide) ?_
    refine lv_aload_n hx hb dX12_layTables_69 rfl (lv_at hl 3 rfl) ?_
    refine lv_iload_n hx hb dX12_layTables_70 rfl (lv_at hl 4 rfl) ?_
    refine lv_iload_n hx hb dX12_layTables_71 rfl (lv_at hl 0 rfl) ?_
    refine cj_l 0 0 (wr := [((qq 28), .inl (cT 0, 4001, .inl (upd (fun _ => 0) 0 (-1)))), ((qq 29), .inl (cT 0, 4001, .inl (fun _ => 0))), ((qq 27), .inl (cT 1, 4001, .inr (.inl (vp_updL (fun _ => 0) 0 10485770))))]) (va_runV (As := [.int 1, .int 1]) (rest := [.long 10485770, .int 1, .ref y]) ⟨hx, hb, hml, hown, hts⟩ (c_M_letterTable_1_1 l g cT H.size y qq z6 z12 z14 z15 z16 z17 z19 z21 z22 z23 z24 z26 1) (cwV 2 hts gX12_layTables_X12_letterTable rfl rfl rfl yd_X12_letterTable ⟨(Nat.le_of_ble_eq_true rfl), (Nat.le_of_ble_eq_true rfl)⟩) (preV (wc := [(y, .inr (12, [.ref (qq 0), .ref (qq 1), .ref (qq 2), .ref (qq 3), .ref (qq 4), .ref (qq 5), .int z6, .ref (qq 7), .ref (qq 8), .ref (qq 9), .ref (qq 10), .ref (qq 11), .int z12, .ref (qq 13), .int z14, .int z15, .int z16, .int z17, .ref (qq 18), .int z19, .ref (qq 20), .int z21, .int z22, .int z23, .int z24, .ref (qq 25), .int z26, .ref (qq 27), .ref (qq 28), .ref (qq 29), .int 1, .ref (qq 31), .ref (qq 32), .ref (qq 33), .ref (qq 34), .ref (qq 35), .ref (qq 36), .ref (qq 37), .ref (qq 38), .ref (qq 39), .ref (qq 40), .ref (qq 41), .ref (qq 42)])), ((qq 0), .inl (cT 0, 2, .inl (fun _ => 1))), ((qq 2), .inl (cT 0, 50, .inl (fun _ => (-1))))]) rfl hP hD hK hN hZ hS hA [4, 3, 2] rfl (by decide) (ci := 12) (q0 := 4) rfl rfl) rfl rfl hl.1 rfl (lv_room (Nat.le_of_ble_eq_true rfl)) dX12_layTables_72 ⟨(Nat.le_of_ble_eq_true rfl), (Nat.le_of_ble_eq_true rfl)⟩) hP hD hS hA [4, 3, 2] [0, 1, 5] rfl rfl (by decide) (by decide) (Nat.le_of_ble_eq_true rfl) (Nat.le_of_ble_eq_true rfl) (fun r_23 u H locs h_24 hP hD hS => ?_)
    have hP : va_P g vwCl [((qq 28), .inl (cT 0, 4001, .inl (upd (fun _ => 0) 0 (-1)))), ((qq 29), .inl (cT 0, 4001, .inl (fun _ => 0))), ((qq 27), .inl (cT 1, 4001, .inr (.inl (vp_updL (fun _ => 0) 0 10485770)))), (y, .inr (12, [.ref (qq 0), .ref (qq 1), .ref (qq 2), .ref (qq 3), .ref (qq 4), .ref (qq 5), .int z6, .ref (qq 7), .ref (qq 8), .ref (qq 9), .ref (qq 10), .ref (qq 11), .int z12, .ref (qq 13), .int z14, .int z15, .int z16, .int z17, .ref (qq 18), .int z19, .ref (qq 20), .int z21, .int z22, .int z23, .int z24, .ref (qq 25), .int z26, .ref (qq 27), .ref (qq 28), .ref (qq 29), .int 1, .ref (qq 31), .ref (qq 32), .ref (qq 33), .ref (qq 34), .ref (qq 35), .ref (qq 36), .ref (qq 37), .ref (qq 38), .ref (qq 39), .ref (qq 40), .ref (qq 41), .ref (qq 42)])), ((qq 0), .inl (cT 0, 2, .inl (fun _ => 1))), ((qq 2), .inl (cT 0, 50, .inl (fun _ => (-1))))] H := hP
    have hD : va_D A [((qq 28), .inl (cT 0, 4001, .inl (upd (fun _ => 0) 0 (-1)))), ((qq 29), .inl (cT 0, 4001, .inl (fun _ => 0))), ((qq 27), .inl (cT 1, 4001, .inr (.inl (vp_updL (fun _ => 0) 0 10485770)))), (y, .inr (12, [.ref (qq 0), .ref (qq 1), .ref (qq 2), .ref (qq 3), .ref (qq 4), .ref (qq 5), .int z6, .ref (qq 7), .ref (qq 8), .ref (qq 9), .ref (qq 10), .ref (qq 11), .int z12, .ref (qq 13), .int z14, .int z15, .int z16, .int z17, .ref (qq 18), .int z19, .ref (qq 20), .int z21, .int z22, .int z23, .int z24, .ref (qq 25), .int z26, .ref (qq 27), .ref (qq 28), .ref (qq 29), .int 1, .ref (qq 31), .ref (qq 32), .ref (qq 33), .ref (qq 34), .ref (qq 35), .ref (qq 36), .ref (qq 37), .ref (qq 38), .ref (qq 39), .ref (qq 40), .ref (qq 41), .ref (qq 42)])), ((qq 0), .inl (cT 0, 2, .inl (fun _ => 1))), ((qq 2), .inl (cT 0, 50, .inl (fun _ => (-1))))] := hD
    subst h_24
    refine cj_l 0 0 (wr := [((qq 28), .inl (cT 0, 4001, .inl (upd (fun _ => 0) 0 (-1)))), ((qq 29), .inl (cT 0, 4001, .inl (fun _ => 0))), ((qq 27), .inl (cT 1, 4001, .inr (.inl (vp_updL (fun _ => 0) 0 10485770)))), ((qq 2), .inl (cT 0, 50, .inl (fun _ => (-1))))]) (va_runV (As := [.int 1, .long 10485770, .long 10485770]) (rest := []) ⟨hx, hb, hml, hown, hts⟩ (c_M_join_1 l g cT H.size y qq z6 z12 z14 z15 z16 z17 z19 z21 z22 z23 z24 z26 1) (cwV 3 hts gX12_layTables_X12_join rfl rfl rfl yd_X12_join ⟨(Nat.le_of_ble_eq_true rfl), (Nat.le_of_ble_eq_true rfl)⟩) (preV (wc := [(y, .inr (12, [.ref (qq 0), .ref (qq 1), .ref (qq 2), .ref (qq 3), .ref (qq 4), .ref (qq 5), .int z6, .ref (qq 7), .ref (qq 8), .ref (qq 9), .ref (qq 10), .ref (qq 11), .int z12, .ref (qq 13), .int z14, .int z15, .int z16, .int z17, .ref (qq 18), .int z19, .ref (qq 20), .int z21, .int z22, .int z23, .int z24, .ref (qq 25), .int z26, .ref (qq 27), .ref (qq 28), .ref (qq 29), .int 1, .ref (qq 31), .ref (qq 32), .ref (qq 33), .ref (qq 34), .ref (qq 35), .ref (qq 36), .ref (qq 37), .ref (qq 38), .ref (qq 39), .ref (qq 40), .ref (qq 41), .ref (qq 42)])), ((qq 0), .inl (cT 0, 2, .inl (fun _ => 1)))]) rfl hP hD hK hN hZ hS hA [3, 4] rfl (by decide) (ci := 12) (q0 := 3) rfl rfl) rfl rfl hl.1 rfl (lv_room (Nat.le_of_ble_eq_true rfl)) dX12_layTables_75 ⟨(Nat.le_of_ble_eq_true rfl), (Nat.le_of_ble_eq_true rfl)⟩) hP hD hS hA [3, 4] [0, 1, 2, 5] rfl rfl (by decide) (by decide) (Nat.le_of_ble_eq_true rfl) (Nat.le_of_ble_eq_true rfl) (fun r_25 u H locs h_26 hP hD hS => ?_)
    have hP : va_P g vwCl [((qq 28), .inl (cT 0, 4001, .inl (upd (fun _ => 0) 0 (-1)))), ((qq 29), .inl (cT 0, 4001, .inl (fun _ => 0))), ((qq 27), .inl (cT 1, 4001, .inr (.inl (vp_updL (fun _ => 0) 0 10485770)))), ((qq 2), .inl (cT 0, 50, .inl (fun _ => (-1)))), (y, .inr (12, [.ref (qq 0), .ref (qq 1), .ref (qq 2), .ref (qq 3), .ref (qq 4), .ref (qq 5), .int z6, .ref (qq 7), .ref (qq 8), .ref (qq 9), .ref (qq 10), .ref (qq 11), .int z12, .ref (qq 13), .int z14, .int z15, .int z16, .int z17, .ref (qq 18), .int z19, .ref (qq 20), .int z21, .int z22, .int z23, .int z24, .ref (qq 25), .int z26, .ref (qq 27), .ref (qq 28), .ref (qq 29), .int 1, .ref (qq 31), .ref (qq 32), .ref (qq 33), .ref (qq 34), .ref (qq 35), .ref (qq 36), .ref (qq 37), .ref (qq 38), .ref (qq 39), .ref (qq 40), .ref (qq 41), .ref (qq 42)])), ((qq 0), .inl (cT 0, 2, .inl (fun _ => 1)))] H := hP
    have hD : va_D A [((qq 28), .inl (cT 0, 4001, .inl (upd (fun _ => 0) 0 (-1)))), ((qq 29), .inl (cT 0, 4001, .inl (fun _ => 0))), ((qq 27), .inl (cT 1, 4001, .inr (.inl (vp_updL (fun _ => 0) 0 10485770)))), ((qq 2), .inl (cT 0, 50, .inl (fun _ => (-1)))), (y, .inr (12, [.ref (qq 0), .ref (qq 1), .ref (qq 2), .ref (qq 3), .ref (qq 4), .ref (qq 5), .int z6, .ref (qq 7), .ref (qq 8), .ref (qq 9), .ref (qq 10), .ref (qq 11), .int z12, .ref (qq 13), .int z14, .int z15, .int z16, .int z17, .ref (qq 18), .int z19, .ref (qq 20), .int z21, .int z22, .int z23, .int z24, .ref (qq 25), .int z26, .ref (qq 27), .ref (qq 28), .ref (qq 29), .int 1, .ref (qq 31), .ref (qq 32), .ref (qq 33), .ref (qq 34), .ref (qq 35), .ref (qq 36), .ref (qq 37), .ref (qq 38), .ref (qq 39), .ref (qq 40), .ref (qq 41), .ref (qq 42)])), ((qq 0), .inl (cT 0, 2, .inl (fun _ => 1)))] := hD
    subst h_26
    refine lv_lstore (lv' := [(4, .long 10485770), (3, .int 1), (2, .int 0), (0, .ref y), (1, .int 1)]) hx hb dX12_layTables_78 hl (by decide) rfl (fun ls hl => ?_)
    refine lv_aload_n hx hb dX12_layTables_80 rfl (lv_at hl 3 rfl) ?_
    refine lv_lload hx hb dX12_layTables_81 (lv_at hl 0 rfl) ?_
    refine cj_i 0 0 (wr := [((qq 28), .inl (cT 0, 4001, .inl (upd (fun _ => 0) 0 (-1)))), ((qq 29), .inl (cT 0, 4001, .inl (fun _ => 0))), ((qq 2), .inl (cT 0, 50, .inl (fun _ => (-1)))), ((qq 0), .inl (cT 0, 2, .inl (fun _ => 1)))]) (va_runV (As := [.long 10485770]) (rest := []) ⟨hx, hb, hml, hown, hts⟩ (c_M_kindOf_1 l g cT H.size y qq z6 z12 z14 z15 z16 z17 z19 z21 z22 z23 z24 z26) (cwV 1 hts gX12_layTables_X12_kindOf rfl rfl rfl yd_X12_kindOf ⟨(Nat.le_of_ble_eq_true rfl), (Nat.le_of_ble_eq_true rfl)⟩) (preV (wc := [(y, .inr (12, [.ref (qq 0), .ref (qq 1), .ref (qq 2), .ref (qq 3), .ref (qq 4), .ref (qq 5), .int z6, .ref (qq 7), .ref (qq 8), .ref (qq 9), .ref (qq 10), .ref (qq 11), .int z12, .ref (qq 13), .int z14, .int z15, .int z16, .int z17, .ref (qq 18), .int z19, .ref (qq 20), .int z21, .int z22, .int z23, .int z24, .ref (qq 25), .int z26, .ref (qq 27), .ref (qq 28), .ref (qq 29), .int 1, .ref (qq 31), .ref (qq 32), .ref (qq 33), .ref (qq 34), .ref (qq 35), .ref (qq 36), .ref (qq 37), .ref (qq 38), .ref (qq 39), .ref (qq 40), .ref (qq 41), .ref (qq 42)])), ((qq 27), .inl (cT 1, 4001, .inr (.inl (vp_updL (fun _ => 0) 0 10485770))))]) rfl hP hD hK hN hZ hS hA [4, 2] rfl (by decide) (ci := 12) (q0 := 4) rfl rfl) rfl rfl hl.1 rfl (lv_room (Nat.le_of_ble_eq_true rfl)) dX12_layTables_83 ⟨(Nat.le_of_ble_eq_true rfl), (Nat.le_of_ble_eq_true rfl)⟩) hP hD hS hA [4, 2] [0, 1, 3, 5] rfl rfl (by decide) (by decide) (Nat.le_of_ble_eq_true rfl) (Nat.le_of_ble_eq_true rfl) (fun r_27 u H locs h_28 hP hD hS => ?_)
    have hP : va_P g vwCl [((qq 28), .inl (cT 0, 4001, .inl (upd (fun _ => 0) 0 (-1)))), ((qq 29), .inl (cT 0, 4001, .inl (fun _ => 0))), ((qq 2), .inl (cT 0, 50, .inl (fun _ => (-1)))), ((qq 0), .inl (cT 0, 2, .inl (fun _ => 1))), (y, .inr (12, [.ref (qq 0), .ref (qq 1), .ref (qq 2), .ref (qq 3), .ref (qq 4), .ref (qq 5), .int z6, .ref (qq 7), .ref (qq 8), .ref (qq 9), .ref (qq 10), .ref (qq 11), .int z12, .ref (qq 13), .int z14, .int z15, .int z16, .int z17, .ref (qq 18), .int z19, .ref (qq 20), .int z21, .int z22, .int z23, .int z24, .ref (qq 25), .int z26, .ref (qq 27), .ref (qq 28), .ref (qq 29), .int 1, .ref (qq 31), .ref (qq 32), .ref (qq 33), .ref (qq 34), .ref (qq 35), .ref (qq 36), .ref (qq 37), .ref (qq 38), .ref (qq 39), .ref (qq 40), .ref (qq 41), .ref (qq 42)])), ((qq 27), .inl (cT 1, 4001, .inr (.inl (vp_updL (fun _ => 0) 0 10485770))))] H := hP
    have hD : va_D A [((qq 28), .inl (cT 0, 4001, .inl (upd (fun _ => 0) 0 (-1)))), ((qq 29), .inl (cT 0, 4001, .inl (fun _ => 0))), ((qq 2), .inl (cT 0, 50, .inl (fun _ => (-1)))), ((qq 0), .inl (cT 0, 2, .inl (fun _ => 1))), (y, .inr (12, [.ref (qq 0), .ref (qq 1), .ref (qq 2), .ref (qq 3), .ref (qq 4), .ref (qq 5), .int z6, .ref (qq 7), .ref (qq 8), .ref (qq 9), .ref (qq 10), .ref (qq 11), .int z12, .ref (qq 13), .int z14, .int z15, .int z16, .int z17, .ref (qq 18), .int z19, .ref (qq 20), .int z21, .int z22, .int z23, .int z24, .ref (qq 25), .int z26, .ref (qq 27), .ref (qq 28), .ref (qq 29), .int 1, .ref (qq 31), .ref (qq 32), .ref (qq 33), .ref (qq 34), .ref (qq 35), .ref (qq 36), .ref (qq 37), .ref (qq 38), .ref (qq 39), .ref (qq 40), .ref (qq 41), .ref (qq 42)])), ((qq 27), .inl (cT 1, 4001, .inr (.inl (vp_updL (fun _ => 0) 0 10485770))))] := hD
    subst h_28
    refine lv_iconst (v := (-1)) hx hb dX12_layTables_86 (by decide) ?_
    refine icmp_ne_t hx hb 110 dX12_layTables_87 (by decide) (by decide) ?_
    refine lv_iinc (v := 2) (lv' := [(3, .int 2), (4, .long 10485770), (2, .int 0), (0, .ref y), (1, .int 1)]) hx hb dX12_layTables_110 hl (k := 1) rfl (by decide) (by decide) rfl (fun ls hl => ?_)
    refine lv_goto (tgt := 56) hx hb dX12_layTables_113 (by decide) ?_
    refine lv_iload_n hx hb dX12_layTables_56 rfl (lv_at hl 0 rfl) ?_
    refine lv_iconst (v := 3) hx hb dX12_layTables_57 (by decide) ?_
    refine icmp_ge_f hx hb dX12_layTables_58 116 (by decide) (by decide) ?_
    refine lv_aload_n hx hb dX12_layTables_61 rfl (lv_at hl 3 rfl) ?_
    refine lv_iload_n hx hb dX12_layTables_62 rfl (lv_at hl 4 rfl) ?_
    refine lv_aload_n hx hb dX12_layTables_63 rfl (lv_at hl 3 rfl) ?_
    refine va_get (C := RX12) (T := TX12) (N := 43) (v := .ref (qq 27)) hx hb hts hi_X12_layTables_X12 hown hK hP 4 rfl rfl 27 (by decide) (hts (.fieldLink RX12 56 "BothWaysModel" "kinds" "[J") (by decide +kernel)) (fun _ h => h) rfl dX12_layTables_64 ?_
    refine lv_iload_n hx hb dX12_layTables_67 rfl (lv_at hl 2 rfl) ?_
    refine w_lald (v := 10485770) hx hb hK hP 5 rfl dX12_layTables_68 (inC (by decide)) (by decide) ?_
    refine lv_aload_n hx hb dX12_layTables_69 rfl (lv_at hl 3 rfl) ?_
    refine lv_iload_n hx hb dX12_layTables_70 rfl (lv_at hl 4 rfl) ?_
    refine lv_iload_n hx hb dX12_layTables_71 rfl (lv_at hl 0 rfl) ?_
    refine cj_l 0 0 (wr := [((qq 28), .inl (cT 0, 4001, .inl (upd (fun _ => 0) 0 (-1)))), ((qq 29), .inl (cT 0, 4001, .inl (fun _ => 0))), ((qq 27), .inl (cT 1, 4001, .inr (.inl (vp_updL (fun _ => 0) 0 10485770))))]) (va_runV (As := [.int 1, .int 2]) (rest := [.long 10485770, .int 1, .ref y]) ⟨hx, hb, hml, hown, hts⟩ (c_M_letterTable_1_2 l g cT H.size y qq z6 z12 z14 z15 z16 z17 z19 z21 z22 z23 z24 z26 1) (cwV 2 hts gX12_layTables_X12_letterTable rfl rfl rfl yd_X12_letterTable ⟨(Nat.le_of_ble_eq_true rfl), (Nat.le_of_ble_eq_true rfl)⟩) (preV (wc := [(y, .inr (12, [.ref (qq 0), .ref (qq 1), .ref (qq 2), .ref (qq 3), .ref (qq 4), .ref (qq 5), .int z6, .ref (qq 7), .ref (qq 8), .ref (qq 9), .ref (qq 10), .ref (qq 11), .int z12, .ref (qq 13), .int z14, .int z15, .int z16, .int z17, .ref (qq 18), .int z19, .ref (qq 20), .int z21, .int z22, .int z23, .int z24, .ref (qq 25), .int z26, .ref (qq 27), .ref (qq 28), .ref (qq 29), .int 1, .ref (qq 31), .ref (qq 32), .ref (qq 33), .ref (qq 34), .ref (qq 35), .ref (qq 36), .ref (qq 37), .ref (qq 38), .ref (qq 39), .ref (qq 40), .ref (qq 41), .ref (qq 42)])), ((qq 0), .inl (cT 0, 2, .inl (fun _ => 1))), ((qq 2), .inl (cT 0, 50, .inl (fun _ => (-1))))]) rfl hP hD hK hN hZ hS hA [4, 3, 2] rfl (by decide) (ci := 12) (q0 := 4) rfl rfl) rfl rfl hl.1 rfl (lv_room (Nat.le_of_ble_eq_true rfl)) dX12_layTables_72 ⟨(Nat.le_of_ble_eq_true rfl), (Nat.le_of_ble_eq_true rfl)⟩) hP hD hS hA [4, 3, 2] [0, 1, 5] rfl rfl (by decide) (by decide) (Nat.le_of_ble_eq_true rfl) (Nat.le_of_ble_eq_true rfl) (fun r_29 u H locs h_30 hP hD hS => ?_)
    have hP : va_P g vwCl [((qq 28), .inl (cT 0, 4001, .inl (upd (fun _ => 0) 0 (-1)))), ((qq 29), .inl (cT 0, 4001, .inl (fun _ => 0))), ((qq 27), .inl (cT 1, 4001, .inr (.inl (vp_updL (fun _ => 0) 0 10485770)))), (y, .inr (12, [.ref (qq 0), .ref (qq 1), .ref (qq 2), .ref (qq 3), .ref (qq 4), .ref (qq 5), .int z6, .ref (qq 7), .ref (qq 8), .ref (qq 9), .ref (qq 10), .ref (qq 11), .int z12, .ref (qq 13), .int z14, .int z15, .int z16, .int z17, .ref (qq 18), .int z19, .ref (qq 20), .int z21, .int z22, .int z23, .int z24, .ref (qq 25), .int z26, .ref (qq 27), .ref (qq 28), .ref (qq 29), .int 1, .ref (qq 31), .ref (qq 32), .ref (qq 33), .ref (qq 34), .ref (qq 35), .ref (qq 36), .ref (qq 37), .ref (qq 38), .ref (qq 39), .ref (qq 40), .ref (qq 41), .ref (qq 42)])), ((qq 0), .inl (cT 0, 2, .inl (fun _ => 1))), ((qq 2), .inl (cT 0, 50, .inl (fun _ => (-1))))] H := hP
    have hD : va_D A [((qq 28), .inl (cT 0, 4001, .inl (upd (fun _ => 0) 0 (-1)))), ((qq 29), .inl (cT 0, 4001, .inl (fun _ => 0))), ((qq 27), .inl (cT 1, 4001, .inr (.inl (vp_updL (fun _ => 0) 0 10485770)))), (y, .inr (12, [.ref (qq 0), .ref (qq 1), .ref (qq 2), .ref (qq 3), .ref (qq 4), .ref (qq 5), .int z6, .ref (qq 7), .ref (qq 8), .ref (qq 9), .ref (qq 10), .ref (qq 11), .int z12, .ref (qq 13), .int z14, .int z15, .int z16, .int z17, .ref (qq 18), .int z19, .ref (qq 20), .int z21, .int z22, .int z23, .int z24, .ref (qq 25), .int z26, .ref (qq 27), .ref (qq 28), .ref (qq 29), .int 1, .ref (qq 31), .ref (qq 32), .ref (qq 33), .ref (qq 34), .ref (qq 35), .ref (qq 36), .ref (qq 37), .ref (qq 38), .ref (qq 39), .ref (qq 40), .ref (qq 41), .ref (qq 42)])), ((qq 0), .inl (cT 0, 2, .inl (fun _ => 1))), ((qq 2), .inl (cT 0, 50, .inl (fun _ => (-1))))] := hD
    subst h_30
    refine cj_l 0 0 (wr := [((qq 28), .inl (cT 0, 4001, .inl (upd (fun _ => 0) 0 (-1)))), ((qq 29), .inl (cT 0, 4001, .inl (fun _ => 0))), ((qq 27), .inl (cT 1, 4001, .inr (.inl (vp_updL (fun _ => 0) 0 10485770)))), ((qq 2), .inl (cT 0, 50, .inl (fun _ => (-1))))]) (va_runV (As := [.int 1, .long 10485770, .long 10485770]) (rest := []) ⟨hx, hb, hml, hown, hts⟩ (c_M_join_1 l g cT H.size y qq z6 z12 z14 z15 z16 z17 z19 z21 z22 z23 z24 z26 1) (cwV 3 hts gX12_layTables_X12_join rfl rfl rfl yd_X12_join ⟨(Nat.le_of_ble_eq_true rfl), (Nat.le_of_ble_eq_true rfl)⟩) (preV (wc := [(y, .inr (12, [.ref (qq 0), .ref (qq 1), .ref (qq 2), .ref (qq 3), .ref (qq 4), .ref (qq 5), .int z6, .ref (qq 7), .ref (qq 8), .ref (qq 9), .ref (qq 10), .ref (qq 11), .int z12, .ref (qq 13), .int z14, .int z15, .int z16, .int z17, .ref (qq 18), .int z19, .ref (qq 20), .int z21, .int z22, .int z23, .int z24, .ref (qq 25), .int z26, .ref (qq 27), .ref (qq 28), .ref (qq 29), .int 1, .ref (qq 31), .ref (qq 32), .ref (qq 33), .ref (qq 34), .ref (qq 35), .ref (qq 36), .ref (qq 37), .ref (qq 38), .ref (qq 39), .ref (qq 40), .ref (qq 41), .ref (qq 42)])), ((qq 0), .inl (cT 0, 2, .inl (fun _ => 1)))]) rfl hP hD hK hN hZ hS hA [3, 4] rfl (by decide) (ci := 12) (q0 := 3) rfl rfl) rfl rfl hl.1 rfl (lv_room (Nat.le_of_ble_eq_true rfl)) dX12_layTables_75 ⟨(Nat.le_of_ble_eq_true rfl), (Nat.le_of_ble_eq_true rfl)⟩) hP hD hS hA [3, 4] [0, 1, 2, 5] rfl rfl (by decide) (by decide) (Nat.le_of_ble_eq_true rfl) (Nat.le_of_ble_eq_true rfl) (fun r_31 u H locs h_32 hP hD hS => ?_)
    have hP : va_P g vwCl [((qq 28), .inl (cT 0, 4001, .inl (upd (fun _ => 0) 0 (-1)))), ((qq 29), .inl (cT 0, 4001, .inl (fun _ => 0))), ((qq 27), .inl (cT 1, 4001, .inr (.inl (vp_updL (fun _ => 0) 0 10485770)))), ((qq 2), .inl (cT 0, 50, .inl (fun _ => (-1)))), (y, .inr (12, [.ref (qq 0), .ref (qq 1), .ref (qq 2), .ref (qq 3), .ref (qq 4), .ref (qq 5), .int z6, .ref (qq 7), .ref (qq 8), .ref (qq 9), .ref (qq 10), .ref (qq 11), .int z12, .ref (qq 13), .int z14, .int z15, .int z16, .int z17, .ref (qq 18), .int z19, .ref (qq 20), .int z21, .int z22, .int z23, .int z24, .ref (qq 25), .int z26, .ref (qq 27), .ref (qq 28), .ref (qq 29), .int 1, .ref (qq 31), .ref (qq 32), .ref (qq 33), .ref (qq 34), .ref (qq 35), .ref (qq 36), .ref (qq 37), .ref (qq 38), .ref (qq 39), .ref (qq 40), .ref (qq 41), .ref (qq 42)])), ((qq 0), .inl (cT 0, 2, .inl (fun _ => 1)))] H := hP
    have hD : va_D A [((qq 28), .inl (cT 0, 4001, .inl (upd (fun _ => 0) 0 (-1)))), ((qq 29), .inl (cT 0, 4001, .inl (fun _ => 0))), ((qq 27), .inl (cT 1, 4001, .inr (.inl (vp_updL (fun _ => 0) 0 10485770)))), ((qq 2), .inl (cT 0, 50, .inl (fun _ => (-1)))), (y, .inr (12, [.ref (qq 0), .ref (qq 1), .ref (qq 2), .ref (qq 3), .ref (qq 4), .ref (qq 5), .int z6, .ref (qq 7), .ref (qq 8), .ref (qq 9), .ref (qq 10), .ref (qq 11), .int z12, .ref (qq 13), .int z14, .int z15, .int z16, .int z17, .ref (qq 18), .int z19, .ref (qq 20), .int z21, .int z22, .int z23, .int z24, .ref (qq 25), .int z26, .ref (qq 27), .ref (qq 28), .ref (qq 29), .int 1, .ref (qq 31), .ref (qq 32), .ref (qq 33), .ref (qq 34), .ref (qq 35), .ref (qq 36), .ref (qq 37), .ref (qq 38), .ref (qq 39), .ref (qq 40), .ref (qq 41), .ref (qq 42)])), ((qq 0), .inl (cT 0, 2, .inl (fun _ => 1)))] := hD
    subst h_32
    refine lv_lstore (lv' := [(4, .long 10485770), (3, .int 2), (2, .int 0), (0, .ref y), (1, .int 1)]) hx hb dX12_layTables_78 hl (by decide) rfl (fun ls hl => ?_)
    refine lv_aload_n hx hb dX12_layTables_80 rfl (lv_at hl 3 rfl) ?_
    refine lv_lload hx hb dX12_layTables_81 (lv_at hl 0 rfl) ?_
    refine cj_i 0 0 (wr := [((qq 28), .inl (cT 0, 4001, .inl (upd (fun _ => 0) 0 (-1)))), ((qq 29), .inl (cT 0, 4001, .inl (fun _ => 0))), ((qq 2), .inl (cT 0, 50, .inl (fun _ => (-1)))), ((qq 0), .inl (cT 0, 2, .inl (fun _ => 1)))]) (va_runV (As := [.long 10485770]) (rest := []) ⟨hx, hb, hml, hown, hts⟩ (c_M_kindOf_1 l g cT H.size y qq z6 z12 z14 z15 z16 z17 z19 z21 z22 z23 z24 z26) (cwV 1 hts gX12_layTables_X12_kindOf rfl rfl rfl yd_X12_kindOf ⟨(Nat.le_of_ble_eq_true rfl), (Nat.le_of_ble_eq_true rfl)⟩) (preV (wc := [(y, .inr (12, [.ref (qq 0), .ref (qq 1), .ref (qq 2), .ref (qq 3), .ref (qq 4), .ref (qq 5), .int z6, .ref (qq 7), .ref (qq 8), .ref (qq 9), .ref (qq 10), .ref (qq 11), .int z12, .ref (qq 13), .int z14, .int z15, .int z16, .int z17, .ref (qq 18), .int z19, .ref (qq 20), .int z21, .int z22, .int z23, .int z24, .ref (qq 25), .int z26, .ref (qq 27), .ref (qq 28), .ref (qq 29), .int 1, .ref (qq 31), .ref (qq 32), .ref (qq 33), .ref (qq 34), .ref (qq 35), .ref (qq 36), .ref (qq 37), .ref (qq 38), .ref (qq 39), .ref (qq 40), .ref (qq 41), .ref (qq 42)])), ((qq 27), .inl (cT 1, 4001, .inr (.inl (vp_updL (fun _ => 0) 0 10485770))))]) rfl hP hD hK hN hZ hS hA [4, 2] rfl (by decide) (ci := 12) (q0 := 4) rfl rfl) rfl rfl hl.1 rfl (lv_room (Nat.le_of_ble_eq_true rfl)) dX12_layTables_83 ⟨(Nat.le_of_ble_eq_true rfl), (Nat.le_of_ble_eq_true rfl)⟩) hP hD hS hA [4, 2] [0, 1, 3, 5] rfl rfl (by decide) (by decide) (Nat.le_of_ble_eq_true rfl) (Nat.le_of_ble_eq_true rfl) (fun r_33 u H locs h_34 hP hD hS => ?_)
    have hP : va_P g vwCl [((qq 28), .inl (cT 0, 4001, .inl (upd (fun _ => 0) 0 (-1)))), ((qq 29), .inl (cT 0, 4001, .inl (fun _ => 0))), ((qq 2), .inl (cT 0, 50, .inl (fun _ => (-1)))), ((qq 0), .inl (cT 0, 2, .inl (fun _ => 1))), (y, .inr (12, [.ref (qq 0), .ref (qq 1), .ref (qq 2), .ref (qq 3), .ref (qq 4), .ref (qq 5), .int z6, .ref (qq 7), .ref (qq 8), .ref (qq 9), .ref (qq 10), .ref (qq 11), .int z12, .ref (qq 13), .int z14, .int z15, .int z16, .int z17, .ref (qq 18), .int z19, .ref (qq 20), .int z21, .int z22, .int z23, .int z24, .ref (qq 25), .int z26, .ref (qq 27), .ref (qq 28), .ref (qq 29), .int 1, .ref (qq 31), .ref (qq 32), .ref (qq 33), .ref (qq 34), .ref (qq 35), .ref (qq 36), .ref (qq 37), .ref (qq 38), .ref (qq 39), .ref (qq 40), .ref (qq 41), .ref (qq 42)])), ((qq 27), .inl (cT 1, 4001, .inr (.inl (vp_updL (fun _ => 0) 0 10485770))))] H := hP
    have hD : va_D A [((qq 28), .inl (cT 0, 4001, .inl (upd (fun _ => 0) 0 (-1)))), ((qq 29), .inl (cT 0, 4001, .inl (fun _ => 0))), ((qq 2), .inl (cT 0, 50, .inl (fun _ => (-1)))), ((qq 0), .inl (cT 0, 2, .inl (fun _ => 1))), (y, .inr (12, [.ref (qq 0), .ref (qq 1), .ref (qq 2), .ref (qq 3), .ref (qq 4), .ref (qq 5), .int z6, .ref (qq 7), .ref (qq 8), .ref (qq 9), .ref (qq 10), .ref (qq 11), .int z12, .ref (qq 13), .int z14, .int z15, .int z16, .int z17, .ref (qq 18), .int z19, .ref (qq 20), .int z21, .int z22, .int z23, .int z24, .ref (qq 25), .int z26, .ref (qq 27), .ref (qq 28), .ref (qq 29), .int 1, .ref (qq 31), .ref (qq 32), .ref (qq 33), .ref (qq 34), .ref (qq 35), .ref (qq 36), .ref (qq 37), .ref (qq 38), .ref (qq 39), .ref (qq 40), .ref (qq 41), .ref (qq 42)])), ((qq 27), .inl (cT 1, 4001, .inr (.inl (vp_updL (fun _ => 0) 0 10485770))))] := hD
    subst h_34
    refine lv_iconst (v := (-1)) hx hb dX12_layTables_86 (by decide) ?_
    refine icmp_ne_t hx hb 110 dX12_layTables_87 (by decide) (by decide) ?_
    refine lv_iinc (v := 3) (lv' := [(3, .int 3), (4, .long 10485770), (2, .int 0), (0, .ref y), (1, .int 1)]) hx hb dX12_layTables_110 hl (k := 1) rfl (by decide) (by decide) rfl (fun ls hl => ?_)
    refine lv_goto (tgt := 56) hx hb dX12_layTables_113 (by decide) ?_
    refine lv_iload_n hx hb dX12_layTables_56 rfl (lv_at hl 0 rfl) ?_
    refine lv_iconst (v := 3) hx hb dX12_layTables_57 (by decide) ?_
    refine icmp_ge_t hx hb 116 dX12_layTables_58 (by decide) (by decide) ?_
    refine lv_iinc (v := 1) (lv' := [(2, .int 1), (3, .int 3), (4, .long 10485770), (0, .ref y), (1, .int 1)]) hx hb dX12_layTables_116 hl (k := 2) rfl (by decide) (by decide) rfl (fun ls hl => ?_)
    refine lv_goto (tgt := 46) hx hb dX12_layTables_119 (by decide) ?_
    refine lv_iload_n hx hb dX12_layTables_46 rfl (lv_at hl 0 rfl) ?_
    refine lv_aload_n hx hb dX12_layTables_47 rfl (lv_at hl 3 rfl) ?_
    refine va_get (C := RX12) (T := TX12) (N := 43) (v := .int 1) hx hb hts hi_X12_layTables_X12 hown hK hP 4 rfl rfl 30 (by decide) (hts (.fieldLink RX12 234 "BothWaysModel" "kindMany" "I") (by decide +kernel)) (fun _ h => h) rfl dX12_layTables_48 ?_
    refine icmp_ge_t hx hb 122 dX12_layTables_51 (by decide) (by decide) ?_
    refine lv_iconst (v := 1) hx hb dX12_layTables_122 (by decide) ?_
    exact rt_i hx hb hr hlocks hQ hP hD hS () [4] dX12_layTables_123 rfl (Nat.le_of_ble_eq_true rfl) (Nat.le_of_ble_eq_true rfl) rfl (by decide) rfl
  rw [hH, hlo] at hgo
  exact hgo
theorem hi_X12_kinds_X12 : ∀ w ∈ wsX120, w ∈ wsX12_kinds := fun _ h => List.mem_cons_of_mem _ (List.mem_append_right _ h)
theorem yd_X12_layTables : yX12_layTables.cls = RX12 ∧ yX12_layTables.cls ≠ "java/lang/invoke/MethodHandle" ∧ yX12_layTables.cls ≠ "java/lang/invoke/VarHandle" ∧ (parseMethodDescriptor yX12_layTables.desc).map (fun d => d.parameters.length) = some 1 := by decide +kernel
abbrev rm_c_M_kinds : Room := { frames := 4, cells := 0, slots := 0, locals := 109 }
theorem lf_c_M_kinds_0   : (1 : Int32) = sp_kinds 0 := by (unfold sp_kinds; rw [if_pos] <;> (simp only [true_or, or_true, false_or, or_false, true_and, and_true, false_and, and_false, not_true_eq_false, not_false_eq_true, i_lt, i_le, i_eq, j_lt, j_le, j_eq, Int32.toInt_toInt64, li_0, lj_0, li_1, lj_1, li_2, lj_2, li_3, lj_3, li_4, lj_4, li_5, lj_5, li_6, lj_6, li_7, lj_7, li_8, lj_8, li_10, lj_10, li_11, lj_11, li_12, lj_12, li_24, lj_24, li_25, lj_25, li_50, lj_50, li_130, lj_130, li_160, lj_160, li_800, lj_800, li_4000, lj_4000, li_10000, lj_10000, li_16384, lj_16384, li_26, lj_26, li_32, lj_32, li_48, lj_48, li_57, lj_57, li_59, lj_59, li_97, lj_97, li_99, lj_99, li_122, lj_122, li_m1, lj_m1, li_m2, lj_m2, li_m3, lj_m3, li_m4, lj_m4, li_m5, lj_m5, li_m6, lj_m6] at * <;> omega))
theorem lf_c_M_kinds_1   : (1 : Int32) = sp_kinds 1 := by (unfold sp_kinds; rw [if_pos] <;> (simp only [true_or, or_true, false_or, or_false, true_and, and_true, false_and, and_false, not_true_eq_false, not_false_eq_true, i_lt, i_le, i_eq, j_lt, j_le, j_eq, Int32.toInt_toInt64, li_0, lj_0, li_1, lj_1, li_2, lj_2, li_3, lj_3, li_4, lj_4, li_5, lj_5, li_6, lj_6, li_7, lj_7, li_8, lj_8, li_10, lj_10, li_11, lj_11, li_12, lj_12, li_24, lj_24, li_25, lj_25, li_50, lj_50, li_130, lj_130, li_160, lj_160, li_800, lj_800, li_4000, lj_4000, li_10000, lj_10000, li_16384, lj_16384, li_26, lj_26, li_32, lj_32, li_48, lj_48, li_57, lj_57, li_59, lj_59, li_97, lj_97, li_99, lj_99, li_122, lj_122, li_m1, lj_m1, li_m2, lj_m2, li_m3, lj_m3, li_m4, lj_m4, li_m5, lj_m5, li_m6, lj_m6] at * <;> omega))
theorem lf_c_M_kinds_2 (x : Int32) (h_4 : ¬ (x = 0 ∨ x = 1)) : ((-2) : Int32) = sp_kinds x := by (unfold sp_kinds; rw [if_neg] <;> (simp only [true_or, or_true, false_or, or_false, true_and, and_true, false_and, and_false, not_true_eq_false, not_false_eq_true, i_lt, i_le, i_eq, j_lt, j_le, j_eq, Int32.toInt_toInt64, li_0, lj_0, li_1, lj_1, li_2, lj_2, li_3, lj_3, li_4, lj_4, li_5, lj_5, li_6, lj_6, li_7, lj_7, li_8, lj_8, li_10, lj_10, li_11, lj_11, li_12, lj_12, li_24, lj_24, li_25, lj_25, li_50, lj_50, li_130, lj_130, li_160, lj_160, li_800, lj_800, li_4000, lj_4000, li_10000, lj_10000, li_16384, lj_16384, li_26, lj_26, li_32, lj_32, li_48, lj_48, li_57, lj_57, li_59, lj_59, li_97, lj_97, li_99, lj_99, li_122, lj_122, li_m1, lj_m1, li_m2, lj_m2, li_m3, lj_m3, li_m4, lj_m4, li_m5, lj_m5, li_m6, lj_m6] at * <;> omega))
set_option maxHeartbeats 4000000 in
set_option maxRecDepth 100000 in
theorem c_M_kinds (l : Launch) (g : va_G) (cT : Nat → ClassId) (sz : Nat) (y : Nat) (qq : Nat → Nat) (z6 : Int32) (z12 : Int32) (z14 : Int32) (z15 : Int32) (z16 : Int32) (z17 : Int32) (z19 : Int32) (z21 : Int32) (z22 : Int32) (z23 : Int32) (z24 : Int32) (z26 : Int32) (z30 : Int32) (x : Int32)  : Ctr l g cT sz yX12_kinds wsX12_kinds rm_c_M_kinds [.ref y, .int x] [(y, .inr (12, [.ref (qq 0), .ref (qq 1), .ref (qq 2), .ref (qq 3), .ref (qq 4), .ref (qq 5), .int z6, .ref (qq 7), .ref (qq 8), .ref (qq 9), .ref (qq 10), .ref (qq 11), .int z12, .ref (qq 13), .int z14, .int z15, .int z16, .int z17, .ref (qq 18), .int z19, .ref (qq 20), .int z21, .int z22, .int z23, .int z24, .ref (qq 25), .int z26, .ref (qq 27), .ref (qq 28), .ref (qq 29), .int z30, .ref (qq 31), .ref (qq 32), .ref (qq 33), .ref (qq 34), .ref (qq 35), .ref (qq 36), .ref (qq 37), .ref (qq 38), .ref (qq 39), .ref (qq 40), .ref (qq 41), .ref (qq 42)])), ((qq 0), .inl (cT 0, 2, .inl (fun _ => 1))), ((qq 2), .inl (cT 0, 50, .inl (fun _ => (-1)))), ((qq 27), .inl (cT 1, 4001, .inr (.inl (fun _ => 0)))), ((qq 28), .inl (cT 0, 4001, .inl (fun _ => 0))), ((qq 29), .inl (cT 0, 4001, .inl (fun _ => 0)))] (QI g (fun (r : Int32) (u : Unit) => r = sp_kinds x) (fun (u : Unit) => [])) 0 0 := by
  refine mk_ctr (cc := cX12_kinds) (maxL := 2) (ret := (some .int)) (by decide) rfl (Nat.le_of_ble_eq_true rfl) ?_
  intro p e s m args below meth c A Q hx hb hr hts hown hlocks hin hml hP hK hD hN hZ hA hS hQ ls hl
  have hl : lv_has ls 2 [(0, .ref y), (1, .int x)] := hl
  obtain ⟨H, hH⟩ : ∃ H : Heap, H = s.heap := ⟨_, rfl⟩
  obtain ⟨locs, hlo⟩ : ∃ x : List Loc, x = [] := ⟨_, rfl⟩
  rw [← hH] at hP
  have hS : va_S A s.heap H locs := by rw [hH, hlo]; exact hS
  have hgo : W p l e rm_c_M_kinds s m args below meth c H locs 0 0 Q (F0 m 0 ls []) := by
    clear hH hlo
    refine lv_iload_n hx hb dX12_kinds_0 rfl (lv_at hl 1 rfl) ?_
    refine cp_i (va_runS (As := [.int x]) (rest := []) ⟨hx, hb, hml, hown, hts⟩ (c_M_isReader l g cT H.size x) (va_cwS 1 hts gX12_kinds_X12_isReader rfl rfl rfl yd_X12_isReader.2 ⟨(Nat.le_of_ble_eq_true rfl), (Nat.le_of_ble_eq_true rfl)⟩) (preS (ws := []) (wc := []) rfl (fun _ _ h => by simp at h) (va_D_nil (A := A)) hK hN hZ hS hA [] rfl rfl) rfl rfl hl.1 rfl (lv_room (Nat.le_of_ble_eq_true rfl)) dX12_kinds_1 ⟨(Nat.le_of_ble_eq_true rfl), (Nat.le_of_ble_eq_true rfl)⟩) hP hS hA (fun r_1 u H locs h_2 hP hS => ?_)
    rcases h_2 with ⟨rfl, h_3⟩ | ⟨rfl, h_4⟩
    · skip
      rcases h_3 with rfl | rfl
      · skip
        refine if_ne_t hx hb 12 dX12_kinds_4 (by decide) (by decide) ?_
        refine lv_aload_n hx hb dX12_kinds_12 rfl (lv_at hl 0 rfl) ?_
        refine lv_iload_n hx hb dX12_kinds_13 rfl (lv_at hl 1 rfl) ?_
        refine cj_i 0 0 (wr := []) (va_runV (As := [.int 0]) (rest := []) ⟨hx, hb, hml, hown, hts⟩ (c_M_layTables_0 l g cT H.size y qq z6 z12 z14 z15 z16 z17 z19 z21 z22 z23 z24 z26 z30) (cwV 1 hts gX12_kinds_X12_layTables rfl rfl rfl yd_X12_layTables ⟨(Nat.le_of_ble_eq_true rfl), (Nat.le_of_ble_eq_true rfl)⟩) (preV (wc := [(y, .inr (12, [.ref (qq 0), .ref (qq 1), .ref (qq 2), .ref (qq 3), .ref (qq 4), .ref (qq 5), .int z6, .ref (qq 7), .ref (qq 8), .ref (qq 9), .ref (qq 10), .ref (qq 11), .int z12, .ref (qq 13), .int z14, .int z15, .int z16, .int z17, .ref (qq 18), .int z19, .ref (qq 20), .int z21, .int z22, .int z23, .int z24, .ref (qq 25), .int z26, .ref (qq 27), .ref (qq 28), .ref (qq 29), .int z30, .ref (qq 31), .ref (qq 32), .ref (qq 33), .ref (qq 34), .ref (qq 35), .ref (qq 36), .ref (qq 37), .ref (qq 38), .ref (qq 39), .ref (qq 40), .ref (qq 41), .ref (qq 42)])), ((qq 0), .inl (cT 0, 2, .inl (fun _ => 1))), ((qq 2), .inl (cT 0, 50, .inl (fun _ => (-1)))), ((qq 27), .inl (cT 1, 4001, .inr (.inl (fun _ => 0)))), ((qq 28), .inl (cT 0, 4001, .inl (fun _ => 0))), ((qq 29), .inl (cT 0, 4001, .inl (fun _ => 0)))]) rfl hP hD hK hN hZ hS hA [0, 1, 2, 3, 4, 5] rfl (by decide) (ci := 12) (q0 := 0) rfl rfl) rfl rfl hl.1 rfl (lv_room (Nat.le_of_ble_eq_true rfl)) dX12_kinds_14 ⟨(Nat.le_of_ble_eq_true rfl), (Nat.le_of_ble_eq_true rfl)⟩) hP hD hS hA [0, 1, 2, 3, 4, 5] [] rfl rfl (by decide) (by decide) (Nat.le_of_ble_eq_true rfl) (Nat.le_of_ble_eq_true rfl) (fun r_5 u H locs h_6 hP hD hS => ?_)
        have hP : va_P g vwCl [(y, .inr (12, [.ref (qq 0), .ref (qq 1), .ref (qq 2), .ref (qq 3), .ref (qq 4), .ref (qq 5), .int z6, .ref (qq 7), .ref (qq 8), .ref (qq 9), .ref (qq 10), .ref (qq 11), .int z12, .ref (qq 13), .int z14, .int z15, .int z16, .int z17, .ref (qq 18), .int z19, .ref (qq 20), .int z21, .int z22, .int z23, .int z24, .ref (qq 25), .int z26, .ref (qq 27), .ref (qq 28), .ref (qq 29), .int 1, .ref (qq 31), .ref (qq 32), .ref (qq 33), .ref (qq 34), .ref (qq 35), .ref (qq 36), .ref (qq 37), .ref (qq 38), .ref (qq 39), .ref (qq 40), .ref (qq 41), .ref (qq 42)]))] H := hP
        have hD : va_D A [(y, .inr (12, [.ref (qq 0), .ref (qq 1), .ref (qq 2), .ref (qq 3), .ref (qq 4), .ref (qq 5), .int z6, .ref (qq 7), .ref (qq 8), .ref (qq 9), .ref (qq 10), .ref (qq 11), .int z12, .ref (qq 13), .int z14, .int z15, .int z16, .int z17, .ref (qq 18), .int z19, .ref (qq 20), .int z21, .int z22, .int z23, .int z24, .ref (qq 25), .int z26, .ref (qq 27), .ref (qq 28), .ref (qq 29), .int 1, .ref (qq 31), .ref (qq 32), .ref (qq 33), .ref (qq 34), .ref (qq 35), .ref (qq 36), .ref (qq 37), .ref (qq 38), .ref (qq 39), .ref (qq 40), .ref (qq 41), .ref (qq 42)]))] := hD
        subst h_6
        refine if_eq_f hx hb dX12_kinds_17 27 (by decide) (by decide) ?_
        refine lv_aload_n hx hb dX12_kinds_20 rfl (lv_at hl 0 rfl) ?_
        refine va_get (C := RX12) (T := TX12) (N := 43) (v := .int 1) hx hb hts hi_X12_kinds_X12 hown hK hP 0 rfl rfl 30 (by decide) (hts (.fieldLink RX12 234 "BothWaysModel" "kindMany" "I") (by decide +kernel)) (fun _ h => h) rfl dX12_kinds_21 ?_
        refine lv_goto (tgt := 29) hx hb dX12_kinds_24 (by decide) ?_
        exact rt_i hx hb hr hlocks hQ hP hD hS () [] dX12_kinds_29 rfl (Nat.le_of_ble_eq_true rfl) (Nat.le_of_ble_eq_true rfl) rfl (by decide) lf_c_M_kinds_0
      · skip
        refine if_ne_t hx hb 12 dX12_kinds_4 (by decide) (by decide) ?_
        refine lv_aload_n hx hb dX12_kinds_12 rfl (lv_at hl 0 rfl) ?_
        refine lv_iload_n hx hb dX12_kinds_13 rfl (lv_at hl 1 rfl) ?_
        refine cj_i 0 0 (wr := []) (va_runV (As := [.int 1]) (rest := []) ⟨hx, hb, hml, hown, hts⟩ (c_M_layTables_1 l g cT H.size y qq z6 z12 z14 z15 z16 z17 z19 z21 z22 z23 z24 z26 z30) (cwV 1 hts gX12_kinds_X12_layTables rfl rfl rfl yd_X12_layTables ⟨(Nat.le_of_ble_eq_true rfl), (Nat.le_of_ble_eq_true rfl)⟩) (preV (wc := [(y, .inr (12, [.ref (qq 0), .ref (qq 1), .ref (qq 2), .ref (qq 3), .ref (qq 4), .ref (qq 5), .int z6, .ref (qq 7), .ref (qq 8), .ref (qq 9), .ref (qq 10), .ref (qq 11), .int z12, .ref (qq 13), .int z14, .int z15, .int z16, .int z17, .ref (qq 18), .int z19, .ref (qq 20), .int z21, .int z22, .int z23, .int z24, .ref (qq 25), .int z26, .ref (qq 27), .ref (qq 28), .ref (qq 29), .int z30, .ref (qq 31), .ref (qq 32), .ref (qq 33), .ref (qq 34), .ref (qq 35), .ref (qq 36), .ref (qq 37), .ref (qq 38), .ref (qq 39), .ref (qq 40), .ref (qq 41), .ref (qq 42)])), ((qq 0), .inl (cT 0, 2, .inl (fun _ => 1))), ((qq 2), .inl (cT 0, 50, .inl (fun _ => (-1)))), ((qq 27), .inl (cT 1, 4001, .inr (.inl (fun _ => 0)))), ((qq 28), .inl (cT 0, 4001, .inl (fun _ => 0))), ((qq 29), .inl (cT 0, 4001, .inl (fun _ => 0)))]) rfl hP hD hK hN hZ hS hA [0, 1, 2, 3, 4, 5] rfl (by decide) (ci := 12) (q0 := 0) rfl rfl) rfl rfl hl.1 rfl (lv_room (Nat.le_of_ble_eq_true rfl)) dX12_kinds_14 ⟨(Nat.le_of_ble_eq_true rfl), (Nat.le_of_ble_eq_true rfl)⟩) hP hD hS hA [0, 1, 2, 3, 4, 5] [] rfl rfl (by decide) (by decide) (Nat.le_of_ble_eq_true rfl) (Nat.le_of_ble_eq_true rfl) (fun r_7 u H locs h_8 hP hD hS => ?_)
        have hP : va_P g vwCl [(y, .inr (12, [.ref (qq 0), .ref (qq 1), .ref (qq 2), .ref (qq 3), .ref (qq 4), .ref (qq 5), .int z6, .ref (qq 7), .ref (qq 8), .ref (qq 9), .ref (qq 10), .ref (qq 11), .int z12, .ref (qq 13), .int z14, .int z15, .int z16, .int z17, .ref (qq 18), .int z19, .ref (qq 20), .int z21, .int z22, .int z23, .int z24, .ref (qq 25), .int z26, .ref (qq 27), .ref (qq 28), .ref (qq 29), .int 1, .ref (qq 31), .ref (qq 32), .ref (qq 33), .ref (qq 34), .ref (qq 35), .ref (qq 36), .ref (qq 37), .ref (qq 38), .ref (qq 39), .ref (qq 40), .ref (qq 41), .ref (qq 42)]))] H := hP
        have hD : va_D A [(y, .inr (12, [.ref (qq 0), .ref (qq 1), .ref (qq 2), .ref (qq 3), .ref (qq 4), .ref (qq 5), .int z6, .ref (qq 7), .ref (qq 8), .ref (qq 9), .ref (qq 10), .ref (qq 11), .int z12, .ref (qq 13), .int z14, .int z15, .int z16, .int z17, .ref (qq 18), .int z19, .ref (qq 20), .int z21, .int z22, .int z23, .int z24, .ref (qq 25), .int z26, .ref (qq 27), .ref (qq 28), .ref (qq 29), .int 1, .ref (qq 31), .ref (qq 32), .ref (qq 33), .ref (qq 34), .ref (qq 35), .ref (qq 36), .ref (qq 37), .ref (qq 38), .ref (qq 39), .ref (qq 40), .ref (qq 41), .ref (qq 42)]))] := hD
        subst h_8
        refine if_eq_f hx hb dX12_kinds_17 27 (by decide) (by decide) ?_
        refine lv_aload_n hx hb dX12_kinds_20 rfl (lv_at hl 0 rfl) ?_
        refine va_get (C := RX12) (T := TX12) (N := 43) (v := .int 1) hx hb hts hi_X12_kinds_X12 hown hK hP 0 rfl rfl 30 (by decide) (hts (.fieldLink RX12 234 "BothWaysModel" "kindMany" "I") (by decide +kernel)) (fun _ h => h) rfl dX12_kinds_21 ?_
        refine lv_goto (tgt := 29) hx hb dX12_kinds_24 (by decide) ?_
        exact rt_i hx hb hr hlocks hQ hP hD hS () [] dX12_kinds_29 rfl (Nat.le_of_ble_eq_true rfl) (Nat.le_of_ble_eq_true rfl) rfl (by decide) lf_c_M_kinds_1
    · skip
      refine if_ne_f hx hb dX12_kinds_4 12 (by decide) (by decide) ?_
      refine lv_bipush (v := (-2)) hx hb dX12_kinds_7 (by decide) ?_
      refine lv_goto (tgt := 29) hx hb dX12_kinds_9 (by decide) ?_
      exact rt_i hx hb hr hlocks hQ hP hD hS () [] dX12_kinds_29 rfl (Nat.le_of_ble_eq_true rfl) (Nat.le_of_ble_eq_true rfl) rfl (by decide) (lf_c_M_kinds_2 x h_4)
  rw [hH, hlo] at hgo
  exact hgo
theorem hi_X12_like_X12 : ∀ w ∈ wsX120, w ∈ wsX12_like := fun _ h => List.mem_cons_of_mem _ (List.mem_append_right _ h)
abbrev rm_c_M_like : Room := { frames := 2, cells := 0, slots := 0, locals := 45 }
theorem lf_c_M_like_0 (x : Int32) (kk : Int32) (h_3 : x = 0 ∨ x = 1) (c_5 : (-1) ≤ kk) : ((-4) : Int32) = sp_like x kk := by (unfold sp_like; rw [if_pos, if_neg] <;> (simp only [true_or, or_true, false_or, or_false, true_and, and_true, false_and, and_false, not_true_eq_false, not_false_eq_true, i_lt, i_le, i_eq, j_lt, j_le, j_eq, Int32.toInt_toInt64, li_0, lj_0, li_1, lj_1, li_2, lj_2, li_3, lj_3, li_4, lj_4, li_5, lj_5, li_6, lj_6, li_7, lj_7, li_8, lj_8, li_10, lj_10, li_11, lj_11, li_12, lj_12, li_24, lj_24, li_25, lj_25, li_50, lj_50, li_130, lj_130, li_160, lj_160, li_800, lj_800, li_4000, lj_4000, li_10000, lj_10000, li_16384, lj_16384, li_26, lj_26, li_32, lj_32, li_48, lj_48, li_57, lj_57, li_59, lj_59, li_97, lj_97, li_99, lj_99, li_122, lj_122, li_m1, lj_m1, li_m2, lj_m2, li_m3, lj_m3, li_m4, lj_m4, li_m5, lj_m5, li_m6, lj_m6] at * <;> omega))
theorem lf_c_M_like_1 (x : Int32) (kk : Int32) (h_3 : x = 0 ∨ x = 1) (c_5 : ¬ (-1) ≤ kk) : ((-3) : Int32) = sp_like x kk := by (unfold sp_like; rw [if_pos, if_pos] <;> (simp only [true_or, or_true, false_or, or_false, true_and, and_true, false_and, and_false, not_true_eq_false, not_false_eq_true, i_lt, i_le, i_eq, j_lt, j_le, j_eq, Int32.toInt_toInt64, li_0, lj_0, li_1, lj_1, li_2, lj_2, li_3, lj_3, li_4, lj_4, li_5, lj_5, li_6, lj_6, li_7, lj_7, li_8, lj_8, li_10, lj_10, li_11, lj_11, li_12, lj_12, li_24, lj_24, li_25, lj_25, li_50, lj_50, li_130, lj_130, li_160, lj_160, li_800, lj_800, li_4000, lj_4000, li_10000, lj_10000, li_16384, lj_16384, li_26, lj_26, li_32, lj_32, li_48, lj_48, li_57, lj_57, li_59, lj_59, li_97, lj_97, li_99, lj_99, li_122, lj_122, li_m1, lj_m1, li_m2, lj_m2, li_m3, lj_m3, li_m4, lj_m4, li_m5, lj_m5, li_m6, lj_m6] at * <;> omega))
theorem lf_c_M_like_2 (x : Int32) (kk : Int32) (h_4 : ¬ (x = 0 ∨ x = 1)) : ((-2) : Int32) = sp_like x kk := by (unfold sp_like; rw [if_neg] <;> (simp only [true_or, or_true, false_or, or_false, true_and, and_true, false_and, and_false, not_true_eq_false, not_false_eq_true, i_lt, i_le, i_eq, j_lt, j_le, j_eq, Int32.toInt_toInt64, li_0, lj_0, li_1, lj_1, li_2, lj_2, li_3, lj_3, li_4, lj_4, li_5, lj_5, li_6, lj_6, li_7, lj_7, li_8, lj_8, li_10, lj_10, li_11, lj_11, li_12, lj_12, li_24, lj_24, li_25, lj_25, li_50, lj_50, li_130, lj_130, li_160, lj_160, li_800, lj_800, li_4000, lj_4000, li_10000, lj_10000, li_16384, lj_16384, li_26, lj_26, li_32, lj_32, li_48, lj_48, li_57, lj_57, li_59, lj_59, li_97, lj_97, li_99, lj_99, li_122, lj_122, li_m1, lj_m1, li_m2, lj_m2, li_m3, lj_m3, li_m4, lj_m4, li_m5, lj_m5, li_m6, lj_m6] at * <;> omega))
set_option maxHeartbeats 4000000 in
set_option maxRecDepth 100000 in
theorem c_M_like (l : Launch) (g : va_G) (cT : Nat → ClassId) (sz : Nat) (y : Nat) (qq : Nat → Nat) (z6 : Int32) (z12 : Int32) (z15 : Int32) (z16 : Int32) (z17 : Int32) (z19 : Int32) (z21 : Int32) (z22 : Int32) (z23 : Int32) (z24 : Int32) (z26 : Int32) (z30 : Int32) (x : Int32) (kk : Int32)  : Ctr l g cT sz yX12_like wsX12_like rm_c_M_like [.ref y, .int x, .int kk] [(y, .inr (12, [.ref (qq 0), .ref (qq 1), .ref (qq 2), .ref (qq 3), .ref (qq 4), .ref (qq 5), .int z6, .ref (qq 7), .ref (qq 8), .ref (qq 9), .ref (qq 10), .ref (qq 11), .int z12, .ref (qq 13), .int 0, .int z15, .int z16, .int z17, .ref (qq 18), .int z19, .ref (qq 20), .int z21, .int z22, .int z23, .int z24, .ref (qq 25), .int z26, .ref (qq 27), .ref (qq 28), .ref (qq 29), .int z30, .ref (qq 31), .ref (qq 32), .ref (qq 33), .ref (qq 34), .ref (qq 35), .ref (qq 36), .ref (qq 37), .ref (qq 38), .ref (qq 39), .ref (qq 40), .ref (qq 41), .ref (qq 42)]))] (QI g (fun (r : Int32) (u : Unit) => r = sp_like x kk) (fun (u : Unit) => [])) 0 0 := by
  refine mk_ctr (cc := cX12_like) (maxL := 3) (ret := (some .int)) (by decide) rfl (Nat.le_of_ble_eq_true rfl) ?_
  intro p e s m args below meth c A Q hx hb hr hts hown hlocks hin hml hP hK hD hN hZ hA hS hQ ls hl
  have hl : lv_has ls 3 [(0, .ref y), (1, .int x), (2, .int kk)] := hl
  obtain ⟨H, hH⟩ : ∃ H : Heap, H = s.heap := ⟨_, rfl⟩
  obtain ⟨locs, hlo⟩ : ∃ x : List Loc, x = [] := ⟨_, rfl⟩
  rw [← hH] at hP
  have hS : va_S A s.heap H locs := by rw [hH, hlo]; exact hS
  have hgo : W p l e rm_c_M_like s m args below meth c H locs 0 0 Q (F0 m 0 ls []) := by
    clear hH hlo
    refine lv_iload_n hx hb dX12_like_0 rfl (lv_at hl 1 rfl) ?_
    refine cp_i (va_runS (As := [.int x]) (rest := []) ⟨hx, hb, hml, hown, hts⟩ (c_M_isReader l g cT H.size x) (va_cwS 1 hts gX12_like_X12_isReader rfl rfl rfl yd_X12_isReader.2 ⟨(Nat.le_of_ble_eq_true rfl), (Nat.le_of_ble_eq_true rfl)⟩) (preS (ws := []) (wc := []) rfl (fun _ _ h => by simp at h) (va_D_nil (A := A)) hK hN hZ hS hA [] rfl rfl) rfl rfl hl.1 rfl (lv_room (Nat.le_of_ble_eq_true rfl)) dX12_like_1 ⟨(Nat.le_of_ble_eq_true rfl), (Nat.le_of_ble_eq_true rfl)⟩) hP hS hA (fun r_1 u H locs h_2 hP hS => ?_)
    rcases h_2 with ⟨rfl, h_3⟩ | ⟨rfl, h_4⟩
    · skip
      refine if_ne_t hx hb 10 dX12_like_4 (by decide) (by decide) ?_
      refine lv_iload_n hx hb dX12_like_10 rfl (lv_at hl 2 rfl) ?_
      refine lv_iconst (v := (-1)) hx hb dX12_like_11 (by decide) ?_
      refine lv_icmp_ge (tgt := 18) hx hb dX12_like_12 (by decide) (fun c_5 => ?_) (fun c_5 => ?_)
      · skip
        refine lv_aload_n hx hb dX12_like_18 rfl (lv_at hl 0 rfl) ?_
        refine va_get (C := RX12) (T := TX12) (N := 43) (v := .int 0) hx hb hts hi_X12_like_X12 hown hK hP 0 rfl rfl 14 (by decide) (hts (.fieldLink RX12 178 "BothWaysModel" "letters" "I") (by decide +kernel)) (fun _ h => h) rfl dX12_like_19 ?_
        refine if_ne_f hx hb dX12_like_22 28 (by decide) (by decide) ?_
        refine lv_bipush (v := (-4)) hx hb dX12_like_25 (by decide) ?_
        exact rt_i hx hb hr hlocks hQ hP hD hS () [] dX12_like_27 rfl (Nat.le_of_ble_eq_true rfl) (Nat.le_of_ble_eq_true rfl) rfl (by decide) (lf_c_M_like_0 x kk h_3 c_5)
      · skip
        refine lv_bipush (v := (-3)) hx hb dX12_like_15 (by decide) ?_
        exact rt_i hx hb hr hlocks hQ hP hD hS () [] dX12_like_17 rfl (Nat.le_of_ble_eq_true rfl) (Nat.le_of_ble_eq_true rfl) rfl (by decide) (lf_c_M_like_1 x kk h_3 c_5)
    · skip
      refine if_ne_f hx hb dX12_like_4 10 (by decide) (by decide) ?_
      refine lv_bipush (v := (-2)) hx hb dX12_like_7 (by decide) ?_
      exact rt_i hx hb hr hlocks hQ hP hD hS () [] dX12_like_9 rfl (Nat.le_of_ble_eq_true rfl) (Nat.le_of_ble_eq_true rfl) rfl (by decide) (lf_c_M_like_2 x kk h_4)
  rw [hH, hlo] at hgo
  exact hgo
abbrev rm_c_M_part : Room := { frames := 0, cells := 0, slots := 0, locals := 0 }
set_option maxHeartbeats 4000000 in
set_option maxRecDepth 100000 in
theorem c_M_part (l : Launch) (g : va_G) (cT : Nat → ClassId) (sz : Nat) (t : Int64) (i : Int32)  : Ctr l g cT sz yX12_part wsX12_part rm_c_M_part [.long t, .int i] [] (QI g (fun (r : Int32) (u : Unit) => r = ((t >>> (((4 : Int32) * i).toInt64 &&& 63)) &&& (15 : Int64)).toInt32) (fun (u : Unit) => [])) 0 0 := by
  refine mk_ctr (cc := cX12_part) (maxL := 3) (ret := (some .int)) (by decide) rfl (Nat.le_of_ble_eq_true rfl) ?_
  intro p e s m args below meth c A Q hx hb hr hts hown hlocks hin hml hP hK hD hN hZ hA hS hQ ls hl
  have hl : lv_has ls 3 [(0, .long t), (2, .int i)] := hl
  obtain ⟨H, hH⟩ : ∃ H : Heap, H = s.heap := ⟨_, rfl⟩
  obtain ⟨locs, hlo⟩ : ∃ x : List Loc, x = [] := ⟨_, rfl⟩
  rw [← hH] at hP
  have hS : va_S A s.heap H locs := by rw [hH, hlo]; exact hS
  have hgo : W p l e rm_c_M_part s m args below meth c H locs 0 0 Q (F0 m 0 ls []) := by
    clear hH hlo
    refine lv_lload_n hx hb dX12_part_0 rfl (lv_at hl 0 rfl) ?_
    refine lv_iconst (v := 4) hx hb dX12_part_1 (by decide) ?_
    refine lv_iload_n hx hb dX12_part_2 rfl (lv_at hl 1 rfl) ?_
    refine w_imul (v := (4 : Int32) * i) hx hb dX12_part_3 rfl ?_
    refine lv_lshr (v := t >>> (((4 : Int32) * i).toInt64 &&& 63)) hx hb dX12_part_4 rfl ?_
    refine lv_ldc2 (v := 15) hx hb hown (hts (.constantLong RX12 210 (15)) (by decide +kernel)) dX12_part_5 ?_
    refine w_land (v := (t >>> (((4 : Int32) * i).toInt64 &&& 63)) &&& (15 : Int64)) hx hb dX12_part_8 rfl ?_
    refine lv_l2i (v := ((t >>> (((4 : Int32) * i).toInt64 &&& 63)) &&& (15 : Int64)).toInt32) hx hb dX12_part_9 rfl ?_
    exact rt_i hx hb hr hlocks hQ hP hD hS () [] dX12_part_10 rfl (Nat.le_of_ble_eq_true rfl) (Nat.le_of_ble_eq_true rfl) rfl (by decide) rfl
  rw [hH, hlo] at hgo
  exact hgo
theorem hi_X12_emptyBeginning_X12 : ∀ w ∈ wsX120, w ∈ wsX12_emptyBeginning := fun _ h => List.mem_cons_of_mem _ (List.mem_append_right _ h)
abbrev rm_c_M_emptyBeginning_0 : Room := { frames := 1, cells := 0, slots := 0, locals := 22 }
set_option maxHeartbeats 4000000 in
set_option maxRecDepth 100000 in
theorem c_M_emptyBeginning_0 (l : Launch) (g : va_G) (cT : Nat → ClassId) (sz : Nat) (y : Nat) (qq : Nat → Nat) (z6 : Int32) (z12 : Int32) (z14 : Int32) (z15 : Int32) (z16 : Int32) (z17 : Int32) (z19 : Int32) (z21 : Int32) (z22 : Int32) (z23 : Int32) (z24 : Int32) (z26 : Int32) (z30 : Int32)  : Ctr l g cT sz yX12_emptyBeginning wsX12_emptyBeginning rm_c_M_emptyBeginning_0 [.ref y, .int 0] [(y, .inr (12, [.ref (qq 0), .ref (qq 1), .ref (qq 2), .ref (qq 3), .ref (qq 4), .ref (qq 5), .int z6, .ref (qq 7), .ref (qq 8), .ref (qq 9), .ref (qq 10), .ref (qq 11), .int z12, .ref (qq 13), .int z14, .int z15, .int z16, .int z17, .ref (qq 18), .int z19, .ref (qq 20), .int z21, .int z22, .int z23, .int z24, .ref (qq 25), .int z26, .ref (qq 27), .ref (qq 28), .ref (qq 29), .int z30, .ref (qq 31), .ref (qq 32), .ref (qq 33), .ref (qq 34), .ref (qq 35), .ref (qq 36), .ref (qq 37), .ref (qq 38), .ref (qq 39), .ref (qq 40), .ref (qq 41), .ref (qq 42)])), ((qq 0), .inl (cT 0, 2, .inl (fun _ => 1))), ((qq 2), .inl (cT 0, 50, .inl (fun _ => (-1))))] (QL g (fun (r : Int64) (u : Unit) => r = 170) (fun (u : Unit) => [(y, .inr (12, [.ref (qq 0), .ref (qq 1), .ref (qq 2), .ref (qq 3), .ref (qq 4), .ref (qq 5), .int z6, .ref (qq 7), .ref (qq 8), .ref (qq 9), .ref (qq 10), .ref (qq 11), .int z12, .ref (qq 13), .int z14, .int z15, .int z16, .int z17, .ref (qq 18), .int z19, .ref (qq 20), .int z21, .int z22, .int z23, .int z24, .ref (qq 25), .int z26, .ref (qq 27), .ref (qq 28), .ref (qq 29), .int z30, .ref (qq 31), .ref (qq 32), .ref (qq 33), .ref (qq 34), .ref (qq 35), .ref (qq 36), .ref (qq 37), .ref (qq 38), .ref (qq 39), .ref (qq 40), .ref (qq 41), .ref (qq 42)])), ((qq 0), .inl (cT 0, 2, .inl (fun _ => 1))), ((qq 2), .inl (cT 0, 50, .inl (fun _ => (-1))))])) 0 0 := by
  refine mk_ctr (cc := cX12_emptyBeginning) (maxL := 7) (ret := (some .long)) (by decide) rfl (Nat.le_of_ble_eq_true rfl) ?_
  intro p e s m args below meth c A Q hx hb hr hts hown hlocks hin hml hP hK hD hN hZ hA hS hQ ls hl
  have hl : lv_has ls 7 [(0, .ref y), (1, .int 0)] := hl
  obtain ⟨H, hH⟩ : ∃ H : Heap, H = s.heap := ⟨_, rfl⟩
  obtain ⟨locs, hlo⟩ : ∃ x : List Loc, x = [] := ⟨_, rfl⟩
  rw [← hH] at hP
  have hS : va_S A s.heap H locs := by rw [hH, hlo]; exact hS
  have hgo : W p l e rm_c_M_emptyBeginning_0 s m args below meth c H locs 0 0 Q (F0 m 0 ls []) := by
    clear hH hlo
    refine lv_lconst (v := 0) hx hb dX12_emptyBeginning_0 (by decide) ?_
    refine lv_lstore_n (lv' := [(2, .long 0), (0, .ref y), (1, .int 0)]) hx hb dX12_emptyBeginning_1 rfl hl (by decide) rfl (fun ls hl => ?_)
    refine lv_iconst (v := 0) hx hb dX12_emptyBeginning_2 (by decide) ?_
    refine lv_istore (lv' := [(4, .int 0), (2, .long 0), (0, .ref y), (1, .int 0)]) hx hb dX12_emptyBeginning_3 hl (by decide) rfl (fun ls hl => ?_)
    refine lv_iload hx hb dX12_emptyBeginning_5 (lv_at hl 0 rfl) ?_
    refine lv_aload_n hx hb dX12_emptyBeginning_7 rfl (lv_at hl 2 rfl) ?_
    refine va_get (C := RX12) (T := TX12) (N := 43) (v := .ref (qq 0)) hx hb hts hi_X12_emptyBeginning_X12 hown hK hP 0 rfl rfl 0 (by decide) (hts (.fieldLink RX12 7 "BothWaysModel" "states" "[I") (by decide +kernel)) (fun _ h => h) rfl dX12_emptyBeginning_8 ?_
    refine lv_iload_n hx hb dX12_emptyBeginning_11 rfl (lv_at hl 3 rfl) ?_
    refine w_iald (v := 1) hx hb hK hP 1 rfl dX12_emptyBeginning_12 (inC (by decide)) rfl ?_
    refine icmp_gt_f hx hb dX12_emptyBeginning_13 74 (by decide) (by decide) ?_
    refine lv_iload hx hb dX12_emptyBeginning_16 (lv_at hl 0 rfl) ?_
    refine if_ne_f hx hb dX12_emptyBeginning_18 25 (by decide) (by decide) ?_
    refine lv_iconst (v := 0) hx hb dX12_emptyBeginning_21 (by decide) ?_
    refine lv_goto (tgt := 29) hx hb dX12_emptyBeginning_22 (by decide) ?_
    refine lv_istore (lv' := [(5, .int 0), (4, .int 0), (2, .long 0), (0, .ref y), (1, .int 0)]) hx hb dX12_emptyBeginning_29 hl (by decide) rfl (fun ls hl => ?_)
    refine lv_aload_n hx hb dX12_emptyBeginning_31 rfl (lv_at hl 3 rfl) ?_
    refine va_get (C := RX12) (T := TX12) (N := 43) (v := .ref (qq 2)) hx hb hts hi_X12_emptyBeginning_X12 hown hK hP 0 rfl rfl 2 (by decide) (hts (.fieldLink RX12 16 "BothWaysModel" "goTo" "[I") (by decide +kernel)) (fun _ h => h) rfl dX12_emptyBeginning_32 ?_
    refine lv_iload_n hx hb dX12_emptyBeginning_35 rfl (lv_at hl 4 rfl) ?_
    refine lv_iload hx hb dX12_emptyBeginning_36 (lv_at hl 0 rfl) ?_
    refine lv_iconst (v := 3) hx hb dX12_emptyBeginning_38 (by decide) ?_
    refine cp_i (va_runS (As := [.int 0, .int 0, .int 3]) (rest := [.ref (qq 2)]) ⟨hx, hb, hml, hown, hts⟩ (c_M_at0 l g cT H.size 0 0 3) (va_cwS 3 hts gX12_emptyBeginning_X12_at0 rfl rfl rfl yd_X12_at0.2 ⟨(Nat.le_of_ble_eq_true rfl), (Nat.le_of_ble_eq_true rfl)⟩) (preS (ws := []) (wc := []) rfl (fun _ _ h => by simp at h) (va_D_nil (A := A)) hK hN hZ hS hA [] rfl rfl) rfl rfl hl.1 rfl (lv_room (Nat.le_of_ble_eq_true rfl)) dX12_emptyBeginning_39 ⟨(Nat.le_of_ble_eq_true rfl), (Nat.le_of_ble_eq_true rfl)⟩) hP hS hA (fun r_1 u H locs h_2 hP hS => ?_)
    subst h_2
    refine tI 3 (by decide) ?_
    refine w_iald (v := (-1)) hx hb hK hP 2 rfl dX12_emptyBeginning_42 (inC (by decide)) rfl ?_
    refine lv_istore (lv' := [(6, .int (-1)), (5, .int 0), (4, .int 0), (2, .long 0), (0, .ref y), (1, .int 0)]) hx hb dX12_emptyBeginning_43 hl (by decide) rfl (fun ls hl => ?_)
    refine lv_lload_n hx hb dX12_emptyBeginning_45 rfl (lv_at hl 3 rfl) ?_
    refine lv_iload hx hb dX12_emptyBeginning_46 (lv_at hl 0 rfl) ?_
    refine lv_iconst (v := (-1)) hx hb dX12_emptyBeginning_48 (by decide) ?_
    refine icmp_ne_f hx hb dX12_emptyBeginning_49 58 (by decide) (by decide) ?_
    refine lv_ldc2 (v := 10) hx hb hown (hts (.constantLong RX12 212 (10)) (by decide +kernel)) dX12_emptyBeginning_52 ?_
    refine lv_goto (tgt := 61) hx hb dX12_emptyBeginning_55 (by decide) ?_
    refine lv_iconst (v := 4) hx hb dX12_emptyBeginning_61 (by decide) ?_
    refine lv_iload hx hb dX12_emptyBeginning_62 (lv_at hl 2 rfl) ?_
    refine w_imul (v := 0) hx hb dX12_emptyBeginning_64 (by decide) ?_
    refine lv_lshl (v := 10) hx hb dX12_emptyBeginning_65 (by decide) ?_
    refine w_lor (v := 10) hx hb dX12_emptyBeginning_66 (by decide) ?_
    refine lv_lstore_n (lv' := [(2, .long 10), (6, .int (-1)), (5, .int 0), (4, .int 0), (0, .ref y), (1, .int 0)]) hx hb dX12_emptyBeginning_67 rfl hl (by decide) rfl (fun ls hl => ?_)
    refine lv_iinc (v := 1) (lv' := [(4, .int 1), (2, .long 10), (6, .int (-1)), (5, .int 0), (0, .ref y), (1, .int 0)]) hx hb dX12_emptyBeginning_68 hl (k := 3) rfl (by decide) (by decide) rfl (fun ls hl => ?_)
    refine lv_goto (tgt := 5) hx hb dX12_emptyBeginning_71 (by decide) ?_
    refine lv_iload hx hb dX12_emptyBeginning_5 (lv_at hl 0 rfl) ?_
    refine lv_aload_n hx hb dX12_emptyBeginning_7 rfl (lv_at hl 4 rfl) ?_
    refine va_get (C := RX12) (T := TX12) (N := 43) (v := .ref (qq 0)) hx hb hts hi_X12_emptyBeginning_X12 hown hK hP 0 rfl rfl 0 (by decide) (hts (.fieldLink RX12 7 "BothWaysModel" "states" "[I") (by decide +kernel)) (fun _ h => h) rfl dX12_emptyBeginning_8 ?_
    refine lv_iload_n hx hb dX12_emptyBeginning_11 rfl (lv_at hl 5 rfl) ?_
    refine w_iald (v := 1) hx hb hK hP 1 rfl dX12_emptyBeginning_12 (inC (by decide)) rfl ?_
    refine icmp_gt_f hx hb dX12_emptyBeginning_13 74 (by decide) (by decide) ?_
    refine lv_iload hx hb dX12_emptyBeginning_16 (lv_at hl 0 rfl) ?_
    refine if_ne_t hx hb 25 dX12_emptyBeginning_18 (by decide) (by decide) ?_
    refine lv_iload hx hb dX12_emptyBeginning_25 (lv_at hl 0 rfl) ?_
    refine lv_iconst (v := 1) hx hb dX12_emptyBeginning_27 (by decide) ?_
    refine w_isub (v := 0) hx hb dX12_emptyBeginning_28 (by decide) ?_
    refine lv_istore (lv' := [(5, .int 0), (4, .int 1), (2, .long 10), (6, .int (-1)), (0, .ref y), (1, .int 0)]) hx hb dX12_emptyBeginning_29 hl (by decide) rfl (fun ls hl => ?_)
    refine lv_aload_n hx hb dX12_emptyBeginning_31 rfl (lv_at hl 4 rfl) ?_
    refine va_get (C := RX12) (T := TX12) (N := 43) (v := .ref (qq 2)) hx hb hts hi_X12_emptyBeginning_X12 hown hK hP 0 rfl rfl 2 (by decide) (hts (.fieldLink RX12 16 "BothWaysModel" "goTo" "[I") (by decide +kernel)) (fun _ h => h) rfl dX12_emptyBeginning_32 ?_
    refine lv_iload_n hx hb dX12_emptyBeginning_35 rfl (lv_at hl 5 rfl) ?_
    refine lv_iload hx hb dX12_emptyBeginning_36 (lv_at hl 0 rfl) ?_
    refine lv_iconst (v := 3) hx hb dX12_emptyBeginning_38 (by decide) ?_
    refine cp_i (va_runS (As := [.int 0, .int 0, .int 3]) (rest := [.ref (qq 2)]) ⟨hx, hb, hml, hown, hts⟩ (c_M_at0 l g cT H.size 0 0 3) (va_cwS 3 hts gX12_emptyBeginning_X12_at0 rfl rfl rfl yd_X12_at0.2 ⟨(Nat.le_of_ble_eq_true rfl), (Nat.le_of_ble_eq_true rfl)⟩) (preS (ws := []) (wc := []) rfl (fun _ _ h => by simp at h) (va_D_nil (A := A)) hK hN hZ hS hA [] rfl rfl) rfl rfl hl.1 rfl (lv_room (Nat.le_of_ble_eq_true rfl)) dX12_emptyBeginning_39 ⟨(Nat.le_of_ble_eq_true rfl), (Nat.le_of_ble_eq_true rfl)⟩) hP hS hA (fun r_3 u H locs h_4 hP hS => ?_)
    subst h_4
    refine tI 3 (by decide) ?_
    refine w_iald (v := (-1)) hx hb hK hP 2 rfl dX12_emptyBeginning_42 (inC (by decide)) rfl ?_
    refine lv_istore (lv' := [(6, .int (-1)), (5, .int 0), (4, .int 1), (2, .long 10), (0, .ref y), (1, .int 0)]) hx hb dX12_emptyBeginning_43 hl (by decide) rfl (fun ls hl => ?_)
    refine lv_lload_n hx hb dX12_emptyBeginning_45 rfl (lv_at hl 3 rfl) ?_
    refine lv_iload hx hb dX12_emptyBeginning_46 (lv_at hl 0 rfl) ?_
    refine lv_iconst (v := (-1)) hx hb dX12_emptyBeginning_48 (by decide) ?_
    refine icmp_ne_f hx hb dX12_emptyBeginning_49 58 (by decide) (by decide) ?_
    refine lv_ldc2 (v := 10) hx hb hown (hts (.constantLong RX12 212 (10)) (by decide +kernel)) dX12_emptyBeginning_52 ?_
    refine lv_goto (tgt := 61) hx hb dX12_emptyBeginning_55 (by decide) ?_
    refine lv_iconst (v := 4) hx hb dX12_emptyBeginning_61 (by decide) ?_
    refine lv_iload hx hb dX12_emptyBeginning_62 (lv_at hl 2 rfl) ?_
    refine w_imul (v := 4) hx hb dX12_emptyBeginning_64 (by decide) ?_
    refine lv_lshl (v := 160) hx hb dX12_emptyBeginning_65 (by decide) ?_
    refine w_lor (v := 170) hx hb dX12_emptyBeginning_66 (by decide) ?_
    refine lv_lstore_n (lv' := [(2, .long 170), (6, .int (-1)), (5, .int 0), (4, .int 1), (0, .ref y), (1, .int 0)]) hx hb dX12_emptyBeginning_67 rfl hl (by decide) rfl (fun ls hl => ?_)
    refine lv_iinc (v := 2) (lv' := [(4, .int 2), (2, .long 170), (6, .int (-1)), (5, .int 0), (0, .ref y), (1, .int 0)]) hx hb dX12_emptyBeginning_68 hl (k := 3) rfl (by decide) (by decide) rfl (fun ls hl => ?_)
    refine lv_goto (tgt := 5) hx hb dX12_emptyBeginning_71 (by decide) ?_
    refine lv_iload hx hb dX12_emptyBeginning_5 (lv_at hl 0 rfl) ?_
    refine lv_aload_n hx hb dX12_emptyBeginning_7 rfl (lv_at hl 4 rfl) ?_
    refine va_get (C := RX12) (T := TX12) (N := 43) (v := .ref (qq 0)) hx hb hts hi_X12_emptyBeginning_X12 hown hK hP 0 rfl rfl 0 (by decide) (hts (.fieldLink RX12 7 "BothWaysModel" "states" "[I") (by decide +kernel)) (fun _ h => h) rfl dX12_emptyBeginning_8 ?_
    refine lv_iload_n hx hb dX12_emptyBeginning_11 rfl (lv_at hl 5 rfl) ?_
    refine w_iald (v := 1) hx hb hK hP 1 rfl dX12_emptyBeginning_12 (inC (by decide)) rfl ?_
    refine icmp_gt_t hx hb 74 dX12_emptyBeginning_13 (by decide) (by decide) ?_
    refine lv_lload_n hx hb dX12_emptyBeginning_74 rfl (lv_at hl 1 rfl) ?_
    exact rt_l hx hb hr hlocks hQ hP hD hS () [0, 1, 2] dX12_emptyBeginning_75 (Nat.le_of_ble_eq_true rfl) (Nat.le_of_ble_eq_true rfl) rfl (by decide) rfl
  rw [hH, hlo] at hgo
  exact hgo
theorem hi_X12_onWith_X12 : ∀ w ∈ wsX120, w ∈ wsX12_onWith := fun _ h => List.mem_cons_of_mem _ (List.mem_append_right _ h)
abbrev rm_c_M_onWith_0_0 : Room := { frames := 1, cells := 0, slots := 0, locals := 22 }
set_option maxHeartbeats 4000000 in
set_option maxRecDepth 100000 in
theorem c_M_onWith_0_0 (l : Launch) (g : va_G) (cT : Nat → ClassId) (sz : Nat) (y : Nat) (qq : Nat → Nat) (z6 : Int32) (z12 : Int32) (z14 : Int32) (z15 : Int32) (z16 : Int32) (z17 : Int32) (z19 : Int32) (z21 : Int32) (z22 : Int32) (z23 : Int32) (z24 : Int32) (z26 : Int32) (z30 : Int32)  : Ctr l g cT sz yX12_onWith wsX12_onWith rm_c_M_onWith_0_0 [.ref y, .int 0, .long 170, .int 0, .int 0] [(y, .inr (12, [.ref (qq 0), .ref (qq 1), .ref (qq 2), .ref (qq 3), .ref (qq 4), .ref (qq 5), .int z6, .ref (qq 7), .ref (qq 8), .ref (qq 9), .ref (qq 10), .ref (qq 11), .int z12, .ref (qq 13), .int z14, .int z15, .int z16, .int z17, .ref (qq 18), .int z19, .ref (qq 20), .int z21, .int z22, .int z23, .int z24, .ref (qq 25), .int z26, .ref (qq 27), .ref (qq 28), .ref (qq 29), .int z30, .ref (qq 31), .ref (qq 32), .ref (qq 33), .ref (qq 34), .ref (qq 35), .ref (qq 36), .ref (qq 37), .ref (qq 38), .ref (qq 39), .ref (qq 40), .ref (qq 41), .ref (qq 42)])), ((qq 2), .inl (cT 0, 50, .inl (fun _ => (-1))))] (QI g (fun (r : Int32) (u : Unit) => r = 10) (fun (u : Unit) => [(y, .inr (12, [.ref (qq 0), .ref (qq 1), .ref (qq 2), .ref (qq 3), .ref (qq 4), .ref (qq 5), .int z6, .ref (qq 7), .ref (qq 8), .ref (qq 9), .ref (qq 10), .ref (qq 11), .int z12, .ref (qq 13), .int z14, .int z15, .int z16, .int z17, .ref (qq 18), .int z19, .ref (qq 20), .int z21, .int z22, .int z23, .int z24, .ref (qq 25), .int z26, .ref (qq 27), .ref (qq 28), .ref (qq 29), .int z30, .ref (qq 31), .ref (qq 32), .ref (qq 33), .ref (qq 34), .ref (qq 35), .ref (qq 36), .ref (qq 37), .ref (qq 38), .ref (qq 39), .ref (qq 40), .ref (qq 41), .ref (qq 42)])), ((qq 2), .inl (cT 0, 50, .inl (fun _ => (-1))))])) 0 0 := by
  refine mk_ctr (cc := cX12_onWith) (maxL := 10) (ret := (some .int)) (by decide) rfl (Nat.le_of_ble_eq_true rfl) ?_
  intro p e s m args below meth c A Q hx hb hr hts hown hlocks hin hml hP hK hD hN hZ hA hS hQ ls hl
  have hl : lv_has ls 10 [(0, .ref y), (1, .int 0), (2, .long 170), (4, .int 0), (5, .int 0)] := hl
  obtain ⟨H, hH⟩ : ∃ H : Heap, H = s.heap := ⟨_, rfl⟩
  obtain ⟨locs, hlo⟩ : ∃ x : List Loc, x = [] := ⟨_, rfl⟩
  rw [← hH] at hP
  have hS : va_S A s.heap H locs := by rw [hH, hlo]; exact hS
  have hgo : W p l e rm_c_M_onWith_0_0 s m args below meth c H locs 0 0 Q (F0 m 0 ls []) := by
    clear hH hlo
    refine lv_iload hx hb dX12_onWith_0 (lv_at hl 4 rfl) ?_
    refine lv_istore (lv' := [(6, .int 0), (0, .ref y), (1, .int 0), (2, .long 170), (4, .int 0), (5, .int 0)]) hx hb dX12_onWith_2 hl (by decide) rfl (fun ls hl => ?_)
    refine lv_iconst (v := 0) hx hb dX12_onWith_4 (by decide) ?_
    refine lv_istore (lv' := [(7, .int 0), (6, .int 0), (0, .ref y), (1, .int 0), (2, .long 170), (4, .int 0), (5, .int 0)]) hx hb dX12_onWith_5 hl (by decide) rfl (fun ls hl => ?_)
    refine lv_iload hx hb dX12_onWith_7 (lv_at hl 0 rfl) ?_
    refine lv_bipush (v := 24) hx hb dX12_onWith_9 (by decide) ?_
    refine icmp_ge_f hx hb dX12_onWith_11 92 (by decide) (by decide) ?_
    refine lv_iload_n hx hb dX12_onWith_14 rfl (lv_at hl 3 rfl) ?_
    refine lv_iload hx hb dX12_onWith_15 (lv_at hl 1 rfl) ?_
    refine lv_iload hx hb dX12_onWith_17 (lv_at hl 5 rfl) ?_
    refine cp_i (va_runS (As := [.int 0, .int 0, .int 0]) (rest := []) ⟨hx, hb, hml, hown, hts⟩ (c_M_at0 l g cT H.size 0 0 0) (va_cwS 3 hts gX12_onWith_X12_at0 rfl rfl rfl yd_X12_at0.2 ⟨(Nat.le_of_ble_eq_true rfl), (Nat.le_of_ble_eq_true rfl)⟩) (preS (ws := []) (wc := []) rfl (fun _ _ h => by simp at h) (va_D_nil (A := A)) hK hN hZ hS hA [] rfl rfl) rfl rfl hl.1 rfl (lv_room (Nat.le_of_ble_eq_true rfl)) dX12_onWith_19 ⟨(Nat.le_of_ble_eq_true rfl), (Nat.le_of_ble_eq_true rfl)⟩) hP hS hA (fun r_1 u H locs h_2 hP hS => ?_)
    subst h_2
    refine tI 0 (by decide) ?_
    refine lv_istore (lv' := [(8, .int 0), (7, .int 0), (6, .int 0), (0, .ref y), (1, .int 0), (2, .long 170), (4, .int 0), (5, .int 0)]) hx hb dX12_onWith_22 hl (by decide) rfl (fun ls hl => ?_)
    refine lv_aload_n hx hb dX12_onWith_24 rfl (lv_at hl 3 rfl) ?_
    refine va_get (C := RX12) (T := TX12) (N := 43) (v := .ref (qq 2)) hx hb hts hi_X12_onWith_X12 hown hK hP 0 rfl rfl 2 (by decide) (hts (.fieldLink RX12 16 "BothWaysModel" "goTo" "[I") (by decide +kernel)) (fun _ h => h) rfl dX12_onWith_25 ?_
    refine lv_iload hx hb dX12_onWith_28 (lv_at hl 0 rfl) ?_
    refine w_iald (v := (-1)) hx hb hK hP 1 rfl dX12_onWith_30 (inC (by decide)) rfl ?_
    refine lv_iconst (v := (-1)) hx hb dX12_onWith_31 (by decide) ?_
    refine icmp_ne_f hx hb dX12_onWith_32 38 (by decide) (by decide) ?_
    refine lv_bipush (v := 10) hx hb dX12_onWith_35 (by decide) ?_
    exact rt_i hx hb hr hlocks hQ hP hD hS () [0, 1] dX12_onWith_37 rfl (Nat.le_of_ble_eq_true rfl) (Nat.le_of_ble_eq_true rfl) rfl (by decide) rfl
  rw [hH, hlo] at hgo
  exact hgo
abbrev rm_c_M_onWith_0_1 : Room := { frames := 1, cells := 0, slots := 0, locals := 22 }
set_option maxHeartbeats 4000000 in
set_option maxRecDepth 100000 in
theorem c_M_onWith_0_1 (l : Launch) (g : va_G) (cT : Nat → ClassId) (sz : Nat) (y : Nat) (qq : Nat → Nat) (z6 : Int32) (z12 : Int32) (z14 : Int32) (z15 : Int32) (z16 : Int32) (z17 : Int32) (z19 : Int32) (z21 : Int32) (z22 : Int32) (z23 : Int32) (z24 : Int32) (z26 : Int32) (z30 : Int32)  : Ctr l g cT sz yX12_onWith wsX12_onWith rm_c_M_onWith_0_1 [.ref y, .int 0, .long 170, .int 1, .int 0] [(y, .inr (12, [.ref (qq 0), .ref (qq 1), .ref (qq 2), .ref (qq 3), .ref (qq 4), .ref (qq 5), .int z6, .ref (qq 7), .ref (qq 8), .ref (qq 9), .ref (qq 10), .ref (qq 11), .int z12, .ref (qq 13), .int z14, .int z15, .int z16, .int z17, .ref (qq 18), .int z19, .ref (qq 20), .int z21, .int z22, .int z23, .int z24, .ref (qq 25), .int z26, .ref (qq 27), .ref (qq 28), .ref (qq 29), .int z30, .ref (qq 31), .ref (qq 32), .ref (qq 33), .ref (qq 34), .ref (qq 35), .ref (qq 36), .ref (qq 37), .ref (qq 38), .ref (qq 39), .ref (qq 40), .ref (qq 41), .ref (qq 42)])), ((qq 2), .inl (cT 0, 50, .inl (fun _ => (-1))))] (QI g (fun (r : Int32) (u : Unit) => r = 10) (fun (u : Unit) => [(y, .inr (12, [.ref (qq 0), .ref (qq 1), .ref (qq 2), .ref (qq 3), .ref (qq 4), .ref (qq 5), .int z6, .ref (qq 7), .ref (qq 8), .ref (qq 9), .ref (qq 10), .ref (qq 11), .int z12, .ref (qq 13), .int z14, .int z15, .int z16, .int z17, .ref (qq 18), .int z19, .ref (qq 20), .int z21, .int z22, .int z23, .int z24, .ref (qq 25), .int z26, .ref (qq 27), .ref (qq 28), .ref (qq 29), .int z30, .ref (qq 31), .ref (qq 32), .ref (qq 33), .ref (qq 34), .ref (qq 35), .ref (qq 36), .ref (qq 37), .ref (qq 38), .ref (qq 39), .ref (qq 40), .ref (qq 41), .ref (qq 42)])), ((qq 2), .inl (cT 0, 50, .inl (fun _ => (-1))))])) 0 0 := by
  refine mk_ctr (cc := cX12_onWith) (maxL := 10) (ret := (some .int)) (by decide) rfl (Nat.le_of_ble_eq_true rfl) ?_
  intro p e s m args below meth c A Q hx hb hr hts hown hlocks hin hml hP hK hD hN hZ hA hS hQ ls hl
  have hl : lv_has ls 10 [(0, .ref y), (1, .int 0), (2, .long 170), (4, .int 1), (5, .int 0)] := hl
  obtain ⟨H, hH⟩ : ∃ H : Heap, H = s.heap := ⟨_, rfl⟩
  obtain ⟨locs, hlo⟩ : ∃ x : List Loc, x = [] := ⟨_, rfl⟩
  rw [← hH] at hP
  have hS : va_S A s.heap H locs := by rw [hH, hlo]; exact hS
  have hgo : W p l e rm_c_M_onWith_0_1 s m args below meth c H locs 0 0 Q (F0 m 0 ls []) := by
    clear hH hlo
    refine lv_iload hx hb dX12_onWith_0 (lv_at hl 4 rfl) ?_
    refine lv_istore (lv' := [(6, .int 0), (0, .ref y), (1, .int 0), (2, .long 170), (4, .int 1), (5, .int 0)]) hx hb dX12_onWith_2 hl (by decide) rfl (fun ls hl => ?_)
    refine lv_iconst (v := 0) hx hb dX12_onWith_4 (by decide) ?_
    refine lv_istore (lv' := [(7, .int 0), (6, .int 0), (0, .ref y), (1, .int 0), (2, .long 170), (4, .int 1), (5, .int 0)]) hx hb dX12_onWith_5 hl (by decide) rfl (fun ls hl => ?_)
    refine lv_iload hx hb dX12_onWith_7 (lv_at hl 0 rfl) ?_
    refine lv_bipush (v := 24) hx hb dX12_onWith_9 (by decide) ?_
    refine icmp_ge_f hx hb dX12_onWith_11 92 (by decide) (by decide) ?_
    refine lv_iload_n hx hb dX12_onWith_14 rfl (lv_at hl 3 rfl) ?_
    refine lv_iload hx hb dX12_onWith_15 (lv_at hl 1 rfl) ?_
    refine lv_iload hx hb dX12_onWith_17 (lv_at hl 5 rfl) ?_
    refine cp_i (va_runS (As := [.int 0, .int 0, .int 1]) (rest := []) ⟨hx, hb, hml, hown, hts⟩ (c_M_at0 l g cT H.size 0 0 1) (va_cwS 3 hts gX12_onWith_X12_at0 rfl rfl rfl yd_X12_at0.2 ⟨(Nat.le_of_ble_eq_true rfl), (Nat.le_of_ble_eq_true rfl)⟩) (preS (ws := []) (wc := []) rfl (fun _ _ h => by simp at h) (va_D_nil (A := A)) hK hN hZ hS hA [] rfl rfl) rfl rfl hl.1 rfl (lv_room (Nat.le_of_ble_eq_true rfl)) dX12_onWith_19 ⟨(Nat.le_of_ble_eq_true rfl), (Nat.le_of_ble_eq_true rfl)⟩) hP hS hA (fun r_1 u H locs h_2 hP hS => ?_)
    subst h_2
    refine tI 1 (by decide) ?_
    refine lv_istore (lv' := [(8, .int 1), (7, .int 0), (6, .int 0), (0, .ref y), (1, .int 0), (2, .long 170), (4, .int 1), (5, .int 0)]) hx hb dX12_onWith_22 hl (by decide) rfl (fun ls hl => ?_)
    refine lv_aload_n hx hb dX12_onWith_24 rfl (lv_at hl 3 rfl) ?_
    refine va_get (C := RX12) (T := TX12) (N := 43) (v := .ref (qq 2)) hx hb hts hi_X12_onWith_X12 hown hK hP 0 rfl rfl 2 (by decide) (hts (.fieldLink RX12 16 "BothWaysModel" "goTo" "[I") (by decide +kernel)) (fun _ h => h) rfl dX12_onWith_25 ?_
    refine lv_iload hx hb dX12_onWith_28 (lv_at hl 0 rfl) ?_
    refine w_iald (v := (-1)) hx hb hK hP 1 rfl dX12_onWith_30 (inC (by decide)) rfl ?_
    refine lv_iconst (v := (-1)) hx hb dX12_onWith_31 (by decide) ?_
    refine icmp_ne_f hx hb dX12_onWith_32 38 (by decide) (by decide) ?_
    refine lv_bipush (v := 10) hx hb dX12_onWith_35 (by decide) ?_
    exact rt_i hx hb hr hlocks hQ hP hD hS () [0, 1] dX12_onWith_37 rfl (Nat.le_of_ble_eq_true rfl) (Nat.le_of_ble_eq_true rfl) rfl (by decide) rfl
  rw [hH, hlo] at hgo
  exact hgo
abbrev rm_c_M_onWith_0_2 : Room := { frames := 1, cells := 0, slots := 0, locals := 22 }
set_option maxHeartbeats 4000000 in
set_option maxRecDepth 100000 in
theorem c_M_onWith_0_2 (l : Launch) (g : va_G) (cT : Nat → ClassId) (sz : Nat) (y : Nat) (qq : Nat → Nat) (z6 : Int32) (z12 : Int32) (z14 : Int32) (z15 : Int32) (z16 : Int32) (z17 : Int32) (z19 : Int32) (z21 : Int32) (z22 : Int32) (z23 : Int32) (z24 : Int32) (z26 : Int32) (z30 : Int32)  : Ctr l g cT sz yX12_onWith wsX12_onWith rm_c_M_onWith_0_2 [.ref y, .int 0, .long 170, .int 2, .int 0] [(y, .inr (12, [.ref (qq 0), .ref (qq 1), .ref (qq 2), .ref (qq 3), .ref (qq 4), .ref (qq 5), .int z6, .ref (qq 7), .ref (qq 8), .ref (qq 9), .ref (qq 10), .ref (qq 11), .int z12, .ref (qq 13), .int z14, .int z15, .int z16, .int z17, .ref (qq 18), .int z19, .ref (qq 20), .int z21, .int z22, .int z23, .int z24, .ref (qq 25), .int z26, .ref (qq 27), .ref (qq 28), .ref (qq 29), .int z30, .ref (qq 31), .ref (qq 32), .ref (qq 33), .ref (qq 34), .ref (qq 35), .ref (qq 36), .ref (qq 37), .ref (qq 38), .ref (qq 39), .ref (qq 40), .ref (qq 41), .ref (qq 42)])), ((qq 2), .inl (cT 0, 50, .inl (fun _ => (-1))))] (QI g (fun (r : Int32) (u : Unit) => r = 10) (fun (u : Unit) => [(y, .inr (12, [.ref (qq 0), .ref (qq 1), .ref (qq 2), .ref (qq 3), .ref (qq 4), .ref (qq 5), .int z6, .ref (qq 7), .ref (qq 8), .ref (qq 9), .ref (qq 10), .ref (qq 11), .int z12, .ref (qq 13), .int z14, .int z15, .int z16, .int z17, .ref (qq 18), .int z19, .ref (qq 20), .int z21, .int z22, .int z23, .int z24, .ref (qq 25), .int z26, .ref (qq 27), .ref (qq 28), .ref (qq 29), .int z30, .ref (qq 31), .ref (qq 32), .ref (qq 33), .ref (qq 34), .ref (qq 35), .ref (qq 36), .ref (qq 37), .ref (qq 38), .ref (qq 39), .ref (qq 40), .ref (qq 41), .ref (qq 42)])), ((qq 2), .inl (cT 0, 50, .inl (fun _ => (-1))))])) 0 0 := by
  refine mk_ctr (cc := cX12_onWith) (maxL := 10) (ret := (some .int)) (by decide) rfl (Nat.le_of_ble_eq_true rfl) ?_
  intro p e s m args below meth c A Q hx hb hr hts hown hlocks hin hml hP hK hD hN hZ hA hS hQ ls hl
  have hl : lv_has ls 10 [(0, .ref y), (1, .int 0), (2, .long 170), (4, .int 2), (5, .int 0)] := hl
  obtain ⟨H, hH⟩ : ∃ H : Heap, H = s.heap := ⟨_, rfl⟩
  obtain ⟨locs, hlo⟩ : ∃ x : List Loc, x = [] := ⟨_, rfl⟩
  rw [← hH] at hP
  have hS : va_S A s.heap H locs := by rw [hH, hlo]; exact hS
  have hgo : W p l e rm_c_M_onWith_0_2 s m args below meth c H locs 0 0 Q (F0 m 0 ls []) := by
    clear hH hlo
    refine lv_iload hx hb dX12_onWith_0 (lv_at hl 4 rfl) ?_
    refine lv_istore (lv' := [(6, .int 0), (0, .ref y), (1, .int 0), (2, .long 170), (4, .int 2), (5, .int 0)]) hx hb dX12_onWith_2 hl (by decide) rfl (fun ls hl => ?_)
    refine lv_iconst (v := 0) hx hb dX12_onWith_4 (by decide) ?_
    refine lv_istore (lv' := [(7, .int 0), (6, .int 0), (0, .ref y), (1, .int 0), (2, .long 170), (4, .int 2), (5, .int 0)]) hx hb dX12_onWith_5 hl (by decide) rfl (fun ls hl => ?_)
    refine lv_iload hx hb dX12_onWith_7 (lv_at hl 0 rfl) ?_
    refine lv_bipush (v := 24) hx hb dX12_onWith_9 (by decide) ?_
    refine icmp_ge_f hx hb dX12_onWith_11 92 (by decide) (by decide) ?_
    refine lv_iload_n hx hb dX12_onWith_14 rfl (lv_at hl 3 rfl) ?_
    refine lv_iload hx hb dX12_onWith_15 (lv_at hl 1 rfl) ?_
    refine lv_iload hx hb dX12_onWith_17 (lv_at hl 5 rfl) ?_
    refine cp_i (va_runS (As := [.int 0, .int 0, .int 2]) (rest := []) ⟨hx, hb, hml, hown, hts⟩ (c_M_at0 l g cT H.size 0 0 2) (va_cwS 3 hts gX12_onWith_X12_at0 rfl rfl rfl yd_X12_at0.2 ⟨(Nat.le_of_ble_eq_true rfl), (Nat.le_of_ble_eq_true rfl)⟩) (preS (ws := []) (wc := []) rfl (fun _ _ h => by simp at h) (va_D_nil (A := A)) hK hN hZ hS hA [] rfl rfl) rfl rfl hl.1 rfl (lv_room (Nat.le_of_ble_eq_true rfl)) dX12_onWith_19 ⟨(Nat.le_of_ble_eq_true rfl), (Nat.le_of_ble_eq_true rfl)⟩) hP hS hA (fun r_1 u H locs h_2 hP hS => ?_)
    subst h_2
    refine tI 2 (by decide) ?_
    refine lv_istore (lv' := [(8, .int 2), (7, .int 0), (6, .int 0), (0, .ref y), (1, .int 0), (2, .long 170), (4, .int 2), (5, .int 0)]) hx hb dX12_onWith_22 hl (by decide) rfl (fun ls hl => ?_)
    refine lv_aload_n hx hb dX12_onWith_24 rfl (lv_at hl 3 rfl) ?_
    refine va_get (C := RX12) (T := TX12) (N := 43) (v := .ref (qq 2)) hx hb hts hi_X12_onWith_X12 hown hK hP 0 rfl rfl 2 (by decide) (hts (.fieldLink RX12 16 "BothWaysModel" "goTo" "[I") (by decide +kernel)) (fun _ h => h) rfl dX12_onWith_25 ?_
    refine lv_iload hx hb dX12_onWith_28 (lv_at hl 0 rfl) ?_
    refine w_iald (v := (-1)) hx hb hK hP 1 rfl dX12_onWith_30 (inC (by decide)) rfl ?_
    refine lv_iconst (v := (-1)) hx hb dX12_onWith_31 (by decide) ?_
    refine icmp_ne_f hx hb dX12_onWith_32 38 (by decide) (by decide) ?_
    refine lv_bipush (v := 10) hx hb dX12_onWith_35 (by decide) ?_
    exact rt_i hx hb hr hlocks hQ hP hD hS () [0, 1] dX12_onWith_37 rfl (Nat.le_of_ble_eq_true rfl) (Nat.le_of_ble_eq_true rfl) rfl (by decide) rfl
  rw [hH, hlo] at hgo
  exact hgo
theorem hi_X12_longer_X12 : ∀ w ∈ wsX120, w ∈ wsX12_longer := fun _ h => List.mem_cons_of_mem _ (List.mem_append_right _ h)
theorem yd_X12_part : yX12_part.cls = RX12 ∧ yX12_part.cls ≠ "java/lang/invoke/MethodHandle" ∧ yX12_part.cls ≠ "java/lang/invoke/VarHandle" ∧ (parseMethodDescriptor yX12_part.desc).map (fun d => d.parameters.length) = some 2 := by decide +kernel
theorem yd_X12_onWith : yX12_onWith.cls = RX12 ∧ yX12_onWith.cls ≠ "java/lang/invoke/MethodHandle" ∧ yX12_onWith.cls ≠ "java/lang/invoke/VarHandle" ∧ (parseMethodDescriptor yX12_onWith.desc).map (fun d => d.parameters.length) = some 4 := by decide +kernel
abbrev rm_c_M_longer_0_0 : Room := { frames := 2, cells := 0, slots := 0, locals := 51 }
set_option maxHeartbeats 4000000 in
set_option maxRecDepth 100000 in
theorem c_M_longer_0_0 (l : Launch) (g : va_G) (cT : Nat → ClassId) (sz : Nat) (y : Nat) (qq : Nat → Nat) (z6 : Int32) (z12 : Int32) (z14 : Int32) (z15 : Int32) (z16 : Int32) (z17 : Int32) (z19 : Int32) (z21 : Int32) (z22 : Int32) (z23 : Int32) (z24 : Int32) (z26 : Int32) (z30 : Int32)  : Ctr l g cT sz yX12_longer wsX12_longer rm_c_M_longer_0_0 [.ref y, .int 0, .long 170, .int 0] [(y, .inr (12, [.ref (qq 0), .ref (qq 1), .ref (qq 2), .ref (qq 3), .ref (qq 4), .ref (qq 5), .int z6, .ref (qq 7), .ref (qq 8), .ref (qq 9), .ref (qq 10), .ref (qq 11), .int z12, .ref (qq 13), .int z14, .int z15, .int z16, .int z17, .ref (qq 18), .int z19, .ref (qq 20), .int z21, .int z22, .int z23, .int z24, .ref (qq 25), .int z26, .ref (qq 27), .ref (qq 28), .ref (qq 29), .int z30, .ref (qq 31), .ref (qq 32), .ref (qq 33), .ref (qq 34), .ref (qq 35), .ref (qq 36), .ref (qq 37), .ref (qq 38), .ref (qq 39), .ref (qq 40), .ref (qq 41), .ref (qq 42)])), ((qq 0), .inl (cT 0, 2, .inl (fun _ => 1))), ((qq 2), .inl (cT 0, 50, .inl (fun _ => (-1))))] (QL g (fun (r : Int64) (u : Unit) => r = 170) (fun (u : Unit) => [(y, .inr (12, [.ref (qq 0), .ref (qq 1), .ref (qq 2), .ref (qq 3), .ref (qq 4), .ref (qq 5), .int z6, .ref (qq 7), .ref (qq 8), .ref (qq 9), .ref (qq 10), .ref (qq 11), .int z12, .ref (qq 13), .int z14, .int z15, .int z16, .int z17, .ref (qq 18), .int z19, .ref (qq 20), .int z21, .int z22, .int z23, .int z24, .ref (qq 25), .int z26, .ref (qq 27), .ref (qq 28), .ref (qq 29), .int z30, .ref (qq 31), .ref (qq 32), .ref (qq 33), .ref (qq 34), .ref (qq 35), .ref (qq 36), .ref (qq 37), .ref (qq 38), .ref (qq 39), .ref (qq 40), .ref (qq 41), .ref (qq 42)])), ((qq 0), .inl (cT 0, 2, .inl (fun _ => 1))), ((qq 2), .inl (cT 0, 50, .inl (fun _ => (-1))))])) 0 0 := by
  refine mk_ctr (cc := cX12_longer) (maxL := 9) (ret := (some .long)) (by decide) rfl (Nat.le_of_ble_eq_true rfl) ?_
  intro p e s m args below meth c A Q hx hb hr hts hown hlocks hin hml hP hK hD hN hZ hA hS hQ ls hl
  have hl : lv_has ls 9 [(0, .ref y), (1, .int 0), (2, .long 170), (4, .int 0)] := hl
  obtain ⟨H, hH⟩ : ∃ H : Heap, H = s.heap := ⟨_, rfl⟩
  obtain ⟨locs, hlo⟩ : ∃ x : List Loc, x = [] := ⟨_, rfl⟩
  rw [← hH] at hP
  have hS : va_S A s.heap H locs := by rw [hH, hlo]; exact hS
  have hgo : W p l e rm_c_M_longer_0_0 s m args below meth c H locs 0 0 Q (F0 m 0 ls []) := by
    clear hH hlo
    refine lv_lload_n hx hb dX12_longer_0 rfl (lv_at hl 2 rfl) ?_
    refine lv_iconst (v := 0) hx hb dX12_longer_1 (by decide) ?_
    refine cp_i (va_runS (As := [.long 170, .int 0]) (rest := []) ⟨hx, hb, hml, hown, hts⟩ (c_M_part l g cT H.size 170 0) (va_cwS 2 hts gX12_longer_X12_part rfl rfl rfl yd_X12_part.2 ⟨(Nat.le_of_ble_eq_true rfl), (Nat.le_of_ble_eq_true rfl)⟩) (preS (ws := []) (wc := []) rfl (fun _ _ h => by simp at h) (va_D_nil (A := A)) hK hN hZ hS hA [] rfl rfl) rfl rfl hl.1 rfl (lv_room (Nat.le_of_ble_eq_true rfl)) dX12_longer_2 ⟨(Nat.le_of_ble_eq_true rfl), (Nat.le_of_ble_eq_true rfl)⟩) hP hS hA (fun r_1 u H locs h_2 hP hS => ?_)
    subst h_2
    refine tI 10 (by decide) ?_
    refine lv_istore (lv' := [(5, .int 10), (0, .ref y), (1, .int 0), (2, .long 170), (4, .int 0)]) hx hb dX12_longer_5 hl (by decide) rfl (fun ls hl => ?_)
    refine lv_iload hx hb dX12_longer_7 (lv_at hl 0 rfl) ?_
    refine lv_bipush (v := 9) hx hb dX12_longer_9 (by decide) ?_
    refine icmp_le_f hx hb dX12_longer_11 20 (by decide) (by decide) ?_
    refine lv_iload hx hb dX12_longer_14 (lv_at hl 0 rfl) ?_
    refine lv_i2l (v := 10) hx hb dX12_longer_16 (by decide) ?_
    refine lv_goto (tgt := 31) hx hb dX12_longer_17 (by decide) ?_
    refine lv_lstore (lv' := [(6, .long 10), (5, .int 10), (0, .ref y), (1, .int 0), (2, .long 170), (4, .int 0)]) hx hb dX12_longer_31 hl (by decide) rfl (fun ls hl => ?_)
    refine lv_iconst (v := 0) hx hb dX12_longer_33 (by decide) ?_
    refine lv_istore (lv' := [(8, .int 0), (6, .long 10), (5, .int 10), (0, .ref y), (1, .int 0), (2, .long 170), (4, .int 0)]) hx hb dX12_longer_34 hl (by decide) rfl (fun ls hl => ?_)
    refine lv_iload hx hb dX12_longer_36 (lv_at hl 0 rfl) ?_
    refine lv_aload_n hx hb dX12_longer_38 rfl (lv_at hl 3 rfl) ?_
    refine va_get (C := RX12) (T := TX12) (N := 43) (v := .ref (qq 0)) hx hb hts hi_X12_longer_X12 hown hK hP 0 rfl rfl 0 (by decide) (hts (.fieldLink RX12 7 "BothWaysModel" "states" "[I") (by decide +kernel)) (fun _ h => h) rfl dX12_longer_39 ?_
    refine lv_iload_n hx hb dX12_longer_42 rfl (lv_at hl 4 rfl) ?_
    refine w_iald (v := 1) hx hb hK hP 1 rfl dX12_longer_43 (inC (by decide)) rfl ?_
    refine icmp_ge_f hx hb dX12_longer_44 76 (by decide) (by decide) ?_
    refine lv_lload hx hb dX12_longer_47 (lv_at hl 1 rfl) ?_
    refine lv_aload_n hx hb dX12_longer_49 rfl (lv_at hl 3 rfl) ?_
    refine lv_iload_n hx hb dX12_longer_50 rfl (lv_at hl 4 rfl) ?_
    refine lv_lload_n hx hb dX12_longer_51 rfl (lv_at hl 5 rfl) ?_
    refine lv_iload hx hb dX12_longer_52 (lv_at hl 6 rfl) ?_
    refine lv_iload hx hb dX12_longer_54 (lv_at hl 0 rfl) ?_
    refine cj_i 0 0 (wr := [((qq 0), .inl (cT 0, 2, .inl (fun _ => 1)))]) (va_runV (As := [.int 0, .long 170, .int 0, .int 0]) (rest := [.long 10]) ⟨hx, hb, hml, hown, hts⟩ (c_M_onWith_0_0 l g cT H.size y qq z6 z12 z14 z15 z16 z17 z19 z21 z22 z23 z24 z26 z30) (cwV 4 hts gX12_longer_X12_onWith rfl rfl rfl yd_X12_onWith ⟨(Nat.le_of_ble_eq_true rfl), (Nat.le_of_ble_eq_true rfl)⟩) (preV (wc := [(y, .inr (12, [.ref (qq 0), .ref (qq 1), .ref (qq 2), .ref (qq 3), .ref (qq 4), .ref (qq 5), .int z6, .ref (qq 7), .ref (qq 8), .ref (qq 9), .ref (qq 10), .ref (qq 11), .int z12, .ref (qq 13), .int z14, .int z15, .int z16, .int z17, .ref (qq 18), .int z19, .ref (qq 20), .int z21, .int z22, .int z23, .int z24, .ref (qq 25), .int z26, .ref (qq 27), .ref (qq 28), .ref (qq 29), .int z30, .ref (qq 31), .ref (qq 32), .ref (qq 33), .ref (qq 34), .ref (qq 35), .ref (qq 36), .ref (qq 37), .ref (qq 38), .ref (qq 39), .ref (qq 40), .ref (qq 41), .ref (qq 42)])), ((qq 2), .inl (cT 0, 50, .inl (fun _ => (-1))))]) rfl hP hD hK hN hZ hS hA [0, 2] rfl (by decide) (ci := 12) (q0 := 0) rfl rfl) rfl rfl hl.1 rfl (lv_room (Nat.le_of_ble_eq_true rfl)) dX12_longer_56 ⟨(Nat.le_of_ble_eq_true rfl), (Nat.le_of_ble_eq_true rfl)⟩) hP hD hS hA [0, 2] [1] rfl rfl (by decide) (by decide) (Nat.le_of_ble_eq_true rfl) (Nat.le_of_ble_eq_true rfl) (fun r_3 u H locs h_4 hP hD hS => ?_)
    have hP : va_P g vwCl [((qq 0), .inl (cT 0, 2, .inl (fun _ => 1))), (y, .inr (12, [.ref (qq 0), .ref (qq 1), .ref (qq 2), .ref (qq 3), .ref (qq 4), .ref (qq 5), .int z6, .ref (qq 7), .ref (qq 8), .ref (qq 9), .ref (qq 10), .ref (qq 11), .int z12, .ref (qq 13), .int z14, .int z15, .int z16, .int z17, .ref (qq 18), .int z19, .ref (qq 20), .int z21, .int z22, .int z23, .int z24, .ref (qq 25), .int z26, .ref (qq 27), .ref (qq 28), .ref (qq 29), .int z30, .ref (qq 31), .ref (qq 32), .ref (qq 33), .ref (qq 34), .ref (qq 35), .ref (qq 36), .ref (qq 37), .ref (qq 38), .ref (qq 39), .ref (qq 40), .ref (qq 41), .ref (qq 42)])), ((qq 2), .inl (cT 0, 50, .inl (fun _ => (-1))))] H := hP
    have hD : va_D A [((qq 0), .inl (cT 0, 2, .inl (fun _ => 1))), (y, .inr (12, [.ref (qq 0), .ref (qq 1), .ref (qq 2), .ref (qq 3), .ref (qq 4), .ref (qq 5), .int z6, .ref (qq 7), .ref (qq 8), .ref (qq 9), .ref (qq 10), .ref (qq 11), .int z12, .ref (qq 13), .int z14, .int z15, .int z16, .int z17, .ref (qq 18), .int z19, .ref (qq 20), .int z21, .int z22, .int z23, .int z24, .ref (qq 25), .int z26, .ref (qq 27), .ref (qq 28), .ref (qq 29), .int z30, .ref (qq 31), .ref (qq 32), .ref (qq 33), .ref (qq 34), .ref (qq 35), .ref (qq 36), .ref (qq 37), .ref (qq 38), .ref (qq 39), .ref (qq 40), .ref (qq 41), .ref (qq 42)])), ((qq 2), .inl (cT 0, 50, .inl (fun _ => (-1))))] := hD
    subst h_4
    refine lv_i2l (v := 10) hx hb dX12_longer_59 (by decide) ?_
    refine lv_iconst (v := 4) hx hb dX12_longer_60 (by decide) ?_
    refine lv_iload hx hb dX12_longer_61 (lv_at hl 0 rfl) ?_
    refine lv_iconst (v := 1) hx hb dX12_longer_63 (by decide) ?_
    refine w_iadd (v := 1) hx hb dX12_longer_64 (by decide) ?_
    refine w_imul (v := 4) hx hb dX12_longer_65 (by decide) ?_
    refine lv_lshl (v := 160) hx hb dX12_longer_66 (by decide) ?_
    refine w_lor (v := 170) hx hb dX12_longer_67 (by decide) ?_
    refine lv_lstore (lv' := [(6, .long 170), (8, .int 0), (5, .int 10), (0, .ref y), (1, .int 0), (2, .long 170), (4, .int 0)]) hx hb dX12_longer_68 hl (by decide) rfl (fun ls hl => ?_)
    refine lv_iinc (v := 1) (lv' := [(8, .int 1), (6, .long 170), (5, .int 10), (0, .ref y), (1, .int 0), (2, .long 170), (4, .int 0)]) hx hb dX12_longer_70 hl (k := 1) rfl (by decide) (by decide) rfl (fun ls hl => ?_)
    refine lv_goto (tgt := 36) hx hb dX12_longer_73 (by decide) ?_
    refine lv_iload hx hb dX12_longer_36 (lv_at hl 0 rfl) ?_
    refine lv_aload_n hx hb dX12_longer_38 rfl (lv_at hl 3 rfl) ?_
    refine va_get (C := RX12) (T := TX12) (N := 43) (v := .ref (qq 0)) hx hb hts hi_X12_longer_X12 hown hK hP 1 rfl rfl 0 (by decide) (hts (.fieldLink RX12 7 "BothWaysModel" "states" "[I") (by decide +kernel)) (fun _ h => h) rfl dX12_longer_39 ?_
    refine lv_iload_n hx hb dX12_longer_42 rfl (lv_at hl 4 rfl) ?_
    refine w_iald (v := 1) hx hb hK hP 0 rfl dX12_longer_43 (inC (by decide)) rfl ?_
    refine icmp_ge_t hx hb 76 dX12_longer_44 (by decide) (by decide) ?_
    refine lv_lload hx hb dX12_longer_76 (lv_at hl 1 rfl) ?_
    exact rt_l hx hb hr hlocks hQ hP hD hS () [1, 0, 2] dX12_longer_78 (Nat.le_of_ble_eq_true rfl) (Nat.le_of_ble_eq_true rfl) rfl (by decide) rfl
  rw [hH, hlo] at hgo
  exact hgo
abbrev rm_c_M_longer_0_1 : Room := { frames := 2, cells := 0, slots := 0, locals := 51 }
set_option maxHeartbeats 4000000 in
set_option maxRecDepth 100000 in
theorem c_M_longer_0_1 (l : Launch) (g : va_G) (cT : Nat → ClassId) (sz : Nat) (y : Nat) (qq : Nat → Nat) (z6 : Int32) (z12 : Int32) (z14 : Int32) (z15 : Int32) (z16 : Int32) (z17 : Int32) (z19 : Int32) (z21 : Int32) (z22 : Int32) (z23 : Int32) (z24 : Int32) (z26 : Int32) (z30 : Int32)  : Ctr l g cT sz yX12_longer wsX12_longer rm_c_M_longer_0_1 [.ref y, .int 0, .long 170, .int 1] [(y, .inr (12, [.ref (qq 0), .ref (qq 1), .ref (qq 2), .ref (qq 3), .ref (qq 4), .ref (qq 5), .int z6, .ref (qq 7), .ref (qq 8), .ref (qq 9), .ref (qq 10), .ref (qq 11), .int z12, .ref (qq 13), .int z14, .int z15, .int z16, .int z17, .ref (qq 18), .int z19, .ref (qq 20), .int z21, .int z22, .int z23, .int z24, .ref (qq 25), .int z26, .ref (qq 27), .ref (qq 28), .ref (qq 29), .int z30, .ref (qq 31), .ref (qq 32), .ref (qq 33), .ref (qq 34), .ref (qq 35), .ref (qq 36), .ref (qq 37), .ref (qq 38), .ref (qq 39), .ref (qq 40), .ref (qq 41), .ref (qq 42)])), ((qq 0), .inl (cT 0, 2, .inl (fun _ => 1))), ((qq 2), .inl (cT 0, 50, .inl (fun _ => (-1))))] (QL g (fun (r : Int64) (u : Unit) => r = 170) (fun (u : Unit) => [(y, .inr (12, [.ref (qq 0), .ref (qq 1), .ref (qq 2), .ref (qq 3), .ref (qq 4), .ref (qq 5), .int z6, .ref (qq 7), .ref (qq 8), .ref (qq 9), .ref (qq 10), .ref (qq 11), .int z12, .ref (qq 13), .int z14, .int z15, .int z16, .int z17, .ref (qq 18), .int z19, .ref (qq 20), .int z21, .int z22, .int z23, .int z24, .ref (qq 25), .int z26, .ref (qq 27), .ref (qq 28), .ref (qq 29), .int z30, .ref (qq 31), .ref (qq 32), .ref (qq 33), .ref (qq 34), .ref (qq 35), .ref (qq 36), .ref (qq 37), .ref (qq 38), .ref (qq 39), .ref (qq 40), .ref (qq 41), .ref (qq 42)])), ((qq 0), .inl (cT 0, 2, .inl (fun _ => 1))), ((qq 2), .inl (cT 0, 50, .inl (fun _ => (-1))))])) 0 0 := by
  refine mk_ctr (cc := cX12_longer) (maxL := 9) (ret := (some .long)) (by decide) rfl (Nat.le_of_ble_eq_true rfl) ?_
  intro p e s m args below meth c A Q hx hb hr hts hown hlocks hin hml hP hK hD hN hZ hA hS hQ ls hl
  have hl : lv_has ls 9 [(0, .ref y), (1, .int 0), (2, .long 170), (4, .int 1)] := hl
  obtain ⟨H, hH⟩ : ∃ H : Heap, H = s.heap := ⟨_, rfl⟩
  obtain ⟨locs, hlo⟩ : ∃ x : List Loc, x = [] := ⟨_, rfl⟩
  rw [← hH] at hP
  have hS : va_S A s.heap H locs := by rw [hH, hlo]; exact hS
  have hgo : W p l e rm_c_M_longer_0_1 s m args below meth c H locs 0 0 Q (F0 m 0 ls []) := by
    clear hH hlo
    refine lv_lload_n hx hb dX12_longer_0 rfl (lv_at hl 2 rfl) ?_
    refine lv_iconst (v := 0) hx hb dX12_longer_1 (by decide) ?_
    refine cp_i (va_runS (As := [.long 170, .int 0]) (rest := []) ⟨hx, hb, hml, hown, hts⟩ (c_M_part l g cT H.size 170 0) (va_cwS 2 hts gX12_longer_X12_part rfl rfl rfl yd_X12_part.2 ⟨(Nat.le_of_ble_eq_true rfl), (Nat.le_of_ble_eq_true rfl)⟩) (preS (ws := []) (wc := []) rfl (fun _ _ h => by simp at h) (va_D_nil (A := A)) hK hN hZ hS hA [] rfl rfl) rfl rfl hl.1 rfl (lv_room (Nat.le_of_ble_eq_true rfl)) dX12_longer_2 ⟨(Nat.le_of_ble_eq_true rfl), (Nat.le_of_ble_eq_true rfl)⟩) hP hS hA (fun r_1 u H locs h_2 hP hS => ?_)
    subst h_2
    refine tI 10 (by decide) ?_
    refine lv_istore (lv' := [(5, .int 10), (0, .ref y), (1, .int 0), (2, .long 170), (4, .int 1)]) hx hb dX12_longer_5 hl (by decide) rfl (fun ls hl => ?_)
    refine lv_iload hx hb dX12_longer_7 (lv_at hl 0 rfl) ?_
    refine lv_bipush (v := 9) hx hb dX12_longer_9 (by decide) ?_
    refine icmp_le_f hx hb dX12_longer_11 20 (by decide) (by decide) ?_
    refine lv_iload hx hb dX12_longer_14 (lv_at hl 0 rfl) ?_
    refine lv_i2l (v := 10) hx hb dX12_longer_16 (by decide) ?_
    refine lv_goto (tgt := 31) hx hb dX12_longer_17 (by decide) ?_
    refine lv_lstore (lv' := [(6, .long 10), (5, .int 10), (0, .ref y), (1, .int 0), (2, .long 170), (4, .int 1)]) hx hb dX12_longer_31 hl (by decide) rfl (fun ls hl => ?_)
    refine lv_iconst (v := 0) hx hb dX12_longer_33 (by decide) ?_
    refine lv_istore (lv' := [(8, .int 0), (6, .long 10), (5, .int 10), (0, .ref y), (1, .int 0), (2, .long 170), (4, .int 1)]) hx hb dX12_longer_34 hl (by decide) rfl (fun ls hl => ?_)
    refine lv_iload hx hb dX12_longer_36 (lv_at hl 0 rfl) ?_
    refine lv_aload_n hx hb dX12_longer_38 rfl (lv_at hl 3 rfl) ?_
    refine va_get (C := RX12) (T := TX12) (N := 43) (v := .ref (qq 0)) hx hb hts hi_X12_longer_X12 hown hK hP 0 rfl rfl 0 (by decide) (hts (.fieldLink RX12 7 "BothWaysModel" "states" "[I") (by decide +kernel)) (fun _ h => h) rfl dX12_longer_39 ?_
    refine lv_iload_n hx hb dX12_longer_42 rfl (lv_at hl 4 rfl) ?_
    refine w_iald (v := 1) hx hb hK hP 1 rfl dX12_longer_43 (inC (by decide)) rfl ?_
    refine icmp_ge_f hx hb dX12_longer_44 76 (by decide) (by decide) ?_
    refine lv_lload hx hb dX12_longer_47 (lv_at hl 1 rfl) ?_
    refine lv_aload_n hx hb dX12_longer_49 rfl (lv_at hl 3 rfl) ?_
    refine lv_iload_n hx hb dX12_longer_50 rfl (lv_at hl 4 rfl) ?_
    refine lv_lload_n hx hb dX12_longer_51 rfl (lv_at hl 5 rfl) ?_
    refine lv_iload hx hb dX12_longer_52 (lv_at hl 6 rfl) ?_
    refine lv_iload hx hb dX12_longer_54 (lv_at hl 0 rfl) ?_
    refine cj_i 0 0 (wr := [((qq 0), .inl (cT 0, 2, .inl (fun _ => 1)))]) (va_runV (As := [.int 0, .long 170, .int 1, .int 0]) (rest := [.long 10]) ⟨hx, hb, hml, hown, hts⟩ (c_M_onWith_0_1 l g cT H.size y qq z6 z12 z14 z15 z16 z17 z19 z21 z22 z23 z24 z26 z30) (cwV 4 hts gX12_longer_X12_onWith rfl rfl rfl yd_X12_onWith ⟨(Nat.le_of_ble_eq_true rfl), (Nat.le_of_ble_eq_true rfl)⟩) (preV (wc := [(y, .inr (12, [.ref (qq 0), .ref (qq 1), .ref (qq 2), .ref (qq 3), .ref (qq 4), .ref (qq 5), .int z6, .ref (qq 7), .ref (qq 8), .ref (qq 9), .ref (qq 10), .ref (qq 11), .int z12, .ref (qq 13), .int z14, .int z15, .int z16, .int z17, .ref (qq 18), .int z19, .ref (qq 20), .int z21, .int z22, .int z23, .int z24, .ref (qq 25), .int z26, .ref (qq 27), .ref (qq 28), .ref (qq 29), .int z30, .ref (qq 31), .ref (qq 32), .ref (qq 33), .ref (qq 34), .ref (qq 35), .ref (qq 36), .ref (qq 37), .ref (qq 38), .ref (qq 39), .ref (qq 40), .ref (qq 41), .ref (qq 42)])), ((qq 2), .inl (cT 0, 50, .inl (fun _ => (-1))))]) rfl hP hD hK hN hZ hS hA [0, 2] rfl (by decide) (ci := 12) (q0 := 0) rfl rfl) rfl rfl hl.1 rfl (lv_room (Nat.le_of_ble_eq_true rfl)) dX12_longer_56 ⟨(Nat.le_of_ble_eq_true rfl), (Nat.le_of_ble_eq_true rfl)⟩) hP hD hS hA [0, 2] [1] rfl rfl (by decide) (by decide) (Nat.le_of_ble_eq_true rfl) (Nat.le_of_ble_eq_true rfl) (fun r_3 u H locs h_4 hP hD hS => ?_)
    have hP : va_P g vwCl [((qq 0), .inl (cT 0, 2, .inl (fun _ => 1))), (y, .inr (12, [.ref (qq 0), .ref (qq 1), .ref (qq 2), .ref (qq 3), .ref (qq 4), .ref (qq 5), .int z6, .ref (qq 7), .ref (qq 8), .ref (qq 9), .ref (qq 10), .ref (qq 11), .int z12, .ref (qq 13), .int z14, .int z15, .int z16, .int z17, .ref (qq 18), .int z19, .ref (qq 20), .int z21, .int z22, .int z23, .int z24, .ref (qq 25), .int z26, .ref (qq 27), .ref (qq 28), .ref (qq 29), .int z30, .ref (qq 31), .ref (qq 32), .ref (qq 33), .ref (qq 34), .ref (qq 35), .ref (qq 36), .ref (qq 37), .ref (qq 38), .ref (qq 39), .ref (qq 40), .ref (qq 41), .ref (qq 42)])), ((qq 2), .inl (cT 0, 50, .inl (fun _ => (-1))))] H := hP
    have hD : va_D A [((qq 0), .inl (cT 0, 2, .inl (fun _ => 1))), (y, .inr (12, [.ref (qq 0), .ref (qq 1), .ref (qq 2), .ref (qq 3), .ref (qq 4), .ref (qq 5), .int z6, .ref (qq 7), .ref (qq 8), .ref (qq 9), .ref (qq 10), .ref (qq 11), .int z12, .ref (qq 13), .int z14, .int z15, .int z16, .int z17, .ref (qq 18), .int z19, .ref (qq 20), .int z21, .int z22, .int z23, .int z24, .ref (qq 25), .int z26, .ref (qq 27), .ref (qq 28), .ref (qq 29), .int z30, .ref (qq 31), .ref (qq 32), .ref (qq 33), .ref (qq 34), .ref (qq 35), .ref (qq 36), .ref (qq 37), .ref (qq 38), .ref (qq 39), .ref (qq 40), .ref (qq 41), .ref (qq 42)])), ((qq 2), .inl (cT 0, 50, .inl (fun _ => (-1))))] := hD
    subst h_4
    refine lv_i2l (v := 10) hx hb dX12_longer_59 (by decide) ?_
    refine lv_iconst (v := 4) hx hb dX12_longer_60 (by decide) ?_
    refine lv_iload hx hb dX12_longer_61 (lv_at hl 0 rfl) ?_
    refine lv_iconst (v := 1) hx hb dX12_longer_63 (by decide) ?_
    refine w_iadd (v := 1) hx hb dX12_longer_64 (by decide) ?_
    refine w_imul (v := 4) hx hb dX12_longer_65 (by decide) ?_
    refine lv_lshl (v := 160) hx hb dX12_longer_66 (by decide) ?_
    refine w_lor (v := 170) hx hb dX12_longer_67 (by decide) ?_
    refine lv_lstore (lv' := [(6, .long 170), (8, .int 0), (5, .int 10), (0, .ref y), (1, .int 0), (2, .long 170), (4, .int 1)]) hx hb dX12_longer_68 hl (by decide) rfl (fun ls hl => ?_)
    refine lv_iinc (v := 1) (lv' := [(8, .int 1), (6, .long 170), (5, .int 10), (0, .ref y), (1, .int 0), (2, .long 170), (4, .int 1)]) hx hb dX12_longer_70 hl (k := 1) rfl (by decide) (by decide) rfl (fun ls hl => ?_)
    refine lv_goto (tgt := 36) hx hb dX12_longer_73 (by decide) ?_
    refine lv_iload hx hb dX12_longer_36 (lv_at hl 0 rfl) ?_
    refine lv_aload_n hx hb dX12_longer_38 rfl (lv_at hl 3 rfl) ?_
    refine va_get (C := RX12) (T := TX12) (N := 43) (v := .ref (qq 0)) hx hb hts hi_X12_longer_X12 hown hK hP 1 rfl rfl 0 (by decide) (hts (.fieldLink RX12 7 "BothWaysModel" "states" "[I") (by decide +kernel)) (fun _ h => h) rfl dX12_longer_39 ?_
    refine lv_iload_n hx hb dX12_longer_42 rfl (lv_at hl 4 rfl) ?_
    refine w_iald (v := 1) hx hb hK hP 0 rfl dX12_longer_43 (inC (by decide)) rfl ?_
    refine icmp_ge_t hx hb 76 dX12_longer_44 (by decide) (by decide) ?_
    refine lv_lload hx hb dX12_longer_76 (lv_at hl 1 rfl) ?_
    exact rt_l hx hb hr hlocks hQ hP hD hS () [1, 0, 2] dX12_longer_78 (Nat.le_of_ble_eq_true rfl) (Nat.le_of_ble_eq_true rfl) rfl (by decide) rfl
  rw [hH, hlo] at hgo
  exact hgo
abbrev rm_c_M_longer_0_2 : Room := { frames := 2, cells := 0, slots := 0, locals := 51 }
set_option maxHeartbeats 4000000 in
set_option maxRecDepth 100000 in
theorem c_M_longer_0_2 (l : Launch) (g : va_G) (cT : Nat → ClassId) (sz : Nat) (y : Nat) (qq : Nat → Nat) (z6 : Int32) (z12 : Int32) (z14 : Int32) (z15 : Int32) (z16 : Int32) (z17 : Int32) (z19 : Int32) (z21 : Int32) (z22 : Int32) (z23 : Int32) (z24 : Int32) (z26 : Int32) (z30 : Int32)  : Ctr l g cT sz yX12_longer wsX12_longer rm_c_M_longer_0_2 [.ref y, .int 0, .long 170, .int 2] [(y, .inr (12, [.ref (qq 0), .ref (qq 1), .ref (qq 2), .ref (qq 3), .ref (qq 4), .ref (qq 5), .int z6, .ref (qq 7), .ref (qq 8), .ref (qq 9), .ref (qq 10), .ref (qq 11), .int z12, .ref (qq 13), .int z14, .int z15, .int z16, .int z17, .ref (qq 18), .int z19, .ref (qq 20), .int z21, .int z22, .int z23, .int z24, .ref (qq 25), .int z26, .ref (qq 27), .ref (qq 28), .ref (qq 29), .int z30, .ref (qq 31), .ref (qq 32), .ref (qq 33), .ref (qq 34), .ref (qq 35), .ref (qq 36), .ref (qq 37), .ref (qq 38), .ref (qq 39), .ref (qq 40), .ref (qq 41), .ref (qq 42)])), ((qq 0), .inl (cT 0, 2, .inl (fun _ => 1))), ((qq 2), .inl (cT 0, 50, .inl (fun _ => (-1))))] (QL g (fun (r : Int64) (u : Unit) => r = 170) (fun (u : Unit) => [(y, .inr (12, [.ref (qq 0), .ref (qq 1), .ref (qq 2), .ref (qq 3), .ref (qq 4), .ref (qq 5), .int z6, .ref (qq 7), .ref (qq 8), .ref (qq 9), .ref (qq 10), .ref (qq 11), .int z12, .ref (qq 13), .int z14, .int z15, .int z16, .int z17, .ref (qq 18), .int z19, .ref (qq 20), .int z21, .int z22, .int z23, .int z24, .ref (qq 25), .int z26, .ref (qq 27), .ref (qq 28), .ref (qq 29), .int z30, .ref (qq 31), .ref (qq 32), .ref (qq 33), .ref (qq 34), .ref (qq 35), .ref (qq 36), .ref (qq 37), .ref (qq 38), .ref (qq 39), .ref (qq 40), .ref (qq 41), .ref (qq 42)])), ((qq 0), .inl (cT 0, 2, .inl (fun _ => 1))), ((qq 2), .inl (cT 0, 50, .inl (fun _ => (-1))))])) 0 0 := by
  refine mk_ctr (cc := cX12_longer) (maxL := 9) (ret := (some .long)) (by decide) rfl (Nat.le_of_ble_eq_true rfl) ?_
  intro p e s m args below meth c A Q hx hb hr hts hown hlocks hin hml hP hK hD hN hZ hA hS hQ ls hl
  have hl : lv_has ls 9 [(0, .ref y), (1, .int 0), (2, .long 170), (4, .int 2)] := hl
  obtain ⟨H, hH⟩ : ∃ H : Heap, H = s.heap := ⟨_, rfl⟩
  obtain ⟨locs, hlo⟩ : ∃ x : List Loc, x = [] := ⟨_, rfl⟩
  rw [← hH] at hP
  have hS : va_S A s.heap H locs := by rw [hH, hlo]; exact hS
  have hgo : W p l e rm_c_M_longer_0_2 s m args below meth c H locs 0 0 Q (F0 m 0 ls []) := by
    clear hH hlo
    refine lv_lload_n hx hb dX12_longer_0 rfl (lv_at hl 2 rfl) ?_
    refine lv_iconst (v := 0) hx hb dX12_longer_1 (by decide) ?_
    refine cp_i (va_runS (As := [.long 170, .int 0]) (rest := []) ⟨hx, hb, hml, hown, hts⟩ (c_M_part l g cT H.size 170 0) (va_cwS 2 hts gX12_longer_X12_part rfl rfl rfl yd_X12_part.2 ⟨(Nat.le_of_ble_eq_true rfl), (Nat.le_of_ble_eq_true rfl)⟩) (preS (ws := []) (wc := []) rfl (fun _ _ h => by simp at h) (va_D_nil (A := A)) hK hN hZ hS hA [] rfl rfl) rfl rfl hl.1 rfl (lv_room (Nat.le_of_ble_eq_true rfl)) dX12_longer_2 ⟨(Nat.le_of_ble_eq_true rfl), (Nat.le_of_ble_eq_true rfl)⟩) hP hS hA (fun r_1 u H locs h_2 hP hS => ?_)
    subst h_2
    refine tI 10 (by decide) ?_
    refine lv_istore (lv' := [(5, .int 10), (0, .ref y), (1, .int 0), (2, .long 170), (4, .int 2)]) hx hb dX12_longer_5 hl (by decide) rfl (fun ls hl => ?_)
    refine lv_iload hx hb dX12_longer_7 (lv_at hl 0 rfl) ?_
    refine lv_bipush (v := 9) hx hb dX12_longer_9 (by decide) ?_
    refine icmp_le_f hx hb dX12_longer_11 20 (by decide) (by decide) ?_
    refine lv_iload hx hb dX12_longer_14 (lv_at hl 0 rfl) ?_
    refine lv_i2l (v := 10) hx hb dX12_longer_16 (by decide) ?_
    refine lv_goto (tgt := 31) hx hb dX12_longer_17 (by decide) ?_
    refine lv_lstore (lv' := [(6, .long 10), (5, .int 10), (0, .ref y), (1, .int 0), (2, .long 170), (4, .int 2)]) hx hb dX12_longer_31 hl (by decide) rfl (fun ls hl => ?_)
    refine lv_iconst (v := 0) hx hb dX12_longer_33 (by decide) ?_
    refine lv_istore (lv' := [(8, .int 0), (6, .long 10), (5, .int 10), (0, .ref y), (1, .int 0), (2, .long 170), (4, .int 2)]) hx hb dX12_longer_34 hl (by decide) rfl (fun ls hl => ?_)
    refine lv_iload hx hb dX12_longer_36 (lv_at hl 0 rfl) ?_
    refine lv_aload_n hx hb dX12_longer_38 rfl (lv_at hl 3 rfl) ?_
    refine va_get (C := RX12) (T := TX12) (N := 43) (v := .ref (qq 0)) hx hb hts hi_X12_longer_X12 hown hK hP 0 rfl rfl 0 (by decide) (hts (.fieldLink RX12 7 "BothWaysModel" "states" "[I") (by decide +kernel)) (fun _ h => h) rfl dX12_longer_39 ?_
    refine lv_iload_n hx hb dX12_longer_42 rfl (lv_at hl 4 rfl) ?_
    refine w_iald (v := 1) hx hb hK hP 1 rfl dX12_longer_43 (inC (by decide)) rfl ?_
    refine icmp_ge_f hx hb dX12_longer_44 76 (by decide) (by decide) ?_
    refine lv_lload hx hb dX12_longer_47 (lv_at hl 1 rfl) ?_
    refine lv_aload_n hx hb dX12_longer_49 rfl (lv_at hl 3 rfl) ?_
    refine lv_iload_n hx hb dX12_longer_50 rfl (lv_at hl 4 rfl) ?_
    refine lv_lload_n hx hb dX12_longer_51 rfl (lv_at hl 5 rfl) ?_
    refine lv_iload hx hb dX12_longer_52 (lv_at hl 6 rfl) ?_
    refine lv_iload hx hb dX12_longer_54 (lv_at hl 0 rfl) ?_
    refine cj_i 0 0 (wr := [((qq 0), .inl (cT 0, 2, .inl (fun _ => 1)))]) (va_runV (As := [.int 0, .long 170, .int 2, .int 0]) (rest := [.long 10]) ⟨hx, hb, hml, hown, hts⟩ (c_M_onWith_0_2 l g cT H.size y qq z6 z12 z14 z15 z16 z17 z19 z21 z22 z23 z24 z26 z30) (cwV 4 hts gX12_longer_X12_onWith rfl rfl rfl yd_X12_onWith ⟨(Nat.le_of_ble_eq_true rfl), (Nat.le_of_ble_eq_true rfl)⟩) (preV (wc := [(y, .inr (12, [.ref (qq 0), .ref (qq 1), .ref (qq 2), .ref (qq 3), .ref (qq 4), .ref (qq 5), .int z6, .ref (qq 7), .ref (qq 8), .ref (qq 9), .ref (qq 10), .ref (qq 11), .int z12, .ref (qq 13), .int z14, .int z15, .int z16, .int z17, .ref (qq 18), .int z19, .ref (qq 20), .int z21, .int z22, .int z23, .int z24, .ref (qq 25), .int z26, .ref (qq 27), .ref (qq 28), .ref (qq 29), .int z30, .ref (qq 31), .ref (qq 32), .ref (qq 33), .ref (qq 34), .ref (qq 35), .ref (qq 36), .ref (qq 37), .ref (qq 38), .ref (qq 39), .ref (qq 40), .ref (qq 41), .ref (qq 42)])), ((qq 2), .inl (cT 0, 50, .inl (fun _ => (-1))))]) rfl hP hD hK hN hZ hS hA [0, 2] rfl (by decide) (ci := 12) (q0 := 0) rfl rfl) rfl rfl hl.1 rfl (lv_room (Nat.le_of_ble_eq_true rfl)) dX12_longer_56 ⟨(Nat.le_of_ble_eq_true rfl), (Nat.le_of_ble_eq_true rfl)⟩) hP hD hS hA [0, 2] [1] rfl rfl (by decide) (by decide) (Nat.le_of_ble_eq_true rfl) (Nat.le_of_ble_eq_true rfl) (fun r_3 u H locs h_4 hP hD hS => ?_)
    have hP : va_P g vwCl [((qq 0), .inl (cT 0, 2, .inl (fun _ => 1))), (y, .inr (12, [.ref (qq 0), .ref (qq 1), .ref (qq 2), .ref (qq 3), .ref (qq 4), .ref (qq 5), .int z6, .ref (qq 7), .ref (qq 8), .ref (qq 9), .ref (qq 10), .ref (qq 11), .int z12, .ref (qq 13), .int z14, .int z15, .int z16, .int z17, .ref (qq 18), .int z19, .ref (qq 20), .int z21, .int z22, .int z23, .int z24, .ref (qq 25), .int z26, .ref (qq 27), .ref (qq 28), .ref (qq 29), .int z30, .ref (qq 31), .ref (qq 32), .ref (qq 33), .ref (qq 34), .ref (qq 35), .ref (qq 36), .ref (qq 37), .ref (qq 38), .ref (qq 39), .ref (qq 40), .ref (qq 41), .ref (qq 42)])), ((qq 2), .inl (cT 0, 50, .inl (fun _ => (-1))))] H := hP
    have hD : va_D A [((qq 0), .inl (cT 0, 2, .inl (fun _ => 1))), (y, .inr (12, [.ref (qq 0), .ref (qq 1), .ref (qq 2), .ref (qq 3), .ref (qq 4), .ref (qq 5), .int z6, .ref (qq 7), .ref (qq 8), .ref (qq 9), .ref (qq 10), .ref (qq 11), .int z12, .ref (qq 13), .int z14, .int z15, .int z16, .int z17, .ref (qq 18), .int z19, .ref (qq 20), .int z21, .int z22, .int z23, .int z24, .ref (qq 25), .int z26, .ref (qq 27), .ref (qq 28), .ref (qq 29), .int z30, .ref (qq 31), .ref (qq 32), .ref (qq 33), .ref (qq 34), .ref (qq 35), .ref (qq 36), .ref (qq 37), .ref (qq 38), .ref (qq 39), .ref (qq 40), .ref (qq 41), .ref (qq 42)])), ((qq 2), .inl (cT 0, 50, .inl (fun _ => (-1))))] := hD
    subst h_4
    refine lv_i2l (v := 10) hx hb dX12_longer_59 (by decide) ?_
    refine lv_iconst (v := 4) hx hb dX12_longer_60 (by decide) ?_
    refine lv_iload hx hb dX12_longer_61 (lv_at hl 0 rfl) ?_
    refine lv_iconst (v := 1) hx hb dX12_longer_63 (by decide) ?_
    refine w_iadd (v := 1) hx hb dX12_longer_64 (by decide) ?_
    refine w_imul (v := 4) hx hb dX12_longer_65 (by decide) ?_
    refine lv_lshl (v := 160) hx hb dX12_longer_66 (by decide) ?_
    refine w_lor (v := 170) hx hb dX12_longer_67 (by decide) ?_
    refine lv_lstore (lv' := [(6, .long 170), (8, .int 0), (5, .int 10), (0, .ref y), (1, .int 0), (2, .long 170), (4, .int 2)]) hx hb dX12_longer_68 hl (by decide) rfl (fun ls hl => ?_)
    refine lv_iinc (v := 1) (lv' := [(8, .int 1), (6, .long 170), (5, .int 10), (0, .ref y), (1, .int 0), (2, .long 170), (4, .int 2)]) hx hb dX12_longer_70 hl (k := 1) rfl (by decide) (by decide) rfl (fun ls hl => ?_)
    refine lv_goto (tgt := 36) hx hb dX12_longer_73 (by decide) ?_
    refine lv_iload hx hb dX12_longer_36 (lv_at hl 0 rfl) ?_
    refine lv_aload_n hx hb dX12_longer_38 rfl (lv_at hl 3 rfl) ?_
    refine va_get (C := RX12) (T := TX12) (N := 43) (v := .ref (qq 0)) hx hb hts hi_X12_longer_X12 hown hK hP 1 rfl rfl 0 (by decide) (hts (.fieldLink RX12 7 "BothWaysModel" "states" "[I") (by decide +kernel)) (fun _ h => h) rfl dX12_longer_39 ?_
    refine lv_iload_n hx hb dX12_longer_42 rfl (lv_at hl 4 rfl) ?_
    refine w_iald (v := 1) hx hb hK hP 0 rfl dX12_longer_43 (inC (by decide)) rfl ?_
    refine icmp_ge_t hx hb 76 dX12_longer_44 (by decide) (by decide) ?_
    refine lv_lload hx hb dX12_longer_76 (lv_at hl 1 rfl) ?_
    exact rt_l hx hb hr hlocks hQ hP hD hS () [1, 0, 2] dX12_longer_78 (Nat.le_of_ble_eq_true rfl) (Nat.le_of_ble_eq_true rfl) rfl (by decide) rfl
  rw [hH, hlo] at hgo
  exact hgo
abbrev rm_c_M_endOf_0 : Room := { frames := 1, cells := 0, slots := 0, locals := 22 }
set_option maxHeartbeats 4000000 in
set_option maxRecDepth 100000 in
theorem c_M_endOf_0 (l : Launch) (g : va_G) (cT : Nat → ClassId) (sz : Nat) (y : Nat) (qq : Nat → Nat) (z6 : Int32) (z12 : Int32) (z14 : Int32) (z15 : Int32) (z16 : Int32) (z17 : Int32) (z19 : Int32) (z21 : Int32) (z22 : Int32) (z23 : Int32) (z24 : Int32) (z26 : Int32) (z30 : Int32)  : Ctr l g cT sz yX12_endOf wsX12_endOf rm_c_M_endOf_0 [.ref y, .int 0, .long 170] [(y, .inr (12, [.ref (qq 0), .ref (qq 1), .ref (qq 2), .ref (qq 3), .ref (qq 4), .ref (qq 5), .int z6, .ref (qq 7), .ref (qq 8), .ref (qq 9), .ref (qq 10), .ref (qq 11), .int z12, .ref (qq 13), .int z14, .int z15, .int z16, .int z17, .ref (qq 18), .int z19, .ref (qq 20), .int z21, .int z22, .int z23, .int z24, .ref (qq 25), .int z26, .ref (qq 27), .ref (qq 28), .ref (qq 29), .int z30, .ref (qq 31), .ref (qq 32), .ref (qq 33), .ref (qq 34), .ref (qq 35), .ref (qq 36), .ref (qq 37), .ref (qq 38), .ref (qq 39), .ref (qq 40), .ref (qq 41), .ref (qq 42)]))] (QI g (fun (r : Int32) (u : Unit) => r = 0) (fun (u : Unit) => [(y, .inr (12, [.ref (qq 0), .ref (qq 1), .ref (qq 2), .ref (qq 3), .ref (qq 4), .ref (qq 5), .int z6, .ref (qq 7), .ref (qq 8), .ref (qq 9), .ref (qq 10), .ref (qq 11), .int z12, .ref (qq 13), .int z14, .int z15, .int z16, .int z17, .ref (qq 18), .int z19, .ref (qq 20), .int z21, .int z22, .int z23, .int z24, .ref (qq 25), .int z26, .ref (qq 27), .ref (qq 28), .ref (qq 29), .int z30, .ref (qq 31), .ref (qq 32), .ref (qq 33), .ref (qq 34), .ref (qq 35), .ref (qq 36), .ref (qq 37), .ref (qq 38), .ref (qq 39), .ref (qq 40), .ref (qq 41), .ref (qq 42)]))])) 0 0 := by
  refine mk_ctr (cc := cX12_endOf) (maxL := 7) (ret := (some .int)) (by decide) rfl (Nat.le_of_ble_eq_true rfl) ?_
  intro p e s m args below meth c A Q hx hb hr hts hown hlocks hin hml hP hK hD hN hZ hA hS hQ ls hl
  have hl : lv_has ls 7 [(0, .ref y), (1, .int 0), (2, .long 170)] := hl
  obtain ⟨H, hH⟩ : ∃ H : Heap, H = s.heap := ⟨_, rfl⟩
  obtain ⟨locs, hlo⟩ : ∃ x : List Loc, x = [] := ⟨_, rfl⟩
  rw [← hH] at hP
  have hS : va_S A s.heap H locs := by rw [hH, hlo]; exact hS
  have hgo : W p l e rm_c_M_endOf_0 s m args below meth c H locs 0 0 Q (F0 m 0 ls []) := by
    clear hH hlo
    refine lv_lload_n hx hb dX12_endOf_0 rfl (lv_at hl 2 rfl) ?_
    refine lv_iconst (v := 0) hx hb dX12_endOf_1 (by decide) ?_
    refine cp_i (va_runS (As := [.long 170, .int 0]) (rest := []) ⟨hx, hb, hml, hown, hts⟩ (c_M_part l g cT H.size 170 0) (va_cwS 2 hts gX12_endOf_X12_part rfl rfl rfl yd_X12_part.2 ⟨(Nat.le_of_ble_eq_true rfl), (Nat.le_of_ble_eq_true rfl)⟩) (preS (ws := []) (wc := []) rfl (fun _ _ h => by simp at h) (va_D_nil (A := A)) hK hN hZ hS hA [] rfl rfl) rfl rfl hl.1 rfl (lv_room (Nat.le_of_ble_eq_true rfl)) dX12_endOf_2 ⟨(Nat.le_of_ble_eq_true rfl), (Nat.le_of_ble_eq_true rfl)⟩) hP hS hA (fun r_1 u H locs h_2 hP hS => ?_)
    subst h_2
    refine tI 10 (by decide) ?_
    refine lv_istore (lv' := [(4, .int 10), (0, .ref y), (1, .int 0), (2, .long 170)]) hx hb dX12_endOf_5 hl (by decide) rfl (fun ls hl => ?_)
    refine lv_iconst (v := 0) hx hb dX12_endOf_7 (by decide) ?_
    refine lv_istore (lv' := [(5, .int 0), (4, .int 10), (0, .ref y), (1, .int 0), (2, .long 170)]) hx hb dX12_endOf_8 hl (by decide) rfl (fun ls hl => ?_)
    refine lv_iload hx hb dX12_endOf_10 (lv_at hl 0 rfl) ?_
    refine lv_bipush (v := 24) hx hb dX12_endOf_12 (by decide) ?_
    refine icmp_ge_f hx hb dX12_endOf_14 90 (by decide) (by decide) ?_
    refine lv_iload hx hb dX12_endOf_17 (lv_at hl 1 rfl) ?_
    refine lv_bipush (v := 9) hx hb dX12_endOf_19 (by decide) ?_
    refine icmp_le_f hx hb dX12_endOf_21 37 (by decide) (by decide) ?_
    refine lv_iload hx hb dX12_endOf_24 (lv_at hl 1 rfl) ?_
    refine lv_bipush (v := 10) hx hb dX12_endOf_26 (by decide) ?_
    refine icmp_ne_f hx hb dX12_endOf_28 35 (by decide) (by decide) ?_
    refine lv_iconst (v := 0) hx hb dX12_endOf_31 (by decide) ?_
    refine lv_goto (tgt := 36) hx hb dX12_endOf_32 (by decide) ?_
    exact rt_i hx hb hr hlocks hQ hP hD hS () [0] dX12_endOf_36 rfl (Nat.le_of_ble_eq_true rfl) (Nat.le_of_ble_eq_true rfl) rfl (by decide) rfl
  rw [hH, hlo] at hgo
  exact hgo
abbrev rm_c_M_emptyBeginning_1 : Room := { frames := 1, cells := 0, slots := 0, locals := 22 }
set_option maxHeartbeats 4000000 in
set_option maxRecDepth 100000 in
theorem c_M_emptyBeginning_1 (l : Launch) (g : va_G) (cT : Nat → ClassId) (sz : Nat) (y : Nat) (qq : Nat → Nat) (z6 : Int32) (z12 : Int32) (z14 : Int32) (z15 : Int32) (z16 : Int32) (z17 : Int32) (z19 : Int32) (z21 : Int32) (z22 : Int32) (z23 : Int32) (z24 : Int32) (z26 : Int32) (z30 : Int32)  : Ctr l g cT sz yX12_emptyBeginning wsX12_emptyBeginning rm_c_M_emptyBeginning_1 [.ref y, .int 1] [(y, .inr (12, [.ref (qq 0), .ref (qq 1), .ref (qq 2), .ref (qq 3), .ref (qq 4), .ref (qq 5), .int z6, .ref (qq 7), .ref (qq 8), .ref (qq 9), .ref (qq 10), .ref (qq 11), .int z12, .ref (qq 13), .int z14, .int z15, .int z16, .int z17, .ref (qq 18), .int z19, .ref (qq 20), .int z21, .int z22, .int z23, .int z24, .ref (qq 25), .int z26, .ref (qq 27), .ref (qq 28), .ref (qq 29), .int z30, .ref (qq 31), .ref (qq 32), .ref (qq 33), .ref (qq 34), .ref (qq 35), .ref (qq 36), .ref (qq 37), .ref (qq 38), .ref (qq 39), .ref (qq 40), .ref (qq 41), .ref (qq 42)])), ((qq 0), .inl (cT 0, 2, .inl (fun _ => 1))), ((qq 2), .inl (cT 0, 50, .inl (fun _ => (-1))))] (QL g (fun (r : Int64) (u : Unit) => r = 170) (fun (u : Unit) => [(y, .inr (12, [.ref (qq 0), .ref (qq 1), .ref (qq 2), .ref (qq 3), .ref (qq 4), .ref (qq 5), .int z6, .ref (qq 7), .ref (qq 8), .ref (qq 9), .ref (qq 10), .ref (qq 11), .int z12, .ref (qq 13), .int z14, .int z15, .int z16, .int z17, .ref (qq 18), .int z19, .ref (qq 20), .int z21, .int z22, .int z23, .int z24, .ref (qq 25), .int z26, .ref (qq 27), .ref (qq 28), .ref (qq 29), .int z30, .ref (qq 31), .ref (qq 32), .ref (qq 33), .ref (qq 34), .ref (qq 35), .ref (qq 36), .ref (qq 37), .ref (qq 38), .ref (qq 39), .ref (qq 40), .ref (qq 41), .ref (qq 42)])), ((qq 0), .inl (cT 0, 2, .inl (fun _ => 1))), ((qq 2), .inl (cT 0, 50, .inl (fun _ => (-1))))])) 0 0 := by
  refine mk_ctr (cc := cX12_emptyBeginning) (maxL := 7) (ret := (some .long)) (by decide) rfl (Nat.le_of_ble_eq_true rfl) ?_
  intro p e s m args below meth c A Q hx hb hr hts hown hlocks hin hml hP hK hD hN hZ hA hS hQ ls hl
  have hl : lv_has ls 7 [(0, .ref y), (1, .int 1)] := hl
  obtain ⟨H, hH⟩ : ∃ H : Heap, H = s.heap := ⟨_, rfl⟩
  obtain ⟨locs, hlo⟩ : ∃ x : List Loc, x = [] := ⟨_, rfl⟩
  rw [← hH] at hP
  have hS : va_S A s.heap H locs := by rw [hH, hlo]; exact hS
  have hgo : W p l e rm_c_M_emptyBeginning_1 s m args below meth c H locs 0 0 Q (F0 m 0 ls []) := by
    clear hH hlo
    refine lv_lconst (v := 0) hx hb dX12_emptyBeginning_0 (by decide) ?_
    refine lv_lstore_n (lv' := [(2, .long 0), (0, .ref y), (1, .int 1)]) hx hb dX12_emptyBeginning_1 rfl hl (by decide) rfl (fun ls hl => ?_)
    refine lv_iconst (v := 0) hx hb dX12_emptyBeginning_2 (by decide) ?_
    refine lv_istore (lv' := [(4, .int 0), (2, .long 0), (0, .ref y), (1, .int 1)]) hx hb dX12_emptyBeginning_3 hl (by decide) rfl (fun ls hl => ?_)
    refine lv_iload hx hb dX12_emptyBeginning_5 (lv_at hl 0 rfl) ?_
    refine lv_aload_n hx hb dX12_emptyBeginning_7 rfl (lv_at hl 2 rfl) ?_
    refine va_get (C := RX12) (T := TX12) (N := 43) (v := .ref (qq 0)) hx hb hts hi_X12_emptyBeginning_X12 hown hK hP 0 rfl rfl 0 (by decide) (hts (.fieldLink RX12 7 "BothWaysModel" "states" "[I") (by decide +kernel)) (fun _ h => h) rfl dX12_emptyBeginning_8 ?_
    refine lv_iload_n hx hb dX12_emptyBeginning_11 rfl (lv_at hl 3 rfl) ?_
    refine w_iald (v := 1) hx hb hK hP 1 rfl dX12_emptyBeginning_12 (inC (by decide)) rfl ?_
    refine icmp_gt_f hx hb dX12_emptyBeginning_13 74 (by decide) (by decide) ?_
    refine lv_iload hx hb dX12_emptyBeginning_16 (lv_at hl 0 rfl) ?_
    refine if_ne_f hx hb dX12_emptyBeginning_18 25 (by decide) (by decide) ?_
    refine lv_iconst (v := 0) hx hb dX12_emptyBeginning_21 (by decide) ?_
    refine lv_goto (tgt := 29) hx hb dX12_emptyBeginning_22 (by decide) ?_
    refine lv_istore (lv' := [(5, .int 0), (4, .int 0), (2, .long 0), (0, .ref y), (1, .int 1)]) hx hb dX12_emptyBeginning_29 hl (by decide) rfl (fun ls hl => ?_)
    refine lv_aload_n hx hb dX12_emptyBeginning_31 rfl (lv_at hl 3 rfl) ?_
    refine va_get (C := RX12) (T := TX12) (N := 43) (v := .ref (qq 2)) hx hb hts hi_X12_emptyBeginning_X12 hown hK hP 0 rfl rfl 2 (by decide) (hts (.fieldLink RX12 16 "BothWaysModel" "goTo" "[I") (by decide +kernel)) (fun _ h => h) rfl dX12_emptyBeginning_32 ?_
    refine lv_iload_n hx hb dX12_emptyBeginning_35 rfl (lv_at hl 4 rfl) ?_
    refine lv_iload hx hb dX12_emptyBeginning_36 (lv_at hl 0 rfl) ?_
    refine lv_iconst (v := 3) hx hb dX12_emptyBeginning_38 (by decide) ?_
    refine cp_i (va_runS (As := [.int 1, .int 0, .int 3]) (rest := [.ref (qq 2)]) ⟨hx, hb, hml, hown, hts⟩ (c_M_at0 l g cT H.size 1 0 3) (va_cwS 3 hts gX12_emptyBeginning_X12_at0 rfl rfl rfl yd_X12_at0.2 ⟨(Nat.le_of_ble_eq_true rfl), (Nat.le_of_ble_eq_true rfl)⟩) (preS (ws := []) (wc := []) rfl (fun _ _ h => by simp at h) (va_D_nil (A := A)) hK hN hZ hS hA [] rfl rfl) rfl rfl hl.1 rfl (lv_room (Nat.le_of_ble_eq_true rfl)) dX12_emptyBeginning_39 ⟨(Nat.le_of_ble_eq_true rfl), (Nat.le_of_ble_eq_true rfl)⟩) hP hS hA (fun r_1 u H locs h_2 hP hS => ?_)
    subst h_2
    refine tI 28 (by decide) ?_
    refine w_iald (v := (-1)) hx hb hK hP 2 rfl dX12_emptyBeginning_42 (inC (by decide)) rfl ?_
    refine lv_istore (lv' := [(6, .int (-1)), (5, .int 0), (4, .int 0), (2, .long 0), (0, .ref y), (1, .int 1)]) hx hb dX12_emptyBeginning_43 hl (by decide) rfl (fun ls hl => ?_)
    refine lv_lload_n hx hb dX12_emptyBeginning_45 rfl (lv_at hl 3 rfl) ?_
    refine lv_iload hx hb dX12_emptyBeginning_46 (lv_at hl 0 rfl) ?_
    refine lv_iconst (v := (-1)) hx hb dX12_emptyBeginning_48 (by decide) ?_
    refine icmp_ne_f hx hb dX12_emptyBeginning_49 58 (by decide) (by decide) ?_
    refine lv_ldc2 (v := 10) hx hb hown (hts (.constantLong RX12 212 (10)) (by decide +kernel)) dX12_emptyBeginning_52 ?_
    refine lv_goto (tgt := 61) hx hb dX12_emptyBeginning_55 (by decide) ?_
    refine lv_iconst (v := 4) hx hb dX12_emptyBeginning_61 (by decide) ?_
    refine lv_iload hx hb dX12_emptyBeginning_62 (lv_at hl 2 rfl) ?_
    refine w_imul (v := 0) hx hb dX12_emptyBeginning_64 (by decide) ?_
    refine lv_lshl (v := 10) hx hb dX12_emptyBeginning_65 (by decide) ?_
    refine w_lor (v := 10) hx hb dX12_emptyBeginning_66 (by decide) ?_
    refine lv_lstore_n (lv' := [(2, .long 10), (6, .int (-1)), (5, .int 0), (4, .int 0), (0, .ref y), (1, .int 1)]) hx hb dX12_emptyBeginning_67 rfl hl (by decide) rfl (fun ls hl => ?_)
    refine lv_iinc (v := 1) (lv' := [(4, .int 1), (2, .long 10), (6, .int (-1)), (5, .int 0), (0, .ref y), (1, .int 1)]) hx hb dX12_emptyBeginning_68 hl (k := 3) rfl (by decide) (by decide) rfl (fun ls hl => ?_)
    refine lv_goto (tgt := 5) hx hb dX12_emptyBeginning_71 (by decide) ?_
    refine lv_iload hx hb dX12_emptyBeginning_5 (lv_at hl 0 rfl) ?_
    refine lv_aload_n hx hb dX12_emptyBeginning_7 rfl (lv_at hl 4 rfl) ?_
    refine va_get (C := RX12) (T := TX12) (N := 43) (v := .ref (qq 0)) hx hb hts hi_X12_emptyBeginning_X12 hown hK hP 0 rfl rfl 0 (by decide) (hts (.fieldLink RX12 7 "BothWaysModel" "states" "[I") (by decide +kernel)) (fun _ h => h) rfl dX12_emptyBeginning_8 ?_
    refine lv_iload_n hx hb dX12_emptyBeginning_11 rfl (lv_at hl 5 rfl) ?_
    refine w_iald (v := 1) hx hb hK hP 1 rfl dX12_emptyBeginning_12 (inC (by decide)) rfl ?_
    refine icmp_gt_f hx hb dX12_emptyBeginning_13 74 (by decide) (by decide) ?_
    refine lv_iload hx hb dX12_emptyBeginning_16 (lv_at hl 0 rfl) ?_
    refine if_ne_t hx hb 25 dX12_emptyBeginning_18 (by decide) (by decide) ?_
    refine lv_iload hx hb dX12_emptyBeginning_25 (lv_at hl 0 rfl) ?_
    refine lv_iconst (v := 1) hx hb dX12_emptyBeginning_27 (by decide) ?_
    refine w_isub (v := 0) hx hb dX12_emptyBeginning_28 (by decide) ?_
    refine lv_istore (lv' := [(5, .int 0), (4, .int 1), (2, .long 10), (6, .int (-1)), (0, .ref y), (1, .int 1)]) hx hb dX12_emptyBeginning_29 hl (by decide) rfl (fun ls hl => ?_)
    refine lv_aload_n hx hb dX12_emptyBeginning_31 rfl (lv_at hl 4 rfl) ?_
    refine va_get (C := RX12) (T := TX12) (N := 43) (v := .ref (qq 2)) hx hb hts hi_X12_emptyBeginning_X12 hown hK hP 0 rfl rfl 2 (by decide) (hts (.fieldLink RX12 16 "BothWaysModel" "goTo" "[I") (by decide +kernel)) (fun _ h => h) rfl dX12_emptyBeginning_32 ?_
    refine lv_iload_n hx hb dX12_emptyBeginning_35 rfl (lv_at hl 5 rfl) ?_
    refine lv_iload hx hb dX12_emptyBeginning_36 (lv_at hl 0 rfl) ?_
    refine lv_iconst (v := 3) hx hb dX12_emptyBeginning_38 (by decide) ?_
    refine cp_i (va_runS (As := [.int 1, .int 0, .int 3]) (rest := [.ref (qq 2)]) ⟨hx, hb, hml, hown, hts⟩ (c_M_at0 l g cT H.size 1 0 3) (va_cwS 3 hts gX12_emptyBeginning_X12_at0 rfl rfl rfl yd_X12_at0.2 ⟨(Nat.le_of_ble_eq_true rfl), (Nat.le_of_ble_eq_true rfl)⟩) (preS (ws := []) (wc := []) rfl (fun _ _ h => by simp at h) (va_D_nil (A := A)) hK hN hZ hS hA [] rfl rfl) rfl rfl hl.1 rfl (lv_room (Nat.le_of_ble_eq_true rfl)) dX12_emptyBeginning_39 ⟨(Nat.le_of_ble_eq_true rfl), (Nat.le_of_ble_eq_true rfl)⟩) hP hS hA (fun r_3 u H locs h_4 hP hS => ?_)
    subst h_4
    refine tI 28 (by decide) ?_
    refine w_iald (v := (-1)) hx hb hK hP 2 rfl dX12_emptyBeginning_42 (inC (by decide)) rfl ?_
    refine lv_istore (lv' := [(6, .int (-1)), (5, .int 0), (4, .int 1), (2, .long 10), (0, .ref y), (1, .int 1)]) hx hb dX12_emptyBeginning_43 hl (by decide) rfl (fun ls hl => ?_)
    refine lv_lload_n hx hb dX12_emptyBeginning_45 rfl (lv_at hl 3 rfl) ?_
    refine lv_iload hx hb dX12_emptyBeginning_46 (lv_at hl 0 rfl) ?_
    refine lv_iconst (v := (-1)) hx hb dX12_emptyBeginning_48 (by decide) ?_
    refine icmp_ne_f hx hb dX12_emptyBeginning_49 58 (by decide) (by decide) ?_
    refine lv_ldc2 (v := 10) hx hb hown (hts (.constantLong RX12 212 (10)) (by decide +kernel)) dX12_emptyBeginning_52 ?_
    refine lv_goto (tgt := 61) hx hb dX12_emptyBeginning_55 (by decide) ?_
    refine lv_iconst (v := 4) hx hb dX12_emptyBeginning_61 (by decide) ?_
    refine lv_iload hx hb dX12_emptyBeginning_62 (lv_at hl 2 rfl) ?_
    refine w_imul (v := 4) hx hb dX12_emptyBeginning_64 (by decide) ?_
    refine lv_lshl (v := 160) hx hb dX12_emptyBeginning_65 (by decide) ?_
    refine w_lor (v := 170) hx hb dX12_emptyBeginning_66 (by decide) ?_
    refine lv_lstore_n (lv' := [(2, .long 170), (6, .int (-1)), (5, .int 0), (4, .int 1), (0, .ref y), (1, .int 1)]) hx hb dX12_emptyBeginning_67 rfl hl (by decide) rfl (fun ls hl => ?_)
    refine lv_iinc (v := 2) (lv' := [(4, .int 2), (2, .long 170), (6, .int (-1)), (5, .int 0), (0, .ref y), (1, .int 1)]) hx hb dX12_emptyBeginning_68 hl (k := 3) rfl (by decide) (by decide) rfl (fun ls hl => ?_)
    refine lv_goto (tgt := 5) hx hb dX12_emptyBeginning_71 (by decide) ?_
    refine lv_iload hx hb dX12_emptyBeginning_5 (lv_at hl 0 rfl) ?_
    refine lv_aload_n hx hb dX12_emptyBeginning_7 rfl (lv_at hl 4 rfl) ?_
    refine va_get (C := RX12) (T := TX12) (N := 43) (v := .ref (qq 0)) hx hb hts hi_X12_emptyBeginning_X12 hown hK hP 0 rfl rfl 0 (by decide) (hts (.fieldLink RX12 7 "BothWaysModel" "states" "[I") (by decide +kernel)) (fun _ h => h) rfl dX12_emptyBeginning_8 ?_
    refine lv_iload_n hx hb dX12_emptyBeginning_11 rfl (lv_at hl 5 rfl) ?_
    refine w_iald (v := 1) hx hb hK hP 1 rfl dX12_emptyBeginning_12 (inC (by decide)) rfl ?_
    refine icmp_gt_t hx hb 74 dX12_emptyBeginning_13 (by decide) (by decide) ?_
    refine lv_lload_n hx hb dX12_emptyBeginning_74 rfl (lv_at hl 1 rfl) ?_
    exact rt_l hx hb hr hlocks hQ hP hD hS () [0, 1, 2] dX12_emptyBeginning_75 (Nat.le_of_ble_eq_true rfl) (Nat.le_of_ble_eq_true rfl) rfl (by decide) rfl
  rw [hH, hlo] at hgo
  exact hgo
abbrev rm_c_M_onWith_1_0 : Room := { frames := 1, cells := 0, slots := 0, locals := 22 }
set_option maxHeartbeats 4000000 in
set_option maxRecDepth 100000 in
theorem c_M_onWith_1_0 (l : Launch) (g : va_G) (cT : Nat → ClassId) (sz : Nat) (y : Nat) (qq : Nat → Nat) (z6 : Int32) (z12 : Int32) (z14 : Int32) (z15 : Int32) (z16 : Int32) (z17 : Int32) (z19 : Int32) (z21 : Int32) (z22 : Int32) (z23 : Int32) (z24 : Int32) (z26 : Int32) (z30 : Int32)  : Ctr l g cT sz yX12_onWith wsX12_onWith rm_c_M_onWith_1_0 [.ref y, .int 1, .long 170, .int 0, .int 0] [(y, .inr (12, [.ref (qq 0), .ref (qq 1), .ref (qq 2), .ref (qq 3), .ref (qq 4), .ref (qq 5), .int z6, .ref (qq 7), .ref (qq 8), .ref (qq 9), .ref (qq 10), .ref (qq 11), .int z12, .ref (qq 13), .int z14, .int z15, .int z16, .int z17, .ref (qq 18), .int z19, .ref (qq 20), .int z21, .int z22, .int z23, .int z24, .ref (qq 25), .int z26, .ref (qq 27), .ref (qq 28), .ref (qq 29), .int z30, .ref (qq 31), .ref (qq 32), .ref (qq 33), .ref (qq 34), .ref (qq 35), .ref (qq 36), .ref (qq 37), .ref (qq 38), .ref (qq 39), .ref (qq 40), .ref (qq 41), .ref (qq 42)])), ((qq 2), .inl (cT 0, 50, .inl (fun _ => (-1))))] (QI g (fun (r : Int32) (u : Unit) => r = 10) (fun (u : Unit) => [(y, .inr (12, [.ref (qq 0), .ref (qq 1), .ref (qq 2), .ref (qq 3), .ref (qq 4), .ref (qq 5), .int z6, .ref (qq 7), .ref (qq 8), .ref (qq 9), .ref (qq 10), .ref (qq 11), .int z12, .ref (qq 13), .int z14, .int z15, .int z16, .int z17, .ref (qq 18), .int z19, .ref (qq 20), .int z21, .int z22, .int z23, .int z24, .ref (qq 25), .int z26, .ref (qq 27), .ref (qq 28), .ref (qq 29), .int z30, .ref (qq 31), .ref (qq 32), .ref (qq 33), .ref (qq 34), .ref (qq 35), .ref (qq 36), .ref (qq 37), .ref (qq 38), .ref (qq 39), .ref (qq 40), .ref (qq 41), .ref (qq 42)])), ((qq 2), .inl (cT 0, 50, .inl (fun _ => (-1))))])) 0 0 := by
  refine mk_ctr (cc := cX12_onWith) (maxL := 10) (ret := (some .int)) (by decide) rfl (Nat.le_of_ble_eq_true rfl) ?_
  intro p e s m args below meth c A Q hx hb hr hts hown hlocks hin hml hP hK hD hN hZ hA hS hQ ls hl
  have hl : lv_has ls 10 [(0, .ref y), (1, .int 1), (2, .long 170), (4, .int 0), (5, .int 0)] := hl
  obtain ⟨H, hH⟩ : ∃ H : Heap, H = s.heap := ⟨_, rfl⟩
  obtain ⟨locs, hlo⟩ : ∃ x : List Loc, x = [] := ⟨_, rfl⟩
  rw [← hH] at hP
  have hS : va_S A s.heap H locs := by rw [hH, hlo]; exact hS
  have hgo : W p l e rm_c_M_onWith_1_0 s m args below meth c H locs 0 0 Q (F0 m 0 ls []) := by
    clear hH hlo
    refine lv_iload hx hb dX12_onWith_0 (lv_at hl 4 rfl) ?_
    refine lv_istore (lv' := [(6, .int 0), (0, .ref y), (1, .int 1), (2, .long 170), (4, .int 0), (5, .int 0)]) hx hb dX12_onWith_2 hl (by decide) rfl (fun ls hl => ?_)
    refine lv_iconst (v := 0) hx hb dX12_onWith_4 (by decide) ?_
    refine lv_istore (lv' := [(7, .int 0), (6, .int 0), (0, .ref y), (1, .int 1), (2, .long 170), (4, .int 0), (5, .int 0)]) hx hb dX12_onWith_5 hl (by decide) rfl (fun ls hl => ?_)
    refine lv_iload hx hb dX12_onWith_7 (lv_at hl 0 rfl) ?_
    refine lv_bipush (v := 24) hx hb dX12_onWith_9 (by decide) ?_
    refine icmp_ge_f hx hb dX12_onWith_11 92 (by decide) (by decide) ?_
    refine lv_iload_n hx hb dX12_onWith_14 rfl (lv_at hl 3 rfl) ?_
    refine lv_iload hx hb dX12_onWith_15 (lv_at hl 1 rfl) ?_
    refine lv_iload hx hb dX12_onWith_17 (lv_at hl 5 rfl) ?_
    refine cp_i (va_runS (As := [.int 1, .int 0, .int 0]) (rest := []) ⟨hx, hb, hml, hown, hts⟩ (c_M_at0 l g cT H.size 1 0 0) (va_cwS 3 hts gX12_onWith_X12_at0 rfl rfl rfl yd_X12_at0.2 ⟨(Nat.le_of_ble_eq_true rfl), (Nat.le_of_ble_eq_true rfl)⟩) (preS (ws := []) (wc := []) rfl (fun _ _ h => by simp at h) (va_D_nil (A := A)) hK hN hZ hS hA [] rfl rfl) rfl rfl hl.1 rfl (lv_room (Nat.le_of_ble_eq_true rfl)) dX12_onWith_19 ⟨(Nat.le_of_ble_eq_true rfl), (Nat.le_of_ble_eq_true rfl)⟩) hP hS hA (fun r_1 u H locs h_2 hP hS => ?_)
    subst h_2
    refine tI 25 (by decide) ?_
    refine lv_istore (lv' := [(8, .int 25), (7, .int 0), (6, .int 0), (0, .ref y), (1, .int 1), (2, .long 170), (4, .int 0), (5, .int 0)]) hx hb dX12_onWith_22 hl (by decide) rfl (fun ls hl => ?_)
    refine lv_aload_n hx hb dX12_onWith_24 rfl (lv_at hl 3 rfl) ?_
    refine va_get (C := RX12) (T := TX12) (N := 43) (v := .ref (qq 2)) hx hb hts hi_X12_onWith_X12 hown hK hP 0 rfl rfl 2 (by decide) (hts (.fieldLink RX12 16 "BothWaysModel" "goTo" "[I") (by decide +kernel)) (fun _ h => h) rfl dX12_onWith_25 ?_
    refine lv_iload hx hb dX12_onWith_28 (lv_at hl 0 rfl) ?_
    refine w_iald (v := (-1)) hx hb hK hP 1 rfl dX12_onWith_30 (inC (by decide)) rfl ?_
    refine lv_iconst (v := (-1)) hx hb dX12_onWith_31 (by decide) ?_
    refine icmp_ne_f hx hb dX12_onWith_32 38 (by decide) (by decide) ?_
    refine lv_bipush (v := 10) hx hb dX12_onWith_35 (by decide) ?_
    exact rt_i hx hb hr hlocks hQ hP hD hS () [0, 1] dX12_onWith_37 rfl (Nat.le_of_ble_eq_true rfl) (Nat.le_of_ble_eq_true rfl) rfl (by decide) rfl
  rw [hH, hlo] at hgo
  exact hgo
abbrev rm_c_M_onWith_1_1 : Room := { frames := 1, cells := 0, slots := 0, locals := 22 }
set_option maxHeartbeats 4000000 in
set_option maxRecDepth 100000 in
theorem c_M_onWith_1_1 (l : Launch) (g : va_G) (cT : Nat → ClassId) (sz : Nat) (y : Nat) (qq : Nat → Nat) (z6 : Int32) (z12 : Int32) (z14 : Int32) (z15 : Int32) (z16 : Int32) (z17 : Int32) (z19 : Int32) (z21 : Int32) (z22 : Int32) (z23 : Int32) (z24 : Int32) (z26 : Int32) (z30 : Int32)  : Ctr l g cT sz yX12_onWith wsX12_onWith rm_c_M_onWith_1_1 [.ref y, .int 1, .long 170, .int 1, .int 0] [(y, .inr (12, [.ref (qq 0), .ref (qq 1), .ref (qq 2), .ref (qq 3), .ref (qq 4), .ref (qq 5), .int z6, .ref (qq 7), .ref (qq 8), .ref (qq 9), .ref (qq 10), .ref (qq 11), .int z12, .ref (qq 13), .int z14, .int z15, .int z16, .int z17, .ref (qq 18), .int z19, .ref (qq 20), .int z21, .int z22, .int z23, .int z24, .ref (qq 25), .int z26, .ref (qq 27), .ref (qq 28), .ref (qq 29), .int z30, .ref (qq 31), .ref (qq 32), .ref (qq 33), .ref (qq 34), .ref (qq 35), .ref (qq 36), .ref (qq 37), .ref (qq 38), .ref (qq 39), .ref (qq 40), .ref (qq 41), .ref (qq 42)])), ((qq 2), .inl (cT 0, 50, .inl (fun _ => (-1))))] (QI g (fun (r : Int32) (u : Unit) => r = 10) (fun (u : Unit) => [(y, .inr (12, [.ref (qq 0), .ref (qq 1), .ref (qq 2), .ref (qq 3), .ref (qq 4), .ref (qq 5), .int z6, .ref (qq 7), .ref (qq 8), .ref (qq 9), .ref (qq 10), .ref (qq 11), .int z12, .ref (qq 13), .int z14, .int z15, .int z16, .int z17, .ref (qq 18), .int z19, .ref (qq 20), .int z21, .int z22, .int z23, .int z24, .ref (qq 25), .int z26, .ref (qq 27), .ref (qq 28), .ref (qq 29), .int z30, .ref (qq 31), .ref (qq 32), .ref (qq 33), .ref (qq 34), .ref (qq 35), .ref (qq 36), .ref (qq 37), .ref (qq 38), .ref (qq 39), .ref (qq 40), .ref (qq 41), .ref (qq 42)])), ((qq 2), .inl (cT 0, 50, .inl (fun _ => (-1))))])) 0 0 := by
  refine mk_ctr (cc := cX12_onWith) (maxL := 10) (ret := (some .int)) (by decide) rfl (Nat.le_of_ble_eq_true rfl) ?_
  intro p e s m args below meth c A Q hx hb hr hts hown hlocks hin hml hP hK hD hN hZ hA hS hQ ls hl
  have hl : lv_has ls 10 [(0, .ref y), (1, .int 1), (2, .long 170), (4, .int 1), (5, .int 0)] := hl
  obtain ⟨H, hH⟩ : ∃ H : Heap, H = s.heap := ⟨_, rfl⟩
  obtain ⟨locs, hlo⟩ : ∃ x : List Loc, x = [] := ⟨_, rfl⟩
  rw [← hH] at hP
  have hS : va_S A s.heap H locs := by rw [hH, hlo]; exact hS
  have hgo : W p l e rm_c_M_onWith_1_1 s m args below meth c H locs 0 0 Q (F0 m 0 ls []) := by
    clear hH hlo
    refine lv_iload hx hb dX12_onWith_0 (lv_at hl 4 rfl) ?_
    refine lv_istore (lv' := [(6, .int 0), (0, .ref y), (1, .int 1), (2, .long 170), (4, .int 1), (5, .int 0)]) hx hb dX12_onWith_2 hl (by decide) rfl (fun ls hl => ?_)
    refine lv_iconst (v := 0) hx hb dX12_onWith_4 (by decide) ?_
    refine lv_istore (lv' := [(7, .int 0), (6, .int 0), (0, .ref y), (1, .int 1), (2, .long 170), (4, .int 1), (5, .int 0)]) hx hb dX12_onWith_5 hl (by decide) rfl (fun ls hl => ?_)
    refine lv_iload hx hb dX12_onWith_7 (lv_at hl 0 rfl) ?_
    refine lv_bipush (v := 24) hx hb dX12_onWith_9 (by decide) ?_
    refine icmp_ge_f hx hb dX12_onWith_11 92 (by decide) (by decide) ?_
    refine lv_iload_n hx hb dX12_onWith_14 rfl (lv_at hl 3 rfl) ?_
    refine lv_iload hx hb dX12_onWith_15 (lv_at hl 1 rfl) ?_
    refine lv_iload hx hb dX12_onWith_17 (lv_at hl 5 rfl) ?_
    refine cp_i (va_runS (As := [.int 1, .int 0, .int 1]) (rest := []) ⟨hx, hb, hml, hown, hts⟩ (c_M_at0 l g cT H.size 1 0 1) (va_cwS 3 hts gX12_onWith_X12_at0 rfl rfl rfl yd_X12_at0.2 ⟨(Nat.le_of_ble_eq_true rfl), (Nat.le_of_ble_eq_true rfl)⟩) (preS (ws := []) (wc := []) rfl (fun _ _ h => by simp at h) (va_D_nil (A := A)) hK hN hZ hS hA [] rfl rfl) rfl rfl hl.1 rfl (lv_room (Nat.le_of_ble_eq_true rfl)) dX12_onWith_19 ⟨(Nat.le_of_ble_eq_true rfl), (Nat.le_of_ble_eq_true rfl)⟩) hP hS hA (fun r_1 u H locs h_2 hP hS => ?_)
    subst h_2
    refine tI 26 (by decide) ?_
    refine lv_istore (lv' := [(8, .int 26), (7, .int 0), (6, .int 0), (0, .ref y), (1, .int 1), (2, .long 170), (4, .int 1), (5, .int 0)]) hx hb dX12_onWith_22 hl (by decide) rfl (fun ls hl => ?_)
    refine lv_aload_n hx hb dX12_onWith_24 rfl (lv_at hl 3 rfl) ?_
    refine va_get (C := RX12) (T := TX12) (N := 43) (v := .ref (qq 2)) hx hb hts hi_X12_onWith_X12 hown hK hP 0 rfl rfl 2 (by decide) (hts (.fieldLink RX12 16 "BothWaysModel" "goTo" "[I") (by decide +kernel)) (fun _ h => h) rfl dX12_onWith_25 ?_
    refine lv_iload hx hb dX12_onWith_28 (lv_at hl 0 rfl) ?_
    refine w_iald (v := (-1)) hx hb hK hP 1 rfl dX12_onWith_30 (inC (by decide)) rfl ?_
    refine lv_iconst (v := (-1)) hx hb dX12_onWith_31 (by decide) ?_
    refine icmp_ne_f hx hb dX12_onWith_32 38 (by decide) (by decide) ?_
    refine lv_bipush (v := 10) hx hb dX12_onWith_35 (by decide) ?_
    exact rt_i hx hb hr hlocks hQ hP hD hS () [0, 1] dX12_onWith_37 rfl (Nat.le_of_ble_eq_true rfl) (Nat.le_of_ble_eq_true rfl) rfl (by decide) rfl
  rw [hH, hlo] at hgo
  exact hgo
abbrev rm_c_M_onWith_1_2 : Room := { frames := 1, cells := 0, slots := 0, locals := 22 }
set_option maxHeartbeats 4000000 in
set_option maxRecDepth 100000 in
theorem c_M_onWith_1_2 (l : Launch) (g : va_G) (cT : Nat → ClassId) (sz : Nat) (y : Nat) (qq : Nat → Nat) (z6 : Int32) (z12 : Int32) (z14 : Int32) (z15 : Int32) (z16 : Int32) (z17 : Int32) (z19 : Int32) (z21 : Int32) (z22 : Int32) (z23 : Int32) (z24 : Int32) (z26 : Int32) (z30 : Int32)  : Ctr l g cT sz yX12_onWith wsX12_onWith rm_c_M_onWith_1_2 [.ref y, .int 1, .long 170, .int 2, .int 0] [(y, .inr (12, [.ref (qq 0), .ref (qq 1), .ref (qq 2), .ref (qq 3), .ref (qq 4), .ref (qq 5), .int z6, .ref (qq 7), .ref (qq 8), .ref (qq 9), .ref (qq 10), .ref (qq 11), .int z12, .ref (qq 13), .int z14, .int z15, .int z16, .int z17, .ref (qq 18), .int z19, .ref (qq 20), .int z21, .int z22, .int z23, .int z24, .ref (qq 25), .int z26, .ref (qq 27), .ref (qq 28), .ref (qq 29), .int z30, .ref (qq 31), .ref (qq 32), .ref (qq 33), .ref (qq 34), .ref (qq 35), .ref (qq 36), .ref (qq 37), .ref (qq 38), .ref (qq 39), .ref (qq 40), .ref (qq 41), .ref (qq 42)])), ((qq 2), .inl (cT 0, 50, .inl (fun _ => (-1))))] (QI g (fun (r : Int32) (u : Unit) => r = 10) (fun (u : Unit) => [(y, .inr (12, [.ref (qq 0), .ref (qq 1), .ref (qq 2), .ref (qq 3), .ref (qq 4), .ref (qq 5), .int z6, .ref (qq 7), .ref (qq 8), .ref (qq 9), .ref (qq 10), .ref (qq 11), .int z12, .ref (qq 13), .int z14, .int z15, .int z16, .int z17, .ref (qq 18), .int z19, .ref (qq 20), .int z21, .int z22, .int z23, .int z24, .ref (qq 25), .int z26, .ref (qq 27), .ref (qq 28), .ref (qq 29), .int z30, .ref (qq 31), .ref (qq 32), .ref (qq 33), .ref (qq 34), .ref (qq 35), .ref (qq 36), .ref (qq 37), .ref (qq 38), .ref (qq 39), .ref (qq 40), .ref (qq 41), .ref (qq 42)])), ((qq 2), .inl (cT 0, 50, .inl (fun _ => (-1))))])) 0 0 := by
  refine mk_ctr (cc := cX12_onWith) (maxL := 10) (ret := (some .int)) (by decide) rfl (Nat.le_of_ble_eq_true rfl) ?_
  intro p e s m args below meth c A Q hx hb hr hts hown hlocks hin hml hP hK hD hN hZ hA hS hQ ls hl
  have hl : lv_has ls 10 [(0, .ref y), (1, .int 1), (2, .long 170), (4, .int 2), (5, .int 0)] := hl
  obtain ⟨H, hH⟩ : ∃ H : Heap, H = s.heap := ⟨_, rfl⟩
  obtain ⟨locs, hlo⟩ : ∃ x : List Loc, x = [] := ⟨_, rfl⟩
  rw [← hH] at hP
  have hS : va_S A s.heap H locs := by rw [hH, hlo]; exact hS
  have hgo : W p l e rm_c_M_onWith_1_2 s m args below meth c H locs 0 0 Q (F0 m 0 ls []) := by
    clear hH hlo
    refine lv_iload hx hb dX12_onWith_0 (lv_at hl 4 rfl) ?_
    refine lv_istore (lv' := [(6, .int 0), (0, .ref y), (1, .int 1), (2, .long 170), (4, .int 2), (5, .int 0)]) hx hb dX12_onWith_2 hl (by decide) rfl (fun ls hl => ?_)
    refine lv_iconst (v := 0) hx hb dX12_onWith_4 (by decide) ?_
    refine lv_istore (lv' := [(7, .int 0), (6, .int 0), (0, .ref y), (1, .int 1), (2, .long 170), (4, .int 2), (5, .int 0)]) hx hb dX12_onWith_5 hl (by decide) rfl (fun ls hl => ?_)
    refine lv_iload hx hb dX12_onWith_7 (lv_at hl 0 rfl) ?_
    refine lv_bipush (v := 24) hx hb dX12_onWith_9 (by decide) ?_
    refine icmp_ge_f hx hb dX12_onWith_11 92 (by decide) (by decide) ?_
    refine lv_iload_n hx hb dX12_onWith_14 rfl (lv_at hl 3 rfl) ?_
    refine lv_iload hx hb dX12_onWith_15 (lv_at hl 1 rfl) ?_
    refine lv_iload hx hb dX12_onWith_17 (lv_at hl 5 rfl) ?_
    refine cp_i (va_runS (As := [.int 1, .int 0, .int 2]) (rest := []) ⟨hx, hb, hml, hown, hts⟩ (c_M_at0 l g cT H.size 1 0 2) (va_cwS 3 hts gX12_onWith_X12_at0 rfl rfl rfl yd_X12_at0.2 ⟨(Nat.le_of_ble_eq_true rfl), (Nat.le_of_ble_eq_true rfl)⟩) (preS (ws := []) (wc := []) rfl (fun _ _ h => by simp at h) (va_D_nil (A := A)) hK hN hZ hS hA [] rfl rfl) rfl rfl hl.1 rfl (lv_room (Nat.le_of_ble_eq_true rfl)) dX12_onWith_19 ⟨(Nat.le_of_ble_eq_true rfl), (Nat.le_of_ble_eq_true rfl)⟩) hP hS hA (fun r_1 u H locs h_2 hP hS => ?_)
    subst h_2
    refine tI 27 (by decide) ?_
    refine lv_istore (lv' := [(8, .int 27), (7, .int 0), (6, .int 0), (0, .ref y), (1, .int 1), (2, .long 170), (4, .int 2), (5, .int 0)]) hx hb dX12_onWith_22 hl (by decide) rfl (fun ls hl => ?_)
    refine lv_aload_n hx hb dX12_onWith_24 rfl (lv_at hl 3 rfl) ?_
    refine va_get (C := RX12) (T := TX12) (N := 43) (v := .ref (qq 2)) hx hb hts hi_X12_onWith_X12 hown hK hP 0 rfl rfl 2 (by decide) (hts (.fieldLink RX12 16 "BothWaysModel" "goTo" "[I") (by decide +kernel)) (fun _ h => h) rfl dX12_onWith_25 ?_
    refine lv_iload hx hb dX12_onWith_28 (lv_at hl 0 rfl) ?_
    refine w_iald (v := (-1)) hx hb hK hP 1 rfl dX12_onWith_30 (inC (by decide)) rfl ?_
    refine lv_iconst (v := (-1)) hx hb dX12_onWith_31 (by decide) ?_
    refine icmp_ne_f hx hb dX12_onWith_32 38 (by decide) (by decide) ?_
    refine lv_bipush (v := 10) hx hb dX12_onWith_35 (by decide) ?_
    exact rt_i hx hb hr hlocks hQ hP hD hS () [0, 1] dX12_onWith_37 rfl (Nat.le_of_ble_eq_true rfl) (Nat.le_of_ble_eq_true rfl) rfl (by decide) rfl
  rw [hH, hlo] at hgo
  exact hgo
abbrev rm_c_M_longer_1_0 : Room := { frames := 2, cells := 0, slots := 0, locals := 51 }
set_option maxHeartbeats 4000000 in
set_option maxRecDepth 100000 in
theorem c_M_longer_1_0 (l : Launch) (g : va_G) (cT : Nat → ClassId) (sz : Nat) (y : Nat) (qq : Nat → Nat) (z6 : Int32) (z12 : Int32) (z14 : Int32) (z15 : Int32) (z16 : Int32) (z17 : Int32) (z19 : Int32) (z21 : Int32) (z22 : Int32) (z23 : Int32) (z24 : Int32) (z26 : Int32) (z30 : Int32)  : Ctr l g cT sz yX12_longer wsX12_longer rm_c_M_longer_1_0 [.ref y, .int 1, .long 170, .int 0] [(y, .inr (12, [.ref (qq 0), .ref (qq 1), .ref (qq 2), .ref (qq 3), .ref (qq 4), .ref (qq 5), .int z6, .ref (qq 7), .ref (qq 8), .ref (qq 9), .ref (qq 10), .ref (qq 11), .int z12, .ref (qq 13), .int z14, .int z15, .int z16, .int z17, .ref (qq 18), .int z19, .ref (qq 20), .int z21, .int z22, .int z23, .int z24, .ref (qq 25), .int z26, .ref (qq 27), .ref (qq 28), .ref (qq 29), .int z30, .ref (qq 31), .ref (qq 32), .ref (qq 33), .ref (qq 34), .ref (qq 35), .ref (qq 36), .ref (qq 37), .ref (qq 38), .ref (qq 39), .ref (qq 40), .ref (qq 41), .ref (qq 42)])), ((qq 0), .inl (cT 0, 2, .inl (fun _ => 1))), ((qq 2), .inl (cT 0, 50, .inl (fun _ => (-1))))] (QL g (fun (r : Int64) (u : Unit) => r = 170) (fun (u : Unit) => [(y, .inr (12, [.ref (qq 0), .ref (qq 1), .ref (qq 2), .ref (qq 3), .ref (qq 4), .ref (qq 5), .int z6, .ref (qq 7), .ref (qq 8), .ref (qq 9), .ref (qq 10), .ref (qq 11), .int z12, .ref (qq 13), .int z14, .int z15, .int z16, .int z17, .ref (qq 18), .int z19, .ref (qq 20), .int z21, .int z22, .int z23, .int z24, .ref (qq 25), .int z26, .ref (qq 27), .ref (qq 28), .ref (qq 29), .int z30, .ref (qq 31), .ref (qq 32), .ref (qq 33), .ref (qq 34), .ref (qq 35), .ref (qq 36), .ref (qq 37), .ref (qq 38), .ref (qq 39), .ref (qq 40), .ref (qq 41), .ref (qq 42)])), ((qq 0), .inl (cT 0, 2, .inl (fun _ => 1))), ((qq 2), .inl (cT 0, 50, .inl (fun _ => (-1))))])) 0 0 := by
  refine mk_ctr (cc := cX12_longer) (maxL := 9) (ret := (some .long)) (by decide) rfl (Nat.le_of_ble_eq_true rfl) ?_
  intro p e s m args below meth c A Q hx hb hr hts hown hlocks hin hml hP hK hD hN hZ hA hS hQ ls hl
  have hl : lv_has ls 9 [(0, .ref y), (1, .int 1), (2, .long 170), (4, .int 0)] := hl
  obtain ⟨H, hH⟩ : ∃ H : Heap, H = s.heap := ⟨_, rfl⟩
  obtain ⟨locs, hlo⟩ : ∃ x : List Loc, x = [] := ⟨_, rfl⟩
  rw [← hH] at hP
  have hS : va_S A s.heap H locs := by rw [hH, hlo]; exact hS
  have hgo : W p l e rm_c_M_longer_1_0 s m args below meth c H locs 0 0 Q (F0 m 0 ls []) := by
    clear hH hlo
    refine lv_lload_n hx hb dX12_longer_0 rfl (lv_at hl 2 rfl) ?_
    refine lv_iconst (v := 0) hx hb dX12_longer_1 (by decide) ?_
    refine cp_i (va_runS (As := [.long 170, .int 0]) (rest := []) ⟨hx, hb, hml, hown, hts⟩ (c_M_part l g cT H.size 170 0) (va_cwS 2 hts gX12_longer_X12_part rfl rfl rfl yd_X12_part.2 ⟨(Nat.le_of_ble_eq_true rfl), (Nat.le_of_ble_eq_true rfl)⟩) (preS (ws := []) (wc := []) rfl (fun _ _ h => by simp at h) (va_D_nil (A := A)) hK hN hZ hS hA [] rfl rfl) rfl rfl hl.1 rfl (lv_room (Nat.le_of_ble_eq_true rfl)) dX12_longer_2 ⟨(Nat.le_of_ble_eq_true rfl), (Nat.le_of_ble_eq_true rfl)⟩) hP hS hA (fun r_1 u H locs h_2 hP hS => ?_)
    subst h_2
    refine tI 10 (by decide) ?_
    refine lv_istore (lv' := [(5, .int 10), (0, .ref y), (1, .int 1), (2, .long 170), (4, .int 0)]) hx hb dX12_longer_5 hl (by decide) rfl (fun ls hl => ?_)
    refine lv_iload hx hb dX12_longer_7 (lv_at hl 0 rfl) ?_
    refine lv_bipush (v := 9) hx hb dX12_longer_9 (by decide) ?_
    refine icmp_le_f hx hb dX12_longer_11 20 (by decide) (by decide) ?_
    refine lv_iload hx hb dX12_longer_14 (lv_at hl 0 rfl) ?_
    refine lv_i2l (v := 10) hx hb dX12_longer_16 (by decide) ?_
    refine lv_goto (tgt := 31) hx hb dX12_longer_17 (by decide) ?_
    refine lv_lstore (lv' := [(6, .long 10), (5, .int 10), (0, .ref y), (1, .int 1), (2, .long 170), (4, .int 0)]) hx hb dX12_longer_31 hl (by decide) rfl (fun ls hl => ?_)
    refine lv_iconst (v := 0) hx hb dX12_longer_33 (by decide) ?_
    refine lv_istore (lv' := [(8, .int 0), (6, .long 10), (5, .int 10), (0, .ref y), (1, .int 1), (2, .long 170), (4, .int 0)]) hx hb dX12_longer_34 hl (by decide) rfl (fun ls hl => ?_)
    refine lv_iload hx hb dX12_longer_36 (lv_at hl 0 rfl) ?_
    refine lv_aload_n hx hb dX12_longer_38 rfl (lv_at hl 3 rfl) ?_
    refine va_get (C := RX12) (T := TX12) (N := 43) (v := .ref (qq 0)) hx hb hts hi_X12_longer_X12 hown hK hP 0 rfl rfl 0 (by decide) (hts (.fieldLink RX12 7 "BothWaysModel" "states" "[I") (by decide +kernel)) (fun _ h => h) rfl dX12_longer_39 ?_
    refine lv_iload_n hx hb dX12_longer_42 rfl (lv_at hl 4 rfl) ?_
    refine w_iald (v := 1) hx hb hK hP 1 rfl dX12_longer_43 (inC (by decide)) rfl ?_
    refine icmp_ge_f hx hb dX12_longer_44 76 (by decide) (by decide) ?_
    refine lv_lload hx hb dX12_longer_47 (lv_at hl 1 rfl) ?_
    refine lv_aload_n hx hb dX12_longer_49 rfl (lv_at hl 3 rfl) ?_
    refine lv_iload_n hx hb dX12_longer_50 rfl (lv_at hl 4 rfl) ?_
    refine lv_lload_n hx hb dX12_longer_51 rfl (lv_at hl 5 rfl) ?_
    refine lv_iload hx hb dX12_longer_52 (lv_at hl 6 rfl) ?_
    refine lv_iload hx hb dX12_longer_54 (lv_at hl 0 rfl) ?_
    refine cj_i 0 0 (wr := [((qq 0), .inl (cT 0, 2, .inl (fun _ => 1)))]) (va_runV (As := [.int 1, .long 170, .int 0, .int 0]) (rest := [.long 10]) ⟨hx, hb, hml, hown, hts⟩ (c_M_onWith_1_0 l g cT H.size y qq z6 z12 z14 z15 z16 z17 z19 z21 z22 z23 z24 z26 z30) (cwV 4 hts gX12_longer_X12_onWith rfl rfl rfl yd_X12_onWith ⟨(Nat.le_of_ble_eq_true rfl), (Nat.le_of_ble_eq_true rfl)⟩) (preV (wc := [(y, .inr (12, [.ref (qq 0), .ref (qq 1), .ref (qq 2), .ref (qq 3), .ref (qq 4), .ref (qq 5), .int z6, .ref (qq 7), .ref (qq 8), .ref (qq 9), .ref (qq 10), .ref (qq 11), .int z12, .ref (qq 13), .int z14, .int z15, .int z16, .int z17, .ref (qq 18), .int z19, .ref (qq 20), .int z21, .int z22, .int z23, .int z24, .ref (qq 25), .int z26, .ref (qq 27), .ref (qq 28), .ref (qq 29), .int z30, .ref (qq 31), .ref (qq 32), .ref (qq 33), .ref (qq 34), .ref (qq 35), .ref (qq 36), .ref (qq 37), .ref (qq 38), .ref (qq 39), .ref (qq 40), .ref (qq 41), .ref (qq 42)])), ((qq 2), .inl (cT 0, 50, .inl (fun _ => (-1))))]) rfl hP hD hK hN hZ hS hA [0, 2] rfl (by decide) (ci := 12) (q0 := 0) rfl rfl) rfl rfl hl.1 rfl (lv_room (Nat.le_of_ble_eq_true rfl)) dX12_longer_56 ⟨(Nat.le_of_ble_eq_true rfl), (Nat.le_of_ble_eq_true rfl)⟩) hP hD hS hA [0, 2] [1] rfl rfl (by decide) (by decide) (Nat.le_of_ble_eq_true rfl) (Nat.le_of_ble_eq_true rfl) (fun r_3 u H locs h_4 hP hD hS => ?_)
    have hP : va_P g vwCl [((qq 0), .inl (cT 0, 2, .inl (fun _ => 1))), (y, .inr (12, [.ref (qq 0), .ref (qq 1), .ref (qq 2), .ref (qq 3), .ref (qq 4), .ref (qq 5), .int z6, .ref (qq 7), .ref (qq 8), .ref (qq 9), .ref (qq 10), .ref (qq 11), .int z12, .ref (qq 13), .int z14, .int z15, .int z16, .int z17, .ref (qq 18), .int z19, .ref (qq 20), .int z21, .int z22, .int z23, .int z24, .ref (qq 25), .int z26, .ref (qq 27), .ref (qq 28), .ref (qq 29), .int z30, .ref (qq 31), .ref (qq 32), .ref (qq 33), .ref (qq 34), .ref (qq 35), .ref (qq 36), .ref (qq 37), .ref (qq 38), .ref (qq 39), .ref (qq 40), .ref (qq 41), .ref (qq 42)])), ((qq 2), .inl (cT 0, 50, .inl (fun _ => (-1))))] H := hP
    have hD : va_D A [((qq 0), .inl (cT 0, 2, .inl (fun _ => 1))), (y, .inr (12, [.ref (qq 0), .ref (qq 1), .ref (qq 2), .ref (qq 3), .ref (qq 4), .ref (qq 5), .int z6, .ref (qq 7), .ref (qq 8), .ref (qq 9), .ref (qq 10), .ref (qq 11), .int z12, .ref (qq 13), .int z14, .int z15, .int z16, .int z17, .ref (qq 18), .int z19, .ref (qq 20), .int z21, .int z22, .int z23, .int z24, .ref (qq 25), .int z26, .ref (qq 27), .ref (qq 28), .ref (qq 29), .int z30, .ref (qq 31), .ref (qq 32), .ref (qq 33), .ref (qq 34), .ref (qq 35), .ref (qq 36), .ref (qq 37), .ref (qq 38), .ref (qq 39), .ref (qq 40), .ref (qq 41), .ref (qq 42)])), ((qq 2), .inl (cT 0, 50, .inl (fun _ => (-1))))] := hD
    subst h_4
    refine lv_i2l (v := 10) hx hb dX12_longer_59 (by decide) ?_
    refine lv_iconst (v := 4) hx hb dX12_longer_60 (by decide) ?_
    refine lv_iload hx hb dX12_longer_61 (lv_at hl 0 rfl) ?_
    refine lv_iconst (v := 1) hx hb dX12_longer_63 (by decide) ?_
    refine w_iadd (v := 1) hx hb dX12_longer_64 (by decide) ?_
    refine w_imul (v := 4) hx hb dX12_longer_65 (by decide) ?_
    refine lv_lshl (v := 160) hx hb dX12_longer_66 (by decide) ?_
    refine w_lor (v := 170) hx hb dX12_longer_67 (by decide) ?_
    refine lv_lstore (lv' := [(6, .long 170), (8, .int 0), (5, .int 10), (0, .ref y), (1, .int 1), (2, .long 170), (4, .int 0)]) hx hb dX12_longer_68 hl (by decide) rfl (fun ls hl => ?_)
    refine lv_iinc (v := 1) (lv' := [(8, .int 1), (6, .long 170), (5, .int 10), (0, .ref y), (1, .int 1), (2, .long 170), (4, .int 0)]) hx hb dX12_longer_70 hl (k := 1) rfl (by decide) (by decide) rfl (fun ls hl => ?_)
    refine lv_goto (tgt := 36) hx hb dX12_longer_73 (by decide) ?_
    refine lv_iload hx hb dX12_longer_36 (lv_at hl 0 rfl) ?_
    refine lv_aload_n hx hb dX12_longer_38 rfl (lv_at hl 3 rfl) ?_
    refine va_get (C := RX12) (T := TX12) (N := 43) (v := .ref (qq 0)) hx hb hts hi_X12_longer_X12 hown hK hP 1 rfl rfl 0 (by decide) (hts (.fieldLink RX12 7 "BothWaysModel" "states" "[I") (by decide +kernel)) (fun _ h => h) rfl dX12_longer_39 ?_
    refine lv_iload_n hx hb dX12_longer_42 rfl (lv_at hl 4 rfl) ?_
    refine w_iald (v := 1) hx hb hK hP 0 rfl dX12_longer_43 (inC (by decide)) rfl ?_
    refine icmp_ge_t hx hb 76 dX12_longer_44 (by decide) (by decide) ?_
    refine lv_lload hx hb dX12_longer_76 (lv_at hl 1 rfl) ?_
    exact rt_l hx hb hr hlocks hQ hP hD hS () [1, 0, 2] dX12_longer_78 (Nat.le_of_ble_eq_true rfl) (Nat.le_of_ble_eq_true rfl) rfl (by decide) rfl
  rw [hH, hlo] at hgo
  exact hgo
abbrev rm_c_M_longer_1_1 : Room := { frames := 2, cells := 0, slots := 0, locals := 51 }
set_option maxHeartbeats 4000000 in
set_option maxRecDepth 100000 in
theorem c_M_longer_1_1 (l : Launch) (g : va_G) (cT : Nat → ClassId) (sz : Nat) (y : Nat) (qq : Nat → Nat) (z6 : Int32) (z12 : Int32) (z14 : Int32) (z15 : Int32) (z16 : Int32) (z17 : Int32) (z19 : Int32) (z21 : Int32) (z22 : Int32) (z23 : Int32) (z24 : Int32) (z26 : Int32) (z30 : Int32)  : Ctr l g cT sz yX12_longer wsX12_longer rm_c_M_longer_1_1 [.ref y, .int 1, .long 170, .int 1] [(y, .inr (12, [.ref (qq 0), .ref (qq 1), .ref (qq 2), .ref (qq 3), .ref (qq 4), .ref (qq 5), .int z6, .ref (qq 7), .ref (qq 8), .ref (qq 9), .ref (qq 10), .ref (qq 11), .int z12, .ref (qq 13), .int z14, .int z15, .int z16, .int z17, .ref (qq 18), .int z19, .ref (qq 20), .int z21, .int z22, .int z23, .int z24, .ref (qq 25), .int z26, .ref (qq 27), .ref (qq 28), .ref (qq 29), .int z30, .ref (qq 31), .ref (qq 32), .ref (qq 33), .ref (qq 34), .ref (qq 35), .ref (qq 36), .ref (qq 37), .ref (qq 38), .ref (qq 39), .ref (qq 40), .ref (qq 41), .ref (qq 42)])), ((qq 0), .inl (cT 0, 2, .inl (fun _ => 1))), ((qq 2), .inl (cT 0, 50, .inl (fun _ => (-1))))] (QL g (fun (r : Int64) (u : Unit) => r = 170) (fun (u : Unit) => [(y, .inr (12, [.ref (qq 0), .ref (qq 1), .ref (qq 2), .ref (qq 3), .ref (qq 4), .ref (qq 5), .int z6, .ref (qq 7), .ref (qq 8), .ref (qq 9), .ref (qq 10), .ref (qq 11), .int z12, .ref (qq 13), .int z14, .int z15, .int z16, .int z17, .ref (qq 18), .int z19, .ref (qq 20), .int z21, .int z22, .int z23, .int z24, .ref (qq 25), .int z26, .ref (qq 27), .ref (qq 28), .ref (qq 29), .int z30, .ref (qq 31), .ref (qq 32), .ref (qq 33), .ref (qq 34), .ref (qq 35), .ref (qq 36), .ref (qq 37), .ref (qq 38), .ref (qq 39), .ref (qq 40), .ref (qq 41), .ref (qq 42)])), ((qq 0), .inl (cT 0, 2, .inl (fun _ => 1))), ((qq 2), .inl (cT 0, 50, .inl (fun _ => (-1))))])) 0 0 := by
  refine mk_ctr (cc := cX12_longer) (maxL := 9) (ret := (some .long)) (by decide) rfl (Nat.le_of_ble_eq_true rfl) ?_
  intro p e s m args below meth c A Q hx hb hr hts hown hlocks hin hml hP hK hD hN hZ hA hS hQ ls hl
  have hl : lv_has ls 9 [(0, .ref y), (1, .int 1), (2, .long 170), (4, .int 1)] := hl
  obtain ⟨H, hH⟩ : ∃ H : Heap, H = s.heap := ⟨_, rfl⟩
  obtain ⟨locs, hlo⟩ : ∃ x : List Loc, x = [] := ⟨_, rfl⟩
  rw [← hH] at hP
  have hS : va_S A s.heap H locs := by rw [hH, hlo]; exact hS
  have hgo : W p l e rm_c_M_longer_1_1 s m args below meth c H locs 0 0 Q (F0 m 0 ls []) := by
    clear hH hlo
    refine lv_lload_n hx hb dX12_longer_0 rfl (lv_at hl 2 rfl) ?_
    refine lv_iconst (v := 0) hx hb dX12_longer_1 (by decide) ?_
    refine cp_i (va_runS (As := [.long 170, .int 0]) (rest := []) ⟨hx, hb, hml, hown, hts⟩ (c_M_part l g cT H.size 170 0) (va_cwS 2 hts gX12_longer_X12_part rfl rfl rfl yd_X12_part.2 ⟨(Nat.le_of_ble_eq_true rfl), (Nat.le_of_ble_eq_true rfl)⟩) (preS (ws := []) (wc := []) rfl (fun _ _ h => by simp at h) (va_D_nil (A := A)) hK hN hZ hS hA [] rfl rfl) rfl rfl hl.1 rfl (lv_room (Nat.le_of_ble_eq_true rfl)) dX12_longer_2 ⟨(Nat.le_of_ble_eq_true rfl), (Nat.le_of_ble_eq_true rfl)⟩) hP hS hA (fun r_1 u H locs h_2 hP hS => ?_)
    subst h_2
    refine tI 10 (by decide) ?_
    refine lv_istore (lv' := [(5, .int 10), (0, .ref y), (1, .int 1), (2, .long 170), (4, .int 1)]) hx hb dX12_longer_5 hl (by decide) rfl (fun ls hl => ?_)
    refine lv_iload hx hb dX12_longer_7 (lv_at hl 0 rfl) ?_
    refine lv_bipush (v := 9) hx hb dX12_longer_9 (by decide) ?_
    refine icmp_le_f hx hb dX12_longer_11 20 (by decide) (by decide) ?_
    refine lv_iload hx hb dX12_longer_14 (lv_at hl 0 rfl) ?_
    refine lv_i2l (v := 10) hx hb dX12_longer_16 (by decide) ?_
    refine lv_goto (tgt := 31) hx hb dX12_longer_17 (by decide) ?_
    refine lv_lstore (lv' := [(6, .long 10), (5, .int 10), (0, .ref y), (1, .int 1), (2, .long 170), (4, .int 1)]) hx hb dX12_longer_31 hl (by decide) rfl (fun ls hl => ?_)
    refine lv_iconst (v := 0) hx hb dX12_longer_33 (by decide) ?_
    refine lv_istore (lv' := [(8, .int 0), (6, .long 10), (5, .int 10), (0, .ref y), (1, .int 1), (2, .long 170), (4, .int 1)]) hx hb dX12_longer_34 hl (by decide) rfl (fun ls hl => ?_)
    refine lv_iload hx hb dX12_longer_36 (lv_at hl 0 rfl) ?_
    refine lv_aload_n hx hb dX12_longer_38 rfl (lv_at hl 3 rfl) ?_
    refine va_get (C := RX12) (T := TX12) (N := 43) (v := .ref (qq 0)) hx hb hts hi_X12_longer_X12 hown hK hP 0 rfl rfl 0 (by decide) (hts (.fieldLink RX12 7 "BothWaysModel" "states" "[I") (by decide +kernel)) (fun _ h => h) rfl dX12_longer_39 ?_
    refine lv_iload_n hx hb dX12_longer_42 rfl (lv_at hl 4 rfl) ?_
    refine w_iald (v := 1) hx hb hK hP 1 rfl dX12_longer_43 (inC (by decide)) rfl ?_
    refine icmp_ge_f hx hb dX12_longer_44 76 (by decide) (by decide) ?_
    refine lv_lload hx hb dX12_longer_47 (lv_at hl 1 rfl) ?_
    refine lv_aload_n hx hb dX12_longer_49 rfl (lv_at hl 3 rfl) ?_
    refine lv_iload_n hx hb dX12_longer_50 rfl (lv_at hl 4 rfl) ?_
    refine lv_lload_n hx hb dX12_longer_51 rfl (lv_at hl 5 rfl) ?_
    refine lv_iload hx hb dX12_longer_52 (lv_at hl 6 rfl) ?_
    refine lv_iload hx hb dX12_longer_54 (lv_at hl 0 rfl) ?_
    refine cj_i 0 0 (wr := [((qq 0), .inl (cT 0, 2, .inl (fun _ => 1)))]) (va_runV (As := [.int 1, .long 170, .int 1, .int 0]) (rest := [.long 10]) ⟨hx, hb, hml, hown, hts⟩ (c_M_onWith_1_1 l g cT H.size y qq z6 z12 z14 z15 z16 z17 z19 z21 z22 z23 z24 z26 z30) (cwV 4 hts gX12_longer_X12_onWith rfl rfl rfl yd_X12_onWith ⟨(Nat.le_of_ble_eq_true rfl), (Nat.le_of_ble_eq_true rfl)⟩) (preV (wc := [(y, .inr (12, [.ref (qq 0), .ref (qq 1), .ref (qq 2), .ref (qq 3), .ref (qq 4), .ref (qq 5), .int z6, .ref (qq 7), .ref (qq 8), .ref (qq 9), .ref (qq 10), .ref (qq 11), .int z12, .ref (qq 13), .int z14, .int z15, .int z16, .int z17, .ref (qq 18), .int z19, .ref (qq 20), .int z21, .int z22, .int z23, .int z24, .ref (qq 25), .int z26, .ref (qq 27), .ref (qq 28), .ref (qq 29), .int z30, .ref (qq 31), .ref (qq 32), .ref (qq 33), .ref (qq 34), .ref (qq 35), .ref (qq 36), .ref (qq 37), .ref (qq 38), .ref (qq 39), .ref (qq 40), .ref (qq 41), .ref (qq 42)])), ((qq 2), .inl (cT 0, 50, .inl (fun _ => (-1))))]) rfl hP hD hK hN hZ hS hA [0, 2] rfl (by decide) (ci := 12) (q0 := 0) rfl rfl) rfl rfl hl.1 rfl (lv_room (Nat.le_of_ble_eq_true rfl)) dX12_longer_56 ⟨(Nat.le_of_ble_eq_true rfl), (Nat.le_of_ble_eq_true rfl)⟩) hP hD hS hA [0, 2] [1] rfl rfl (by decide) (by decide) (Nat.le_of_ble_eq_true rfl) (Nat.le_of_ble_eq_true rfl) (fun r_3 u H locs h_4 hP hD hS => ?_)
    have hP : va_P g vwCl [((qq 0), .inl (cT 0, 2, .inl (fun _ => 1))), (y, .inr (12, [.ref (qq 0), .ref (qq 1), .ref (qq 2), .ref (qq 3), .ref (qq 4), .ref (qq 5), .int z6, .ref (qq 7), .ref (qq 8), .ref (qq 9), .ref (qq 10), .ref (qq 11), .int z12, .ref (qq 13), .int z14, .int z15, .int z16, .int z17, .ref (qq 18), .int z19, .ref (qq 20), .int z21, .int z22, .int z23, .int z24, .ref (qq 25), .int z26, .ref (qq 27), .ref (qq 28), .ref (qq 29), .int z30, .ref (qq 31), .ref (qq 32), .ref (qq 33), .ref (qq 34), .ref (qq 35), .ref (qq 36), .ref (qq 37), .ref (qq 38), .ref (qq 39), .ref (qq 40), .ref (qq 41), .ref (qq 42)])), ((qq 2), .inl (cT 0, 50, .inl (fun _ => (-1))))] H := hP
    have hD : va_D A [((qq 0), .inl (cT 0, 2, .inl (fun _ => 1))), (y, .inr (12, [.ref (qq 0), .ref (qq 1), .ref (qq 2), .ref (qq 3), .ref (qq 4), .ref (qq 5), .int z6, .ref (qq 7), .ref (qq 8), .ref (qq 9), .ref (qq 10), .ref (qq 11), .int z12, .ref (qq 13), .int z14, .int z15, .int z16, .int z17, .ref (qq 18), .int z19, .ref (qq 20), .int z21, .int z22, .int z23, .int z24, .ref (qq 25), .int z26, .ref (qq 27), .ref (qq 28), .ref (qq 29), .int z30, .ref (qq 31), .ref (qq 32), .ref (qq 33), .ref (qq 34), .ref (qq 35), .ref (qq 36), .ref (qq 37), .ref (qq 38), .ref (qq 39), .ref (qq 40), .ref (qq 41), .ref (qq 42)])), ((qq 2), .inl (cT 0, 50, .inl (fun _ => (-1))))] := hD
    subst h_4
    refine lv_i2l (v := 10) hx hb dX12_longer_59 (by decide) ?_
    refine lv_iconst (v := 4) hx hb dX12_longer_60 (by decide) ?_
    refine lv_iload hx hb dX12_longer_61 (lv_at hl 0 rfl) ?_
    refine lv_iconst (v := 1) hx hb dX12_longer_63 (by decide) ?_
    refine w_iadd (v := 1) hx hb dX12_longer_64 (by decide) ?_
    refine w_imul (v := 4) hx hb dX12_longer_65 (by decide) ?_
    refine lv_lshl (v := 160) hx hb dX12_longer_66 (by decide) ?_
    refine w_lor (v := 170) hx hb dX12_longer_67 (by decide) ?_
    refine lv_lstore (lv' := [(6, .long 170), (8, .int 0), (5, .int 10), (0, .ref y), (1, .int 1), (2, .long 170), (4, .int 1)]) hx hb dX12_longer_68 hl (by decide) rfl (fun ls hl => ?_)
    refine lv_iinc (v := 1) (lv' := [(8, .int 1), (6, .long 170), (5, .int 10), (0, .ref y), (1, .int 1), (2, .long 170), (4, .int 1)]) hx hb dX12_longer_70 hl (k := 1) rfl (by decide) (by decide) rfl (fun ls hl => ?_)
    refine lv_goto (tgt := 36) hx hb dX12_longer_73 (by decide) ?_
    refine lv_iload hx hb dX12_longer_36 (lv_at hl 0 rfl) ?_
    refine lv_aload_n hx hb dX12_longer_38 rfl (lv_at hl 3 rfl) ?_
    refine va_get (C := RX12) (T := TX12) (N := 43) (v := .ref (qq 0)) hx hb hts hi_X12_longer_X12 hown hK hP 1 rfl rfl 0 (by decide) (hts (.fieldLink RX12 7 "BothWaysModel" "states" "[I") (by decide +kernel)) (fun _ h => h) rfl dX12_longer_39 ?_
    refine lv_iload_n hx hb dX12_longer_42 rfl (lv_at hl 4 rfl) ?_
    refine w_iald (v := 1) hx hb hK hP 0 rfl dX12_longer_43 (inC (by decide)) rfl ?_
    refine icmp_ge_t hx hb 76 dX12_longer_44 (by decide) (by decide) ?_
    refine lv_lload hx hb dX12_longer_76 (lv_at hl 1 rfl) ?_
    exact rt_l hx hb hr hlocks hQ hP hD hS () [1, 0, 2] dX12_longer_78 (Nat.le_of_ble_eq_true rfl) (Nat.le_of_ble_eq_true rfl) rfl (by decide) rfl
  rw [hH, hlo] at hgo
  exact hgo
abbrev rm_c_M_longer_1_2 : Room := { frames := 2, cells := 0, slots := 0, locals := 51 }
set_option maxHeartbeats 4000000 in
set_option maxRecDepth 100000 in
theorem c_M_longer_1_2 (l : Launch) (g : va_G) (cT : Nat → ClassId) (sz : Nat) (y : Nat) (qq : Nat → Nat) (z6 : Int32) (z12 : Int32) (z14 : Int32) (z15 : Int32) (z16 : Int32) (z17 : Int32) (z19 : Int32) (z21 : Int32) (z22 : Int32) (z23 : Int32) (z24 : Int32) (z26 : Int32) (z30 : Int32)  : Ctr l g cT sz yX12_longer wsX12_longer rm_c_M_longer_1_2 [.ref y, .int 1, .long 170, .int 2] [(y, .inr (12, [.ref (qq 0), .ref (qq 1), .ref (qq 2), .ref (qq 3), .ref (qq 4), .ref (qq 5), .int z6, .ref (qq 7), .ref (qq 8), .ref (qq 9), .ref (qq 10), .ref (qq 11), .int z12, .ref (qq 13), .int z14, .int z15, .int z16, .int z17, .ref (qq 18), .int z19, .ref (qq 20), .int z21, .int z22, .int z23, .int z24, .ref (qq 25), .int z26, .ref (qq 27), .ref (qq 28), .ref (qq 29), .int z30, .ref (qq 31), .ref (qq 32), .ref (qq 33), .ref (qq 34), .ref (qq 35), .ref (qq 36), .ref (qq 37), .ref (qq 38), .ref (qq 39), .ref (qq 40), .ref (qq 41), .ref (qq 42)])), ((qq 0), .inl (cT 0, 2, .inl (fun _ => 1))), ((qq 2), .inl (cT 0, 50, .inl (fun _ => (-1))))] (QL g (fun (r : Int64) (u : Unit) => r = 170) (fun (u : Unit) => [(y, .inr (12, [.ref (qq 0), .ref (qq 1), .ref (qq 2), .ref (qq 3), .ref (qq 4), .ref (qq 5), .int z6, .ref (qq 7), .ref (qq 8), .ref (qq 9), .ref (qq 10), .ref (qq 11), .int z12, .ref (qq 13), .int z14, .int z15, .int z16, .int z17, .ref (qq 18), .int z19, .ref (qq 20), .int z21, .int z22, .int z23, .int z24, .ref (qq 25), .int z26, .ref (qq 27), .ref (qq 28), .ref (qq 29), .int z30, .ref (qq 31), .ref (qq 32), .ref (qq 33), .ref (qq 34), .ref (qq 35), .ref (qq 36), .ref (qq 37), .ref (qq 38), .ref (qq 39), .ref (qq 40), .ref (qq 41), .ref (qq 42)])), ((qq 0), .inl (cT 0, 2, .inl (fun _ => 1))), ((qq 2), .inl (cT 0, 50, .inl (fun _ => (-1))))])) 0 0 := by
  refine mk_ctr (cc := cX12_longer) (maxL := 9) (ret := (some .long)) (by decide) rfl (Nat.le_of_ble_eq_true rfl) ?_
  intro p e s m args below meth c A Q hx hb hr hts hown hlocks hin hml hP hK hD hN hZ hA hS hQ ls hl
  have hl : lv_has ls 9 [(0, .ref y), (1, .int 1), (2, .long 170), (4, .int 2)] := hl
  obtain ⟨H, hH⟩ : ∃ H : Heap, H = s.heap := ⟨_, rfl⟩
  obtain ⟨locs, hlo⟩ : ∃ x : List Loc, x = [] := ⟨_, rfl⟩
  rw [← hH] at hP
  have hS : va_S A s.heap H locs := by rw [hH, hlo]; exact hS
  have hgo : W p l e rm_c_M_longer_1_2 s m args below meth c H locs 0 0 Q (F0 m 0 ls []) := by
    clear hH hlo
    refine lv_lload_n hx hb dX12_longer_0 rfl (lv_at hl 2 rfl) ?_
    refine lv_iconst (v := 0) hx hb dX12_longer_1 (by decide) ?_
    refine cp_i (va_runS (As := [.long 170, .int 0]) (rest := []) ⟨hx, hb, hml, hown, hts⟩ (c_M_part l g cT H.size 170 0) (va_cwS 2 hts gX12_longer_X12_part rfl rfl rfl yd_X12_part.2 ⟨(Nat.le_of_ble_eq_true rfl), (Nat.le_of_ble_eq_true rfl)⟩) (preS (ws := []) (wc := []) rfl (fun _ _ h => by simp at h) (va_D_nil (A := A)) hK hN hZ hS hA [] rfl rfl) rfl rfl hl.1 rfl (lv_room (Nat.le_of_ble_eq_true rfl)) dX12_longer_2 ⟨(Nat.le_of_ble_eq_true rfl), (Nat.le_of_ble_eq_true rfl)⟩) hP hS hA (fun r_1 u H locs h_2 hP hS => ?_)
    subst h_2
    refine tI 10 (by decide) ?_
    refine lv_istore (lv' := [(5, .int 10), (0, .ref y), (1, .int 1), (2, .long 170), (4, .int 2)]) hx hb dX12_longer_5 hl (by decide) rfl (fun ls hl => ?_)
    refine lv_iload hx hb dX12_longer_7 (lv_at hl 0 rfl) ?_
    refine lv_bipush (v := 9) hx hb dX12_longer_9 (by decide) ?_
    refine icmp_le_f hx hb dX12_longer_11 20 (by decide) (by decide) ?_
    refine lv_iload hx hb dX12_longer_14 (lv_at hl 0 rfl) ?_
    refine lv_i2l (v := 10) hx hb dX12_longer_16 (by decide) ?_
    refine lv_goto (tgt := 31) hx hb dX12_longer_17 (by decide) ?_
    refine lv_lstore (lv' := [(6, .long 10), (5, .int 10), (0, .ref y), (1, .int 1), (2, .long 170), (4, .int 2)]) hx hb dX12_longer_31 hl (by decide) rfl (fun ls hl => ?_)
    refine lv_iconst (v := 0) hx hb dX12_longer_33 (by decide) ?_
    refine lv_istore (lv' := [(8, .int 0), (6, .long 10), (5, .int 10), (0, .ref y), (1, .int 1), (2, .long 170), (4, .int 2)]) hx hb dX12_longer_34 hl (by decide) rfl (fun ls hl => ?_)
    refine lv_iload hx hb dX12_longer_36 (lv_at hl 0 rfl) ?_
    refine lv_aload_n hx hb dX12_longer_38 rfl (lv_at hl 3 rfl) ?_
    refine va_get (C := RX12) (T := TX12) (N := 43) (v := .ref (qq 0)) hx hb hts hi_X12_longer_X12 hown hK hP 0 rfl rfl 0 (by decide) (hts (.fieldLink RX12 7 "BothWaysModel" "states" "[I") (by decide +kernel)) (fun _ h => h) rfl dX12_longer_39 ?_
    refine lv_iload_n hx hb dX12_longer_42 rfl (lv_at hl 4 rfl) ?_
    refine w_iald (v := 1) hx hb hK hP 1 rfl dX12_longer_43 (inC (by decide)) rfl ?_
    refine icmp_ge_f hx hb dX12_longer_44 76 (by decide) (by decide) ?_
    refine lv_lload hx hb dX12_longer_47 (lv_at hl 1 rfl) ?_
    refine lv_aload_n hx hb dX12_longer_49 rfl (lv_at hl 3 rfl) ?_
    refine lv_iload_n hx hb dX12_longer_50 rfl (lv_at hl 4 rfl) ?_
    refine lv_lload_n hx hb dX12_longer_51 rfl (lv_at hl 5 rfl) ?_
    refine lv_iload hx hb dX12_longer_52 (lv_at hl 6 rfl) ?_
    refine lv_iload hx hb dX12_longer_54 (lv_at hl 0 rfl) ?_
    refine cj_i 0 0 (wr := [((qq 0), .inl (cT 0, 2, .inl (fun _ => 1)))]) (va_runV (As := [.int 1, .long 170, .int 2, .int 0]) (rest := [.long 10]) ⟨hx, hb, hml, hown, hts⟩ (c_M_onWith_1_2 l g cT H.size y qq z6 z12 z14 z15 z16 z17 z19 z21 z22 z23 z24 z26 z30) (cwV 4 hts gX12_longer_X12_onWith rfl rfl rfl yd_X12_onWith ⟨(Nat.le_of_ble_eq_true rfl), (Nat.le_of_ble_eq_true rfl)⟩) (preV (wc := [(y, .inr (12, [.ref (qq 0), .ref (qq 1), .ref (qq 2), .ref (qq 3), .ref (qq 4), .ref (qq 5), .int z6, .ref (qq 7), .ref (qq 8), .ref (qq 9), .ref (qq 10), .ref (qq 11), .int z12, .ref (qq 13), .int z14, .int z15, .int z16, .int z17, .ref (qq 18), .int z19, .ref (qq 20), .int z21, .int z22, .int z23, .int z24, .ref (qq 25), .int z26, .ref (qq 27), .ref (qq 28), .ref (qq 29), .int z30, .ref (qq 31), .ref (qq 32), .ref (qq 33), .ref (qq 34), .ref (qq 35), .ref (qq 36), .ref (qq 37), .ref (qq 38), .ref (qq 39), .ref (qq 40), .ref (qq 41), .ref (qq 42)])), ((qq 2), .inl (cT 0, 50, .inl (fun _ => (-1))))]) rfl hP hD hK hN hZ hS hA [0, 2] rfl (by decide) (ci := 12) (q0 := 0) rfl rfl) rfl rfl hl.1 rfl (lv_room (Nat.le_of_ble_eq_true rfl)) dX12_longer_56 ⟨(Nat.le_of_ble_eq_true rfl), (Nat.le_of_ble_eq_true rfl)⟩) hP hD hS hA [0, 2] [1] rfl rfl (by decide) (by decide) (Nat.le_of_ble_eq_true rfl) (Nat.le_of_ble_eq_true rfl) (fun r_3 u H locs h_4 hP hD hS => ?_)
    have hP : va_P g vwCl [((qq 0), .inl (cT 0, 2, .inl (fun _ => 1))), (y, .inr (12, [.ref (qq 0), .ref (qq 1), .ref (qq 2), .ref (qq 3), .ref (qq 4), .ref (qq 5), .int z6, .ref (qq 7), .ref (qq 8), .ref (qq 9), .ref (qq 10), .ref (qq 11), .int z12, .ref (qq 13), .int z14, .int z15, .int z16, .int z17, .ref (qq 18), .int z19, .ref (qq 20), .int z21, .int z22, .int z23, .int z24, .ref (qq 25), .int z26, .ref (qq 27), .ref (qq 28), .ref (qq 29), .int z30, .ref (qq 31), .ref (qq 32), .ref (qq 33), .ref (qq 34), .ref (qq 35), .ref (qq 36), .ref (qq 37), .ref (qq 38), .ref (qq 39), .ref (qq 40), .ref (qq 41), .ref (qq 42)])), ((qq 2), .inl (cT 0, 50, .inl (fun _ => (-1))))] H := hP
    have hD : va_D A [((qq 0), .inl (cT 0, 2, .inl (fun _ => 1))), (y, .inr (12, [.ref (qq 0), .ref (qq 1), .ref (qq 2), .ref (qq 3), .ref (qq 4), .ref (qq 5), .int z6, .ref (qq 7), .ref (qq 8), .ref (qq 9), .ref (qq 10), .ref (qq 11), .int z12, .ref (qq 13), .int z14, .int z15, .int z16, .int z17, .ref (qq 18), .int z19, .ref (qq 20), .int z21, .int z22, .int z23, .int z24, .ref (qq 25), .int z26, .ref (qq 27), .ref (qq 28), .ref (qq 29), .int z30, .ref (qq 31), .ref (qq 32), .ref (qq 33), .ref (qq 34), .ref (qq 35), .ref (qq 36), .ref (qq 37), .ref (qq 38), .ref (qq 39), .ref (qq 40), .ref (qq 41), .ref (qq 42)])), ((qq 2), .inl (cT 0, 50, .inl (fun _ => (-1))))] := hD
    subst h_4
    refine lv_i2l (v := 10) hx hb dX12_longer_59 (by decide) ?_
    refine lv_iconst (v := 4) hx hb dX12_longer_60 (by decide) ?_
    refine lv_iload hx hb dX12_longer_61 (lv_at hl 0 rfl) ?_
    refine lv_iconst (v := 1) hx hb dX12_longer_63 (by decide) ?_
    refine w_iadd (v := 1) hx hb dX12_longer_64 (by decide) ?_
    refine w_imul (v := 4) hx hb dX12_longer_65 (by decide) ?_
    refine lv_lshl (v := 160) hx hb dX12_longer_66 (by decide) ?_
    refine w_lor (v := 170) hx hb dX12_longer_67 (by decide) ?_
    refine lv_lstore (lv' := [(6, .long 170), (8, .int 0), (5, .int 10), (0, .ref y), (1, .int 1), (2, .long 170), (4, .int 2)]) hx hb dX12_longer_68 hl (by decide) rfl (fun ls hl => ?_)
    refine lv_iinc (v := 1) (lv' := [(8, .int 1), (6, .long 170), (5, .int 10), (0, .ref y), (1, .int 1), (2, .long 170), (4, .int 2)]) hx hb dX12_longer_70 hl (k := 1) rfl (by decide) (by decide) rfl (fun ls hl => ?_)
    refine lv_goto (tgt := 36) hx hb dX12_longer_73 (by decide) ?_
    refine lv_iload hx hb dX12_longer_36 (lv_at hl 0 rfl) ?_
    refine lv_aload_n hx hb dX12_longer_38 rfl (lv_at hl 3 rfl) ?_
    refine va_get (C := RX12) (T := TX12) (N := 43) (v := .ref (qq 0)) hx hb hts hi_X12_longer_X12 hown hK hP 1 rfl rfl 0 (by decide) (hts (.fieldLink RX12 7 "BothWaysModel" "states" "[I") (by decide +kernel)) (fun _ h => h) rfl dX12_longer_39 ?_
    refine lv_iload_n hx hb dX12_longer_42 rfl (lv_at hl 4 rfl) ?_
    refine w_iald (v := 1) hx hb hK hP 0 rfl dX12_longer_43 (inC (by decide)) rfl ?_
    refine icmp_ge_t hx hb 76 dX12_longer_44 (by decide) (by decide) ?_
    refine lv_lload hx hb dX12_longer_76 (lv_at hl 1 rfl) ?_
    exact rt_l hx hb hr hlocks hQ hP hD hS () [1, 0, 2] dX12_longer_78 (Nat.le_of_ble_eq_true rfl) (Nat.le_of_ble_eq_true rfl) rfl (by decide) rfl
  rw [hH, hlo] at hgo
  exact hgo
abbrev rm_c_M_endOf_1 : Room := { frames := 1, cells := 0, slots := 0, locals := 22 }
set_option maxHeartbeats 4000000 in
set_option maxRecDepth 100000 in
theorem c_M_endOf_1 (l : Launch) (g : va_G) (cT : Nat → ClassId) (sz : Nat) (y : Nat) (qq : Nat → Nat) (z6 : Int32) (z12 : Int32) (z14 : Int32) (z15 : Int32) (z16 : Int32) (z17 : Int32) (z19 : Int32) (z21 : Int32) (z22 : Int32) (z23 : Int32) (z24 : Int32) (z26 : Int32) (z30 : Int32)  : Ctr l g cT sz yX12_endOf wsX12_endOf rm_c_M_endOf_1 [.ref y, .int 1, .long 170] [(y, .inr (12, [.ref (qq 0), .ref (qq 1), .ref (qq 2), .ref (qq 3), .ref (qq 4), .ref (qq 5), .int z6, .ref (qq 7), .ref (qq 8), .ref (qq 9), .ref (qq 10), .ref (qq 11), .int z12, .ref (qq 13), .int z14, .int z15, .int z16, .int z17, .ref (qq 18), .int z19, .ref (qq 20), .int z21, .int z22, .int z23, .int z24, .ref (qq 25), .int z26, .ref (qq 27), .ref (qq 28), .ref (qq 29), .int z30, .ref (qq 31), .ref (qq 32), .ref (qq 33), .ref (qq 34), .ref (qq 35), .ref (qq 36), .ref (qq 37), .ref (qq 38), .ref (qq 39), .ref (qq 40), .ref (qq 41), .ref (qq 42)]))] (QI g (fun (r : Int32) (u : Unit) => r = 0) (fun (u : Unit) => [(y, .inr (12, [.ref (qq 0), .ref (qq 1), .ref (qq 2), .ref (qq 3), .ref (qq 4), .ref (qq 5), .int z6, .ref (qq 7), .ref (qq 8), .ref (qq 9), .ref (qq 10), .ref (qq 11), .int z12, .ref (qq 13), .int z14, .int z15, .int z16, .int z17, .ref (qq 18), .int z19, .ref (qq 20), .int z21, .int z22, .int z23, .int z24, .ref (qq 25), .int z26, .ref (qq 27), .ref (qq 28), .ref (qq 29), .int z30, .ref (qq 31), .ref (qq 32), .ref (qq 33), .ref (qq 34), .ref (qq 35), .ref (qq 36), .ref (qq 37), .ref (qq 38), .ref (qq 39), .ref (qq 40), .ref (qq 41), .ref (qq 42)]))])) 0 0 := by
  refine mk_ctr (cc := cX12_endOf) (maxL := 7) (ret := (some .int)) (by decide) rfl (Nat.le_of_ble_eq_true rfl) ?_
  intro p e s m args below meth c A Q hx hb hr hts hown hlocks hin hml hP hK hD hN hZ hA hS hQ ls hl
  have hl : lv_has ls 7 [(0, .ref y), (1, .int 1), (2, .long 170)] := hl
  obtain ⟨H, hH⟩ : ∃ H : Heap, H = s.heap := ⟨_, rfl⟩
  obtain ⟨locs, hlo⟩ : ∃ x : List Loc, x = [] := ⟨_, rfl⟩
  rw [← hH] at hP
  have hS : va_S A s.heap H locs := by rw [hH, hlo]; exact hS
  have hgo : W p l e rm_c_M_endOf_1 s m args below meth c H locs 0 0 Q (F0 m 0 ls []) := by
    clear hH hlo
    refine lv_lload_n hx hb dX12_endOf_0 rfl (lv_at hl 2 rfl) ?_
    refine lv_iconst (v := 0) hx hb dX12_endOf_1 (by decide) ?_
    refine cp_i (va_runS (As := [.long 170, .int 0]) (rest := []) ⟨hx, hb, hml, hown, hts⟩ (c_M_part l g cT H.size 170 0) (va_cwS 2 hts gX12_endOf_X12_part rfl rfl rfl yd_X12_part.2 ⟨(Nat.le_of_ble_eq_true rfl), (Nat.le_of_ble_eq_true rfl)⟩) (preS (ws := []) (wc := []) rfl (fun _ _ h => by simp at h) (va_D_nil (A := A)) hK hN hZ hS hA [] rfl rfl) rfl rfl hl.1 rfl (lv_room (Nat.le_of_ble_eq_true rfl)) dX12_endOf_2 ⟨(Nat.le_of_ble_eq_true rfl), (Nat.le_of_ble_eq_true rfl)⟩) hP hS hA (fun r_1 u H locs h_2 hP hS => ?_)
    subst h_2
    refine tI 10 (by decide) ?_
    refine lv_istore (lv' := [(4, .int 10), (0, .ref y), (1, .int 1), (2, .long 170)]) hx hb dX12_endOf_5 hl (by decide) rfl (fun ls hl => ?_)
    refine lv_iconst (v := 0) hx hb dX12_endOf_7 (by decide) ?_
    refine lv_istore (lv' := [(5, .int 0), (4, .int 10), (0, .ref y), (1, .int 1), (2, .long 170)]) hx hb dX12_endOf_8 hl (by decide) rfl (fun ls hl => ?_)
    refine lv_iload hx hb dX12_endOf_10 (lv_at hl 0 rfl) ?_
    refine lv_bipush (v := 24) hx hb dX12_endOf_12 (by decide) ?_
    refine icmp_ge_f hx hb dX12_endOf_14 90 (by decide) (by decide) ?_
    refine lv_iload hx hb dX12_endOf_17 (lv_at hl 1 rfl) ?_
    refine lv_bipush (v := 9) hx hb dX12_endOf_19 (by decide) ?_
    refine icmp_le_f hx hb dX12_endOf_21 37 (by decide) (by decide) ?_
    refine lv_iload hx hb dX12_endOf_24 (lv_at hl 1 rfl) ?_
    refine lv_bipush (v := 10) hx hb dX12_endOf_26 (by decide) ?_
    refine icmp_ne_f hx hb dX12_endOf_28 35 (by decide) (by decide) ?_
    refine lv_iconst (v := 0) hx hb dX12_endOf_31 (by decide) ?_
    refine lv_goto (tgt := 36) hx hb dX12_endOf_32 (by decide) ?_
    exact rt_i hx hb hr hlocks hQ hP hD hS () [0] dX12_endOf_36 rfl (Nat.le_of_ble_eq_true rfl) (Nat.le_of_ble_eq_true rfl) rfl (by decide) rfl
  rw [hH, hlo] at hgo
  exact hgo

theorem hi_X12_beginOf_X12 : ∀ w ∈ wsX120, w ∈ wsX12_beginOf := fun _ h => List.mem_cons_of_mem _ (List.mem_append_right _ h)
abbrev rm_c_M_beginOf_0 : Room := { frames := 0, cells := 0, slots := 0, locals := 0 }
set_option maxHeartbeats 4000000 in
set_option maxRecDepth 100000 in
theorem c_M_beginOf_0 (l : Launch) (g : va_G) (cT : Nat → ClassId) (sz : Nat) (y : Nat) (qq : Nat → Nat) (z6 : Int32) (z12 : Int32) (z14 : Int32) (z15 : Int32) (z16 : Int32) (z17 : Int32) (z19 : Int32) (z21 : Int32) (z22 : Int32) (z23 : Int32) (z24 : Int32) (z26 : Int32) (z30 : Int32)  : Ctr l g cT sz yX12_beginOf wsX12_beginOf rm_c_M_beginOf_0 [.ref y, .int 0, .long 170] [(y, .inr (12, [.ref (qq 0), .ref (qq 1), .ref (qq 2), .ref (qq 3), .ref (qq 4), .ref (qq 5), .int z6, .ref (qq 7), .ref (qq 8), .ref (qq 9), .ref (qq 10), .ref (qq 11), .int z12, .ref (qq 13), .int z14, .int z15, .int z16, .int z17, .ref (qq 18), .int z19, .ref (qq 20), .int z21, .int z22, .int z23, .int z24, .ref (qq 25), .int z26, .ref (qq 27), .ref (qq 28), .ref (qq 29), .int z30, .ref (qq 31), .ref (qq 32), .ref (qq 33), .ref (qq 34), .ref (qq 35), .ref (qq 36), .ref (qq 37), .ref (qq 38), .ref (qq 39), .ref (qq 40), .ref (qq 41), .ref (qq 42)])), ((qq 31), .inl (cT 1, 1602, .inr (.inl (vp_updL (fun _ => 0) 0 170)))), ((qq 33), .inl (cT 0, 2, .inl (upd (fun _ => 0) 0 1)))] (QI g (fun (r : Int32) (u : Unit) => r = 0) (fun (u : Unit) => [(y, .inr (12, [.ref (qq 0), .ref (qq 1), .ref (qq 2), .ref (qq 3), .ref (qq 4), .ref (qq 5), .int z6, .ref (qq 7), .ref (qq 8), .ref (qq 9), .ref (qq 10), .ref (qq 11), .int z12, .ref (qq 13), .int z14, .int z15, .int z16, .int z17, .ref (qq 18), .int z19, .ref (qq 20), .int z21, .int z22, .int z23, .int z24, .ref (qq 25), .int z26, .ref (qq 27), .ref (qq 28), .ref (qq 29), .int z30, .ref (qq 31), .ref (qq 32), .ref (qq 33), .ref (qq 34), .ref (qq 35), .ref (qq 36), .ref (qq 37), .ref (qq 38), .ref (qq 39), .ref (qq 40), .ref (qq 41), .ref (qq 42)])), ((qq 31), .inl (cT 1, 1602, .inr (.inl (vp_updL (fun _ => 0) 0 170)))), ((qq 33), .inl (cT 0, 2, .inl (upd (fun _ => 0) 0 1)))])) 0 0 := by
  refine mk_ctr (cc := cX12_beginOf) (maxL := 5) (ret := (some .int)) (by decide) rfl (Nat.le_of_ble_eq_true rfl) ?_
  intro p e s m args below meth c A Q hx hb hr hts hown hlocks hin hml hP hK hD hN hZ hA hS hQ ls hl
  have hl : lv_has ls 5 [(0, .ref y), (1, .int 0), (2, .long 170)] := hl
  obtain ⟨H, hH⟩ : ∃ H : Heap, H = s.heap := ⟨_, rfl⟩
  obtain ⟨locs, hlo⟩ : ∃ x : List Loc, x = [] := ⟨_, rfl⟩
  rw [← hH] at hP
  have hS : va_S A s.heap H locs := by rw [hH, hlo]; exact hS
  have hgo : W p l e rm_c_M_beginOf_0 s m args below meth c H locs 0 0 Q (F0 m 0 ls []) := by
    clear hH hlo
    refine lv_iconst (v := 0) hx hb dX12_beginOf_0 (by decide) ?_
    refine lv_istore (lv' := [(4, .int 0), (0, .ref y), (1, .int 0), (2, .long 170)]) hx hb dX12_beginOf_1 hl (by decide) rfl (fun ls hl => ?_)
    refine lv_iload hx hb dX12_beginOf_3 (lv_at hl 0 rfl) ?_
    refine lv_aload_n hx hb dX12_beginOf_5 rfl (lv_at hl 1 rfl) ?_
    refine va_get (C := RX12) (T := TX12) (N := 43) (v := .ref (qq 33)) hx hb hts hi_X12_beginOf_X12 hown hK hP 0 rfl rfl 33 (by decide) (hts (.fieldLink RX12 72 "BothWaysModel" "beginMany" "[I") (by decide +kernel)) (fun _ h => h) rfl dX12_beginOf_6 ?_
    refine lv_iload_n hx hb dX12_beginOf_9 rfl (lv_at hl 2 rfl) ?_
    refine w_iald (v := 1) hx hb hK hP 2 rfl dX12_beginOf_10 (inC (by decide)) (by decide) ?_
    refine icmp_ge_f hx hb dX12_beginOf_11 41 (by decide) (by decide) ?_
    refine lv_aload_n hx hb dX12_beginOf_14 rfl (lv_at hl 1 rfl) ?_
    refine va_get (C := RX12) (T := TX12) (N := 43) (v := .ref (qq 31)) hx hb hts hi_X12_beginOf_X12 hown hK hP 0 rfl rfl 31 (by decide) (hts (.fieldLink RX12 66 "BothWaysModel" "begin" "[J") (by decide +kernel)) (fun _ h => h) rfl dX12_beginOf_15 ?_
    refine lv_sipush (v := 801) hx hb dX12_beginOf_18 (by decide) ?_
    refine lv_iload_n hx hb dX12_beginOf_21 rfl (lv_at hl 2 rfl) ?_
    refine w_imul (v := 0) hx hb dX12_beginOf_22 (by decide) ?_
    refine lv_iload hx hb dX12_beginOf_23 (lv_at hl 0 rfl) ?_
    refine w_iadd (v := 0) hx hb dX12_beginOf_25 (by decide) ?_
    refine w_lald (v := 170) hx hb hK hP 1 rfl dX12_beginOf_26 (inC (by decide)) (by decide) ?_
    refine lv_lload_n hx hb dX12_beginOf_27 rfl (lv_at hl 3 rfl) ?_
    refine w_lcmp (v := 0) hx hb dX12_beginOf_28 (by decide) ?_
    refine if_ne_f hx hb dX12_beginOf_29 35 (by decide) (by decide) ?_
    refine lv_iload hx hb dX12_beginOf_32 (lv_at hl 0 rfl) ?_
    exact rt_i hx hb hr hlocks hQ hP hD hS () [0, 1, 2] dX12_beginOf_34 rfl (Nat.le_of_ble_eq_true rfl) (Nat.le_of_ble_eq_true rfl) rfl (by decide) rfl
  rw [hH, hlo] at hgo
  exact hgo
theorem hi_X12_layBegins_X12 : ∀ w ∈ wsX120, w ∈ wsX12_layBegins := fun _ h => List.mem_cons_of_mem _ (List.mem_append_right _ h)
theorem yd_X12_emptyBeginning : yX12_emptyBeginning.cls = RX12 ∧ yX12_emptyBeginning.cls ≠ "java/lang/invoke/MethodHandle" ∧ yX12_emptyBeginning.cls ≠ "java/lang/invoke/VarHandle" ∧ (parseMethodDescriptor yX12_emptyBeginning.desc).map (fun d => d.parameters.length) = some 1 := by decide +kernel
theorem yd_X12_longer : yX12_longer.cls = RX12 ∧ yX12_longer.cls ≠ "java/lang/invoke/MethodHandle" ∧ yX12_longer.cls ≠ "java/lang/invoke/VarHandle" ∧ (parseMethodDescriptor yX12_longer.desc).map (fun d => d.parameters.length) = some 3 := by decide +kernel
theorem yd_X12_beginOf : yX12_beginOf.cls = RX12 ∧ yX12_beginOf.cls ≠ "java/lang/invoke/MethodHandle" ∧ yX12_beginOf.cls ≠ "java/lang/invoke/VarHandle" ∧ (parseMethodDescriptor yX12_beginOf.desc).map (fun d => d.parameters.length) = some 2 := by decide +kernel
abbrev rm_c_M_layBegins_0 : Room := { frames := 3, cells := 0, slots := 0, locals := 79 }
set_option maxHeartbeats 4000000 in
set_option maxRecDepth 100000 in
theorem c_M_layBegins_0 (l : Launch) (g : va_G) (cT : Nat → ClassId) (sz : Nat) (y : Nat) (qq : Nat → Nat) (z6 : Int32) (z12 : Int32) (z14 : Int32) (z15 : Int32) (z16 : Int32) (z17 : Int32) (z19 : Int32) (z21 : Int32) (z22 : Int32) (z23 : Int32) (z24 : Int32) (z26 : Int32) (z30 : Int32)  : Ctr l g cT sz yX12_layBegins wsX12_layBegins rm_c_M_layBegins_0 [.ref y, .int 0] [(y, .inr (12, [.ref (qq 0), .ref (qq 1), .ref (qq 2), .ref (qq 3), .ref (qq 4), .ref (qq 5), .int z6, .ref (qq 7), .ref (qq 8), .ref (qq 9), .ref (qq 10), .ref (qq 11), .int z12, .ref (qq 13), .int z14, .int z15, .int z16, .int z17, .ref (qq 18), .int z19, .ref (qq 20), .int z21, .int z22, .int z23, .int z24, .ref (qq 25), .int z26, .ref (qq 27), .ref (qq 28), .ref (qq 29), .int z30, .ref (qq 31), .ref (qq 32), .ref (qq 33), .ref (qq 34), .ref (qq 35), .ref (qq 36), .ref (qq 37), .ref (qq 38), .ref (qq 39), .ref (qq 40), .ref (qq 41), .ref (qq 42)])), ((qq 0), .inl (cT 0, 2, .inl (fun _ => 1))), ((qq 2), .inl (cT 0, 50, .inl (fun _ => (-1)))), ((qq 32), .inl (cT 0, 4806, .inl (fun _ => 0))), ((qq 31), .inl (cT 1, 1602, .inr (.inl (fun _ => 0)))), ((qq 33), .inl (cT 0, 2, .inl (fun _ => 0)))] (QI g (fun (r : Int32) (u : Unit) => r = 1) (fun (u : Unit) => [(y, .inr (12, [.ref (qq 0), .ref (qq 1), .ref (qq 2), .ref (qq 3), .ref (qq 4), .ref (qq 5), .int z6, .ref (qq 7), .ref (qq 8), .ref (qq 9), .ref (qq 10), .ref (qq 11), .int z12, .ref (qq 13), .int z14, .int z15, .int z16, .int z17, .ref (qq 18), .int z19, .ref (qq 20), .int z21, .int z22, .int z23, .int z24, .ref (qq 25), .int z26, .ref (qq 27), .ref (qq 28), .ref (qq 29), .int z30, .ref (qq 31), .ref (qq 32), .ref (qq 33), .ref (qq 34), .ref (qq 35), .ref (qq 36), .ref (qq 37), .ref (qq 38), .ref (qq 39), .ref (qq 40), .ref (qq 41), .ref (qq 42)])), ((qq 0), .inl (cT 0, 2, .inl (fun _ => 1))), ((qq 2), .inl (cT 0, 50, .inl (fun _ => (-1)))), ((qq 32), .inl (cT 0, 4806, .inl (fun _ => 0))), ((qq 31), .inl (cT 1, 1602, .inr (.inl (vp_updL (fun _ => 0) 0 170)))), ((qq 33), .inl (cT 0, 2, .inl (upd (fun _ => 0) 0 1)))])) 0 0 := by
  refine mk_ctr (cc := cX12_layBegins) (maxL := 7) (ret := (some .boolean)) (by decide) rfl (Nat.le_of_ble_eq_true rfl) ?_
  intro p e s m args below meth c A Q hx hb hr hts hown hlocks hin hml hP hK hD hN hZ hA hS hQ ls hl
  have hl : lv_has ls 7 [(0, .ref y), (1, .int 0)] := hl
  obtain ⟨H, hH⟩ : ∃ H : Heap, H = s.heap := ⟨_, rfl⟩
  obtain ⟨locs, hlo⟩ : ∃ x : List Loc, x = [] := ⟨_, rfl⟩
  rw [← hH] at hP
  have hS : va_S A s.heap H locs := by rw [hH, hlo]; exact hS
  have hgo : W p l e rm_c_M_layBegins_0 s m args below meth c H locs 0 0 Q (F0 m 0 ls []) := by
    clear hH hlo
    refine lv_aload_n hx hb dX12_layBegins_0 rfl (lv_at hl 0 rfl) ?_
    refine va_get (C := RX12) (T := TX12) (N := 43) (v := .ref (qq 31)) hx hb hts hi_X12_layBegins_X12 hown hK hP 0 rfl rfl 31 (by decide) (hts (.fieldLink RX12 66 "BothWaysModel" "begin" "[J") (by decide +kernel)) (fun _ h => h) rfl dX12_layBegins_1 ?_
    refine lv_sipush (v := 801) hx hb dX12_layBegins_4 (by decide) ?_
    refine lv_iload_n hx hb dX12_layBegins_7 rfl (lv_at hl 1 rfl) ?_
    refine w_imul (v := 0) hx hb dX12_layBegins_8 (by decide) ?_
    refine lv_aload_n hx hb dX12_layBegins_9 rfl (lv_at hl 0 rfl) ?_
    refine lv_iload_n hx hb dX12_layBegins_10 rfl (lv_at hl 1 rfl) ?_
    refine cj_l 0 0 (wr := [((qq 32), .inl (cT 0, 4806, .inl (fun _ => 0))), ((qq 31), .inl (cT 1, 1602, .inr (.inl (fun _ => 0)))), ((qq 33), .inl (cT 0, 2, .inl (fun _ => 0)))]) (va_runV (As := [.int 0]) (rest := [.int 0, .ref (qq 31)]) ⟨hx, hb, hml, hown, hts⟩ (c_M_emptyBeginning_0 l g cT H.size y qq z6 z12 z14 z15 z16 z17 z19 z21 z22 z23 z24 z26 z30) (cwV 1 hts gX12_layBegins_X12_emptyBeginning rfl rfl rfl yd_X12_emptyBeginning ⟨(Nat.le_of_ble_eq_true rfl), (Nat.le_of_ble_eq_true rfl)⟩) (preV (wc := [(y, .inr (12, [.ref (qq 0), .ref (qq 1), .ref (qq 2), .ref (qq 3), .ref (qq 4), .ref (qq 5), .int z6, .ref (qq 7), .ref (qq 8), .ref (qq 9), .ref (qq 10), .ref (qq 11), .int z12, .ref (qq 13), .int z14, .int z15, .int z16, .int z17, .ref (qq 18), .int z19, .ref (qq 20), .int z21, .int z22, .int z23, .int z24, .ref (qq 25), .int z26, .ref (qq 27), .ref (qq 28), .ref (qq 29), .int z30, .ref (qq 31), .ref (qq 32), .ref (qq 33), .ref (qq 34), .ref (qq 35), .ref (qq 36), .ref (qq 37), .ref (qq 38), .ref (qq 39), .ref (qq 40), .ref (qq 41), .ref (qq 42)])), ((qq 0), .inl (cT 0, 2, .inl (fun _ => 1))), ((qq 2), .inl (cT 0, 50, .inl (fun _ => (-1))))]) rfl hP hD hK hN hZ hS hA [0, 1, 2] rfl (by decide) (ci := 12) (q0 := 0) rfl rfl) rfl rfl hl.1 rfl (lv_room (Nat.le_of_ble_eq_true rfl)) dX12_layBegins_11 ⟨(Nat.le_of_ble_eq_true rfl), (Nat.le_of_ble_eq_true rfl)⟩) hP hD hS hA [0, 1, 2] [3, 4, 5] rfl rfl (by decide) (by decide) (Nat.le_of_ble_eq_true rfl) (Nat.le_of_ble_eq_true rfl) (fun r_1 u H locs h_2 hP hD hS => ?_)
    have hP : va_P g vwCl [((qq 32), .inl (cT 0, 4806, .inl (fun _ => 0))), ((qq 31), .inl (cT 1, 1602, .inr (.inl (fun _ => 0)))), ((qq 33), .inl (cT 0, 2, .inl (fun _ => 0))), (y, .inr (12, [.ref (qq 0), .ref (qq 1), .ref (qq 2), .ref (qq 3), .ref (qq 4), .ref (qq 5), .int z6, .ref (qq 7), .ref (qq 8), .ref (qq 9), .ref (qq 10), .ref (qq 11), .int z12, .ref (qq 13), .int z14, .int z15, .int z16, .int z17, .ref (qq 18), .int z19, .ref (qq 20), .int z21, .int z22, .int z23, .int z24, .ref (qq 25), .int z26, .ref (qq 27), .ref (qq 28), .ref (qq 29), .int z30, .ref (qq 31), .ref (qq 32), .ref (qq 33), .ref (qq 34), .ref (qq 35), .ref (qq 36), .ref (qq 37), .ref (qq 38), .ref (qq 39), .ref (qq 40), .ref (qq 41), .ref (qq 42)])), ((qq 0), .inl (cT 0, 2, .inl (fun _ => 1))), ((qq 2), .inl (cT 0, 50, .inl (fun _ => (-1))))] H := hP
    have hD : va_D A [((qq 32), .inl (cT 0, 4806, .inl (fun _ => 0))), ((qq 31), .inl (cT 1, 1602, .inr (.inl (fun _ => 0)))), ((qq 33), .inl (cT 0, 2, .inl (fun _ => 0))), (y, .inr (12, [.ref (qq 0), .ref (qq 1), .ref (qq 2), .ref (qq 3), .ref (qq 4), .ref (qq 5), .int z6, .ref (qq 7), .ref (qq 8), .ref (qq 9), .ref (qq 10), .ref (qq 11), .int z12, .ref (qq 13), .int z14, .int z15, .int z16, .int z17, .ref (qq 18), .int z19, .ref (qq 20), .int z21, .int z22, .int z23, .int z24, .ref (qq 25), .int z26, .ref (qq 27), .ref (qq 28), .ref (qq 29), .int z30, .ref (qq 31), .ref (qq 32), .ref (qq 33), .ref (qq 34), .ref (qq 35), .ref (qq 36), .ref (qq 37), .ref (qq 38), .ref (qq 39), .ref (qq 40), .ref (qq 41), .ref (qq 42)])), ((qq 0), .inl (cT 0, 2, .inl (fun _ => 1))), ((qq 2), .inl (cT 0, 50, .inl (fun _ => (-1))))] := hD
    subst h_2
    refine w_last (f' := (vp_updL (fun _ => 0) 0 170)) hx hb hK hP hD hS 1 rfl dX12_layBegins_14 (inC (by decide)) rfl (fun H locs hP hD hS => ?_)
    have hP : va_P g vwCl [((qq 32), .inl (cT 0, 4806, .inl (fun _ => 0))), ((qq 31), .inl (cT 1, 1602, .inr (.inl (vp_updL (fun _ => 0) 0 170)))), ((qq 33), .inl (cT 0, 2, .inl (fun _ => 0))), (y, .inr (12, [.ref (qq 0), .ref (qq 1), .ref (qq 2), .ref (qq 3), .ref (qq 4), .ref (qq 5), .int z6, .ref (qq 7), .ref (qq 8), .ref (qq 9), .ref (qq 10), .ref (qq 11), .int z12, .ref (qq 13), .int z14, .int z15, .int z16, .int z17, .ref (qq 18), .int z19, .ref (qq 20), .int z21, .int z22, .int z23, .int z24, .ref (qq 25), .int z26, .ref (qq 27), .ref (qq 28), .ref (qq 29), .int z30, .ref (qq 31), .ref (qq 32), .ref (qq 33), .ref (qq 34), .ref (qq 35), .ref (qq 36), .ref (qq 37), .ref (qq 38), .ref (qq 39), .ref (qq 40), .ref (qq 41), .ref (qq 42)])), ((qq 0), .inl (cT 0, 2, .inl (fun _ => 1))), ((qq 2), .inl (cT 0, 50, .inl (fun _ => (-1))))] H := hP
    have hD : va_D A [((qq 32), .inl (cT 0, 4806, .inl (fun _ => 0))), ((qq 31), .inl (cT 1, 1602, .inr (.inl (vp_updL (fun _ => 0) 0 170)))), ((qq 33), .inl (cT 0, 2, .inl (fun _ => 0))), (y, .inr (12, [.ref (qq 0), .ref (qq 1), .ref (qq 2), .ref (qq 3), .ref (qq 4), .ref (qq 5), .int z6, .ref (qq 7), .ref (qq 8), .ref (qq 9), .ref (qq 10), .ref (qq 11), .int z12, .ref (qq 13), .int z14, .int z15, .int z16, .int z17, .ref (qq 18), .int z19, .ref (qq 20), .int z21, .int z22, .int z23, .int z24, .ref (qq 25), .int z26, .ref (qq 27), .ref (qq 28), .ref (qq 29), .int z30, .ref (qq 31), .ref (qq 32), .ref (qq 33), .ref (qq 34), .ref (qq 35), .ref (qq 36), .ref (qq 37), .ref (qq 38), .ref (qq 39), .ref (qq 40), .ref (qq 41), .ref (qq 42)])), ((qq 0), .inl (cT 0, 2, .inl (fun _ => 1))), ((qq 2), .inl (cT 0, 50, .inl (fun _ => (-1))))] := hD
    refine lv_aload_n hx hb dX12_layBegins_15 rfl (lv_at hl 0 rfl) ?_
    refine va_get (C := RX12) (T := TX12) (N := 43) (v := .ref (qq 33)) hx hb hts hi_X12_layBegins_X12 hown hK hP 3 rfl rfl 33 (by decide) (hts (.fieldLink RX12 72 "BothWaysModel" "beginMany" "[I") (by decide +kernel)) (fun _ h => h) rfl dX12_layBegins_16 ?_
    refine lv_iload_n hx hb dX12_layBegins_19 rfl (lv_at hl 1 rfl) ?_
    refine lv_iconst (v := 1) hx hb dX12_layBegins_20 (by decide) ?_
    refine w_iast (f' := (upd (fun _ => 0) 0 1)) hx hb hK hP hD hS 2 rfl dX12_layBegins_21 (inC (by decide)) rfl (fun H locs hP hD hS => ?_)
    have hP : va_P g vwCl [((qq 32), .inl (cT 0, 4806, .inl (fun _ => 0))), ((qq 31), .inl (cT 1, 1602, .inr (.inl (vp_updL (fun _ => 0) 0 170)))), ((qq 33), .inl (cT 0, 2, .inl (upd (fun _ => 0) 0 1))), (y, .inr (12, [.ref (qq 0), .ref (qq 1), .ref (qq 2), .ref (qq 3), .ref (qq 4), .ref (qq 5), .int z6, .ref (qq 7), .ref (qq 8), .ref (qq 9), .ref (qq 10), .ref (qq 11), .int z12, .ref (qq 13), .int z14, .int z15, .int z16, .int z17, .ref (qq 18), .int z19, .ref (qq 20), .int z21, .int z22, .int z23, .int z24, .ref (qq 25), .int z26, .ref (qq 27), .ref (qq 28), .ref (qq 29), .int z30, .ref (qq 31), .ref (qq 32), .ref (qq 33), .ref (qq 34), .ref (qq 35), .ref (qq 36), .ref (qq 37), .ref (qq 38), .ref (qq 39), .ref (qq 40), .ref (qq 41), .ref (qq 42)])), ((qq 0), .inl (cT 0, 2, .inl (fun _ => 1))), ((qq 2), .inl (cT 0, 50, .inl (fun _ => (-1))))] H := hP
    have hD : va_D A [((qq 32), .inl (cT 0, 4806, .inl (fun _ => 0))), ((qq 31), .inl (cT 1, 1602, .inr (.inl (vp_updL (fun _ => 0) 0 170)))), ((qq 33), .inl (cT 0, 2, .inl (upd (fun _ => 0) 0 1))), (y, .inr (12, [.ref (qq 0), .ref (qq 1), .ref (qq 2), .ref (qq 3), .ref (qq 4), .ref (qq 5), .int z6, .ref (qq 7), .ref (qq 8), .ref (qq 9), .ref (qq 10), .ref (qq 11), .int z12, .ref (qq 13), .int z14, .int z15, .int z16, .int z17, .ref (qq 18), .int z19, .ref (qq 20), .int z21, .int z22, .int z23, .int z24, .ref (qq 25), .int z26, .ref (qq 27), .ref (qq 28), .ref (qq 29), .int z30, .ref (qq 31), .ref (qq 32), .ref (qq 33), .ref (qq 34), .ref (qq 35), .ref (qq 36), .ref (qq 37), .ref (qq 38), .ref (qq 39), .ref (qq 40), .ref (qq 41), .ref (qq 42)])), ((qq 0), .inl (cT 0, 2, .inl (fun _ => 1))), ((qq 2), .inl (cT 0, 50, .inl (fun _ => (-1))))] := hD
    refine lv_iconst (v := 0) hx hb dX12_layBegins_22 (by decide) ?_
    refine lv_istore_n (lv' := [(2, .int 0), (0, .ref y), (1, .int 0)]) hx hb dX12_layBegins_23 rfl hl (by decide) rfl (fun ls hl => ?_)
    refine lv_iload_n hx hb dX12_layBegins_24 rfl (lv_at hl 0 rfl) ?_
    refine lv_aload_n hx hb dX12_layBegins_25 rfl (lv_at hl 1 rfl) ?_
    refine va_get (C := RX12) (T := TX12) (N := 43) (v := .ref (qq 33)) hx hb hts hi_X12_layBegins_X12 hown hK hP 3 rfl rfl 33 (by decide) (hts (.fieldLink RX12 72 "BothWaysModel" "beginMany" "[I") (by decide +kernel)) (fun _ h => h) rfl dX12_layBegins_26 ?_
    refine lv_iload_n hx hb dX12_layBegins_29 rfl (lv_at hl 2 rfl) ?_
    refine w_iald (v := 1) hx hb hK hP 2 rfl dX12_layBegins_30 (inC (by decide)) (by decide) ?_
    refine icmp_ge_f hx hb dX12_layBegins_31 181 (by decide) (by decide) ?_
    refine lv_iconst (v := 0) hx hb dX12_layBegins_34 (by decide) ?_
    refine lv_istore_n (lv' := [(3, .int 0), (2, .int 0), (0, .ref y), (1, .int 0)]) hx hb dX12_layBegins_35 rfl hl (by decide) rfl (fun ls hl => ?_)
    refine lv_iload_n hx hb dX12_layBegins_36 rfl (lv_at hl 0 rfl) ?_
    refine lv_iconst (v := 3) hx hb dX12_layBegins_37 (by decide) ?_
    refine icmp_ge_f hx hb dX12_layBegins_38 175 (by decide) (by decide) ?_
    refine lv_aload_n hx hb dX12_layBegins_41 rfl (lv_at hl 2 rfl) ?_
    refine lv_iload_n hx hb dX12_layBegins_42 rfl (lv_at hl 3 rfl) ?_
    refine lv_aload_n hx hb dX12_layBegins_43 rfl (lv_at hl 2 rfl) ?_
    refine va_get (C := RX12) (T := TX12) (N := 43) (v := .ref (qq 31)) hx hb hts hi_X12_layBegins_X12 hown hK hP 3 rfl rfl 31 (by decide) (hts (.fieldLink RX12 66 "BothWaysModel" "begin" "[J") (by decide +kernel)) (fun _ h => h) rfl dX12_layBegins_44 ?_
    refine lv_sipush (v := 801) hx hb dX12_layBegins_47 (by decide) ?_
    refine lv_iload_n hx hb dX12_layBegins_50 rfl (lv_at hl 3 rfl) ?_
    refine w_imul (v := 0) hx hb dX12_layBegins_51 (by decide) ?_
    refine lv_iload_n hx hb dX12_layBegins_52 rfl (lv_at hl 1 rfl) ?_
    refine w_iadd (v := 0) hx hb dX12_layBegins_53 (by decide) ?_
    refine w_lald (v := 170) hx hb hK hP 1 rfl dX12_layBegins_54 (inC (by decide)) (by decide) ?_
    refine lv_iload_n hx hb dX12_layBegins_55 rfl (lv_at hl 0 rfl) ?_
    refine cj_l 0 0 (wr := [((qq 32), .inl (cT 0, 4806, .inl (fun _ => 0))), ((qq 31), .inl (cT 1, 1602, .inr (.inl (vp_updL (fun _ => 0) 0 170)))), ((qq 33), .inl (cT 0, 2, .inl (upd (fun _ => 0) 0 1)))]) (va_runV (As := [.int 0, .long 170, .int 0]) (rest := []) ⟨hx, hb, hml, hown, hts⟩ (c_M_longer_0_0 l g cT H.size y qq z6 z12 z14 z15 z16 z17 z19 z21 z22 z23 z24 z26 z30) (cwV 3 hts gX12_layBegins_X12_longer rfl rfl rfl yd_X12_longer ⟨(Nat.le_of_ble_eq_true rfl), (Nat.le_of_ble_eq_true rfl)⟩) (preV (wc := [(y, .inr (12, [.ref (qq 0), .ref (qq 1), .ref (qq 2), .ref (qq 3), .ref (qq 4), .ref (qq 5), .int z6, .ref (qq 7), .ref (qq 8), .ref (qq 9), .ref (qq 10), .ref (qq 11), .int z12, .ref (qq 13), .int z14, .int z15, .int z16, .int z17, .ref (qq 18), .int z19, .ref (qq 20), .int z21, .int z22, .int z23, .int z24, .ref (qq 25), .int z26, .ref (qq 27), .ref (qq 28), .ref (qq 29), .int z30, .ref (qq 31), .ref (qq 32), .ref (qq 33), .ref (qq 34), .ref (qq 35), .ref (qq 36), .ref (qq 37), .ref (qq 38), .ref (qq 39), .ref (qq 40), .ref (qq 41), .ref (qq 42)])), ((qq 0), .inl (cT 0, 2, .inl (fun _ => 1))), ((qq 2), .inl (cT 0, 50, .inl (fun _ => (-1))))]) rfl hP hD hK hN hZ hS hA [3, 4, 5] rfl (by decide) (ci := 12) (q0 := 3) rfl rfl) rfl rfl hl.1 rfl (lv_room (Nat.le_of_ble_eq_true rfl)) dX12_layBegins_56 ⟨(Nat.le_of_ble_eq_true rfl), (Nat.le_of_ble_eq_true rfl)⟩) hP hD hS hA [3, 4, 5] [0, 1, 2] rfl rfl (by decide) (by decide) (Nat.le_of_ble_eq_true rfl) (Nat.le_of_ble_eq_true rfl) (fun r_3 u H locs h_4 hP hD hS => ?_)
    have hP : va_P g vwCl [((qq 32), .inl (cT 0, 4806, .inl (fun _ => 0))), ((qq 31), .inl (cT 1, 1602, .inr (.inl (vp_updL (fun _ => 0) 0 170)))), ((qq 33), .inl (cT 0, 2, .inl (upd (fun _ => 0) 0 1))), (y, .inr (12, [.ref (qq 0), .ref (qq 1), .ref (qq 2), .ref (qq 3), .ref (qq 4), .ref (qq 5), .int z6, .ref (qq 7), .ref (qq 8), .ref (qq 9), .ref (qq 10), .ref (qq 11), .int z12, .ref (qq 13), .int z14, .int z15, .int z16, .int z17, .ref (qq 18), .int z19, .ref (qq 20), .int z21, .int z22, .int z23, .int z24, .ref (qq 25), .int z26, .ref (qq 27), .ref (qq 28), .ref (qq 29), .int z30, .ref (qq 31), .ref (qq 32), .ref (qq 33), .ref (qq 34), .ref (qq 35), .ref (qq 36), .ref (qq 37), .ref (qq 38), .ref (qq 39), .ref (qq 40), .ref (qq 41), .ref (qq 42)])), ((qq 0), .inl (cT 0, 2, .inl (fun _ => 1))), ((qq 2), .inl (cT 0, 50, .inl (fun _ => (-1))))] H := hP
    have hD : va_D A [((qq 32), .inl (cT 0, 4806, .inl (fun _ => 0))), ((qq 31), .inl (cT 1, 1602, .inr (.inl (vp_updL (fun _ => 0) 0 170)))), ((qq 33), .inl (cT 0, 2, .inl (upd (fun _ => 0) 0 1))), (y, .inr (12, [.ref (qq 0), .ref (qq 1), .ref (qq 2), .ref (qq 3), .ref (qq 4), .ref (qq 5), .int z6, .ref (qq 7), .ref (qq 8), .ref (qq 9), .ref (qq 10), .ref (qq 11), .int z12, .ref (qq 13), .int z14, .int z15, .int z16, .int z17, .ref (qq 18), .int z19, .ref (qq 20), .int z21, .int z22, .int z23, .int z24, .ref (qq 25), .int z26, .ref (qq 27), .ref (qq 28), .ref (qq 29), .int z30, .ref (qq 31), .ref (qq 32), .ref (qq 33), .ref (qq 34), .ref (qq 35), .ref (qq 36), .ref (qq 37), .ref (qq 38), .ref (qq 39), .ref (qq 40), .ref (qq 41), .ref (qq 42)])), ((qq 0), .inl (cT 0, 2, .inl (fun _ => 1))), ((qq 2), .inl (cT 0, 50, .inl (fun _ => (-1))))] := hD
    subst h_4
    refine lv_lstore (lv' := [(4, .long 170), (3, .int 0), (2, .int 0), (0, .ref y), (1, .int 0)]) hx hb dX12_layBegins_59 hl (by decide) rfl (fun ls hl => ?_)
    refine lv_aload_n hx hb dX12_layBegins_61 rfl (lv_at hl 3 rfl) ?_
    refine lv_iload_n hx hb dX12_layBegins_62 rfl (lv_at hl 4 rfl) ?_
    refine lv_lload hx hb dX12_layBegins_63 (lv_at hl 0 rfl) ?_
    refine cj_i 0 0 (wr := [((qq 32), .inl (cT 0, 4806, .inl (fun _ => 0))), ((qq 0), .inl (cT 0, 2, .inl (fun _ => 1))), ((qq 2), .inl (cT 0, 50, .inl (fun _ => (-1))))]) (va_runV (As := [.int 0, .long 170]) (rest := []) ⟨hx, hb, hml, hown, hts⟩ (c_M_beginOf_0 l g cT H.size y qq z6 z12 z14 z15 z16 z17 z19 z21 z22 z23 z24 z26 z30) (cwV 2 hts gX12_layBegins_X12_beginOf rfl rfl rfl yd_X12_beginOf ⟨(Nat.le_of_ble_eq_true rfl), (Nat.le_of_ble_eq_true rfl)⟩) (preV (wc := [(y, .inr (12, [.ref (qq 0), .ref (qq 1), .ref (qq 2), .ref (qq 3), .ref (qq 4), .ref (qq 5), .int z6, .ref (qq 7), .ref (qq 8), .ref (qq 9), .ref (qq 10), .ref (qq 11), .int z12, .ref (qq 13), .int z14, .int z15, .int z16, .int z17, .ref (qq 18), .int z19, .ref (qq 20), .int z21, .int z22, .int z23, .int z24, .ref (qq 25), .int z26, .ref (qq 27), .ref (qq 28), .ref (qq 29), .int z30, .ref (qq 31), .ref (qq 32), .ref (qq 33), .ref (qq 34), .ref (qq 35), .ref (qq 36), .ref (qq 37), .ref (qq 38), .ref (qq 39), .ref (qq 40), .ref (qq 41), .ref (qq 42)])), ((qq 31), .inl (cT 1, 1602, .inr (.inl (vp_updL (fun _ => 0) 0 170)))), ((qq 33), .inl (cT 0, 2, .inl (upd (fun _ => 0) 0 1)))]) rfl hP hD hK hN hZ hS hA [3, 1, 2] rfl (by decide) (ci := 12) (q0 := 3) rfl rfl) rfl rfl hl.1 rfl (lv_room (Nat.le_of_ble_eq_true rfl)) dX12_layBegins_65 ⟨(Nat.le_of_ble_eq_true rfl), (Nat.le_of_ble_eq_true rfl)⟩) hP hD hS hA [3, 1, 2] [0, 4, 5] rfl rfl (by decide) (by decide) (Nat.le_of_ble_eq_true rfl) (Nat.le_of_ble_eq_true rfl) (fun r_5 u H locs h_6 hP hD hS => ?_)
    have hP : va_P g vwCl [((qq 32), .inl (cT 0, 4806, .inl (fun _ => 0))), ((qq 0), .inl (cT 0, 2, .inl (fun _ => 1))), ((qq 2), .inl (cT 0, 50, .inl (fun _ => (-1)))), (y, .inr (12, [.ref (qq 0), .ref (qq 1), .ref (qq 2), .ref (qq 3), .ref (qq 4), .ref (qq 5), .int z6, .ref (qq 7), .ref (qq 8), .ref (qq 9), .ref (qq 10), .ref (qq 11), .int z12, .ref (qq 13), .int z14, .int z15, .int z16, .int z17, .ref (qq 18), .int z19, .ref (qq 20), .int z21, .int z22, .int z23, .int z24, .ref (qq 25), .int z26, .ref (qq 27), .ref (qq 28), .ref (qq 29), .int z30, .ref (qq 31), .ref (qq 32), .ref (qq 33), .ref (qq 34), .ref (qq 35), .ref (qq 36), .ref (qq 37), .ref (qq 38), .ref (qq 39), .ref (qq 40), .ref (qq 41), .ref (qq 42)])), ((qq 31), .inl (cT 1, 1602, .inr (.inl (vp_updL (fun _ => 0) 0 170)))), ((qq 33), .inl (cT 0, 2, .inl (upd (fun _ => 0) 0 1)))] H := hP
    have hD : va_D A [((qq 32), .inl (cT 0, 4806, .inl (fun _ => 0))), ((qq 0), .inl (cT 0, 2, .inl (fun _ => 1))), ((qq 2), .inl (cT 0, 50, .inl (fun _ => (-1)))), (y, .inr (12, [.ref (qq 0), .ref (qq 1), .ref (qq 2), .ref (qq 3), .ref (qq 4), .ref (qq 5), .int z6, .ref (qq 7), .ref (qq 8), .ref (qq 9), .ref (qq 10), .ref (qq 11), .int z12, .ref (qq 13), .int z14, .int z15, .int z16, .int z17, .ref (qq 18), .int z19, .ref (qq 20), .int z21, .int z22, .int z23, .int z24, .ref (qq 25), .int z26, .ref (qq 27), .ref (qq 28), .ref (qq 29), .int z30, .ref (qq 31), .ref (qq 32), .ref (qq 33), .ref (qq 34), .ref (qq 35), .ref (qq 36), .ref (qq 37), .ref (qq 38), .ref (qq 39), .ref (qq 40), .ref (qq 41), .ref (qq 42)])), ((qq 31), .inl (cT 1, 1602, .inr (.inl (vp_updL (fun _ => 0) 0 170)))), ((qq 33), .inl (cT 0, 2, .inl (upd (fun _ => 0) 0 1)))] := hD
    subst h_6
    refine lv_istore (lv' := [(6, .int 0), (4, .long 170), (3, .int 0), (2, .int 0), (0, .ref y), (1, .int 0)]) hx hb dX12_layBegins_68 hl (by decide) rfl (fun ls hl => ?_)
    refine lv_iload hx hb dX12_layBegins_70 (lv_at hl 0 rfl) ?_
    refine lv_iconst (v := (-1)) hx hb dX12_layBegins_72 (by decide) ?_
    refine icmp_ne_t hx hb 151 dX12_layBegins_73 (by decide) (by decide) ?_
    refine lv_aload_n hx hb dX12_layBegins_151 rfl (lv_at hl 4 rfl) ?_
    refine va_get (C := RX12) (T := TX12) (N := 43) (v := .ref (qq 32)) hx hb hts hi_X12_layBegins_X12 hown hK hP 3 rfl rfl 32 (by decide) (hts (.fieldLink RX12 69 "BothWaysModel" "lead" "[I") (by decide +kernel)) (fun _ h => h) rfl dX12_layBegins_152 ?_
    refine lv_sipush (v := 2403) hx hb dX12_layBegins_155 (by decide) ?_
    refine lv_iload_n hx hb dX12_layBegins_158 rfl (lv_at hl 5 rfl) ?_
    refine w_imul (v := 0) hx hb dX12_layBegins_159 (by decide) ?_
    refine lv_iconst (v := 3) hx hb dX12_layBegins_160 (by decide) ?_
    refine lv_iload_n hx hb dX12_layBegins_161 rfl (lv_at hl 3 rfl) ?_
    refine w_imul (v := 0) hx hb dX12_layBegins_162 (by decide) ?_
    refine w_iadd (v := 0) hx hb dX12_layBegins_163 (by decide) ?_
    refine lv_iload_n hx hb dX12_layBegins_164 rfl (lv_at hl 2 rfl) ?_
    refine w_iadd (v := 0) hx hb dX12_layBegins_165 (by decide) ?_
    refine lv_iload hx hb dX12_layBegins_166 (lv_at hl 0 rfl) ?_
    refine w_iast (f' := (fun _ => 0)) hx hb hK hP hD hS 0 rfl dX12_layBegins_168 (inC (by decide)) (upd_c _ _) (fun H locs hP hD hS => ?_)
    have hP : va_P g vwCl [((qq 32), .inl (cT 0, 4806, .inl (fun _ => 0))), ((qq 0), .inl (cT 0, 2, .inl (fun _ => 1))), ((qq 2), .inl (cT 0, 50, .inl (fun _ => (-1)))), (y, .inr (12, [.ref (qq 0), .ref (qq 1), .ref (qq 2), .ref (qq 3), .ref (qq 4), .ref (qq 5), .int z6, .ref (qq 7), .ref (qq 8), .ref (qq 9), .ref (qq 10), .ref (qq 11), .int z12, .ref (qq 13), .int z14, .int z15, .int z16, .int z17, .ref (qq 18), .int z19, .ref (qq 20), .int z21, .int z22, .int z23, .int z24, .ref (qq 25), .int z26, .ref (qq 27), .ref (qq 28), .ref (qq 29), .int z30, .ref (qq 31), .ref (qq 32), .ref (qq 33), .ref (qq 34), .ref (qq 35), .ref (qq 36), .ref (qq 37), .ref (qq 38), .ref (qq 39), .ref (qq 40), .ref (qq 41), .ref (qq 42)])), ((qq 31), .inl (cT 1, 1602, .inr (.inl (vp_updL (fun _ => 0) 0 170)))), ((qq 33), .inl (cT 0, 2, .inl (upd (fun _ => 0) 0 1)))] H := hP
    have hD : va_D A [((qq 32), .inl (cT 0, 4806, .inl (fun _ => 0))), ((qq 0), .inl (cT 0, 2, .inl (fun _ => 1))), ((qq 2), .inl (cT 0, 50, .inl (fun _ => (-1)))), (y, .inr (12, [.ref (qq 0), .ref (qq 1), .ref (qq 2), .ref (qq 3), .ref (qq 4), .ref (qq 5), .int z6, .ref (qq 7), .ref (qq 8), .ref (qq 9), .ref (qq 10), .ref (qq 11), .int z12, .ref (qq 13), .int z14, .int z15, .int z16, .int z17, .ref (qq 18), .int z19, .ref (qq 20), .int z21, .int z22, .int z23, .int z24, .ref (qq 25), .int z26, .ref (qq 27), .ref (qq 28), .ref (qq 29), .int z30, .ref (qq 31), .ref (qq 32), .ref (qq 33), .ref (qq 34), .ref (qq 35), .ref (qq 36), .ref (qq 37), .ref (qq 38), .ref (qq 39), .ref (qq 40), .ref (qq 41), .ref (qq 42)])), ((qq 31), .inl (cT 1, 1602, .inr (.inl (vp_updL (fun _ => 0) 0 170)))), ((qq 33), .inl (cT 0, 2, .inl (upd (fun _ => 0) 0 1)))] := hD
    refine lv_iinc (v := 1) (lv' := [(3, .int 1), (6, .int 0), (4, .long 170), (2, .int 0), (0, .ref y), (1, .int 0)]) hx hb dX12_layBegins_169 hl (k := 2) rfl (by decide) (by decide) rfl (fun ls hl => ?_)
    refine lv_goto (tgt := 36) hx hb dX12_layBegins_172 (by decide) ?_
    refine lv_iload_n hx hb dX12_layBegins_36 rfl (lv_at hl 0 rfl) ?_
    refine lv_iconst (v := 3) hx hb dX12_layBegins_37 (by decide) ?_
    refine icmp_ge_f hx hb dX12_layBegins_38 175 (by decide) (by decide) ?_
    refine lv_aload_n hx hb dX12_layBegins_41 rfl (lv_at hl 4 rfl) ?_
    refine lv_iload_n hx hb dX12_layBegins_42 rfl (lv_at hl 5 rfl) ?_
    refine lv_aload_n hx hb dX12_layBegins_43 rfl (lv_at hl 4 rfl) ?_
    refine va_get (C := RX12) (T := TX12) (N := 43) (v := .ref (qq 31)) hx hb hts hi_X12_layBegins_X12 hown hK hP 3 rfl rfl 31 (by decide) (hts (.fieldLink RX12 66 "BothWaysModel" "begin" "[J") (by decide +kernel)) (fun _ h => h) rfl dX12_layBegins_44 ?_
    refine lv_sipush (v := 801) hx hb dX12_layBegins_47 (by decide) ?_
    refine lv_iload_n hx hb dX12_layBegins_50 rfl (lv_at hl 5 rfl) ?_
    refine w_imul (v := 0) hx hb dX12_layBegins_51 (by decide) ?_
    refine lv_iload_n hx hb dX12_layBegins_52 rfl (lv_at hl 3 rfl) ?_
    refine w_iadd (v := 0) hx hb dX12_layBegins_53 (by decide) ?_
    refine w_lald (v := 170) hx hb hK hP 4 rfl dX12_layBegins_54 (inC (by decide)) (by decide) ?_
    refine lv_iload_n hx hb dX12_layBegins_55 rfl (lv_at hl 0 rfl) ?_
    refine cj_l 0 0 (wr := [((qq 32), .inl (cT 0, 4806, .inl (fun _ => 0))), ((qq 31), .inl (cT 1, 1602, .inr (.inl (vp_updL (fun _ => 0) 0 170)))), ((qq 33), .inl (cT 0, 2, .inl (upd (fun _ => 0) 0 1)))]) (va_runV (As := [.int 0, .long 170, .int 1]) (rest := []) ⟨hx, hb, hml, hown, hts⟩ (c_M_longer_0_1 l g cT H.size y qq z6 z12 z14 z15 z16 z17 z19 z21 z22 z23 z24 z26 z30) (cwV 3 hts gX12_layBegins_X12_longer rfl rfl rfl yd_X12_longer ⟨(Nat.le_of_ble_eq_true rfl), (Nat.le_of_ble_eq_true rfl)⟩) (preV (wc := [(y, .inr (12, [.ref (qq 0), .ref (qq 1), .ref (qq 2), .ref (qq 3), .ref (qq 4), .ref (qq 5), .int z6, .ref (qq 7), .ref (qq 8), .ref (qq 9), .ref (qq 10), .ref (qq 11), .int z12, .ref (qq 13), .int z14, .int z15, .int z16, .int z17, .ref (qq 18), .int z19, .ref (qq 20), .int z21, .int z22, .int z23, .int z24, .ref (qq 25), .int z26, .ref (qq 27), .ref (qq 28), .ref (qq 29), .int z30, .ref (qq 31), .ref (qq 32), .ref (qq 33), .ref (qq 34), .ref (qq 35), .ref (qq 36), .ref (qq 37), .ref (qq 38), .ref (qq 39), .ref (qq 40), .ref (qq 41), .ref (qq 42)])), ((qq 0), .inl (cT 0, 2, .inl (fun _ => 1))), ((qq 2), .inl (cT 0, 50, .inl (fun _ => (-1))))]) rfl hP hD hK hN hZ hS hA [3, 1, 2] rfl (by decide) (ci := 12) (q0 := 3) rfl rfl) rfl rfl hl.1 rfl (lv_room (Nat.le_of_ble_eq_true rfl)) dX12_layBegins_56 ⟨(Nat.le_of_ble_eq_true rfl), (Nat.le_of_ble_eq_true rfl)⟩) hP hD hS hA [3, 1, 2] [0, 4, 5] rfl rfl (by decide) (by decide) (Nat.le_of_ble_eq_true rfl) (Nat.le_of_ble_eq_true rfl) (fun r_7 u H locs h_8 hP hD hS => ?_)
    have hP : va_P g vwCl [((qq 32), .inl (cT 0, 4806, .inl (fun _ => 0))), ((qq 31), .inl (cT 1, 1602, .inr (.inl (vp_updL (fun _ => 0) 0 170)))), ((qq 33), .inl (cT 0, 2, .inl (upd (fun _ => 0) 0 1))), (y, .inr (12, [.ref (qq 0), .ref (qq 1), .ref (qq 2), .ref (qq 3), .ref (qq 4), .ref (qq 5), .int z6, .ref (qq 7), .ref (qq 8), .ref (qq 9), .ref (qq 10), .ref (qq 11), .int z12, .ref (qq 13), .int z14, .int z15, .int z16, .int z17, .ref (qq 18), .int z19, .ref (qq 20), .int z21, .int z22, .int z23, .int z24, .ref (qq 25), .int z26, .ref (qq 27), .ref (qq 28), .ref (qq 29), .int z30, .ref (qq 31), .ref (qq 32), .ref (qq 33), .ref (qq 34), .ref (qq 35), .ref (qq 36), .ref (qq 37), .ref (qq 38), .ref (qq 39), .ref (qq 40), .ref (qq 41), .ref (qq 42)])), ((qq 0), .inl (cT 0, 2, .inl (fun _ => 1))), ((qq 2), .inl (cT 0, 50, .inl (fun _ => (-1))))] H := hP
    have hD : va_D A [((qq 32), .inl (cT 0, 4806, .inl (fun _ => 0))), ((qq 31), .inl (cT 1, 1602, .inr (.inl (vp_updL (fun _ => 0) 0 170)))), ((qq 33), .inl (cT 0, 2, .inl (upd (fun _ => 0) 0 1))), (y, .inr (12, [.ref (qq 0), .ref (qq 1), .ref (qq 2), .ref (qq 3), .ref (qq 4), .ref (qq 5), .int z6, .ref (qq 7), .ref (qq 8), .ref (qq 9), .ref (qq 10), .ref (qq 11), .int z12, .ref (qq 13), .int z14, .int z15, .int z16, .int z17, .ref (qq 18), .int z19, .ref (qq 20), .int z21, .int z22, .int z23, .int z24, .ref (qq 25), .int z26, .ref (qq 27), .ref (qq 28), .ref (qq 29), .int z30, .ref (qq 31), .ref (qq 32), .ref (qq 33), .ref (qq 34), .ref (qq 35), .ref (qq 36), .ref (qq 37), .ref (qq 38), .ref (qq 39), .ref (qq 40), .ref (qq 41), .ref (qq 42)])), ((qq 0), .inl (cT 0, 2, .inl (fun _ => 1))), ((qq 2), .inl (cT 0, 50, .inl (fun _ => (-1))))] := hD
    subst h_8
    refine lv_lstore (lv' := [(4, .long 170), (3, .int 1), (6, .int 0), (2, .int 0), (0, .ref y), (1, .int 0)]) hx hb dX12_layBegins_59 hl (by decide) rfl (fun ls hl => ?_)
    refine lv_aload_n hx hb dX12_layBegins_61 rfl (lv_at hl 4 rfl) ?_
    refine lv_iload_n hx hb dX12_layBegins_62 rfl (lv_at hl 5 rfl) ?_
    refine lv_lload hx hb dX12_layBegins_63 (lv_at hl 0 rfl) ?_
    refine cj_i 0 0 (wr := [((qq 32), .inl (cT 0, 4806, .inl (fun _ => 0))), ((qq 0), .inl (cT 0, 2, .inl (fun _ => 1))), ((qq 2), .inl (cT 0, 50, .inl (fun _ => (-1))))]) (va_runV (As := [.int 0, .long 170]) (rest := []) ⟨hx, hb, hml, hown, hts⟩ (c_M_beginOf_0 l g cT H.size y qq z6 z12 z14 z15 z16 z17 z19 z21 z22 z23 z24 z26 z30) (cwV 2 hts gX12_layBegins_X12_beginOf rfl rfl rfl yd_X12_beginOf ⟨(Nat.le_of_ble_eq_true rfl), (Nat.le_of_ble_eq_true rfl)⟩) (preV (wc := [(y, .inr (12, [.ref (qq 0), .ref (qq 1), .ref (qq 2), .ref (qq 3), .ref (qq 4), .ref (qq 5), .int z6, .ref (qq 7), .ref (qq 8), .ref (qq 9), .ref (qq 10), .ref (qq 11), .int z12, .ref (qq 13), .int z14, .int z15, .int z16, .int z17, .ref (qq 18), .int z19, .ref (qq 20), .int z21, .int z22, .int z23, .int z24, .ref (qq 25), .int z26, .ref (qq 27), .ref (qq 28), .ref (qq 29), .int z30, .ref (qq 31), .ref (qq 32), .ref (qq 33), .ref (qq 34), .ref (qq 35), .ref (qq 36), .ref (qq 37), .ref (qq 38), .ref (qq 39), .ref (qq 40), .ref (qq 41), .ref (qq 42)])), ((qq 31), .inl (cT 1, 1602, .inr (.inl (vp_updL (fun _ => 0) 0 170)))), ((qq 33), .inl (cT 0, 2, .inl (upd (fun _ => 0) 0 1)))]) rfl hP hD hK hN hZ hS hA [3, 1, 2] rfl (by decide) (ci := 12) (q0 := 3) rfl rfl) rfl rfl hl.1 rfl (lv_room (Nat.le_of_ble_eq_true rfl)) dX12_layBegins_65 ⟨(Nat.le_of_ble_eq_true rfl), (Nat.le_of_ble_eq_true rfl)⟩) hP hD hS hA [3, 1, 2] [0, 4, 5] rfl rfl (by decide) (by decide) (Nat.le_of_ble_eq_true rfl) (Nat.le_of_ble_eq_true rfl) (fun r_9 u H locs h_10 hP hD hS => ?_)
    have hP : va_P g vwCl [((qq 32), .inl (cT 0, 4806, .inl (fun _ => 0))), ((qq 0), .inl (cT 0, 2, .inl (fun _ => 1))), ((qq 2), .inl (cT 0, 50, .inl (fun _ => (-1)))), (y, .inr (12, [.ref (qq 0), .ref (qq 1), .ref (qq 2), .ref (qq 3), .ref (qq 4), .ref (qq 5), .int z6, .ref (qq 7), .ref (qq 8), .ref (qq 9), .ref (qq 10), .ref (qq 11), .int z12, .ref (qq 13), .int z14, .int z15, .int z16, .int z17, .ref (qq 18), .int z19, .ref (qq 20), .int z21, .int z22, .int z23, .int z24, .ref (qq 25), .int z26, .ref (qq 27), .ref (qq 28), .ref (qq 29), .int z30, .ref (qq 31), .ref (qq 32), .ref (qq 33), .ref (qq 34), .ref (qq 35), .ref (qq 36), .ref (qq 37), .ref (qq 38), .ref (qq 39), .ref (qq 40), .ref (qq 41), .ref (qq 42)])), ((qq 31), .inl (cT 1, 1602, .inr (.inl (vp_updL (fun _ => 0) 0 170)))), ((qq 33), .inl (cT 0, 2, .inl (upd (fun _ => 0) 0 1)))] H := hP
    have hD : va_D A [((qq 32), .inl (cT 0, 4806, .inl (fun _ => 0))), ((qq 0), .inl (cT 0, 2, .inl (fun _ => 1))), ((qq 2), .inl (cT 0, 50, .inl (fun _ => (-1)))), (y, .inr (12, [.ref (qq 0), .ref (qq 1), .ref (qq 2), .ref (qq 3), .ref (qq 4), .ref (qq 5), .int z6, .ref (qq 7), .ref (qq 8), .ref (qq 9), .ref (qq 10), .ref (qq 11), .int z12, .ref (qq 13), .int z14, .int z15, .int z16, .int z17, .ref (qq 18), .int z19, .ref (qq 20), .int z21, .int z22, .int z23, .int z24, .ref (qq 25), .int z26, .ref (qq 27), .ref (qq 28), .ref (qq 29), .int z30, .ref (qq 31), .ref (qq 32), .ref (qq 33), .ref (qq 34), .ref (qq 35), .ref (qq 36), .ref (qq 37), .ref (qq 38), .ref (qq 39), .ref (qq 40), .ref (qq 41), .ref (qq 42)])), ((qq 31), .inl (cT 1, 1602, .inr (.inl (vp_updL (fun _ => 0) 0 170)))), ((qq 33), .inl (cT 0, 2, .inl (upd (fun _ => 0) 0 1)))] := hD
    subst h_10
    refine lv_istore (lv' := [(6, .int 0), (4, .long 170), (3, .int 1), (2, .int 0), (0, .ref y), (1, .int 0)]) hx hb dX12_layBegins_68 hl (by decide) rfl (fun ls hl => ?_)
    refine lv_iload hx hb dX12_layBegins_70 (lv_at hl 0 rfl) ?_
    refine lv_iconst (v := (-1)) hx hb dX12_layBegins_72 (by decide) ?_
    refine icmp_ne_t hx hb 151 dX12_layBegins_73 (by decide) (by decide) ?_
    refine lv_aload_n hx hb dX12_layBegins_151 rfl (lv_at hl 4 rfl) ?_
    refine va_get (C := RX12) (T := TX12) (N := 43) (v := .ref (qq 32)) hx hb hts hi_X12_layBegins_X12 hown hK hP 3 rfl rfl 32 (by decide) (hts (.fieldLink RX12 69 "BothWaysModel" "lead" "[I") (by decide +kernel)) (fun _ h => h) rfl dX12_layBegins_152 ?_
    refine lv_sipush (v := 2403) hx hb dX12_layBegins_155 (by decide) ?_
    refine lv_iload_n hx hb dX12_layBegins_158 rfl (lv_at hl 5 rfl) ?_
    refine w_imul (v := 0) hx hb dX12_layBegins_159 (by decide) ?_
    refine lv_iconst (v := 3) hx hb dX12_layBegins_160 (by decide) ?_
    refine lv_iload_n hx hb dX12_layBegins_161 rfl (lv_at hl 3 rfl) ?_
    refine w_imul (v := 0) hx hb dX12_layBegins_162 (by decide) ?_
    refine w_iadd (v := 0) hx hb dX12_layBegins_163 (by decide) ?_
    refine lv_iload_n hx hb dX12_layBegins_164 rfl (lv_at hl 2 rfl) ?_
    refine w_iadd (v := 1) hx hb dX12_layBegins_165 (by decide) ?_
    refine lv_iload hx hb dX12_layBegins_166 (lv_at hl 0 rfl) ?_
    refine w_iast (f' := (fun _ => 0)) hx hb hK hP hD hS 0 rfl dX12_layBegins_168 (inC (by decide)) (upd_c _ _) (fun H locs hP hD hS => ?_)
    have hP : va_P g vwCl [((qq 32), .inl (cT 0, 4806, .inl (fun _ => 0))), ((qq 0), .inl (cT 0, 2, .inl (fun _ => 1))), ((qq 2), .inl (cT 0, 50, .inl (fun _ => (-1)))), (y, .inr (12, [.ref (qq 0), .ref (qq 1), .ref (qq 2), .ref (qq 3), .ref (qq 4), .ref (qq 5), .int z6, .ref (qq 7), .ref (qq 8), .ref (qq 9), .ref (qq 10), .ref (qq 11), .int z12, .ref (qq 13), .int z14, .int z15, .int z16, .int z17, .ref (qq 18), .int z19, .ref (qq 20), .int z21, .int z22, .int z23, .int z24, .ref (qq 25), .int z26, .ref (qq 27), .ref (qq 28), .ref (qq 29), .int z30, .ref (qq 31), .ref (qq 32), .ref (qq 33), .ref (qq 34), .ref (qq 35), .ref (qq 36), .ref (qq 37), .ref (qq 38), .ref (qq 39), .ref (qq 40), .ref (qq 41), .ref (qq 42)])), ((qq 31), .inl (cT 1, 1602, .inr (.inl (vp_updL (fun _ => 0) 0 170)))), ((qq 33), .inl (cT 0, 2, .inl (upd (fun _ => 0) 0 1)))] H := hP
    have hD : va_D A [((qq 32), .inl (cT 0, 4806, .inl (fun _ => 0))), ((qq 0), .inl (cT 0, 2, .inl (fun _ => 1))), ((qq 2), .inl (cT 0, 50, .inl (fun _ => (-1)))), (y, .inr (12, [.ref (qq 0), .ref (qq 1), .ref (qq 2), .ref (qq 3), .ref (qq 4), .ref (qq 5), .int z6, .ref (qq 7), .ref (qq 8), .ref (qq 9), .ref (qq 10), .ref (qq 11), .int z12, .ref (qq 13), .int z14, .int z15, .int z16, .int z17, .ref (qq 18), .int z19, .ref (qq 20), .int z21, .int z22, .int z23, .int z24, .ref (qq 25), .int z26, .ref (qq 27), .ref (qq 28), .ref (qq 29), .int z30, .ref (qq 31), .ref (qq 32), .ref (qq 33), .ref (qq 34), .ref (qq 35), .ref (qq 36), .ref (qq 37), .ref (qq 38), .ref (qq 39), .ref (qq 40), .ref (qq 41), .ref (qq 42)])), ((qq 31), .inl (cT 1, 1602, .inr (.inl (vp_updL (fun _ => 0) 0 170)))), ((qq 33), .inl (cT 0, 2, .inl (upd (fun _ => 0) 0 1)))] := hD
    refine lv_iinc (v := 2) (lv' := [(3, .int 2), (6, .int 0), (4, .long 170), (2, .int 0), (0, .ref y), (1, .int 0)]) hx hb dX12_layBegins_169 hl (k := 2) rfl (by decide) (by decide) rfl (fun ls hl => ?_)
    refine lv_goto (tgt := 36) hx hb dX12_layBegins_172 (by decide) ?_
    refine lv_iload_n hx hb dX12_layBegins_36 rfl (lv_at hl 0 rfl) ?_
    refine lv_iconst (v := 3) hx hb dX12_layBegins_37 (by decide) ?_
    refine icmp_ge_f hx hb dX12_layBegins_38 175 (by decide) (by decide) ?_
    refine lv_aload_n hx hb dX12_layBegins_41 rfl (lv_at hl 4 rfl) ?_
    refine lv_iload_n hx hb dX12_layBegins_42 rfl (lv_at hl 5 rfl) ?_
    refine lv_aload_n hx hb dX12_layBegins_43 rfl (lv_at hl 4 rfl) ?_
    refine va_get (C := RX12) (T := TX12) (N := 43) (v := .ref (qq 31)) hx hb hts hi_X12_layBegins_X12 hown hK hP 3 rfl rfl 31 (by decide) (hts (.fieldLink RX12 66 "BothWaysModel" "begin" "[J") (by decide +kernel)) (fun _ h => h) rfl dX12_layBegins_44 ?_
    refine lv_sipush (v := 801) hx hb dX12_layBegins_47 (by decide) ?_
    refine lv_iload_n hx hb dX12_layBegins_50 rfl (lv_at hl 5 rfl) ?_
    refine w_imul (v := 0) hx hb dX12_layBegins_51 (by decide) ?_
    refine lv_iload_n hx hb dX12_layBegins_52 rfl (lv_at hl 3 rfl) ?_
    refine w_iadd (v := 0) hx hb dX12_layBegins_53 (by decide) ?_
    refine w_lald (v := 170) hx hb hK hP 4 rfl dX12_layBegins_54 (inC (by decide)) (by decide) ?_
    refine lv_iload_n hx hb dX12_layBegins_55 rfl (lv_at hl 0 rfl) ?_
    refine cj_l 0 0 (wr := [((qq 32), .inl (cT 0, 4806, .inl (fun _ => 0))), ((qq 31), .inl (cT 1, 1602, .inr (.inl (vp_updL (fun _ => 0) 0 170)))), ((qq 33), .inl (cT 0, 2, .inl (upd (fun _ => 0) 0 1)))]) (va_runV (As := [.int 0, .long 170, .int 2]) (rest := []) ⟨hx, hb, hml, hown, hts⟩ (c_M_longer_0_2 l g cT H.size y qq z6 z12 z14 z15 z16 z17 z19 z21 z22 z23 z24 z26 z30) (cwV 3 hts gX12_layBegins_X12_longer rfl rfl rfl yd_X12_longer ⟨(Nat.le_of_ble_eq_true rfl), (Nat.le_of_ble_eq_true rfl)⟩) (preV (wc := [(y, .inr (12, [.ref (qq 0), .ref (qq 1), .ref (qq 2), .ref (qq 3), .ref (qq 4), .ref (qq 5), .int z6, .ref (qq 7), .ref (qq 8), .ref (qq 9), .ref (qq 10), .ref (qq 11), .int z12, .ref (qq 13), .int z14, .int z15, .int z16, .int z17, .ref (qq 18), .int z19, .ref (qq 20), .int z21, .int z22, .int z23, .int z24, .ref (qq 25), .int z26, .ref (qq 27), .ref (qq 28), .ref (qq 29), .int z30, .ref (qq 31), .ref (qq 32), .ref (qq 33), .ref (qq 34), .ref (qq 35), .ref (qq 36), .ref (qq 37), .ref (qq 38), .ref (qq 39), .ref (qq 40), .ref (qq 41), .ref (qq 42)])), ((qq 0), .inl (cT 0, 2, .inl (fun _ => 1))), ((qq 2), .inl (cT 0, 50, .inl (fun _ => (-1))))]) rfl hP hD hK hN hZ hS hA [3, 1, 2] rfl (by decide) (ci := 12) (q0 := 3) rfl rfl) rfl rfl hl.1 rfl (lv_room (Nat.le_of_ble_eq_true rfl)) dX12_layBegins_56 ⟨(Nat.le_of_ble_eq_true rfl), (Nat.le_of_ble_eq_true rfl)⟩) hP hD hS hA [3, 1, 2] [0, 4, 5] rfl rfl (by decide) (by decide) (Nat.le_of_ble_eq_true rfl) (Nat.le_of_ble_eq_true rfl) (fun r_11 u H locs h_12 hP hD hS => ?_)
    have hP : va_P g vwCl [((qq 32), .inl (cT 0, 4806, .inl (fun _ => 0))), ((qq 31), .inl (cT 1, 1602, .inr (.inl (vp_updL (fun _ => 0) 0 170)))), ((qq 33), .inl (cT 0, 2, .inl (upd (fun _ => 0) 0 1))), (y, .inr (12, [.ref (qq 0), .ref (qq 1), .ref (qq 2), .ref (qq 3), .ref (qq 4), .ref (qq 5), .int z6, .ref (qq 7), .ref (qq 8), .ref (qq 9), .ref (qq 10), .ref (qq 11), .int z12, .ref (qq 13), .int z14, .int z15, .int z16, .int z17, .ref (qq 18), .int z19, .ref (qq 20), .int z21, .int z22, .int z23, .int z24, .ref (qq 25), .int z26, .ref (qq 27), .ref (qq 28), .ref (qq 29), .int z30, .ref (qq 31), .ref (qq 32), .ref (qq 33), .ref (qq 34), .ref (qq 35), .ref (qq 36), .ref (qq 37), .ref (qq 38), .ref (qq 39), .ref (qq 40), .ref (qq 41), .ref (qq 42)])), ((qq 0), .inl (cT 0, 2, .inl (fun _ => 1))), ((qq 2), .inl (cT 0, 50, .inl (fun _ => (-1))))] H := hP
    have hD : va_D A [((qq 32), .inl (cT 0, 4806, .inl (fun _ => 0))), ((qq 31), .inl (cT 1, 1602, .inr (.inl (vp_updL (fun _ => 0) 0 170)))), ((qq 33), .inl (cT 0, 2, .inl (upd (fun _ => 0) 0 1))), (y, .inr (12, [.ref (qq 0), .ref (qq 1), .ref (qq 2), .ref (qq 3), .ref (qq 4), .ref (qq 5), .int z6, .ref (qq 7), .ref (qq 8), .ref (qq 9), .ref (qq 10), .ref (qq 11), .int z12, .ref (qq 13), .int z14, .int z15, .int z16, .int z17, .ref (qq 18), .int z19, .ref (qq 20), .int z21, .int z22, .int z23, .int z24, .ref (qq 25), .int z26, .ref (qq 27), .ref (qq 28), .ref (qq 29), .int z30, .ref (qq 31), .ref (qq 32), .ref (qq 33), .ref (qq 34), .ref (qq 35), .ref (qq 36), .ref (qq 37), .ref (qq 38), .ref (qq 39), .ref (qq 40), .ref (qq 41), .ref (qq 42)])), ((qq 0), .inl (cT 0, 2, .inl (fun _ => 1))), ((qq 2), .inl (cT 0, 50, .inl (fun _ => (-1))))] := hD
    subst h_12
    refine lv_lstore (lv' := [(4, .long 170), (3, .int 2), (6, .int 0), (2, .int 0), (0, .ref y), (1, .int 0)]) hx hb dX12_layBegins_59 hl (by decide) rfl (fun ls hl => ?_)
    refine lv_aload_n hx hb dX12_layBegins_61 rfl (lv_at hl 4 rfl) ?_
    refine lv_iload_n hx hb dX12_layBegins_62 rfl (lv_at hl 5 rfl) ?_
    refine lv_lload hx hb dX12_layBegins_63 (lv_at hl 0 rfl) ?_
    refine cj_i 0 0 (wr := [((qq 32), .inl (cT 0, 4806, .inl (fun _ => 0))), ((qq 0), .inl (cT 0, 2, .inl (fun _ => 1))), ((qq 2), .inl (cT 0, 50, .inl (fun _ => (-1))))]) (va_runV (As := [.int 0, .long 170]) (rest := []) ⟨hx, hb, hml, hown, hts⟩ (c_M_beginOf_0 l g cT H.size y qq z6 z12 z14 z15 z16 z17 z19 z21 z22 z23 z24 z26 z30) (cwV 2 hts gX12_layBegins_X12_beginOf rfl rfl rfl yd_X12_beginOf ⟨(Nat.le_of_ble_eq_true rfl), (Nat.le_of_ble_eq_true rfl)⟩) (preV (wc := [(y, .inr (12, [.ref (qq 0), .ref (qq 1), .ref (qq 2), .ref (qq 3), .ref (qq 4), .ref (qq 5), .int z6, .ref (qq 7), .ref (qq 8), .ref (qq 9), .ref (qq 10), .ref (qq 11), .int z12, .ref (qq 13), .int z14, .int z15, .int z16, .int z17, .ref (qq 18), .int z19, .ref (qq 20), .int z21, .int z22, .int z23, .int z24, .ref (qq 25), .int z26, .ref (qq 27), .ref (qq 28), .ref (qq 29), .int z30, .ref (qq 31), .ref (qq 32), .ref (qq 33), .ref (qq 34), .ref (qq 35), .ref (qq 36), .ref (qq 37), .ref (qq 38), .ref (qq 39), .ref (qq 40), .ref (qq 41), .ref (qq 42)])), ((qq 31), .inl (cT 1, 1602, .inr (.inl (vp_updL (fun _ => 0) 0 170)))), ((qq 33), .inl (cT 0, 2, .inl (upd (fun _ => 0) 0 1)))]) rfl hP hD hK hN hZ hS hA [3, 1, 2] rfl (by decide) (ci := 12) (q0 := 3) rfl rfl) rfl rfl hl.1 rfl (lv_room (Nat.le_of_ble_eq_true rfl)) dX12_layBegins_65 ⟨(Nat.le_of_ble_eq_true rfl), (Nat.le_of_ble_eq_true rfl)⟩) hP hD hS hA [3, 1, 2] [0, 4, 5] rfl rfl (by decide) (by decide) (Nat.le_of_ble_eq_true rfl) (Nat.le_of_ble_eq_true rfl) (fun r_13 u H locs h_14 hP hD hS => ?_)
    have hP : va_P g vwCl [((qq 32), .inl (cT 0, 4806, .inl (fun _ => 0))), ((qq 0), .inl (cT 0, 2, .inl (fun _ => 1))), ((qq 2), .inl (cT 0, 50, .inl (fun _ => (-1)))), (y, .inr (12, [.ref (qq 0), .ref (qq 1), .ref (qq 2), .ref (qq 3), .ref (qq 4), .ref (qq 5), .int z6, .ref (qq 7), .ref (qq 8), .ref (qq 9), .ref (qq 10), .ref (qq 11), .int z12, .ref (qq 13), .int z14, .int z15, .int z16, .int z17, .ref (qq 18), .int z19, .ref (qq 20), .int z21, .int z22, .int z23, .int z24, .ref (qq 25), .int z26, .ref (qq 27), .ref (qq 28), .ref (qq 29), .int z30, .ref (qq 31), .ref (qq 32), .ref (qq 33), .ref (qq 34), .ref (qq 35), .ref (qq 36), .ref (qq 37), .ref (qq 38), .ref (qq 39), .ref (qq 40), .ref (qq 41), .ref (qq 42)])), ((qq 31), .inl (cT 1, 1602, .inr (.inl (vp_updL (fun _ => 0) 0 170)))), ((qq 33), .inl (cT 0, 2, .inl (upd (fun _ => 0) 0 1)))] H := hP
    have hD : va_D A [((qq 32), .inl (cT 0, 4806, .inl (fun _ => 0))), ((qq 0), .inl (cT 0, 2, .inl (fun _ => 1))), ((qq 2), .inl (cT 0, 50, .inl (fun _ => (-1)))), (y, .inr (12, [.ref (qq 0), .ref (qq 1), .ref (qq 2), .ref (qq 3), .ref (qq 4), .ref (qq 5), .int z6, .ref (qq 7), .ref (qq 8), .ref (qq 9), .ref (qq 10), .ref (qq 11), .int z12, .ref (qq 13), .int z14, .int z15, .int z16, .int z17, .ref (qq 18), .int z19, .ref (qq 20), .int z21, .int z22, .int z23, .int z24, .ref (qq 25), .int z26, .ref (qq 27), .ref (qq 28), .ref (qq 29), .int z30, .ref (qq 31), .ref (qq 32), .ref (qq 33), .ref (qq 34), .ref (qq 35), .ref (qq 36), .ref (qq 37), .ref (qq 38), .ref (qq 39), .ref (qq 40), .ref (qq 41), .ref (qq 42)])), ((qq 31), .inl (cT 1, 1602, .inr (.inl (vp_updL (fun _ => 0) 0 170)))), ((qq 33), .inl (cT 0, 2, .inl (upd (fun _ => 0) 0 1)))] := hD
    subst h_14
    refine lv_istore (lv' := [(6, .int 0), (4, .long 170), (3, .int 2), (2, .int 0), (0, .ref y), (1, .int 0)]) hx hb dX12_layBegins_68 hl (by decide) rfl (fun ls hl => ?_)
    refine lv_iload hx hb dX12_layBegins_70 (lv_at hl 0 rfl) ?_
    refine lv_iconst (v := (-1)) hx hb dX12_layBegins_72 (by decide) ?_
    refine icmp_ne_t hx hb 151 dX12_layBegins_73 (by decide) (by decide) ?_
    refine lv_aload_n hx hb dX12_layBegins_151 rfl (lv_at hl 4 rfl) ?_
    refine va_get (C := RX12) (T := TX12) (N := 43) (v := .ref (qq 32)) hx hb hts hi_X12_layBegins_X12 hown hK hP 3 rfl rfl 32 (by decide) (hts (.fieldLink RX12 69 "BothWaysModel" "lead" "[I") (by decide +kernel)) (fun _ h => h) rfl dX12_layBegins_152 ?_
    refine lv_sipush (v := 2403) hx hb dX12_layBegins_155 (by decide) ?_
    refine lv_iload_n hx hb dX12_layBegins_158 rfl (lv_at hl 5 rfl) ?_
    refine w_imul (v := 0) hx hb dX12_layBegins_159 (by decide) ?_
    refine lv_iconst (v := 3) hx hb dX12_layBegins_160 (by decide) ?_
    refine lv_iload_n hx hb dX12_layBegins_161 rfl (lv_at hl 3 rfl) ?_
    refine w_imul (v := 0) hx hb dX12_layBegins_162 (by decide) ?_
    refine w_iadd (v := 0) hx hb dX12_layBegins_163 (by decide) ?_
    refine lv_iload_n hx hb dX12_layBegins_164 rfl (lv_at hl 2 rfl) ?_
    refine w_iadd (v := 2) hx hb dX12_layBegins_165 (by decide) ?_
    refine lv_iload hx hb dX12_layBegins_166 (lv_at hl 0 rfl) ?_
    refine w_iast (f' := (fun _ => 0)) hx hb hK hP hD hS 0 rfl dX12_layBegins_168 (inC (by decide)) (upd_c _ _) (fun H locs hP hD hS => ?_)
    have hP : va_P g vwCl [((qq 32), .inl (cT 0, 4806, .inl (fun _ => 0))), ((qq 0), .inl (cT 0, 2, .inl (fun _ => 1))), ((qq 2), .inl (cT 0, 50, .inl (fun _ => (-1)))), (y, .inr (12, [.ref (qq 0), .ref (qq 1), .ref (qq 2), .ref (qq 3), .ref (qq 4), .ref (qq 5), .int z6, .ref (qq 7), .ref (qq 8), .ref (qq 9), .ref (qq 10), .ref (qq 11), .int z12, .ref (qq 13), .int z14, .int z15, .int z16, .int z17, .ref (qq 18), .int z19, .ref (qq 20), .int z21, .int z22, .int z23, .int z24, .ref (qq 25), .int z26, .ref (qq 27), .ref (qq 28), .ref (qq 29), .int z30, .ref (qq 31), .ref (qq 32), .ref (qq 33), .ref (qq 34), .ref (qq 35), .ref (qq 36), .ref (qq 37), .ref (qq 38), .ref (qq 39), .ref (qq 40), .ref (qq 41), .ref (qq 42)])), ((qq 31), .inl (cT 1, 1602, .inr (.inl (vp_updL (fun _ => 0) 0 170)))), ((qq 33), .inl (cT 0, 2, .inl (upd (fun _ => 0) 0 1)))] H := hP
    have hD : va_D A [((qq 32), .inl (cT 0, 4806, .inl (fun _ => 0))), ((qq 0), .inl (cT 0, 2, .inl (fun _ => 1))), ((qq 2), .inl (cT 0, 50, .inl (fun _ => (-1)))), (y, .inr (12, [.ref (qq 0), .ref (qq 1), .ref (qq 2), .ref (qq 3), .ref (qq 4), .ref (qq 5), .int z6, .ref (qq 7), .ref (qq 8), .ref (qq 9), .ref (qq 10), .ref (qq 11), .int z12, .ref (qq 13), .int z14, .int z15, .int z16, .int z17, .ref (qq 18), .int z19, .ref (qq 20), .int z21, .int z22, .int z23, .int z24, .ref (qq 25), .int z26, .ref (qq 27), .ref (qq 28), .ref (qq 29), .int z30, .ref (qq 31), .ref (qq 32), .ref (qq 33), .ref (qq 34), .ref (qq 35), .ref (qq 36), .ref (qq 37), .ref (qq 38), .ref (qq 39), .ref (qq 40), .ref (qq 41), .ref (qq 42)])), ((qq 31), .inl (cT 1, 1602, .inr (.inl (vp_updL (fun _ => 0) 0 170)))), ((qq 33), .inl (cT 0, 2, .inl (upd (fun _ => 0) 0 1)))] := hD
    refine lv_iinc (v := 3) (lv' := [(3, .int 3), (6, .int 0), (4, .long 170), (2, .int 0), (0, .ref y), (1, .int 0)]) hx hb dX12_layBegins_169 hl (k := 2) rfl (by decide) (by decide) rfl (fun ls hl => ?_)
    refine lv_goto (tgt := 36) hx hb dX12_layBegins_172 (by decide) ?_
    refine lv_iload_n hx hb dX12_layBegins_36 rfl (lv_at hl 0 rfl) ?_
    refine lv_iconst (v := 3) hx hb dX12_layBegins_37 (by decide) ?_
    refine icmp_ge_t hx hb 175 dX12_layBegins_38 (by decide) (by decide) ?_
    refine lv_iinc (v := 1) (lv' := [(2, .int 1), (3, .int 3), (6, .int 0), (4, .long 170), (0, .ref y), (1, .int 0)]) hx hb dX12_layBegins_175 hl (k := 3) rfl (by decide) (by decide) rfl (fun ls hl => ?_)
    refine lv_goto (tgt := 24) hx hb dX12_layBegins_178 (by decide) ?_
    refine lv_iload_n hx hb dX12_layBegins_24 rfl (lv_at hl 0 rfl) ?_
    refine lv_aload_n hx hb dX12_layBegins_25 rfl (lv_at hl 4 rfl) ?_
    refine va_get (C := RX12) (T := TX12) (N := 43) (v := .ref (qq 33)) hx hb hts hi_X12_layBegins_X12 hown hK hP 3 rfl rfl 33 (by decide) (hts (.fieldLink RX12 72 "BothWaysModel" "beginMany" "[I") (by decide +kernel)) (fun _ h => h) rfl dX12_layBegins_26 ?_
    refine lv_iload_n hx hb dX12_layBegins_29 rfl (lv_at hl 5 rfl) ?_
    refine w_iald (v := 1) hx hb hK hP 5 rfl dX12_layBegins_30 (inC (by decide)) (by decide) ?_
    refine icmp_ge_t hx hb 181 dX12_layBegins_31 (by decide) (by decide) ?_
    refine lv_iconst (v := 1) hx hb dX12_layBegins_181 (by decide) ?_
    exact rt_i hx hb hr hlocks hQ hP hD hS () [3, 1, 2, 0, 4, 5] dX12_layBegins_182 rfl (Nat.le_of_ble_eq_true rfl) (Nat.le_of_ble_eq_true rfl) rfl (by decide) rfl
  rw [hH, hlo] at hgo
  exact hgo
abbrev rm_c_M_beginOf_1 : Room := { frames := 0, cells := 0, slots := 0, locals := 0 }
set_option maxHeartbeats 4000000 in
set_option maxRecDepth 100000 in
theorem c_M_beginOf_1 (l : Launch) (g : va_G) (cT : Nat → ClassId) (sz : Nat) (y : Nat) (qq : Nat → Nat) (z6 : Int32) (z12 : Int32) (z14 : Int32) (z15 : Int32) (z16 : Int32) (z17 : Int32) (z19 : Int32) (z21 : Int32) (z22 : Int32) (z23 : Int32) (z24 : Int32) (z26 : Int32) (z30 : Int32)  : Ctr l g cT sz yX12_beginOf wsX12_beginOf rm_c_M_beginOf_1 [.ref y, .int 1, .long 170] [(y, .inr (12, [.ref (qq 0), .ref (qq 1), .ref (qq 2), .ref (qq 3), .ref (qq 4), .ref (qq 5), .int z6, .ref (qq 7), .ref (qq 8), .ref (qq 9), .ref (qq 10), .ref (qq 11), .int z12, .ref (qq 13), .int z14, .int z15, .int z16, .int z17, .ref (qq 18), .int z19, .ref (qq 20), .int z21, .int z22, .int z23, .int z24, .ref (qq 25), .int z26, .ref (qq 27), .ref (qq 28), .ref (qq 29), .int z30, .ref (qq 31), .ref (qq 32), .ref (qq 33), .ref (qq 34), .ref (qq 35), .ref (qq 36), .ref (qq 37), .ref (qq 38), .ref (qq 39), .ref (qq 40), .ref (qq 41), .ref (qq 42)])), ((qq 31), .inl (cT 1, 1602, .inr (.inl (vp_updL (fun _ => 0) 801 170)))), ((qq 33), .inl (cT 0, 2, .inl (upd (fun _ => 0) 1 1)))] (QI g (fun (r : Int32) (u : Unit) => r = 0) (fun (u : Unit) => [(y, .inr (12, [.ref (qq 0), .ref (qq 1), .ref (qq 2), .ref (qq 3), .ref (qq 4), .ref (qq 5), .int z6, .ref (qq 7), .ref (qq 8), .ref (qq 9), .ref (qq 10), .ref (qq 11), .int z12, .ref (qq 13), .int z14, .int z15, .int z16, .int z17, .ref (qq 18), .int z19, .ref (qq 20), .int z21, .int z22, .int z23, .int z24, .ref (qq 25), .int z26, .ref (qq 27), .ref (qq 28), .ref (qq 29), .int z30, .ref (qq 31), .ref (qq 32), .ref (qq 33), .ref (qq 34), .ref (qq 35), .ref (qq 36), .ref (qq 37), .ref (qq 38), .ref (qq 39), .ref (qq 40), .ref (qq 41), .ref (qq 42)])), ((qq 31), .inl (cT 1, 1602, .inr (.inl (vp_updL (fun _ => 0) 801 170)))), ((qq 33), .inl (cT 0, 2, .inl (upd (fun _ => 0) 1 1)))])) 0 0 := by
  refine mk_ctr (cc := cX12_beginOf) (maxL := 5) (ret := (some .int)) (by decide) rfl (Nat.le_of_ble_eq_true rfl) ?_
  intro p e s m args below meth c A Q hx hb hr hts hown hlocks hin hml hP hK hD hN hZ hA hS hQ ls hl
  have hl : lv_has ls 5 [(0, .ref y), (1, .int 1), (2, .long 170)] := hl
  obtain ⟨H, hH⟩ : ∃ H : Heap, H = s.heap := ⟨_, rfl⟩
  obtain ⟨locs, hlo⟩ : ∃ x : List Loc, x = [] := ⟨_, rfl⟩
  rw [← hH] at hP
  have hS : va_S A s.heap H locs := by rw [hH, hlo]; exact hS
  have hgo : W p l e rm_c_M_beginOf_1 s m args below meth c H locs 0 0 Q (F0 m 0 ls []) := by
    clear hH hlo
    refine lv_iconst (v := 0) hx hb dX12_beginOf_0 (by decide) ?_
    refine lv_istore (lv' := [(4, .int 0), (0, .ref y), (1, .int 1), (2, .long 170)]) hx hb dX12_beginOf_1 hl (by decide) rfl (fun ls hl => ?_)
    refine lv_iload hx hb dX12_beginOf_3 (lv_at hl 0 rfl) ?_
    refine lv_aload_n hx hb dX12_beginOf_5 rfl (lv_at hl 1 rfl) ?_
    refine va_get (C := RX12) (T := TX12) (N := 43) (v := .ref (qq 33)) hx hb hts hi_X12_beginOf_X12 hown hK hP 0 rfl rfl 33 (by decide) (hts (.fieldLink RX12 72 "BothWaysModel" "beginMany" "[I") (by decide +kernel)) (fun _ h => h) rfl dX12_beginOf_6 ?_
    refine lv_iload_n hx hb dX12_beginOf_9 rfl (lv_at hl 2 rfl) ?_
    refine w_iald (v := 1) hx hb hK hP 2 rfl dX12_beginOf_10 (inC (by decide)) (by decide) ?_
    refine icmp_ge_f hx hb dX12_beginOf_11 41 (by decide) (by decide) ?_
    refine lv_aload_n hx hb dX12_beginOf_14 rfl (lv_at hl 1 rfl) ?_
    refine va_get (C := RX12) (T := TX12) (N := 43) (v := .ref (qq 31)) hx hb hts hi_X12_beginOf_X12 hown hK hP 0 rfl rfl 31 (by decide) (hts (.fieldLink RX12 66 "BothWaysModel" "begin" "[J") (by decide +kernel)) (fun _ h => h) rfl dX12_beginOf_15 ?_
    refine lv_sipush (v := 801) hx hb dX12_beginOf_18 (by decide) ?_
    refine lv_iload_n hx hb dX12_beginOf_21 rfl (lv_at hl 2 rfl) ?_
    refine w_imul (v := 801) hx hb dX12_beginOf_22 (by decide) ?_
    refine lv_iload hx hb dX12_beginOf_23 (lv_at hl 0 rfl) ?_
    refine w_iadd (v := 801) hx hb dX12_beginOf_25 (by decide) ?_
    refine w_lald (v := 170) hx hb hK hP 1 rfl dX12_beginOf_26 (inC (by decide)) (by decide) ?_
    refine lv_lload_n hx hb dX12_beginOf_27 rfl (lv_at hl 3 rfl) ?_
    refine w_lcmp (v := 0) hx hb dX12_beginOf_28 (by decide) ?_
    refine if_ne_f hx hb dX12_beginOf_29 35 (by decide) (by decide) ?_
    refine lv_iload hx hb dX12_beginOf_32 (lv_at hl 0 rfl) ?_
    exact rt_i hx hb hr hlocks hQ hP hD hS () [0, 1, 2] dX12_beginOf_34 rfl (Nat.le_of_ble_eq_true rfl) (Nat.le_of_ble_eq_true rfl) rfl (by decide) rfl
  rw [hH, hlo] at hgo
  exact hgo
abbrev rm_c_M_layBegins_1 : Room := { frames := 3, cells := 0, slots := 0, locals := 79 }
set_option maxHeartbeats 4000000 in
set_option maxRecDepth 100000 in
theorem c_M_layBegins_1 (l : Launch) (g : va_G) (cT : Nat → ClassId) (sz : Nat) (y : Nat) (qq : Nat → Nat) (z6 : Int32) (z12 : Int32) (z14 : Int32) (z15 : Int32) (z16 : Int32) (z17 : Int32) (z19 : Int32) (z21 : Int32) (z22 : Int32) (z23 : Int32) (z24 : Int32) (z26 : Int32) (z30 : Int32)  : Ctr l g cT sz yX12_layBegins wsX12_layBegins rm_c_M_layBegins_1 [.ref y, .int 1] [(y, .inr (12, [.ref (qq 0), .ref (qq 1), .ref (qq 2), .ref (qq 3), .ref (qq 4), .ref (qq 5), .int z6, .ref (qq 7), .ref (qq 8), .ref (qq 9), .ref (qq 10), .ref (qq 11), .int z12, .ref (qq 13), .int z14, .int z15, .int z16, .int z17, .ref (qq 18), .int z19, .ref (qq 20), .int z21, .int z22, .int z23, .int z24, .ref (qq 25), .int z26, .ref (qq 27), .ref (qq 28), .ref (qq 29), .int z30, .ref (qq 31), .ref (qq 32), .ref (qq 33), .ref (qq 34), .ref (qq 35), .ref (qq 36), .ref (qq 37), .ref (qq 38), .ref (qq 39), .ref (qq 40), .ref (qq 41), .ref (qq 42)])), ((qq 0), .inl (cT 0, 2, .inl (fun _ => 1))), ((qq 2), .inl (cT 0, 50, .inl (fun _ => (-1)))), ((qq 32), .inl (cT 0, 4806, .inl (fun _ => 0))), ((qq 31), .inl (cT 1, 1602, .inr (.inl (fun _ => 0)))), ((qq 33), .inl (cT 0, 2, .inl (fun _ => 0)))] (QI g (fun (r : Int32) (u : Unit) => r = 1) (fun (u : Unit) => [(y, .inr (12, [.ref (qq 0), .ref (qq 1), .ref (qq 2), .ref (qq 3), .ref (qq 4), .ref (qq 5), .int z6, .ref (qq 7), .ref (qq 8), .ref (qq 9), .ref (qq 10), .ref (qq 11), .int z12, .ref (qq 13), .int z14, .int z15, .int z16, .int z17, .ref (qq 18), .int z19, .ref (qq 20), .int z21, .int z22, .int z23, .int z24, .ref (qq 25), .int z26, .ref (qq 27), .ref (qq 28), .ref (qq 29), .int z30, .ref (qq 31), .ref (qq 32), .ref (qq 33), .ref (qq 34), .ref (qq 35), .ref (qq 36), .ref (qq 37), .ref (qq 38), .ref (qq 39), .ref (qq 40), .ref (qq 41), .ref (qq 42)])), ((qq 0), .inl (cT 0, 2, .inl (fun _ => 1))), ((qq 2), .inl (cT 0, 50, .inl (fun _ => (-1)))), ((qq 32), .inl (cT 0, 4806, .inl (fun _ => 0))), ((qq 31), .inl (cT 1, 1602, .inr (.inl (vp_updL (fun _ => 0) 801 170)))), ((qq 33), .inl (cT 0, 2, .inl (upd (fun _ => 0) 1 1)))])) 0 0 := by
  refine mk_ctr (cc := cX12_layBegins) (maxL := 7) (ret := (some .boolean)) (by decide) rfl (Nat.le_of_ble_eq_true rfl) ?_
  intro p e s m args below meth c A Q hx hb hr hts hown hlocks hin hml hP hK hD hN hZ hA hS hQ ls hl
  have hl : lv_has ls 7 [(0, .ref y), (1, .int 1)] := hl
  obtain ⟨H, hH⟩ : ∃ H : Heap, H = s.heap := ⟨_, rfl⟩
  obtain ⟨locs, hlo⟩ : ∃ x : List Loc, x = [] := ⟨_, rfl⟩
  rw [← hH] at hP
  have hS : va_S A s.heap H locs := by rw [hH, hlo]; exact hS
  have hgo : W p l e rm_c_M_layBegins_1 s m args below meth c H locs 0 0 Q (F0 m 0 ls []) := by
    clear hH hlo
    refine lv_aload_n hx hb dX12_layBegins_0 rfl (lv_at hl 0 rfl) ?_
    refine va_get (C := RX12) (T := TX12) (N := 43) (v := .ref (qq 31)) hx hb hts hi_X12_layBegins_X12 hown hK hP 0 rfl rfl 31 (by decide) (hts (.fieldLink RX12 66 "BothWaysModel" "begin" "[J") (by decide +kernel)) (fun _ h => h) rfl dX12_layBegins_1 ?_
    refine lv_sipush (v := 801) hx hb dX12_layBegins_4 (by decide) ?_
    refine lv_iload_n hx hb dX12_layBegins_7 rfl (lv_at hl 1 rfl) ?_
    refine w_imul (v := 801) hx hb dX12_layBegins_8 (by decide) ?_
    refine lv_aload_n hx hb dX12_layBegins_9 rfl (lv_at hl 0 rfl) ?_
    refine lv_iload_n hx hb dX12_layBegins_10 rfl (lv_at hl 1 rfl) ?_
    refine cj_l 0 0 (wr := [((qq 32), .inl (cT 0, 4806, .inl (fun _ => 0))), ((qq 31), .inl (cT 1, 1602, .inr (.inl (fun _ => 0)))), ((qq 33), .inl (cT 0, 2, .inl (fun _ => 0)))]) (va_runV (As := [.int 1]) (rest := [.int 801, .ref (qq 31)]) ⟨hx, hb, hml, hown, hts⟩ (c_M_emptyBeginning_1 l g cT H.size y qq z6 z12 z14 z15 z16 z17 z19 z21 z22 z23 z24 z26 z30) (cwV 1 hts gX12_layBegins_X12_emptyBeginning rfl rfl rfl yd_X12_emptyBeginning ⟨(Nat.le_of_ble_eq_true rfl), (Nat.le_of_ble_eq_true rfl)⟩) (preV (wc := [(y, .inr (12, [.ref (qq 0), .ref (qq 1), .ref (qq 2), .ref (qq 3), .ref (qq 4), .ref (qq 5), .int z6, .ref (qq 7), .ref (qq 8), .ref (qq 9), .ref (qq 10), .ref (qq 11), .int z12, .ref (qq 13), .int z14, .int z15, .int z16, .int z17, .ref (qq 18), .int z19, .ref (qq 20), .int z21, .int z22, .int z23, .int z24, .ref (qq 25), .int z26, .ref (qq 27), .ref (qq 28), .ref (qq 29), .int z30, .ref (qq 31), .ref (qq 32), .ref (qq 33), .ref (qq 34), .ref (qq 35), .ref (qq 36), .ref (qq 37), .ref (qq 38), .ref (qq 39), .ref (qq 40), .ref (qq 41), .ref (qq 42)])), ((qq 0), .inl (cT 0, 2, .inl (fun _ => 1))), ((qq 2), .inl (cT 0, 50, .inl (fun _ => (-1))))]) rfl hP hD hK hN hZ hS hA [0, 1, 2] rfl (by decide) (ci := 12) (q0 := 0) rfl rfl) rfl rfl hl.1 rfl (lv_room (Nat.le_of_ble_eq_true rfl)) dX12_layBegins_11 ⟨(Nat.le_of_ble_eq_true rfl), (Nat.le_of_ble_eq_true rfl)⟩) hP hD hS hA [0, 1, 2] [3, 4, 5] rfl rfl (by decide) (by decide) (Nat.le_of_ble_eq_true rfl) (Nat.le_of_ble_eq_true rfl) (fun r_1 u H locs h_2 hP hD hS => ?_)
    have hP : va_P g vwCl [((qq 32), .inl (cT 0, 4806, .inl (fun _ => 0))), ((qq 31), .inl (cT 1, 1602, .inr (.inl (fun _ => 0)))), ((qq 33), .inl (cT 0, 2, .inl (fun _ => 0))), (y, .inr (12, [.ref (qq 0), .ref (qq 1), .ref (qq 2), .ref (qq 3), .ref (qq 4), .ref (qq 5), .int z6, .ref (qq 7), .ref (qq 8), .ref (qq 9), .ref (qq 10), .ref (qq 11), .int z12, .ref (qq 13), .int z14, .int z15, .int z16, .int z17, .ref (qq 18), .int z19, .ref (qq 20), .int z21, .int z22, .int z23, .int z24, .ref (qq 25), .int z26, .ref (qq 27), .ref (qq 28), .ref (qq 29), .int z30, .ref (qq 31), .ref (qq 32), .ref (qq 33), .ref (qq 34), .ref (qq 35), .ref (qq 36), .ref (qq 37), .ref (qq 38), .ref (qq 39), .ref (qq 40), .ref (qq 41), .ref (qq 42)])), ((qq 0), .inl (cT 0, 2, .inl (fun _ => 1))), ((qq 2), .inl (cT 0, 50, .inl (fun _ => (-1))))] H := hP
    have hD : va_D A [((qq 32), .inl (cT 0, 4806, .inl (fun _ => 0))), ((qq 31), .inl (cT 1, 1602, .inr (.inl (fun _ => 0)))), ((qq 33), .inl (cT 0, 2, .inl (fun _ => 0))), (y, .inr (12, [.ref (qq 0), .ref (qq 1), .ref (qq 2), .ref (qq 3), .ref (qq 4), .ref (qq 5), .int z6, .ref (qq 7), .ref (qq 8), .ref (qq 9), .ref (qq 10), .ref (qq 11), .int z12, .ref (qq 13), .int z14, .int z15, .int z16, .int z17, .ref (qq 18), .int z19, .ref (qq 20), .int z21, .int z22, .int z23, .int z24, .ref (qq 25), .int z26, .ref (qq 27), .ref (qq 28), .ref (qq 29), .int z30, .ref (qq 31), .ref (qq 32), .ref (qq 33), .ref (qq 34), .ref (qq 35), .ref (qq 36), .ref (qq 37), .ref (qq 38), .ref (qq 39), .ref (qq 40), .ref (qq 41), .ref (qq 42)])), ((qq 0), .inl (cT 0, 2, .inl (fun _ => 1))), ((qq 2), .inl (cT 0, 50, .inl (fun _ => (-1))))] := hD
    subst h_2
    refine w_last (f' := (vp_updL (fun _ => 0) 801 170)) hx hb hK hP hD hS 1 rfl dX12_layBegins_14 (inC (by decide)) rfl (fun H locs hP hD hS => ?_)
    have hP : va_P g vwCl [((qq 32), .inl (cT 0, 4806, .inl (fun _ => 0))), ((qq 31), .inl (cT 1, 1602, .inr (.inl (vp_updL (fun _ => 0) 801 170)))), ((qq 33), .inl (cT 0, 2, .inl (fun _ => 0))), (y, .inr (12, [.ref (qq 0), .ref (qq 1), .ref (qq 2), .ref (qq 3), .ref (qq 4), .ref (qq 5), .int z6, .ref (qq 7), .ref (qq 8), .ref (qq 9), .ref (qq 10), .ref (qq 11), .int z12, .ref (qq 13), .int z14, .int z15, .int z16, .int z17, .ref (qq 18), .int z19, .ref (qq 20), .int z21, .int z22, .int z23, .int z24, .ref (qq 25), .int z26, .ref (qq 27), .ref (qq 28), .ref (qq 29), .int z30, .ref (qq 31), .ref (qq 32), .ref (qq 33), .ref (qq 34), .ref (qq 35), .ref (qq 36), .ref (qq 37), .ref (qq 38), .ref (qq 39), .ref (qq 40), .ref (qq 41), .ref (qq 42)])), ((qq 0), .inl (cT 0, 2, .inl (fun _ => 1))), ((qq 2), .inl (cT 0, 50, .inl (fun _ => (-1))))] H := hP
    have hD : va_D A [((qq 32), .inl (cT 0, 4806, .inl (fun _ => 0))), ((qq 31), .inl (cT 1, 1602, .inr (.inl (vp_updL (fun _ => 0) 801 170)))), ((qq 33), .inl (cT 0, 2, .inl (fun _ => 0))), (y, .inr (12, [.ref (qq 0), .ref (qq 1), .ref (qq 2), .ref (qq 3), .ref (qq 4), .ref (qq 5), .int z6, .ref (qq 7), .ref (qq 8), .ref (qq 9), .ref (qq 10), .ref (qq 11), .int z12, .ref (qq 13), .int z14, .int z15, .int z16, .int z17, .ref (qq 18), .int z19, .ref (qq 20), .int z21, .int z22, .int z23, .int z24, .ref (qq 25), .int z26, .ref (qq 27), .ref (qq 28), .ref (qq 29), .int z30, .ref (qq 31), .ref (qq 32), .ref (qq 33), .ref (qq 34), .ref (qq 35), .ref (qq 36), .ref (qq 37), .ref (qq 38), .ref (qq 39), .ref (qq 40), .ref (qq 41), .ref (qq 42)])), ((qq 0), .inl (cT 0, 2, .inl (fun _ => 1))), ((qq 2), .inl (cT 0, 50, .inl (fun _ => (-1))))] := hD
    refine lv_aload_n hx hb dX12_layBegins_15 rfl (lv_at hl 0 rfl) ?_
    refine va_get (C := RX12) (T := TX12) (N := 43) (v := .ref (qq 33)) hx hb hts hi_X12_layBegins_X12 hown hK hP 3 rfl rfl 33 (by decide) (hts (.fieldLink RX12 72 "BothWaysModel" "beginMany" "[I") (by decide +kernel)) (fun _ h => h) rfl dX12_layBegins_16 ?_
    refine lv_iload_n hx hb dX12_layBegins_19 rfl (lv_at hl 1 rfl) ?_
    refine lv_iconst (v := 1) hx hb dX12_layBegins_20 (by decide) ?_
    refine w_iast (f' := (upd (fun _ => 0) 1 1)) hx hb hK hP hD hS 2 rfl dX12_layBegins_21 (inC (by decide)) rfl (fun H locs hP hD hS => ?_)
    have hP : va_P g vwCl [((qq 32), .inl (cT 0, 4806, .inl (fun _ => 0))), ((qq 31), .inl (cT 1, 1602, .inr (.inl (vp_updL (fun _ => 0) 801 170)))), ((qq 33), .inl (cT 0, 2, .inl (upd (fun _ => 0) 1 1))), (y, .inr (12, [.ref (qq 0), .ref (qq 1), .ref (qq 2), .ref (qq 3), .ref (qq 4), .ref (qq 5), .int z6, .ref (qq 7), .ref (qq 8), .ref (qq 9), .ref (qq 10), .ref (qq 11), .int z12, .ref (qq 13), .int z14, .int z15, .int z16, .int z17, .ref (qq 18), .int z19, .ref (qq 20), .int z21, .int z22, .int z23, .int z24, .ref (qq 25), .int z26, .ref (qq 27), .ref (qq 28), .ref (qq 29), .int z30, .ref (qq 31), .ref (qq 32), .ref (qq 33), .ref (qq 34), .ref (qq 35), .ref (qq 36), .ref (qq 37), .ref (qq 38), .ref (qq 39), .ref (qq 40), .ref (qq 41), .ref (qq 42)])), ((qq 0), .inl (cT 0, 2, .inl (fun _ => 1))), ((qq 2), .inl (cT 0, 50, .inl (fun _ => (-1))))] H := hP
    have hD : va_D A [((qq 32), .inl (cT 0, 4806, .inl (fun _ => 0))), ((qq 31), .inl (cT 1, 1602, .inr (.inl (vp_updL (fun _ => 0) 801 170)))), ((qq 33), .inl (cT 0, 2, .inl (upd (fun _ => 0) 1 1))), (y, .inr (12, [.ref (qq 0), .ref (qq 1), .ref (qq 2), .ref (qq 3), .ref (qq 4), .ref (qq 5), .int z6, .ref (qq 7), .ref (qq 8), .ref (qq 9), .ref (qq 10), .ref (qq 11), .int z12, .ref (qq 13), .int z14, .int z15, .int z16, .int z17, .ref (qq 18), .int z19, .ref (qq 20), .int z21, .int z22, .int z23, .int z24, .ref (qq 25), .int z26, .ref (qq 27), .ref (qq 28), .ref (qq 29), .int z30, .ref (qq 31), .ref (qq 32), .ref (qq 33), .ref (qq 34), .ref (qq 35), .ref (qq 36), .ref (qq 37), .ref (qq 38), .ref (qq 39), .ref (qq 40), .ref (qq 41), .ref (qq 42)])), ((qq 0), .inl (cT 0, 2, .inl (fun _ => 1))), ((qq 2), .inl (cT 0, 50, .inl (fun _ => (-1))))] := hD
    refine lv_iconst (v := 0) hx hb dX12_layBegins_22 (by decide) ?_
    refine lv_istore_n (lv' := [(2, .int 0), (0, .ref y), (1, .int 1)]) hx hb dX12_layBegins_23 rfl hl (by decide) rfl (fun ls hl => ?_)
    refine lv_iload_n hx hb dX12_layBegins_24 rfl (lv_at hl 0 rfl) ?_
    refine lv_aload_n hx hb dX12_layBegins_25 rfl (lv_at hl 1 rfl) ?_
    refine va_get (C := RX12) (T := TX12) (N := 43) (v := .ref (qq 33)) hx hb hts hi_X12_layBegins_X12 hown hK hP 3 rfl rfl 33 (by decide) (hts (.fieldLink RX12 72 "BothWaysModel" "beginMany" "[I") (by decide +kernel)) (fun _ h => h) rfl dX12_layBegins_26 ?_
    refine lv_iload_n hx hb dX12_layBegins_29 rfl (lv_at hl 2 rfl) ?_
    refine w_iald (v := 1) hx hb hK hP 2 rfl dX12_layBegins_30 (inC (by decide)) (by decide) ?_
    refine icmp_ge_f hx hb dX12_layBegins_31 181 (by decide) (by decide) ?_
    refine lv_iconst (v := 0) hx hb dX12_layBegins_34 (by decide) ?_
    refine lv_istore_n (lv' := [(3, .int 0), (2, .int 0), (0, .ref y), (1, .int 1)]) hx hb dX12_layBegins_35 rfl hl (by decide) rfl (fun ls hl => ?_)
    refine lv_iload_n hx hb dX12_layBegins_36 rfl (lv_at hl 0 rfl) ?_
    refine lv_iconst (v := 3) hx hb dX12_layBegins_37 (by decide) ?_
    refine icmp_ge_f hx hb dX12_layBegins_38 175 (by decide) (by decide) ?_
    refine lv_aload_n hx hb dX12_layBegins_41 rfl (lv_at hl 2 rfl) ?_
    refine lv_iload_n hx hb dX12_layBegins_42 rfl (lv_at hl 3 rfl) ?_
    refine lv_aload_n hx hb dX12_layBegins_43 rfl (lv_at hl 2 rfl) ?_
    refine va_get (C := RX12) (T := TX12) (N := 43) (v := .ref (qq 31)) hx hb hts hi_X12_layBegins_X12 hown hK hP 3 rfl rfl 31 (by decide) (hts (.fieldLink RX12 66 "BothWaysModel" "begin" "[J") (by decide +kernel)) (fun _ h => h) rfl dX12_layBegins_44 ?_
    refine lv_sipush (v := 801) hx hb dX12_layBegins_47 (by decide) ?_
    refine lv_iload_n hx hb dX12_layBegins_50 rfl (lv_at hl 3 rfl) ?_
    refine w_imul (v := 801) hx hb dX12_layBegins_51 (by decide) ?_
    refine lv_iload_n hx hb dX12_layBegins_52 rfl (lv_at hl 1 rfl) ?_
    refine w_iadd (v := 801) hx hb dX12_layBegins_53 (by decide) ?_
    refine w_lald (v := 170) hx hb hK hP 1 rfl dX12_layBegins_54 (inC (by decide)) (by decide) ?_
    refine lv_iload_n hx hb dX12_layBegins_55 rfl (lv_at hl 0 rfl) ?_
    refine cj_l 0 0 (wr := [((qq 32), .inl (cT 0, 4806, .inl (fun _ => 0))), ((qq 31), .inl (cT 1, 1602, .inr (.inl (vp_updL (fun _ => 0) 801 170)))), ((qq 33), .inl (cT 0, 2, .inl (upd (fun _ => 0) 1 1)))]) (va_runV (As := [.int 1, .long 170, .int 0]) (rest := []) ⟨hx, hb, hml, hown, hts⟩ (c_M_longer_1_0 l g cT H.size y qq z6 z12 z14 z15 z16 z17 z19 z21 z22 z23 z24 z26 z30) (cwV 3 hts gX12_layBegins_X12_longer rfl rfl rfl yd_X12_longer ⟨(Nat.le_of_ble_eq_true rfl), (Nat.le_of_ble_eq_true rfl)⟩) (preV (wc := [(y, .inr (12, [.ref (qq 0), .ref (qq 1), .ref (qq 2), .ref (qq 3), .ref (qq 4), .ref (qq 5), .int z6, .ref (qq 7), .ref (qq 8), .ref (qq 9), .ref (qq 10), .ref (qq 11), .int z12, .ref (qq 13), .int z14, .int z15, .int z16, .int z17, .ref (qq 18), .int z19, .ref (qq 20), .int z21, .int z22, .int z23, .int z24, .ref (qq 25), .int z26, .ref (qq 27), .ref (qq 28), .ref (qq 29), .int z30, .ref (qq 31), .ref (qq 32), .ref (qq 33), .ref (qq 34), .ref (qq 35), .ref (qq 36), .ref (qq 37), .ref (qq 38), .ref (qq 39), .ref (qq 40), .ref (qq 41), .ref (qq 42)])), ((qq 0), .inl (cT 0, 2, .inl (fun _ => 1))), ((qq 2), .inl (cT 0, 50, .inl (fun _ => (-1))))]) rfl hP hD hK hN hZ hS hA [3, 4, 5] rfl (by decide) (ci := 12) (q0 := 3) rfl rfl) rfl rfl hl.1 rfl (lv_room (Nat.le_of_ble_eq_true rfl)) dX12_layBegins_56 ⟨(Nat.le_of_ble_eq_true rfl), (Nat.le_of_ble_eq_true rfl)⟩) hP hD hS hA [3, 4, 5] [0, 1, 2] rfl rfl (by decide) (by decide) (Nat.le_of_ble_eq_true rfl) (Nat.le_of_ble_eq_true rfl) (fun r_3 u H locs h_4 hP hD hS => ?_)
    have hP : va_P g vwCl [((qq 32), .inl (cT 0, 4806, .inl (fun _ => 0))), ((qq 31), .inl (cT 1, 1602, .inr (.inl (vp_updL (fun _ => 0) 801 170)))), ((qq 33), .inl (cT 0, 2, .inl (upd (fun _ => 0) 1 1))), (y, .inr (12, [.ref (qq 0), .ref (qq 1), .ref (qq 2), .ref (qq 3), .ref (qq 4), .ref (qq 5), .int z6, .ref (qq 7), .ref (qq 8), .ref (qq 9), .ref (qq 10), .ref (qq 11), .int z12, .ref (qq 13), .int z14, .int z15, .int z16, .int z17, .ref (qq 18), .int z19, .ref (qq 20), .int z21, .int z22, .int z23, .int z24, .ref (qq 25), .int z26, .ref (qq 27), .ref (qq 28), .ref (qq 29), .int z30, .ref (qq 31), .ref (qq 32), .ref (qq 33), .ref (qq 34), .ref (qq 35), .ref (qq 36), .ref (qq 37), .ref (qq 38), .ref (qq 39), .ref (qq 40), .ref (qq 41), .ref (qq 42)])), ((qq 0), .inl (cT 0, 2, .inl (fun _ => 1))), ((qq 2), .inl (cT 0, 50, .inl (fun _ => (-1))))] H := hP
    have hD : va_D A [((qq 32), .inl (cT 0, 4806, .inl (fun _ => 0))), ((qq 31), .inl (cT 1, 1602, .inr (.inl (vp_updL (fun _ => 0) 801 170)))), ((qq 33), .inl (cT 0, 2, .inl (upd (fun _ => 0) 1 1))), (y, .inr (12, [.ref (qq 0), .ref (qq 1), .ref (qq 2), .ref (qq 3), .ref (qq 4), .ref (qq 5), .int z6, .ref (qq 7), .ref (qq 8), .ref (qq 9), .ref (qq 10), .ref (qq 11), .int z12, .ref (qq 13), .int z14, .int z15, .int z16, .int z17, .ref (qq 18), .int z19, .ref (qq 20), .int z21, .int z22, .int z23, .int z24, .ref (qq 25), .int z26, .ref (qq 27), .ref (qq 28), .ref (qq 29), .int z30, .ref (qq 31), .ref (qq 32), .ref (qq 33), .ref (qq 34), .ref (qq 35), .ref (qq 36), .ref (qq 37), .ref (qq 38), .ref (qq 39), .ref (qq 40), .ref (qq 41), .ref (qq 42)])), ((qq 0), .inl (cT 0, 2, .inl (fun _ => 1))), ((qq 2), .inl (cT 0, 50, .inl (fun _ => (-1))))] := hD
    subst h_4
    refine lv_lstore (lv' := [(4, .long 170), (3, .int 0), (2, .int 0), (0, .ref y), (1, .int 1)]) hx hb dX12_layBegins_59 hl (by decide) rfl (fun ls hl => ?_)
    refine lv_aload_n hx hb dX12_layBegins_61 rfl (lv_at hl 3 rfl) ?_
    refine lv_iload_n hx hb dX12_layBegins_62 rfl (lv_at hl 4 rfl) ?_
    refine lv_lload hx hb dX12_layBegins_63 (lv_at hl 0 rfl) ?_
    refine cj_i 0 0 (wr := [((qq 32), .inl (cT 0, 4806, .inl (fun _ => 0))), ((qq 0), .inl (cT 0, 2, .inl (fun _ => 1))), ((qq 2), .inl (cT 0, 50, .inl (fun _ => (-1))))]) (va_runV (As := [.int 1, .long 170]) (rest := []) ⟨hx, hb, hml, hown, hts⟩ (c_M_beginOf_1 l g cT H.size y qq z6 z12 z14 z15 z16 z17 z19 z21 z22 z23 z24 z26 z30) (cwV 2 hts gX12_layBegins_X12_beginOf rfl rfl rfl yd_X12_beginOf ⟨(Nat.le_of_ble_eq_true rfl), (Nat.le_of_ble_eq_true rfl)⟩) (preV (wc := [(y, .inr (12, [.ref (qq 0), .ref (qq 1), .ref (qq 2), .ref (qq 3), .ref (qq 4), .ref (qq 5), .int z6, .ref (qq 7), .ref (qq 8), .ref (qq 9), .ref (qq 10), .ref (qq 11), .int z12, .ref (qq 13), .int z14, .int z15, .int z16, .int z17, .ref (qq 18), .int z19, .ref (qq 20), .int z21, .int z22, .int z23, .int z24, .ref (qq 25), .int z26, .ref (qq 27), .ref (qq 28), .ref (qq 29), .int z30, .ref (qq 31), .ref (qq 32), .ref (qq 33), .ref (qq 34), .ref (qq 35), .ref (qq 36), .ref (qq 37), .ref (qq 38), .ref (qq 39), .ref (qq 40), .ref (qq 41), .ref (qq 42)])), ((qq 31), .inl (cT 1, 1602, .inr (.inl (vp_updL (fun _ => 0) 801 170)))), ((qq 33), .inl (cT 0, 2, .inl (upd (fun _ => 0) 1 1)))]) rfl hP hD hK hN hZ hS hA [3, 1, 2] rfl (by decide) (ci := 12) (q0 := 3) rfl rfl) rfl rfl hl.1 rfl (lv_room (Nat.le_of_ble_eq_true rfl)) dX12_layBegins_65 ⟨(Nat.le_of_ble_eq_true rfl), (Nat.le_of_ble_eq_true rfl)⟩) hP hD hS hA [3, 1, 2] [0, 4, 5] rfl rfl (by decide) (by decide) (Nat.le_of_ble_eq_true rfl) (Nat.le_of_ble_eq_true rfl) (fun r_5 u H locs h_6 hP hD hS => ?_)
    have hP : va_P g vwCl [((qq 32), .inl (cT 0, 4806, .inl (fun _ => 0))), ((qq 0), .inl (cT 0, 2, .inl (fun _ => 1))), ((qq 2), .inl (cT 0, 50, .inl (fun _ => (-1)))), (y, .inr (12, [.ref (qq 0), .ref (qq 1), .ref (qq 2), .ref (qq 3), .ref (qq 4), .ref (qq 5), .int z6, .ref (qq 7), .ref (qq 8), .ref (qq 9), .ref (qq 10), .ref (qq 11), .int z12, .ref (qq 13), .int z14, .int z15, .int z16, .int z17, .ref (qq 18), .int z19, .ref (qq 20), .int z21, .int z22, .int z23, .int z24, .ref (qq 25), .int z26, .ref (qq 27), .ref (qq 28), .ref (qq 29), .int z30, .ref (qq 31), .ref (qq 32), .ref (qq 33), .ref (qq 34), .ref (qq 35), .ref (qq 36), .ref (qq 37), .ref (qq 38), .ref (qq 39), .ref (qq 40), .ref (qq 41), .ref (qq 42)])), ((qq 31), .inl (cT 1, 1602, .inr (.inl (vp_updL (fun _ => 0) 801 170)))), ((qq 33), .inl (cT 0, 2, .inl (upd (fun _ => 0) 1 1)))] H := hP
    have hD : va_D A [((qq 32), .inl (cT 0, 4806, .inl (fun _ => 0))), ((qq 0), .inl (cT 0, 2, .inl (fun _ => 1))), ((qq 2), .inl (cT 0, 50, .inl (fun _ => (-1)))), (y, .inr (12, [.ref (qq 0), .ref (qq 1), .ref (qq 2), .ref (qq 3), .ref (qq 4), .ref (qq 5), .int z6, .ref (qq 7), .ref (qq 8), .ref (qq 9), .ref (qq 10), .ref (qq 11), .int z12, .ref (qq 13), .int z14, .int z15, .int z16, .int z17, .ref (qq 18), .int z19, .ref (qq 20), .int z21, .int z22, .int z23, .int z24, .ref (qq 25), .int z26, .ref (qq 27), .ref (qq 28), .ref (qq 29), .int z30, .ref (qq 31), .ref (qq 32), .ref (qq 33), .ref (qq 34), .ref (qq 35), .ref (qq 36), .ref (qq 37), .ref (qq 38), .ref (qq 39), .ref (qq 40), .ref (qq 41), .ref (qq 42)])), ((qq 31), .inl (cT 1, 1602, .inr (.inl (vp_updL (fun _ => 0) 801 170)))), ((qq 33), .inl (cT 0, 2, .inl (upd (fun _ => 0) 1 1)))] := hD
    subst h_6
    refine lv_istore (lv' := [(6, .int 0), (4, .long 170), (3, .int 0), (2, .int 0), (0, .ref y), (1, .int 1)]) hx hb dX12_layBegins_68 hl (by decide) rfl (fun ls hl => ?_)
    refine lv_iload hx hb dX12_layBegins_70 (lv_at hl 0 rfl) ?_
    refine lv_iconst (v := (-1)) hx hb dX12_layBegins_72 (by decide) ?_
    refine icmp_ne_t hx hb 151 dX12_layBegins_73 (by decide) (by decide) ?_
    refine lv_aload_n hx hb dX12_layBegins_151 rfl (lv_at hl 4 rfl) ?_
    refine va_get (C := RX12) (T := TX12) (N := 43) (v := .ref (qq 32)) hx hb hts hi_X12_layBegins_X12 hown hK hP 3 rfl rfl 32 (by decide) (hts (.fieldLink RX12 69 "BothWaysModel" "lead" "[I") (by decide +kernel)) (fun _ h => h) rfl dX12_layBegins_152 ?_
    refine lv_sipush (v := 2403) hx hb dX12_layBegins_155 (by decide) ?_
    refine lv_iload_n hx hb dX12_layBegins_158 rfl (lv_at hl 5 rfl) ?_
    refine w_imul (v := 2403) hx hb dX12_layBegins_159 (by decide) ?_
    refine lv_iconst (v := 3) hx hb dX12_layBegins_160 (by decide) ?_
    refine lv_iload_n hx hb dX12_layBegins_161 rfl (lv_at hl 3 rfl) ?_
    refine w_imul (v := 0) hx hb dX12_layBegins_162 (by decide) ?_
    refine w_iadd (v := 2403) hx hb dX12_layBegins_163 (by decide) ?_
    refine lv_iload_n hx hb dX12_layBegins_164 rfl (lv_at hl 2 rfl) ?_
    refine w_iadd (v := 2403) hx hb dX12_layBegins_165 (by decide) ?_
    refine lv_iload hx hb dX12_layBegins_166 (lv_at hl 0 rfl) ?_
    refine w_iast (f' := (fun _ => 0)) hx hb hK hP hD hS 0 rfl dX12_layBegins_168 (inC (by decide)) (upd_c _ _) (fun H locs hP hD hS => ?_)
    have hP : va_P g vwCl [((qq 32), .inl (cT 0, 4806, .inl (fun _ => 0))), ((qq 0), .inl (cT 0, 2, .inl (fun _ => 1))), ((qq 2), .inl (cT 0, 50, .inl (fun _ => (-1)))), (y, .inr (12, [.ref (qq 0), .ref (qq 1), .ref (qq 2), .ref (qq 3), .ref (qq 4), .ref (qq 5), .int z6, .ref (qq 7), .ref (qq 8), .ref (qq 9), .ref (qq 10), .ref (qq 11), .int z12, .ref (qq 13), .int z14, .int z15, .int z16, .int z17, .ref (qq 18), .int z19, .ref (qq 20), .int z21, .int z22, .int z23, .int z24, .ref (qq 25), .int z26, .ref (qq 27), .ref (qq 28), .ref (qq 29), .int z30, .ref (qq 31), .ref (qq 32), .ref (qq 33), .ref (qq 34), .ref (qq 35), .ref (qq 36), .ref (qq 37), .ref (qq 38), .ref (qq 39), .ref (qq 40), .ref (qq 41), .ref (qq 42)])), ((qq 31), .inl (cT 1, 1602, .inr (.inl (vp_updL (fun _ => 0) 801 170)))), ((qq 33), .inl (cT 0, 2, .inl (upd (fun _ => 0) 1 1)))] H := hP
    have hD : va_D A [((qq 32), .inl (cT 0, 4806, .inl (fun _ => 0))), ((qq 0), .inl (cT 0, 2, .inl (fun _ => 1))), ((qq 2), .inl (cT 0, 50, .inl (fun _ => (-1)))), (y, .inr (12, [.ref (qq 0), .ref (qq 1), .ref (qq 2), .ref (qq 3), .ref (qq 4), .ref (qq 5), .int z6, .ref (qq 7), .ref (qq 8), .ref (qq 9), .ref (qq 10), .ref (qq 11), .int z12, .ref (qq 13), .int z14, .int z15, .int z16, .int z17, .ref (qq 18), .int z19, .ref (qq 20), .int z21, .int z22, .int z23, .int z24, .ref (qq 25), .int z26, .ref (qq 27), .ref (qq 28), .ref (qq 29), .int z30, .ref (qq 31), .ref (qq 32), .ref (qq 33), .ref (qq 34), .ref (qq 35), .ref (qq 36), .ref (qq 37), .ref (qq 38), .ref (qq 39), .ref (qq 40), .ref (qq 41), .ref (qq 42)])), ((qq 31), .inl (cT 1, 1602, .inr (.inl (vp_updL (fun _ => 0) 801 170)))), ((qq 33), .inl (cT 0, 2, .inl (upd (fun _ => 0) 1 1)))] := hD
    refine lv_iinc (v := 1) (lv' := [(3, .int 1), (6, .int 0), (4, .long 170), (2, .int 0), (0, .ref y), (1, .int 1)]) hx hb dX12_layBegins_169 hl (k := 2) rfl (by decide) (by decide) rfl (fun ls hl => ?_)
    refine lv_goto (tgt := 36) hx hb dX12_layBegins_172 (by decide) ?_
    refine lv_iload_n hx hb dX12_layBegins_36 rfl (lv_at hl 0 rfl) ?_
    refine lv_iconst (v := 3) hx hb dX12_layBegins_37 (by decide) ?_
    refine icmp_ge_f hx hb dX12_layBegins_38 175 (by decide) (by decide) ?_
    refine lv_aload_n hx hb dX12_layBegins_41 rfl (lv_at hl 4 rfl) ?_
    refine lv_iload_n hx hb dX12_layBegins_42 rfl (lv_at hl 5 rfl) ?_
    refine lv_aload_n hx hb dX12_layBegins_43 rfl (lv_at hl 4 rfl) ?_
    refine va_get (C := RX12) (T := TX12) (N := 43) (v := .ref (qq 31)) hx hb hts hi_X12_layBegins_X12 hown hK hP 3 rfl rfl 31 (by decide) (hts (.fieldLink RX12 66 "BothWaysModel" "begin" "[J") (by decide +kernel)) (fun _ h => h) rfl dX12_layBegins_44 ?_
    refine lv_sipush (v := 801) hx hb dX12_layBegins_47 (by decide) ?_
    refine lv_iload_n hx hb dX12_layBegins_50 rfl (lv_at hl 5 rfl) ?_
    refine w_imul (v := 801) hx hb dX12_layBegins_51 (by decide) ?_
    refine lv_iload_n hx hb dX12_layBegins_52 rfl (lv_at hl 3 rfl) ?_
    refine w_iadd (v := 801) hx hb dX12_layBegins_53 (by decide) ?_
    refine w_lald (v := 170) hx hb hK hP 4 rfl dX12_layBegins_54 (inC (by decide)) (by decide) ?_
    refine lv_iload_n hx hb dX12_layBegins_55 rfl (lv_at hl 0 rfl) ?_
    refine cj_l 0 0 (wr := [((qq 32), .inl (cT 0, 4806, .inl (fun _ => 0))), ((qq 31), .inl (cT 1, 1602, .inr (.inl (vp_updL (fun _ => 0) 801 170)))), ((qq 33), .inl (cT 0, 2, .inl (upd (fun _ => 0) 1 1)))]) (va_runV (As := [.int 1, .long 170, .int 1]) (rest := []) ⟨hx, hb, hml, hown, hts⟩ (c_M_longer_1_1 l g cT H.size y qq z6 z12 z14 z15 z16 z17 z19 z21 z22 z23 z24 z26 z30) (cwV 3 hts gX12_layBegins_X12_longer rfl rfl rfl yd_X12_longer ⟨(Nat.le_of_ble_eq_true rfl), (Nat.le_of_ble_eq_true rfl)⟩) (preV (wc := [(y, .inr (12, [.ref (qq 0), .ref (qq 1), .ref (qq 2), .ref (qq 3), .ref (qq 4), .ref (qq 5), .int z6, .ref (qq 7), .ref (qq 8), .ref (qq 9), .ref (qq 10), .ref (qq 11), .int z12, .ref (qq 13), .int z14, .int z15, .int z16, .int z17, .ref (qq 18), .int z19, .ref (qq 20), .int z21, .int z22, .int z23, .int z24, .ref (qq 25), .int z26, .ref (qq 27), .ref (qq 28), .ref (qq 29), .int z30, .ref (qq 31), .ref (qq 32), .ref (qq 33), .ref (qq 34), .ref (qq 35), .ref (qq 36), .ref (qq 37), .ref (qq 38), .ref (qq 39), .ref (qq 40), .ref (qq 41), .ref (qq 42)])), ((qq 0), .inl (cT 0, 2, .inl (fun _ => 1))), ((qq 2), .inl (cT 0, 50, .inl (fun _ => (-1))))]) rfl hP hD hK hN hZ hS hA [3, 1, 2] rfl (by decide) (ci := 12) (q0 := 3) rfl rfl) rfl rfl hl.1 rfl (lv_room (Nat.le_of_ble_eq_true rfl)) dX12_layBegins_56 ⟨(Nat.le_of_ble_eq_true rfl), (Nat.le_of_ble_eq_true rfl)⟩) hP hD hS hA [3, 1, 2] [0, 4, 5] rfl rfl (by decide) (by decide) (Nat.le_of_ble_eq_true rfl) (Nat.le_of_ble_eq_true rfl) (fun r_7 u H locs h_8 hP hD hS => ?_)
    have hP : va_P g vwCl [((qq 32), .inl (cT 0, 4806, .inl (fun _ => 0))), ((qq 31), .inl (cT 1, 1602, .inr (.inl (vp_updL (fun _ => 0) 801 170)))), ((qq 33), .inl (cT 0, 2, .inl (upd (fun _ => 0) 1 1))), (y, .inr (12, [.ref (qq 0), .ref (qq 1), .ref (qq 2), .ref (qq 3), .ref (qq 4), .ref (qq 5), .int z6, .ref (qq 7), .ref (qq 8), .ref (qq 9), .ref (qq 10), .ref (qq 11), .int z12, .ref (qq 13), .int z14, .int z15, .int z16, .int z17, .ref (qq 18), .int z19, .ref (qq 20), .int z21, .int z22, .int z23, .int z24, .ref (qq 25), .int z26, .ref (qq 27), .ref (qq 28), .ref (qq 29), .int z30, .ref (qq 31), .ref (qq 32), .ref (qq 33), .ref (qq 34), .ref (qq 35), .ref (qq 36), .ref (qq 37), .ref (qq 38), .ref (qq 39), .ref (qq 40), .ref (qq 41), .ref (qq 42)])), ((qq 0), .inl (cT 0, 2, .inl (fun _ => 1))), ((qq 2), .inl (cT 0, 50, .inl (fun _ => (-1))))] H := hP
    have hD : va_D A [((qq 32), .inl (cT 0, 4806, .inl (fun _ => 0))), ((qq 31), .inl (cT 1, 1602, .inr (.inl (vp_updL (fun _ => 0) 801 170)))), ((qq 33), .inl (cT 0, 2, .inl (upd (fun _ => 0) 1 1))), (y, .inr (12, [.ref (qq 0), .ref (qq 1), .ref (qq 2), .ref (qq 3), .ref (qq 4), .ref (qq 5), .int z6, .ref (qq 7), .ref (qq 8), .ref (qq 9), .ref (qq 10), .ref (qq 11), .int z12, .ref (qq 13), .int z14, .int z15, .int z16, .int z17, .ref (qq 18), .int z19, .ref (qq 20), .int z21, .int z22, .int z23, .int z24, .ref (qq 25), .int z26, .ref (qq 27), .ref (qq 28), .ref (qq 29), .int z30, .ref (qq 31), .ref (qq 32), .ref (qq 33), .ref (qq 34), .ref (qq 35), .ref (qq 36), .ref (qq 37), .ref (qq 38), .ref (qq 39), .ref (qq 40), .ref (qq 41), .ref (qq 42)])), ((qq 0), .inl (cT 0, 2, .inl (fun _ => 1))), ((qq 2), .inl (cT 0, 50, .inl (fun _ => (-1))))] := hD
    subst h_8
    refine lv_lstore (lv' := [(4, .long 170), (3, .int 1), (6, .int 0), (2, .int 0), (0, .ref y), (1, .int 1)]) hx hb dX12_layBegins_59 hl (by decide) rfl (fun ls hl => ?_)
    refine lv_aload_n hx hb dX12_layBegins_61 rfl (lv_at hl 4 rfl) ?_
    refine lv_iload_n hx hb dX12_layBegins_62 rfl (lv_at hl 5 rfl) ?_
    refine lv_lload hx hb dX12_layBegins_63 (lv_at hl 0 rfl) ?_
    refine cj_i 0 0 (wr := [((qq 32), .inl (cT 0, 4806, .inl (fun _ => 0))), ((qq 0), .inl (cT 0, 2, .inl (fun _ => 1))), ((qq 2), .inl (cT 0, 50, .inl (fun _ => (-1))))]) (va_runV (As := [.int 1, .long 170]) (rest := []) ⟨hx, hb, hml, hown, hts⟩ (c_M_beginOf_1 l g cT H.size y qq z6 z12 z14 z15 z16 z17 z19 z21 z22 z23 z24 z26 z30) (cwV 2 hts gX12_layBegins_X12_beginOf rfl rfl rfl yd_X12_beginOf ⟨(Nat.le_of_ble_eq_true rfl), (Nat.le_of_ble_eq_true rfl)⟩) (preV (wc := [(y, .inr (12, [.ref (qq 0), .ref (qq 1), .ref (qq 2), .ref (qq 3), .ref (qq 4), .ref (qq 5), .int z6, .ref (qq 7), .ref (qq 8), .ref (qq 9), .ref (qq 10), .ref (qq 11), .int z12, .ref (qq 13), .int z14, .int z15, .int z16, .int z17, .ref (qq 18), .int z19, .ref (qq 20), .int z21, .int z22, .int z23, .int z24, .ref (qq 25), .int z26, .ref (qq 27), .ref (qq 28), .ref (qq 29), .int z30, .ref (qq 31), .ref (qq 32), .ref (qq 33), .ref (qq 34), .ref (qq 35), .ref (qq 36), .ref (qq 37), .ref (qq 38), .ref (qq 39), .ref (qq 40), .ref (qq 41), .ref (qq 42)])), ((qq 31), .inl (cT 1, 1602, .inr (.inl (vp_updL (fun _ => 0) 801 170)))), ((qq 33), .inl (cT 0, 2, .inl (upd (fun _ => 0) 1 1)))]) rfl hP hD hK hN hZ hS hA [3, 1, 2] rfl (by decide) (ci := 12) (q0 := 3) rfl rfl) rfl rfl hl.1 rfl (lv_room (Nat.le_of_ble_eq_true rfl)) dX12_layBegins_65 ⟨(Nat.le_of_ble_eq_true rfl), (Nat.le_of_ble_eq_true rfl)⟩) hP hD hS hA [3, 1, 2] [0, 4, 5] rfl rfl (by decide) (by decide) (Nat.le_of_ble_eq_true rfl) (Nat.le_of_ble_eq_true rfl) (fun r_9 u H locs h_10 hP hD hS => ?_)
    have hP : va_P g vwCl [((qq 32), .inl (cT 0, 4806, .inl (fun _ => 0))), ((qq 0), .inl (cT 0, 2, .inl (fun _ => 1))), ((qq 2), .inl (cT 0, 50, .inl (fun _ => (-1)))), (y, .inr (12, [.ref (qq 0), .ref (qq 1), .ref (qq 2), .ref (qq 3), .ref (qq 4), .ref (qq 5), .int z6, .ref (qq 7), .ref (qq 8), .ref (qq 9), .ref (qq 10), .ref (qq 11), .int z12, .ref (qq 13), .int z14, .int z15, .int z16, .int z17, .ref (qq 18), .int z19, .ref (qq 20), .int z21, .int z22, .int z23, .int z24, .ref (qq 25), .int z26, .ref (qq 27), .ref (qq 28), .ref (qq 29), .int z30, .ref (qq 31), .ref (qq 32), .ref (qq 33), .ref (qq 34), .ref (qq 35), .ref (qq 36), .ref (qq 37), .ref (qq 38), .ref (qq 39), .ref (qq 40), .ref (qq 41), .ref (qq 42)])), ((qq 31), .inl (cT 1, 1602, .inr (.inl (vp_updL (fun _ => 0) 801 170)))), ((qq 33), .inl (cT 0, 2, .inl (upd (fun _ => 0) 1 1)))] H := hP
    have hD : va_D A [((qq 32), .inl (cT 0, 4806, .inl (fun _ => 0))), ((qq 0), .inl (cT 0, 2, .inl (fun _ => 1))), ((qq 2), .inl (cT 0, 50, .inl (fun _ => (-1)))), (y, .inr (12, [.ref (qq 0), .ref (qq 1), .ref (qq 2), .ref (qq 3), .ref (qq 4), .ref (qq 5), .int z6, .ref (qq 7), .ref (qq 8), .ref (qq 9), .ref (qq 10), .ref (qq 11), .int z12, .ref (qq 13), .int z14, .int z15, .int z16, .int z17, .ref (qq 18), .int z19, .ref (qq 20), .int z21, .int z22, .int z23, .int z24, .ref (qq 25), .int z26, .ref (qq 27), .ref (qq 28), .ref (qq 29), .int z30, .ref (qq 31), .ref (qq 32), .ref (qq 33), .ref (qq 34), .ref (qq 35), .ref (qq 36), .ref (qq 37), .ref (qq 38), .ref (qq 39), .ref (qq 40), .ref (qq 41), .ref (qq 42)])), ((qq 31), .inl (cT 1, 1602, .inr (.inl (vp_updL (fun _ => 0) 801 170)))), ((qq 33), .inl (cT 0, 2, .inl (upd (fun _ => 0) 1 1)))] := hD
    subst h_10
    refine lv_istore (lv' := [(6, .int 0), (4, .long 170), (3, .int 1), (2, .int 0), (0, .ref y), (1, .int 1)]) hx hb dX12_layBegins_68 hl (by decide) rfl (fun ls hl => ?_)
    refine lv_iload hx hb dX12_layBegins_70 (lv_at hl 0 rfl) ?_
    refine lv_iconst (v := (-1)) hx hb dX12_layBegins_72 (by decide) ?_
    refine icmp_ne_t hx hb 151 dX12_layBegins_73 (by decide) (by decide) ?_
    refine lv_aload_n hx hb dX12_layBegins_151 rfl (lv_at hl 4 rfl) ?_
    refine va_get (C := RX12) (T := TX12) (N := 43) (v := .ref (qq 32)) hx hb hts hi_X12_layBegins_X12 hown hK hP 3 rfl rfl 32 (by decide) (hts (.fieldLink RX12 69 "BothWaysModel" "lead" "[I") (by decide +kernel)) (fun _ h => h) rfl dX12_layBegins_152 ?_
    refine lv_sipush (v := 2403) hx hb dX12_layBegins_155 (by decide) ?_
    refine lv_iload_n hx hb dX12_layBegins_158 rfl (lv_at hl 5 rfl) ?_
    refine w_imul (v := 2403) hx hb dX12_layBegins_159 (by decide) ?_
    refine lv_iconst (v := 3) hx hb dX12_layBegins_160 (by decide) ?_
    refine lv_iload_n hx hb dX12_layBegins_161 rfl (lv_at hl 3 rfl) ?_
    refine w_imul (v := 0) hx hb dX12_layBegins_162 (by decide) ?_
    refine w_iadd (v := 2403) hx hb dX12_layBegins_163 (by decide) ?_
    refine lv_iload_n hx hb dX12_layBegins_164 rfl (lv_at hl 2 rfl) ?_
    refine w_iadd (v := 2404) hx hb dX12_layBegins_165 (by decide) ?_
    refine lv_iload hx hb dX12_layBegins_166 (lv_at hl 0 rfl) ?_
    refine w_iast (f' := (fun _ => 0)) hx hb hK hP hD hS 0 rfl dX12_layBegins_168 (inC (by decide)) (upd_c _ _) (fun H locs hP hD hS => ?_)
    have hP : va_P g vwCl [((qq 32), .inl (cT 0, 4806, .inl (fun _ => 0))), ((qq 0), .inl (cT 0, 2, .inl (fun _ => 1))), ((qq 2), .inl (cT 0, 50, .inl (fun _ => (-1)))), (y, .inr (12, [.ref (qq 0), .ref (qq 1), .ref (qq 2), .ref (qq 3), .ref (qq 4), .ref (qq 5), .int z6, .ref (qq 7), .ref (qq 8), .ref (qq 9), .ref (qq 10), .ref (qq 11), .int z12, .ref (qq 13), .int z14, .int z15, .int z16, .int z17, .ref (qq 18), .int z19, .ref (qq 20), .int z21, .int z22, .int z23, .int z24, .ref (qq 25), .int z26, .ref (qq 27), .ref (qq 28), .ref (qq 29), .int z30, .ref (qq 31), .ref (qq 32), .ref (qq 33), .ref (qq 34), .ref (qq 35), .ref (qq 36), .ref (qq 37), .ref (qq 38), .ref (qq 39), .ref (qq 40), .ref (qq 41), .ref (qq 42)])), ((qq 31), .inl (cT 1, 1602, .inr (.inl (vp_updL (fun _ => 0) 801 170)))), ((qq 33), .inl (cT 0, 2, .inl (upd (fun _ => 0) 1 1)))] H := hP
    have hD : va_D A [((qq 32), .inl (cT 0, 4806, .inl (fun _ => 0))), ((qq 0), .inl (cT 0, 2, .inl (fun _ => 1))), ((qq 2), .inl (cT 0, 50, .inl (fun _ => (-1)))), (y, .inr (12, [.ref (qq 0), .ref (qq 1), .ref (qq 2), .ref (qq 3), .ref (qq 4), .ref (qq 5), .int z6, .ref (qq 7), .ref (qq 8), .ref (qq 9), .ref (qq 10), .ref (qq 11), .int z12, .ref (qq 13), .int z14, .int z15, .int z16, .int z17, .ref (qq 18), .int z19, .ref (qq 20), .int z21, .int z22, .int z23, .int z24, .ref (qq 25), .int z26, .ref (qq 27), .ref (qq 28), .ref (qq 29), .int z30, .ref (qq 31), .ref (qq 32), .ref (qq 33), .ref (qq 34), .ref (qq 35), .ref (qq 36), .ref (qq 37), .ref (qq 38), .ref (qq 39), .ref (qq 40), .ref (qq 41), .ref (qq 42)])), ((qq 31), .inl (cT 1, 1602, .inr (.inl (vp_updL (fun _ => 0) 801 170)))), ((qq 33), .inl (cT 0, 2, .inl (upd (fun _ => 0) 1 1)))] := hD
    refine lv_iinc (v := 2) (lv' := [(3, .int 2), (6, .int 0), (4, .long 170), (2, .int 0), (0, .ref y), (1, .int 1)]) hx hb dX12_layBegins_169 hl (k := 2) rfl (by decide) (by decide) rfl (fun ls hl => ?_)
    refine lv_goto (tgt := 36) hx hb dX12_layBegins_172 (by decide) ?_
    refine lv_iload_n hx hb dX12_layBegins_36 rfl (lv_at hl 0 rfl) ?_
    refine lv_iconst (v := 3) hx hb dX12_layBegins_37 (by decide) ?_
    refine icmp_ge_f hx hb dX12_layBegins_38 175 (by decide) (by decide) ?_
    refine lv_aload_n hx hb dX12_layBegins_41 rfl (lv_at hl 4 rfl) ?_
    refine lv_iload_n hx hb dX12_layBegins_42 rfl (lv_at hl 5 rfl) ?_
    refine lv_aload_n hx hb dX12_layBegins_43 rfl (lv_at hl 4 rfl) ?_
    refine va_get (C := RX12) (T := TX12) (N := 43) (v := .ref (qq 31)) hx hb hts hi_X12_layBegins_X12 hown hK hP 3 rfl rfl 31 (by decide) (hts (.fieldLink RX12 66 "BothWaysModel" "begin" "[J") (by decide +kernel)) (fun _ h => h) rfl dX12_layBegins_44 ?_
    refine lv_sipush (v := 801) hx hb dX12_layBegins_47 (by decide) ?_
    refine lv_iload_n hx hb dX12_layBegins_50 rfl (lv_at hl 5 rfl) ?_
    refine w_imul (v := 801) hx hb dX12_layBegins_51 (by decide) ?_
    refine lv_iload_n hx hb dX12_layBegins_52 rfl (lv_at hl 3 rfl) ?_
    refine w_iadd (v := 801) hx hb dX12_layBegins_53 (by decide) ?_
    refine w_lald (v := 170) hx hb hK hP 4 rfl dX12_layBegins_54 (inC (by decide)) (by decide) ?_
    refine lv_iload_n hx hb dX12_layBegins_55 rfl (lv_at hl 0 rfl) ?_
    refine cj_l 0 0 (wr := [((qq 32), .inl (cT 0, 4806, .inl (fun _ => 0))), ((qq 31), .inl (cT 1, 1602, .inr (.inl (vp_updL (fun _ => 0) 801 170)))), ((qq 33), .inl (cT 0, 2, .inl (upd (fun _ => 0) 1 1)))]) (va_runV (As := [.int 1, .long 170, .int 2]) (rest := []) ⟨hx, hb, hml, hown, hts⟩ (c_M_longer_1_2 l g cT H.size y qq z6 z12 z14 z15 z16 z17 z19 z21 z22 z23 z24 z26 z30) (cwV 3 hts gX12_layBegins_X12_longer rfl rfl rfl yd_X12_longer ⟨(Nat.le_of_ble_eq_true rfl), (Nat.le_of_ble_eq_true rfl)⟩) (preV (wc := [(y, .inr (12, [.ref (qq 0), .ref (qq 1), .ref (qq 2), .ref (qq 3), .ref (qq 4), .ref (qq 5), .int z6, .ref (qq 7), .ref (qq 8), .ref (qq 9), .ref (qq 10), .ref (qq 11), .int z12, .ref (qq 13), .int z14, .int z15, .int z16, .int z17, .ref (qq 18), .int z19, .ref (qq 20), .int z21, .int z22, .int z23, .int z24, .ref (qq 25), .int z26, .ref (qq 27), .ref (qq 28), .ref (qq 29), .int z30, .ref (qq 31), .ref (qq 32), .ref (qq 33), .ref (qq 34), .ref (qq 35), .ref (qq 36), .ref (qq 37), .ref (qq 38), .ref (qq 39), .ref (qq 40), .ref (qq 41), .ref (qq 42)])), ((qq 0), .inl (cT 0, 2, .inl (fun _ => 1))), ((qq 2), .inl (cT 0, 50, .inl (fun _ => (-1))))]) rfl hP hD hK hN hZ hS hA [3, 1, 2] rfl (by decide) (ci := 12) (q0 := 3) rfl rfl) rfl rfl hl.1 rfl (lv_room (Nat.le_of_ble_eq_true rfl)) dX12_layBegins_56 ⟨(Nat.le_of_ble_eq_true rfl), (Nat.le_of_ble_eq_true rfl)⟩) hP hD hS hA [3, 1, 2] [0, 4, 5] rfl rfl (by decide) (by decide) (Nat.le_of_ble_eq_true rfl) (Nat.le_of_ble_eq_true rfl) (fun r_11 u H locs h_12 hP hD hS => ?_)
    have hP : va_P g vwCl [((qq 32), .inl (cT 0, 4806, .inl (fun _ => 0))), ((qq 31), .inl (cT 1, 1602, .inr (.inl (vp_updL (fun _ => 0) 801 170)))), ((qq 33), .inl (cT 0, 2, .inl (upd (fun _ => 0) 1 1))), (y, .inr (12, [.ref (qq 0), .ref (qq 1), .ref (qq 2), .ref (qq 3), .ref (qq 4), .ref (qq 5), .int z6, .ref (qq 7), .ref (qq 8), .ref (qq 9), .ref (qq 10), .ref (qq 11), .int z12, .ref (qq 13), .int z14, .int z15, .int z16, .int z17, .ref (qq 18), .int z19, .ref (qq 20), .int z21, .int z22, .int z23, .int z24, .ref (qq 25), .int z26, .ref (qq 27), .ref (qq 28), .ref (qq 29), .int z30, .ref (qq 31), .ref (qq 32), .ref (qq 33), .ref (qq 34), .ref (qq 35), .ref (qq 36), .ref (qq 37), .ref (qq 38), .ref (qq 39), .ref (qq 40), .ref (qq 41), .ref (qq 42)])), ((qq 0), .inl (cT 0, 2, .inl (fun _ => 1))), ((qq 2), .inl (cT 0, 50, .inl (fun _ => (-1))))] H := hP
    have hD : va_D A [((qq 32), .inl (cT 0, 4806, .inl (fun _ => 0))), ((qq 31), .inl (cT 1, 1602, .inr (.inl (vp_updL (fun _ => 0) 801 170)))), ((qq 33), .inl (cT 0, 2, .inl (upd (fun _ => 0) 1 1))), (y, .inr (12, [.ref (qq 0), .ref (qq 1), .ref (qq 2), .ref (qq 3), .ref (qq 4), .ref (qq 5), .int z6, .ref (qq 7), .ref (qq 8), .ref (qq 9), .ref (qq 10), .ref (qq 11), .int z12, .ref (qq 13), .int z14, .int z15, .int z16, .int z17, .ref (qq 18), .int z19, .ref (qq 20), .int z21, .int z22, .int z23, .int z24, .ref (qq 25), .int z26, .ref (qq 27), .ref (qq 28), .ref (qq 29), .int z30, .ref (qq 31), .ref (qq 32), .ref (qq 33), .ref (qq 34), .ref (qq 35), .ref (qq 36), .ref (qq 37), .ref (qq 38), .ref (qq 39), .ref (qq 40), .ref (qq 41), .ref (qq 42)])), ((qq 0), .inl (cT 0, 2, .inl (fun _ => 1))), ((qq 2), .inl (cT 0, 50, .inl (fun _ => (-1))))] := hD
    subst h_12
    refine lv_lstore (lv' := [(4, .long 170), (3, .int 2), (6, .int 0), (2, .int 0), (0, .ref y), (1, .int 1)]) hx hb dX12_layBegins_59 hl (by decide) rfl (fun ls hl => ?_)
    refine lv_aload_n hx hb dX12_layBegins_61 rfl (lv_at hl 4 rfl) ?_
    refine lv_iload_n hx hb dX12_layBegins_62 rfl (lv_at hl 5 rfl) ?_
    refine lv_lload hx hb dX12_layBegins_63 (lv_at hl 0 rfl) ?_
    refine cj_i 0 0 (wr := [((qq 32), .inl (cT 0, 4806, .inl (fun _ => 0))), ((qq 0), .inl (cT 0, 2, .inl (fun _ => 1))), ((qq 2), .inl (cT 0, 50, .inl (fun _ => (-1))))]) (va_runV (As := [.int 1, .long 170]) (rest := []) ⟨hx, hb, hml, hown, hts⟩ (c_M_beginOf_1 l g cT H.size y qq z6 z12 z14 z15 z16 z17 z19 z21 z22 z23 z24 z26 z30) (cwV 2 hts gX12_layBegins_X12_beginOf rfl rfl rfl yd_X12_beginOf ⟨(Nat.le_of_ble_eq_true rfl), (Nat.le_of_ble_eq_true rfl)⟩) (preV (wc := [(y, .inr (12, [.ref (qq 0), .ref (qq 1), .ref (qq 2), .ref (qq 3), .ref (qq 4), .ref (qq 5), .int z6, .ref (qq 7), .ref (qq 8), .ref (qq 9), .ref (qq 10), .ref (qq 11), .int z12, .ref (qq 13), .int z14, .int z15, .int z16, .int z17, .ref (qq 18), .int z19, .ref (qq 20), .int z21, .int z22, .int z23, .int z24, .ref (qq 25), .int z26, .ref (qq 27), .ref (qq 28), .ref (qq 29), .int z30, .ref (qq 31), .ref (qq 32), .ref (qq 33), .ref (qq 34), .ref (qq 35), .ref (qq 36), .ref (qq 37), .ref (qq 38), .ref (qq 39), .ref (qq 40), .ref (qq 41), .ref (qq 42)])), ((qq 31), .inl (cT 1, 1602, .inr (.inl (vp_updL (fun _ => 0) 801 170)))), ((qq 33), .inl (cT 0, 2, .inl (upd (fun _ => 0) 1 1)))]) rfl hP hD hK hN hZ hS hA [3, 1, 2] rfl (by decide) (ci := 12) (q0 := 3) rfl rfl) rfl rfl hl.1 rfl (lv_room (Nat.le_of_ble_eq_true rfl)) dX12_layBegins_65 ⟨(Nat.le_of_ble_eq_true rfl), (Nat.le_of_ble_eq_true rfl)⟩) hP hD hS hA [3, 1, 2] [0, 4, 5] rfl rfl (by decide) (by decide) (Nat.le_of_ble_eq_true rfl) (Nat.le_of_ble_eq_true rfl) (fun r_13 u H locs h_14 hP hD hS => ?_)
    have hP : va_P g vwCl [((qq 32), .inl (cT 0, 4806, .inl (fun _ => 0))), ((qq 0), .inl (cT 0, 2, .inl (fun _ => 1))), ((qq 2), .inl (cT 0, 50, .inl (fun _ => (-1)))), (y, .inr (12, [.ref (qq 0), .ref (qq 1), .ref (qq 2), .ref (qq 3), .ref (qq 4), .ref (qq 5), .int z6, .ref (qq 7), .ref (qq 8), .ref (qq 9), .ref (qq 10), .ref (qq 11), .int z12, .ref (qq 13), .int z14, .int z15, .int z16, .int z17, .ref (qq 18), .int z19, .ref (qq 20), .int z21, .int z22, .int z23, .int z24, .ref (qq 25), .int z26, .ref (qq 27), .ref (qq 28), .ref (qq 29), .int z30, .ref (qq 31), .ref (qq 32), .ref (qq 33), .ref (qq 34), .ref (qq 35), .ref (qq 36), .ref (qq 37), .ref (qq 38), .ref (qq 39), .ref (qq 40), .ref (qq 41), .ref (qq 42)])), ((qq 31), .inl (cT 1, 1602, .inr (.inl (vp_updL (fun _ => 0) 801 170)))), ((qq 33), .inl (cT 0, 2, .inl (upd (fun _ => 0) 1 1)))] H := hP
    have hD : va_D A [((qq 32), .inl (cT 0, 4806, .inl (fun _ => 0))), ((qq 0), .inl (cT 0, 2, .inl (fun _ => 1))), ((qq 2), .inl (cT 0, 50, .inl (fun _ => (-1)))), (y, .inr (12, [.ref (qq 0), .ref (qq 1), .ref (qq 2), .ref (qq 3), .ref (qq 4), .ref (qq 5), .int z6, .ref (qq 7), .ref (qq 8), .ref (qq 9), .ref (qq 10), .ref (qq 11), .int z12, .ref (qq 13), .int z14, .int z15, .int z16, .int z17, .ref (qq 18), .int z19, .ref (qq 20), .int z21, .int z22, .int z23, .int z24, .ref (qq 25), .int z26, .ref (qq 27), .ref (qq 28), .ref (qq 29), .int z30, .ref (qq 31), .ref (qq 32), .ref (qq 33), .ref (qq 34), .ref (qq 35), .ref (qq 36), .ref (qq 37), .ref (qq 38), .ref (qq 39), .ref (qq 40), .ref (qq 41), .ref (qq 42)])), ((qq 31), .inl (cT 1, 1602, .inr (.inl (vp_updL (fun _ => 0) 801 170)))), ((qq 33), .inl (cT 0, 2, .inl (upd (fun _ => 0) 1 1)))] := hD
    subst h_14
    refine lv_istore (lv' := [(6, .int 0), (4, .long 170), (3, .int 2), (2, .int 0), (0, .ref y), (1, .int 1)]) hx hb dX12_layBegins_68 hl (by decide) rfl (fun ls hl => ?_)
    refine lv_iload hx hb dX12_layBegins_70 (lv_at hl 0 rfl) ?_
    refine lv_iconst (v := (-1)) hx hb dX12_layBegins_72 (by decide) ?_
    refine icmp_ne_t hx hb 151 dX12_layBegins_73 (by decide) (by decide) ?_
    refine lv_aload_n hx hb dX12_layBegins_151 rfl (lv_at hl 4 rfl) ?_
    refine va_get (C := RX12) (T := TX12) (N := 43) (v := .ref (qq 32)) hx hb hts hi_X12_layBegins_X12 hown hK hP 3 rfl rfl 32 (by decide) (hts (.fieldLink RX12 69 "BothWaysModel" "lead" "[I") (by decide +kernel)) (fun _ h => h) rfl dX12_layBegins_152 ?_
    refine lv_sipush (v := 2403) hx hb dX12_layBegins_155 (by decide) ?_
    refine lv_iload_n hx hb dX12_layBegins_158 rfl (lv_at hl 5 rfl) ?_
    refine w_imul (v := 2403) hx hb dX12_layBegins_159 (by decide) ?_
    refine lv_iconst (v := 3) hx hb dX12_layBegins_160 (by decide) ?_
    refine lv_iload_n hx hb dX12_layBegins_161 rfl (lv_at hl 3 rfl) ?_
    refine w_imul (v := 0) hx hb dX12_layBegins_162 (by decide) ?_
    refine w_iadd (v := 2403) hx hb dX12_layBegins_163 (by decide) ?_
    refine lv_iload_n hx hb dX12_layBegins_164 rfl (lv_at hl 2 rfl) ?_
    refine w_iadd (v := 2405) hx hb dX12_layBegins_165 (by decide) ?_
    refine lv_iload hx hb dX12_layBegins_166 (lv_at hl 0 rfl) ?_
    refine w_iast (f' := (fun _ => 0)) hx hb hK hP hD hS 0 rfl dX12_layBegins_168 (inC (by decide)) (upd_c _ _) (fun H locs hP hD hS => ?_)
    have hP : va_P g vwCl [((qq 32), .inl (cT 0, 4806, .inl (fun _ => 0))), ((qq 0), .inl (cT 0, 2, .inl (fun _ => 1))), ((qq 2), .inl (cT 0, 50, .inl (fun _ => (-1)))), (y, .inr (12, [.ref (qq 0), .ref (qq 1), .ref (qq 2), .ref (qq 3), .ref (qq 4), .ref (qq 5), .int z6, .ref (qq 7), .ref (qq 8), .ref (qq 9), .ref (qq 10), .ref (qq 11), .int z12, .ref (qq 13), .int z14, .int z15, .int z16, .int z17, .ref (qq 18), .int z19, .ref (qq 20), .int z21, .int z22, .int z23, .int z24, .ref (qq 25), .int z26, .ref (qq 27), .ref (qq 28), .ref (qq 29), .int z30, .ref (qq 31), .ref (qq 32), .ref (qq 33), .ref (qq 34), .ref (qq 35), .ref (qq 36), .ref (qq 37), .ref (qq 38), .ref (qq 39), .ref (qq 40), .ref (qq 41), .ref (qq 42)])), ((qq 31), .inl (cT 1, 1602, .inr (.inl (vp_updL (fun _ => 0) 801 170)))), ((qq 33), .inl (cT 0, 2, .inl (upd (fun _ => 0) 1 1)))] H := hP
    have hD : va_D A [((qq 32), .inl (cT 0, 4806, .inl (fun _ => 0))), ((qq 0), .inl (cT 0, 2, .inl (fun _ => 1))), ((qq 2), .inl (cT 0, 50, .inl (fun _ => (-1)))), (y, .inr (12, [.ref (qq 0), .ref (qq 1), .ref (qq 2), .ref (qq 3), .ref (qq 4), .ref (qq 5), .int z6, .ref (qq 7), .ref (qq 8), .ref (qq 9), .ref (qq 10), .ref (qq 11), .int z12, .ref (qq 13), .int z14, .int z15, .int z16, .int z17, .ref (qq 18), .int z19, .ref (qq 20), .int z21, .int z22, .int z23, .int z24, .ref (qq 25), .int z26, .ref (qq 27), .ref (qq 28), .ref (qq 29), .int z30, .ref (qq 31), .ref (qq 32), .ref (qq 33), .ref (qq 34), .ref (qq 35), .ref (qq 36), .ref (qq 37), .ref (qq 38), .ref (qq 39), .ref (qq 40), .ref (qq 41), .ref (qq 42)])), ((qq 31), .inl (cT 1, 1602, .inr (.inl (vp_updL (fun _ => 0) 801 170)))), ((qq 33), .inl (cT 0, 2, .inl (upd (fun _ => 0) 1 1)))] := hD
    refine lv_iinc (v := 3) (lv' := [(3, .int 3), (6, .int 0), (4, .long 170), (2, .int 0), (0, .ref y), (1, .int 1)]) hx hb dX12_layBegins_169 hl (k := 2) rfl (by decide) (by decide) rfl (fun ls hl => ?_)
    refine lv_goto (tgt := 36) hx hb dX12_layBegins_172 (by decide) ?_
    refine lv_iload_n hx hb dX12_layBegins_36 rfl (lv_at hl 0 rfl) ?_
    refine lv_iconst (v := 3) hx hb dX12_layBegins_37 (by decide) ?_
    refine icmp_ge_t hx hb 175 dX12_layBegins_38 (by decide) (by decide) ?_
    refine lv_iinc (v := 1) (lv' := [(2, .int 1), (3, .int 3), (6, .int 0), (4, .long 170), (0, .ref y), (1, .int 1)]) hx hb dX12_layBegins_175 hl (k := 3) rfl (by decide) (by decide) rfl (fun ls hl => ?_)
    refine lv_goto (tgt := 24) hx hb dX12_layBegins_178 (by decide) ?_
    refine lv_iload_n hx hb dX12_layBegins_24 rfl (lv_at hl 0 rfl) ?_
    refine lv_aload_n hx hb dX12_layBegins_25 rfl (lv_at hl 4 rfl) ?_
    refine va_get (C := RX12) (T := TX12) (N := 43) (v := .ref (qq 33)) hx hb hts hi_X12_layBegins_X12 hown hK hP 3 rfl rfl 33 (by decide) (hts (.fieldLink RX12 72 "BothWaysModel" "beginMany" "[I") (by decide +kernel)) (fun _ h => h) rfl dX12_layBegins_26 ?_
    refine lv_iload_n hx hb dX12_layBegins_29 rfl (lv_at hl 5 rfl) ?_
    refine w_iald (v := 1) hx hb hK hP 5 rfl dX12_layBegins_30 (inC (by decide)) (by decide) ?_
    refine icmp_ge_t hx hb 181 dX12_layBegins_31 (by decide) (by decide) ?_
    refine lv_iconst (v := 1) hx hb dX12_layBegins_181 (by decide) ?_
    exact rt_i hx hb hr hlocks hQ hP hD hS () [3, 1, 2, 0, 4, 5] dX12_layBegins_182 rfl (Nat.le_of_ble_eq_true rfl) (Nat.le_of_ble_eq_true rfl) rfl (by decide) rfl
  rw [hH, hlo] at hgo
  exact hgo
abbrev rm_c_M_beginOf_1b : Room := { frames := 0, cells := 0, slots := 0, locals := 0 }
set_option maxHeartbeats 4000000 in
set_option maxRecDepth 100000 in
theorem c_M_beginOf_1b (l : Launch) (g : va_G) (cT : Nat → ClassId) (sz : Nat) (y : Nat) (qq : Nat → Nat) (z6 : Int32) (z12 : Int32) (z14 : Int32) (z15 : Int32) (z16 : Int32) (z17 : Int32) (z19 : Int32) (z21 : Int32) (z22 : Int32) (z23 : Int32) (z24 : Int32) (z26 : Int32) (z30 : Int32)  : Ctr l g cT sz yX12_beginOf wsX12_beginOf rm_c_M_beginOf_1b [.ref y, .int 1, .long 170] [(y, .inr (12, [.ref (qq 0), .ref (qq 1), .ref (qq 2), .ref (qq 3), .ref (qq 4), .ref (qq 5), .int z6, .ref (qq 7), .ref (qq 8), .ref (qq 9), .ref (qq 10), .ref (qq 11), .int z12, .ref (qq 13), .int z14, .int z15, .int z16, .int z17, .ref (qq 18), .int z19, .ref (qq 20), .int z21, .int z22, .int z23, .int z24, .ref (qq 25), .int z26, .ref (qq 27), .ref (qq 28), .ref (qq 29), .int z30, .ref (qq 31), .ref (qq 32), .ref (qq 33), .ref (qq 34), .ref (qq 35), .ref (qq 36), .ref (qq 37), .ref (qq 38), .ref (qq 39), .ref (qq 40), .ref (qq 41), .ref (qq 42)])), ((qq 31), .inl (cT 1, 1602, .inr (.inl (vp_updL (vp_updL (fun _ => 0) 0 170) 801 170)))), ((qq 33), .inl (cT 0, 2, .inl (upd (upd (fun _ => 0) 0 1) 1 1)))] (QI g (fun (r : Int32) (u : Unit) => r = 0) (fun (u : Unit) => [(y, .inr (12, [.ref (qq 0), .ref (qq 1), .ref (qq 2), .ref (qq 3), .ref (qq 4), .ref (qq 5), .int z6, .ref (qq 7), .ref (qq 8), .ref (qq 9), .ref (qq 10), .ref (qq 11), .int z12, .ref (qq 13), .int z14, .int z15, .int z16, .int z17, .ref (qq 18), .int z19, .ref (qq 20), .int z21, .int z22, .int z23, .int z24, .ref (qq 25), .int z26, .ref (qq 27), .ref (qq 28), .ref (qq 29), .int z30, .ref (qq 31), .ref (qq 32), .ref (qq 33), .ref (qq 34), .ref (qq 35), .ref (qq 36), .ref (qq 37), .ref (qq 38), .ref (qq 39), .ref (qq 40), .ref (qq 41), .ref (qq 42)])), ((qq 31), .inl (cT 1, 1602, .inr (.inl (vp_updL (vp_updL (fun _ => 0) 0 170) 801 170)))), ((qq 33), .inl (cT 0, 2, .inl (upd (upd (fun _ => 0) 0 1) 1 1)))])) 0 0 := by
  refine mk_ctr (cc := cX12_beginOf) (maxL := 5) (ret := (some .int)) (by decide) rfl (Nat.le_of_ble_eq_true rfl) ?_
  intro p e s m args below meth c A Q hx hb hr hts hown hlocks hin hml hP hK hD hN hZ hA hS hQ ls hl
  have hl : lv_has ls 5 [(0, .ref y), (1, .int 1), (2, .long 170)] := hl
  obtain ⟨H, hH⟩ : ∃ H : Heap, H = s.heap := ⟨_, rfl⟩
  obtain ⟨locs, hlo⟩ : ∃ x : List Loc, x = [] := ⟨_, rfl⟩
  rw [← hH] at hP
  have hS : va_S A s.heap H locs := by rw [hH, hlo]; exact hS
  have hgo : W p l e rm_c_M_beginOf_1b s m args below meth c H locs 0 0 Q (F0 m 0 ls []) := by
    clear hH hlo
    refine lv_iconst (v := 0) hx hb dX12_beginOf_0 (by decide) ?_
    refine lv_istore (lv' := [(4, .int 0), (0, .ref y), (1, .int 1), (2, .long 170)]) hx hb dX12_beginOf_1 hl (by decide) rfl (fun ls hl => ?_)
    refine lv_iload hx hb dX12_beginOf_3 (lv_at hl 0 rfl) ?_
    refine lv_aload_n hx hb dX12_beginOf_5 rfl (lv_at hl 1 rfl) ?_
    refine va_get (C := RX12) (T := TX12) (N := 43) (v := .ref (qq 33)) hx hb hts hi_X12_beginOf_X12 hown hK hP 0 rfl rfl 33 (by decide) (hts (.fieldLink RX12 72 "BothWaysModel" "beginMany" "[I") (by decide +kernel)) (fun _ h => h) rfl dX12_beginOf_6 ?_
    refine lv_iload_n hx hb dX12_beginOf_9 rfl (lv_at hl 2 rfl) ?_
    refine w_iald (v := 1) hx hb hK hP 2 rfl dX12_beginOf_10 (inC (by decide)) (by decide) ?_
    refine icmp_ge_f hx hb dX12_beginOf_11 41 (by decide) (by decide) ?_
    refine lv_aload_n hx hb dX12_beginOf_14 rfl (lv_at hl 1 rfl) ?_
    refine va_get (C := RX12) (T := TX12) (N := 43) (v := .ref (qq 31)) hx hb hts hi_X12_beginOf_X12 hown hK hP 0 rfl rfl 31 (by decide) (hts (.fieldLink RX12 66 "BothWaysModel" "begin" "[J") (by decide +kernel)) (fun _ h => h) rfl dX12_beginOf_15 ?_
    refine lv_sipush (v := 801) hx hb dX12_beginOf_18 (by decide) ?_
    refine lv_iload_n hx hb dX12_beginOf_21 rfl (lv_at hl 2 rfl) ?_
    refine w_imul (v := 801) hx hb dX12_beginOf_22 (by decide) ?_
    refine lv_iload hx hb dX12_beginOf_23 (lv_at hl 0 rfl) ?_
    refine w_iadd (v := 801) hx hb dX12_beginOf_25 (by decide) ?_
    refine w_lald (v := 170) hx hb hK hP 1 rfl dX12_beginOf_26 (inC (by decide)) (by decide) ?_
    refine lv_lload_n hx hb dX12_beginOf_27 rfl (lv_at hl 3 rfl) ?_
    refine w_lcmp (v := 0) hx hb dX12_beginOf_28 (by decide) ?_
    refine if_ne_f hx hb dX12_beginOf_29 35 (by decide) (by decide) ?_
    refine lv_iload hx hb dX12_beginOf_32 (lv_at hl 0 rfl) ?_
    exact rt_i hx hb hr hlocks hQ hP hD hS () [0, 1, 2] dX12_beginOf_34 rfl (Nat.le_of_ble_eq_true rfl) (Nat.le_of_ble_eq_true rfl) rfl (by decide) rfl
  rw [hH, hlo] at hgo
  exact hgo
abbrev rm_c_M_layBegins_1b : Room := { frames := 3, cells := 0, slots := 0, locals := 79 }
set_option maxHeartbeats 4000000 in
set_option maxRecDepth 100000 in
theorem c_M_layBegins_1b (l : Launch) (g : va_G) (cT : Nat → ClassId) (sz : Nat) (y : Nat) (qq : Nat → Nat) (z6 : Int32) (z12 : Int32) (z14 : Int32) (z15 : Int32) (z16 : Int32) (z17 : Int32) (z19 : Int32) (z21 : Int32) (z22 : Int32) (z23 : Int32) (z24 : Int32) (z26 : Int32) (z30 : Int32)  : Ctr l g cT sz yX12_layBegins wsX12_layBegins rm_c_M_layBegins_1b [.ref y, .int 1] [(y, .inr (12, [.ref (qq 0), .ref (qq 1), .ref (qq 2), .ref (qq 3), .ref (qq 4), .ref (qq 5), .int z6, .ref (qq 7), .ref (qq 8), .ref (qq 9), .ref (qq 10), .ref (qq 11), .int z12, .ref (qq 13), .int z14, .int z15, .int z16, .int z17, .ref (qq 18), .int z19, .ref (qq 20), .int z21, .int z22, .int z23, .int z24, .ref (qq 25), .int z26, .ref (qq 27), .ref (qq 28), .ref (qq 29), .int z30, .ref (qq 31), .ref (qq 32), .ref (qq 33), .ref (qq 34), .ref (qq 35), .ref (qq 36), .ref (qq 37), .ref (qq 38), .ref (qq 39), .ref (qq 40), .ref (qq 41), .ref (qq 42)])), ((qq 0), .inl (cT 0, 2, .inl (fun _ => 1))), ((qq 2), .inl (cT 0, 50, .inl (fun _ => (-1)))), ((qq 32), .inl (cT 0, 4806, .inl (fun _ => 0))), ((qq 31), .inl (cT 1, 1602, .inr (.inl (vp_updL (fun _ => 0) 0 170)))), ((qq 33), .inl (cT 0, 2, .inl (upd (fun _ => 0) 0 1)))] (QI g (fun (r : Int32) (u : Unit) => r = 1) (fun (u : Unit) => [(y, .inr (12, [.ref (qq 0), .ref (qq 1), .ref (qq 2), .ref (qq 3), .ref (qq 4), .ref (qq 5), .int z6, .ref (qq 7), .ref (qq 8), .ref (qq 9), .ref (qq 10), .ref (qq 11), .int z12, .ref (qq 13), .int z14, .int z15, .int z16, .int z17, .ref (qq 18), .int z19, .ref (qq 20), .int z21, .int z22, .int z23, .int z24, .ref (qq 25), .int z26, .ref (qq 27), .ref (qq 28), .ref (qq 29), .int z30, .ref (qq 31), .ref (qq 32), .ref (qq 33), .ref (qq 34), .ref (qq 35), .ref (qq 36), .ref (qq 37), .ref (qq 38), .ref (qq 39), .ref (qq 40), .ref (qq 41), .ref (qq 42)])), ((qq 0), .inl (cT 0, 2, .inl (fun _ => 1))), ((qq 2), .inl (cT 0, 50, .inl (fun _ => (-1)))), ((qq 32), .inl (cT 0, 4806, .inl (fun _ => 0))), ((qq 31), .inl (cT 1, 1602, .inr (.inl (vp_updL (vp_updL (fun _ => 0) 0 170) 801 170)))), ((qq 33), .inl (cT 0, 2, .inl (upd (upd (fun _ => 0) 0 1) 1 1)))])) 0 0 := by
  refine mk_ctr (cc := cX12_layBegins) (maxL := 7) (ret := (some .boolean)) (by decide) rfl (Nat.le_of_ble_eq_true rfl) ?_
  intro p e s m args below meth c A Q hx hb hr hts hown hlocks hin hml hP hK hD hN hZ hA hS hQ ls hl
  have hl : lv_has ls 7 [(0, .ref y), (1, .int 1)] := hl
  obtain ⟨H, hH⟩ : ∃ H : Heap, H = s.heap := ⟨_, rfl⟩
  obtain ⟨locs, hlo⟩ : ∃ x : List Loc, x = [] := ⟨_, rfl⟩
  rw [← hH] at hP
  have hS : va_S A s.heap H locs := by rw [hH, hlo]; exact hS
  have hgo : W p l e rm_c_M_layBegins_1b s m args below meth c H locs 0 0 Q (F0 m 0 ls []) := by
    clear hH hlo
    refine lv_aload_n hx hb dX12_layBegins_0 rfl (lv_at hl 0 rfl) ?_
    refine va_get (C := RX12) (T := TX12) (N := 43) (v := .ref (qq 31)) hx hb hts hi_X12_layBegins_X12 hown hK hP 0 rfl rfl 31 (by decide) (hts (.fieldLink RX12 66 "BothWaysModel" "begin" "[J") (by decide +kernel)) (fun _ h => h) rfl dX12_layBegins_1 ?_
    refine lv_sipush (v := 801) hx hb dX12_layBegins_4 (by decide) ?_
    refine lv_iload_n hx hb dX12_layBegins_7 rfl (lv_at hl 1 rfl) ?_
    refine w_imul (v := 801) hx hb dX12_layBegins_8 (by decide) ?_
    refine lv_aload_n hx hb dX12_layBegins_9 rfl (lv_at hl 0 rfl) ?_
    refine lv_iload_n hx hb dX12_layBegins_10 rfl (lv_at hl 1 rfl) ?_
    refine cj_l 0 0 (wr := [((qq 32), .inl (cT 0, 4806, .inl (fun _ => 0))), ((qq 31), .inl (cT 1, 1602, .inr (.inl (vp_updL (fun _ => 0) 0 170)))), ((qq 33), .inl (cT 0, 2, .inl (upd (fun _ => 0) 0 1)))]) (va_runV (As := [.int 1]) (rest := [.int 801, .ref (qq 31)]) ⟨hx, hb, hml, hown, hts⟩ (c_M_emptyBeginning_1 l g cT H.size y qq z6 z12 z14 z15 z16 z17 z19 z21 z22 z23 z24 z26 z30) (cwV 1 hts gX12_layBegins_X12_emptyBeginning rfl rfl rfl yd_X12_emptyBeginning ⟨(Nat.le_of_ble_eq_true rfl), (Nat.le_of_ble_eq_true rfl)⟩) (preV (wc := [(y, .inr (12, [.ref (qq 0), .ref (qq 1), .ref (qq 2), .ref (qq 3), .ref (qq 4), .ref (qq 5), .int z6, .ref (qq 7), .ref (qq 8), .ref (qq 9), .ref (qq 10), .ref (qq 11), .int z12, .ref (qq 13), .int z14, .int z15, .int z16, .int z17, .ref (qq 18), .int z19, .ref (qq 20), .int z21, .int z22, .int z23, .int z24, .ref (qq 25), .int z26, .ref (qq 27), .ref (qq 28), .ref (qq 29), .int z30, .ref (qq 31), .ref (qq 32), .ref (qq 33), .ref (qq 34), .ref (qq 35), .ref (qq 36), .ref (qq 37), .ref (qq 38), .ref (qq 39), .ref (qq 40), .ref (qq 41), .ref (qq 42)])), ((qq 0), .inl (cT 0, 2, .inl (fun _ => 1))), ((qq 2), .inl (cT 0, 50, .inl (fun _ => (-1))))]) rfl hP hD hK hN hZ hS hA [0, 1, 2] rfl (by decide) (ci := 12) (q0 := 0) rfl rfl) rfl rfl hl.1 rfl (lv_room (Nat.le_of_ble_eq_true rfl)) dX12_layBegins_11 ⟨(Nat.le_of_ble_eq_true rfl), (Nat.le_of_ble_eq_true rfl)⟩) hP hD hS hA [0, 1, 2] [3, 4, 5] rfl rfl (by decide) (by decide) (Nat.le_of_ble_eq_true rfl) (Nat.le_of_ble_eq_true rfl) (fun r_1 u H locs h_2 hP hD hS => ?_)
    have hP : va_P g vwCl [((qq 32), .inl (cT 0, 4806, .inl (fun _ => 0))), ((qq 31), .inl (cT 1, 1602, .inr (.inl (vp_updL (fun _ => 0) 0 170)))), ((qq 33), .inl (cT 0, 2, .inl (upd (fun _ => 0) 0 1))), (y, .inr (12, [.ref (qq 0), .ref (qq 1), .ref (qq 2), .ref (qq 3), .ref (qq 4), .ref (qq 5), .int z6, .ref (qq 7), .ref (qq 8), .ref (qq 9), .ref (qq 10), .ref (qq 11), .int z12, .ref (qq 13), .int z14, .int z15, .int z16, .int z17, .ref (qq 18), .int z19, .ref (qq 20), .int z21, .int z22, .int z23, .int z24, .ref (qq 25), .int z26, .ref (qq 27), .ref (qq 28), .ref (qq 29), .int z30, .ref (qq 31), .ref (qq 32), .ref (qq 33), .ref (qq 34), .ref (qq 35), .ref (qq 36), .ref (qq 37), .ref (qq 38), .ref (qq 39), .ref (qq 40), .ref (qq 41), .ref (qq 42)])), ((qq 0), .inl (cT 0, 2, .inl (fun _ => 1))), ((qq 2), .inl (cT 0, 50, .inl (fun _ => (-1))))] H := hP
    have hD : va_D A [((qq 32), .inl (cT 0, 4806, .inl (fun _ => 0))), ((qq 31), .inl (cT 1, 1602, .inr (.inl (vp_updL (fun _ => 0) 0 170)))), ((qq 33), .inl (cT 0, 2, .inl (upd (fun _ => 0) 0 1))), (y, .inr (12, [.ref (qq 0), .ref (qq 1), .ref (qq 2), .ref (qq 3), .ref (qq 4), .ref (qq 5), .int z6, .ref (qq 7), .ref (qq 8), .ref (qq 9), .ref (qq 10), .ref (qq 11), .int z12, .ref (qq 13), .int z14, .int z15, .int z16, .int z17, .ref (qq 18), .int z19, .ref (qq 20), .int z21, .int z22, .int z23, .int z24, .ref (qq 25), .int z26, .ref (qq 27), .ref (qq 28), .ref (qq 29), .int z30, .ref (qq 31), .ref (qq 32), .ref (qq 33), .ref (qq 34), .ref (qq 35), .ref (qq 36), .ref (qq 37), .ref (qq 38), .ref (qq 39), .ref (qq 40), .ref (qq 41), .ref (qq 42)])), ((qq 0), .inl (cT 0, 2, .inl (fun _ => 1))), ((qq 2), .inl (cT 0, 50, .inl (fun _ => (-1))))] := hD
    subst h_2
    refine w_last (f' := (vp_updL (vp_updL (fun _ => 0) 0 170) 801 170)) hx hb hK hP hD hS 1 rfl dX12_layBegins_14 (inC (by decide)) rfl (fun H locs hP hD hS => ?_)
    have hP : va_P g vwCl [((qq 32), .inl (cT 0, 4806, .inl (fun _ => 0))), ((qq 31), .inl (cT 1, 1602, .inr (.inl (vp_updL (vp_updL (fun _ => 0) 0 170) 801 170)))), ((qq 33), .inl (cT 0, 2, .inl (upd (fun _ => 0) 0 1))), (y, .inr (12, [.ref (qq 0), .ref (qq 1), .ref (qq 2), .ref (qq 3), .ref (qq 4), .ref (qq 5), .int z6, .ref (qq 7), .ref (qq 8), .ref (qq 9), .ref (qq 10), .ref (qq 11), .int z12, .ref (qq 13), .int z14, .int z15, .int z16, .int z17, .ref (qq 18), .int z19, .ref (qq 20), .int z21, .int z22, .int z23, .int z24, .ref (qq 25), .int z26, .ref (qq 27), .ref (qq 28), .ref (qq 29), .int z30, .ref (qq 31), .ref (qq 32), .ref (qq 33), .ref (qq 34), .ref (qq 35), .ref (qq 36), .ref (qq 37), .ref (qq 38), .ref (qq 39), .ref (qq 40), .ref (qq 41), .ref (qq 42)])), ((qq 0), .inl (cT 0, 2, .inl (fun _ => 1))), ((qq 2), .inl (cT 0, 50, .inl (fun _ => (-1))))] H := hP
    have hD : va_D A [((qq 32), .inl (cT 0, 4806, .inl (fun _ => 0))), ((qq 31), .inl (cT 1, 1602, .inr (.inl (vp_updL (vp_updL (fun _ => 0) 0 170) 801 170)))), ((qq 33), .inl (cT 0, 2, .inl (upd (fun _ => 0) 0 1))), (y, .inr (12, [.ref (qq 0), .ref (qq 1), .ref (qq 2), .ref (qq 3), .ref (qq 4), .ref (qq 5), .int z6, .ref (qq 7), .ref (qq 8), .ref (qq 9), .ref (qq 10), .ref (qq 11), .int z12, .ref (qq 13), .int z14, .int z15, .int z16, .int z17, .ref (qq 18), .int z19, .ref (qq 20), .int z21, .int z22, .int z23, .int z24, .ref (qq 25), .int z26, .ref (qq 27), .ref (qq 28), .ref (qq 29), .int z30, .ref (qq 31), .ref (qq 32), .ref (qq 33), .ref (qq 34), .ref (qq 35), .ref (qq 36), .ref (qq 37), .ref (qq 38), .ref (qq 39), .ref (qq 40), .ref (qq 41), .ref (qq 42)])), ((qq 0), .inl (cT 0, 2, .inl (fun _ => 1))), ((qq 2), .inl (cT 0, 50, .inl (fun _ => (-1))))] := hD
    refine lv_aload_n hx hb dX12_layBegins_15 rfl (lv_at hl 0 rfl) ?_
    refine va_get (C := RX12) (T := TX12) (N := 43) (v := .ref (qq 33)) hx hb hts hi_X12_layBegins_X12 hown hK hP 3 rfl rfl 33 (by decide) (hts (.fieldLink RX12 72 "BothWaysModel" "beginMany" "[I") (by decide +kernel)) (fun _ h => h) rfl dX12_layBegins_16 ?_
    refine lv_iload_n hx hb dX12_layBegins_19 rfl (lv_at hl 1 rfl) ?_
    refine lv_iconst (v := 1) hx hb dX12_layBegins_20 (by decide) ?_
    refine w_iast (f' := (upd (upd (fun _ => 0) 0 1) 1 1)) hx hb hK hP hD hS 2 rfl dX12_layBegins_21 (inC (by decide)) rfl (fun H locs hP hD hS => ?_)
    have hP : va_P g vwCl [((qq 32), .inl (cT 0, 4806, .inl (fun _ => 0))), ((qq 31), .inl (cT 1, 1602, .inr (.inl (vp_updL (vp_updL (fun _ => 0) 0 170) 801 170)))), ((qq 33), .inl (cT 0, 2, .inl (upd (upd (fun _ => 0) 0 1) 1 1))), (y, .inr (12, [.ref (qq 0), .ref (qq 1), .ref (qq 2), .ref (qq 3), .ref (qq 4), .ref (qq 5), .int z6, .ref (qq 7), .ref (qq 8), .ref (qq 9), .ref (qq 10), .ref (qq 11), .int z12, .ref (qq 13), .int z14, .int z15, .int z16, .int z17, .ref (qq 18), .int z19, .ref (qq 20), .int z21, .int z22, .int z23, .int z24, .ref (qq 25), .int z26, .ref (qq 27), .ref (qq 28), .ref (qq 29), .int z30, .ref (qq 31), .ref (qq 32), .ref (qq 33), .ref (qq 34), .ref (qq 35), .ref (qq 36), .ref (qq 37), .ref (qq 38), .ref (qq 39), .ref (qq 40), .ref (qq 41), .ref (qq 42)])), ((qq 0), .inl (cT 0, 2, .inl (fun _ => 1))), ((qq 2), .inl (cT 0, 50, .inl (fun _ => (-1))))] H := hP
    have hD : va_D A [((qq 32), .inl (cT 0, 4806, .inl (fun _ => 0))), ((qq 31), .inl (cT 1, 1602, .inr (.inl (vp_updL (vp_updL (fun _ => 0) 0 170) 801 170)))), ((qq 33), .inl (cT 0, 2, .inl (upd (upd (fun _ => 0) 0 1) 1 1))), (y, .inr (12, [.ref (qq 0), .ref (qq 1), .ref (qq 2), .ref (qq 3), .ref (qq 4), .ref (qq 5), .int z6, .ref (qq 7), .ref (qq 8), .ref (qq 9), .ref (qq 10), .ref (qq 11), .int z12, .ref (qq 13), .int z14, .int z15, .int z16, .int z17, .ref (qq 18), .int z19, .ref (qq 20), .int z21, .int z22, .int z23, .int z24, .ref (qq 25), .int z26, .ref (qq 27), .ref (qq 28), .ref (qq 29), .int z30, .ref (qq 31), .ref (qq 32), .ref (qq 33), .ref (qq 34), .ref (qq 35), .ref (qq 36), .ref (qq 37), .ref (qq 38), .ref (qq 39), .ref (qq 40), .ref (qq 41), .ref (qq 42)])), ((qq 0), .inl (cT 0, 2, .inl (fun _ => 1))), ((qq 2), .inl (cT 0, 50, .inl (fun _ => (-1))))] := hD
    refine lv_iconst (v := 0) hx hb dX12_layBegins_22 (by decide) ?_
    refine lv_istore_n (lv' := [(2, .int 0), (0, .ref y), (1, .int 1)]) hx hb dX12_layBegins_23 rfl hl (by decide) rfl (fun ls hl => ?_)
    refine lv_iload_n hx hb dX12_layBegins_24 rfl (lv_at hl 0 rfl) ?_
    refine lv_aload_n hx hb dX12_layBegins_25 rfl (lv_at hl 1 rfl) ?_
    refine va_get (C := RX12) (T := TX12) (N := 43) (v := .ref (qq 33)) hx hb hts hi_X12_layBegins_X12 hown hK hP 3 rfl rfl 33 (by decide) (hts (.fieldLink RX12 72 "BothWaysModel" "beginMany" "[I") (by decide +kernel)) (fun _ h => h) rfl dX12_layBegins_26 ?_
    refine lv_iload_n hx hb dX12_layBegins_29 rfl (lv_at hl 2 rfl) ?_
    refine w_iald (v := 1) hx hb hK hP 2 rfl dX12_layBegins_30 (inC (by decide)) (by decide) ?_
    refine icmp_ge_f hx hb dX12_layBegins_31 181 (by decide) (by decide) ?_
    refine lv_iconst (v := 0) hx hb dX12_layBegins_34 (by decide) ?_
    refine lv_istore_n (lv' := [(3, .int 0), (2, .int 0), (0, .ref y), (1, .int 1)]) hx hb dX12_layBegins_35 rfl hl (by decide) rfl (fun ls hl => ?_)
    refine lv_iload_n hx hb dX12_layBegins_36 rfl (lv_at hl 0 rfl) ?_
    refine lv_iconst (v := 3) hx hb dX12_layBegins_37 (by decide) ?_
    refine icmp_ge_f hx hb dX12_layBegins_38 175 (by decide) (by decide) ?_
    refine lv_aload_n hx hb dX12_layBegins_41 rfl (lv_at hl 2 rfl) ?_
    refine lv_iload_n hx hb dX12_layBegins_42 rfl (lv_at hl 3 rfl) ?_
    refine lv_aload_n hx hb dX12_layBegins_43 rfl (lv_at hl 2 rfl) ?_
    refine va_get (C := RX12) (T := TX12) (N := 43) (v := .ref (qq 31)) hx hb hts hi_X12_layBegins_X12 hown hK hP 3 rfl rfl 31 (by decide) (hts (.fieldLink RX12 66 "BothWaysModel" "begin" "[J") (by decide +kernel)) (fun _ h => h) rfl dX12_layBegins_44 ?_
    refine lv_sipush (v := 801) hx hb dX12_layBegins_47 (by decide) ?_
    refine lv_iload_n hx hb dX12_layBegins_50 rfl (lv_at hl 3 rfl) ?_
    refine w_imul (v := 801) hx hb dX12_layBegins_51 (by decide) ?_
    refine lv_iload_n hx hb dX12_layBegins_52 rfl (lv_at hl 1 rfl) ?_
    refine w_iadd (v := 801) hx hb dX12_layBegins_53 (by decide) ?_
    refine w_lald (v := 170) hx hb hK hP 1 rfl dX12_layBegins_54 (inC (by decide)) (by decide) ?_
    refine lv_iload_n hx hb dX12_layBegins_55 rfl (lv_at hl 0 rfl) ?_
    refine cj_l 0 0 (wr := [((qq 32), .inl (cT 0, 4806, .inl (fun _ => 0))), ((qq 31), .inl (cT 1, 1602, .inr (.inl (vp_updL (vp_updL (fun _ => 0) 0 170) 801 170)))), ((qq 33), .inl (cT 0, 2, .inl (upd (upd (fun _ => 0) 0 1) 1 1)))]) (va_runV (As := [.int 1, .long 170, .int 0]) (rest := []) ⟨hx, hb, hml, hown, hts⟩ (c_M_longer_1_0 l g cT H.size y qq z6 z12 z14 z15 z16 z17 z19 z21 z22 z23 z24 z26 z30) (cwV 3 hts gX12_layBegins_X12_longer rfl rfl rfl yd_X12_longer ⟨(Nat.le_of_ble_eq_true rfl), (Nat.le_of_ble_eq_true rfl)⟩) (preV (wc := [(y, .inr (12, [.ref (qq 0), .ref (qq 1), .ref (qq 2), .ref (qq 3), .ref (qq 4), .ref (qq 5), .int z6, .ref (qq 7), .ref (qq 8), .ref (qq 9), .ref (qq 10), .ref (qq 11), .int z12, .ref (qq 13), .int z14, .int z15, .int z16, .int z17, .ref (qq 18), .int z19, .ref (qq 20), .int z21, .int z22, .int z23, .int z24, .ref (qq 25), .int z26, .ref (qq 27), .ref (qq 28), .ref (qq 29), .int z30, .ref (qq 31), .ref (qq 32), .ref (qq 33), .ref (qq 34), .ref (qq 35), .ref (qq 36), .ref (qq 37), .ref (qq 38), .ref (qq 39), .ref (qq 40), .ref (qq 41), .ref (qq 42)])), ((qq 0), .inl (cT 0, 2, .inl (fun _ => 1))), ((qq 2), .inl (cT 0, 50, .inl (fun _ => (-1))))]) rfl hP hD hK hN hZ hS hA [3, 4, 5] rfl (by decide) (ci := 12) (q0 := 3) rfl rfl) rfl rfl hl.1 rfl (lv_room (Nat.le_of_ble_eq_true rfl)) dX12_layBegins_56 ⟨(Nat.le_of_ble_eq_true rfl), (Nat.le_of_ble_eq_true rfl)⟩) hP hD hS hA [3, 4, 5] [0, 1, 2] rfl rfl (by decide) (by decide) (Nat.le_of_ble_eq_true rfl) (Nat.le_of_ble_eq_true rfl) (fun r_3 u H locs h_4 hP hD hS => ?_)
    have hP : va_P g vwCl [((qq 32), .inl (cT 0, 4806, .inl (fun _ => 0))), ((qq 31), .inl (cT 1, 1602, .inr (.inl (vp_updL (vp_updL (fun _ => 0) 0 170) 801 170)))), ((qq 33), .inl (cT 0, 2, .inl (upd (upd (fun _ => 0) 0 1) 1 1))), (y, .inr (12, [.ref (qq 0), .ref (qq 1), .ref (qq 2), .ref (qq 3), .ref (qq 4), .ref (qq 5), .int z6, .ref (qq 7), .ref (qq 8), .ref (qq 9), .ref (qq 10), .ref (qq 11), .int z12, .ref (qq 13), .int z14, .int z15, .int z16, .int z17, .ref (qq 18), .int z19, .ref (qq 20), .int z21, .int z22, .int z23, .int z24, .ref (qq 25), .int z26, .ref (qq 27), .ref (qq 28), .ref (qq 29), .int z30, .ref (qq 31), .ref (qq 32), .ref (qq 33), .ref (qq 34), .ref (qq 35), .ref (qq 36), .ref (qq 37), .ref (qq 38), .ref (qq 39), .ref (qq 40), .ref (qq 41), .ref (qq 42)])), ((qq 0), .inl (cT 0, 2, .inl (fun _ => 1))), ((qq 2), .inl (cT 0, 50, .inl (fun _ => (-1))))] H := hP
    have hD : va_D A [((qq 32), .inl (cT 0, 4806, .inl (fun _ => 0))), ((qq 31), .inl (cT 1, 1602, .inr (.inl (vp_updL (vp_updL (fun _ => 0) 0 170) 801 170)))), ((qq 33), .inl (cT 0, 2, .inl (upd (upd (fun _ => 0) 0 1) 1 1))), (y, .inr (12, [.ref (qq 0), .ref (qq 1), .ref (qq 2), .ref (qq 3), .ref (qq 4), .ref (qq 5), .int z6, .ref (qq 7), .ref (qq 8), .ref (qq 9), .ref (qq 10), .ref (qq 11), .int z12, .ref (qq 13), .int z14, .int z15, .int z16, .int z17, .ref (qq 18), .int z19, .ref (qq 20), .int z21, .int z22, .int z23, .int z24, .ref (qq 25), .int z26, .ref (qq 27), .ref (qq 28), .ref (qq 29), .int z30, .ref (qq 31), .ref (qq 32), .ref (qq 33), .ref (qq 34), .ref (qq 35), .ref (qq 36), .ref (qq 37), .ref (qq 38), .ref (qq 39), .ref (qq 40), .ref (qq 41), .ref (qq 42)])), ((qq 0), .inl (cT 0, 2, .inl (fun _ => 1))), ((qq 2), .inl (cT 0, 50, .inl (fun _ => (-1))))] := hD
    subst h_4
    refine lv_lstore (lv' := [(4, .long 170), (3, .int 0), (2, .int 0), (0, .ref y), (1, .int 1)]) hx hb dX12_layBegins_59 hl (by decide) rfl (fun ls hl => ?_)
    refine lv_aload_n hx hb dX12_layBegins_61 rfl (lv_at hl 3 rfl) ?_
    refine lv_iload_n hx hb dX12_layBegins_62 rfl (lv_at hl 4 rfl) ?_
    refine lv_lload hx hb dX12_layBegins_63 (lv_at hl 0 rfl) ?_
    refine cj_i 0 0 (wr := [((qq 32), .inl (cT 0, 4806, .inl (fun _ => 0))), ((qq 0), .inl (cT 0, 2, .inl (fun _ => 1))), ((qq 2), .inl (cT 0, 50, .inl (fun _ => (-1))))]) (va_runV (As := [.int 1, .long 170]) (rest := []) ⟨hx, hb, hml, hown, hts⟩ (c_M_beginOf_1b l g cT H.size y qq z6 z12 z14 z15 z16 z17 z19 z21 z22 z23 z24 z26 z30) (cwV 2 hts gX12_layBegins_X12_beginOf rfl rfl rfl yd_X12_beginOf ⟨(Nat.le_of_ble_eq_true rfl), (Nat.le_of_ble_eq_true rfl)⟩) (preV (wc := [(y, .inr (12, [.ref (qq 0), .ref (qq 1), .ref (qq 2), .ref (qq 3), .ref (qq 4), .ref (qq 5), .int z6, .ref (qq 7), .ref (qq 8), .ref (qq 9), .ref (qq 10), .ref (qq 11), .int z12, .ref (qq 13), .int z14, .int z15, .int z16, .int z17, .ref (qq 18), .int z19, .ref (qq 20), .int z21, .int z22, .int z23, .int z24, .ref (qq 25), .int z26, .ref (qq 27), .ref (qq 28), .ref (qq 29), .int z30, .ref (qq 31), .ref (qq 32), .ref (qq 33), .ref (qq 34), .ref (qq 35), .ref (qq 36), .ref (qq 37), .ref (qq 38), .ref (qq 39), .ref (qq 40), .ref (qq 41), .ref (qq 42)])), ((qq 31), .inl (cT 1, 1602, .inr (.inl (vp_updL (vp_updL (fun _ => 0) 0 170) 801 170)))), ((qq 33), .inl (cT 0, 2, .inl (upd (upd (fun _ => 0) 0 1) 1 1)))]) rfl hP hD hK hN hZ hS hA [3, 1, 2] rfl (by decide) (ci := 12) (q0 := 3) rfl rfl) rfl rfl hl.1 rfl (lv_room (Nat.le_of_ble_eq_true rfl)) dX12_layBegins_65 ⟨(Nat.le_of_ble_eq_true rfl), (Nat.le_of_ble_eq_true rfl)⟩) hP hD hS hA [3, 1, 2] [0, 4, 5] rfl rfl (by decide) (by decide) (Nat.le_of_ble_eq_true rfl) (Nat.le_of_ble_eq_true rfl) (fun r_5 u H locs h_6 hP hD hS => ?_)
    have hP : va_P g vwCl [((qq 32), .inl (cT 0, 4806, .inl (fun _ => 0))), ((qq 0), .inl (cT 0, 2, .inl (fun _ => 1))), ((qq 2), .inl (cT 0, 50, .inl (fun _ => (-1)))), (y, .inr (12, [.ref (qq 0), .ref (qq 1), .ref (qq 2), .ref (qq 3), .ref (qq 4), .ref (qq 5), .int z6, .ref (qq 7), .ref (qq 8), .ref (qq 9), .ref (qq 10), .ref (qq 11), .int z12, .ref (qq 13), .int z14, .int z15, .int z16, .int z17, .ref (qq 18), .int z19, .ref (qq 20), .int z21, .int z22, .int z23, .int z24, .ref (qq 25), .int z26, .ref (qq 27), .ref (qq 28), .ref (qq 29), .int z30, .ref (qq 31), .ref (qq 32), .ref (qq 33), .ref (qq 34), .ref (qq 35), .ref (qq 36), .ref (qq 37), .ref (qq 38), .ref (qq 39), .ref (qq 40), .ref (qq 41), .ref (qq 42)])), ((qq 31), .inl (cT 1, 1602, .inr (.inl (vp_updL (vp_updL (fun _ => 0) 0 170) 801 170)))), ((qq 33), .inl (cT 0, 2, .inl (upd (upd (fun _ => 0) 0 1) 1 1)))] H := hP
    have hD : va_D A [((qq 32), .inl (cT 0, 4806, .inl (fun _ => 0))), ((qq 0), .inl (cT 0, 2, .inl (fun _ => 1))), ((qq 2), .inl (cT 0, 50, .inl (fun _ => (-1)))), (y, .inr (12, [.ref (qq 0), .ref (qq 1), .ref (qq 2), .ref (qq 3), .ref (qq 4), .ref (qq 5), .int z6, .ref (qq 7), .ref (qq 8), .ref (qq 9), .ref (qq 10), .ref (qq 11), .int z12, .ref (qq 13), .int z14, .int z15, .int z16, .int z17, .ref (qq 18), .int z19, .ref (qq 20), .int z21, .int z22, .int z23, .int z24, .ref (qq 25), .int z26, .ref (qq 27), .ref (qq 28), .ref (qq 29), .int z30, .ref (qq 31), .ref (qq 32), .ref (qq 33), .ref (qq 34), .ref (qq 35), .ref (qq 36), .ref (qq 37), .ref (qq 38), .ref (qq 39), .ref (qq 40), .ref (qq 41), .ref (qq 42)])), ((qq 31), .inl (cT 1, 1602, .inr (.inl (vp_updL (vp_updL (fun _ => 0) 0 170) 801 170)))), ((qq 33), .inl (cT 0, 2, .inl (upd (upd (fun _ => 0) 0 1) 1 1)))] := hD
    subst h_6
    refine lv_istore (lv' := [(6, .int 0), (4, .long 170), (3, .int 0), (2, .int 0), (0, .ref y), (1, .int 1)]) hx hb dX12_layBegins_68 hl (by decide) rfl (fun ls hl => ?_)
    refine lv_iload hx hb dX12_layBegins_70 (lv_at hl 0 rfl) ?_
    refine lv_iconst (v := (-1)) hx hb dX12_layBegins_72 (by decide) ?_
    refine icmp_ne_t hx hb 151 dX12_layBegins_73 (by decide) (by decide) ?_
    refine lv_aload_n hx hb dX12_layBegins_151 rfl (lv_at hl 4 rfl) ?_
    refine va_get (C := RX12) (T := TX12) (N := 43) (v := .ref (qq 32)) hx hb hts hi_X12_layBegins_X12 hown hK hP 3 rfl rfl 32 (by decide) (hts (.fieldLink RX12 69 "BothWaysModel" "lead" "[I") (by decide +kernel)) (fun _ h => h) rfl dX12_layBegins_152 ?_
    refine lv_sipush (v := 2403) hx hb dX12_layBegins_155 (by decide) ?_
    refine lv_iload_n hx hb dX12_layBegins_158 rfl (lv_at hl 5 rfl) ?_
    refine w_imul (v := 2403) hx hb dX12_layBegins_159 (by decide) ?_
    refine lv_iconst (v := 3) hx hb dX12_layBegins_160 (by decide) ?_
    refine lv_iload_n hx hb dX12_layBegins_161 rfl (lv_at hl 3 rfl) ?_
    refine w_imul (v := 0) hx hb dX12_layBegins_162 (by decide) ?_
    refine w_iadd (v := 2403) hx hb dX12_layBegins_163 (by decide) ?_
    refine lv_iload_n hx hb dX12_layBegins_164 rfl (lv_at hl 2 rfl) ?_
    refine w_iadd (v := 2403) hx hb dX12_layBegins_165 (by decide) ?_
    refine lv_iload hx hb dX12_layBegins_166 (lv_at hl 0 rfl) ?_
    refine w_iast (f' := (fun _ => 0)) hx hb hK hP hD hS 0 rfl dX12_layBegins_168 (inC (by decide)) (upd_c _ _) (fun H locs hP hD hS => ?_)
    have hP : va_P g vwCl [((qq 32), .inl (cT 0, 4806, .inl (fun _ => 0))), ((qq 0), .inl (cT 0, 2, .inl (fun _ => 1))), ((qq 2), .inl (cT 0, 50, .inl (fun _ => (-1)))), (y, .inr (12, [.ref (qq 0), .ref (qq 1), .ref (qq 2), .ref (qq 3), .ref (qq 4), .ref (qq 5), .int z6, .ref (qq 7), .ref (qq 8), .ref (qq 9), .ref (qq 10), .ref (qq 11), .int z12, .ref (qq 13), .int z14, .int z15, .int z16, .int z17, .ref (qq 18), .int z19, .ref (qq 20), .int z21, .int z22, .int z23, .int z24, .ref (qq 25), .int z26, .ref (qq 27), .ref (qq 28), .ref (qq 29), .int z30, .ref (qq 31), .ref (qq 32), .ref (qq 33), .ref (qq 34), .ref (qq 35), .ref (qq 36), .ref (qq 37), .ref (qq 38), .ref (qq 39), .ref (qq 40), .ref (qq 41), .ref (qq 42)])), ((qq 31), .inl (cT 1, 1602, .inr (.inl (vp_updL (vp_updL (fun _ => 0) 0 170) 801 170)))), ((qq 33), .inl (cT 0, 2, .inl (upd (upd (fun _ => 0) 0 1) 1 1)))] H := hP
    have hD : va_D A [((qq 32), .inl (cT 0, 4806, .inl (fun _ => 0))), ((qq 0), .inl (cT 0, 2, .inl (fun _ => 1))), ((qq 2), .inl (cT 0, 50, .inl (fun _ => (-1)))), (y, .inr (12, [.ref (qq 0), .ref (qq 1), .ref (qq 2), .ref (qq 3), .ref (qq 4), .ref (qq 5), .int z6, .ref (qq 7), .ref (qq 8), .ref (qq 9), .ref (qq 10), .ref (qq 11), .int z12, .ref (qq 13), .int z14, .int z15, .int z16, .int z17, .ref (qq 18), .int z19, .ref (qq 20), .int z21, .int z22, .int z23, .int z24, .ref (qq 25), .int z26, .ref (qq 27), .ref (qq 28), .ref (qq 29), .int z30, .ref (qq 31), .ref (qq 32), .ref (qq 33), .ref (qq 34), .ref (qq 35), .ref (qq 36), .ref (qq 37), .ref (qq 38), .ref (qq 39), .ref (qq 40), .ref (qq 41), .ref (qq 42)])), ((qq 31), .inl (cT 1, 1602, .inr (.inl (vp_updL (vp_updL (fun _ => 0) 0 170) 801 170)))), ((qq 33), .inl (cT 0, 2, .inl (upd (upd (fun _ => 0) 0 1) 1 1)))] := hD
    refine lv_iinc (v := 1) (lv' := [(3, .int 1), (6, .int 0), (4, .long 170), (2, .int 0), (0, .ref y), (1, .int 1)]) hx hb dX12_layBegins_169 hl (k := 2) rfl (by decide) (by decide) rfl (fun ls hl => ?_)
    refine lv_goto (tgt := 36) hx hb dX12_layBegins_172 (by decide) ?_
    refine lv_iload_n hx hb dX12_layBegins_36 rfl (lv_at hl 0 rfl) ?_
    refine lv_iconst (v := 3) hx hb dX12_layBegins_37 (by decide) ?_
    refine icmp_ge_f hx hb dX12_layBegins_38 175 (by decide) (by decide) ?_
    refine lv_aload_n hx hb dX12_layBegins_41 rfl (lv_at hl 4 rfl) ?_
    refine lv_iload_n hx hb dX12_layBegins_42 rfl (lv_at hl 5 rfl) ?_
    refine lv_aload_n hx hb dX12_layBegins_43 rfl (lv_at hl 4 rfl) ?_
    refine va_get (C := RX12) (T := TX12) (N := 43) (v := .ref (qq 31)) hx hb hts hi_X12_layBegins_X12 hown hK hP 3 rfl rfl 31 (by decide) (hts (.fieldLink RX12 66 "BothWaysModel" "begin" "[J") (by decide +kernel)) (fun _ h => h) rfl dX12_layBegins_44 ?_
    refine lv_sipush (v := 801) hx hb dX12_layBegins_47 (by decide) ?_
    refine lv_iload_n hx hb dX12_layBegins_50 rfl (lv_at hl 5 rfl) ?_
    refine w_imul (v := 801) hx hb dX12_layBegins_51 (by decide) ?_
    refine lv_iload_n hx hb dX12_layBegins_52 rfl (lv_at hl 3 rfl) ?_
    refine w_iadd (v := 801) hx hb dX12_layBegins_53 (by decide) ?_
    refine w_lald (v := 170) hx hb hK hP 4 rfl dX12_layBegins_54 (inC (by decide)) (by decide) ?_
    refine lv_iload_n hx hb dX12_layBegins_55 rfl (lv_at hl 0 rfl) ?_
    refine cj_l 0 0 (wr := [((qq 32), .inl (cT 0, 4806, .inl (fun _ => 0))), ((qq 31), .inl (cT 1, 1602, .inr (.inl (vp_updL (vp_updL (fun _ => 0) 0 170) 801 170)))), ((qq 33), .inl (cT 0, 2, .inl (upd (upd (fun _ => 0) 0 1) 1 1)))]) (va_runV (As := [.int 1, .long 170, .int 1]) (rest := []) ⟨hx, hb, hml, hown, hts⟩ (c_M_longer_1_1 l g cT H.size y qq z6 z12 z14 z15 z16 z17 z19 z21 z22 z23 z24 z26 z30) (cwV 3 hts gX12_layBegins_X12_longer rfl rfl rfl yd_X12_longer ⟨(Nat.le_of_ble_eq_true rfl), (Nat.le_of_ble_eq_true rfl)⟩) (preV (wc := [(y, .inr (12, [.ref (qq 0), .ref (qq 1), .ref (qq 2), .ref (qq 3), .ref (qq 4), .ref (qq 5), .int z6, .ref (qq 7), .ref (qq 8), .ref (qq 9), .ref (qq 10), .ref (qq 11), .int z12, .ref (qq 13), .int z14, .int z15, .int z16, .int z17, .ref (qq 18), .int z19, .ref (qq 20), .int z21, .int z22, .int z23, .int z24, .ref (qq 25), .int z26, .ref (qq 27), .ref (qq 28), .ref (qq 29), .int z30, .ref (qq 31), .ref (qq 32), .ref (qq 33), .ref (qq 34), .ref (qq 35), .ref (qq 36), .ref (qq 37), .ref (qq 38), .ref (qq 39), .ref (qq 40), .ref (qq 41), .ref (qq 42)])), ((qq 0), .inl (cT 0, 2, .inl (fun _ => 1))), ((qq 2), .inl (cT 0, 50, .inl (fun _ => (-1))))]) rfl hP hD hK hN hZ hS hA [3, 1, 2] rfl (by decide) (ci := 12) (q0 := 3) rfl rfl) rfl rfl hl.1 rfl (lv_room (Nat.le_of_ble_eq_true rfl)) dX12_layBegins_56 ⟨(Nat.le_of_ble_eq_true rfl), (Nat.le_of_ble_eq_true rfl)⟩) hP hD hS hA [3, 1, 2] [0, 4, 5] rfl rfl (by decide) (by decide) (Nat.le_of_ble_eq_true rfl) (Nat.le_of_ble_eq_true rfl) (fun r_7 u H locs h_8 hP hD hS => ?_)
    have hP : va_P g vwCl [((qq 32), .inl (cT 0, 4806, .inl (fun _ => 0))), ((qq 31), .inl (cT 1, 1602, .inr (.inl (vp_updL (vp_updL (fun _ => 0) 0 170) 801 170)))), ((qq 33), .inl (cT 0, 2, .inl (upd (upd (fun _ => 0) 0 1) 1 1))), (y, .inr (12, [.ref (qq 0), .ref (qq 1), .ref (qq 2), .ref (qq 3), .ref (qq 4), .ref (qq 5), .int z6, .ref (qq 7), .ref (qq 8), .ref (qq 9), .ref (qq 10), .ref (qq 11), .int z12, .ref (qq 13), .int z14, .int z15, .int z16, .int z17, .ref (qq 18), .int z19, .ref (qq 20), .int z21, .int z22, .int z23, .int z24, .ref (qq 25), .int z26, .ref (qq 27), .ref (qq 28), .ref (qq 29), .int z30, .ref (qq 31), .ref (qq 32), .ref (qq 33), .ref (qq 34), .ref (qq 35), .ref (qq 36), .ref (qq 37), .ref (qq 38), .ref (qq 39), .ref (qq 40), .ref (qq 41), .ref (qq 42)])), ((qq 0), .inl (cT 0, 2, .inl (fun _ => 1))), ((qq 2), .inl (cT 0, 50, .inl (fun _ => (-1))))] H := hP
    have hD : va_D A [((qq 32), .inl (cT 0, 4806, .inl (fun _ => 0))), ((qq 31), .inl (cT 1, 1602, .inr (.inl (vp_updL (vp_updL (fun _ => 0) 0 170) 801 170)))), ((qq 33), .inl (cT 0, 2, .inl (upd (upd (fun _ => 0) 0 1) 1 1))), (y, .inr (12, [.ref (qq 0), .ref (qq 1), .ref (qq 2), .ref (qq 3), .ref (qq 4), .ref (qq 5), .int z6, .ref (qq 7), .ref (qq 8), .ref (qq 9), .ref (qq 10), .ref (qq 11), .int z12, .ref (qq 13), .int z14, .int z15, .int z16, .int z17, .ref (qq 18), .int z19, .ref (qq 20), .int z21, .int z22, .int z23, .int z24, .ref (qq 25), .int z26, .ref (qq 27), .ref (qq 28), .ref (qq 29), .int z30, .ref (qq 31), .ref (qq 32), .ref (qq 33), .ref (qq 34), .ref (qq 35), .ref (qq 36), .ref (qq 37), .ref (qq 38), .ref (qq 39), .ref (qq 40), .ref (qq 41), .ref (qq 42)])), ((qq 0), .inl (cT 0, 2, .inl (fun _ => 1))), ((qq 2), .inl (cT 0, 50, .inl (fun _ => (-1))))] := hD
    subst h_8
    refine lv_lstore (lv' := [(4, .long 170), (3, .int 1), (6, .int 0), (2, .int 0), (0, .ref y), (1, .int 1)]) hx hb dX12_layBegins_59 hl (by decide) rfl (fun ls hl => ?_)
    refine lv_aload_n hx hb dX12_layBegins_61 rfl (lv_at hl 4 rfl) ?_
    refine lv_iload_n hx hb dX12_layBegins_62 rfl (lv_at hl 5 rfl) ?_
    refine lv_lload hx hb dX12_layBegins_63 (lv_at hl 0 rfl) ?_
    refine cj_i 0 0 (wr := [((qq 32), .inl (cT 0, 4806, .inl (fun _ => 0))), ((qq 0), .inl (cT 0, 2, .inl (fun _ => 1))), ((qq 2), .inl (cT 0, 50, .inl (fun _ => (-1))))]) (va_runV (As := [.int 1, .long 170]) (rest := []) ⟨hx, hb, hml, hown, hts⟩ (c_M_beginOf_1b l g cT H.size y qq z6 z12 z14 z15 z16 z17 z19 z21 z22 z23 z24 z26 z30) (cwV 2 hts gX12_layBegins_X12_beginOf rfl rfl rfl yd_X12_beginOf ⟨(Nat.le_of_ble_eq_true rfl), (Nat.le_of_ble_eq_true rfl)⟩) (preV (wc := [(y, .inr (12, [.ref (qq 0), .ref (qq 1), .ref (qq 2), .ref (qq 3), .ref (qq 4), .ref (qq 5), .int z6, .ref (qq 7), .ref (qq 8), .ref (qq 9), .ref (qq 10), .ref (qq 11), .int z12, .ref (qq 13), .int z14, .int z15, .int z16, .int z17, .ref (qq 18), .int z19, .ref (qq 20), .int z21, .int z22, .int z23, .int z24, .ref (qq 25), .int z26, .ref (qq 27), .ref (qq 28), .ref (qq 29), .int z30, .ref (qq 31), .ref (qq 32), .ref (qq 33), .ref (qq 34), .ref (qq 35), .ref (qq 36), .ref (qq 37), .ref (qq 38), .ref (qq 39), .ref (qq 40), .ref (qq 41), .ref (qq 42)])), ((qq 31), .inl (cT 1, 1602, .inr (.inl (vp_updL (vp_updL (fun _ => 0) 0 170) 801 170)))), ((qq 33), .inl (cT 0, 2, .inl (upd (upd (fun _ => 0) 0 1) 1 1)))]) rfl hP hD hK hN hZ hS hA [3, 1, 2] rfl (by decide) (ci := 12) (q0 := 3) rfl rfl) rfl rfl hl.1 rfl (lv_room (Nat.le_of_ble_eq_true rfl)) dX12_layBegins_65 ⟨(Nat.le_of_ble_eq_true rfl), (Nat.le_of_ble_eq_true rfl)⟩) hP hD hS hA [3, 1, 2] [0, 4, 5] rfl rfl (by decide) (by decide) (Nat.le_of_ble_eq_true rfl) (Nat.le_of_ble_eq_true rfl) (fun r_9 u H locs h_10 hP hD hS => ?_)
    have hP : va_P g vwCl [((qq 32), .inl (cT 0, 4806, .inl (fun _ => 0))), ((qq 0), .inl (cT 0, 2, .inl (fun _ => 1))), ((qq 2), .inl (cT 0, 50, .inl (fun _ => (-1)))), (y, .inr (12, [.ref (qq 0), .ref (qq 1), .ref (qq 2), .ref (qq 3), .ref (qq 4), .ref (qq 5), .int z6, .ref (qq 7), .ref (qq 8), .ref (qq 9), .ref (qq 10), .ref (qq 11), .int z12, .ref (qq 13), .int z14, .int z15, .int z16, .int z17, .ref (qq 18), .int z19, .ref (qq 20), .int z21, .int z22, .int z23, .int z24, .ref (qq 25), .int z26, .ref (qq 27), .ref (qq 28), .ref (qq 29), .int z30, .ref (qq 31), .ref (qq 32), .ref (qq 33), .ref (qq 34), .ref (qq 35), .ref (qq 36), .ref (qq 37), .ref (qq 38), .ref (qq 39), .ref (qq 40), .ref (qq 41), .ref (qq 42)])), ((qq 31), .inl (cT 1, 1602, .inr (.inl (vp_updL (vp_updL (fun _ => 0) 0 170) 801 170)))), ((qq 33), .inl (cT 0, 2, .inl (upd (upd (fun _ => 0) 0 1) 1 1)))] H := hP
    have hD : va_D A [((qq 32), .inl (cT 0, 4806, .inl (fun _ => 0))), ((qq 0), .inl (cT 0, 2, .inl (fun _ => 1))), ((qq 2), .inl (cT 0, 50, .inl (fun _ => (-1)))), (y, .inr (12, [.ref (qq 0), .ref (qq 1), .ref (qq 2), .ref (qq 3), .ref (qq 4), .ref (qq 5), .int z6, .ref (qq 7), .ref (qq 8), .ref (qq 9), .ref (qq 10), .ref (qq 11), .int z12, .ref (qq 13), .int z14, .int z15, .int z16, .int z17, .ref (qq 18), .int z19, .ref (qq 20), .int z21, .int z22, .int z23, .int z24, .ref (qq 25), .int z26, .ref (qq 27), .ref (qq 28), .ref (qq 29), .int z30, .ref (qq 31), .ref (qq 32), .ref (qq 33), .ref (qq 34), .ref (qq 35), .ref (qq 36), .ref (qq 37), .ref (qq 38), .ref (qq 39), .ref (qq 40), .ref (qq 41), .ref (qq 42)])), ((qq 31), .inl (cT 1, 1602, .inr (.inl (vp_updL (vp_updL (fun _ => 0) 0 170) 801 170)))), ((qq 33), .inl (cT 0, 2, .inl (upd (upd (fun _ => 0) 0 1) 1 1)))] := hD
    subst h_10
    refine lv_istore (lv' := [(6, .int 0), (4, .long 170), (3, .int 1), (2, .int 0), (0, .ref y), (1, .int 1)]) hx hb dX12_layBegins_68 hl (by decide) rfl (fun ls hl => ?_)
    refine lv_iload hx hb dX12_layBegins_70 (lv_at hl 0 rfl) ?_
    refine lv_iconst (v := (-1)) hx hb dX12_layBegins_72 (by decide) ?_
    refine icmp_ne_t hx hb 151 dX12_layBegins_73 (by decide) (by decide) ?_
    refine lv_aload_n hx hb dX12_layBegins_151 rfl (lv_at hl 4 rfl) ?_
    refine va_get (C := RX12) (T := TX12) (N := 43) (v := .ref (qq 32)) hx hb hts hi_X12_layBegins_X12 hown hK hP 3 rfl rfl 32 (by decide) (hts (.fieldLink RX12 69 "BothWaysModel" "lead" "[I") (by decide +kernel)) (fun _ h => h) rfl dX12_layBegins_152 ?_
    refine lv_sipush (v := 2403) hx hb dX12_layBegins_155 (by decide) ?_
    refine lv_iload_n hx hb dX12_layBegins_158 rfl (lv_at hl 5 rfl) ?_
    refine w_imul (v := 2403) hx hb dX12_layBegins_159 (by decide) ?_
    refine lv_iconst (v := 3) hx hb dX12_layBegins_160 (by decide) ?_
    refine lv_iload_n hx hb dX12_layBegins_161 rfl (lv_at hl 3 rfl) ?_
    refine w_imul (v := 0) hx hb dX12_layBegins_162 (by decide) ?_
    refine w_iadd (v := 2403) hx hb dX12_layBegins_163 (by decide) ?_
    refine lv_iload_n hx hb dX12_layBegins_164 rfl (lv_at hl 2 rfl) ?_
    refine w_iadd (v := 2404) hx hb dX12_layBegins_165 (by decide) ?_
    refine lv_iload hx hb dX12_layBegins_166 (lv_at hl 0 rfl) ?_
    refine w_iast (f' := (fun _ => 0)) hx hb hK hP hD hS 0 rfl dX12_layBegins_168 (inC (by decide)) (upd_c _ _) (fun H locs hP hD hS => ?_)
    have hP : va_P g vwCl [((qq 32), .inl (cT 0, 4806, .inl (fun _ => 0))), ((qq 0), .inl (cT 0, 2, .inl (fun _ => 1))), ((qq 2), .inl (cT 0, 50, .inl (fun _ => (-1)))), (y, .inr (12, [.ref (qq 0), .ref (qq 1), .ref (qq 2), .ref (qq 3), .ref (qq 4), .ref (qq 5), .int z6, .ref (qq 7), .ref (qq 8), .ref (qq 9), .ref (qq 10), .ref (qq 11), .int z12, .ref (qq 13), .int z14, .int z15, .int z16, .int z17, .ref (qq 18), .int z19, .ref (qq 20), .int z21, .int z22, .int z23, .int z24, .ref (qq 25), .int z26, .ref (qq 27), .ref (qq 28), .ref (qq 29), .int z30, .ref (qq 31), .ref (qq 32), .ref (qq 33), .ref (qq 34), .ref (qq 35), .ref (qq 36), .ref (qq 37), .ref (qq 38), .ref (qq 39), .ref (qq 40), .ref (qq 41), .ref (qq 42)])), ((qq 31), .inl (cT 1, 1602, .inr (.inl (vp_updL (vp_updL (fun _ => 0) 0 170) 801 170)))), ((qq 33), .inl (cT 0, 2, .inl (upd (upd (fun _ => 0) 0 1) 1 1)))] H := hP
    have hD : va_D A [((qq 32), .inl (cT 0, 4806, .inl (fun _ => 0))), ((qq 0), .inl (cT 0, 2, .inl (fun _ => 1))), ((qq 2), .inl (cT 0, 50, .inl (fun _ => (-1)))), (y, .inr (12, [.ref (qq 0), .ref (qq 1), .ref (qq 2), .ref (qq 3), .ref (qq 4), .ref (qq 5), .int z6, .ref (qq 7), .ref (qq 8), .ref (qq 9), .ref (qq 10), .ref (qq 11), .int z12, .ref (qq 13), .int z14, .int z15, .int z16, .int z17, .ref (qq 18), .int z19, .ref (qq 20), .int z21, .int z22, .int z23, .int z24, .ref (qq 25), .int z26, .ref (qq 27), .ref (qq 28), .ref (qq 29), .int z30, .ref (qq 31), .ref (qq 32), .ref (qq 33), .ref (qq 34), .ref (qq 35), .ref (qq 36), .ref (qq 37), .ref (qq 38), .ref (qq 39), .ref (qq 40), .ref (qq 41), .ref (qq 42)])), ((qq 31), .inl (cT 1, 1602, .inr (.inl (vp_updL (vp_updL (fun _ => 0) 0 170) 801 170)))), ((qq 33), .inl (cT 0, 2, .inl (upd (upd (fun _ => 0) 0 1) 1 1)))] := hD
    refine lv_iinc (v := 2) (lv' := [(3, .int 2), (6, .int 0), (4, .long 170), (2, .int 0), (0, .ref y), (1, .int 1)]) hx hb dX12_layBegins_169 hl (k := 2) rfl (by decide) (by decide) rfl (fun ls hl => ?_)
    refine lv_goto (tgt := 36) hx hb dX12_layBegins_172 (by decide) ?_
    refine lv_iload_n hx hb dX12_layBegins_36 rfl (lv_at hl 0 rfl) ?_
    refine lv_iconst (v := 3) hx hb dX12_layBegins_37 (by decide) ?_
    refine icmp_ge_f hx hb dX12_layBegins_38 175 (by decide) (by decide) ?_
    refine lv_aload_n hx hb dX12_layBegins_41 rfl (lv_at hl 4 rfl) ?_
    refine lv_iload_n hx hb dX12_layBegins_42 rfl (lv_at hl 5 rfl) ?_
    refine lv_aload_n hx hb dX12_layBegins_43 rfl (lv_at hl 4 rfl) ?_
    refine va_get (C := RX12) (T := TX12) (N := 43) (v := .ref (qq 31)) hx hb hts hi_X12_layBegins_X12 hown hK hP 3 rfl rfl 31 (by decide) (hts (.fieldLink RX12 66 "BothWaysModel" "begin" "[J") (by decide +kernel)) (fun _ h => h) rfl dX12_layBegins_44 ?_
    refine lv_sipush (v := 801) hx hb dX12_layBegins_47 (by decide) ?_
    refine lv_iload_n hx hb dX12_layBegins_50 rfl (lv_at hl 5 rfl) ?_
    refine w_imul (v := 801) hx hb dX12_layBegins_51 (by decide) ?_
    refine lv_iload_n hx hb dX12_layBegins_52 rfl (lv_at hl 3 rfl) ?_
    refine w_iadd (v := 801) hx hb dX12_layBegins_53 (by decide) ?_
    refine w_lald (v := 170) hx hb hK hP 4 rfl dX12_layBegins_54 (inC (by decide)) (by decide) ?_
    refine lv_iload_n hx hb dX12_layBegins_55 rfl (lv_at hl 0 rfl) ?_
    refine cj_l 0 0 (wr := [((qq 32), .inl (cT 0, 4806, .inl (fun _ => 0))), ((qq 31), .inl (cT 1, 1602, .inr (.inl (vp_updL (vp_updL (fun _ => 0) 0 170) 801 170)))), ((qq 33), .inl (cT 0, 2, .inl (upd (upd (fun _ => 0) 0 1) 1 1)))]) (va_runV (As := [.int 1, .long 170, .int 2]) (rest := []) ⟨hx, hb, hml, hown, hts⟩ (c_M_longer_1_2 l g cT H.size y qq z6 z12 z14 z15 z16 z17 z19 z21 z22 z23 z24 z26 z30) (cwV 3 hts gX12_layBegins_X12_longer rfl rfl rfl yd_X12_longer ⟨(Nat.le_of_ble_eq_true rfl), (Nat.le_of_ble_eq_true rfl)⟩) (preV (wc := [(y, .inr (12, [.ref (qq 0), .ref (qq 1), .ref (qq 2), .ref (qq 3), .ref (qq 4), .ref (qq 5), .int z6, .ref (qq 7), .ref (qq 8), .ref (qq 9), .ref (qq 10), .ref (qq 11), .int z12, .ref (qq 13), .int z14, .int z15, .int z16, .int z17, .ref (qq 18), .int z19, .ref (qq 20), .int z21, .int z22, .int z23, .int z24, .ref (qq 25), .int z26, .ref (qq 27), .ref (qq 28), .ref (qq 29), .int z30, .ref (qq 31), .ref (qq 32), .ref (qq 33), .ref (qq 34), .ref (qq 35), .ref (qq 36), .ref (qq 37), .ref (qq 38), .ref (qq 39), .ref (qq 40), .ref (qq 41), .ref (qq 42)])), ((qq 0), .inl (cT 0, 2, .inl (fun _ => 1))), ((qq 2), .inl (cT 0, 50, .inl (fun _ => (-1))))]) rfl hP hD hK hN hZ hS hA [3, 1, 2] rfl (by decide) (ci := 12) (q0 := 3) rfl rfl) rfl rfl hl.1 rfl (lv_room (Nat.le_of_ble_eq_true rfl)) dX12_layBegins_56 ⟨(Nat.le_of_ble_eq_true rfl), (Nat.le_of_ble_eq_true rfl)⟩) hP hD hS hA [3, 1, 2] [0, 4, 5] rfl rfl (by decide) (by decide) (Nat.le_of_ble_eq_true rfl) (Nat.le_of_ble_eq_true rfl) (fun r_11 u H locs h_12 hP hD hS => ?_)
    have hP : va_P g vwCl [((qq 32), .inl (cT 0, 4806, .inl (fun _ => 0))), ((qq 31), .inl (cT 1, 1602, .inr (.inl (vp_updL (vp_updL (fun _ => 0) 0 170) 801 170)))), ((qq 33), .inl (cT 0, 2, .inl (upd (upd (fun _ => 0) 0 1) 1 1))), (y, .inr (12, [.ref (qq 0), .ref (qq 1), .ref (qq 2), .ref (qq 3), .ref (qq 4), .ref (qq 5), .int z6, .ref (qq 7), .ref (qq 8), .ref (qq 9), .ref (qq 10), .ref (qq 11), .int z12, .ref (qq 13), .int z14, .int z15, .int z16, .int z17, .ref (qq 18), .int z19, .ref (qq 20), .int z21, .int z22, .int z23, .int z24, .ref (qq 25), .int z26, .ref (qq 27), .ref (qq 28), .ref (qq 29), .int z30, .ref (qq 31), .ref (qq 32), .ref (qq 33), .ref (qq 34), .ref (qq 35), .ref (qq 36), .ref (qq 37), .ref (qq 38), .ref (qq 39), .ref (qq 40), .ref (qq 41), .ref (qq 42)])), ((qq 0), .inl (cT 0, 2, .inl (fun _ => 1))), ((qq 2), .inl (cT 0, 50, .inl (fun _ => (-1))))] H := hP
    have hD : va_D A [((qq 32), .inl (cT 0, 4806, .inl (fun _ => 0))), ((qq 31), .inl (cT 1, 1602, .inr (.inl (vp_updL (vp_updL (fun _ => 0) 0 170) 801 170)))), ((qq 33), .inl (cT 0, 2, .inl (upd (upd (fun _ => 0) 0 1) 1 1))), (y, .inr (12, [.ref (qq 0), .ref (qq 1), .ref (qq 2), .ref (qq 3), .ref (qq 4), .ref (qq 5), .int z6, .ref (qq 7), .ref (qq 8), .ref (qq 9), .ref (qq 10), .ref (qq 11), .int z12, .ref (qq 13), .int z14, .int z15, .int z16, .int z17, .ref (qq 18), .int z19, .ref (qq 20), .int z21, .int z22, .int z23, .int z24, .ref (qq 25), .int z26, .ref (qq 27), .ref (qq 28), .ref (qq 29), .int z30, .ref (qq 31), .ref (qq 32), .ref (qq 33), .ref (qq 34), .ref (qq 35), .ref (qq 36), .ref (qq 37), .ref (qq 38), .ref (qq 39), .ref (qq 40), .ref (qq 41), .ref (qq 42)])), ((qq 0), .inl (cT 0, 2, .inl (fun _ => 1))), ((qq 2), .inl (cT 0, 50, .inl (fun _ => (-1))))] := hD
    subst h_12
    refine lv_lstore (lv' := [(4, .long 170), (3, .int 2), (6, .int 0), (2, .int 0), (0, .ref y), (1, .int 1)]) hx hb dX12_layBegins_59 hl (by decide) rfl (fun ls hl => ?_)
    refine lv_aload_n hx hb dX12_layBegins_61 rfl (lv_at hl 4 rfl) ?_
    refine lv_iload_n hx hb dX12_layBegins_62 rfl (lv_at hl 5 rfl) ?_
    refine lv_lload hx hb dX12_layBegins_63 (lv_at hl 0 rfl) ?_
    refine cj_i 0 0 (wr := [((qq 32), .inl (cT 0, 4806, .inl (fun _ => 0))), ((qq 0), .inl (cT 0, 2, .inl (fun _ => 1))), ((qq 2), .inl (cT 0, 50, .inl (fun _ => (-1))))]) (va_runV (As := [.int 1, .long 170]) (rest := []) ⟨hx, hb, hml, hown, hts⟩ (c_M_beginOf_1b l g cT H.size y qq z6 z12 z14 z15 z16 z17 z19 z21 z22 z23 z24 z26 z30) (cwV 2 hts gX12_layBegins_X12_beginOf rfl rfl rfl yd_X12_beginOf ⟨(Nat.le_of_ble_eq_true rfl), (Nat.le_of_ble_eq_true rfl)⟩) (preV (wc := [(y, .inr (12, [.ref (qq 0), .ref (qq 1), .ref (qq 2), .ref (qq 3), .ref (qq 4), .ref (qq 5), .int z6, .ref (qq 7), .ref (qq 8), .ref (qq 9), .ref (qq 10), .ref (qq 11), .int z12, .ref (qq 13), .int z14, .int z15, .int z16, .int z17, .ref (qq 18), .int z19, .ref (qq 20), .int z21, .int z22, .int z23, .int z24, .ref (qq 25), .int z26, .ref (qq 27), .ref (qq 28), .ref (qq 29), .int z30, .ref (qq 31), .ref (qq 32), .ref (qq 33), .ref (qq 34), .ref (qq 35), .ref (qq 36), .ref (qq 37), .ref (qq 38), .ref (qq 39), .ref (qq 40), .ref (qq 41), .ref (qq 42)])), ((qq 31), .inl (cT 1, 1602, .inr (.inl (vp_updL (vp_updL (fun _ => 0) 0 170) 801 170)))), ((qq 33), .inl (cT 0, 2, .inl (upd (upd (fun _ => 0) 0 1) 1 1)))]) rfl hP hD hK hN hZ hS hA [3, 1, 2] rfl (by decide) (ci := 12) (q0 := 3) rfl rfl) rfl rfl hl.1 rfl (lv_room (Nat.le_of_ble_eq_true rfl)) dX12_layBegins_65 ⟨(Nat.le_of_ble_eq_true rfl), (Nat.le_of_ble_eq_true rfl)⟩) hP hD hS hA [3, 1, 2] [0, 4, 5] rfl rfl (by decide) (by decide) (Nat.le_of_ble_eq_true rfl) (Nat.le_of_ble_eq_true rfl) (fun r_13 u H locs h_14 hP hD hS => ?_)
    have hP : va_P g vwCl [((qq 32), .inl (cT 0, 4806, .inl (fun _ => 0))), ((qq 0), .inl (cT 0, 2, .inl (fun _ => 1))), ((qq 2), .inl (cT 0, 50, .inl (fun _ => (-1)))), (y, .inr (12, [.ref (qq 0), .ref (qq 1), .ref (qq 2), .ref (qq 3), .ref (qq 4), .ref (qq 5), .int z6, .ref (qq 7), .ref (qq 8), .ref (qq 9), .ref (qq 10), .ref (qq 11), .int z12, .ref (qq 13), .int z14, .int z15, .int z16, .int z17, .ref (qq 18), .int z19, .ref (qq 20), .int z21, .int z22, .int z23, .int z24, .ref (qq 25), .int z26, .ref (qq 27), .ref (qq 28), .ref (qq 29), .int z30, .ref (qq 31), .ref (qq 32), .ref (qq 33), .ref (qq 34), .ref (qq 35), .ref (qq 36), .ref (qq 37), .ref (qq 38), .ref (qq 39), .ref (qq 40), .ref (qq 41), .ref (qq 42)])), ((qq 31), .inl (cT 1, 1602, .inr (.inl (vp_updL (vp_updL (fun _ => 0) 0 170) 801 170)))), ((qq 33), .inl (cT 0, 2, .inl (upd (upd (fun _ => 0) 0 1) 1 1)))] H := hP
    have hD : va_D A [((qq 32), .inl (cT 0, 4806, .inl (fun _ => 0))), ((qq 0), .inl (cT 0, 2, .inl (fun _ => 1))), ((qq 2), .inl (cT 0, 50, .inl (fun _ => (-1)))), (y, .inr (12, [.ref (qq 0), .ref (qq 1), .ref (qq 2), .ref (qq 3), .ref (qq 4), .ref (qq 5), .int z6, .ref (qq 7), .ref (qq 8), .ref (qq 9), .ref (qq 10), .ref (qq 11), .int z12, .ref (qq 13), .int z14, .int z15, .int z16, .int z17, .ref (qq 18), .int z19, .ref (qq 20), .int z21, .int z22, .int z23, .int z24, .ref (qq 25), .int z26, .ref (qq 27), .ref (qq 28), .ref (qq 29), .int z30, .ref (qq 31), .ref (qq 32), .ref (qq 33), .ref (qq 34), .ref (qq 35), .ref (qq 36), .ref (qq 37), .ref (qq 38), .ref (qq 39), .ref (qq 40), .ref (qq 41), .ref (qq 42)])), ((qq 31), .inl (cT 1, 1602, .inr (.inl (vp_updL (vp_updL (fun _ => 0) 0 170) 801 170)))), ((qq 33), .inl (cT 0, 2, .inl (upd (upd (fun _ => 0) 0 1) 1 1)))] := hD
    subst h_14
    refine lv_istore (lv' := [(6, .int 0), (4, .long 170), (3, .int 2), (2, .int 0), (0, .ref y), (1, .int 1)]) hx hb dX12_layBegins_68 hl (by decide) rfl (fun ls hl => ?_)
    refine lv_iload hx hb dX12_layBegins_70 (lv_at hl 0 rfl) ?_
    refine lv_iconst (v := (-1)) hx hb dX12_layBegins_72 (by decide) ?_
    refine icmp_ne_t hx hb 151 dX12_layBegins_73 (by decide) (by decide) ?_
    refine lv_aload_n hx hb dX12_layBegins_151 rfl (lv_at hl 4 rfl) ?_
    refine va_get (C := RX12) (T := TX12) (N := 43) (v := .ref (qq 32)) hx hb hts hi_X12_layBegins_X12 hown hK hP 3 rfl rfl 32 (by decide) (hts (.fieldLink RX12 69 "BothWaysModel" "lead" "[I") (by decide +kernel)) (fun _ h => h) rfl dX12_layBegins_152 ?_
    refine lv_sipush (v := 2403) hx hb dX12_layBegins_155 (by decide) ?_
    refine lv_iload_n hx hb dX12_layBegins_158 rfl (lv_at hl 5 rfl) ?_
    refine w_imul (v := 2403) hx hb dX12_layBegins_159 (by decide) ?_
    refine lv_iconst (v := 3) hx hb dX12_layBegins_160 (by decide) ?_
    refine lv_iload_n hx hb dX12_layBegins_161 rfl (lv_at hl 3 rfl) ?_
    refine w_imul (v := 0) hx hb dX12_layBegins_162 (by decide) ?_
    refine w_iadd (v := 2403) hx hb dX12_layBegins_163 (by decide) ?_
    refine lv_iload_n hx hb dX12_layBegins_164 rfl (lv_at hl 2 rfl) ?_
    refine w_iadd (v := 2405) hx hb dX12_layBegins_165 (by decide) ?_
    refine lv_iload hx hb dX12_layBegins_166 (lv_at hl 0 rfl) ?_
    refine w_iast (f' := (fun _ => 0)) hx hb hK hP hD hS 0 rfl dX12_layBegins_168 (inC (by decide)) (upd_c _ _) (fun H locs hP hD hS => ?_)
    have hP : va_P g vwCl [((qq 32), .inl (cT 0, 4806, .inl (fun _ => 0))), ((qq 0), .inl (cT 0, 2, .inl (fun _ => 1))), ((qq 2), .inl (cT 0, 50, .inl (fun _ => (-1)))), (y, .inr (12, [.ref (qq 0), .ref (qq 1), .ref (qq 2), .ref (qq 3), .ref (qq 4), .ref (qq 5), .int z6, .ref (qq 7), .ref (qq 8), .ref (qq 9), .ref (qq 10), .ref (qq 11), .int z12, .ref (qq 13), .int z14, .int z15, .int z16, .int z17, .ref (qq 18), .int z19, .ref (qq 20), .int z21, .int z22, .int z23, .int z24, .ref (qq 25), .int z26, .ref (qq 27), .ref (qq 28), .ref (qq 29), .int z30, .ref (qq 31), .ref (qq 32), .ref (qq 33), .ref (qq 34), .ref (qq 35), .ref (qq 36), .ref (qq 37), .ref (qq 38), .ref (qq 39), .ref (qq 40), .ref (qq 41), .ref (qq 42)])), ((qq 31), .inl (cT 1, 1602, .inr (.inl (vp_updL (vp_updL (fun _ => 0) 0 170) 801 170)))), ((qq 33), .inl (cT 0, 2, .inl (upd (upd (fun _ => 0) 0 1) 1 1)))] H := hP
    have hD : va_D A [((qq 32), .inl (cT 0, 4806, .inl (fun _ => 0))), ((qq 0), .inl (cT 0, 2, .inl (fun _ => 1))), ((qq 2), .inl (cT 0, 50, .inl (fun _ => (-1)))), (y, .inr (12, [.ref (qq 0), .ref (qq 1), .ref (qq 2), .ref (qq 3), .ref (qq 4), .ref (qq 5), .int z6, .ref (qq 7), .ref (qq 8), .ref (qq 9), .ref (qq 10), .ref (qq 11), .int z12, .ref (qq 13), .int z14, .int z15, .int z16, .int z17, .ref (qq 18), .int z19, .ref (qq 20), .int z21, .int z22, .int z23, .int z24, .ref (qq 25), .int z26, .ref (qq 27), .ref (qq 28), .ref (qq 29), .int z30, .ref (qq 31), .ref (qq 32), .ref (qq 33), .ref (qq 34), .ref (qq 35), .ref (qq 36), .ref (qq 37), .ref (qq 38), .ref (qq 39), .ref (qq 40), .ref (qq 41), .ref (qq 42)])), ((qq 31), .inl (cT 1, 1602, .inr (.inl (vp_updL (vp_updL (fun _ => 0) 0 170) 801 170)))), ((qq 33), .inl (cT 0, 2, .inl (upd (upd (fun _ => 0) 0 1) 1 1)))] := hD
    refine lv_iinc (v := 3) (lv' := [(3, .int 3), (6, .int 0), (4, .long 170), (2, .int 0), (0, .ref y), (1, .int 1)]) hx hb dX12_layBegins_169 hl (k := 2) rfl (by decide) (by decide) rfl (fun ls hl => ?_)
    refine lv_goto (tgt := 36) hx hb dX12_layBegins_172 (by decide) ?_
    refine lv_iload_n hx hb dX12_layBegins_36 rfl (lv_at hl 0 rfl) ?_
    refine lv_iconst (v := 3) hx hb dX12_layBegins_37 (by decide) ?_
    refine icmp_ge_t hx hb 175 dX12_layBegins_38 (by decide) (by decide) ?_
    refine lv_iinc (v := 1) (lv' := [(2, .int 1), (3, .int 3), (6, .int 0), (4, .long 170), (0, .ref y), (1, .int 1)]) hx hb dX12_layBegins_175 hl (k := 3) rfl (by decide) (by decide) rfl (fun ls hl => ?_)
    refine lv_goto (tgt := 24) hx hb dX12_layBegins_178 (by decide) ?_
    refine lv_iload_n hx hb dX12_layBegins_24 rfl (lv_at hl 0 rfl) ?_
    refine lv_aload_n hx hb dX12_layBegins_25 rfl (lv_at hl 4 rfl) ?_
    refine va_get (C := RX12) (T := TX12) (N := 43) (v := .ref (qq 33)) hx hb hts hi_X12_layBegins_X12 hown hK hP 3 rfl rfl 33 (by decide) (hts (.fieldLink RX12 72 "BothWaysModel" "beginMany" "[I") (by decide +kernel)) (fun _ h => h) rfl dX12_layBegins_26 ?_
    refine lv_iload_n hx hb dX12_layBegins_29 rfl (lv_at hl 5 rfl) ?_
    refine w_iald (v := 1) hx hb hK hP 5 rfl dX12_layBegins_30 (inC (by decide)) (by decide) ?_
    refine icmp_ge_t hx hb 181 dX12_layBegins_31 (by decide) (by decide) ?_
    refine lv_iconst (v := 1) hx hb dX12_layBegins_181 (by decide) ?_
    exact rt_i hx hb hr hlocks hQ hP hD hS () [3, 1, 2, 0, 4, 5] dX12_layBegins_182 rfl (Nat.le_of_ble_eq_true rfl) (Nat.le_of_ble_eq_true rfl) rfl (by decide) rfl
  rw [hH, hlo] at hgo
  exact hgo
theorem hi_X12_isTaken_X12 : ∀ w ∈ wsX120, w ∈ wsX12_isTaken := fun _ h => List.mem_cons_of_mem _ (List.mem_append_right _ h)
theorem yd_X12_endOf : yX12_endOf.cls = RX12 ∧ yX12_endOf.cls ≠ "java/lang/invoke/MethodHandle" ∧ yX12_endOf.cls ≠ "java/lang/invoke/VarHandle" ∧ (parseMethodDescriptor yX12_endOf.desc).map (fun d => d.parameters.length) = some 2 := by decide +kernel
abbrev rm_c_M_isTaken_0 : Room := { frames := 2, cells := 0, slots := 0, locals := 48 }
set_option maxHeartbeats 4000000 in
set_option maxRecDepth 100000 in
theorem c_M_isTaken_0 (l : Launch) (g : va_G) (cT : Nat → ClassId) (sz : Nat) (y : Nat) (qq : Nat → Nat) (z6 : Int32) (z12 : Int32) (z14 : Int32) (z15 : Int32) (z16 : Int32) (z17 : Int32) (z19 : Int32) (z21 : Int32) (z22 : Int32) (z23 : Int32) (z24 : Int32) (z26 : Int32) (z30 : Int32)  : Ctr l g cT sz yX12_isTaken wsX12_isTaken rm_c_M_isTaken_0 [.ref y, .int 0, .int 0] [(y, .inr (12, [.ref (qq 0), .ref (qq 1), .ref (qq 2), .ref (qq 3), .ref (qq 4), .ref (qq 5), .int z6, .ref (qq 7), .ref (qq 8), .ref (qq 9), .ref (qq 10), .ref (qq 11), .int z12, .ref (qq 13), .int z14, .int z15, .int z16, .int z17, .ref (qq 18), .int z19, .ref (qq 20), .int z21, .int z22, .int z23, .int z24, .ref (qq 25), .int z26, .ref (qq 27), .ref (qq 28), .ref (qq 29), .int z30, .ref (qq 31), .ref (qq 32), .ref (qq 33), .ref (qq 34), .ref (qq 35), .ref (qq 36), .ref (qq 37), .ref (qq 38), .ref (qq 39), .ref (qq 40), .ref (qq 41), .ref (qq 42)])), ((qq 31), .inl (cT 1, 1602, .inr (.inl (vp_updL (fun _ => 0) 0 170))))] (QI g (fun (r : Int32) (u : Unit) => r = 0) (fun (u : Unit) => [(y, .inr (12, [.ref (qq 0), .ref (qq 1), .ref (qq 2), .ref (qq 3), .ref (qq 4), .ref (qq 5), .int z6, .ref (qq 7), .ref (qq 8), .ref (qq 9), .ref (qq 10), .ref (qq 11), .int z12, .ref (qq 13), .int z14, .int z15, .int z16, .int z17, .ref (qq 18), .int z19, .ref (qq 20), .int z21, .int z22, .int z23, .int z24, .ref (qq 25), .int z26, .ref (qq 27), .ref (qq 28), .ref (qq 29), .int z30, .ref (qq 31), .ref (qq 32), .ref (qq 33), .ref (qq 34), .ref (qq 35), .ref (qq 36), .ref (qq 37), .ref (qq 38), .ref (qq 39), .ref (qq 40), .ref (qq 41), .ref (qq 42)])), ((qq 31), .inl (cT 1, 1602, .inr (.inl (vp_updL (fun _ => 0) 0 170))))])) 0 0 := by
  refine mk_ctr (cc := cX12_isTaken) (maxL := 3) (ret := (some .boolean)) (by decide) rfl (Nat.le_of_ble_eq_true rfl) ?_
  intro p e s m args below meth c A Q hx hb hr hts hown hlocks hin hml hP hK hD hN hZ hA hS hQ ls hl
  have hl : lv_has ls 3 [(0, .ref y), (1, .int 0), (2, .int 0)] := hl
  obtain ⟨H, hH⟩ : ∃ H : Heap, H = s.heap := ⟨_, rfl⟩
  obtain ⟨locs, hlo⟩ : ∃ x : List Loc, x = [] := ⟨_, rfl⟩
  rw [← hH] at hP
  have hS : va_S A s.heap H locs := by rw [hH, hlo]; exact hS
  have hgo : W p l e rm_c_M_isTaken_0 s m args below meth c H locs 0 0 Q (F0 m 0 ls []) := by
    clear hH hlo
    refine lv_aload_n hx hb dX12_isTaken_0 rfl (lv_at hl 0 rfl) ?_
    refine lv_iload_n hx hb dX12_isTaken_1 rfl (lv_at hl 1 rfl) ?_
    refine lv_aload_n hx hb dX12_isTaken_2 rfl (lv_at hl 0 rfl) ?_
    refine va_get (C := RX12) (T := TX12) (N := 43) (v := .ref (qq 31)) hx hb hts hi_X12_isTaken_X12 hown hK hP 0 rfl rfl 31 (by decide) (hts (.fieldLink RX12 66 "BothWaysModel" "begin" "[J") (by decide +kernel)) (fun _ h => h) rfl dX12_isTaken_3 ?_
    refine lv_sipush (v := 801) hx hb dX12_isTaken_6 (by decide) ?_
    refine lv_iload_n hx hb dX12_isTaken_9 rfl (lv_at hl 1 rfl) ?_
    refine w_imul (v := 0) hx hb dX12_isTaken_10 (by decide) ?_
    refine lv_iload_n hx hb dX12_isTaken_11 rfl (lv_at hl 2 rfl) ?_
    refine w_iadd (v := 0) hx hb dX12_isTaken_12 (by decide) ?_
    refine w_lald (v := 170) hx hb hK hP 1 rfl dX12_isTaken_13 (inC (by decide)) (by decide) ?_
    refine cj_i 0 0 (wr := [((qq 31), .inl (cT 1, 1602, .inr (.inl (vp_updL (fun _ => 0) 0 170))))]) (va_runV (As := [.int 0, .long 170]) (rest := []) ⟨hx, hb, hml, hown, hts⟩ (c_M_endOf_0 l g cT H.size y qq z6 z12 z14 z15 z16 z17 z19 z21 z22 z23 z24 z26 z30) (cwV 2 hts gX12_isTaken_X12_endOf rfl rfl rfl yd_X12_endOf ⟨(Nat.le_of_ble_eq_true rfl), (Nat.le_of_ble_eq_true rfl)⟩) (preV (wc := [(y, .inr (12, [.ref (qq 0), .ref (qq 1), .ref (qq 2), .ref (qq 3), .ref (qq 4), .ref (qq 5), .int z6, .ref (qq 7), .ref (qq 8), .ref (qq 9), .ref (qq 10), .ref (qq 11), .int z12, .ref (qq 13), .int z14, .int z15, .int z16, .int z17, .ref (qq 18), .int z19, .ref (qq 20), .int z21, .int z22, .int z23, .int z24, .ref (qq 25), .int z26, .ref (qq 27), .ref (qq 28), .ref (qq 29), .int z30, .ref (qq 31), .ref (qq 32), .ref (qq 33), .ref (qq 34), .ref (qq 35), .ref (qq 36), .ref (qq 37), .ref (qq 38), .ref (qq 39), .ref (qq 40), .ref (qq 41), .ref (qq 42)]))]) rfl hP hD hK hN hZ hS hA [0] rfl (by decide) (ci := 12) (q0 := 0) rfl rfl) rfl rfl hl.1 rfl (lv_room (Nat.le_of_ble_eq_true rfl)) dX12_isTaken_14 ⟨(Nat.le_of_ble_eq_true rfl), (Nat.le_of_ble_eq_true rfl)⟩) hP hD hS hA [0] [1] rfl rfl (by decide) (by decide) (Nat.le_of_ble_eq_true rfl) (Nat.le_of_ble_eq_true rfl) (fun r_1 u H locs h_2 hP hD hS => ?_)
    have hP : va_P g vwCl [((qq 31), .inl (cT 1, 1602, .inr (.inl (vp_updL (fun _ => 0) 0 170)))), (y, .inr (12, [.ref (qq 0), .ref (qq 1), .ref (qq 2), .ref (qq 3), .ref (qq 4), .ref (qq 5), .int z6, .ref (qq 7), .ref (qq 8), .ref (qq 9), .ref (qq 10), .ref (qq 11), .int z12, .ref (qq 13), .int z14, .int z15, .int z16, .int z17, .ref (qq 18), .int z19, .ref (qq 20), .int z21, .int z22, .int z23, .int z24, .ref (qq 25), .int z26, .ref (qq 27), .ref (qq 28), .ref (qq 29), .int z30, .ref (qq 31), .ref (qq 32), .ref (qq 33), .ref (qq 34), .ref (qq 35), .ref (qq 36), .ref (qq 37), .ref (qq 38), .ref (qq 39), .ref (qq 40), .ref (qq 41), .ref (qq 42)]))] H := hP
    have hD : va_D A [((qq 31), .inl (cT 1, 1602, .inr (.inl (vp_updL (fun _ => 0) 0 170)))), (y, .inr (12, [.ref (qq 0), .ref (qq 1), .ref (qq 2), .ref (qq 3), .ref (qq 4), .ref (qq 5), .int z6, .ref (qq 7), .ref (qq 8), .ref (qq 9), .ref (qq 10), .ref (qq 11), .int z12, .ref (qq 13), .int z14, .int z15, .int z16, .int z17, .ref (qq 18), .int z19, .ref (qq 20), .int z21, .int z22, .int z23, .int z24, .ref (qq 25), .int z26, .ref (qq 27), .ref (qq 28), .ref (qq 29), .int z30, .ref (qq 31), .ref (qq 32), .ref (qq 33), .ref (qq 34), .ref (qq 35), .ref (qq 36), .ref (qq 37), .ref (qq 38), .ref (qq 39), .ref (qq 40), .ref (qq 41), .ref (qq 42)]))] := hD
    subst h_2
    refine lv_iconst (v := 1) hx hb dX12_isTaken_17 (by decide) ?_
    refine icmp_ne_t hx hb 25 dX12_isTaken_18 (by decide) (by decide) ?_
    refine lv_iconst (v := 0) hx hb dX12_isTaken_25 (by decide) ?_
    exact rt_i hx hb hr hlocks hQ hP hD hS () [1, 0] dX12_isTaken_26 rfl (Nat.le_of_ble_eq_true rfl) (Nat.le_of_ble_eq_true rfl) rfl (by decide) rfl
  rw [hH, hlo] at hgo
  exact hgo
abbrev rm_c_M_isTaken_1 : Room := { frames := 2, cells := 0, slots := 0, locals := 48 }
set_option maxHeartbeats 4000000 in
set_option maxRecDepth 100000 in
theorem c_M_isTaken_1 (l : Launch) (g : va_G) (cT : Nat → ClassId) (sz : Nat) (y : Nat) (qq : Nat → Nat) (z6 : Int32) (z12 : Int32) (z14 : Int32) (z15 : Int32) (z16 : Int32) (z17 : Int32) (z19 : Int32) (z21 : Int32) (z22 : Int32) (z23 : Int32) (z24 : Int32) (z26 : Int32) (z30 : Int32)  : Ctr l g cT sz yX12_isTaken wsX12_isTaken rm_c_M_isTaken_1 [.ref y, .int 1, .int 0] [(y, .inr (12, [.ref (qq 0), .ref (qq 1), .ref (qq 2), .ref (qq 3), .ref (qq 4), .ref (qq 5), .int z6, .ref (qq 7), .ref (qq 8), .ref (qq 9), .ref (qq 10), .ref (qq 11), .int z12, .ref (qq 13), .int z14, .int z15, .int z16, .int z17, .ref (qq 18), .int z19, .ref (qq 20), .int z21, .int z22, .int z23, .int z24, .ref (qq 25), .int z26, .ref (qq 27), .ref (qq 28), .ref (qq 29), .int z30, .ref (qq 31), .ref (qq 32), .ref (qq 33), .ref (qq 34), .ref (qq 35), .ref (qq 36), .ref (qq 37), .ref (qq 38), .ref (qq 39), .ref (qq 40), .ref (qq 41), .ref (qq 42)])), ((qq 31), .inl (cT 1, 1602, .inr (.inl (vp_updL (fun _ => 0) 801 170))))] (QI g (fun (r : Int32) (u : Unit) => r = 0) (fun (u : Unit) => [(y, .inr (12, [.ref (qq 0), .ref (qq 1), .ref (qq 2), .ref (qq 3), .ref (qq 4), .ref (qq 5), .int z6, .ref (qq 7), .ref (qq 8), .ref (qq 9), .ref (qq 10), .ref (qq 11), .int z12, .ref (qq 13), .int z14, .int z15, .int z16, .int z17, .ref (qq 18), .int z19, .ref (qq 20), .int z21, .int z22, .int z23, .int z24, .ref (qq 25), .int z26, .ref (qq 27), .ref (qq 28), .ref (qq 29), .int z30, .ref (qq 31), .ref (qq 32), .ref (qq 33), .ref (qq 34), .ref (qq 35), .ref (qq 36), .ref (qq 37), .ref (qq 38), .ref (qq 39), .ref (qq 40), .ref (qq 41), .ref (qq 42)])), ((qq 31), .inl (cT 1, 1602, .inr (.inl (vp_updL (fun _ => 0) 801 170))))])) 0 0 := by
  refine mk_ctr (cc := cX12_isTaken) (maxL := 3) (ret := (some .boolean)) (by decide) rfl (Nat.le_of_ble_eq_true rfl) ?_
  intro p e s m args below meth c A Q hx hb hr hts hown hlocks hin hml hP hK hD hN hZ hA hS hQ ls hl
  have hl : lv_has ls 3 [(0, .ref y), (1, .int 1), (2, .int 0)] := hl
  obtain ⟨H, hH⟩ : ∃ H : Heap, H = s.heap := ⟨_, rfl⟩
  obtain ⟨locs, hlo⟩ : ∃ x : List Loc, x = [] := ⟨_, rfl⟩
  rw [← hH] at hP
  have hS : va_S A s.heap H locs := by rw [hH, hlo]; exact hS
  have hgo : W p l e rm_c_M_isTaken_1 s m args below meth c H locs 0 0 Q (F0 m 0 ls []) := by
    clear hH hlo
    refine lv_aload_n hx hb dX12_isTaken_0 rfl (lv_at hl 0 rfl) ?_
    refine lv_iload_n hx hb dX12_isTaken_1 rfl (lv_at hl 1 rfl) ?_
    refine lv_aload_n hx hb dX12_isTaken_2 rfl (lv_at hl 0 rfl) ?_
    refine va_get (C := RX12) (T := TX12) (N := 43) (v := .ref (qq 31)) hx hb hts hi_X12_isTaken_X12 hown hK hP 0 rfl rfl 31 (by decide) (hts (.fieldLink RX12 66 "BothWaysModel" "begin" "[J") (by decide +kernel)) (fun _ h => h) rfl dX12_isTaken_3 ?_
    refine lv_sipush (v := 801) hx hb dX12_isTaken_6 (by decide) ?_
    refine lv_iload_n hx hb dX12_isTaken_9 rfl (lv_at hl 1 rfl) ?_
    refine w_imul (v := 801) hx hb dX12_isTaken_10 (by decide) ?_
    refine lv_iload_n hx hb dX12_isTaken_11 rfl (lv_at hl 2 rfl) ?_
    refine w_iadd (v := 801) hx hb dX12_isTaken_12 (by decide) ?_
    refine w_lald (v := 170) hx hb hK hP 1 rfl dX12_isTaken_13 (inC (by decide)) (by decide) ?_
    refine cj_i 0 0 (wr := [((qq 31), .inl (cT 1, 1602, .inr (.inl (vp_updL (fun _ => 0) 801 170))))]) (va_runV (As := [.int 1, .long 170]) (rest := []) ⟨hx, hb, hml, hown, hts⟩ (c_M_endOf_1 l g cT H.size y qq z6 z12 z14 z15 z16 z17 z19 z21 z22 z23 z24 z26 z30) (cwV 2 hts gX12_isTaken_X12_endOf rfl rfl rfl yd_X12_endOf ⟨(Nat.le_of_ble_eq_true rfl), (Nat.le_of_ble_eq_true rfl)⟩) (preV (wc := [(y, .inr (12, [.ref (qq 0), .ref (qq 1), .ref (qq 2), .ref (qq 3), .ref (qq 4), .ref (qq 5), .int z6, .ref (qq 7), .ref (qq 8), .ref (qq 9), .ref (qq 10), .ref (qq 11), .int z12, .ref (qq 13), .int z14, .int z15, .int z16, .int z17, .ref (qq 18), .int z19, .ref (qq 20), .int z21, .int z22, .int z23, .int z24, .ref (qq 25), .int z26, .ref (qq 27), .ref (qq 28), .ref (qq 29), .int z30, .ref (qq 31), .ref (qq 32), .ref (qq 33), .ref (qq 34), .ref (qq 35), .ref (qq 36), .ref (qq 37), .ref (qq 38), .ref (qq 39), .ref (qq 40), .ref (qq 41), .ref (qq 42)]))]) rfl hP hD hK hN hZ hS hA [0] rfl (by decide) (ci := 12) (q0 := 0) rfl rfl) rfl rfl hl.1 rfl (lv_room (Nat.le_of_ble_eq_true rfl)) dX12_isTaken_14 ⟨(Nat.le_of_ble_eq_true rfl), (Nat.le_of_ble_eq_true rfl)⟩) hP hD hS hA [0] [1] rfl rfl (by decide) (by decide) (Nat.le_of_ble_eq_true rfl) (Nat.le_of_ble_eq_true rfl) (fun r_1 u H locs h_2 hP hD hS => ?_)
    have hP : va_P g vwCl [((qq 31), .inl (cT 1, 1602, .inr (.inl (vp_updL (fun _ => 0) 801 170)))), (y, .inr (12, [.ref (qq 0), .ref (qq 1), .ref (qq 2), .ref (qq 3), .ref (qq 4), .ref (qq 5), .int z6, .ref (qq 7), .ref (qq 8), .ref (qq 9), .ref (qq 10), .ref (qq 11), .int z12, .ref (qq 13), .int z14, .int z15, .int z16, .int z17, .ref (qq 18), .int z19, .ref (qq 20), .int z21, .int z22, .int z23, .int z24, .ref (qq 25), .int z26, .ref (qq 27), .ref (qq 28), .ref (qq 29), .int z30, .ref (qq 31), .ref (qq 32), .ref (qq 33), .ref (qq 34), .ref (qq 35), .ref (qq 36), .ref (qq 37), .ref (qq 38), .ref (qq 39), .ref (qq 40), .ref (qq 41), .ref (qq 42)]))] H := hP
    have hD : va_D A [((qq 31), .inl (cT 1, 1602, .inr (.inl (vp_updL (fun _ => 0) 801 170)))), (y, .inr (12, [.ref (qq 0), .ref (qq 1), .ref (qq 2), .ref (qq 3), .ref (qq 4), .ref (qq 5), .int z6, .ref (qq 7), .ref (qq 8), .ref (qq 9), .ref (qq 10), .ref (qq 11), .int z12, .ref (qq 13), .int z14, .int z15, .int z16, .int z17, .ref (qq 18), .int z19, .ref (qq 20), .int z21, .int z22, .int z23, .int z24, .ref (qq 25), .int z26, .ref (qq 27), .ref (qq 28), .ref (qq 29), .int z30, .ref (qq 31), .ref (qq 32), .ref (qq 33), .ref (qq 34), .ref (qq 35), .ref (qq 36), .ref (qq 37), .ref (qq 38), .ref (qq 39), .ref (qq 40), .ref (qq 41), .ref (qq 42)]))] := hD
    subst h_2
    refine lv_iconst (v := 1) hx hb dX12_isTaken_17 (by decide) ?_
    refine icmp_ne_t hx hb 25 dX12_isTaken_18 (by decide) (by decide) ?_
    refine lv_iconst (v := 0) hx hb dX12_isTaken_25 (by decide) ?_
    exact rt_i hx hb hr hlocks hQ hP hD hS () [1, 0] dX12_isTaken_26 rfl (Nat.le_of_ble_eq_true rfl) (Nat.le_of_ble_eq_true rfl) rfl (by decide) rfl
  rw [hH, hlo] at hgo
  exact hgo
abbrev rm_c_M_isTaken_0b : Room := { frames := 2, cells := 0, slots := 0, locals := 48 }
set_option maxHeartbeats 4000000 in
set_option maxRecDepth 100000 in
theorem c_M_isTaken_0b (l : Launch) (g : va_G) (cT : Nat → ClassId) (sz : Nat) (y : Nat) (qq : Nat → Nat) (z6 : Int32) (z12 : Int32) (z14 : Int32) (z15 : Int32) (z16 : Int32) (z17 : Int32) (z19 : Int32) (z21 : Int32) (z22 : Int32) (z23 : Int32) (z24 : Int32) (z26 : Int32) (z30 : Int32)  : Ctr l g cT sz yX12_isTaken wsX12_isTaken rm_c_M_isTaken_0b [.ref y, .int 0, .int 0] [(y, .inr (12, [.ref (qq 0), .ref (qq 1), .ref (qq 2), .ref (qq 3), .ref (qq 4), .ref (qq 5), .int z6, .ref (qq 7), .ref (qq 8), .ref (qq 9), .ref (qq 10), .ref (qq 11), .int z12, .ref (qq 13), .int z14, .int z15, .int z16, .int z17, .ref (qq 18), .int z19, .ref (qq 20), .int z21, .int z22, .int z23, .int z24, .ref (qq 25), .int z26, .ref (qq 27), .ref (qq 28), .ref (qq 29), .int z30, .ref (qq 31), .ref (qq 32), .ref (qq 33), .ref (qq 34), .ref (qq 35), .ref (qq 36), .ref (qq 37), .ref (qq 38), .ref (qq 39), .ref (qq 40), .ref (qq 41), .ref (qq 42)])), ((qq 31), .inl (cT 1, 1602, .inr (.inl (vp_updL (vp_updL (fun _ => 0) 0 170) 801 170))))] (QI g (fun (r : Int32) (u : Unit) => r = 0) (fun (u : Unit) => [(y, .inr (12, [.ref (qq 0), .ref (qq 1), .ref (qq 2), .ref (qq 3), .ref (qq 4), .ref (qq 5), .int z6, .ref (qq 7), .ref (qq 8), .ref (qq 9), .ref (qq 10), .ref (qq 11), .int z12, .ref (qq 13), .int z14, .int z15, .int z16, .int z17, .ref (qq 18), .int z19, .ref (qq 20), .int z21, .int z22, .int z23, .int z24, .ref (qq 25), .int z26, .ref (qq 27), .ref (qq 28), .ref (qq 29), .int z30, .ref (qq 31), .ref (qq 32), .ref (qq 33), .ref (qq 34), .ref (qq 35), .ref (qq 36), .ref (qq 37), .ref (qq 38), .ref (qq 39), .ref (qq 40), .ref (qq 41), .ref (qq 42)])), ((qq 31), .inl (cT 1, 1602, .inr (.inl (vp_updL (vp_updL (fun _ => 0) 0 170) 801 170))))])) 0 0 := by
  refine mk_ctr (cc := cX12_isTaken) (maxL := 3) (ret := (some .boolean)) (by decide) rfl (Nat.le_of_ble_eq_true rfl) ?_
  intro p e s m args below meth c A Q hx hb hr hts hown hlocks hin hml hP hK hD hN hZ hA hS hQ ls hl
  have hl : lv_has ls 3 [(0, .ref y), (1, .int 0), (2, .int 0)] := hl
  obtain ⟨H, hH⟩ : ∃ H : Heap, H = s.heap := ⟨_, rfl⟩
  obtain ⟨locs, hlo⟩ : ∃ x : List Loc, x = [] := ⟨_, rfl⟩
  rw [← hH] at hP
  have hS : va_S A s.heap H locs := by rw [hH, hlo]; exact hS
  have hgo : W p l e rm_c_M_isTaken_0b s m args below meth c H locs 0 0 Q (F0 m 0 ls []) := by
    clear hH hlo
    refine lv_aload_n hx hb dX12_isTaken_0 rfl (lv_at hl 0 rfl) ?_
    refine lv_iload_n hx hb dX12_isTaken_1 rfl (lv_at hl 1 rfl) ?_
    refine lv_aload_n hx hb dX12_isTaken_2 rfl (lv_at hl 0 rfl) ?_
    refine va_get (C := RX12) (T := TX12) (N := 43) (v := .ref (qq 31)) hx hb hts hi_X12_isTaken_X12 hown hK hP 0 rfl rfl 31 (by decide) (hts (.fieldLink RX12 66 "BothWaysModel" "begin" "[J") (by decide +kernel)) (fun _ h => h) rfl dX12_isTaken_3 ?_
    refine lv_sipush (v := 801) hx hb dX12_isTaken_6 (by decide) ?_
    refine lv_iload_n hx hb dX12_isTaken_9 rfl (lv_at hl 1 rfl) ?_
    refine w_imul (v := 0) hx hb dX12_isTaken_10 (by decide) ?_
    refine lv_iload_n hx hb dX12_isTaken_11 rfl (lv_at hl 2 rfl) ?_
    refine w_iadd (v := 0) hx hb dX12_isTaken_12 (by decide) ?_
    refine w_lald (v := 170) hx hb hK hP 1 rfl dX12_isTaken_13 (inC (by decide)) (by decide) ?_
    refine cj_i 0 0 (wr := [((qq 31), .inl (cT 1, 1602, .inr (.inl (vp_updL (vp_updL (fun _ => 0) 0 170) 801 170))))]) (va_runV (As := [.int 0, .long 170]) (rest := []) ⟨hx, hb, hml, hown, hts⟩ (c_M_endOf_0 l g cT H.size y qq z6 z12 z14 z15 z16 z17 z19 z21 z22 z23 z24 z26 z30) (cwV 2 hts gX12_isTaken_X12_endOf rfl rfl rfl yd_X12_endOf ⟨(Nat.le_of_ble_eq_true rfl), (Nat.le_of_ble_eq_true rfl)⟩) (preV (wc := [(y, .inr (12, [.ref (qq 0), .ref (qq 1), .ref (qq 2), .ref (qq 3), .ref (qq 4), .ref (qq 5), .int z6, .ref (qq 7), .ref (qq 8), .ref (qq 9), .ref (qq 10), .ref (qq 11), .int z12, .ref (qq 13), .int z14, .int z15, .int z16, .int z17, .ref (qq 18), .int z19, .ref (qq 20), .int z21, .int z22, .int z23, .int z24, .ref (qq 25), .int z26, .ref (qq 27), .ref (qq 28), .ref (qq 29), .int z30, .ref (qq 31), .ref (qq 32), .ref (qq 33), .ref (qq 34), .ref (qq 35), .ref (qq 36), .ref (qq 37), .ref (qq 38), .ref (qq 39), .ref (qq 40), .ref (qq 41), .ref (qq 42)]))]) rfl hP hD hK hN hZ hS hA [0] rfl (by decide) (ci := 12) (q0 := 0) rfl rfl) rfl rfl hl.1 rfl (lv_room (Nat.le_of_ble_eq_true rfl)) dX12_isTaken_14 ⟨(Nat.le_of_ble_eq_true rfl), (Nat.le_of_ble_eq_true rfl)⟩) hP hD hS hA [0] [1] rfl rfl (by decide) (by decide) (Nat.le_of_ble_eq_true rfl) (Nat.le_of_ble_eq_true rfl) (fun r_1 u H locs h_2 hP hD hS => ?_)
    have hP : va_P g vwCl [((qq 31), .inl (cT 1, 1602, .inr (.inl (vp_updL (vp_updL (fun _ => 0) 0 170) 801 170)))), (y, .inr (12, [.ref (qq 0), .ref (qq 1), .ref (qq 2), .ref (qq 3), .ref (qq 4), .ref (qq 5), .int z6, .ref (qq 7), .ref (qq 8), .ref (qq 9), .ref (qq 10), .ref (qq 11), .int z12, .ref (qq 13), .int z14, .int z15, .int z16, .int z17, .ref (qq 18), .int z19, .ref (qq 20), .int z21, .int z22, .int z23, .int z24, .ref (qq 25), .int z26, .ref (qq 27), .ref (qq 28), .ref (qq 29), .int z30, .ref (qq 31), .ref (qq 32), .ref (qq 33), .ref (qq 34), .ref (qq 35), .ref (qq 36), .ref (qq 37), .ref (qq 38), .ref (qq 39), .ref (qq 40), .ref (qq 41), .ref (qq 42)]))] H := hP
    have hD : va_D A [((qq 31), .inl (cT 1, 1602, .inr (.inl (vp_updL (vp_updL (fun _ => 0) 0 170) 801 170)))), (y, .inr (12, [.ref (qq 0), .ref (qq 1), .ref (qq 2), .ref (qq 3), .ref (qq 4), .ref (qq 5), .int z6, .ref (qq 7), .ref (qq 8), .ref (qq 9), .ref (qq 10), .ref (qq 11), .int z12, .ref (qq 13), .int z14, .int z15, .int z16, .int z17, .ref (qq 18), .int z19, .ref (qq 20), .int z21, .int z22, .int z23, .int z24, .ref (qq 25), .int z26, .ref (qq 27), .ref (qq 28), .ref (qq 29), .int z30, .ref (qq 31), .ref (qq 32), .ref (qq 33), .ref (qq 34), .ref (qq 35), .ref (qq 36), .ref (qq 37), .ref (qq 38), .ref (qq 39), .ref (qq 40), .ref (qq 41), .ref (qq 42)]))] := hD
    subst h_2
    refine lv_iconst (v := 1) hx hb dX12_isTaken_17 (by decide) ?_
    refine icmp_ne_t hx hb 25 dX12_isTaken_18 (by decide) (by decide) ?_
    refine lv_iconst (v := 0) hx hb dX12_isTaken_25 (by decide) ?_
    exact rt_i hx hb hr hlocks hQ hP hD hS () [1, 0] dX12_isTaken_26 rfl (Nat.le_of_ble_eq_true rfl) (Nat.le_of_ble_eq_true rfl) rfl (by decide) rfl
  rw [hH, hlo] at hgo
  exact hgo
abbrev rm_c_M_isTaken_1b : Room := { frames := 2, cells := 0, slots := 0, locals := 48 }
set_option maxHeartbeats 4000000 in
set_option maxRecDepth 100000 in
theorem c_M_isTaken_1b (l : Launch) (g : va_G) (cT : Nat → ClassId) (sz : Nat) (y : Nat) (qq : Nat → Nat) (z6 : Int32) (z12 : Int32) (z14 : Int32) (z15 : Int32) (z16 : Int32) (z17 : Int32) (z19 : Int32) (z21 : Int32) (z22 : Int32) (z23 : Int32) (z24 : Int32) (z26 : Int32) (z30 : Int32)  : Ctr l g cT sz yX12_isTaken wsX12_isTaken rm_c_M_isTaken_1b [.ref y, .int 1, .int 0] [(y, .inr (12, [.ref (qq 0), .ref (qq 1), .ref (qq 2), .ref (qq 3), .ref (qq 4), .ref (qq 5), .int z6, .ref (qq 7), .ref (qq 8), .ref (qq 9), .ref (qq 10), .ref (qq 11), .int z12, .ref (qq 13), .int z14, .int z15, .int z16, .int z17, .ref (qq 18), .int z19, .ref (qq 20), .int z21, .int z22, .int z23, .int z24, .ref (qq 25), .int z26, .ref (qq 27), .ref (qq 28), .ref (qq 29), .int z30, .ref (qq 31), .ref (qq 32), .ref (qq 33), .ref (qq 34), .ref (qq 35), .ref (qq 36), .ref (qq 37), .ref (qq 38), .ref (qq 39), .ref (qq 40), .ref (qq 41), .ref (qq 42)])), ((qq 31), .inl (cT 1, 1602, .inr (.inl (vp_updL (vp_updL (fun _ => 0) 0 170) 801 170))))] (QI g (fun (r : Int32) (u : Unit) => r = 0) (fun (u : Unit) => [(y, .inr (12, [.ref (qq 0), .ref (qq 1), .ref (qq 2), .ref (qq 3), .ref (qq 4), .ref (qq 5), .int z6, .ref (qq 7), .ref (qq 8), .ref (qq 9), .ref (qq 10), .ref (qq 11), .int z12, .ref (qq 13), .int z14, .int z15, .int z16, .int z17, .ref (qq 18), .int z19, .ref (qq 20), .int z21, .int z22, .int z23, .int z24, .ref (qq 25), .int z26, .ref (qq 27), .ref (qq 28), .ref (qq 29), .int z30, .ref (qq 31), .ref (qq 32), .ref (qq 33), .ref (qq 34), .ref (qq 35), .ref (qq 36), .ref (qq 37), .ref (qq 38), .ref (qq 39), .ref (qq 40), .ref (qq 41), .ref (qq 42)])), ((qq 31), .inl (cT 1, 1602, .inr (.inl (vp_updL (vp_updL (fun _ => 0) 0 170) 801 170))))])) 0 0 := by
  refine mk_ctr (cc := cX12_isTaken) (maxL := 3) (ret := (some .boolean)) (by decide) rfl (Nat.le_of_ble_eq_true rfl) ?_
  intro p e s m args below meth c A Q hx hb hr hts hown hlocks hin hml hP hK hD hN hZ hA hS hQ ls hl
  have hl : lv_has ls 3 [(0, .ref y), (1, .int 1), (2, .int 0)] := hl
  obtain ⟨H, hH⟩ : ∃ H : Heap, H = s.heap := ⟨_, rfl⟩
  obtain ⟨locs, hlo⟩ : ∃ x : List Loc, x = [] := ⟨_, rfl⟩
  rw [← hH] at hP
  have hS : va_S A s.heap H locs := by rw [hH, hlo]; exact hS
  have hgo : W p l e rm_c_M_isTaken_1b s m args below meth c H locs 0 0 Q (F0 m 0 ls []) := by
    clear hH hlo
    refine lv_aload_n hx hb dX12_isTaken_0 rfl (lv_at hl 0 rfl) ?_
    refine lv_iload_n hx hb dX12_isTaken_1 rfl (lv_at hl 1 rfl) ?_
    refine lv_aload_n hx hb dX12_isTaken_2 rfl (lv_at hl 0 rfl) ?_
    refine va_get (C := RX12) (T := TX12) (N := 43) (v := .ref (qq 31)) hx hb hts hi_X12_isTaken_X12 hown hK hP 0 rfl rfl 31 (by decide) (hts (.fieldLink RX12 66 "BothWaysModel" "begin" "[J") (by decide +kernel)) (fun _ h => h) rfl dX12_isTaken_3 ?_
    refine lv_sipush (v := 801) hx hb dX12_isTaken_6 (by decide) ?_
    refine lv_iload_n hx hb dX12_isTaken_9 rfl (lv_at hl 1 rfl) ?_
    refine w_imul (v := 801) hx hb dX12_isTaken_10 (by decide) ?_
    refine lv_iload_n hx hb dX12_isTaken_11 rfl (lv_at hl 2 rfl) ?_
    refine w_iadd (v := 801) hx hb dX12_isTaken_12 (by decide) ?_
    refine w_lald (v := 170) hx hb hK hP 1 rfl dX12_isTaken_13 (inC (by decide)) (by decide) ?_
    refine cj_i 0 0 (wr := [((qq 31), .inl (cT 1, 1602, .inr (.inl (vp_updL (vp_updL (fun _ => 0) 0 170) 801 170))))]) (va_runV (As := [.int 1, .long 170]) (rest := []) ⟨hx, hb, hml, hown, hts⟩ (c_M_endOf_1 l g cT H.size y qq z6 z12 z14 z15 z16 z17 z19 z21 z22 z23 z24 z26 z30) (cwV 2 hts gX12_isTaken_X12_endOf rfl rfl rfl yd_X12_endOf ⟨(Nat.le_of_ble_eq_true rfl), (Nat.le_of_ble_eq_true rfl)⟩) (preV (wc := [(y, .inr (12, [.ref (qq 0), .ref (qq 1), .ref (qq 2), .ref (qq 3), .ref (qq 4), .ref (qq 5), .int z6, .ref (qq 7), .ref (qq 8), .ref (qq 9), .ref (qq 10), .ref (qq 11), .int z12, .ref (qq 13), .int z14, .int z15, .int z16, .int z17, .ref (qq 18), .int z19, .ref (qq 20), .int z21, .int z22, .int z23, .int z24, .ref (qq 25), .int z26, .ref (qq 27), .ref (qq 28), .ref (qq 29), .int z30, .ref (qq 31), .ref (qq 32), .ref (qq 33), .ref (qq 34), .ref (qq 35), .ref (qq 36), .ref (qq 37), .ref (qq 38), .ref (qq 39), .ref (qq 40), .ref (qq 41), .ref (qq 42)]))]) rfl hP hD hK hN hZ hS hA [0] rfl (by decide) (ci := 12) (q0 := 0) rfl rfl) rfl rfl hl.1 rfl (lv_room (Nat.le_of_ble_eq_true rfl)) dX12_isTaken_14 ⟨(Nat.le_of_ble_eq_true rfl), (Nat.le_of_ble_eq_true rfl)⟩) hP hD hS hA [0] [1] rfl rfl (by decide) (by decide) (Nat.le_of_ble_eq_true rfl) (Nat.le_of_ble_eq_true rfl) (fun r_1 u H locs h_2 hP hD hS => ?_)
    have hP : va_P g vwCl [((qq 31), .inl (cT 1, 1602, .inr (.inl (vp_updL (vp_updL (fun _ => 0) 0 170) 801 170)))), (y, .inr (12, [.ref (qq 0), .ref (qq 1), .ref (qq 2), .ref (qq 3), .ref (qq 4), .ref (qq 5), .int z6, .ref (qq 7), .ref (qq 8), .ref (qq 9), .ref (qq 10), .ref (qq 11), .int z12, .ref (qq 13), .int z14, .int z15, .int z16, .int z17, .ref (qq 18), .int z19, .ref (qq 20), .int z21, .int z22, .int z23, .int z24, .ref (qq 25), .int z26, .ref (qq 27), .ref (qq 28), .ref (qq 29), .int z30, .ref (qq 31), .ref (qq 32), .ref (qq 33), .ref (qq 34), .ref (qq 35), .ref (qq 36), .ref (qq 37), .ref (qq 38), .ref (qq 39), .ref (qq 40), .ref (qq 41), .ref (qq 42)]))] H := hP
    have hD : va_D A [((qq 31), .inl (cT 1, 1602, .inr (.inl (vp_updL (vp_updL (fun _ => 0) 0 170) 801 170)))), (y, .inr (12, [.ref (qq 0), .ref (qq 1), .ref (qq 2), .ref (qq 3), .ref (qq 4), .ref (qq 5), .int z6, .ref (qq 7), .ref (qq 8), .ref (qq 9), .ref (qq 10), .ref (qq 11), .int z12, .ref (qq 13), .int z14, .int z15, .int z16, .int z17, .ref (qq 18), .int z19, .ref (qq 20), .int z21, .int z22, .int z23, .int z24, .ref (qq 25), .int z26, .ref (qq 27), .ref (qq 28), .ref (qq 29), .int z30, .ref (qq 31), .ref (qq 32), .ref (qq 33), .ref (qq 34), .ref (qq 35), .ref (qq 36), .ref (qq 37), .ref (qq 38), .ref (qq 39), .ref (qq 40), .ref (qq 41), .ref (qq 42)]))] := hD
    subst h_2
    refine lv_iconst (v := 1) hx hb dX12_isTaken_17 (by decide) ?_
    refine icmp_ne_t hx hb 25 dX12_isTaken_18 (by decide) (by decide) ?_
    refine lv_iconst (v := 0) hx hb dX12_isTaken_25 (by decide) ?_
    exact rt_i hx hb hr hlocks hQ hP hD hS () [1, 0] dX12_isTaken_26 rfl (Nat.le_of_ble_eq_true rfl) (Nat.le_of_ble_eq_true rfl) rfl (by decide) rfl
  rw [hH, hlo] at hgo
  exact hgo
