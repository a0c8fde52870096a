set_option maxRecDepth 20000 in
theorem nwF_in : ∀ w ∈ nwF.map (fun q => Cond.fieldLinkNest q.1 q.2.1 q.2.2.1 q.2.2.2.1 q.2.2.2.2.1 q.2.2.2.2.2), w ∈ lw_tbl := mem_pl _ [105, 141, 143, 145, 146, 148, 150, 152, 176, 177, 179, 200, 201, 204, 206, 207, 208, 541, 542, 543, 544, 545, 546, 555, 556, 557, 558, 559, 564, 565, 566, 567, 581, 660, 661, 665, 666, 724, 875, 879] rfl
set_option maxRecDepth 20000 in
theorem nwM_in : ∀ w ∈ nwM.map (fun q => Cond.methodLinkNest q.1 q.2.1 q.2.2.1 q.2.2.2), w ∈ lw_tbl := mem_pl _ [99, 135, 171, 373, 396, 802, 918, 920] rfl
set_option maxRecDepth 20000 in
theorem nwA_in : ∀ w ∈ nwA.map (fun C => Cond.arrayOver (.object C)), w ∈ lw_tbl := mem_pl _ [96, 186, 188, 190] rfl
theorem nw_start {args : Array Value} {s : State} (hts : ∀ w ∈ lw_tbl, w.before args s = true) : NW s := ⟨fun q hq => va_Nw.of rfl (hts _ (nwF_in _ (List.mem_map.mpr ⟨q, hq, rfl⟩))), fun q hq => va_Nw.of rfl (hts _ (nwM_in _ (List.mem_map.mpr ⟨q, hq, rfl⟩))), fun C hC => va_AO.of (hts _ (nwA_in _ (List.mem_map.mpr ⟨C, hC, rfl⟩)))⟩
theorem known_start {args : Array Value} {s : State} (hts : ∀ w ∈ lw_tbl, w.before args s = true) : ∃ (g : va_G) (cT : Nat → ClassId), va_K g vwCl (tysG cT) s := by
  obtain ⟨c0, iS0, hKn0⟩ := u_known (C := RX0) (T := TX0) (N := 5) (n := 5) hts inX0 (hts (.instantiable RX0 5) (by decide +kernel))
  obtain ⟨c1, iS1, hKn1⟩ := u_known (C := RX1) (T := TX1) (N := 5) (n := 5) hts inX1 (hts (.instantiable RX1 5) (by decide +kernel))
  obtain ⟨c2, iS2, hKn2⟩ := u_known (C := RX2) (T := TX2) (N := 3) (n := 3) hts inX2 (hts (.instantiable RX2 3) (by decide +kernel))
  obtain ⟨c3, iS3, hKn3⟩ := u_known (C := RX3) (T := TX3) (N := 4) (n := 4) hts inX3 (hts (.instantiable RX3 4) (by decide +kernel))
  obtain ⟨c4, iS4, hKn4⟩ := u_known (C := RX4) (T := TX4) (N := 12) (n := 12) hts inX4 (hts (.instantiable RX4 12) (by decide +kernel))
  obtain ⟨c5, iS5, hKn5⟩ := u_known (C := RX5) (T := TX5) (N := 6) (n := 6) hts inX5 (hts (.instantiable RX5 6) (by decide +kernel))
  obtain ⟨c6, iS6, hKn6⟩ := u_known (C := RX6) (T := TX6) (N := 5) (n := 5) hts inX6 (hts (.instantiable RX6 5) (by decide +kernel))
  obtain ⟨c7, iS7, hKn7⟩ := u_known (C := RX7) (T := TX7) (N := 2) (n := 2) hts inX7 (hts (.instantiable RX7 2) (by decide +kernel))
  obtain ⟨c8, iS8, hKn8⟩ := u_known (C := RX8) (T := TX8) (N := 9) (n := 9) hts inX8 (hts (.instantiable RX8 9) (by decide +kernel))
  obtain ⟨c9, iS9, hKn9⟩ := u_known (C := RX9) (T := TX9) (N := 9) (n := 9) hts inX9 (hts (.instantiable RX9 9) (by decide +kernel))
  obtain ⟨c10, iS10, hKn10⟩ := u_known (C := RX10) (T := TX10) (N := 7) (n := 7) hts inX10 (hts (.instantiable RX10 7) (by decide +kernel))
  obtain ⟨c11, iS11, hKn11⟩ := u_known (C := RX11) (T := TX11) (N := 11) (n := 11) hts inX11 (hts (.instantiable RX11 11) (by decide +kernel))
  obtain ⟨c12, iS12, hKn12⟩ := u_known (C := RX12) (T := TX12) (N := 43) (n := 43) hts inX12 (hts (.instantiable RX12 43) (by decide +kernel))
  obtain ⟨d0, kd0, co0, a1_0, a2_0, a3_0⟩ := Cond.arrayClass_spec (hts (.arrayClass .int) (by decide +kernel))
  obtain ⟨d1, kd1, co1, a1_1, a2_1, a3_1⟩ := Cond.arrayClass_spec (hts (.arrayClass .long) (by decide +kernel))
  obtain ⟨d2, kd2, co2, a1_2, a2_2, a3_2⟩ := Cond.arrayClass_spec (hts (.arrayClass .boolean) (by decide +kernel))
  obtain ⟨co3, d3, kd3, a1_3, a2_3, a3_3, a4_3, a5_3⟩ := Cond.arrayOver_spec (hts (.arrayOver (.object "BothWays$Reader")) (by decide +kernel))
  obtain ⟨co4, d4, kd4, a1_4, a2_4, a3_4, a4_4, a5_4⟩ := Cond.arrayOver_spec (hts (.arrayOver (.object "BothWays$Kinds")) (by decide +kernel))
  obtain ⟨co5, d5, kd5, a1_5, a2_5, a3_5, a4_5, a5_5⟩ := Cond.arrayOver_spec (hts (.arrayOver (.object "BothWays$Beginnings")) (by decide +kernel))
  obtain ⟨co6, d6, kd6, a1_6, a2_6, a3_6, a4_6, a5_6⟩ := Cond.arrayOver_spec (hts (.arrayOver (.object "BothWays$Least")) (by decide +kernel))
  refine ⟨((fun k : Nat => if k = 0 then c0 else if k = 1 then c1 else if k = 2 then c2 else if k = 3 then c3 else if k = 4 then c4 else if k = 5 then c5 else if k = 6 then c6 else if k = 7 then c7 else if k = 8 then c8 else if k = 9 then c9 else if k = 10 then c10 else if k = 11 then c11 else c12), (fun k : Nat => if k = 0 then iS0 else if k = 1 then iS1 else if k = 2 then iS2 else if k = 3 then iS3 else if k = 4 then iS4 else if k = 5 then iS5 else if k = 6 then iS6 else if k = 7 then iS7 else if k = 8 then iS8 else if k = 9 then iS9 else if k = 10 then iS10 else if k = 11 then iS11 else iS12)), (fun k : Nat => if k = 0 then d0 else if k = 1 then d1 else if k = 2 then d2 else if k = 3 then d3 else if k = 4 then d4 else if k = 5 then d5 else d6), ?_, ?_⟩
  · intro k q hq
    match k, hq with
    | 0, hq => cases hq; exact hKn0
    | 1, hq => cases hq; exact hKn1
    | 2, hq => cases hq; exact hKn2
    | 3, hq => cases hq; exact hKn3
    | 4, hq => cases hq; exact hKn4
    | 5, hq => cases hq; exact hKn5
    | 6, hq => cases hq; exact hKn6
    | 7, hq => cases hq; exact hKn7
    | 8, hq => cases hq; exact hKn8
    | 9, hq => cases hq; exact hKn9
    | 10, hq => cases hq; exact hKn10
    | 11, hq => cases hq; exact hKn11
    | 12, hq => cases hq; exact hKn12
    | k + 13, hq => simp [vwCl] at hq
  · intro k q hq
    match k, hq with
    | 0, hq => cases hq; exact ⟨fun n z => ⟨fun k h => (by cases h), kd0, a2_0, co0, a3_0⟩, a1_0⟩
    | 1, hq => cases hq; exact ⟨fun n z => ⟨fun k h => (by cases h), kd1, a2_1, co1, a3_1⟩, a1_1⟩
    | 2, hq => cases hq; exact ⟨fun n z => ⟨fun k h => (by cases h), kd2, a2_2, co2, a3_2⟩, a1_2⟩
    | 3, hq => cases hq; exact ⟨fun n z => ⟨fun k h => (by cases h), kd3, a3_3, co3, a4_3⟩, kd3, co3, a3_3, a4_3, a1_3, a5_3⟩
    | 4, hq => cases hq; exact ⟨fun n z => ⟨fun k h => (by cases h), kd4, a3_4, co4, a4_4⟩, kd4, co4, a3_4, a4_4, a1_4, a5_4⟩
    | 5, hq => cases hq; exact ⟨fun n z => ⟨fun k h => (by cases h), kd5, a3_5, co5, a4_5⟩, kd5, co5, a3_5, a4_5, a1_5, a5_5⟩
    | 6, hq => cases hq; exact ⟨fun n z => ⟨fun k h => (by cases h), kd6, a3_6, co6, a4_6⟩, kd6, co6, a3_6, a4_6, a1_6, a5_6⟩
    | k + 7, hq => simp [tysG] at hq
theorem sz_start {s : State} {b : Nat} {A : Nat → Prop} (hts : ∀ w ∈ lw_tbl, w.before #[Value.ref b] s = true) (hgv : (Jvm.Cond.and given_1 narrow_1).before #[Value.ref b] s = true) (hA : ∀ a : Nat, a < s.heap.size → ¬ A a) : SZ A s := by
  have hs := flat_of_before _ hgv
  have h0 : (Cond.arrayOf (Term.static "BothWays$Rows" "POWERS" "[I") .int).before #[Value.ref b] s = true := hs _ (by decide +kernel)
  have h1 : (Cond.eq (Term.length (Term.static "BothWays$Rows" "POWERS" "[I")) (Term.int 8)).before #[Value.ref b] s = true := hs _ (by decide +kernel)
  have e0 : (Cond.eq (Term.elem (Term.static "BothWays$Rows" "POWERS" "[I") (Term.int 0)) (Term.int 1)).before #[Value.ref b] s = true := hs _ (by decide +kernel)
  have e1 : (Cond.eq (Term.elem (Term.static "BothWays$Rows" "POWERS" "[I") (Term.int 1)) (Term.int 3)).before #[Value.ref b] s = true := hs _ (by decide +kernel)
  have e2 : (Cond.eq (Term.elem (Term.static "BothWays$Rows" "POWERS" "[I") (Term.int 2)) (Term.int 9)).before #[Value.ref b] s = true := hs _ (by decide +kernel)
  have e3 : (Cond.eq (Term.elem (Term.static "BothWays$Rows" "POWERS" "[I") (Term.int 3)) (Term.int 27)).before #[Value.ref b] s = true := hs _ (by decide +kernel)
  have e4 : (Cond.eq (Term.elem (Term.static "BothWays$Rows" "POWERS" "[I") (Term.int 4)) (Term.int 81)).before #[Value.ref b] s = true := hs _ (by decide +kernel)
  have e5 : (Cond.eq (Term.elem (Term.static "BothWays$Rows" "POWERS" "[I") (Term.int 5)) (Term.int 243)).before #[Value.ref b] s = true := hs _ (by decide +kernel)
  have e6 : (Cond.eq (Term.elem (Term.static "BothWays$Rows" "POWERS" "[I") (Term.int 6)) (Term.int 729)).before #[Value.ref b] s = true := hs _ (by decide +kernel)
  have e7 : (Cond.eq (Term.elem (Term.static "BothWays$Rows" "POWERS" "[I") (Term.int 7)) (Term.int 2187)).before #[Value.ref b] s = true := hs _ (by decide +kernel)
  have hel : ∀ j : Nat, j < 8 → (Term.elem (Term.static "BothWays$Rows" "POWERS" "[I") (Term.int (Int32.ofNat j))).eval #[Value.ref b] s none [] s = some (pwF j) := by
    intro j hj
    rcases (show j = 0 ∨ j = 1 ∨ j = 2 ∨ j = 3 ∨ j = 4 ∨ j = 5 ∨ j = 6 ∨ j = 7 by omega) with rfl | rfl | rfl | rfl | rfl | rfl | rfl | rfl
    · exact va_eqt e0
    · exact va_eqt e1
    · exact va_eqt e2
    · exact va_eqt e3
    · exact va_eqt e4
    · exact va_eqt e5
    · exact va_eqt e6
    · exact va_eqt e7
  obtain ⟨t, ht, hT⟩ := va_Tof (N := 8) (f := pwF) (A := A) (by decide) h0 (va_eqt h1) hel hA
  exact ⟨t, va_Zref (hts (.laysStatic "BothWays$Rows" "POWERS" "[I") (by decide +kernel)) (hts (.initialized "BothWays$Rows") (by decide +kernel)) ht hA, hT⟩
theorem lm5 {L : Nat} (h : L < 5) : Int32.ofNat L - 5 < 0 := by
  rcases (show L = 0 ∨ L = 1 ∨ L = 2 ∨ L = 3 ∨ L = 4 by omega) with rfl | rfl | rfl | rfl | rfl <;> decide
theorem yd_X11_init : yX11_init.cls = RX11 ∧ yX11_init.cls ≠ "java/lang/invoke/MethodHandle" ∧ yX11_init.cls ≠ "java/lang/invoke/VarHandle" ∧ (parseMethodDescriptor yX11_init.desc).map (fun d => d.parameters.length) = some 0 := by decide +kernel
theorem yd_X12_init : yX12_init.cls = RX12 ∧ yX12_init.cls ≠ "java/lang/invoke/MethodHandle" ∧ yX12_init.cls ≠ "java/lang/invoke/VarHandle" ∧ (parseMethodDescriptor yX12_init.desc).map (fun d => d.parameters.length) = some 0 := by decide +kernel
theorem lx_0 : (0 : Int32).toInt = 0 := by decide
theorem lx_1 : (1 : Int32).toInt = 1 := by decide
theorem lx_2 : (2 : Int32).toInt = 2 := by decide
theorem lx_3 : (3 : Int32).toInt = 3 := by decide
theorem lx_4 : (4 : Int32).toInt = 4 := by decide
theorem lx_5 : (5 : Int32).toInt = 5 := by decide
theorem lx_6 : (6 : Int32).toInt = 6 := by decide
theorem lx_7 : (7 : Int32).toInt = 7 := by decide
theorem lx_8 : (8 : Int32).toInt = 8 := by decide
theorem lx_9 : (9 : Int32).toInt = 9 := by decide
theorem lx_10 : (10 : Int32).toInt = 10 := by decide
theorem lx_11 : (11 : Int32).toInt = 11 := by decide
theorem lx_12 : (12 : Int32).toInt = 12 := by decide
theorem lx_13 : (13 : Int32).toInt = 13 := by decide
theorem lx_14 : (14 : Int32).toInt = 14 := by decide
theorem lx_15 : (15 : Int32).toInt = 15 := by decide
theorem lx_16 : (16 : Int32).toInt = 16 := by decide
theorem lx_17 : (17 : Int32).toInt = 17 := by decide
theorem lx_18 : (18 : Int32).toInt = 18 := by decide
theorem lx_19 : (19 : Int32).toInt = 19 := by decide
theorem lx_20 : (20 : Int32).toInt = 20 := by decide
theorem lx_21 : (21 : Int32).toInt = 21 := by decide
theorem lx_22 : (22 : Int32).toInt = 22 := by decide
theorem lx_23 : (23 : Int32).toInt = 23 := by decide
theorem lx_24 : (24 : Int32).toInt = 24 := by decide
theorem lf_start_0 (op : Int32) (ho_0 : ¬ op = 0) (ho_1 : ¬ op = 1) (ho_2 : ¬ op = 2) (ho_3 : ¬ op = 3) (ho_4 : ¬ op = 4) (ho_5 : ¬ op = 5) (ho_6 : ¬ op = 6) (ho_7 : ¬ op = 7) (ho_8 : ¬ op = 8) (ho_9 : ¬ op = 9) (ho_10 : ¬ op = 10) (ho_11 : ¬ op = 11) (ho_12 : ¬ op = 12) (ho_13 : ¬ op = 13) (ho_14 : ¬ op = 14) (ho_15 : ¬ op = 15) (ho_16 : ¬ op = 16) (ho_17 : ¬ op = 17) (ho_18 : ¬ op = 18) (ho_19 : ¬ op = 19) (ho_20 : ¬ op = 20) (ho_21 : ¬ op = 21) (ho_22 : ¬ op = 22) (ho_23 : ¬ op = 23) (ho_24 : ¬ op = 24) : op.toInt < 0 ∨ 24 < op.toInt := by (simp only [i_eq, lx_0, lx_1, lx_2, lx_3, lx_4, lx_5, lx_6, lx_7, lx_8, lx_9, lx_10, lx_11, lx_12, lx_13, lx_14, lx_15, lx_16, lx_17, lx_18, lx_19, lx_20, lx_21, lx_22, lx_23, lx_24] at * <;> omega)
set_option maxHeartbeats 40000000 in
set_option maxRecDepth 100000 in
theorem whole_start {p : Program} {e : Env} {s : State} {m : MethodId} {below : List Frame} {meth : Method} {c : Code} (l : Launch) {b L : Nat} {xs : Nat → Int32} (hL : L ≤ 5) (C0 : lw_At p s m meth c b L xs) : W p l e room_1 s m #[Value.ref b] below meth c s.heap [] 0 0 (lw_Z below #[Value.ref b] s) (entryFrame m ([Value.ref b] : List Value).toArray 4) := by
  obtain ⟨hx, hb, hr, hml, hown, hts0, hX, hbl, hlocks, hgv⟩ := id C0
  have hN := nw_start hts0
  obtain ⟨g, cT, hK⟩ := known_start hts0
  obtain ⟨A, hAe⟩ : ∃ A : Nat → Prop, A = fun q : Nat => s.heap.size ≤ q := ⟨_, rfl⟩
  have hA : ∀ q, s.heap.size ≤ q → A q := fun q h => by rw [hAe]; exact h
  have hbA : ¬ A b := by rw [hAe]; exact Nat.not_le.mpr hbl
  have hZ : SZ A s := sz_start hts0 hgv (fun a h => by rw [hAe]; exact Nat.not_le.mpr h)
  have hts : ∀ w ∈ wsL_law, w.before #[Value.ref b] s = true := fun w h => hts0 w (wsL_law_in w h)
  have hl := lv_entry ([.ref b]) (n := 4) (Nat.le_of_ble_eq_true rfl)
  rw [lg_entry_eq]
  generalize (lg_sl ([.ref b]) ++ List.replicate (4 - (lg_sl ([.ref b])).length) Slot.unset).toArray = ls at hl ⊢
  have hl : lv_has ls 4 [(0, .ref b)] := hl
  obtain ⟨H, hH⟩ : ∃ H : Heap, H = s.heap := ⟨_, rfl⟩
  obtain ⟨locs, hlo⟩ : ∃ x : List Loc, x = [] := ⟨_, rfl⟩
  have hS : va_S A s.heap H locs := by rw [hH, hlo]; exact va_S.rf
  have hP : va_P g vwCl [] H := fun k q h => by simp at h
  have hD : va_D A [] := va_D_nil
  have hgo : W p l e room_1 s m #[Value.ref b] below meth c H locs 0 0 (lw_Z below #[Value.ref b] s) (F0 m 0 ls []) := by
    clear hH hlo
    refine va_new (ci := 11) (fs := [.null, .null, .null, .int 0, .null, .null, .null, .null, .null, .null, .null]) (C := RX11) (T := TX11) (N := 11) hx hb hts inlX11 tyX11 tyX11_ok hown (hts (.classLink RL 7 RX11) (by decide +kernel)) (hts (.instantiable RX11 11) (by decide +kernel)) (hts (.initialized RX11) (by decide +kernel)) hK hP hD hS hA rfl dv_X11 (Nat.le_of_ble_eq_true rfl) (Nat.le_of_ble_eq_true rfl) dL_law_0 (fun q_1 H hP hD hS => ?_)
    have hP : va_P g vwCl [(q_1, .inr (11, [.null, .null, .null, .int 0, .null, .null, .null, .null, .null, .null, .null]))] H := hP
    have hD : va_D A [(q_1, .inr (11, [.null, .null, .null, .int 0, .null, .null, .null, .null, .null, .null, .null]))] := hD
    refine W.widen (k := 1) (n := 11) (Nat.le_of_ble_eq_true rfl) (Nat.le_of_ble_eq_true rfl) ?_
    refine lv_dup hx hb dL_law_3 rfl ?_
    refine cj_v 17 423 (wr := []) (va_runI (As := []) (rest := [.ref q_1]) ⟨hx, hb, hml, hown, hts⟩ (c_new l g cT H.size q_1) (cwI 0 hts gL_law_X11_init rfl rfl rfl (hts (.initialized RX11) (by decide +kernel)) (hts (.methodLink RL 9 yX11_init) (by decide +kernel)) (hts (.instanceMethod yX11_init) (by decide +kernel)) rfl yd_X11_init.2 ⟨(Nat.le_of_ble_eq_true rfl), (Nat.le_of_ble_eq_true rfl)⟩) (preS (wc := [(q_1, .inr (11, [.null, .null, .null, .int 0, .null, .null, .null, .null, .null, .null, .null]))]) rfl hP hD hK hN hZ hS hA [0] rfl (by decide)) rfl rfl hl.1 rfl (lv_room (Nat.le_of_ble_eq_true rfl)) dL_law_4 ⟨(Nat.le_of_ble_eq_true rfl), (Nat.le_of_ble_eq_true rfl)⟩) hP hD hS hA [0] [] rfl rfl (by decide) (by decide) (Nat.le_of_ble_eq_true rfl) (Nat.le_of_ble_eq_true rfl) (fun u H locs h_3 hP hD hS => ?_)
    obtain ⟨u_4, u_5, u_6, u_7, u_8, u_9, u_10, u_11, u_12, u_13, u_14, u_15, u_16, u_17, u_18, u_19⟩ := u
    have hP : va_P g vwCl [(q_1, .inr (11, [.ref u_4, .ref u_5, .ref u_6, .int 0, .ref u_7, .ref u_8, .ref u_9, .ref u_10, .ref u_11, .null, .null])), (u_4, .inl (cT 3, 2, .inr (.inr (.inr (.inr (va_up (va_up (fun _ => none) 0 (some u_12)) 1 (some u_13))))))), (u_12, .inr (6, [.int 1, .int 0, .int 0, .int 0, .ref u_14])), (u_14, .inl (cT 0, 25, .inl (fun _ => (-1)))), (u_13, .inr (6, [.int 1, .int 0, .int 0, .int 0, .ref u_15])), (u_15, .inl (cT 0, 25, .inl (fun _ => (-1)))), (u_5, .inr (9, [.ref u_16, .int 0, .int 0, .int 0, .int 0, .int 0, .int 0, .int 0, .int 0])), (u_16, .inl (cT 0, 160, .inl (fun _ => 0))), (u_6, .inl (cT 0, 24, .inl (fun _ => 0))), (u_7, .inr (10, [.ref u_17, .ref u_18, .int 0, .int 0, .int 0, .int 0, .int 0])), (u_17, .inl (cT 1, 5, .inr (.inl (fun _ => 0)))), (u_18, .inl (cT 0, 130, .inl (fun _ => 0))), (u_8, .inr (7, [.ref u_19, .int 0])), (u_19, .inl (cT 0, 7, .inl (fun _ => 0))), (u_9, .inl (cT 4, 2, .inr (.inr (.inr (.inr (fun _ => none)))))), (u_10, .inl (cT 5, 2, .inr (.inr (.inr (.inr (fun _ => none)))))), (u_11, .inl (cT 6, 2, .inr (.inr (.inr (.inr (fun _ => none))))))] H := hP
    have hD : va_D A [(q_1, .inr (11, [.ref u_4, .ref u_5, .ref u_6, .int 0, .ref u_7, .ref u_8, .ref u_9, .ref u_10, .ref u_11, .null, .null])), (u_4, .inl (cT 3, 2, .inr (.inr (.inr (.inr (va_up (va_up (fun _ => none) 0 (some u_12)) 1 (some u_13))))))), (u_12, .inr (6, [.int 1, .int 0, .int 0, .int 0, .ref u_14])), (u_14, .inl (cT 0, 25, .inl (fun _ => (-1)))), (u_13, .inr (6, [.int 1, .int 0, .int 0, .int 0, .ref u_15])), (u_15, .inl (cT 0, 25, .inl (fun _ => (-1)))), (u_5, .inr (9, [.ref u_16, .int 0, .int 0, .int 0, .int 0, .int 0, .int 0, .int 0, .int 0])), (u_16, .inl (cT 0, 160, .inl (fun _ => 0))), (u_6, .inl (cT 0, 24, .inl (fun _ => 0))), (u_7, .inr (10, [.ref u_17, .ref u_18, .int 0, .int 0, .int 0, .int 0, .int 0])), (u_17, .inl (cT 1, 5, .inr (.inl (fun _ => 0)))), (u_18, .inl (cT 0, 130, .inl (fun _ => 0))), (u_8, .inr (7, [.ref u_19, .int 0])), (u_19, .inl (cT 0, 7, .inl (fun _ => 0))), (u_9, .inl (cT 4, 2, .inr (.inr (.inr (.inr (fun _ => none)))))), (u_10, .inl (cT 5, 2, .inr (.inr (.inr (.inr (fun _ => none)))))), (u_11, .inl (cT 6, 2, .inr (.inr (.inr (.inr (fun _ => none))))))] := hD
    refine lv_astore_n (lv' := [(1, .ref q_1), (0, .ref b)]) hx hb dL_law_7 rfl hl (by decide) rfl (fun ls hl => ?_)
    refine va_new (ci := 12) (fs := [.null, .null, .null, .null, .null, .null, .int 0, .null, .null, .null, .null, .null, .int 0, .null, .int 0, .int 0, .int 0, .int 0, .null, .int 0, .null, .int 0, .int 0, .int 0, .int 0, .null, .int 0, .null, .null, .null, .int 0, .null, .null, .null, .null, .null, .null, .null, .null, .null, .null, .null, .null]) (C := RX12) (T := TX12) (N := 43) hx hb hts inlX12 tyX12 tyX12_ok hown (hts (.classLink RL 10 RX12) (by decide +kernel)) (hts (.instantiable RX12 43) (by decide +kernel)) (hts (.initialized RX12) (by decide +kernel)) hK hP hD hS hA rfl dv_X12 (Nat.le_of_ble_eq_true rfl) (Nat.le_of_ble_eq_true rfl) dL_law_8 (fun q_20 H hP hD hS => ?_)
    have hP : va_P g vwCl [(q_1, .inr (11, [.ref u_4, .ref u_5, .ref u_6, .int 0, .ref u_7, .ref u_8, .ref u_9, .ref u_10, .ref u_11, .null, .null])), (u_4, .inl (cT 3, 2, .inr (.inr (.inr (.inr (va_up (va_up (fun _ => none) 0 (some u_12)) 1 (some u_13))))))), (u_12, .inr (6, [.int 1, .int 0, .int 0, .int 0, .ref u_14])), (u_14, .inl (cT 0, 25, .inl (fun _ => (-1)))), (u_13, .inr (6, [.int 1, .int 0, .int 0, .int 0, .ref u_15])), (u_15, .inl (cT 0, 25, .inl (fun _ => (-1)))), (u_5, .inr (9, [.ref u_16, .int 0, .int 0, .int 0, .int 0, .int 0, .int 0, .int 0, .int 0])), (u_16, .inl (cT 0, 160, .inl (fun _ => 0))), (u_6, .inl (cT 0, 24, .inl (fun _ => 0))), (u_7, .inr (10, [.ref u_17, .ref u_18, .int 0, .int 0, .int 0, .int 0, .int 0])), (u_17, .inl (cT 1, 5, .inr (.inl (fun _ => 0)))), (u_18, .inl (cT 0, 130, .inl (fun _ => 0))), (u_8, .inr (7, [.ref u_19, .int 0])), (u_19, .inl (cT 0, 7, .inl (fun _ => 0))), (u_9, .inl (cT 4, 2, .inr (.inr (.inr (.inr (fun _ => none)))))), (u_10, .inl (cT 5, 2, .inr (.inr (.inr (.inr (fun _ => none)))))), (u_11, .inl (cT 6, 2, .inr (.inr (.inr (.inr (fun _ => none)))))), (q_20, .inr (12, [.null, .null, .null, .null, .null, .null, .int 0, .null, .null, .null, .null, .null, .int 0, .null, .int 0, .int 0, .int 0, .int 0, .null, .int 0, .null, .int 0, .int 0, .int 0, .int 0, .null, .int 0, .null, .null, .null, .int 0, .null, .null, .null, .null, .null, .null, .null, .null, .null, .null, .null, .null]))] H := hP
    have hD : va_D A [(q_1, .inr (11, [.ref u_4, .ref u_5, .ref u_6, .int 0, .ref u_7, .ref u_8, .ref u_9, .ref u_10, .ref u_11, .null, .null])), (u_4, .inl (cT 3, 2, .inr (.inr (.inr (.inr (va_up (va_up (fun _ => none) 0 (some u_12)) 1 (some u_13))))))), (u_12, .inr (6, [.int 1, .int 0, .int 0, .int 0, .ref u_14])), (u_14, .inl (cT 0, 25, .inl (fun _ => (-1)))), (u_13, .inr (6, [.int 1, .int 0, .int 0, .int 0, .ref u_15])), (u_15, .inl (cT 0, 25, .inl (fun _ => (-1)))), (u_5, .inr (9, [.ref u_16, .int 0, .int 0, .int 0, .int 0, .int 0, .int 0, .int 0, .int 0])), (u_16, .inl (cT 0, 160, .inl (fun _ => 0))), (u_6, .inl (cT 0, 24, .inl (fun _ => 0))), (u_7, .inr (10, [.ref u_17, .ref u_18, .int 0, .int 0, .int 0, .int 0, .int 0])), (u_17, .inl (cT 1, 5, .inr (.inl (fun _ => 0)))), (u_18, .inl (cT 0, 130, .inl (fun _ => 0))), (u_8, .inr (7, [.ref u_19, .int 0])), (u_19, .inl (cT 0, 7, .inl (fun _ => 0))), (u_9, .inl (cT 4, 2, .inr (.inr (.inr (.inr (fun _ => none)))))), (u_10, .inl (cT 5, 2, .inr (.inr (.inr (.inr (fun _ => none)))))), (u_11, .inl (cT 6, 2, .inr (.inr (.inr (.inr (fun _ => none)))))), (q_20, .inr (12, [.null, .null, .null, .null, .null, .null, .int 0, .null, .null, .null, .null, .null, .int 0, .null, .int 0, .int 0, .int 0, .int 0, .null, .int 0, .null, .int 0, .int 0, .int 0, .int 0, .null, .int 0, .null, .null, .null, .int 0, .null, .null, .null, .null, .null, .null, .null, .null, .null, .null, .null, .null]))] := hD
    refine W.widen (k := 18) (n := 466) (Nat.le_of_ble_eq_true rfl) (Nat.le_of_ble_eq_true rfl) ?_
    refine lv_dup hx hb dL_law_11 rfl ?_
    refine cj_v 48 53021 (wr := [(q_1, .inr (11, [.ref u_4, .ref u_5, .ref u_6, .int 0, .ref u_7, .ref u_8, .ref u_9, .ref u_10, .ref u_11, .null, .null])), (u_4, .inl (cT 3, 2, .inr (.inr (.inr (.inr (va_up (va_up (fun _ => none) 0 (some u_12)) 1 (some u_13))))))), (u_12, .inr (6, [.int 1, .int 0, .int 0, .int 0, .ref u_14])), (u_14, .inl (cT 0, 25, .inl (fun _ => (-1)))), (u_13, .inr (6, [.int 1, .int 0, .int 0, .int 0, .ref u_15])), (u_15, .inl (cT 0, 25, .inl (fun _ => (-1)))), (u_5, .inr (9, [.ref u_16, .int 0, .int 0, .int 0, .int 0, .int 0, .int 0, .int 0, .int 0])), (u_16, .inl (cT 0, 160, .inl (fun _ => 0))), (u_6, .inl (cT 0, 24, .inl (fun _ => 0))), (u_7, .inr (10, [.ref u_17, .ref u_18, .int 0, .int 0, .int 0, .int 0, .int 0])), (u_17, .inl (cT 1, 5, .inr (.inl (fun _ => 0)))), (u_18, .inl (cT 0, 130, .inl (fun _ => 0))), (u_8, .inr (7, [.ref u_19, .int 0])), (u_19, .inl (cT 0, 7, .inl (fun _ => 0))), (u_9, .inl (cT 4, 2, .inr (.inr (.inr (.inr (fun _ => none)))))), (u_10, .inl (cT 5, 2, .inr (.inr (.inr (.inr (fun _ => none)))))), (u_11, .inl (cT 6, 2, .inr (.inr (.inr (.inr (fun _ => none))))))]) (va_runI (As := []) (rest := [.ref q_20]) ⟨hx, hb, hml, hown, hts⟩ (c_M_new l g cT H.size q_20) (cwI 0 hts gL_law_X12_init rfl rfl rfl (hts (.initialized RX12) (by decide +kernel)) (hts (.methodLink RL 12 yX12_init) (by decide +kernel)) (hts (.instanceMethod yX12_init) (by decide +kernel)) rfl yd_X12_init.2 ⟨(Nat.le_of_ble_eq_true rfl), (Nat.le_of_ble_eq_true rfl)⟩) (preS (wc := [(q_20, .inr (12, [.null, .null, .null, .null, .null, .null, .int 0, .null, .null, .null, .null, .null, .int 0, .null, .int 0, .int 0, .int 0, .int 0, .null, .int 0, .null, .int 0, .int 0, .int 0, .int 0, .null, .int 0, .null, .null, .null, .int 0, .null, .null, .null, .null, .null, .null, .null, .null, .null, .null, .null, .null]))]) rfl hP hD hK hN hZ hS hA [17] rfl (by decide)) rfl rfl hl.1 rfl (lv_room (Nat.le_of_ble_eq_true rfl)) dL_law_12 ⟨(Nat.le_of_ble_eq_true rfl), (Nat.le_of_ble_eq_true rfl)⟩) hP hD hS hA [17] [0, 1, 2, 3, 4, 5, 6, 7, 8, 9, 10, 11, 12, 13, 14, 15, 16] rfl rfl (by decide) (by decide) (Nat.le_of_ble_eq_true rfl) (Nat.le_of_ble_eq_true rfl) (fun u H locs h_22 hP hD hS => ?_)
    obtain ⟨f_23, rfl⟩ : ∃ z, z = u := ⟨_, rfl⟩
    have hP : va_P g vwCl [(q_1, .inr (11, [.ref u_4, .ref u_5, .ref u_6, .int 0, .ref u_7, .ref u_8, .ref u_9, .ref u_10, .ref u_11, .null, .null])), (u_4, .inl (cT 3, 2, .inr (.inr (.inr (.inr (va_up (va_up (fun _ => none) 0 (some u_12)) 1 (some u_13))))))), (u_12, .inr (6, [.int 1, .int 0, .int 0, .int 0, .ref u_14])), (u_14, .inl (cT 0, 25, .inl (fun _ => (-1)))), (u_13, .inr (6, [.int 1, .int 0, .int 0, .int 0, .ref u_15])), (u_15, .inl (cT 0, 25, .inl (fun _ => (-1)))), (u_5, .inr (9, [.ref u_16, .int 0, .int 0, .int 0, .int 0, .int 0, .int 0, .int 0, .int 0])), (u_16, .inl (cT 0, 160, .inl (fun _ => 0))), (u_6, .inl (cT 0, 24, .inl (fun _ => 0))), (u_7, .inr (10, [.ref u_17, .ref u_18, .int 0, .int 0, .int 0, .int 0, .int 0])), (u_17, .inl (cT 1, 5, .inr (.inl (fun _ => 0)))), (u_18, .inl (cT 0, 130, .inl (fun _ => 0))), (u_8, .inr (7, [.ref u_19, .int 0])), (u_19, .inl (cT 0, 7, .inl (fun _ => 0))), (u_9, .inl (cT 4, 2, .inr (.inr (.inr (.inr (fun _ => none)))))), (u_10, .inl (cT 5, 2, .inr (.inr (.inr (.inr (fun _ => none)))))), (u_11, .inl (cT 6, 2, .inr (.inr (.inr (.inr (fun _ => none)))))), (q_20, .inr (12, [.ref (f_23 0), .ref (f_23 1), .ref (f_23 2), .ref (f_23 3), .ref (f_23 4), .ref (f_23 5), .int 0, .ref (f_23 7), .ref (f_23 8), .ref (f_23 9), .ref (f_23 10), .ref (f_23 11), .int 0, .ref (f_23 13), .int 0, .int 0, .int 0, .int 0, .ref (f_23 18), .int 0, .ref (f_23 20), .int 0, .int 0, .int 0, .int 0, .ref (f_23 25), .int 0, .ref (f_23 27), .ref (f_23 28), .ref (f_23 29), .int 0, .ref (f_23 31), .ref (f_23 32), .ref (f_23 33), .ref (f_23 34), .ref (f_23 35), .ref (f_23 36), .ref (f_23 37), .ref (f_23 38), .ref (f_23 39), .ref (f_23 40), .ref (f_23 41), .ref (f_23 42)])), ((f_23 0), .inl (cT 0, 2, .inl (fun _ => 1))), ((f_23 1), .inl (cT 0, 2, .inl (fun _ => 0))), ((f_23 2), .inl (cT 0, 50, .inl (fun _ => (-1)))), ((f_23 3), .inl (cT 0, 50, .inl (fun _ => 0))), ((f_23 4), .inl (cT 0, 50, .inl (fun _ => 0))), ((f_23 5), .inl (cT 0, 160, .inl (fun _ => 0))), ((f_23 7), .inl (cT 0, 40, .inl (fun _ => 0))), ((f_23 8), .inl (cT 0, 40, .inl (fun _ => 0))), ((f_23 9), .inl (cT 0, 40, .inl (fun _ => 0))), ((f_23 10), .inl (cT 0, 40, .inl (fun _ => 0))), ((f_23 11), .inl (cT 0, 40, .inl (fun _ => 0))), ((f_23 13), .inl (cT 0, 24, .inl (fun _ => 0))), ((f_23 18), .inl (cT 0, 24, .inl (fun _ => 0))), ((f_23 20), .inl (cT 2, 130, .inl (fun _ => 0))), ((f_23 25), .inl (cT 0, 131, .inl (fun _ => 0))), ((f_23 27), .inl (cT 1, 4001, .inr (.inl (fun _ => 0)))), ((f_23 28), .inl (cT 0, 4001, .inl (fun _ => 0))), ((f_23 29), .inl (cT 0, 4001, .inl (fun _ => 0))), ((f_23 31), .inl (cT 1, 1602, .inr (.inl (fun _ => 0)))), ((f_23 32), .inl (cT 0, 4806, .inl (fun _ => 0))), ((f_23 33), .inl (cT 0, 2, .inl (fun _ => 0))), ((f_23 34), .inl (cT 0, 1602, .inl (fun _ => 0))), ((f_23 35), .inl (cT 0, 1602, .inl (fun _ => 0))), ((f_23 36), .inl (cT 1, 800, .inr (.inl (fun _ => 0)))), ((f_23 37), .inl (cT 1, 800, .inr (.inl (fun _ => 0)))), ((f_23 38), .inl (cT 0, 10400, .inl (fun _ => 0))), ((f_23 39), .inl (cT 0, 800, .inl (fun _ => 0))), ((f_23 40), .inl (cT 0, 800, .inl (fun _ => 0))), ((f_23 41), .inl (cT 0, 16384, .inl (fun _ => 0))), ((f_23 42), .inl (cT 0, 131, .inl (fun _ => 0)))] H := hP
    have hD : va_D A [(q_1, .inr (11, [.ref u_4, .ref u_5, .ref u_6, .int 0, .ref u_7, .ref u_8, .ref u_9, .ref u_10, .ref u_11, .null, .null])), (u_4, .inl (cT 3, 2, .inr (.inr (.inr (.inr (va_up (va_up (fun _ => none) 0 (some u_12)) 1 (some u_13))))))), (u_12, .inr (6, [.int 1, .int 0, .int 0, .int 0, .ref u_14])), (u_14, .inl (cT 0, 25, .inl (fun _ => (-1)))), (u_13, .inr (6, [.int 1, .int 0, .int 0, .int 0, .ref u_15])), (u_15, .inl (cT 0, 25, .inl (fun _ => (-1)))), (u_5, .inr (9, [.ref u_16, .int 0, .int 0, .int 0, .int 0, .int 0, .int 0, .int 0, .int 0])), (u_16, .inl (cT 0, 160, .inl (fun _ => 0))), (u_6, .inl (cT 0, 24, .inl (fun _ => 0))), (u_7, .inr (10, [.ref u_17, .ref u_18, .int 0, .int 0, .int 0, .int 0, .int 0])), (u_17, .inl (cT 1, 5, .inr (.inl (fun _ => 0)))), (u_18, .inl (cT 0, 130, .inl (fun _ => 0))), (u_8, .inr (7, [.ref u_19, .int 0])), (u_19, .inl (cT 0, 7, .inl (fun _ => 0))), (u_9, .inl (cT 4, 2, .inr (.inr (.inr (.inr (fun _ => none)))))), (u_10, .inl (cT 5, 2, .inr (.inr (.inr (.inr (fun _ => none)))))), (u_11, .inl (cT 6, 2, .inr (.inr (.inr (.inr (fun _ => none)))))), (q_20, .inr (12, [.ref (f_23 0), .ref (f_23 1), .ref (f_23 2), .ref (f_23 3), .ref (f_23 4), .ref (f_23 5), .int 0, .ref (f_23 7), .ref (f_23 8), .ref (f_23 9), .ref (f_23 10), .ref (f_23 11), .int 0, .ref (f_23 13), .int 0, .int 0, .int 0, .int 0, .ref (f_23 18), .int 0, .ref (f_23 20), .int 0, .int 0, .int 0, .int 0, .ref (f_23 25), .int 0, .ref (f_23 27), .ref (f_23 28), .ref (f_23 29), .int 0, .ref (f_23 31), .ref (f_23 32), .ref (f_23 33), .ref (f_23 34), .ref (f_23 35), .ref (f_23 36), .ref (f_23 37), .ref (f_23 38), .ref (f_23 39), .ref (f_23 40), .ref (f_23 41), .ref (f_23 42)])), ((f_23 0), .inl (cT 0, 2, .inl (fun _ => 1))), ((f_23 1), .inl (cT 0, 2, .inl (fun _ => 0))), ((f_23 2), .inl (cT 0, 50, .inl (fun _ => (-1)))), ((f_23 3), .inl (cT 0, 50, .inl (fun _ => 0))), ((f_23 4), .inl (cT 0, 50, .inl (fun _ => 0))), ((f_23 5), .inl (cT 0, 160, .inl (fun _ => 0))), ((f_23 7), .inl (cT 0, 40, .inl (fun _ => 0))), ((f_23 8), .inl (cT 0, 40, .inl (fun _ => 0))), ((f_23 9), .inl (cT 0, 40, .inl (fun _ => 0))), ((f_23 10), .inl (cT 0, 40, .inl (fun _ => 0))), ((f_23 11), .inl (cT 0, 40, .inl (fun _ => 0))), ((f_23 13), .inl (cT 0, 24, .inl (fun _ => 0))), ((f_23 18), .inl (cT 0, 24, .inl (fun _ => 0))), ((f_23 20), .inl (cT 2, 130, .inl (fun _ => 0))), ((f_23 25), .inl (cT 0, 131, .inl (fun _ => 0))), ((f_23 27), .inl (cT 1, 4001, .inr (.inl (fun _ => 0)))), ((f_23 28), .inl (cT 0, 4001, .inl (fun _ => 0))), ((f_23 29), .inl (cT 0, 4001, .inl (fun _ => 0))), ((f_23 31), .inl (cT 1, 1602, .inr (.inl (fun _ => 0)))), ((f_23 32), .inl (cT 0, 4806, .inl (fun _ => 0))), ((f_23 33), .inl (cT 0, 2, .inl (fun _ => 0))), ((f_23 34), .inl (cT 0, 1602, .inl (fun _ => 0))), ((f_23 35), .inl (cT 0, 1602, .inl (fun _ => 0))), ((f_23 36), .inl (cT 1, 800, .inr (.inl (fun _ => 0)))), ((f_23 37), .inl (cT 1, 800, .inr (.inl (fun _ => 0)))), ((f_23 38), .inl (cT 0, 10400, .inl (fun _ => 0))), ((f_23 39), .inl (cT 0, 800, .inl (fun _ => 0))), ((f_23 40), .inl (cT 0, 800, .inl (fun _ => 0))), ((f_23 41), .inl (cT 0, 16384, .inl (fun _ => 0))), ((f_23 42), .inl (cT 0, 131, .inl (fun _ => 0)))] := hD
    refine lv_astore_n (lv' := [(2, .ref q_20), (1, .ref q_1), (0, .ref b)]) hx hb dL_law_15 rfl hl (by decide) rfl (fun ls hl => ?_)
    refine lv_iconst (v := 0) hx hb dL_law_16 (by decide) ?_
    refine lv_istore_n (lv' := [(3, .int 0), (2, .ref q_20), (1, .ref q_1), (0, .ref b)]) hx hb dL_law_17 rfl hl (by decide) rfl (fun ls hl => ?_)
    have hP : va_P g vwCl [(q_1, .inr (11, [.ref u_4, .ref u_5, .ref u_6, .int 0, .ref u_7, .ref u_8, .ref u_9, .ref u_10, .ref u_11, .null, .null])), (u_4, .inl (cT 3, 2, .inr (.inr (.inr (.inr (va_up (va_up (fun _ => none) 0 (some u_12)) 1 (some u_13))))))), (u_12, .inr (6, [.int 1, .int 0, .int 0, .int 0, .ref u_14])), (u_14, .inl (cT 0, 25, .inl (fun _ => (-1)))), (u_13, .inr (6, [.int 1, .int 0, .int 0, .int 0, .ref u_15])), (u_15, .inl (cT 0, 25, .inl (fun _ => (-1)))), (u_5, .inr (9, [.ref u_16, .int 0, .int 0, .int 0, .int 0, .int 0, .int 0, .int 0, .int 0])), (u_16, .inl (cT 0, 160, .inl (fun _ => 0))), (u_6, .inl (cT 0, 24, .inl (fun _ => 0))), (u_7, .inr (10, [.ref u_17, .ref u_18, .int 0, .int 0, .int 0, .int 0, .int 0])), (u_17, .inl (cT 1, 5, .inr (.inl (fun _ => 0)))), (u_18, .inl (cT 0, 130, .inl (fun _ => 0))), (u_8, .inr (7, [.ref u_19, .int 0])), (u_19, .inl (cT 0, 7, .inl (fun _ => 0))), (u_9, .inl (cT 4, 2, .inr (.inr (.inr (.inr (fun _ => none)))))), (u_10, .inl (cT 5, 2, .inr (.inr (.inr (.inr (fun _ => none)))))), (u_11, .inl (cT 6, 2, .inr (.inr (.inr (.inr (fun _ => none)))))), (q_20, .inr (12, [.ref (f_23 0), .ref (f_23 1), .ref (f_23 2), .ref (f_23 3), .ref (f_23 4), .ref (f_23 5), .int 0, .ref (f_23 7), .ref (f_23 8), .ref (f_23 9), .ref (f_23 10), .ref (f_23 11), .int 0, .ref (f_23 13), .int 0, .int 0, .int 0, .int 0, .ref (f_23 18), .int 0, .ref (f_23 20), .int 0, .int 0, .int 0, .int 0, .ref (f_23 25), .int 0, .ref (f_23 27), .ref (f_23 28), .ref (f_23 29), .int 0, .ref (f_23 31), .ref (f_23 32), .ref (f_23 33), .ref (f_23 34), .ref (f_23 35), .ref (f_23 36), .ref (f_23 37), .ref (f_23 38), .ref (f_23 39), .ref (f_23 40), .ref (f_23 41), .ref (f_23 42)])), ((f_23 0), .inl (cT 0, 2, .inl (fun _ => 1))), ((f_23 1), .inl (cT 0, 2, .inl (fun _ => 0))), ((f_23 2), .inl (cT 0, 50, .inl (fun _ => (-1)))), ((f_23 3), .inl (cT 0, 50, .inl (fun _ => 0))), ((f_23 4), .inl (cT 0, 50, .inl (fun _ => 0))), ((f_23 5), .inl (cT 0, 160, .inl (fun _ => 0))), ((f_23 7), .inl (cT 0, 40, .inl (fun _ => 0))), ((f_23 8), .inl (cT 0, 40, .inl (fun _ => 0))), ((f_23 9), .inl (cT 0, 40, .inl (fun _ => 0))), ((f_23 10), .inl (cT 0, 40, .inl (fun _ => 0))), ((f_23 11), .inl (cT 0, 40, .inl (fun _ => 0))), ((f_23 13), .inl (cT 0, 24, .inl (fun _ => 0))), ((f_23 18), .inl (cT 0, 24, .inl (fun _ => 0))), ((f_23 20), .inl (cT 2, 130, .inl (fun _ => 0))), ((f_23 25), .inl (cT 0, 131, .inl (fun _ => 0))), ((f_23 27), .inl (cT 1, 4001, .inr (.inl (fun _ => 0)))), ((f_23 28), .inl (cT 0, 4001, .inl (fun _ => 0))), ((f_23 29), .inl (cT 0, 4001, .inl (fun _ => 0))), ((f_23 31), .inl (cT 1, 1602, .inr (.inl (fun _ => 0)))), ((f_23 32), .inl (cT 0, 4806, .inl (fun _ => 0))), ((f_23 33), .inl (cT 0, 2, .inl (fun _ => 0))), ((f_23 34), .inl (cT 0, 1602, .inl (fun _ => 0))), ((f_23 35), .inl (cT 0, 1602, .inl (fun _ => 0))), ((f_23 36), .inl (cT 1, 800, .inr (.inl (fun _ => 0)))), ((f_23 37), .inl (cT 1, 800, .inr (.inl (fun _ => 0)))), ((f_23 38), .inl (cT 0, 10400, .inl (fun _ => 0))), ((f_23 39), .inl (cT 0, 800, .inl (fun _ => 0))), ((f_23 40), .inl (cT 0, 800, .inl (fun _ => 0))), ((f_23 41), .inl (cT 0, 16384, .inl (fun _ => 0))), ((f_23 42), .inl (cT 0, 131, .inl (fun _ => 0)))] H := hP
    have hD : va_D A [(q_1, .inr (11, [.ref u_4, .ref u_5, .ref u_6, .int 0, .ref u_7, .ref u_8, .ref u_9, .ref u_10, .ref u_11, .null, .null])), (u_4, .inl (cT 3, 2, .inr (.inr (.inr (.inr (va_up (va_up (fun _ => none) 0 (some u_12)) 1 (some u_13))))))), (u_12, .inr (6, [.int 1, .int 0, .int 0, .int 0, .ref u_14])), (u_14, .inl (cT 0, 25, .inl (fun _ => (-1)))), (u_13, .inr (6, [.int 1, .int 0, .int 0, .int 0, .ref u_15])), (u_15, .inl (cT 0, 25, .inl (fun _ => (-1)))), (u_5, .inr (9, [.ref u_16, .int 0, .int 0, .int 0, .int 0, .int 0, .int 0, .int 0, .int 0])), (u_16, .inl (cT 0, 160, .inl (fun _ => 0))), (u_6, .inl (cT 0, 24, .inl (fun _ => 0))), (u_7, .inr (10, [.ref u_17, .ref u_18, .int 0, .int 0, .int 0, .int 0, .int 0])), (u_17, .inl (cT 1, 5, .inr (.inl (fun _ => 0)))), (u_18, .inl (cT 0, 130, .inl (fun _ => 0))), (u_8, .inr (7, [.ref u_19, .int 0])), (u_19, .inl (cT 0, 7, .inl (fun _ => 0))), (u_9, .inl (cT 4, 2, .inr (.inr (.inr (.inr (fun _ => none)))))), (u_10, .inl (cT 5, 2, .inr (.inr (.inr (.inr (fun _ => none)))))), (u_11, .inl (cT 6, 2, .inr (.inr (.inr (.inr (fun _ => none)))))), (q_20, .inr (12, [.ref (f_23 0), .ref (f_23 1), .ref (f_23 2), .ref (f_23 3), .ref (f_23 4), .ref (f_23 5), .int 0, .ref (f_23 7), .ref (f_23 8), .ref (f_23 9), .ref (f_23 10), .ref (f_23 11), .int 0, .ref (f_23 13), .int 0, .int 0, .int 0, .int 0, .ref (f_23 18), .int 0, .ref (f_23 20), .int 0, .int 0, .int 0, .int 0, .ref (f_23 25), .int 0, .ref (f_23 27), .ref (f_23 28), .ref (f_23 29), .int 0, .ref (f_23 31), .ref (f_23 32), .ref (f_23 33), .ref (f_23 34), .ref (f_23 35), .ref (f_23 36), .ref (f_23 37), .ref (f_23 38), .ref (f_23 39), .ref (f_23 40), .ref (f_23 41), .ref (f_23 42)])), ((f_23 0), .inl (cT 0, 2, .inl (fun _ => 1))), ((f_23 1), .inl (cT 0, 2, .inl (fun _ => 0))), ((f_23 2), .inl (cT 0, 50, .inl (fun _ => (-1)))), ((f_23 3), .inl (cT 0, 50, .inl (fun _ => 0))), ((f_23 4), .inl (cT 0, 50, .inl (fun _ => 0))), ((f_23 5), .inl (cT 0, 160, .inl (fun _ => 0))), ((f_23 7), .inl (cT 0, 40, .inl (fun _ => 0))), ((f_23 8), .inl (cT 0, 40, .inl (fun _ => 0))), ((f_23 9), .inl (cT 0, 40, .inl (fun _ => 0))), ((f_23 10), .inl (cT 0, 40, .inl (fun _ => 0))), ((f_23 11), .inl (cT 0, 40, .inl (fun _ => 0))), ((f_23 13), .inl (cT 0, 24, .inl (fun _ => 0))), ((f_23 18), .inl (cT 0, 24, .inl (fun _ => 0))), ((f_23 20), .inl (cT 2, 130, .inl (fun _ => 0))), ((f_23 25), .inl (cT 0, 131, .inl (fun _ => 0))), ((f_23 27), .inl (cT 1, 4001, .inr (.inl (fun _ => 0)))), ((f_23 28), .inl (cT 0, 4001, .inl (fun _ => 0))), ((f_23 29), .inl (cT 0, 4001, .inl (fun _ => 0))), ((f_23 31), .inl (cT 1, 1602, .inr (.inl (fun _ => 0)))), ((f_23 32), .inl (cT 0, 4806, .inl (fun _ => 0))), ((f_23 33), .inl (cT 0, 2, .inl (fun _ => 0))), ((f_23 34), .inl (cT 0, 1602, .inl (fun _ => 0))), ((f_23 35), .inl (cT 0, 1602, .inl (fun _ => 0))), ((f_23 36), .inl (cT 1, 800, .inr (.inl (fun _ => 0)))), ((f_23 37), .inl (cT 1, 800, .inr (.inl (fun _ => 0)))), ((f_23 38), .inl (cT 0, 10400, .inl (fun _ => 0))), ((f_23 39), .inl (cT 0, 800, .inl (fun _ => 0))), ((f_23 40), .inl (cT 0, 800, .inl (fun _ => 0))), ((f_23 41), .inl (cT 0, 16384, .inl (fun _ => 0))), ((f_23 42), .inl (cT 0, 131, .inl (fun _ => 0)))] := hD
    rcases Nat.lt_or_ge L 5 with hL5 | hL5
    · skip
      refine lv_iload_n hx hb dL_law_18 rfl (lv_at hl 0 rfl) ?_
      refine lv_aload_n hx hb dL_law_19 rfl (lv_at hl 3 rfl) ?_
      refine va_slen hx hb hX hbl hbA hS dL_law_20 ?_
      refine lv_iconst (v := 5) hx hb dL_law_21 (by decide) ?_
      refine w_isub (v := Int32.ofNat L - 5) hx hb dL_law_22 rfl ?_
      refine icmp_gt_t hx hb 1019 dL_law_23 (by decide) (lm5 hL5) ?_
      refine lv_iconst (v := 1) hx hb dL_law_1019 (by decide) ?_
      refine va_forget (fun q hq => Eq.mp (congrFun hAe q.base) (hS.2.2 q hq)) ?_
      refine W.widen (k := 600000) (n := 7302250) (Nat.le_of_ble_eq_true rfl) (Nat.le_of_ble_eq_true rfl) ?_
      exact lw_ret hx hb hr hlocks dL_law_1020
    · skip
      obtain rfl : L = 5 := Nat.le_antisymm hL hL5
      refine lv_iload_n hx hb dL_law_18 rfl (lv_at hl 0 rfl) ?_
      refine lv_aload_n hx hb dL_law_19 rfl (lv_at hl 3 rfl) ?_
      refine va_slen hx hb hX hbl hbA hS dL_law_20 ?_
      refine tI 5 (by decide) ?_
      refine lv_iconst (v := 5) hx hb dL_law_21 (by decide) ?_
      refine w_isub (v := 0) hx hb dL_law_22 (by decide) ?_
      refine icmp_gt_f hx hb dL_law_23 1019 (by decide) (by decide) ?_
      refine lv_aload_n hx hb dL_law_26 rfl (lv_at hl 3 rfl) ?_
      refine lv_iload_n hx hb dL_law_27 rfl (lv_at hl 0 rfl) ?_
      refine va_sld hx hb hX hbl hbA hS (inC (by decide)) dL_law_28 ?_
      refine tI (xs 0) (by rfl) ?_
      refine lv_bipush (v := 31) hx hb dL_law_29 (by decide) ?_
      refine w_iand (v := (xs 0) &&& (31 : Int32)) hx hb dL_law_31 rfl ?_
      refine lv_topi (fun op eop => ?_)
      have hl : lv_has ls 4 [(3, .int 0), (2, .ref q_20), (1, .ref q_1), (0, .ref b)] := lv_sub hl [0, 1, 2, 3] rfl
      by_cases ho_0 : op = 0
      · subst ho_0
        refine lv_tableIn (tgt := 148) (off := 116) hx hb dL_law_32 (by decide) (by decide) (by decide) (by decide) ?_
        exact law_0 l hx hb hr hml hown hts hX hbl hlocks hAe hbA hA hK hN hZ hP hD hS hl
      by_cases ho_1 : op = 1
      · subst ho_1
        refine lv_tableIn (tgt := 191) (off := 159) hx hb dL_law_32 (by decide) (by decide) (by decide) (by decide) ?_
        exact law_1 l hx hb hr hml hown hts hX hbl hlocks hAe hbA hA hK hN hZ hP hD hS hl
      by_cases ho_2 : op = 2
      · subst ho_2
        refine lv_tableIn (tgt := 254) (off := 222) hx hb dL_law_32 (by decide) (by decide) (by decide) (by decide) ?_
        exact law_2 l hx hb hr hml hown hts hX hbl hlocks hAe hbA hA hK hN hZ hP hD hS hl
      by_cases ho_3 : op = 3
      · subst ho_3
        refine lv_tableIn (tgt := 267) (off := 235) hx hb dL_law_32 (by decide) (by decide) (by decide) (by decide) ?_
        exact law_3 l hx hb hr hml hown hts hX hbl hlocks hAe hbA hA hK hN hZ hP hD hS hl
      by_cases ho_4 : op = 4
      · subst ho_4
        refine lv_tableIn (tgt := 290) (off := 258) hx hb dL_law_32 (by decide) (by decide) (by decide) (by decide) ?_
        exact law_4 l hx hb hr hml hown hts hX hbl hlocks hAe hbA hA hK hN hZ hP hD hS hl
      by_cases ho_5 : op = 5
      · subst ho_5
        refine lv_tableIn (tgt := 313) (off := 281) hx hb dL_law_32 (by decide) (by decide) (by decide) (by decide) ?_
        exact law_5 l hx hb hr hml hown hts hX hbl hlocks hAe hbA hA hK hN hZ hP hD hS hl
      by_cases ho_6 : op = 6
      · subst ho_6
        refine lv_tableIn (tgt := 366) (off := 334) hx hb dL_law_32 (by decide) (by decide) (by decide) (by decide) ?_
        exact law_6 l hx hb hr hml hown hts hX hbl hlocks hAe hbA hA hK hN hZ hP hD hS hl
      by_cases ho_7 : op = 7
      · subst ho_7
        refine lv_tableIn (tgt := 409) (off := 377) hx hb dL_law_32 (by decide) (by decide) (by decide) (by decide) ?_
        exact law_7 l hx hb hr hml hown hts hX hbl hlocks hAe hbA hA hK hN hZ hP hD hS hl
      by_cases ho_8 : op = 8
      · subst ho_8
        refine lv_tableIn (tgt := 432) (off := 400) hx hb dL_law_32 (by decide) (by decide) (by decide) (by decide) ?_
        exact law_8 l hx hb hr hml hown hts hX hbl hlocks hAe hbA hA hK hN hZ hP hD hS hl
      by_cases ho_9 : op = 9
      · subst ho_9
        refine lv_tableIn (tgt := 495) (off := 463) hx hb dL_law_32 (by decide) (by decide) (by decide) (by decide) ?_
        exact law_9 l hx hb hr hml hown hts hX hbl hlocks hAe hbA hA hK hN hZ hP hD hS hl
      by_cases ho_10 : op = 10
      · subst ho_10
        refine lv_tableIn (tgt := 528) (off := 496) hx hb dL_law_32 (by decide) (by decide) (by decide) (by decide) ?_
        exact law_10 l hx hb hr hml hown hts hX hbl hlocks hAe hbA hA hK hN hZ hP hD hS hl
      by_cases ho_11 : op = 11
      · subst ho_11
        refine lv_tableIn (tgt := 561) (off := 529) hx hb dL_law_32 (by decide) (by decide) (by decide) (by decide) ?_
        exact law_11 l hx hb hr hml hown hts hX hbl hlocks hAe hbA hA hK hN hZ hP hD hS hl
      by_cases ho_12 : op = 12
      · subst ho_12
        refine lv_tableIn (tgt := 604) (off := 572) hx hb dL_law_32 (by decide) (by decide) (by decide) (by decide) ?_
        exact law_12 l hx hb hr hml hown hts hX hbl hlocks hAe hbA hA hK hN hZ hP hD hS hl
      by_cases ho_13 : op = 13
      · subst ho_13
        refine lv_tableIn (tgt := 637) (off := 605) hx hb dL_law_32 (by decide) (by decide) (by decide) (by decide) ?_
        exact law_13 l hx hb hr hml hown hts hX hbl hlocks hAe hbA hA hK hN hZ hP hD hS hl
      by_cases ho_14 : op = 14
      · subst ho_14
        refine lv_tableIn (tgt := 660) (off := 628) hx hb dL_law_32 (by decide) (by decide) (by decide) (by decide) ?_
        exact law_14 l hx hb hr hml hown hts hX hbl hlocks hAe hbA hA hK hN hZ hP hD hS hl
      by_cases ho_15 : op = 15
      · subst ho_15
        refine lv_tableIn (tgt := 693) (off := 661) hx hb dL_law_32 (by decide) (by decide) (by decide) (by decide) ?_
        exact law_15 l hx hb hr hml hown hts hX hbl hlocks hAe hbA hA hK hN hZ hP hD hS hl
      by_cases ho_16 : op = 16
      · subst ho_16
        refine lv_tableIn (tgt := 746) (off := 714) hx hb dL_law_32 (by decide) (by decide) (by decide) (by decide) ?_
        exact law_16 l hx hb hr hml hown hts hX hbl hlocks hAe hbA hA hK hN hZ hP hD hS hl
      by_cases ho_17 : op = 17
      · subst ho_17
        refine lv_tableIn (tgt := 769) (off := 737) hx hb dL_law_32 (by decide) (by decide) (by decide) (by decide) ?_
        exact law_17 l hx hb hr hml hown hts hX hbl hlocks hAe hbA hA hK hN hZ hP hD hS hl
      by_cases ho_18 : op = 18
      · subst ho_18
        refine lv_tableIn (tgt := 792) (off := 760) hx hb dL_law_32 (by decide) (by decide) (by decide) (by decide) ?_
        exact law_18 l hx hb hr hml hown hts hX hbl hlocks hAe hbA hA hK hN hZ hP hD hS hl
      by_cases ho_19 : op = 19
      · subst ho_19
        refine lv_tableIn (tgt := 835) (off := 803) hx hb dL_law_32 (by decide) (by decide) (by decide) (by decide) ?_
        exact law_19 l hx hb hr hml hown hts hX hbl hlocks hAe hbA hA hK hN hZ hP hD hS hl
      by_cases ho_20 : op = 20
      · subst ho_20
        refine lv_tableIn (tgt := 868) (off := 836) hx hb dL_law_32 (by decide) (by decide) (by decide) (by decide) ?_
        exact law_20 l hx hb hr hml hown hts hX hbl hlocks hAe hbA hA hK hN hZ hP hD hS hl
      by_cases ho_21 : op = 21
      · subst ho_21
        refine lv_tableIn (tgt := 901) (off := 869) hx hb dL_law_32 (by decide) (by decide) (by decide) (by decide) ?_
        exact law_21 l hx hb hr hml hown hts hX hbl hlocks hAe hbA hA hK hN hZ hP hD hS hl
      by_cases ho_22 : op = 22
      · subst ho_22
        refine lv_tableIn (tgt := 924) (off := 892) hx hb dL_law_32 (by decide) (by decide) (by decide) (by decide) ?_
        exact law_22 l hx hb hr hml hown hts hX hbl hlocks hAe hbA hA hK hN hZ hP hD hS hl
      by_cases ho_23 : op = 23
      · subst ho_23
        refine lv_tableIn (tgt := 957) (off := 925) hx hb dL_law_32 (by decide) (by decide) (by decide) (by decide) ?_
        exact law_23 l hx hb hr hml hown hts hX hbl hlocks hAe hbA hA hK hN hZ hP hD hS hl
      by_cases ho_24 : op = 24
      · subst ho_24
        refine lv_tableIn (tgt := 990) (off := 958) hx hb dL_law_32 (by decide) (by decide) (by decide) (by decide) ?_
        exact law_24 l hx hb hr hml hown hts hX hbl hlocks hAe hbA hA hK hN hZ hP hD hS hl
      refine lv_tableOut (tgt := 1013) hx hb dL_law_32 (lf_start_0 op ho_0 ho_1 ho_2 ho_3 ho_4 ho_5 ho_6 ho_7 ho_8 ho_9 ho_10 ho_11 ho_12 ho_13 ho_14 ho_15 ho_16 ho_17 ho_18 ho_19 ho_20 ho_21 ho_22 ho_23 ho_24) (by decide) ?_
      refine lv_iinc (v := 5) (lv' := [(3, .int 5), (2, .ref q_20), (1, .ref q_1), (0, .ref b)]) hx hb dL_law_1013 hl (k := 0) rfl (by decide) (by decide) rfl (fun ls hl => ?_)
      refine lv_goto (tgt := 18) hx hb dL_law_1016 (by decide) ?_
      refine lv_iload_n hx hb dL_law_18 rfl (lv_at hl 0 rfl) ?_
      refine lv_aload_n hx hb dL_law_19 rfl (lv_at hl 3 rfl) ?_
      refine va_slen hx hb hX hbl hbA hS dL_law_20 ?_
      refine tI 5 (by decide) ?_
      refine lv_iconst (v := 5) hx hb dL_law_21 (by decide) ?_
      refine w_isub (v := 0) hx hb dL_law_22 (by decide) ?_
      refine icmp_gt_t hx hb 1019 dL_law_23 (by decide) (by decide) ?_
      refine lv_iconst (v := 1) hx hb dL_law_1019 (by decide) ?_
      refine va_forget (fun q hq => Eq.mp (congrFun hAe q.base) (hS.2.2 q hq)) ?_
      refine W.widen (k := 600000) (n := 7302250) (Nat.le_of_ble_eq_true rfl) (Nat.le_of_ble_eq_true rfl) ?_
      exact lw_ret hx hb hr hlocks dL_law_1020
  rw [hH, hlo] at hgo
  exact hgo
