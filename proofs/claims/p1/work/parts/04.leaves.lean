set_option maxHeartbeats 4000000 in
set_option maxRecDepth 100000 in
theorem k_X8_isField (l : Launch) (D : va_G) (kI kZ kJ : ClassId)  (x : Int32) : Met l yX8_isField wsX8_isField ({ frames := 0, cells := 0, slots := 0, locals := 0 }) (qR D kI kZ kJ [] [.int x]) (vp_Si (fun r : Int32 => (x < 0 ∨ (64 : Int32) ≤ x → r = 0) ∧ (¬ x < 0 → ¬ (64 : Int32) ≤ x → r = 1))) 0 0 (fun _ => False) := by
  refine Met.ofW (cc := cX8_isField) (maxL := 1) (ret := (some .boolean)) (by decide) rfl ?_
  intro p e s m args below meth c s₁ B hml hv
  obtain ⟨rfl, hP, hK, hN⟩ := hv
  have hx := B.exec
  have hb := B.bytes
  have hr := B.returns
  have hts := atoms_spec (ws := wsX8_isField) B.pre
  have hown : s.vm.findClass RX8 = some m.cls := findClass_of_methodNamed B.named
  have hlocks := B.notSynchronized
  have hP : va_P D vwCl [] s.heap := hP
  have hl := lv_entry ([.int x]) (n := 1) (Nat.le_of_ble_eq_true rfl)
  rw [lg_entry_eq]
  generalize (lg_sl ([.int x]) ++ List.replicate (1 - (lg_sl ([.int x])).length) Slot.unset).toArray = ls at hl ⊢
  have hl : lv_has ls 1 [(0, .int x)] := hl
  refine lv_iload_n hx hb dX8_isField_0 rfl (lv_at hl 0 rfl) ?_
  refine lv_if_lt (tgt := 14) hx hb dX8_isField_1 (by decide) (fun c_1 => ?_) (fun c_1 => ?_)
  · skip
    refine lv_iconst (v := 0) hx hb dX8_isField_14 (by decide) ?_
    exact W.zret (v := 0) (ty := .boolean) hx hb hr rfl (fun t ht hW => ⟨_, rfl, (by refine ⟨fun h => ?_, fun h1 h2 => ?_⟩ <;> first | rfl | contradiction | (rcases h with h | h <;> contradiction)), ht⟩) (fun q hq => by cases hq) dX8_isField_15
  · skip
    refine lv_iload_n hx hb dX8_isField_4 rfl (lv_at hl 0 rfl) ?_
    refine lv_bipush (v := 64) hx hb dX8_isField_5 (by decide) ?_
    refine lv_icmp_ge (tgt := 14) hx hb dX8_isField_7 (by decide) (fun c_2 => ?_) (fun c_2 => ?_)
    · skip
      refine lv_iconst (v := 0) hx hb dX8_isField_14 (by decide) ?_
      exact W.zret (v := 0) (ty := .boolean) hx hb hr rfl (fun t ht hW => ⟨_, rfl, (by refine ⟨fun h => ?_, fun h1 h2 => ?_⟩ <;> first | rfl | contradiction | (rcases h with h | h <;> contradiction)), ht⟩) (fun q hq => by cases hq) dX8_isField_15
    · skip
      refine lv_iconst (v := 1) hx hb dX8_isField_10 (by decide) ?_
      refine lv_goto (tgt := 15) hx hb dX8_isField_11 (by decide) ?_
      exact W.zret (v := 1) (ty := .boolean) hx hb hr rfl (fun t ht hW => ⟨_, rfl, (by refine ⟨fun h => ?_, fun h1 h2 => ?_⟩ <;> first | rfl | contradiction | (rcases h with h | h <;> contradiction)), ht⟩) (fun q hq => by cases hq) dX8_isField_15
set_option maxHeartbeats 4000000 in
set_option maxRecDepth 100000 in
theorem k_X8_isWay (l : Launch) (D : va_G) (kI kZ kJ : ClassId)  (x : Int32) : Met l yX8_isWay wsX8_isWay ({ frames := 0, cells := 0, slots := 0, locals := 0 }) (qR D kI kZ kJ [] [.int x]) (vp_Si (fun r : Int32 => q_way x ∧ r = 1 ∨ ¬ q_way x ∧ r = 0)) 0 0 (fun _ => False) := by
  refine Met.ofW (cc := cX8_isWay) (maxL := 1) (ret := (some .boolean)) (by decide) rfl ?_
  intro p e s m args below meth c s₁ B hml hv
  obtain ⟨rfl, hP, hK, hN⟩ := hv
  have hx := B.exec
  have hb := B.bytes
  have hr := B.returns
  have hts := atoms_spec (ws := wsX8_isWay) B.pre
  have hown : s.vm.findClass RX8 = some m.cls := findClass_of_methodNamed B.named
  have hlocks := B.notSynchronized
  have hP : va_P D vwCl [] s.heap := hP
  have hl := lv_entry ([.int x]) (n := 1) (Nat.le_of_ble_eq_true rfl)
  rw [lg_entry_eq]
  generalize (lg_sl ([.int x]) ++ List.replicate (1 - (lg_sl ([.int x])).length) Slot.unset).toArray = ls at hl ⊢
  have hl : lv_has ls 1 [(0, .int x)] := hl
  refine lv_iload_n hx hb dX8_isWay_0 rfl (lv_at hl 0 rfl) ?_
  refine lv_if_lt (tgt := 13) hx hb dX8_isWay_1 (by decide) (fun c_1 => ?_) (fun c_1 => ?_)
  · skip
    refine lv_iconst (v := 0) hx hb dX8_isWay_13 (by decide) ?_
    exact W.zret (v := 0) (ty := .boolean) hx hb hr rfl (fun t ht hW => ⟨_, rfl, (by first | exact Or.inr ⟨fun h => by obtain ⟨h1, h2⟩ := h; contradiction, rfl⟩ | exact Or.inl ⟨⟨by assumption, by assumption⟩, rfl⟩), ht⟩) (fun q hq => by cases hq) dX8_isWay_14
  · skip
    refine lv_iload_n hx hb dX8_isWay_4 rfl (lv_at hl 0 rfl) ?_
    refine lv_iconst (v := 4) hx hb dX8_isWay_5 (by decide) ?_
    refine lv_icmp_ge (tgt := 13) hx hb dX8_isWay_6 (by decide) (fun c_2 => ?_) (fun c_2 => ?_)
    · skip
      refine lv_iconst (v := 0) hx hb dX8_isWay_13 (by decide) ?_
      exact W.zret (v := 0) (ty := .boolean) hx hb hr rfl (fun t ht hW => ⟨_, rfl, (by first | exact Or.inr ⟨fun h => by obtain ⟨h1, h2⟩ := h; contradiction, rfl⟩ | exact Or.inl ⟨⟨by assumption, by assumption⟩, rfl⟩), ht⟩) (fun q hq => by cases hq) dX8_isWay_14
    · skip
      refine lv_iconst (v := 1) hx hb dX8_isWay_9 (by decide) ?_
      refine lv_goto (tgt := 14) hx hb dX8_isWay_10 (by decide) ?_
      exact W.zret (v := 1) (ty := .boolean) hx hb hr rfl (fun t ht hW => ⟨_, rfl, (by first | exact Or.inr ⟨fun h => by obtain ⟨h1, h2⟩ := h; contradiction, rfl⟩ | exact Or.inl ⟨⟨by assumption, by assumption⟩, rfl⟩), ht⟩) (fun q hq => by cases hq) dX8_isWay_14
set_option maxHeartbeats 4000000 in
set_option maxRecDepth 100000 in
theorem k_X9_isWay (l : Launch) (D : va_G) (kI kZ kJ : ClassId)  (x : Int32) : Met l yX9_isWay wsX9_isWay ({ frames := 0, cells := 0, slots := 0, locals := 0 }) (qR D kI kZ kJ [] [.int x]) (vp_Si (fun r : Int32 => q_way x ∧ r = 1 ∨ ¬ q_way x ∧ r = 0)) 0 0 (fun _ => False) := by
  refine Met.ofW (cc := cX9_isWay) (maxL := 1) (ret := (some .boolean)) (by decide) rfl ?_
  intro p e s m args below meth c s₁ B hml hv
  obtain ⟨rfl, hP, hK, hN⟩ := hv
  have hx := B.exec
  have hb := B.bytes
  have hr := B.returns
  have hts := atoms_spec (ws := wsX9_isWay) B.pre
  have hown : s.vm.findClass RX9 = some m.cls := findClass_of_methodNamed B.named
  have hlocks := B.notSynchronized
  have hP : va_P D vwCl [] s.heap := hP
  have hl := lv_entry ([.int x]) (n := 1) (Nat.le_of_ble_eq_true rfl)
  rw [lg_entry_eq]
  generalize (lg_sl ([.int x]) ++ List.replicate (1 - (lg_sl ([.int x])).length) Slot.unset).toArray = ls at hl ⊢
  have hl : lv_has ls 1 [(0, .int x)] := hl
  refine lv_iload_n hx hb dX9_isWay_0 rfl (lv_at hl 0 rfl) ?_
  refine lv_if_lt (tgt := 13) hx hb dX9_isWay_1 (by decide) (fun c_1 => ?_) (fun c_1 => ?_)
  · skip
    refine lv_iconst (v := 0) hx hb dX9_isWay_13 (by decide) ?_
    exact W.zret (v := 0) (ty := .boolean) hx hb hr rfl (fun t ht hW => ⟨_, rfl, (by first | exact Or.inr ⟨fun h => by obtain ⟨h1, h2⟩ := h; contradiction, rfl⟩ | exact Or.inl ⟨⟨by assumption, by assumption⟩, rfl⟩), ht⟩) (fun q hq => by cases hq) dX9_isWay_14
  · skip
    refine lv_iload_n hx hb dX9_isWay_4 rfl (lv_at hl 0 rfl) ?_
    refine lv_iconst (v := 4) hx hb dX9_isWay_5 (by decide) ?_
    refine lv_icmp_ge (tgt := 13) hx hb dX9_isWay_6 (by decide) (fun c_2 => ?_) (fun c_2 => ?_)
    · skip
      refine lv_iconst (v := 0) hx hb dX9_isWay_13 (by decide) ?_
      exact W.zret (v := 0) (ty := .boolean) hx hb hr rfl (fun t ht hW => ⟨_, rfl, (by first | exact Or.inr ⟨fun h => by obtain ⟨h1, h2⟩ := h; contradiction, rfl⟩ | exact Or.inl ⟨⟨by assumption, by assumption⟩, rfl⟩), ht⟩) (fun q hq => by cases hq) dX9_isWay_14
    · skip
      refine lv_iconst (v := 1) hx hb dX9_isWay_9 (by decide) ?_
      refine lv_goto (tgt := 14) hx hb dX9_isWay_10 (by decide) ?_
      exact W.zret (v := 1) (ty := .boolean) hx hb hr rfl (fun t ht hW => ⟨_, rfl, (by first | exact Or.inr ⟨fun h => by obtain ⟨h1, h2⟩ := h; contradiction, rfl⟩ | exact Or.inl ⟨⟨by assumption, by assumption⟩, rfl⟩), ht⟩) (fun q hq => by cases hq) dX9_isWay_14
set_option maxHeartbeats 4000000 in
set_option maxRecDepth 100000 in
theorem k_X8_has (l : Launch) (D : va_G) (kI kZ kJ : ClassId)  (n : Nat) (hn : n < 64) : Met l yX8_has wsX8_has ({ frames := 1, cells := 0, slots := 0, locals := 20 }) (qR D kI kZ kJ [] [.long 0, .int (nI n)]) (vp_Si (fun r : Int32 => r = 0)) 0 0 (fun _ => False) := by
  refine Met.ofW (cc := cX8_has) (maxL := 3) (ret := (some .boolean)) (by decide) rfl ?_
  intro p e s m args below meth c s₁ B hml hv
  obtain ⟨rfl, hP, hK, hN⟩ := hv
  have hx := B.exec
  have hb := B.bytes
  have hr := B.returns
  have hts := atoms_spec (ws := wsX8_has) B.pre
  have hown : s.vm.findClass RX8 = some m.cls := findClass_of_methodNamed B.named
  have hlocks := B.notSynchronized
  have hP : va_P D vwCl [] s.heap := hP
  have hl := lv_entry ([.long 0, .int (nI n)]) (n := 3) (Nat.le_of_ble_eq_true rfl)
  rw [lg_entry_eq]
  generalize (lg_sl ([.long 0, .int (nI n)]) ++ List.replicate (3 - (lg_sl ([.long 0, .int (nI n)])).length) Slot.unset).toArray = ls at hl ⊢
  have hl : lv_has ls 3 [(0, .long 0), (2, .int (nI n))] := hl
  refine lv_iload_n hx hb dX8_has_0 rfl (lv_at hl 1 rfl) ?_
  refine vp_callSi (qS_R (n := 1) (As := [.int (nI n)]) (rest := []) (wc := []) ⟨hx, hb, hml, hown, hts⟩ hK hN hP [] rfl (k_X8_isField l D kI kZ kJ (nI n)) gX8_has_X8_isField rfl rfl rfl (by decide +kernel) ⟨(Nat.le_of_ble_eq_true rfl), (Nat.le_of_ble_eq_true rfl)⟩ rfl hl.1 rfl (Nat.le_of_ble_eq_true rfl) dX8_has_1 ⟨(Nat.le_of_ble_eq_true rfl), (Nat.le_of_ble_eq_true rfl)⟩).run (fun r hw => ?_)
  obtain ⟨hw0, hw1⟩ := hw
  obtain rfl := hw1 (nI_pos (by have := hn; omega)) (nI_ge (b := 64) (by have := hn; omega) (by decide))
  refine lv_if_eq (tgt := 21) hx hb dX8_has_4 (by decide) (fun h9 => absurd h9 (by decide : ¬ ((1 : Int32) = (0 : Int32)))) (fun _ => ?_)
  refine lv_lload_n hx hb dX8_has_7 rfl (lv_at hl 0 rfl) ?_
  refine lv_iload_n hx hb dX8_has_8 rfl (lv_at hl 1 rfl) ?_
  refine lv_lushr (v := 0) hx hb dX8_has_9 (q_shr0 _) ?_
  refine lv_lconst (v := 1) hx hb dX8_has_10 (by decide) ?_
  refine lv_land hx hb dX8_has_11 ?_
  refine lv_topl (fun z_1 ez_1 => ?_)
  obtain rfl : z_1 = 0 := ez_1.trans (by decide)
  refine lv_lconst (v := 0) hx hb dX8_has_12 (by decide) ?_
  refine W.lcmp hx hb dX8_has_13 ?_
  refine lv_topi (fun z_2 ez_2 => ?_)
  obtain rfl : z_2 = 0 := ez_2.trans (by decide)
  refine lv_if_eq (tgt := 21) hx hb dX8_has_14 (by decide) (fun _ => ?_) (fun h9 => absurd (by decide : (0 : Int32) = (0 : Int32)) h9)
  refine lv_iconst (v := 0) hx hb dX8_has_21 (by decide) ?_
  exact W.zret (v := 0) (ty := .boolean) hx hb hr rfl (fun t ht hW => ⟨_, rfl, rfl, ht⟩) (fun q hq => by cases hq) dX8_has_22
set_option maxHeartbeats 4000000 in
set_option maxRecDepth 100000 in
theorem k_X8_with (l : Launch) (D : va_G) (kI kZ kJ : ClassId)  (n : Nat) (hn : n < 64) : Met l yX8_with wsX8_with ({ frames := 1, cells := 0, slots := 0, locals := 20 }) (qR D kI kZ kJ [] [.long 0, .int (nI n), .int 0]) (vp_Sl (fun r : Int64 => r = 0)) 0 0 (fun _ => False) := by
  refine Met.ofW (cc := cX8_with) (maxL := 6) (ret := (some .long)) (by decide) rfl ?_
  intro p e s m args below meth c s₁ B hml hv
  obtain ⟨rfl, hP, hK, hN⟩ := hv
  have hx := B.exec
  have hb := B.bytes
  have hr := B.returns
  have hts := atoms_spec (ws := wsX8_with) B.pre
  have hown : s.vm.findClass RX8 = some m.cls := findClass_of_methodNamed B.named
  have hlocks := B.notSynchronized
  have hP : va_P D vwCl [] s.heap := hP
  have hl := lv_entry ([.long 0, .int (nI n), .int 0]) (n := 6) (Nat.le_of_ble_eq_true rfl)
  rw [lg_entry_eq]
  generalize (lg_sl ([.long 0, .int (nI n), .int 0]) ++ List.replicate (6 - (lg_sl ([.long 0, .int (nI n), .int 0])).length) Slot.unset).toArray = ls at hl ⊢
  have hl : lv_has ls 6 [(0, .long 0), (2, .int (nI n)), (3, .int 0)] := hl
  refine lv_iload_n hx hb dX8_with_0 rfl (lv_at hl 1 rfl) ?_
  refine vp_callSi (qS_R (n := 1) (As := [.int (nI n)]) (rest := []) (wc := []) ⟨hx, hb, hml, hown, hts⟩ hK hN hP [] rfl (k_X8_isField l D kI kZ kJ (nI n)) gX8_with_X8_isField rfl rfl rfl (by decide +kernel) ⟨(Nat.le_of_ble_eq_true rfl), (Nat.le_of_ble_eq_true rfl)⟩ rfl hl.1 rfl (Nat.le_of_ble_eq_true rfl) dX8_with_1 ⟨(Nat.le_of_ble_eq_true rfl), (Nat.le_of_ble_eq_true rfl)⟩).run (fun r hw => ?_)
  obtain ⟨hw0, hw1⟩ := hw
  obtain rfl := hw1 (nI_pos (by have := hn; omega)) (nI_ge (b := 64) (by have := hn; omega) (by decide))
  refine lv_if_ne (tgt := 9) hx hb dX8_with_4 (by decide) (fun _ => ?_) (fun h9 => absurd h9 (by decide : ¬ (1 : Int32) = (0 : Int32)))
  refine lv_lconst (v := 1) hx hb dX8_with_9 (by decide) ?_
  refine lv_iload_n hx hb dX8_with_10 rfl (lv_at hl 1 rfl) ?_
  refine lv_lshl hx hb dX8_with_11 rfl ?_
  refine lv_topl (fun v_1 ev_1 => ?_)
  refine lv_lstore (lv' := [(4, .long v_1), (0, .long 0), (2, .int (nI n)), (3, .int 0)]) hx hb dX8_with_12 hl (by decide) rfl (fun ls hl => ?_)
  refine lv_iload_n hx hb dX8_with_14 rfl (lv_at hl 3 rfl) ?_
  refine lv_if_eq (tgt := 25) hx hb dX8_with_15 (by decide) (fun _ => ?_) (fun h9 => absurd (by decide : (0 : Int32) = (0 : Int32)) h9)
  refine lv_lload_n hx hb dX8_with_25 rfl (lv_at hl 1 rfl) ?_
  refine lv_lload hx hb dX8_with_26 (lv_at hl 0 rfl) ?_
  refine lv_ldc2 (v := (-1)) hx hb hown (hts (.constantLong RX8 196 (-1)) (by decide +kernel)) dX8_with_28 ?_
  refine lv_lxor hx hb dX8_with_31 ?_
  refine lv_land hx hb dX8_with_32 ?_
  refine lv_topl (fun z_2 ez_2 => ?_)
  obtain rfl : z_2 = 0 := ez_2.trans (q_and0 _)
  exact W.lret (v := 0) hx hb hr (fun t ht hW => ⟨_, rfl, rfl, ht⟩) (fun q hq => by cases hq) dX8_with_33
set_option maxHeartbeats 4000000 in
set_option maxRecDepth 100000 in
theorem k_J13_bitCount_95d88 (l : Launch) (D : va_G) (kI kZ kJ : ClassId)  : Met l yJ13_bitCount_95d88 wsJ13_bitCount_95d88 ({ frames := 0, cells := 0, slots := 0, locals := 0 }) (qR D kI kZ kJ [] [.long 0]) (vp_Si (fun r : Int32 => r = 0)) 0 0 (fun _ => False) := by
  refine Met.ofW (cc := cJ13_bitCount_95d88) (maxL := 2) (ret := (some .int)) (by decide) rfl ?_
  intro p e s m args below meth c s₁ B hml hv
  obtain ⟨rfl, hP, hK, hN⟩ := hv
  have hx := B.exec
  have hb := B.bytes
  have hr := B.returns
  have hts := atoms_spec (ws := wsJ13_bitCount_95d88) B.pre
  have hown : s.vm.findClass RJ13 = some m.cls := findClass_of_methodNamed B.named
  have hlocks := B.notSynchronized
  have hP : va_P D vwCl [] s.heap := hP
  have hl := lv_entry ([.long 0]) (n := 2) (Nat.le_of_ble_eq_true rfl)
  rw [lg_entry_eq]
  generalize (lg_sl ([.long 0]) ++ List.replicate (2 - (lg_sl ([.long 0])).length) Slot.unset).toArray = ls at hl ⊢
  have hl : lv_has ls 2 [(0, .long 0)] := hl
  refine lv_lload_n hx hb dJ13_bitCount_95d88_0 rfl (lv_at hl 0 rfl) ?_
  refine lv_lload_n hx hb dJ13_bitCount_95d88_1 rfl (lv_at hl 0 rfl) ?_
  refine lv_iconst (v := 1) hx hb dJ13_bitCount_95d88_2 (by decide) ?_
  refine lv_lushr (v := 0) hx hb dJ13_bitCount_95d88_3 (by decide) ?_
  refine lv_ldc2 (v := 6148914691236517205) hx hb hown (hts (.constantLong RJ13 314 (6148914691236517205)) (by decide +kernel)) dJ13_bitCount_95d88_4 ?_
  refine lv_land hx hb dJ13_bitCount_95d88_7 ?_
  refine lv_topl (fun z_1 ez_1 => ?_)
  obtain rfl : z_1 = 0 := ez_1.trans (by decide)
  refine lv_lsub hx hb dJ13_bitCount_95d88_8 ?_
  refine lv_topl (fun z_2 ez_2 => ?_)
  obtain rfl : z_2 = 0 := ez_2.trans (by decide)
  refine lv_lstore_n (lv' := [(0, .long 0)]) hx hb dJ13_bitCount_95d88_9 rfl hl (by decide) rfl (fun ls hl => ?_)
  refine lv_lload_n hx hb dJ13_bitCount_95d88_10 rfl (lv_at hl 0 rfl) ?_
  refine lv_ldc2 (v := 3689348814741910323) hx hb hown (hts (.constantLong RJ13 316 (3689348814741910323)) (by decide +kernel)) dJ13_bitCount_95d88_11 ?_
  refine lv_land hx hb dJ13_bitCount_95d88_14 ?_
  refine lv_topl (fun z_3 ez_3 => ?_)
  obtain rfl : z_3 = 0 := ez_3.trans (by decide)
  refine lv_lload_n hx hb dJ13_bitCount_95d88_15 rfl (lv_at hl 0 rfl) ?_
  refine lv_iconst (v := 2) hx hb dJ13_bitCount_95d88_16 (by decide) ?_
  refine lv_lushr (v := 0) hx hb dJ13_bitCount_95d88_17 (by decide) ?_
  refine lv_ldc2 (v := 3689348814741910323) hx hb hown (hts (.constantLong RJ13 316 (3689348814741910323)) (by decide +kernel)) dJ13_bitCount_95d88_18 ?_
  refine lv_land hx hb dJ13_bitCount_95d88_21 ?_
  refine lv_topl (fun z_4 ez_4 => ?_)
  obtain rfl : z_4 = 0 := ez_4.trans (by decide)
  refine lv_ladd hx hb dJ13_bitCount_95d88_22 ?_
  refine lv_topl (fun z_5 ez_5 => ?_)
  obtain rfl : z_5 = 0 := ez_5.trans (by decide)
  refine lv_lstore_n (lv' := [(0, .long 0)]) hx hb dJ13_bitCount_95d88_23 rfl hl (by decide) rfl (fun ls hl => ?_)
  refine lv_lload_n hx hb dJ13_bitCount_95d88_24 rfl (lv_at hl 0 rfl) ?_
  refine lv_lload_n hx hb dJ13_bitCount_95d88_25 rfl (lv_at hl 0 rfl) ?_
  refine lv_iconst (v := 4) hx hb dJ13_bitCount_95d88_26 (by decide) ?_
  refine lv_lushr (v := 0) hx hb dJ13_bitCount_95d88_27 (by decide) ?_
  refine lv_ladd hx hb dJ13_bitCount_95d88_28 ?_
  refine lv_topl (fun z_6 ez_6 => ?_)
  obtain rfl : z_6 = 0 := ez_6.trans (by decide)
  refine lv_ldc2 (v := 1085102592571150095) hx hb hown (hts (.constantLong RJ13 318 (1085102592571150095)) (by decide +kernel)) dJ13_bitCount_95d88_29 ?_
  refine lv_land hx hb dJ13_bitCount_95d88_32 ?_
  refine lv_topl (fun z_7 ez_7 => ?_)
  obtain rfl : z_7 = 0 := ez_7.trans (by decide)
  refine lv_lstore_n (lv' := [(0, .long 0)]) hx hb dJ13_bitCount_95d88_33 rfl hl (by decide) rfl (fun ls hl => ?_)
  refine lv_lload_n hx hb dJ13_bitCount_95d88_34 rfl (lv_at hl 0 rfl) ?_
  refine lv_lload_n hx hb dJ13_bitCount_95d88_35 rfl (lv_at hl 0 rfl) ?_
  refine lv_bipush (v := 8) hx hb dJ13_bitCount_95d88_36 (by decide) ?_
  refine lv_lushr (v := 0) hx hb dJ13_bitCount_95d88_38 (by decide) ?_
  refine lv_ladd hx hb dJ13_bitCount_95d88_39 ?_
  refine lv_topl (fun z_8 ez_8 => ?_)
  obtain rfl : z_8 = 0 := ez_8.trans (by decide)
  refine lv_lstore_n (lv' := [(0, .long 0)]) hx hb dJ13_bitCount_95d88_40 rfl hl (by decide) rfl (fun ls hl => ?_)
  refine lv_lload_n hx hb dJ13_bitCount_95d88_41 rfl (lv_at hl 0 rfl) ?_
  refine lv_lload_n hx hb dJ13_bitCount_95d88_42 rfl (lv_at hl 0 rfl) ?_
  refine lv_bipush (v := 16) hx hb dJ13_bitCount_95d88_43 (by decide) ?_
  refine lv_lushr (v := 0) hx hb dJ13_bitCount_95d88_45 (by decide) ?_
  refine lv_ladd hx hb dJ13_bitCount_95d88_46 ?_
  refine lv_topl (fun z_9 ez_9 => ?_)
  obtain rfl : z_9 = 0 := ez_9.trans (by decide)
  refine lv_lstore_n (lv' := [(0, .long 0)]) hx hb dJ13_bitCount_95d88_47 rfl hl (by decide) rfl (fun ls hl => ?_)
  refine lv_lload_n hx hb dJ13_bitCount_95d88_48 rfl (lv_at hl 0 rfl) ?_
  refine lv_lload_n hx hb dJ13_bitCount_95d88_49 rfl (lv_at hl 0 rfl) ?_
  refine lv_bipush (v := 32) hx hb dJ13_bitCount_95d88_50 (by decide) ?_
  refine lv_lushr (v := 0) hx hb dJ13_bitCount_95d88_52 (by decide) ?_
  refine lv_ladd hx hb dJ13_bitCount_95d88_53 ?_
  refine lv_topl (fun z_10 ez_10 => ?_)
  obtain rfl : z_10 = 0 := ez_10.trans (by decide)
  refine lv_lstore_n (lv' := [(0, .long 0)]) hx hb dJ13_bitCount_95d88_54 rfl hl (by decide) rfl (fun ls hl => ?_)
  refine lv_lload_n hx hb dJ13_bitCount_95d88_55 rfl (lv_at hl 0 rfl) ?_
  refine lv_l2i (v := 0) hx hb dJ13_bitCount_95d88_56 (by decide) ?_
  refine lv_bipush (v := 127) hx hb dJ13_bitCount_95d88_57 (by decide) ?_
  refine lv_iand hx hb dJ13_bitCount_95d88_59 ?_
  refine lv_topi (fun z_11 ez_11 => ?_)
  obtain rfl : z_11 = 0 := ez_11.trans (by decide)
  exact W.iret (v := 0) hx hb hr (fun t ht hW => ⟨_, rfl, rfl, ht⟩) (fun q hq => by cases hq) dJ13_bitCount_95d88_60
set_option maxHeartbeats 4000000 in
set_option maxRecDepth 100000 in
theorem k_X0_numberOf (l : Launch) (D : va_G) (kI kZ kJ : ClassId)  (g kd rw ms : Nat) (bw bh : Nat) (hbw : bw ≤ 8) (hbh : bh ≤ 8) (x y : Int32) : Met l yX0_numberOf wsX0_numberOf ({ frames := 0, cells := 0, slots := 0, locals := 0 }) (qR D kI kZ kJ [(g, .inr (0, [.int (nI bw), .int (nI bh), .long 0, .ref kd, .ref rw, .ref ms]))] [.ref g, .int x, .int y]) (vp_Si (fun r : Int32 => q_in bw bh x y ∧ (∃ n : Nat, n < 64 ∧ r = nI n) ∨ ¬ q_in bw bh x y ∧ r = -1)) 0 0 (fun _ => False) := by
  refine Met.ofW (cc := cX0_numberOf) (maxL := 4) (ret := (some .int)) (by decide) rfl ?_
  intro p e s m args below meth c s₁ B hml hv
  obtain ⟨rfl, hP, hK, hN⟩ := hv
  have hx := B.exec
  have hb := B.bytes
  have hr := B.returns
  have hts := atoms_spec (ws := wsX0_numberOf) B.pre
  have hown : s.vm.findClass RX0 = some m.cls := findClass_of_methodNamed B.named
  have hlocks := B.notSynchronized
  have hP : va_P D vwCl [(g, .inr (0, [.int (nI bw), .int (nI bh), .long 0, .ref kd, .ref rw, .ref ms]))] s.heap := hP
  have hl := lv_entry ([.ref g, .int x, .int y]) (n := 4) (Nat.le_of_ble_eq_true rfl)
  rw [lg_entry_eq]
  generalize (lg_sl ([.ref g, .int x, .int y]) ++ List.replicate (4 - (lg_sl ([.ref g, .int x, .int y])).length) Slot.unset).toArray = ls at hl ⊢
  have hl : lv_has ls 4 [(0, .ref g), (1, .int x), (2, .int y)] := hl
  refine lv_iload_n hx hb dX0_numberOf_0 rfl (lv_at hl 1 rfl) ?_
  refine lv_if_lt (tgt := 28) hx hb dX0_numberOf_1 (by decide) (fun c_1 => ?_) (fun c_1 => ?_)
  · skip
    refine lv_iconst (v := 0) hx hb dX0_numberOf_28 (by decide) ?_
    refine lv_istore_n (lv' := [(3, .int 0), (0, .ref g), (1, .int x), (2, .int y)]) hx hb dX0_numberOf_29 rfl hl (by decide) rfl (fun ls hl => ?_)
    refine lv_iload_n hx hb dX0_numberOf_30 rfl (lv_at hl 0 rfl) ?_
    refine lv_if_eq (tgt := 43) hx hb dX0_numberOf_31 (by decide) (fun _ => ?_) (fun h9 => absurd (by decide : (0 : Int32) = (0 : Int32)) h9)
    refine lv_iconst (v := (-1)) hx hb dX0_numberOf_43 (by decide) ?_
    exact W.iret (v := (-1)) hx hb hr (fun t ht hW => ⟨_, rfl, (by first | exact Or.inr ⟨fun h => by obtain ⟨h1, h2, h3, h4⟩ := h; contradiction, rfl⟩ | exact Or.inl ⟨⟨by assumption, by assumption, by assumption, by assumption⟩, q_num hbw hbh ⟨by assumption, by assumption, by assumption, by assumption⟩⟩), ht⟩) (fun q hq => by cases hq) dX0_numberOf_44
  · skip
    refine lv_iload_n hx hb dX0_numberOf_4 rfl (lv_at hl 1 rfl) ?_
    refine lv_aload_n hx hb dX0_numberOf_5 rfl (lv_at hl 0 rfl) ?_
    refine va_get (D := D) (ci := 0) (v := .int (nI bw)) (C := RX0) (T := TX0) (N := 6) hx hb hts (by decide +kernel) hown hK hP 0 rfl rfl 0 (by decide) (hts (.fieldLink RX0 18 "CellarPushers$Ground" "width" "I") (by decide +kernel)) (fun _ h9 => h9) rfl dX0_numberOf_6 ?_
    refine lv_icmp_ge (tgt := 28) hx hb dX0_numberOf_9 (by decide) (fun c_2 => ?_) (fun c_2 => ?_)
    · skip
      refine lv_iconst (v := 0) hx hb dX0_numberOf_28 (by decide) ?_
      refine lv_istore_n (lv' := [(3, .int 0), (0, .ref g), (1, .int x), (2, .int y)]) hx hb dX0_numberOf_29 rfl hl (by decide) rfl (fun ls hl => ?_)
      refine lv_iload_n hx hb dX0_numberOf_30 rfl (lv_at hl 0 rfl) ?_
      refine lv_if_eq (tgt := 43) hx hb dX0_numberOf_31 (by decide) (fun _ => ?_) (fun h9 => absurd (by decide : (0 : Int32) = (0 : Int32)) h9)
      refine lv_iconst (v := (-1)) hx hb dX0_numberOf_43 (by decide) ?_
      exact W.iret (v := (-1)) hx hb hr (fun t ht hW => ⟨_, rfl, (by first | exact Or.inr ⟨fun h => by obtain ⟨h1, h2, h3, h4⟩ := h; contradiction, rfl⟩ | exact Or.inl ⟨⟨by assumption, by assumption, by assumption, by assumption⟩, q_num hbw hbh ⟨by assumption, by assumption, by assumption, by assumption⟩⟩), ht⟩) (fun q hq => by cases hq) dX0_numberOf_44
    · skip
      refine lv_iload_n hx hb dX0_numberOf_12 rfl (lv_at hl 2 rfl) ?_
      refine lv_if_lt (tgt := 28) hx hb dX0_numberOf_13 (by decide) (fun c_3 => ?_) (fun c_3 => ?_)
      · skip
        refine lv_iconst (v := 0) hx hb dX0_numberOf_28 (by decide) ?_
        refine lv_istore_n (lv' := [(3, .int 0), (0, .ref g), (1, .int x), (2, .int y)]) hx hb dX0_numberOf_29 rfl hl (by decide) rfl (fun ls hl => ?_)
        refine lv_iload_n hx hb dX0_numberOf_30 rfl (lv_at hl 0 rfl) ?_
        refine lv_if_eq (tgt := 43) hx hb dX0_numberOf_31 (by decide) (fun _ => ?_) (fun h9 => absurd (by decide : (0 : Int32) = (0 : Int32)) h9)
        refine lv_iconst (v := (-1)) hx hb dX0_numberOf_43 (by decide) ?_
        exact W.iret (v := (-1)) hx hb hr (fun t ht hW => ⟨_, rfl, (by first | exact Or.inr ⟨fun h => by obtain ⟨h1, h2, h3, h4⟩ := h; contradiction, rfl⟩ | exact Or.inl ⟨⟨by assumption, by assumption, by assumption, by assumption⟩, q_num hbw hbh ⟨by assumption, by assumption, by assumption, by assumption⟩⟩), ht⟩) (fun q hq => by cases hq) dX0_numberOf_44
      · skip
        refine lv_iload_n hx hb dX0_numberOf_16 rfl (lv_at hl 2 rfl) ?_
        refine lv_aload_n hx hb dX0_numberOf_17 rfl (lv_at hl 0 rfl) ?_
        refine va_get (D := D) (ci := 0) (v := .int (nI bh)) (C := RX0) (T := TX0) (N := 6) hx hb hts (by decide +kernel) hown hK hP 0 rfl rfl 1 (by decide) (hts (.fieldLink RX0 24 "CellarPushers$Ground" "height" "I") (by decide +kernel)) (fun _ h9 => h9) rfl dX0_numberOf_18 ?_
        refine lv_icmp_ge (tgt := 28) hx hb dX0_numberOf_21 (by decide) (fun c_4 => ?_) (fun c_4 => ?_)
        · skip
          refine lv_iconst (v := 0) hx hb dX0_numberOf_28 (by decide) ?_
          refine lv_istore_n (lv' := [(3, .int 0), (0, .ref g), (1, .int x), (2, .int y)]) hx hb dX0_numberOf_29 rfl hl (by decide) rfl (fun ls hl => ?_)
          refine lv_iload_n hx hb dX0_numberOf_30 rfl (lv_at hl 0 rfl) ?_
          refine lv_if_eq (tgt := 43) hx hb dX0_numberOf_31 (by decide) (fun _ => ?_) (fun h9 => absurd (by decide : (0 : Int32) = (0 : Int32)) h9)
          refine lv_iconst (v := (-1)) hx hb dX0_numberOf_43 (by decide) ?_
          exact W.iret (v := (-1)) hx hb hr (fun t ht hW => ⟨_, rfl, (by first | exact Or.inr ⟨fun h => by obtain ⟨h1, h2, h3, h4⟩ := h; contradiction, rfl⟩ | exact Or.inl ⟨⟨by assumption, by assumption, by assumption, by assumption⟩, q_num hbw hbh ⟨by assumption, by assumption, by assumption, by assumption⟩⟩), ht⟩) (fun q hq => by cases hq) dX0_numberOf_44
        · skip
          refine lv_iconst (v := 1) hx hb dX0_numberOf_24 (by decide) ?_
          refine lv_goto (tgt := 29) hx hb dX0_numberOf_25 (by decide) ?_
          refine lv_istore_n (lv' := [(3, .int 1), (0, .ref g), (1, .int x), (2, .int y)]) hx hb dX0_numberOf_29 rfl hl (by decide) rfl (fun ls hl => ?_)
          refine lv_iload_n hx hb dX0_numberOf_30 rfl (lv_at hl 0 rfl) ?_
          refine lv_if_eq (tgt := 43) hx hb dX0_numberOf_31 (by decide) (fun h9 => absurd h9 (by decide : ¬ ((1 : Int32) = (0 : Int32)))) (fun _ => ?_)
          refine lv_bipush (v := 8) hx hb dX0_numberOf_34 (by decide) ?_
          refine lv_iload_n hx hb dX0_numberOf_36 rfl (lv_at hl 3 rfl) ?_
          refine lv_imul hx hb dX0_numberOf_37 ?_
          refine lv_iload_n hx hb dX0_numberOf_38 rfl (lv_at hl 2 rfl) ?_
          refine lv_iadd hx hb dX0_numberOf_39 ?_
          refine lv_goto (tgt := 44) hx hb dX0_numberOf_40 (by decide) ?_
          exact W.iret (v := ((8 * y) + x)) hx hb hr (fun t ht hW => ⟨_, rfl, (by first | exact Or.inr ⟨fun h => by obtain ⟨h1, h2, h3, h4⟩ := h; contradiction, rfl⟩ | exact Or.inl ⟨⟨by assumption, by assumption, by assumption, by assumption⟩, q_num hbw hbh ⟨by assumption, by assumption, by assumption, by assumption⟩⟩), ht⟩) (fun q hq => by cases hq) dX0_numberOf_44
set_option maxHeartbeats 4000000 in
set_option maxRecDepth 100000 in
theorem k_X0_kindNow_n (l : Launch) (D : va_G) (kI kZ kJ : ClassId)  (g kd rw ms : Nat) (bw bh : Nat) (hbw : bw ≤ 8) (hbh : bh ≤ 8) (n : Nat) (hn : n < 64) : Met l yX0_kindNow wsX0_kindNow ({ frames := 0, cells := 0, slots := 0, locals := 0 }) (qR D kI kZ kJ [(g, .inr (0, [.int (nI bw), .int (nI bh), .long 0, .ref kd, .ref rw, .ref ms])), (kd, .inl (kI, 64, .inl (fun _ => 0))), (ms, .inl (kZ, 8, .inl (fun _ => 0)))] [.ref g, .int (nI n)]) (vp_Si (fun r : Int32 => r = 0)) 0 0 (fun _ => False) := by
  refine Met.ofW (cc := cX0_kindNow) (maxL := 2) (ret := (some .int)) (by decide) rfl ?_
  intro p e s m args below meth c s₁ B hml hv
  obtain ⟨rfl, hP, hK, hN⟩ := hv
  have hx := B.exec
  have hb := B.bytes
  have hr := B.returns
  have hts := atoms_spec (ws := wsX0_kindNow) B.pre
  have hown : s.vm.findClass RX0 = some m.cls := findClass_of_methodNamed B.named
  have hlocks := B.notSynchronized
  have hP : va_P D vwCl [(g, .inr (0, [.int (nI bw), .int (nI bh), .long 0, .ref kd, .ref rw, .ref ms])), (kd, .inl (kI, 64, .inl (fun _ => 0))), (ms, .inl (kZ, 8, .inl (fun _ => 0)))] s.heap := hP
  have hl := lv_entry ([.ref g, .int (nI n)]) (n := 2) (Nat.le_of_ble_eq_true rfl)
  rw [lg_entry_eq]
  generalize (lg_sl ([.ref g, .int (nI n)]) ++ List.replicate (2 - (lg_sl ([.ref g, .int (nI n)])).length) Slot.unset).toArray = ls at hl ⊢
  have hl : lv_has ls 2 [(0, .ref g), (1, .int (nI n))] := hl
  refine lv_iload_n hx hb dX0_kindNow_0 rfl (lv_at hl 1 rfl) ?_
  refine lv_if_lt (tgt := 22) hx hb dX0_kindNow_1 (by decide) (fun h9 => absurd h9 (by have hq := hn; exact nI_pos (by omega))) (fun _ => ?_)
  refine lv_iload_n hx hb dX0_kindNow_4 rfl (lv_at hl 1 rfl) ?_
  refine lv_bipush (v := 64) hx hb dX0_kindNow_5 (by decide) ?_
  refine lv_icmp_ge (tgt := 22) hx hb dX0_kindNow_7 (by decide) (fun h9 => absurd h9 (by have hq := hn; exact nI_ge (b := 64) (by omega) (by decide))) (fun _ => ?_)
  refine lv_aload_n hx hb dX0_kindNow_10 rfl (lv_at hl 0 rfl) ?_
  refine va_get (D := D) (ci := 0) (v := .ref ms) (C := RX0) (T := TX0) (N := 6) hx hb hts (by decide +kernel) hown hK hP 0 rfl rfl 5 (by decide) (hts (.fieldLink RX0 34 "CellarPushers$Ground" "missing" "[Z") (by decide +kernel)) (fun _ h9 => h9) rfl dX0_kindNow_11 ?_
  refine lv_iload_n hx hb dX0_kindNow_14 rfl (lv_at hl 1 rfl) ?_
  refine lv_bipush (v := 8) hx hb dX0_kindNow_15 (by decide) ?_
  refine lv_idiv hx hb dX0_kindNow_17 (by decide) ?_
  refine lv_topi (fun z_1 ez_1 => ?_)
  obtain rfl : z_1 = nI (n / 8) := ez_1.trans (pk_div (d := 8) (by have := hn; omega) (by decide) (by decide))
  refine va_zald hx hb hK hP 2 1 rfl rfl (vp_in_nI (by have := (show n / 8 < 8 by have := hn; omega); omega) (by decide)) dX0_kindNow_18 ?_
  refine lv_topi (fun z_2 ez_2 => ?_)
  obtain rfl : z_2 = 0 := ez_2
  refine lv_if_eq (tgt := 24) hx hb dX0_kindNow_19 (by decide) (fun _ => ?_) (fun h9 => absurd (by decide : (0 : Int32) = (0 : Int32)) h9)
  refine lv_aload_n hx hb dX0_kindNow_24 rfl (lv_at hl 0 rfl) ?_
  refine va_get (D := D) (ci := 0) (v := .ref kd) (C := RX0) (T := TX0) (N := 6) hx hb hts (by decide +kernel) hown hK hP 0 rfl rfl 3 (by decide) (hts (.fieldLink RX0 27 "CellarPushers$Ground" "kinds" "[I") (by decide +kernel)) (fun _ h9 => h9) rfl dX0_kindNow_25 ?_
  refine lv_iload_n hx hb dX0_kindNow_28 rfl (lv_at hl 1 rfl) ?_
  refine va_iald hx hb hK hP 1 0 rfl rfl (vp_in_nI (by have := hn; omega) (by decide)) dX0_kindNow_29 ?_
  refine lv_topi (fun z_3 ez_3 => ?_)
  obtain rfl : z_3 = 0 := ez_3
  exact W.iret (v := 0) hx hb hr (fun t ht hW => ⟨_, rfl, rfl, ht⟩) (fun q hq => by cases hq) dX0_kindNow_30
set_option maxHeartbeats 4000000 in
set_option maxRecDepth 100000 in
theorem k_X0_kindNow_m (l : Launch) (D : va_G) (kI kZ kJ : ClassId)  (g kd rw ms : Nat) (bw bh : Nat) (hbw : bw ≤ 8) (hbh : bh ≤ 8) : Met l yX0_kindNow wsX0_kindNow ({ frames := 0, cells := 0, slots := 0, locals := 0 }) (qR D kI kZ kJ [(g, .inr (0, [.int (nI bw), .int (nI bh), .long 0, .ref kd, .ref rw, .ref ms])), (kd, .inl (kI, 64, .inl (fun _ => 0))), (ms, .inl (kZ, 8, .inl (fun _ => 0)))] [.ref g, .int (-1)]) (vp_Si (fun r : Int32 => r = 0)) 0 0 (fun _ => False) := by
  refine Met.ofW (cc := cX0_kindNow) (maxL := 2) (ret := (some .int)) (by decide) rfl ?_
  intro p e s m args below meth c s₁ B hml hv
  obtain ⟨rfl, hP, hK, hN⟩ := hv
  have hx := B.exec
  have hb := B.bytes
  have hr := B.returns
  have hts := atoms_spec (ws := wsX0_kindNow) B.pre
  have hown : s.vm.findClass RX0 = some m.cls := findClass_of_methodNamed B.named
  have hlocks := B.notSynchronized
  have hP : va_P D vwCl [(g, .inr (0, [.int (nI bw), .int (nI bh), .long 0, .ref kd, .ref rw, .ref ms])), (kd, .inl (kI, 64, .inl (fun _ => 0))), (ms, .inl (kZ, 8, .inl (fun _ => 0)))] s.heap := hP
  have hl := lv_entry ([.ref g, .int (-1)]) (n := 2) (Nat.le_of_ble_eq_true rfl)
  rw [lg_entry_eq]
  generalize (lg_sl ([.ref g, .int (-1)]) ++ List.replicate (2 - (lg_sl ([.ref g, .int (-1)])).length) Slot.unset).toArray = ls at hl ⊢
  have hl : lv_has ls 2 [(0, .ref g), (1, .int (-1))] := hl
  refine lv_iload_n hx hb dX0_kindNow_0 rfl (lv_at hl 1 rfl) ?_
  refine lv_if_lt (tgt := 22) hx hb dX0_kindNow_1 (by decide) (fun _ => ?_) (fun h9 => absurd (by decide : ((-1) : Int32) < (0 : Int32)) h9)
  refine lv_iconst (v := 0) hx hb dX0_kindNow_22 (by decide) ?_
  exact W.iret (v := 0) hx hb hr (fun t ht hW => ⟨_, rfl, rfl, ht⟩) (fun q hq => by cases hq) dX0_kindNow_23
set_option maxHeartbeats 4000000 in
set_option maxRecDepth 100000 in
theorem k_X0_isForMan (l : Launch) (D : va_G) (kI kZ kJ : ClassId)  (g kd rw ms : Nat) (bw bh : Nat) (hbw : bw ≤ 8) (hbh : bh ≤ 8) (n : Nat) (hn : n < 64) : Met l yX0_isForMan wsX0_isForMan ({ frames := 1, cells := 0, slots := 0, locals := 21 }) (qR D kI kZ kJ [(g, .inr (0, [.int (nI bw), .int (nI bh), .long 0, .ref kd, .ref rw, .ref ms])), (kd, .inl (kI, 64, .inl (fun _ => 0))), (ms, .inl (kZ, 8, .inl (fun _ => 0)))] [.ref g, .int (nI n)]) (vp_Si (fun r : Int32 => r = 0)) 0 0 (fun _ => False) := by
  refine Met.ofW (cc := cX0_isForMan) (maxL := 3) (ret := (some .boolean)) (by decide) rfl ?_
  intro p e s m args below meth c s₁ B hml hv
  obtain ⟨rfl, hP, hK, hN⟩ := hv
  have hx := B.exec
  have hb := B.bytes
  have hr := B.returns
  have hts := atoms_spec (ws := wsX0_isForMan) B.pre
  have hown : s.vm.findClass RX0 = some m.cls := findClass_of_methodNamed B.named
  have hlocks := B.notSynchronized
  have hP : va_P D vwCl [(g, .inr (0, [.int (nI bw), .int (nI bh), .long 0, .ref kd, .ref rw, .ref ms])), (kd, .inl (kI, 64, .inl (fun _ => 0))), (ms, .inl (kZ, 8, .inl (fun _ => 0)))] s.heap := hP
  have hl := lv_entry ([.ref g, .int (nI n)]) (n := 3) (Nat.le_of_ble_eq_true rfl)
  rw [lg_entry_eq]
  generalize (lg_sl ([.ref g, .int (nI n)]) ++ List.replicate (3 - (lg_sl ([.ref g, .int (nI n)])).length) Slot.unset).toArray = ls at hl ⊢
  have hl : lv_has ls 3 [(0, .ref g), (1, .int (nI n))] := hl
  refine lv_aload_n hx hb dX0_isForMan_0 rfl (lv_at hl 0 rfl) ?_
  refine lv_iload_n hx hb dX0_isForMan_1 rfl (lv_at hl 1 rfl) ?_
  refine vp_callSi (qV_R (n := 1) (As := [.int (nI n)]) (rest := []) (wc := [(g, .inr (0, [.int (nI bw), .int (nI bh), .long 0, .ref kd, .ref rw, .ref ms])), (kd, .inl (kI, 64, .inl (fun _ => 0))), (ms, .inl (kZ, 8, .inl (fun _ => 0)))]) ⟨hx, hb, hml, hown, hts⟩ hK hN hP [0, 1, 2] rfl (k_X0_kindNow_n l D kI kZ kJ g kd rw ms bw bh hbw hbh n hn) gX0_isForMan_X0_kindNow rfl rfl rfl (by decide +kernel) ⟨(Nat.le_of_ble_eq_true rfl), (Nat.le_of_ble_eq_true rfl)⟩ 0 0 rfl rfl rfl rfl hl.1 rfl (Nat.le_of_ble_eq_true rfl) dX0_isForMan_2 ⟨(Nat.le_of_ble_eq_true rfl), (Nat.le_of_ble_eq_true rfl)⟩).run (fun r hw => ?_)
  obtain rfl := hw
  refine lv_istore_n (lv' := [(2, .int 0), (0, .ref g), (1, .int (nI n))]) hx hb dX0_isForMan_5 rfl hl (by decide) rfl (fun ls hl => ?_)
  refine lv_iload_n hx hb dX0_isForMan_6 rfl (lv_at hl 0 rfl) ?_
  refine lv_if_eq (tgt := 19) hx hb dX0_isForMan_7 (by decide) (fun _ => ?_) (fun h9 => absurd (by decide : (0 : Int32) = (0 : Int32)) h9)
  refine lv_iconst (v := 0) hx hb dX0_isForMan_19 (by decide) ?_
  exact W.zret (v := 0) (ty := .boolean) hx hb hr rfl (fun t ht hW => ⟨_, rfl, rfl, ht⟩) (fun q hq => by cases hq) dX0_isForMan_20
set_option maxHeartbeats 4000000 in
set_option maxRecDepth 100000 in
theorem k_X0_lay (l : Launch) (D : va_G) (kI kZ kJ : ClassId)  (g kd rw ms : Nat) (bw bh : Nat) (hbw : bw ≤ 8) (hbh : bh ≤ 8) (n : Nat) (hn : n < 64) (k v : Int32) (sz : Nat) : Met l yX0_lay wsX0_lay ({ frames := 1, cells := 0, slots := 0, locals := 20 }) (qW D kI kZ kJ [(g, .inr (0, [.int (nI bw), .int (nI bh), .long 0, .ref kd, .ref rw, .ref ms])), (kd, .inl (kI, 64, .inl (fun _ => 0))), (rw, .inl (kI, 64, .inl (fun _ => 0)))] sz [.ref g, .int (nI n), .int k, .int v]) (va_Qi (fun (r : Int32) (u : Unit) => r = 0) (qB D (fun u : Unit => []) (va_A [(g, .inr (0, [.int (nI bw), .int (nI bh), .long 0, .ref kd, .ref rw, .ref ms])), (kd, .inl (kI, 64, .inl (fun _ => 0))), (rw, .inl (kI, 64, .inl (fun _ => 0)))] sz)) (va_A [(g, .inr (0, [.int (nI bw), .int (nI bh), .long 0, .ref kd, .ref rw, .ref ms])), (kd, .inl (kI, 64, .inl (fun _ => 0))), (rw, .inl (kI, 64, .inl (fun _ => 0)))] sz)) 0 0 (va_A [(g, .inr (0, [.int (nI bw), .int (nI bh), .long 0, .ref kd, .ref rw, .ref ms])), (kd, .inl (kI, 64, .inl (fun _ => 0))), (rw, .inl (kI, 64, .inl (fun _ => 0)))] sz) := by
  refine Met.ofW (cc := cX0_lay) (maxL := 5) (ret := (some .int)) (by decide) rfl ?_
  intro p e s m args below meth c s₁ B hml hv
  obtain ⟨rfl, hsz, hP, hK, hD0, hN⟩ := hv
  have hx := B.exec
  have hb := B.bytes
  have hr := B.returns
  have hts := atoms_spec (ws := wsX0_lay) B.pre
  have hown : s.vm.findClass RX0 = some m.cls := findClass_of_methodNamed B.named
  have hlocks := B.notSynchronized
  subst hsz
  have hD := hD0.self (sz := s.heap.size)
  generalize hAe : va_A [(g, .inr (0, [.int (nI bw), .int (nI bh), .long 0, .ref kd, .ref rw, .ref ms])), (kd, .inl (kI, 64, .inl (fun _ => 0))), (rw, .inl (kI, 64, .inl (fun _ => 0)))] s.heap.size = A at hD ⊢
  have hA : ∀ q : Nat, s.heap.size ≤ q → A q := fun q h => by rw [← hAe]; exact Or.inr h
  have hS : va_S A s.heap s.heap [] := va_S.rf
  have hP : va_P D vwCl [(g, .inr (0, [.int (nI bw), .int (nI bh), .long 0, .ref kd, .ref rw, .ref ms])), (kd, .inl (kI, 64, .inl (fun _ => 0))), (rw, .inl (kI, 64, .inl (fun _ => 0)))] s.heap := hP
  have hl := lv_entry ([.ref g, .int (nI n), .int k, .int v]) (n := 5) (Nat.le_of_ble_eq_true rfl)
  rw [lg_entry_eq]
  generalize (lg_sl ([.ref g, .int (nI n), .int k, .int v]) ++ List.replicate (5 - (lg_sl ([.ref g, .int (nI n), .int k, .int v])).length) Slot.unset).toArray = ls at hl ⊢
  have hl : lv_has ls 5 [(0, .ref g), (1, .int (nI n)), (2, .int k), (3, .int v)] := hl
  refine lv_iload_n hx hb dX0_lay_0 rfl (lv_at hl 1 rfl) ?_
  refine vp_callSi (qSN_R (n := 1) (As := [.int (nI n)]) (rest := []) (wc := []) (host := RX8) ⟨hx, hb, hml, hown, hts⟩ hK hN hP [] rfl (k_X8_isField l D kI kZ kJ (nI n)) gX0_lay_X8_isField_n38 rfl rfl rfl (by decide) (hts (.initialized RX8) (by decide +kernel)) (hts (.static yX8_isField) (by decide +kernel)) (by decide +kernel) ⟨(Nat.le_of_ble_eq_true rfl), (Nat.le_of_ble_eq_true rfl)⟩ rfl hl.1 rfl (Nat.le_of_ble_eq_true rfl) dX0_lay_1 ⟨(Nat.le_of_ble_eq_true rfl), (Nat.le_of_ble_eq_true rfl)⟩).run (fun r hw => ?_)
  obtain ⟨hw0, hw1⟩ := hw
  obtain rfl := hw1 (nI_pos (by have := hn; omega)) (nI_ge (b := 64) (by have := hn; omega) (by decide))
  refine lv_if_ne (tgt := 9) hx hb dX0_lay_4 (by decide) (fun _ => ?_) (fun h9 => absurd h9 (by decide : ¬ (1 : Int32) = (0 : Int32)))
  refine lv_aload_n hx hb dX0_lay_9 rfl (lv_at hl 0 rfl) ?_
  refine va_get (D := D) (ci := 0) (v := .ref kd) (C := RX0) (T := TX0) (N := 6) hx hb hts (by decide +kernel) hown hK hP 0 rfl rfl 3 (by decide) (hts (.fieldLink RX0 27 "CellarPushers$Ground" "kinds" "[I") (by decide +kernel)) (fun _ h9 => h9) rfl dX0_lay_10 ?_
  refine lv_iload_n hx hb dX0_lay_13 rfl (lv_at hl 1 rfl) ?_
  refine va_iald hx hb hK hP 1 0 rfl rfl (vp_in_nI (by have := hn; omega) (by decide)) dX0_lay_14 ?_
  refine lv_topi (fun z_1 ez_1 => ?_)
  obtain rfl : z_1 = 0 := ez_1
  refine lv_istore (lv' := [(4, .int 0), (0, .ref g), (1, .int (nI n)), (2, .int k), (3, .int v)]) hx hb dX0_lay_15 hl (by decide) rfl (fun ls hl => ?_)
  refine lv_aload_n hx hb dX0_lay_17 rfl (lv_at hl 1 rfl) ?_
  refine va_get (D := D) (ci := 0) (v := .ref kd) (C := RX0) (T := TX0) (N := 6) hx hb hts (by decide +kernel) hown hK hP 0 rfl rfl 3 (by decide) (hts (.fieldLink RX0 27 "CellarPushers$Ground" "kinds" "[I") (by decide +kernel)) (fun _ h9 => h9) rfl dX0_lay_18 ?_
  refine lv_iload_n hx hb dX0_lay_21 rfl (lv_at hl 2 rfl) ?_
  refine lv_iload_n hx hb dX0_lay_22 rfl (lv_at hl 3 rfl) ?_
  refine va_iast hx hb hK hP hD hS 1 0 rfl rfl (vp_in_nI (by have := hn; omega) (by decide)) dX0_lay_23 (fun H locs hP hD hS => ?_)
  have hP : va_P D vwCl [(g, .inr (0, [.int (nI bw), .int (nI bh), .long 0, .ref kd, .ref rw, .ref ms])), (kd, .inl (kI, 64, .inl (upd (fun _ => 0) (Int32.toNatClampNeg (nI n)) k))), (rw, .inl (kI, 64, .inl (fun _ => 0)))] H := hP
  have hD : va_D A [(g, .inr (0, [.int (nI bw), .int (nI bh), .long 0, .ref kd, .ref rw, .ref ms])), (kd, .inl (kI, 64, .inl (upd (fun _ => 0) (Int32.toNatClampNeg (nI n)) k))), (rw, .inl (kI, 64, .inl (fun _ => 0)))] := hD
  refine lv_aload_n hx hb dX0_lay_24 rfl (lv_at hl 1 rfl) ?_
  refine va_get (D := D) (ci := 0) (v := .ref rw) (C := RX0) (T := TX0) (N := 6) hx hb hts (by decide +kernel) hown hK hP 0 rfl rfl 4 (by decide) (hts (.fieldLink RX0 31 "CellarPushers$Ground" "rampWays" "[I") (by decide +kernel)) (fun _ h9 => h9) rfl dX0_lay_25 ?_
  refine lv_iload_n hx hb dX0_lay_28 rfl (lv_at hl 2 rfl) ?_
  refine lv_iload_n hx hb dX0_lay_29 rfl (lv_at hl 4 rfl) ?_
  refine va_iast hx hb hK hP hD hS 2 0 rfl rfl (vp_in_nI (by have := hn; omega) (by decide)) dX0_lay_30 (fun H locs hP hD hS => ?_)
  have hP : va_P D vwCl [(g, .inr (0, [.int (nI bw), .int (nI bh), .long 0, .ref kd, .ref rw, .ref ms])), (kd, .inl (kI, 64, .inl (upd (fun _ => 0) (Int32.toNatClampNeg (nI n)) k))), (rw, .inl (kI, 64, .inl (upd (fun _ => 0) (Int32.toNatClampNeg (nI n)) v)))] H := hP
  have hD : va_D A [(g, .inr (0, [.int (nI bw), .int (nI bh), .long 0, .ref kd, .ref rw, .ref ms])), (kd, .inl (kI, 64, .inl (upd (fun _ => 0) (Int32.toNatClampNeg (nI n)) k))), (rw, .inl (kI, 64, .inl (upd (fun _ => 0) (Int32.toNatClampNeg (nI n)) v)))] := hD
  refine lv_iload hx hb dX0_lay_31 (lv_at hl 0 rfl) ?_
  have hP9 := hP.sub (ws' := []) [] rfl
  have hD9 := hD.sub (ws' := []) [] (by decide) rfl
  exact W.iret (v := 0) hx hb hr (fun t ht hW => ⟨⟨_, (), rfl, rfl, ⟨by rw [ht]; exact hP9, hD9⟩⟩, hS.F ht⟩) hS.2.2 dX0_lay_33
set_option maxHeartbeats 4000000 in
set_option maxRecDepth 100000 in
theorem k_X0_letMiss (l : Launch) (D : va_G) (kI kZ kJ : ClassId)  (g kd rw ms : Nat) (bw bh : Nat) (hbw : bw ≤ 8) (hbh : bh ≤ 8) (n : Nat) (hn : n < 8) (v : Int32) (sz : Nat) : Met l yX0_letMiss wsX0_letMiss ({ frames := 0, cells := 0, slots := 0, locals := 0 }) (qW D kI kZ kJ [(g, .inr (0, [.int (nI bw), .int (nI bh), .long 0, .ref kd, .ref rw, .ref ms])), (ms, .inl (kZ, 8, .inl (fun _ => 0)))] sz [.ref g, .int (nI n), .int v]) (va_Qi (fun (r : Int32) (u : Unit) => r = 0) (qB D (fun u : Unit => []) (va_A [(g, .inr (0, [.int (nI bw), .int (nI bh), .long 0, .ref kd, .ref rw, .ref ms])), (ms, .inl (kZ, 8, .inl (fun _ => 0)))] sz)) (va_A [(g, .inr (0, [.int (nI bw), .int (nI bh), .long 0, .ref kd, .ref rw, .ref ms])), (ms, .inl (kZ, 8, .inl (fun _ => 0)))] sz)) 0 0 (va_A [(g, .inr (0, [.int (nI bw), .int (nI bh), .long 0, .ref kd, .ref rw, .ref ms])), (ms, .inl (kZ, 8, .inl (fun _ => 0)))] sz) := by
  refine Met.ofW (cc := cX0_letMiss) (maxL := 4) (ret := (some .boolean)) (by decide) rfl ?_
  intro p e s m args below meth c s₁ B hml hv
  obtain ⟨rfl, hsz, hP, hK, hD0, hN⟩ := hv
  have hx := B.exec
  have hb := B.bytes
  have hr := B.returns
  have hts := atoms_spec (ws := wsX0_letMiss) B.pre
  have hown : s.vm.findClass RX0 = some m.cls := findClass_of_methodNamed B.named
  have hlocks := B.notSynchronized
  subst hsz
  have hD := hD0.self (sz := s.heap.size)
  generalize hAe : va_A [(g, .inr (0, [.int (nI bw), .int (nI bh), .long 0, .ref kd, .ref rw, .ref ms])), (ms, .inl (kZ, 8, .inl (fun _ => 0)))] s.heap.size = A at hD ⊢
  have hA : ∀ q : Nat, s.heap.size ≤ q → A q := fun q h => by rw [← hAe]; exact Or.inr h
  have hS : va_S A s.heap s.heap [] := va_S.rf
  have hP : va_P D vwCl [(g, .inr (0, [.int (nI bw), .int (nI bh), .long 0, .ref kd, .ref rw, .ref ms])), (ms, .inl (kZ, 8, .inl (fun _ => 0)))] s.heap := hP
  have hl := lv_entry ([.ref g, .int (nI n), .int v]) (n := 4) (Nat.le_of_ble_eq_true rfl)
  rw [lg_entry_eq]
  generalize (lg_sl ([.ref g, .int (nI n), .int v]) ++ List.replicate (4 - (lg_sl ([.ref g, .int (nI n), .int v])).length) Slot.unset).toArray = ls at hl ⊢
  have hl : lv_has ls 4 [(0, .ref g), (1, .int (nI n)), (2, .int v)] := hl
  refine lv_iload_n hx hb dX0_letMiss_0 rfl (lv_at hl 1 rfl) ?_
  refine lv_if_lt (tgt := 10) hx hb dX0_letMiss_1 (by decide) (fun h9 => absurd h9 (by have hq := hn; exact nI_pos (by omega))) (fun _ => ?_)
  refine lv_iload_n hx hb dX0_letMiss_4 rfl (lv_at hl 1 rfl) ?_
  refine lv_bipush (v := 8) hx hb dX0_letMiss_5 (by decide) ?_
  refine lv_icmp_lt (tgt := 12) hx hb dX0_letMiss_7 (by decide) (fun _ => ?_) (fun h9 => absurd (by have hq := hn; exact nI_lt (b := 8) (by omega) (by decide)) h9)
  refine lv_aload_n hx hb dX0_letMiss_12 rfl (lv_at hl 0 rfl) ?_
  refine va_get (D := D) (ci := 0) (v := .ref ms) (C := RX0) (T := TX0) (N := 6) hx hb hts (by decide +kernel) hown hK hP 0 rfl rfl 5 (by decide) (hts (.fieldLink RX0 34 "CellarPushers$Ground" "missing" "[Z") (by decide +kernel)) (fun _ h9 => h9) rfl dX0_letMiss_13 ?_
  refine lv_iload_n hx hb dX0_letMiss_16 rfl (lv_at hl 1 rfl) ?_
  refine va_zald hx hb hK hP 1 1 rfl rfl (vp_in_nI (by have := hn; omega) (by decide)) dX0_letMiss_17 ?_
  refine lv_topi (fun z_1 ez_1 => ?_)
  obtain rfl : z_1 = 0 := ez_1
  refine lv_istore_n (lv' := [(3, .int 0), (0, .ref g), (1, .int (nI n)), (2, .int v)]) hx hb dX0_letMiss_18 rfl hl (by decide) rfl (fun ls hl => ?_)
  refine lv_aload_n hx hb dX0_letMiss_19 rfl (lv_at hl 1 rfl) ?_
  refine va_get (D := D) (ci := 0) (v := .ref ms) (C := RX0) (T := TX0) (N := 6) hx hb hts (by decide +kernel) hown hK hP 0 rfl rfl 5 (by decide) (hts (.fieldLink RX0 34 "CellarPushers$Ground" "missing" "[Z") (by decide +kernel)) (fun _ h9 => h9) rfl dX0_letMiss_20 ?_
  refine lv_iload_n hx hb dX0_letMiss_23 rfl (lv_at hl 2 rfl) ?_
  refine lv_iload_n hx hb dX0_letMiss_24 rfl (lv_at hl 3 rfl) ?_
  refine va_zast hx hb hK hP hD hS 1 1 rfl rfl (vp_in_nI (by have := hn; omega) (by decide)) dX0_letMiss_25 (fun H locs hP hD hS => ?_)
  have hP : va_P D vwCl [(g, .inr (0, [.int (nI bw), .int (nI bh), .long 0, .ref kd, .ref rw, .ref ms])), (ms, .inl (kZ, 8, .inl (upd (fun _ => 0) (Int32.toNatClampNeg (nI n)) (vp_nar .boolean v))))] H := hP
  have hD : va_D A [(g, .inr (0, [.int (nI bw), .int (nI bh), .long 0, .ref kd, .ref rw, .ref ms])), (ms, .inl (kZ, 8, .inl (upd (fun _ => 0) (Int32.toNatClampNeg (nI n)) (vp_nar .boolean v))))] := hD
  refine lv_iload_n hx hb dX0_letMiss_26 rfl (lv_at hl 0 rfl) ?_
  have hP9 := hP.sub (ws' := []) [] rfl
  have hD9 := hD.sub (ws' := []) [] (by decide) rfl
  exact W.zret (v := 0) (ty := .boolean) hx hb hr rfl (fun t ht hW => ⟨⟨_, (), rfl, rfl, ⟨by rw [ht]; exact hP9, hD9⟩⟩, hS.F ht⟩) hS.2.2 dX0_letMiss_27
set_option maxHeartbeats 4000000 in
set_option maxRecDepth 100000 in
theorem k_X0_openFields (l : Launch) (D : va_G) (kI kZ kJ : ClassId)  (g kd rw ms : Nat) (bw bh : Nat) (hbw : bw ≤ 8) (hbh : bh ≤ 8) : Met l yX0_openFields wsX0_openFields ({ frames := 1, cells := 0, slots := 0, locals := 21 }) (qR D kI kZ kJ [(g, .inr (0, [.int (nI bw), .int (nI bh), .long 0, .ref kd, .ref rw, .ref ms])), (kd, .inl (kI, 64, .inl (fun _ => 0))), (ms, .inl (kZ, 8, .inl (fun _ => 0)))] [.ref g]) (vp_Si (fun r : Int32 => r = 0)) 0 0 (fun _ => False) := by
  refine Met.ofW (cc := cX0_openFields) (maxL := 3) (ret := (some .int)) (by decide) rfl ?_
  intro p e s m args below meth c s₁ B hml hv
  obtain ⟨rfl, hP, hK, hN⟩ := hv
  have hx := B.exec
  have hb := B.bytes
  have hr := B.returns
  have hts := atoms_spec (ws := wsX0_openFields) B.pre
  have hown : s.vm.findClass RX0 = some m.cls := findClass_of_methodNamed B.named
  have hlocks := B.notSynchronized
  have hP : va_P D vwCl [(g, .inr (0, [.int (nI bw), .int (nI bh), .long 0, .ref kd, .ref rw, .ref ms])), (kd, .inl (kI, 64, .inl (fun _ => 0))), (ms, .inl (kZ, 8, .inl (fun _ => 0)))] s.heap := hP
  have hl := lv_entry ([.ref g]) (n := 3) (Nat.le_of_ble_eq_true rfl)
  rw [lg_entry_eq]
  generalize (lg_sl ([.ref g]) ++ List.replicate (3 - (lg_sl ([.ref g])).length) Slot.unset).toArray = ls at hl ⊢
  have hl : lv_has ls 3 [(0, .ref g)] := hl
  refine lv_iconst (v := 0) hx hb dX0_openFields_0 (by decide) ?_
  refine lv_istore_n (lv' := [(1, .int 0), (0, .ref g)]) hx hb dX0_openFields_1 rfl hl (by decide) rfl (fun ls hl => ?_)
  refine lv_iconst (v := 0) hx hb dX0_openFields_2 (by decide) ?_
  refine lv_istore_n (lv' := [(2, .int 0), (1, .int 0), (0, .ref g)]) hx hb dX0_openFields_3 rfl hl (by decide) rfl (fun ls hl => ?_)
  obtain ⟨i4, hk4, hl4⟩ : ∃ i4 : Nat, i4 ≤ 64 ∧ lv_has ls 3 [(2, .int (nI i4)), (1, .int 0), (0, .ref g)] := ⟨0, by omega, hl⟩
  clear hl
  have hl := hl4
  clear hl4
  obtain ⟨f4, hf4⟩ : ∃ f4 : Nat, 64 < i4 + f4 := ⟨64 + 1, by omega⟩
  induction f4 generalizing i4 ls with
  | zero => exact absurd hf4 (by omega)
  | succ f4 ih4 =>
    refine lv_iload_n hx hb dX0_openFields_4 rfl (lv_at hl 0 rfl) ?_
    refine lv_bipush (v := 64) hx hb dX0_openFields_5 (by decide) ?_
    refine lv_icmp_ge (tgt := 27) hx hb dX0_openFields_7 (by decide) (fun c_1 => ?_) (fun c_1 => ?_)
    · skip
      have hi4 : i4 = 64 := by have := (nI_leI (a := 64) (b := i4) (by omega) (by omega)).mp c_1; omega
      refine lv_iload_n hx hb dX0_openFields_27 rfl (lv_at hl 1 rfl) ?_
      exact W.iret (v := 0) hx hb hr (fun t ht hW => ⟨_, rfl, rfl, ht⟩) (fun q hq => by cases hq) dX0_openFields_28
    · skip
      have hi4 : i4 < 64 := by have := mt (nI_leI (a := 64) (b := i4) (by omega) (by omega)).mpr c_1; omega
      refine lv_aload_n hx hb dX0_openFields_10 rfl (lv_at hl 2 rfl) ?_
      refine lv_iload_n hx hb dX0_openFields_11 rfl (lv_at hl 0 rfl) ?_
      refine vp_callSi (qV_R (n := 1) (As := [.int (nI i4)]) (rest := []) (wc := [(g, .inr (0, [.int (nI bw), .int (nI bh), .long 0, .ref kd, .ref rw, .ref ms])), (kd, .inl (kI, 64, .inl (fun _ => 0))), (ms, .inl (kZ, 8, .inl (fun _ => 0)))]) ⟨hx, hb, hml, hown, hts⟩ hK hN hP [0, 1, 2] rfl (k_X0_kindNow_n l D kI kZ kJ g kd rw ms bw bh hbw hbh i4 hi4) gX0_openFields_X0_kindNow rfl rfl rfl (by decide +kernel) ⟨(Nat.le_of_ble_eq_true rfl), (Nat.le_of_ble_eq_true rfl)⟩ 0 0 rfl rfl rfl rfl hl.1 rfl (Nat.le_of_ble_eq_true rfl) dX0_openFields_12 ⟨(Nat.le_of_ble_eq_true rfl), (Nat.le_of_ble_eq_true rfl)⟩).run (fun r hw => ?_)
      obtain rfl := hw
      refine lv_if_eq (tgt := 21) hx hb dX0_openFields_15 (by decide) (fun _ => ?_) (fun h9 => absurd (by decide : (0 : Int32) = (0 : Int32)) h9)
      refine lv_iinc (v := (nI (i4 + 1))) (lv' := [(2, .int (nI (i4 + 1))), (1, .int 0), (0, .ref g)]) hx hb dX0_openFields_21 hl (k := 0) rfl (q_inc _) (by decide) rfl (fun ls hl => ?_)
      refine lv_goto (tgt := 4) hx hb dX0_openFields_24 (by decide) ?_
      exact ih4 (i4 := (i4 + 1)) (ls := ls) (hk4 := by omega) (hl := lv_sub hl [0, 1, 2] rfl) (hf4 := by omega)
set_option maxHeartbeats 4000000 in
set_option maxRecDepth 100000 in
theorem k_X3_become (l : Launch) (D : va_G) (kI kZ kJ : ClassId)  (tr sc : Nat) (sz : Nat) : Met l yX3_become wsX3_become ({ frames := 0, cells := 0, slots := 0, locals := 0 }) (qW D kI kZ kJ [(tr, .inr (3, [.int (-1), .long 0, .int 0, .int 0])), (sc, .inr (3, [.int (-1), .long 0, .int 0, .int 0]))] sz [.ref tr, .ref sc]) (va_Qv (fun (u : Unit) => True) (qB D (fun u : Unit => [(tr, .inr (3, [.int (-1), .long 0, .int 0, .int 0])), (sc, .inr (3, [.int (-1), .long 0, .int 0, .int 0]))]) (va_A [(tr, .inr (3, [.int (-1), .long 0, .int 0, .int 0])), (sc, .inr (3, [.int (-1), .long 0, .int 0, .int 0]))] sz)) (va_A [(tr, .inr (3, [.int (-1), .long 0, .int 0, .int 0])), (sc, .inr (3, [.int (-1), .long 0, .int 0, .int 0]))] sz)) 0 0 (va_A [(tr, .inr (3, [.int (-1), .long 0, .int 0, .int 0])), (sc, .inr (3, [.int (-1), .long 0, .int 0, .int 0]))] sz) := by
  refine Met.ofW (cc := cX3_become) (maxL := 2) (ret := none) (by decide) rfl ?_
  intro p e s m args below meth c s₁ B hml hv
  obtain ⟨rfl, hsz, hP, hK, hD0, hN⟩ := hv
  have hx := B.exec
  have hb := B.bytes
  have hr := B.returns
  have hts := atoms_spec (ws := wsX3_become) B.pre
  have hown : s.vm.findClass RX3 = some m.cls := findClass_of_methodNamed B.named
  have hlocks := B.notSynchronized
  subst hsz
  have hD := hD0.self (sz := s.heap.size)
  generalize hAe : va_A [(tr, .inr (3, [.int (-1), .long 0, .int 0, .int 0])), (sc, .inr (3, [.int (-1), .long 0, .int 0, .int 0]))] s.heap.size = A at hD ⊢
  have hA : ∀ q : Nat, s.heap.size ≤ q → A q := fun q h => by rw [← hAe]; exact Or.inr h
  have hS : va_S A s.heap s.heap [] := va_S.rf
  have hP : va_P D vwCl [(tr, .inr (3, [.int (-1), .long 0, .int 0, .int 0])), (sc, .inr (3, [.int (-1), .long 0, .int 0, .int 0]))] s.heap := hP
  have hl := lv_entry ([.ref tr, .ref sc]) (n := 2) (Nat.le_of_ble_eq_true rfl)
  rw [lg_entry_eq]
  generalize (lg_sl ([.ref tr, .ref sc]) ++ List.replicate (2 - (lg_sl ([.ref tr, .ref sc])).length) Slot.unset).toArray = ls at hl ⊢
  have hl : lv_has ls 2 [(0, .ref tr), (1, .ref sc)] := hl
  refine lv_aload_n hx hb dX3_become_0 rfl (lv_at hl 0 rfl) ?_
  refine lv_aload_n hx hb dX3_become_1 rfl (lv_at hl 1 rfl) ?_
  refine va_get (D := D) (ci := 3) (v := .int (-1)) (C := RX3) (T := TX3) (N := 4) hx hb hts (by decide +kernel) hown hK hP 1 rfl rfl 0 (by decide) (hts (.fieldLink RX3 9 "CellarPushers$Scene" "manAt" "I") (by decide +kernel)) (fun _ h9 => h9) rfl dX3_become_2 ?_
  refine va_put (D := D) (ci := 3) (v := .int (-1)) (ty := .int) (C := RX3) (T := TX3) (N := 4) hx hb hts (by decide +kernel) tyX3 tyX3_ok nmX3 hown hK hP hD hS 0 rfl rfl 0 (by decide) (hts (.fieldLink RX3 9 "CellarPushers$Scene" "manAt" "I") (by decide +kernel)) (fun _ h9 => h9) rfl (by decide +kernel) rfl rfl (Nat.le_of_ble_eq_true rfl) dX3_become_5 (fun H locs hP hD hS => ?_)
  have hP : va_P D vwCl [(tr, .inr (3, [.int (-1), .long 0, .int 0, .int 0])), (sc, .inr (3, [.int (-1), .long 0, .int 0, .int 0]))] H := hP
  have hD : va_D A [(tr, .inr (3, [.int (-1), .long 0, .int 0, .int 0])), (sc, .inr (3, [.int (-1), .long 0, .int 0, .int 0]))] := hD
  refine lv_aload_n hx hb dX3_become_8 rfl (lv_at hl 0 rfl) ?_
  refine lv_aload_n hx hb dX3_become_9 rfl (lv_at hl 1 rfl) ?_
  refine va_get (D := D) (ci := 3) (v := .long 0) (C := RX3) (T := TX3) (N := 4) hx hb hts (by decide +kernel) hown hK hP 1 rfl rfl 1 (by decide) (hts (.fieldLink RX3 15 "CellarPushers$Scene" "barrels" "J") (by decide +kernel)) (fun _ h9 => h9) rfl dX3_become_10 ?_
  refine va_put (D := D) (ci := 3) (v := .long 0) (ty := .long) (C := RX3) (T := TX3) (N := 4) hx hb hts (by decide +kernel) tyX3 tyX3_ok nmX3 hown hK hP hD hS 0 rfl rfl 1 (by decide) (hts (.fieldLink RX3 15 "CellarPushers$Scene" "barrels" "J") (by decide +kernel)) (fun _ h9 => h9) rfl (by decide +kernel) rfl rfl (Nat.le_of_ble_eq_true rfl) dX3_become_13 (fun H locs hP hD hS => ?_)
  have hP : va_P D vwCl [(tr, .inr (3, [.int (-1), .long 0, .int 0, .int 0])), (sc, .inr (3, [.int (-1), .long 0, .int 0, .int 0]))] H := hP
  have hD : va_D A [(tr, .inr (3, [.int (-1), .long 0, .int 0, .int 0])), (sc, .inr (3, [.int (-1), .long 0, .int 0, .int 0]))] := hD
  refine lv_aload_n hx hb dX3_become_16 rfl (lv_at hl 0 rfl) ?_
  refine lv_aload_n hx hb dX3_become_17 rfl (lv_at hl 1 rfl) ?_
  refine va_get (D := D) (ci := 3) (v := .int 0) (C := RX3) (T := TX3) (N := 4) hx hb hts (by decide +kernel) hown hK hP 1 rfl rfl 2 (by decide) (hts (.fieldLink RX3 19 "CellarPushers$Scene" "stepsDone" "I") (by decide +kernel)) (fun _ h9 => h9) rfl dX3_become_18 ?_
  refine va_put (D := D) (ci := 3) (v := .int 0) (ty := .int) (C := RX3) (T := TX3) (N := 4) hx hb hts (by decide +kernel) tyX3 tyX3_ok nmX3 hown hK hP hD hS 0 rfl rfl 2 (by decide) (hts (.fieldLink RX3 19 "CellarPushers$Scene" "stepsDone" "I") (by decide +kernel)) (fun _ h9 => h9) rfl (by decide +kernel) rfl rfl (Nat.le_of_ble_eq_true rfl) dX3_become_21 (fun H locs hP hD hS => ?_)
  have hP : va_P D vwCl [(tr, .inr (3, [.int (-1), .long 0, .int 0, .int 0])), (sc, .inr (3, [.int (-1), .long 0, .int 0, .int 0]))] H := hP
  have hD : va_D A [(tr, .inr (3, [.int (-1), .long 0, .int 0, .int 0])), (sc, .inr (3, [.int (-1), .long 0, .int 0, .int 0]))] := hD
  refine lv_aload_n hx hb dX3_become_24 rfl (lv_at hl 0 rfl) ?_
  refine lv_aload_n hx hb dX3_become_25 rfl (lv_at hl 1 rfl) ?_
  refine va_get (D := D) (ci := 3) (v := .int 0) (C := RX3) (T := TX3) (N := 4) hx hb hts (by decide +kernel) hown hK hP 1 rfl rfl 3 (by decide) (hts (.fieldLink RX3 22 "CellarPushers$Scene" "pushesDone" "I") (by decide +kernel)) (fun _ h9 => h9) rfl dX3_become_26 ?_
  refine va_put (D := D) (ci := 3) (v := .int 0) (ty := .int) (C := RX3) (T := TX3) (N := 4) hx hb hts (by decide +kernel) tyX3 tyX3_ok nmX3 hown hK hP hD hS 0 rfl rfl 3 (by decide) (hts (.fieldLink RX3 22 "CellarPushers$Scene" "pushesDone" "I") (by decide +kernel)) (fun _ h9 => h9) rfl (by decide +kernel) rfl rfl (Nat.le_of_ble_eq_true rfl) dX3_become_29 (fun H locs hP hD hS => ?_)
  have hP : va_P D vwCl [(tr, .inr (3, [.int (-1), .long 0, .int 0, .int 0])), (sc, .inr (3, [.int (-1), .long 0, .int 0, .int 0]))] H := hP
  have hD : va_D A [(tr, .inr (3, [.int (-1), .long 0, .int 0, .int 0])), (sc, .inr (3, [.int (-1), .long 0, .int 0, .int 0]))] := hD
  have hP9 := hP.sub (ws' := [(tr, .inr (3, [.int (-1), .long 0, .int 0, .int 0])), (sc, .inr (3, [.int (-1), .long 0, .int 0, .int 0]))]) [0, 1] rfl
  have hD9 := hD.sub (ws' := [(tr, .inr (3, [.int (-1), .long 0, .int 0, .int 0])), (sc, .inr (3, [.int (-1), .long 0, .int 0, .int 0]))]) [0, 1] (by decide) rfl
  exact W.vret hx hb hr (fun t ht hW => ⟨⟨(), rfl, trivial, ⟨by rw [ht]; exact hP9, hD9⟩⟩, hS.F ht⟩) hS.2.2 dX3_become_32
set_option maxHeartbeats 4000000 in
set_option maxRecDepth 100000 in
theorem k_X3_hasMan (l : Launch) (D : va_G) (kI kZ kJ : ClassId)  (sc : Nat) : Met l yX3_hasMan wsX3_hasMan ({ frames := 0, cells := 0, slots := 0, locals := 0 }) (qR D kI kZ kJ [(sc, .inr (3, [.int (-1), .long 0, .int 0, .int 0]))] [.ref sc]) (vp_Si (fun r : Int32 => r = 0)) 0 0 (fun _ => False) := by
  refine Met.ofW (cc := cX3_hasMan) (maxL := 1) (ret := (some .boolean)) (by decide) rfl ?_
  intro p e s m args below meth c s₁ B hml hv
  obtain ⟨rfl, hP, hK, hN⟩ := hv
  have hx := B.exec
  have hb := B.bytes
  have hr := B.returns
  have hts := atoms_spec (ws := wsX3_hasMan) B.pre
  have hown : s.vm.findClass RX3 = some m.cls := findClass_of_methodNamed B.named
  have hlocks := B.notSynchronized
  have hP : va_P D vwCl [(sc, .inr (3, [.int (-1), .long 0, .int 0, .int 0]))] s.heap := hP
  have hl := lv_entry ([.ref sc]) (n := 1) (Nat.le_of_ble_eq_true rfl)
  rw [lg_entry_eq]
  generalize (lg_sl ([.ref sc]) ++ List.replicate (1 - (lg_sl ([.ref sc])).length) Slot.unset).toArray = ls at hl ⊢
  have hl : lv_has ls 1 [(0, .ref sc)] := hl
  refine lv_aload_n hx hb dX3_hasMan_0 rfl (lv_at hl 0 rfl) ?_
  refine va_get (D := D) (ci := 3) (v := .int (-1)) (C := RX3) (T := TX3) (N := 4) hx hb hts (by decide +kernel) hown hK hP 0 rfl rfl 0 (by decide) (hts (.fieldLink RX3 9 "CellarPushers$Scene" "manAt" "I") (by decide +kernel)) (fun _ h9 => h9) rfl dX3_hasMan_1 ?_
  refine lv_iconst (v := (-1)) hx hb dX3_hasMan_4 (by decide) ?_
  refine lv_icmp_eq (tgt := 12) hx hb dX3_hasMan_5 (by decide) (fun _ => ?_) (fun h9 => absurd (by decide : ((-1) : Int32) = ((-1) : Int32)) h9)
  refine lv_iconst (v := 0) hx hb dX3_hasMan_12 (by decide) ?_
  exact W.zret (v := 0) (ty := .boolean) hx hb hr rfl (fun t ht hW => ⟨_, rfl, rfl, ht⟩) (fun q hq => by cases hq) dX3_hasMan_13
set_option maxHeartbeats 4000000 in
set_option maxRecDepth 100000 in
theorem k_X3_hasBarrel (l : Launch) (D : va_G) (kI kZ kJ : ClassId)  (sc : Nat) (n : Nat) (hn : n < 64) : Met l yX3_hasBarrel wsX3_hasBarrel ({ frames := 2, cells := 0, slots := 0, locals := 42 }) (qR D kI kZ kJ [(sc, .inr (3, [.int (-1), .long 0, .int 0, .int 0]))] [.ref sc, .int (nI n)]) (vp_Si (fun r : Int32 => r = 0)) 0 0 (fun _ => False) := by
  refine Met.ofW (cc := cX3_hasBarrel) (maxL := 2) (ret := (some .boolean)) (by decide) rfl ?_
  intro p e s m args below meth c s₁ B hml hv
  obtain ⟨rfl, hP, hK, hN⟩ := hv
  have hx := B.exec
  have hb := B.bytes
  have hr := B.returns
  have hts := atoms_spec (ws := wsX3_hasBarrel) B.pre
  have hown : s.vm.findClass RX3 = some m.cls := findClass_of_methodNamed B.named
  have hlocks := B.notSynchronized
  have hP : va_P D vwCl [(sc, .inr (3, [.int (-1), .long 0, .int 0, .int 0]))] s.heap := hP
  have hl := lv_entry ([.ref sc, .int (nI n)]) (n := 2) (Nat.le_of_ble_eq_true rfl)
  rw [lg_entry_eq]
  generalize (lg_sl ([.ref sc, .int (nI n)]) ++ List.replicate (2 - (lg_sl ([.ref sc, .int (nI n)])).length) Slot.unset).toArray = ls at hl ⊢
  have hl : lv_has ls 2 [(0, .ref sc), (1, .int (nI n))] := hl
  refine lv_aload_n hx hb dX3_hasBarrel_0 rfl (lv_at hl 0 rfl) ?_
  refine va_get (D := D) (ci := 3) (v := .long 0) (C := RX3) (T := TX3) (N := 4) hx hb hts (by decide +kernel) hown hK hP 0 rfl rfl 1 (by decide) (hts (.fieldLink RX3 15 "CellarPushers$Scene" "barrels" "J") (by decide +kernel)) (fun _ h9 => h9) rfl dX3_hasBarrel_1 ?_
  refine lv_iload_n hx hb dX3_hasBarrel_4 rfl (lv_at hl 1 rfl) ?_
  refine vp_callSi (qSN_R (n := 2) (As := [.long 0, .int (nI n)]) (rest := []) (wc := []) (host := RX8) ⟨hx, hb, hml, hown, hts⟩ hK hN hP [] rfl (k_X8_has l D kI kZ kJ n hn) gX3_hasBarrel_X8_has_n25 rfl rfl rfl (by decide) (hts (.initialized RX8) (by decide +kernel)) (hts (.static yX8_has) (by decide +kernel)) (by decide +kernel) ⟨(Nat.le_of_ble_eq_true rfl), (Nat.le_of_ble_eq_true rfl)⟩ rfl hl.1 rfl (Nat.le_of_ble_eq_true rfl) dX3_hasBarrel_5 ⟨(Nat.le_of_ble_eq_true rfl), (Nat.le_of_ble_eq_true rfl)⟩).run (fun r hw => ?_)
  obtain rfl := hw
  exact W.zret (v := 0) (ty := .boolean) hx hb hr rfl (fun t ht hW => ⟨_, rfl, rfl, ht⟩) (fun q hq => by cases hq) dX3_hasBarrel_8
set_option maxHeartbeats 4000000 in
set_option maxRecDepth 100000 in
theorem k_X3_isTaken (l : Launch) (D : va_G) (kI kZ kJ : ClassId)  (sc : Nat) (n : Nat) (hn : n < 64) : Met l yX3_isTaken wsX3_isTaken ({ frames := 3, cells := 0, slots := 0, locals := 63 }) (qR D kI kZ kJ [(sc, .inr (3, [.int (-1), .long 0, .int 0, .int 0]))] [.ref sc, .int (nI n)]) (vp_Si (fun r : Int32 => r = 0)) 0 0 (fun _ => False) := by
  refine Met.ofW (cc := cX3_isTaken) (maxL := 2) (ret := (some .boolean)) (by decide) rfl ?_
  intro p e s m args below meth c s₁ B hml hv
  obtain ⟨rfl, hP, hK, hN⟩ := hv
  have hx := B.exec
  have hb := B.bytes
  have hr := B.returns
  have hts := atoms_spec (ws := wsX3_isTaken) B.pre
  have hown : s.vm.findClass RX3 = some m.cls := findClass_of_methodNamed B.named
  have hlocks := B.notSynchronized
  have hP : va_P D vwCl [(sc, .inr (3, [.int (-1), .long 0, .int 0, .int 0]))] s.heap := hP
  have hl := lv_entry ([.ref sc, .int (nI n)]) (n := 2) (Nat.le_of_ble_eq_true rfl)
  rw [lg_entry_eq]
  generalize (lg_sl ([.ref sc, .int (nI n)]) ++ List.replicate (2 - (lg_sl ([.ref sc, .int (nI n)])).length) Slot.unset).toArray = ls at hl ⊢
  have hl : lv_has ls 2 [(0, .ref sc), (1, .int (nI n))] := hl
  refine lv_aload_n hx hb dX3_isTaken_0 rfl (lv_at hl 0 rfl) ?_
  refine va_get (D := D) (ci := 3) (v := .int (-1)) (C := RX3) (T := TX3) (N := 4) hx hb hts (by decide +kernel) hown hK hP 0 rfl rfl 0 (by decide) (hts (.fieldLink RX3 9 "CellarPushers$Scene" "manAt" "I") (by decide +kernel)) (fun _ h9 => h9) rfl dX3_isTaken_1 ?_
  refine lv_iload_n hx hb dX3_isTaken_4 rfl (lv_at hl 1 rfl) ?_
  refine lv_icmp_eq (tgt := 16) hx hb dX3_isTaken_5 (by decide) (fun h9 => absurd h9 (by have hq := hn; exact fun h => q_ne1 (c := (-1)) (by decide) (by omega) h.symm)) (fun _ => ?_)
  refine lv_aload_n hx hb dX3_isTaken_8 rfl (lv_at hl 0 rfl) ?_
  refine lv_iload_n hx hb dX3_isTaken_9 rfl (lv_at hl 1 rfl) ?_
  refine vp_callSi (qV_R (n := 1) (As := [.int (nI n)]) (rest := []) (wc := [(sc, .inr (3, [.int (-1), .long 0, .int 0, .int 0]))]) ⟨hx, hb, hml, hown, hts⟩ hK hN hP [0] rfl (k_X3_hasBarrel l D kI kZ kJ sc n hn) gX3_isTaken_X3_hasBarrel rfl rfl rfl (by decide +kernel) ⟨(Nat.le_of_ble_eq_true rfl), (Nat.le_of_ble_eq_true rfl)⟩ 0 3 rfl rfl rfl rfl hl.1 rfl (Nat.le_of_ble_eq_true rfl) dX3_isTaken_10 ⟨(Nat.le_of_ble_eq_true rfl), (Nat.le_of_ble_eq_true rfl)⟩).run (fun r hw => ?_)
  obtain rfl := hw
  refine lv_if_eq (tgt := 20) hx hb dX3_isTaken_13 (by decide) (fun _ => ?_) (fun h9 => absurd (by decide : (0 : Int32) = (0 : Int32)) h9)
  refine lv_iconst (v := 0) hx hb dX3_isTaken_20 (by decide) ?_
  exact W.zret (v := 0) (ty := .boolean) hx hb hr rfl (fun t ht hW => ⟨_, rfl, rfl, ht⟩) (fun q hq => by cases hq) dX3_isTaken_21
set_option maxHeartbeats 4000000 in
set_option maxRecDepth 100000 in
theorem k_X3_advance (l : Launch) (D : va_G) (kI kZ kJ : ClassId)  (sc g : Nat) (w : Int32) : Met l yX3_advance wsX3_advance ({ frames := 1, cells := 0, slots := 0, locals := 20 }) (qR D kI kZ kJ [(sc, .inr (3, [.int (-1), .long 0, .int 0, .int 0]))] [.ref sc, .ref g, .int w]) (vp_Si (fun r : Int32 => r = -2)) 0 0 (fun _ => False) := by
  refine Met.ofW (cc := cX3_advance) (maxL := 6) (ret := (some .int)) (by decide) rfl ?_
  intro p e s m args below meth c s₁ B hml hv
  obtain ⟨rfl, hP, hK, hN⟩ := hv
  have hx := B.exec
  have hb := B.bytes
  have hr := B.returns
  have hts := atoms_spec (ws := wsX3_advance) B.pre
  have hown : s.vm.findClass RX3 = some m.cls := findClass_of_methodNamed B.named
  have hlocks := B.notSynchronized
  have hP : va_P D vwCl [(sc, .inr (3, [.int (-1), .long 0, .int 0, .int 0]))] s.heap := hP
  have hl := lv_entry ([.ref sc, .ref g, .int w]) (n := 6) (Nat.le_of_ble_eq_true rfl)
  rw [lg_entry_eq]
  generalize (lg_sl ([.ref sc, .ref g, .int w]) ++ List.replicate (6 - (lg_sl ([.ref sc, .ref g, .int w])).length) Slot.unset).toArray = ls at hl ⊢
  have hl : lv_has ls 6 [(0, .ref sc), (1, .ref g), (2, .int w)] := hl
  refine lv_aload_n hx hb dX3_advance_0 rfl (lv_at hl 0 rfl) ?_
  refine vp_callSi (qV_R (n := 0) (As := []) (rest := []) (wc := [(sc, .inr (3, [.int (-1), .long 0, .int 0, .int 0]))]) ⟨hx, hb, hml, hown, hts⟩ hK hN hP [0] rfl (k_X3_hasMan l D kI kZ kJ sc) gX3_advance_X3_hasMan rfl rfl rfl (by decide +kernel) ⟨(Nat.le_of_ble_eq_true rfl), (Nat.le_of_ble_eq_true rfl)⟩ 0 3 rfl rfl rfl rfl hl.1 rfl (Nat.le_of_ble_eq_true rfl) dX3_advance_1 ⟨(Nat.le_of_ble_eq_true rfl), (Nat.le_of_ble_eq_true rfl)⟩).run (fun r hw => ?_)
  obtain rfl := hw
  refine lv_if_eq (tgt := 14) hx hb dX3_advance_4 (by decide) (fun _ => ?_) (fun h9 => absurd (by decide : (0 : Int32) = (0 : Int32)) h9)
  refine lv_bipush (v := (-2)) hx hb dX3_advance_14 (by decide) ?_
  exact W.iret (v := (-2)) hx hb hr (fun t ht hW => ⟨_, rfl, rfl, ht⟩) (fun q hq => by cases hq) dX3_advance_16
set_option maxHeartbeats 4000000 in
set_option maxRecDepth 100000 in
theorem k_X3_advanceBy (l : Launch) (D : va_G) (kI kZ kJ : ClassId)  (sc g o w : Nat) : Met l yX3_advanceBy wsX3_advanceBy ({ frames := 0, cells := 0, slots := 0, locals := 0 }) (qR D kI kZ kJ [(o, .inr (7, [.int 0, .ref w]))] [.ref sc, .ref g, .ref o]) (vp_Si (fun r : Int32 => r = 0)) 0 0 (fun _ => False) := by
  refine Met.ofW (cc := cX3_advanceBy) (maxL := 4) (ret := (some .int)) (by decide) rfl ?_
  intro p e s m args below meth c s₁ B hml hv
  obtain ⟨rfl, hP, hK, hN⟩ := hv
  have hx := B.exec
  have hb := B.bytes
  have hr := B.returns
  have hts := atoms_spec (ws := wsX3_advanceBy) B.pre
  have hown : s.vm.findClass RX3 = some m.cls := findClass_of_methodNamed B.named
  have hlocks := B.notSynchronized
  have hP : va_P D vwCl [(o, .inr (7, [.int 0, .ref w]))] s.heap := hP
  have hl := lv_entry ([.ref sc, .ref g, .ref o]) (n := 4) (Nat.le_of_ble_eq_true rfl)
  rw [lg_entry_eq]
  generalize (lg_sl ([.ref sc, .ref g, .ref o]) ++ List.replicate (4 - (lg_sl ([.ref sc, .ref g, .ref o])).length) Slot.unset).toArray = ls at hl ⊢
  have hl : lv_has ls 4 [(0, .ref sc), (1, .ref g), (2, .ref o)] := hl
  refine lv_iconst (v := 0) hx hb dX3_advanceBy_0 (by decide) ?_
  refine lv_istore_n (lv' := [(3, .int 0), (0, .ref sc), (1, .ref g), (2, .ref o)]) hx hb dX3_advanceBy_1 rfl hl (by decide) rfl (fun ls hl => ?_)
  refine lv_iload_n hx hb dX3_advanceBy_2 rfl (lv_at hl 0 rfl) ?_
  refine lv_aload_n hx hb dX3_advanceBy_3 rfl (lv_at hl 3 rfl) ?_
  refine va_get (D := D) (ci := 7) (v := .int 0) (C := RX7) (T := TX7) (N := 2) hx hb hts (by decide +kernel) hown hK hP 0 rfl rfl 0 (by decide) (hts (.fieldLink RX3 54 "CellarPushers$Ways" "size" "I") (by decide +kernel)) (fun _ h9 => h9) rfl dX3_advanceBy_4 ?_
  refine lv_icmp_ge (tgt := 29) hx hb dX3_advanceBy_7 (by decide) (fun _ => ?_) (fun h9 => absurd (by decide : (0 : Int32) ≤ (0 : Int32)) h9)
  refine lv_iload_n hx hb dX3_advanceBy_29 rfl (lv_at hl 0 rfl) ?_
  exact W.iret (v := 0) hx hb hr (fun t ht hW => ⟨_, rfl, rfl, ht⟩) (fun q hq => by cases hq) dX3_advanceBy_30
set_option maxHeartbeats 4000000 in
set_option maxRecDepth 100000 in
theorem k_X5_forget (l : Launch) (D : va_G) (kI kZ kJ : ClassId)  (tl tm tb ts tq : Nat) (sz : Nat) : Met l yX5_forget wsX5_forget ({ frames := 0, cells := 0, slots := 0, locals := 0 }) (qW D kI kZ kJ [(tl, .inr (5, [.int 0, .int 0, .ref tm, .ref tb, .ref ts, .ref tq]))] sz [.ref tl]) (va_Qv (fun (u : Unit) => True) (qB D (fun u : Unit => []) (va_A [(tl, .inr (5, [.int 0, .int 0, .ref tm, .ref tb, .ref ts, .ref tq]))] sz)) (va_A [(tl, .inr (5, [.int 0, .int 0, .ref tm, .ref tb, .ref ts, .ref tq]))] sz)) 0 0 (va_A [(tl, .inr (5, [.int 0, .int 0, .ref tm, .ref tb, .ref ts, .ref tq]))] sz) := by
  refine Met.ofW (cc := cX5_forget) (maxL := 1) (ret := none) (by decide) rfl ?_
  intro p e s m args below meth c s₁ B hml hv
  obtain ⟨rfl, hsz, hP, hK, hD0, hN⟩ := hv
  have hx := B.exec
  have hb := B.bytes
  have hr := B.returns
  have hts := atoms_spec (ws := wsX5_forget) B.pre
  have hown : s.vm.findClass RX5 = some m.cls := findClass_of_methodNamed B.named
  have hlocks := B.notSynchronized
  subst hsz
  have hD := hD0.self (sz := s.heap.size)
  generalize hAe : va_A [(tl, .inr (5, [.int 0, .int 0, .ref tm, .ref tb, .ref ts, .ref tq]))] s.heap.size = A at hD ⊢
  have hA : ∀ q : Nat, s.heap.size ≤ q → A q := fun q h => by rw [← hAe]; exact Or.inr h
  have hS : va_S A s.heap s.heap [] := va_S.rf
  have hP : va_P D vwCl [(tl, .inr (5, [.int 0, .int 0, .ref tm, .ref tb, .ref ts, .ref tq]))] s.heap := hP
  have hl := lv_entry ([.ref tl]) (n := 1) (Nat.le_of_ble_eq_true rfl)
  rw [lg_entry_eq]
  generalize (lg_sl ([.ref tl]) ++ List.replicate (1 - (lg_sl ([.ref tl])).length) Slot.unset).toArray = ls at hl ⊢
  have hl : lv_has ls 1 [(0, .ref tl)] := hl
  refine lv_aload_n hx hb dX5_forget_0 rfl (lv_at hl 0 rfl) ?_
  refine lv_iconst (v := 0) hx hb dX5_forget_1 (by decide) ?_
  refine va_put (D := D) (ci := 5) (v := .int 0) (ty := .int) (C := RX5) (T := TX5) (N := 6) hx hb hts (by decide +kernel) tyX5 tyX5_ok nmX5 hown hK hP hD hS 0 rfl rfl 0 (by decide) (hts (.fieldLink RX5 25 "CellarPushers$Timeline" "now" "I") (by decide +kernel)) (fun _ h9 => h9) rfl (by decide +kernel) rfl rfl (Nat.le_of_ble_eq_true rfl) dX5_forget_2 (fun H locs hP hD hS => ?_)
  have hP : va_P D vwCl [(tl, .inr (5, [.int 0, .int 0, .ref tm, .ref tb, .ref ts, .ref tq]))] H := hP
  have hD : va_D A [(tl, .inr (5, [.int 0, .int 0, .ref tm, .ref tb, .ref ts, .ref tq]))] := hD
  refine lv_aload_n hx hb dX5_forget_5 rfl (lv_at hl 0 rfl) ?_
  refine lv_iconst (v := 0) hx hb dX5_forget_6 (by decide) ?_
  refine va_put (D := D) (ci := 5) (v := .int 0) (ty := .int) (C := RX5) (T := TX5) (N := 6) hx hb hts (by decide +kernel) tyX5 tyX5_ok nmX5 hown hK hP hD hS 0 rfl rfl 1 (by decide) (hts (.fieldLink RX5 29 "CellarPushers$Timeline" "last" "I") (by decide +kernel)) (fun _ h9 => h9) rfl (by decide +kernel) rfl rfl (Nat.le_of_ble_eq_true rfl) dX5_forget_7 (fun H locs hP hD hS => ?_)
  have hP : va_P D vwCl [(tl, .inr (5, [.int 0, .int 0, .ref tm, .ref tb, .ref ts, .ref tq]))] H := hP
  have hD : va_D A [(tl, .inr (5, [.int 0, .int 0, .ref tm, .ref tb, .ref ts, .ref tq]))] := hD
  have hP9 := hP.sub (ws' := []) [] rfl
  have hD9 := hD.sub (ws' := []) [] (by decide) rfl
  exact W.vret hx hb hr (fun t ht hW => ⟨⟨(), rfl, trivial, ⟨by rw [ht]; exact hP9, hD9⟩⟩, hS.F ht⟩) hS.2.2 dX5_forget_10
set_option maxHeartbeats 4000000 in
set_option maxRecDepth 100000 in
theorem k_X5_goBack (l : Launch) (D : va_G) (kI kZ kJ : ClassId)  (tl tm tb ts tq : Nat) (sc : Nat) : Met l yX5_goBack wsX5_goBack ({ frames := 0, cells := 0, slots := 0, locals := 0 }) (qR D kI kZ kJ [(tl, .inr (5, [.int 0, .int 0, .ref tm, .ref tb, .ref ts, .ref tq]))] [.ref tl, .ref sc]) (vp_Si (fun r : Int32 => r = -2)) 0 0 (fun _ => False) := by
  refine Met.ofW (cc := cX5_goBack) (maxL := 2) (ret := (some .int)) (by decide) rfl ?_
  intro p e s m args below meth c s₁ B hml hv
  obtain ⟨rfl, hP, hK, hN⟩ := hv
  have hx := B.exec
  have hb := B.bytes
  have hr := B.returns
  have hts := atoms_spec (ws := wsX5_goBack) B.pre
  have hown : s.vm.findClass RX5 = some m.cls := findClass_of_methodNamed B.named
  have hlocks := B.notSynchronized
  have hP : va_P D vwCl [(tl, .inr (5, [.int 0, .int 0, .ref tm, .ref tb, .ref ts, .ref tq]))] s.heap := hP
  have hl := lv_entry ([.ref tl, .ref sc]) (n := 2) (Nat.le_of_ble_eq_true rfl)
  rw [lg_entry_eq]
  generalize (lg_sl ([.ref tl, .ref sc]) ++ List.replicate (2 - (lg_sl ([.ref tl, .ref sc])).length) Slot.unset).toArray = ls at hl ⊢
  have hl : lv_has ls 2 [(0, .ref tl), (1, .ref sc)] := hl
  refine lv_aload_n hx hb dX5_goBack_0 rfl (lv_at hl 0 rfl) ?_
  refine va_get (D := D) (ci := 5) (v := .int 0) (C := RX5) (T := TX5) (N := 6) hx hb hts (by decide +kernel) hown hK hP 0 rfl rfl 0 (by decide) (hts (.fieldLink RX5 25 "CellarPushers$Timeline" "now" "I") (by decide +kernel)) (fun _ h9 => h9) rfl dX5_goBack_1 ?_
  refine lv_if_gt (tgt := 10) hx hb dX5_goBack_4 (by decide) (fun h9 => absurd h9 (by decide : ¬ ((0 : Int32) < (0 : Int32)))) (fun _ => ?_)
  refine lv_bipush (v := (-2)) hx hb dX5_goBack_7 (by decide) ?_
  exact W.iret (v := (-2)) hx hb hr (fun t ht hW => ⟨_, rfl, rfl, ht⟩) (fun q hq => by cases hq) dX5_goBack_9
set_option maxHeartbeats 4000000 in
set_option maxRecDepth 100000 in
theorem k_X5_goForth (l : Launch) (D : va_G) (kI kZ kJ : ClassId)  (tl tm tb ts tq : Nat) (sc : Nat) : Met l yX5_goForth wsX5_goForth ({ frames := 0, cells := 0, slots := 0, locals := 0 }) (qR D kI kZ kJ [(tl, .inr (5, [.int 0, .int 0, .ref tm, .ref tb, .ref ts, .ref tq]))] [.ref tl, .ref sc]) (vp_Si (fun r : Int32 => r = -2)) 0 0 (fun _ => False) := by
  refine Met.ofW (cc := cX5_goForth) (maxL := 2) (ret := (some .int)) (by decide) rfl ?_
  intro p e s m args below meth c s₁ B hml hv
  obtain ⟨rfl, hP, hK, hN⟩ := hv
  have hx := B.exec
  have hb := B.bytes
  have hr := B.returns
  have hts := atoms_spec (ws := wsX5_goForth) B.pre
  have hown : s.vm.findClass RX5 = some m.cls := findClass_of_methodNamed B.named
  have hlocks := B.notSynchronized
  have hP : va_P D vwCl [(tl, .inr (5, [.int 0, .int 0, .ref tm, .ref tb, .ref ts, .ref tq]))] s.heap := hP
  have hl := lv_entry ([.ref tl, .ref sc]) (n := 2) (Nat.le_of_ble_eq_true rfl)
  rw [lg_entry_eq]
  generalize (lg_sl ([.ref tl, .ref sc]) ++ List.replicate (2 - (lg_sl ([.ref tl, .ref sc])).length) Slot.unset).toArray = ls at hl ⊢
  have hl : lv_has ls 2 [(0, .ref tl), (1, .ref sc)] := hl
  refine lv_aload_n hx hb dX5_goForth_0 rfl (lv_at hl 0 rfl) ?_
  refine va_get (D := D) (ci := 5) (v := .int 0) (C := RX5) (T := TX5) (N := 6) hx hb hts (by decide +kernel) hown hK hP 0 rfl rfl 0 (by decide) (hts (.fieldLink RX5 25 "CellarPushers$Timeline" "now" "I") (by decide +kernel)) (fun _ h9 => h9) rfl dX5_goForth_1 ?_
  refine lv_aload_n hx hb dX5_goForth_4 rfl (lv_at hl 0 rfl) ?_
  refine va_get (D := D) (ci := 5) (v := .int 0) (C := RX5) (T := TX5) (N := 6) hx hb hts (by decide +kernel) hown hK hP 0 rfl rfl 1 (by decide) (hts (.fieldLink RX5 29 "CellarPushers$Timeline" "last" "I") (by decide +kernel)) (fun _ h9 => h9) rfl dX5_goForth_5 ?_
  refine lv_icmp_lt (tgt := 14) hx hb dX5_goForth_8 (by decide) (fun h9 => absurd h9 (by decide : ¬ ((0 : Int32) < (0 : Int32)))) (fun _ => ?_)
  refine lv_bipush (v := (-2)) hx hb dX5_goForth_11 (by decide) ?_
  exact W.iret (v := (-2)) hx hb hr (fun t ht hW => ⟨_, rfl, rfl, ht⟩) (fun q hq => by cases hq) dX5_goForth_13
set_option maxHeartbeats 4000000 in
set_option maxRecDepth 100000 in
theorem k_X7_isIn (l : Launch) (D : va_G) (kI kZ kJ : ClassId)  (o w : Nat) (x : Int32) : Met l yX7_isIn wsX7_isIn ({ frames := 0, cells := 0, slots := 0, locals := 0 }) (qR D kI kZ kJ [(o, .inr (7, [.int 0, .ref w])), (w, .inl (kI, 400, .inl (fun _ => 0)))] [.ref o, .int x]) (vp_Si (fun r : Int32 => r = 0)) 0 0 (fun _ => False) := by
  refine Met.ofW (cc := cX7_isIn) (maxL := 2) (ret := (some .boolean)) (by decide) rfl ?_
  intro p e s m args below meth c s₁ B hml hv
  obtain ⟨rfl, hP, hK, hN⟩ := hv
  have hx := B.exec
  have hb := B.bytes
  have hr := B.returns
  have hts := atoms_spec (ws := wsX7_isIn) B.pre
  have hown : s.vm.findClass RX7 = some m.cls := findClass_of_methodNamed B.named
  have hlocks := B.notSynchronized
  have hP : va_P D vwCl [(o, .inr (7, [.int 0, .ref w])), (w, .inl (kI, 400, .inl (fun _ => 0)))] s.heap := hP
  have hl := lv_entry ([.ref o, .int x]) (n := 2) (Nat.le_of_ble_eq_true rfl)
  rw [lg_entry_eq]
  generalize (lg_sl ([.ref o, .int x]) ++ List.replicate (2 - (lg_sl ([.ref o, .int x])).length) Slot.unset).toArray = ls at hl ⊢
  have hl : lv_has ls 2 [(0, .ref o), (1, .int x)] := hl
  refine lv_iload_n hx hb dX7_isIn_0 rfl (lv_at hl 1 rfl) ?_
  refine lv_if_lt (tgt := 25) hx hb dX7_isIn_1 (by decide) (fun c_1 => ?_) (fun c_1 => ?_)
  · skip
    refine lv_iconst (v := 0) hx hb dX7_isIn_25 (by decide) ?_
    exact W.zret (v := 0) (ty := .boolean) hx hb hr rfl (fun t ht hW => ⟨_, rfl, rfl, ht⟩) (fun q hq => by cases hq) dX7_isIn_26
  · skip
    refine lv_iload_n hx hb dX7_isIn_4 rfl (lv_at hl 1 rfl) ?_
    refine lv_aload_n hx hb dX7_isIn_5 rfl (lv_at hl 0 rfl) ?_
    refine va_get (D := D) (ci := 7) (v := .int 0) (C := RX7) (T := TX7) (N := 2) hx hb hts (by decide +kernel) hown hK hP 0 rfl rfl 0 (by decide) (hts (.fieldLink RX7 19 "CellarPushers$Ways" "size" "I") (by decide +kernel)) (fun _ h9 => h9) rfl dX7_isIn_6 ?_
    refine lv_icmp_ge (tgt := 25) hx hb dX7_isIn_9 (by decide) (fun _ => ?_) (fun h9 => absurd (Int32.not_lt.mp (by assumption)) h9)
    refine lv_iconst (v := 0) hx hb dX7_isIn_25 (by decide) ?_
    exact W.zret (v := 0) (ty := .boolean) hx hb hr rfl (fun t ht hW => ⟨_, rfl, rfl, ht⟩) (fun q hq => by cases hq) dX7_isIn_26
set_option maxHeartbeats 4000000 in
set_option maxRecDepth 100000 in
theorem k_X7_wayAt (l : Launch) (D : va_G) (kI kZ kJ : ClassId)  (o w : Nat) (x : Int32) : Met l yX7_wayAt wsX7_wayAt ({ frames := 1, cells := 0, slots := 0, locals := 21 }) (qR D kI kZ kJ [(o, .inr (7, [.int 0, .ref w])), (w, .inl (kI, 400, .inl (fun _ => 0)))] [.ref o, .int x]) (vp_Si (fun r : Int32 => r = -2)) 0 0 (fun _ => False) := by
  refine Met.ofW (cc := cX7_wayAt) (maxL := 2) (ret := (some .int)) (by decide) rfl ?_
  intro p e s m args below meth c s₁ B hml hv
  obtain ⟨rfl, hP, hK, hN⟩ := hv
  have hx := B.exec
  have hb := B.bytes
  have hr := B.returns
  have hts := atoms_spec (ws := wsX7_wayAt) B.pre
  have hown : s.vm.findClass RX7 = some m.cls := findClass_of_methodNamed B.named
  have hlocks := B.notSynchronized
  have hP : va_P D vwCl [(o, .inr (7, [.int 0, .ref w])), (w, .inl (kI, 400, .inl (fun _ => 0)))] s.heap := hP
  have hl := lv_entry ([.ref o, .int x]) (n := 2) (Nat.le_of_ble_eq_true rfl)
  rw [lg_entry_eq]
  generalize (lg_sl ([.ref o, .int x]) ++ List.replicate (2 - (lg_sl ([.ref o, .int x])).length) Slot.unset).toArray = ls at hl ⊢
  have hl : lv_has ls 2 [(0, .ref o), (1, .int x)] := hl
  refine lv_aload_n hx hb dX7_wayAt_0 rfl (lv_at hl 0 rfl) ?_
  refine lv_iload_n hx hb dX7_wayAt_1 rfl (lv_at hl 1 rfl) ?_
  refine vp_callSi (qV_R (n := 1) (As := [.int x]) (rest := []) (wc := [(o, .inr (7, [.int 0, .ref w])), (w, .inl (kI, 400, .inl (fun _ => 0)))]) ⟨hx, hb, hml, hown, hts⟩ hK hN hP [0, 1] rfl (k_X7_isIn l D kI kZ kJ o w x) gX7_wayAt_X7_isIn rfl rfl rfl (by decide +kernel) ⟨(Nat.le_of_ble_eq_true rfl), (Nat.le_of_ble_eq_true rfl)⟩ 0 7 rfl rfl rfl rfl hl.1 rfl (Nat.le_of_ble_eq_true rfl) dX7_wayAt_2 ⟨(Nat.le_of_ble_eq_true rfl), (Nat.le_of_ble_eq_true rfl)⟩).run (fun r hw => ?_)
  obtain rfl := hw
  refine lv_if_eq (tgt := 17) hx hb dX7_wayAt_5 (by decide) (fun _ => ?_) (fun h9 => absurd (by decide : (0 : Int32) = (0 : Int32)) h9)
  refine lv_bipush (v := (-2)) hx hb dX7_wayAt_17 (by decide) ?_
  exact W.iret (v := (-2)) hx hb hr (fun t ht hW => ⟨_, rfl, rfl, ht⟩) (fun q hq => by cases hq) dX7_wayAt_19
set_option maxHeartbeats 4000000 in
set_option maxRecDepth 100000 in
theorem k_X7_append (l : Launch) (D : va_G) (kI kZ kJ : ClassId)  (o w : Nat) (x : Int32) (sz : Nat) : Met l yX7_append wsX7_append ({ frames := 0, cells := 0, slots := 0, locals := 0 }) (qW D kI kZ kJ [(o, .inr (7, [.int 0, .ref w])), (w, .inl (kI, 400, .inl (fun _ => 0)))] sz [.ref o, .int x]) (va_Qv (fun (u : Unit) => True) (qB D (fun u : Unit => [(o, .inr (7, [.int 1, .ref w]))]) (va_A [(o, .inr (7, [.int 0, .ref w])), (w, .inl (kI, 400, .inl (fun _ => 0)))] sz)) (va_A [(o, .inr (7, [.int 0, .ref w])), (w, .inl (kI, 400, .inl (fun _ => 0)))] sz)) 0 0 (va_A [(o, .inr (7, [.int 0, .ref w])), (w, .inl (kI, 400, .inl (fun _ => 0)))] sz) := by
  refine Met.ofW (cc := cX7_append) (maxL := 2) (ret := none) (by decide) rfl ?_
  intro p e s m args below meth c s₁ B hml hv
  obtain ⟨rfl, hsz, hP, hK, hD0, hN⟩ := hv
  have hx := B.exec
  have hb := B.bytes
  have hr := B.returns
  have hts := atoms_spec (ws := wsX7_append) B.pre
  have hown : s.vm.findClass RX7 = some m.cls := findClass_of_methodNamed B.named
  have hlocks := B.notSynchronized
  subst hsz
  have hD := hD0.self (sz := s.heap.size)
  generalize hAe : va_A [(o, .inr (7, [.int 0, .ref w])), (w, .inl (kI, 400, .inl (fun _ => 0)))] s.heap.size = A at hD ⊢
  have hA : ∀ q : Nat, s.heap.size ≤ q → A q := fun q h => by rw [← hAe]; exact Or.inr h
  have hS : va_S A s.heap s.heap [] := va_S.rf
  have hP : va_P D vwCl [(o, .inr (7, [.int 0, .ref w])), (w, .inl (kI, 400, .inl (fun _ => 0)))] s.heap := hP
  have hl := lv_entry ([.ref o, .int x]) (n := 2) (Nat.le_of_ble_eq_true rfl)
  rw [lg_entry_eq]
  generalize (lg_sl ([.ref o, .int x]) ++ List.replicate (2 - (lg_sl ([.ref o, .int x])).length) Slot.unset).toArray = ls at hl ⊢
  have hl : lv_has ls 2 [(0, .ref o), (1, .int x)] := hl
  refine lv_aload_n hx hb dX7_append_0 rfl (lv_at hl 0 rfl) ?_
  refine va_get (D := D) (ci := 7) (v := .int 0) (C := RX7) (T := TX7) (N := 2) hx hb hts (by decide +kernel) hown hK hP 0 rfl rfl 0 (by decide) (hts (.fieldLink RX7 19 "CellarPushers$Ways" "size" "I") (by decide +kernel)) (fun _ h9 => h9) rfl dX7_append_1 ?_
  refine lv_aload_n hx hb dX7_append_4 rfl (lv_at hl 0 rfl) ?_
  refine va_get (D := D) (ci := 7) (v := .ref w) (C := RX7) (T := TX7) (N := 2) hx hb hts (by decide +kernel) hown hK hP 0 rfl rfl 1 (by decide) (hts (.fieldLink RX7 9 "CellarPushers$Ways" "ways" "[I") (by decide +kernel)) (fun _ h9 => h9) rfl dX7_append_5 ?_
  refine va_alen (v := 400) hx hb hK hP 1 0 rfl rfl (by decide) dX7_append_8 ?_
  refine lv_icmp_lt (tgt := 40) hx hb dX7_append_9 (by decide) (fun _ => ?_) (fun h9 => absurd (by decide : (0 : Int32) < (400 : Int32)) h9)
  refine lv_aload_n hx hb dX7_append_40 rfl (lv_at hl 0 rfl) ?_
  refine va_get (D := D) (ci := 7) (v := .int 0) (C := RX7) (T := TX7) (N := 2) hx hb hts (by decide +kernel) hown hK hP 0 rfl rfl 0 (by decide) (hts (.fieldLink RX7 19 "CellarPushers$Ways" "size" "I") (by decide +kernel)) (fun _ h9 => h9) rfl dX7_append_41 ?_
  refine lv_aload_n hx hb dX7_append_44 rfl (lv_at hl 0 rfl) ?_
  refine va_get (D := D) (ci := 7) (v := .ref w) (C := RX7) (T := TX7) (N := 2) hx hb hts (by decide +kernel) hown hK hP 0 rfl rfl 1 (by decide) (hts (.fieldLink RX7 9 "CellarPushers$Ways" "ways" "[I") (by decide +kernel)) (fun _ h9 => h9) rfl dX7_append_45 ?_
  refine va_alen (v := 400) hx hb hK hP 1 0 rfl rfl (by decide) dX7_append_48 ?_
  refine lv_icmp_ge (tgt := 72) hx hb dX7_append_49 (by decide) (fun h9 => absurd h9 (by decide : ¬ ((400 : Int32) ≤ (0 : Int32)))) (fun _ => ?_)
  refine lv_aload_n hx hb dX7_append_52 rfl (lv_at hl 0 rfl) ?_
  refine va_get (D := D) (ci := 7) (v := .ref w) (C := RX7) (T := TX7) (N := 2) hx hb hts (by decide +kernel) hown hK hP 0 rfl rfl 1 (by decide) (hts (.fieldLink RX7 9 "CellarPushers$Ways" "ways" "[I") (by decide +kernel)) (fun _ h9 => h9) rfl dX7_append_53 ?_
  refine lv_aload_n hx hb dX7_append_56 rfl (lv_at hl 0 rfl) ?_
  refine va_get (D := D) (ci := 7) (v := .int 0) (C := RX7) (T := TX7) (N := 2) hx hb hts (by decide +kernel) hown hK hP 0 rfl rfl 0 (by decide) (hts (.fieldLink RX7 19 "CellarPushers$Ways" "size" "I") (by decide +kernel)) (fun _ h9 => h9) rfl dX7_append_57 ?_
  refine lv_iload_n hx hb dX7_append_60 rfl (lv_at hl 1 rfl) ?_
  refine va_iast hx hb hK hP hD hS 1 0 rfl rfl (vp_in_nI (n := 0) (by decide) (by decide)) dX7_append_61 (fun H locs hP hD hS => ?_)
  have hP : va_P D vwCl [(o, .inr (7, [.int 0, .ref w])), (w, .inl (kI, 400, .inl (upd (fun _ => 0) (Int32.toNatClampNeg 0) x)))] H := hP
  have hD : va_D A [(o, .inr (7, [.int 0, .ref w])), (w, .inl (kI, 400, .inl (upd (fun _ => 0) (Int32.toNatClampNeg 0) x)))] := hD
  refine lv_aload_n hx hb dX7_append_62 rfl (lv_at hl 0 rfl) ?_
  refine lv_dup hx hb dX7_append_63 rfl ?_
  refine va_get (D := D) (ci := 7) (v := .int 0) (C := RX7) (T := TX7) (N := 2) hx hb hts (by decide +kernel) hown hK hP 0 rfl rfl 0 (by decide) (hts (.fieldLink RX7 19 "CellarPushers$Ways" "size" "I") (by decide +kernel)) (fun _ h9 => h9) rfl dX7_append_64 ?_
  refine lv_iconst (v := 1) hx hb dX7_append_67 (by decide) ?_
  refine lv_iadd hx hb dX7_append_68 ?_
  refine lv_topi (fun z_2 ez_2 => ?_)
  obtain rfl : z_2 = 1 := ez_2.trans (by decide)
  refine va_put (D := D) (ci := 7) (v := .int 1) (ty := .int) (C := RX7) (T := TX7) (N := 2) hx hb hts (by decide +kernel) tyX7 tyX7_ok nmX7 hown hK hP hD hS 0 rfl rfl 0 (by decide) (hts (.fieldLink RX7 19 "CellarPushers$Ways" "size" "I") (by decide +kernel)) (fun _ h9 => h9) rfl (by decide +kernel) rfl rfl (Nat.le_of_ble_eq_true rfl) dX7_append_69 (fun H locs hP hD hS => ?_)
  have hP : va_P D vwCl [(o, .inr (7, [.int 1, .ref w])), (w, .inl (kI, 400, .inl (upd (fun _ => 0) (Int32.toNatClampNeg 0) x)))] H := hP
  have hD : va_D A [(o, .inr (7, [.int 1, .ref w])), (w, .inl (kI, 400, .inl (upd (fun _ => 0) (Int32.toNatClampNeg 0) x)))] := hD
  have hP9 := hP.sub (ws' := [(o, .inr (7, [.int 1, .ref w]))]) [0] rfl
  have hD9 := hD.sub (ws' := [(o, .inr (7, [.int 1, .ref w]))]) [0] (by decide) rfl
  exact W.vret hx hb hr (fun t ht hW => ⟨⟨(), rfl, trivial, ⟨by rw [ht]; exact hP9, hD9⟩⟩, hS.F ht⟩) hS.2.2 dX7_append_72
set_option maxHeartbeats 4000000 in
set_option maxRecDepth 100000 in
theorem k_X7_become (l : Launch) (D : va_G) (kI kZ kJ : ClassId)  (o w q v : Nat) (sz : Nat) : Met l yX7_become wsX7_become ({ frames := 0, cells := 0, slots := 0, locals := 0 }) (qW D kI kZ kJ [(o, .inr (7, [.int 0, .ref w])), (q, .inr (7, [.int 0, .ref v]))] sz [.ref o, .ref q]) (va_Qv (fun (u : Unit) => True) (qB D (fun u : Unit => [(o, .inr (7, [.int 0, .ref w]))]) (va_A [(o, .inr (7, [.int 0, .ref w])), (q, .inr (7, [.int 0, .ref v]))] sz)) (va_A [(o, .inr (7, [.int 0, .ref w])), (q, .inr (7, [.int 0, .ref v]))] sz)) 0 0 (va_A [(o, .inr (7, [.int 0, .ref w])), (q, .inr (7, [.int 0, .ref v]))] sz) := by
  refine Met.ofW (cc := cX7_become) (maxL := 3) (ret := none) (by decide) rfl ?_
  intro p e s m args below meth c s₁ B hml hv
  obtain ⟨rfl, hsz, hP, hK, hD0, hN⟩ := hv
  have hx := B.exec
  have hb := B.bytes
  have hr := B.returns
  have hts := atoms_spec (ws := wsX7_become) B.pre
  have hown : s.vm.findClass RX7 = some m.cls := findClass_of_methodNamed B.named
  have hlocks := B.notSynchronized
  subst hsz
  have hD := hD0.self (sz := s.heap.size)
  generalize hAe : va_A [(o, .inr (7, [.int 0, .ref w])), (q, .inr (7, [.int 0, .ref v]))] s.heap.size = A at hD ⊢
  have hA : ∀ q : Nat, s.heap.size ≤ q → A q := fun q h => by rw [← hAe]; exact Or.inr h
  have hS : va_S A s.heap s.heap [] := va_S.rf
  have hP : va_P D vwCl [(o, .inr (7, [.int 0, .ref w])), (q, .inr (7, [.int 0, .ref v]))] s.heap := hP
  have hl := lv_entry ([.ref o, .ref q]) (n := 3) (Nat.le_of_ble_eq_true rfl)
  rw [lg_entry_eq]
  generalize (lg_sl ([.ref o, .ref q]) ++ List.replicate (3 - (lg_sl ([.ref o, .ref q])).length) Slot.unset).toArray = ls at hl ⊢
  have hl : lv_has ls 3 [(0, .ref o), (1, .ref q)] := hl
  refine lv_aload_n hx hb dX7_become_0 rfl (lv_at hl 0 rfl) ?_
  refine lv_iconst (v := 0) hx hb dX7_become_1 (by decide) ?_
  refine va_put (D := D) (ci := 7) (v := .int 0) (ty := .int) (C := RX7) (T := TX7) (N := 2) hx hb hts (by decide +kernel) tyX7 tyX7_ok nmX7 hown hK hP hD hS 0 rfl rfl 0 (by decide) (hts (.fieldLink RX7 19 "CellarPushers$Ways" "size" "I") (by decide +kernel)) (fun _ h9 => h9) rfl (by decide +kernel) rfl rfl (Nat.le_of_ble_eq_true rfl) dX7_become_2 (fun H locs hP hD hS => ?_)
  have hP : va_P D vwCl [(o, .inr (7, [.int 0, .ref w])), (q, .inr (7, [.int 0, .ref v]))] H := hP
  have hD : va_D A [(o, .inr (7, [.int 0, .ref w])), (q, .inr (7, [.int 0, .ref v]))] := hD
  refine lv_iconst (v := 0) hx hb dX7_become_5 (by decide) ?_
  refine lv_istore_n (lv' := [(2, .int 0), (0, .ref o), (1, .ref q)]) hx hb dX7_become_6 rfl hl (by decide) rfl (fun ls hl => ?_)
  refine lv_iload_n hx hb dX7_become_7 rfl (lv_at hl 0 rfl) ?_
  refine lv_aload_n hx hb dX7_become_8 rfl (lv_at hl 2 rfl) ?_
  refine va_get (D := D) (ci := 7) (v := .int 0) (C := RX7) (T := TX7) (N := 2) hx hb hts (by decide +kernel) hown hK hP 1 rfl rfl 0 (by decide) (hts (.fieldLink RX7 19 "CellarPushers$Ways" "size" "I") (by decide +kernel)) (fun _ h9 => h9) rfl dX7_become_9 ?_
  refine lv_icmp_ge (tgt := 30) hx hb dX7_become_12 (by decide) (fun _ => ?_) (fun h9 => absurd (by decide : (0 : Int32) ≤ (0 : Int32)) h9)
  have hP9 := hP.sub (ws' := [(o, .inr (7, [.int 0, .ref w]))]) [0] rfl
  have hD9 := hD.sub (ws' := [(o, .inr (7, [.int 0, .ref w]))]) [0] (by decide) rfl
  exact W.vret hx hb hr (fun t ht hW => ⟨⟨(), rfl, trivial, ⟨by rw [ht]; exact hP9, hD9⟩⟩, hS.F ht⟩) hS.2.2 dX7_become_30
set_option maxHeartbeats 4000000 in
set_option maxRecDepth 100000 in
theorem k_X6_reach (l : Launch) (D : va_G) (kI kZ kJ : ClassId)  (wk : Nat) (x : Int32) : Met l yX6_reach wsX6_reach ({ frames := 1, cells := 0, slots := 0, locals := 20 }) (qR D kI kZ kJ [] [.ref wk, .int (-1), .int x]) (va_Sv (fun _ => True)) 0 0 (fun _ => False) := by
  refine Met.ofW (cc := cX6_reach) (maxL := 3) (ret := none) (by decide) rfl ?_
  intro p e s m args below meth c s₁ B hml hv
  obtain ⟨rfl, hP, hK, hN⟩ := hv
  have hx := B.exec
  have hb := B.bytes
  have hr := B.returns
  have hts := atoms_spec (ws := wsX6_reach) B.pre
  have hown : s.vm.findClass RX6 = some m.cls := findClass_of_methodNamed B.named
  have hlocks := B.notSynchronized
  have hP : va_P D vwCl [] s.heap := hP
  have hl := lv_entry ([.ref wk, .int (-1), .int x]) (n := 3) (Nat.le_of_ble_eq_true rfl)
  rw [lg_entry_eq]
  generalize (lg_sl ([.ref wk, .int (-1), .int x]) ++ List.replicate (3 - (lg_sl ([.ref wk, .int (-1), .int x])).length) Slot.unset).toArray = ls at hl ⊢
  have hl : lv_has ls 3 [(0, .ref wk), (1, .int (-1)), (2, .int x)] := hl
  refine lv_iload_n hx hb dX6_reach_0 rfl (lv_at hl 1 rfl) ?_
  refine vp_callSi (qSN_R (n := 1) (As := [.int (-1)]) (rest := []) (wc := []) (host := RX8) ⟨hx, hb, hml, hown, hts⟩ hK hN hP [] rfl (k_X8_isField l D kI kZ kJ (-1)) gX6_reach_X8_isField_n55 rfl rfl rfl (by decide) (hts (.initialized RX8) (by decide +kernel)) (hts (.static yX8_isField) (by decide +kernel)) (by decide +kernel) ⟨(Nat.le_of_ble_eq_true rfl), (Nat.le_of_ble_eq_true rfl)⟩ rfl hl.1 rfl (Nat.le_of_ble_eq_true rfl) dX6_reach_1 ⟨(Nat.le_of_ble_eq_true rfl), (Nat.le_of_ble_eq_true rfl)⟩).run (fun r hw => ?_)
  obtain ⟨hw0, hw1⟩ := hw
  obtain rfl := hw0 (Or.inl (by decide))
  refine lv_if_eq (tgt := 53) hx hb dX6_reach_4 (by decide) (fun _ => ?_) (fun h9 => absurd (by decide : (0 : Int32) = (0 : Int32)) h9)
  exact W.vret hx hb hr (fun t ht hW => ⟨rfl, trivial, ht⟩) (fun q hq => by cases hq) dX6_reach_53
set_option maxHeartbeats 4000000 in
set_option maxRecDepth 100000 in
theorem k_J7_fill_53178 (l : Launch) (D : va_G) (kI kZ kJ : ClassId)  (a : Nat) (x : Int32) (sz : Nat) : Met l yJ7_fill_53178 wsJ7_fill_53178 ({ frames := 0, cells := 0, slots := 0, locals := 0 }) (qW D kI kZ kJ [(a, .inl (kI, 64, .inl (fun _ => 0)))] sz [.ref a, .int x]) (va_Qv (fun (u : Unit) => True) (qB D (fun u : Unit => []) (va_A [(a, .inl (kI, 64, .inl (fun _ => 0)))] sz)) (va_A [(a, .inl (kI, 64, .inl (fun _ => 0)))] sz)) 0 0 (va_A [(a, .inl (kI, 64, .inl (fun _ => 0)))] sz) := by
  refine Met.ofW (cc := cJ7_fill_53178) (maxL := 4) (ret := none) (by decide) rfl ?_
  intro p e s m args below meth c s₁ B hml hv
  obtain ⟨rfl, hsz, hP, hK, hD0, hN⟩ := hv
  have hx := B.exec
  have hb := B.bytes
  have hr := B.returns
  have hts := atoms_spec (ws := wsJ7_fill_53178) B.pre
  have hown : s.vm.findClass RJ7 = some m.cls := findClass_of_methodNamed B.named
  have hlocks := B.notSynchronized
  subst hsz
  have hD := hD0.self (sz := s.heap.size)
  generalize hAe : va_A [(a, .inl (kI, 64, .inl (fun _ => 0)))] s.heap.size = A at hD ⊢
  have hA : ∀ q : Nat, s.heap.size ≤ q → A q := fun q h => by rw [← hAe]; exact Or.inr h
  have hS : va_S A s.heap s.heap [] := va_S.rf
  have hP : va_P D vwCl [(a, .inl (kI, 64, .inl (fun _ => 0)))] s.heap := hP
  have hl := lv_entry ([.ref a, .int x]) (n := 4) (Nat.le_of_ble_eq_true rfl)
  rw [lg_entry_eq]
  generalize (lg_sl ([.ref a, .int x]) ++ List.replicate (4 - (lg_sl ([.ref a, .int x])).length) Slot.unset).toArray = ls at hl ⊢
  have hl : lv_has ls 4 [(0, .ref a), (1, .int x)] := hl
  refine lv_iconst (v := 0) hx hb dJ7_fill_53178_0 (by decide) ?_
  refine lv_istore_n (lv' := [(2, .int 0), (0, .ref a), (1, .int x)]) hx hb dJ7_fill_53178_1 rfl hl (by decide) rfl (fun ls hl => ?_)
  refine lv_aload_n hx hb dJ7_fill_53178_2 rfl (lv_at hl 1 rfl) ?_
  refine va_alen (v := 64) hx hb hK hP 0 0 rfl rfl (by decide) dJ7_fill_53178_3 ?_
  refine lv_istore_n (lv' := [(3, .int 64), (2, .int 0), (0, .ref a), (1, .int x)]) hx hb dJ7_fill_53178_4 rfl hl (by decide) rfl (fun ls hl => ?_)
  refine q_genH (P := fun H locs => ∃ fa : Nat → Int32, va_P D vwCl [(a, .inl (kI, 64, .inl fa))] H ∧ va_D A [(a, .inl (kI, 64, .inl fa))] ∧ va_S A s.heap H locs) ⟨(fun _ => 0), hP, hD, hS⟩ (fun H locs hh => ?_)
  obtain ⟨fa, hP, hD, hS⟩ := hh
  obtain ⟨i5, hk5, hl5⟩ : ∃ i5 : Nat, i5 ≤ 64 ∧ lv_has ls 4 [(3, .int 64), (2, .int (nI i5)), (0, .ref a), (1, .int x)] := ⟨0, by omega, hl⟩
  clear hl
  have hl := hl5
  clear hl5
  obtain ⟨f5, hf5⟩ : ∃ f5 : Nat, 64 < i5 + f5 := ⟨64 + 1, by omega⟩
  induction f5 generalizing i5 ls H locs fa with
  | zero => exact absurd hf5 (by omega)
  | succ f5 ih5 =>
    refine lv_iload_n hx hb dJ7_fill_53178_5 rfl (lv_at hl 1 rfl) ?_
    refine lv_iload_n hx hb dJ7_fill_53178_6 rfl (lv_at hl 0 rfl) ?_
    refine lv_icmp_ge (tgt := 20) hx hb dJ7_fill_53178_7 (by decide) (fun c_1 => ?_) (fun c_1 => ?_)
    · skip
      have hi5 : i5 = 64 := by have := (nI_leI (a := 64) (b := i5) (by omega) (by omega)).mp c_1; omega
      have hP9 := hP.sub (ws' := []) [] rfl
      have hD9 := hD.sub (ws' := []) [] (by decide) rfl
      exact W.vret hx hb hr (fun t ht hW => ⟨⟨(), rfl, trivial, ⟨by rw [ht]; exact hP9, hD9⟩⟩, hS.F ht⟩) hS.2.2 dJ7_fill_53178_20
    · skip
      have hi5 : i5 < 64 := by have := mt (nI_leI (a := 64) (b := i5) (by omega) (by omega)).mpr c_1; omega
      refine lv_aload_n hx hb dJ7_fill_53178_10 rfl (lv_at hl 2 rfl) ?_
      refine lv_iload_n hx hb dJ7_fill_53178_11 rfl (lv_at hl 1 rfl) ?_
      refine lv_iload_n hx hb dJ7_fill_53178_12 rfl (lv_at hl 3 rfl) ?_
      refine va_iast hx hb hK hP hD hS 0 0 rfl rfl (vp_in_nI (by have := hi5; omega) (by decide)) dJ7_fill_53178_13 (fun H locs hP hD hS => ?_)
      have hP : va_P D vwCl [(a, .inl (kI, 64, .inl (upd fa (Int32.toNatClampNeg (nI i5)) x)))] H := hP
      have hD : va_D A [(a, .inl (kI, 64, .inl (upd fa (Int32.toNatClampNeg (nI i5)) x)))] := hD
      refine lv_iinc (v := (nI (i5 + 1))) (lv' := [(2, .int (nI (i5 + 1))), (3, .int 64), (0, .ref a), (1, .int x)]) hx hb dJ7_fill_53178_14 hl (k := 1) rfl (q_inc _) (by decide) rfl (fun ls hl => ?_)
      refine lv_goto (tgt := 5) hx hb dJ7_fill_53178_17 (by decide) ?_
      exact ih5 (i5 := (i5 + 1)) (ls := ls) (hk5 := by omega) (hl := lv_sub hl [1, 0, 2, 3] rfl) (hf5 := by omega) (H := H) (locs := locs) (fa := (upd fa (Int32.toNatClampNeg (nI i5)) x)) (hP := hP) (hD := hD) (hS := hS)
set_option maxHeartbeats 4000000 in
set_option maxRecDepth 100000 in
theorem k_X6_measure (l : Launch) (D : va_G) (kI kZ kJ : ClassId)  (wk wf wq g sc : Nat) (sz : Nat) : Met l yX6_measure wsX6_measure ({ frames := 2, cells := 0, slots := 0, locals := 42 }) (qW D kI kZ kJ [(wk, .inr (6, [.int 0, .ref wf, .ref wq])), (wf, .inl (kI, 64, .inl (fun _ => 0))), (sc, .inr (3, [.int (-1), .long 0, .int 0, .int 0]))] sz [.ref wk, .ref g, .ref sc]) (va_Qv (fun (u : Unit) => True) (qB D (fun u : Unit => [(wk, .inr (6, [.int 0, .ref wf, .ref wq]))]) (va_A [(wk, .inr (6, [.int 0, .ref wf, .ref wq])), (wf, .inl (kI, 64, .inl (fun _ => 0))), (sc, .inr (3, [.int (-1), .long 0, .int 0, .int 0]))] sz)) (va_A [(wk, .inr (6, [.int 0, .ref wf, .ref wq])), (wf, .inl (kI, 64, .inl (fun _ => 0))), (sc, .inr (3, [.int (-1), .long 0, .int 0, .int 0]))] sz)) 0 0 (va_A [(wk, .inr (6, [.int 0, .ref wf, .ref wq])), (wf, .inl (kI, 64, .inl (fun _ => 0))), (sc, .inr (3, [.int (-1), .long 0, .int 0, .int 0]))] sz) := by
  refine Met.ofW (cc := cX6_measure) (maxL := 7) (ret := none) (by decide) rfl ?_
  intro p e s m args below meth c s₁ B hml hv
  obtain ⟨rfl, hsz, hP, hK, hD0, hN⟩ := hv
  have hx := B.exec
  have hb := B.bytes
  have hr := B.returns
  have hts := atoms_spec (ws := wsX6_measure) B.pre
  have hown : s.vm.findClass RX6 = some m.cls := findClass_of_methodNamed B.named
  have hlocks := B.notSynchronized
  subst hsz
  have hD := hD0.self (sz := s.heap.size)
  generalize hAe : va_A [(wk, .inr (6, [.int 0, .ref wf, .ref wq])), (wf, .inl (kI, 64, .inl (fun _ => 0))), (sc, .inr (3, [.int (-1), .long 0, .int 0, .int 0]))] s.heap.size = A at hD ⊢
  have hA : ∀ q : Nat, s.heap.size ≤ q → A q := fun q h => by rw [← hAe]; exact Or.inr h
  have hS : va_S A s.heap s.heap [] := va_S.rf
  have hP : va_P D vwCl [(wk, .inr (6, [.int 0, .ref wf, .ref wq])), (wf, .inl (kI, 64, .inl (fun _ => 0))), (sc, .inr (3, [.int (-1), .long 0, .int 0, .int 0]))] s.heap := hP
  have hl := lv_entry ([.ref wk, .ref g, .ref sc]) (n := 7) (Nat.le_of_ble_eq_true rfl)
  rw [lg_entry_eq]
  generalize (lg_sl ([.ref wk, .ref g, .ref sc]) ++ List.replicate (7 - (lg_sl ([.ref wk, .ref g, .ref sc])).length) Slot.unset).toArray = ls at hl ⊢
  have hl : lv_has ls 7 [(0, .ref wk), (1, .ref g), (2, .ref sc)] := hl
  refine lv_aload_n hx hb dX6_measure_0 rfl (lv_at hl 0 rfl) ?_
  refine va_get (D := D) (ci := 6) (v := .ref wf) (C := RX6) (T := TX6) (N := 3) hx hb hts (by decide +kernel) hown hK hP 0 rfl rfl 1 (by decide) (hts (.fieldLink RX6 9 "CellarPushers$Walks" "far" "[I") (by decide +kernel)) (fun _ h9 => h9) rfl dX6_measure_1 ?_
  refine lv_iconst (v := (-1)) hx hb dX6_measure_4 (by decide) ?_
  refine qc_v (wr := [(wk, .inr (6, [.int 0, .ref wf, .ref wq])), (sc, .inr (3, [.int (-1), .long 0, .int 0, .int 0]))]) (qS_W (n := 2) (As := [.ref wf, .int (-1)]) (rest := []) (wc := [(wf, .inl (kI, 64, .inl (fun _ => 0)))]) ⟨hx, hb, hml, hown, hts⟩ hK hN hP hD [1] rfl rfl (by decide) (k_J7_fill_53178 l D kI kZ kJ wf (-1) s.heap.size) gX6_measure_J7_fill_53178 rfl rfl rfl (by decide +kernel) ⟨(Nat.le_of_ble_eq_true rfl), (Nat.le_of_ble_eq_true rfl)⟩ rfl hl.1 rfl (Nat.le_of_ble_eq_true rfl) dX6_measure_5 ⟨(Nat.le_of_ble_eq_true rfl), (Nat.le_of_ble_eq_true rfl)⟩) hP hD hS hA [1] [0, 2] rfl rfl (by decide) (by decide) (fun u H locs hw hP hD hS => ?_)
  have hP : va_P D vwCl [(wk, .inr (6, [.int 0, .ref wf, .ref wq])), (sc, .inr (3, [.int (-1), .long 0, .int 0, .int 0]))] H := hP
  have hD : va_D A [(wk, .inr (6, [.int 0, .ref wf, .ref wq])), (sc, .inr (3, [.int (-1), .long 0, .int 0, .int 0]))] := hD
  refine lv_aload_n hx hb dX6_measure_8 rfl (lv_at hl 0 rfl) ?_
  refine lv_iconst (v := 0) hx hb dX6_measure_9 (by decide) ?_
  refine va_put (D := D) (ci := 6) (v := .int 0) (ty := .int) (C := RX6) (T := TX6) (N := 3) hx hb hts (by decide +kernel) tyX6 tyX6_ok nmX6 hown hK hP hD hS 0 rfl rfl 0 (by decide) (hts (.fieldLink RX6 24 "CellarPushers$Walks" "reached" "I") (by decide +kernel)) (fun _ h9 => h9) rfl (by decide +kernel) rfl rfl (Nat.le_of_ble_eq_true rfl) dX6_measure_10 (fun H locs hP hD hS => ?_)
  have hP : va_P D vwCl [(wk, .inr (6, [.int 0, .ref wf, .ref wq])), (sc, .inr (3, [.int (-1), .long 0, .int 0, .int 0]))] H := hP
  have hD : va_D A [(wk, .inr (6, [.int 0, .ref wf, .ref wq])), (sc, .inr (3, [.int (-1), .long 0, .int 0, .int 0]))] := hD
  refine lv_aload_n hx hb dX6_measure_13 rfl (lv_at hl 0 rfl) ?_
  refine lv_aload_n hx hb dX6_measure_14 rfl (lv_at hl 2 rfl) ?_
  refine va_get (D := D) (ci := 3) (v := .int (-1)) (C := RX3) (T := TX3) (N := 4) hx hb hts (by decide +kernel) hown hK hP 1 rfl rfl 0 (by decide) (hts (.fieldLink RX6 28 "CellarPushers$Scene" "manAt" "I") (by decide +kernel)) (fun _ h9 => h9) rfl dX6_measure_15 ?_
  refine lv_iconst (v := 0) hx hb dX6_measure_18 (by decide) ?_
  refine va_csv (qV_R (n := 2) (As := [.int (-1), .int 0]) (rest := []) (wc := []) ⟨hx, hb, hml, hown, hts⟩ hK hN hP [] rfl (k_X6_reach l D kI kZ kJ wk 0) gX6_measure_X6_reach rfl rfl rfl (by decide +kernel) ⟨(Nat.le_of_ble_eq_true rfl), (Nat.le_of_ble_eq_true rfl)⟩ 0 6 rfl rfl rfl rfl hl.1 rfl (Nat.le_of_ble_eq_true rfl) dX6_measure_19 ⟨(Nat.le_of_ble_eq_true rfl), (Nat.le_of_ble_eq_true rfl)⟩).run (fun hw => ?_)
  refine lv_iconst (v := 0) hx hb dX6_measure_22 (by decide) ?_
  refine lv_istore_n (lv' := [(3, .int 0), (0, .ref wk), (1, .ref g), (2, .ref sc)]) hx hb dX6_measure_23 rfl hl (by decide) rfl (fun ls hl => ?_)
  refine lv_iload_n hx hb dX6_measure_24 rfl (lv_at hl 0 rfl) ?_
  refine lv_aload_n hx hb dX6_measure_25 rfl (lv_at hl 1 rfl) ?_
  refine va_get (D := D) (ci := 6) (v := .int 0) (C := RX6) (T := TX6) (N := 3) hx hb hts (by decide +kernel) hown hK hP 0 rfl rfl 0 (by decide) (hts (.fieldLink RX6 24 "CellarPushers$Walks" "reached" "I") (by decide +kernel)) (fun _ h9 => h9) rfl dX6_measure_26 ?_
  refine lv_icmp_ge (tgt := 111) hx hb dX6_measure_29 (by decide) (fun _ => ?_) (fun h9 => absurd (by decide : (0 : Int32) ≤ (0 : Int32)) h9)
  have hP9 := hP.sub (ws' := [(wk, .inr (6, [.int 0, .ref wf, .ref wq]))]) [0] rfl
  have hD9 := hD.sub (ws' := [(wk, .inr (6, [.int 0, .ref wf, .ref wq]))]) [0] (by decide) rfl
  exact W.vret hx hb hr (fun t ht hW => ⟨⟨(), rfl, trivial, ⟨by rw [ht]; exact hP9, hD9⟩⟩, hS.F ht⟩) hS.2.2 dX6_measure_111
set_option maxHeartbeats 4000000 in
set_option maxRecDepth 100000 in
theorem k_X2_isDead (l : Launch) (D : va_G) (kI kZ kJ : ClassId)  (g kd rw ms : Nat) (bw bh : Nat) (hbw : bw ≤ 8) (hbh : bh ≤ 8) (pr : Nat) (n : Nat) (hn : n < 64) : Met l yX2_isDead wsX2_isDead ({ frames := 1, cells := 0, slots := 0, locals := 21 }) (qR D kI kZ kJ [(g, .inr (0, [.int (nI bw), .int (nI bh), .long 0, .ref kd, .ref rw, .ref ms])), (kd, .inl (kI, 64, .inl (fun _ => 0))), (ms, .inl (kZ, 8, .inl (fun _ => 0)))] [.ref pr, .ref g, .int (nI n)]) (vp_Si (fun r : Int32 => r = 0)) 0 0 (fun _ => False) := by
  refine Met.ofW (cc := cX2_isDead) (maxL := 4) (ret := (some .boolean)) (by decide) rfl ?_
  intro p e s m args below meth c s₁ B hml hv
  obtain ⟨rfl, hP, hK, hN⟩ := hv
  have hx := B.exec
  have hb := B.bytes
  have hr := B.returns
  have hts := atoms_spec (ws := wsX2_isDead) B.pre
  have hown : s.vm.findClass RX2 = some m.cls := findClass_of_methodNamed B.named
  have hlocks := B.notSynchronized
  have hP : va_P D vwCl [(g, .inr (0, [.int (nI bw), .int (nI bh), .long 0, .ref kd, .ref rw, .ref ms])), (kd, .inl (kI, 64, .inl (fun _ => 0))), (ms, .inl (kZ, 8, .inl (fun _ => 0)))] s.heap := hP
  have hl := lv_entry ([.ref pr, .ref g, .int (nI n)]) (n := 4) (Nat.le_of_ble_eq_true rfl)
  rw [lg_entry_eq]
  generalize (lg_sl ([.ref pr, .ref g, .int (nI n)]) ++ List.replicate (4 - (lg_sl ([.ref pr, .ref g, .int (nI n)])).length) Slot.unset).toArray = ls at hl ⊢
  have hl : lv_has ls 4 [(0, .ref pr), (1, .ref g), (2, .int (nI n))] := hl
  refine lv_aload_n hx hb dX2_isDead_0 rfl (lv_at hl 1 rfl) ?_
  refine lv_iload_n hx hb dX2_isDead_1 rfl (lv_at hl 2 rfl) ?_
  refine vp_callSi (qV_R (n := 1) (As := [.int (nI n)]) (rest := []) (wc := [(g, .inr (0, [.int (nI bw), .int (nI bh), .long 0, .ref kd, .ref rw, .ref ms])), (kd, .inl (kI, 64, .inl (fun _ => 0))), (ms, .inl (kZ, 8, .inl (fun _ => 0)))]) ⟨hx, hb, hml, hown, hts⟩ hK hN hP [0, 1, 2] rfl (k_X0_kindNow_n l D kI kZ kJ g kd rw ms bw bh hbw hbh n hn) gX2_isDead_X0_kindNow rfl rfl rfl (by decide +kernel) ⟨(Nat.le_of_ble_eq_true rfl), (Nat.le_of_ble_eq_true rfl)⟩ 0 0 rfl rfl rfl rfl hl.1 rfl (Nat.le_of_ble_eq_true rfl) dX2_isDead_2 ⟨(Nat.le_of_ble_eq_true rfl), (Nat.le_of_ble_eq_true rfl)⟩).run (fun r hw => ?_)
  obtain rfl := hw
  refine lv_if_ne (tgt := 10) hx hb dX2_isDead_5 (by decide) (fun h9 => absurd h9 (by decide : ¬ (¬ (0 : Int32) = (0 : Int32)))) (fun _ => ?_)
  refine lv_iconst (v := 0) hx hb dX2_isDead_8 (by decide) ?_
  exact W.zret (v := 0) (ty := .boolean) hx hb hr rfl (fun t ht hW => ⟨_, rfl, rfl, ht⟩) (fun q hq => by cases hq) dX2_isDead_9
