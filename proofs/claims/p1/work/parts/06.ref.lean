set_option maxHeartbeats 4000000 in
set_option maxRecDepth 100000 in
theorem k_X9_isField (l : Launch) (D : va_G) (kI kZ kJ : ClassId)  (mo kk rp mi ba wn m1 m2 m3 m4 pl ta wa pz ih su th od fo co qu pa td wt il : Nat) (bw bh : Nat) (hbw : bw ≤ 8) (hbh : bh ≤ 8) (x y : Int32) : Met l yX9_isField wsX9_isField ({ frames := 0, cells := 0, slots := 0, locals := 0 }) (qR D kI kZ kJ [(mo, .inr (9, [.int (nI bw), .int (nI bh), .ref kk, .ref rp, .ref mi, .ref ba, .ref wn, .int (-1), .int 0, .int 0, .ref m1, .ref m2, .ref m3, .ref m4, .int 0, .int 0, .ref pl, .ref ta, .int 0, .int 0, .int (-1), .ref wa, .ref pz, .ref ih, .ref su, .ref th, .ref od, .ref fo, .ref co, .ref qu, .ref pa, .ref td, .ref wt, .ref il, .int 0, .int 0]))] [.ref mo, .int x, .int y]) (vp_Si (fun r : Int32 => q_in bw bh x y ∧ r = 1 ∨ ¬ q_in bw bh x y ∧ r = 0)) 0 0 (fun _ => False) := by
  refine Met.ofW (cc := cX9_isField) (maxL := 3) (ret := (some .boolean)) (by decide) rfl ?_
  intro p e s m args below meth c s₁ B hml hv
  obtain ⟨rfl, hP, hK, hN⟩ := hv
  have hx := B.exec
  have hb := B.bytes
  have hr := B.returns
  have hts := atoms_spec (ws := wsX9_isField) B.pre
  have hown : s.vm.findClass RX9 = some m.cls := findClass_of_methodNamed B.named
  have hlocks := B.notSynchronized
  have hP : va_P D vwCl [(mo, .inr (9, [.int (nI bw), .int (nI bh), .ref kk, .ref rp, .ref mi, .ref ba, .ref wn, .int (-1), .int 0, .int 0, .ref m1, .ref m2, .ref m3, .ref m4, .int 0, .int 0, .ref pl, .ref ta, .int 0, .int 0, .int (-1), .ref wa, .ref pz, .ref ih, .ref su, .ref th, .ref od, .ref fo, .ref co, .ref qu, .ref pa, .ref td, .ref wt, .ref il, .int 0, .int 0]))] s.heap := hP
  have hl := lv_entry ([.ref mo, .int x, .int y]) (n := 3) (Nat.le_of_ble_eq_true rfl)
  rw [lg_entry_eq]
  generalize (lg_sl ([.ref mo, .int x, .int y]) ++ List.replicate (3 - (lg_sl ([.ref mo, .int x, .int y])).length) Slot.unset).toArray = ls at hl ⊢
  have hl : lv_has ls 3 [(0, .ref mo), (1, .int x), (2, .int y)] := hl
  refine lv_iload_n hx hb dX9_isField_0 rfl (lv_at hl 1 rfl) ?_
  refine lv_if_lt (tgt := 28) hx hb dX9_isField_1 (by decide) (fun c_1 => ?_) (fun c_1 => ?_)
  · skip
    refine lv_iconst (v := 0) hx hb dX9_isField_28 (by decide) ?_
    exact W.zret (v := 0) (ty := .boolean) hx hb hr rfl (fun t ht hW => ⟨_, rfl, (by first | exact Or.inr ⟨fun h => by obtain ⟨h1, h2, h3, h4⟩ := h; contradiction, rfl⟩ | exact Or.inl ⟨⟨by assumption, by assumption, by assumption, by assumption⟩, rfl⟩), ht⟩) (fun q hq => by cases hq) dX9_isField_29
  · skip
    refine lv_iload_n hx hb dX9_isField_4 rfl (lv_at hl 1 rfl) ?_
    refine lv_aload_n hx hb dX9_isField_5 rfl (lv_at hl 0 rfl) ?_
    refine va_get (D := D) (ci := 9) (v := .int (nI bw)) (C := RX9) (T := TX9) (N := 36) hx hb hts (by decide +kernel) hown hK hP 0 rfl rfl 0 (by decide) (hts (.fieldLink RX9 92 "CellarPushersModel" "width" "I") (by decide +kernel)) (fun _ h9 => h9) rfl dX9_isField_6 ?_
    refine lv_icmp_ge (tgt := 28) hx hb dX9_isField_9 (by decide) (fun c_2 => ?_) (fun c_2 => ?_)
    · skip
      refine lv_iconst (v := 0) hx hb dX9_isField_28 (by decide) ?_
      exact W.zret (v := 0) (ty := .boolean) hx hb hr rfl (fun t ht hW => ⟨_, rfl, (by first | exact Or.inr ⟨fun h => by obtain ⟨h1, h2, h3, h4⟩ := h; contradiction, rfl⟩ | exact Or.inl ⟨⟨by assumption, by assumption, by assumption, by assumption⟩, rfl⟩), ht⟩) (fun q hq => by cases hq) dX9_isField_29
    · skip
      refine lv_iload_n hx hb dX9_isField_12 rfl (lv_at hl 2 rfl) ?_
      refine lv_if_lt (tgt := 28) hx hb dX9_isField_13 (by decide) (fun c_3 => ?_) (fun c_3 => ?_)
      · skip
        refine lv_iconst (v := 0) hx hb dX9_isField_28 (by decide) ?_
        exact W.zret (v := 0) (ty := .boolean) hx hb hr rfl (fun t ht hW => ⟨_, rfl, (by first | exact Or.inr ⟨fun h => by obtain ⟨h1, h2, h3, h4⟩ := h; contradiction, rfl⟩ | exact Or.inl ⟨⟨by assumption, by assumption, by assumption, by assumption⟩, rfl⟩), ht⟩) (fun q hq => by cases hq) dX9_isField_29
      · skip
        refine lv_iload_n hx hb dX9_isField_16 rfl (lv_at hl 2 rfl) ?_
        refine lv_aload_n hx hb dX9_isField_17 rfl (lv_at hl 0 rfl) ?_
        refine va_get (D := D) (ci := 9) (v := .int (nI bh)) (C := RX9) (T := TX9) (N := 36) hx hb hts (by decide +kernel) hown hK hP 0 rfl rfl 1 (by decide) (hts (.fieldLink RX9 95 "CellarPushersModel" "height" "I") (by decide +kernel)) (fun _ h9 => h9) rfl dX9_isField_18 ?_
        refine lv_icmp_ge (tgt := 28) hx hb dX9_isField_21 (by decide) (fun c_4 => ?_) (fun c_4 => ?_)
        · skip
          refine lv_iconst (v := 0) hx hb dX9_isField_28 (by decide) ?_
          exact W.zret (v := 0) (ty := .boolean) hx hb hr rfl (fun t ht hW => ⟨_, rfl, (by first | exact Or.inr ⟨fun h => by obtain ⟨h1, h2, h3, h4⟩ := h; contradiction, rfl⟩ | exact Or.inl ⟨⟨by assumption, by assumption, by assumption, by assumption⟩, rfl⟩), ht⟩) (fun q hq => by cases hq) dX9_isField_29
        · skip
          refine lv_iconst (v := 1) hx hb dX9_isField_24 (by decide) ?_
          refine lv_goto (tgt := 29) hx hb dX9_isField_25 (by decide) ?_
          exact W.zret (v := 1) (ty := .boolean) hx hb hr rfl (fun t ht hW => ⟨_, rfl, (by first | exact Or.inr ⟨fun h => by obtain ⟨h1, h2, h3, h4⟩ := h; contradiction, rfl⟩ | exact Or.inl ⟨⟨by assumption, by assumption, by assumption, by assumption⟩, rfl⟩), ht⟩) (fun q hq => by cases hq) dX9_isField_29
set_option maxHeartbeats 4000000 in
set_option maxRecDepth 100000 in
theorem k_X9_kindOf (l : Launch) (D : va_G) (kI kZ kJ : ClassId)  (mo kk rp mi ba wn m1 m2 m3 m4 pl ta wa pz ih su th od fo co qu pa td wt il : Nat) (bw bh : Nat) (hbw : bw ≤ 8) (hbh : bh ≤ 8) (n : Nat) (hn : n < 64) : Met l yX9_kindOf wsX9_kindOf ({ frames := 0, cells := 0, slots := 0, locals := 0 }) (qR D kI kZ kJ [(mo, .inr (9, [.int (nI bw), .int (nI bh), .ref kk, .ref rp, .ref mi, .ref ba, .ref wn, .int (-1), .int 0, .int 0, .ref m1, .ref m2, .ref m3, .ref m4, .int 0, .int 0, .ref pl, .ref ta, .int 0, .int 0, .int (-1), .ref wa, .ref pz, .ref ih, .ref su, .ref th, .ref od, .ref fo, .ref co, .ref qu, .ref pa, .ref td, .ref wt, .ref il, .int 0, .int 0])), (kk, .inl (kI, 64, .inl (fun _ => 0))), (mi, .inl (kZ, 8, .inl (fun _ => 0)))] [.ref mo, .int (nI n)]) (vp_Si (fun r : Int32 => r = 0)) 0 0 (fun _ => False) := by
  refine Met.ofW (cc := cX9_kindOf) (maxL := 2) (ret := (some .int)) (by decide) rfl ?_
  intro p e s m args below meth c s₁ B hml hv
  obtain ⟨rfl, hP, hK, hN⟩ := hv
  have hx := B.exec
  have hb := B.bytes
  have hr := B.returns
  have hts := atoms_spec (ws := wsX9_kindOf) B.pre
  have hown : s.vm.findClass RX9 = some m.cls := findClass_of_methodNamed B.named
  have hlocks := B.notSynchronized
  have hP : va_P D vwCl [(mo, .inr (9, [.int (nI bw), .int (nI bh), .ref kk, .ref rp, .ref mi, .ref ba, .ref wn, .int (-1), .int 0, .int 0, .ref m1, .ref m2, .ref m3, .ref m4, .int 0, .int 0, .ref pl, .ref ta, .int 0, .int 0, .int (-1), .ref wa, .ref pz, .ref ih, .ref su, .ref th, .ref od, .ref fo, .ref co, .ref qu, .ref pa, .ref td, .ref wt, .ref il, .int 0, .int 0])), (kk, .inl (kI, 64, .inl (fun _ => 0))), (mi, .inl (kZ, 8, .inl (fun _ => 0)))] s.heap := hP
  have hl := lv_entry ([.ref mo, .int (nI n)]) (n := 2) (Nat.le_of_ble_eq_true rfl)
  rw [lg_entry_eq]
  generalize (lg_sl ([.ref mo, .int (nI n)]) ++ List.replicate (2 - (lg_sl ([.ref mo, .int (nI n)])).length) Slot.unset).toArray = ls at hl ⊢
  have hl : lv_has ls 2 [(0, .ref mo), (1, .int (nI n))] := hl
  refine lv_iload_n hx hb dX9_kindOf_0 rfl (lv_at hl 1 rfl) ?_
  refine lv_if_lt (tgt := 16) hx hb dX9_kindOf_1 (by decide) (fun h9 => absurd h9 (by have hq := hn; exact nI_pos (by omega))) (fun _ => ?_)
  refine lv_aload_n hx hb dX9_kindOf_4 rfl (lv_at hl 0 rfl) ?_
  refine va_get (D := D) (ci := 9) (v := .ref mi) (C := RX9) (T := TX9) (N := 36) hx hb hts (by decide +kernel) hown hK hP 0 rfl rfl 4 (by decide) (hts (.fieldLink RX9 16 "CellarPushersModel" "missing" "[Z") (by decide +kernel)) (fun _ h9 => h9) rfl dX9_kindOf_5 ?_
  refine lv_iload_n hx hb dX9_kindOf_8 rfl (lv_at hl 1 rfl) ?_
  refine lv_bipush (v := 8) hx hb dX9_kindOf_9 (by decide) ?_
  refine lv_idiv hx hb dX9_kindOf_11 (by decide) ?_
  refine lv_topi (fun z_1 ez_1 => ?_)
  obtain rfl : z_1 = nI (n / 8) := ez_1.trans (pk_div (d := 8) (by have := hn; omega) (by decide) (by decide))
  refine va_zald hx hb hK hP 2 1 rfl rfl (vp_in_nI (by have := (show n / 8 < 8 by have := hn; omega); omega) (by decide)) dX9_kindOf_12 ?_
  refine lv_topi (fun z_2 ez_2 => ?_)
  obtain rfl : z_2 = 0 := ez_2
  refine lv_if_eq (tgt := 20) hx hb dX9_kindOf_13 (by decide) (fun _ => ?_) (fun h9 => absurd (by decide : (0 : Int32) = (0 : Int32)) h9)
  refine lv_aload_n hx hb dX9_kindOf_20 rfl (lv_at hl 0 rfl) ?_
  refine va_get (D := D) (ci := 9) (v := .ref kk) (C := RX9) (T := TX9) (N := 36) hx hb hts (by decide +kernel) hown hK hP 0 rfl rfl 2 (by decide) (hts (.fieldLink RX9 7 "CellarPushersModel" "kinds" "[I") (by decide +kernel)) (fun _ h9 => h9) rfl dX9_kindOf_21 ?_
  refine lv_iload_n hx hb dX9_kindOf_24 rfl (lv_at hl 1 rfl) ?_
  refine va_iald hx hb hK hP 1 0 rfl rfl (vp_in_nI (by have := hn; omega) (by decide)) dX9_kindOf_25 ?_
  refine lv_topi (fun z_3 ez_3 => ?_)
  obtain rfl : z_3 = 0 := ez_3
  exact W.iret (v := 0) hx hb hr (fun t ht hW => ⟨_, rfl, rfl, ht⟩) (fun q hq => by cases hq) dX9_kindOf_26
set_option maxHeartbeats 4000000 in
set_option maxRecDepth 100000 in
theorem k_X9_forget (l : Launch) (D : va_G) (kI kZ kJ : ClassId)  (mo kk rp mi ba wn m1 m2 m3 m4 pl ta wa pz ih su th od fo co qu pa td wt il : Nat) (bw bh : Nat) (hbw : bw ≤ 8) (hbh : bh ≤ 8) (sz : Nat) : Met l yX9_forget wsX9_forget ({ frames := 0, cells := 0, slots := 0, locals := 0 }) (qW D kI kZ kJ [(mo, .inr (9, [.int (nI bw), .int (nI bh), .ref kk, .ref rp, .ref mi, .ref ba, .ref wn, .int (-1), .int 0, .int 0, .ref m1, .ref m2, .ref m3, .ref m4, .int 0, .int 0, .ref pl, .ref ta, .int 0, .int 0, .int (-1), .ref wa, .ref pz, .ref ih, .ref su, .ref th, .ref od, .ref fo, .ref co, .ref qu, .ref pa, .ref td, .ref wt, .ref il, .int 0, .int 0]))] sz [.ref mo]) (va_Qv (fun (u : Unit) => True) (qB D (fun u : Unit => []) (va_A [(mo, .inr (9, [.int (nI bw), .int (nI bh), .ref kk, .ref rp, .ref mi, .ref ba, .ref wn, .int (-1), .int 0, .int 0, .ref m1, .ref m2, .ref m3, .ref m4, .int 0, .int 0, .ref pl, .ref ta, .int 0, .int 0, .int (-1), .ref wa, .ref pz, .ref ih, .ref su, .ref th, .ref od, .ref fo, .ref co, .ref qu, .ref pa, .ref td, .ref wt, .ref il, .int 0, .int 0]))] sz)) (va_A [(mo, .inr (9, [.int (nI bw), .int (nI bh), .ref kk, .ref rp, .ref mi, .ref ba, .ref wn, .int (-1), .int 0, .int 0, .ref m1, .ref m2, .ref m3, .ref m4, .int 0, .int 0, .ref pl, .ref ta, .int 0, .int 0, .int (-1), .ref wa, .ref pz, .ref ih, .ref su, .ref th, .ref od, .ref fo, .ref co, .ref qu, .ref pa, .ref td, .ref wt, .ref il, .int 0, .int 0]))] sz)) 0 0 (va_A [(mo, .inr (9, [.int (nI bw), .int (nI bh), .ref kk, .ref rp, .ref mi, .ref ba, .ref wn, .int (-1), .int 0, .int 0, .ref m1, .ref m2, .ref m3, .ref m4, .int 0, .int 0, .ref pl, .ref ta, .int 0, .int 0, .int (-1), .ref wa, .ref pz, .ref ih, .ref su, .ref th, .ref od, .ref fo, .ref co, .ref qu, .ref pa, .ref td, .ref wt, .ref il, .int 0, .int 0]))] sz) := by
  refine Met.ofW (cc := cX9_forget) (maxL := 1) (ret := none) (by decide) rfl ?_
  intro p e s m args below meth c s₁ B hml hv
  obtain ⟨rfl, hsz, hP, hK, hD0, hN⟩ := hv
  have hx := B.exec
  have hb := B.bytes
  have hr := B.returns
  have hts := atoms_spec (ws := wsX9_forget) B.pre
  have hown : s.vm.findClass RX9 = some m.cls := findClass_of_methodNamed B.named
  have hlocks := B.notSynchronized
  subst hsz
  have hD := hD0.self (sz := s.heap.size)
  generalize hAe : va_A [(mo, .inr (9, [.int (nI bw), .int (nI bh), .ref kk, .ref rp, .ref mi, .ref ba, .ref wn, .int (-1), .int 0, .int 0, .ref m1, .ref m2, .ref m3, .ref m4, .int 0, .int 0, .ref pl, .ref ta, .int 0, .int 0, .int (-1), .ref wa, .ref pz, .ref ih, .ref su, .ref th, .ref od, .ref fo, .ref co, .ref qu, .ref pa, .ref td, .ref wt, .ref il, .int 0, .int 0]))] s.heap.size = A at hD ⊢
  have hA : ∀ q : Nat, s.heap.size ≤ q → A q := fun q h => by rw [← hAe]; exact Or.inr h
  have hS : va_S A s.heap s.heap [] := va_S.rf
  have hP : va_P D vwCl [(mo, .inr (9, [.int (nI bw), .int (nI bh), .ref kk, .ref rp, .ref mi, .ref ba, .ref wn, .int (-1), .int 0, .int 0, .ref m1, .ref m2, .ref m3, .ref m4, .int 0, .int 0, .ref pl, .ref ta, .int 0, .int 0, .int (-1), .ref wa, .ref pz, .ref ih, .ref su, .ref th, .ref od, .ref fo, .ref co, .ref qu, .ref pa, .ref td, .ref wt, .ref il, .int 0, .int 0]))] s.heap := hP
  have hl := lv_entry ([.ref mo]) (n := 1) (Nat.le_of_ble_eq_true rfl)
  rw [lg_entry_eq]
  generalize (lg_sl ([.ref mo]) ++ List.replicate (1 - (lg_sl ([.ref mo])).length) Slot.unset).toArray = ls at hl ⊢
  have hl : lv_has ls 1 [(0, .ref mo)] := hl
  refine lv_aload_n hx hb dX9_forget_0 rfl (lv_at hl 0 rfl) ?_
  refine lv_iconst (v := 0) hx hb dX9_forget_1 (by decide) ?_
  refine va_put (D := D) (ci := 9) (v := .int 0) (ty := .int) (C := RX9) (T := TX9) (N := 36) hx hb hts (by decide +kernel) tyX9 tyX9_ok nmX9 hown hK hP hD hS 0 rfl rfl 14 (by decide) (hts (.fieldLink RX9 112 "CellarPushersModel" "acts" "I") (by decide +kernel)) (fun _ h9 => h9) rfl (by decide +kernel) rfl rfl (Nat.le_of_ble_eq_true rfl) dX9_forget_2 (fun H locs hP hD hS => ?_)
  have hP : va_P D vwCl [(mo, .inr (9, [.int (nI bw), .int (nI bh), .ref kk, .ref rp, .ref mi, .ref ba, .ref wn, .int (-1), .int 0, .int 0, .ref m1, .ref m2, .ref m3, .ref m4, .int 0, .int 0, .ref pl, .ref ta, .int 0, .int 0, .int (-1), .ref wa, .ref pz, .ref ih, .ref su, .ref th, .ref od, .ref fo, .ref co, .ref qu, .ref pa, .ref td, .ref wt, .ref il, .int 0, .int 0]))] H := hP
  have hD : va_D A [(mo, .inr (9, [.int (nI bw), .int (nI bh), .ref kk, .ref rp, .ref mi, .ref ba, .ref wn, .int (-1), .int 0, .int 0, .ref m1, .ref m2, .ref m3, .ref m4, .int 0, .int 0, .ref pl, .ref ta, .int 0, .int 0, .int (-1), .ref wa, .ref pz, .ref ih, .ref su, .ref th, .ref od, .ref fo, .ref co, .ref qu, .ref pa, .ref td, .ref wt, .ref il, .int 0, .int 0]))] := hD
  refine lv_aload_n hx hb dX9_forget_5 rfl (lv_at hl 0 rfl) ?_
  refine lv_iconst (v := 0) hx hb dX9_forget_6 (by decide) ?_
  refine va_put (D := D) (ci := 9) (v := .int 0) (ty := .int) (C := RX9) (T := TX9) (N := 36) hx hb hts (by decide +kernel) tyX9 tyX9_ok nmX9 hown hK hP hD hS 0 rfl rfl 15 (by decide) (hts (.fieldLink RX9 115 "CellarPushersModel" "undone" "I") (by decide +kernel)) (fun _ h9 => h9) rfl (by decide +kernel) rfl rfl (Nat.le_of_ble_eq_true rfl) dX9_forget_7 (fun H locs hP hD hS => ?_)
  have hP : va_P D vwCl [(mo, .inr (9, [.int (nI bw), .int (nI bh), .ref kk, .ref rp, .ref mi, .ref ba, .ref wn, .int (-1), .int 0, .int 0, .ref m1, .ref m2, .ref m3, .ref m4, .int 0, .int 0, .ref pl, .ref ta, .int 0, .int 0, .int (-1), .ref wa, .ref pz, .ref ih, .ref su, .ref th, .ref od, .ref fo, .ref co, .ref qu, .ref pa, .ref td, .ref wt, .ref il, .int 0, .int 0]))] H := hP
  have hD : va_D A [(mo, .inr (9, [.int (nI bw), .int (nI bh), .ref kk, .ref rp, .ref mi, .ref ba, .ref wn, .int (-1), .int 0, .int 0, .ref m1, .ref m2, .ref m3, .ref m4, .int 0, .int 0, .ref pl, .ref ta, .int 0, .int 0, .int (-1), .ref wa, .ref pz, .ref ih, .ref su, .ref th, .ref od, .ref fo, .ref co, .ref qu, .ref pa, .ref td, .ref wt, .ref il, .int 0, .int 0]))] := hD
  have hP9 := hP.sub (ws' := []) [] rfl
  have hD9 := hD.sub (ws' := []) [] (by decide) rfl
  exact W.vret hx hb hr (fun t ht hW => ⟨⟨(), rfl, trivial, ⟨by rw [ht]; exact hP9, hD9⟩⟩, hS.F ht⟩) hS.2.2 dX9_forget_10
set_option maxHeartbeats 4000000 in
set_option maxRecDepth 100000 in
theorem k_X9_number (l : Launch) (D : va_G) (kI kZ kJ : ClassId)  (mo a : Nat) : Met l yX9_number wsX9_number ({ frames := 0, cells := 0, slots := 0, locals := 0 }) (qR D kI kZ kJ [(a, .inl (kZ, 64, .inl (fun _ => 0)))] [.ref mo, .ref a]) (vp_Si (fun r : Int32 => r = 0)) 0 0 (fun _ => False) := by
  refine Met.ofW (cc := cX9_number) (maxL := 4) (ret := (some .int)) (by decide) rfl ?_
  intro p e s m args below meth c s₁ B hml hv
  obtain ⟨rfl, hP, hK, hN⟩ := hv
  have hx := B.exec
  have hb := B.bytes
  have hr := B.returns
  have hts := atoms_spec (ws := wsX9_number) B.pre
  have hown : s.vm.findClass RX9 = some m.cls := findClass_of_methodNamed B.named
  have hlocks := B.notSynchronized
  have hP : va_P D vwCl [(a, .inl (kZ, 64, .inl (fun _ => 0)))] s.heap := hP
  have hl := lv_entry ([.ref mo, .ref a]) (n := 4) (Nat.le_of_ble_eq_true rfl)
  rw [lg_entry_eq]
  generalize (lg_sl ([.ref mo, .ref a]) ++ List.replicate (4 - (lg_sl ([.ref mo, .ref a])).length) Slot.unset).toArray = ls at hl ⊢
  have hl : lv_has ls 4 [(0, .ref mo), (1, .ref a)] := hl
  refine lv_iconst (v := 0) hx hb dX9_number_0 (by decide) ?_
  refine lv_istore_n (lv' := [(2, .int 0), (0, .ref mo), (1, .ref a)]) hx hb dX9_number_1 rfl hl (by decide) rfl (fun ls hl => ?_)
  refine lv_iconst (v := 0) hx hb dX9_number_2 (by decide) ?_
  refine lv_istore_n (lv' := [(3, .int 0), (2, .int 0), (0, .ref mo), (1, .ref a)]) hx hb dX9_number_3 rfl hl (by decide) rfl (fun ls hl => ?_)
  obtain ⟨i4, hk4, hl4⟩ : ∃ i4 : Nat, i4 ≤ 64 ∧ lv_has ls 4 [(3, .int (nI i4)), (2, .int 0), (0, .ref mo), (1, .ref a)] := ⟨0, by omega, hl⟩
  clear hl
  have hl := hl4
  clear hl4
  obtain ⟨f4, hf4⟩ : ∃ f4 : Nat, 64 < i4 + f4 := ⟨64 + 1, by omega⟩
  induction f4 generalizing i4 ls with
  | zero => exact absurd hf4 (by omega)
  | succ f4 ih4 =>
    refine lv_iload_n hx hb dX9_number_4 rfl (lv_at hl 0 rfl) ?_
    refine lv_bipush (v := 64) hx hb dX9_number_5 (by decide) ?_
    refine lv_icmp_ge (tgt := 30) hx hb dX9_number_7 (by decide) (fun c_1 => ?_) (fun c_1 => ?_)
    · skip
      have hi4 : i4 = 64 := by have := (nI_leI (a := 64) (b := i4) (by omega) (by omega)).mp c_1; omega
      refine lv_iload_n hx hb dX9_number_30 rfl (lv_at hl 1 rfl) ?_
      exact W.iret (v := 0) hx hb hr (fun t ht hW => ⟨_, rfl, rfl, ht⟩) (fun q hq => by cases hq) dX9_number_31
    · skip
      have hi4 : i4 < 64 := by have := mt (nI_leI (a := 64) (b := i4) (by omega) (by omega)).mpr c_1; omega
      refine lv_iload_n hx hb dX9_number_10 rfl (lv_at hl 1 rfl) ?_
      refine lv_aload_n hx hb dX9_number_11 rfl (lv_at hl 3 rfl) ?_
      refine lv_iload_n hx hb dX9_number_12 rfl (lv_at hl 0 rfl) ?_
      refine va_zald hx hb hK hP 0 1 rfl rfl (vp_in_nI (by have := hi4; omega) (by decide)) dX9_number_13 ?_
      refine lv_topi (fun z_2 ez_2 => ?_)
      obtain rfl : z_2 = 0 := ez_2
      refine lv_if_eq (tgt := 21) hx hb dX9_number_14 (by decide) (fun _ => ?_) (fun h9 => absurd (by decide : (0 : Int32) = (0 : Int32)) h9)
      refine lv_iconst (v := 0) hx hb dX9_number_21 (by decide) ?_
      refine lv_iadd hx hb dX9_number_22 ?_
      refine lv_topi (fun z_3 ez_3 => ?_)
      obtain rfl : z_3 = 0 := ez_3.trans (by decide)
      refine lv_istore_n (lv' := [(2, .int 0), (3, .int (nI i4)), (0, .ref mo), (1, .ref a)]) hx hb dX9_number_23 rfl hl (by decide) rfl (fun ls hl => ?_)
      refine lv_iinc (v := (nI (i4 + 1))) (lv' := [(3, .int (nI (i4 + 1))), (2, .int 0), (0, .ref mo), (1, .ref a)]) hx hb dX9_number_24 hl (k := 1) rfl (q_inc _) (by decide) rfl (fun ls hl => ?_)
      refine lv_goto (tgt := 4) hx hb dX9_number_27 (by decide) ?_
      exact ih4 (i4 := (i4 + 1)) (ls := ls) (hk4 := by omega) (hl := lv_sub hl [0, 1, 2, 3] rfl) (hf4 := by omega)
set_option maxHeartbeats 4000000 in
set_option maxRecDepth 100000 in
theorem k_X9_hold (l : Launch) (D : va_G) (kI kZ kJ : ClassId)  (mo kk rp mi ba wn m1 m2 m3 m4 pl ta wa pz ih su th od fo co qu pa td wt il : Nat) (bw bh : Nat) (hbw : bw ≤ 8) (hbh : bh ≤ 8) (sz : Nat) : Met l yX9_hold wsX9_hold ({ frames := 0, cells := 0, slots := 0, locals := 0 }) (qW D kI kZ kJ [(mo, .inr (9, [.int (nI bw), .int (nI bh), .ref kk, .ref rp, .ref mi, .ref ba, .ref wn, .int (-1), .int 0, .int 0, .ref m1, .ref m2, .ref m3, .ref m4, .int 0, .int 0, .ref pl, .ref ta, .int 0, .int 0, .int (-1), .ref wa, .ref pz, .ref ih, .ref su, .ref th, .ref od, .ref fo, .ref co, .ref qu, .ref pa, .ref td, .ref wt, .ref il, .int 0, .int 0])), (ba, .inl (kZ, 64, .inl (fun _ => 0))), (ih, .inl (kZ, 64, .inl (fun _ => 0)))] sz [.ref mo]) (va_Qv (fun (u : Nat → Int32) => ∀ j : Nat, u j = 0) (qB D (fun u : Nat → Int32 => [(mo, .inr (9, [.int (nI bw), .int (nI bh), .ref kk, .ref rp, .ref mi, .ref ba, .ref wn, .int (-1), .int 0, .int 0, .ref m1, .ref m2, .ref m3, .ref m4, .int 0, .int 0, .ref pl, .ref ta, .int 0, .int 0, .int (-1), .ref wa, .ref pz, .ref ih, .ref su, .ref th, .ref od, .ref fo, .ref co, .ref qu, .ref pa, .ref td, .ref wt, .ref il, .int 0, .int 0])), (ih, .inl (kZ, 64, .inl u))]) (va_A [(mo, .inr (9, [.int (nI bw), .int (nI bh), .ref kk, .ref rp, .ref mi, .ref ba, .ref wn, .int (-1), .int 0, .int 0, .ref m1, .ref m2, .ref m3, .ref m4, .int 0, .int 0, .ref pl, .ref ta, .int 0, .int 0, .int (-1), .ref wa, .ref pz, .ref ih, .ref su, .ref th, .ref od, .ref fo, .ref co, .ref qu, .ref pa, .ref td, .ref wt, .ref il, .int 0, .int 0])), (ba, .inl (kZ, 64, .inl (fun _ => 0))), (ih, .inl (kZ, 64, .inl (fun _ => 0)))] sz)) (va_A [(mo, .inr (9, [.int (nI bw), .int (nI bh), .ref kk, .ref rp, .ref mi, .ref ba, .ref wn, .int (-1), .int 0, .int 0, .ref m1, .ref m2, .ref m3, .ref m4, .int 0, .int 0, .ref pl, .ref ta, .int 0, .int 0, .int (-1), .ref wa, .ref pz, .ref ih, .ref su, .ref th, .ref od, .ref fo, .ref co, .ref qu, .ref pa, .ref td, .ref wt, .ref il, .int 0, .int 0])), (ba, .inl (kZ, 64, .inl (fun _ => 0))), (ih, .inl (kZ, 64, .inl (fun _ => 0)))] sz)) 0 0 (va_A [(mo, .inr (9, [.int (nI bw), .int (nI bh), .ref kk, .ref rp, .ref mi, .ref ba, .ref wn, .int (-1), .int 0, .int 0, .ref m1, .ref m2, .ref m3, .ref m4, .int 0, .int 0, .ref pl, .ref ta, .int 0, .int 0, .int (-1), .ref wa, .ref pz, .ref ih, .ref su, .ref th, .ref od, .ref fo, .ref co, .ref qu, .ref pa, .ref td, .ref wt, .ref il, .int 0, .int 0])), (ba, .inl (kZ, 64, .inl (fun _ => 0))), (ih, .inl (kZ, 64, .inl (fun _ => 0)))] sz) := by
  refine Met.ofW (cc := cX9_hold) (maxL := 4) (ret := none) (by decide) rfl ?_
  intro p e s m args below meth c s₁ B hml hv
  obtain ⟨rfl, hsz, hP, hK, hD0, hN⟩ := hv
  have hx := B.exec
  have hb := B.bytes
  have hr := B.returns
  have hts := atoms_spec (ws := wsX9_hold) B.pre
  have hown : s.vm.findClass RX9 = some m.cls := findClass_of_methodNamed B.named
  have hlocks := B.notSynchronized
  subst hsz
  have hD := hD0.self (sz := s.heap.size)
  generalize hAe : va_A [(mo, .inr (9, [.int (nI bw), .int (nI bh), .ref kk, .ref rp, .ref mi, .ref ba, .ref wn, .int (-1), .int 0, .int 0, .ref m1, .ref m2, .ref m3, .ref m4, .int 0, .int 0, .ref pl, .ref ta, .int 0, .int 0, .int (-1), .ref wa, .ref pz, .ref ih, .ref su, .ref th, .ref od, .ref fo, .ref co, .ref qu, .ref pa, .ref td, .ref wt, .ref il, .int 0, .int 0])), (ba, .inl (kZ, 64, .inl (fun _ => 0))), (ih, .inl (kZ, 64, .inl (fun _ => 0)))] s.heap.size = A at hD ⊢
  have hA : ∀ q : Nat, s.heap.size ≤ q → A q := fun q h => by rw [← hAe]; exact Or.inr h
  have hS : va_S A s.heap s.heap [] := va_S.rf
  have hP : va_P D vwCl [(mo, .inr (9, [.int (nI bw), .int (nI bh), .ref kk, .ref rp, .ref mi, .ref ba, .ref wn, .int (-1), .int 0, .int 0, .ref m1, .ref m2, .ref m3, .ref m4, .int 0, .int 0, .ref pl, .ref ta, .int 0, .int 0, .int (-1), .ref wa, .ref pz, .ref ih, .ref su, .ref th, .ref od, .ref fo, .ref co, .ref qu, .ref pa, .ref td, .ref wt, .ref il, .int 0, .int 0])), (ba, .inl (kZ, 64, .inl (fun _ => 0))), (ih, .inl (kZ, 64, .inl (fun _ => 0)))] s.heap := hP
  have hl := lv_entry ([.ref mo]) (n := 4) (Nat.le_of_ble_eq_true rfl)
  rw [lg_entry_eq]
  generalize (lg_sl ([.ref mo]) ++ List.replicate (4 - (lg_sl ([.ref mo])).length) Slot.unset).toArray = ls at hl ⊢
  have hl : lv_has ls 4 [(0, .ref mo)] := hl
  refine lv_iconst (v := 0) hx hb dX9_hold_0 (by decide) ?_
  refine lv_istore_n (lv' := [(1, .int 0), (0, .ref mo)]) hx hb dX9_hold_1 rfl hl (by decide) rfl (fun ls hl => ?_)
  refine q_genH (P := fun H locs => ∃ fa : Nat → Int32, (∀ j : Nat, fa j = 0) ∧ va_P D vwCl [(mo, .inr (9, [.int (nI bw), .int (nI bh), .ref kk, .ref rp, .ref mi, .ref ba, .ref wn, .int (-1), .int 0, .int 0, .ref m1, .ref m2, .ref m3, .ref m4, .int 0, .int 0, .ref pl, .ref ta, .int 0, .int 0, .int (-1), .ref wa, .ref pz, .ref ih, .ref su, .ref th, .ref od, .ref fo, .ref co, .ref qu, .ref pa, .ref td, .ref wt, .ref il, .int 0, .int 0])), (ba, .inl (kZ, 64, .inl (fun _ => 0))), (ih, .inl (kZ, 64, .inl fa))] H ∧ va_D A [(mo, .inr (9, [.int (nI bw), .int (nI bh), .ref kk, .ref rp, .ref mi, .ref ba, .ref wn, .int (-1), .int 0, .int 0, .ref m1, .ref m2, .ref m3, .ref m4, .int 0, .int 0, .ref pl, .ref ta, .int 0, .int 0, .int (-1), .ref wa, .ref pz, .ref ih, .ref su, .ref th, .ref od, .ref fo, .ref co, .ref qu, .ref pa, .ref td, .ref wt, .ref il, .int 0, .int 0])), (ba, .inl (kZ, 64, .inl (fun _ => 0))), (ih, .inl (kZ, 64, .inl fa))] ∧ va_S A s.heap H locs) ⟨(fun _ => 0), (fun _ => rfl), hP, hD, hS⟩ (fun H locs hh => ?_)
  obtain ⟨fa, hfa, hP, hD, hS⟩ := hh
  obtain ⟨i2, hk2, hl2⟩ : ∃ i2 : Nat, i2 ≤ 64 ∧ lv_has ls 4 [(1, .int (nI i2)), (0, .ref mo)] := ⟨0, by omega, hl⟩
  clear hl
  have hl := hl2
  clear hl2
  obtain ⟨f2, hf2⟩ : ∃ f2 : Nat, 64 < i2 + f2 := ⟨64 + 1, by omega⟩
  induction f2 generalizing i2 ls H locs fa with
  | zero => exact absurd hf2 (by omega)
  | succ f2 ih2 =>
    refine lv_iload_n hx hb dX9_hold_2 rfl (lv_at hl 0 rfl) ?_
    refine lv_bipush (v := 64) hx hb dX9_hold_3 (by decide) ?_
    refine lv_icmp_ge (tgt := 26) hx hb dX9_hold_5 (by decide) (fun c_1 => ?_) (fun c_1 => ?_)
    · skip
      have hi2 : i2 = 64 := by have := (nI_leI (a := 64) (b := i2) (by omega) (by omega)).mp c_1; omega
      refine lv_iconst (v := 1) hx hb dX9_hold_26 (by decide) ?_
      refine lv_istore_n (lv' := [(1, .int 1), (0, .ref mo)]) hx hb dX9_hold_27 rfl hl (by decide) rfl (fun ls hl => ?_)
      refine lv_iload_n hx hb dX9_hold_28 rfl (lv_at hl 0 rfl) ?_
      refine lv_if_eq (tgt := 146) hx hb dX9_hold_29 (by decide) (fun h9 => absurd h9 (by decide : ¬ ((1 : Int32) = (0 : Int32)))) (fun _ => ?_)
      refine lv_iconst (v := 0) hx hb dX9_hold_32 (by decide) ?_
      refine lv_istore_n (lv' := [(1, .int 0), (0, .ref mo)]) hx hb dX9_hold_33 rfl hl (by decide) rfl (fun ls hl => ?_)
      refine lv_iconst (v := 0) hx hb dX9_hold_34 (by decide) ?_
      refine lv_istore_n (lv' := [(2, .int 0), (1, .int 0), (0, .ref mo)]) hx hb dX9_hold_35 rfl hl (by decide) rfl (fun ls hl => ?_)
      obtain ⟨i36, hk36, hl36⟩ : ∃ i36 : Nat, i36 ≤ 64 ∧ lv_has ls 4 [(2, .int (nI i36)), (1, .int 0), (0, .ref mo)] := ⟨0, by omega, hl⟩
      clear hl
      have hl := hl36
      clear hl36
      obtain ⟨f36, hf36⟩ : ∃ f36 : Nat, 64 < i36 + f36 := ⟨64 + 1, by omega⟩
      induction f36 generalizing i36 ls with
      | zero => exact absurd hf36 (by omega)
      | succ f36 ih36 =>
        refine lv_iload_n hx hb dX9_hold_36 rfl (lv_at hl 0 rfl) ?_
        refine lv_bipush (v := 64) hx hb dX9_hold_37 (by decide) ?_
        refine lv_icmp_ge (tgt := 143) hx hb dX9_hold_39 (by decide) (fun c_2 => ?_) (fun c_2 => ?_)
        · skip
          have hi36 : i36 = 64 := by have := (nI_leI (a := 64) (b := i36) (by omega) (by omega)).mp c_2; omega
          refine lv_goto (tgt := 28) hx hb dX9_hold_143 (by decide) ?_
          refine lv_iload_n hx hb dX9_hold_28 rfl (lv_at hl 1 rfl) ?_
          refine lv_if_eq (tgt := 146) hx hb dX9_hold_29 (by decide) (fun _ => ?_) (fun h9 => absurd (by decide : (0 : Int32) = (0 : Int32)) h9)
          have hP9 := hP.sub (ws' := [(mo, .inr (9, [.int (nI bw), .int (nI bh), .ref kk, .ref rp, .ref mi, .ref ba, .ref wn, .int (-1), .int 0, .int 0, .ref m1, .ref m2, .ref m3, .ref m4, .int 0, .int 0, .ref pl, .ref ta, .int 0, .int 0, .int (-1), .ref wa, .ref pz, .ref ih, .ref su, .ref th, .ref od, .ref fo, .ref co, .ref qu, .ref pa, .ref td, .ref wt, .ref il, .int 0, .int 0])), (ih, .inl (kZ, 64, .inl fa))]) [0, 2] rfl
          have hD9 := hD.sub (ws' := [(mo, .inr (9, [.int (nI bw), .int (nI bh), .ref kk, .ref rp, .ref mi, .ref ba, .ref wn, .int (-1), .int 0, .int 0, .ref m1, .ref m2, .ref m3, .ref m4, .int 0, .int 0, .ref pl, .ref ta, .int 0, .int 0, .int (-1), .ref wa, .ref pz, .ref ih, .ref su, .ref th, .ref od, .ref fo, .ref co, .ref qu, .ref pa, .ref td, .ref wt, .ref il, .int 0, .int 0])), (ih, .inl (kZ, 64, .inl fa))]) [0, 2] (by decide) rfl
          exact W.vret hx hb hr (fun t ht hW => ⟨⟨fa, rfl, hfa, ⟨by rw [ht]; exact hP9, hD9⟩⟩, hS.F ht⟩) hS.2.2 dX9_hold_146
        · skip
          have hi36 : i36 < 64 := by have := mt (nI_leI (a := 64) (b := i36) (by omega) (by omega)).mpr c_2; omega
          refine lv_aload_n hx hb dX9_hold_42 rfl (lv_at hl 2 rfl) ?_
          refine va_get (D := D) (ci := 9) (v := .ref ih) (C := RX9) (T := TX9) (N := 36) hx hb hts (by decide +kernel) hown hK hP 0 rfl rfl 23 (by decide) (hts (.fieldLink RX9 58 "CellarPushersModel" "isHeld" "[Z") (by decide +kernel)) (fun _ h9 => h9) rfl dX9_hold_43 ?_
          refine lv_iload_n hx hb dX9_hold_46 rfl (lv_at hl 0 rfl) ?_
          refine va_zald hx hb hK hP 2 1 rfl rfl (vp_in_nI (by have := hi36; omega) (by decide)) dX9_hold_47 ?_
          refine lv_topi (fun z_3 ez_3 => ?_)
          obtain rfl : z_3 = 0 := ez_3.trans (hfa _)
          refine lv_if_eq (tgt := 137) hx hb dX9_hold_48 (by decide) (fun _ => ?_) (fun h9 => absurd (by decide : (0 : Int32) = (0 : Int32)) h9)
          refine lv_iinc (v := (nI (i36 + 1))) (lv' := [(2, .int (nI (i36 + 1))), (1, .int 0), (0, .ref mo)]) hx hb dX9_hold_137 hl (k := 0) rfl (q_inc _) (by decide) rfl (fun ls hl => ?_)
          refine lv_goto (tgt := 36) hx hb dX9_hold_140 (by decide) ?_
          exact ih36 (i36 := (i36 + 1)) (ls := ls) (hk36 := by omega) (hl := lv_sub hl [0, 1, 2] rfl) (hf36 := by omega)
    · skip
      have hi2 : i2 < 64 := by have := mt (nI_leI (a := 64) (b := i2) (by omega) (by omega)).mpr c_1; omega
      refine lv_aload_n hx hb dX9_hold_8 rfl (lv_at hl 1 rfl) ?_
      refine va_get (D := D) (ci := 9) (v := .ref ih) (C := RX9) (T := TX9) (N := 36) hx hb hts (by decide +kernel) hown hK hP 0 rfl rfl 23 (by decide) (hts (.fieldLink RX9 58 "CellarPushersModel" "isHeld" "[Z") (by decide +kernel)) (fun _ h9 => h9) rfl dX9_hold_9 ?_
      refine lv_iload_n hx hb dX9_hold_12 rfl (lv_at hl 0 rfl) ?_
      refine lv_aload_n hx hb dX9_hold_13 rfl (lv_at hl 1 rfl) ?_
      refine va_get (D := D) (ci := 9) (v := .ref ba) (C := RX9) (T := TX9) (N := 36) hx hb hts (by decide +kernel) hown hK hP 0 rfl rfl 5 (by decide) (hts (.fieldLink RX9 20 "CellarPushersModel" "barrels" "[Z") (by decide +kernel)) (fun _ h9 => h9) rfl dX9_hold_14 ?_
      refine lv_iload_n hx hb dX9_hold_17 rfl (lv_at hl 0 rfl) ?_
      refine va_zald hx hb hK hP 1 1 rfl rfl (vp_in_nI (by have := hi2; omega) (by decide)) dX9_hold_18 ?_
      refine lv_topi (fun z_4 ez_4 => ?_)
      obtain rfl : z_4 = 0 := ez_4
      refine va_zast hx hb hK hP hD hS 2 1 rfl rfl (vp_in_nI (by have := hi2; omega) (by decide)) dX9_hold_19 (fun H locs hP hD hS => ?_)
      have hP : va_P D vwCl [(mo, .inr (9, [.int (nI bw), .int (nI bh), .ref kk, .ref rp, .ref mi, .ref ba, .ref wn, .int (-1), .int 0, .int 0, .ref m1, .ref m2, .ref m3, .ref m4, .int 0, .int 0, .ref pl, .ref ta, .int 0, .int 0, .int (-1), .ref wa, .ref pz, .ref ih, .ref su, .ref th, .ref od, .ref fo, .ref co, .ref qu, .ref pa, .ref td, .ref wt, .ref il, .int 0, .int 0])), (ba, .inl (kZ, 64, .inl (fun _ => 0))), (ih, .inl (kZ, 64, .inl (upd fa (Int32.toNatClampNeg (nI i2)) (vp_nar .boolean 0))))] H := hP
      have hD : va_D A [(mo, .inr (9, [.int (nI bw), .int (nI bh), .ref kk, .ref rp, .ref mi, .ref ba, .ref wn, .int (-1), .int 0, .int 0, .ref m1, .ref m2, .ref m3, .ref m4, .int 0, .int 0, .ref pl, .ref ta, .int 0, .int 0, .int (-1), .ref wa, .ref pz, .ref ih, .ref su, .ref th, .ref od, .ref fo, .ref co, .ref qu, .ref pa, .ref td, .ref wt, .ref il, .int 0, .int 0])), (ba, .inl (kZ, 64, .inl (fun _ => 0))), (ih, .inl (kZ, 64, .inl (upd fa (Int32.toNatClampNeg (nI i2)) (vp_nar .boolean 0))))] := hD
      refine lv_iinc (v := (nI (i2 + 1))) (lv' := [(1, .int (nI (i2 + 1))), (0, .ref mo)]) hx hb dX9_hold_20 hl (k := 0) rfl (q_inc _) (by decide) rfl (fun ls hl => ?_)
      refine lv_goto (tgt := 2) hx hb dX9_hold_23 (by decide) ?_
      exact ih2 (i2 := (i2 + 1)) (ls := ls) (hk2 := by omega) (hl := lv_sub hl [0, 1] rfl) (hf2 := by omega) (H := H) (locs := locs) (fa := (upd fa (Int32.toNatClampNeg (nI i2)) (vp_nar .boolean 0))) (hP := hP) (hD := hD) (hS := hS) (hfa := by intro j; first | exact hfa j | (simp only [upd]; split <;> first | rfl | exact hfa j))
set_option maxHeartbeats 4000000 in
set_option maxRecDepth 100000 in
theorem k_X9_fields (l : Launch) (D : va_G) (kI kZ kJ : ClassId)  (mo kk rp mi ba wn m1 m2 m3 m4 pl ta wa pz ih su th od fo co qu pa td wt il : Nat) (bw bh : Nat) (hbw : bw ≤ 8) (hbh : bh ≤ 8) (sz : Nat) : Met l yX9_fields wsX9_fields ({ frames := 1, cells := 0, slots := 0, locals := 21 }) (qW D kI kZ kJ [(mo, .inr (9, [.int (nI bw), .int (nI bh), .ref kk, .ref rp, .ref mi, .ref ba, .ref wn, .int (-1), .int 0, .int 0, .ref m1, .ref m2, .ref m3, .ref m4, .int 0, .int 0, .ref pl, .ref ta, .int 0, .int 0, .int (-1), .ref wa, .ref pz, .ref ih, .ref su, .ref th, .ref od, .ref fo, .ref co, .ref qu, .ref pa, .ref td, .ref wt, .ref il, .int 0, .int 0])), (kk, .inl (kI, 64, .inl (fun _ => 0))), (mi, .inl (kZ, 8, .inl (fun _ => 0))), (od, .inl (kI, 64, .inl (fun _ => 0)))] sz [.ref mo]) (va_Qi (fun (r : Int32) (u : Unit) => r = 0) (qB D (fun u : Unit => []) (va_A [(mo, .inr (9, [.int (nI bw), .int (nI bh), .ref kk, .ref rp, .ref mi, .ref ba, .ref wn, .int (-1), .int 0, .int 0, .ref m1, .ref m2, .ref m3, .ref m4, .int 0, .int 0, .ref pl, .ref ta, .int 0, .int 0, .int (-1), .ref wa, .ref pz, .ref ih, .ref su, .ref th, .ref od, .ref fo, .ref co, .ref qu, .ref pa, .ref td, .ref wt, .ref il, .int 0, .int 0])), (kk, .inl (kI, 64, .inl (fun _ => 0))), (mi, .inl (kZ, 8, .inl (fun _ => 0))), (od, .inl (kI, 64, .inl (fun _ => 0)))] sz)) (va_A [(mo, .inr (9, [.int (nI bw), .int (nI bh), .ref kk, .ref rp, .ref mi, .ref ba, .ref wn, .int (-1), .int 0, .int 0, .ref m1, .ref m2, .ref m3, .ref m4, .int 0, .int 0, .ref pl, .ref ta, .int 0, .int 0, .int (-1), .ref wa, .ref pz, .ref ih, .ref su, .ref th, .ref od, .ref fo, .ref co, .ref qu, .ref pa, .ref td, .ref wt, .ref il, .int 0, .int 0])), (kk, .inl (kI, 64, .inl (fun _ => 0))), (mi, .inl (kZ, 8, .inl (fun _ => 0))), (od, .inl (kI, 64, .inl (fun _ => 0)))] sz)) 0 0 (va_A [(mo, .inr (9, [.int (nI bw), .int (nI bh), .ref kk, .ref rp, .ref mi, .ref ba, .ref wn, .int (-1), .int 0, .int 0, .ref m1, .ref m2, .ref m3, .ref m4, .int 0, .int 0, .ref pl, .ref ta, .int 0, .int 0, .int (-1), .ref wa, .ref pz, .ref ih, .ref su, .ref th, .ref od, .ref fo, .ref co, .ref qu, .ref pa, .ref td, .ref wt, .ref il, .int 0, .int 0])), (kk, .inl (kI, 64, .inl (fun _ => 0))), (mi, .inl (kZ, 8, .inl (fun _ => 0))), (od, .inl (kI, 64, .inl (fun _ => 0)))] sz) := by
  refine Met.ofW (cc := cX9_fields) (maxL := 3) (ret := (some .int)) (by decide) rfl ?_
  intro p e s m args below meth c s₁ B hml hv
  obtain ⟨rfl, hsz, hP, hK, hD0, hN⟩ := hv
  have hx := B.exec
  have hb := B.bytes
  have hr := B.returns
  have hts := atoms_spec (ws := wsX9_fields) B.pre
  have hown : s.vm.findClass RX9 = some m.cls := findClass_of_methodNamed B.named
  have hlocks := B.notSynchronized
  subst hsz
  have hD := hD0.self (sz := s.heap.size)
  generalize hAe : va_A [(mo, .inr (9, [.int (nI bw), .int (nI bh), .ref kk, .ref rp, .ref mi, .ref ba, .ref wn, .int (-1), .int 0, .int 0, .ref m1, .ref m2, .ref m3, .ref m4, .int 0, .int 0, .ref pl, .ref ta, .int 0, .int 0, .int (-1), .ref wa, .ref pz, .ref ih, .ref su, .ref th, .ref od, .ref fo, .ref co, .ref qu, .ref pa, .ref td, .ref wt, .ref il, .int 0, .int 0])), (kk, .inl (kI, 64, .inl (fun _ => 0))), (mi, .inl (kZ, 8, .inl (fun _ => 0))), (od, .inl (kI, 64, .inl (fun _ => 0)))] s.heap.size = A at hD ⊢
  have hA : ∀ q : Nat, s.heap.size ≤ q → A q := fun q h => by rw [← hAe]; exact Or.inr h
  have hS : va_S A s.heap s.heap [] := va_S.rf
  have hP : va_P D vwCl [(mo, .inr (9, [.int (nI bw), .int (nI bh), .ref kk, .ref rp, .ref mi, .ref ba, .ref wn, .int (-1), .int 0, .int 0, .ref m1, .ref m2, .ref m3, .ref m4, .int 0, .int 0, .ref pl, .ref ta, .int 0, .int 0, .int (-1), .ref wa, .ref pz, .ref ih, .ref su, .ref th, .ref od, .ref fo, .ref co, .ref qu, .ref pa, .ref td, .ref wt, .ref il, .int 0, .int 0])), (kk, .inl (kI, 64, .inl (fun _ => 0))), (mi, .inl (kZ, 8, .inl (fun _ => 0))), (od, .inl (kI, 64, .inl (fun _ => 0)))] s.heap := hP
  have hl := lv_entry ([.ref mo]) (n := 3) (Nat.le_of_ble_eq_true rfl)
  rw [lg_entry_eq]
  generalize (lg_sl ([.ref mo]) ++ List.replicate (3 - (lg_sl ([.ref mo])).length) Slot.unset).toArray = ls at hl ⊢
  have hl : lv_has ls 3 [(0, .ref mo)] := hl
  refine lv_iconst (v := 0) hx hb dX9_fields_0 (by decide) ?_
  refine lv_istore_n (lv' := [(1, .int 0), (0, .ref mo)]) hx hb dX9_fields_1 rfl hl (by decide) rfl (fun ls hl => ?_)
  refine lv_iconst (v := 0) hx hb dX9_fields_2 (by decide) ?_
  refine lv_istore_n (lv' := [(2, .int 0), (1, .int 0), (0, .ref mo)]) hx hb dX9_fields_3 rfl hl (by decide) rfl (fun ls hl => ?_)
  refine q_genH (P := fun H locs => ∃ fa : Nat → Int32, va_P D vwCl [(mo, .inr (9, [.int (nI bw), .int (nI bh), .ref kk, .ref rp, .ref mi, .ref ba, .ref wn, .int (-1), .int 0, .int 0, .ref m1, .ref m2, .ref m3, .ref m4, .int 0, .int 0, .ref pl, .ref ta, .int 0, .int 0, .int (-1), .ref wa, .ref pz, .ref ih, .ref su, .ref th, .ref od, .ref fo, .ref co, .ref qu, .ref pa, .ref td, .ref wt, .ref il, .int 0, .int 0])), (kk, .inl (kI, 64, .inl (fun _ => 0))), (mi, .inl (kZ, 8, .inl (fun _ => 0))), (od, .inl (kI, 64, .inl fa))] H ∧ va_D A [(mo, .inr (9, [.int (nI bw), .int (nI bh), .ref kk, .ref rp, .ref mi, .ref ba, .ref wn, .int (-1), .int 0, .int 0, .ref m1, .ref m2, .ref m3, .ref m4, .int 0, .int 0, .ref pl, .ref ta, .int 0, .int 0, .int (-1), .ref wa, .ref pz, .ref ih, .ref su, .ref th, .ref od, .ref fo, .ref co, .ref qu, .ref pa, .ref td, .ref wt, .ref il, .int 0, .int 0])), (kk, .inl (kI, 64, .inl (fun _ => 0))), (mi, .inl (kZ, 8, .inl (fun _ => 0))), (od, .inl (kI, 64, .inl fa))] ∧ va_S A s.heap H locs) ⟨(fun _ => 0), hP, hD, hS⟩ (fun H locs hh => ?_)
  obtain ⟨fa, hP, hD, hS⟩ := hh
  obtain ⟨i4, hk4, hl4⟩ : ∃ i4 : Nat, i4 ≤ 64 ∧ lv_has ls 3 [(2, .int (nI i4)), (1, .int 0), (0, .ref mo)] := ⟨0, by omega, hl⟩
  clear hl
  have hl := hl4
  clear hl4
  obtain ⟨f4, hf4⟩ : ∃ f4 : Nat, 64 < i4 + f4 := ⟨64 + 1, by omega⟩
  induction f4 generalizing i4 ls H locs fa with
  | zero => exact absurd hf4 (by omega)
  | succ f4 ih4 =>
    refine lv_iload_n hx hb dX9_fields_4 rfl (lv_at hl 0 rfl) ?_
    refine lv_bipush (v := 64) hx hb dX9_fields_5 (by decide) ?_
    refine lv_icmp_ge (tgt := 79) hx hb dX9_fields_7 (by decide) (fun c_1 => ?_) (fun c_1 => ?_)
    · skip
      have hi4 : i4 = 64 := by have := (nI_leI (a := 64) (b := i4) (by omega) (by omega)).mp c_1; omega
      refine lv_iload_n hx hb dX9_fields_79 rfl (lv_at hl 1 rfl) ?_
      have hP9 := hP.sub (ws' := []) [] rfl
      have hD9 := hD.sub (ws' := []) [] (by decide) rfl
      exact W.iret (v := 0) hx hb hr (fun t ht hW => ⟨⟨_, (), rfl, rfl, ⟨by rw [ht]; exact hP9, hD9⟩⟩, hS.F ht⟩) hS.2.2 dX9_fields_80
    · skip
      have hi4 : i4 < 64 := by have := mt (nI_leI (a := 64) (b := i4) (by omega) (by omega)).mpr c_1; omega
      refine lv_aload_n hx hb dX9_fields_10 rfl (lv_at hl 2 rfl) ?_
      refine va_get (D := D) (ci := 9) (v := .ref od) (C := RX9) (T := TX9) (N := 36) hx hb hts (by decide +kernel) hown hK hP 0 rfl rfl 26 (by decide) (hts (.fieldLink RX9 67 "CellarPushersModel" "order" "[I") (by decide +kernel)) (fun _ h9 => h9) rfl dX9_fields_11 ?_
      refine lv_iload_n hx hb dX9_fields_14 rfl (lv_at hl 0 rfl) ?_
      refine lv_iconst (v := (-1)) hx hb dX9_fields_15 (by decide) ?_
      refine va_iast hx hb hK hP hD hS 3 0 rfl rfl (vp_in_nI (by have := hi4; omega) (by decide)) dX9_fields_16 (fun H locs hP hD hS => ?_)
      have hP : va_P D vwCl [(mo, .inr (9, [.int (nI bw), .int (nI bh), .ref kk, .ref rp, .ref mi, .ref ba, .ref wn, .int (-1), .int 0, .int 0, .ref m1, .ref m2, .ref m3, .ref m4, .int 0, .int 0, .ref pl, .ref ta, .int 0, .int 0, .int (-1), .ref wa, .ref pz, .ref ih, .ref su, .ref th, .ref od, .ref fo, .ref co, .ref qu, .ref pa, .ref td, .ref wt, .ref il, .int 0, .int 0])), (kk, .inl (kI, 64, .inl (fun _ => 0))), (mi, .inl (kZ, 8, .inl (fun _ => 0))), (od, .inl (kI, 64, .inl (upd fa (Int32.toNatClampNeg (nI i4)) (-1))))] H := hP
      have hD : va_D A [(mo, .inr (9, [.int (nI bw), .int (nI bh), .ref kk, .ref rp, .ref mi, .ref ba, .ref wn, .int (-1), .int 0, .int 0, .ref m1, .ref m2, .ref m3, .ref m4, .int 0, .int 0, .ref pl, .ref ta, .int 0, .int 0, .int (-1), .ref wa, .ref pz, .ref ih, .ref su, .ref th, .ref od, .ref fo, .ref co, .ref qu, .ref pa, .ref td, .ref wt, .ref il, .int 0, .int 0])), (kk, .inl (kI, 64, .inl (fun _ => 0))), (mi, .inl (kZ, 8, .inl (fun _ => 0))), (od, .inl (kI, 64, .inl (upd fa (Int32.toNatClampNeg (nI i4)) (-1))))] := hD
      refine lv_iload_n hx hb dX9_fields_17 rfl (lv_at hl 0 rfl) ?_
      refine lv_bipush (v := 8) hx hb dX9_fields_18 (by decide) ?_
      refine lv_idiv hx hb dX9_fields_20 (by decide) ?_
      refine lv_topi (fun z_3 ez_3 => ?_)
      obtain rfl : z_3 = nI (i4 / 8) := ez_3.trans (pk_div (d := 8) (by have := hi4; omega) (by decide) (by decide))
      refine lv_aload_n hx hb dX9_fields_21 rfl (lv_at hl 2 rfl) ?_
      refine va_get (D := D) (ci := 9) (v := .int (nI bh)) (C := RX9) (T := TX9) (N := 36) hx hb hts (by decide +kernel) hown hK hP 0 rfl rfl 1 (by decide) (hts (.fieldLink RX9 95 "CellarPushersModel" "height" "I") (by decide +kernel)) (fun _ h9 => h9) rfl dX9_fields_22 ?_
      refine lv_icmp_ge (tgt := 73) hx hb dX9_fields_25 (by decide) (fun c_4 => ?_) (fun c_4 => ?_)
      · skip
        refine lv_iinc (v := (nI (i4 + 1))) (lv' := [(2, .int (nI (i4 + 1))), (1, .int 0), (0, .ref mo)]) hx hb dX9_fields_73 hl (k := 0) rfl (q_inc _) (by decide) rfl (fun ls hl => ?_)
        refine lv_goto (tgt := 4) hx hb dX9_fields_76 (by decide) ?_
        exact ih4 (i4 := (i4 + 1)) (ls := ls) (hk4 := by omega) (hl := lv_sub hl [0, 1, 2] rfl) (hf4 := by omega) (H := H) (locs := locs) (fa := (upd fa (Int32.toNatClampNeg (nI i4)) (-1))) (hP := hP) (hD := hD) (hS := hS)
      · skip
        refine lv_iload_n hx hb dX9_fields_28 rfl (lv_at hl 0 rfl) ?_
        refine lv_bipush (v := 8) hx hb dX9_fields_29 (by decide) ?_
        refine lv_irem hx hb dX9_fields_31 (by decide) ?_
        refine lv_topi (fun z_5 ez_5 => ?_)
        obtain rfl : z_5 = nI (i4 % 8) := ez_5.trans (pk_rem (d := 8) (by have := hi4; omega) (by decide) (by decide))
        refine lv_aload_n hx hb dX9_fields_32 rfl (lv_at hl 2 rfl) ?_
        refine va_get (D := D) (ci := 9) (v := .int (nI bw)) (C := RX9) (T := TX9) (N := 36) hx hb hts (by decide +kernel) hown hK hP 0 rfl rfl 0 (by decide) (hts (.fieldLink RX9 92 "CellarPushersModel" "width" "I") (by decide +kernel)) (fun _ h9 => h9) rfl dX9_fields_33 ?_
        refine lv_icmp_ge (tgt := 73) hx hb dX9_fields_36 (by decide) (fun c_6 => ?_) (fun c_6 => ?_)
        · skip
          refine lv_iinc (v := (nI (i4 + 1))) (lv' := [(2, .int (nI (i4 + 1))), (1, .int 0), (0, .ref mo)]) hx hb dX9_fields_73 hl (k := 0) rfl (q_inc _) (by decide) rfl (fun ls hl => ?_)
          refine lv_goto (tgt := 4) hx hb dX9_fields_76 (by decide) ?_
          exact ih4 (i4 := (i4 + 1)) (ls := ls) (hk4 := by omega) (hl := lv_sub hl [0, 1, 2] rfl) (hf4 := by omega) (H := H) (locs := locs) (fa := (upd fa (Int32.toNatClampNeg (nI i4)) (-1))) (hP := hP) (hD := hD) (hS := hS)
        · skip
          refine lv_aload_n hx hb dX9_fields_39 rfl (lv_at hl 2 rfl) ?_
          refine lv_iload_n hx hb dX9_fields_40 rfl (lv_at hl 0 rfl) ?_
          refine vp_callSi (qV_R (n := 1) (As := [.int (nI i4)]) (rest := []) (wc := [(mo, .inr (9, [.int (nI bw), .int (nI bh), .ref kk, .ref rp, .ref mi, .ref ba, .ref wn, .int (-1), .int 0, .int 0, .ref m1, .ref m2, .ref m3, .ref m4, .int 0, .int 0, .ref pl, .ref ta, .int 0, .int 0, .int (-1), .ref wa, .ref pz, .ref ih, .ref su, .ref th, .ref od, .ref fo, .ref co, .ref qu, .ref pa, .ref td, .ref wt, .ref il, .int 0, .int 0])), (kk, .inl (kI, 64, .inl (fun _ => 0))), (mi, .inl (kZ, 8, .inl (fun _ => 0)))]) ⟨hx, hb, hml, hown, hts⟩ hK hN hP [0, 1, 2] rfl (k_X9_kindOf l D kI kZ kJ mo kk rp mi ba wn m1 m2 m3 m4 pl ta wa pz ih su th od fo co qu pa td wt il bw bh hbw hbh i4 hi4) gX9_fields_X9_kindOf rfl rfl rfl (by decide +kernel) ⟨(Nat.le_of_ble_eq_true rfl), (Nat.le_of_ble_eq_true rfl)⟩ 0 9 rfl rfl rfl rfl hl.1 rfl (Nat.le_of_ble_eq_true rfl) dX9_fields_41 ⟨(Nat.le_of_ble_eq_true rfl), (Nat.le_of_ble_eq_true rfl)⟩).run (fun r hw => ?_)
          obtain rfl := hw
          refine lv_if_ne (tgt := 50) hx hb dX9_fields_44 (by decide) (fun h9 => absurd h9 (by decide : ¬ (¬ (0 : Int32) = (0 : Int32)))) (fun _ => ?_)
          refine lv_goto (tgt := 73) hx hb dX9_fields_47 (by decide) ?_
          refine lv_iinc (v := (nI (i4 + 1))) (lv' := [(2, .int (nI (i4 + 1))), (1, .int 0), (0, .ref mo)]) hx hb dX9_fields_73 hl (k := 0) rfl (q_inc _) (by decide) rfl (fun ls hl => ?_)
          refine lv_goto (tgt := 4) hx hb dX9_fields_76 (by decide) ?_
          exact ih4 (i4 := (i4 + 1)) (ls := ls) (hk4 := by omega) (hl := lv_sub hl [0, 1, 2] rfl) (hf4 := by omega) (H := H) (locs := locs) (fa := (upd fa (Int32.toNatClampNeg (nI i4)) (-1))) (hP := hP) (hD := hD) (hS := hS)
set_option maxHeartbeats 4000000 in
set_option maxRecDepth 100000 in
theorem k_X9_isReady (l : Launch) (D : va_G) (kI kZ kJ : ClassId)  (mo kk rp mi ba wn m1 m2 m3 m4 pl ta wa pz ih su th od fo co qu pa td wt il : Nat) (bw bh : Nat) (hbw : bw ≤ 8) (hbh : bh ≤ 8) : Met l yX9_isReady wsX9_isReady ({ frames := 0, cells := 0, slots := 0, locals := 0 }) (qR D kI kZ kJ [(mo, .inr (9, [.int (nI bw), .int (nI bh), .ref kk, .ref rp, .ref mi, .ref ba, .ref wn, .int (-1), .int 0, .int 0, .ref m1, .ref m2, .ref m3, .ref m4, .int 0, .int 0, .ref pl, .ref ta, .int 0, .int 0, .int (-1), .ref wa, .ref pz, .ref ih, .ref su, .ref th, .ref od, .ref fo, .ref co, .ref qu, .ref pa, .ref td, .ref wt, .ref il, .int 0, .int 0]))] [.ref mo]) (vp_Si (fun r : Int32 => r = 0)) 0 0 (fun _ => False) := by
  refine Met.ofW (cc := cX9_isReady) (maxL := 1) (ret := (some .boolean)) (by decide) rfl ?_
  intro p e s m args below meth c s₁ B hml hv
  obtain ⟨rfl, hP, hK, hN⟩ := hv
  have hx := B.exec
  have hb := B.bytes
  have hr := B.returns
  have hts := atoms_spec (ws := wsX9_isReady) B.pre
  have hown : s.vm.findClass RX9 = some m.cls := findClass_of_methodNamed B.named
  have hlocks := B.notSynchronized
  have hP : va_P D vwCl [(mo, .inr (9, [.int (nI bw), .int (nI bh), .ref kk, .ref rp, .ref mi, .ref ba, .ref wn, .int (-1), .int 0, .int 0, .ref m1, .ref m2, .ref m3, .ref m4, .int 0, .int 0, .ref pl, .ref ta, .int 0, .int 0, .int (-1), .ref wa, .ref pz, .ref ih, .ref su, .ref th, .ref od, .ref fo, .ref co, .ref qu, .ref pa, .ref td, .ref wt, .ref il, .int 0, .int 0]))] s.heap := hP
  have hl := lv_entry ([.ref mo]) (n := 1) (Nat.le_of_ble_eq_true rfl)
  rw [lg_entry_eq]
  generalize (lg_sl ([.ref mo]) ++ List.replicate (1 - (lg_sl ([.ref mo])).length) Slot.unset).toArray = ls at hl ⊢
  have hl : lv_has ls 1 [(0, .ref mo)] := hl
  refine lv_aload_n hx hb dX9_isReady_0 rfl (lv_at hl 0 rfl) ?_
  refine va_get (D := D) (ci := 9) (v := .int (-1)) (C := RX9) (T := TX9) (N := 36) hx hb hts (by decide +kernel) hown hK hP 0 rfl rfl 7 (by decide) (hts (.fieldLink RX9 26 "CellarPushersModel" "man" "I") (by decide +kernel)) (fun _ h9 => h9) rfl dX9_isReady_1 ?_
  refine lv_if_lt (tgt := 41) hx hb dX9_isReady_4 (by decide) (fun _ => ?_) (fun h9 => absurd (by decide : ((-1) : Int32) < (0 : Int32)) h9)
  refine lv_iconst (v := 0) hx hb dX9_isReady_41 (by decide) ?_
  exact W.zret (v := 0) (ty := .boolean) hx hb hr rfl (fun t ht hW => ⟨_, rfl, rfl, ht⟩) (fun q hq => by cases hq) dX9_isReady_42
set_option maxHeartbeats 4000000 in
set_option maxRecDepth 100000 in
theorem k_X9_isDead (l : Launch) (D : va_G) (kI kZ kJ : ClassId)  (mo kk rp mi ba wn m1 m2 m3 m4 pl ta wa pz ih su th od fo co qu pa td wt il : Nat) (bw bh : Nat) (hbw : bw ≤ 8) (hbh : bh ≤ 8) (n : Nat) (hn : n < 64) : Met l yX9_isDead wsX9_isDead ({ frames := 1, cells := 0, slots := 0, locals := 21 }) (qR D kI kZ kJ [(mo, .inr (9, [.int (nI bw), .int (nI bh), .ref kk, .ref rp, .ref mi, .ref ba, .ref wn, .int (-1), .int 0, .int 0, .ref m1, .ref m2, .ref m3, .ref m4, .int 0, .int 0, .ref pl, .ref ta, .int 0, .int 0, .int (-1), .ref wa, .ref pz, .ref ih, .ref su, .ref th, .ref od, .ref fo, .ref co, .ref qu, .ref pa, .ref td, .ref wt, .ref il, .int 0, .int 0])), (kk, .inl (kI, 64, .inl (fun _ => 0))), (mi, .inl (kZ, 8, .inl (fun _ => 0)))] [.ref mo, .int (nI n)]) (vp_Si (fun r : Int32 => r = 0)) 0 0 (fun _ => False) := by
  refine Met.ofW (cc := cX9_isDead) (maxL := 3) (ret := (some .boolean)) (by decide) rfl ?_
  intro p e s m args below meth c s₁ B hml hv
  obtain ⟨rfl, hP, hK, hN⟩ := hv
  have hx := B.exec
  have hb := B.bytes
  have hr := B.returns
  have hts := atoms_spec (ws := wsX9_isDead) B.pre
  have hown : s.vm.findClass RX9 = some m.cls := findClass_of_methodNamed B.named
  have hlocks := B.notSynchronized
  have hP : va_P D vwCl [(mo, .inr (9, [.int (nI bw), .int (nI bh), .ref kk, .ref rp, .ref mi, .ref ba, .ref wn, .int (-1), .int 0, .int 0, .ref m1, .ref m2, .ref m3, .ref m4, .int 0, .int 0, .ref pl, .ref ta, .int 0, .int 0, .int (-1), .ref wa, .ref pz, .ref ih, .ref su, .ref th, .ref od, .ref fo, .ref co, .ref qu, .ref pa, .ref td, .ref wt, .ref il, .int 0, .int 0])), (kk, .inl (kI, 64, .inl (fun _ => 0))), (mi, .inl (kZ, 8, .inl (fun _ => 0)))] s.heap := hP
  have hl := lv_entry ([.ref mo, .int (nI n)]) (n := 3) (Nat.le_of_ble_eq_true rfl)
  rw [lg_entry_eq]
  generalize (lg_sl ([.ref mo, .int (nI n)]) ++ List.replicate (3 - (lg_sl ([.ref mo, .int (nI n)])).length) Slot.unset).toArray = ls at hl ⊢
  have hl : lv_has ls 3 [(0, .ref mo), (1, .int (nI n))] := hl
  refine lv_aload_n hx hb dX9_isDead_0 rfl (lv_at hl 0 rfl) ?_
  refine lv_iload_n hx hb dX9_isDead_1 rfl (lv_at hl 1 rfl) ?_
  refine vp_callSi (qV_R (n := 1) (As := [.int (nI n)]) (rest := []) (wc := [(mo, .inr (9, [.int (nI bw), .int (nI bh), .ref kk, .ref rp, .ref mi, .ref ba, .ref wn, .int (-1), .int 0, .int 0, .ref m1, .ref m2, .ref m3, .ref m4, .int 0, .int 0, .ref pl, .ref ta, .int 0, .int 0, .int (-1), .ref wa, .ref pz, .ref ih, .ref su, .ref th, .ref od, .ref fo, .ref co, .ref qu, .ref pa, .ref td, .ref wt, .ref il, .int 0, .int 0])), (kk, .inl (kI, 64, .inl (fun _ => 0))), (mi, .inl (kZ, 8, .inl (fun _ => 0)))]) ⟨hx, hb, hml, hown, hts⟩ hK hN hP [0, 1, 2] rfl (k_X9_kindOf l D kI kZ kJ mo kk rp mi ba wn m1 m2 m3 m4 pl ta wa pz ih su th od fo co qu pa td wt il bw bh hbw hbh n hn) gX9_isDead_X9_kindOf rfl rfl rfl (by decide +kernel) ⟨(Nat.le_of_ble_eq_true rfl), (Nat.le_of_ble_eq_true rfl)⟩ 0 9 rfl rfl rfl rfl hl.1 rfl (Nat.le_of_ble_eq_true rfl) dX9_isDead_2 ⟨(Nat.le_of_ble_eq_true rfl), (Nat.le_of_ble_eq_true rfl)⟩).run (fun r hw => ?_)
  obtain rfl := hw
  refine lv_if_ne (tgt := 10) hx hb dX9_isDead_5 (by decide) (fun h9 => absurd h9 (by decide : ¬ (¬ (0 : Int32) = (0 : Int32)))) (fun _ => ?_)
  refine lv_iconst (v := 0) hx hb dX9_isDead_8 (by decide) ?_
  exact W.zret (v := 0) (ty := .boolean) hx hb hr rfl (fun t ht hW => ⟨_, rfl, rfl, ht⟩) (fun q hq => by cases hq) dX9_isDead_9
set_option maxHeartbeats 4000000 in
set_option maxRecDepth 100000 in
theorem k_X9_can (l : Launch) (D : va_G) (kI kZ kJ : ClassId)  (mo kk rp mi ba wn m1 m2 m3 m4 pl ta wa pz ih su th od fo co qu pa td wt il : Nat) (bw bh : Nat) (hbw : bw ≤ 8) (hbh : bh ≤ 8) (x y v : Int32) : Met l yX9_can wsX9_can ({ frames := 0, cells := 0, slots := 0, locals := 0 }) (qR D kI kZ kJ [(mo, .inr (9, [.int (nI bw), .int (nI bh), .ref kk, .ref rp, .ref mi, .ref ba, .ref wn, .int (-1), .int 0, .int 0, .ref m1, .ref m2, .ref m3, .ref m4, .int 0, .int 0, .ref pl, .ref ta, .int 0, .int 0, .int (-1), .ref wa, .ref pz, .ref ih, .ref su, .ref th, .ref od, .ref fo, .ref co, .ref qu, .ref pa, .ref td, .ref wt, .ref il, .int 0, .int 0]))] [.ref mo, .int x, .int y, .int v]) (vp_Si (fun r : Int32 => r = -2)) 0 0 (fun _ => False) := by
  refine Met.ofW (cc := cX9_can) (maxL := 7) (ret := (some .int)) (by decide) rfl ?_
  intro p e s m args below meth c s₁ B hml hv
  obtain ⟨rfl, hP, hK, hN⟩ := hv
  have hx := B.exec
  have hb := B.bytes
  have hr := B.returns
  have hts := atoms_spec (ws := wsX9_can) B.pre
  have hown : s.vm.findClass RX9 = some m.cls := findClass_of_methodNamed B.named
  have hlocks := B.notSynchronized
  have hP : va_P D vwCl [(mo, .inr (9, [.int (nI bw), .int (nI bh), .ref kk, .ref rp, .ref mi, .ref ba, .ref wn, .int (-1), .int 0, .int 0, .ref m1, .ref m2, .ref m3, .ref m4, .int 0, .int 0, .ref pl, .ref ta, .int 0, .int 0, .int (-1), .ref wa, .ref pz, .ref ih, .ref su, .ref th, .ref od, .ref fo, .ref co, .ref qu, .ref pa, .ref td, .ref wt, .ref il, .int 0, .int 0]))] s.heap := hP
  have hl := lv_entry ([.ref mo, .int x, .int y, .int v]) (n := 7) (Nat.le_of_ble_eq_true rfl)
  rw [lg_entry_eq]
  generalize (lg_sl ([.ref mo, .int x, .int y, .int v]) ++ List.replicate (7 - (lg_sl ([.ref mo, .int x, .int y, .int v])).length) Slot.unset).toArray = ls at hl ⊢
  have hl : lv_has ls 7 [(0, .ref mo), (1, .int x), (2, .int y), (3, .int v)] := hl
  refine lv_aload_n hx hb dX9_can_0 rfl (lv_at hl 0 rfl) ?_
  refine va_get (D := D) (ci := 9) (v := .int (-1)) (C := RX9) (T := TX9) (N := 36) hx hb hts (by decide +kernel) hown hK hP 0 rfl rfl 7 (by decide) (hts (.fieldLink RX9 26 "CellarPushersModel" "man" "I") (by decide +kernel)) (fun _ h9 => h9) rfl dX9_can_1 ?_
  refine lv_if_lt (tgt := 37) hx hb dX9_can_4 (by decide) (fun _ => ?_) (fun h9 => absurd (by decide : ((-1) : Int32) < (0 : Int32)) h9)
  refine lv_bipush (v := (-2)) hx hb dX9_can_37 (by decide) ?_
  exact W.iret (v := (-2)) hx hb hr (fun t ht hW => ⟨_, rfl, rfl, ht⟩) (fun q hq => by cases hq) dX9_can_39
