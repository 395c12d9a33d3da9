set_option maxHeartbeats 4000000 in
set_option maxRecDepth 100000 in
theorem k_X9_field (l : Launch) (D : va_G) (kI kZ kJ : ClassId)  (mo kk rp mi ba wn m1 m2 m3 m4 pl ta wa pz ih su th od fo co qu pa td wt il : Nat) (bw bh : Nat) (hbw : bw ≤ 8) (hbh : bh ≤ 8) (x y k v : Int32) (sz : Nat) : Met l yX9_field wsX9_field ({ frames := 1, cells := 0, slots := 0, locals := 22 }) (qW D kI kZ kJ [(mo, .inr (9, [.int (nI bw), .int (nI bh), .ref kk, .ref rp, .ref mi, .ref ba, .ref wn, .int (-1), .int 0, .int 0, .ref m1, .ref m2, .ref m3, .ref m4, .int 0, .int 0, .ref pl, .ref ta, .int 0, .int 0, .int (-1), .ref wa, .ref pz, .ref ih, .ref su, .ref th, .ref od, .ref fo, .ref co, .ref qu, .ref pa, .ref td, .ref wt, .ref il, .int 0, .int 0])), (kk, .inl (kI, 64, .inl (fun _ => 0))), (rp, .inl (kI, 64, .inl (fun _ => 0))), (ba, .inl (kZ, 64, .inl (fun _ => 0))), (wn, .inl (kZ, 64, .inl (fun _ => 0)))] sz [.ref mo, .int x, .int y, .int k, .int v]) (va_Qi (fun (r : Int32) (u : Unit) => q_if (q_fld bw bh x y k v) 0 (-2) r) (qB D (fun u : Unit => []) (va_A [(mo, .inr (9, [.int (nI bw), .int (nI bh), .ref kk, .ref rp, .ref mi, .ref ba, .ref wn, .int (-1), .int 0, .int 0, .ref m1, .ref m2, .ref m3, .ref m4, .int 0, .int 0, .ref pl, .ref ta, .int 0, .int 0, .int (-1), .ref wa, .ref pz, .ref ih, .ref su, .ref th, .ref od, .ref fo, .ref co, .ref qu, .ref pa, .ref td, .ref wt, .ref il, .int 0, .int 0])), (kk, .inl (kI, 64, .inl (fun _ => 0))), (rp, .inl (kI, 64, .inl (fun _ => 0))), (ba, .inl (kZ, 64, .inl (fun _ => 0))), (wn, .inl (kZ, 64, .inl (fun _ => 0)))] sz)) (va_A [(mo, .inr (9, [.int (nI bw), .int (nI bh), .ref kk, .ref rp, .ref mi, .ref ba, .ref wn, .int (-1), .int 0, .int 0, .ref m1, .ref m2, .ref m3, .ref m4, .int 0, .int 0, .ref pl, .ref ta, .int 0, .int 0, .int (-1), .ref wa, .ref pz, .ref ih, .ref su, .ref th, .ref od, .ref fo, .ref co, .ref qu, .ref pa, .ref td, .ref wt, .ref il, .int 0, .int 0])), (kk, .inl (kI, 64, .inl (fun _ => 0))), (rp, .inl (kI, 64, .inl (fun _ => 0))), (ba, .inl (kZ, 64, .inl (fun _ => 0))), (wn, .inl (kZ, 64, .inl (fun _ => 0)))] sz)) 0 0 (va_A [(mo, .inr (9, [.int (nI bw), .int (nI bh), .ref kk, .ref rp, .ref mi, .ref ba, .ref wn, .int (-1), .int 0, .int 0, .ref m1, .ref m2, .ref m3, .ref m4, .int 0, .int 0, .ref pl, .ref ta, .int 0, .int 0, .int (-1), .ref wa, .ref pz, .ref ih, .ref su, .ref th, .ref od, .ref fo, .ref co, .ref qu, .ref pa, .ref td, .ref wt, .ref il, .int 0, .int 0])), (kk, .inl (kI, 64, .inl (fun _ => 0))), (rp, .inl (kI, 64, .inl (fun _ => 0))), (ba, .inl (kZ, 64, .inl (fun _ => 0))), (wn, .inl (kZ, 64, .inl (fun _ => 0)))] sz) := by
  refine Met.ofW (cc := cX9_field) (maxL := 7) (ret := (some .int)) (by decide) rfl ?_
  intro p e s m args below meth c s₁ B hml hv
  obtain ⟨rfl, hsz, hP, hK, hD0, hN⟩ := hv
  have hx := B.exec
  have hb := B.bytes
  have hr := B.returns
  have hts := atoms_spec (ws := wsX9_field) B.pre
  have hown : s.vm.findClass RX9 = some m.cls := findClass_of_methodNamed B.named
  have hlocks := B.notSynchronized
  subst hsz
  have hD := hD0.self (sz := s.heap.size)
  generalize hAe : va_A [(mo, .inr (9, [.int (nI bw), .int (nI bh), .ref kk, .ref rp, .ref mi, .ref ba, .ref wn, .int (-1), .int 0, .int 0, .ref m1, .ref m2, .ref m3, .ref m4, .int 0, .int 0, .ref pl, .ref ta, .int 0, .int 0, .int (-1), .ref wa, .ref pz, .ref ih, .ref su, .ref th, .ref od, .ref fo, .ref co, .ref qu, .ref pa, .ref td, .ref wt, .ref il, .int 0, .int 0])), (kk, .inl (kI, 64, .inl (fun _ => 0))), (rp, .inl (kI, 64, .inl (fun _ => 0))), (ba, .inl (kZ, 64, .inl (fun _ => 0))), (wn, .inl (kZ, 64, .inl (fun _ => 0)))] s.heap.size = A at hD ⊢
  have hA : ∀ q : Nat, s.heap.size ≤ q → A q := fun q h => by rw [← hAe]; exact Or.inr h
  have hS : va_S A s.heap s.heap [] := va_S.rf
  have hP : va_P D vwCl [(mo, .inr (9, [.int (nI bw), .int (nI bh), .ref kk, .ref rp, .ref mi, .ref ba, .ref wn, .int (-1), .int 0, .int 0, .ref m1, .ref m2, .ref m3, .ref m4, .int 0, .int 0, .ref pl, .ref ta, .int 0, .int 0, .int (-1), .ref wa, .ref pz, .ref ih, .ref su, .ref th, .ref od, .ref fo, .ref co, .ref qu, .ref pa, .ref td, .ref wt, .ref il, .int 0, .int 0])), (kk, .inl (kI, 64, .inl (fun _ => 0))), (rp, .inl (kI, 64, .inl (fun _ => 0))), (ba, .inl (kZ, 64, .inl (fun _ => 0))), (wn, .inl (kZ, 64, .inl (fun _ => 0)))] s.heap := hP
  have hl := lv_entry ([.ref mo, .int x, .int y, .int k, .int v]) (n := 7) (Nat.le_of_ble_eq_true rfl)
  rw [lg_entry_eq]
  generalize (lg_sl ([.ref mo, .int x, .int y, .int k, .int v]) ++ List.replicate (7 - (lg_sl ([.ref mo, .int x, .int y, .int k, .int v])).length) Slot.unset).toArray = ls at hl ⊢
  have hl : lv_has ls 7 [(0, .ref mo), (1, .int x), (2, .int y), (3, .int k), (4, .int v)] := hl
  refine lv_aload_n hx hb dX9_field_0 rfl (lv_at hl 0 rfl) ?_
  refine lv_iload_n hx hb dX9_field_1 rfl (lv_at hl 1 rfl) ?_
  refine lv_iload_n hx hb dX9_field_2 rfl (lv_at hl 2 rfl) ?_
  refine vp_callSi (qV_R (n := 2) (As := [.int x, .int y]) (rest := []) (wc := [(mo, .inr (9, [.int (nI bw), .int (nI bh), .ref kk, .ref rp, .ref mi, .ref ba, .ref wn, .int (-1), .int 0, .int 0, .ref m1, .ref m2, .ref m3, .ref m4, .int 0, .int 0, .ref pl, .ref ta, .int 0, .int 0, .int (-1), .ref wa, .ref pz, .ref ih, .ref su, .ref th, .ref od, .ref fo, .ref co, .ref qu, .ref pa, .ref td, .ref wt, .ref il, .int 0, .int 0]))]) ⟨hx, hb, hml, hown, hts⟩ hK hN hP [0] rfl (k_X9_isField l D kI kZ kJ mo kk rp mi ba wn m1 m2 m3 m4 pl ta wa pz ih su th od fo co qu pa td wt il bw bh hbw hbh x y) gX9_field_X9_isField rfl rfl rfl (by decide +kernel) ⟨(Nat.le_of_ble_eq_true rfl), (Nat.le_of_ble_eq_true rfl)⟩ 0 9 rfl rfl rfl rfl hl.1 rfl (Nat.le_of_ble_eq_true rfl) dX9_field_3 ⟨(Nat.le_of_ble_eq_true rfl), (Nat.le_of_ble_eq_true rfl)⟩).run (fun r hw => ?_)
  rcases hw with ⟨hin, rfl⟩ | ⟨hin, rfl⟩
  · skip
    obtain ⟨num, hnum, hnumE⟩ := q_num hbw hbh hin
    refine lv_if_eq (tgt := 39) hx hb dX9_field_6 (by decide) (fun h9 => absurd h9 (by decide : ¬ ((1 : Int32) = (0 : Int32)))) (fun _ => ?_)
    refine lv_iload_n hx hb dX9_field_9 rfl (lv_at hl 3 rfl) ?_
    refine lv_if_lt (tgt := 39) hx hb dX9_field_10 (by decide) (fun c_1 => ?_) (fun c_1 => ?_)
    · skip
      refine lv_bipush (v := (-2)) hx hb dX9_field_39 (by decide) ?_
      have hP9 := hP.sub (ws' := []) [] rfl
      have hD9 := hD.sub (ws' := []) [] (by decide) rfl
      exact W.iret (v := (-2)) hx hb hr (fun t ht hW => ⟨⟨_, (), rfl, (by first | exact q_ift ⟨hin, by assumption, by first | assumption | exact Int32.not_lt.mp (by assumption), fun _ => by assumption, fun h => absurd (by assumption) h⟩ | exact q_ift ⟨hin, by assumption, by first | assumption | exact Int32.not_lt.mp (by assumption), fun h => absurd h (by assumption), fun _ => by assumption⟩ | exact q_iff (fun h => by obtain ⟨h1, h2, h3, h4, h5⟩ := h; first | contradiction | exact absurd (h4 (by assumption)) (by assumption) | exact absurd (h5 (by assumption)) (by assumption) | exact absurd h3 (Int32.not_le.mpr (by assumption)) | exact absurd (Int32.not_lt.mp (by assumption)) (by assumption))), ⟨by rw [ht]; exact hP9, hD9⟩⟩, hS.F ht⟩) hS.2.2 dX9_field_41
    · skip
      refine lv_iload_n hx hb dX9_field_13 rfl (lv_at hl 3 rfl) ?_
      refine lv_iconst (v := 5) hx hb dX9_field_14 (by decide) ?_
      refine lv_icmp_gt (tgt := 39) hx hb dX9_field_15 (by decide) (fun c_2 => ?_) (fun c_2 => ?_)
      · skip
        refine lv_bipush (v := (-2)) hx hb dX9_field_39 (by decide) ?_
        have hP9 := hP.sub (ws' := []) [] rfl
        have hD9 := hD.sub (ws' := []) [] (by decide) rfl
        exact W.iret (v := (-2)) hx hb hr (fun t ht hW => ⟨⟨_, (), rfl, (by first | exact q_ift ⟨hin, by assumption, by first | assumption | exact Int32.not_lt.mp (by assumption), fun _ => by assumption, fun h => absurd (by assumption) h⟩ | exact q_ift ⟨hin, by assumption, by first | assumption | exact Int32.not_lt.mp (by assumption), fun h => absurd h (by assumption), fun _ => by assumption⟩ | exact q_iff (fun h => by obtain ⟨h1, h2, h3, h4, h5⟩ := h; first | contradiction | exact absurd (h4 (by assumption)) (by assumption) | exact absurd (h5 (by assumption)) (by assumption) | exact absurd h3 (Int32.not_le.mpr (by assumption)) | exact absurd (Int32.not_lt.mp (by assumption)) (by assumption))), ⟨by rw [ht]; exact hP9, hD9⟩⟩, hS.F ht⟩) hS.2.2 dX9_field_41
      · skip
        refine lv_iload_n hx hb dX9_field_18 rfl (lv_at hl 3 rfl) ?_
        refine lv_iconst (v := 4) hx hb dX9_field_19 (by decide) ?_
        refine lv_icmp_ne (tgt := 34) hx hb dX9_field_20 (by decide) (fun c_3 => ?_) (fun c_3 => ?_)
        · skip
          refine lv_iload hx hb dX9_field_34 (lv_at hl 4 rfl) ?_
          refine lv_if_eq (tgt := 42) hx hb dX9_field_36 (by decide) (fun c_4 => ?_) (fun c_4 => ?_)
          · skip
            refine lv_bipush (v := 8) hx hb dX9_field_42 (by decide) ?_
            refine lv_iload_n hx hb dX9_field_44 rfl (lv_at hl 2 rfl) ?_
            refine lv_imul hx hb dX9_field_45 ?_
            refine lv_iload_n hx hb dX9_field_46 rfl (lv_at hl 1 rfl) ?_
            refine lv_iadd hx hb dX9_field_47 ?_
            refine lv_topi (fun z_5 ez_5 => ?_)
            obtain rfl : z_5 = nI num := ez_5.trans hnumE
            refine lv_istore (lv' := [(5, .int (nI num)), (0, .ref mo), (1, .int x), (2, .int y), (3, .int k), (4, .int v)]) hx hb dX9_field_48 hl (by decide) rfl (fun ls hl => ?_)
            refine lv_aload_n hx hb dX9_field_50 rfl (lv_at hl 1 rfl) ?_
            refine va_get (D := D) (ci := 9) (v := .ref ba) (C := RX9) (T := TX9) (N := 36) hx hb hts (by decide +kernel) hown hK hP 0 rfl rfl 5 (by decide) (hts (.fieldLink RX9 20 "CellarPushersModel" "barrels" "[Z") (by decide +kernel)) (fun _ h9 => h9) rfl dX9_field_51 ?_
            refine lv_iload hx hb dX9_field_54 (lv_at hl 0 rfl) ?_
            refine va_zald hx hb hK hP 3 1 rfl rfl (vp_in_nI (by have := hnum; omega) (by decide)) dX9_field_56 ?_
            refine lv_topi (fun z_6 ez_6 => ?_)
            obtain rfl : z_6 = 0 := ez_6
            refine lv_if_ne (tgt := 79) hx hb dX9_field_57 (by decide) (fun h9 => absurd h9 (by decide : ¬ (¬ (0 : Int32) = (0 : Int32)))) (fun _ => ?_)
            refine lv_aload_n hx hb dX9_field_60 rfl (lv_at hl 1 rfl) ?_
            refine va_get (D := D) (ci := 9) (v := .int (-1)) (C := RX9) (T := TX9) (N := 36) hx hb hts (by decide +kernel) hown hK hP 0 rfl rfl 7 (by decide) (hts (.fieldLink RX9 26 "CellarPushersModel" "man" "I") (by decide +kernel)) (fun _ h9 => h9) rfl dX9_field_61 ?_
            refine lv_iload hx hb dX9_field_64 (lv_at hl 0 rfl) ?_
            refine lv_icmp_eq (tgt := 79) hx hb dX9_field_66 (by decide) (fun h9 => absurd h9 (by have hq := hnum; exact fun h => q_ne1 (c := (-1)) (by decide) (by omega) h.symm)) (fun _ => ?_)
            refine lv_aload_n hx hb dX9_field_69 rfl (lv_at hl 1 rfl) ?_
            refine va_get (D := D) (ci := 9) (v := .ref wn) (C := RX9) (T := TX9) (N := 36) hx hb hts (by decide +kernel) hown hK hP 0 rfl rfl 6 (by decide) (hts (.fieldLink RX9 23 "CellarPushersModel" "wanted" "[Z") (by decide +kernel)) (fun _ h9 => h9) rfl dX9_field_70 ?_
            refine lv_iload hx hb dX9_field_73 (lv_at hl 0 rfl) ?_
            refine va_zald hx hb hK hP 4 1 rfl rfl (vp_in_nI (by have := hnum; omega) (by decide)) dX9_field_75 ?_
            refine lv_topi (fun z_7 ez_7 => ?_)
            obtain rfl : z_7 = 0 := ez_7
            refine lv_if_eq (tgt := 82) hx hb dX9_field_76 (by decide) (fun _ => ?_) (fun h9 => absurd (by decide : (0 : Int32) = (0 : Int32)) h9)
            refine lv_aload_n hx hb dX9_field_82 rfl (lv_at hl 1 rfl) ?_
            refine va_get (D := D) (ci := 9) (v := .ref kk) (C := RX9) (T := TX9) (N := 36) hx hb hts (by decide +kernel) hown hK hP 0 rfl rfl 2 (by decide) (hts (.fieldLink RX9 7 "CellarPushersModel" "kinds" "[I") (by decide +kernel)) (fun _ h9 => h9) rfl dX9_field_83 ?_
            refine lv_iload hx hb dX9_field_86 (lv_at hl 0 rfl) ?_
            refine va_iald hx hb hK hP 1 0 rfl rfl (vp_in_nI (by have := hnum; omega) (by decide)) dX9_field_88 ?_
            refine lv_topi (fun z_8 ez_8 => ?_)
            obtain rfl : z_8 = 0 := ez_8
            refine lv_istore (lv' := [(6, .int 0), (5, .int (nI num)), (0, .ref mo), (1, .int x), (2, .int y), (3, .int k), (4, .int v)]) hx hb dX9_field_89 hl (by decide) rfl (fun ls hl => ?_)
            refine lv_aload_n hx hb dX9_field_91 rfl (lv_at hl 2 rfl) ?_
            refine va_get (D := D) (ci := 9) (v := .ref kk) (C := RX9) (T := TX9) (N := 36) hx hb hts (by decide +kernel) hown hK hP 0 rfl rfl 2 (by decide) (hts (.fieldLink RX9 7 "CellarPushersModel" "kinds" "[I") (by decide +kernel)) (fun _ h9 => h9) rfl dX9_field_92 ?_
            refine lv_iload hx hb dX9_field_95 (lv_at hl 1 rfl) ?_
            refine lv_iload_n hx hb dX9_field_97 rfl (lv_at hl 5 rfl) ?_
            refine va_iast hx hb hK hP hD hS 1 0 rfl rfl (vp_in_nI (by have := hnum; omega) (by decide)) dX9_field_98 (fun H locs hP hD hS => ?_)
            have hP : va_P D vwCl [(mo, .inr (9, [.int (nI bw), .int (nI bh), .ref kk, .ref rp, .ref mi, .ref ba, .ref wn, .int (-1), .int 0, .int 0, .ref m1, .ref m2, .ref m3, .ref m4, .int 0, .int 0, .ref pl, .ref ta, .int 0, .int 0, .int (-1), .ref wa, .ref pz, .ref ih, .ref su, .ref th, .ref od, .ref fo, .ref co, .ref qu, .ref pa, .ref td, .ref wt, .ref il, .int 0, .int 0])), (kk, .inl (kI, 64, .inl (upd (fun _ => 0) (Int32.toNatClampNeg (nI num)) k))), (rp, .inl (kI, 64, .inl (fun _ => 0))), (ba, .inl (kZ, 64, .inl (fun _ => 0))), (wn, .inl (kZ, 64, .inl (fun _ => 0)))] H := hP
            have hD : va_D A [(mo, .inr (9, [.int (nI bw), .int (nI bh), .ref kk, .ref rp, .ref mi, .ref ba, .ref wn, .int (-1), .int 0, .int 0, .ref m1, .ref m2, .ref m3, .ref m4, .int 0, .int 0, .ref pl, .ref ta, .int 0, .int 0, .int (-1), .ref wa, .ref pz, .ref ih, .ref su, .ref th, .ref od, .ref fo, .ref co, .ref qu, .ref pa, .ref td, .ref wt, .ref il, .int 0, .int 0])), (kk, .inl (kI, 64, .inl (upd (fun _ => 0) (Int32.toNatClampNeg (nI num)) k))), (rp, .inl (kI, 64, .inl (fun _ => 0))), (ba, .inl (kZ, 64, .inl (fun _ => 0))), (wn, .inl (kZ, 64, .inl (fun _ => 0)))] := hD
            refine lv_aload_n hx hb dX9_field_99 rfl (lv_at hl 2 rfl) ?_
            refine va_get (D := D) (ci := 9) (v := .ref rp) (C := RX9) (T := TX9) (N := 36) hx hb hts (by decide +kernel) hown hK hP 0 rfl rfl 3 (by decide) (hts (.fieldLink RX9 13 "CellarPushersModel" "ramps" "[I") (by decide +kernel)) (fun _ h9 => h9) rfl dX9_field_100 ?_
            refine lv_iload hx hb dX9_field_103 (lv_at hl 1 rfl) ?_
            refine lv_iload hx hb dX9_field_105 (lv_at hl 6 rfl) ?_
            refine va_iast hx hb hK hP hD hS 2 0 rfl rfl (vp_in_nI (by have := hnum; omega) (by decide)) dX9_field_107 (fun H locs hP hD hS => ?_)
            have hP : va_P D vwCl [(mo, .inr (9, [.int (nI bw), .int (nI bh), .ref kk, .ref rp, .ref mi, .ref ba, .ref wn, .int (-1), .int 0, .int 0, .ref m1, .ref m2, .ref m3, .ref m4, .int 0, .int 0, .ref pl, .ref ta, .int 0, .int 0, .int (-1), .ref wa, .ref pz, .ref ih, .ref su, .ref th, .ref od, .ref fo, .ref co, .ref qu, .ref pa, .ref td, .ref wt, .ref il, .int 0, .int 0])), (kk, .inl (kI, 64, .inl (upd (fun _ => 0) (Int32.toNatClampNeg (nI num)) k))), (rp, .inl (kI, 64, .inl (upd (fun _ => 0) (Int32.toNatClampNeg (nI num)) v))), (ba, .inl (kZ, 64, .inl (fun _ => 0))), (wn, .inl (kZ, 64, .inl (fun _ => 0)))] H := hP
            have hD : va_D A [(mo, .inr (9, [.int (nI bw), .int (nI bh), .ref kk, .ref rp, .ref mi, .ref ba, .ref wn, .int (-1), .int 0, .int 0, .ref m1, .ref m2, .ref m3, .ref m4, .int 0, .int 0, .ref pl, .ref ta, .int 0, .int 0, .int (-1), .ref wa, .ref pz, .ref ih, .ref su, .ref th, .ref od, .ref fo, .ref co, .ref qu, .ref pa, .ref td, .ref wt, .ref il, .int 0, .int 0])), (kk, .inl (kI, 64, .inl (upd (fun _ => 0) (Int32.toNatClampNeg (nI num)) k))), (rp, .inl (kI, 64, .inl (upd (fun _ => 0) (Int32.toNatClampNeg (nI num)) v))), (ba, .inl (kZ, 64, .inl (fun _ => 0))), (wn, .inl (kZ, 64, .inl (fun _ => 0)))] := hD
            refine lv_aload_n hx hb dX9_field_108 rfl (lv_at hl 2 rfl) ?_
            refine qc_v (wr := [(kk, .inl (kI, 64, .inl (upd (fun _ => 0) (Int32.toNatClampNeg (nI num)) k))), (rp, .inl (kI, 64, .inl (upd (fun _ => 0) (Int32.toNatClampNeg (nI num)) v))), (ba, .inl (kZ, 64, .inl (fun _ => 0))), (wn, .inl (kZ, 64, .inl (fun _ => 0)))]) (qV_W (n := 0) (As := []) (rest := []) (wc := [(mo, .inr (9, [.int (nI bw), .int (nI bh), .ref kk, .ref rp, .ref mi, .ref ba, .ref wn, .int (-1), .int 0, .int 0, .ref m1, .ref m2, .ref m3, .ref m4, .int 0, .int 0, .ref pl, .ref ta, .int 0, .int 0, .int (-1), .ref wa, .ref pz, .ref ih, .ref su, .ref th, .ref od, .ref fo, .ref co, .ref qu, .ref pa, .ref td, .ref wt, .ref il, .int 0, .int 0]))]) ⟨hx, hb, hml, hown, hts⟩ hK hN hP hD [0] rfl rfl (by decide) (k_X9_forget l D kI kZ kJ mo kk rp mi ba wn m1 m2 m3 m4 pl ta wa pz ih su th od fo co qu pa td wt il bw bh hbw hbh H.size) gX9_field_X9_forget rfl rfl rfl (by decide +kernel) ⟨(Nat.le_of_ble_eq_true rfl), (Nat.le_of_ble_eq_true rfl)⟩ 0 9 rfl rfl rfl rfl hl.1 rfl (Nat.le_of_ble_eq_true rfl) dX9_field_109 ⟨(Nat.le_of_ble_eq_true rfl), (Nat.le_of_ble_eq_true rfl)⟩) hP hD hS hA [0] [1, 2, 3, 4] rfl rfl (by decide) (by decide) (fun u H locs hw hP hD hS => ?_)
            have hP : va_P D vwCl [(kk, .inl (kI, 64, .inl (upd (fun _ => 0) (Int32.toNatClampNeg (nI num)) k))), (rp, .inl (kI, 64, .inl (upd (fun _ => 0) (Int32.toNatClampNeg (nI num)) v))), (ba, .inl (kZ, 64, .inl (fun _ => 0))), (wn, .inl (kZ, 64, .inl (fun _ => 0)))] H := hP
            have hD : va_D A [(kk, .inl (kI, 64, .inl (upd (fun _ => 0) (Int32.toNatClampNeg (nI num)) k))), (rp, .inl (kI, 64, .inl (upd (fun _ => 0) (Int32.toNatClampNeg (nI num)) v))), (ba, .inl (kZ, 64, .inl (fun _ => 0))), (wn, .inl (kZ, 64, .inl (fun _ => 0)))] := hD
            refine lv_iload hx hb dX9_field_112 (lv_at hl 0 rfl) ?_
            have hP9 := hP.sub (ws' := []) [] rfl
            have hD9 := hD.sub (ws' := []) [] (by decide) rfl
            exact W.iret (v := 0) hx hb hr (fun t ht hW => ⟨⟨_, (), rfl, (by first | exact q_ift ⟨hin, by assumption, by first | assumption | exact Int32.not_lt.mp (by assumption), fun _ => by assumption, fun h => absurd (by assumption) h⟩ | exact q_ift ⟨hin, by assumption, by first | assumption | exact Int32.not_lt.mp (by assumption), fun h => absurd h (by assumption), fun _ => by assumption⟩ | exact q_iff (fun h => by obtain ⟨h1, h2, h3, h4, h5⟩ := h; first | contradiction | exact absurd (h4 (by assumption)) (by assumption) | exact absurd (h5 (by assumption)) (by assumption) | exact absurd h3 (Int32.not_le.mpr (by assumption)) | exact absurd (Int32.not_lt.mp (by assumption)) (by assumption))), ⟨by rw [ht]; exact hP9, hD9⟩⟩, hS.F ht⟩) hS.2.2 dX9_field_114
          · skip
            refine lv_bipush (v := (-2)) hx hb dX9_field_39 (by decide) ?_
            have hP9 := hP.sub (ws' := []) [] rfl
            have hD9 := hD.sub (ws' := []) [] (by decide) rfl
            exact W.iret (v := (-2)) hx hb hr (fun t ht hW => ⟨⟨_, (), rfl, (by first | exact q_ift ⟨hin, by assumption, by first | assumption | exact Int32.not_lt.mp (by assumption), fun _ => by assumption, fun h => absurd (by assumption) h⟩ | exact q_ift ⟨hin, by assumption, by first | assumption | exact Int32.not_lt.mp (by assumption), fun h => absurd h (by assumption), fun _ => by assumption⟩ | exact q_iff (fun h => by obtain ⟨h1, h2, h3, h4, h5⟩ := h; first | contradiction | exact absurd (h4 (by assumption)) (by assumption) | exact absurd (h5 (by assumption)) (by assumption) | exact absurd h3 (Int32.not_le.mpr (by assumption)) | exact absurd (Int32.not_lt.mp (by assumption)) (by assumption))), ⟨by rw [ht]; exact hP9, hD9⟩⟩, hS.F ht⟩) hS.2.2 dX9_field_41
        · skip
          refine lv_iload hx hb dX9_field_23 (lv_at hl 4 rfl) ?_
          refine vp_callSi (qS_R (n := 1) (As := [.int v]) (rest := []) (wc := []) ⟨hx, hb, hml, hown, hts⟩ hK hN hP [] rfl (k_X9_isWay l D kI kZ kJ v) gX9_field_X9_isWay rfl rfl rfl (by decide +kernel) ⟨(Nat.le_of_ble_eq_true rfl), (Nat.le_of_ble_eq_true rfl)⟩ rfl hl.1 rfl (Nat.le_of_ble_eq_true rfl) dX9_field_25 ⟨(Nat.le_of_ble_eq_true rfl), (Nat.le_of_ble_eq_true rfl)⟩).run (fun r hw => ?_)
          rcases hw with ⟨hway, rfl⟩ | ⟨hway, rfl⟩
          · skip
            refine lv_if_ne (tgt := 42) hx hb dX9_field_28 (by decide) (fun _ => ?_) (fun h9 => absurd h9 (by decide : ¬ (1 : Int32) = (0 : Int32)))
            refine lv_bipush (v := 8) hx hb dX9_field_42 (by decide) ?_
            refine lv_iload_n hx hb dX9_field_44 rfl (lv_at hl 2 rfl) ?_
            refine lv_imul hx hb dX9_field_45 ?_
            refine lv_iload_n hx hb dX9_field_46 rfl (lv_at hl 1 rfl) ?_
            refine lv_iadd hx hb dX9_field_47 ?_
            refine lv_topi (fun z_11 ez_11 => ?_)
            obtain rfl : z_11 = nI num := ez_11.trans hnumE
            refine lv_istore (lv' := [(5, .int (nI num)), (0, .ref mo), (1, .int x), (2, .int y), (3, .int k), (4, .int v)]) hx hb dX9_field_48 hl (by decide) rfl (fun ls hl => ?_)
            refine lv_aload_n hx hb dX9_field_50 rfl (lv_at hl 1 rfl) ?_
            refine va_get (D := D) (ci := 9) (v := .ref ba) (C := RX9) (T := TX9) (N := 36) hx hb hts (by decide +kernel) hown hK hP 0 rfl rfl 5 (by decide) (hts (.fieldLink RX9 20 "CellarPushersModel" "barrels" "[Z") (by decide +kernel)) (fun _ h9 => h9) rfl dX9_field_51 ?_
            refine lv_iload hx hb dX9_field_54 (lv_at hl 0 rfl) ?_
            refine va_zald hx hb hK hP 3 1 rfl rfl (vp_in_nI (by have := hnum; omega) (by decide)) dX9_field_56 ?_
            refine lv_topi (fun z_12 ez_12 => ?_)
            obtain rfl : z_12 = 0 := ez_12
            refine lv_if_ne (tgt := 79) hx hb dX9_field_57 (by decide) (fun h9 => absurd h9 (by decide : ¬ (¬ (0 : Int32) = (0 : Int32)))) (fun _ => ?_)
            refine lv_aload_n hx hb dX9_field_60 rfl (lv_at hl 1 rfl) ?_
            refine va_get (D := D) (ci := 9) (v := .int (-1)) (C := RX9) (T := TX9) (N := 36) hx hb hts (by decide +kernel) hown hK hP 0 rfl rfl 7 (by decide) (hts (.fieldLink RX9 26 "CellarPushersModel" "man" "I") (by decide +kernel)) (fun _ h9 => h9) rfl dX9_field_61 ?_
            refine lv_iload hx hb dX9_field_64 (lv_at hl 0 rfl) ?_
            refine lv_icmp_eq (tgt := 79) hx hb dX9_field_66 (by decide) (fun h9 => absurd h9 (by have hq := hnum; exact fun h => q_ne1 (c := (-1)) (by decide) (by omega) h.symm)) (fun _ => ?_)
            refine lv_aload_n hx hb dX9_field_69 rfl (lv_at hl 1 rfl) ?_
            refine va_get (D := D) (ci := 9) (v := .ref wn) (C := RX9) (T := TX9) (N := 36) hx hb hts (by decide +kernel) hown hK hP 0 rfl rfl 6 (by decide) (hts (.fieldLink RX9 23 "CellarPushersModel" "wanted" "[Z") (by decide +kernel)) (fun _ h9 => h9) rfl dX9_field_70 ?_
            refine lv_iload hx hb dX9_field_73 (lv_at hl 0 rfl) ?_
            refine va_zald hx hb hK hP 4 1 rfl rfl (vp_in_nI (by have := hnum; omega) (by decide)) dX9_field_75 ?_
            refine lv_topi (fun z_13 ez_13 => ?_)
            obtain rfl : z_13 = 0 := ez_13
            refine lv_if_eq (tgt := 82) hx hb dX9_field_76 (by decide) (fun _ => ?_) (fun h9 => absurd (by decide : (0 : Int32) = (0 : Int32)) h9)
            refine lv_aload_n hx hb dX9_field_82 rfl (lv_at hl 1 rfl) ?_
            refine va_get (D := D) (ci := 9) (v := .ref kk) (C := RX9) (T := TX9) (N := 36) hx hb hts (by decide +kernel) hown hK hP 0 rfl rfl 2 (by decide) (hts (.fieldLink RX9 7 "CellarPushersModel" "kinds" "[I") (by decide +kernel)) (fun _ h9 => h9) rfl dX9_field_83 ?_
            refine lv_iload hx hb dX9_field_86 (lv_at hl 0 rfl) ?_
            refine va_iald hx hb hK hP 1 0 rfl rfl (vp_in_nI (by have := hnum; omega) (by decide)) dX9_field_88 ?_
            refine lv_topi (fun z_14 ez_14 => ?_)
            obtain rfl : z_14 = 0 := ez_14
            refine lv_istore (lv' := [(6, .int 0), (5, .int (nI num)), (0, .ref mo), (1, .int x), (2, .int y), (3, .int k), (4, .int v)]) hx hb dX9_field_89 hl (by decide) rfl (fun ls hl => ?_)
            refine lv_aload_n hx hb dX9_field_91 rfl (lv_at hl 2 rfl) ?_
            refine va_get (D := D) (ci := 9) (v := .ref kk) (C := RX9) (T := TX9) (N := 36) hx hb hts (by decide +kernel) hown hK hP 0 rfl rfl 2 (by decide) (hts (.fieldLink RX9 7 "CellarPushersModel" "kinds" "[I") (by decide +kernel)) (fun _ h9 => h9) rfl dX9_field_92 ?_
            refine lv_iload hx hb dX9_field_95 (lv_at hl 1 rfl) ?_
            refine lv_iload_n hx hb dX9_field_97 rfl (lv_at hl 5 rfl) ?_
            refine va_iast hx hb hK hP hD hS 1 0 rfl rfl (vp_in_nI (by have := hnum; omega) (by decide)) dX9_field_98 (fun H locs hP hD hS => ?_)
            have hP : va_P D vwCl [(mo, .inr (9, [.int (nI bw), .int (nI bh), .ref kk, .ref rp, .ref mi, .ref ba, .ref wn, .int (-1), .int 0, .int 0, .ref m1, .ref m2, .ref m3, .ref m4, .int 0, .int 0, .ref pl, .ref ta, .int 0, .int 0, .int (-1), .ref wa, .ref pz, .ref ih, .ref su, .ref th, .ref od, .ref fo, .ref co, .ref qu, .ref pa, .ref td, .ref wt, .ref il, .int 0, .int 0])), (kk, .inl (kI, 64, .inl (upd (fun _ => 0) (Int32.toNatClampNeg (nI num)) k))), (rp, .inl (kI, 64, .inl (fun _ => 0))), (ba, .inl (kZ, 64, .inl (fun _ => 0))), (wn, .inl (kZ, 64, .inl (fun _ => 0)))] H := hP
            have hD : va_D A [(mo, .inr (9, [.int (nI bw), .int (nI bh), .ref kk, .ref rp, .ref mi, .ref ba, .ref wn, .int (-1), .int 0, .int 0, .ref m1, .ref m2, .ref m3, .ref m4, .int 0, .int 0, .ref pl, .ref ta, .int 0, .int 0, .int (-1), .ref wa, .ref pz, .ref ih, .ref su, .ref th, .ref od, .ref fo, .ref co, .ref qu, .ref pa, .ref td, .ref wt, .ref il, .int 0, .int 0])), (kk, .inl (kI, 64, .inl (upd (fun _ => 0) (Int32.toNatClampNeg (nI num)) k))), (rp, .inl (kI, 64, .inl (fun _ => 0))), (ba, .inl (kZ, 64, .inl (fun _ => 0))), (wn, .inl (kZ, 64, .inl (fun _ => 0)))] := hD
            refine lv_aload_n hx hb dX9_field_99 rfl (lv_at hl 2 rfl) ?_
            refine va_get (D := D) (ci := 9) (v := .ref rp) (C := RX9) (T := TX9) (N := 36) hx hb hts (by decide +kernel) hown hK hP 0 rfl rfl 3 (by decide) (hts (.fieldLink RX9 13 "CellarPushersModel" "ramps" "[I") (by decide +kernel)) (fun _ h9 => h9) rfl dX9_field_100 ?_
            refine lv_iload hx hb dX9_field_103 (lv_at hl 1 rfl) ?_
            refine lv_iload hx hb dX9_field_105 (lv_at hl 6 rfl) ?_
            refine va_iast hx hb hK hP hD hS 2 0 rfl rfl (vp_in_nI (by have := hnum; omega) (by decide)) dX9_field_107 (fun H locs hP hD hS => ?_)
            have hP : va_P D vwCl [(mo, .inr (9, [.int (nI bw), .int (nI bh), .ref kk, .ref rp, .ref mi, .ref ba, .ref wn, .int (-1), .int 0, .int 0, .ref m1, .ref m2, .ref m3, .ref m4, .int 0, .int 0, .ref pl, .ref ta, .int 0, .int 0, .int (-1), .ref wa, .ref pz, .ref ih, .ref su, .ref th, .ref od, .ref fo, .ref co, .ref qu, .ref pa, .ref td, .ref wt, .ref il, .int 0, .int 0])), (kk, .inl (kI, 64, .inl (upd (fun _ => 0) (Int32.toNatClampNeg (nI num)) k))), (rp, .inl (kI, 64, .inl (upd (fun _ => 0) (Int32.toNatClampNeg (nI num)) v))), (ba, .inl (kZ, 64, .inl (fun _ => 0))), (wn, .inl (kZ, 64, .inl (fun _ => 0)))] H := hP
            have hD : va_D A [(mo, .inr (9, [.int (nI bw), .int (nI bh), .ref kk, .ref rp, .ref mi, .ref ba, .ref wn, .int (-1), .int 0, .int 0, .ref m1, .ref m2, .ref m3, .ref m4, .int 0, .int 0, .ref pl, .ref ta, .int 0, .int 0, .int (-1), .ref wa, .ref pz, .ref ih, .ref su, .ref th, .ref od, .ref fo, .ref co, .ref qu, .ref pa, .ref td, .ref wt, .ref il, .int 0, .int 0])), (kk, .inl (kI, 64, .inl (upd (fun _ => 0) (Int32.toNatClampNeg (nI num)) k))), (rp, .inl (kI, 64, .inl (upd (fun _ => 0) (Int32.toNatClampNeg (nI num)) v))), (ba, .inl (kZ, 64, .inl (fun _ => 0))), (wn, .inl (kZ, 64, .inl (fun _ => 0)))] := hD
            refine lv_aload_n hx hb dX9_field_108 rfl (lv_at hl 2 rfl) ?_
            refine qc_v (wr := [(kk, .inl (kI, 64, .inl (upd (fun _ => 0) (Int32.toNatClampNeg (nI num)) k))), (rp, .inl (kI, 64, .inl (upd (fun _ => 0) (Int32.toNatClampNeg (nI num)) v))), (ba, .inl (kZ, 64, .inl (fun _ => 0))), (wn, .inl (kZ, 64, .inl (fun _ => 0)))]) (qV_W (n := 0) (As := []) (rest := []) (wc := [(mo, .inr (9, [.int (nI bw), .int (nI bh), .ref kk, .ref rp, .ref mi, .ref ba, .ref wn, .int (-1), .int 0, .int 0, .ref m1, .ref m2, .ref m3, .ref m4, .int 0, .int 0, .ref pl, .ref ta, .int 0, .int 0, .int (-1), .ref wa, .ref pz, .ref ih, .ref su, .ref th, .ref od, .ref fo, .ref co, .ref qu, .ref pa, .ref td, .ref wt, .ref il, .int 0, .int 0]))]) ⟨hx, hb, hml, hown, hts⟩ hK hN hP hD [0] rfl rfl (by decide) (k_X9_forget l D kI kZ kJ mo kk rp mi ba wn m1 m2 m3 m4 pl ta wa pz ih su th od fo co qu pa td wt il bw bh hbw hbh H.size) gX9_field_X9_forget rfl rfl rfl (by decide +kernel) ⟨(Nat.le_of_ble_eq_true rfl), (Nat.le_of_ble_eq_true rfl)⟩ 0 9 rfl rfl rfl rfl hl.1 rfl (Nat.le_of_ble_eq_true rfl) dX9_field_109 ⟨(Nat.le_of_ble_eq_true rfl), (Nat.le_of_ble_eq_true rfl)⟩) hP hD hS hA [0] [1, 2, 3, 4] rfl rfl (by decide) (by decide) (fun u H locs hw hP hD hS => ?_)
            have hP : va_P D vwCl [(kk, .inl (kI, 64, .inl (upd (fun _ => 0) (Int32.toNatClampNeg (nI num)) k))), (rp, .inl (kI, 64, .inl (upd (fun _ => 0) (Int32.toNatClampNeg (nI num)) v))), (ba, .inl (kZ, 64, .inl (fun _ => 0))), (wn, .inl (kZ, 64, .inl (fun _ => 0)))] H := hP
            have hD : va_D A [(kk, .inl (kI, 64, .inl (upd (fun _ => 0) (Int32.toNatClampNeg (nI num)) k))), (rp, .inl (kI, 64, .inl (upd (fun _ => 0) (Int32.toNatClampNeg (nI num)) v))), (ba, .inl (kZ, 64, .inl (fun _ => 0))), (wn, .inl (kZ, 64, .inl (fun _ => 0)))] := hD
            refine lv_iload hx hb dX9_field_112 (lv_at hl 0 rfl) ?_
            have hP9 := hP.sub (ws' := []) [] rfl
            have hD9 := hD.sub (ws' := []) [] (by decide) rfl
            exact W.iret (v := 0) hx hb hr (fun t ht hW => ⟨⟨_, (), rfl, (by first | exact q_ift ⟨hin, by assumption, by first | assumption | exact Int32.not_lt.mp (by assumption), fun _ => by assumption, fun h => absurd (by assumption) h⟩ | exact q_ift ⟨hin, by assumption, by first | assumption | exact Int32.not_lt.mp (by assumption), fun h => absurd h (by assumption), fun _ => by assumption⟩ | exact q_iff (fun h => by obtain ⟨h1, h2, h3, h4, h5⟩ := h; first | contradiction | exact absurd (h4 (by assumption)) (by assumption) | exact absurd (h5 (by assumption)) (by assumption) | exact absurd h3 (Int32.not_le.mpr (by assumption)) | exact absurd (Int32.not_lt.mp (by assumption)) (by assumption))), ⟨by rw [ht]; exact hP9, hD9⟩⟩, hS.F ht⟩) hS.2.2 dX9_field_114
          · skip
            refine lv_if_ne (tgt := 42) hx hb dX9_field_28 (by decide) (fun h9 => absurd h9 (by decide : ¬ (¬ (0 : Int32) = (0 : Int32)))) (fun _ => ?_)
            refine lv_goto (tgt := 39) hx hb dX9_field_31 (by decide) ?_
            refine lv_bipush (v := (-2)) hx hb dX9_field_39 (by decide) ?_
            have hP9 := hP.sub (ws' := []) [] rfl
            have hD9 := hD.sub (ws' := []) [] (by decide) rfl
            exact W.iret (v := (-2)) hx hb hr (fun t ht hW => ⟨⟨_, (), rfl, (by first | exact q_ift ⟨hin, by assumption, by first | assumption | exact Int32.not_lt.mp (by assumption), fun _ => by assumption, fun h => absurd (by assumption) h⟩ | exact q_ift ⟨hin, by assumption, by first | assumption | exact Int32.not_lt.mp (by assumption), fun h => absurd h (by assumption), fun _ => by assumption⟩ | exact q_iff (fun h => by obtain ⟨h1, h2, h3, h4, h5⟩ := h; first | contradiction | exact absurd (h4 (by assumption)) (by assumption) | exact absurd (h5 (by assumption)) (by assumption) | exact absurd h3 (Int32.not_le.mpr (by assumption)) | exact absurd (Int32.not_lt.mp (by assumption)) (by assumption))), ⟨by rw [ht]; exact hP9, hD9⟩⟩, hS.F ht⟩) hS.2.2 dX9_field_41
  · skip
    refine lv_if_eq (tgt := 39) hx hb dX9_field_6 (by decide) (fun _ => ?_) (fun h9 => absurd (by decide : (0 : Int32) = (0 : Int32)) h9)
    refine lv_bipush (v := (-2)) hx hb dX9_field_39 (by decide) ?_
    have hP9 := hP.sub (ws' := []) [] rfl
    have hD9 := hD.sub (ws' := []) [] (by decide) rfl
    exact W.iret (v := (-2)) hx hb hr (fun t ht hW => ⟨⟨_, (), rfl, (by first | exact q_ift ⟨hin, by assumption, by first | assumption | exact Int32.not_lt.mp (by assumption), fun _ => by assumption, fun h => absurd (by assumption) h⟩ | exact q_ift ⟨hin, by assumption, by first | assumption | exact Int32.not_lt.mp (by assumption), fun h => absurd h (by assumption), fun _ => by assumption⟩ | exact q_iff (fun h => by obtain ⟨h1, h2, h3, h4, h5⟩ := h; first | contradiction | exact absurd (h4 (by assumption)) (by assumption) | exact absurd (h5 (by assumption)) (by assumption) | exact absurd h3 (Int32.not_le.mpr (by assumption)) | exact absurd (Int32.not_lt.mp (by assumption)) (by assumption))), ⟨by rw [ht]; exact hP9, hD9⟩⟩, hS.F ht⟩) hS.2.2 dX9_field_41
set_option maxHeartbeats 4000000 in
set_option maxRecDepth 100000 in
theorem k_X9_line (l : Launch) (D : va_G) (kI kZ kJ : ClassId)  (mo kk rp mi ba wn m1 m2 m3 m4 pl ta wa pz ih su th od fo co qu pa td wt il : Nat) (bw bh : Nat) (hbw : bw ≤ 8) (hbh : bh ≤ 8) (y v : Int32) (sz : Nat) : Met l yX9_line wsX9_line ({ frames := 1, cells := 0, slots := 0, locals := 20 }) (qW D kI kZ kJ [(mo, .inr (9, [.int (nI bw), .int (nI bh), .ref kk, .ref rp, .ref mi, .ref ba, .ref wn, .int (-1), .int 0, .int 0, .ref m1, .ref m2, .ref m3, .ref m4, .int 0, .int 0, .ref pl, .ref ta, .int 0, .int 0, .int (-1), .ref wa, .ref pz, .ref ih, .ref su, .ref th, .ref od, .ref fo, .ref co, .ref qu, .ref pa, .ref td, .ref wt, .ref il, .int 0, .int 0])), (mi, .inl (kZ, 8, .inl (fun _ => 0))), (ba, .inl (kZ, 64, .inl (fun _ => 0))), (wn, .inl (kZ, 64, .inl (fun _ => 0)))] sz [.ref mo, .int y, .int v]) (va_Qi (fun (r : Int32) (u : Unit) => q_if (q_rowP bh y) 0 (-2) r) (qB D (fun u : Unit => []) (va_A [(mo, .inr (9, [.int (nI bw), .int (nI bh), .ref kk, .ref rp, .ref mi, .ref ba, .ref wn, .int (-1), .int 0, .int 0, .ref m1, .ref m2, .ref m3, .ref m4, .int 0, .int 0, .ref pl, .ref ta, .int 0, .int 0, .int (-1), .ref wa, .ref pz, .ref ih, .ref su, .ref th, .ref od, .ref fo, .ref co, .ref qu, .ref pa, .ref td, .ref wt, .ref il, .int 0, .int 0])), (mi, .inl (kZ, 8, .inl (fun _ => 0))), (ba, .inl (kZ, 64, .inl (fun _ => 0))), (wn, .inl (kZ, 64, .inl (fun _ => 0)))] sz)) (va_A [(mo, .inr (9, [.int (nI bw), .int (nI bh), .ref kk, .ref rp, .ref mi, .ref ba, .ref wn, .int (-1), .int 0, .int 0, .ref m1, .ref m2, .ref m3, .ref m4, .int 0, .int 0, .ref pl, .ref ta, .int 0, .int 0, .int (-1), .ref wa, .ref pz, .ref ih, .ref su, .ref th, .ref od, .ref fo, .ref co, .ref qu, .ref pa, .ref td, .ref wt, .ref il, .int 0, .int 0])), (mi, .inl (kZ, 8, .inl (fun _ => 0))), (ba, .inl (kZ, 64, .inl (fun _ => 0))), (wn, .inl (kZ, 64, .inl (fun _ => 0)))] sz)) 0 0 (va_A [(mo, .inr (9, [.int (nI bw), .int (nI bh), .ref kk, .ref rp, .ref mi, .ref ba, .ref wn, .int (-1), .int 0, .int 0, .ref m1, .ref m2, .ref m3, .ref m4, .int 0, .int 0, .ref pl, .ref ta, .int 0, .int 0, .int (-1), .ref wa, .ref pz, .ref ih, .ref su, .ref th, .ref od, .ref fo, .ref co, .ref qu, .ref pa, .ref td, .ref wt, .ref il, .int 0, .int 0])), (mi, .inl (kZ, 8, .inl (fun _ => 0))), (ba, .inl (kZ, 64, .inl (fun _ => 0))), (wn, .inl (kZ, 64, .inl (fun _ => 0)))] sz) := by
  refine Met.ofW (cc := cX9_line) (maxL := 4) (ret := (some .int)) (by decide) rfl ?_
  intro p e s m args below meth c s₁ B hml hv
  obtain ⟨rfl, hsz, hP, hK, hD0, hN⟩ := hv
  have hx := B.exec
  have hb := B.bytes
  have hr := B.returns
  have hts := atoms_spec (ws := wsX9_line) B.pre
  have hown : s.vm.findClass RX9 = some m.cls := findClass_of_methodNamed B.named
  have hlocks := B.notSynchronized
  subst hsz
  have hD := hD0.self (sz := s.heap.size)
  generalize hAe : va_A [(mo, .inr (9, [.int (nI bw), .int (nI bh), .ref kk, .ref rp, .ref mi, .ref ba, .ref wn, .int (-1), .int 0, .int 0, .ref m1, .ref m2, .ref m3, .ref m4, .int 0, .int 0, .ref pl, .ref ta, .int 0, .int 0, .int (-1), .ref wa, .ref pz, .ref ih, .ref su, .ref th, .ref od, .ref fo, .ref co, .ref qu, .ref pa, .ref td, .ref wt, .ref il, .int 0, .int 0])), (mi, .inl (kZ, 8, .inl (fun _ => 0))), (ba, .inl (kZ, 64, .inl (fun _ => 0))), (wn, .inl (kZ, 64, .inl (fun _ => 0)))] s.heap.size = A at hD ⊢
  have hA : ∀ q : Nat, s.heap.size ≤ q → A q := fun q h => by rw [← hAe]; exact Or.inr h
  have hS : va_S A s.heap s.heap [] := va_S.rf
  have hP : va_P D vwCl [(mo, .inr (9, [.int (nI bw), .int (nI bh), .ref kk, .ref rp, .ref mi, .ref ba, .ref wn, .int (-1), .int 0, .int 0, .ref m1, .ref m2, .ref m3, .ref m4, .int 0, .int 0, .ref pl, .ref ta, .int 0, .int 0, .int (-1), .ref wa, .ref pz, .ref ih, .ref su, .ref th, .ref od, .ref fo, .ref co, .ref qu, .ref pa, .ref td, .ref wt, .ref il, .int 0, .int 0])), (mi, .inl (kZ, 8, .inl (fun _ => 0))), (ba, .inl (kZ, 64, .inl (fun _ => 0))), (wn, .inl (kZ, 64, .inl (fun _ => 0)))] s.heap := hP
  have hl := lv_entry ([.ref mo, .int y, .int v]) (n := 4) (Nat.le_of_ble_eq_true rfl)
  rw [lg_entry_eq]
  generalize (lg_sl ([.ref mo, .int y, .int v]) ++ List.replicate (4 - (lg_sl ([.ref mo, .int y, .int v])).length) Slot.unset).toArray = ls at hl ⊢
  have hl : lv_has ls 4 [(0, .ref mo), (1, .int y), (2, .int v)] := hl
  refine lv_iload_n hx hb dX9_line_0 rfl (lv_at hl 1 rfl) ?_
  refine lv_if_lt (tgt := 12) hx hb dX9_line_1 (by decide) (fun c_1 => ?_) (fun c_1 => ?_)
  · skip
    refine lv_bipush (v := (-2)) hx hb dX9_line_12 (by decide) ?_
    have hP9 := hP.sub (ws' := []) [] rfl
    have hD9 := hD.sub (ws' := []) [] (by decide) rfl
    exact W.iret (v := (-2)) hx hb hr (fun t ht hW => ⟨⟨_, (), rfl, (by first | exact q_ift hrow | exact q_iff (fun h => by obtain ⟨h1, h2⟩ := h; contradiction)), ⟨by rw [ht]; exact hP9, hD9⟩⟩, hS.F ht⟩) hS.2.2 dX9_line_14
  · skip
    refine lv_iload_n hx hb dX9_line_4 rfl (lv_at hl 1 rfl) ?_
    refine lv_aload_n hx hb dX9_line_5 rfl (lv_at hl 0 rfl) ?_
    refine va_get (D := D) (ci := 9) (v := .int (nI bh)) (C := RX9) (T := TX9) (N := 36) hx hb hts (by decide +kernel) hown hK hP 0 rfl rfl 1 (by decide) (hts (.fieldLink RX9 95 "CellarPushersModel" "height" "I") (by decide +kernel)) (fun _ h9 => h9) rfl dX9_line_6 ?_
    refine lv_icmp_lt (tgt := 15) hx hb dX9_line_9 (by decide) (fun c_2 => ?_) (fun c_2 => ?_)
    · skip
      have hrow : q_rowP bh y := ⟨by assumption, by assumption⟩
      obtain ⟨k, hk, rfl⟩ := q_row hbh hrow.1 hrow.2
      refine lv_bipush (v := 8) hx hb dX9_line_15 (by decide) ?_
      refine lv_iload_n hx hb dX9_line_17 rfl (lv_at hl 1 rfl) ?_
      refine lv_imul hx hb dX9_line_18 ?_
      refine lv_topi (fun z_3 ez_3 => ?_)
      obtain rfl : z_3 = nI (8 * k) := ez_3.trans (pk_mul 8 k)
      refine lv_istore_n (lv' := [(3, .int (nI (8 * k))), (0, .ref mo), (1, .int (nI k)), (2, .int v)]) hx hb dX9_line_19 rfl hl (by decide) rfl (fun ls hl => ?_)
      obtain ⟨i20, hk20, hl20⟩ : ∃ i20 : Nat, i20 ≤ 8 * k + 8 ∧ lv_has ls 4 [(3, .int (nI i20)), (0, .ref mo), (1, .int (nI k)), (2, .int v)] := ⟨(8 * k), by omega, hl⟩
      clear hl
      have hl := hl20
      clear hl20
      obtain ⟨f20, hf20⟩ : ∃ f20 : Nat, 8 * k + 8 < i20 + f20 := ⟨8 * k + 8 + 1, by omega⟩
      induction f20 generalizing i20 ls with
      | zero => exact absurd hf20 (by omega)
      | succ f20 ih20 =>
        refine lv_iload_n hx hb dX9_line_20 rfl (lv_at hl 0 rfl) ?_
        refine lv_bipush (v := 8) hx hb dX9_line_21 (by decide) ?_
        refine lv_iload_n hx hb dX9_line_23 rfl (lv_at hl 2 rfl) ?_
        refine lv_imul hx hb dX9_line_24 ?_
        refine lv_topi (fun z_4 ez_4 => ?_)
        obtain rfl : z_4 = nI (8 * k) := ez_4.trans (pk_mul 8 k)
        refine lv_bipush (v := 8) hx hb dX9_line_25 (by decide) ?_
        refine lv_iadd hx hb dX9_line_27 ?_
        refine lv_topi (fun z_5 ez_5 => ?_)
        obtain rfl : z_5 = nI ((8 * k) + 8) := ez_5.trans (nI_add (8 * k) 8)
        refine lv_icmp_ge (tgt := 66) hx hb dX9_line_28 (by decide) (fun c_6 => ?_) (fun c_6 => ?_)
        · skip
          have hi20 : i20 = 8 * k + 8 := by have := (nI_leI (a := 8 * k + 8) (b := i20) (by omega) (by omega)).mp c_6; omega
          refine lv_aload_n hx hb dX9_line_66 rfl (lv_at hl 1 rfl) ?_
          refine va_get (D := D) (ci := 9) (v := .ref mi) (C := RX9) (T := TX9) (N := 36) hx hb hts (by decide +kernel) hown hK hP 0 rfl rfl 4 (by decide) (hts (.fieldLink RX9 16 "CellarPushersModel" "missing" "[Z") (by decide +kernel)) (fun _ h9 => h9) rfl dX9_line_67 ?_
          refine lv_iload_n hx hb dX9_line_70 rfl (lv_at hl 2 rfl) ?_
          refine va_zald hx hb hK hP 1 1 rfl rfl (vp_in_nI (by have := (Nat.lt_of_lt_of_le hk hbh); omega) (by decide)) dX9_line_71 ?_
          refine lv_topi (fun z_7 ez_7 => ?_)
          obtain rfl : z_7 = 0 := ez_7
          refine lv_istore_n (lv' := [(3, .int 0), (0, .ref mo), (1, .int (nI k)), (2, .int v)]) hx hb dX9_line_72 rfl hl (by decide) rfl (fun ls hl => ?_)
          refine lv_aload_n hx hb dX9_line_73 rfl (lv_at hl 1 rfl) ?_
          refine va_get (D := D) (ci := 9) (v := .ref mi) (C := RX9) (T := TX9) (N := 36) hx hb hts (by decide +kernel) hown hK hP 0 rfl rfl 4 (by decide) (hts (.fieldLink RX9 16 "CellarPushersModel" "missing" "[Z") (by decide +kernel)) (fun _ h9 => h9) rfl dX9_line_74 ?_
          refine lv_iload_n hx hb dX9_line_77 rfl (lv_at hl 2 rfl) ?_
          refine lv_iload_n hx hb dX9_line_78 rfl (lv_at hl 3 rfl) ?_
          refine va_zast hx hb hK hP hD hS 1 1 rfl rfl (vp_in_nI (by have := (Nat.lt_of_lt_of_le hk hbh); omega) (by decide)) dX9_line_79 (fun H locs hP hD hS => ?_)
          have hP : va_P D vwCl [(mo, .inr (9, [.int (nI bw), .int (nI bh), .ref kk, .ref rp, .ref mi, .ref ba, .ref wn, .int (-1), .int 0, .int 0, .ref m1, .ref m2, .ref m3, .ref m4, .int 0, .int 0, .ref pl, .ref ta, .int 0, .int 0, .int (-1), .ref wa, .ref pz, .ref ih, .ref su, .ref th, .ref od, .ref fo, .ref co, .ref qu, .ref pa, .ref td, .ref wt, .ref il, .int 0, .int 0])), (mi, .inl (kZ, 8, .inl (upd (fun _ => 0) (Int32.toNatClampNeg (nI k)) (vp_nar .boolean v)))), (ba, .inl (kZ, 64, .inl (fun _ => 0))), (wn, .inl (kZ, 64, .inl (fun _ => 0)))] H := hP
          have hD : va_D A [(mo, .inr (9, [.int (nI bw), .int (nI bh), .ref kk, .ref rp, .ref mi, .ref ba, .ref wn, .int (-1), .int 0, .int 0, .ref m1, .ref m2, .ref m3, .ref m4, .int 0, .int 0, .ref pl, .ref ta, .int 0, .int 0, .int (-1), .ref wa, .ref pz, .ref ih, .ref su, .ref th, .ref od, .ref fo, .ref co, .ref qu, .ref pa, .ref td, .ref wt, .ref il, .int 0, .int 0])), (mi, .inl (kZ, 8, .inl (upd (fun _ => 0) (Int32.toNatClampNeg (nI k)) (vp_nar .boolean v)))), (ba, .inl (kZ, 64, .inl (fun _ => 0))), (wn, .inl (kZ, 64, .inl (fun _ => 0)))] := hD
          refine lv_aload_n hx hb dX9_line_80 rfl (lv_at hl 1 rfl) ?_
          refine qc_v (wr := [(mi, .inl (kZ, 8, .inl (upd (fun _ => 0) (Int32.toNatClampNeg (nI k)) (vp_nar .boolean v)))), (ba, .inl (kZ, 64, .inl (fun _ => 0))), (wn, .inl (kZ, 64, .inl (fun _ => 0)))]) (qV_W (n := 0) (As := []) (rest := []) (wc := [(mo, .inr (9, [.int (nI bw), .int (nI bh), .ref kk, .ref rp, .ref mi, .ref ba, .ref wn, .int (-1), .int 0, .int 0, .ref m1, .ref m2, .ref m3, .ref m4, .int 0, .int 0, .ref pl, .ref ta, .int 0, .int 0, .int (-1), .ref wa, .ref pz, .ref ih, .ref su, .ref th, .ref od, .ref fo, .ref co, .ref qu, .ref pa, .ref td, .ref wt, .ref il, .int 0, .int 0]))]) ⟨hx, hb, hml, hown, hts⟩ hK hN hP hD [0] rfl rfl (by decide) (k_X9_forget l D kI kZ kJ mo kk rp mi ba wn m1 m2 m3 m4 pl ta wa pz ih su th od fo co qu pa td wt il bw bh hbw hbh H.size) gX9_line_X9_forget rfl rfl rfl (by decide +kernel) ⟨(Nat.le_of_ble_eq_true rfl), (Nat.le_of_ble_eq_true rfl)⟩ 0 9 rfl rfl rfl rfl hl.1 rfl (Nat.le_of_ble_eq_true rfl) dX9_line_81 ⟨(Nat.le_of_ble_eq_true rfl), (Nat.le_of_ble_eq_true rfl)⟩) hP hD hS hA [0] [1, 2, 3] rfl rfl (by decide) (by decide) (fun u H locs hw hP hD hS => ?_)
          have hP : va_P D vwCl [(mi, .inl (kZ, 8, .inl (upd (fun _ => 0) (Int32.toNatClampNeg (nI k)) (vp_nar .boolean v)))), (ba, .inl (kZ, 64, .inl (fun _ => 0))), (wn, .inl (kZ, 64, .inl (fun _ => 0)))] H := hP
          have hD : va_D A [(mi, .inl (kZ, 8, .inl (upd (fun _ => 0) (Int32.toNatClampNeg (nI k)) (vp_nar .boolean v)))), (ba, .inl (kZ, 64, .inl (fun _ => 0))), (wn, .inl (kZ, 64, .inl (fun _ => 0)))] := hD
          refine lv_iload_n hx hb dX9_line_84 rfl (lv_at hl 0 rfl) ?_
          refine lv_if_eq (tgt := 92) hx hb dX9_line_85 (by decide) (fun _ => ?_) (fun h9 => absurd (by decide : (0 : Int32) = (0 : Int32)) h9)
          refine lv_iconst (v := 0) hx hb dX9_line_92 (by decide) ?_
          have hP9 := hP.sub (ws' := []) [] rfl
          have hD9 := hD.sub (ws' := []) [] (by decide) rfl
          exact W.iret (v := 0) hx hb hr (fun t ht hW => ⟨⟨_, (), rfl, (by first | exact q_ift hrow | exact q_iff (fun h => by obtain ⟨h1, h2⟩ := h; contradiction)), ⟨by rw [ht]; exact hP9, hD9⟩⟩, hS.F ht⟩) hS.2.2 dX9_line_93
        · skip
          have hi20 : i20 < 8 * k + 8 := by have := mt (nI_leI (a := 8 * k + 8) (b := i20) (by omega) (by omega)).mpr c_6; omega
          refine lv_aload_n hx hb dX9_line_31 rfl (lv_at hl 1 rfl) ?_
          refine va_get (D := D) (ci := 9) (v := .ref ba) (C := RX9) (T := TX9) (N := 36) hx hb hts (by decide +kernel) hown hK hP 0 rfl rfl 5 (by decide) (hts (.fieldLink RX9 20 "CellarPushersModel" "barrels" "[Z") (by decide +kernel)) (fun _ h9 => h9) rfl dX9_line_32 ?_
          refine lv_iload_n hx hb dX9_line_35 rfl (lv_at hl 0 rfl) ?_
          refine va_zald hx hb hK hP 2 1 rfl rfl (vp_in_nI (by have := hi20; omega) (by decide)) dX9_line_36 ?_
          refine lv_topi (fun z_9 ez_9 => ?_)
          obtain rfl : z_9 = 0 := ez_9
          refine lv_if_ne (tgt := 57) hx hb dX9_line_37 (by decide) (fun h9 => absurd h9 (by decide : ¬ (¬ (0 : Int32) = (0 : Int32)))) (fun _ => ?_)
          refine lv_aload_n hx hb dX9_line_40 rfl (lv_at hl 1 rfl) ?_
          refine va_get (D := D) (ci := 9) (v := .int (-1)) (C := RX9) (T := TX9) (N := 36) hx hb hts (by decide +kernel) hown hK hP 0 rfl rfl 7 (by decide) (hts (.fieldLink RX9 26 "CellarPushersModel" "man" "I") (by decide +kernel)) (fun _ h9 => h9) rfl dX9_line_41 ?_
          refine lv_iload_n hx hb dX9_line_44 rfl (lv_at hl 0 rfl) ?_
          refine lv_icmp_eq (tgt := 57) hx hb dX9_line_45 (by decide) (fun h9 => absurd h9 (by have hq := hi20; exact fun h => q_ne1 (c := (-1)) (by decide) (by omega) h.symm)) (fun _ => ?_)
          refine lv_aload_n hx hb dX9_line_48 rfl (lv_at hl 1 rfl) ?_
          refine va_get (D := D) (ci := 9) (v := .ref wn) (C := RX9) (T := TX9) (N := 36) hx hb hts (by decide +kernel) hown hK hP 0 rfl rfl 6 (by decide) (hts (.fieldLink RX9 23 "CellarPushersModel" "wanted" "[Z") (by decide +kernel)) (fun _ h9 => h9) rfl dX9_line_49 ?_
          refine lv_iload_n hx hb dX9_line_52 rfl (lv_at hl 0 rfl) ?_
          refine va_zald hx hb hK hP 3 1 rfl rfl (vp_in_nI (by have := hi20; omega) (by decide)) dX9_line_53 ?_
          refine lv_topi (fun z_10 ez_10 => ?_)
          obtain rfl : z_10 = 0 := ez_10
          refine lv_if_eq (tgt := 60) hx hb dX9_line_54 (by decide) (fun _ => ?_) (fun h9 => absurd (by decide : (0 : Int32) = (0 : Int32)) h9)
          refine lv_iinc (v := (nI (i20 + 1))) (lv' := [(3, .int (nI (i20 + 1))), (0, .ref mo), (1, .int (nI k)), (2, .int v)]) hx hb dX9_line_60 hl (k := 0) rfl (q_inc _) (by decide) rfl (fun ls hl => ?_)
          refine lv_goto (tgt := 20) hx hb dX9_line_63 (by decide) ?_
          exact ih20 (i20 := (i20 + 1)) (ls := ls) (hk20 := by omega) (hl := lv_sub hl [0, 1, 2, 3] rfl) (hf20 := by omega)
    · skip
      refine lv_bipush (v := (-2)) hx hb dX9_line_12 (by decide) ?_
      have hP9 := hP.sub (ws' := []) [] rfl
      have hD9 := hD.sub (ws' := []) [] (by decide) rfl
      exact W.iret (v := (-2)) hx hb hr (fun t ht hW => ⟨⟨_, (), rfl, (by first | exact q_ift hrow | exact q_iff (fun h => by obtain ⟨h1, h2⟩ := h; contradiction)), ⟨by rw [ht]; exact hP9, hD9⟩⟩, hS.F ht⟩) hS.2.2 dX9_line_14
set_option maxHeartbeats 4000000 in
set_option maxRecDepth 100000 in
theorem k_X9_barrel (l : Launch) (D : va_G) (kI kZ kJ : ClassId)  (mo kk rp mi ba wn m1 m2 m3 m4 pl ta wa pz ih su th od fo co qu pa td wt il : Nat) (bw bh : Nat) (hbw : bw ≤ 8) (hbh : bh ≤ 8) (x y v : Int32) (sz : Nat) : Met l yX9_barrel wsX9_barrel ({ frames := 1, cells := 0, slots := 0, locals := 22 }) (qW D kI kZ kJ [(mo, .inr (9, [.int (nI bw), .int (nI bh), .ref kk, .ref rp, .ref mi, .ref ba, .ref wn, .int (-1), .int 0, .int 0, .ref m1, .ref m2, .ref m3, .ref m4, .int 0, .int 0, .ref pl, .ref ta, .int 0, .int 0, .int (-1), .ref wa, .ref pz, .ref ih, .ref su, .ref th, .ref od, .ref fo, .ref co, .ref qu, .ref pa, .ref td, .ref wt, .ref il, .int 0, .int 0])), (kk, .inl (kI, 64, .inl (fun _ => 0))), (mi, .inl (kZ, 8, .inl (fun _ => 0))), (ba, .inl (kZ, 64, .inl (fun _ => 0)))] sz [.ref mo, .int x, .int y, .int v]) (va_Qi (fun (r : Int32) (u : Unit) => q_if (q_in bw bh x y ∧ v = 0) 0 (-2) r) (qB D (fun u : Unit => []) (va_A [(mo, .inr (9, [.int (nI bw), .int (nI bh), .ref kk, .ref rp, .ref mi, .ref ba, .ref wn, .int (-1), .int 0, .int 0, .ref m1, .ref m2, .ref m3, .ref m4, .int 0, .int 0, .ref pl, .ref ta, .int 0, .int 0, .int (-1), .ref wa, .ref pz, .ref ih, .ref su, .ref th, .ref od, .ref fo, .ref co, .ref qu, .ref pa, .ref td, .ref wt, .ref il, .int 0, .int 0])), (kk, .inl (kI, 64, .inl (fun _ => 0))), (mi, .inl (kZ, 8, .inl (fun _ => 0))), (ba, .inl (kZ, 64, .inl (fun _ => 0)))] sz)) (va_A [(mo, .inr (9, [.int (nI bw), .int (nI bh), .ref kk, .ref rp, .ref mi, .ref ba, .ref wn, .int (-1), .int 0, .int 0, .ref m1, .ref m2, .ref m3, .ref m4, .int 0, .int 0, .ref pl, .ref ta, .int 0, .int 0, .int (-1), .ref wa, .ref pz, .ref ih, .ref su, .ref th, .ref od, .ref fo, .ref co, .ref qu, .ref pa, .ref td, .ref wt, .ref il, .int 0, .int 0])), (kk, .inl (kI, 64, .inl (fun _ => 0))), (mi, .inl (kZ, 8, .inl (fun _ => 0))), (ba, .inl (kZ, 64, .inl (fun _ => 0)))] sz)) 0 0 (va_A [(mo, .inr (9, [.int (nI bw), .int (nI bh), .ref kk, .ref rp, .ref mi, .ref ba, .ref wn, .int (-1), .int 0, .int 0, .ref m1, .ref m2, .ref m3, .ref m4, .int 0, .int 0, .ref pl, .ref ta, .int 0, .int 0, .int (-1), .ref wa, .ref pz, .ref ih, .ref su, .ref th, .ref od, .ref fo, .ref co, .ref qu, .ref pa, .ref td, .ref wt, .ref il, .int 0, .int 0])), (kk, .inl (kI, 64, .inl (fun _ => 0))), (mi, .inl (kZ, 8, .inl (fun _ => 0))), (ba, .inl (kZ, 64, .inl (fun _ => 0)))] sz) := by
  refine Met.ofW (cc := cX9_barrel) (maxL := 6) (ret := (some .int)) (by decide) rfl ?_
  intro p e s m args below meth c s₁ B hml hv
  obtain ⟨rfl, hsz, hP, hK, hD0, hN⟩ := hv
  have hx := B.exec
  have hb := B.bytes
  have hr := B.returns
  have hts := atoms_spec (ws := wsX9_barrel) B.pre
  have hown : s.vm.findClass RX9 = some m.cls := findClass_of_methodNamed B.named
  have hlocks := B.notSynchronized
  subst hsz
  have hD := hD0.self (sz := s.heap.size)
  generalize hAe : va_A [(mo, .inr (9, [.int (nI bw), .int (nI bh), .ref kk, .ref rp, .ref mi, .ref ba, .ref wn, .int (-1), .int 0, .int 0, .ref m1, .ref m2, .ref m3, .ref m4, .int 0, .int 0, .ref pl, .ref ta, .int 0, .int 0, .int (-1), .ref wa, .ref pz, .ref ih, .ref su, .ref th, .ref od, .ref fo, .ref co, .ref qu, .ref pa, .ref td, .ref wt, .ref il, .int 0, .int 0])), (kk, .inl (kI, 64, .inl (fun _ => 0))), (mi, .inl (kZ, 8, .inl (fun _ => 0))), (ba, .inl (kZ, 64, .inl (fun _ => 0)))] s.heap.size = A at hD ⊢
  have hA : ∀ q : Nat, s.heap.size ≤ q → A q := fun q h => by rw [← hAe]; exact Or.inr h
  have hS : va_S A s.heap s.heap [] := va_S.rf
  have hP : va_P D vwCl [(mo, .inr (9, [.int (nI bw), .int (nI bh), .ref kk, .ref rp, .ref mi, .ref ba, .ref wn, .int (-1), .int 0, .int 0, .ref m1, .ref m2, .ref m3, .ref m4, .int 0, .int 0, .ref pl, .ref ta, .int 0, .int 0, .int (-1), .ref wa, .ref pz, .ref ih, .ref su, .ref th, .ref od, .ref fo, .ref co, .ref qu, .ref pa, .ref td, .ref wt, .ref il, .int 0, .int 0])), (kk, .inl (kI, 64, .inl (fun _ => 0))), (mi, .inl (kZ, 8, .inl (fun _ => 0))), (ba, .inl (kZ, 64, .inl (fun _ => 0)))] s.heap := hP
  have hl := lv_entry ([.ref mo, .int x, .int y, .int v]) (n := 6) (Nat.le_of_ble_eq_true rfl)
  rw [lg_entry_eq]
  generalize (lg_sl ([.ref mo, .int x, .int y, .int v]) ++ List.replicate (6 - (lg_sl ([.ref mo, .int x, .int y, .int v])).length) Slot.unset).toArray = ls at hl ⊢
  have hl : lv_has ls 6 [(0, .ref mo), (1, .int x), (2, .int y), (3, .int v)] := hl
  refine lv_aload_n hx hb dX9_barrel_0 rfl (lv_at hl 0 rfl) ?_
  refine lv_iload_n hx hb dX9_barrel_1 rfl (lv_at hl 1 rfl) ?_
  refine lv_iload_n hx hb dX9_barrel_2 rfl (lv_at hl 2 rfl) ?_
  refine vp_callSi (qV_R (n := 2) (As := [.int x, .int y]) (rest := []) (wc := [(mo, .inr (9, [.int (nI bw), .int (nI bh), .ref kk, .ref rp, .ref mi, .ref ba, .ref wn, .int (-1), .int 0, .int 0, .ref m1, .ref m2, .ref m3, .ref m4, .int 0, .int 0, .ref pl, .ref ta, .int 0, .int 0, .int (-1), .ref wa, .ref pz, .ref ih, .ref su, .ref th, .ref od, .ref fo, .ref co, .ref qu, .ref pa, .ref td, .ref wt, .ref il, .int 0, .int 0]))]) ⟨hx, hb, hml, hown, hts⟩ hK hN hP [0] rfl (k_X9_isField l D kI kZ kJ mo kk rp mi ba wn m1 m2 m3 m4 pl ta wa pz ih su th od fo co qu pa td wt il bw bh hbw hbh x y) gX9_barrel_X9_isField rfl rfl rfl (by decide +kernel) ⟨(Nat.le_of_ble_eq_true rfl), (Nat.le_of_ble_eq_true rfl)⟩ 0 9 rfl rfl rfl rfl hl.1 rfl (Nat.le_of_ble_eq_true rfl) dX9_barrel_3 ⟨(Nat.le_of_ble_eq_true rfl), (Nat.le_of_ble_eq_true rfl)⟩).run (fun r hw => ?_)
  rcases hw with ⟨hin, rfl⟩ | ⟨hin, rfl⟩
  · skip
    obtain ⟨num, hnum, hnumE⟩ := q_num hbw hbh hin
    refine lv_if_ne (tgt := 12) hx hb dX9_barrel_6 (by decide) (fun _ => ?_) (fun h9 => absurd h9 (by decide : ¬ (1 : Int32) = (0 : Int32)))
    refine lv_bipush (v := 8) hx hb dX9_barrel_12 (by decide) ?_
    refine lv_iload_n hx hb dX9_barrel_14 rfl (lv_at hl 2 rfl) ?_
    refine lv_imul hx hb dX9_barrel_15 ?_
    refine lv_iload_n hx hb dX9_barrel_16 rfl (lv_at hl 1 rfl) ?_
    refine lv_iadd hx hb dX9_barrel_17 ?_
    refine lv_topi (fun z_1 ez_1 => ?_)
    obtain rfl : z_1 = nI num := ez_1.trans hnumE
    refine lv_istore (lv' := [(4, .int (nI num)), (0, .ref mo), (1, .int x), (2, .int y), (3, .int v)]) hx hb dX9_barrel_18 hl (by decide) rfl (fun ls hl => ?_)
    refine lv_iload_n hx hb dX9_barrel_20 rfl (lv_at hl 4 rfl) ?_
    refine lv_if_eq (tgt := 58) hx hb dX9_barrel_21 (by decide) (fun c_2 => ?_) (fun c_2 => ?_)
    · skip
      refine lv_aload_n hx hb dX9_barrel_58 rfl (lv_at hl 1 rfl) ?_
      refine va_get (D := D) (ci := 9) (v := .ref ba) (C := RX9) (T := TX9) (N := 36) hx hb hts (by decide +kernel) hown hK hP 0 rfl rfl 5 (by decide) (hts (.fieldLink RX9 20 "CellarPushersModel" "barrels" "[Z") (by decide +kernel)) (fun _ h9 => h9) rfl dX9_barrel_59 ?_
      refine lv_iload hx hb dX9_barrel_62 (lv_at hl 0 rfl) ?_
      refine va_zald hx hb hK hP 3 1 rfl rfl (vp_in_nI (by have := hnum; omega) (by decide)) dX9_barrel_64 ?_
      refine lv_topi (fun z_3 ez_3 => ?_)
      obtain rfl : z_3 = 0 := ez_3
      refine lv_istore (lv' := [(5, .int 0), (4, .int (nI num)), (0, .ref mo), (1, .int x), (2, .int y), (3, .int v)]) hx hb dX9_barrel_65 hl (by decide) rfl (fun ls hl => ?_)
      refine lv_aload_n hx hb dX9_barrel_67 rfl (lv_at hl 2 rfl) ?_
      refine va_get (D := D) (ci := 9) (v := .ref ba) (C := RX9) (T := TX9) (N := 36) hx hb hts (by decide +kernel) hown hK hP 0 rfl rfl 5 (by decide) (hts (.fieldLink RX9 20 "CellarPushersModel" "barrels" "[Z") (by decide +kernel)) (fun _ h9 => h9) rfl dX9_barrel_68 ?_
      refine lv_iload hx hb dX9_barrel_71 (lv_at hl 1 rfl) ?_
      refine lv_iload_n hx hb dX9_barrel_73 rfl (lv_at hl 5 rfl) ?_
      refine va_zast hx hb hK hP hD hS 3 1 rfl rfl (vp_in_nI (by have := hnum; omega) (by decide)) dX9_barrel_74 (fun H locs hP hD hS => ?_)
      have hP : va_P D vwCl [(mo, .inr (9, [.int (nI bw), .int (nI bh), .ref kk, .ref rp, .ref mi, .ref ba, .ref wn, .int (-1), .int 0, .int 0, .ref m1, .ref m2, .ref m3, .ref m4, .int 0, .int 0, .ref pl, .ref ta, .int 0, .int 0, .int (-1), .ref wa, .ref pz, .ref ih, .ref su, .ref th, .ref od, .ref fo, .ref co, .ref qu, .ref pa, .ref td, .ref wt, .ref il, .int 0, .int 0])), (kk, .inl (kI, 64, .inl (fun _ => 0))), (mi, .inl (kZ, 8, .inl (fun _ => 0))), (ba, .inl (kZ, 64, .inl (upd (fun _ => 0) (Int32.toNatClampNeg (nI num)) (vp_nar .boolean v))))] H := hP
      have hD : va_D A [(mo, .inr (9, [.int (nI bw), .int (nI bh), .ref kk, .ref rp, .ref mi, .ref ba, .ref wn, .int (-1), .int 0, .int 0, .ref m1, .ref m2, .ref m3, .ref m4, .int 0, .int 0, .ref pl, .ref ta, .int 0, .int 0, .int (-1), .ref wa, .ref pz, .ref ih, .ref su, .ref th, .ref od, .ref fo, .ref co, .ref qu, .ref pa, .ref td, .ref wt, .ref il, .int 0, .int 0])), (kk, .inl (kI, 64, .inl (fun _ => 0))), (mi, .inl (kZ, 8, .inl (fun _ => 0))), (ba, .inl (kZ, 64, .inl (upd (fun _ => 0) (Int32.toNatClampNeg (nI num)) (vp_nar .boolean v))))] := hD
      refine lv_aload_n hx hb dX9_barrel_75 rfl (lv_at hl 2 rfl) ?_
      refine qc_v (wr := [(kk, .inl (kI, 64, .inl (fun _ => 0))), (mi, .inl (kZ, 8, .inl (fun _ => 0))), (ba, .inl (kZ, 64, .inl (upd (fun _ => 0) (Int32.toNatClampNeg (nI num)) (vp_nar .boolean v))))]) (qV_W (n := 0) (As := []) (rest := []) (wc := [(mo, .inr (9, [.int (nI bw), .int (nI bh), .ref kk, .ref rp, .ref mi, .ref ba, .ref wn, .int (-1), .int 0, .int 0, .ref m1, .ref m2, .ref m3, .ref m4, .int 0, .int 0, .ref pl, .ref ta, .int 0, .int 0, .int (-1), .ref wa, .ref pz, .ref ih, .ref su, .ref th, .ref od, .ref fo, .ref co, .ref qu, .ref pa, .ref td, .ref wt, .ref il, .int 0, .int 0]))]) ⟨hx, hb, hml, hown, hts⟩ hK hN hP hD [0] rfl rfl (by decide) (k_X9_forget l D kI kZ kJ mo kk rp mi ba wn m1 m2 m3 m4 pl ta wa pz ih su th od fo co qu pa td wt il bw bh hbw hbh H.size) gX9_barrel_X9_forget rfl rfl rfl (by decide +kernel) ⟨(Nat.le_of_ble_eq_true rfl), (Nat.le_of_ble_eq_true rfl)⟩ 0 9 rfl rfl rfl rfl hl.1 rfl (Nat.le_of_ble_eq_true rfl) dX9_barrel_76 ⟨(Nat.le_of_ble_eq_true rfl), (Nat.le_of_ble_eq_true rfl)⟩) hP hD hS hA [0] [1, 2, 3] rfl rfl (by decide) (by decide) (fun u H locs hw hP hD hS => ?_)
      have hP : va_P D vwCl [(kk, .inl (kI, 64, .inl (fun _ => 0))), (mi, .inl (kZ, 8, .inl (fun _ => 0))), (ba, .inl (kZ, 64, .inl (upd (fun _ => 0) (Int32.toNatClampNeg (nI num)) (vp_nar .boolean v))))] H := hP
      have hD : va_D A [(kk, .inl (kI, 64, .inl (fun _ => 0))), (mi, .inl (kZ, 8, .inl (fun _ => 0))), (ba, .inl (kZ, 64, .inl (upd (fun _ => 0) (Int32.toNatClampNeg (nI num)) (vp_nar .boolean v))))] := hD
      refine lv_iload hx hb dX9_barrel_79 (lv_at hl 0 rfl) ?_
      refine lv_if_eq (tgt := 88) hx hb dX9_barrel_81 (by decide) (fun _ => ?_) (fun h9 => absurd (by decide : (0 : Int32) = (0 : Int32)) h9)
      refine lv_iconst (v := 0) hx hb dX9_barrel_88 (by decide) ?_
      have hP9 := hP.sub (ws' := []) [] rfl
      have hD9 := hD.sub (ws' := []) [] (by decide) rfl
      exact W.iret (v := 0) hx hb hr (fun t ht hW => ⟨⟨_, (), rfl, (by first | exact q_ift ⟨hin, by first | rfl | assumption⟩ | exact q_iff (fun h => by obtain ⟨h1, h2⟩ := h; contradiction)), ⟨by rw [ht]; exact hP9, hD9⟩⟩, hS.F ht⟩) hS.2.2 dX9_barrel_89
    · skip
      refine lv_aload_n hx hb dX9_barrel_24 rfl (lv_at hl 1 rfl) ?_
      refine lv_iload hx hb dX9_barrel_25 (lv_at hl 0 rfl) ?_
      refine vp_callSi (qV_R (n := 1) (As := [.int (nI num)]) (rest := []) (wc := [(mo, .inr (9, [.int (nI bw), .int (nI bh), .ref kk, .ref rp, .ref mi, .ref ba, .ref wn, .int (-1), .int 0, .int 0, .ref m1, .ref m2, .ref m3, .ref m4, .int 0, .int 0, .ref pl, .ref ta, .int 0, .int 0, .int (-1), .ref wa, .ref pz, .ref ih, .ref su, .ref th, .ref od, .ref fo, .ref co, .ref qu, .ref pa, .ref td, .ref wt, .ref il, .int 0, .int 0])), (kk, .inl (kI, 64, .inl (fun _ => 0))), (mi, .inl (kZ, 8, .inl (fun _ => 0)))]) ⟨hx, hb, hml, hown, hts⟩ hK hN hP [0, 1, 2] rfl (k_X9_kindOf l D kI kZ kJ mo kk rp mi ba wn m1 m2 m3 m4 pl ta wa pz ih su th od fo co qu pa td wt il bw bh hbw hbh num hnum) gX9_barrel_X9_kindOf rfl rfl rfl (by decide +kernel) ⟨(Nat.le_of_ble_eq_true rfl), (Nat.le_of_ble_eq_true rfl)⟩ 0 9 rfl rfl rfl rfl hl.1 rfl (Nat.le_of_ble_eq_true rfl) dX9_barrel_27 ⟨(Nat.le_of_ble_eq_true rfl), (Nat.le_of_ble_eq_true rfl)⟩).run (fun r hw => ?_)
      obtain rfl := hw
      refine lv_if_eq (tgt := 55) hx hb dX9_barrel_30 (by decide) (fun _ => ?_) (fun h9 => absurd (by decide : (0 : Int32) = (0 : Int32)) h9)
      refine lv_bipush (v := (-2)) hx hb dX9_barrel_55 (by decide) ?_
      have hP9 := hP.sub (ws' := []) [] rfl
      have hD9 := hD.sub (ws' := []) [] (by decide) rfl
      exact W.iret (v := (-2)) hx hb hr (fun t ht hW => ⟨⟨_, (), rfl, (by first | exact q_ift ⟨hin, by first | rfl | assumption⟩ | exact q_iff (fun h => by obtain ⟨h1, h2⟩ := h; contradiction)), ⟨by rw [ht]; exact hP9, hD9⟩⟩, hS.F ht⟩) hS.2.2 dX9_barrel_57
  · skip
    refine lv_if_ne (tgt := 12) hx hb dX9_barrel_6 (by decide) (fun h9 => absurd h9 (by decide : ¬ (¬ (0 : Int32) = (0 : Int32)))) (fun _ => ?_)
    refine lv_bipush (v := (-2)) hx hb dX9_barrel_9 (by decide) ?_
    have hP9 := hP.sub (ws' := []) [] rfl
    have hD9 := hD.sub (ws' := []) [] (by decide) rfl
    exact W.iret (v := (-2)) hx hb hr (fun t ht hW => ⟨⟨_, (), rfl, (by first | exact q_ift ⟨hin, by first | rfl | assumption⟩ | exact q_iff (fun h => by obtain ⟨h1, h2⟩ := h; contradiction)), ⟨by rw [ht]; exact hP9, hD9⟩⟩, hS.F ht⟩) hS.2.2 dX9_barrel_11
set_option maxHeartbeats 4000000 in
set_option maxRecDepth 100000 in
theorem k_X9_man (l : Launch) (D : va_G) (kI kZ kJ : ClassId)  (mo kk rp mi ba wn m1 m2 m3 m4 pl ta wa pz ih su th od fo co qu pa td wt il : Nat) (bw bh : Nat) (hbw : bw ≤ 8) (hbh : bh ≤ 8) (x y : Int32) : Met l yX9_man wsX9_man ({ frames := 1, cells := 0, slots := 0, locals := 22 }) (qR D kI kZ kJ [(mo, .inr (9, [.int (nI bw), .int (nI bh), .ref kk, .ref rp, .ref mi, .ref ba, .ref wn, .int (-1), .int 0, .int 0, .ref m1, .ref m2, .ref m3, .ref m4, .int 0, .int 0, .ref pl, .ref ta, .int 0, .int 0, .int (-1), .ref wa, .ref pz, .ref ih, .ref su, .ref th, .ref od, .ref fo, .ref co, .ref qu, .ref pa, .ref td, .ref wt, .ref il, .int 0, .int 0])), (kk, .inl (kI, 64, .inl (fun _ => 0))), (mi, .inl (kZ, 8, .inl (fun _ => 0)))] [.ref mo, .int x, .int y]) (vp_Si (fun r : Int32 => r = -2)) 0 0 (fun _ => False) := by
  refine Met.ofW (cc := cX9_man) (maxL := 5) (ret := (some .int)) (by decide) rfl ?_
  intro p e s m args below meth c s₁ B hml hv
  obtain ⟨rfl, hP, hK, hN⟩ := hv
  have hx := B.exec
  have hb := B.bytes
  have hr := B.returns
  have hts := atoms_spec (ws := wsX9_man) B.pre
  have hown : s.vm.findClass RX9 = some m.cls := findClass_of_methodNamed B.named
  have hlocks := B.notSynchronized
  have hP : va_P D vwCl [(mo, .inr (9, [.int (nI bw), .int (nI bh), .ref kk, .ref rp, .ref mi, .ref ba, .ref wn, .int (-1), .int 0, .int 0, .ref m1, .ref m2, .ref m3, .ref m4, .int 0, .int 0, .ref pl, .ref ta, .int 0, .int 0, .int (-1), .ref wa, .ref pz, .ref ih, .ref su, .ref th, .ref od, .ref fo, .ref co, .ref qu, .ref pa, .ref td, .ref wt, .ref il, .int 0, .int 0])), (kk, .inl (kI, 64, .inl (fun _ => 0))), (mi, .inl (kZ, 8, .inl (fun _ => 0)))] s.heap := hP
  have hl := lv_entry ([.ref mo, .int x, .int y]) (n := 5) (Nat.le_of_ble_eq_true rfl)
  rw [lg_entry_eq]
  generalize (lg_sl ([.ref mo, .int x, .int y]) ++ List.replicate (5 - (lg_sl ([.ref mo, .int x, .int y])).length) Slot.unset).toArray = ls at hl ⊢
  have hl : lv_has ls 5 [(0, .ref mo), (1, .int x), (2, .int y)] := hl
  refine lv_aload_n hx hb dX9_man_0 rfl (lv_at hl 0 rfl) ?_
  refine lv_iload_n hx hb dX9_man_1 rfl (lv_at hl 1 rfl) ?_
  refine lv_iload_n hx hb dX9_man_2 rfl (lv_at hl 2 rfl) ?_
  refine vp_callSi (qV_R (n := 2) (As := [.int x, .int y]) (rest := []) (wc := [(mo, .inr (9, [.int (nI bw), .int (nI bh), .ref kk, .ref rp, .ref mi, .ref ba, .ref wn, .int (-1), .int 0, .int 0, .ref m1, .ref m2, .ref m3, .ref m4, .int 0, .int 0, .ref pl, .ref ta, .int 0, .int 0, .int (-1), .ref wa, .ref pz, .ref ih, .ref su, .ref th, .ref od, .ref fo, .ref co, .ref qu, .ref pa, .ref td, .ref wt, .ref il, .int 0, .int 0]))]) ⟨hx, hb, hml, hown, hts⟩ hK hN hP [0] rfl (k_X9_isField l D kI kZ kJ mo kk rp mi ba wn m1 m2 m3 m4 pl ta wa pz ih su th od fo co qu pa td wt il bw bh hbw hbh x y) gX9_man_X9_isField rfl rfl rfl (by decide +kernel) ⟨(Nat.le_of_ble_eq_true rfl), (Nat.le_of_ble_eq_true rfl)⟩ 0 9 rfl rfl rfl rfl hl.1 rfl (Nat.le_of_ble_eq_true rfl) dX9_man_3 ⟨(Nat.le_of_ble_eq_true rfl), (Nat.le_of_ble_eq_true rfl)⟩).run (fun r hw => ?_)
  rcases hw with ⟨hin, rfl⟩ | ⟨hin, rfl⟩
  · skip
    obtain ⟨num, hnum, hnumE⟩ := q_num hbw hbh hin
    refine lv_if_ne (tgt := 12) hx hb dX9_man_6 (by decide) (fun _ => ?_) (fun h9 => absurd h9 (by decide : ¬ (1 : Int32) = (0 : Int32)))
    refine lv_bipush (v := 8) hx hb dX9_man_12 (by decide) ?_
    refine lv_iload_n hx hb dX9_man_14 rfl (lv_at hl 2 rfl) ?_
    refine lv_imul hx hb dX9_man_15 ?_
    refine lv_iload_n hx hb dX9_man_16 rfl (lv_at hl 1 rfl) ?_
    refine lv_iadd hx hb dX9_man_17 ?_
    refine lv_topi (fun z_1 ez_1 => ?_)
    obtain rfl : z_1 = nI num := ez_1.trans hnumE
    refine lv_istore_n (lv' := [(3, .int (nI num)), (0, .ref mo), (1, .int x), (2, .int y)]) hx hb dX9_man_18 rfl hl (by decide) rfl (fun ls hl => ?_)
    refine lv_aload_n hx hb dX9_man_19 rfl (lv_at hl 1 rfl) ?_
    refine lv_iload_n hx hb dX9_man_20 rfl (lv_at hl 0 rfl) ?_
    refine vp_callSi (qV_R (n := 1) (As := [.int (nI num)]) (rest := []) (wc := [(mo, .inr (9, [.int (nI bw), .int (nI bh), .ref kk, .ref rp, .ref mi, .ref ba, .ref wn, .int (-1), .int 0, .int 0, .ref m1, .ref m2, .ref m3, .ref m4, .int 0, .int 0, .ref pl, .ref ta, .int 0, .int 0, .int (-1), .ref wa, .ref pz, .ref ih, .ref su, .ref th, .ref od, .ref fo, .ref co, .ref qu, .ref pa, .ref td, .ref wt, .ref il, .int 0, .int 0])), (kk, .inl (kI, 64, .inl (fun _ => 0))), (mi, .inl (kZ, 8, .inl (fun _ => 0)))]) ⟨hx, hb, hml, hown, hts⟩ hK hN hP [0, 1, 2] rfl (k_X9_kindOf l D kI kZ kJ mo kk rp mi ba wn m1 m2 m3 m4 pl ta wa pz ih su th od fo co qu pa td wt il bw bh hbw hbh num hnum) gX9_man_X9_kindOf rfl rfl rfl (by decide +kernel) ⟨(Nat.le_of_ble_eq_true rfl), (Nat.le_of_ble_eq_true rfl)⟩ 0 9 rfl rfl rfl rfl hl.1 rfl (Nat.le_of_ble_eq_true rfl) dX9_man_21 ⟨(Nat.le_of_ble_eq_true rfl), (Nat.le_of_ble_eq_true rfl)⟩).run (fun r hw => ?_)
    obtain rfl := hw
    refine lv_if_eq (tgt := 45) hx hb dX9_man_24 (by decide) (fun _ => ?_) (fun h9 => absurd (by decide : (0 : Int32) = (0 : Int32)) h9)
    refine lv_bipush (v := (-2)) hx hb dX9_man_45 (by decide) ?_
    exact W.iret (v := (-2)) hx hb hr (fun t ht hW => ⟨_, rfl, rfl, ht⟩) (fun q hq => by cases hq) dX9_man_47
  · skip
    refine lv_if_ne (tgt := 12) hx hb dX9_man_6 (by decide) (fun h9 => absurd h9 (by decide : ¬ (¬ (0 : Int32) = (0 : Int32)))) (fun _ => ?_)
    refine lv_bipush (v := (-2)) hx hb dX9_man_9 (by decide) ?_
    exact W.iret (v := (-2)) hx hb hr (fun t ht hW => ⟨_, rfl, rfl, ht⟩) (fun q hq => by cases hq) dX9_man_11
set_option maxHeartbeats 4000000 in
set_option maxRecDepth 100000 in
theorem k_X9_want (l : Launch) (D : va_G) (kI kZ kJ : ClassId)  (mo kk rp mi ba wn m1 m2 m3 m4 pl ta wa pz ih su th od fo co qu pa td wt il : Nat) (bw bh : Nat) (hbw : bw ≤ 8) (hbh : bh ≤ 8) (x y v : Int32) : Met l yX9_want wsX9_want ({ frames := 1, cells := 0, slots := 0, locals := 22 }) (qR D kI kZ kJ [(mo, .inr (9, [.int (nI bw), .int (nI bh), .ref kk, .ref rp, .ref mi, .ref ba, .ref wn, .int (-1), .int 0, .int 0, .ref m1, .ref m2, .ref m3, .ref m4, .int 0, .int 0, .ref pl, .ref ta, .int 0, .int 0, .int (-1), .ref wa, .ref pz, .ref ih, .ref su, .ref th, .ref od, .ref fo, .ref co, .ref qu, .ref pa, .ref td, .ref wt, .ref il, .int 0, .int 0])), (kk, .inl (kI, 64, .inl (fun _ => 0))), (mi, .inl (kZ, 8, .inl (fun _ => 0)))] [.ref mo, .int x, .int y, .int v]) (vp_Si (fun r : Int32 => r = -2)) 0 0 (fun _ => False) := by
  refine Met.ofW (cc := cX9_want) (maxL := 6) (ret := (some .int)) (by decide) rfl ?_
  intro p e s m args below meth c s₁ B hml hv
  obtain ⟨rfl, hP, hK, hN⟩ := hv
  have hx := B.exec
  have hb := B.bytes
  have hr := B.returns
  have hts := atoms_spec (ws := wsX9_want) B.pre
  have hown : s.vm.findClass RX9 = some m.cls := findClass_of_methodNamed B.named
  have hlocks := B.notSynchronized
  have hP : va_P D vwCl [(mo, .inr (9, [.int (nI bw), .int (nI bh), .ref kk, .ref rp, .ref mi, .ref ba, .ref wn, .int (-1), .int 0, .int 0, .ref m1, .ref m2, .ref m3, .ref m4, .int 0, .int 0, .ref pl, .ref ta, .int 0, .int 0, .int (-1), .ref wa, .ref pz, .ref ih, .ref su, .ref th, .ref od, .ref fo, .ref co, .ref qu, .ref pa, .ref td, .ref wt, .ref il, .int 0, .int 0])), (kk, .inl (kI, 64, .inl (fun _ => 0))), (mi, .inl (kZ, 8, .inl (fun _ => 0)))] s.heap := hP
  have hl := lv_entry ([.ref mo, .int x, .int y, .int v]) (n := 6) (Nat.le_of_ble_eq_true rfl)
  rw [lg_entry_eq]
  generalize (lg_sl ([.ref mo, .int x, .int y, .int v]) ++ List.replicate (6 - (lg_sl ([.ref mo, .int x, .int y, .int v])).length) Slot.unset).toArray = ls at hl ⊢
  have hl : lv_has ls 6 [(0, .ref mo), (1, .int x), (2, .int y), (3, .int v)] := hl
  refine lv_aload_n hx hb dX9_want_0 rfl (lv_at hl 0 rfl) ?_
  refine lv_iload_n hx hb dX9_want_1 rfl (lv_at hl 1 rfl) ?_
  refine lv_iload_n hx hb dX9_want_2 rfl (lv_at hl 2 rfl) ?_
  refine vp_callSi (qV_R (n := 2) (As := [.int x, .int y]) (rest := []) (wc := [(mo, .inr (9, [.int (nI bw), .int (nI bh), .ref kk, .ref rp, .ref mi, .ref ba, .ref wn, .int (-1), .int 0, .int 0, .ref m1, .ref m2, .ref m3, .ref m4, .int 0, .int 0, .ref pl, .ref ta, .int 0, .int 0, .int (-1), .ref wa, .ref pz, .ref ih, .ref su, .ref th, .ref od, .ref fo, .ref co, .ref qu, .ref pa, .ref td, .ref wt, .ref il, .int 0, .int 0]))]) ⟨hx, hb, hml, hown, hts⟩ hK hN hP [0] rfl (k_X9_isField l D kI kZ kJ mo kk rp mi ba wn m1 m2 m3 m4 pl ta wa pz ih su th od fo co qu pa td wt il bw bh hbw hbh x y) gX9_want_X9_isField rfl rfl rfl (by decide +kernel) ⟨(Nat.le_of_ble_eq_true rfl), (Nat.le_of_ble_eq_true rfl)⟩ 0 9 rfl rfl rfl rfl hl.1 rfl (Nat.le_of_ble_eq_true rfl) dX9_want_3 ⟨(Nat.le_of_ble_eq_true rfl), (Nat.le_of_ble_eq_true rfl)⟩).run (fun r hw => ?_)
  rcases hw with ⟨hin, rfl⟩ | ⟨hin, rfl⟩
  · skip
    obtain ⟨num, hnum, hnumE⟩ := q_num hbw hbh hin
    refine lv_if_ne (tgt := 12) hx hb dX9_want_6 (by decide) (fun _ => ?_) (fun h9 => absurd h9 (by decide : ¬ (1 : Int32) = (0 : Int32)))
    refine lv_bipush (v := 8) hx hb dX9_want_12 (by decide) ?_
    refine lv_iload_n hx hb dX9_want_14 rfl (lv_at hl 2 rfl) ?_
    refine lv_imul hx hb dX9_want_15 ?_
    refine lv_iload_n hx hb dX9_want_16 rfl (lv_at hl 1 rfl) ?_
    refine lv_iadd hx hb dX9_want_17 ?_
    refine lv_topi (fun z_1 ez_1 => ?_)
    obtain rfl : z_1 = nI num := ez_1.trans hnumE
    refine lv_istore (lv' := [(4, .int (nI num)), (0, .ref mo), (1, .int x), (2, .int y), (3, .int v)]) hx hb dX9_want_18 hl (by decide) rfl (fun ls hl => ?_)
    refine lv_aload_n hx hb dX9_want_20 rfl (lv_at hl 1 rfl) ?_
    refine lv_iload hx hb dX9_want_21 (lv_at hl 0 rfl) ?_
    refine vp_callSi (qV_R (n := 1) (As := [.int (nI num)]) (rest := []) (wc := [(mo, .inr (9, [.int (nI bw), .int (nI bh), .ref kk, .ref rp, .ref mi, .ref ba, .ref wn, .int (-1), .int 0, .int 0, .ref m1, .ref m2, .ref m3, .ref m4, .int 0, .int 0, .ref pl, .ref ta, .int 0, .int 0, .int (-1), .ref wa, .ref pz, .ref ih, .ref su, .ref th, .ref od, .ref fo, .ref co, .ref qu, .ref pa, .ref td, .ref wt, .ref il, .int 0, .int 0])), (kk, .inl (kI, 64, .inl (fun _ => 0))), (mi, .inl (kZ, 8, .inl (fun _ => 0)))]) ⟨hx, hb, hml, hown, hts⟩ hK hN hP [0, 1, 2] rfl (k_X9_kindOf l D kI kZ kJ mo kk rp mi ba wn m1 m2 m3 m4 pl ta wa pz ih su th od fo co qu pa td wt il bw bh hbw hbh num hnum) gX9_want_X9_kindOf rfl rfl rfl (by decide +kernel) ⟨(Nat.le_of_ble_eq_true rfl), (Nat.le_of_ble_eq_true rfl)⟩ 0 9 rfl rfl rfl rfl hl.1 rfl (Nat.le_of_ble_eq_true rfl) dX9_want_23 ⟨(Nat.le_of_ble_eq_true rfl), (Nat.le_of_ble_eq_true rfl)⟩).run (fun r hw => ?_)
    obtain rfl := hw
    refine lv_iconst (v := 2) hx hb dX9_want_26 (by decide) ?_
    refine lv_icmp_eq (tgt := 43) hx hb dX9_want_27 (by decide) (fun h9 => absurd h9 (by decide : ¬ ((0 : Int32) = (2 : Int32)))) (fun _ => ?_)
    refine lv_aload_n hx hb dX9_want_30 rfl (lv_at hl 1 rfl) ?_
    refine lv_iload hx hb dX9_want_31 (lv_at hl 0 rfl) ?_
    refine vp_callSi (qV_R (n := 1) (As := [.int (nI num)]) (rest := []) (wc := [(mo, .inr (9, [.int (nI bw), .int (nI bh), .ref kk, .ref rp, .ref mi, .ref ba, .ref wn, .int (-1), .int 0, .int 0, .ref m1, .ref m2, .ref m3, .ref m4, .int 0, .int 0, .ref pl, .ref ta, .int 0, .int 0, .int (-1), .ref wa, .ref pz, .ref ih, .ref su, .ref th, .ref od, .ref fo, .ref co, .ref qu, .ref pa, .ref td, .ref wt, .ref il, .int 0, .int 0])), (kk, .inl (kI, 64, .inl (fun _ => 0))), (mi, .inl (kZ, 8, .inl (fun _ => 0)))]) ⟨hx, hb, hml, hown, hts⟩ hK hN hP [0, 1, 2] rfl (k_X9_kindOf l D kI kZ kJ mo kk rp mi ba wn m1 m2 m3 m4 pl ta wa pz ih su th od fo co qu pa td wt il bw bh hbw hbh num hnum) gX9_want_X9_kindOf rfl rfl rfl (by decide +kernel) ⟨(Nat.le_of_ble_eq_true rfl), (Nat.le_of_ble_eq_true rfl)⟩ 0 9 rfl rfl rfl rfl hl.1 rfl (Nat.le_of_ble_eq_true rfl) dX9_want_33 ⟨(Nat.le_of_ble_eq_true rfl), (Nat.le_of_ble_eq_true rfl)⟩).run (fun r hw => ?_)
    obtain rfl := hw
    refine lv_iconst (v := 5) hx hb dX9_want_36 (by decide) ?_
    refine lv_icmp_eq (tgt := 43) hx hb dX9_want_37 (by decide) (fun h9 => absurd h9 (by decide : ¬ ((0 : Int32) = (5 : Int32)))) (fun _ => ?_)
    refine lv_bipush (v := (-2)) hx hb dX9_want_40 (by decide) ?_
    exact W.iret (v := (-2)) hx hb hr (fun t ht hW => ⟨_, rfl, rfl, ht⟩) (fun q hq => by cases hq) dX9_want_42
  · skip
    refine lv_if_ne (tgt := 12) hx hb dX9_want_6 (by decide) (fun h9 => absurd h9 (by decide : ¬ (¬ (0 : Int32) = (0 : Int32)))) (fun _ => ?_)
    refine lv_bipush (v := (-2)) hx hb dX9_want_9 (by decide) ?_
    exact W.iret (v := (-2)) hx hb hr (fun t ht hW => ⟨_, rfl, rfl, ht⟩) (fun q hq => by cases hq) dX9_want_11
set_option maxHeartbeats 4000000 in
set_option maxRecDepth 100000 in
theorem k_X9_step (l : Launch) (D : va_G) (kI kZ kJ : ClassId)  (mo kk rp mi ba wn m1 m2 m3 m4 pl ta wa pz ih su th od fo co qu pa td wt il : Nat) (bw bh : Nat) (hbw : bw ≤ 8) (hbh : bh ≤ 8) (v : Int32) : Met l yX9_step wsX9_step ({ frames := 0, cells := 0, slots := 0, locals := 0 }) (qR D kI kZ kJ [(mo, .inr (9, [.int (nI bw), .int (nI bh), .ref kk, .ref rp, .ref mi, .ref ba, .ref wn, .int (-1), .int 0, .int 0, .ref m1, .ref m2, .ref m3, .ref m4, .int 0, .int 0, .ref pl, .ref ta, .int 0, .int 0, .int (-1), .ref wa, .ref pz, .ref ih, .ref su, .ref th, .ref od, .ref fo, .ref co, .ref qu, .ref pa, .ref td, .ref wt, .ref il, .int 0, .int 0]))] [.ref mo, .int v]) (vp_Si (fun r : Int32 => r = -2)) 0 0 (fun _ => False) := by
  refine Met.ofW (cc := cX9_step) (maxL := 4) (ret := (some .int)) (by decide) rfl ?_
  intro p e s m args below meth c s₁ B hml hv
  obtain ⟨rfl, hP, hK, hN⟩ := hv
  have hx := B.exec
  have hb := B.bytes
  have hr := B.returns
  have hts := atoms_spec (ws := wsX9_step) B.pre
  have hown : s.vm.findClass RX9 = some m.cls := findClass_of_methodNamed B.named
  have hlocks := B.notSynchronized
  have hP : va_P D vwCl [(mo, .inr (9, [.int (nI bw), .int (nI bh), .ref kk, .ref rp, .ref mi, .ref ba, .ref wn, .int (-1), .int 0, .int 0, .ref m1, .ref m2, .ref m3, .ref m4, .int 0, .int 0, .ref pl, .ref ta, .int 0, .int 0, .int (-1), .ref wa, .ref pz, .ref ih, .ref su, .ref th, .ref od, .ref fo, .ref co, .ref qu, .ref pa, .ref td, .ref wt, .ref il, .int 0, .int 0]))] s.heap := hP
  have hl := lv_entry ([.ref mo, .int v]) (n := 4) (Nat.le_of_ble_eq_true rfl)
  rw [lg_entry_eq]
  generalize (lg_sl ([.ref mo, .int v]) ++ List.replicate (4 - (lg_sl ([.ref mo, .int v])).length) Slot.unset).toArray = ls at hl ⊢
  have hl : lv_has ls 4 [(0, .ref mo), (1, .int v)] := hl
  refine lv_aload_n hx hb dX9_step_0 rfl (lv_at hl 0 rfl) ?_
  refine va_get (D := D) (ci := 9) (v := .int (-1)) (C := RX9) (T := TX9) (N := 36) hx hb hts (by decide +kernel) hown hK hP 0 rfl rfl 7 (by decide) (hts (.fieldLink RX9 26 "CellarPushersModel" "man" "I") (by decide +kernel)) (fun _ h9 => h9) rfl dX9_step_1 ?_
  refine lv_if_lt (tgt := 14) hx hb dX9_step_4 (by decide) (fun _ => ?_) (fun h9 => absurd (by decide : ((-1) : Int32) < (0 : Int32)) h9)
  refine lv_bipush (v := (-2)) hx hb dX9_step_14 (by decide) ?_
  exact W.iret (v := (-2)) hx hb hr (fun t ht hW => ⟨_, rfl, rfl, ht⟩) (fun q hq => by cases hq) dX9_step_16
set_option maxHeartbeats 4000000 in
set_option maxRecDepth 100000 in
theorem k_X9_walk (l : Launch) (D : va_G) (kI kZ kJ : ClassId)  (mo kk rp mi ba wn m1 m2 m3 m4 pl ta wa pz ih su th od fo co qu pa td wt il : Nat) (bw bh : Nat) (hbw : bw ≤ 8) (hbh : bh ≤ 8) (x y : Int32) : Met l yX9_walk wsX9_walk ({ frames := 0, cells := 0, slots := 0, locals := 0 }) (qR D kI kZ kJ [(mo, .inr (9, [.int (nI bw), .int (nI bh), .ref kk, .ref rp, .ref mi, .ref ba, .ref wn, .int (-1), .int 0, .int 0, .ref m1, .ref m2, .ref m3, .ref m4, .int 0, .int 0, .ref pl, .ref ta, .int 0, .int 0, .int (-1), .ref wa, .ref pz, .ref ih, .ref su, .ref th, .ref od, .ref fo, .ref co, .ref qu, .ref pa, .ref td, .ref wt, .ref il, .int 0, .int 0]))] [.ref mo, .int x, .int y]) (vp_Si (fun r : Int32 => r = -2)) 0 0 (fun _ => False) := by
  refine Met.ofW (cc := cX9_walk) (maxL := 4) (ret := (some .int)) (by decide) rfl ?_
  intro p e s m args below meth c s₁ B hml hv
  obtain ⟨rfl, hP, hK, hN⟩ := hv
  have hx := B.exec
  have hb := B.bytes
  have hr := B.returns
  have hts := atoms_spec (ws := wsX9_walk) B.pre
  have hown : s.vm.findClass RX9 = some m.cls := findClass_of_methodNamed B.named
  have hlocks := B.notSynchronized
  have hP : va_P D vwCl [(mo, .inr (9, [.int (nI bw), .int (nI bh), .ref kk, .ref rp, .ref mi, .ref ba, .ref wn, .int (-1), .int 0, .int 0, .ref m1, .ref m2, .ref m3, .ref m4, .int 0, .int 0, .ref pl, .ref ta, .int 0, .int 0, .int (-1), .ref wa, .ref pz, .ref ih, .ref su, .ref th, .ref od, .ref fo, .ref co, .ref qu, .ref pa, .ref td, .ref wt, .ref il, .int 0, .int 0]))] s.heap := hP
  have hl := lv_entry ([.ref mo, .int x, .int y]) (n := 4) (Nat.le_of_ble_eq_true rfl)
  rw [lg_entry_eq]
  generalize (lg_sl ([.ref mo, .int x, .int y]) ++ List.replicate (4 - (lg_sl ([.ref mo, .int x, .int y])).length) Slot.unset).toArray = ls at hl ⊢
  have hl : lv_has ls 4 [(0, .ref mo), (1, .int x), (2, .int y)] := hl
  refine lv_aload_n hx hb dX9_walk_0 rfl (lv_at hl 0 rfl) ?_
  refine va_get (D := D) (ci := 9) (v := .int (-1)) (C := RX9) (T := TX9) (N := 36) hx hb hts (by decide +kernel) hown hK hP 0 rfl rfl 7 (by decide) (hts (.fieldLink RX9 26 "CellarPushersModel" "man" "I") (by decide +kernel)) (fun _ h9 => h9) rfl dX9_walk_1 ?_
  refine lv_if_lt (tgt := 16) hx hb dX9_walk_4 (by decide) (fun _ => ?_) (fun h9 => absurd (by decide : ((-1) : Int32) < (0 : Int32)) h9)
  refine lv_bipush (v := (-2)) hx hb dX9_walk_16 (by decide) ?_
  exact W.iret (v := (-2)) hx hb hr (fun t ht hW => ⟨_, rfl, rfl, ht⟩) (fun q hq => by cases hq) dX9_walk_18
set_option maxHeartbeats 4000000 in
set_option maxRecDepth 100000 in
theorem k_X9_push (l : Launch) (D : va_G) (kI kZ kJ : ClassId)  (mo kk rp mi ba wn m1 m2 m3 m4 pl ta wa pz ih su th od fo co qu pa td wt il : Nat) (bw bh : Nat) (hbw : bw ≤ 8) (hbh : bh ≤ 8) (x y v : Int32) : Met l yX9_push wsX9_push ({ frames := 1, cells := 0, slots := 0, locals := 26 }) (qR D kI kZ kJ [(mo, .inr (9, [.int (nI bw), .int (nI bh), .ref kk, .ref rp, .ref mi, .ref ba, .ref wn, .int (-1), .int 0, .int 0, .ref m1, .ref m2, .ref m3, .ref m4, .int 0, .int 0, .ref pl, .ref ta, .int 0, .int 0, .int (-1), .ref wa, .ref pz, .ref ih, .ref su, .ref th, .ref od, .ref fo, .ref co, .ref qu, .ref pa, .ref td, .ref wt, .ref il, .int 0, .int 0]))] [.ref mo, .int x, .int y, .int v]) (vp_Si (fun r : Int32 => r = -2)) 0 0 (fun _ => False) := by
  refine Met.ofW (cc := cX9_push) (maxL := 7) (ret := (some .int)) (by decide) rfl ?_
  intro p e s m args below meth c s₁ B hml hv
  obtain ⟨rfl, hP, hK, hN⟩ := hv
  have hx := B.exec
  have hb := B.bytes
  have hr := B.returns
  have hts := atoms_spec (ws := wsX9_push) B.pre
  have hown : s.vm.findClass RX9 = some m.cls := findClass_of_methodNamed B.named
  have hlocks := B.notSynchronized
  have hP : va_P D vwCl [(mo, .inr (9, [.int (nI bw), .int (nI bh), .ref kk, .ref rp, .ref mi, .ref ba, .ref wn, .int (-1), .int 0, .int 0, .ref m1, .ref m2, .ref m3, .ref m4, .int 0, .int 0, .ref pl, .ref ta, .int 0, .int 0, .int (-1), .ref wa, .ref pz, .ref ih, .ref su, .ref th, .ref od, .ref fo, .ref co, .ref qu, .ref pa, .ref td, .ref wt, .ref il, .int 0, .int 0]))] s.heap := hP
  have hl := lv_entry ([.ref mo, .int x, .int y, .int v]) (n := 7) (Nat.le_of_ble_eq_true rfl)
  rw [lg_entry_eq]
  generalize (lg_sl ([.ref mo, .int x, .int y, .int v]) ++ List.replicate (7 - (lg_sl ([.ref mo, .int x, .int y, .int v])).length) Slot.unset).toArray = ls at hl ⊢
  have hl : lv_has ls 7 [(0, .ref mo), (1, .int x), (2, .int y), (3, .int v)] := hl
  refine lv_aload_n hx hb dX9_push_0 rfl (lv_at hl 0 rfl) ?_
  refine lv_iload_n hx hb dX9_push_1 rfl (lv_at hl 1 rfl) ?_
  refine lv_iload_n hx hb dX9_push_2 rfl (lv_at hl 2 rfl) ?_
  refine lv_iload_n hx hb dX9_push_3 rfl (lv_at hl 3 rfl) ?_
  refine vp_callSi (qV_R (n := 3) (As := [.int x, .int y, .int v]) (rest := []) (wc := [(mo, .inr (9, [.int (nI bw), .int (nI bh), .ref kk, .ref rp, .ref mi, .ref ba, .ref wn, .int (-1), .int 0, .int 0, .ref m1, .ref m2, .ref m3, .ref m4, .int 0, .int 0, .ref pl, .ref ta, .int 0, .int 0, .int (-1), .ref wa, .ref pz, .ref ih, .ref su, .ref th, .ref od, .ref fo, .ref co, .ref qu, .ref pa, .ref td, .ref wt, .ref il, .int 0, .int 0]))]) ⟨hx, hb, hml, hown, hts⟩ hK hN hP [0] rfl (k_X9_can l D kI kZ kJ mo kk rp mi ba wn m1 m2 m3 m4 pl ta wa pz ih su th od fo co qu pa td wt il bw bh hbw hbh x y v) gX9_push_X9_can rfl rfl rfl (by decide +kernel) ⟨(Nat.le_of_ble_eq_true rfl), (Nat.le_of_ble_eq_true rfl)⟩ 0 9 rfl rfl rfl rfl hl.1 rfl (Nat.le_of_ble_eq_true rfl) dX9_push_4 ⟨(Nat.le_of_ble_eq_true rfl), (Nat.le_of_ble_eq_true rfl)⟩).run (fun r hw => ?_)
  obtain rfl := hw
  refine lv_istore (lv' := [(4, .int (-2)), (0, .ref mo), (1, .int x), (2, .int y), (3, .int v)]) hx hb dX9_push_7 hl (by decide) rfl (fun ls hl => ?_)
  refine lv_iload hx hb dX9_push_9 (lv_at hl 0 rfl) ?_
  refine lv_if_ge (tgt := 17) hx hb dX9_push_11 (by decide) (fun h9 => absurd h9 (by decide : ¬ ((0 : Int32) ≤ ((-2) : Int32)))) (fun _ => ?_)
  refine lv_iload hx hb dX9_push_14 (lv_at hl 0 rfl) ?_
  exact W.iret (v := (-2)) hx hb hr (fun t ht hW => ⟨_, rfl, rfl, ht⟩) (fun q hq => by cases hq) dX9_push_16
set_option maxHeartbeats 4000000 in
set_option maxRecDepth 100000 in
theorem k_X9_undo (l : Launch) (D : va_G) (kI kZ kJ : ClassId)  (mo kk rp mi ba wn m1 m2 m3 m4 pl ta wa pz ih su th od fo co qu pa td wt il : Nat) (bw bh : Nat) (hbw : bw ≤ 8) (hbh : bh ≤ 8) : Met l yX9_undo wsX9_undo ({ frames := 0, cells := 0, slots := 0, locals := 0 }) (qR D kI kZ kJ [(mo, .inr (9, [.int (nI bw), .int (nI bh), .ref kk, .ref rp, .ref mi, .ref ba, .ref wn, .int (-1), .int 0, .int 0, .ref m1, .ref m2, .ref m3, .ref m4, .int 0, .int 0, .ref pl, .ref ta, .int 0, .int 0, .int (-1), .ref wa, .ref pz, .ref ih, .ref su, .ref th, .ref od, .ref fo, .ref co, .ref qu, .ref pa, .ref td, .ref wt, .ref il, .int 0, .int 0]))] [.ref mo]) (vp_Si (fun r : Int32 => r = -2)) 0 0 (fun _ => False) := by
  refine Met.ofW (cc := cX9_undo) (maxL := 1) (ret := (some .int)) (by decide) rfl ?_
  intro p e s m args below meth c s₁ B hml hv
  obtain ⟨rfl, hP, hK, hN⟩ := hv
  have hx := B.exec
  have hb := B.bytes
  have hr := B.returns
  have hts := atoms_spec (ws := wsX9_undo) B.pre
  have hown : s.vm.findClass RX9 = some m.cls := findClass_of_methodNamed B.named
  have hlocks := B.notSynchronized
  have hP : va_P D vwCl [(mo, .inr (9, [.int (nI bw), .int (nI bh), .ref kk, .ref rp, .ref mi, .ref ba, .ref wn, .int (-1), .int 0, .int 0, .ref m1, .ref m2, .ref m3, .ref m4, .int 0, .int 0, .ref pl, .ref ta, .int 0, .int 0, .int (-1), .ref wa, .ref pz, .ref ih, .ref su, .ref th, .ref od, .ref fo, .ref co, .ref qu, .ref pa, .ref td, .ref wt, .ref il, .int 0, .int 0]))] s.heap := hP
  have hl := lv_entry ([.ref mo]) (n := 1) (Nat.le_of_ble_eq_true rfl)
  rw [lg_entry_eq]
  generalize (lg_sl ([.ref mo]) ++ List.replicate (1 - (lg_sl ([.ref mo])).length) Slot.unset).toArray = ls at hl ⊢
  have hl : lv_has ls 1 [(0, .ref mo)] := hl
  refine lv_aload_n hx hb dX9_undo_0 rfl (lv_at hl 0 rfl) ?_
  refine va_get (D := D) (ci := 9) (v := .int 0) (C := RX9) (T := TX9) (N := 36) hx hb hts (by decide +kernel) hown hK hP 0 rfl rfl 14 (by decide) (hts (.fieldLink RX9 112 "CellarPushersModel" "acts" "I") (by decide +kernel)) (fun _ h9 => h9) rfl dX9_undo_1 ?_
  refine lv_if_ne (tgt := 10) hx hb dX9_undo_4 (by decide) (fun h9 => absurd h9 (by decide : ¬ (¬ (0 : Int32) = (0 : Int32)))) (fun _ => ?_)
  refine lv_bipush (v := (-2)) hx hb dX9_undo_7 (by decide) ?_
  exact W.iret (v := (-2)) hx hb hr (fun t ht hW => ⟨_, rfl, rfl, ht⟩) (fun q hq => by cases hq) dX9_undo_9
set_option maxHeartbeats 4000000 in
set_option maxRecDepth 100000 in
theorem k_X9_redo (l : Launch) (D : va_G) (kI kZ kJ : ClassId)  (mo kk rp mi ba wn m1 m2 m3 m4 pl ta wa pz ih su th od fo co qu pa td wt il : Nat) (bw bh : Nat) (hbw : bw ≤ 8) (hbh : bh ≤ 8) : Met l yX9_redo wsX9_redo ({ frames := 0, cells := 0, slots := 0, locals := 0 }) (qR D kI kZ kJ [(mo, .inr (9, [.int (nI bw), .int (nI bh), .ref kk, .ref rp, .ref mi, .ref ba, .ref wn, .int (-1), .int 0, .int 0, .ref m1, .ref m2, .ref m3, .ref m4, .int 0, .int 0, .ref pl, .ref ta, .int 0, .int 0, .int (-1), .ref wa, .ref pz, .ref ih, .ref su, .ref th, .ref od, .ref fo, .ref co, .ref qu, .ref pa, .ref td, .ref wt, .ref il, .int 0, .int 0]))] [.ref mo]) (vp_Si (fun r : Int32 => r = -2)) 0 0 (fun _ => False) := by
  refine Met.ofW (cc := cX9_redo) (maxL := 1) (ret := (some .int)) (by decide) rfl ?_
  intro p e s m args below meth c s₁ B hml hv
  obtain ⟨rfl, hP, hK, hN⟩ := hv
  have hx := B.exec
  have hb := B.bytes
  have hr := B.returns
  have hts := atoms_spec (ws := wsX9_redo) B.pre
  have hown : s.vm.findClass RX9 = some m.cls := findClass_of_methodNamed B.named
  have hlocks := B.notSynchronized
  have hP : va_P D vwCl [(mo, .inr (9, [.int (nI bw), .int (nI bh), .ref kk, .ref rp, .ref mi, .ref ba, .ref wn, .int (-1), .int 0, .int 0, .ref m1, .ref m2, .ref m3, .ref m4, .int 0, .int 0, .ref pl, .ref ta, .int 0, .int 0, .int (-1), .ref wa, .ref pz, .ref ih, .ref su, .ref th, .ref od, .ref fo, .ref co, .ref qu, .ref pa, .ref td, .ref wt, .ref il, .int 0, .int 0]))] s.heap := hP
  have hl := lv_entry ([.ref mo]) (n := 1) (Nat.le_of_ble_eq_true rfl)
  rw [lg_entry_eq]
  generalize (lg_sl ([.ref mo]) ++ List.replicate (1 - (lg_sl ([.ref mo])).length) Slot.unset).toArray = ls at hl ⊢
  have hl : lv_has ls 1 [(0, .ref mo)] := hl
  refine lv_aload_n hx hb dX9_redo_0 rfl (lv_at hl 0 rfl) ?_
  refine va_get (D := D) (ci := 9) (v := .int 0) (C := RX9) (T := TX9) (N := 36) hx hb hts (by decide +kernel) hown hK hP 0 rfl rfl 15 (by decide) (hts (.fieldLink RX9 115 "CellarPushersModel" "undone" "I") (by decide +kernel)) (fun _ h9 => h9) rfl dX9_redo_1 ?_
  refine lv_if_ne (tgt := 10) hx hb dX9_redo_4 (by decide) (fun h9 => absurd h9 (by decide : ¬ (¬ (0 : Int32) = (0 : Int32)))) (fun _ => ?_)
  refine lv_bipush (v := (-2)) hx hb dX9_redo_7 (by decide) ?_
  exact W.iret (v := (-2)) hx hb hr (fun t ht hW => ⟨_, rfl, rfl, ht⟩) (fun q hq => by cases hq) dX9_redo_9
set_option maxHeartbeats 4000000 in
set_option maxRecDepth 100000 in
theorem k_X9_kind (l : Launch) (D : va_G) (kI kZ kJ : ClassId)  (mo kk rp mi ba wn m1 m2 m3 m4 pl ta wa pz ih su th od fo co qu pa td wt il : Nat) (bw bh : Nat) (hbw : bw ≤ 8) (hbh : bh ≤ 8) (x y : Int32) : Met l yX9_kind wsX9_kind ({ frames := 1, cells := 0, slots := 0, locals := 22 }) (qR D kI kZ kJ [(mo, .inr (9, [.int (nI bw), .int (nI bh), .ref kk, .ref rp, .ref mi, .ref ba, .ref wn, .int (-1), .int 0, .int 0, .ref m1, .ref m2, .ref m3, .ref m4, .int 0, .int 0, .ref pl, .ref ta, .int 0, .int 0, .int (-1), .ref wa, .ref pz, .ref ih, .ref su, .ref th, .ref od, .ref fo, .ref co, .ref qu, .ref pa, .ref td, .ref wt, .ref il, .int 0, .int 0])), (kk, .inl (kI, 64, .inl (fun _ => 0))), (mi, .inl (kZ, 8, .inl (fun _ => 0)))] [.ref mo, .int x, .int y]) (vp_Si (fun r : Int32 => q_if (q_in bw bh x y) 0 (-2) r)) 0 0 (fun _ => False) := by
  refine Met.ofW (cc := cX9_kind) (maxL := 3) (ret := (some .int)) (by decide) rfl ?_
  intro p e s m args below meth c s₁ B hml hv
  obtain ⟨rfl, hP, hK, hN⟩ := hv
  have hx := B.exec
  have hb := B.bytes
  have hr := B.returns
  have hts := atoms_spec (ws := wsX9_kind) B.pre
  have hown : s.vm.findClass RX9 = some m.cls := findClass_of_methodNamed B.named
  have hlocks := B.notSynchronized
  have hP : va_P D vwCl [(mo, .inr (9, [.int (nI bw), .int (nI bh), .ref kk, .ref rp, .ref mi, .ref ba, .ref wn, .int (-1), .int 0, .int 0, .ref m1, .ref m2, .ref m3, .ref m4, .int 0, .int 0, .ref pl, .ref ta, .int 0, .int 0, .int (-1), .ref wa, .ref pz, .ref ih, .ref su, .ref th, .ref od, .ref fo, .ref co, .ref qu, .ref pa, .ref td, .ref wt, .ref il, .int 0, .int 0])), (kk, .inl (kI, 64, .inl (fun _ => 0))), (mi, .inl (kZ, 8, .inl (fun _ => 0)))] s.heap := hP
  have hl := lv_entry ([.ref mo, .int x, .int y]) (n := 3) (Nat.le_of_ble_eq_true rfl)
  rw [lg_entry_eq]
  generalize (lg_sl ([.ref mo, .int x, .int y]) ++ List.replicate (3 - (lg_sl ([.ref mo, .int x, .int y])).length) Slot.unset).toArray = ls at hl ⊢
  have hl : lv_has ls 3 [(0, .ref mo), (1, .int x), (2, .int y)] := hl
  refine lv_aload_n hx hb dX9_kind_0 rfl (lv_at hl 0 rfl) ?_
  refine lv_iload_n hx hb dX9_kind_1 rfl (lv_at hl 1 rfl) ?_
  refine lv_iload_n hx hb dX9_kind_2 rfl (lv_at hl 2 rfl) ?_
  refine vp_callSi (qV_R (n := 2) (As := [.int x, .int y]) (rest := []) (wc := [(mo, .inr (9, [.int (nI bw), .int (nI bh), .ref kk, .ref rp, .ref mi, .ref ba, .ref wn, .int (-1), .int 0, .int 0, .ref m1, .ref m2, .ref m3, .ref m4, .int 0, .int 0, .ref pl, .ref ta, .int 0, .int 0, .int (-1), .ref wa, .ref pz, .ref ih, .ref su, .ref th, .ref od, .ref fo, .ref co, .ref qu, .ref pa, .ref td, .ref wt, .ref il, .int 0, .int 0]))]) ⟨hx, hb, hml, hown, hts⟩ hK hN hP [0] rfl (k_X9_isField l D kI kZ kJ mo kk rp mi ba wn m1 m2 m3 m4 pl ta wa pz ih su th od fo co qu pa td wt il bw bh hbw hbh x y) gX9_kind_X9_isField rfl rfl rfl (by decide +kernel) ⟨(Nat.le_of_ble_eq_true rfl), (Nat.le_of_ble_eq_true rfl)⟩ 0 9 rfl rfl rfl rfl hl.1 rfl (Nat.le_of_ble_eq_true rfl) dX9_kind_3 ⟨(Nat.le_of_ble_eq_true rfl), (Nat.le_of_ble_eq_true rfl)⟩).run (fun r hw => ?_)
  rcases hw with ⟨hin, rfl⟩ | ⟨hin, rfl⟩
  · skip
    obtain ⟨num, hnum, hnumE⟩ := q_num hbw hbh hin
    refine lv_if_eq (tgt := 22) hx hb dX9_kind_6 (by decide) (fun h9 => absurd h9 (by decide : ¬ ((1 : Int32) = (0 : Int32)))) (fun _ => ?_)
    refine lv_aload_n hx hb dX9_kind_9 rfl (lv_at hl 0 rfl) ?_
    refine lv_bipush (v := 8) hx hb dX9_kind_10 (by decide) ?_
    refine lv_iload_n hx hb dX9_kind_12 rfl (lv_at hl 2 rfl) ?_
    refine lv_imul hx hb dX9_kind_13 ?_
    refine lv_iload_n hx hb dX9_kind_14 rfl (lv_at hl 1 rfl) ?_
    refine lv_iadd hx hb dX9_kind_15 ?_
    refine lv_topi (fun z_1 ez_1 => ?_)
    obtain rfl : z_1 = nI num := ez_1.trans hnumE
    refine vp_callSi (qV_R (n := 1) (As := [.int (nI num)]) (rest := []) (wc := [(mo, .inr (9, [.int (nI bw), .int (nI bh), .ref kk, .ref rp, .ref mi, .ref ba, .ref wn, .int (-1), .int 0, .int 0, .ref m1, .ref m2, .ref m3, .ref m4, .int 0, .int 0, .ref pl, .ref ta, .int 0, .int 0, .int (-1), .ref wa, .ref pz, .ref ih, .ref su, .ref th, .ref od, .ref fo, .ref co, .ref qu, .ref pa, .ref td, .ref wt, .ref il, .int 0, .int 0])), (kk, .inl (kI, 64, .inl (fun _ => 0))), (mi, .inl (kZ, 8, .inl (fun _ => 0)))]) ⟨hx, hb, hml, hown, hts⟩ hK hN hP [0, 1, 2] rfl (k_X9_kindOf l D kI kZ kJ mo kk rp mi ba wn m1 m2 m3 m4 pl ta wa pz ih su th od fo co qu pa td wt il bw bh hbw hbh num hnum) gX9_kind_X9_kindOf rfl rfl rfl (by decide +kernel) ⟨(Nat.le_of_ble_eq_true rfl), (Nat.le_of_ble_eq_true rfl)⟩ 0 9 rfl rfl rfl rfl hl.1 rfl (Nat.le_of_ble_eq_true rfl) dX9_kind_16 ⟨(Nat.le_of_ble_eq_true rfl), (Nat.le_of_ble_eq_true rfl)⟩).run (fun r hw => ?_)
    obtain rfl := hw
    refine lv_goto (tgt := 24) hx hb dX9_kind_19 (by decide) ?_
    exact W.iret (v := 0) hx hb hr (fun t ht hW => ⟨_, rfl, (by first | exact q_ift hin | exact q_iff hin), ht⟩) (fun q hq => by cases hq) dX9_kind_24
  · skip
    refine lv_if_eq (tgt := 22) hx hb dX9_kind_6 (by decide) (fun _ => ?_) (fun h9 => absurd (by decide : (0 : Int32) = (0 : Int32)) h9)
    refine lv_bipush (v := (-2)) hx hb dX9_kind_22 (by decide) ?_
    exact W.iret (v := (-2)) hx hb hr (fun t ht hW => ⟨_, rfl, (by first | exact q_ift hin | exact q_iff hin), ht⟩) (fun q hq => by cases hq) dX9_kind_24
set_option maxHeartbeats 4000000 in
set_option maxRecDepth 100000 in
theorem k_X9_on (l : Launch) (D : va_G) (kI kZ kJ : ClassId)  (mo kk rp mi ba wn m1 m2 m3 m4 pl ta wa pz ih su th od fo co qu pa td wt il : Nat) (bw bh : Nat) (hbw : bw ≤ 8) (hbh : bh ≤ 8) (x y : Int32) : Met l yX9_on wsX9_on ({ frames := 1, cells := 0, slots := 0, locals := 22 }) (qR D kI kZ kJ [(mo, .inr (9, [.int (nI bw), .int (nI bh), .ref kk, .ref rp, .ref mi, .ref ba, .ref wn, .int (-1), .int 0, .int 0, .ref m1, .ref m2, .ref m3, .ref m4, .int 0, .int 0, .ref pl, .ref ta, .int 0, .int 0, .int (-1), .ref wa, .ref pz, .ref ih, .ref su, .ref th, .ref od, .ref fo, .ref co, .ref qu, .ref pa, .ref td, .ref wt, .ref il, .int 0, .int 0])), (ba, .inl (kZ, 64, .inl (fun _ => 0))), (wn, .inl (kZ, 64, .inl (fun _ => 0)))] [.ref mo, .int x, .int y]) (vp_Si (fun r : Int32 => q_if (q_in bw bh x y) 0 (-2) r)) 0 0 (fun _ => False) := by
  refine Met.ofW (cc := cX9_on) (maxL := 4) (ret := (some .int)) (by decide) rfl ?_
  intro p e s m args below meth c s₁ B hml hv
  obtain ⟨rfl, hP, hK, hN⟩ := hv
  have hx := B.exec
  have hb := B.bytes
  have hr := B.returns
  have hts := atoms_spec (ws := wsX9_on) B.pre
  have hown : s.vm.findClass RX9 = some m.cls := findClass_of_methodNamed B.named
  have hlocks := B.notSynchronized
  have hP : va_P D vwCl [(mo, .inr (9, [.int (nI bw), .int (nI bh), .ref kk, .ref rp, .ref mi, .ref ba, .ref wn, .int (-1), .int 0, .int 0, .ref m1, .ref m2, .ref m3, .ref m4, .int 0, .int 0, .ref pl, .ref ta, .int 0, .int 0, .int (-1), .ref wa, .ref pz, .ref ih, .ref su, .ref th, .ref od, .ref fo, .ref co, .ref qu, .ref pa, .ref td, .ref wt, .ref il, .int 0, .int 0])), (ba, .inl (kZ, 64, .inl (fun _ => 0))), (wn, .inl (kZ, 64, .inl (fun _ => 0)))] s.heap := hP
  have hl := lv_entry ([.ref mo, .int x, .int y]) (n := 4) (Nat.le_of_ble_eq_true rfl)
  rw [lg_entry_eq]
  generalize (lg_sl ([.ref mo, .int x, .int y]) ++ List.replicate (4 - (lg_sl ([.ref mo, .int x, .int y])).length) Slot.unset).toArray = ls at hl ⊢
  have hl : lv_has ls 4 [(0, .ref mo), (1, .int x), (2, .int y)] := hl
  refine lv_aload_n hx hb dX9_on_0 rfl (lv_at hl 0 rfl) ?_
  refine lv_iload_n hx hb dX9_on_1 rfl (lv_at hl 1 rfl) ?_
  refine lv_iload_n hx hb dX9_on_2 rfl (lv_at hl 2 rfl) ?_
  refine vp_callSi (qV_R (n := 2) (As := [.int x, .int y]) (rest := []) (wc := [(mo, .inr (9, [.int (nI bw), .int (nI bh), .ref kk, .ref rp, .ref mi, .ref ba, .ref wn, .int (-1), .int 0, .int 0, .ref m1, .ref m2, .ref m3, .ref m4, .int 0, .int 0, .ref pl, .ref ta, .int 0, .int 0, .int (-1), .ref wa, .ref pz, .ref ih, .ref su, .ref th, .ref od, .ref fo, .ref co, .ref qu, .ref pa, .ref td, .ref wt, .ref il, .int 0, .int 0]))]) ⟨hx, hb, hml, hown, hts⟩ hK hN hP [0] rfl (k_X9_isField l D kI kZ kJ mo kk rp mi ba wn m1 m2 m3 m4 pl ta wa pz ih su th od fo co qu pa td wt il bw bh hbw hbh x y) gX9_on_X9_isField rfl rfl rfl (by decide +kernel) ⟨(Nat.le_of_ble_eq_true rfl), (Nat.le_of_ble_eq_true rfl)⟩ 0 9 rfl rfl rfl rfl hl.1 rfl (Nat.le_of_ble_eq_true rfl) dX9_on_3 ⟨(Nat.le_of_ble_eq_true rfl), (Nat.le_of_ble_eq_true rfl)⟩).run (fun r hw => ?_)
  rcases hw with ⟨hin, rfl⟩ | ⟨hin, rfl⟩
  · skip
    obtain ⟨num, hnum, hnumE⟩ := q_num hbw hbh hin
    refine lv_if_ne (tgt := 12) hx hb dX9_on_6 (by decide) (fun _ => ?_) (fun h9 => absurd h9 (by decide : ¬ (1 : Int32) = (0 : Int32)))
    refine lv_bipush (v := 8) hx hb dX9_on_12 (by decide) ?_
    refine lv_iload_n hx hb dX9_on_14 rfl (lv_at hl 2 rfl) ?_
    refine lv_imul hx hb dX9_on_15 ?_
    refine lv_iload_n hx hb dX9_on_16 rfl (lv_at hl 1 rfl) ?_
    refine lv_iadd hx hb dX9_on_17 ?_
    refine lv_topi (fun z_1 ez_1 => ?_)
    obtain rfl : z_1 = nI num := ez_1.trans hnumE
    refine lv_istore_n (lv' := [(3, .int (nI num)), (0, .ref mo), (1, .int x), (2, .int y)]) hx hb dX9_on_18 rfl hl (by decide) rfl (fun ls hl => ?_)
    refine lv_aload_n hx hb dX9_on_19 rfl (lv_at hl 1 rfl) ?_
    refine va_get (D := D) (ci := 9) (v := .ref ba) (C := RX9) (T := TX9) (N := 36) hx hb hts (by decide +kernel) hown hK hP 0 rfl rfl 5 (by decide) (hts (.fieldLink RX9 20 "CellarPushersModel" "barrels" "[Z") (by decide +kernel)) (fun _ h9 => h9) rfl dX9_on_20 ?_
    refine lv_iload_n hx hb dX9_on_23 rfl (lv_at hl 0 rfl) ?_
    refine va_zald hx hb hK hP 1 1 rfl rfl (vp_in_nI (by have := hnum; omega) (by decide)) dX9_on_24 ?_
    refine lv_topi (fun z_2 ez_2 => ?_)
    obtain rfl : z_2 = 0 := ez_2
    refine lv_if_eq (tgt := 32) hx hb dX9_on_25 (by decide) (fun _ => ?_) (fun h9 => absurd (by decide : (0 : Int32) = (0 : Int32)) h9)
    refine lv_aload_n hx hb dX9_on_32 rfl (lv_at hl 1 rfl) ?_
    refine va_get (D := D) (ci := 9) (v := .int (-1)) (C := RX9) (T := TX9) (N := 36) hx hb hts (by decide +kernel) hown hK hP 0 rfl rfl 7 (by decide) (hts (.fieldLink RX9 26 "CellarPushersModel" "man" "I") (by decide +kernel)) (fun _ h9 => h9) rfl dX9_on_33 ?_
    refine lv_iload_n hx hb dX9_on_36 rfl (lv_at hl 0 rfl) ?_
    refine lv_icmp_ne (tgt := 44) hx hb dX9_on_37 (by decide) (fun _ => ?_) (fun h9 => absurd h9 (by have hq := hnum; exact fun h => q_ne1 (c := (-1)) (by decide) (by omega) h.symm))
    refine lv_iconst (v := 0) hx hb dX9_on_44 (by decide) ?_
    refine lv_aload_n hx hb dX9_on_45 rfl (lv_at hl 1 rfl) ?_
    refine va_get (D := D) (ci := 9) (v := .ref wn) (C := RX9) (T := TX9) (N := 36) hx hb hts (by decide +kernel) hown hK hP 0 rfl rfl 6 (by decide) (hts (.fieldLink RX9 23 "CellarPushersModel" "wanted" "[Z") (by decide +kernel)) (fun _ h9 => h9) rfl dX9_on_46 ?_
    refine lv_iload_n hx hb dX9_on_49 rfl (lv_at hl 0 rfl) ?_
    refine va_zald hx hb hK hP 2 1 rfl rfl (vp_in_nI (by have := hnum; omega) (by decide)) dX9_on_50 ?_
    refine lv_topi (fun z_3 ez_3 => ?_)
    obtain rfl : z_3 = 0 := ez_3
    refine lv_if_eq (tgt := 58) hx hb dX9_on_51 (by decide) (fun _ => ?_) (fun h9 => absurd (by decide : (0 : Int32) = (0 : Int32)) h9)
    refine lv_iconst (v := 0) hx hb dX9_on_58 (by decide) ?_
    refine lv_iadd hx hb dX9_on_59 ?_
    refine lv_topi (fun z_4 ez_4 => ?_)
    obtain rfl : z_4 = 0 := ez_4.trans (by decide)
    exact W.iret (v := 0) hx hb hr (fun t ht hW => ⟨_, rfl, (by first | exact q_ift hin | exact q_iff hin), ht⟩) (fun q hq => by cases hq) dX9_on_60
  · skip
    refine lv_if_ne (tgt := 12) hx hb dX9_on_6 (by decide) (fun h9 => absurd h9 (by decide : ¬ (¬ (0 : Int32) = (0 : Int32)))) (fun _ => ?_)
    refine lv_bipush (v := (-2)) hx hb dX9_on_9 (by decide) ?_
    exact W.iret (v := (-2)) hx hb hr (fun t ht hW => ⟨_, rfl, (by first | exact q_ift hin | exact q_iff hin), ht⟩) (fun q hq => by cases hq) dX9_on_11
set_option maxHeartbeats 4000000 in
set_option maxRecDepth 100000 in
theorem k_X9_far (l : Launch) (D : va_G) (kI kZ kJ : ClassId)  (mo kk rp mi ba wn m1 m2 m3 m4 pl ta wa pz ih su th od fo co qu pa td wt il : Nat) (bw bh : Nat) (hbw : bw ≤ 8) (hbh : bh ≤ 8) (x y : Int32) : Met l yX9_far wsX9_far ({ frames := 0, cells := 0, slots := 0, locals := 0 }) (qR D kI kZ kJ [(mo, .inr (9, [.int (nI bw), .int (nI bh), .ref kk, .ref rp, .ref mi, .ref ba, .ref wn, .int (-1), .int 0, .int 0, .ref m1, .ref m2, .ref m3, .ref m4, .int 0, .int 0, .ref pl, .ref ta, .int 0, .int 0, .int (-1), .ref wa, .ref pz, .ref ih, .ref su, .ref th, .ref od, .ref fo, .ref co, .ref qu, .ref pa, .ref td, .ref wt, .ref il, .int 0, .int 0]))] [.ref mo, .int x, .int y]) (vp_Si (fun r : Int32 => r = -2)) 0 0 (fun _ => False) := by
  refine Met.ofW (cc := cX9_far) (maxL := 3) (ret := (some .int)) (by decide) rfl ?_
  intro p e s m args below meth c s₁ B hml hv
  obtain ⟨rfl, hP, hK, hN⟩ := hv
  have hx := B.exec
  have hb := B.bytes
  have hr := B.returns
  have hts := atoms_spec (ws := wsX9_far) B.pre
  have hown : s.vm.findClass RX9 = some m.cls := findClass_of_methodNamed B.named
  have hlocks := B.notSynchronized
  have hP : va_P D vwCl [(mo, .inr (9, [.int (nI bw), .int (nI bh), .ref kk, .ref rp, .ref mi, .ref ba, .ref wn, .int (-1), .int 0, .int 0, .ref m1, .ref m2, .ref m3, .ref m4, .int 0, .int 0, .ref pl, .ref ta, .int 0, .int 0, .int (-1), .ref wa, .ref pz, .ref ih, .ref su, .ref th, .ref od, .ref fo, .ref co, .ref qu, .ref pa, .ref td, .ref wt, .ref il, .int 0, .int 0]))] s.heap := hP
  have hl := lv_entry ([.ref mo, .int x, .int y]) (n := 3) (Nat.le_of_ble_eq_true rfl)
  rw [lg_entry_eq]
  generalize (lg_sl ([.ref mo, .int x, .int y]) ++ List.replicate (3 - (lg_sl ([.ref mo, .int x, .int y])).length) Slot.unset).toArray = ls at hl ⊢
  have hl : lv_has ls 3 [(0, .ref mo), (1, .int x), (2, .int y)] := hl
  refine lv_aload_n hx hb dX9_far_0 rfl (lv_at hl 0 rfl) ?_
  refine va_get (D := D) (ci := 9) (v := .int (-1)) (C := RX9) (T := TX9) (N := 36) hx hb hts (by decide +kernel) hown hK hP 0 rfl rfl 7 (by decide) (hts (.fieldLink RX9 26 "CellarPushersModel" "man" "I") (by decide +kernel)) (fun _ h9 => h9) rfl dX9_far_1 ?_
  refine lv_if_lt (tgt := 16) hx hb dX9_far_4 (by decide) (fun _ => ?_) (fun h9 => absurd (by decide : ((-1) : Int32) < (0 : Int32)) h9)
  refine lv_bipush (v := (-2)) hx hb dX9_far_16 (by decide) ?_
  exact W.iret (v := (-2)) hx hb hr (fun t ht hW => ⟨_, rfl, rfl, ht⟩) (fun q hq => by cases hq) dX9_far_18
set_option maxHeartbeats 4000000 in
set_option maxRecDepth 100000 in
theorem k_X9_isDone (l : Launch) (D : va_G) (kI kZ kJ : ClassId)  (mo kk rp mi ba wn m1 m2 m3 m4 pl ta wa pz ih su th od fo co qu pa td wt il : Nat) (bw bh : Nat) (hbw : bw ≤ 8) (hbh : bh ≤ 8) : Met l yX9_isDone wsX9_isDone ({ frames := 0, cells := 0, slots := 0, locals := 0 }) (qR D kI kZ kJ [(mo, .inr (9, [.int (nI bw), .int (nI bh), .ref kk, .ref rp, .ref mi, .ref ba, .ref wn, .int (-1), .int 0, .int 0, .ref m1, .ref m2, .ref m3, .ref m4, .int 0, .int 0, .ref pl, .ref ta, .int 0, .int 0, .int (-1), .ref wa, .ref pz, .ref ih, .ref su, .ref th, .ref od, .ref fo, .ref co, .ref qu, .ref pa, .ref td, .ref wt, .ref il, .int 0, .int 0])), (wn, .inl (kZ, 64, .inl (fun _ => 0)))] [.ref mo]) (vp_Si (fun r : Int32 => r = 1)) 0 0 (fun _ => False) := by
  refine Met.ofW (cc := cX9_isDone) (maxL := 2) (ret := (some .boolean)) (by decide) rfl ?_
  intro p e s m args below meth c s₁ B hml hv
  obtain ⟨rfl, hP, hK, hN⟩ := hv
  have hx := B.exec
  have hb := B.bytes
  have hr := B.returns
  have hts := atoms_spec (ws := wsX9_isDone) B.pre
  have hown : s.vm.findClass RX9 = some m.cls := findClass_of_methodNamed B.named
  have hlocks := B.notSynchronized
  have hP : va_P D vwCl [(mo, .inr (9, [.int (nI bw), .int (nI bh), .ref kk, .ref rp, .ref mi, .ref ba, .ref wn, .int (-1), .int 0, .int 0, .ref m1, .ref m2, .ref m3, .ref m4, .int 0, .int 0, .ref pl, .ref ta, .int 0, .int 0, .int (-1), .ref wa, .ref pz, .ref ih, .ref su, .ref th, .ref od, .ref fo, .ref co, .ref qu, .ref pa, .ref td, .ref wt, .ref il, .int 0, .int 0])), (wn, .inl (kZ, 64, .inl (fun _ => 0)))] s.heap := hP
  have hl := lv_entry ([.ref mo]) (n := 2) (Nat.le_of_ble_eq_true rfl)
  rw [lg_entry_eq]
  generalize (lg_sl ([.ref mo]) ++ List.replicate (2 - (lg_sl ([.ref mo])).length) Slot.unset).toArray = ls at hl ⊢
  have hl : lv_has ls 2 [(0, .ref mo)] := hl
  refine lv_iconst (v := 0) hx hb dX9_isDone_0 (by decide) ?_
  refine lv_istore_n (lv' := [(1, .int 0), (0, .ref mo)]) hx hb dX9_isDone_1 rfl hl (by decide) rfl (fun ls hl => ?_)
  obtain ⟨i2, hk2, hl2⟩ : ∃ i2 : Nat, i2 ≤ 64 ∧ lv_has ls 2 [(1, .int (nI i2)), (0, .ref mo)] := ⟨0, by omega, hl⟩
  clear hl
  have hl := hl2
  clear hl2
  obtain ⟨f2, hf2⟩ : ∃ f2 : Nat, 64 < i2 + f2 := ⟨64 + 1, by omega⟩
  induction f2 generalizing i2 ls with
  | zero => exact absurd hf2 (by omega)
  | succ f2 ih2 =>
    refine lv_iload_n hx hb dX9_isDone_2 rfl (lv_at hl 0 rfl) ?_
    refine lv_bipush (v := 64) hx hb dX9_isDone_3 (by decide) ?_
    refine lv_icmp_ge (tgt := 34) hx hb dX9_isDone_5 (by decide) (fun c_1 => ?_) (fun c_1 => ?_)
    · skip
      have hi2 : i2 = 64 := by have := (nI_leI (a := 64) (b := i2) (by omega) (by omega)).mp c_1; omega
      refine lv_iconst (v := 1) hx hb dX9_isDone_34 (by decide) ?_
      exact W.zret (v := 1) (ty := .boolean) hx hb hr rfl (fun t ht hW => ⟨_, rfl, rfl, ht⟩) (fun q hq => by cases hq) dX9_isDone_35
    · skip
      have hi2 : i2 < 64 := by have := mt (nI_leI (a := 64) (b := i2) (by omega) (by omega)).mpr c_1; omega
      refine lv_aload_n hx hb dX9_isDone_8 rfl (lv_at hl 1 rfl) ?_
      refine va_get (D := D) (ci := 9) (v := .ref wn) (C := RX9) (T := TX9) (N := 36) hx hb hts (by decide +kernel) hown hK hP 0 rfl rfl 6 (by decide) (hts (.fieldLink RX9 23 "CellarPushersModel" "wanted" "[Z") (by decide +kernel)) (fun _ h9 => h9) rfl dX9_isDone_9 ?_
      refine lv_iload_n hx hb dX9_isDone_12 rfl (lv_at hl 0 rfl) ?_
      refine va_zald hx hb hK hP 1 1 rfl rfl (vp_in_nI (by have := hi2; omega) (by decide)) dX9_isDone_13 ?_
      refine lv_topi (fun z_2 ez_2 => ?_)
      obtain rfl : z_2 = 0 := ez_2
      refine lv_if_eq (tgt := 28) hx hb dX9_isDone_14 (by decide) (fun _ => ?_) (fun h9 => absurd (by decide : (0 : Int32) = (0 : Int32)) h9)
      refine lv_iinc (v := (nI (i2 + 1))) (lv' := [(1, .int (nI (i2 + 1))), (0, .ref mo)]) hx hb dX9_isDone_28 hl (k := 0) rfl (q_inc _) (by decide) rfl (fun ls hl => ?_)
      refine lv_goto (tgt := 2) hx hb dX9_isDone_31 (by decide) ?_
      exact ih2 (i2 := (i2 + 1)) (ls := ls) (hk2 := by omega) (hl := lv_sub hl [0, 1] rfl) (hf2 := by omega)
set_option maxHeartbeats 4000000 in
set_option maxRecDepth 100000 in
theorem k_X9_dead (l : Launch) (D : va_G) (kI kZ kJ : ClassId)  (mo kk rp mi ba wn m1 m2 m3 m4 pl ta wa pz ih su th od fo co qu pa td wt il : Nat) (bw bh : Nat) (hbw : bw ≤ 8) (hbh : bh ≤ 8) (x y : Int32) : Met l yX9_dead wsX9_dead ({ frames := 2, cells := 0, slots := 0, locals := 43 }) (qR D kI kZ kJ [(mo, .inr (9, [.int (nI bw), .int (nI bh), .ref kk, .ref rp, .ref mi, .ref ba, .ref wn, .int (-1), .int 0, .int 0, .ref m1, .ref m2, .ref m3, .ref m4, .int 0, .int 0, .ref pl, .ref ta, .int 0, .int 0, .int (-1), .ref wa, .ref pz, .ref ih, .ref su, .ref th, .ref od, .ref fo, .ref co, .ref qu, .ref pa, .ref td, .ref wt, .ref il, .int 0, .int 0])), (kk, .inl (kI, 64, .inl (fun _ => 0))), (mi, .inl (kZ, 8, .inl (fun _ => 0)))] [.ref mo, .int x, .int y]) (vp_Si (fun r : Int32 => q_if (q_in bw bh x y) 0 (-2) r)) 0 0 (fun _ => False) := by
  refine Met.ofW (cc := cX9_dead) (maxL := 3) (ret := (some .int)) (by decide) rfl ?_
  intro p e s m args below meth c s₁ B hml hv
  obtain ⟨rfl, hP, hK, hN⟩ := hv
  have hx := B.exec
  have hb := B.bytes
  have hr := B.returns
  have hts := atoms_spec (ws := wsX9_dead) B.pre
  have hown : s.vm.findClass RX9 = some m.cls := findClass_of_methodNamed B.named
  have hlocks := B.notSynchronized
  have hP : va_P D vwCl [(mo, .inr (9, [.int (nI bw), .int (nI bh), .ref kk, .ref rp, .ref mi, .ref ba, .ref wn, .int (-1), .int 0, .int 0, .ref m1, .ref m2, .ref m3, .ref m4, .int 0, .int 0, .ref pl, .ref ta, .int 0, .int 0, .int (-1), .ref wa, .ref pz, .ref ih, .ref su, .ref th, .ref od, .ref fo, .ref co, .ref qu, .ref pa, .ref td, .ref wt, .ref il, .int 0, .int 0])), (kk, .inl (kI, 64, .inl (fun _ => 0))), (mi, .inl (kZ, 8, .inl (fun _ => 0)))] s.heap := hP
  have hl := lv_entry ([.ref mo, .int x, .int y]) (n := 3) (Nat.le_of_ble_eq_true rfl)
  rw [lg_entry_eq]
  generalize (lg_sl ([.ref mo, .int x, .int y]) ++ List.replicate (3 - (lg_sl ([.ref mo, .int x, .int y])).length) Slot.unset).toArray = ls at hl ⊢
  have hl : lv_has ls 3 [(0, .ref mo), (1, .int x), (2, .int y)] := hl
  refine lv_aload_n hx hb dX9_dead_0 rfl (lv_at hl 0 rfl) ?_
  refine lv_iload_n hx hb dX9_dead_1 rfl (lv_at hl 1 rfl) ?_
  refine lv_iload_n hx hb dX9_dead_2 rfl (lv_at hl 2 rfl) ?_
  refine vp_callSi (qV_R (n := 2) (As := [.int x, .int y]) (rest := []) (wc := [(mo, .inr (9, [.int (nI bw), .int (nI bh), .ref kk, .ref rp, .ref mi, .ref ba, .ref wn, .int (-1), .int 0, .int 0, .ref m1, .ref m2, .ref m3, .ref m4, .int 0, .int 0, .ref pl, .ref ta, .int 0, .int 0, .int (-1), .ref wa, .ref pz, .ref ih, .ref su, .ref th, .ref od, .ref fo, .ref co, .ref qu, .ref pa, .ref td, .ref wt, .ref il, .int 0, .int 0]))]) ⟨hx, hb, hml, hown, hts⟩ hK hN hP [0] rfl (k_X9_isField l D kI kZ kJ mo kk rp mi ba wn m1 m2 m3 m4 pl ta wa pz ih su th od fo co qu pa td wt il bw bh hbw hbh x y) gX9_dead_X9_isField rfl rfl rfl (by decide +kernel) ⟨(Nat.le_of_ble_eq_true rfl), (Nat.le_of_ble_eq_true rfl)⟩ 0 9 rfl rfl rfl rfl hl.1 rfl (Nat.le_of_ble_eq_true rfl) dX9_dead_3 ⟨(Nat.le_of_ble_eq_true rfl), (Nat.le_of_ble_eq_true rfl)⟩).run (fun r hw => ?_)
  rcases hw with ⟨hin, rfl⟩ | ⟨hin, rfl⟩
  · skip
    obtain ⟨num, hnum, hnumE⟩ := q_num hbw hbh hin
    refine lv_if_ne (tgt := 14) hx hb dX9_dead_6 (by decide) (fun _ => ?_) (fun h9 => absurd h9 (by decide : ¬ (1 : Int32) = (0 : Int32)))
    refine lv_aload_n hx hb dX9_dead_14 rfl (lv_at hl 0 rfl) ?_
    refine lv_bipush (v := 8) hx hb dX9_dead_15 (by decide) ?_
    refine lv_iload_n hx hb dX9_dead_17 rfl (lv_at hl 2 rfl) ?_
    refine lv_imul hx hb dX9_dead_18 ?_
    refine lv_iload_n hx hb dX9_dead_19 rfl (lv_at hl 1 rfl) ?_
    refine lv_iadd hx hb dX9_dead_20 ?_
    refine lv_topi (fun z_1 ez_1 => ?_)
    obtain rfl : z_1 = nI num := ez_1.trans hnumE
    refine vp_callSi (qV_R (n := 1) (As := [.int (nI num)]) (rest := []) (wc := [(mo, .inr (9, [.int (nI bw), .int (nI bh), .ref kk, .ref rp, .ref mi, .ref ba, .ref wn, .int (-1), .int 0, .int 0, .ref m1, .ref m2, .ref m3, .ref m4, .int 0, .int 0, .ref pl, .ref ta, .int 0, .int 0, .int (-1), .ref wa, .ref pz, .ref ih, .ref su, .ref th, .ref od, .ref fo, .ref co, .ref qu, .ref pa, .ref td, .ref wt, .ref il, .int 0, .int 0])), (kk, .inl (kI, 64, .inl (fun _ => 0))), (mi, .inl (kZ, 8, .inl (fun _ => 0)))]) ⟨hx, hb, hml, hown, hts⟩ hK hN hP [0, 1, 2] rfl (k_X9_isDead l D kI kZ kJ mo kk rp mi ba wn m1 m2 m3 m4 pl ta wa pz ih su th od fo co qu pa td wt il bw bh hbw hbh num hnum) gX9_dead_X9_isDead rfl rfl rfl (by decide +kernel) ⟨(Nat.le_of_ble_eq_true rfl), (Nat.le_of_ble_eq_true rfl)⟩ 0 9 rfl rfl rfl rfl hl.1 rfl (Nat.le_of_ble_eq_true rfl) dX9_dead_21 ⟨(Nat.le_of_ble_eq_true rfl), (Nat.le_of_ble_eq_true rfl)⟩).run (fun r hw => ?_)
    obtain rfl := hw
    refine lv_if_eq (tgt := 31) hx hb dX9_dead_24 (by decide) (fun _ => ?_) (fun h9 => absurd (by decide : (0 : Int32) = (0 : Int32)) h9)
    refine lv_iconst (v := 0) hx hb dX9_dead_31 (by decide) ?_
    exact W.iret (v := 0) hx hb hr (fun t ht hW => ⟨_, rfl, (by first | exact q_ift hin | exact q_iff hin), ht⟩) (fun q hq => by cases hq) dX9_dead_32
  · skip
    refine lv_if_ne (tgt := 14) hx hb dX9_dead_6 (by decide) (fun h9 => absurd h9 (by decide : ¬ (¬ (0 : Int32) = (0 : Int32)))) (fun _ => ?_)
    refine lv_bipush (v := (-2)) hx hb dX9_dead_9 (by decide) ?_
    refine lv_goto (tgt := 32) hx hb dX9_dead_11 (by decide) ?_
    exact W.iret (v := (-2)) hx hb hr (fun t ht hW => ⟨_, rfl, (by first | exact q_ift hin | exact q_iff hin), ht⟩) (fun q hq => by cases hq) dX9_dead_32
set_option maxHeartbeats 4000000 in
set_option maxRecDepth 100000 in
theorem k_X9_held (l : Launch) (D : va_G) (kI kZ kJ : ClassId)  (mo kk rp mi ba wn m1 m2 m3 m4 pl ta wa pz ih su th od fo co qu pa td wt il : Nat) (bw bh : Nat) (hbw : bw ≤ 8) (hbh : bh ≤ 8) (x y : Int32) (sz : Nat) : Met l yX9_held wsX9_held ({ frames := 1, cells := 0, slots := 0, locals := 23 }) (qW D kI kZ kJ [(mo, .inr (9, [.int (nI bw), .int (nI bh), .ref kk, .ref rp, .ref mi, .ref ba, .ref wn, .int (-1), .int 0, .int 0, .ref m1, .ref m2, .ref m3, .ref m4, .int 0, .int 0, .ref pl, .ref ta, .int 0, .int 0, .int (-1), .ref wa, .ref pz, .ref ih, .ref su, .ref th, .ref od, .ref fo, .ref co, .ref qu, .ref pa, .ref td, .ref wt, .ref il, .int 0, .int 0])), (ba, .inl (kZ, 64, .inl (fun _ => 0))), (ih, .inl (kZ, 64, .inl (fun _ => 0)))] sz [.ref mo, .int x, .int y]) (va_Qi (fun (r : Int32) (u : Unit) => q_if (q_in bw bh x y) 0 (-2) r) (qB D (fun u : Unit => []) (va_A [(mo, .inr (9, [.int (nI bw), .int (nI bh), .ref kk, .ref rp, .ref mi, .ref ba, .ref wn, .int (-1), .int 0, .int 0, .ref m1, .ref m2, .ref m3, .ref m4, .int 0, .int 0, .ref pl, .ref ta, .int 0, .int 0, .int (-1), .ref wa, .ref pz, .ref ih, .ref su, .ref th, .ref od, .ref fo, .ref co, .ref qu, .ref pa, .ref td, .ref wt, .ref il, .int 0, .int 0])), (ba, .inl (kZ, 64, .inl (fun _ => 0))), (ih, .inl (kZ, 64, .inl (fun _ => 0)))] sz)) (va_A [(mo, .inr (9, [.int (nI bw), .int (nI bh), .ref kk, .ref rp, .ref mi, .ref ba, .ref wn, .int (-1), .int 0, .int 0, .ref m1, .ref m2, .ref m3, .ref m4, .int 0, .int 0, .ref pl, .ref ta, .int 0, .int 0, .int (-1), .ref wa, .ref pz, .ref ih, .ref su, .ref th, .ref od, .ref fo, .ref co, .ref qu, .ref pa, .ref td, .ref wt, .ref il, .int 0, .int 0])), (ba, .inl (kZ, 64, .inl (fun _ => 0))), (ih, .inl (kZ, 64, .inl (fun _ => 0)))] sz)) 0 0 (va_A [(mo, .inr (9, [.int (nI bw), .int (nI bh), .ref kk, .ref rp, .ref mi, .ref ba, .ref wn, .int (-1), .int 0, .int 0, .ref m1, .ref m2, .ref m3, .ref m4, .int 0, .int 0, .ref pl, .ref ta, .int 0, .int 0, .int (-1), .ref wa, .ref pz, .ref ih, .ref su, .ref th, .ref od, .ref fo, .ref co, .ref qu, .ref pa, .ref td, .ref wt, .ref il, .int 0, .int 0])), (ba, .inl (kZ, 64, .inl (fun _ => 0))), (ih, .inl (kZ, 64, .inl (fun _ => 0)))] sz) := by
  refine Met.ofW (cc := cX9_held) (maxL := 3) (ret := (some .int)) (by decide) rfl ?_
  intro p e s m args below meth c s₁ B hml hv
  obtain ⟨rfl, hsz, hP, hK, hD0, hN⟩ := hv
  have hx := B.exec
  have hb := B.bytes
  have hr := B.returns
  have hts := atoms_spec (ws := wsX9_held) B.pre
  have hown : s.vm.findClass RX9 = some m.cls := findClass_of_methodNamed B.named
  have hlocks := B.notSynchronized
  subst hsz
  have hD := hD0.self (sz := s.heap.size)
  generalize hAe : va_A [(mo, .inr (9, [.int (nI bw), .int (nI bh), .ref kk, .ref rp, .ref mi, .ref ba, .ref wn, .int (-1), .int 0, .int 0, .ref m1, .ref m2, .ref m3, .ref m4, .int 0, .int 0, .ref pl, .ref ta, .int 0, .int 0, .int (-1), .ref wa, .ref pz, .ref ih, .ref su, .ref th, .ref od, .ref fo, .ref co, .ref qu, .ref pa, .ref td, .ref wt, .ref il, .int 0, .int 0])), (ba, .inl (kZ, 64, .inl (fun _ => 0))), (ih, .inl (kZ, 64, .inl (fun _ => 0)))] s.heap.size = A at hD ⊢
  have hA : ∀ q : Nat, s.heap.size ≤ q → A q := fun q h => by rw [← hAe]; exact Or.inr h
  have hS : va_S A s.heap s.heap [] := va_S.rf
  have hP : va_P D vwCl [(mo, .inr (9, [.int (nI bw), .int (nI bh), .ref kk, .ref rp, .ref mi, .ref ba, .ref wn, .int (-1), .int 0, .int 0, .ref m1, .ref m2, .ref m3, .ref m4, .int 0, .int 0, .ref pl, .ref ta, .int 0, .int 0, .int (-1), .ref wa, .ref pz, .ref ih, .ref su, .ref th, .ref od, .ref fo, .ref co, .ref qu, .ref pa, .ref td, .ref wt, .ref il, .int 0, .int 0])), (ba, .inl (kZ, 64, .inl (fun _ => 0))), (ih, .inl (kZ, 64, .inl (fun _ => 0)))] s.heap := hP
  have hl := lv_entry ([.ref mo, .int x, .int y]) (n := 3) (Nat.le_of_ble_eq_true rfl)
  rw [lg_entry_eq]
  generalize (lg_sl ([.ref mo, .int x, .int y]) ++ List.replicate (3 - (lg_sl ([.ref mo, .int x, .int y])).length) Slot.unset).toArray = ls at hl ⊢
  have hl : lv_has ls 3 [(0, .ref mo), (1, .int x), (2, .int y)] := hl
  refine lv_aload_n hx hb dX9_held_0 rfl (lv_at hl 0 rfl) ?_
  refine lv_iload_n hx hb dX9_held_1 rfl (lv_at hl 1 rfl) ?_
  refine lv_iload_n hx hb dX9_held_2 rfl (lv_at hl 2 rfl) ?_
  refine vp_callSi (qV_R (n := 2) (As := [.int x, .int y]) (rest := []) (wc := [(mo, .inr (9, [.int (nI bw), .int (nI bh), .ref kk, .ref rp, .ref mi, .ref ba, .ref wn, .int (-1), .int 0, .int 0, .ref m1, .ref m2, .ref m3, .ref m4, .int 0, .int 0, .ref pl, .ref ta, .int 0, .int 0, .int (-1), .ref wa, .ref pz, .ref ih, .ref su, .ref th, .ref od, .ref fo, .ref co, .ref qu, .ref pa, .ref td, .ref wt, .ref il, .int 0, .int 0]))]) ⟨hx, hb, hml, hown, hts⟩ hK hN hP [0] rfl (k_X9_isField l D kI kZ kJ mo kk rp mi ba wn m1 m2 m3 m4 pl ta wa pz ih su th od fo co qu pa td wt il bw bh hbw hbh x y) gX9_held_X9_isField rfl rfl rfl (by decide +kernel) ⟨(Nat.le_of_ble_eq_true rfl), (Nat.le_of_ble_eq_true rfl)⟩ 0 9 rfl rfl rfl rfl hl.1 rfl (Nat.le_of_ble_eq_true rfl) dX9_held_3 ⟨(Nat.le_of_ble_eq_true rfl), (Nat.le_of_ble_eq_true rfl)⟩).run (fun r hw => ?_)
  rcases hw with ⟨hin, rfl⟩ | ⟨hin, rfl⟩
  · skip
    obtain ⟨num, hnum, hnumE⟩ := q_num hbw hbh hin
    refine lv_if_ne (tgt := 12) hx hb dX9_held_6 (by decide) (fun _ => ?_) (fun h9 => absurd h9 (by decide : ¬ (1 : Int32) = (0 : Int32)))
    refine lv_aload_n hx hb dX9_held_12 rfl (lv_at hl 0 rfl) ?_
    refine qc_v (wr := []) (qV_W (n := 0) (As := []) (rest := []) (wc := [(mo, .inr (9, [.int (nI bw), .int (nI bh), .ref kk, .ref rp, .ref mi, .ref ba, .ref wn, .int (-1), .int 0, .int 0, .ref m1, .ref m2, .ref m3, .ref m4, .int 0, .int 0, .ref pl, .ref ta, .int 0, .int 0, .int (-1), .ref wa, .ref pz, .ref ih, .ref su, .ref th, .ref od, .ref fo, .ref co, .ref qu, .ref pa, .ref td, .ref wt, .ref il, .int 0, .int 0])), (ba, .inl (kZ, 64, .inl (fun _ => 0))), (ih, .inl (kZ, 64, .inl (fun _ => 0)))]) ⟨hx, hb, hml, hown, hts⟩ hK hN hP hD [0, 1, 2] rfl rfl (by decide) (k_X9_hold l D kI kZ kJ mo kk rp mi ba wn m1 m2 m3 m4 pl ta wa pz ih su th od fo co qu pa td wt il bw bh hbw hbh s.heap.size) gX9_held_X9_hold rfl rfl rfl (by decide +kernel) ⟨(Nat.le_of_ble_eq_true rfl), (Nat.le_of_ble_eq_true rfl)⟩ 0 9 rfl rfl rfl rfl hl.1 rfl (Nat.le_of_ble_eq_true rfl) dX9_held_13 ⟨(Nat.le_of_ble_eq_true rfl), (Nat.le_of_ble_eq_true rfl)⟩) hP hD hS hA [0, 1, 2] [] rfl rfl (by decide) (by decide) (fun u H locs hw hP hD hS => ?_)
    have hz := hw
    have hP : va_P D vwCl [(mo, .inr (9, [.int (nI bw), .int (nI bh), .ref kk, .ref rp, .ref mi, .ref ba, .ref wn, .int (-1), .int 0, .int 0, .ref m1, .ref m2, .ref m3, .ref m4, .int 0, .int 0, .ref pl, .ref ta, .int 0, .int 0, .int (-1), .ref wa, .ref pz, .ref ih, .ref su, .ref th, .ref od, .ref fo, .ref co, .ref qu, .ref pa, .ref td, .ref wt, .ref il, .int 0, .int 0])), (ih, .inl (kZ, 64, .inl u))] H := hP
    have hD : va_D A [(mo, .inr (9, [.int (nI bw), .int (nI bh), .ref kk, .ref rp, .ref mi, .ref ba, .ref wn, .int (-1), .int 0, .int 0, .ref m1, .ref m2, .ref m3, .ref m4, .int 0, .int 0, .ref pl, .ref ta, .int 0, .int 0, .int (-1), .ref wa, .ref pz, .ref ih, .ref su, .ref th, .ref od, .ref fo, .ref co, .ref qu, .ref pa, .ref td, .ref wt, .ref il, .int 0, .int 0])), (ih, .inl (kZ, 64, .inl u))] := hD
    refine lv_aload_n hx hb dX9_held_16 rfl (lv_at hl 0 rfl) ?_
    refine va_get (D := D) (ci := 9) (v := .ref ih) (C := RX9) (T := TX9) (N := 36) hx hb hts (by decide +kernel) hown hK hP 0 rfl rfl 23 (by decide) (hts (.fieldLink RX9 58 "CellarPushersModel" "isHeld" "[Z") (by decide +kernel)) (fun _ h9 => h9) rfl dX9_held_17 ?_
    refine lv_bipush (v := 8) hx hb dX9_held_20 (by decide) ?_
    refine lv_iload_n hx hb dX9_held_22 rfl (lv_at hl 2 rfl) ?_
    refine lv_imul hx hb dX9_held_23 ?_
    refine lv_iload_n hx hb dX9_held_24 rfl (lv_at hl 1 rfl) ?_
    refine lv_iadd hx hb dX9_held_25 ?_
    refine lv_topi (fun z_1 ez_1 => ?_)
    obtain rfl : z_1 = nI num := ez_1.trans hnumE
    refine va_zald hx hb hK hP 1 1 rfl rfl (vp_in_nI (by have := hnum; omega) (by decide)) dX9_held_26 ?_
    refine lv_topi (fun z_2 ez_2 => ?_)
    obtain rfl : z_2 = 0 := ez_2.trans (hz _)
    refine lv_if_eq (tgt := 34) hx hb dX9_held_27 (by decide) (fun _ => ?_) (fun h9 => absurd (by decide : (0 : Int32) = (0 : Int32)) h9)
    refine lv_iconst (v := 0) hx hb dX9_held_34 (by decide) ?_
    have hP9 := hP.sub (ws' := []) [] rfl
    have hD9 := hD.sub (ws' := []) [] (by decide) rfl
    exact W.iret (v := 0) hx hb hr (fun t ht hW => ⟨⟨_, (), rfl, (by first | exact q_ift hin | exact q_iff hin), ⟨by rw [ht]; exact hP9, hD9⟩⟩, hS.F ht⟩) hS.2.2 dX9_held_35
  · skip
    refine lv_if_ne (tgt := 12) hx hb dX9_held_6 (by decide) (fun h9 => absurd h9 (by decide : ¬ (¬ (0 : Int32) = (0 : Int32)))) (fun _ => ?_)
    refine lv_bipush (v := (-2)) hx hb dX9_held_9 (by decide) ?_
    have hP9 := hP.sub (ws' := []) [] rfl
    have hD9 := hD.sub (ws' := []) [] (by decide) rfl
    exact W.iret (v := (-2)) hx hb hr (fun t ht hW => ⟨⟨_, (), rfl, (by first | exact q_ift hin | exact q_iff hin), ⟨by rw [ht]; exact hP9, hD9⟩⟩, hS.F ht⟩) hS.2.2 dX9_held_11
set_option maxHeartbeats 4000000 in
set_option maxRecDepth 100000 in
theorem k_X9_spoilt (l : Launch) (D : va_G) (kI kZ kJ : ClassId)  (mo kk rp mi ba wn m1 m2 m3 m4 pl ta wa pz ih su th od fo co qu pa td wt il : Nat) (bw bh : Nat) (hbw : bw ≤ 8) (hbh : bh ≤ 8) : Met l yX9_spoilt wsX9_spoilt ({ frames := 1, cells := 0, slots := 0, locals := 20 }) (qR D kI kZ kJ [(mo, .inr (9, [.int (nI bw), .int (nI bh), .ref kk, .ref rp, .ref mi, .ref ba, .ref wn, .int (-1), .int 0, .int 0, .ref m1, .ref m2, .ref m3, .ref m4, .int 0, .int 0, .ref pl, .ref ta, .int 0, .int 0, .int (-1), .ref wa, .ref pz, .ref ih, .ref su, .ref th, .ref od, .ref fo, .ref co, .ref qu, .ref pa, .ref td, .ref wt, .ref il, .int 0, .int 0]))] [.ref mo]) (vp_Si (fun r : Int32 => r = -2)) 0 0 (fun _ => False) := by
  refine Met.ofW (cc := cX9_spoilt) (maxL := 2) (ret := (some .int)) (by decide) rfl ?_
  intro p e s m args below meth c s₁ B hml hv
  obtain ⟨rfl, hP, hK, hN⟩ := hv
  have hx := B.exec
  have hb := B.bytes
  have hr := B.returns
  have hts := atoms_spec (ws := wsX9_spoilt) B.pre
  have hown : s.vm.findClass RX9 = some m.cls := findClass_of_methodNamed B.named
  have hlocks := B.notSynchronized
  have hP : va_P D vwCl [(mo, .inr (9, [.int (nI bw), .int (nI bh), .ref kk, .ref rp, .ref mi, .ref ba, .ref wn, .int (-1), .int 0, .int 0, .ref m1, .ref m2, .ref m3, .ref m4, .int 0, .int 0, .ref pl, .ref ta, .int 0, .int 0, .int (-1), .ref wa, .ref pz, .ref ih, .ref su, .ref th, .ref od, .ref fo, .ref co, .ref qu, .ref pa, .ref td, .ref wt, .ref il, .int 0, .int 0]))] s.heap := hP
  have hl := lv_entry ([.ref mo]) (n := 2) (Nat.le_of_ble_eq_true rfl)
  rw [lg_entry_eq]
  generalize (lg_sl ([.ref mo]) ++ List.replicate (2 - (lg_sl ([.ref mo])).length) Slot.unset).toArray = ls at hl ⊢
  have hl : lv_has ls 2 [(0, .ref mo)] := hl
  refine lv_aload_n hx hb dX9_spoilt_0 rfl (lv_at hl 0 rfl) ?_
  refine vp_callSi (qV_R (n := 0) (As := []) (rest := []) (wc := [(mo, .inr (9, [.int (nI bw), .int (nI bh), .ref kk, .ref rp, .ref mi, .ref ba, .ref wn, .int (-1), .int 0, .int 0, .ref m1, .ref m2, .ref m3, .ref m4, .int 0, .int 0, .ref pl, .ref ta, .int 0, .int 0, .int (-1), .ref wa, .ref pz, .ref ih, .ref su, .ref th, .ref od, .ref fo, .ref co, .ref qu, .ref pa, .ref td, .ref wt, .ref il, .int 0, .int 0]))]) ⟨hx, hb, hml, hown, hts⟩ hK hN hP [0] rfl (k_X9_isReady l D kI kZ kJ mo kk rp mi ba wn m1 m2 m3 m4 pl ta wa pz ih su th od fo co qu pa td wt il bw bh hbw hbh) gX9_spoilt_X9_isReady rfl rfl rfl (by decide +kernel) ⟨(Nat.le_of_ble_eq_true rfl), (Nat.le_of_ble_eq_true rfl)⟩ 0 9 rfl rfl rfl rfl hl.1 rfl (Nat.le_of_ble_eq_true rfl) dX9_spoilt_1 ⟨(Nat.le_of_ble_eq_true rfl), (Nat.le_of_ble_eq_true rfl)⟩).run (fun r hw => ?_)
  obtain rfl := hw
  refine lv_if_ne (tgt := 10) hx hb dX9_spoilt_4 (by decide) (fun h9 => absurd h9 (by decide : ¬ (¬ (0 : Int32) = (0 : Int32)))) (fun _ => ?_)
  refine lv_bipush (v := (-2)) hx hb dX9_spoilt_7 (by decide) ?_
  exact W.iret (v := (-2)) hx hb hr (fun t ht hW => ⟨_, rfl, rfl, ht⟩) (fun q hq => by cases hq) dX9_spoilt_9
set_option maxHeartbeats 4000000 in
set_option maxRecDepth 100000 in
theorem k_X9_why (l : Launch) (D : va_G) (kI kZ kJ : ClassId)  (mo kk rp mi ba wn m1 m2 m3 m4 pl ta wa pz ih su th od fo co qu pa td wt il : Nat) (bw bh : Nat) (hbw : bw ≤ 8) (hbh : bh ≤ 8) : Met l yX9_why wsX9_why ({ frames := 0, cells := 0, slots := 0, locals := 0 }) (qR D kI kZ kJ [(mo, .inr (9, [.int (nI bw), .int (nI bh), .ref kk, .ref rp, .ref mi, .ref ba, .ref wn, .int (-1), .int 0, .int 0, .ref m1, .ref m2, .ref m3, .ref m4, .int 0, .int 0, .ref pl, .ref ta, .int 0, .int 0, .int (-1), .ref wa, .ref pz, .ref ih, .ref su, .ref th, .ref od, .ref fo, .ref co, .ref qu, .ref pa, .ref td, .ref wt, .ref il, .int 0, .int 0]))] [.ref mo]) (vp_Si (fun r : Int32 => r = -1)) 0 0 (fun _ => False) := by
  refine Met.ofW (cc := cX9_why) (maxL := 1) (ret := (some .int)) (by decide) rfl ?_
  intro p e s m args below meth c s₁ B hml hv
  obtain ⟨rfl, hP, hK, hN⟩ := hv
  have hx := B.exec
  have hb := B.bytes
  have hr := B.returns
  have hts := atoms_spec (ws := wsX9_why) B.pre
  have hown : s.vm.findClass RX9 = some m.cls := findClass_of_methodNamed B.named
  have hlocks := B.notSynchronized
  have hP : va_P D vwCl [(mo, .inr (9, [.int (nI bw), .int (nI bh), .ref kk, .ref rp, .ref mi, .ref ba, .ref wn, .int (-1), .int 0, .int 0, .ref m1, .ref m2, .ref m3, .ref m4, .int 0, .int 0, .ref pl, .ref ta, .int 0, .int 0, .int (-1), .ref wa, .ref pz, .ref ih, .ref su, .ref th, .ref od, .ref fo, .ref co, .ref qu, .ref pa, .ref td, .ref wt, .ref il, .int 0, .int 0]))] s.heap := hP
  have hl := lv_entry ([.ref mo]) (n := 1) (Nat.le_of_ble_eq_true rfl)
  rw [lg_entry_eq]
  generalize (lg_sl ([.ref mo]) ++ List.replicate (1 - (lg_sl ([.ref mo])).length) Slot.unset).toArray = ls at hl ⊢
  have hl : lv_has ls 1 [(0, .ref mo)] := hl
  refine lv_aload_n hx hb dX9_why_0 rfl (lv_at hl 0 rfl) ?_
  refine va_get (D := D) (ci := 9) (v := .int (-1)) (C := RX9) (T := TX9) (N := 36) hx hb hts (by decide +kernel) hown hK hP 0 rfl rfl 20 (by decide) (hts (.fieldLink RX9 49 "CellarPushersModel" "why" "I") (by decide +kernel)) (fun _ h9 => h9) rfl dX9_why_1 ?_
  exact W.iret (v := (-1)) hx hb hr (fun t ht hW => ⟨_, rfl, rfl, ht⟩) (fun q hq => by cases hq) dX9_why_4
set_option maxHeartbeats 4000000 in
set_option maxRecDepth 100000 in
theorem k_X9_low (l : Launch) (D : va_G) (kI kZ kJ : ClassId)  (mo kk rp mi ba wn m1 m2 m3 m4 pl ta wa pz ih su th od fo co qu pa td wt il : Nat) (bw bh : Nat) (hbw : bw ≤ 8) (hbh : bh ≤ 8) : Met l yX9_low wsX9_low ({ frames := 1, cells := 0, slots := 0, locals := 20 }) (qR D kI kZ kJ [(mo, .inr (9, [.int (nI bw), .int (nI bh), .ref kk, .ref rp, .ref mi, .ref ba, .ref wn, .int (-1), .int 0, .int 0, .ref m1, .ref m2, .ref m3, .ref m4, .int 0, .int 0, .ref pl, .ref ta, .int 0, .int 0, .int (-1), .ref wa, .ref pz, .ref ih, .ref su, .ref th, .ref od, .ref fo, .ref co, .ref qu, .ref pa, .ref td, .ref wt, .ref il, .int 0, .int 0]))] [.ref mo]) (vp_Si (fun r : Int32 => r = -2)) 0 0 (fun _ => False) := by
  refine Met.ofW (cc := cX9_low) (maxL := 6) (ret := (some .int)) (by decide) rfl ?_
  intro p e s m args below meth c s₁ B hml hv
  obtain ⟨rfl, hP, hK, hN⟩ := hv
  have hx := B.exec
  have hb := B.bytes
  have hr := B.returns
  have hts := atoms_spec (ws := wsX9_low) B.pre
  have hown : s.vm.findClass RX9 = some m.cls := findClass_of_methodNamed B.named
  have hlocks := B.notSynchronized
  have hP : va_P D vwCl [(mo, .inr (9, [.int (nI bw), .int (nI bh), .ref kk, .ref rp, .ref mi, .ref ba, .ref wn, .int (-1), .int 0, .int 0, .ref m1, .ref m2, .ref m3, .ref m4, .int 0, .int 0, .ref pl, .ref ta, .int 0, .int 0, .int (-1), .ref wa, .ref pz, .ref ih, .ref su, .ref th, .ref od, .ref fo, .ref co, .ref qu, .ref pa, .ref td, .ref wt, .ref il, .int 0, .int 0]))] s.heap := hP
  have hl := lv_entry ([.ref mo]) (n := 6) (Nat.le_of_ble_eq_true rfl)
  rw [lg_entry_eq]
  generalize (lg_sl ([.ref mo]) ++ List.replicate (6 - (lg_sl ([.ref mo])).length) Slot.unset).toArray = ls at hl ⊢
  have hl : lv_has ls 6 [(0, .ref mo)] := hl
  refine lv_aload_n hx hb dX9_low_0 rfl (lv_at hl 0 rfl) ?_
  refine vp_callSi (qV_R (n := 0) (As := []) (rest := []) (wc := [(mo, .inr (9, [.int (nI bw), .int (nI bh), .ref kk, .ref rp, .ref mi, .ref ba, .ref wn, .int (-1), .int 0, .int 0, .ref m1, .ref m2, .ref m3, .ref m4, .int 0, .int 0, .ref pl, .ref ta, .int 0, .int 0, .int (-1), .ref wa, .ref pz, .ref ih, .ref su, .ref th, .ref od, .ref fo, .ref co, .ref qu, .ref pa, .ref td, .ref wt, .ref il, .int 0, .int 0]))]) ⟨hx, hb, hml, hown, hts⟩ hK hN hP [0] rfl (k_X9_isReady l D kI kZ kJ mo kk rp mi ba wn m1 m2 m3 m4 pl ta wa pz ih su th od fo co qu pa td wt il bw bh hbw hbh) gX9_low_X9_isReady rfl rfl rfl (by decide +kernel) ⟨(Nat.le_of_ble_eq_true rfl), (Nat.le_of_ble_eq_true rfl)⟩ 0 9 rfl rfl rfl rfl hl.1 rfl (Nat.le_of_ble_eq_true rfl) dX9_low_1 ⟨(Nat.le_of_ble_eq_true rfl), (Nat.le_of_ble_eq_true rfl)⟩).run (fun r hw => ?_)
  obtain rfl := hw
  refine lv_if_ne (tgt := 10) hx hb dX9_low_4 (by decide) (fun h9 => absurd h9 (by decide : ¬ (¬ (0 : Int32) = (0 : Int32)))) (fun _ => ?_)
  refine lv_bipush (v := (-2)) hx hb dX9_low_7 (by decide) ?_
  exact W.iret (v := (-2)) hx hb hr (fun t ht hW => ⟨_, rfl, rfl, ht⟩) (fun q hq => by cases hq) dX9_low_9
set_option maxHeartbeats 4000000 in
set_option maxRecDepth 100000 in
theorem k_X9_price (l : Launch) (D : va_G) (kI kZ kJ : ClassId)  (mo kk rp mi ba wn m1 m2 m3 m4 pl ta wa pz ih su th od fo co qu pa td wt il : Nat) (bw bh : Nat) (hbw : bw ≤ 8) (hbh : bh ≤ 8) (x y z v : Int32) : Met l yX9_price wsX9_price ({ frames := 1, cells := 0, slots := 0, locals := 22 }) (qR D kI kZ kJ [(mo, .inr (9, [.int (nI bw), .int (nI bh), .ref kk, .ref rp, .ref mi, .ref ba, .ref wn, .int (-1), .int 0, .int 0, .ref m1, .ref m2, .ref m3, .ref m4, .int 0, .int 0, .ref pl, .ref ta, .int 0, .int 0, .int (-1), .ref wa, .ref pz, .ref ih, .ref su, .ref th, .ref od, .ref fo, .ref co, .ref qu, .ref pa, .ref td, .ref wt, .ref il, .int 0, .int 0])), (kk, .inl (kI, 64, .inl (fun _ => 0))), (mi, .inl (kZ, 8, .inl (fun _ => 0)))] [.ref mo, .int x, .int y, .int z, .int v]) (vp_Si (fun r : Int32 => r = -2)) 0 0 (fun _ => False) := by
  refine Met.ofW (cc := cX9_price) (maxL := 5) (ret := (some .int)) (by decide) rfl ?_
  intro p e s m args below meth c s₁ B hml hv
  obtain ⟨rfl, hP, hK, hN⟩ := hv
  have hx := B.exec
  have hb := B.bytes
  have hr := B.returns
  have hts := atoms_spec (ws := wsX9_price) B.pre
  have hown : s.vm.findClass RX9 = some m.cls := findClass_of_methodNamed B.named
  have hlocks := B.notSynchronized
  have hP : va_P D vwCl [(mo, .inr (9, [.int (nI bw), .int (nI bh), .ref kk, .ref rp, .ref mi, .ref ba, .ref wn, .int (-1), .int 0, .int 0, .ref m1, .ref m2, .ref m3, .ref m4, .int 0, .int 0, .ref pl, .ref ta, .int 0, .int 0, .int (-1), .ref wa, .ref pz, .ref ih, .ref su, .ref th, .ref od, .ref fo, .ref co, .ref qu, .ref pa, .ref td, .ref wt, .ref il, .int 0, .int 0])), (kk, .inl (kI, 64, .inl (fun _ => 0))), (mi, .inl (kZ, 8, .inl (fun _ => 0)))] s.heap := hP
  have hl := lv_entry ([.ref mo, .int x, .int y, .int z, .int v]) (n := 5) (Nat.le_of_ble_eq_true rfl)
  rw [lg_entry_eq]
  generalize (lg_sl ([.ref mo, .int x, .int y, .int z, .int v]) ++ List.replicate (5 - (lg_sl ([.ref mo, .int x, .int y, .int z, .int v])).length) Slot.unset).toArray = ls at hl ⊢
  have hl : lv_has ls 5 [(0, .ref mo), (1, .int x), (2, .int y), (3, .int z), (4, .int v)] := hl
  refine lv_aload_n hx hb dX9_price_0 rfl (lv_at hl 0 rfl) ?_
  refine lv_iload_n hx hb dX9_price_1 rfl (lv_at hl 1 rfl) ?_
  refine lv_iload_n hx hb dX9_price_2 rfl (lv_at hl 2 rfl) ?_
  refine vp_callSi (qV_R (n := 2) (As := [.int x, .int y]) (rest := []) (wc := [(mo, .inr (9, [.int (nI bw), .int (nI bh), .ref kk, .ref rp, .ref mi, .ref ba, .ref wn, .int (-1), .int 0, .int 0, .ref m1, .ref m2, .ref m3, .ref m4, .int 0, .int 0, .ref pl, .ref ta, .int 0, .int 0, .int (-1), .ref wa, .ref pz, .ref ih, .ref su, .ref th, .ref od, .ref fo, .ref co, .ref qu, .ref pa, .ref td, .ref wt, .ref il, .int 0, .int 0]))]) ⟨hx, hb, hml, hown, hts⟩ hK hN hP [0] rfl (k_X9_isField l D kI kZ kJ mo kk rp mi ba wn m1 m2 m3 m4 pl ta wa pz ih su th od fo co qu pa td wt il bw bh hbw hbh x y) gX9_price_X9_isField rfl rfl rfl (by decide +kernel) ⟨(Nat.le_of_ble_eq_true rfl), (Nat.le_of_ble_eq_true rfl)⟩ 0 9 rfl rfl rfl rfl hl.1 rfl (Nat.le_of_ble_eq_true rfl) dX9_price_3 ⟨(Nat.le_of_ble_eq_true rfl), (Nat.le_of_ble_eq_true rfl)⟩).run (fun r hw => ?_)
  rcases hw with ⟨hin, rfl⟩ | ⟨hin, rfl⟩
  · skip
    obtain ⟨num, hnum, hnumE⟩ := q_num hbw hbh hin
    refine lv_if_eq (tgt := 46) hx hb dX9_price_6 (by decide) (fun h9 => absurd h9 (by decide : ¬ ((1 : Int32) = (0 : Int32)))) (fun _ => ?_)
    refine lv_aload_n hx hb dX9_price_9 rfl (lv_at hl 0 rfl) ?_
    refine lv_iload_n hx hb dX9_price_10 rfl (lv_at hl 3 rfl) ?_
    refine lv_iload hx hb dX9_price_11 (lv_at hl 4 rfl) ?_
    refine vp_callSi (qV_R (n := 2) (As := [.int z, .int v]) (rest := []) (wc := [(mo, .inr (9, [.int (nI bw), .int (nI bh), .ref kk, .ref rp, .ref mi, .ref ba, .ref wn, .int (-1), .int 0, .int 0, .ref m1, .ref m2, .ref m3, .ref m4, .int 0, .int 0, .ref pl, .ref ta, .int 0, .int 0, .int (-1), .ref wa, .ref pz, .ref ih, .ref su, .ref th, .ref od, .ref fo, .ref co, .ref qu, .ref pa, .ref td, .ref wt, .ref il, .int 0, .int 0]))]) ⟨hx, hb, hml, hown, hts⟩ hK hN hP [0] rfl (k_X9_isField l D kI kZ kJ mo kk rp mi ba wn m1 m2 m3 m4 pl ta wa pz ih su th od fo co qu pa td wt il bw bh hbw hbh z v) gX9_price_X9_isField rfl rfl rfl (by decide +kernel) ⟨(Nat.le_of_ble_eq_true rfl), (Nat.le_of_ble_eq_true rfl)⟩ 0 9 rfl rfl rfl rfl hl.1 rfl (Nat.le_of_ble_eq_true rfl) dX9_price_13 ⟨(Nat.le_of_ble_eq_true rfl), (Nat.le_of_ble_eq_true rfl)⟩).run (fun r hw => ?_)
    rcases hw with ⟨hin2, rfl⟩ | ⟨hin2, rfl⟩
    · skip
      obtain ⟨num2, hnum2, hnumE2⟩ := q_num hbw hbh hin2
      refine lv_if_eq (tgt := 46) hx hb dX9_price_16 (by decide) (fun h9 => absurd h9 (by decide : ¬ ((1 : Int32) = (0 : Int32)))) (fun _ => ?_)
      refine lv_aload_n hx hb dX9_price_19 rfl (lv_at hl 0 rfl) ?_
      refine lv_bipush (v := 8) hx hb dX9_price_20 (by decide) ?_
      refine lv_iload_n hx hb dX9_price_22 rfl (lv_at hl 2 rfl) ?_
      refine lv_imul hx hb dX9_price_23 ?_
      refine lv_iload_n hx hb dX9_price_24 rfl (lv_at hl 1 rfl) ?_
      refine lv_iadd hx hb dX9_price_25 ?_
      refine lv_topi (fun z_1 ez_1 => ?_)
      obtain rfl : z_1 = nI num := ez_1.trans hnumE
      refine vp_callSi (qV_R (n := 1) (As := [.int (nI num)]) (rest := []) (wc := [(mo, .inr (9, [.int (nI bw), .int (nI bh), .ref kk, .ref rp, .ref mi, .ref ba, .ref wn, .int (-1), .int 0, .int 0, .ref m1, .ref m2, .ref m3, .ref m4, .int 0, .int 0, .ref pl, .ref ta, .int 0, .int 0, .int (-1), .ref wa, .ref pz, .ref ih, .ref su, .ref th, .ref od, .ref fo, .ref co, .ref qu, .ref pa, .ref td, .ref wt, .ref il, .int 0, .int 0])), (kk, .inl (kI, 64, .inl (fun _ => 0))), (mi, .inl (kZ, 8, .inl (fun _ => 0)))]) ⟨hx, hb, hml, hown, hts⟩ hK hN hP [0, 1, 2] rfl (k_X9_kindOf l D kI kZ kJ mo kk rp mi ba wn m1 m2 m3 m4 pl ta wa pz ih su th od fo co qu pa td wt il bw bh hbw hbh num hnum) gX9_price_X9_kindOf rfl rfl rfl (by decide +kernel) ⟨(Nat.le_of_ble_eq_true rfl), (Nat.le_of_ble_eq_true rfl)⟩ 0 9 rfl rfl rfl rfl hl.1 rfl (Nat.le_of_ble_eq_true rfl) dX9_price_26 ⟨(Nat.le_of_ble_eq_true rfl), (Nat.le_of_ble_eq_true rfl)⟩).run (fun r hw => ?_)
      obtain rfl := hw
      refine lv_if_eq (tgt := 46) hx hb dX9_price_29 (by decide) (fun _ => ?_) (fun h9 => absurd (by decide : (0 : Int32) = (0 : Int32)) h9)
      refine lv_bipush (v := (-2)) hx hb dX9_price_46 (by decide) ?_
      exact W.iret (v := (-2)) hx hb hr (fun t ht hW => ⟨_, rfl, rfl, ht⟩) (fun q hq => by cases hq) dX9_price_48
    · skip
      refine lv_if_eq (tgt := 46) hx hb dX9_price_16 (by decide) (fun _ => ?_) (fun h9 => absurd (by decide : (0 : Int32) = (0 : Int32)) h9)
      refine lv_bipush (v := (-2)) hx hb dX9_price_46 (by decide) ?_
      exact W.iret (v := (-2)) hx hb hr (fun t ht hW => ⟨_, rfl, rfl, ht⟩) (fun q hq => by cases hq) dX9_price_48
  · skip
    refine lv_if_eq (tgt := 46) hx hb dX9_price_6 (by decide) (fun _ => ?_) (fun h9 => absurd (by decide : (0 : Int32) = (0 : Int32)) h9)
    refine lv_bipush (v := (-2)) hx hb dX9_price_46 (by decide) ?_
    exact W.iret (v := (-2)) hx hb hr (fun t ht hW => ⟨_, rfl, rfl, ht⟩) (fun q hq => by cases hq) dX9_price_48
set_option maxHeartbeats 4000000 in
set_option maxRecDepth 100000 in
theorem k_X9_fewest (l : Launch) (D : va_G) (kI kZ kJ : ClassId)  (mo kk rp mi ba wn m1 m2 m3 m4 pl ta wa pz ih su th od fo co qu pa td wt il : Nat) (bw bh : Nat) (hbw : bw ≤ 8) (hbh : bh ≤ 8) : Met l yX9_fewest wsX9_fewest ({ frames := 1, cells := 0, slots := 0, locals := 20 }) (qR D kI kZ kJ [(mo, .inr (9, [.int (nI bw), .int (nI bh), .ref kk, .ref rp, .ref mi, .ref ba, .ref wn, .int (-1), .int 0, .int 0, .ref m1, .ref m2, .ref m3, .ref m4, .int 0, .int 0, .ref pl, .ref ta, .int 0, .int 0, .int (-1), .ref wa, .ref pz, .ref ih, .ref su, .ref th, .ref od, .ref fo, .ref co, .ref qu, .ref pa, .ref td, .ref wt, .ref il, .int 0, .int 0]))] [.ref mo]) (vp_Si (fun r : Int32 => r = -2)) 0 0 (fun _ => False) := by
  refine Met.ofW (cc := cX9_fewest) (maxL := 4) (ret := (some .int)) (by decide) rfl ?_
  intro p e s m args below meth c s₁ B hml hv
  obtain ⟨rfl, hP, hK, hN⟩ := hv
  have hx := B.exec
  have hb := B.bytes
  have hr := B.returns
  have hts := atoms_spec (ws := wsX9_fewest) B.pre
  have hown : s.vm.findClass RX9 = some m.cls := findClass_of_methodNamed B.named
  have hlocks := B.notSynchronized
  have hP : va_P D vwCl [(mo, .inr (9, [.int (nI bw), .int (nI bh), .ref kk, .ref rp, .ref mi, .ref ba, .ref wn, .int (-1), .int 0, .int 0, .ref m1, .ref m2, .ref m3, .ref m4, .int 0, .int 0, .ref pl, .ref ta, .int 0, .int 0, .int (-1), .ref wa, .ref pz, .ref ih, .ref su, .ref th, .ref od, .ref fo, .ref co, .ref qu, .ref pa, .ref td, .ref wt, .ref il, .int 0, .int 0]))] s.heap := hP
  have hl := lv_entry ([.ref mo]) (n := 4) (Nat.le_of_ble_eq_true rfl)
  rw [lg_entry_eq]
  generalize (lg_sl ([.ref mo]) ++ List.replicate (4 - (lg_sl ([.ref mo])).length) Slot.unset).toArray = ls at hl ⊢
  have hl : lv_has ls 4 [(0, .ref mo)] := hl
  refine lv_aload_n hx hb dX9_fewest_0 rfl (lv_at hl 0 rfl) ?_
  refine vp_callSi (qV_R (n := 0) (As := []) (rest := []) (wc := [(mo, .inr (9, [.int (nI bw), .int (nI bh), .ref kk, .ref rp, .ref mi, .ref ba, .ref wn, .int (-1), .int 0, .int 0, .ref m1, .ref m2, .ref m3, .ref m4, .int 0, .int 0, .ref pl, .ref ta, .int 0, .int 0, .int (-1), .ref wa, .ref pz, .ref ih, .ref su, .ref th, .ref od, .ref fo, .ref co, .ref qu, .ref pa, .ref td, .ref wt, .ref il, .int 0, .int 0]))]) ⟨hx, hb, hml, hown, hts⟩ hK hN hP [0] rfl (k_X9_isReady l D kI kZ kJ mo kk rp mi ba wn m1 m2 m3 m4 pl ta wa pz ih su th od fo co qu pa td wt il bw bh hbw hbh) gX9_fewest_X9_isReady rfl rfl rfl (by decide +kernel) ⟨(Nat.le_of_ble_eq_true rfl), (Nat.le_of_ble_eq_true rfl)⟩ 0 9 rfl rfl rfl rfl hl.1 rfl (Nat.le_of_ble_eq_true rfl) dX9_fewest_1 ⟨(Nat.le_of_ble_eq_true rfl), (Nat.le_of_ble_eq_true rfl)⟩).run (fun r hw => ?_)
  obtain rfl := hw
  refine lv_if_eq (tgt := 28) hx hb dX9_fewest_4 (by decide) (fun _ => ?_) (fun h9 => absurd (by decide : (0 : Int32) = (0 : Int32)) h9)
  refine lv_bipush (v := (-2)) hx hb dX9_fewest_28 (by decide) ?_
  exact W.iret (v := (-2)) hx hb hr (fun t ht hW => ⟨_, rfl, rfl, ht⟩) (fun q hq => by cases hq) dX9_fewest_30
set_option maxHeartbeats 4000000 in
set_option maxRecDepth 100000 in
theorem k_X9_steps (l : Launch) (D : va_G) (kI kZ kJ : ClassId)  (mo kk rp mi ba wn m1 m2 m3 m4 pl ta wa pz ih su th od fo co qu pa td wt il : Nat) (bw bh : Nat) (hbw : bw ≤ 8) (hbh : bh ≤ 8) : Met l yX9_steps wsX9_steps ({ frames := 0, cells := 0, slots := 0, locals := 0 }) (qR D kI kZ kJ [(mo, .inr (9, [.int (nI bw), .int (nI bh), .ref kk, .ref rp, .ref mi, .ref ba, .ref wn, .int (-1), .int 0, .int 0, .ref m1, .ref m2, .ref m3, .ref m4, .int 0, .int 0, .ref pl, .ref ta, .int 0, .int 0, .int (-1), .ref wa, .ref pz, .ref ih, .ref su, .ref th, .ref od, .ref fo, .ref co, .ref qu, .ref pa, .ref td, .ref wt, .ref il, .int 0, .int 0]))] [.ref mo]) (vp_Si (fun r : Int32 => r = 0)) 0 0 (fun _ => False) := by
  refine Met.ofW (cc := cX9_steps) (maxL := 1) (ret := (some .int)) (by decide) rfl ?_
  intro p e s m args below meth c s₁ B hml hv
  obtain ⟨rfl, hP, hK, hN⟩ := hv
  have hx := B.exec
  have hb := B.bytes
  have hr := B.returns
  have hts := atoms_spec (ws := wsX9_steps) B.pre
  have hown : s.vm.findClass RX9 = some m.cls := findClass_of_methodNamed B.named
  have hlocks := B.notSynchronized
  have hP : va_P D vwCl [(mo, .inr (9, [.int (nI bw), .int (nI bh), .ref kk, .ref rp, .ref mi, .ref ba, .ref wn, .int (-1), .int 0, .int 0, .ref m1, .ref m2, .ref m3, .ref m4, .int 0, .int 0, .ref pl, .ref ta, .int 0, .int 0, .int (-1), .ref wa, .ref pz, .ref ih, .ref su, .ref th, .ref od, .ref fo, .ref co, .ref qu, .ref pa, .ref td, .ref wt, .ref il, .int 0, .int 0]))] s.heap := hP
  have hl := lv_entry ([.ref mo]) (n := 1) (Nat.le_of_ble_eq_true rfl)
  rw [lg_entry_eq]
  generalize (lg_sl ([.ref mo]) ++ List.replicate (1 - (lg_sl ([.ref mo])).length) Slot.unset).toArray = ls at hl ⊢
  have hl : lv_has ls 1 [(0, .ref mo)] := hl
  refine lv_aload_n hx hb dX9_steps_0 rfl (lv_at hl 0 rfl) ?_
  refine va_get (D := D) (ci := 9) (v := .int 0) (C := RX9) (T := TX9) (N := 36) hx hb hts (by decide +kernel) hown hK hP 0 rfl rfl 18 (by decide) (hts (.fieldLink RX9 215 "CellarPushersModel" "planned" "I") (by decide +kernel)) (fun _ h9 => h9) rfl dX9_steps_1 ?_
  exact W.iret (v := 0) hx hb hr (fun t ht hW => ⟨_, rfl, rfl, ht⟩) (fun q hq => by cases hq) dX9_steps_4
set_option maxHeartbeats 4000000 in
set_option maxRecDepth 100000 in
theorem k_X9_plan (l : Launch) (D : va_G) (kI kZ kJ : ClassId)  (mo kk rp mi ba wn m1 m2 m3 m4 pl ta wa pz ih su th od fo co qu pa td wt il : Nat) (bw bh : Nat) (hbw : bw ≤ 8) (hbh : bh ≤ 8) (x : Int32) : Met l yX9_plan wsX9_plan ({ frames := 0, cells := 0, slots := 0, locals := 0 }) (qR D kI kZ kJ [(mo, .inr (9, [.int (nI bw), .int (nI bh), .ref kk, .ref rp, .ref mi, .ref ba, .ref wn, .int (-1), .int 0, .int 0, .ref m1, .ref m2, .ref m3, .ref m4, .int 0, .int 0, .ref pl, .ref ta, .int 0, .int 0, .int (-1), .ref wa, .ref pz, .ref ih, .ref su, .ref th, .ref od, .ref fo, .ref co, .ref qu, .ref pa, .ref td, .ref wt, .ref il, .int 0, .int 0]))] [.ref mo, .int x]) (vp_Si (fun r : Int32 => r = -2)) 0 0 (fun _ => False) := by
  refine Met.ofW (cc := cX9_plan) (maxL := 2) (ret := (some .int)) (by decide) rfl ?_
  intro p e s m args below meth c s₁ B hml hv
  obtain ⟨rfl, hP, hK, hN⟩ := hv
  have hx := B.exec
  have hb := B.bytes
  have hr := B.returns
  have hts := atoms_spec (ws := wsX9_plan) B.pre
  have hown : s.vm.findClass RX9 = some m.cls := findClass_of_methodNamed B.named
  have hlocks := B.notSynchronized
  have hP : va_P D vwCl [(mo, .inr (9, [.int (nI bw), .int (nI bh), .ref kk, .ref rp, .ref mi, .ref ba, .ref wn, .int (-1), .int 0, .int 0, .ref m1, .ref m2, .ref m3, .ref m4, .int 0, .int 0, .ref pl, .ref ta, .int 0, .int 0, .int (-1), .ref wa, .ref pz, .ref ih, .ref su, .ref th, .ref od, .ref fo, .ref co, .ref qu, .ref pa, .ref td, .ref wt, .ref il, .int 0, .int 0]))] s.heap := hP
  have hl := lv_entry ([.ref mo, .int x]) (n := 2) (Nat.le_of_ble_eq_true rfl)
  rw [lg_entry_eq]
  generalize (lg_sl ([.ref mo, .int x]) ++ List.replicate (2 - (lg_sl ([.ref mo, .int x])).length) Slot.unset).toArray = ls at hl ⊢
  have hl : lv_has ls 2 [(0, .ref mo), (1, .int x)] := hl
  refine lv_iload_n hx hb dX9_plan_0 rfl (lv_at hl 1 rfl) ?_
  refine lv_if_lt (tgt := 21) hx hb dX9_plan_1 (by decide) (fun c_1 => ?_) (fun c_1 => ?_)
  · skip
    refine lv_bipush (v := (-2)) hx hb dX9_plan_21 (by decide) ?_
    exact W.iret (v := (-2)) hx hb hr (fun t ht hW => ⟨_, rfl, rfl, ht⟩) (fun q hq => by cases hq) dX9_plan_23
  · skip
    refine lv_iload_n hx hb dX9_plan_4 rfl (lv_at hl 1 rfl) ?_
    refine lv_aload_n hx hb dX9_plan_5 rfl (lv_at hl 0 rfl) ?_
    refine va_get (D := D) (ci := 9) (v := .int 0) (C := RX9) (T := TX9) (N := 36) hx hb hts (by decide +kernel) hown hK hP 0 rfl rfl 18 (by decide) (hts (.fieldLink RX9 215 "CellarPushersModel" "planned" "I") (by decide +kernel)) (fun _ h9 => h9) rfl dX9_plan_6 ?_
    refine lv_icmp_ge (tgt := 21) hx hb dX9_plan_9 (by decide) (fun _ => ?_) (fun h9 => absurd (Int32.not_lt.mp (by assumption)) h9)
    refine lv_bipush (v := (-2)) hx hb dX9_plan_21 (by decide) ?_
    exact W.iret (v := (-2)) hx hb hr (fun t ht hW => ⟨_, rfl, rfl, ht⟩) (fun q hq => by cases hq) dX9_plan_23
set_option maxHeartbeats 4000000 in
set_option maxRecDepth 100000 in
theorem k_X9_follow (l : Launch) (D : va_G) (kI kZ kJ : ClassId)  (mo kk rp mi ba wn m1 m2 m3 m4 pl ta wa pz ih su th od fo co qu pa td wt il : Nat) (bw bh : Nat) (hbw : bw ≤ 8) (hbh : bh ≤ 8) : Met l yX9_follow wsX9_follow ({ frames := 0, cells := 0, slots := 0, locals := 0 }) (qR D kI kZ kJ [(mo, .inr (9, [.int (nI bw), .int (nI bh), .ref kk, .ref rp, .ref mi, .ref ba, .ref wn, .int (-1), .int 0, .int 0, .ref m1, .ref m2, .ref m3, .ref m4, .int 0, .int 0, .ref pl, .ref ta, .int 0, .int 0, .int (-1), .ref wa, .ref pz, .ref ih, .ref su, .ref th, .ref od, .ref fo, .ref co, .ref qu, .ref pa, .ref td, .ref wt, .ref il, .int 0, .int 0]))] [.ref mo]) (vp_Si (fun r : Int32 => r = -2)) 0 0 (fun _ => False) := by
  refine Met.ofW (cc := cX9_follow) (maxL := 2) (ret := (some .int)) (by decide) rfl ?_
  intro p e s m args below meth c s₁ B hml hv
  obtain ⟨rfl, hP, hK, hN⟩ := hv
  have hx := B.exec
  have hb := B.bytes
  have hr := B.returns
  have hts := atoms_spec (ws := wsX9_follow) B.pre
  have hown : s.vm.findClass RX9 = some m.cls := findClass_of_methodNamed B.named
  have hlocks := B.notSynchronized
  have hP : va_P D vwCl [(mo, .inr (9, [.int (nI bw), .int (nI bh), .ref kk, .ref rp, .ref mi, .ref ba, .ref wn, .int (-1), .int 0, .int 0, .ref m1, .ref m2, .ref m3, .ref m4, .int 0, .int 0, .ref pl, .ref ta, .int 0, .int 0, .int (-1), .ref wa, .ref pz, .ref ih, .ref su, .ref th, .ref od, .ref fo, .ref co, .ref qu, .ref pa, .ref td, .ref wt, .ref il, .int 0, .int 0]))] s.heap := hP
  have hl := lv_entry ([.ref mo]) (n := 2) (Nat.le_of_ble_eq_true rfl)
  rw [lg_entry_eq]
  generalize (lg_sl ([.ref mo]) ++ List.replicate (2 - (lg_sl ([.ref mo])).length) Slot.unset).toArray = ls at hl ⊢
  have hl : lv_has ls 2 [(0, .ref mo)] := hl
  refine lv_aload_n hx hb dX9_follow_0 rfl (lv_at hl 0 rfl) ?_
  refine va_get (D := D) (ci := 9) (v := .int (-1)) (C := RX9) (T := TX9) (N := 36) hx hb hts (by decide +kernel) hown hK hP 0 rfl rfl 7 (by decide) (hts (.fieldLink RX9 26 "CellarPushersModel" "man" "I") (by decide +kernel)) (fun _ h9 => h9) rfl dX9_follow_1 ?_
  refine lv_if_lt (tgt := 14) hx hb dX9_follow_4 (by decide) (fun _ => ?_) (fun h9 => absurd (by decide : ((-1) : Int32) < (0 : Int32)) h9)
  refine lv_bipush (v := (-2)) hx hb dX9_follow_14 (by decide) ?_
  exact W.iret (v := (-2)) hx hb hr (fun t ht hW => ⟨_, rfl, rfl, ht⟩) (fun q hq => by cases hq) dX9_follow_16
set_option maxHeartbeats 4000000 in
set_option maxRecDepth 100000 in
theorem k_X9_tell (l : Launch) (D : va_G) (kI kZ kJ : ClassId)  (mo kk rp mi ba wn m1 m2 m3 m4 pl ta wa pz ih su th od fo co qu pa td wt il : Nat) (bw bh : Nat) (hbw : bw ≤ 8) (hbh : bh ≤ 8) (x : Int32) (sz : Nat) : Met l yX9_tell wsX9_tell ({ frames := 1, cells := 0, slots := 0, locals := 20 }) (qW D kI kZ kJ [(mo, .inr (9, [.int (nI bw), .int (nI bh), .ref kk, .ref rp, .ref mi, .ref ba, .ref wn, .int (-1), .int 0, .int 0, .ref m1, .ref m2, .ref m3, .ref m4, .int 0, .int 0, .ref pl, .ref ta, .int 0, .int 0, .int (-1), .ref wa, .ref pz, .ref ih, .ref su, .ref th, .ref od, .ref fo, .ref co, .ref qu, .ref pa, .ref td, .ref wt, .ref il, .int 0, .int 0])), (ta, .inl (kI, 400, .inl (fun _ => 0)))] sz [.ref mo, .int x]) (va_Qi (fun (r : Int32) (u : Unit) => q_if (q_way x) 1 (-2) r) (qB D (fun u : Unit => []) (va_A [(mo, .inr (9, [.int (nI bw), .int (nI bh), .ref kk, .ref rp, .ref mi, .ref ba, .ref wn, .int (-1), .int 0, .int 0, .ref m1, .ref m2, .ref m3, .ref m4, .int 0, .int 0, .ref pl, .ref ta, .int 0, .int 0, .int (-1), .ref wa, .ref pz, .ref ih, .ref su, .ref th, .ref od, .ref fo, .ref co, .ref qu, .ref pa, .ref td, .ref wt, .ref il, .int 0, .int 0])), (ta, .inl (kI, 400, .inl (fun _ => 0)))] sz)) (va_A [(mo, .inr (9, [.int (nI bw), .int (nI bh), .ref kk, .ref rp, .ref mi, .ref ba, .ref wn, .int (-1), .int 0, .int 0, .ref m1, .ref m2, .ref m3, .ref m4, .int 0, .int 0, .ref pl, .ref ta, .int 0, .int 0, .int (-1), .ref wa, .ref pz, .ref ih, .ref su, .ref th, .ref od, .ref fo, .ref co, .ref qu, .ref pa, .ref td, .ref wt, .ref il, .int 0, .int 0])), (ta, .inl (kI, 400, .inl (fun _ => 0)))] sz)) 0 0 (va_A [(mo, .inr (9, [.int (nI bw), .int (nI bh), .ref kk, .ref rp, .ref mi, .ref ba, .ref wn, .int (-1), .int 0, .int 0, .ref m1, .ref m2, .ref m3, .ref m4, .int 0, .int 0, .ref pl, .ref ta, .int 0, .int 0, .int (-1), .ref wa, .ref pz, .ref ih, .ref su, .ref th, .ref od, .ref fo, .ref co, .ref qu, .ref pa, .ref td, .ref wt, .ref il, .int 0, .int 0])), (ta, .inl (kI, 400, .inl (fun _ => 0)))] sz) := by
  refine Met.ofW (cc := cX9_tell) (maxL := 2) (ret := (some .int)) (by decide) rfl ?_
  intro p e s m args below meth c s₁ B hml hv
  obtain ⟨rfl, hsz, hP, hK, hD0, hN⟩ := hv
  have hx := B.exec
  have hb := B.bytes
  have hr := B.returns
  have hts := atoms_spec (ws := wsX9_tell) B.pre
  have hown : s.vm.findClass RX9 = some m.cls := findClass_of_methodNamed B.named
  have hlocks := B.notSynchronized
  subst hsz
  have hD := hD0.self (sz := s.heap.size)
  generalize hAe : va_A [(mo, .inr (9, [.int (nI bw), .int (nI bh), .ref kk, .ref rp, .ref mi, .ref ba, .ref wn, .int (-1), .int 0, .int 0, .ref m1, .ref m2, .ref m3, .ref m4, .int 0, .int 0, .ref pl, .ref ta, .int 0, .int 0, .int (-1), .ref wa, .ref pz, .ref ih, .ref su, .ref th, .ref od, .ref fo, .ref co, .ref qu, .ref pa, .ref td, .ref wt, .ref il, .int 0, .int 0])), (ta, .inl (kI, 400, .inl (fun _ => 0)))] s.heap.size = A at hD ⊢
  have hA : ∀ q : Nat, s.heap.size ≤ q → A q := fun q h => by rw [← hAe]; exact Or.inr h
  have hS : va_S A s.heap s.heap [] := va_S.rf
  have hP : va_P D vwCl [(mo, .inr (9, [.int (nI bw), .int (nI bh), .ref kk, .ref rp, .ref mi, .ref ba, .ref wn, .int (-1), .int 0, .int 0, .ref m1, .ref m2, .ref m3, .ref m4, .int 0, .int 0, .ref pl, .ref ta, .int 0, .int 0, .int (-1), .ref wa, .ref pz, .ref ih, .ref su, .ref th, .ref od, .ref fo, .ref co, .ref qu, .ref pa, .ref td, .ref wt, .ref il, .int 0, .int 0])), (ta, .inl (kI, 400, .inl (fun _ => 0)))] s.heap := hP
  have hl := lv_entry ([.ref mo, .int x]) (n := 2) (Nat.le_of_ble_eq_true rfl)
  rw [lg_entry_eq]
  generalize (lg_sl ([.ref mo, .int x]) ++ List.replicate (2 - (lg_sl ([.ref mo, .int x])).length) Slot.unset).toArray = ls at hl ⊢
  have hl : lv_has ls 2 [(0, .ref mo), (1, .int x)] := hl
  refine lv_iload_n hx hb dX9_tell_0 rfl (lv_at hl 1 rfl) ?_
  refine vp_callSi (qS_R (n := 1) (As := [.int x]) (rest := []) (wc := []) ⟨hx, hb, hml, hown, hts⟩ hK hN hP [] rfl (k_X9_isWay l D kI kZ kJ x) gX9_tell_X9_isWay rfl rfl rfl (by decide +kernel) ⟨(Nat.le_of_ble_eq_true rfl), (Nat.le_of_ble_eq_true rfl)⟩ rfl hl.1 rfl (Nat.le_of_ble_eq_true rfl) dX9_tell_1 ⟨(Nat.le_of_ble_eq_true rfl), (Nat.le_of_ble_eq_true rfl)⟩).run (fun r hw => ?_)
  rcases hw with ⟨hway, rfl⟩ | ⟨hway, rfl⟩
  · skip
    refine lv_if_eq (tgt := 17) hx hb dX9_tell_4 (by decide) (fun h9 => absurd h9 (by decide : ¬ ((1 : Int32) = (0 : Int32)))) (fun _ => ?_)
    refine lv_aload_n hx hb dX9_tell_7 rfl (lv_at hl 0 rfl) ?_
    refine va_get (D := D) (ci := 9) (v := .int 0) (C := RX9) (T := TX9) (N := 36) hx hb hts (by decide +kernel) hown hK hP 0 rfl rfl 19 (by decide) (hts (.fieldLink RX9 230 "CellarPushersModel" "taped" "I") (by decide +kernel)) (fun _ h9 => h9) rfl dX9_tell_8 ?_
    refine lv_sipush (v := 400) hx hb dX9_tell_11 (by decide) ?_
    refine lv_icmp_ne (tgt := 20) hx hb dX9_tell_14 (by decide) (fun _ => ?_) (fun h9 => absurd h9 (by decide : ¬ (0 : Int32) = (400 : Int32)))
    refine lv_aload_n hx hb dX9_tell_20 rfl (lv_at hl 0 rfl) ?_
    refine va_get (D := D) (ci := 9) (v := .ref ta) (C := RX9) (T := TX9) (N := 36) hx hb hts (by decide +kernel) hown hK hP 0 rfl rfl 17 (by decide) (hts (.fieldLink RX9 46 "CellarPushersModel" "tape" "[I") (by decide +kernel)) (fun _ h9 => h9) rfl dX9_tell_21 ?_
    refine lv_aload_n hx hb dX9_tell_24 rfl (lv_at hl 0 rfl) ?_
    refine va_get (D := D) (ci := 9) (v := .int 0) (C := RX9) (T := TX9) (N := 36) hx hb hts (by decide +kernel) hown hK hP 0 rfl rfl 19 (by decide) (hts (.fieldLink RX9 230 "CellarPushersModel" "taped" "I") (by decide +kernel)) (fun _ h9 => h9) rfl dX9_tell_25 ?_
    refine lv_iload_n hx hb dX9_tell_28 rfl (lv_at hl 1 rfl) ?_
    refine va_iast hx hb hK hP hD hS 1 0 rfl rfl (vp_in_nI (n := 0) (by decide) (by decide)) dX9_tell_29 (fun H locs hP hD hS => ?_)
    have hP : va_P D vwCl [(mo, .inr (9, [.int (nI bw), .int (nI bh), .ref kk, .ref rp, .ref mi, .ref ba, .ref wn, .int (-1), .int 0, .int 0, .ref m1, .ref m2, .ref m3, .ref m4, .int 0, .int 0, .ref pl, .ref ta, .int 0, .int 0, .int (-1), .ref wa, .ref pz, .ref ih, .ref su, .ref th, .ref od, .ref fo, .ref co, .ref qu, .ref pa, .ref td, .ref wt, .ref il, .int 0, .int 0])), (ta, .inl (kI, 400, .inl (upd (fun _ => 0) (Int32.toNatClampNeg 0) x)))] H := hP
    have hD : va_D A [(mo, .inr (9, [.int (nI bw), .int (nI bh), .ref kk, .ref rp, .ref mi, .ref ba, .ref wn, .int (-1), .int 0, .int 0, .ref m1, .ref m2, .ref m3, .ref m4, .int 0, .int 0, .ref pl, .ref ta, .int 0, .int 0, .int (-1), .ref wa, .ref pz, .ref ih, .ref su, .ref th, .ref od, .ref fo, .ref co, .ref qu, .ref pa, .ref td, .ref wt, .ref il, .int 0, .int 0])), (ta, .inl (kI, 400, .inl (upd (fun _ => 0) (Int32.toNatClampNeg 0) x)))] := hD
    refine lv_aload_n hx hb dX9_tell_30 rfl (lv_at hl 0 rfl) ?_
    refine lv_dup hx hb dX9_tell_31 rfl ?_
    refine va_get (D := D) (ci := 9) (v := .int 0) (C := RX9) (T := TX9) (N := 36) hx hb hts (by decide +kernel) hown hK hP 0 rfl rfl 19 (by decide) (hts (.fieldLink RX9 230 "CellarPushersModel" "taped" "I") (by decide +kernel)) (fun _ h9 => h9) rfl dX9_tell_32 ?_
    refine lv_iconst (v := 1) hx hb dX9_tell_35 (by decide) ?_
    refine lv_iadd hx hb dX9_tell_36 ?_
    refine lv_topi (fun z_2 ez_2 => ?_)
    obtain rfl : z_2 = 1 := ez_2.trans (by decide)
    refine va_put (D := D) (ci := 9) (v := .int 1) (ty := .int) (C := RX9) (T := TX9) (N := 36) hx hb hts (by decide +kernel) tyX9 tyX9_ok nmX9 hown hK hP hD hS 0 rfl rfl 19 (by decide) (hts (.fieldLink RX9 230 "CellarPushersModel" "taped" "I") (by decide +kernel)) (fun _ h9 => h9) rfl (by decide +kernel) rfl rfl (Nat.le_of_ble_eq_true rfl) dX9_tell_37 (fun H locs hP hD hS => ?_)
    have hP : va_P D vwCl [(mo, .inr (9, [.int (nI bw), .int (nI bh), .ref kk, .ref rp, .ref mi, .ref ba, .ref wn, .int (-1), .int 0, .int 0, .ref m1, .ref m2, .ref m3, .ref m4, .int 0, .int 0, .ref pl, .ref ta, .int 0, .int 1, .int (-1), .ref wa, .ref pz, .ref ih, .ref su, .ref th, .ref od, .ref fo, .ref co, .ref qu, .ref pa, .ref td, .ref wt, .ref il, .int 0, .int 0])), (ta, .inl (kI, 400, .inl (upd (fun _ => 0) (Int32.toNatClampNeg 0) x)))] H := hP
    have hD : va_D A [(mo, .inr (9, [.int (nI bw), .int (nI bh), .ref kk, .ref rp, .ref mi, .ref ba, .ref wn, .int (-1), .int 0, .int 0, .ref m1, .ref m2, .ref m3, .ref m4, .int 0, .int 0, .ref pl, .ref ta, .int 0, .int 1, .int (-1), .ref wa, .ref pz, .ref ih, .ref su, .ref th, .ref od, .ref fo, .ref co, .ref qu, .ref pa, .ref td, .ref wt, .ref il, .int 0, .int 0])), (ta, .inl (kI, 400, .inl (upd (fun _ => 0) (Int32.toNatClampNeg 0) x)))] := hD
    refine lv_aload_n hx hb dX9_tell_40 rfl (lv_at hl 0 rfl) ?_
    refine va_get (D := D) (ci := 9) (v := .int 1) (C := RX9) (T := TX9) (N := 36) hx hb hts (by decide +kernel) hown hK hP 0 rfl rfl 19 (by decide) (hts (.fieldLink RX9 230 "CellarPushersModel" "taped" "I") (by decide +kernel)) (fun _ h9 => h9) rfl dX9_tell_41 ?_
    have hP9 := hP.sub (ws' := []) [] rfl
    have hD9 := hD.sub (ws' := []) [] (by decide) rfl
    exact W.iret (v := 1) hx hb hr (fun t ht hW => ⟨⟨_, (), rfl, (by first | exact q_ift hway | exact q_iff hway), ⟨by rw [ht]; exact hP9, hD9⟩⟩, hS.F ht⟩) hS.2.2 dX9_tell_44
  · skip
    refine lv_if_eq (tgt := 17) hx hb dX9_tell_4 (by decide) (fun _ => ?_) (fun h9 => absurd (by decide : (0 : Int32) = (0 : Int32)) h9)
    refine lv_bipush (v := (-2)) hx hb dX9_tell_17 (by decide) ?_
    have hP9 := hP.sub (ws' := []) [] rfl
    have hD9 := hD.sub (ws' := []) [] (by decide) rfl
    exact W.iret (v := (-2)) hx hb hr (fun t ht hW => ⟨⟨_, (), rfl, (by first | exact q_ift hway | exact q_iff hway), ⟨by rw [ht]; exact hP9, hD9⟩⟩, hS.F ht⟩) hS.2.2 dX9_tell_19
set_option maxHeartbeats 4000000 in
set_option maxRecDepth 100000 in
theorem k_X9_copy (l : Launch) (D : va_G) (kI kZ kJ : ClassId)  (mo kk rp mi ba wn m1 m2 m3 m4 pl ta wa pz ih su th od fo co qu pa td wt il : Nat) (bw bh : Nat) (hbw : bw ≤ 8) (hbh : bh ≤ 8) (sz : Nat) : Met l yX9_copy wsX9_copy ({ frames := 0, cells := 0, slots := 0, locals := 0 }) (qW D kI kZ kJ [(mo, .inr (9, [.int (nI bw), .int (nI bh), .ref kk, .ref rp, .ref mi, .ref ba, .ref wn, .int (-1), .int 0, .int 0, .ref m1, .ref m2, .ref m3, .ref m4, .int 0, .int 0, .ref pl, .ref ta, .int 0, .int 0, .int (-1), .ref wa, .ref pz, .ref ih, .ref su, .ref th, .ref od, .ref fo, .ref co, .ref qu, .ref pa, .ref td, .ref wt, .ref il, .int 0, .int 0]))] sz [.ref mo]) (va_Qi (fun (r : Int32) (u : Unit) => r = 0) (qB D (fun u : Unit => []) (va_A [(mo, .inr (9, [.int (nI bw), .int (nI bh), .ref kk, .ref rp, .ref mi, .ref ba, .ref wn, .int (-1), .int 0, .int 0, .ref m1, .ref m2, .ref m3, .ref m4, .int 0, .int 0, .ref pl, .ref ta, .int 0, .int 0, .int (-1), .ref wa, .ref pz, .ref ih, .ref su, .ref th, .ref od, .ref fo, .ref co, .ref qu, .ref pa, .ref td, .ref wt, .ref il, .int 0, .int 0]))] sz)) (va_A [(mo, .inr (9, [.int (nI bw), .int (nI bh), .ref kk, .ref rp, .ref mi, .ref ba, .ref wn, .int (-1), .int 0, .int 0, .ref m1, .ref m2, .ref m3, .ref m4, .int 0, .int 0, .ref pl, .ref ta, .int 0, .int 0, .int (-1), .ref wa, .ref pz, .ref ih, .ref su, .ref th, .ref od, .ref fo, .ref co, .ref qu, .ref pa, .ref td, .ref wt, .ref il, .int 0, .int 0]))] sz)) 0 0 (va_A [(mo, .inr (9, [.int (nI bw), .int (nI bh), .ref kk, .ref rp, .ref mi, .ref ba, .ref wn, .int (-1), .int 0, .int 0, .ref m1, .ref m2, .ref m3, .ref m4, .int 0, .int 0, .ref pl, .ref ta, .int 0, .int 0, .int (-1), .ref wa, .ref pz, .ref ih, .ref su, .ref th, .ref od, .ref fo, .ref co, .ref qu, .ref pa, .ref td, .ref wt, .ref il, .int 0, .int 0]))] sz) := by
  refine Met.ofW (cc := cX9_copy) (maxL := 2) (ret := (some .int)) (by decide) rfl ?_
  intro p e s m args below meth c s₁ B hml hv
  obtain ⟨rfl, hsz, hP, hK, hD0, hN⟩ := hv
  have hx := B.exec
  have hb := B.bytes
  have hr := B.returns
  have hts := atoms_spec (ws := wsX9_copy) B.pre
  have hown : s.vm.findClass RX9 = some m.cls := findClass_of_methodNamed B.named
  have hlocks := B.notSynchronized
  subst hsz
  have hD := hD0.self (sz := s.heap.size)
  generalize hAe : va_A [(mo, .inr (9, [.int (nI bw), .int (nI bh), .ref kk, .ref rp, .ref mi, .ref ba, .ref wn, .int (-1), .int 0, .int 0, .ref m1, .ref m2, .ref m3, .ref m4, .int 0, .int 0, .ref pl, .ref ta, .int 0, .int 0, .int (-1), .ref wa, .ref pz, .ref ih, .ref su, .ref th, .ref od, .ref fo, .ref co, .ref qu, .ref pa, .ref td, .ref wt, .ref il, .int 0, .int 0]))] s.heap.size = A at hD ⊢
  have hA : ∀ q : Nat, s.heap.size ≤ q → A q := fun q h => by rw [← hAe]; exact Or.inr h
  have hS : va_S A s.heap s.heap [] := va_S.rf
  have hP : va_P D vwCl [(mo, .inr (9, [.int (nI bw), .int (nI bh), .ref kk, .ref rp, .ref mi, .ref ba, .ref wn, .int (-1), .int 0, .int 0, .ref m1, .ref m2, .ref m3, .ref m4, .int 0, .int 0, .ref pl, .ref ta, .int 0, .int 0, .int (-1), .ref wa, .ref pz, .ref ih, .ref su, .ref th, .ref od, .ref fo, .ref co, .ref qu, .ref pa, .ref td, .ref wt, .ref il, .int 0, .int 0]))] s.heap := hP
  have hl := lv_entry ([.ref mo]) (n := 2) (Nat.le_of_ble_eq_true rfl)
  rw [lg_entry_eq]
  generalize (lg_sl ([.ref mo]) ++ List.replicate (2 - (lg_sl ([.ref mo])).length) Slot.unset).toArray = ls at hl ⊢
  have hl : lv_has ls 2 [(0, .ref mo)] := hl
  refine lv_aload_n hx hb dX9_copy_0 rfl (lv_at hl 0 rfl) ?_
  refine va_get (D := D) (ci := 9) (v := .int 0) (C := RX9) (T := TX9) (N := 36) hx hb hts (by decide +kernel) hown hK hP 0 rfl rfl 18 (by decide) (hts (.fieldLink RX9 215 "CellarPushersModel" "planned" "I") (by decide +kernel)) (fun _ h9 => h9) rfl dX9_copy_1 ?_
  refine lv_sipush (v := 400) hx hb dX9_copy_4 (by decide) ?_
  refine lv_icmp_le (tgt := 13) hx hb dX9_copy_7 (by decide) (fun _ => ?_) (fun h9 => absurd (by decide : (0 : Int32) ≤ (400 : Int32)) h9)
  refine lv_iconst (v := 0) hx hb dX9_copy_13 (by decide) ?_
  refine lv_istore_n (lv' := [(1, .int 0), (0, .ref mo)]) hx hb dX9_copy_14 rfl hl (by decide) rfl (fun ls hl => ?_)
  refine lv_iload_n hx hb dX9_copy_15 rfl (lv_at hl 0 rfl) ?_
  refine lv_aload_n hx hb dX9_copy_16 rfl (lv_at hl 1 rfl) ?_
  refine va_get (D := D) (ci := 9) (v := .int 0) (C := RX9) (T := TX9) (N := 36) hx hb hts (by decide +kernel) hown hK hP 0 rfl rfl 18 (by decide) (hts (.fieldLink RX9 215 "CellarPushersModel" "planned" "I") (by decide +kernel)) (fun _ h9 => h9) rfl dX9_copy_17 ?_
  refine lv_icmp_ge (tgt := 41) hx hb dX9_copy_20 (by decide) (fun _ => ?_) (fun h9 => absurd (by decide : (0 : Int32) ≤ (0 : Int32)) h9)
  refine lv_aload_n hx hb dX9_copy_41 rfl (lv_at hl 1 rfl) ?_
  refine lv_aload_n hx hb dX9_copy_42 rfl (lv_at hl 1 rfl) ?_
  refine va_get (D := D) (ci := 9) (v := .int 0) (C := RX9) (T := TX9) (N := 36) hx hb hts (by decide +kernel) hown hK hP 0 rfl rfl 18 (by decide) (hts (.fieldLink RX9 215 "CellarPushersModel" "planned" "I") (by decide +kernel)) (fun _ h9 => h9) rfl dX9_copy_43 ?_
  refine va_put (D := D) (ci := 9) (v := .int 0) (ty := .int) (C := RX9) (T := TX9) (N := 36) hx hb hts (by decide +kernel) tyX9 tyX9_ok nmX9 hown hK hP hD hS 0 rfl rfl 19 (by decide) (hts (.fieldLink RX9 230 "CellarPushersModel" "taped" "I") (by decide +kernel)) (fun _ h9 => h9) rfl (by decide +kernel) rfl rfl (Nat.le_of_ble_eq_true rfl) dX9_copy_46 (fun H locs hP hD hS => ?_)
  have hP : va_P D vwCl [(mo, .inr (9, [.int (nI bw), .int (nI bh), .ref kk, .ref rp, .ref mi, .ref ba, .ref wn, .int (-1), .int 0, .int 0, .ref m1, .ref m2, .ref m3, .ref m4, .int 0, .int 0, .ref pl, .ref ta, .int 0, .int 0, .int (-1), .ref wa, .ref pz, .ref ih, .ref su, .ref th, .ref od, .ref fo, .ref co, .ref qu, .ref pa, .ref td, .ref wt, .ref il, .int 0, .int 0]))] H := hP
  have hD : va_D A [(mo, .inr (9, [.int (nI bw), .int (nI bh), .ref kk, .ref rp, .ref mi, .ref ba, .ref wn, .int (-1), .int 0, .int 0, .ref m1, .ref m2, .ref m3, .ref m4, .int 0, .int 0, .ref pl, .ref ta, .int 0, .int 0, .int (-1), .ref wa, .ref pz, .ref ih, .ref su, .ref th, .ref od, .ref fo, .ref co, .ref qu, .ref pa, .ref td, .ref wt, .ref il, .int 0, .int 0]))] := hD
  refine lv_aload_n hx hb dX9_copy_49 rfl (lv_at hl 1 rfl) ?_
  refine va_get (D := D) (ci := 9) (v := .int 0) (C := RX9) (T := TX9) (N := 36) hx hb hts (by decide +kernel) hown hK hP 0 rfl rfl 19 (by decide) (hts (.fieldLink RX9 230 "CellarPushersModel" "taped" "I") (by decide +kernel)) (fun _ h9 => h9) rfl dX9_copy_50 ?_
  have hP9 := hP.sub (ws' := []) [] rfl
  have hD9 := hD.sub (ws' := []) [] (by decide) rfl
  exact W.iret (v := 0) hx hb hr (fun t ht hW => ⟨⟨_, (), rfl, rfl, ⟨by rw [ht]; exact hP9, hD9⟩⟩, hS.F ht⟩) hS.2.2 dX9_copy_53
set_option maxHeartbeats 4000000 in
set_option maxRecDepth 100000 in
theorem k_X9_forge (l : Launch) (D : va_G) (kI kZ kJ : ClassId)  (mo kk rp mi ba wn m1 m2 m3 m4 pl ta wa pz ih su th od fo co qu pa td wt il : Nat) (bw bh : Nat) (hbw : bw ≤ 8) (hbh : bh ≤ 8) (x v : Int32) : Met l yX9_forge wsX9_forge ({ frames := 0, cells := 0, slots := 0, locals := 0 }) (qR D kI kZ kJ [(mo, .inr (9, [.int (nI bw), .int (nI bh), .ref kk, .ref rp, .ref mi, .ref ba, .ref wn, .int (-1), .int 0, .int 0, .ref m1, .ref m2, .ref m3, .ref m4, .int 0, .int 0, .ref pl, .ref ta, .int 0, .int 0, .int (-1), .ref wa, .ref pz, .ref ih, .ref su, .ref th, .ref od, .ref fo, .ref co, .ref qu, .ref pa, .ref td, .ref wt, .ref il, .int 0, .int 0]))] [.ref mo, .int x, .int v]) (vp_Si (fun r : Int32 => r = -2)) 0 0 (fun _ => False) := by
  refine Met.ofW (cc := cX9_forge) (maxL := 4) (ret := (some .int)) (by decide) rfl ?_
  intro p e s m args below meth c s₁ B hml hv
  obtain ⟨rfl, hP, hK, hN⟩ := hv
  have hx := B.exec
  have hb := B.bytes
  have hr := B.returns
  have hts := atoms_spec (ws := wsX9_forge) B.pre
  have hown : s.vm.findClass RX9 = some m.cls := findClass_of_methodNamed B.named
  have hlocks := B.notSynchronized
  have hP : va_P D vwCl [(mo, .inr (9, [.int (nI bw), .int (nI bh), .ref kk, .ref rp, .ref mi, .ref ba, .ref wn, .int (-1), .int 0, .int 0, .ref m1, .ref m2, .ref m3, .ref m4, .int 0, .int 0, .ref pl, .ref ta, .int 0, .int 0, .int (-1), .ref wa, .ref pz, .ref ih, .ref su, .ref th, .ref od, .ref fo, .ref co, .ref qu, .ref pa, .ref td, .ref wt, .ref il, .int 0, .int 0]))] s.heap := hP
  have hl := lv_entry ([.ref mo, .int x, .int v]) (n := 4) (Nat.le_of_ble_eq_true rfl)
  rw [lg_entry_eq]
  generalize (lg_sl ([.ref mo, .int x, .int v]) ++ List.replicate (4 - (lg_sl ([.ref mo, .int x, .int v])).length) Slot.unset).toArray = ls at hl ⊢
  have hl : lv_has ls 4 [(0, .ref mo), (1, .int x), (2, .int v)] := hl
  refine lv_iload_n hx hb dX9_forge_0 rfl (lv_at hl 1 rfl) ?_
  refine lv_if_lt (tgt := 19) hx hb dX9_forge_1 (by decide) (fun c_1 => ?_) (fun c_1 => ?_)
  · skip
    refine lv_bipush (v := (-2)) hx hb dX9_forge_19 (by decide) ?_
    exact W.iret (v := (-2)) hx hb hr (fun t ht hW => ⟨_, rfl, rfl, ht⟩) (fun q hq => by cases hq) dX9_forge_21
  · skip
    refine lv_iload_n hx hb dX9_forge_4 rfl (lv_at hl 1 rfl) ?_
    refine lv_aload_n hx hb dX9_forge_5 rfl (lv_at hl 0 rfl) ?_
    refine va_get (D := D) (ci := 9) (v := .int 0) (C := RX9) (T := TX9) (N := 36) hx hb hts (by decide +kernel) hown hK hP 0 rfl rfl 19 (by decide) (hts (.fieldLink RX9 230 "CellarPushersModel" "taped" "I") (by decide +kernel)) (fun _ h9 => h9) rfl dX9_forge_6 ?_
    refine lv_icmp_ge (tgt := 19) hx hb dX9_forge_9 (by decide) (fun _ => ?_) (fun h9 => absurd (Int32.not_lt.mp (by assumption)) h9)
    refine lv_bipush (v := (-2)) hx hb dX9_forge_19 (by decide) ?_
    exact W.iret (v := (-2)) hx hb hr (fun t ht hW => ⟨_, rfl, rfl, ht⟩) (fun q hq => by cases hq) dX9_forge_21
set_option maxHeartbeats 4000000 in
set_option maxRecDepth 100000 in
theorem k_X9_hush (l : Launch) (D : va_G) (kI kZ kJ : ClassId)  (mo kk rp mi ba wn m1 m2 m3 m4 pl ta wa pz ih su th od fo co qu pa td wt il : Nat) (bw bh : Nat) (hbw : bw ≤ 8) (hbh : bh ≤ 8) (sz : Nat) : Met l yX9_hush wsX9_hush ({ frames := 0, cells := 0, slots := 0, locals := 0 }) (qW D kI kZ kJ [(mo, .inr (9, [.int (nI bw), .int (nI bh), .ref kk, .ref rp, .ref mi, .ref ba, .ref wn, .int (-1), .int 0, .int 0, .ref m1, .ref m2, .ref m3, .ref m4, .int 0, .int 0, .ref pl, .ref ta, .int 0, .int 0, .int (-1), .ref wa, .ref pz, .ref ih, .ref su, .ref th, .ref od, .ref fo, .ref co, .ref qu, .ref pa, .ref td, .ref wt, .ref il, .int 0, .int 0]))] sz [.ref mo]) (va_Qi (fun (r : Int32) (u : Unit) => r = 0) (qB D (fun u : Unit => []) (va_A [(mo, .inr (9, [.int (nI bw), .int (nI bh), .ref kk, .ref rp, .ref mi, .ref ba, .ref wn, .int (-1), .int 0, .int 0, .ref m1, .ref m2, .ref m3, .ref m4, .int 0, .int 0, .ref pl, .ref ta, .int 0, .int 0, .int (-1), .ref wa, .ref pz, .ref ih, .ref su, .ref th, .ref od, .ref fo, .ref co, .ref qu, .ref pa, .ref td, .ref wt, .ref il, .int 0, .int 0]))] sz)) (va_A [(mo, .inr (9, [.int (nI bw), .int (nI bh), .ref kk, .ref rp, .ref mi, .ref ba, .ref wn, .int (-1), .int 0, .int 0, .ref m1, .ref m2, .ref m3, .ref m4, .int 0, .int 0, .ref pl, .ref ta, .int 0, .int 0, .int (-1), .ref wa, .ref pz, .ref ih, .ref su, .ref th, .ref od, .ref fo, .ref co, .ref qu, .ref pa, .ref td, .ref wt, .ref il, .int 0, .int 0]))] sz)) 0 0 (va_A [(mo, .inr (9, [.int (nI bw), .int (nI bh), .ref kk, .ref rp, .ref mi, .ref ba, .ref wn, .int (-1), .int 0, .int 0, .ref m1, .ref m2, .ref m3, .ref m4, .int 0, .int 0, .ref pl, .ref ta, .int 0, .int 0, .int (-1), .ref wa, .ref pz, .ref ih, .ref su, .ref th, .ref od, .ref fo, .ref co, .ref qu, .ref pa, .ref td, .ref wt, .ref il, .int 0, .int 0]))] sz) := by
  refine Met.ofW (cc := cX9_hush) (maxL := 2) (ret := (some .int)) (by decide) rfl ?_
  intro p e s m args below meth c s₁ B hml hv
  obtain ⟨rfl, hsz, hP, hK, hD0, hN⟩ := hv
  have hx := B.exec
  have hb := B.bytes
  have hr := B.returns
  have hts := atoms_spec (ws := wsX9_hush) B.pre
  have hown : s.vm.findClass RX9 = some m.cls := findClass_of_methodNamed B.named
  have hlocks := B.notSynchronized
  subst hsz
  have hD := hD0.self (sz := s.heap.size)
  generalize hAe : va_A [(mo, .inr (9, [.int (nI bw), .int (nI bh), .ref kk, .ref rp, .ref mi, .ref ba, .ref wn, .int (-1), .int 0, .int 0, .ref m1, .ref m2, .ref m3, .ref m4, .int 0, .int 0, .ref pl, .ref ta, .int 0, .int 0, .int (-1), .ref wa, .ref pz, .ref ih, .ref su, .ref th, .ref od, .ref fo, .ref co, .ref qu, .ref pa, .ref td, .ref wt, .ref il, .int 0, .int 0]))] s.heap.size = A at hD ⊢
  have hA : ∀ q : Nat, s.heap.size ≤ q → A q := fun q h => by rw [← hAe]; exact Or.inr h
  have hS : va_S A s.heap s.heap [] := va_S.rf
  have hP : va_P D vwCl [(mo, .inr (9, [.int (nI bw), .int (nI bh), .ref kk, .ref rp, .ref mi, .ref ba, .ref wn, .int (-1), .int 0, .int 0, .ref m1, .ref m2, .ref m3, .ref m4, .int 0, .int 0, .ref pl, .ref ta, .int 0, .int 0, .int (-1), .ref wa, .ref pz, .ref ih, .ref su, .ref th, .ref od, .ref fo, .ref co, .ref qu, .ref pa, .ref td, .ref wt, .ref il, .int 0, .int 0]))] s.heap := hP
  have hl := lv_entry ([.ref mo]) (n := 2) (Nat.le_of_ble_eq_true rfl)
  rw [lg_entry_eq]
  generalize (lg_sl ([.ref mo]) ++ List.replicate (2 - (lg_sl ([.ref mo])).length) Slot.unset).toArray = ls at hl ⊢
  have hl : lv_has ls 2 [(0, .ref mo)] := hl
  refine lv_aload_n hx hb dX9_hush_0 rfl (lv_at hl 0 rfl) ?_
  refine va_get (D := D) (ci := 9) (v := .int 0) (C := RX9) (T := TX9) (N := 36) hx hb hts (by decide +kernel) hown hK hP 0 rfl rfl 19 (by decide) (hts (.fieldLink RX9 230 "CellarPushersModel" "taped" "I") (by decide +kernel)) (fun _ h9 => h9) rfl dX9_hush_1 ?_
  refine lv_istore_n (lv' := [(1, .int 0), (0, .ref mo)]) hx hb dX9_hush_4 rfl hl (by decide) rfl (fun ls hl => ?_)
  refine lv_aload_n hx hb dX9_hush_5 rfl (lv_at hl 1 rfl) ?_
  refine lv_iconst (v := 0) hx hb dX9_hush_6 (by decide) ?_
  refine va_put (D := D) (ci := 9) (v := .int 0) (ty := .int) (C := RX9) (T := TX9) (N := 36) hx hb hts (by decide +kernel) tyX9 tyX9_ok nmX9 hown hK hP hD hS 0 rfl rfl 19 (by decide) (hts (.fieldLink RX9 230 "CellarPushersModel" "taped" "I") (by decide +kernel)) (fun _ h9 => h9) rfl (by decide +kernel) rfl rfl (Nat.le_of_ble_eq_true rfl) dX9_hush_7 (fun H locs hP hD hS => ?_)
  have hP : va_P D vwCl [(mo, .inr (9, [.int (nI bw), .int (nI bh), .ref kk, .ref rp, .ref mi, .ref ba, .ref wn, .int (-1), .int 0, .int 0, .ref m1, .ref m2, .ref m3, .ref m4, .int 0, .int 0, .ref pl, .ref ta, .int 0, .int 0, .int (-1), .ref wa, .ref pz, .ref ih, .ref su, .ref th, .ref od, .ref fo, .ref co, .ref qu, .ref pa, .ref td, .ref wt, .ref il, .int 0, .int 0]))] H := hP
  have hD : va_D A [(mo, .inr (9, [.int (nI bw), .int (nI bh), .ref kk, .ref rp, .ref mi, .ref ba, .ref wn, .int (-1), .int 0, .int 0, .ref m1, .ref m2, .ref m3, .ref m4, .int 0, .int 0, .ref pl, .ref ta, .int 0, .int 0, .int (-1), .ref wa, .ref pz, .ref ih, .ref su, .ref th, .ref od, .ref fo, .ref co, .ref qu, .ref pa, .ref td, .ref wt, .ref il, .int 0, .int 0]))] := hD
  refine lv_iload_n hx hb dX9_hush_10 rfl (lv_at hl 0 rfl) ?_
  have hP9 := hP.sub (ws' := []) [] rfl
  have hD9 := hD.sub (ws' := []) [] (by decide) rfl
  exact W.iret (v := 0) hx hb hr (fun t ht hW => ⟨⟨_, (), rfl, rfl, ⟨by rw [ht]; exact hP9, hD9⟩⟩, hS.F ht⟩) hS.2.2 dX9_hush_11
set_option maxHeartbeats 4000000 in
set_option maxRecDepth 100000 in
theorem k_X9_check (l : Launch) (D : va_G) (kI kZ kJ : ClassId)  (mo kk rp mi ba wn m1 m2 m3 m4 pl ta wa pz ih su th od fo co qu pa td wt il : Nat) (bw bh : Nat) (hbw : bw ≤ 8) (hbh : bh ≤ 8) : Met l yX9_check wsX9_check ({ frames := 0, cells := 0, slots := 0, locals := 0 }) (qR D kI kZ kJ [(mo, .inr (9, [.int (nI bw), .int (nI bh), .ref kk, .ref rp, .ref mi, .ref ba, .ref wn, .int (-1), .int 0, .int 0, .ref m1, .ref m2, .ref m3, .ref m4, .int 0, .int 0, .ref pl, .ref ta, .int 0, .int 0, .int (-1), .ref wa, .ref pz, .ref ih, .ref su, .ref th, .ref od, .ref fo, .ref co, .ref qu, .ref pa, .ref td, .ref wt, .ref il, .int 0, .int 0]))] [.ref mo]) (vp_Si (fun r : Int32 => r = -2)) 0 0 (fun _ => False) := by
  refine Met.ofW (cc := cX9_check) (maxL := 3) (ret := (some .int)) (by decide) rfl ?_
  intro p e s m args below meth c s₁ B hml hv
  obtain ⟨rfl, hP, hK, hN⟩ := hv
  have hx := B.exec
  have hb := B.bytes
  have hr := B.returns
  have hts := atoms_spec (ws := wsX9_check) B.pre
  have hown : s.vm.findClass RX9 = some m.cls := findClass_of_methodNamed B.named
  have hlocks := B.notSynchronized
  have hP : va_P D vwCl [(mo, .inr (9, [.int (nI bw), .int (nI bh), .ref kk, .ref rp, .ref mi, .ref ba, .ref wn, .int (-1), .int 0, .int 0, .ref m1, .ref m2, .ref m3, .ref m4, .int 0, .int 0, .ref pl, .ref ta, .int 0, .int 0, .int (-1), .ref wa, .ref pz, .ref ih, .ref su, .ref th, .ref od, .ref fo, .ref co, .ref qu, .ref pa, .ref td, .ref wt, .ref il, .int 0, .int 0]))] s.heap := hP
  have hl := lv_entry ([.ref mo]) (n := 3) (Nat.le_of_ble_eq_true rfl)
  rw [lg_entry_eq]
  generalize (lg_sl ([.ref mo]) ++ List.replicate (3 - (lg_sl ([.ref mo])).length) Slot.unset).toArray = ls at hl ⊢
  have hl : lv_has ls 3 [(0, .ref mo)] := hl
  refine lv_aload_n hx hb dX9_check_0 rfl (lv_at hl 0 rfl) ?_
  refine va_get (D := D) (ci := 9) (v := .int (-1)) (C := RX9) (T := TX9) (N := 36) hx hb hts (by decide +kernel) hown hK hP 0 rfl rfl 7 (by decide) (hts (.fieldLink RX9 26 "CellarPushersModel" "man" "I") (by decide +kernel)) (fun _ h9 => h9) rfl dX9_check_1 ?_
  refine lv_if_ge (tgt := 10) hx hb dX9_check_4 (by decide) (fun h9 => absurd h9 (by decide : ¬ ((0 : Int32) ≤ ((-1) : Int32)))) (fun _ => ?_)
  refine lv_bipush (v := (-2)) hx hb dX9_check_7 (by decide) ?_
  exact W.iret (v := (-2)) hx hb hr (fun t ht hW => ⟨_, rfl, rfl, ht⟩) (fun q hq => by cases hq) dX9_check_9
set_option maxHeartbeats 4000000 in
set_option maxRecDepth 100000 in
theorem k_X9_count (l : Launch) (D : va_G) (kI kZ kJ : ClassId)  (mo kk rp mi ba wn m1 m2 m3 m4 pl ta wa pz ih su th od fo co qu pa td wt il : Nat) (bw bh : Nat) (hbw : bw ≤ 8) (hbh : bh ≤ 8) (x : Int32) (sz : Nat) : Met l yX9_count wsX9_count ({ frames := 2, cells := 0, slots := 0, locals := 43 }) (qW D kI kZ kJ [(mo, .inr (9, [.int (nI bw), .int (nI bh), .ref kk, .ref rp, .ref mi, .ref ba, .ref wn, .int (-1), .int 0, .int 0, .ref m1, .ref m2, .ref m3, .ref m4, .int 0, .int 0, .ref pl, .ref ta, .int 0, .int 0, .int (-1), .ref wa, .ref pz, .ref ih, .ref su, .ref th, .ref od, .ref fo, .ref co, .ref qu, .ref pa, .ref td, .ref wt, .ref il, .int 0, .int 0])), (kk, .inl (kI, 64, .inl (fun _ => 0))), (mi, .inl (kZ, 8, .inl (fun _ => 0))), (ba, .inl (kZ, 64, .inl (fun _ => 0))), (wn, .inl (kZ, 64, .inl (fun _ => 0))), (od, .inl (kI, 64, .inl (fun _ => 0)))] sz [.ref mo, .int x]) (va_Qi (fun (r : Int32) (u : Unit) => q_cnt x r) (qB D (fun u : Unit => []) (va_A [(mo, .inr (9, [.int (nI bw), .int (nI bh), .ref kk, .ref rp, .ref mi, .ref ba, .ref wn, .int (-1), .int 0, .int 0, .ref m1, .ref m2, .ref m3, .ref m4, .int 0, .int 0, .ref pl, .ref ta, .int 0, .int 0, .int (-1), .ref wa, .ref pz, .ref ih, .ref su, .ref th, .ref od, .ref fo, .ref co, .ref qu, .ref pa, .ref td, .ref wt, .ref il, .int 0, .int 0])), (kk, .inl (kI, 64, .inl (fun _ => 0))), (mi, .inl (kZ, 8, .inl (fun _ => 0))), (ba, .inl (kZ, 64, .inl (fun _ => 0))), (wn, .inl (kZ, 64, .inl (fun _ => 0))), (od, .inl (kI, 64, .inl (fun _ => 0)))] sz)) (va_A [(mo, .inr (9, [.int (nI bw), .int (nI bh), .ref kk, .ref rp, .ref mi, .ref ba, .ref wn, .int (-1), .int 0, .int 0, .ref m1, .ref m2, .ref m3, .ref m4, .int 0, .int 0, .ref pl, .ref ta, .int 0, .int 0, .int (-1), .ref wa, .ref pz, .ref ih, .ref su, .ref th, .ref od, .ref fo, .ref co, .ref qu, .ref pa, .ref td, .ref wt, .ref il, .int 0, .int 0])), (kk, .inl (kI, 64, .inl (fun _ => 0))), (mi, .inl (kZ, 8, .inl (fun _ => 0))), (ba, .inl (kZ, 64, .inl (fun _ => 0))), (wn, .inl (kZ, 64, .inl (fun _ => 0))), (od, .inl (kI, 64, .inl (fun _ => 0)))] sz)) 0 0 (va_A [(mo, .inr (9, [.int (nI bw), .int (nI bh), .ref kk, .ref rp, .ref mi, .ref ba, .ref wn, .int (-1), .int 0, .int 0, .ref m1, .ref m2, .ref m3, .ref m4, .int 0, .int 0, .ref pl, .ref ta, .int 0, .int 0, .int (-1), .ref wa, .ref pz, .ref ih, .ref su, .ref th, .ref od, .ref fo, .ref co, .ref qu, .ref pa, .ref td, .ref wt, .ref il, .int 0, .int 0])), (kk, .inl (kI, 64, .inl (fun _ => 0))), (mi, .inl (kZ, 8, .inl (fun _ => 0))), (ba, .inl (kZ, 64, .inl (fun _ => 0))), (wn, .inl (kZ, 64, .inl (fun _ => 0))), (od, .inl (kI, 64, .inl (fun _ => 0)))] sz) := by
  refine Met.ofW (cc := cX9_count) (maxL := 4) (ret := (some .int)) (by decide) rfl ?_
  intro p e s m args below meth c s₁ B hml hv
  obtain ⟨rfl, hsz, hP, hK, hD0, hN⟩ := hv
  have hx := B.exec
  have hb := B.bytes
  have hr := B.returns
  have hts := atoms_spec (ws := wsX9_count) B.pre
  have hown : s.vm.findClass RX9 = some m.cls := findClass_of_methodNamed B.named
  have hlocks := B.notSynchronized
  subst hsz
  have hD := hD0.self (sz := s.heap.size)
  generalize hAe : va_A [(mo, .inr (9, [.int (nI bw), .int (nI bh), .ref kk, .ref rp, .ref mi, .ref ba, .ref wn, .int (-1), .int 0, .int 0, .ref m1, .ref m2, .ref m3, .ref m4, .int 0, .int 0, .ref pl, .ref ta, .int 0, .int 0, .int (-1), .ref wa, .ref pz, .ref ih, .ref su, .ref th, .ref od, .ref fo, .ref co, .ref qu, .ref pa, .ref td, .ref wt, .ref il, .int 0, .int 0])), (kk, .inl (kI, 64, .inl (fun _ => 0))), (mi, .inl (kZ, 8, .inl (fun _ => 0))), (ba, .inl (kZ, 64, .inl (fun _ => 0))), (wn, .inl (kZ, 64, .inl (fun _ => 0))), (od, .inl (kI, 64, .inl (fun _ => 0)))] s.heap.size = A at hD ⊢
  have hA : ∀ q : Nat, s.heap.size ≤ q → A q := fun q h => by rw [← hAe]; exact Or.inr h
  have hS : va_S A s.heap s.heap [] := va_S.rf
  have hP : va_P D vwCl [(mo, .inr (9, [.int (nI bw), .int (nI bh), .ref kk, .ref rp, .ref mi, .ref ba, .ref wn, .int (-1), .int 0, .int 0, .ref m1, .ref m2, .ref m3, .ref m4, .int 0, .int 0, .ref pl, .ref ta, .int 0, .int 0, .int (-1), .ref wa, .ref pz, .ref ih, .ref su, .ref th, .ref od, .ref fo, .ref co, .ref qu, .ref pa, .ref td, .ref wt, .ref il, .int 0, .int 0])), (kk, .inl (kI, 64, .inl (fun _ => 0))), (mi, .inl (kZ, 8, .inl (fun _ => 0))), (ba, .inl (kZ, 64, .inl (fun _ => 0))), (wn, .inl (kZ, 64, .inl (fun _ => 0))), (od, .inl (kI, 64, .inl (fun _ => 0)))] s.heap := hP
  have hl := lv_entry ([.ref mo, .int x]) (n := 4) (Nat.le_of_ble_eq_true rfl)
  rw [lg_entry_eq]
  generalize (lg_sl ([.ref mo, .int x]) ++ List.replicate (4 - (lg_sl ([.ref mo, .int x])).length) Slot.unset).toArray = ls at hl ⊢
  have hl : lv_has ls 4 [(0, .ref mo), (1, .int x)] := hl
  refine lv_iconst (v := 0) hx hb dX9_count_0 (by decide) ?_
  refine lv_istore_n (lv' := [(2, .int 0), (0, .ref mo), (1, .int x)]) hx hb dX9_count_1 rfl hl (by decide) rfl (fun ls hl => ?_)
  refine lv_iload_n hx hb dX9_count_2 rfl (lv_at hl 2 rfl) ?_
  rcases q_sw x with rfl | rfl | rfl | rfl | rfl | rfl | rfl | rfl | rfl | hsw
  · skip
    refine lv_tableIn (tgt := 52) (off := 49) hx hb dX9_count_3 (by decide +kernel) (by decide +kernel) (by decide +kernel) (by decide) ?_
    refine lv_aload_n hx hb dX9_count_52 rfl (lv_at hl 1 rfl) ?_
    refine qc_i (wr := [(ba, .inl (kZ, 64, .inl (fun _ => 0))), (wn, .inl (kZ, 64, .inl (fun _ => 0)))]) (qV_W (n := 0) (As := []) (rest := []) (wc := [(mo, .inr (9, [.int (nI bw), .int (nI bh), .ref kk, .ref rp, .ref mi, .ref ba, .ref wn, .int (-1), .int 0, .int 0, .ref m1, .ref m2, .ref m3, .ref m4, .int 0, .int 0, .ref pl, .ref ta, .int 0, .int 0, .int (-1), .ref wa, .ref pz, .ref ih, .ref su, .ref th, .ref od, .ref fo, .ref co, .ref qu, .ref pa, .ref td, .ref wt, .ref il, .int 0, .int 0])), (kk, .inl (kI, 64, .inl (fun _ => 0))), (mi, .inl (kZ, 8, .inl (fun _ => 0))), (od, .inl (kI, 64, .inl (fun _ => 0)))]) ⟨hx, hb, hml, hown, hts⟩ hK hN hP hD [0, 1, 2, 5] rfl rfl (by decide) (k_X9_fields l D kI kZ kJ mo kk rp mi ba wn m1 m2 m3 m4 pl ta wa pz ih su th od fo co qu pa td wt il bw bh hbw hbh s.heap.size) gX9_count_X9_fields rfl rfl rfl (by decide +kernel) ⟨(Nat.le_of_ble_eq_true rfl), (Nat.le_of_ble_eq_true rfl)⟩ 0 9 rfl rfl rfl rfl hl.1 rfl (Nat.le_of_ble_eq_true rfl) dX9_count_53 ⟨(Nat.le_of_ble_eq_true rfl), (Nat.le_of_ble_eq_true rfl)⟩) hP hD hS hA [0, 1, 2, 5] [3, 4] rfl rfl (by decide) (by decide) (fun r u H locs hw hP hD hS => ?_)
    obtain rfl := hw
    have hP : va_P D vwCl [(ba, .inl (kZ, 64, .inl (fun _ => 0))), (wn, .inl (kZ, 64, .inl (fun _ => 0)))] H := hP
    have hD : va_D A [(ba, .inl (kZ, 64, .inl (fun _ => 0))), (wn, .inl (kZ, 64, .inl (fun _ => 0)))] := hD
    have hP9 := hP.sub (ws' := []) [] rfl
    have hD9 := hD.sub (ws' := []) [] (by decide) rfl
    exact W.iret (v := 0) hx hb hr (fun t ht hW => ⟨⟨_, (), rfl, (by first | exact Or.inl ⟨rfl, rfl⟩ | exact Or.inr (Or.inl ⟨by decide, rfl⟩) | exact Or.inr (Or.inr ⟨hsw, rfl⟩)), ⟨by rw [ht]; exact hP9, hD9⟩⟩, hS.F ht⟩) hS.2.2 dX9_count_56
  · skip
    refine lv_tableIn (tgt := 57) (off := 54) hx hb dX9_count_3 (by decide +kernel) (by decide +kernel) (by decide +kernel) (by decide) ?_
    refine lv_aload_n hx hb dX9_count_57 rfl (lv_at hl 1 rfl) ?_
    refine lv_aload_n hx hb dX9_count_58 rfl (lv_at hl 1 rfl) ?_
    refine va_get (D := D) (ci := 9) (v := .ref ba) (C := RX9) (T := TX9) (N := 36) hx hb hts (by decide +kernel) hown hK hP 0 rfl rfl 5 (by decide) (hts (.fieldLink RX9 20 "CellarPushersModel" "barrels" "[Z") (by decide +kernel)) (fun _ h9 => h9) rfl dX9_count_59 ?_
    refine vp_callSi (qV_R (n := 1) (As := [.ref ba]) (rest := []) (wc := [(ba, .inl (kZ, 64, .inl (fun _ => 0)))]) ⟨hx, hb, hml, hown, hts⟩ hK hN hP [3] rfl (k_X9_number l D kI kZ kJ mo ba) gX9_count_X9_number rfl rfl rfl (by decide +kernel) ⟨(Nat.le_of_ble_eq_true rfl), (Nat.le_of_ble_eq_true rfl)⟩ 0 9 rfl rfl rfl rfl hl.1 rfl (Nat.le_of_ble_eq_true rfl) dX9_count_62 ⟨(Nat.le_of_ble_eq_true rfl), (Nat.le_of_ble_eq_true rfl)⟩).run (fun r hw => ?_)
    obtain rfl := hw
    have hP9 := hP.sub (ws' := []) [] rfl
    have hD9 := hD.sub (ws' := []) [] (by decide) rfl
    exact W.iret (v := 0) hx hb hr (fun t ht hW => ⟨⟨_, (), rfl, (by first | exact Or.inl ⟨rfl, rfl⟩ | exact Or.inr (Or.inl ⟨by decide, rfl⟩) | exact Or.inr (Or.inr ⟨hsw, rfl⟩)), ⟨by rw [ht]; exact hP9, hD9⟩⟩, hS.F ht⟩) hS.2.2 dX9_count_65
  · skip
    refine lv_tableIn (tgt := 66) (off := 63) hx hb dX9_count_3 (by decide +kernel) (by decide +kernel) (by decide +kernel) (by decide) ?_
    refine lv_aload_n hx hb dX9_count_66 rfl (lv_at hl 1 rfl) ?_
    refine lv_aload_n hx hb dX9_count_67 rfl (lv_at hl 1 rfl) ?_
    refine va_get (D := D) (ci := 9) (v := .ref wn) (C := RX9) (T := TX9) (N := 36) hx hb hts (by decide +kernel) hown hK hP 0 rfl rfl 6 (by decide) (hts (.fieldLink RX9 23 "CellarPushersModel" "wanted" "[Z") (by decide +kernel)) (fun _ h9 => h9) rfl dX9_count_68 ?_
    refine vp_callSi (qV_R (n := 1) (As := [.ref wn]) (rest := []) (wc := [(wn, .inl (kZ, 64, .inl (fun _ => 0)))]) ⟨hx, hb, hml, hown, hts⟩ hK hN hP [4] rfl (k_X9_number l D kI kZ kJ mo wn) gX9_count_X9_number rfl rfl rfl (by decide +kernel) ⟨(Nat.le_of_ble_eq_true rfl), (Nat.le_of_ble_eq_true rfl)⟩ 0 9 rfl rfl rfl rfl hl.1 rfl (Nat.le_of_ble_eq_true rfl) dX9_count_71 ⟨(Nat.le_of_ble_eq_true rfl), (Nat.le_of_ble_eq_true rfl)⟩).run (fun r hw => ?_)
    obtain rfl := hw
    have hP9 := hP.sub (ws' := []) [] rfl
    have hD9 := hD.sub (ws' := []) [] (by decide) rfl
    exact W.iret (v := 0) hx hb hr (fun t ht hW => ⟨⟨_, (), rfl, (by first | exact Or.inl ⟨rfl, rfl⟩ | exact Or.inr (Or.inl ⟨by decide, rfl⟩) | exact Or.inr (Or.inr ⟨hsw, rfl⟩)), ⟨by rw [ht]; exact hP9, hD9⟩⟩, hS.F ht⟩) hS.2.2 dX9_count_74
  · skip
    refine lv_tableIn (tgt := 75) (off := 72) hx hb dX9_count_3 (by decide +kernel) (by decide +kernel) (by decide +kernel) (by decide) ?_
    refine lv_aload_n hx hb dX9_count_75 rfl (lv_at hl 1 rfl) ?_
    refine va_get (D := D) (ci := 9) (v := .int 0) (C := RX9) (T := TX9) (N := 36) hx hb hts (by decide +kernel) hown hK hP 0 rfl rfl 8 (by decide) (hts (.fieldLink RX9 145 "CellarPushersModel" "steps" "I") (by decide +kernel)) (fun _ h9 => h9) rfl dX9_count_76 ?_
    have hP9 := hP.sub (ws' := []) [] rfl
    have hD9 := hD.sub (ws' := []) [] (by decide) rfl
    exact W.iret (v := 0) hx hb hr (fun t ht hW => ⟨⟨_, (), rfl, (by first | exact Or.inl ⟨rfl, rfl⟩ | exact Or.inr (Or.inl ⟨by decide, rfl⟩) | exact Or.inr (Or.inr ⟨hsw, rfl⟩)), ⟨by rw [ht]; exact hP9, hD9⟩⟩, hS.F ht⟩) hS.2.2 dX9_count_79
  · skip
    refine lv_tableIn (tgt := 80) (off := 77) hx hb dX9_count_3 (by decide +kernel) (by decide +kernel) (by decide +kernel) (by decide) ?_
    refine lv_aload_n hx hb dX9_count_80 rfl (lv_at hl 1 rfl) ?_
    refine va_get (D := D) (ci := 9) (v := .int 0) (C := RX9) (T := TX9) (N := 36) hx hb hts (by decide +kernel) hown hK hP 0 rfl rfl 9 (by decide) (hts (.fieldLink RX9 142 "CellarPushersModel" "pushes" "I") (by decide +kernel)) (fun _ h9 => h9) rfl dX9_count_81 ?_
    have hP9 := hP.sub (ws' := []) [] rfl
    have hD9 := hD.sub (ws' := []) [] (by decide) rfl
    exact W.iret (v := 0) hx hb hr (fun t ht hW => ⟨⟨_, (), rfl, (by first | exact Or.inl ⟨rfl, rfl⟩ | exact Or.inr (Or.inl ⟨by decide, rfl⟩) | exact Or.inr (Or.inr ⟨hsw, rfl⟩)), ⟨by rw [ht]; exact hP9, hD9⟩⟩, hS.F ht⟩) hS.2.2 dX9_count_84
  · skip
    refine lv_tableIn (tgt := 85) (off := 82) hx hb dX9_count_3 (by decide +kernel) (by decide +kernel) (by decide +kernel) (by decide) ?_
    refine lv_aload_n hx hb dX9_count_85 rfl (lv_at hl 1 rfl) ?_
    refine va_get (D := D) (ci := 9) (v := .int (-1)) (C := RX9) (T := TX9) (N := 36) hx hb hts (by decide +kernel) hown hK hP 0 rfl rfl 7 (by decide) (hts (.fieldLink RX9 26 "CellarPushersModel" "man" "I") (by decide +kernel)) (fun _ h9 => h9) rfl dX9_count_86 ?_
    refine lv_if_ge (tgt := 94) hx hb dX9_count_89 (by decide) (fun h9 => absurd h9 (by decide : ¬ ((0 : Int32) ≤ ((-1) : Int32)))) (fun _ => ?_)
    refine lv_iconst (v := 0) hx hb dX9_count_92 (by decide) ?_
    have hP9 := hP.sub (ws' := []) [] rfl
    have hD9 := hD.sub (ws' := []) [] (by decide) rfl
    exact W.iret (v := 0) hx hb hr (fun t ht hW => ⟨⟨_, (), rfl, (by first | exact Or.inl ⟨rfl, rfl⟩ | exact Or.inr (Or.inl ⟨by decide, rfl⟩) | exact Or.inr (Or.inr ⟨hsw, rfl⟩)), ⟨by rw [ht]; exact hP9, hD9⟩⟩, hS.F ht⟩) hS.2.2 dX9_count_93
  · skip
    refine lv_tableIn (tgt := 131) (off := 128) hx hb dX9_count_3 (by decide +kernel) (by decide +kernel) (by decide +kernel) (by decide) ?_
    refine lv_aload_n hx hb dX9_count_131 rfl (lv_at hl 1 rfl) ?_
    refine va_get (D := D) (ci := 9) (v := .int 0) (C := RX9) (T := TX9) (N := 36) hx hb hts (by decide +kernel) hown hK hP 0 rfl rfl 14 (by decide) (hts (.fieldLink RX9 112 "CellarPushersModel" "acts" "I") (by decide +kernel)) (fun _ h9 => h9) rfl dX9_count_132 ?_
    have hP9 := hP.sub (ws' := []) [] rfl
    have hD9 := hD.sub (ws' := []) [] (by decide) rfl
    exact W.iret (v := 0) hx hb hr (fun t ht hW => ⟨⟨_, (), rfl, (by first | exact Or.inl ⟨rfl, rfl⟩ | exact Or.inr (Or.inl ⟨by decide, rfl⟩) | exact Or.inr (Or.inr ⟨hsw, rfl⟩)), ⟨by rw [ht]; exact hP9, hD9⟩⟩, hS.F ht⟩) hS.2.2 dX9_count_135
  · skip
    refine lv_tableIn (tgt := 136) (off := 133) hx hb dX9_count_3 (by decide +kernel) (by decide +kernel) (by decide +kernel) (by decide) ?_
    refine lv_aload_n hx hb dX9_count_136 rfl (lv_at hl 1 rfl) ?_
    refine va_get (D := D) (ci := 9) (v := .int 0) (C := RX9) (T := TX9) (N := 36) hx hb hts (by decide +kernel) hown hK hP 0 rfl rfl 19 (by decide) (hts (.fieldLink RX9 230 "CellarPushersModel" "taped" "I") (by decide +kernel)) (fun _ h9 => h9) rfl dX9_count_137 ?_
    have hP9 := hP.sub (ws' := []) [] rfl
    have hD9 := hD.sub (ws' := []) [] (by decide) rfl
    exact W.iret (v := 0) hx hb hr (fun t ht hW => ⟨⟨_, (), rfl, (by first | exact Or.inl ⟨rfl, rfl⟩ | exact Or.inr (Or.inl ⟨by decide, rfl⟩) | exact Or.inr (Or.inr ⟨hsw, rfl⟩)), ⟨by rw [ht]; exact hP9, hD9⟩⟩, hS.F ht⟩) hS.2.2 dX9_count_140
  · skip
    refine lv_tableIn (tgt := 141) (off := 138) hx hb dX9_count_3 (by decide +kernel) (by decide +kernel) (by decide +kernel) (by decide) ?_
    refine lv_aload_n hx hb dX9_count_141 rfl (lv_at hl 1 rfl) ?_
    refine va_get (D := D) (ci := 9) (v := .int (-1)) (C := RX9) (T := TX9) (N := 36) hx hb hts (by decide +kernel) hown hK hP 0 rfl rfl 7 (by decide) (hts (.fieldLink RX9 26 "CellarPushersModel" "man" "I") (by decide +kernel)) (fun _ h9 => h9) rfl dX9_count_142 ?_
    have hP9 := hP.sub (ws' := []) [] rfl
    have hD9 := hD.sub (ws' := []) [] (by decide) rfl
    exact W.iret (v := (-1)) hx hb hr (fun t ht hW => ⟨⟨_, (), rfl, (by first | exact Or.inl ⟨rfl, rfl⟩ | exact Or.inr (Or.inl ⟨by decide, rfl⟩) | exact Or.inr (Or.inr ⟨hsw, rfl⟩)), ⟨by rw [ht]; exact hP9, hD9⟩⟩, hS.F ht⟩) hS.2.2 dX9_count_145
  · skip
    refine lv_tableOut (tgt := 146) hx hb dX9_count_3 hsw (by decide) ?_
    refine lv_bipush (v := (-2)) hx hb dX9_count_146 (by decide) ?_
    have hP9 := hP.sub (ws' := []) [] rfl
    have hD9 := hD.sub (ws' := []) [] (by decide) rfl
    exact W.iret (v := (-2)) hx hb hr (fun t ht hW => ⟨⟨_, (), rfl, (by first | exact Or.inl ⟨rfl, rfl⟩ | exact Or.inr (Or.inl ⟨by decide, rfl⟩) | exact Or.inr (Or.inr ⟨hsw, rfl⟩)), ⟨by rw [ht]; exact hP9, hD9⟩⟩, hS.F ht⟩) hS.2.2 dX9_count_148
