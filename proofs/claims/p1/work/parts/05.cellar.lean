set_option maxHeartbeats 4000000 in
set_option maxRecDepth 100000 in
theorem k_X8_isInUse (l : Launch) (D : va_G) (kI kZ kJ : ClassId)  (xo g sc tr tl wk pr pi se pn tp kd rw ms : Nat) (bw bh : Nat) (hbw : bw ≤ 8) (hbh : bh ≤ 8) (tm tb ts tq wf wq pnw tpw pp pq : Nat) (n : Nat) (hn : n < 64) : Met l yX8_isInUse wsX8_isInUse ({ frames := 4, cells := 0, slots := 0, locals := 84 }) (qR D kI kZ kJ [(xo, .inr (8, [.ref g, .ref sc, .ref tr, .ref tl, .ref wk, .ref pr, .ref pi, .ref se, .ref pn, .ref tp, .int (-1)])), (sc, .inr (3, [.int (-1), .long 0, .int 0, .int 0])), (g, .inr (0, [.int (nI bw), .int (nI bh), .long 0, .ref kd, .ref rw, .ref ms]))] [.ref xo, .int (nI n)]) (vp_Si (fun r : Int32 => r = 0)) 0 0 (fun _ => False) := by
  refine Met.ofW (cc := cX8_isInUse) (maxL := 2) (ret := (some .boolean)) (by decide) rfl ?_
  intro p e s m args below meth c s₁ B hml hv
  obtain ⟨rfl, hP, hK, hN⟩ := hv
  have hx := B.exec
  have hb := B.bytes
  have hr := B.returns
  have hts := atoms_spec (ws := wsX8_isInUse) B.pre
  have hown : s.vm.findClass RX8 = some m.cls := findClass_of_methodNamed B.named
  have hlocks := B.notSynchronized
  have hP : va_P D vwCl [(xo, .inr (8, [.ref g, .ref sc, .ref tr, .ref tl, .ref wk, .ref pr, .ref pi, .ref se, .ref pn, .ref tp, .int (-1)])), (sc, .inr (3, [.int (-1), .long 0, .int 0, .int 0])), (g, .inr (0, [.int (nI bw), .int (nI bh), .long 0, .ref kd, .ref rw, .ref ms]))] s.heap := hP
  have hl := lv_entry ([.ref xo, .int (nI n)]) (n := 2) (Nat.le_of_ble_eq_true rfl)
  rw [lg_entry_eq]
  generalize (lg_sl ([.ref xo, .int (nI n)]) ++ List.replicate (2 - (lg_sl ([.ref xo, .int (nI n)])).length) Slot.unset).toArray = ls at hl ⊢
  have hl : lv_has ls 2 [(0, .ref xo), (1, .int (nI n))] := hl
  refine lv_aload_n hx hb dX8_isInUse_0 rfl (lv_at hl 0 rfl) ?_
  refine va_get (D := D) (ci := 8) (v := .ref sc) (C := RX8) (T := TX8) (N := 11) hx hb hts (by decide +kernel) hown hK hP 0 rfl rfl 1 (by decide) (hts (.fieldLink RX8 21 "CellarPushers" "scene" "LCellarPushers$Scene;") (by decide +kernel)) (fun _ h9 => h9) rfl dX8_isInUse_1 ?_
  refine lv_iload_n hx hb dX8_isInUse_4 rfl (lv_at hl 1 rfl) ?_
  refine vp_callSi (qV_R (n := 1) (As := [.int (nI n)]) (rest := []) (wc := [(sc, .inr (3, [.int (-1), .long 0, .int 0, .int 0]))]) ⟨hx, hb, hml, hown, hts⟩ hK hN hP [1] rfl (k_X3_isTaken l D kI kZ kJ sc n hn) gX8_isInUse_X3_isTaken rfl rfl rfl (by decide +kernel) ⟨(Nat.le_of_ble_eq_true rfl), (Nat.le_of_ble_eq_true rfl)⟩ 1 3 rfl rfl rfl rfl hl.1 rfl (Nat.le_of_ble_eq_true rfl) dX8_isInUse_5 ⟨(Nat.le_of_ble_eq_true rfl), (Nat.le_of_ble_eq_true rfl)⟩).run (fun r hw => ?_)
  obtain rfl := hw
  refine lv_if_ne (tgt := 25) hx hb dX8_isInUse_8 (by decide) (fun h9 => absurd h9 (by decide : ¬ (¬ (0 : Int32) = (0 : Int32)))) (fun _ => ?_)
  refine lv_aload_n hx hb dX8_isInUse_11 rfl (lv_at hl 0 rfl) ?_
  refine va_get (D := D) (ci := 8) (v := .ref g) (C := RX8) (T := TX8) (N := 11) hx hb hts (by decide +kernel) hown hK hP 0 rfl rfl 0 (by decide) (hts (.fieldLink RX8 12 "CellarPushers" "ground" "LCellarPushers$Ground;") (by decide +kernel)) (fun _ h9 => h9) rfl dX8_isInUse_12 ?_
  refine va_get (D := D) (ci := 0) (v := .long 0) (C := RX0) (T := TX0) (N := 6) hx hb hts (by decide +kernel) hown hK hP 2 rfl rfl 2 (by decide) (hts (.fieldLink RX8 133 "CellarPushers$Ground" "wanted" "J") (by decide +kernel)) (fun _ h9 => h9) rfl dX8_isInUse_15 ?_
  refine lv_iload_n hx hb dX8_isInUse_18 rfl (lv_at hl 1 rfl) ?_
  refine vp_callSi (qS_R (n := 2) (As := [.long 0, .int (nI n)]) (rest := []) (wc := []) ⟨hx, hb, hml, hown, hts⟩ hK hN hP [] rfl (k_X8_has l D kI kZ kJ n hn) gX8_isInUse_X8_has rfl rfl rfl (by decide +kernel) ⟨(Nat.le_of_ble_eq_true rfl), (Nat.le_of_ble_eq_true rfl)⟩ rfl hl.1 rfl (Nat.le_of_ble_eq_true rfl) dX8_isInUse_19 ⟨(Nat.le_of_ble_eq_true rfl), (Nat.le_of_ble_eq_true rfl)⟩).run (fun r hw => ?_)
  obtain rfl := hw
  refine lv_if_eq (tgt := 29) hx hb dX8_isInUse_22 (by decide) (fun _ => ?_) (fun h9 => absurd (by decide : (0 : Int32) = (0 : Int32)) h9)
  refine lv_iconst (v := 0) hx hb dX8_isInUse_29 (by decide) ?_
  exact W.zret (v := 0) (ty := .boolean) hx hb hr rfl (fun t ht hW => ⟨_, rfl, rfl, ht⟩) (fun q hq => by cases hq) dX8_isInUse_30
set_option maxHeartbeats 4000000 in
set_option maxRecDepth 100000 in
theorem k_X8_mayBeSetOn (l : Launch) (D : va_G) (kI kZ kJ : ClassId)  (xo g sc tr tl wk pr pi se pn tp kd rw ms : Nat) (bw bh : Nat) (hbw : bw ≤ 8) (hbh : bh ≤ 8) (tm tb ts tq wf wq pnw tpw pp pq : Nat) (n : Nat) (hn : n < 64) : Met l yX8_mayBeSetOn wsX8_mayBeSetOn ({ frames := 1, cells := 0, slots := 0, locals := 21 }) (qR D kI kZ kJ [(xo, .inr (8, [.ref g, .ref sc, .ref tr, .ref tl, .ref wk, .ref pr, .ref pi, .ref se, .ref pn, .ref tp, .int (-1)])), (g, .inr (0, [.int (nI bw), .int (nI bh), .long 0, .ref kd, .ref rw, .ref ms])), (kd, .inl (kI, 64, .inl (fun _ => 0))), (ms, .inl (kZ, 8, .inl (fun _ => 0)))] [.ref xo, .int (nI n)]) (vp_Si (fun r : Int32 => r = 0)) 0 0 (fun _ => False) := by
  refine Met.ofW (cc := cX8_mayBeSetOn) (maxL := 2) (ret := (some .boolean)) (by decide) rfl ?_
  intro p e s m args below meth c s₁ B hml hv
  obtain ⟨rfl, hP, hK, hN⟩ := hv
  have hx := B.exec
  have hb := B.bytes
  have hr := B.returns
  have hts := atoms_spec (ws := wsX8_mayBeSetOn) B.pre
  have hown : s.vm.findClass RX8 = some m.cls := findClass_of_methodNamed B.named
  have hlocks := B.notSynchronized
  have hP : va_P D vwCl [(xo, .inr (8, [.ref g, .ref sc, .ref tr, .ref tl, .ref wk, .ref pr, .ref pi, .ref se, .ref pn, .ref tp, .int (-1)])), (g, .inr (0, [.int (nI bw), .int (nI bh), .long 0, .ref kd, .ref rw, .ref ms])), (kd, .inl (kI, 64, .inl (fun _ => 0))), (ms, .inl (kZ, 8, .inl (fun _ => 0)))] s.heap := hP
  have hl := lv_entry ([.ref xo, .int (nI n)]) (n := 2) (Nat.le_of_ble_eq_true rfl)
  rw [lg_entry_eq]
  generalize (lg_sl ([.ref xo, .int (nI n)]) ++ List.replicate (2 - (lg_sl ([.ref xo, .int (nI n)])).length) Slot.unset).toArray = ls at hl ⊢
  have hl : lv_has ls 2 [(0, .ref xo), (1, .int (nI n))] := hl
  refine lv_aload_n hx hb dX8_mayBeSetOn_0 rfl (lv_at hl 0 rfl) ?_
  refine va_get (D := D) (ci := 8) (v := .ref g) (C := RX8) (T := TX8) (N := 11) hx hb hts (by decide +kernel) hown hK hP 0 rfl rfl 0 (by decide) (hts (.fieldLink RX8 12 "CellarPushers" "ground" "LCellarPushers$Ground;") (by decide +kernel)) (fun _ h9 => h9) rfl dX8_mayBeSetOn_1 ?_
  refine lv_iload_n hx hb dX8_mayBeSetOn_4 rfl (lv_at hl 1 rfl) ?_
  refine vp_callSi (qV_R (n := 1) (As := [.int (nI n)]) (rest := []) (wc := [(g, .inr (0, [.int (nI bw), .int (nI bh), .long 0, .ref kd, .ref rw, .ref ms])), (kd, .inl (kI, 64, .inl (fun _ => 0))), (ms, .inl (kZ, 8, .inl (fun _ => 0)))]) ⟨hx, hb, hml, hown, hts⟩ hK hN hP [1, 2, 3] rfl (k_X0_kindNow_n l D kI kZ kJ g kd rw ms bw bh hbw hbh n hn) gX8_mayBeSetOn_X0_kindNow rfl rfl rfl (by decide +kernel) ⟨(Nat.le_of_ble_eq_true rfl), (Nat.le_of_ble_eq_true rfl)⟩ 1 0 rfl rfl rfl rfl hl.1 rfl (Nat.le_of_ble_eq_true rfl) dX8_mayBeSetOn_5 ⟨(Nat.le_of_ble_eq_true rfl), (Nat.le_of_ble_eq_true rfl)⟩).run (fun r hw => ?_)
  obtain rfl := hw
  refine lv_if_eq (tgt := 41) hx hb dX8_mayBeSetOn_8 (by decide) (fun _ => ?_) (fun h9 => absurd (by decide : (0 : Int32) = (0 : Int32)) h9)
  refine lv_iconst (v := 0) hx hb dX8_mayBeSetOn_41 (by decide) ?_
  exact W.zret (v := 0) (ty := .boolean) hx hb hr rfl (fun t ht hW => ⟨_, rfl, rfl, ht⟩) (fun q hq => by cases hq) dX8_mayBeSetOn_42
set_option maxHeartbeats 4000000 in
set_option maxRecDepth 100000 in
theorem k_X8_isDoneIn (l : Launch) (D : va_G) (kI kZ kJ : ClassId)  (xo g sc tr tl wk pr pi se pn tp kd rw ms : Nat) (bw bh : Nat) (hbw : bw ≤ 8) (hbh : bh ≤ 8) (tm tb ts tq wf wq pnw tpw pp pq : Nat) : Met l yX8_isDoneIn wsX8_isDoneIn ({ frames := 0, cells := 0, slots := 0, locals := 0 }) (qR D kI kZ kJ [(xo, .inr (8, [.ref g, .ref sc, .ref tr, .ref tl, .ref wk, .ref pr, .ref pi, .ref se, .ref pn, .ref tp, .int (-1)])), (g, .inr (0, [.int (nI bw), .int (nI bh), .long 0, .ref kd, .ref rw, .ref ms])), (sc, .inr (3, [.int (-1), .long 0, .int 0, .int 0]))] [.ref xo, .ref sc]) (vp_Si (fun r : Int32 => r = 1)) 0 0 (fun _ => False) := by
  refine Met.ofW (cc := cX8_isDoneIn) (maxL := 2) (ret := (some .boolean)) (by decide) rfl ?_
  intro p e s m args below meth c s₁ B hml hv
  obtain ⟨rfl, hP, hK, hN⟩ := hv
  have hx := B.exec
  have hb := B.bytes
  have hr := B.returns
  have hts := atoms_spec (ws := wsX8_isDoneIn) B.pre
  have hown : s.vm.findClass RX8 = some m.cls := findClass_of_methodNamed B.named
  have hlocks := B.notSynchronized
  have hP : va_P D vwCl [(xo, .inr (8, [.ref g, .ref sc, .ref tr, .ref tl, .ref wk, .ref pr, .ref pi, .ref se, .ref pn, .ref tp, .int (-1)])), (g, .inr (0, [.int (nI bw), .int (nI bh), .long 0, .ref kd, .ref rw, .ref ms])), (sc, .inr (3, [.int (-1), .long 0, .int 0, .int 0]))] s.heap := hP
  have hl := lv_entry ([.ref xo, .ref sc]) (n := 2) (Nat.le_of_ble_eq_true rfl)
  rw [lg_entry_eq]
  generalize (lg_sl ([.ref xo, .ref sc]) ++ List.replicate (2 - (lg_sl ([.ref xo, .ref sc])).length) Slot.unset).toArray = ls at hl ⊢
  have hl : lv_has ls 2 [(0, .ref xo), (1, .ref sc)] := hl
  refine lv_aload_n hx hb dX8_isDoneIn_0 rfl (lv_at hl 0 rfl) ?_
  refine va_get (D := D) (ci := 8) (v := .ref g) (C := RX8) (T := TX8) (N := 11) hx hb hts (by decide +kernel) hown hK hP 0 rfl rfl 0 (by decide) (hts (.fieldLink RX8 12 "CellarPushers" "ground" "LCellarPushers$Ground;") (by decide +kernel)) (fun _ h9 => h9) rfl dX8_isDoneIn_1 ?_
  refine va_get (D := D) (ci := 0) (v := .long 0) (C := RX0) (T := TX0) (N := 6) hx hb hts (by decide +kernel) hown hK hP 1 rfl rfl 2 (by decide) (hts (.fieldLink RX8 133 "CellarPushers$Ground" "wanted" "J") (by decide +kernel)) (fun _ h9 => h9) rfl dX8_isDoneIn_4 ?_
  refine lv_aload_n hx hb dX8_isDoneIn_7 rfl (lv_at hl 1 rfl) ?_
  refine va_get (D := D) (ci := 3) (v := .long 0) (C := RX3) (T := TX3) (N := 4) hx hb hts (by decide +kernel) hown hK hP 2 rfl rfl 1 (by decide) (hts (.fieldLink RX8 111 "CellarPushers$Scene" "barrels" "J") (by decide +kernel)) (fun _ h9 => h9) rfl dX8_isDoneIn_8 ?_
  refine lv_ldc2 (v := (-1)) hx hb hown (hts (.constantLong RX8 196 (-1)) (by decide +kernel)) dX8_isDoneIn_11 ?_
  refine lv_lxor hx hb dX8_isDoneIn_14 ?_
  refine lv_topl (fun z_1 ez_1 => ?_)
  obtain rfl : z_1 = (-1) := ez_1.trans (by decide)
  refine lv_land hx hb dX8_isDoneIn_15 ?_
  refine lv_topl (fun z_2 ez_2 => ?_)
  obtain rfl : z_2 = 0 := ez_2.trans (by decide)
  refine lv_lconst (v := 0) hx hb dX8_isDoneIn_16 (by decide) ?_
  refine W.lcmp hx hb dX8_isDoneIn_17 ?_
  refine lv_topi (fun z_3 ez_3 => ?_)
  obtain rfl : z_3 = 0 := ez_3.trans (by decide)
  refine lv_if_ne (tgt := 25) hx hb dX8_isDoneIn_18 (by decide) (fun h9 => absurd h9 (by decide : ¬ (¬ (0 : Int32) = (0 : Int32)))) (fun _ => ?_)
  refine lv_iconst (v := 1) hx hb dX8_isDoneIn_21 (by decide) ?_
  refine lv_goto (tgt := 26) hx hb dX8_isDoneIn_22 (by decide) ?_
  exact W.zret (v := 1) (ty := .boolean) hx hb hr rfl (fun t ht hW => ⟨_, rfl, rfl, ht⟩) (fun q hq => by cases hq) dX8_isDoneIn_26
set_option maxHeartbeats 4000000 in
set_option maxRecDepth 100000 in
theorem k_X8_act (l : Launch) (D : va_G) (kI kZ kJ : ClassId)  (xo g sc tr tl wk pr pi se pn tp kd rw ms : Nat) (bw bh : Nat) (hbw : bw ≤ 8) (hbh : bh ≤ 8) (tm tb ts tq wf wq pnw tpw pp pq : Nat) : Met l yX8_act wsX8_act ({ frames := 0, cells := 0, slots := 0, locals := 0 }) (qR D kI kZ kJ [(xo, .inr (8, [.ref g, .ref sc, .ref tr, .ref tl, .ref wk, .ref pr, .ref pi, .ref se, .ref pn, .ref tp, .int (-1)]))] [.ref xo, .int (-2)]) (vp_Si (fun r : Int32 => r = -2)) 0 0 (fun _ => False) := by
  refine Met.ofW (cc := cX8_act) (maxL := 2) (ret := (some .int)) (by decide) rfl ?_
  intro p e s m args below meth c s₁ B hml hv
  obtain ⟨rfl, hP, hK, hN⟩ := hv
  have hx := B.exec
  have hb := B.bytes
  have hr := B.returns
  have hts := atoms_spec (ws := wsX8_act) B.pre
  have hown : s.vm.findClass RX8 = some m.cls := findClass_of_methodNamed B.named
  have hlocks := B.notSynchronized
  have hP : va_P D vwCl [(xo, .inr (8, [.ref g, .ref sc, .ref tr, .ref tl, .ref wk, .ref pr, .ref pi, .ref se, .ref pn, .ref tp, .int (-1)]))] s.heap := hP
  have hl := lv_entry ([.ref xo, .int (-2)]) (n := 2) (Nat.le_of_ble_eq_true rfl)
  rw [lg_entry_eq]
  generalize (lg_sl ([.ref xo, .int (-2)]) ++ List.replicate (2 - (lg_sl ([.ref xo, .int (-2)])).length) Slot.unset).toArray = ls at hl ⊢
  have hl : lv_has ls 2 [(0, .ref xo), (1, .int (-2))] := hl
  refine lv_iload_n hx hb dX8_act_0 rfl (lv_at hl 1 rfl) ?_
  refine lv_if_lt (tgt := 30) hx hb dX8_act_1 (by decide) (fun _ => ?_) (fun h9 => absurd (by decide : ((-2) : Int32) < (0 : Int32)) h9)
  refine lv_iload_n hx hb dX8_act_30 rfl (lv_at hl 1 rfl) ?_
  exact W.iret (v := (-2)) hx hb hr (fun t ht hW => ⟨_, rfl, rfl, ht⟩) (fun q hq => by cases hq) dX8_act_31
set_option maxHeartbeats 4000000 in
set_option maxRecDepth 100000 in
theorem k_X8_tryPush (l : Launch) (D : va_G) (kI kZ kJ : ClassId)  (xo g sc tr tl wk pr pi se pn tp kd rw ms : Nat) (bw bh : Nat) (hbw : bw ≤ 8) (hbh : bh ≤ 8) (tm tb ts tq wf wq pnw tpw pp pq : Nat) (x y v : Int32) : Met l yX8_tryPush wsX8_tryPush ({ frames := 1, cells := 0, slots := 0, locals := 23 }) (qR D kI kZ kJ [(xo, .inr (8, [.ref g, .ref sc, .ref tr, .ref tl, .ref wk, .ref pr, .ref pi, .ref se, .ref pn, .ref tp, .int (-1)])), (g, .inr (0, [.int (nI bw), .int (nI bh), .long 0, .ref kd, .ref rw, .ref ms])), (sc, .inr (3, [.int (-1), .long 0, .int 0, .int 0]))] [.ref xo, .int x, .int y, .int v]) (vp_Si (fun r : Int32 => r = -2)) 0 0 (fun _ => False) := by
  refine Met.ofW (cc := cX8_tryPush) (maxL := 5) (ret := (some .int)) (by decide) rfl ?_
  intro p e s m args below meth c s₁ B hml hv
  obtain ⟨rfl, hP, hK, hN⟩ := hv
  have hx := B.exec
  have hb := B.bytes
  have hr := B.returns
  have hts := atoms_spec (ws := wsX8_tryPush) B.pre
  have hown : s.vm.findClass RX8 = some m.cls := findClass_of_methodNamed B.named
  have hlocks := B.notSynchronized
  have hP : va_P D vwCl [(xo, .inr (8, [.ref g, .ref sc, .ref tr, .ref tl, .ref wk, .ref pr, .ref pi, .ref se, .ref pn, .ref tp, .int (-1)])), (g, .inr (0, [.int (nI bw), .int (nI bh), .long 0, .ref kd, .ref rw, .ref ms])), (sc, .inr (3, [.int (-1), .long 0, .int 0, .int 0]))] s.heap := hP
  have hl := lv_entry ([.ref xo, .int x, .int y, .int v]) (n := 5) (Nat.le_of_ble_eq_true rfl)
  rw [lg_entry_eq]
  generalize (lg_sl ([.ref xo, .int x, .int y, .int v]) ++ List.replicate (5 - (lg_sl ([.ref xo, .int x, .int y, .int v])).length) Slot.unset).toArray = ls at hl ⊢
  have hl : lv_has ls 5 [(0, .ref xo), (1, .int x), (2, .int y), (3, .int v)] := hl
  refine lv_aload_n hx hb dX8_tryPush_0 rfl (lv_at hl 0 rfl) ?_
  refine va_get (D := D) (ci := 8) (v := .ref g) (C := RX8) (T := TX8) (N := 11) hx hb hts (by decide +kernel) hown hK hP 0 rfl rfl 0 (by decide) (hts (.fieldLink RX8 12 "CellarPushers" "ground" "LCellarPushers$Ground;") (by decide +kernel)) (fun _ h9 => h9) rfl dX8_tryPush_1 ?_
  refine lv_iload_n hx hb dX8_tryPush_4 rfl (lv_at hl 1 rfl) ?_
  refine lv_iload_n hx hb dX8_tryPush_5 rfl (lv_at hl 2 rfl) ?_
  refine vp_callSi (qV_R (n := 2) (As := [.int x, .int y]) (rest := []) (wc := [(g, .inr (0, [.int (nI bw), .int (nI bh), .long 0, .ref kd, .ref rw, .ref ms]))]) ⟨hx, hb, hml, hown, hts⟩ hK hN hP [1] rfl (k_X0_numberOf l D kI kZ kJ g kd rw ms bw bh hbw hbh x y) gX8_tryPush_X0_numberOf rfl rfl rfl (by decide +kernel) ⟨(Nat.le_of_ble_eq_true rfl), (Nat.le_of_ble_eq_true rfl)⟩ 1 0 rfl rfl rfl rfl hl.1 rfl (Nat.le_of_ble_eq_true rfl) dX8_tryPush_6 ⟨(Nat.le_of_ble_eq_true rfl), (Nat.le_of_ble_eq_true rfl)⟩).run (fun r hw => ?_)
  rcases hw with ⟨hin, num, hnum, rfl⟩ | ⟨hin, rfl⟩
  · skip
    refine lv_istore (lv' := [(4, .int (nI num)), (0, .ref xo), (1, .int x), (2, .int y), (3, .int v)]) hx hb dX8_tryPush_9 hl (by decide) rfl (fun ls hl => ?_)
    refine lv_aload_n hx hb dX8_tryPush_11 rfl (lv_at hl 1 rfl) ?_
    refine va_get (D := D) (ci := 8) (v := .ref sc) (C := RX8) (T := TX8) (N := 11) hx hb hts (by decide +kernel) hown hK hP 0 rfl rfl 1 (by decide) (hts (.fieldLink RX8 21 "CellarPushers" "scene" "LCellarPushers$Scene;") (by decide +kernel)) (fun _ h9 => h9) rfl dX8_tryPush_12 ?_
    refine vp_callSi (qV_R (n := 0) (As := []) (rest := []) (wc := [(sc, .inr (3, [.int (-1), .long 0, .int 0, .int 0]))]) ⟨hx, hb, hml, hown, hts⟩ hK hN hP [2] rfl (k_X3_hasMan l D kI kZ kJ sc) gX8_tryPush_X3_hasMan rfl rfl rfl (by decide +kernel) ⟨(Nat.le_of_ble_eq_true rfl), (Nat.le_of_ble_eq_true rfl)⟩ 2 3 rfl rfl rfl rfl hl.1 rfl (Nat.le_of_ble_eq_true rfl) dX8_tryPush_15 ⟨(Nat.le_of_ble_eq_true rfl), (Nat.le_of_ble_eq_true rfl)⟩).run (fun r hw => ?_)
    obtain rfl := hw
    refine lv_if_eq (tgt := 40) hx hb dX8_tryPush_18 (by decide) (fun _ => ?_) (fun h9 => absurd (by decide : (0 : Int32) = (0 : Int32)) h9)
    refine lv_bipush (v := (-2)) hx hb dX8_tryPush_40 (by decide) ?_
    exact W.iret (v := (-2)) hx hb hr (fun t ht hW => ⟨_, rfl, rfl, ht⟩) (fun q hq => by cases hq) dX8_tryPush_42
  · skip
    refine lv_istore (lv' := [(4, .int (-1)), (0, .ref xo), (1, .int x), (2, .int y), (3, .int v)]) hx hb dX8_tryPush_9 hl (by decide) rfl (fun ls hl => ?_)
    refine lv_aload_n hx hb dX8_tryPush_11 rfl (lv_at hl 1 rfl) ?_
    refine va_get (D := D) (ci := 8) (v := .ref sc) (C := RX8) (T := TX8) (N := 11) hx hb hts (by decide +kernel) hown hK hP 0 rfl rfl 1 (by decide) (hts (.fieldLink RX8 21 "CellarPushers" "scene" "LCellarPushers$Scene;") (by decide +kernel)) (fun _ h9 => h9) rfl dX8_tryPush_12 ?_
    refine vp_callSi (qV_R (n := 0) (As := []) (rest := []) (wc := [(sc, .inr (3, [.int (-1), .long 0, .int 0, .int 0]))]) ⟨hx, hb, hml, hown, hts⟩ hK hN hP [2] rfl (k_X3_hasMan l D kI kZ kJ sc) gX8_tryPush_X3_hasMan rfl rfl rfl (by decide +kernel) ⟨(Nat.le_of_ble_eq_true rfl), (Nat.le_of_ble_eq_true rfl)⟩ 2 3 rfl rfl rfl rfl hl.1 rfl (Nat.le_of_ble_eq_true rfl) dX8_tryPush_15 ⟨(Nat.le_of_ble_eq_true rfl), (Nat.le_of_ble_eq_true rfl)⟩).run (fun r hw => ?_)
    obtain rfl := hw
    refine lv_if_eq (tgt := 40) hx hb dX8_tryPush_18 (by decide) (fun _ => ?_) (fun h9 => absurd (by decide : (0 : Int32) = (0 : Int32)) h9)
    refine lv_bipush (v := (-2)) hx hb dX8_tryPush_40 (by decide) ?_
    exact W.iret (v := (-2)) hx hb hr (fun t ht hW => ⟨_, rfl, rfl, ht⟩) (fun q hq => by cases hq) dX8_tryPush_42
set_option maxHeartbeats 4000000 in
set_option maxRecDepth 100000 in
theorem k_X8_heldBarrels (l : Launch) (D : va_G) (kI kZ kJ : ClassId)  (xo g sc tr tl wk pr pi se pn tp kd rw ms : Nat) (bw bh : Nat) (hbw : bw ≤ 8) (hbh : bh ≤ 8) (tm tb ts tq wf wq pnw tpw pp pq : Nat) : Met l yX8_heldBarrels wsX8_heldBarrels ({ frames := 2, cells := 0, slots := 0, locals := 42 }) (qR D kI kZ kJ [(xo, .inr (8, [.ref g, .ref sc, .ref tr, .ref tl, .ref wk, .ref pr, .ref pi, .ref se, .ref pn, .ref tp, .int (-1)])), (sc, .inr (3, [.int (-1), .long 0, .int 0, .int 0]))] [.ref xo]) (vp_Sl (fun r : Int64 => r = 0)) 0 0 (fun _ => False) := by
  refine Met.ofW (cc := cX8_heldBarrels) (maxL := 7) (ret := (some .long)) (by decide) rfl ?_
  intro p e s m args below meth c s₁ B hml hv
  obtain ⟨rfl, hP, hK, hN⟩ := hv
  have hx := B.exec
  have hb := B.bytes
  have hr := B.returns
  have hts := atoms_spec (ws := wsX8_heldBarrels) B.pre
  have hown : s.vm.findClass RX8 = some m.cls := findClass_of_methodNamed B.named
  have hlocks := B.notSynchronized
  have hP : va_P D vwCl [(xo, .inr (8, [.ref g, .ref sc, .ref tr, .ref tl, .ref wk, .ref pr, .ref pi, .ref se, .ref pn, .ref tp, .int (-1)])), (sc, .inr (3, [.int (-1), .long 0, .int 0, .int 0]))] s.heap := hP
  have hl := lv_entry ([.ref xo]) (n := 7) (Nat.le_of_ble_eq_true rfl)
  rw [lg_entry_eq]
  generalize (lg_sl ([.ref xo]) ++ List.replicate (7 - (lg_sl ([.ref xo])).length) Slot.unset).toArray = ls at hl ⊢
  have hl : lv_has ls 7 [(0, .ref xo)] := hl
  refine lv_aload_n hx hb dX8_heldBarrels_0 rfl (lv_at hl 0 rfl) ?_
  refine va_get (D := D) (ci := 8) (v := .ref sc) (C := RX8) (T := TX8) (N := 11) hx hb hts (by decide +kernel) hown hK hP 0 rfl rfl 1 (by decide) (hts (.fieldLink RX8 21 "CellarPushers" "scene" "LCellarPushers$Scene;") (by decide +kernel)) (fun _ h9 => h9) rfl dX8_heldBarrels_1 ?_
  refine va_get (D := D) (ci := 3) (v := .long 0) (C := RX3) (T := TX3) (N := 4) hx hb hts (by decide +kernel) hown hK hP 1 rfl rfl 1 (by decide) (hts (.fieldLink RX8 111 "CellarPushers$Scene" "barrels" "J") (by decide +kernel)) (fun _ h9 => h9) rfl dX8_heldBarrels_4 ?_
  refine lv_lstore_n (lv' := [(1, .long 0), (0, .ref xo)]) hx hb dX8_heldBarrels_7 rfl hl (by decide) rfl (fun ls hl => ?_)
  refine lv_iconst (v := 0) hx hb dX8_heldBarrels_8 (by decide) ?_
  refine lv_istore_n (lv' := [(3, .int 0), (1, .long 0), (0, .ref xo)]) hx hb dX8_heldBarrels_9 rfl hl (by decide) rfl (fun ls hl => ?_)
  refine lv_iload_n hx hb dX8_heldBarrels_10 rfl (lv_at hl 0 rfl) ?_
  refine lv_bipush (v := 64) hx hb dX8_heldBarrels_11 (by decide) ?_
  refine lv_icmp_ge (tgt := 78) hx hb dX8_heldBarrels_13 (by decide) (fun h9 => absurd h9 (by decide : ¬ ((64 : Int32) ≤ (0 : Int32)))) (fun _ => ?_)
  refine lv_lload_n hx hb dX8_heldBarrels_16 rfl (lv_at hl 1 rfl) ?_
  refine lv_lstore (lv' := [(4, .long 0), (3, .int 0), (1, .long 0), (0, .ref xo)]) hx hb dX8_heldBarrels_17 hl (by decide) rfl (fun ls hl => ?_)
  refine lv_iconst (v := 0) hx hb dX8_heldBarrels_19 (by decide) ?_
  refine lv_istore (lv' := [(6, .int 0), (4, .long 0), (3, .int 0), (1, .long 0), (0, .ref xo)]) hx hb dX8_heldBarrels_20 hl (by decide) rfl (fun ls hl => ?_)
  obtain ⟨i22, hk22, hl22⟩ : ∃ i22 : Nat, i22 ≤ 64 ∧ lv_has ls 7 [(6, .int (nI i22)), (4, .long 0), (3, .int 0), (1, .long 0), (0, .ref xo)] := ⟨0, by omega, hl⟩
  clear hl
  have hl := hl22
  clear hl22
  obtain ⟨f22, hf22⟩ : ∃ f22 : Nat, 64 < i22 + f22 := ⟨64 + 1, by omega⟩
  induction f22 generalizing i22 ls with
  | zero => exact absurd hf22 (by omega)
  | succ f22 ih22 =>
    refine lv_iload hx hb dX8_heldBarrels_22 (lv_at hl 0 rfl) ?_
    refine lv_bipush (v := 64) hx hb dX8_heldBarrels_24 (by decide) ?_
    refine lv_icmp_ge (tgt := 62) hx hb dX8_heldBarrels_26 (by decide) (fun c_1 => ?_) (fun c_1 => ?_)
    · skip
      have hi22 : i22 = 64 := by have := (nI_leI (a := 64) (b := i22) (by omega) (by omega)).mp c_1; omega
      refine lv_lload_n hx hb dX8_heldBarrels_62 rfl (lv_at hl 3 rfl) ?_
      refine lv_lload hx hb dX8_heldBarrels_63 (lv_at hl 1 rfl) ?_
      refine W.lcmp hx hb dX8_heldBarrels_65 ?_
      refine lv_topi (fun z_2 ez_2 => ?_)
      obtain rfl : z_2 = 0 := ez_2.trans (by decide)
      refine lv_if_ne (tgt := 72) hx hb dX8_heldBarrels_66 (by decide) (fun h9 => absurd h9 (by decide : ¬ (¬ (0 : Int32) = (0 : Int32)))) (fun _ => ?_)
      refine lv_goto (tgt := 78) hx hb dX8_heldBarrels_69 (by decide) ?_
      refine lv_lload_n hx hb dX8_heldBarrels_78 rfl (lv_at hl 3 rfl) ?_
      exact W.lret (v := 0) hx hb hr (fun t ht hW => ⟨_, rfl, rfl, ht⟩) (fun q hq => by cases hq) dX8_heldBarrels_79
    · skip
      have hi22 : i22 < 64 := by have := mt (nI_leI (a := 64) (b := i22) (by omega) (by omega)).mpr c_1; omega
      refine lv_lload_n hx hb dX8_heldBarrels_29 rfl (lv_at hl 3 rfl) ?_
      refine lv_iload hx hb dX8_heldBarrels_30 (lv_at hl 0 rfl) ?_
      refine vp_callSi (qS_R (n := 2) (As := [.long 0, .int (nI i22)]) (rest := []) (wc := []) ⟨hx, hb, hml, hown, hts⟩ hK hN hP [] rfl (k_X8_has l D kI kZ kJ i22 hi22) gX8_heldBarrels_X8_has rfl rfl rfl (by decide +kernel) ⟨(Nat.le_of_ble_eq_true rfl), (Nat.le_of_ble_eq_true rfl)⟩ rfl hl.1 rfl (Nat.le_of_ble_eq_true rfl) dX8_heldBarrels_32 ⟨(Nat.le_of_ble_eq_true rfl), (Nat.le_of_ble_eq_true rfl)⟩).run (fun r hw => ?_)
      obtain rfl := hw
      refine lv_if_eq (tgt := 56) hx hb dX8_heldBarrels_35 (by decide) (fun _ => ?_) (fun h9 => absurd (by decide : (0 : Int32) = (0 : Int32)) h9)
      refine lv_iinc (v := (nI (i22 + 1))) (lv' := [(6, .int (nI (i22 + 1))), (4, .long 0), (3, .int 0), (1, .long 0), (0, .ref xo)]) hx hb dX8_heldBarrels_56 hl (k := 0) rfl (q_inc _) (by decide) rfl (fun ls hl => ?_)
      refine lv_goto (tgt := 22) hx hb dX8_heldBarrels_59 (by decide) ?_
      exact ih22 (i22 := (i22 + 1)) (ls := ls) (hk22 := by omega) (hl := lv_sub hl [0, 1, 2, 3, 4] rfl) (hf22 := by omega)
set_option maxHeartbeats 4000000 in
set_option maxRecDepth 100000 in
theorem k_X8_isReady (l : Launch) (D : va_G) (kI kZ kJ : ClassId)  (xo g sc tr tl wk pr pi se pn tp kd rw ms : Nat) (bw bh : Nat) (hbw : bw ≤ 8) (hbh : bh ≤ 8) (tm tb ts tq wf wq pnw tpw pp pq : Nat) : Met l yX8_isReady wsX8_isReady ({ frames := 1, cells := 0, slots := 0, locals := 21 }) (qR D kI kZ kJ [(xo, .inr (8, [.ref g, .ref sc, .ref tr, .ref tl, .ref wk, .ref pr, .ref pi, .ref se, .ref pn, .ref tp, .int (-1)])), (sc, .inr (3, [.int (-1), .long 0, .int 0, .int 0])), (g, .inr (0, [.int (nI bw), .int (nI bh), .long 0, .ref kd, .ref rw, .ref ms]))] [.ref xo]) (vp_Si (fun r : Int32 => r = 0)) 0 0 (fun _ => False) := by
  refine Met.ofW (cc := cX8_isReady) (maxL := 2) (ret := (some .boolean)) (by decide) rfl ?_
  intro p e s m args below meth c s₁ B hml hv
  obtain ⟨rfl, hP, hK, hN⟩ := hv
  have hx := B.exec
  have hb := B.bytes
  have hr := B.returns
  have hts := atoms_spec (ws := wsX8_isReady) B.pre
  have hown : s.vm.findClass RX8 = some m.cls := findClass_of_methodNamed B.named
  have hlocks := B.notSynchronized
  have hP : va_P D vwCl [(xo, .inr (8, [.ref g, .ref sc, .ref tr, .ref tl, .ref wk, .ref pr, .ref pi, .ref se, .ref pn, .ref tp, .int (-1)])), (sc, .inr (3, [.int (-1), .long 0, .int 0, .int 0])), (g, .inr (0, [.int (nI bw), .int (nI bh), .long 0, .ref kd, .ref rw, .ref ms]))] s.heap := hP
  have hl := lv_entry ([.ref xo]) (n := 2) (Nat.le_of_ble_eq_true rfl)
  rw [lg_entry_eq]
  generalize (lg_sl ([.ref xo]) ++ List.replicate (2 - (lg_sl ([.ref xo])).length) Slot.unset).toArray = ls at hl ⊢
  have hl : lv_has ls 2 [(0, .ref xo)] := hl
  refine lv_aload_n hx hb dX8_isReady_0 rfl (lv_at hl 0 rfl) ?_
  refine va_get (D := D) (ci := 8) (v := .ref sc) (C := RX8) (T := TX8) (N := 11) hx hb hts (by decide +kernel) hown hK hP 0 rfl rfl 1 (by decide) (hts (.fieldLink RX8 21 "CellarPushers" "scene" "LCellarPushers$Scene;") (by decide +kernel)) (fun _ h9 => h9) rfl dX8_isReady_1 ?_
  refine va_get (D := D) (ci := 3) (v := .long 0) (C := RX3) (T := TX3) (N := 4) hx hb hts (by decide +kernel) hown hK hP 1 rfl rfl 1 (by decide) (hts (.fieldLink RX8 111 "CellarPushers$Scene" "barrels" "J") (by decide +kernel)) (fun _ h9 => h9) rfl dX8_isReady_4 ?_
  refine vp_callSi (qS_R (n := 1) (As := [.long 0]) (rest := []) (wc := []) ⟨hx, hb, hml, hown, hts⟩ hK hN hP [] rfl (k_J13_bitCount_95d88 l D kI kZ kJ) gX8_isReady_J13_bitCount_95d88 rfl rfl rfl (by decide +kernel) ⟨(Nat.le_of_ble_eq_true rfl), (Nat.le_of_ble_eq_true rfl)⟩ rfl hl.1 rfl (Nat.le_of_ble_eq_true rfl) dX8_isReady_7 ⟨(Nat.le_of_ble_eq_true rfl), (Nat.le_of_ble_eq_true rfl)⟩).run (fun r hw => ?_)
  obtain rfl := hw
  refine lv_istore_n (lv' := [(1, .int 0), (0, .ref xo)]) hx hb dX8_isReady_10 rfl hl (by decide) rfl (fun ls hl => ?_)
  refine lv_aload_n hx hb dX8_isReady_11 rfl (lv_at hl 1 rfl) ?_
  refine va_get (D := D) (ci := 8) (v := .ref sc) (C := RX8) (T := TX8) (N := 11) hx hb hts (by decide +kernel) hown hK hP 0 rfl rfl 1 (by decide) (hts (.fieldLink RX8 21 "CellarPushers" "scene" "LCellarPushers$Scene;") (by decide +kernel)) (fun _ h9 => h9) rfl dX8_isReady_12 ?_
  refine vp_callSi (qV_R (n := 0) (As := []) (rest := []) (wc := [(sc, .inr (3, [.int (-1), .long 0, .int 0, .int 0]))]) ⟨hx, hb, hml, hown, hts⟩ hK hN hP [1] rfl (k_X3_hasMan l D kI kZ kJ sc) gX8_isReady_X3_hasMan rfl rfl rfl (by decide +kernel) ⟨(Nat.le_of_ble_eq_true rfl), (Nat.le_of_ble_eq_true rfl)⟩ 1 3 rfl rfl rfl rfl hl.1 rfl (Nat.le_of_ble_eq_true rfl) dX8_isReady_15 ⟨(Nat.le_of_ble_eq_true rfl), (Nat.le_of_ble_eq_true rfl)⟩).run (fun r hw => ?_)
  obtain rfl := hw
  refine lv_if_eq (tgt := 44) hx hb dX8_isReady_18 (by decide) (fun _ => ?_) (fun h9 => absurd (by decide : (0 : Int32) = (0 : Int32)) h9)
  refine lv_iconst (v := 0) hx hb dX8_isReady_44 (by decide) ?_
  exact W.zret (v := 0) (ty := .boolean) hx hb hr rfl (fun t ht hW => ⟨_, rfl, rfl, ht⟩) (fun q hq => by cases hq) dX8_isReady_45
set_option maxHeartbeats 4000000 in
set_option maxRecDepth 100000 in
theorem k_X8_field (l : Launch) (D : va_G) (kI kZ kJ : ClassId)  (xo g sc tr tl wk pr pi se pn tp kd rw ms : Nat) (bw bh : Nat) (hbw : bw ≤ 8) (hbh : bh ≤ 8) (tm tb ts tq wf wq pnw tpw pp pq : Nat) (x y k v : Int32) (sz : Nat) : Met l yX8_field wsX8_field ({ frames := 5, cells := 0, slots := 0, locals := 105 }) (qW D kI kZ kJ [(xo, .inr (8, [.ref g, .ref sc, .ref tr, .ref tl, .ref wk, .ref pr, .ref pi, .ref se, .ref pn, .ref tp, .int (-1)])), (g, .inr (0, [.int (nI bw), .int (nI bh), .long 0, .ref kd, .ref rw, .ref ms])), (kd, .inl (kI, 64, .inl (fun _ => 0))), (rw, .inl (kI, 64, .inl (fun _ => 0))), (sc, .inr (3, [.int (-1), .long 0, .int 0, .int 0])), (tl, .inr (5, [.int 0, .int 0, .ref tm, .ref tb, .ref ts, .ref tq]))] sz [.ref xo, .int x, .int y, .int k, .int v]) (va_Qi (fun (r : Int32) (u : Unit) => q_if (q_fld bw bh x y k v) 0 (-2) r) (qB D (fun u : Unit => []) (va_A [(xo, .inr (8, [.ref g, .ref sc, .ref tr, .ref tl, .ref wk, .ref pr, .ref pi, .ref se, .ref pn, .ref tp, .int (-1)])), (g, .inr (0, [.int (nI bw), .int (nI bh), .long 0, .ref kd, .ref rw, .ref ms])), (kd, .inl (kI, 64, .inl (fun _ => 0))), (rw, .inl (kI, 64, .inl (fun _ => 0))), (sc, .inr (3, [.int (-1), .long 0, .int 0, .int 0])), (tl, .inr (5, [.int 0, .int 0, .ref tm, .ref tb, .ref ts, .ref tq]))] sz)) (va_A [(xo, .inr (8, [.ref g, .ref sc, .ref tr, .ref tl, .ref wk, .ref pr, .ref pi, .ref se, .ref pn, .ref tp, .int (-1)])), (g, .inr (0, [.int (nI bw), .int (nI bh), .long 0, .ref kd, .ref rw, .ref ms])), (kd, .inl (kI, 64, .inl (fun _ => 0))), (rw, .inl (kI, 64, .inl (fun _ => 0))), (sc, .inr (3, [.int (-1), .long 0, .int 0, .int 0])), (tl, .inr (5, [.int 0, .int 0, .ref tm, .ref tb, .ref ts, .ref tq]))] sz)) 0 0 (va_A [(xo, .inr (8, [.ref g, .ref sc, .ref tr, .ref tl, .ref wk, .ref pr, .ref pi, .ref se, .ref pn, .ref tp, .int (-1)])), (g, .inr (0, [.int (nI bw), .int (nI bh), .long 0, .ref kd, .ref rw, .ref ms])), (kd, .inl (kI, 64, .inl (fun _ => 0))), (rw, .inl (kI, 64, .inl (fun _ => 0))), (sc, .inr (3, [.int (-1), .long 0, .int 0, .int 0])), (tl, .inr (5, [.int 0, .int 0, .ref tm, .ref tb, .ref ts, .ref tq]))] sz) := by
  refine Met.ofW (cc := cX8_field) (maxL := 7) (ret := (some .int)) (by decide) rfl ?_
  intro p e s m args below meth c s₁ B hml hv
  obtain ⟨rfl, hsz, hP, hK, hD0, hN⟩ := hv
  have hx := B.exec
  have hb := B.bytes
  have hr := B.returns
  have hts := atoms_spec (ws := wsX8_field) B.pre
  have hown : s.vm.findClass RX8 = some m.cls := findClass_of_methodNamed B.named
  have hlocks := B.notSynchronized
  subst hsz
  have hD := hD0.self (sz := s.heap.size)
  generalize hAe : va_A [(xo, .inr (8, [.ref g, .ref sc, .ref tr, .ref tl, .ref wk, .ref pr, .ref pi, .ref se, .ref pn, .ref tp, .int (-1)])), (g, .inr (0, [.int (nI bw), .int (nI bh), .long 0, .ref kd, .ref rw, .ref ms])), (kd, .inl (kI, 64, .inl (fun _ => 0))), (rw, .inl (kI, 64, .inl (fun _ => 0))), (sc, .inr (3, [.int (-1), .long 0, .int 0, .int 0])), (tl, .inr (5, [.int 0, .int 0, .ref tm, .ref tb, .ref ts, .ref tq]))] s.heap.size = A at hD ⊢
  have hA : ∀ q : Nat, s.heap.size ≤ q → A q := fun q h => by rw [← hAe]; exact Or.inr h
  have hS : va_S A s.heap s.heap [] := va_S.rf
  have hP : va_P D vwCl [(xo, .inr (8, [.ref g, .ref sc, .ref tr, .ref tl, .ref wk, .ref pr, .ref pi, .ref se, .ref pn, .ref tp, .int (-1)])), (g, .inr (0, [.int (nI bw), .int (nI bh), .long 0, .ref kd, .ref rw, .ref ms])), (kd, .inl (kI, 64, .inl (fun _ => 0))), (rw, .inl (kI, 64, .inl (fun _ => 0))), (sc, .inr (3, [.int (-1), .long 0, .int 0, .int 0])), (tl, .inr (5, [.int 0, .int 0, .ref tm, .ref tb, .ref ts, .ref tq]))] s.heap := hP
  have hl := lv_entry ([.ref xo, .int x, .int y, .int k, .int v]) (n := 7) (Nat.le_of_ble_eq_true rfl)
  rw [lg_entry_eq]
  generalize (lg_sl ([.ref xo, .int x, .int y, .int k, .int v]) ++ List.replicate (7 - (lg_sl ([.ref xo, .int x, .int y, .int k, .int v])).length) Slot.unset).toArray = ls at hl ⊢
  have hl : lv_has ls 7 [(0, .ref xo), (1, .int x), (2, .int y), (3, .int k), (4, .int v)] := hl
  refine lv_aload_n hx hb dX8_field_0 rfl (lv_at hl 0 rfl) ?_
  refine va_get (D := D) (ci := 8) (v := .ref g) (C := RX8) (T := TX8) (N := 11) hx hb hts (by decide +kernel) hown hK hP 0 rfl rfl 0 (by decide) (hts (.fieldLink RX8 12 "CellarPushers" "ground" "LCellarPushers$Ground;") (by decide +kernel)) (fun _ h9 => h9) rfl dX8_field_1 ?_
  refine lv_iload_n hx hb dX8_field_4 rfl (lv_at hl 1 rfl) ?_
  refine lv_iload_n hx hb dX8_field_5 rfl (lv_at hl 2 rfl) ?_
  refine vp_callSi (qV_R (n := 2) (As := [.int x, .int y]) (rest := []) (wc := [(g, .inr (0, [.int (nI bw), .int (nI bh), .long 0, .ref kd, .ref rw, .ref ms]))]) ⟨hx, hb, hml, hown, hts⟩ hK hN hP [1] rfl (k_X0_numberOf l D kI kZ kJ g kd rw ms bw bh hbw hbh x y) gX8_field_X0_numberOf rfl rfl rfl (by decide +kernel) ⟨(Nat.le_of_ble_eq_true rfl), (Nat.le_of_ble_eq_true rfl)⟩ 1 0 rfl rfl rfl rfl hl.1 rfl (Nat.le_of_ble_eq_true rfl) dX8_field_6 ⟨(Nat.le_of_ble_eq_true rfl), (Nat.le_of_ble_eq_true rfl)⟩).run (fun r hw => ?_)
  rcases hw with ⟨hin, num, hnum, rfl⟩ | ⟨hin, rfl⟩
  · skip
    refine lv_istore (lv' := [(5, .int (nI num)), (0, .ref xo), (1, .int x), (2, .int y), (3, .int k), (4, .int v)]) hx hb dX8_field_9 hl (by decide) rfl (fun ls hl => ?_)
    refine lv_iload hx hb dX8_field_11 (lv_at hl 0 rfl) ?_
    refine lv_iconst (v := (-1)) hx hb dX8_field_13 (by decide) ?_
    refine lv_icmp_eq (tgt := 26) hx hb dX8_field_14 (by decide) (fun h9 => absurd h9 (by have hq := hnum; exact fun h => q_ne1 (c := (-1)) (by decide) (by omega) h)) (fun _ => ?_)
    refine lv_iload_n hx hb dX8_field_17 rfl (lv_at hl 4 rfl) ?_
    refine lv_if_lt (tgt := 26) hx hb dX8_field_18 (by decide) (fun c_1 => ?_) (fun c_1 => ?_)
    · skip
      refine lv_bipush (v := (-2)) hx hb dX8_field_26 (by decide) ?_
      have hP9 := hP.sub (ws' := []) [] rfl
      have hD9 := hD.sub (ws' := []) [] (by decide) rfl
      exact W.iret (v := (-2)) hx hb hr (fun t ht hW => ⟨⟨_, (), rfl, (by first | exact q_ift ⟨hin, by assumption, by first | assumption | exact Int32.not_lt.mp (by assumption), fun _ => by assumption, fun h => absurd (by assumption) h⟩ | exact q_ift ⟨hin, by assumption, by first | assumption | exact Int32.not_lt.mp (by assumption), fun h => absurd h (by assumption), fun _ => by assumption⟩ | exact q_iff (fun h => by obtain ⟨h1, h2, h3, h4, h5⟩ := h; first | contradiction | exact absurd (h4 (by assumption)) (by assumption) | exact absurd (h5 (by assumption)) (by assumption) | exact absurd h3 (Int32.not_le.mpr (by assumption)) | exact absurd (Int32.not_lt.mp (by assumption)) (by assumption))), ⟨by rw [ht]; exact hP9, hD9⟩⟩, hS.F ht⟩) hS.2.2 dX8_field_28
    · skip
      refine lv_iload_n hx hb dX8_field_21 rfl (lv_at hl 4 rfl) ?_
      refine lv_iconst (v := 5) hx hb dX8_field_22 (by decide) ?_
      refine lv_icmp_le (tgt := 29) hx hb dX8_field_23 (by decide) (fun c_2 => ?_) (fun c_2 => ?_)
      · skip
        refine lv_iload_n hx hb dX8_field_29 rfl (lv_at hl 4 rfl) ?_
        refine lv_iconst (v := 4) hx hb dX8_field_30 (by decide) ?_
        refine lv_icmp_ne (tgt := 42) hx hb dX8_field_31 (by decide) (fun c_3 => ?_) (fun c_3 => ?_)
        · skip
          refine lv_iload hx hb dX8_field_42 (lv_at hl 5 rfl) ?_
          refine lv_if_ne (tgt := 51) hx hb dX8_field_44 (by decide) (fun c_4 => ?_) (fun c_4 => ?_)
          · skip
            refine lv_iconst (v := 0) hx hb dX8_field_51 (by decide) ?_
            refine lv_istore (lv' := [(6, .int 0), (5, .int (nI num)), (0, .ref xo), (1, .int x), (2, .int y), (3, .int k), (4, .int v)]) hx hb dX8_field_52 hl (by decide) rfl (fun ls hl => ?_)
            refine lv_iload hx hb dX8_field_54 (lv_at hl 0 rfl) ?_
            refine lv_if_eq (tgt := 68) hx hb dX8_field_56 (by decide) (fun _ => ?_) (fun h9 => absurd (by decide : (0 : Int32) = (0 : Int32)) h9)
            refine lv_bipush (v := (-2)) hx hb dX8_field_68 (by decide) ?_
            have hP9 := hP.sub (ws' := []) [] rfl
            have hD9 := hD.sub (ws' := []) [] (by decide) rfl
            exact W.iret (v := (-2)) hx hb hr (fun t ht hW => ⟨⟨_, (), rfl, (by first | exact q_ift ⟨hin, by assumption, by first | assumption | exact Int32.not_lt.mp (by assumption), fun _ => by assumption, fun h => absurd (by assumption) h⟩ | exact q_ift ⟨hin, by assumption, by first | assumption | exact Int32.not_lt.mp (by assumption), fun h => absurd h (by assumption), fun _ => by assumption⟩ | exact q_iff (fun h => by obtain ⟨h1, h2, h3, h4, h5⟩ := h; first | contradiction | exact absurd (h4 (by assumption)) (by assumption) | exact absurd (h5 (by assumption)) (by assumption) | exact absurd h3 (Int32.not_le.mpr (by assumption)) | exact absurd (Int32.not_lt.mp (by assumption)) (by assumption))), ⟨by rw [ht]; exact hP9, hD9⟩⟩, hS.F ht⟩) hS.2.2 dX8_field_70
          · skip
            refine lv_iconst (v := 1) hx hb dX8_field_47 (by decide) ?_
            refine lv_goto (tgt := 52) hx hb dX8_field_48 (by decide) ?_
            refine lv_istore (lv' := [(6, .int 1), (5, .int (nI num)), (0, .ref xo), (1, .int x), (2, .int y), (3, .int k), (4, .int v)]) hx hb dX8_field_52 hl (by decide) rfl (fun ls hl => ?_)
            refine lv_iload hx hb dX8_field_54 (lv_at hl 0 rfl) ?_
            refine lv_if_eq (tgt := 68) hx hb dX8_field_56 (by decide) (fun h9 => absurd h9 (by decide : ¬ ((1 : Int32) = (0 : Int32)))) (fun _ => ?_)
            refine lv_aload_n hx hb dX8_field_59 rfl (lv_at hl 2 rfl) ?_
            refine lv_iload hx hb dX8_field_60 (lv_at hl 1 rfl) ?_
            refine vp_callSi (qV_R (n := 1) (As := [.int (nI num)]) (rest := []) (wc := [(xo, .inr (8, [.ref g, .ref sc, .ref tr, .ref tl, .ref wk, .ref pr, .ref pi, .ref se, .ref pn, .ref tp, .int (-1)])), (sc, .inr (3, [.int (-1), .long 0, .int 0, .int 0])), (g, .inr (0, [.int (nI bw), .int (nI bh), .long 0, .ref kd, .ref rw, .ref ms]))]) ⟨hx, hb, hml, hown, hts⟩ hK hN hP [0, 4, 1] rfl (k_X8_isInUse l D kI kZ kJ xo g sc tr tl wk pr pi se pn tp kd rw ms bw bh hbw hbh tm tb ts tq wf wq pnw tpw pp pq num hnum) gX8_field_X8_isInUse rfl rfl rfl (by decide +kernel) ⟨(Nat.le_of_ble_eq_true rfl), (Nat.le_of_ble_eq_true rfl)⟩ 0 8 rfl rfl rfl rfl hl.1 rfl (Nat.le_of_ble_eq_true rfl) dX8_field_62 ⟨(Nat.le_of_ble_eq_true rfl), (Nat.le_of_ble_eq_true rfl)⟩).run (fun r hw => ?_)
            obtain rfl := hw
            refine lv_if_eq (tgt := 71) hx hb dX8_field_65 (by decide) (fun _ => ?_) (fun h9 => absurd (by decide : (0 : Int32) = (0 : Int32)) h9)
            refine lv_aload_n hx hb dX8_field_71 rfl (lv_at hl 2 rfl) ?_
            refine va_get (D := D) (ci := 8) (v := .ref tl) (C := RX8) (T := TX8) (N := 11) hx hb hts (by decide +kernel) hown hK hP 0 rfl rfl 3 (by decide) (hts (.fieldLink RX8 31 "CellarPushers" "timeline" "LCellarPushers$Timeline;") (by decide +kernel)) (fun _ h9 => h9) rfl dX8_field_72 ?_
            refine qc_v (wr := [(xo, .inr (8, [.ref g, .ref sc, .ref tr, .ref tl, .ref wk, .ref pr, .ref pi, .ref se, .ref pn, .ref tp, .int (-1)])), (g, .inr (0, [.int (nI bw), .int (nI bh), .long 0, .ref kd, .ref rw, .ref ms])), (kd, .inl (kI, 64, .inl (fun _ => 0))), (rw, .inl (kI, 64, .inl (fun _ => 0))), (sc, .inr (3, [.int (-1), .long 0, .int 0, .int 0]))]) (qV_W (n := 0) (As := []) (rest := []) (wc := [(tl, .inr (5, [.int 0, .int 0, .ref tm, .ref tb, .ref ts, .ref tq]))]) ⟨hx, hb, hml, hown, hts⟩ hK hN hP hD [5] rfl rfl (by decide) (k_X5_forget l D kI kZ kJ tl tm tb ts tq s.heap.size) gX8_field_X5_forget rfl rfl rfl (by decide +kernel) ⟨(Nat.le_of_ble_eq_true rfl), (Nat.le_of_ble_eq_true rfl)⟩ 5 5 rfl rfl rfl rfl hl.1 rfl (Nat.le_of_ble_eq_true rfl) dX8_field_75 ⟨(Nat.le_of_ble_eq_true rfl), (Nat.le_of_ble_eq_true rfl)⟩) hP hD hS hA [5] [0, 1, 2, 3, 4] rfl rfl (by decide) (by decide) (fun u H locs hw hP hD hS => ?_)
            have hP : va_P D vwCl [(xo, .inr (8, [.ref g, .ref sc, .ref tr, .ref tl, .ref wk, .ref pr, .ref pi, .ref se, .ref pn, .ref tp, .int (-1)])), (g, .inr (0, [.int (nI bw), .int (nI bh), .long 0, .ref kd, .ref rw, .ref ms])), (kd, .inl (kI, 64, .inl (fun _ => 0))), (rw, .inl (kI, 64, .inl (fun _ => 0))), (sc, .inr (3, [.int (-1), .long 0, .int 0, .int 0]))] H := hP
            have hD : va_D A [(xo, .inr (8, [.ref g, .ref sc, .ref tr, .ref tl, .ref wk, .ref pr, .ref pi, .ref se, .ref pn, .ref tp, .int (-1)])), (g, .inr (0, [.int (nI bw), .int (nI bh), .long 0, .ref kd, .ref rw, .ref ms])), (kd, .inl (kI, 64, .inl (fun _ => 0))), (rw, .inl (kI, 64, .inl (fun _ => 0))), (sc, .inr (3, [.int (-1), .long 0, .int 0, .int 0]))] := hD
            refine lv_aload_n hx hb dX8_field_78 rfl (lv_at hl 2 rfl) ?_
            refine va_get (D := D) (ci := 8) (v := .ref g) (C := RX8) (T := TX8) (N := 11) hx hb hts (by decide +kernel) hown hK hP 0 rfl rfl 0 (by decide) (hts (.fieldLink RX8 12 "CellarPushers" "ground" "LCellarPushers$Ground;") (by decide +kernel)) (fun _ h9 => h9) rfl dX8_field_79 ?_
            refine lv_iload hx hb dX8_field_82 (lv_at hl 1 rfl) ?_
            refine lv_iload_n hx hb dX8_field_84 rfl (lv_at hl 5 rfl) ?_
            refine lv_iload hx hb dX8_field_85 (lv_at hl 6 rfl) ?_
            refine qc_i (wr := [(xo, .inr (8, [.ref g, .ref sc, .ref tr, .ref tl, .ref wk, .ref pr, .ref pi, .ref se, .ref pn, .ref tp, .int (-1)])), (sc, .inr (3, [.int (-1), .long 0, .int 0, .int 0]))]) (qV_W (n := 3) (As := [.int (nI num), .int k, .int v]) (rest := []) (wc := [(g, .inr (0, [.int (nI bw), .int (nI bh), .long 0, .ref kd, .ref rw, .ref ms])), (kd, .inl (kI, 64, .inl (fun _ => 0))), (rw, .inl (kI, 64, .inl (fun _ => 0)))]) ⟨hx, hb, hml, hown, hts⟩ hK hN hP hD [1, 2, 3] rfl rfl (by decide) (k_X0_lay l D kI kZ kJ g kd rw ms bw bh hbw hbh num hnum k v H.size) gX8_field_X0_lay rfl rfl rfl (by decide +kernel) ⟨(Nat.le_of_ble_eq_true rfl), (Nat.le_of_ble_eq_true rfl)⟩ 1 0 rfl rfl rfl rfl hl.1 rfl (Nat.le_of_ble_eq_true rfl) dX8_field_87 ⟨(Nat.le_of_ble_eq_true rfl), (Nat.le_of_ble_eq_true rfl)⟩) hP hD hS hA [1, 2, 3] [0, 4] rfl rfl (by decide) (by decide) (fun r u H locs hw hP hD hS => ?_)
            obtain rfl := hw
            have hP : va_P D vwCl [(xo, .inr (8, [.ref g, .ref sc, .ref tr, .ref tl, .ref wk, .ref pr, .ref pi, .ref se, .ref pn, .ref tp, .int (-1)])), (sc, .inr (3, [.int (-1), .long 0, .int 0, .int 0]))] H := hP
            have hD : va_D A [(xo, .inr (8, [.ref g, .ref sc, .ref tr, .ref tl, .ref wk, .ref pr, .ref pi, .ref se, .ref pn, .ref tp, .int (-1)])), (sc, .inr (3, [.int (-1), .long 0, .int 0, .int 0]))] := hD
            have hP9 := hP.sub (ws' := []) [] rfl
            have hD9 := hD.sub (ws' := []) [] (by decide) rfl
            exact W.iret (v := 0) hx hb hr (fun t ht hW => ⟨⟨_, (), rfl, (by first | exact q_ift ⟨hin, by assumption, by first | assumption | exact Int32.not_lt.mp (by assumption), fun _ => by assumption, fun h => absurd (by assumption) h⟩ | exact q_ift ⟨hin, by assumption, by first | assumption | exact Int32.not_lt.mp (by assumption), fun h => absurd h (by assumption), fun _ => by assumption⟩ | exact q_iff (fun h => by obtain ⟨h1, h2, h3, h4, h5⟩ := h; first | contradiction | exact absurd (h4 (by assumption)) (by assumption) | exact absurd (h5 (by assumption)) (by assumption) | exact absurd h3 (Int32.not_le.mpr (by assumption)) | exact absurd (Int32.not_lt.mp (by assumption)) (by assumption))), ⟨by rw [ht]; exact hP9, hD9⟩⟩, hS.F ht⟩) hS.2.2 dX8_field_90
        · skip
          refine lv_iload hx hb dX8_field_34 (lv_at hl 5 rfl) ?_
          refine vp_callSi (qS_R (n := 1) (As := [.int v]) (rest := []) (wc := []) ⟨hx, hb, hml, hown, hts⟩ hK hN hP [] rfl (k_X8_isWay l D kI kZ kJ v) gX8_field_X8_isWay rfl rfl rfl (by decide +kernel) ⟨(Nat.le_of_ble_eq_true rfl), (Nat.le_of_ble_eq_true rfl)⟩ rfl hl.1 rfl (Nat.le_of_ble_eq_true rfl) dX8_field_36 ⟨(Nat.le_of_ble_eq_true rfl), (Nat.le_of_ble_eq_true rfl)⟩).run (fun r hw => ?_)
          rcases hw with ⟨hway, rfl⟩ | ⟨hway, rfl⟩
          · skip
            refine lv_goto (tgt := 52) hx hb dX8_field_39 (by decide) ?_
            refine lv_istore (lv' := [(6, .int 1), (5, .int (nI num)), (0, .ref xo), (1, .int x), (2, .int y), (3, .int k), (4, .int v)]) hx hb dX8_field_52 hl (by decide) rfl (fun ls hl => ?_)
            refine lv_iload hx hb dX8_field_54 (lv_at hl 0 rfl) ?_
            refine lv_if_eq (tgt := 68) hx hb dX8_field_56 (by decide) (fun h9 => absurd h9 (by decide : ¬ ((1 : Int32) = (0 : Int32)))) (fun _ => ?_)
            refine lv_aload_n hx hb dX8_field_59 rfl (lv_at hl 2 rfl) ?_
            refine lv_iload hx hb dX8_field_60 (lv_at hl 1 rfl) ?_
            refine vp_callSi (qV_R (n := 1) (As := [.int (nI num)]) (rest := []) (wc := [(xo, .inr (8, [.ref g, .ref sc, .ref tr, .ref tl, .ref wk, .ref pr, .ref pi, .ref se, .ref pn, .ref tp, .int (-1)])), (sc, .inr (3, [.int (-1), .long 0, .int 0, .int 0])), (g, .inr (0, [.int (nI bw), .int (nI bh), .long 0, .ref kd, .ref rw, .ref ms]))]) ⟨hx, hb, hml, hown, hts⟩ hK hN hP [0, 4, 1] rfl (k_X8_isInUse l D kI kZ kJ xo g sc tr tl wk pr pi se pn tp kd rw ms bw bh hbw hbh tm tb ts tq wf wq pnw tpw pp pq num hnum) gX8_field_X8_isInUse rfl rfl rfl (by decide +kernel) ⟨(Nat.le_of_ble_eq_true rfl), (Nat.le_of_ble_eq_true rfl)⟩ 0 8 rfl rfl rfl rfl hl.1 rfl (Nat.le_of_ble_eq_true rfl) dX8_field_62 ⟨(Nat.le_of_ble_eq_true rfl), (Nat.le_of_ble_eq_true rfl)⟩).run (fun r hw => ?_)
            obtain rfl := hw
            refine lv_if_eq (tgt := 71) hx hb dX8_field_65 (by decide) (fun _ => ?_) (fun h9 => absurd (by decide : (0 : Int32) = (0 : Int32)) h9)
            refine lv_aload_n hx hb dX8_field_71 rfl (lv_at hl 2 rfl) ?_
            refine va_get (D := D) (ci := 8) (v := .ref tl) (C := RX8) (T := TX8) (N := 11) hx hb hts (by decide +kernel) hown hK hP 0 rfl rfl 3 (by decide) (hts (.fieldLink RX8 31 "CellarPushers" "timeline" "LCellarPushers$Timeline;") (by decide +kernel)) (fun _ h9 => h9) rfl dX8_field_72 ?_
            refine qc_v (wr := [(xo, .inr (8, [.ref g, .ref sc, .ref tr, .ref tl, .ref wk, .ref pr, .ref pi, .ref se, .ref pn, .ref tp, .int (-1)])), (g, .inr (0, [.int (nI bw), .int (nI bh), .long 0, .ref kd, .ref rw, .ref ms])), (kd, .inl (kI, 64, .inl (fun _ => 0))), (rw, .inl (kI, 64, .inl (fun _ => 0))), (sc, .inr (3, [.int (-1), .long 0, .int 0, .int 0]))]) (qV_W (n := 0) (As := []) (rest := []) (wc := [(tl, .inr (5, [.int 0, .int 0, .ref tm, .ref tb, .ref ts, .ref tq]))]) ⟨hx, hb, hml, hown, hts⟩ hK hN hP hD [5] rfl rfl (by decide) (k_X5_forget l D kI kZ kJ tl tm tb ts tq s.heap.size) gX8_field_X5_forget rfl rfl rfl (by decide +kernel) ⟨(Nat.le_of_ble_eq_true rfl), (Nat.le_of_ble_eq_true rfl)⟩ 5 5 rfl rfl rfl rfl hl.1 rfl (Nat.le_of_ble_eq_true rfl) dX8_field_75 ⟨(Nat.le_of_ble_eq_true rfl), (Nat.le_of_ble_eq_true rfl)⟩) hP hD hS hA [5] [0, 1, 2, 3, 4] rfl rfl (by decide) (by decide) (fun u H locs hw hP hD hS => ?_)
            have hP : va_P D vwCl [(xo, .inr (8, [.ref g, .ref sc, .ref tr, .ref tl, .ref wk, .ref pr, .ref pi, .ref se, .ref pn, .ref tp, .int (-1)])), (g, .inr (0, [.int (nI bw), .int (nI bh), .long 0, .ref kd, .ref rw, .ref ms])), (kd, .inl (kI, 64, .inl (fun _ => 0))), (rw, .inl (kI, 64, .inl (fun _ => 0))), (sc, .inr (3, [.int (-1), .long 0, .int 0, .int 0]))] H := hP
            have hD : va_D A [(xo, .inr (8, [.ref g, .ref sc, .ref tr, .ref tl, .ref wk, .ref pr, .ref pi, .ref se, .ref pn, .ref tp, .int (-1)])), (g, .inr (0, [.int (nI bw), .int (nI bh), .long 0, .ref kd, .ref rw, .ref ms])), (kd, .inl (kI, 64, .inl (fun _ => 0))), (rw, .inl (kI, 64, .inl (fun _ => 0))), (sc, .inr (3, [.int (-1), .long 0, .int 0, .int 0]))] := hD
            refine lv_aload_n hx hb dX8_field_78 rfl (lv_at hl 2 rfl) ?_
            refine va_get (D := D) (ci := 8) (v := .ref g) (C := RX8) (T := TX8) (N := 11) hx hb hts (by decide +kernel) hown hK hP 0 rfl rfl 0 (by decide) (hts (.fieldLink RX8 12 "CellarPushers" "ground" "LCellarPushers$Ground;") (by decide +kernel)) (fun _ h9 => h9) rfl dX8_field_79 ?_
            refine lv_iload hx hb dX8_field_82 (lv_at hl 1 rfl) ?_
            refine lv_iload_n hx hb dX8_field_84 rfl (lv_at hl 5 rfl) ?_
            refine lv_iload hx hb dX8_field_85 (lv_at hl 6 rfl) ?_
            refine qc_i (wr := [(xo, .inr (8, [.ref g, .ref sc, .ref tr, .ref tl, .ref wk, .ref pr, .ref pi, .ref se, .ref pn, .ref tp, .int (-1)])), (sc, .inr (3, [.int (-1), .long 0, .int 0, .int 0]))]) (qV_W (n := 3) (As := [.int (nI num), .int k, .int v]) (rest := []) (wc := [(g, .inr (0, [.int (nI bw), .int (nI bh), .long 0, .ref kd, .ref rw, .ref ms])), (kd, .inl (kI, 64, .inl (fun _ => 0))), (rw, .inl (kI, 64, .inl (fun _ => 0)))]) ⟨hx, hb, hml, hown, hts⟩ hK hN hP hD [1, 2, 3] rfl rfl (by decide) (k_X0_lay l D kI kZ kJ g kd rw ms bw bh hbw hbh num hnum k v H.size) gX8_field_X0_lay rfl rfl rfl (by decide +kernel) ⟨(Nat.le_of_ble_eq_true rfl), (Nat.le_of_ble_eq_true rfl)⟩ 1 0 rfl rfl rfl rfl hl.1 rfl (Nat.le_of_ble_eq_true rfl) dX8_field_87 ⟨(Nat.le_of_ble_eq_true rfl), (Nat.le_of_ble_eq_true rfl)⟩) hP hD hS hA [1, 2, 3] [0, 4] rfl rfl (by decide) (by decide) (fun r u H locs hw hP hD hS => ?_)
            obtain rfl := hw
            have hP : va_P D vwCl [(xo, .inr (8, [.ref g, .ref sc, .ref tr, .ref tl, .ref wk, .ref pr, .ref pi, .ref se, .ref pn, .ref tp, .int (-1)])), (sc, .inr (3, [.int (-1), .long 0, .int 0, .int 0]))] H := hP
            have hD : va_D A [(xo, .inr (8, [.ref g, .ref sc, .ref tr, .ref tl, .ref wk, .ref pr, .ref pi, .ref se, .ref pn, .ref tp, .int (-1)])), (sc, .inr (3, [.int (-1), .long 0, .int 0, .int 0]))] := hD
            have hP9 := hP.sub (ws' := []) [] rfl
            have hD9 := hD.sub (ws' := []) [] (by decide) rfl
            exact W.iret (v := 0) hx hb hr (fun t ht hW => ⟨⟨_, (), rfl, (by first | exact q_ift ⟨hin, by assumption, by first | assumption | exact Int32.not_lt.mp (by assumption), fun _ => by assumption, fun h => absurd (by assumption) h⟩ | exact q_ift ⟨hin, by assumption, by first | assumption | exact Int32.not_lt.mp (by assumption), fun h => absurd h (by assumption), fun _ => by assumption⟩ | exact q_iff (fun h => by obtain ⟨h1, h2, h3, h4, h5⟩ := h; first | contradiction | exact absurd (h4 (by assumption)) (by assumption) | exact absurd (h5 (by assumption)) (by assumption) | exact absurd h3 (Int32.not_le.mpr (by assumption)) | exact absurd (Int32.not_lt.mp (by assumption)) (by assumption))), ⟨by rw [ht]; exact hP9, hD9⟩⟩, hS.F ht⟩) hS.2.2 dX8_field_90
          · skip
            refine lv_goto (tgt := 52) hx hb dX8_field_39 (by decide) ?_
            refine lv_istore (lv' := [(6, .int 0), (5, .int (nI num)), (0, .ref xo), (1, .int x), (2, .int y), (3, .int k), (4, .int v)]) hx hb dX8_field_52 hl (by decide) rfl (fun ls hl => ?_)
            refine lv_iload hx hb dX8_field_54 (lv_at hl 0 rfl) ?_
            refine lv_if_eq (tgt := 68) hx hb dX8_field_56 (by decide) (fun _ => ?_) (fun h9 => absurd (by decide : (0 : Int32) = (0 : Int32)) h9)
            refine lv_bipush (v := (-2)) hx hb dX8_field_68 (by decide) ?_
            have hP9 := hP.sub (ws' := []) [] rfl
            have hD9 := hD.sub (ws' := []) [] (by decide) rfl
            exact W.iret (v := (-2)) hx hb hr (fun t ht hW => ⟨⟨_, (), rfl, (by first | exact q_ift ⟨hin, by assumption, by first | assumption | exact Int32.not_lt.mp (by assumption), fun _ => by assumption, fun h => absurd (by assumption) h⟩ | exact q_ift ⟨hin, by assumption, by first | assumption | exact Int32.not_lt.mp (by assumption), fun h => absurd h (by assumption), fun _ => by assumption⟩ | exact q_iff (fun h => by obtain ⟨h1, h2, h3, h4, h5⟩ := h; first | contradiction | exact absurd (h4 (by assumption)) (by assumption) | exact absurd (h5 (by assumption)) (by assumption) | exact absurd h3 (Int32.not_le.mpr (by assumption)) | exact absurd (Int32.not_lt.mp (by assumption)) (by assumption))), ⟨by rw [ht]; exact hP9, hD9⟩⟩, hS.F ht⟩) hS.2.2 dX8_field_70
      · skip
        refine lv_bipush (v := (-2)) hx hb dX8_field_26 (by decide) ?_
        have hP9 := hP.sub (ws' := []) [] rfl
        have hD9 := hD.sub (ws' := []) [] (by decide) rfl
        exact W.iret (v := (-2)) hx hb hr (fun t ht hW => ⟨⟨_, (), rfl, (by first | exact q_ift ⟨hin, by assumption, by first | assumption | exact Int32.not_lt.mp (by assumption), fun _ => by assumption, fun h => absurd (by assumption) h⟩ | exact q_ift ⟨hin, by assumption, by first | assumption | exact Int32.not_lt.mp (by assumption), fun h => absurd h (by assumption), fun _ => by assumption⟩ | exact q_iff (fun h => by obtain ⟨h1, h2, h3, h4, h5⟩ := h; first | contradiction | exact absurd (h4 (by assumption)) (by assumption) | exact absurd (h5 (by assumption)) (by assumption) | exact absurd h3 (Int32.not_le.mpr (by assumption)) | exact absurd (Int32.not_lt.mp (by assumption)) (by assumption))), ⟨by rw [ht]; exact hP9, hD9⟩⟩, hS.F ht⟩) hS.2.2 dX8_field_28
  · skip
    refine lv_istore (lv' := [(5, .int (-1)), (0, .ref xo), (1, .int x), (2, .int y), (3, .int k), (4, .int v)]) hx hb dX8_field_9 hl (by decide) rfl (fun ls hl => ?_)
    refine lv_iload hx hb dX8_field_11 (lv_at hl 0 rfl) ?_
    refine lv_iconst (v := (-1)) hx hb dX8_field_13 (by decide) ?_
    refine lv_icmp_eq (tgt := 26) hx hb dX8_field_14 (by decide) (fun _ => ?_) (fun h9 => absurd (by decide : ((-1) : Int32) = ((-1) : Int32)) h9)
    refine lv_bipush (v := (-2)) hx hb dX8_field_26 (by decide) ?_
    have hP9 := hP.sub (ws' := []) [] rfl
    have hD9 := hD.sub (ws' := []) [] (by decide) rfl
    exact W.iret (v := (-2)) hx hb hr (fun t ht hW => ⟨⟨_, (), rfl, (by first | exact q_ift ⟨hin, by assumption, by first | assumption | exact Int32.not_lt.mp (by assumption), fun _ => by assumption, fun h => absurd (by assumption) h⟩ | exact q_ift ⟨hin, by assumption, by first | assumption | exact Int32.not_lt.mp (by assumption), fun h => absurd h (by assumption), fun _ => by assumption⟩ | exact q_iff (fun h => by obtain ⟨h1, h2, h3, h4, h5⟩ := h; first | contradiction | exact absurd (h4 (by assumption)) (by assumption) | exact absurd (h5 (by assumption)) (by assumption) | exact absurd h3 (Int32.not_le.mpr (by assumption)) | exact absurd (Int32.not_lt.mp (by assumption)) (by assumption))), ⟨by rw [ht]; exact hP9, hD9⟩⟩, hS.F ht⟩) hS.2.2 dX8_field_28
set_option maxHeartbeats 4000000 in
set_option maxRecDepth 100000 in
theorem k_X8_line (l : Launch) (D : va_G) (kI kZ kJ : ClassId)  (xo g sc tr tl wk pr pi se pn tp kd rw ms : Nat) (bw bh : Nat) (hbw : bw ≤ 8) (hbh : bh ≤ 8) (tm tb ts tq wf wq pnw tpw pp pq : Nat) (y v : Int32) (sz : Nat) : Met l yX8_line wsX8_line ({ frames := 5, cells := 0, slots := 0, locals := 105 }) (qW D kI kZ kJ [(xo, .inr (8, [.ref g, .ref sc, .ref tr, .ref tl, .ref wk, .ref pr, .ref pi, .ref se, .ref pn, .ref tp, .int (-1)])), (g, .inr (0, [.int (nI bw), .int (nI bh), .long 0, .ref kd, .ref rw, .ref ms])), (ms, .inl (kZ, 8, .inl (fun _ => 0))), (sc, .inr (3, [.int (-1), .long 0, .int 0, .int 0])), (tl, .inr (5, [.int 0, .int 0, .ref tm, .ref tb, .ref ts, .ref tq]))] sz [.ref xo, .int y, .int v]) (va_Qi (fun (r : Int32) (u : Unit) => q_if (q_rowP bh y) 0 (-2) r) (qB D (fun u : Unit => []) (va_A [(xo, .inr (8, [.ref g, .ref sc, .ref tr, .ref tl, .ref wk, .ref pr, .ref pi, .ref se, .ref pn, .ref tp, .int (-1)])), (g, .inr (0, [.int (nI bw), .int (nI bh), .long 0, .ref kd, .ref rw, .ref ms])), (ms, .inl (kZ, 8, .inl (fun _ => 0))), (sc, .inr (3, [.int (-1), .long 0, .int 0, .int 0])), (tl, .inr (5, [.int 0, .int 0, .ref tm, .ref tb, .ref ts, .ref tq]))] sz)) (va_A [(xo, .inr (8, [.ref g, .ref sc, .ref tr, .ref tl, .ref wk, .ref pr, .ref pi, .ref se, .ref pn, .ref tp, .int (-1)])), (g, .inr (0, [.int (nI bw), .int (nI bh), .long 0, .ref kd, .ref rw, .ref ms])), (ms, .inl (kZ, 8, .inl (fun _ => 0))), (sc, .inr (3, [.int (-1), .long 0, .int 0, .int 0])), (tl, .inr (5, [.int 0, .int 0, .ref tm, .ref tb, .ref ts, .ref tq]))] sz)) 0 0 (va_A [(xo, .inr (8, [.ref g, .ref sc, .ref tr, .ref tl, .ref wk, .ref pr, .ref pi, .ref se, .ref pn, .ref tp, .int (-1)])), (g, .inr (0, [.int (nI bw), .int (nI bh), .long 0, .ref kd, .ref rw, .ref ms])), (ms, .inl (kZ, 8, .inl (fun _ => 0))), (sc, .inr (3, [.int (-1), .long 0, .int 0, .int 0])), (tl, .inr (5, [.int 0, .int 0, .ref tm, .ref tb, .ref ts, .ref tq]))] sz) := by
  refine Met.ofW (cc := cX8_line) (maxL := 4) (ret := (some .int)) (by decide) rfl ?_
  intro p e s m args below meth c s₁ B hml hv
  obtain ⟨rfl, hsz, hP, hK, hD0, hN⟩ := hv
  have hx := B.exec
  have hb := B.bytes
  have hr := B.returns
  have hts := atoms_spec (ws := wsX8_line) B.pre
  have hown : s.vm.findClass RX8 = some m.cls := findClass_of_methodNamed B.named
  have hlocks := B.notSynchronized
  subst hsz
  have hD := hD0.self (sz := s.heap.size)
  generalize hAe : va_A [(xo, .inr (8, [.ref g, .ref sc, .ref tr, .ref tl, .ref wk, .ref pr, .ref pi, .ref se, .ref pn, .ref tp, .int (-1)])), (g, .inr (0, [.int (nI bw), .int (nI bh), .long 0, .ref kd, .ref rw, .ref ms])), (ms, .inl (kZ, 8, .inl (fun _ => 0))), (sc, .inr (3, [.int (-1), .long 0, .int 0, .int 0])), (tl, .inr (5, [.int 0, .int 0, .ref tm, .ref tb, .ref ts, .ref tq]))] s.heap.size = A at hD ⊢
  have hA : ∀ q : Nat, s.heap.size ≤ q → A q := fun q h => by rw [← hAe]; exact Or.inr h
  have hS : va_S A s.heap s.heap [] := va_S.rf
  have hP : va_P D vwCl [(xo, .inr (8, [.ref g, .ref sc, .ref tr, .ref tl, .ref wk, .ref pr, .ref pi, .ref se, .ref pn, .ref tp, .int (-1)])), (g, .inr (0, [.int (nI bw), .int (nI bh), .long 0, .ref kd, .ref rw, .ref ms])), (ms, .inl (kZ, 8, .inl (fun _ => 0))), (sc, .inr (3, [.int (-1), .long 0, .int 0, .int 0])), (tl, .inr (5, [.int 0, .int 0, .ref tm, .ref tb, .ref ts, .ref tq]))] s.heap := hP
  have hl := lv_entry ([.ref xo, .int y, .int v]) (n := 4) (Nat.le_of_ble_eq_true rfl)
  rw [lg_entry_eq]
  generalize (lg_sl ([.ref xo, .int y, .int v]) ++ List.replicate (4 - (lg_sl ([.ref xo, .int y, .int v])).length) Slot.unset).toArray = ls at hl ⊢
  have hl : lv_has ls 4 [(0, .ref xo), (1, .int y), (2, .int v)] := hl
  refine lv_iload_n hx hb dX8_line_0 rfl (lv_at hl 1 rfl) ?_
  refine lv_if_lt (tgt := 15) hx hb dX8_line_1 (by decide) (fun c_1 => ?_) (fun c_1 => ?_)
  · skip
    refine lv_bipush (v := (-2)) hx hb dX8_line_15 (by decide) ?_
    have hP9 := hP.sub (ws' := []) [] rfl
    have hD9 := hD.sub (ws' := []) [] (by decide) rfl
    exact W.iret (v := (-2)) hx hb hr (fun t ht hW => ⟨⟨_, (), rfl, (by first | exact q_ift hrow | exact q_iff (fun h => by obtain ⟨h1, h2⟩ := h; contradiction)), ⟨by rw [ht]; exact hP9, hD9⟩⟩, hS.F ht⟩) hS.2.2 dX8_line_17
  · skip
    refine lv_iload_n hx hb dX8_line_4 rfl (lv_at hl 1 rfl) ?_
    refine lv_aload_n hx hb dX8_line_5 rfl (lv_at hl 0 rfl) ?_
    refine va_get (D := D) (ci := 8) (v := .ref g) (C := RX8) (T := TX8) (N := 11) hx hb hts (by decide +kernel) hown hK hP 0 rfl rfl 0 (by decide) (hts (.fieldLink RX8 12 "CellarPushers" "ground" "LCellarPushers$Ground;") (by decide +kernel)) (fun _ h9 => h9) rfl dX8_line_6 ?_
    refine va_get (D := D) (ci := 0) (v := .int (nI bh)) (C := RX0) (T := TX0) (N := 6) hx hb hts (by decide +kernel) hown hK hP 1 rfl rfl 1 (by decide) (hts (.fieldLink RX8 95 "CellarPushers$Ground" "height" "I") (by decide +kernel)) (fun _ h9 => h9) rfl dX8_line_9 ?_
    refine lv_icmp_lt (tgt := 18) hx hb dX8_line_12 (by decide) (fun c_2 => ?_) (fun c_2 => ?_)
    · skip
      have hrow : q_rowP bh y := ⟨by assumption, by assumption⟩
      obtain ⟨k, hk, rfl⟩ := q_row hbh hrow.1 hrow.2
      refine lv_iconst (v := 0) hx hb dX8_line_18 (by decide) ?_
      refine lv_istore_n (lv' := [(3, .int 0), (0, .ref xo), (1, .int (nI k)), (2, .int v)]) hx hb dX8_line_19 rfl hl (by decide) rfl (fun ls hl => ?_)
      obtain ⟨i20, hk20, hl20⟩ : ∃ i20 : Nat, i20 ≤ bw ∧ lv_has ls 4 [(3, .int (nI i20)), (0, .ref xo), (1, .int (nI k)), (2, .int v)] := ⟨0, by omega, hl⟩
      clear hl
      have hl := hl20
      clear hl20
      obtain ⟨f20, hf20⟩ : ∃ f20 : Nat, bw < i20 + f20 := ⟨bw + 1, by omega⟩
      induction f20 generalizing i20 ls with
      | zero => exact absurd hf20 (by omega)
      | succ f20 ih20 =>
        refine lv_iload_n hx hb dX8_line_20 rfl (lv_at hl 0 rfl) ?_
        refine lv_aload_n hx hb dX8_line_21 rfl (lv_at hl 1 rfl) ?_
        refine va_get (D := D) (ci := 8) (v := .ref g) (C := RX8) (T := TX8) (N := 11) hx hb hts (by decide +kernel) hown hK hP 0 rfl rfl 0 (by decide) (hts (.fieldLink RX8 12 "CellarPushers" "ground" "LCellarPushers$Ground;") (by decide +kernel)) (fun _ h9 => h9) rfl dX8_line_22 ?_
        refine va_get (D := D) (ci := 0) (v := .int (nI bw)) (C := RX0) (T := TX0) (N := 6) hx hb hts (by decide +kernel) hown hK hP 1 rfl rfl 0 (by decide) (hts (.fieldLink RX8 98 "CellarPushers$Ground" "width" "I") (by decide +kernel)) (fun _ h9 => h9) rfl dX8_line_25 ?_
        refine lv_icmp_ge (tgt := 56) hx hb dX8_line_28 (by decide) (fun c_3 => ?_) (fun c_3 => ?_)
        · skip
          have hi20 : i20 = bw := by have := (nI_leI (a := bw) (b := i20) (by omega) (by omega)).mp c_3; omega
          refine lv_aload_n hx hb dX8_line_56 rfl (lv_at hl 1 rfl) ?_
          refine va_get (D := D) (ci := 8) (v := .ref tl) (C := RX8) (T := TX8) (N := 11) hx hb hts (by decide +kernel) hown hK hP 0 rfl rfl 3 (by decide) (hts (.fieldLink RX8 31 "CellarPushers" "timeline" "LCellarPushers$Timeline;") (by decide +kernel)) (fun _ h9 => h9) rfl dX8_line_57 ?_
          refine qc_v (wr := [(xo, .inr (8, [.ref g, .ref sc, .ref tr, .ref tl, .ref wk, .ref pr, .ref pi, .ref se, .ref pn, .ref tp, .int (-1)])), (g, .inr (0, [.int (nI bw), .int (nI bh), .long 0, .ref kd, .ref rw, .ref ms])), (ms, .inl (kZ, 8, .inl (fun _ => 0))), (sc, .inr (3, [.int (-1), .long 0, .int 0, .int 0]))]) (qV_W (n := 0) (As := []) (rest := []) (wc := [(tl, .inr (5, [.int 0, .int 0, .ref tm, .ref tb, .ref ts, .ref tq]))]) ⟨hx, hb, hml, hown, hts⟩ hK hN hP hD [4] rfl rfl (by decide) (k_X5_forget l D kI kZ kJ tl tm tb ts tq s.heap.size) gX8_line_X5_forget rfl rfl rfl (by decide +kernel) ⟨(Nat.le_of_ble_eq_true rfl), (Nat.le_of_ble_eq_true rfl)⟩ 4 5 rfl rfl rfl rfl hl.1 rfl (Nat.le_of_ble_eq_true rfl) dX8_line_60 ⟨(Nat.le_of_ble_eq_true rfl), (Nat.le_of_ble_eq_true rfl)⟩) hP hD hS hA [4] [0, 1, 2, 3] rfl rfl (by decide) (by decide) (fun u H locs hw hP hD hS => ?_)
          have hP : va_P D vwCl [(xo, .inr (8, [.ref g, .ref sc, .ref tr, .ref tl, .ref wk, .ref pr, .ref pi, .ref se, .ref pn, .ref tp, .int (-1)])), (g, .inr (0, [.int (nI bw), .int (nI bh), .long 0, .ref kd, .ref rw, .ref ms])), (ms, .inl (kZ, 8, .inl (fun _ => 0))), (sc, .inr (3, [.int (-1), .long 0, .int 0, .int 0]))] H := hP
          have hD : va_D A [(xo, .inr (8, [.ref g, .ref sc, .ref tr, .ref tl, .ref wk, .ref pr, .ref pi, .ref se, .ref pn, .ref tp, .int (-1)])), (g, .inr (0, [.int (nI bw), .int (nI bh), .long 0, .ref kd, .ref rw, .ref ms])), (ms, .inl (kZ, 8, .inl (fun _ => 0))), (sc, .inr (3, [.int (-1), .long 0, .int 0, .int 0]))] := hD
          refine lv_aload_n hx hb dX8_line_63 rfl (lv_at hl 1 rfl) ?_
          refine va_get (D := D) (ci := 8) (v := .ref g) (C := RX8) (T := TX8) (N := 11) hx hb hts (by decide +kernel) hown hK hP 0 rfl rfl 0 (by decide) (hts (.fieldLink RX8 12 "CellarPushers" "ground" "LCellarPushers$Ground;") (by decide +kernel)) (fun _ h9 => h9) rfl dX8_line_64 ?_
          refine lv_iload_n hx hb dX8_line_67 rfl (lv_at hl 2 rfl) ?_
          refine lv_iload_n hx hb dX8_line_68 rfl (lv_at hl 3 rfl) ?_
          refine qc_i (wr := [(xo, .inr (8, [.ref g, .ref sc, .ref tr, .ref tl, .ref wk, .ref pr, .ref pi, .ref se, .ref pn, .ref tp, .int (-1)])), (sc, .inr (3, [.int (-1), .long 0, .int 0, .int 0]))]) (qV_W (n := 2) (As := [.int (nI k), .int v]) (rest := []) (wc := [(g, .inr (0, [.int (nI bw), .int (nI bh), .long 0, .ref kd, .ref rw, .ref ms])), (ms, .inl (kZ, 8, .inl (fun _ => 0)))]) ⟨hx, hb, hml, hown, hts⟩ hK hN hP hD [1, 2] rfl rfl (by decide) (k_X0_letMiss l D kI kZ kJ g kd rw ms bw bh hbw hbh k (Nat.lt_of_lt_of_le hk hbh) v H.size) gX8_line_X0_letMiss rfl rfl rfl (by decide +kernel) ⟨(Nat.le_of_ble_eq_true rfl), (Nat.le_of_ble_eq_true rfl)⟩ 1 0 rfl rfl rfl rfl hl.1 rfl (Nat.le_of_ble_eq_true rfl) dX8_line_69 ⟨(Nat.le_of_ble_eq_true rfl), (Nat.le_of_ble_eq_true rfl)⟩) hP hD hS hA [1, 2] [0, 3] rfl rfl (by decide) (by decide) (fun r u H locs hw hP hD hS => ?_)
          obtain rfl := hw
          have hP : va_P D vwCl [(xo, .inr (8, [.ref g, .ref sc, .ref tr, .ref tl, .ref wk, .ref pr, .ref pi, .ref se, .ref pn, .ref tp, .int (-1)])), (sc, .inr (3, [.int (-1), .long 0, .int 0, .int 0]))] H := hP
          have hD : va_D A [(xo, .inr (8, [.ref g, .ref sc, .ref tr, .ref tl, .ref wk, .ref pr, .ref pi, .ref se, .ref pn, .ref tp, .int (-1)])), (sc, .inr (3, [.int (-1), .long 0, .int 0, .int 0]))] := hD
          refine lv_if_eq (tgt := 79) hx hb dX8_line_72 (by decide) (fun _ => ?_) (fun h9 => absurd (by decide : (0 : Int32) = (0 : Int32)) h9)
          refine lv_iconst (v := 0) hx hb dX8_line_79 (by decide) ?_
          have hP9 := hP.sub (ws' := []) [] rfl
          have hD9 := hD.sub (ws' := []) [] (by decide) rfl
          exact W.iret (v := 0) hx hb hr (fun t ht hW => ⟨⟨_, (), rfl, (by first | exact q_ift hrow | exact q_iff (fun h => by obtain ⟨h1, h2⟩ := h; contradiction)), ⟨by rw [ht]; exact hP9, hD9⟩⟩, hS.F ht⟩) hS.2.2 dX8_line_80
        · skip
          have hi20 : i20 < bw := by have := mt (nI_leI (a := bw) (b := i20) (by omega) (by omega)).mpr c_3; omega
          refine lv_aload_n hx hb dX8_line_31 rfl (lv_at hl 1 rfl) ?_
          refine lv_aload_n hx hb dX8_line_32 rfl (lv_at hl 1 rfl) ?_
          refine va_get (D := D) (ci := 8) (v := .ref g) (C := RX8) (T := TX8) (N := 11) hx hb hts (by decide +kernel) hown hK hP 0 rfl rfl 0 (by decide) (hts (.fieldLink RX8 12 "CellarPushers" "ground" "LCellarPushers$Ground;") (by decide +kernel)) (fun _ h9 => h9) rfl dX8_line_33 ?_
          refine lv_iload_n hx hb dX8_line_36 rfl (lv_at hl 0 rfl) ?_
          refine lv_iload_n hx hb dX8_line_37 rfl (lv_at hl 2 rfl) ?_
          refine vp_callSi (qV_R (n := 2) (As := [.int (nI i20), .int (nI k)]) (rest := [.ref xo]) (wc := [(g, .inr (0, [.int (nI bw), .int (nI bh), .long 0, .ref kd, .ref rw, .ref ms]))]) ⟨hx, hb, hml, hown, hts⟩ hK hN hP [1] rfl (k_X0_numberOf l D kI kZ kJ g kd rw ms bw bh hbw hbh (nI i20) (nI k)) gX8_line_X0_numberOf rfl rfl rfl (by decide +kernel) ⟨(Nat.le_of_ble_eq_true rfl), (Nat.le_of_ble_eq_true rfl)⟩ 1 0 rfl rfl rfl rfl hl.1 rfl (Nat.le_of_ble_eq_true rfl) dX8_line_38 ⟨(Nat.le_of_ble_eq_true rfl), (Nat.le_of_ble_eq_true rfl)⟩).run (fun r hw => ?_)
          rcases hw with ⟨hin, num, hnum, rfl⟩ | ⟨hin, rfl⟩
          · skip
            refine vp_callSi (qV_R (n := 1) (As := [.int (nI num)]) (rest := []) (wc := [(xo, .inr (8, [.ref g, .ref sc, .ref tr, .ref tl, .ref wk, .ref pr, .ref pi, .ref se, .ref pn, .ref tp, .int (-1)])), (sc, .inr (3, [.int (-1), .long 0, .int 0, .int 0])), (g, .inr (0, [.int (nI bw), .int (nI bh), .long 0, .ref kd, .ref rw, .ref ms]))]) ⟨hx, hb, hml, hown, hts⟩ hK hN hP [0, 3, 1] rfl (k_X8_isInUse l D kI kZ kJ xo g sc tr tl wk pr pi se pn tp kd rw ms bw bh hbw hbh tm tb ts tq wf wq pnw tpw pp pq num hnum) gX8_line_X8_isInUse rfl rfl rfl (by decide +kernel) ⟨(Nat.le_of_ble_eq_true rfl), (Nat.le_of_ble_eq_true rfl)⟩ 0 8 rfl rfl rfl rfl hl.1 rfl (Nat.le_of_ble_eq_true rfl) dX8_line_41 ⟨(Nat.le_of_ble_eq_true rfl), (Nat.le_of_ble_eq_true rfl)⟩).run (fun r hw => ?_)
            obtain rfl := hw
            refine lv_if_eq (tgt := 50) hx hb dX8_line_44 (by decide) (fun _ => ?_) (fun h9 => absurd (by decide : (0 : Int32) = (0 : Int32)) h9)
            refine lv_iinc (v := (nI (i20 + 1))) (lv' := [(3, .int (nI (i20 + 1))), (0, .ref xo), (1, .int (nI k)), (2, .int v)]) hx hb dX8_line_50 hl (k := 0) rfl (q_inc _) (by decide) rfl (fun ls hl => ?_)
            refine lv_goto (tgt := 20) hx hb dX8_line_53 (by decide) ?_
            exact ih20 (i20 := (i20 + 1)) (ls := ls) (hk20 := by omega) (hl := lv_sub hl [0, 1, 2, 3] rfl) (hf20 := by omega)
          · skip
            exact absurd (q_inN hbw hbh (by assumption) hk) hin
    · skip
      refine lv_bipush (v := (-2)) hx hb dX8_line_15 (by decide) ?_
      have hP9 := hP.sub (ws' := []) [] rfl
      have hD9 := hD.sub (ws' := []) [] (by decide) rfl
      exact W.iret (v := (-2)) hx hb hr (fun t ht hW => ⟨⟨_, (), rfl, (by first | exact q_ift hrow | exact q_iff (fun h => by obtain ⟨h1, h2⟩ := h; contradiction)), ⟨by rw [ht]; exact hP9, hD9⟩⟩, hS.F ht⟩) hS.2.2 dX8_line_17
set_option maxHeartbeats 4000000 in
set_option maxRecDepth 100000 in
theorem k_X8_barrel (l : Launch) (D : va_G) (kI kZ kJ : ClassId)  (xo g sc tr tl wk pr pi se pn tp kd rw ms : Nat) (bw bh : Nat) (hbw : bw ≤ 8) (hbh : bh ≤ 8) (tm tb ts tq wf wq pnw tpw pp pq : Nat) (x y v : Int32) (sz : Nat) : Met l yX8_barrel wsX8_barrel ({ frames := 3, cells := 0, slots := 0, locals := 63 }) (qW D kI kZ kJ [(xo, .inr (8, [.ref g, .ref sc, .ref tr, .ref tl, .ref wk, .ref pr, .ref pi, .ref se, .ref pn, .ref tp, .int (-1)])), (g, .inr (0, [.int (nI bw), .int (nI bh), .long 0, .ref kd, .ref rw, .ref ms])), (kd, .inl (kI, 64, .inl (fun _ => 0))), (ms, .inl (kZ, 8, .inl (fun _ => 0))), (sc, .inr (3, [.int (-1), .long 0, .int 0, .int 0])), (tl, .inr (5, [.int 0, .int 0, .ref tm, .ref tb, .ref ts, .ref tq]))] sz [.ref xo, .int x, .int y, .int v]) (va_Qi (fun (r : Int32) (u : Unit) => q_if (q_in bw bh x y ∧ v = 0) 0 (-2) r) (qB D (fun u : Unit => []) (va_A [(xo, .inr (8, [.ref g, .ref sc, .ref tr, .ref tl, .ref wk, .ref pr, .ref pi, .ref se, .ref pn, .ref tp, .int (-1)])), (g, .inr (0, [.int (nI bw), .int (nI bh), .long 0, .ref kd, .ref rw, .ref ms])), (kd, .inl (kI, 64, .inl (fun _ => 0))), (ms, .inl (kZ, 8, .inl (fun _ => 0))), (sc, .inr (3, [.int (-1), .long 0, .int 0, .int 0])), (tl, .inr (5, [.int 0, .int 0, .ref tm, .ref tb, .ref ts, .ref tq]))] sz)) (va_A [(xo, .inr (8, [.ref g, .ref sc, .ref tr, .ref tl, .ref wk, .ref pr, .ref pi, .ref se, .ref pn, .ref tp, .int (-1)])), (g, .inr (0, [.int (nI bw), .int (nI bh), .long 0, .ref kd, .ref rw, .ref ms])), (kd, .inl (kI, 64, .inl (fun _ => 0))), (ms, .inl (kZ, 8, .inl (fun _ => 0))), (sc, .inr (3, [.int (-1), .long 0, .int 0, .int 0])), (tl, .inr (5, [.int 0, .int 0, .ref tm, .ref tb, .ref ts, .ref tq]))] sz)) 0 0 (va_A [(xo, .inr (8, [.ref g, .ref sc, .ref tr, .ref tl, .ref wk, .ref pr, .ref pi, .ref se, .ref pn, .ref tp, .int (-1)])), (g, .inr (0, [.int (nI bw), .int (nI bh), .long 0, .ref kd, .ref rw, .ref ms])), (kd, .inl (kI, 64, .inl (fun _ => 0))), (ms, .inl (kZ, 8, .inl (fun _ => 0))), (sc, .inr (3, [.int (-1), .long 0, .int 0, .int 0])), (tl, .inr (5, [.int 0, .int 0, .ref tm, .ref tb, .ref ts, .ref tq]))] sz) := by
  refine Met.ofW (cc := cX8_barrel) (maxL := 6) (ret := (some .int)) (by decide) rfl ?_
  intro p e s m args below meth c s₁ B hml hv
  obtain ⟨rfl, hsz, hP, hK, hD0, hN⟩ := hv
  have hx := B.exec
  have hb := B.bytes
  have hr := B.returns
  have hts := atoms_spec (ws := wsX8_barrel) B.pre
  have hown : s.vm.findClass RX8 = some m.cls := findClass_of_methodNamed B.named
  have hlocks := B.notSynchronized
  subst hsz
  have hD := hD0.self (sz := s.heap.size)
  generalize hAe : va_A [(xo, .inr (8, [.ref g, .ref sc, .ref tr, .ref tl, .ref wk, .ref pr, .ref pi, .ref se, .ref pn, .ref tp, .int (-1)])), (g, .inr (0, [.int (nI bw), .int (nI bh), .long 0, .ref kd, .ref rw, .ref ms])), (kd, .inl (kI, 64, .inl (fun _ => 0))), (ms, .inl (kZ, 8, .inl (fun _ => 0))), (sc, .inr (3, [.int (-1), .long 0, .int 0, .int 0])), (tl, .inr (5, [.int 0, .int 0, .ref tm, .ref tb, .ref ts, .ref tq]))] s.heap.size = A at hD ⊢
  have hA : ∀ q : Nat, s.heap.size ≤ q → A q := fun q h => by rw [← hAe]; exact Or.inr h
  have hS : va_S A s.heap s.heap [] := va_S.rf
  have hP : va_P D vwCl [(xo, .inr (8, [.ref g, .ref sc, .ref tr, .ref tl, .ref wk, .ref pr, .ref pi, .ref se, .ref pn, .ref tp, .int (-1)])), (g, .inr (0, [.int (nI bw), .int (nI bh), .long 0, .ref kd, .ref rw, .ref ms])), (kd, .inl (kI, 64, .inl (fun _ => 0))), (ms, .inl (kZ, 8, .inl (fun _ => 0))), (sc, .inr (3, [.int (-1), .long 0, .int 0, .int 0])), (tl, .inr (5, [.int 0, .int 0, .ref tm, .ref tb, .ref ts, .ref tq]))] s.heap := hP
  have hl := lv_entry ([.ref xo, .int x, .int y, .int v]) (n := 6) (Nat.le_of_ble_eq_true rfl)
  rw [lg_entry_eq]
  generalize (lg_sl ([.ref xo, .int x, .int y, .int v]) ++ List.replicate (6 - (lg_sl ([.ref xo, .int x, .int y, .int v])).length) Slot.unset).toArray = ls at hl ⊢
  have hl : lv_has ls 6 [(0, .ref xo), (1, .int x), (2, .int y), (3, .int v)] := hl
  refine lv_aload_n hx hb dX8_barrel_0 rfl (lv_at hl 0 rfl) ?_
  refine va_get (D := D) (ci := 8) (v := .ref g) (C := RX8) (T := TX8) (N := 11) hx hb hts (by decide +kernel) hown hK hP 0 rfl rfl 0 (by decide) (hts (.fieldLink RX8 12 "CellarPushers" "ground" "LCellarPushers$Ground;") (by decide +kernel)) (fun _ h9 => h9) rfl dX8_barrel_1 ?_
  refine lv_iload_n hx hb dX8_barrel_4 rfl (lv_at hl 1 rfl) ?_
  refine lv_iload_n hx hb dX8_barrel_5 rfl (lv_at hl 2 rfl) ?_
  refine vp_callSi (qV_R (n := 2) (As := [.int x, .int y]) (rest := []) (wc := [(g, .inr (0, [.int (nI bw), .int (nI bh), .long 0, .ref kd, .ref rw, .ref ms]))]) ⟨hx, hb, hml, hown, hts⟩ hK hN hP [1] rfl (k_X0_numberOf l D kI kZ kJ g kd rw ms bw bh hbw hbh x y) gX8_barrel_X0_numberOf rfl rfl rfl (by decide +kernel) ⟨(Nat.le_of_ble_eq_true rfl), (Nat.le_of_ble_eq_true rfl)⟩ 1 0 rfl rfl rfl rfl hl.1 rfl (Nat.le_of_ble_eq_true rfl) dX8_barrel_6 ⟨(Nat.le_of_ble_eq_true rfl), (Nat.le_of_ble_eq_true rfl)⟩).run (fun r hw => ?_)
  rcases hw with ⟨hin, num, hnum, rfl⟩ | ⟨hin, rfl⟩
  · skip
    refine lv_istore (lv' := [(4, .int (nI num)), (0, .ref xo), (1, .int x), (2, .int y), (3, .int v)]) hx hb dX8_barrel_9 hl (by decide) rfl (fun ls hl => ?_)
    refine lv_iload hx hb dX8_barrel_11 (lv_at hl 0 rfl) ?_
    refine lv_iconst (v := (-1)) hx hb dX8_barrel_13 (by decide) ?_
    refine lv_icmp_eq (tgt := 30) hx hb dX8_barrel_14 (by decide) (fun h9 => absurd h9 (by have hq := hnum; exact fun h => q_ne1 (c := (-1)) (by decide) (by omega) h)) (fun _ => ?_)
    refine lv_iload_n hx hb dX8_barrel_17 rfl (lv_at hl 4 rfl) ?_
    refine lv_if_eq (tgt := 33) hx hb dX8_barrel_18 (by decide) (fun c_1 => ?_) (fun c_1 => ?_)
    · skip
      have hv0 : v = 0 := by assumption
      subst hv0
      refine lv_aload_n hx hb dX8_barrel_33 rfl (lv_at hl 1 rfl) ?_
      refine va_get (D := D) (ci := 8) (v := .ref tl) (C := RX8) (T := TX8) (N := 11) hx hb hts (by decide +kernel) hown hK hP 0 rfl rfl 3 (by decide) (hts (.fieldLink RX8 31 "CellarPushers" "timeline" "LCellarPushers$Timeline;") (by decide +kernel)) (fun _ h9 => h9) rfl dX8_barrel_34 ?_
      refine qc_v (wr := [(xo, .inr (8, [.ref g, .ref sc, .ref tr, .ref tl, .ref wk, .ref pr, .ref pi, .ref se, .ref pn, .ref tp, .int (-1)])), (g, .inr (0, [.int (nI bw), .int (nI bh), .long 0, .ref kd, .ref rw, .ref ms])), (kd, .inl (kI, 64, .inl (fun _ => 0))), (ms, .inl (kZ, 8, .inl (fun _ => 0))), (sc, .inr (3, [.int (-1), .long 0, .int 0, .int 0]))]) (qV_W (n := 0) (As := []) (rest := []) (wc := [(tl, .inr (5, [.int 0, .int 0, .ref tm, .ref tb, .ref ts, .ref tq]))]) ⟨hx, hb, hml, hown, hts⟩ hK hN hP hD [5] rfl rfl (by decide) (k_X5_forget l D kI kZ kJ tl tm tb ts tq s.heap.size) gX8_barrel_X5_forget rfl rfl rfl (by decide +kernel) ⟨(Nat.le_of_ble_eq_true rfl), (Nat.le_of_ble_eq_true rfl)⟩ 5 5 rfl rfl rfl rfl hl.1 rfl (Nat.le_of_ble_eq_true rfl) dX8_barrel_37 ⟨(Nat.le_of_ble_eq_true rfl), (Nat.le_of_ble_eq_true rfl)⟩) hP hD hS hA [5] [0, 1, 2, 3, 4] rfl rfl (by decide) (by decide) (fun u H locs hw hP hD hS => ?_)
      have hP : va_P D vwCl [(xo, .inr (8, [.ref g, .ref sc, .ref tr, .ref tl, .ref wk, .ref pr, .ref pi, .ref se, .ref pn, .ref tp, .int (-1)])), (g, .inr (0, [.int (nI bw), .int (nI bh), .long 0, .ref kd, .ref rw, .ref ms])), (kd, .inl (kI, 64, .inl (fun _ => 0))), (ms, .inl (kZ, 8, .inl (fun _ => 0))), (sc, .inr (3, [.int (-1), .long 0, .int 0, .int 0]))] H := hP
      have hD : va_D A [(xo, .inr (8, [.ref g, .ref sc, .ref tr, .ref tl, .ref wk, .ref pr, .ref pi, .ref se, .ref pn, .ref tp, .int (-1)])), (g, .inr (0, [.int (nI bw), .int (nI bh), .long 0, .ref kd, .ref rw, .ref ms])), (kd, .inl (kI, 64, .inl (fun _ => 0))), (ms, .inl (kZ, 8, .inl (fun _ => 0))), (sc, .inr (3, [.int (-1), .long 0, .int 0, .int 0]))] := hD
      refine lv_aload_n hx hb dX8_barrel_40 rfl (lv_at hl 1 rfl) ?_
      refine va_get (D := D) (ci := 8) (v := .ref sc) (C := RX8) (T := TX8) (N := 11) hx hb hts (by decide +kernel) hown hK hP 0 rfl rfl 1 (by decide) (hts (.fieldLink RX8 21 "CellarPushers" "scene" "LCellarPushers$Scene;") (by decide +kernel)) (fun _ h9 => h9) rfl dX8_barrel_41 ?_
      refine lv_iload hx hb dX8_barrel_44 (lv_at hl 0 rfl) ?_
      refine vp_callSi (qV_R (n := 1) (As := [.int (nI num)]) (rest := []) (wc := [(sc, .inr (3, [.int (-1), .long 0, .int 0, .int 0]))]) ⟨hx, hb, hml, hown, hts⟩ hK hN hP [4] rfl (k_X3_hasBarrel l D kI kZ kJ sc num hnum) gX8_barrel_X3_hasBarrel rfl rfl rfl (by decide +kernel) ⟨(Nat.le_of_ble_eq_true rfl), (Nat.le_of_ble_eq_true rfl)⟩ 4 3 rfl rfl rfl rfl hl.1 rfl (Nat.le_of_ble_eq_true rfl) dX8_barrel_46 ⟨(Nat.le_of_ble_eq_true rfl), (Nat.le_of_ble_eq_true rfl)⟩).run (fun r hw => ?_)
      obtain rfl := hw
      refine lv_istore (lv' := [(5, .int 0), (4, .int (nI num)), (0, .ref xo), (1, .int x), (2, .int y), (3, .int 0)]) hx hb dX8_barrel_49 hl (by decide) rfl (fun ls hl => ?_)
      refine lv_aload_n hx hb dX8_barrel_51 rfl (lv_at hl 2 rfl) ?_
      refine va_get (D := D) (ci := 8) (v := .ref sc) (C := RX8) (T := TX8) (N := 11) hx hb hts (by decide +kernel) hown hK hP 0 rfl rfl 1 (by decide) (hts (.fieldLink RX8 21 "CellarPushers" "scene" "LCellarPushers$Scene;") (by decide +kernel)) (fun _ h9 => h9) rfl dX8_barrel_52 ?_
      refine lv_aload_n hx hb dX8_barrel_55 rfl (lv_at hl 2 rfl) ?_
      refine va_get (D := D) (ci := 8) (v := .ref sc) (C := RX8) (T := TX8) (N := 11) hx hb hts (by decide +kernel) hown hK hP 0 rfl rfl 1 (by decide) (hts (.fieldLink RX8 21 "CellarPushers" "scene" "LCellarPushers$Scene;") (by decide +kernel)) (fun _ h9 => h9) rfl dX8_barrel_56 ?_
      refine va_get (D := D) (ci := 3) (v := .long 0) (C := RX3) (T := TX3) (N := 4) hx hb hts (by decide +kernel) hown hK hP 4 rfl rfl 1 (by decide) (hts (.fieldLink RX8 111 "CellarPushers$Scene" "barrels" "J") (by decide +kernel)) (fun _ h9 => h9) rfl dX8_barrel_59 ?_
      refine lv_iload hx hb dX8_barrel_62 (lv_at hl 1 rfl) ?_
      refine lv_iload_n hx hb dX8_barrel_64 rfl (lv_at hl 5 rfl) ?_
      refine vp_callSl (qS_R (n := 3) (As := [.long 0, .int (nI num), .int 0]) (rest := [.ref sc]) (wc := []) ⟨hx, hb, hml, hown, hts⟩ hK hN hP [] rfl (k_X8_with l D kI kZ kJ num hnum) gX8_barrel_X8_with rfl rfl rfl (by decide +kernel) ⟨(Nat.le_of_ble_eq_true rfl), (Nat.le_of_ble_eq_true rfl)⟩ rfl hl.1 rfl (Nat.le_of_ble_eq_true rfl) dX8_barrel_65 ⟨(Nat.le_of_ble_eq_true rfl), (Nat.le_of_ble_eq_true rfl)⟩).run (fun r hw => ?_)
      obtain rfl := hw
      refine va_put (D := D) (ci := 3) (v := .long 0) (ty := .long) (C := RX3) (T := TX3) (N := 4) hx hb hts (by decide +kernel) tyX3 tyX3_ok nmX3 hown hK hP hD hS 4 rfl rfl 1 (by decide) (hts (.fieldLink RX8 111 "CellarPushers$Scene" "barrels" "J") (by decide +kernel)) (fun _ h9 => h9) rfl (by decide +kernel) rfl rfl (Nat.le_of_ble_eq_true rfl) dX8_barrel_68 (fun H locs hP hD hS => ?_)
      have hP : va_P D vwCl [(xo, .inr (8, [.ref g, .ref sc, .ref tr, .ref tl, .ref wk, .ref pr, .ref pi, .ref se, .ref pn, .ref tp, .int (-1)])), (g, .inr (0, [.int (nI bw), .int (nI bh), .long 0, .ref kd, .ref rw, .ref ms])), (kd, .inl (kI, 64, .inl (fun _ => 0))), (ms, .inl (kZ, 8, .inl (fun _ => 0))), (sc, .inr (3, [.int (-1), .long 0, .int 0, .int 0]))] H := hP
      have hD : va_D A [(xo, .inr (8, [.ref g, .ref sc, .ref tr, .ref tl, .ref wk, .ref pr, .ref pi, .ref se, .ref pn, .ref tp, .int (-1)])), (g, .inr (0, [.int (nI bw), .int (nI bh), .long 0, .ref kd, .ref rw, .ref ms])), (kd, .inl (kI, 64, .inl (fun _ => 0))), (ms, .inl (kZ, 8, .inl (fun _ => 0))), (sc, .inr (3, [.int (-1), .long 0, .int 0, .int 0]))] := hD
      refine lv_iload hx hb dX8_barrel_71 (lv_at hl 0 rfl) ?_
      refine lv_if_eq (tgt := 80) hx hb dX8_barrel_73 (by decide) (fun _ => ?_) (fun h9 => absurd (by decide : (0 : Int32) = (0 : Int32)) h9)
      refine lv_iconst (v := 0) hx hb dX8_barrel_80 (by decide) ?_
      have hP9 := hP.sub (ws' := []) [] rfl
      have hD9 := hD.sub (ws' := []) [] (by decide) rfl
      exact W.iret (v := 0) hx hb hr (fun t ht hW => ⟨⟨_, (), rfl, (by first | exact q_ift ⟨hin, rfl⟩ | exact q_iff (fun h => by obtain ⟨h1, h2⟩ := h; contradiction)), ⟨by rw [ht]; exact hP9, hD9⟩⟩, hS.F ht⟩) hS.2.2 dX8_barrel_81
    · skip
      refine lv_aload_n hx hb dX8_barrel_21 rfl (lv_at hl 1 rfl) ?_
      refine lv_iload hx hb dX8_barrel_22 (lv_at hl 0 rfl) ?_
      refine vp_callSi (qV_R (n := 1) (As := [.int (nI num)]) (rest := []) (wc := [(xo, .inr (8, [.ref g, .ref sc, .ref tr, .ref tl, .ref wk, .ref pr, .ref pi, .ref se, .ref pn, .ref tp, .int (-1)])), (g, .inr (0, [.int (nI bw), .int (nI bh), .long 0, .ref kd, .ref rw, .ref ms])), (kd, .inl (kI, 64, .inl (fun _ => 0))), (ms, .inl (kZ, 8, .inl (fun _ => 0)))]) ⟨hx, hb, hml, hown, hts⟩ hK hN hP [0, 1, 2, 3] rfl (k_X8_mayBeSetOn l D kI kZ kJ xo g sc tr tl wk pr pi se pn tp kd rw ms bw bh hbw hbh tm tb ts tq wf wq pnw tpw pp pq num hnum) gX8_barrel_X8_mayBeSetOn rfl rfl rfl (by decide +kernel) ⟨(Nat.le_of_ble_eq_true rfl), (Nat.le_of_ble_eq_true rfl)⟩ 0 8 rfl rfl rfl rfl hl.1 rfl (Nat.le_of_ble_eq_true rfl) dX8_barrel_24 ⟨(Nat.le_of_ble_eq_true rfl), (Nat.le_of_ble_eq_true rfl)⟩).run (fun r hw => ?_)
      obtain rfl := hw
      refine lv_if_ne (tgt := 33) hx hb dX8_barrel_27 (by decide) (fun h9 => absurd h9 (by decide : ¬ (¬ (0 : Int32) = (0 : Int32)))) (fun _ => ?_)
      refine lv_bipush (v := (-2)) hx hb dX8_barrel_30 (by decide) ?_
      have hP9 := hP.sub (ws' := []) [] rfl
      have hD9 := hD.sub (ws' := []) [] (by decide) rfl
      exact W.iret (v := (-2)) hx hb hr (fun t ht hW => ⟨⟨_, (), rfl, (by first | exact q_ift ⟨hin, rfl⟩ | exact q_iff (fun h => by obtain ⟨h1, h2⟩ := h; contradiction)), ⟨by rw [ht]; exact hP9, hD9⟩⟩, hS.F ht⟩) hS.2.2 dX8_barrel_32
  · skip
    refine lv_istore (lv' := [(4, .int (-1)), (0, .ref xo), (1, .int x), (2, .int y), (3, .int v)]) hx hb dX8_barrel_9 hl (by decide) rfl (fun ls hl => ?_)
    refine lv_iload hx hb dX8_barrel_11 (lv_at hl 0 rfl) ?_
    refine lv_iconst (v := (-1)) hx hb dX8_barrel_13 (by decide) ?_
    refine lv_icmp_eq (tgt := 30) hx hb dX8_barrel_14 (by decide) (fun _ => ?_) (fun h9 => absurd (by decide : ((-1) : Int32) = ((-1) : Int32)) h9)
    refine lv_bipush (v := (-2)) hx hb dX8_barrel_30 (by decide) ?_
    have hP9 := hP.sub (ws' := []) [] rfl
    have hD9 := hD.sub (ws' := []) [] (by decide) rfl
    exact W.iret (v := (-2)) hx hb hr (fun t ht hW => ⟨⟨_, (), rfl, (by first | exact q_ift ⟨hin, rfl⟩ | exact q_iff (fun h => by obtain ⟨h1, h2⟩ := h; contradiction)), ⟨by rw [ht]; exact hP9, hD9⟩⟩, hS.F ht⟩) hS.2.2 dX8_barrel_32
set_option maxHeartbeats 4000000 in
set_option maxRecDepth 100000 in
theorem k_X8_man (l : Launch) (D : va_G) (kI kZ kJ : ClassId)  (xo g sc tr tl wk pr pi se pn tp kd rw ms : Nat) (bw bh : Nat) (hbw : bw ≤ 8) (hbh : bh ≤ 8) (tm tb ts tq wf wq pnw tpw pp pq : Nat) (x y : Int32) : Met l yX8_man wsX8_man ({ frames := 2, cells := 0, slots := 0, locals := 43 }) (qR D kI kZ kJ [(xo, .inr (8, [.ref g, .ref sc, .ref tr, .ref tl, .ref wk, .ref pr, .ref pi, .ref se, .ref pn, .ref tp, .int (-1)])), (g, .inr (0, [.int (nI bw), .int (nI bh), .long 0, .ref kd, .ref rw, .ref ms])), (kd, .inl (kI, 64, .inl (fun _ => 0))), (ms, .inl (kZ, 8, .inl (fun _ => 0)))] [.ref xo, .int x, .int y]) (vp_Si (fun r : Int32 => r = -2)) 0 0 (fun _ => False) := by
  refine Met.ofW (cc := cX8_man) (maxL := 5) (ret := (some .int)) (by decide) rfl ?_
  intro p e s m args below meth c s₁ B hml hv
  obtain ⟨rfl, hP, hK, hN⟩ := hv
  have hx := B.exec
  have hb := B.bytes
  have hr := B.returns
  have hts := atoms_spec (ws := wsX8_man) B.pre
  have hown : s.vm.findClass RX8 = some m.cls := findClass_of_methodNamed B.named
  have hlocks := B.notSynchronized
  have hP : va_P D vwCl [(xo, .inr (8, [.ref g, .ref sc, .ref tr, .ref tl, .ref wk, .ref pr, .ref pi, .ref se, .ref pn, .ref tp, .int (-1)])), (g, .inr (0, [.int (nI bw), .int (nI bh), .long 0, .ref kd, .ref rw, .ref ms])), (kd, .inl (kI, 64, .inl (fun _ => 0))), (ms, .inl (kZ, 8, .inl (fun _ => 0)))] s.heap := hP
  have hl := lv_entry ([.ref xo, .int x, .int y]) (n := 5) (Nat.le_of_ble_eq_true rfl)
  rw [lg_entry_eq]
  generalize (lg_sl ([.ref xo, .int x, .int y]) ++ List.replicate (5 - (lg_sl ([.ref xo, .int x, .int y])).length) Slot.unset).toArray = ls at hl ⊢
  have hl : lv_has ls 5 [(0, .ref xo), (1, .int x), (2, .int y)] := hl
  refine lv_aload_n hx hb dX8_man_0 rfl (lv_at hl 0 rfl) ?_
  refine va_get (D := D) (ci := 8) (v := .ref g) (C := RX8) (T := TX8) (N := 11) hx hb hts (by decide +kernel) hown hK hP 0 rfl rfl 0 (by decide) (hts (.fieldLink RX8 12 "CellarPushers" "ground" "LCellarPushers$Ground;") (by decide +kernel)) (fun _ h9 => h9) rfl dX8_man_1 ?_
  refine lv_iload_n hx hb dX8_man_4 rfl (lv_at hl 1 rfl) ?_
  refine lv_iload_n hx hb dX8_man_5 rfl (lv_at hl 2 rfl) ?_
  refine vp_callSi (qV_R (n := 2) (As := [.int x, .int y]) (rest := []) (wc := [(g, .inr (0, [.int (nI bw), .int (nI bh), .long 0, .ref kd, .ref rw, .ref ms]))]) ⟨hx, hb, hml, hown, hts⟩ hK hN hP [1] rfl (k_X0_numberOf l D kI kZ kJ g kd rw ms bw bh hbw hbh x y) gX8_man_X0_numberOf rfl rfl rfl (by decide +kernel) ⟨(Nat.le_of_ble_eq_true rfl), (Nat.le_of_ble_eq_true rfl)⟩ 1 0 rfl rfl rfl rfl hl.1 rfl (Nat.le_of_ble_eq_true rfl) dX8_man_6 ⟨(Nat.le_of_ble_eq_true rfl), (Nat.le_of_ble_eq_true rfl)⟩).run (fun r hw => ?_)
  rcases hw with ⟨hin, num, hnum, rfl⟩ | ⟨hin, rfl⟩
  · skip
    refine lv_istore_n (lv' := [(3, .int (nI num)), (0, .ref xo), (1, .int x), (2, .int y)]) hx hb dX8_man_9 rfl hl (by decide) rfl (fun ls hl => ?_)
    refine lv_iload_n hx hb dX8_man_10 rfl (lv_at hl 0 rfl) ?_
    refine lv_iconst (v := (-1)) hx hb dX8_man_11 (by decide) ?_
    refine lv_icmp_eq (tgt := 37) hx hb dX8_man_12 (by decide) (fun h9 => absurd h9 (by have hq := hnum; exact fun h => q_ne1 (c := (-1)) (by decide) (by omega) h)) (fun _ => ?_)
    refine lv_aload_n hx hb dX8_man_15 rfl (lv_at hl 1 rfl) ?_
    refine va_get (D := D) (ci := 8) (v := .ref g) (C := RX8) (T := TX8) (N := 11) hx hb hts (by decide +kernel) hown hK hP 0 rfl rfl 0 (by decide) (hts (.fieldLink RX8 12 "CellarPushers" "ground" "LCellarPushers$Ground;") (by decide +kernel)) (fun _ h9 => h9) rfl dX8_man_16 ?_
    refine lv_iload_n hx hb dX8_man_19 rfl (lv_at hl 0 rfl) ?_
    refine vp_callSi (qV_R (n := 1) (As := [.int (nI num)]) (rest := []) (wc := [(g, .inr (0, [.int (nI bw), .int (nI bh), .long 0, .ref kd, .ref rw, .ref ms])), (kd, .inl (kI, 64, .inl (fun _ => 0))), (ms, .inl (kZ, 8, .inl (fun _ => 0)))]) ⟨hx, hb, hml, hown, hts⟩ hK hN hP [1, 2, 3] rfl (k_X0_isForMan l D kI kZ kJ g kd rw ms bw bh hbw hbh num hnum) gX8_man_X0_isForMan rfl rfl rfl (by decide +kernel) ⟨(Nat.le_of_ble_eq_true rfl), (Nat.le_of_ble_eq_true rfl)⟩ 1 0 rfl rfl rfl rfl hl.1 rfl (Nat.le_of_ble_eq_true rfl) dX8_man_20 ⟨(Nat.le_of_ble_eq_true rfl), (Nat.le_of_ble_eq_true rfl)⟩).run (fun r hw => ?_)
    obtain rfl := hw
    refine lv_if_eq (tgt := 37) hx hb dX8_man_23 (by decide) (fun _ => ?_) (fun h9 => absurd (by decide : (0 : Int32) = (0 : Int32)) h9)
    refine lv_bipush (v := (-2)) hx hb dX8_man_37 (by decide) ?_
    exact W.iret (v := (-2)) hx hb hr (fun t ht hW => ⟨_, rfl, rfl, ht⟩) (fun q hq => by cases hq) dX8_man_39
  · skip
    refine lv_istore_n (lv' := [(3, .int (-1)), (0, .ref xo), (1, .int x), (2, .int y)]) hx hb dX8_man_9 rfl hl (by decide) rfl (fun ls hl => ?_)
    refine lv_iload_n hx hb dX8_man_10 rfl (lv_at hl 0 rfl) ?_
    refine lv_iconst (v := (-1)) hx hb dX8_man_11 (by decide) ?_
    refine lv_icmp_eq (tgt := 37) hx hb dX8_man_12 (by decide) (fun _ => ?_) (fun h9 => absurd (by decide : ((-1) : Int32) = ((-1) : Int32)) h9)
    refine lv_bipush (v := (-2)) hx hb dX8_man_37 (by decide) ?_
    exact W.iret (v := (-2)) hx hb hr (fun t ht hW => ⟨_, rfl, rfl, ht⟩) (fun q hq => by cases hq) dX8_man_39
set_option maxHeartbeats 4000000 in
set_option maxRecDepth 100000 in
theorem k_X8_want (l : Launch) (D : va_G) (kI kZ kJ : ClassId)  (xo g sc tr tl wk pr pi se pn tp kd rw ms : Nat) (bw bh : Nat) (hbw : bw ≤ 8) (hbh : bh ≤ 8) (tm tb ts tq wf wq pnw tpw pp pq : Nat) (x y v : Int32) : Met l yX8_want wsX8_want ({ frames := 1, cells := 0, slots := 0, locals := 23 }) (qR D kI kZ kJ [(xo, .inr (8, [.ref g, .ref sc, .ref tr, .ref tl, .ref wk, .ref pr, .ref pi, .ref se, .ref pn, .ref tp, .int (-1)])), (g, .inr (0, [.int (nI bw), .int (nI bh), .long 0, .ref kd, .ref rw, .ref ms])), (kd, .inl (kI, 64, .inl (fun _ => 0))), (ms, .inl (kZ, 8, .inl (fun _ => 0)))] [.ref xo, .int x, .int y, .int v]) (vp_Si (fun r : Int32 => r = -2)) 0 0 (fun _ => False) := by
  refine Met.ofW (cc := cX8_want) (maxL := 7) (ret := (some .int)) (by decide) rfl ?_
  intro p e s m args below meth c s₁ B hml hv
  obtain ⟨rfl, hP, hK, hN⟩ := hv
  have hx := B.exec
  have hb := B.bytes
  have hr := B.returns
  have hts := atoms_spec (ws := wsX8_want) B.pre
  have hown : s.vm.findClass RX8 = some m.cls := findClass_of_methodNamed B.named
  have hlocks := B.notSynchronized
  have hP : va_P D vwCl [(xo, .inr (8, [.ref g, .ref sc, .ref tr, .ref tl, .ref wk, .ref pr, .ref pi, .ref se, .ref pn, .ref tp, .int (-1)])), (g, .inr (0, [.int (nI bw), .int (nI bh), .long 0, .ref kd, .ref rw, .ref ms])), (kd, .inl (kI, 64, .inl (fun _ => 0))), (ms, .inl (kZ, 8, .inl (fun _ => 0)))] s.heap := hP
  have hl := lv_entry ([.ref xo, .int x, .int y, .int v]) (n := 7) (Nat.le_of_ble_eq_true rfl)
  rw [lg_entry_eq]
  generalize (lg_sl ([.ref xo, .int x, .int y, .int v]) ++ List.replicate (7 - (lg_sl ([.ref xo, .int x, .int y, .int v])).length) Slot.unset).toArray = ls at hl ⊢
  have hl : lv_has ls 7 [(0, .ref xo), (1, .int x), (2, .int y), (3, .int v)] := hl
  refine lv_aload_n hx hb dX8_want_0 rfl (lv_at hl 0 rfl) ?_
  refine va_get (D := D) (ci := 8) (v := .ref g) (C := RX8) (T := TX8) (N := 11) hx hb hts (by decide +kernel) hown hK hP 0 rfl rfl 0 (by decide) (hts (.fieldLink RX8 12 "CellarPushers" "ground" "LCellarPushers$Ground;") (by decide +kernel)) (fun _ h9 => h9) rfl dX8_want_1 ?_
  refine lv_iload_n hx hb dX8_want_4 rfl (lv_at hl 1 rfl) ?_
  refine lv_iload_n hx hb dX8_want_5 rfl (lv_at hl 2 rfl) ?_
  refine vp_callSi (qV_R (n := 2) (As := [.int x, .int y]) (rest := []) (wc := [(g, .inr (0, [.int (nI bw), .int (nI bh), .long 0, .ref kd, .ref rw, .ref ms]))]) ⟨hx, hb, hml, hown, hts⟩ hK hN hP [1] rfl (k_X0_numberOf l D kI kZ kJ g kd rw ms bw bh hbw hbh x y) gX8_want_X0_numberOf rfl rfl rfl (by decide +kernel) ⟨(Nat.le_of_ble_eq_true rfl), (Nat.le_of_ble_eq_true rfl)⟩ 1 0 rfl rfl rfl rfl hl.1 rfl (Nat.le_of_ble_eq_true rfl) dX8_want_6 ⟨(Nat.le_of_ble_eq_true rfl), (Nat.le_of_ble_eq_true rfl)⟩).run (fun r hw => ?_)
  rcases hw with ⟨hin, num, hnum, rfl⟩ | ⟨hin, rfl⟩
  · skip
    refine lv_istore (lv' := [(4, .int (nI num)), (0, .ref xo), (1, .int x), (2, .int y), (3, .int v)]) hx hb dX8_want_9 hl (by decide) rfl (fun ls hl => ?_)
    refine lv_aload_n hx hb dX8_want_11 rfl (lv_at hl 1 rfl) ?_
    refine va_get (D := D) (ci := 8) (v := .ref g) (C := RX8) (T := TX8) (N := 11) hx hb hts (by decide +kernel) hown hK hP 0 rfl rfl 0 (by decide) (hts (.fieldLink RX8 12 "CellarPushers" "ground" "LCellarPushers$Ground;") (by decide +kernel)) (fun _ h9 => h9) rfl dX8_want_12 ?_
    refine lv_iload hx hb dX8_want_15 (lv_at hl 0 rfl) ?_
    refine vp_callSi (qV_R (n := 1) (As := [.int (nI num)]) (rest := []) (wc := [(g, .inr (0, [.int (nI bw), .int (nI bh), .long 0, .ref kd, .ref rw, .ref ms])), (kd, .inl (kI, 64, .inl (fun _ => 0))), (ms, .inl (kZ, 8, .inl (fun _ => 0)))]) ⟨hx, hb, hml, hown, hts⟩ hK hN hP [1, 2, 3] rfl (k_X0_kindNow_n l D kI kZ kJ g kd rw ms bw bh hbw hbh num hnum) gX8_want_X0_kindNow rfl rfl rfl (by decide +kernel) ⟨(Nat.le_of_ble_eq_true rfl), (Nat.le_of_ble_eq_true rfl)⟩ 1 0 rfl rfl rfl rfl hl.1 rfl (Nat.le_of_ble_eq_true rfl) dX8_want_17 ⟨(Nat.le_of_ble_eq_true rfl), (Nat.le_of_ble_eq_true rfl)⟩).run (fun r hw => ?_)
    obtain rfl := hw
    refine lv_istore (lv' := [(5, .int 0), (4, .int (nI num)), (0, .ref xo), (1, .int x), (2, .int y), (3, .int v)]) hx hb dX8_want_20 hl (by decide) rfl (fun ls hl => ?_)
    refine lv_iload hx hb dX8_want_22 (lv_at hl 0 rfl) ?_
    refine lv_iconst (v := 2) hx hb dX8_want_24 (by decide) ?_
    refine lv_icmp_eq (tgt := 37) hx hb dX8_want_25 (by decide) (fun h9 => absurd h9 (by decide : ¬ ((0 : Int32) = (2 : Int32)))) (fun _ => ?_)
    refine lv_iload hx hb dX8_want_28 (lv_at hl 0 rfl) ?_
    refine lv_iconst (v := 5) hx hb dX8_want_30 (by decide) ?_
    refine lv_icmp_eq (tgt := 37) hx hb dX8_want_31 (by decide) (fun h9 => absurd h9 (by decide : ¬ ((0 : Int32) = (5 : Int32)))) (fun _ => ?_)
    refine lv_bipush (v := (-2)) hx hb dX8_want_34 (by decide) ?_
    exact W.iret (v := (-2)) hx hb hr (fun t ht hW => ⟨_, rfl, rfl, ht⟩) (fun q hq => by cases hq) dX8_want_36
  · skip
    refine lv_istore (lv' := [(4, .int (-1)), (0, .ref xo), (1, .int x), (2, .int y), (3, .int v)]) hx hb dX8_want_9 hl (by decide) rfl (fun ls hl => ?_)
    refine lv_aload_n hx hb dX8_want_11 rfl (lv_at hl 1 rfl) ?_
    refine va_get (D := D) (ci := 8) (v := .ref g) (C := RX8) (T := TX8) (N := 11) hx hb hts (by decide +kernel) hown hK hP 0 rfl rfl 0 (by decide) (hts (.fieldLink RX8 12 "CellarPushers" "ground" "LCellarPushers$Ground;") (by decide +kernel)) (fun _ h9 => h9) rfl dX8_want_12 ?_
    refine lv_iload hx hb dX8_want_15 (lv_at hl 0 rfl) ?_
    refine vp_callSi (qV_R (n := 1) (As := [.int (-1)]) (rest := []) (wc := [(g, .inr (0, [.int (nI bw), .int (nI bh), .long 0, .ref kd, .ref rw, .ref ms])), (kd, .inl (kI, 64, .inl (fun _ => 0))), (ms, .inl (kZ, 8, .inl (fun _ => 0)))]) ⟨hx, hb, hml, hown, hts⟩ hK hN hP [1, 2, 3] rfl (k_X0_kindNow_m l D kI kZ kJ g kd rw ms bw bh hbw hbh) gX8_want_X0_kindNow rfl rfl rfl (by decide +kernel) ⟨(Nat.le_of_ble_eq_true rfl), (Nat.le_of_ble_eq_true rfl)⟩ 1 0 rfl rfl rfl rfl hl.1 rfl (Nat.le_of_ble_eq_true rfl) dX8_want_17 ⟨(Nat.le_of_ble_eq_true rfl), (Nat.le_of_ble_eq_true rfl)⟩).run (fun r hw => ?_)
    obtain rfl := hw
    refine lv_istore (lv' := [(5, .int 0), (4, .int (-1)), (0, .ref xo), (1, .int x), (2, .int y), (3, .int v)]) hx hb dX8_want_20 hl (by decide) rfl (fun ls hl => ?_)
    refine lv_iload hx hb dX8_want_22 (lv_at hl 0 rfl) ?_
    refine lv_iconst (v := 2) hx hb dX8_want_24 (by decide) ?_
    refine lv_icmp_eq (tgt := 37) hx hb dX8_want_25 (by decide) (fun h9 => absurd h9 (by decide : ¬ ((0 : Int32) = (2 : Int32)))) (fun _ => ?_)
    refine lv_iload hx hb dX8_want_28 (lv_at hl 0 rfl) ?_
    refine lv_iconst (v := 5) hx hb dX8_want_30 (by decide) ?_
    refine lv_icmp_eq (tgt := 37) hx hb dX8_want_31 (by decide) (fun h9 => absurd h9 (by decide : ¬ ((0 : Int32) = (5 : Int32)))) (fun _ => ?_)
    refine lv_bipush (v := (-2)) hx hb dX8_want_34 (by decide) ?_
    exact W.iret (v := (-2)) hx hb hr (fun t ht hW => ⟨_, rfl, rfl, ht⟩) (fun q hq => by cases hq) dX8_want_36
set_option maxHeartbeats 4000000 in
set_option maxRecDepth 100000 in
theorem k_X8_step (l : Launch) (D : va_G) (kI kZ kJ : ClassId)  (xo g sc tr tl wk pr pi se pn tp kd rw ms : Nat) (bw bh : Nat) (hbw : bw ≤ 8) (hbh : bh ≤ 8) (tm tb ts tq wf wq pnw tpw pp pq : Nat) (v : Int32) (sz : Nat) : Met l yX8_step wsX8_step ({ frames := 2, cells := 0, slots := 0, locals := 45 }) (qW D kI kZ kJ [(xo, .inr (8, [.ref g, .ref sc, .ref tr, .ref tl, .ref wk, .ref pr, .ref pi, .ref se, .ref pn, .ref tp, .int (-1)])), (g, .inr (0, [.int (nI bw), .int (nI bh), .long 0, .ref kd, .ref rw, .ref ms])), (sc, .inr (3, [.int (-1), .long 0, .int 0, .int 0])), (tr, .inr (3, [.int (-1), .long 0, .int 0, .int 0]))] sz [.ref xo, .int v]) (va_Qi (fun (r : Int32) (u : Unit) => r = -2) (qB D (fun u : Unit => []) (va_A [(xo, .inr (8, [.ref g, .ref sc, .ref tr, .ref tl, .ref wk, .ref pr, .ref pi, .ref se, .ref pn, .ref tp, .int (-1)])), (g, .inr (0, [.int (nI bw), .int (nI bh), .long 0, .ref kd, .ref rw, .ref ms])), (sc, .inr (3, [.int (-1), .long 0, .int 0, .int 0])), (tr, .inr (3, [.int (-1), .long 0, .int 0, .int 0]))] sz)) (va_A [(xo, .inr (8, [.ref g, .ref sc, .ref tr, .ref tl, .ref wk, .ref pr, .ref pi, .ref se, .ref pn, .ref tp, .int (-1)])), (g, .inr (0, [.int (nI bw), .int (nI bh), .long 0, .ref kd, .ref rw, .ref ms])), (sc, .inr (3, [.int (-1), .long 0, .int 0, .int 0])), (tr, .inr (3, [.int (-1), .long 0, .int 0, .int 0]))] sz)) 0 0 (va_A [(xo, .inr (8, [.ref g, .ref sc, .ref tr, .ref tl, .ref wk, .ref pr, .ref pi, .ref se, .ref pn, .ref tp, .int (-1)])), (g, .inr (0, [.int (nI bw), .int (nI bh), .long 0, .ref kd, .ref rw, .ref ms])), (sc, .inr (3, [.int (-1), .long 0, .int 0, .int 0])), (tr, .inr (3, [.int (-1), .long 0, .int 0, .int 0]))] sz) := by
  refine Met.ofW (cc := cX8_step) (maxL := 2) (ret := (some .int)) (by decide) rfl ?_
  intro p e s m args below meth c s₁ B hml hv
  obtain ⟨rfl, hsz, hP, hK, hD0, hN⟩ := hv
  have hx := B.exec
  have hb := B.bytes
  have hr := B.returns
  have hts := atoms_spec (ws := wsX8_step) B.pre
  have hown : s.vm.findClass RX8 = some m.cls := findClass_of_methodNamed B.named
  have hlocks := B.notSynchronized
  subst hsz
  have hD := hD0.self (sz := s.heap.size)
  generalize hAe : va_A [(xo, .inr (8, [.ref g, .ref sc, .ref tr, .ref tl, .ref wk, .ref pr, .ref pi, .ref se, .ref pn, .ref tp, .int (-1)])), (g, .inr (0, [.int (nI bw), .int (nI bh), .long 0, .ref kd, .ref rw, .ref ms])), (sc, .inr (3, [.int (-1), .long 0, .int 0, .int 0])), (tr, .inr (3, [.int (-1), .long 0, .int 0, .int 0]))] s.heap.size = A at hD ⊢
  have hA : ∀ q : Nat, s.heap.size ≤ q → A q := fun q h => by rw [← hAe]; exact Or.inr h
  have hS : va_S A s.heap s.heap [] := va_S.rf
  have hP : va_P D vwCl [(xo, .inr (8, [.ref g, .ref sc, .ref tr, .ref tl, .ref wk, .ref pr, .ref pi, .ref se, .ref pn, .ref tp, .int (-1)])), (g, .inr (0, [.int (nI bw), .int (nI bh), .long 0, .ref kd, .ref rw, .ref ms])), (sc, .inr (3, [.int (-1), .long 0, .int 0, .int 0])), (tr, .inr (3, [.int (-1), .long 0, .int 0, .int 0]))] s.heap := hP
  have hl := lv_entry ([.ref xo, .int v]) (n := 2) (Nat.le_of_ble_eq_true rfl)
  rw [lg_entry_eq]
  generalize (lg_sl ([.ref xo, .int v]) ++ List.replicate (2 - (lg_sl ([.ref xo, .int v])).length) Slot.unset).toArray = ls at hl ⊢
  have hl : lv_has ls 2 [(0, .ref xo), (1, .int v)] := hl
  refine lv_aload_n hx hb dX8_step_0 rfl (lv_at hl 0 rfl) ?_
  refine va_get (D := D) (ci := 8) (v := .ref tr) (C := RX8) (T := TX8) (N := 11) hx hb hts (by decide +kernel) hown hK hP 0 rfl rfl 2 (by decide) (hts (.fieldLink RX8 25 "CellarPushers" "trial" "LCellarPushers$Scene;") (by decide +kernel)) (fun _ h9 => h9) rfl dX8_step_1 ?_
  refine lv_aload_n hx hb dX8_step_4 rfl (lv_at hl 0 rfl) ?_
  refine va_get (D := D) (ci := 8) (v := .ref sc) (C := RX8) (T := TX8) (N := 11) hx hb hts (by decide +kernel) hown hK hP 0 rfl rfl 1 (by decide) (hts (.fieldLink RX8 21 "CellarPushers" "scene" "LCellarPushers$Scene;") (by decide +kernel)) (fun _ h9 => h9) rfl dX8_step_5 ?_
  refine qc_v (wr := [(xo, .inr (8, [.ref g, .ref sc, .ref tr, .ref tl, .ref wk, .ref pr, .ref pi, .ref se, .ref pn, .ref tp, .int (-1)])), (g, .inr (0, [.int (nI bw), .int (nI bh), .long 0, .ref kd, .ref rw, .ref ms]))]) (qV_W (n := 1) (As := [.ref sc]) (rest := []) (wc := [(tr, .inr (3, [.int (-1), .long 0, .int 0, .int 0])), (sc, .inr (3, [.int (-1), .long 0, .int 0, .int 0]))]) ⟨hx, hb, hml, hown, hts⟩ hK hN hP hD [3, 2] rfl rfl (by decide) (k_X3_become l D kI kZ kJ tr sc s.heap.size) gX8_step_X3_become rfl rfl rfl (by decide +kernel) ⟨(Nat.le_of_ble_eq_true rfl), (Nat.le_of_ble_eq_true rfl)⟩ 3 3 rfl rfl rfl rfl hl.1 rfl (Nat.le_of_ble_eq_true rfl) dX8_step_8 ⟨(Nat.le_of_ble_eq_true rfl), (Nat.le_of_ble_eq_true rfl)⟩) hP hD hS hA [3, 2] [0, 1] rfl rfl (by decide) (by decide) (fun u H locs hw hP hD hS => ?_)
  have hP : va_P D vwCl [(xo, .inr (8, [.ref g, .ref sc, .ref tr, .ref tl, .ref wk, .ref pr, .ref pi, .ref se, .ref pn, .ref tp, .int (-1)])), (g, .inr (0, [.int (nI bw), .int (nI bh), .long 0, .ref kd, .ref rw, .ref ms])), (tr, .inr (3, [.int (-1), .long 0, .int 0, .int 0])), (sc, .inr (3, [.int (-1), .long 0, .int 0, .int 0]))] H := hP
  have hD : va_D A [(xo, .inr (8, [.ref g, .ref sc, .ref tr, .ref tl, .ref wk, .ref pr, .ref pi, .ref se, .ref pn, .ref tp, .int (-1)])), (g, .inr (0, [.int (nI bw), .int (nI bh), .long 0, .ref kd, .ref rw, .ref ms])), (tr, .inr (3, [.int (-1), .long 0, .int 0, .int 0])), (sc, .inr (3, [.int (-1), .long 0, .int 0, .int 0]))] := hD
  refine lv_aload_n hx hb dX8_step_11 rfl (lv_at hl 0 rfl) ?_
  refine lv_aload_n hx hb dX8_step_12 rfl (lv_at hl 0 rfl) ?_
  refine va_get (D := D) (ci := 8) (v := .ref tr) (C := RX8) (T := TX8) (N := 11) hx hb hts (by decide +kernel) hown hK hP 0 rfl rfl 2 (by decide) (hts (.fieldLink RX8 25 "CellarPushers" "trial" "LCellarPushers$Scene;") (by decide +kernel)) (fun _ h9 => h9) rfl dX8_step_13 ?_
  refine lv_aload_n hx hb dX8_step_16 rfl (lv_at hl 0 rfl) ?_
  refine va_get (D := D) (ci := 8) (v := .ref g) (C := RX8) (T := TX8) (N := 11) hx hb hts (by decide +kernel) hown hK hP 0 rfl rfl 0 (by decide) (hts (.fieldLink RX8 12 "CellarPushers" "ground" "LCellarPushers$Ground;") (by decide +kernel)) (fun _ h9 => h9) rfl dX8_step_17 ?_
  refine lv_iload_n hx hb dX8_step_20 rfl (lv_at hl 1 rfl) ?_
  refine vp_callSi (qV_R (n := 2) (As := [.ref g, .int v]) (rest := [.ref xo]) (wc := [(tr, .inr (3, [.int (-1), .long 0, .int 0, .int 0]))]) ⟨hx, hb, hml, hown, hts⟩ hK hN hP [2] rfl (k_X3_advance l D kI kZ kJ tr g v) gX8_step_X3_advance rfl rfl rfl (by decide +kernel) ⟨(Nat.le_of_ble_eq_true rfl), (Nat.le_of_ble_eq_true rfl)⟩ 2 3 rfl rfl rfl rfl hl.1 rfl (Nat.le_of_ble_eq_true rfl) dX8_step_21 ⟨(Nat.le_of_ble_eq_true rfl), (Nat.le_of_ble_eq_true rfl)⟩).run (fun r hw => ?_)
  obtain rfl := hw
  refine vp_callSi (qV_R (n := 1) (As := [.int (-2)]) (rest := []) (wc := [(xo, .inr (8, [.ref g, .ref sc, .ref tr, .ref tl, .ref wk, .ref pr, .ref pi, .ref se, .ref pn, .ref tp, .int (-1)]))]) ⟨hx, hb, hml, hown, hts⟩ hK hN hP [0] rfl (k_X8_act l D kI kZ kJ xo g sc tr tl wk pr pi se pn tp kd rw ms bw bh hbw hbh tm tb ts tq wf wq pnw tpw pp pq) gX8_step_X8_act rfl rfl rfl (by decide +kernel) ⟨(Nat.le_of_ble_eq_true rfl), (Nat.le_of_ble_eq_true rfl)⟩ 0 8 rfl rfl rfl rfl hl.1 rfl (Nat.le_of_ble_eq_true rfl) dX8_step_24 ⟨(Nat.le_of_ble_eq_true rfl), (Nat.le_of_ble_eq_true rfl)⟩).run (fun r hw => ?_)
  obtain rfl := hw
  have hP9 := hP.sub (ws' := []) [] rfl
  have hD9 := hD.sub (ws' := []) [] (by decide) rfl
  exact W.iret (v := (-2)) hx hb hr (fun t ht hW => ⟨⟨_, (), rfl, rfl, ⟨by rw [ht]; exact hP9, hD9⟩⟩, hS.F ht⟩) hS.2.2 dX8_step_27
set_option maxHeartbeats 4000000 in
set_option maxRecDepth 100000 in
theorem k_X8_walk (l : Launch) (D : va_G) (kI kZ kJ : ClassId)  (xo g sc tr tl wk pr pi se pn tp kd rw ms : Nat) (bw bh : Nat) (hbw : bw ≤ 8) (hbh : bh ≤ 8) (tm tb ts tq wf wq pnw tpw pp pq : Nat) (x y : Int32) : Met l yX8_walk wsX8_walk ({ frames := 1, cells := 0, slots := 0, locals := 23 }) (qR D kI kZ kJ [(xo, .inr (8, [.ref g, .ref sc, .ref tr, .ref tl, .ref wk, .ref pr, .ref pi, .ref se, .ref pn, .ref tp, .int (-1)])), (g, .inr (0, [.int (nI bw), .int (nI bh), .long 0, .ref kd, .ref rw, .ref ms])), (sc, .inr (3, [.int (-1), .long 0, .int 0, .int 0]))] [.ref xo, .int x, .int y]) (vp_Si (fun r : Int32 => r = -2)) 0 0 (fun _ => False) := by
  refine Met.ofW (cc := cX8_walk) (maxL := 4) (ret := (some .int)) (by decide) rfl ?_
  intro p e s m args below meth c s₁ B hml hv
  obtain ⟨rfl, hP, hK, hN⟩ := hv
  have hx := B.exec
  have hb := B.bytes
  have hr := B.returns
  have hts := atoms_spec (ws := wsX8_walk) B.pre
  have hown : s.vm.findClass RX8 = some m.cls := findClass_of_methodNamed B.named
  have hlocks := B.notSynchronized
  have hP : va_P D vwCl [(xo, .inr (8, [.ref g, .ref sc, .ref tr, .ref tl, .ref wk, .ref pr, .ref pi, .ref se, .ref pn, .ref tp, .int (-1)])), (g, .inr (0, [.int (nI bw), .int (nI bh), .long 0, .ref kd, .ref rw, .ref ms])), (sc, .inr (3, [.int (-1), .long 0, .int 0, .int 0]))] s.heap := hP
  have hl := lv_entry ([.ref xo, .int x, .int y]) (n := 4) (Nat.le_of_ble_eq_true rfl)
  rw [lg_entry_eq]
  generalize (lg_sl ([.ref xo, .int x, .int y]) ++ List.replicate (4 - (lg_sl ([.ref xo, .int x, .int y])).length) Slot.unset).toArray = ls at hl ⊢
  have hl : lv_has ls 4 [(0, .ref xo), (1, .int x), (2, .int y)] := hl
  refine lv_aload_n hx hb dX8_walk_0 rfl (lv_at hl 0 rfl) ?_
  refine va_get (D := D) (ci := 8) (v := .ref g) (C := RX8) (T := TX8) (N := 11) hx hb hts (by decide +kernel) hown hK hP 0 rfl rfl 0 (by decide) (hts (.fieldLink RX8 12 "CellarPushers" "ground" "LCellarPushers$Ground;") (by decide +kernel)) (fun _ h9 => h9) rfl dX8_walk_1 ?_
  refine lv_iload_n hx hb dX8_walk_4 rfl (lv_at hl 1 rfl) ?_
  refine lv_iload_n hx hb dX8_walk_5 rfl (lv_at hl 2 rfl) ?_
  refine vp_callSi (qV_R (n := 2) (As := [.int x, .int y]) (rest := []) (wc := [(g, .inr (0, [.int (nI bw), .int (nI bh), .long 0, .ref kd, .ref rw, .ref ms]))]) ⟨hx, hb, hml, hown, hts⟩ hK hN hP [1] rfl (k_X0_numberOf l D kI kZ kJ g kd rw ms bw bh hbw hbh x y) gX8_walk_X0_numberOf rfl rfl rfl (by decide +kernel) ⟨(Nat.le_of_ble_eq_true rfl), (Nat.le_of_ble_eq_true rfl)⟩ 1 0 rfl rfl rfl rfl hl.1 rfl (Nat.le_of_ble_eq_true rfl) dX8_walk_6 ⟨(Nat.le_of_ble_eq_true rfl), (Nat.le_of_ble_eq_true rfl)⟩).run (fun r hw => ?_)
  rcases hw with ⟨hin, num, hnum, rfl⟩ | ⟨hin, rfl⟩
  · skip
    refine lv_istore_n (lv' := [(3, .int (nI num)), (0, .ref xo), (1, .int x), (2, .int y)]) hx hb dX8_walk_9 rfl hl (by decide) rfl (fun ls hl => ?_)
    refine lv_aload_n hx hb dX8_walk_10 rfl (lv_at hl 1 rfl) ?_
    refine va_get (D := D) (ci := 8) (v := .ref sc) (C := RX8) (T := TX8) (N := 11) hx hb hts (by decide +kernel) hown hK hP 0 rfl rfl 1 (by decide) (hts (.fieldLink RX8 21 "CellarPushers" "scene" "LCellarPushers$Scene;") (by decide +kernel)) (fun _ h9 => h9) rfl dX8_walk_11 ?_
    refine vp_callSi (qV_R (n := 0) (As := []) (rest := []) (wc := [(sc, .inr (3, [.int (-1), .long 0, .int 0, .int 0]))]) ⟨hx, hb, hml, hown, hts⟩ hK hN hP [2] rfl (k_X3_hasMan l D kI kZ kJ sc) gX8_walk_X3_hasMan rfl rfl rfl (by decide +kernel) ⟨(Nat.le_of_ble_eq_true rfl), (Nat.le_of_ble_eq_true rfl)⟩ 2 3 rfl rfl rfl rfl hl.1 rfl (Nat.le_of_ble_eq_true rfl) dX8_walk_14 ⟨(Nat.le_of_ble_eq_true rfl), (Nat.le_of_ble_eq_true rfl)⟩).run (fun r hw => ?_)
    obtain rfl := hw
    refine lv_if_eq (tgt := 25) hx hb dX8_walk_17 (by decide) (fun _ => ?_) (fun h9 => absurd (by decide : (0 : Int32) = (0 : Int32)) h9)
    refine lv_bipush (v := (-2)) hx hb dX8_walk_25 (by decide) ?_
    exact W.iret (v := (-2)) hx hb hr (fun t ht hW => ⟨_, rfl, rfl, ht⟩) (fun q hq => by cases hq) dX8_walk_27
  · skip
    refine lv_istore_n (lv' := [(3, .int (-1)), (0, .ref xo), (1, .int x), (2, .int y)]) hx hb dX8_walk_9 rfl hl (by decide) rfl (fun ls hl => ?_)
    refine lv_aload_n hx hb dX8_walk_10 rfl (lv_at hl 1 rfl) ?_
    refine va_get (D := D) (ci := 8) (v := .ref sc) (C := RX8) (T := TX8) (N := 11) hx hb hts (by decide +kernel) hown hK hP 0 rfl rfl 1 (by decide) (hts (.fieldLink RX8 21 "CellarPushers" "scene" "LCellarPushers$Scene;") (by decide +kernel)) (fun _ h9 => h9) rfl dX8_walk_11 ?_
    refine vp_callSi (qV_R (n := 0) (As := []) (rest := []) (wc := [(sc, .inr (3, [.int (-1), .long 0, .int 0, .int 0]))]) ⟨hx, hb, hml, hown, hts⟩ hK hN hP [2] rfl (k_X3_hasMan l D kI kZ kJ sc) gX8_walk_X3_hasMan rfl rfl rfl (by decide +kernel) ⟨(Nat.le_of_ble_eq_true rfl), (Nat.le_of_ble_eq_true rfl)⟩ 2 3 rfl rfl rfl rfl hl.1 rfl (Nat.le_of_ble_eq_true rfl) dX8_walk_14 ⟨(Nat.le_of_ble_eq_true rfl), (Nat.le_of_ble_eq_true rfl)⟩).run (fun r hw => ?_)
    obtain rfl := hw
    refine lv_if_eq (tgt := 25) hx hb dX8_walk_17 (by decide) (fun _ => ?_) (fun h9 => absurd (by decide : (0 : Int32) = (0 : Int32)) h9)
    refine lv_bipush (v := (-2)) hx hb dX8_walk_25 (by decide) ?_
    exact W.iret (v := (-2)) hx hb hr (fun t ht hW => ⟨_, rfl, rfl, ht⟩) (fun q hq => by cases hq) dX8_walk_27
set_option maxHeartbeats 4000000 in
set_option maxRecDepth 100000 in
theorem k_X8_push (l : Launch) (D : va_G) (kI kZ kJ : ClassId)  (xo g sc tr tl wk pr pi se pn tp kd rw ms : Nat) (bw bh : Nat) (hbw : bw ≤ 8) (hbh : bh ≤ 8) (tm tb ts tq wf wq pnw tpw pp pq : Nat) (x y v : Int32) : Met l yX8_push wsX8_push ({ frames := 2, cells := 0, slots := 0, locals := 47 }) (qR D kI kZ kJ [(xo, .inr (8, [.ref g, .ref sc, .ref tr, .ref tl, .ref wk, .ref pr, .ref pi, .ref se, .ref pn, .ref tp, .int (-1)])), (g, .inr (0, [.int (nI bw), .int (nI bh), .long 0, .ref kd, .ref rw, .ref ms])), (sc, .inr (3, [.int (-1), .long 0, .int 0, .int 0]))] [.ref xo, .int x, .int y, .int v]) (vp_Si (fun r : Int32 => r = -2)) 0 0 (fun _ => False) := by
  refine Met.ofW (cc := cX8_push) (maxL := 4) (ret := (some .int)) (by decide) rfl ?_
  intro p e s m args below meth c s₁ B hml hv
  obtain ⟨rfl, hP, hK, hN⟩ := hv
  have hx := B.exec
  have hb := B.bytes
  have hr := B.returns
  have hts := atoms_spec (ws := wsX8_push) B.pre
  have hown : s.vm.findClass RX8 = some m.cls := findClass_of_methodNamed B.named
  have hlocks := B.notSynchronized
  have hP : va_P D vwCl [(xo, .inr (8, [.ref g, .ref sc, .ref tr, .ref tl, .ref wk, .ref pr, .ref pi, .ref se, .ref pn, .ref tp, .int (-1)])), (g, .inr (0, [.int (nI bw), .int (nI bh), .long 0, .ref kd, .ref rw, .ref ms])), (sc, .inr (3, [.int (-1), .long 0, .int 0, .int 0]))] s.heap := hP
  have hl := lv_entry ([.ref xo, .int x, .int y, .int v]) (n := 4) (Nat.le_of_ble_eq_true rfl)
  rw [lg_entry_eq]
  generalize (lg_sl ([.ref xo, .int x, .int y, .int v]) ++ List.replicate (4 - (lg_sl ([.ref xo, .int x, .int y, .int v])).length) Slot.unset).toArray = ls at hl ⊢
  have hl : lv_has ls 4 [(0, .ref xo), (1, .int x), (2, .int y), (3, .int v)] := hl
  refine lv_aload_n hx hb dX8_push_0 rfl (lv_at hl 0 rfl) ?_
  refine lv_aload_n hx hb dX8_push_1 rfl (lv_at hl 0 rfl) ?_
  refine lv_iload_n hx hb dX8_push_2 rfl (lv_at hl 1 rfl) ?_
  refine lv_iload_n hx hb dX8_push_3 rfl (lv_at hl 2 rfl) ?_
  refine lv_iload_n hx hb dX8_push_4 rfl (lv_at hl 3 rfl) ?_
  refine vp_callSi (qV_R (n := 3) (As := [.int x, .int y, .int v]) (rest := [.ref xo]) (wc := [(xo, .inr (8, [.ref g, .ref sc, .ref tr, .ref tl, .ref wk, .ref pr, .ref pi, .ref se, .ref pn, .ref tp, .int (-1)])), (g, .inr (0, [.int (nI bw), .int (nI bh), .long 0, .ref kd, .ref rw, .ref ms])), (sc, .inr (3, [.int (-1), .long 0, .int 0, .int 0]))]) ⟨hx, hb, hml, hown, hts⟩ hK hN hP [0, 1, 2] rfl (k_X8_tryPush l D kI kZ kJ xo g sc tr tl wk pr pi se pn tp kd rw ms bw bh hbw hbh tm tb ts tq wf wq pnw tpw pp pq x y v) gX8_push_X8_tryPush rfl rfl rfl (by decide +kernel) ⟨(Nat.le_of_ble_eq_true rfl), (Nat.le_of_ble_eq_true rfl)⟩ 0 8 rfl rfl rfl rfl hl.1 rfl (Nat.le_of_ble_eq_true rfl) dX8_push_5 ⟨(Nat.le_of_ble_eq_true rfl), (Nat.le_of_ble_eq_true rfl)⟩).run (fun r hw => ?_)
  obtain rfl := hw
  refine vp_callSi (qV_R (n := 1) (As := [.int (-2)]) (rest := []) (wc := [(xo, .inr (8, [.ref g, .ref sc, .ref tr, .ref tl, .ref wk, .ref pr, .ref pi, .ref se, .ref pn, .ref tp, .int (-1)]))]) ⟨hx, hb, hml, hown, hts⟩ hK hN hP [0] rfl (k_X8_act l D kI kZ kJ xo g sc tr tl wk pr pi se pn tp kd rw ms bw bh hbw hbh tm tb ts tq wf wq pnw tpw pp pq) gX8_push_X8_act rfl rfl rfl (by decide +kernel) ⟨(Nat.le_of_ble_eq_true rfl), (Nat.le_of_ble_eq_true rfl)⟩ 0 8 rfl rfl rfl rfl hl.1 rfl (Nat.le_of_ble_eq_true rfl) dX8_push_8 ⟨(Nat.le_of_ble_eq_true rfl), (Nat.le_of_ble_eq_true rfl)⟩).run (fun r hw => ?_)
  obtain rfl := hw
  exact W.iret (v := (-2)) hx hb hr (fun t ht hW => ⟨_, rfl, rfl, ht⟩) (fun q hq => by cases hq) dX8_push_11
set_option maxHeartbeats 4000000 in
set_option maxRecDepth 100000 in
theorem k_X8_can (l : Launch) (D : va_G) (kI kZ kJ : ClassId)  (xo g sc tr tl wk pr pi se pn tp kd rw ms : Nat) (bw bh : Nat) (hbw : bw ≤ 8) (hbh : bh ≤ 8) (tm tb ts tq wf wq pnw tpw pp pq : Nat) (x y v : Int32) : Met l yX8_can wsX8_can ({ frames := 2, cells := 0, slots := 0, locals := 47 }) (qR D kI kZ kJ [(xo, .inr (8, [.ref g, .ref sc, .ref tr, .ref tl, .ref wk, .ref pr, .ref pi, .ref se, .ref pn, .ref tp, .int (-1)])), (g, .inr (0, [.int (nI bw), .int (nI bh), .long 0, .ref kd, .ref rw, .ref ms])), (sc, .inr (3, [.int (-1), .long 0, .int 0, .int 0]))] [.ref xo, .int x, .int y, .int v]) (vp_Si (fun r : Int32 => r = -2)) 0 0 (fun _ => False) := by
  refine Met.ofW (cc := cX8_can) (maxL := 4) (ret := (some .int)) (by decide) rfl ?_
  intro p e s m args below meth c s₁ B hml hv
  obtain ⟨rfl, hP, hK, hN⟩ := hv
  have hx := B.exec
  have hb := B.bytes
  have hr := B.returns
  have hts := atoms_spec (ws := wsX8_can) B.pre
  have hown : s.vm.findClass RX8 = some m.cls := findClass_of_methodNamed B.named
  have hlocks := B.notSynchronized
  have hP : va_P D vwCl [(xo, .inr (8, [.ref g, .ref sc, .ref tr, .ref tl, .ref wk, .ref pr, .ref pi, .ref se, .ref pn, .ref tp, .int (-1)])), (g, .inr (0, [.int (nI bw), .int (nI bh), .long 0, .ref kd, .ref rw, .ref ms])), (sc, .inr (3, [.int (-1), .long 0, .int 0, .int 0]))] s.heap := hP
  have hl := lv_entry ([.ref xo, .int x, .int y, .int v]) (n := 4) (Nat.le_of_ble_eq_true rfl)
  rw [lg_entry_eq]
  generalize (lg_sl ([.ref xo, .int x, .int y, .int v]) ++ List.replicate (4 - (lg_sl ([.ref xo, .int x, .int y, .int v])).length) Slot.unset).toArray = ls at hl ⊢
  have hl : lv_has ls 4 [(0, .ref xo), (1, .int x), (2, .int y), (3, .int v)] := hl
  refine lv_aload_n hx hb dX8_can_0 rfl (lv_at hl 0 rfl) ?_
  refine lv_iload_n hx hb dX8_can_1 rfl (lv_at hl 1 rfl) ?_
  refine lv_iload_n hx hb dX8_can_2 rfl (lv_at hl 2 rfl) ?_
  refine lv_iload_n hx hb dX8_can_3 rfl (lv_at hl 3 rfl) ?_
  refine vp_callSi (qV_R (n := 3) (As := [.int x, .int y, .int v]) (rest := []) (wc := [(xo, .inr (8, [.ref g, .ref sc, .ref tr, .ref tl, .ref wk, .ref pr, .ref pi, .ref se, .ref pn, .ref tp, .int (-1)])), (g, .inr (0, [.int (nI bw), .int (nI bh), .long 0, .ref kd, .ref rw, .ref ms])), (sc, .inr (3, [.int (-1), .long 0, .int 0, .int 0]))]) ⟨hx, hb, hml, hown, hts⟩ hK hN hP [0, 1, 2] rfl (k_X8_tryPush l D kI kZ kJ xo g sc tr tl wk pr pi se pn tp kd rw ms bw bh hbw hbh tm tb ts tq wf wq pnw tpw pp pq x y v) gX8_can_X8_tryPush rfl rfl rfl (by decide +kernel) ⟨(Nat.le_of_ble_eq_true rfl), (Nat.le_of_ble_eq_true rfl)⟩ 0 8 rfl rfl rfl rfl hl.1 rfl (Nat.le_of_ble_eq_true rfl) dX8_can_4 ⟨(Nat.le_of_ble_eq_true rfl), (Nat.le_of_ble_eq_true rfl)⟩).run (fun r hw => ?_)
  obtain rfl := hw
  exact W.iret (v := (-2)) hx hb hr (fun t ht hW => ⟨_, rfl, rfl, ht⟩) (fun q hq => by cases hq) dX8_can_7
set_option maxHeartbeats 4000000 in
set_option maxRecDepth 100000 in
theorem k_X8_undo (l : Launch) (D : va_G) (kI kZ kJ : ClassId)  (xo g sc tr tl wk pr pi se pn tp kd rw ms : Nat) (bw bh : Nat) (hbw : bw ≤ 8) (hbh : bh ≤ 8) (tm tb ts tq wf wq pnw tpw pp pq : Nat) : Met l yX8_undo wsX8_undo ({ frames := 1, cells := 0, slots := 0, locals := 21 }) (qR D kI kZ kJ [(xo, .inr (8, [.ref g, .ref sc, .ref tr, .ref tl, .ref wk, .ref pr, .ref pi, .ref se, .ref pn, .ref tp, .int (-1)])), (tl, .inr (5, [.int 0, .int 0, .ref tm, .ref tb, .ref ts, .ref tq])), (sc, .inr (3, [.int (-1), .long 0, .int 0, .int 0]))] [.ref xo]) (vp_Si (fun r : Int32 => r = -2)) 0 0 (fun _ => False) := by
  refine Met.ofW (cc := cX8_undo) (maxL := 1) (ret := (some .int)) (by decide) rfl ?_
  intro p e s m args below meth c s₁ B hml hv
  obtain ⟨rfl, hP, hK, hN⟩ := hv
  have hx := B.exec
  have hb := B.bytes
  have hr := B.returns
  have hts := atoms_spec (ws := wsX8_undo) B.pre
  have hown : s.vm.findClass RX8 = some m.cls := findClass_of_methodNamed B.named
  have hlocks := B.notSynchronized
  have hP : va_P D vwCl [(xo, .inr (8, [.ref g, .ref sc, .ref tr, .ref tl, .ref wk, .ref pr, .ref pi, .ref se, .ref pn, .ref tp, .int (-1)])), (tl, .inr (5, [.int 0, .int 0, .ref tm, .ref tb, .ref ts, .ref tq])), (sc, .inr (3, [.int (-1), .long 0, .int 0, .int 0]))] s.heap := hP
  have hl := lv_entry ([.ref xo]) (n := 1) (Nat.le_of_ble_eq_true rfl)
  rw [lg_entry_eq]
  generalize (lg_sl ([.ref xo]) ++ List.replicate (1 - (lg_sl ([.ref xo])).length) Slot.unset).toArray = ls at hl ⊢
  have hl : lv_has ls 1 [(0, .ref xo)] := hl
  refine lv_aload_n hx hb dX8_undo_0 rfl (lv_at hl 0 rfl) ?_
  refine va_get (D := D) (ci := 8) (v := .ref tl) (C := RX8) (T := TX8) (N := 11) hx hb hts (by decide +kernel) hown hK hP 0 rfl rfl 3 (by decide) (hts (.fieldLink RX8 31 "CellarPushers" "timeline" "LCellarPushers$Timeline;") (by decide +kernel)) (fun _ h9 => h9) rfl dX8_undo_1 ?_
  refine lv_aload_n hx hb dX8_undo_4 rfl (lv_at hl 0 rfl) ?_
  refine va_get (D := D) (ci := 8) (v := .ref sc) (C := RX8) (T := TX8) (N := 11) hx hb hts (by decide +kernel) hown hK hP 0 rfl rfl 1 (by decide) (hts (.fieldLink RX8 21 "CellarPushers" "scene" "LCellarPushers$Scene;") (by decide +kernel)) (fun _ h9 => h9) rfl dX8_undo_5 ?_
  refine vp_callSi (qV_R (n := 1) (As := [.ref sc]) (rest := []) (wc := [(tl, .inr (5, [.int 0, .int 0, .ref tm, .ref tb, .ref ts, .ref tq]))]) ⟨hx, hb, hml, hown, hts⟩ hK hN hP [1] rfl (k_X5_goBack l D kI kZ kJ tl tm tb ts tq sc) gX8_undo_X5_goBack rfl rfl rfl (by decide +kernel) ⟨(Nat.le_of_ble_eq_true rfl), (Nat.le_of_ble_eq_true rfl)⟩ 1 5 rfl rfl rfl rfl hl.1 rfl (Nat.le_of_ble_eq_true rfl) dX8_undo_8 ⟨(Nat.le_of_ble_eq_true rfl), (Nat.le_of_ble_eq_true rfl)⟩).run (fun r hw => ?_)
  obtain rfl := hw
  exact W.iret (v := (-2)) hx hb hr (fun t ht hW => ⟨_, rfl, rfl, ht⟩) (fun q hq => by cases hq) dX8_undo_11
set_option maxHeartbeats 4000000 in
set_option maxRecDepth 100000 in
theorem k_X8_redo (l : Launch) (D : va_G) (kI kZ kJ : ClassId)  (xo g sc tr tl wk pr pi se pn tp kd rw ms : Nat) (bw bh : Nat) (hbw : bw ≤ 8) (hbh : bh ≤ 8) (tm tb ts tq wf wq pnw tpw pp pq : Nat) : Met l yX8_redo wsX8_redo ({ frames := 1, cells := 0, slots := 0, locals := 21 }) (qR D kI kZ kJ [(xo, .inr (8, [.ref g, .ref sc, .ref tr, .ref tl, .ref wk, .ref pr, .ref pi, .ref se, .ref pn, .ref tp, .int (-1)])), (tl, .inr (5, [.int 0, .int 0, .ref tm, .ref tb, .ref ts, .ref tq])), (sc, .inr (3, [.int (-1), .long 0, .int 0, .int 0]))] [.ref xo]) (vp_Si (fun r : Int32 => r = -2)) 0 0 (fun _ => False) := by
  refine Met.ofW (cc := cX8_redo) (maxL := 1) (ret := (some .int)) (by decide) rfl ?_
  intro p e s m args below meth c s₁ B hml hv
  obtain ⟨rfl, hP, hK, hN⟩ := hv
  have hx := B.exec
  have hb := B.bytes
  have hr := B.returns
  have hts := atoms_spec (ws := wsX8_redo) B.pre
  have hown : s.vm.findClass RX8 = some m.cls := findClass_of_methodNamed B.named
  have hlocks := B.notSynchronized
  have hP : va_P D vwCl [(xo, .inr (8, [.ref g, .ref sc, .ref tr, .ref tl, .ref wk, .ref pr, .ref pi, .ref se, .ref pn, .ref tp, .int (-1)])), (tl, .inr (5, [.int 0, .int 0, .ref tm, .ref tb, .ref ts, .ref tq])), (sc, .inr (3, [.int (-1), .long 0, .int 0, .int 0]))] s.heap := hP
  have hl := lv_entry ([.ref xo]) (n := 1) (Nat.le_of_ble_eq_true rfl)
  rw [lg_entry_eq]
  generalize (lg_sl ([.ref xo]) ++ List.replicate (1 - (lg_sl ([.ref xo])).length) Slot.unset).toArray = ls at hl ⊢
  have hl : lv_has ls 1 [(0, .ref xo)] := hl
  refine lv_aload_n hx hb dX8_redo_0 rfl (lv_at hl 0 rfl) ?_
  refine va_get (D := D) (ci := 8) (v := .ref tl) (C := RX8) (T := TX8) (N := 11) hx hb hts (by decide +kernel) hown hK hP 0 rfl rfl 3 (by decide) (hts (.fieldLink RX8 31 "CellarPushers" "timeline" "LCellarPushers$Timeline;") (by decide +kernel)) (fun _ h9 => h9) rfl dX8_redo_1 ?_
  refine lv_aload_n hx hb dX8_redo_4 rfl (lv_at hl 0 rfl) ?_
  refine va_get (D := D) (ci := 8) (v := .ref sc) (C := RX8) (T := TX8) (N := 11) hx hb hts (by decide +kernel) hown hK hP 0 rfl rfl 1 (by decide) (hts (.fieldLink RX8 21 "CellarPushers" "scene" "LCellarPushers$Scene;") (by decide +kernel)) (fun _ h9 => h9) rfl dX8_redo_5 ?_
  refine vp_callSi (qV_R (n := 1) (As := [.ref sc]) (rest := []) (wc := [(tl, .inr (5, [.int 0, .int 0, .ref tm, .ref tb, .ref ts, .ref tq]))]) ⟨hx, hb, hml, hown, hts⟩ hK hN hP [1] rfl (k_X5_goForth l D kI kZ kJ tl tm tb ts tq sc) gX8_redo_X5_goForth rfl rfl rfl (by decide +kernel) ⟨(Nat.le_of_ble_eq_true rfl), (Nat.le_of_ble_eq_true rfl)⟩ 1 5 rfl rfl rfl rfl hl.1 rfl (Nat.le_of_ble_eq_true rfl) dX8_redo_8 ⟨(Nat.le_of_ble_eq_true rfl), (Nat.le_of_ble_eq_true rfl)⟩).run (fun r hw => ?_)
  obtain rfl := hw
  exact W.iret (v := (-2)) hx hb hr (fun t ht hW => ⟨_, rfl, rfl, ht⟩) (fun q hq => by cases hq) dX8_redo_11
set_option maxHeartbeats 4000000 in
set_option maxRecDepth 100000 in
theorem k_X8_kind (l : Launch) (D : va_G) (kI kZ kJ : ClassId)  (xo g sc tr tl wk pr pi se pn tp kd rw ms : Nat) (bw bh : Nat) (hbw : bw ≤ 8) (hbh : bh ≤ 8) (tm tb ts tq wf wq pnw tpw pp pq : Nat) (x y : Int32) : Met l yX8_kind wsX8_kind ({ frames := 1, cells := 0, slots := 0, locals := 23 }) (qR D kI kZ kJ [(xo, .inr (8, [.ref g, .ref sc, .ref tr, .ref tl, .ref wk, .ref pr, .ref pi, .ref se, .ref pn, .ref tp, .int (-1)])), (g, .inr (0, [.int (nI bw), .int (nI bh), .long 0, .ref kd, .ref rw, .ref ms])), (kd, .inl (kI, 64, .inl (fun _ => 0))), (ms, .inl (kZ, 8, .inl (fun _ => 0)))] [.ref xo, .int x, .int y]) (vp_Si (fun r : Int32 => q_if (q_in bw bh x y) 0 (-2) r)) 0 0 (fun _ => False) := by
  refine Met.ofW (cc := cX8_kind) (maxL := 4) (ret := (some .int)) (by decide) rfl ?_
  intro p e s m args below meth c s₁ B hml hv
  obtain ⟨rfl, hP, hK, hN⟩ := hv
  have hx := B.exec
  have hb := B.bytes
  have hr := B.returns
  have hts := atoms_spec (ws := wsX8_kind) B.pre
  have hown : s.vm.findClass RX8 = some m.cls := findClass_of_methodNamed B.named
  have hlocks := B.notSynchronized
  have hP : va_P D vwCl [(xo, .inr (8, [.ref g, .ref sc, .ref tr, .ref tl, .ref wk, .ref pr, .ref pi, .ref se, .ref pn, .ref tp, .int (-1)])), (g, .inr (0, [.int (nI bw), .int (nI bh), .long 0, .ref kd, .ref rw, .ref ms])), (kd, .inl (kI, 64, .inl (fun _ => 0))), (ms, .inl (kZ, 8, .inl (fun _ => 0)))] s.heap := hP
  have hl := lv_entry ([.ref xo, .int x, .int y]) (n := 4) (Nat.le_of_ble_eq_true rfl)
  rw [lg_entry_eq]
  generalize (lg_sl ([.ref xo, .int x, .int y]) ++ List.replicate (4 - (lg_sl ([.ref xo, .int x, .int y])).length) Slot.unset).toArray = ls at hl ⊢
  have hl : lv_has ls 4 [(0, .ref xo), (1, .int x), (2, .int y)] := hl
  refine lv_aload_n hx hb dX8_kind_0 rfl (lv_at hl 0 rfl) ?_
  refine va_get (D := D) (ci := 8) (v := .ref g) (C := RX8) (T := TX8) (N := 11) hx hb hts (by decide +kernel) hown hK hP 0 rfl rfl 0 (by decide) (hts (.fieldLink RX8 12 "CellarPushers" "ground" "LCellarPushers$Ground;") (by decide +kernel)) (fun _ h9 => h9) rfl dX8_kind_1 ?_
  refine lv_iload_n hx hb dX8_kind_4 rfl (lv_at hl 1 rfl) ?_
  refine lv_iload_n hx hb dX8_kind_5 rfl (lv_at hl 2 rfl) ?_
  refine vp_callSi (qV_R (n := 2) (As := [.int x, .int y]) (rest := []) (wc := [(g, .inr (0, [.int (nI bw), .int (nI bh), .long 0, .ref kd, .ref rw, .ref ms]))]) ⟨hx, hb, hml, hown, hts⟩ hK hN hP [1] rfl (k_X0_numberOf l D kI kZ kJ g kd rw ms bw bh hbw hbh x y) gX8_kind_X0_numberOf rfl rfl rfl (by decide +kernel) ⟨(Nat.le_of_ble_eq_true rfl), (Nat.le_of_ble_eq_true rfl)⟩ 1 0 rfl rfl rfl rfl hl.1 rfl (Nat.le_of_ble_eq_true rfl) dX8_kind_6 ⟨(Nat.le_of_ble_eq_true rfl), (Nat.le_of_ble_eq_true rfl)⟩).run (fun r hw => ?_)
  rcases hw with ⟨hin, num, hnum, rfl⟩ | ⟨hin, rfl⟩
  · skip
    refine lv_istore_n (lv' := [(3, .int (nI num)), (0, .ref xo), (1, .int x), (2, .int y)]) hx hb dX8_kind_9 rfl hl (by decide) rfl (fun ls hl => ?_)
    refine lv_iload_n hx hb dX8_kind_10 rfl (lv_at hl 0 rfl) ?_
    refine lv_iconst (v := (-1)) hx hb dX8_kind_11 (by decide) ?_
    refine lv_icmp_ne (tgt := 20) hx hb dX8_kind_12 (by decide) (fun _ => ?_) (fun h9 => absurd h9 (by have hq := hnum; exact fun h => q_ne1 (c := (-1)) (by decide) (by omega) h))
    refine lv_aload_n hx hb dX8_kind_20 rfl (lv_at hl 1 rfl) ?_
    refine va_get (D := D) (ci := 8) (v := .ref g) (C := RX8) (T := TX8) (N := 11) hx hb hts (by decide +kernel) hown hK hP 0 rfl rfl 0 (by decide) (hts (.fieldLink RX8 12 "CellarPushers" "ground" "LCellarPushers$Ground;") (by decide +kernel)) (fun _ h9 => h9) rfl dX8_kind_21 ?_
    refine lv_iload_n hx hb dX8_kind_24 rfl (lv_at hl 0 rfl) ?_
    refine vp_callSi (qV_R (n := 1) (As := [.int (nI num)]) (rest := []) (wc := [(g, .inr (0, [.int (nI bw), .int (nI bh), .long 0, .ref kd, .ref rw, .ref ms])), (kd, .inl (kI, 64, .inl (fun _ => 0))), (ms, .inl (kZ, 8, .inl (fun _ => 0)))]) ⟨hx, hb, hml, hown, hts⟩ hK hN hP [1, 2, 3] rfl (k_X0_kindNow_n l D kI kZ kJ g kd rw ms bw bh hbw hbh num hnum) gX8_kind_X0_kindNow rfl rfl rfl (by decide +kernel) ⟨(Nat.le_of_ble_eq_true rfl), (Nat.le_of_ble_eq_true rfl)⟩ 1 0 rfl rfl rfl rfl hl.1 rfl (Nat.le_of_ble_eq_true rfl) dX8_kind_25 ⟨(Nat.le_of_ble_eq_true rfl), (Nat.le_of_ble_eq_true rfl)⟩).run (fun r hw => ?_)
    obtain rfl := hw
    exact W.iret (v := 0) hx hb hr (fun t ht hW => ⟨_, rfl, (by first | exact q_ift hin | exact q_iff hin), ht⟩) (fun q hq => by cases hq) dX8_kind_28
  · skip
    refine lv_istore_n (lv' := [(3, .int (-1)), (0, .ref xo), (1, .int x), (2, .int y)]) hx hb dX8_kind_9 rfl hl (by decide) rfl (fun ls hl => ?_)
    refine lv_iload_n hx hb dX8_kind_10 rfl (lv_at hl 0 rfl) ?_
    refine lv_iconst (v := (-1)) hx hb dX8_kind_11 (by decide) ?_
    refine lv_icmp_ne (tgt := 20) hx hb dX8_kind_12 (by decide) (fun h9 => absurd h9 (by decide : ¬ (¬ ((-1) : Int32) = ((-1) : Int32)))) (fun _ => ?_)
    refine lv_bipush (v := (-2)) hx hb dX8_kind_15 (by decide) ?_
    refine lv_goto (tgt := 28) hx hb dX8_kind_17 (by decide) ?_
    exact W.iret (v := (-2)) hx hb hr (fun t ht hW => ⟨_, rfl, (by first | exact q_ift hin | exact q_iff hin), ht⟩) (fun q hq => by cases hq) dX8_kind_28
set_option maxHeartbeats 4000000 in
set_option maxRecDepth 100000 in
theorem k_X8_on (l : Launch) (D : va_G) (kI kZ kJ : ClassId)  (xo g sc tr tl wk pr pi se pn tp kd rw ms : Nat) (bw bh : Nat) (hbw : bw ≤ 8) (hbh : bh ≤ 8) (tm tb ts tq wf wq pnw tpw pp pq : Nat) (x y : Int32) : Met l yX8_on wsX8_on ({ frames := 3, cells := 0, slots := 0, locals := 63 }) (qR D kI kZ kJ [(xo, .inr (8, [.ref g, .ref sc, .ref tr, .ref tl, .ref wk, .ref pr, .ref pi, .ref se, .ref pn, .ref tp, .int (-1)])), (g, .inr (0, [.int (nI bw), .int (nI bh), .long 0, .ref kd, .ref rw, .ref ms])), (sc, .inr (3, [.int (-1), .long 0, .int 0, .int 0]))] [.ref xo, .int x, .int y]) (vp_Si (fun r : Int32 => q_if (q_in bw bh x y) 0 (-2) r)) 0 0 (fun _ => False) := by
  refine Met.ofW (cc := cX8_on) (maxL := 5) (ret := (some .int)) (by decide) rfl ?_
  intro p e s m args below meth c s₁ B hml hv
  obtain ⟨rfl, hP, hK, hN⟩ := hv
  have hx := B.exec
  have hb := B.bytes
  have hr := B.returns
  have hts := atoms_spec (ws := wsX8_on) B.pre
  have hown : s.vm.findClass RX8 = some m.cls := findClass_of_methodNamed B.named
  have hlocks := B.notSynchronized
  have hP : va_P D vwCl [(xo, .inr (8, [.ref g, .ref sc, .ref tr, .ref tl, .ref wk, .ref pr, .ref pi, .ref se, .ref pn, .ref tp, .int (-1)])), (g, .inr (0, [.int (nI bw), .int (nI bh), .long 0, .ref kd, .ref rw, .ref ms])), (sc, .inr (3, [.int (-1), .long 0, .int 0, .int 0]))] s.heap := hP
  have hl := lv_entry ([.ref xo, .int x, .int y]) (n := 5) (Nat.le_of_ble_eq_true rfl)
  rw [lg_entry_eq]
  generalize (lg_sl ([.ref xo, .int x, .int y]) ++ List.replicate (5 - (lg_sl ([.ref xo, .int x, .int y])).length) Slot.unset).toArray = ls at hl ⊢
  have hl : lv_has ls 5 [(0, .ref xo), (1, .int x), (2, .int y)] := hl
  refine lv_aload_n hx hb dX8_on_0 rfl (lv_at hl 0 rfl) ?_
  refine va_get (D := D) (ci := 8) (v := .ref g) (C := RX8) (T := TX8) (N := 11) hx hb hts (by decide +kernel) hown hK hP 0 rfl rfl 0 (by decide) (hts (.fieldLink RX8 12 "CellarPushers" "ground" "LCellarPushers$Ground;") (by decide +kernel)) (fun _ h9 => h9) rfl dX8_on_1 ?_
  refine lv_iload_n hx hb dX8_on_4 rfl (lv_at hl 1 rfl) ?_
  refine lv_iload_n hx hb dX8_on_5 rfl (lv_at hl 2 rfl) ?_
  refine vp_callSi (qV_R (n := 2) (As := [.int x, .int y]) (rest := []) (wc := [(g, .inr (0, [.int (nI bw), .int (nI bh), .long 0, .ref kd, .ref rw, .ref ms]))]) ⟨hx, hb, hml, hown, hts⟩ hK hN hP [1] rfl (k_X0_numberOf l D kI kZ kJ g kd rw ms bw bh hbw hbh x y) gX8_on_X0_numberOf rfl rfl rfl (by decide +kernel) ⟨(Nat.le_of_ble_eq_true rfl), (Nat.le_of_ble_eq_true rfl)⟩ 1 0 rfl rfl rfl rfl hl.1 rfl (Nat.le_of_ble_eq_true rfl) dX8_on_6 ⟨(Nat.le_of_ble_eq_true rfl), (Nat.le_of_ble_eq_true rfl)⟩).run (fun r hw => ?_)
  rcases hw with ⟨hin, num, hnum, rfl⟩ | ⟨hin, rfl⟩
  · skip
    refine lv_istore_n (lv' := [(3, .int (nI num)), (0, .ref xo), (1, .int x), (2, .int y)]) hx hb dX8_on_9 rfl hl (by decide) rfl (fun ls hl => ?_)
    refine lv_iload_n hx hb dX8_on_10 rfl (lv_at hl 0 rfl) ?_
    refine lv_iconst (v := (-1)) hx hb dX8_on_11 (by decide) ?_
    refine lv_icmp_ne (tgt := 18) hx hb dX8_on_12 (by decide) (fun _ => ?_) (fun h9 => absurd h9 (by have hq := hnum; exact fun h => q_ne1 (c := (-1)) (by decide) (by omega) h))
    refine lv_aload_n hx hb dX8_on_18 rfl (lv_at hl 1 rfl) ?_
    refine va_get (D := D) (ci := 8) (v := .ref sc) (C := RX8) (T := TX8) (N := 11) hx hb hts (by decide +kernel) hown hK hP 0 rfl rfl 1 (by decide) (hts (.fieldLink RX8 21 "CellarPushers" "scene" "LCellarPushers$Scene;") (by decide +kernel)) (fun _ h9 => h9) rfl dX8_on_19 ?_
    refine lv_iload_n hx hb dX8_on_22 rfl (lv_at hl 0 rfl) ?_
    refine vp_callSi (qV_R (n := 1) (As := [.int (nI num)]) (rest := []) (wc := [(sc, .inr (3, [.int (-1), .long 0, .int 0, .int 0]))]) ⟨hx, hb, hml, hown, hts⟩ hK hN hP [2] rfl (k_X3_hasBarrel l D kI kZ kJ sc num hnum) gX8_on_X3_hasBarrel rfl rfl rfl (by decide +kernel) ⟨(Nat.le_of_ble_eq_true rfl), (Nat.le_of_ble_eq_true rfl)⟩ 2 3 rfl rfl rfl rfl hl.1 rfl (Nat.le_of_ble_eq_true rfl) dX8_on_23 ⟨(Nat.le_of_ble_eq_true rfl), (Nat.le_of_ble_eq_true rfl)⟩).run (fun r hw => ?_)
    obtain rfl := hw
    refine lv_if_eq (tgt := 33) hx hb dX8_on_26 (by decide) (fun _ => ?_) (fun h9 => absurd (by decide : (0 : Int32) = (0 : Int32)) h9)
    refine lv_aload_n hx hb dX8_on_33 rfl (lv_at hl 1 rfl) ?_
    refine va_get (D := D) (ci := 8) (v := .ref sc) (C := RX8) (T := TX8) (N := 11) hx hb hts (by decide +kernel) hown hK hP 0 rfl rfl 1 (by decide) (hts (.fieldLink RX8 21 "CellarPushers" "scene" "LCellarPushers$Scene;") (by decide +kernel)) (fun _ h9 => h9) rfl dX8_on_34 ?_
    refine va_get (D := D) (ci := 3) (v := .int (-1)) (C := RX3) (T := TX3) (N := 4) hx hb hts (by decide +kernel) hown hK hP 2 rfl rfl 0 (by decide) (hts (.fieldLink RX8 126 "CellarPushers$Scene" "manAt" "I") (by decide +kernel)) (fun _ h9 => h9) rfl dX8_on_37 ?_
    refine lv_iload_n hx hb dX8_on_40 rfl (lv_at hl 0 rfl) ?_
    refine lv_icmp_ne (tgt := 48) hx hb dX8_on_41 (by decide) (fun _ => ?_) (fun h9 => absurd h9 (by have hq := hnum; exact fun h => q_ne1 (c := (-1)) (by decide) (by omega) h.symm))
    refine lv_iconst (v := 0) hx hb dX8_on_48 (by decide) ?_
    refine lv_istore (lv' := [(4, .int 0), (3, .int (nI num)), (0, .ref xo), (1, .int x), (2, .int y)]) hx hb dX8_on_49 hl (by decide) rfl (fun ls hl => ?_)
    refine lv_aload_n hx hb dX8_on_51 rfl (lv_at hl 2 rfl) ?_
    refine va_get (D := D) (ci := 8) (v := .ref g) (C := RX8) (T := TX8) (N := 11) hx hb hts (by decide +kernel) hown hK hP 0 rfl rfl 0 (by decide) (hts (.fieldLink RX8 12 "CellarPushers" "ground" "LCellarPushers$Ground;") (by decide +kernel)) (fun _ h9 => h9) rfl dX8_on_52 ?_
    refine va_get (D := D) (ci := 0) (v := .long 0) (C := RX0) (T := TX0) (N := 6) hx hb hts (by decide +kernel) hown hK hP 1 rfl rfl 2 (by decide) (hts (.fieldLink RX8 133 "CellarPushers$Ground" "wanted" "J") (by decide +kernel)) (fun _ h9 => h9) rfl dX8_on_55 ?_
    refine lv_iload_n hx hb dX8_on_58 rfl (lv_at hl 1 rfl) ?_
    refine vp_callSi (qS_R (n := 2) (As := [.long 0, .int (nI num)]) (rest := []) (wc := []) ⟨hx, hb, hml, hown, hts⟩ hK hN hP [] rfl (k_X8_has l D kI kZ kJ num hnum) gX8_on_X8_has rfl rfl rfl (by decide +kernel) ⟨(Nat.le_of_ble_eq_true rfl), (Nat.le_of_ble_eq_true rfl)⟩ rfl hl.1 rfl (Nat.le_of_ble_eq_true rfl) dX8_on_59 ⟨(Nat.le_of_ble_eq_true rfl), (Nat.le_of_ble_eq_true rfl)⟩).run (fun r hw => ?_)
    obtain rfl := hw
    refine lv_if_eq (tgt := 72) hx hb dX8_on_62 (by decide) (fun _ => ?_) (fun h9 => absurd (by decide : (0 : Int32) = (0 : Int32)) h9)
    refine lv_iload hx hb dX8_on_72 (lv_at hl 0 rfl) ?_
    exact W.iret (v := 0) hx hb hr (fun t ht hW => ⟨_, rfl, (by first | exact q_ift hin | exact q_iff hin), ht⟩) (fun q hq => by cases hq) dX8_on_74
  · skip
    refine lv_istore_n (lv' := [(3, .int (-1)), (0, .ref xo), (1, .int x), (2, .int y)]) hx hb dX8_on_9 rfl hl (by decide) rfl (fun ls hl => ?_)
    refine lv_iload_n hx hb dX8_on_10 rfl (lv_at hl 0 rfl) ?_
    refine lv_iconst (v := (-1)) hx hb dX8_on_11 (by decide) ?_
    refine lv_icmp_ne (tgt := 18) hx hb dX8_on_12 (by decide) (fun h9 => absurd h9 (by decide : ¬ (¬ ((-1) : Int32) = ((-1) : Int32)))) (fun _ => ?_)
    refine lv_bipush (v := (-2)) hx hb dX8_on_15 (by decide) ?_
    exact W.iret (v := (-2)) hx hb hr (fun t ht hW => ⟨_, rfl, (by first | exact q_ift hin | exact q_iff hin), ht⟩) (fun q hq => by cases hq) dX8_on_17
set_option maxHeartbeats 4000000 in
set_option maxRecDepth 100000 in
theorem k_X8_far (l : Launch) (D : va_G) (kI kZ kJ : ClassId)  (xo g sc tr tl wk pr pi se pn tp kd rw ms : Nat) (bw bh : Nat) (hbw : bw ≤ 8) (hbh : bh ≤ 8) (tm tb ts tq wf wq pnw tpw pp pq : Nat) (x y : Int32) : Met l yX8_far wsX8_far ({ frames := 1, cells := 0, slots := 0, locals := 23 }) (qR D kI kZ kJ [(xo, .inr (8, [.ref g, .ref sc, .ref tr, .ref tl, .ref wk, .ref pr, .ref pi, .ref se, .ref pn, .ref tp, .int (-1)])), (g, .inr (0, [.int (nI bw), .int (nI bh), .long 0, .ref kd, .ref rw, .ref ms])), (sc, .inr (3, [.int (-1), .long 0, .int 0, .int 0]))] [.ref xo, .int x, .int y]) (vp_Si (fun r : Int32 => r = -2)) 0 0 (fun _ => False) := by
  refine Met.ofW (cc := cX8_far) (maxL := 4) (ret := (some .int)) (by decide) rfl ?_
  intro p e s m args below meth c s₁ B hml hv
  obtain ⟨rfl, hP, hK, hN⟩ := hv
  have hx := B.exec
  have hb := B.bytes
  have hr := B.returns
  have hts := atoms_spec (ws := wsX8_far) B.pre
  have hown : s.vm.findClass RX8 = some m.cls := findClass_of_methodNamed B.named
  have hlocks := B.notSynchronized
  have hP : va_P D vwCl [(xo, .inr (8, [.ref g, .ref sc, .ref tr, .ref tl, .ref wk, .ref pr, .ref pi, .ref se, .ref pn, .ref tp, .int (-1)])), (g, .inr (0, [.int (nI bw), .int (nI bh), .long 0, .ref kd, .ref rw, .ref ms])), (sc, .inr (3, [.int (-1), .long 0, .int 0, .int 0]))] s.heap := hP
  have hl := lv_entry ([.ref xo, .int x, .int y]) (n := 4) (Nat.le_of_ble_eq_true rfl)
  rw [lg_entry_eq]
  generalize (lg_sl ([.ref xo, .int x, .int y]) ++ List.replicate (4 - (lg_sl ([.ref xo, .int x, .int y])).length) Slot.unset).toArray = ls at hl ⊢
  have hl : lv_has ls 4 [(0, .ref xo), (1, .int x), (2, .int y)] := hl
  refine lv_aload_n hx hb dX8_far_0 rfl (lv_at hl 0 rfl) ?_
  refine va_get (D := D) (ci := 8) (v := .ref g) (C := RX8) (T := TX8) (N := 11) hx hb hts (by decide +kernel) hown hK hP 0 rfl rfl 0 (by decide) (hts (.fieldLink RX8 12 "CellarPushers" "ground" "LCellarPushers$Ground;") (by decide +kernel)) (fun _ h9 => h9) rfl dX8_far_1 ?_
  refine lv_iload_n hx hb dX8_far_4 rfl (lv_at hl 1 rfl) ?_
  refine lv_iload_n hx hb dX8_far_5 rfl (lv_at hl 2 rfl) ?_
  refine vp_callSi (qV_R (n := 2) (As := [.int x, .int y]) (rest := []) (wc := [(g, .inr (0, [.int (nI bw), .int (nI bh), .long 0, .ref kd, .ref rw, .ref ms]))]) ⟨hx, hb, hml, hown, hts⟩ hK hN hP [1] rfl (k_X0_numberOf l D kI kZ kJ g kd rw ms bw bh hbw hbh x y) gX8_far_X0_numberOf rfl rfl rfl (by decide +kernel) ⟨(Nat.le_of_ble_eq_true rfl), (Nat.le_of_ble_eq_true rfl)⟩ 1 0 rfl rfl rfl rfl hl.1 rfl (Nat.le_of_ble_eq_true rfl) dX8_far_6 ⟨(Nat.le_of_ble_eq_true rfl), (Nat.le_of_ble_eq_true rfl)⟩).run (fun r hw => ?_)
  rcases hw with ⟨hin, num, hnum, rfl⟩ | ⟨hin, rfl⟩
  · skip
    refine lv_istore_n (lv' := [(3, .int (nI num)), (0, .ref xo), (1, .int x), (2, .int y)]) hx hb dX8_far_9 rfl hl (by decide) rfl (fun ls hl => ?_)
    refine lv_aload_n hx hb dX8_far_10 rfl (lv_at hl 1 rfl) ?_
    refine va_get (D := D) (ci := 8) (v := .ref sc) (C := RX8) (T := TX8) (N := 11) hx hb hts (by decide +kernel) hown hK hP 0 rfl rfl 1 (by decide) (hts (.fieldLink RX8 21 "CellarPushers" "scene" "LCellarPushers$Scene;") (by decide +kernel)) (fun _ h9 => h9) rfl dX8_far_11 ?_
    refine vp_callSi (qV_R (n := 0) (As := []) (rest := []) (wc := [(sc, .inr (3, [.int (-1), .long 0, .int 0, .int 0]))]) ⟨hx, hb, hml, hown, hts⟩ hK hN hP [2] rfl (k_X3_hasMan l D kI kZ kJ sc) gX8_far_X3_hasMan rfl rfl rfl (by decide +kernel) ⟨(Nat.le_of_ble_eq_true rfl), (Nat.le_of_ble_eq_true rfl)⟩ 2 3 rfl rfl rfl rfl hl.1 rfl (Nat.le_of_ble_eq_true rfl) dX8_far_14 ⟨(Nat.le_of_ble_eq_true rfl), (Nat.le_of_ble_eq_true rfl)⟩).run (fun r hw => ?_)
    obtain rfl := hw
    refine lv_if_eq (tgt := 25) hx hb dX8_far_17 (by decide) (fun _ => ?_) (fun h9 => absurd (by decide : (0 : Int32) = (0 : Int32)) h9)
    refine lv_bipush (v := (-2)) hx hb dX8_far_25 (by decide) ?_
    exact W.iret (v := (-2)) hx hb hr (fun t ht hW => ⟨_, rfl, rfl, ht⟩) (fun q hq => by cases hq) dX8_far_27
  · skip
    refine lv_istore_n (lv' := [(3, .int (-1)), (0, .ref xo), (1, .int x), (2, .int y)]) hx hb dX8_far_9 rfl hl (by decide) rfl (fun ls hl => ?_)
    refine lv_aload_n hx hb dX8_far_10 rfl (lv_at hl 1 rfl) ?_
    refine va_get (D := D) (ci := 8) (v := .ref sc) (C := RX8) (T := TX8) (N := 11) hx hb hts (by decide +kernel) hown hK hP 0 rfl rfl 1 (by decide) (hts (.fieldLink RX8 21 "CellarPushers" "scene" "LCellarPushers$Scene;") (by decide +kernel)) (fun _ h9 => h9) rfl dX8_far_11 ?_
    refine vp_callSi (qV_R (n := 0) (As := []) (rest := []) (wc := [(sc, .inr (3, [.int (-1), .long 0, .int 0, .int 0]))]) ⟨hx, hb, hml, hown, hts⟩ hK hN hP [2] rfl (k_X3_hasMan l D kI kZ kJ sc) gX8_far_X3_hasMan rfl rfl rfl (by decide +kernel) ⟨(Nat.le_of_ble_eq_true rfl), (Nat.le_of_ble_eq_true rfl)⟩ 2 3 rfl rfl rfl rfl hl.1 rfl (Nat.le_of_ble_eq_true rfl) dX8_far_14 ⟨(Nat.le_of_ble_eq_true rfl), (Nat.le_of_ble_eq_true rfl)⟩).run (fun r hw => ?_)
    obtain rfl := hw
    refine lv_if_eq (tgt := 25) hx hb dX8_far_17 (by decide) (fun _ => ?_) (fun h9 => absurd (by decide : (0 : Int32) = (0 : Int32)) h9)
    refine lv_bipush (v := (-2)) hx hb dX8_far_25 (by decide) ?_
    exact W.iret (v := (-2)) hx hb hr (fun t ht hW => ⟨_, rfl, rfl, ht⟩) (fun q hq => by cases hq) dX8_far_27
set_option maxHeartbeats 4000000 in
set_option maxRecDepth 100000 in
theorem k_X8_isDone (l : Launch) (D : va_G) (kI kZ kJ : ClassId)  (xo g sc tr tl wk pr pi se pn tp kd rw ms : Nat) (bw bh : Nat) (hbw : bw ≤ 8) (hbh : bh ≤ 8) (tm tb ts tq wf wq pnw tpw pp pq : Nat) : Met l yX8_isDone wsX8_isDone ({ frames := 1, cells := 0, slots := 0, locals := 21 }) (qR D kI kZ kJ [(xo, .inr (8, [.ref g, .ref sc, .ref tr, .ref tl, .ref wk, .ref pr, .ref pi, .ref se, .ref pn, .ref tp, .int (-1)])), (g, .inr (0, [.int (nI bw), .int (nI bh), .long 0, .ref kd, .ref rw, .ref ms])), (sc, .inr (3, [.int (-1), .long 0, .int 0, .int 0]))] [.ref xo]) (vp_Si (fun r : Int32 => r = 1)) 0 0 (fun _ => False) := by
  refine Met.ofW (cc := cX8_isDone) (maxL := 1) (ret := (some .boolean)) (by decide) rfl ?_
  intro p e s m args below meth c s₁ B hml hv
  obtain ⟨rfl, hP, hK, hN⟩ := hv
  have hx := B.exec
  have hb := B.bytes
  have hr := B.returns
  have hts := atoms_spec (ws := wsX8_isDone) B.pre
  have hown : s.vm.findClass RX8 = some m.cls := findClass_of_methodNamed B.named
  have hlocks := B.notSynchronized
  have hP : va_P D vwCl [(xo, .inr (8, [.ref g, .ref sc, .ref tr, .ref tl, .ref wk, .ref pr, .ref pi, .ref se, .ref pn, .ref tp, .int (-1)])), (g, .inr (0, [.int (nI bw), .int (nI bh), .long 0, .ref kd, .ref rw, .ref ms])), (sc, .inr (3, [.int (-1), .long 0, .int 0, .int 0]))] s.heap := hP
  have hl := lv_entry ([.ref xo]) (n := 1) (Nat.le_of_ble_eq_true rfl)
  rw [lg_entry_eq]
  generalize (lg_sl ([.ref xo]) ++ List.replicate (1 - (lg_sl ([.ref xo])).length) Slot.unset).toArray = ls at hl ⊢
  have hl : lv_has ls 1 [(0, .ref xo)] := hl
  refine lv_aload_n hx hb dX8_isDone_0 rfl (lv_at hl 0 rfl) ?_
  refine lv_aload_n hx hb dX8_isDone_1 rfl (lv_at hl 0 rfl) ?_
  refine va_get (D := D) (ci := 8) (v := .ref sc) (C := RX8) (T := TX8) (N := 11) hx hb hts (by decide +kernel) hown hK hP 0 rfl rfl 1 (by decide) (hts (.fieldLink RX8 21 "CellarPushers" "scene" "LCellarPushers$Scene;") (by decide +kernel)) (fun _ h9 => h9) rfl dX8_isDone_2 ?_
  refine vp_callSi (qV_R (n := 1) (As := [.ref sc]) (rest := []) (wc := [(xo, .inr (8, [.ref g, .ref sc, .ref tr, .ref tl, .ref wk, .ref pr, .ref pi, .ref se, .ref pn, .ref tp, .int (-1)])), (g, .inr (0, [.int (nI bw), .int (nI bh), .long 0, .ref kd, .ref rw, .ref ms])), (sc, .inr (3, [.int (-1), .long 0, .int 0, .int 0]))]) ⟨hx, hb, hml, hown, hts⟩ hK hN hP [0, 1, 2] rfl (k_X8_isDoneIn l D kI kZ kJ xo g sc tr tl wk pr pi se pn tp kd rw ms bw bh hbw hbh tm tb ts tq wf wq pnw tpw pp pq) gX8_isDone_X8_isDoneIn rfl rfl rfl (by decide +kernel) ⟨(Nat.le_of_ble_eq_true rfl), (Nat.le_of_ble_eq_true rfl)⟩ 0 8 rfl rfl rfl rfl hl.1 rfl (Nat.le_of_ble_eq_true rfl) dX8_isDone_5 ⟨(Nat.le_of_ble_eq_true rfl), (Nat.le_of_ble_eq_true rfl)⟩).run (fun r hw => ?_)
  obtain rfl := hw
  exact W.zret (v := 1) (ty := .boolean) hx hb hr rfl (fun t ht hW => ⟨_, rfl, rfl, ht⟩) (fun q hq => by cases hq) dX8_isDone_8
set_option maxHeartbeats 4000000 in
set_option maxRecDepth 100000 in
theorem k_X8_dead (l : Launch) (D : va_G) (kI kZ kJ : ClassId)  (xo g sc tr tl wk pr pi se pn tp kd rw ms : Nat) (bw bh : Nat) (hbw : bw ≤ 8) (hbh : bh ≤ 8) (tm tb ts tq wf wq pnw tpw pp pq : Nat) (x y : Int32) : Met l yX8_dead wsX8_dead ({ frames := 2, cells := 0, slots := 0, locals := 44 }) (qR D kI kZ kJ [(xo, .inr (8, [.ref g, .ref sc, .ref tr, .ref tl, .ref wk, .ref pr, .ref pi, .ref se, .ref pn, .ref tp, .int (-1)])), (g, .inr (0, [.int (nI bw), .int (nI bh), .long 0, .ref kd, .ref rw, .ref ms])), (kd, .inl (kI, 64, .inl (fun _ => 0))), (ms, .inl (kZ, 8, .inl (fun _ => 0))), (pr, .inr (2, [.int 0, .ref pp, .ref pq]))] [.ref xo, .int x, .int y]) (vp_Si (fun r : Int32 => q_if (q_in bw bh x y) 0 (-2) r)) 0 0 (fun _ => False) := by
  refine Met.ofW (cc := cX8_dead) (maxL := 4) (ret := (some .int)) (by decide) rfl ?_
  intro p e s m args below meth c s₁ B hml hv
  obtain ⟨rfl, hP, hK, hN⟩ := hv
  have hx := B.exec
  have hb := B.bytes
  have hr := B.returns
  have hts := atoms_spec (ws := wsX8_dead) B.pre
  have hown : s.vm.findClass RX8 = some m.cls := findClass_of_methodNamed B.named
  have hlocks := B.notSynchronized
  have hP : va_P D vwCl [(xo, .inr (8, [.ref g, .ref sc, .ref tr, .ref tl, .ref wk, .ref pr, .ref pi, .ref se, .ref pn, .ref tp, .int (-1)])), (g, .inr (0, [.int (nI bw), .int (nI bh), .long 0, .ref kd, .ref rw, .ref ms])), (kd, .inl (kI, 64, .inl (fun _ => 0))), (ms, .inl (kZ, 8, .inl (fun _ => 0))), (pr, .inr (2, [.int 0, .ref pp, .ref pq]))] s.heap := hP
  have hl := lv_entry ([.ref xo, .int x, .int y]) (n := 4) (Nat.le_of_ble_eq_true rfl)
  rw [lg_entry_eq]
  generalize (lg_sl ([.ref xo, .int x, .int y]) ++ List.replicate (4 - (lg_sl ([.ref xo, .int x, .int y])).length) Slot.unset).toArray = ls at hl ⊢
  have hl : lv_has ls 4 [(0, .ref xo), (1, .int x), (2, .int y)] := hl
  refine lv_aload_n hx hb dX8_dead_0 rfl (lv_at hl 0 rfl) ?_
  refine va_get (D := D) (ci := 8) (v := .ref g) (C := RX8) (T := TX8) (N := 11) hx hb hts (by decide +kernel) hown hK hP 0 rfl rfl 0 (by decide) (hts (.fieldLink RX8 12 "CellarPushers" "ground" "LCellarPushers$Ground;") (by decide +kernel)) (fun _ h9 => h9) rfl dX8_dead_1 ?_
  refine lv_iload_n hx hb dX8_dead_4 rfl (lv_at hl 1 rfl) ?_
  refine lv_iload_n hx hb dX8_dead_5 rfl (lv_at hl 2 rfl) ?_
  refine vp_callSi (qV_R (n := 2) (As := [.int x, .int y]) (rest := []) (wc := [(g, .inr (0, [.int (nI bw), .int (nI bh), .long 0, .ref kd, .ref rw, .ref ms]))]) ⟨hx, hb, hml, hown, hts⟩ hK hN hP [1] rfl (k_X0_numberOf l D kI kZ kJ g kd rw ms bw bh hbw hbh x y) gX8_dead_X0_numberOf rfl rfl rfl (by decide +kernel) ⟨(Nat.le_of_ble_eq_true rfl), (Nat.le_of_ble_eq_true rfl)⟩ 1 0 rfl rfl rfl rfl hl.1 rfl (Nat.le_of_ble_eq_true rfl) dX8_dead_6 ⟨(Nat.le_of_ble_eq_true rfl), (Nat.le_of_ble_eq_true rfl)⟩).run (fun r hw => ?_)
  rcases hw with ⟨hin, num, hnum, rfl⟩ | ⟨hin, rfl⟩
  · skip
    refine lv_istore_n (lv' := [(3, .int (nI num)), (0, .ref xo), (1, .int x), (2, .int y)]) hx hb dX8_dead_9 rfl hl (by decide) rfl (fun ls hl => ?_)
    refine lv_iload_n hx hb dX8_dead_10 rfl (lv_at hl 0 rfl) ?_
    refine lv_iconst (v := (-1)) hx hb dX8_dead_11 (by decide) ?_
    refine lv_icmp_ne (tgt := 18) hx hb dX8_dead_12 (by decide) (fun _ => ?_) (fun h9 => absurd h9 (by have hq := hnum; exact fun h => q_ne1 (c := (-1)) (by decide) (by omega) h))
    refine lv_aload_n hx hb dX8_dead_18 rfl (lv_at hl 1 rfl) ?_
    refine va_get (D := D) (ci := 8) (v := .ref pr) (C := RX8) (T := TX8) (N := 11) hx hb hts (by decide +kernel) hown hK hP 0 rfl rfl 5 (by decide) (hts (.fieldLink RX8 45 "CellarPushers" "prices" "LCellarPushers$Prices;") (by decide +kernel)) (fun _ h9 => h9) rfl dX8_dead_19 ?_
    refine lv_aload_n hx hb dX8_dead_22 rfl (lv_at hl 1 rfl) ?_
    refine va_get (D := D) (ci := 8) (v := .ref g) (C := RX8) (T := TX8) (N := 11) hx hb hts (by decide +kernel) hown hK hP 0 rfl rfl 0 (by decide) (hts (.fieldLink RX8 12 "CellarPushers" "ground" "LCellarPushers$Ground;") (by decide +kernel)) (fun _ h9 => h9) rfl dX8_dead_23 ?_
    refine lv_iload_n hx hb dX8_dead_26 rfl (lv_at hl 0 rfl) ?_
    refine vp_callSi (qV_R (n := 2) (As := [.ref g, .int (nI num)]) (rest := []) (wc := [(g, .inr (0, [.int (nI bw), .int (nI bh), .long 0, .ref kd, .ref rw, .ref ms])), (kd, .inl (kI, 64, .inl (fun _ => 0))), (ms, .inl (kZ, 8, .inl (fun _ => 0)))]) ⟨hx, hb, hml, hown, hts⟩ hK hN hP [1, 2, 3] rfl (k_X2_isDead l D kI kZ kJ g kd rw ms bw bh hbw hbh pr num hnum) gX8_dead_X2_isDead rfl rfl rfl (by decide +kernel) ⟨(Nat.le_of_ble_eq_true rfl), (Nat.le_of_ble_eq_true rfl)⟩ 4 2 rfl rfl rfl rfl hl.1 rfl (Nat.le_of_ble_eq_true rfl) dX8_dead_27 ⟨(Nat.le_of_ble_eq_true rfl), (Nat.le_of_ble_eq_true rfl)⟩).run (fun r hw => ?_)
    obtain rfl := hw
    refine lv_if_eq (tgt := 37) hx hb dX8_dead_30 (by decide) (fun _ => ?_) (fun h9 => absurd (by decide : (0 : Int32) = (0 : Int32)) h9)
    refine lv_iconst (v := 0) hx hb dX8_dead_37 (by decide) ?_
    exact W.iret (v := 0) hx hb hr (fun t ht hW => ⟨_, rfl, (by first | exact q_ift hin | exact q_iff hin), ht⟩) (fun q hq => by cases hq) dX8_dead_38
  · skip
    refine lv_istore_n (lv' := [(3, .int (-1)), (0, .ref xo), (1, .int x), (2, .int y)]) hx hb dX8_dead_9 rfl hl (by decide) rfl (fun ls hl => ?_)
    refine lv_iload_n hx hb dX8_dead_10 rfl (lv_at hl 0 rfl) ?_
    refine lv_iconst (v := (-1)) hx hb dX8_dead_11 (by decide) ?_
    refine lv_icmp_ne (tgt := 18) hx hb dX8_dead_12 (by decide) (fun h9 => absurd h9 (by decide : ¬ (¬ ((-1) : Int32) = ((-1) : Int32)))) (fun _ => ?_)
    refine lv_bipush (v := (-2)) hx hb dX8_dead_15 (by decide) ?_
    exact W.iret (v := (-2)) hx hb hr (fun t ht hW => ⟨_, rfl, (by first | exact q_ift hin | exact q_iff hin), ht⟩) (fun q hq => by cases hq) dX8_dead_17
set_option maxHeartbeats 4000000 in
set_option maxRecDepth 100000 in
theorem k_X8_held (l : Launch) (D : va_G) (kI kZ kJ : ClassId)  (xo g sc tr tl wk pr pi se pn tp kd rw ms : Nat) (bw bh : Nat) (hbw : bw ≤ 8) (hbh : bh ≤ 8) (tm tb ts tq wf wq pnw tpw pp pq : Nat) (x y : Int32) : Met l yX8_held wsX8_held ({ frames := 3, cells := 0, slots := 0, locals := 68 }) (qR D kI kZ kJ [(xo, .inr (8, [.ref g, .ref sc, .ref tr, .ref tl, .ref wk, .ref pr, .ref pi, .ref se, .ref pn, .ref tp, .int (-1)])), (g, .inr (0, [.int (nI bw), .int (nI bh), .long 0, .ref kd, .ref rw, .ref ms])), (sc, .inr (3, [.int (-1), .long 0, .int 0, .int 0]))] [.ref xo, .int x, .int y]) (vp_Si (fun r : Int32 => q_if (q_in bw bh x y) 0 (-2) r)) 0 0 (fun _ => False) := by
  refine Met.ofW (cc := cX8_held) (maxL := 4) (ret := (some .int)) (by decide) rfl ?_
  intro p e s m args below meth c s₁ B hml hv
  obtain ⟨rfl, hP, hK, hN⟩ := hv
  have hx := B.exec
  have hb := B.bytes
  have hr := B.returns
  have hts := atoms_spec (ws := wsX8_held) B.pre
  have hown : s.vm.findClass RX8 = some m.cls := findClass_of_methodNamed B.named
  have hlocks := B.notSynchronized
  have hP : va_P D vwCl [(xo, .inr (8, [.ref g, .ref sc, .ref tr, .ref tl, .ref wk, .ref pr, .ref pi, .ref se, .ref pn, .ref tp, .int (-1)])), (g, .inr (0, [.int (nI bw), .int (nI bh), .long 0, .ref kd, .ref rw, .ref ms])), (sc, .inr (3, [.int (-1), .long 0, .int 0, .int 0]))] s.heap := hP
  have hl := lv_entry ([.ref xo, .int x, .int y]) (n := 4) (Nat.le_of_ble_eq_true rfl)
  rw [lg_entry_eq]
  generalize (lg_sl ([.ref xo, .int x, .int y]) ++ List.replicate (4 - (lg_sl ([.ref xo, .int x, .int y])).length) Slot.unset).toArray = ls at hl ⊢
  have hl : lv_has ls 4 [(0, .ref xo), (1, .int x), (2, .int y)] := hl
  refine lv_aload_n hx hb dX8_held_0 rfl (lv_at hl 0 rfl) ?_
  refine va_get (D := D) (ci := 8) (v := .ref g) (C := RX8) (T := TX8) (N := 11) hx hb hts (by decide +kernel) hown hK hP 0 rfl rfl 0 (by decide) (hts (.fieldLink RX8 12 "CellarPushers" "ground" "LCellarPushers$Ground;") (by decide +kernel)) (fun _ h9 => h9) rfl dX8_held_1 ?_
  refine lv_iload_n hx hb dX8_held_4 rfl (lv_at hl 1 rfl) ?_
  refine lv_iload_n hx hb dX8_held_5 rfl (lv_at hl 2 rfl) ?_
  refine vp_callSi (qV_R (n := 2) (As := [.int x, .int y]) (rest := []) (wc := [(g, .inr (0, [.int (nI bw), .int (nI bh), .long 0, .ref kd, .ref rw, .ref ms]))]) ⟨hx, hb, hml, hown, hts⟩ hK hN hP [1] rfl (k_X0_numberOf l D kI kZ kJ g kd rw ms bw bh hbw hbh x y) gX8_held_X0_numberOf rfl rfl rfl (by decide +kernel) ⟨(Nat.le_of_ble_eq_true rfl), (Nat.le_of_ble_eq_true rfl)⟩ 1 0 rfl rfl rfl rfl hl.1 rfl (Nat.le_of_ble_eq_true rfl) dX8_held_6 ⟨(Nat.le_of_ble_eq_true rfl), (Nat.le_of_ble_eq_true rfl)⟩).run (fun r hw => ?_)
  rcases hw with ⟨hin, num, hnum, rfl⟩ | ⟨hin, rfl⟩
  · skip
    refine lv_istore_n (lv' := [(3, .int (nI num)), (0, .ref xo), (1, .int x), (2, .int y)]) hx hb dX8_held_9 rfl hl (by decide) rfl (fun ls hl => ?_)
    refine lv_iload_n hx hb dX8_held_10 rfl (lv_at hl 0 rfl) ?_
    refine lv_iconst (v := (-1)) hx hb dX8_held_11 (by decide) ?_
    refine lv_icmp_ne (tgt := 18) hx hb dX8_held_12 (by decide) (fun _ => ?_) (fun h9 => absurd h9 (by have hq := hnum; exact fun h => q_ne1 (c := (-1)) (by decide) (by omega) h))
    refine lv_aload_n hx hb dX8_held_18 rfl (lv_at hl 1 rfl) ?_
    refine vp_callSl (qV_R (n := 0) (As := []) (rest := []) (wc := [(xo, .inr (8, [.ref g, .ref sc, .ref tr, .ref tl, .ref wk, .ref pr, .ref pi, .ref se, .ref pn, .ref tp, .int (-1)])), (sc, .inr (3, [.int (-1), .long 0, .int 0, .int 0]))]) ⟨hx, hb, hml, hown, hts⟩ hK hN hP [0, 2] rfl (k_X8_heldBarrels l D kI kZ kJ xo g sc tr tl wk pr pi se pn tp kd rw ms bw bh hbw hbh tm tb ts tq wf wq pnw tpw pp pq) gX8_held_X8_heldBarrels rfl rfl rfl (by decide +kernel) ⟨(Nat.le_of_ble_eq_true rfl), (Nat.le_of_ble_eq_true rfl)⟩ 0 8 rfl rfl rfl rfl hl.1 rfl (Nat.le_of_ble_eq_true rfl) dX8_held_19 ⟨(Nat.le_of_ble_eq_true rfl), (Nat.le_of_ble_eq_true rfl)⟩).run (fun r hw => ?_)
    obtain rfl := hw
    refine lv_iload_n hx hb dX8_held_22 rfl (lv_at hl 0 rfl) ?_
    refine vp_callSi (qS_R (n := 2) (As := [.long 0, .int (nI num)]) (rest := []) (wc := []) ⟨hx, hb, hml, hown, hts⟩ hK hN hP [] rfl (k_X8_has l D kI kZ kJ num hnum) gX8_held_X8_has rfl rfl rfl (by decide +kernel) ⟨(Nat.le_of_ble_eq_true rfl), (Nat.le_of_ble_eq_true rfl)⟩ rfl hl.1 rfl (Nat.le_of_ble_eq_true rfl) dX8_held_23 ⟨(Nat.le_of_ble_eq_true rfl), (Nat.le_of_ble_eq_true rfl)⟩).run (fun r hw => ?_)
    obtain rfl := hw
    refine lv_if_eq (tgt := 33) hx hb dX8_held_26 (by decide) (fun _ => ?_) (fun h9 => absurd (by decide : (0 : Int32) = (0 : Int32)) h9)
    refine lv_iconst (v := 0) hx hb dX8_held_33 (by decide) ?_
    exact W.iret (v := 0) hx hb hr (fun t ht hW => ⟨_, rfl, (by first | exact q_ift hin | exact q_iff hin), ht⟩) (fun q hq => by cases hq) dX8_held_34
  · skip
    refine lv_istore_n (lv' := [(3, .int (-1)), (0, .ref xo), (1, .int x), (2, .int y)]) hx hb dX8_held_9 rfl hl (by decide) rfl (fun ls hl => ?_)
    refine lv_iload_n hx hb dX8_held_10 rfl (lv_at hl 0 rfl) ?_
    refine lv_iconst (v := (-1)) hx hb dX8_held_11 (by decide) ?_
    refine lv_icmp_ne (tgt := 18) hx hb dX8_held_12 (by decide) (fun h9 => absurd h9 (by decide : ¬ (¬ ((-1) : Int32) = ((-1) : Int32)))) (fun _ => ?_)
    refine lv_bipush (v := (-2)) hx hb dX8_held_15 (by decide) ?_
    exact W.iret (v := (-2)) hx hb hr (fun t ht hW => ⟨_, rfl, (by first | exact q_ift hin | exact q_iff hin), ht⟩) (fun q hq => by cases hq) dX8_held_17
set_option maxHeartbeats 4000000 in
set_option maxRecDepth 100000 in
theorem k_X8_spoilt (l : Launch) (D : va_G) (kI kZ kJ : ClassId)  (xo g sc tr tl wk pr pi se pn tp kd rw ms : Nat) (bw bh : Nat) (hbw : bw ≤ 8) (hbh : bh ≤ 8) (tm tb ts tq wf wq pnw tpw pp pq : Nat) : Met l yX8_spoilt wsX8_spoilt ({ frames := 2, cells := 0, slots := 0, locals := 42 }) (qR D kI kZ kJ [(xo, .inr (8, [.ref g, .ref sc, .ref tr, .ref tl, .ref wk, .ref pr, .ref pi, .ref se, .ref pn, .ref tp, .int (-1)])), (sc, .inr (3, [.int (-1), .long 0, .int 0, .int 0])), (g, .inr (0, [.int (nI bw), .int (nI bh), .long 0, .ref kd, .ref rw, .ref ms]))] [.ref xo]) (vp_Si (fun r : Int32 => r = -2)) 0 0 (fun _ => False) := by
  refine Met.ofW (cc := cX8_spoilt) (maxL := 1) (ret := (some .int)) (by decide) rfl ?_
  intro p e s m args below meth c s₁ B hml hv
  obtain ⟨rfl, hP, hK, hN⟩ := hv
  have hx := B.exec
  have hb := B.bytes
  have hr := B.returns
  have hts := atoms_spec (ws := wsX8_spoilt) B.pre
  have hown : s.vm.findClass RX8 = some m.cls := findClass_of_methodNamed B.named
  have hlocks := B.notSynchronized
  have hP : va_P D vwCl [(xo, .inr (8, [.ref g, .ref sc, .ref tr, .ref tl, .ref wk, .ref pr, .ref pi, .ref se, .ref pn, .ref tp, .int (-1)])), (sc, .inr (3, [.int (-1), .long 0, .int 0, .int 0])), (g, .inr (0, [.int (nI bw), .int (nI bh), .long 0, .ref kd, .ref rw, .ref ms]))] s.heap := hP
  have hl := lv_entry ([.ref xo]) (n := 1) (Nat.le_of_ble_eq_true rfl)
  rw [lg_entry_eq]
  generalize (lg_sl ([.ref xo]) ++ List.replicate (1 - (lg_sl ([.ref xo])).length) Slot.unset).toArray = ls at hl ⊢
  have hl : lv_has ls 1 [(0, .ref xo)] := hl
  refine lv_aload_n hx hb dX8_spoilt_0 rfl (lv_at hl 0 rfl) ?_
  refine vp_callSi (qV_R (n := 0) (As := []) (rest := []) (wc := [(xo, .inr (8, [.ref g, .ref sc, .ref tr, .ref tl, .ref wk, .ref pr, .ref pi, .ref se, .ref pn, .ref tp, .int (-1)])), (sc, .inr (3, [.int (-1), .long 0, .int 0, .int 0])), (g, .inr (0, [.int (nI bw), .int (nI bh), .long 0, .ref kd, .ref rw, .ref ms]))]) ⟨hx, hb, hml, hown, hts⟩ hK hN hP [0, 1, 2] rfl (k_X8_isReady l D kI kZ kJ xo g sc tr tl wk pr pi se pn tp kd rw ms bw bh hbw hbh tm tb ts tq wf wq pnw tpw pp pq) gX8_spoilt_X8_isReady rfl rfl rfl (by decide +kernel) ⟨(Nat.le_of_ble_eq_true rfl), (Nat.le_of_ble_eq_true rfl)⟩ 0 8 rfl rfl rfl rfl hl.1 rfl (Nat.le_of_ble_eq_true rfl) dX8_spoilt_1 ⟨(Nat.le_of_ble_eq_true rfl), (Nat.le_of_ble_eq_true rfl)⟩).run (fun r hw => ?_)
  obtain rfl := hw
  refine lv_if_ne (tgt := 10) hx hb dX8_spoilt_4 (by decide) (fun h9 => absurd h9 (by decide : ¬ (¬ (0 : Int32) = (0 : Int32)))) (fun _ => ?_)
  refine lv_bipush (v := (-2)) hx hb dX8_spoilt_7 (by decide) ?_
  exact W.iret (v := (-2)) hx hb hr (fun t ht hW => ⟨_, rfl, rfl, ht⟩) (fun q hq => by cases hq) dX8_spoilt_9
set_option maxHeartbeats 4000000 in
set_option maxRecDepth 100000 in
theorem k_X8_why (l : Launch) (D : va_G) (kI kZ kJ : ClassId)  (xo g sc tr tl wk pr pi se pn tp kd rw ms : Nat) (bw bh : Nat) (hbw : bw ≤ 8) (hbh : bh ≤ 8) (tm tb ts tq wf wq pnw tpw pp pq : Nat) : Met l yX8_why wsX8_why ({ frames := 0, cells := 0, slots := 0, locals := 0 }) (qR D kI kZ kJ [(xo, .inr (8, [.ref g, .ref sc, .ref tr, .ref tl, .ref wk, .ref pr, .ref pi, .ref se, .ref pn, .ref tp, .int (-1)]))] [.ref xo]) (vp_Si (fun r : Int32 => r = -1)) 0 0 (fun _ => False) := by
  refine Met.ofW (cc := cX8_why) (maxL := 1) (ret := (some .int)) (by decide) rfl ?_
  intro p e s m args below meth c s₁ B hml hv
  obtain ⟨rfl, hP, hK, hN⟩ := hv
  have hx := B.exec
  have hb := B.bytes
  have hr := B.returns
  have hts := atoms_spec (ws := wsX8_why) B.pre
  have hown : s.vm.findClass RX8 = some m.cls := findClass_of_methodNamed B.named
  have hlocks := B.notSynchronized
  have hP : va_P D vwCl [(xo, .inr (8, [.ref g, .ref sc, .ref tr, .ref tl, .ref wk, .ref pr, .ref pi, .ref se, .ref pn, .ref tp, .int (-1)]))] s.heap := hP
  have hl := lv_entry ([.ref xo]) (n := 1) (Nat.le_of_ble_eq_true rfl)
  rw [lg_entry_eq]
  generalize (lg_sl ([.ref xo]) ++ List.replicate (1 - (lg_sl ([.ref xo])).length) Slot.unset).toArray = ls at hl ⊢
  have hl : lv_has ls 1 [(0, .ref xo)] := hl
  refine lv_aload_n hx hb dX8_why_0 rfl (lv_at hl 0 rfl) ?_
  refine va_get (D := D) (ci := 8) (v := .int (-1)) (C := RX8) (T := TX8) (N := 11) hx hb hts (by decide +kernel) hown hK hP 0 rfl rfl 10 (by decide) (hts (.fieldLink RX8 73 "CellarPushers" "spoiltField" "I") (by decide +kernel)) (fun _ h9 => h9) rfl dX8_why_1 ?_
  exact W.iret (v := (-1)) hx hb hr (fun t ht hW => ⟨_, rfl, rfl, ht⟩) (fun q hq => by cases hq) dX8_why_4
set_option maxHeartbeats 4000000 in
set_option maxRecDepth 100000 in
theorem k_X8_low (l : Launch) (D : va_G) (kI kZ kJ : ClassId)  (xo g sc tr tl wk pr pi se pn tp kd rw ms : Nat) (bw bh : Nat) (hbw : bw ≤ 8) (hbh : bh ≤ 8) (tm tb ts tq wf wq pnw tpw pp pq : Nat) : Met l yX8_low wsX8_low ({ frames := 2, cells := 0, slots := 0, locals := 42 }) (qR D kI kZ kJ [(xo, .inr (8, [.ref g, .ref sc, .ref tr, .ref tl, .ref wk, .ref pr, .ref pi, .ref se, .ref pn, .ref tp, .int (-1)])), (sc, .inr (3, [.int (-1), .long 0, .int 0, .int 0])), (g, .inr (0, [.int (nI bw), .int (nI bh), .long 0, .ref kd, .ref rw, .ref ms]))] [.ref xo]) (vp_Si (fun r : Int32 => r = -2)) 0 0 (fun _ => False) := by
  refine Met.ofW (cc := cX8_low) (maxL := 1) (ret := (some .int)) (by decide) rfl ?_
  intro p e s m args below meth c s₁ B hml hv
  obtain ⟨rfl, hP, hK, hN⟩ := hv
  have hx := B.exec
  have hb := B.bytes
  have hr := B.returns
  have hts := atoms_spec (ws := wsX8_low) B.pre
  have hown : s.vm.findClass RX8 = some m.cls := findClass_of_methodNamed B.named
  have hlocks := B.notSynchronized
  have hP : va_P D vwCl [(xo, .inr (8, [.ref g, .ref sc, .ref tr, .ref tl, .ref wk, .ref pr, .ref pi, .ref se, .ref pn, .ref tp, .int (-1)])), (sc, .inr (3, [.int (-1), .long 0, .int 0, .int 0])), (g, .inr (0, [.int (nI bw), .int (nI bh), .long 0, .ref kd, .ref rw, .ref ms]))] s.heap := hP
  have hl := lv_entry ([.ref xo]) (n := 1) (Nat.le_of_ble_eq_true rfl)
  rw [lg_entry_eq]
  generalize (lg_sl ([.ref xo]) ++ List.replicate (1 - (lg_sl ([.ref xo])).length) Slot.unset).toArray = ls at hl ⊢
  have hl : lv_has ls 1 [(0, .ref xo)] := hl
  refine lv_aload_n hx hb dX8_low_0 rfl (lv_at hl 0 rfl) ?_
  refine vp_callSi (qV_R (n := 0) (As := []) (rest := []) (wc := [(xo, .inr (8, [.ref g, .ref sc, .ref tr, .ref tl, .ref wk, .ref pr, .ref pi, .ref se, .ref pn, .ref tp, .int (-1)])), (sc, .inr (3, [.int (-1), .long 0, .int 0, .int 0])), (g, .inr (0, [.int (nI bw), .int (nI bh), .long 0, .ref kd, .ref rw, .ref ms]))]) ⟨hx, hb, hml, hown, hts⟩ hK hN hP [0, 1, 2] rfl (k_X8_isReady l D kI kZ kJ xo g sc tr tl wk pr pi se pn tp kd rw ms bw bh hbw hbh tm tb ts tq wf wq pnw tpw pp pq) gX8_low_X8_isReady rfl rfl rfl (by decide +kernel) ⟨(Nat.le_of_ble_eq_true rfl), (Nat.le_of_ble_eq_true rfl)⟩ 0 8 rfl rfl rfl rfl hl.1 rfl (Nat.le_of_ble_eq_true rfl) dX8_low_1 ⟨(Nat.le_of_ble_eq_true rfl), (Nat.le_of_ble_eq_true rfl)⟩).run (fun r hw => ?_)
  obtain rfl := hw
  refine lv_if_eq (tgt := 32) hx hb dX8_low_4 (by decide) (fun _ => ?_) (fun h9 => absurd (by decide : (0 : Int32) = (0 : Int32)) h9)
  refine lv_bipush (v := (-2)) hx hb dX8_low_32 (by decide) ?_
  exact W.iret (v := (-2)) hx hb hr (fun t ht hW => ⟨_, rfl, rfl, ht⟩) (fun q hq => by cases hq) dX8_low_34
set_option maxHeartbeats 4000000 in
set_option maxRecDepth 100000 in
theorem k_X8_price (l : Launch) (D : va_G) (kI kZ kJ : ClassId)  (xo g sc tr tl wk pr pi se pn tp kd rw ms : Nat) (bw bh : Nat) (hbw : bw ≤ 8) (hbh : bh ≤ 8) (tm tb ts tq wf wq pnw tpw pp pq : Nat) (x y z v : Int32) : Met l yX8_price wsX8_price ({ frames := 1, cells := 0, slots := 0, locals := 23 }) (qR D kI kZ kJ [(xo, .inr (8, [.ref g, .ref sc, .ref tr, .ref tl, .ref wk, .ref pr, .ref pi, .ref se, .ref pn, .ref tp, .int (-1)])), (g, .inr (0, [.int (nI bw), .int (nI bh), .long 0, .ref kd, .ref rw, .ref ms])), (kd, .inl (kI, 64, .inl (fun _ => 0))), (ms, .inl (kZ, 8, .inl (fun _ => 0)))] [.ref xo, .int x, .int y, .int z, .int v]) (vp_Si (fun r : Int32 => r = -2)) 0 0 (fun _ => False) := by
  refine Met.ofW (cc := cX8_price) (maxL := 7) (ret := (some .int)) (by decide) rfl ?_
  intro p e s m args below meth c s₁ B hml hv
  obtain ⟨rfl, hP, hK, hN⟩ := hv
  have hx := B.exec
  have hb := B.bytes
  have hr := B.returns
  have hts := atoms_spec (ws := wsX8_price) B.pre
  have hown : s.vm.findClass RX8 = some m.cls := findClass_of_methodNamed B.named
  have hlocks := B.notSynchronized
  have hP : va_P D vwCl [(xo, .inr (8, [.ref g, .ref sc, .ref tr, .ref tl, .ref wk, .ref pr, .ref pi, .ref se, .ref pn, .ref tp, .int (-1)])), (g, .inr (0, [.int (nI bw), .int (nI bh), .long 0, .ref kd, .ref rw, .ref ms])), (kd, .inl (kI, 64, .inl (fun _ => 0))), (ms, .inl (kZ, 8, .inl (fun _ => 0)))] s.heap := hP
  have hl := lv_entry ([.ref xo, .int x, .int y, .int z, .int v]) (n := 7) (Nat.le_of_ble_eq_true rfl)
  rw [lg_entry_eq]
  generalize (lg_sl ([.ref xo, .int x, .int y, .int z, .int v]) ++ List.replicate (7 - (lg_sl ([.ref xo, .int x, .int y, .int z, .int v])).length) Slot.unset).toArray = ls at hl ⊢
  have hl : lv_has ls 7 [(0, .ref xo), (1, .int x), (2, .int y), (3, .int z), (4, .int v)] := hl
  refine lv_aload_n hx hb dX8_price_0 rfl (lv_at hl 0 rfl) ?_
  refine va_get (D := D) (ci := 8) (v := .ref g) (C := RX8) (T := TX8) (N := 11) hx hb hts (by decide +kernel) hown hK hP 0 rfl rfl 0 (by decide) (hts (.fieldLink RX8 12 "CellarPushers" "ground" "LCellarPushers$Ground;") (by decide +kernel)) (fun _ h9 => h9) rfl dX8_price_1 ?_
  refine lv_iload_n hx hb dX8_price_4 rfl (lv_at hl 1 rfl) ?_
  refine lv_iload_n hx hb dX8_price_5 rfl (lv_at hl 2 rfl) ?_
  refine vp_callSi (qV_R (n := 2) (As := [.int x, .int y]) (rest := []) (wc := [(g, .inr (0, [.int (nI bw), .int (nI bh), .long 0, .ref kd, .ref rw, .ref ms]))]) ⟨hx, hb, hml, hown, hts⟩ hK hN hP [1] rfl (k_X0_numberOf l D kI kZ kJ g kd rw ms bw bh hbw hbh x y) gX8_price_X0_numberOf rfl rfl rfl (by decide +kernel) ⟨(Nat.le_of_ble_eq_true rfl), (Nat.le_of_ble_eq_true rfl)⟩ 1 0 rfl rfl rfl rfl hl.1 rfl (Nat.le_of_ble_eq_true rfl) dX8_price_6 ⟨(Nat.le_of_ble_eq_true rfl), (Nat.le_of_ble_eq_true rfl)⟩).run (fun r hw => ?_)
  rcases hw with ⟨hin, num, hnum, rfl⟩ | ⟨hin, rfl⟩
  · skip
    refine lv_istore (lv' := [(5, .int (nI num)), (0, .ref xo), (1, .int x), (2, .int y), (3, .int z), (4, .int v)]) hx hb dX8_price_9 hl (by decide) rfl (fun ls hl => ?_)
    refine lv_aload_n hx hb dX8_price_11 rfl (lv_at hl 1 rfl) ?_
    refine va_get (D := D) (ci := 8) (v := .ref g) (C := RX8) (T := TX8) (N := 11) hx hb hts (by decide +kernel) hown hK hP 0 rfl rfl 0 (by decide) (hts (.fieldLink RX8 12 "CellarPushers" "ground" "LCellarPushers$Ground;") (by decide +kernel)) (fun _ h9 => h9) rfl dX8_price_12 ?_
    refine lv_iload_n hx hb dX8_price_15 rfl (lv_at hl 4 rfl) ?_
    refine lv_iload hx hb dX8_price_16 (lv_at hl 5 rfl) ?_
    refine vp_callSi (qV_R (n := 2) (As := [.int z, .int v]) (rest := []) (wc := [(g, .inr (0, [.int (nI bw), .int (nI bh), .long 0, .ref kd, .ref rw, .ref ms]))]) ⟨hx, hb, hml, hown, hts⟩ hK hN hP [1] rfl (k_X0_numberOf l D kI kZ kJ g kd rw ms bw bh hbw hbh z v) gX8_price_X0_numberOf rfl rfl rfl (by decide +kernel) ⟨(Nat.le_of_ble_eq_true rfl), (Nat.le_of_ble_eq_true rfl)⟩ 1 0 rfl rfl rfl rfl hl.1 rfl (Nat.le_of_ble_eq_true rfl) dX8_price_18 ⟨(Nat.le_of_ble_eq_true rfl), (Nat.le_of_ble_eq_true rfl)⟩).run (fun r hw => ?_)
    rcases hw with ⟨hin2, num2, hnum2, rfl⟩ | ⟨hin2, rfl⟩
    · skip
      refine lv_istore (lv' := [(6, .int (nI num2)), (5, .int (nI num)), (0, .ref xo), (1, .int x), (2, .int y), (3, .int z), (4, .int v)]) hx hb dX8_price_21 hl (by decide) rfl (fun ls hl => ?_)
      refine lv_aload_n hx hb dX8_price_23 rfl (lv_at hl 2 rfl) ?_
      refine va_get (D := D) (ci := 8) (v := .ref g) (C := RX8) (T := TX8) (N := 11) hx hb hts (by decide +kernel) hown hK hP 0 rfl rfl 0 (by decide) (hts (.fieldLink RX8 12 "CellarPushers" "ground" "LCellarPushers$Ground;") (by decide +kernel)) (fun _ h9 => h9) rfl dX8_price_24 ?_
      refine lv_iload hx hb dX8_price_27 (lv_at hl 1 rfl) ?_
      refine vp_callSi (qV_R (n := 1) (As := [.int (nI num)]) (rest := []) (wc := [(g, .inr (0, [.int (nI bw), .int (nI bh), .long 0, .ref kd, .ref rw, .ref ms])), (kd, .inl (kI, 64, .inl (fun _ => 0))), (ms, .inl (kZ, 8, .inl (fun _ => 0)))]) ⟨hx, hb, hml, hown, hts⟩ hK hN hP [1, 2, 3] rfl (k_X0_kindNow_n l D kI kZ kJ g kd rw ms bw bh hbw hbh num hnum) gX8_price_X0_kindNow rfl rfl rfl (by decide +kernel) ⟨(Nat.le_of_ble_eq_true rfl), (Nat.le_of_ble_eq_true rfl)⟩ 1 0 rfl rfl rfl rfl hl.1 rfl (Nat.le_of_ble_eq_true rfl) dX8_price_29 ⟨(Nat.le_of_ble_eq_true rfl), (Nat.le_of_ble_eq_true rfl)⟩).run (fun r hw => ?_)
      obtain rfl := hw
      refine lv_if_eq (tgt := 47) hx hb dX8_price_32 (by decide) (fun _ => ?_) (fun h9 => absurd (by decide : (0 : Int32) = (0 : Int32)) h9)
      refine lv_bipush (v := (-2)) hx hb dX8_price_47 (by decide) ?_
      exact W.iret (v := (-2)) hx hb hr (fun t ht hW => ⟨_, rfl, rfl, ht⟩) (fun q hq => by cases hq) dX8_price_49
    · skip
      refine lv_istore (lv' := [(6, .int (-1)), (5, .int (nI num)), (0, .ref xo), (1, .int x), (2, .int y), (3, .int z), (4, .int v)]) hx hb dX8_price_21 hl (by decide) rfl (fun ls hl => ?_)
      refine lv_aload_n hx hb dX8_price_23 rfl (lv_at hl 2 rfl) ?_
      refine va_get (D := D) (ci := 8) (v := .ref g) (C := RX8) (T := TX8) (N := 11) hx hb hts (by decide +kernel) hown hK hP 0 rfl rfl 0 (by decide) (hts (.fieldLink RX8 12 "CellarPushers" "ground" "LCellarPushers$Ground;") (by decide +kernel)) (fun _ h9 => h9) rfl dX8_price_24 ?_
      refine lv_iload hx hb dX8_price_27 (lv_at hl 1 rfl) ?_
      refine vp_callSi (qV_R (n := 1) (As := [.int (nI num)]) (rest := []) (wc := [(g, .inr (0, [.int (nI bw), .int (nI bh), .long 0, .ref kd, .ref rw, .ref ms])), (kd, .inl (kI, 64, .inl (fun _ => 0))), (ms, .inl (kZ, 8, .inl (fun _ => 0)))]) ⟨hx, hb, hml, hown, hts⟩ hK hN hP [1, 2, 3] rfl (k_X0_kindNow_n l D kI kZ kJ g kd rw ms bw bh hbw hbh num hnum) gX8_price_X0_kindNow rfl rfl rfl (by decide +kernel) ⟨(Nat.le_of_ble_eq_true rfl), (Nat.le_of_ble_eq_true rfl)⟩ 1 0 rfl rfl rfl rfl hl.1 rfl (Nat.le_of_ble_eq_true rfl) dX8_price_29 ⟨(Nat.le_of_ble_eq_true rfl), (Nat.le_of_ble_eq_true rfl)⟩).run (fun r hw => ?_)
      obtain rfl := hw
      refine lv_if_eq (tgt := 47) hx hb dX8_price_32 (by decide) (fun _ => ?_) (fun h9 => absurd (by decide : (0 : Int32) = (0 : Int32)) h9)
      refine lv_bipush (v := (-2)) hx hb dX8_price_47 (by decide) ?_
      exact W.iret (v := (-2)) hx hb hr (fun t ht hW => ⟨_, rfl, rfl, ht⟩) (fun q hq => by cases hq) dX8_price_49
  · skip
    refine lv_istore (lv' := [(5, .int (-1)), (0, .ref xo), (1, .int x), (2, .int y), (3, .int z), (4, .int v)]) hx hb dX8_price_9 hl (by decide) rfl (fun ls hl => ?_)
    refine lv_aload_n hx hb dX8_price_11 rfl (lv_at hl 1 rfl) ?_
    refine va_get (D := D) (ci := 8) (v := .ref g) (C := RX8) (T := TX8) (N := 11) hx hb hts (by decide +kernel) hown hK hP 0 rfl rfl 0 (by decide) (hts (.fieldLink RX8 12 "CellarPushers" "ground" "LCellarPushers$Ground;") (by decide +kernel)) (fun _ h9 => h9) rfl dX8_price_12 ?_
    refine lv_iload_n hx hb dX8_price_15 rfl (lv_at hl 4 rfl) ?_
    refine lv_iload hx hb dX8_price_16 (lv_at hl 5 rfl) ?_
    refine vp_callSi (qV_R (n := 2) (As := [.int z, .int v]) (rest := []) (wc := [(g, .inr (0, [.int (nI bw), .int (nI bh), .long 0, .ref kd, .ref rw, .ref ms]))]) ⟨hx, hb, hml, hown, hts⟩ hK hN hP [1] rfl (k_X0_numberOf l D kI kZ kJ g kd rw ms bw bh hbw hbh z v) gX8_price_X0_numberOf rfl rfl rfl (by decide +kernel) ⟨(Nat.le_of_ble_eq_true rfl), (Nat.le_of_ble_eq_true rfl)⟩ 1 0 rfl rfl rfl rfl hl.1 rfl (Nat.le_of_ble_eq_true rfl) dX8_price_18 ⟨(Nat.le_of_ble_eq_true rfl), (Nat.le_of_ble_eq_true rfl)⟩).run (fun r hw => ?_)
    rcases hw with ⟨hin2, num2, hnum2, rfl⟩ | ⟨hin2, rfl⟩
    · skip
      refine lv_istore (lv' := [(6, .int (nI num2)), (5, .int (-1)), (0, .ref xo), (1, .int x), (2, .int y), (3, .int z), (4, .int v)]) hx hb dX8_price_21 hl (by decide) rfl (fun ls hl => ?_)
      refine lv_aload_n hx hb dX8_price_23 rfl (lv_at hl 2 rfl) ?_
      refine va_get (D := D) (ci := 8) (v := .ref g) (C := RX8) (T := TX8) (N := 11) hx hb hts (by decide +kernel) hown hK hP 0 rfl rfl 0 (by decide) (hts (.fieldLink RX8 12 "CellarPushers" "ground" "LCellarPushers$Ground;") (by decide +kernel)) (fun _ h9 => h9) rfl dX8_price_24 ?_
      refine lv_iload hx hb dX8_price_27 (lv_at hl 1 rfl) ?_
      refine vp_callSi (qV_R (n := 1) (As := [.int (-1)]) (rest := []) (wc := [(g, .inr (0, [.int (nI bw), .int (nI bh), .long 0, .ref kd, .ref rw, .ref ms])), (kd, .inl (kI, 64, .inl (fun _ => 0))), (ms, .inl (kZ, 8, .inl (fun _ => 0)))]) ⟨hx, hb, hml, hown, hts⟩ hK hN hP [1, 2, 3] rfl (k_X0_kindNow_m l D kI kZ kJ g kd rw ms bw bh hbw hbh) gX8_price_X0_kindNow rfl rfl rfl (by decide +kernel) ⟨(Nat.le_of_ble_eq_true rfl), (Nat.le_of_ble_eq_true rfl)⟩ 1 0 rfl rfl rfl rfl hl.1 rfl (Nat.le_of_ble_eq_true rfl) dX8_price_29 ⟨(Nat.le_of_ble_eq_true rfl), (Nat.le_of_ble_eq_true rfl)⟩).run (fun r hw => ?_)
      obtain rfl := hw
      refine lv_if_eq (tgt := 47) hx hb dX8_price_32 (by decide) (fun _ => ?_) (fun h9 => absurd (by decide : (0 : Int32) = (0 : Int32)) h9)
      refine lv_bipush (v := (-2)) hx hb dX8_price_47 (by decide) ?_
      exact W.iret (v := (-2)) hx hb hr (fun t ht hW => ⟨_, rfl, rfl, ht⟩) (fun q hq => by cases hq) dX8_price_49
    · skip
      refine lv_istore (lv' := [(6, .int (-1)), (5, .int (-1)), (0, .ref xo), (1, .int x), (2, .int y), (3, .int z), (4, .int v)]) hx hb dX8_price_21 hl (by decide) rfl (fun ls hl => ?_)
      refine lv_aload_n hx hb dX8_price_23 rfl (lv_at hl 2 rfl) ?_
      refine va_get (D := D) (ci := 8) (v := .ref g) (C := RX8) (T := TX8) (N := 11) hx hb hts (by decide +kernel) hown hK hP 0 rfl rfl 0 (by decide) (hts (.fieldLink RX8 12 "CellarPushers" "ground" "LCellarPushers$Ground;") (by decide +kernel)) (fun _ h9 => h9) rfl dX8_price_24 ?_
      refine lv_iload hx hb dX8_price_27 (lv_at hl 1 rfl) ?_
      refine vp_callSi (qV_R (n := 1) (As := [.int (-1)]) (rest := []) (wc := [(g, .inr (0, [.int (nI bw), .int (nI bh), .long 0, .ref kd, .ref rw, .ref ms])), (kd, .inl (kI, 64, .inl (fun _ => 0))), (ms, .inl (kZ, 8, .inl (fun _ => 0)))]) ⟨hx, hb, hml, hown, hts⟩ hK hN hP [1, 2, 3] rfl (k_X0_kindNow_m l D kI kZ kJ g kd rw ms bw bh hbw hbh) gX8_price_X0_kindNow rfl rfl rfl (by decide +kernel) ⟨(Nat.le_of_ble_eq_true rfl), (Nat.le_of_ble_eq_true rfl)⟩ 1 0 rfl rfl rfl rfl hl.1 rfl (Nat.le_of_ble_eq_true rfl) dX8_price_29 ⟨(Nat.le_of_ble_eq_true rfl), (Nat.le_of_ble_eq_true rfl)⟩).run (fun r hw => ?_)
      obtain rfl := hw
      refine lv_if_eq (tgt := 47) hx hb dX8_price_32 (by decide) (fun _ => ?_) (fun h9 => absurd (by decide : (0 : Int32) = (0 : Int32)) h9)
      refine lv_bipush (v := (-2)) hx hb dX8_price_47 (by decide) ?_
      exact W.iret (v := (-2)) hx hb hr (fun t ht hW => ⟨_, rfl, rfl, ht⟩) (fun q hq => by cases hq) dX8_price_49
set_option maxHeartbeats 4000000 in
set_option maxRecDepth 100000 in
theorem k_X8_fewest (l : Launch) (D : va_G) (kI kZ kJ : ClassId)  (xo g sc tr tl wk pr pi se pn tp kd rw ms : Nat) (bw bh : Nat) (hbw : bw ≤ 8) (hbh : bh ≤ 8) (tm tb ts tq wf wq pnw tpw pp pq : Nat) : Met l yX8_fewest wsX8_fewest ({ frames := 2, cells := 0, slots := 0, locals := 42 }) (qR D kI kZ kJ [(xo, .inr (8, [.ref g, .ref sc, .ref tr, .ref tl, .ref wk, .ref pr, .ref pi, .ref se, .ref pn, .ref tp, .int (-1)])), (sc, .inr (3, [.int (-1), .long 0, .int 0, .int 0])), (g, .inr (0, [.int (nI bw), .int (nI bh), .long 0, .ref kd, .ref rw, .ref ms]))] [.ref xo]) (vp_Si (fun r : Int32 => r = -2)) 0 0 (fun _ => False) := by
  refine Met.ofW (cc := cX8_fewest) (maxL := 1) (ret := (some .int)) (by decide) rfl ?_
  intro p e s m args below meth c s₁ B hml hv
  obtain ⟨rfl, hP, hK, hN⟩ := hv
  have hx := B.exec
  have hb := B.bytes
  have hr := B.returns
  have hts := atoms_spec (ws := wsX8_fewest) B.pre
  have hown : s.vm.findClass RX8 = some m.cls := findClass_of_methodNamed B.named
  have hlocks := B.notSynchronized
  have hP : va_P D vwCl [(xo, .inr (8, [.ref g, .ref sc, .ref tr, .ref tl, .ref wk, .ref pr, .ref pi, .ref se, .ref pn, .ref tp, .int (-1)])), (sc, .inr (3, [.int (-1), .long 0, .int 0, .int 0])), (g, .inr (0, [.int (nI bw), .int (nI bh), .long 0, .ref kd, .ref rw, .ref ms]))] s.heap := hP
  have hl := lv_entry ([.ref xo]) (n := 1) (Nat.le_of_ble_eq_true rfl)
  rw [lg_entry_eq]
  generalize (lg_sl ([.ref xo]) ++ List.replicate (1 - (lg_sl ([.ref xo])).length) Slot.unset).toArray = ls at hl ⊢
  have hl : lv_has ls 1 [(0, .ref xo)] := hl
  refine lv_aload_n hx hb dX8_fewest_0 rfl (lv_at hl 0 rfl) ?_
  refine vp_callSi (qV_R (n := 0) (As := []) (rest := []) (wc := [(xo, .inr (8, [.ref g, .ref sc, .ref tr, .ref tl, .ref wk, .ref pr, .ref pi, .ref se, .ref pn, .ref tp, .int (-1)])), (sc, .inr (3, [.int (-1), .long 0, .int 0, .int 0])), (g, .inr (0, [.int (nI bw), .int (nI bh), .long 0, .ref kd, .ref rw, .ref ms]))]) ⟨hx, hb, hml, hown, hts⟩ hK hN hP [0, 1, 2] rfl (k_X8_isReady l D kI kZ kJ xo g sc tr tl wk pr pi se pn tp kd rw ms bw bh hbw hbh tm tb ts tq wf wq pnw tpw pp pq) gX8_fewest_X8_isReady rfl rfl rfl (by decide +kernel) ⟨(Nat.le_of_ble_eq_true rfl), (Nat.le_of_ble_eq_true rfl)⟩ 0 8 rfl rfl rfl rfl hl.1 rfl (Nat.le_of_ble_eq_true rfl) dX8_fewest_1 ⟨(Nat.le_of_ble_eq_true rfl), (Nat.le_of_ble_eq_true rfl)⟩).run (fun r hw => ?_)
  obtain rfl := hw
  refine lv_if_eq (tgt := 21) hx hb dX8_fewest_4 (by decide) (fun _ => ?_) (fun h9 => absurd (by decide : (0 : Int32) = (0 : Int32)) h9)
  refine lv_bipush (v := (-2)) hx hb dX8_fewest_21 (by decide) ?_
  exact W.iret (v := (-2)) hx hb hr (fun t ht hW => ⟨_, rfl, rfl, ht⟩) (fun q hq => by cases hq) dX8_fewest_23
set_option maxHeartbeats 4000000 in
set_option maxRecDepth 100000 in
theorem k_X8_steps (l : Launch) (D : va_G) (kI kZ kJ : ClassId)  (xo g sc tr tl wk pr pi se pn tp kd rw ms : Nat) (bw bh : Nat) (hbw : bw ≤ 8) (hbh : bh ≤ 8) (tm tb ts tq wf wq pnw tpw pp pq : Nat) : Met l yX8_steps wsX8_steps ({ frames := 0, cells := 0, slots := 0, locals := 0 }) (qR D kI kZ kJ [(xo, .inr (8, [.ref g, .ref sc, .ref tr, .ref tl, .ref wk, .ref pr, .ref pi, .ref se, .ref pn, .ref tp, .int (-1)])), (pn, .inr (7, [.int 0, .ref pnw]))] [.ref xo]) (vp_Si (fun r : Int32 => r = 0)) 0 0 (fun _ => False) := by
  refine Met.ofW (cc := cX8_steps) (maxL := 1) (ret := (some .int)) (by decide) rfl ?_
  intro p e s m args below meth c s₁ B hml hv
  obtain ⟨rfl, hP, hK, hN⟩ := hv
  have hx := B.exec
  have hb := B.bytes
  have hr := B.returns
  have hts := atoms_spec (ws := wsX8_steps) B.pre
  have hown : s.vm.findClass RX8 = some m.cls := findClass_of_methodNamed B.named
  have hlocks := B.notSynchronized
  have hP : va_P D vwCl [(xo, .inr (8, [.ref g, .ref sc, .ref tr, .ref tl, .ref wk, .ref pr, .ref pi, .ref se, .ref pn, .ref tp, .int (-1)])), (pn, .inr (7, [.int 0, .ref pnw]))] s.heap := hP
  have hl := lv_entry ([.ref xo]) (n := 1) (Nat.le_of_ble_eq_true rfl)
  rw [lg_entry_eq]
  generalize (lg_sl ([.ref xo]) ++ List.replicate (1 - (lg_sl ([.ref xo])).length) Slot.unset).toArray = ls at hl ⊢
  have hl : lv_has ls 1 [(0, .ref xo)] := hl
  refine lv_aload_n hx hb dX8_steps_0 rfl (lv_at hl 0 rfl) ?_
  refine va_get (D := D) (ci := 8) (v := .ref pn) (C := RX8) (T := TX8) (N := 11) hx hb hts (by decide +kernel) hown hK hP 0 rfl rfl 8 (by decide) (hts (.fieldLink RX8 66 "CellarPushers" "thePlan" "LCellarPushers$Ways;") (by decide +kernel)) (fun _ h9 => h9) rfl dX8_steps_1 ?_
  refine va_get (D := D) (ci := 7) (v := .int 0) (C := RX7) (T := TX7) (N := 2) hx hb hts (by decide +kernel) hown hK hP 1 rfl rfl 0 (by decide) (hts (.fieldLink RX8 221 "CellarPushers$Ways" "size" "I") (by decide +kernel)) (fun _ h9 => h9) rfl dX8_steps_4 ?_
  exact W.iret (v := 0) hx hb hr (fun t ht hW => ⟨_, rfl, rfl, ht⟩) (fun q hq => by cases hq) dX8_steps_7
set_option maxHeartbeats 4000000 in
set_option maxRecDepth 100000 in
theorem k_X8_plan (l : Launch) (D : va_G) (kI kZ kJ : ClassId)  (xo g sc tr tl wk pr pi se pn tp kd rw ms : Nat) (bw bh : Nat) (hbw : bw ≤ 8) (hbh : bh ≤ 8) (tm tb ts tq wf wq pnw tpw pp pq : Nat) (x : Int32) : Met l yX8_plan wsX8_plan ({ frames := 2, cells := 0, slots := 0, locals := 42 }) (qR D kI kZ kJ [(xo, .inr (8, [.ref g, .ref sc, .ref tr, .ref tl, .ref wk, .ref pr, .ref pi, .ref se, .ref pn, .ref tp, .int (-1)])), (pn, .inr (7, [.int 0, .ref pnw])), (pnw, .inl (kI, 400, .inl (fun _ => 0)))] [.ref xo, .int x]) (vp_Si (fun r : Int32 => r = -2)) 0 0 (fun _ => False) := by
  refine Met.ofW (cc := cX8_plan) (maxL := 2) (ret := (some .int)) (by decide) rfl ?_
  intro p e s m args below meth c s₁ B hml hv
  obtain ⟨rfl, hP, hK, hN⟩ := hv
  have hx := B.exec
  have hb := B.bytes
  have hr := B.returns
  have hts := atoms_spec (ws := wsX8_plan) B.pre
  have hown : s.vm.findClass RX8 = some m.cls := findClass_of_methodNamed B.named
  have hlocks := B.notSynchronized
  have hP : va_P D vwCl [(xo, .inr (8, [.ref g, .ref sc, .ref tr, .ref tl, .ref wk, .ref pr, .ref pi, .ref se, .ref pn, .ref tp, .int (-1)])), (pn, .inr (7, [.int 0, .ref pnw])), (pnw, .inl (kI, 400, .inl (fun _ => 0)))] s.heap := hP
  have hl := lv_entry ([.ref xo, .int x]) (n := 2) (Nat.le_of_ble_eq_true rfl)
  rw [lg_entry_eq]
  generalize (lg_sl ([.ref xo, .int x]) ++ List.replicate (2 - (lg_sl ([.ref xo, .int x])).length) Slot.unset).toArray = ls at hl ⊢
  have hl : lv_has ls 2 [(0, .ref xo), (1, .int x)] := hl
  refine lv_aload_n hx hb dX8_plan_0 rfl (lv_at hl 0 rfl) ?_
  refine va_get (D := D) (ci := 8) (v := .ref pn) (C := RX8) (T := TX8) (N := 11) hx hb hts (by decide +kernel) hown hK hP 0 rfl rfl 8 (by decide) (hts (.fieldLink RX8 66 "CellarPushers" "thePlan" "LCellarPushers$Ways;") (by decide +kernel)) (fun _ h9 => h9) rfl dX8_plan_1 ?_
  refine lv_iload_n hx hb dX8_plan_4 rfl (lv_at hl 1 rfl) ?_
  refine vp_callSi (qV_R (n := 1) (As := [.int x]) (rest := []) (wc := [(pn, .inr (7, [.int 0, .ref pnw])), (pnw, .inl (kI, 400, .inl (fun _ => 0)))]) ⟨hx, hb, hml, hown, hts⟩ hK hN hP [1, 2] rfl (k_X7_wayAt l D kI kZ kJ pn pnw x) gX8_plan_X7_wayAt rfl rfl rfl (by decide +kernel) ⟨(Nat.le_of_ble_eq_true rfl), (Nat.le_of_ble_eq_true rfl)⟩ 1 7 rfl rfl rfl rfl hl.1 rfl (Nat.le_of_ble_eq_true rfl) dX8_plan_5 ⟨(Nat.le_of_ble_eq_true rfl), (Nat.le_of_ble_eq_true rfl)⟩).run (fun r hw => ?_)
  obtain rfl := hw
  exact W.iret (v := (-2)) hx hb hr (fun t ht hW => ⟨_, rfl, rfl, ht⟩) (fun q hq => by cases hq) dX8_plan_8
set_option maxHeartbeats 4000000 in
set_option maxRecDepth 100000 in
theorem k_X8_follow (l : Launch) (D : va_G) (kI kZ kJ : ClassId)  (xo g sc tr tl wk pr pi se pn tp kd rw ms : Nat) (bw bh : Nat) (hbw : bw ≤ 8) (hbh : bh ≤ 8) (tm tb ts tq wf wq pnw tpw pp pq : Nat) (sz : Nat) : Met l yX8_follow wsX8_follow ({ frames := 1, cells := 0, slots := 0, locals := 23 }) (qW D kI kZ kJ [(xo, .inr (8, [.ref g, .ref sc, .ref tr, .ref tl, .ref wk, .ref pr, .ref pi, .ref se, .ref pn, .ref tp, .int (-1)])), (g, .inr (0, [.int (nI bw), .int (nI bh), .long 0, .ref kd, .ref rw, .ref ms])), (sc, .inr (3, [.int (-1), .long 0, .int 0, .int 0])), (tr, .inr (3, [.int (-1), .long 0, .int 0, .int 0])), (pn, .inr (7, [.int 0, .ref pnw]))] sz [.ref xo]) (va_Qi (fun (r : Int32) (u : Unit) => r = -2) (qB D (fun u : Unit => []) (va_A [(xo, .inr (8, [.ref g, .ref sc, .ref tr, .ref tl, .ref wk, .ref pr, .ref pi, .ref se, .ref pn, .ref tp, .int (-1)])), (g, .inr (0, [.int (nI bw), .int (nI bh), .long 0, .ref kd, .ref rw, .ref ms])), (sc, .inr (3, [.int (-1), .long 0, .int 0, .int 0])), (tr, .inr (3, [.int (-1), .long 0, .int 0, .int 0])), (pn, .inr (7, [.int 0, .ref pnw]))] sz)) (va_A [(xo, .inr (8, [.ref g, .ref sc, .ref tr, .ref tl, .ref wk, .ref pr, .ref pi, .ref se, .ref pn, .ref tp, .int (-1)])), (g, .inr (0, [.int (nI bw), .int (nI bh), .long 0, .ref kd, .ref rw, .ref ms])), (sc, .inr (3, [.int (-1), .long 0, .int 0, .int 0])), (tr, .inr (3, [.int (-1), .long 0, .int 0, .int 0])), (pn, .inr (7, [.int 0, .ref pnw]))] sz)) 0 0 (va_A [(xo, .inr (8, [.ref g, .ref sc, .ref tr, .ref tl, .ref wk, .ref pr, .ref pi, .ref se, .ref pn, .ref tp, .int (-1)])), (g, .inr (0, [.int (nI bw), .int (nI bh), .long 0, .ref kd, .ref rw, .ref ms])), (sc, .inr (3, [.int (-1), .long 0, .int 0, .int 0])), (tr, .inr (3, [.int (-1), .long 0, .int 0, .int 0])), (pn, .inr (7, [.int 0, .ref pnw]))] sz) := by
  refine Met.ofW (cc := cX8_follow) (maxL := 2) (ret := (some .int)) (by decide) rfl ?_
  intro p e s m args below meth c s₁ B hml hv
  obtain ⟨rfl, hsz, hP, hK, hD0, hN⟩ := hv
  have hx := B.exec
  have hb := B.bytes
  have hr := B.returns
  have hts := atoms_spec (ws := wsX8_follow) B.pre
  have hown : s.vm.findClass RX8 = some m.cls := findClass_of_methodNamed B.named
  have hlocks := B.notSynchronized
  subst hsz
  have hD := hD0.self (sz := s.heap.size)
  generalize hAe : va_A [(xo, .inr (8, [.ref g, .ref sc, .ref tr, .ref tl, .ref wk, .ref pr, .ref pi, .ref se, .ref pn, .ref tp, .int (-1)])), (g, .inr (0, [.int (nI bw), .int (nI bh), .long 0, .ref kd, .ref rw, .ref ms])), (sc, .inr (3, [.int (-1), .long 0, .int 0, .int 0])), (tr, .inr (3, [.int (-1), .long 0, .int 0, .int 0])), (pn, .inr (7, [.int 0, .ref pnw]))] s.heap.size = A at hD ⊢
  have hA : ∀ q : Nat, s.heap.size ≤ q → A q := fun q h => by rw [← hAe]; exact Or.inr h
  have hS : va_S A s.heap s.heap [] := va_S.rf
  have hP : va_P D vwCl [(xo, .inr (8, [.ref g, .ref sc, .ref tr, .ref tl, .ref wk, .ref pr, .ref pi, .ref se, .ref pn, .ref tp, .int (-1)])), (g, .inr (0, [.int (nI bw), .int (nI bh), .long 0, .ref kd, .ref rw, .ref ms])), (sc, .inr (3, [.int (-1), .long 0, .int 0, .int 0])), (tr, .inr (3, [.int (-1), .long 0, .int 0, .int 0])), (pn, .inr (7, [.int 0, .ref pnw]))] s.heap := hP
  have hl := lv_entry ([.ref xo]) (n := 2) (Nat.le_of_ble_eq_true rfl)
  rw [lg_entry_eq]
  generalize (lg_sl ([.ref xo]) ++ List.replicate (2 - (lg_sl ([.ref xo])).length) Slot.unset).toArray = ls at hl ⊢
  have hl : lv_has ls 2 [(0, .ref xo)] := hl
  refine lv_aload_n hx hb dX8_follow_0 rfl (lv_at hl 0 rfl) ?_
  refine va_get (D := D) (ci := 8) (v := .ref tr) (C := RX8) (T := TX8) (N := 11) hx hb hts (by decide +kernel) hown hK hP 0 rfl rfl 2 (by decide) (hts (.fieldLink RX8 25 "CellarPushers" "trial" "LCellarPushers$Scene;") (by decide +kernel)) (fun _ h9 => h9) rfl dX8_follow_1 ?_
  refine lv_aload_n hx hb dX8_follow_4 rfl (lv_at hl 0 rfl) ?_
  refine va_get (D := D) (ci := 8) (v := .ref sc) (C := RX8) (T := TX8) (N := 11) hx hb hts (by decide +kernel) hown hK hP 0 rfl rfl 1 (by decide) (hts (.fieldLink RX8 21 "CellarPushers" "scene" "LCellarPushers$Scene;") (by decide +kernel)) (fun _ h9 => h9) rfl dX8_follow_5 ?_
  refine qc_v (wr := [(xo, .inr (8, [.ref g, .ref sc, .ref tr, .ref tl, .ref wk, .ref pr, .ref pi, .ref se, .ref pn, .ref tp, .int (-1)])), (g, .inr (0, [.int (nI bw), .int (nI bh), .long 0, .ref kd, .ref rw, .ref ms])), (pn, .inr (7, [.int 0, .ref pnw]))]) (qV_W (n := 1) (As := [.ref sc]) (rest := []) (wc := [(tr, .inr (3, [.int (-1), .long 0, .int 0, .int 0])), (sc, .inr (3, [.int (-1), .long 0, .int 0, .int 0]))]) ⟨hx, hb, hml, hown, hts⟩ hK hN hP hD [3, 2] rfl rfl (by decide) (k_X3_become l D kI kZ kJ tr sc s.heap.size) gX8_follow_X3_become rfl rfl rfl (by decide +kernel) ⟨(Nat.le_of_ble_eq_true rfl), (Nat.le_of_ble_eq_true rfl)⟩ 3 3 rfl rfl rfl rfl hl.1 rfl (Nat.le_of_ble_eq_true rfl) dX8_follow_8 ⟨(Nat.le_of_ble_eq_true rfl), (Nat.le_of_ble_eq_true rfl)⟩) hP hD hS hA [3, 2] [0, 1, 4] rfl rfl (by decide) (by decide) (fun u H locs hw hP hD hS => ?_)
  have hP : va_P D vwCl [(xo, .inr (8, [.ref g, .ref sc, .ref tr, .ref tl, .ref wk, .ref pr, .ref pi, .ref se, .ref pn, .ref tp, .int (-1)])), (g, .inr (0, [.int (nI bw), .int (nI bh), .long 0, .ref kd, .ref rw, .ref ms])), (pn, .inr (7, [.int 0, .ref pnw])), (tr, .inr (3, [.int (-1), .long 0, .int 0, .int 0])), (sc, .inr (3, [.int (-1), .long 0, .int 0, .int 0]))] H := hP
  have hD : va_D A [(xo, .inr (8, [.ref g, .ref sc, .ref tr, .ref tl, .ref wk, .ref pr, .ref pi, .ref se, .ref pn, .ref tp, .int (-1)])), (g, .inr (0, [.int (nI bw), .int (nI bh), .long 0, .ref kd, .ref rw, .ref ms])), (pn, .inr (7, [.int 0, .ref pnw])), (tr, .inr (3, [.int (-1), .long 0, .int 0, .int 0])), (sc, .inr (3, [.int (-1), .long 0, .int 0, .int 0]))] := hD
  refine lv_aload_n hx hb dX8_follow_11 rfl (lv_at hl 0 rfl) ?_
  refine va_get (D := D) (ci := 8) (v := .ref tr) (C := RX8) (T := TX8) (N := 11) hx hb hts (by decide +kernel) hown hK hP 0 rfl rfl 2 (by decide) (hts (.fieldLink RX8 25 "CellarPushers" "trial" "LCellarPushers$Scene;") (by decide +kernel)) (fun _ h9 => h9) rfl dX8_follow_12 ?_
  refine lv_aload_n hx hb dX8_follow_15 rfl (lv_at hl 0 rfl) ?_
  refine va_get (D := D) (ci := 8) (v := .ref g) (C := RX8) (T := TX8) (N := 11) hx hb hts (by decide +kernel) hown hK hP 0 rfl rfl 0 (by decide) (hts (.fieldLink RX8 12 "CellarPushers" "ground" "LCellarPushers$Ground;") (by decide +kernel)) (fun _ h9 => h9) rfl dX8_follow_16 ?_
  refine lv_aload_n hx hb dX8_follow_19 rfl (lv_at hl 0 rfl) ?_
  refine va_get (D := D) (ci := 8) (v := .ref pn) (C := RX8) (T := TX8) (N := 11) hx hb hts (by decide +kernel) hown hK hP 0 rfl rfl 8 (by decide) (hts (.fieldLink RX8 66 "CellarPushers" "thePlan" "LCellarPushers$Ways;") (by decide +kernel)) (fun _ h9 => h9) rfl dX8_follow_20 ?_
  refine vp_callSi (qV_R (n := 2) (As := [.ref g, .ref pn]) (rest := []) (wc := [(pn, .inr (7, [.int 0, .ref pnw]))]) ⟨hx, hb, hml, hown, hts⟩ hK hN hP [2] rfl (k_X3_advanceBy l D kI kZ kJ tr g pn pnw) gX8_follow_X3_advanceBy rfl rfl rfl (by decide +kernel) ⟨(Nat.le_of_ble_eq_true rfl), (Nat.le_of_ble_eq_true rfl)⟩ 3 3 rfl rfl rfl rfl hl.1 rfl (Nat.le_of_ble_eq_true rfl) dX8_follow_23 ⟨(Nat.le_of_ble_eq_true rfl), (Nat.le_of_ble_eq_true rfl)⟩).run (fun r hw => ?_)
  obtain rfl := hw
  refine lv_istore_n (lv' := [(1, .int 0), (0, .ref xo)]) hx hb dX8_follow_26 rfl hl (by decide) rfl (fun ls hl => ?_)
  refine lv_iload_n hx hb dX8_follow_27 rfl (lv_at hl 0 rfl) ?_
  refine lv_if_eq (tgt := 42) hx hb dX8_follow_28 (by decide) (fun _ => ?_) (fun h9 => absurd (by decide : (0 : Int32) = (0 : Int32)) h9)
  refine lv_bipush (v := (-2)) hx hb dX8_follow_42 (by decide) ?_
  have hP9 := hP.sub (ws' := []) [] rfl
  have hD9 := hD.sub (ws' := []) [] (by decide) rfl
  exact W.iret (v := (-2)) hx hb hr (fun t ht hW => ⟨⟨_, (), rfl, rfl, ⟨by rw [ht]; exact hP9, hD9⟩⟩, hS.F ht⟩) hS.2.2 dX8_follow_44
set_option maxHeartbeats 4000000 in
set_option maxRecDepth 100000 in
theorem k_X8_tell (l : Launch) (D : va_G) (kI kZ kJ : ClassId)  (xo g sc tr tl wk pr pi se pn tp kd rw ms : Nat) (bw bh : Nat) (hbw : bw ≤ 8) (hbh : bh ≤ 8) (tm tb ts tq wf wq pnw tpw pp pq : Nat) (x : Int32) (sz : Nat) : Met l yX8_tell wsX8_tell ({ frames := 1, cells := 0, slots := 0, locals := 21 }) (qW D kI kZ kJ [(xo, .inr (8, [.ref g, .ref sc, .ref tr, .ref tl, .ref wk, .ref pr, .ref pi, .ref se, .ref pn, .ref tp, .int (-1)])), (tp, .inr (7, [.int 0, .ref tpw])), (tpw, .inl (kI, 400, .inl (fun _ => 0)))] sz [.ref xo, .int x]) (va_Qi (fun (r : Int32) (u : Unit) => q_if (q_way x) 1 (-2) r) (qB D (fun u : Unit => []) (va_A [(xo, .inr (8, [.ref g, .ref sc, .ref tr, .ref tl, .ref wk, .ref pr, .ref pi, .ref se, .ref pn, .ref tp, .int (-1)])), (tp, .inr (7, [.int 0, .ref tpw])), (tpw, .inl (kI, 400, .inl (fun _ => 0)))] sz)) (va_A [(xo, .inr (8, [.ref g, .ref sc, .ref tr, .ref tl, .ref wk, .ref pr, .ref pi, .ref se, .ref pn, .ref tp, .int (-1)])), (tp, .inr (7, [.int 0, .ref tpw])), (tpw, .inl (kI, 400, .inl (fun _ => 0)))] sz)) 0 0 (va_A [(xo, .inr (8, [.ref g, .ref sc, .ref tr, .ref tl, .ref wk, .ref pr, .ref pi, .ref se, .ref pn, .ref tp, .int (-1)])), (tp, .inr (7, [.int 0, .ref tpw])), (tpw, .inl (kI, 400, .inl (fun _ => 0)))] sz) := by
  refine Met.ofW (cc := cX8_tell) (maxL := 2) (ret := (some .int)) (by decide) rfl ?_
  intro p e s m args below meth c s₁ B hml hv
  obtain ⟨rfl, hsz, hP, hK, hD0, hN⟩ := hv
  have hx := B.exec
  have hb := B.bytes
  have hr := B.returns
  have hts := atoms_spec (ws := wsX8_tell) B.pre
  have hown : s.vm.findClass RX8 = some m.cls := findClass_of_methodNamed B.named
  have hlocks := B.notSynchronized
  subst hsz
  have hD := hD0.self (sz := s.heap.size)
  generalize hAe : va_A [(xo, .inr (8, [.ref g, .ref sc, .ref tr, .ref tl, .ref wk, .ref pr, .ref pi, .ref se, .ref pn, .ref tp, .int (-1)])), (tp, .inr (7, [.int 0, .ref tpw])), (tpw, .inl (kI, 400, .inl (fun _ => 0)))] s.heap.size = A at hD ⊢
  have hA : ∀ q : Nat, s.heap.size ≤ q → A q := fun q h => by rw [← hAe]; exact Or.inr h
  have hS : va_S A s.heap s.heap [] := va_S.rf
  have hP : va_P D vwCl [(xo, .inr (8, [.ref g, .ref sc, .ref tr, .ref tl, .ref wk, .ref pr, .ref pi, .ref se, .ref pn, .ref tp, .int (-1)])), (tp, .inr (7, [.int 0, .ref tpw])), (tpw, .inl (kI, 400, .inl (fun _ => 0)))] s.heap := hP
  have hl := lv_entry ([.ref xo, .int x]) (n := 2) (Nat.le_of_ble_eq_true rfl)
  rw [lg_entry_eq]
  generalize (lg_sl ([.ref xo, .int x]) ++ List.replicate (2 - (lg_sl ([.ref xo, .int x])).length) Slot.unset).toArray = ls at hl ⊢
  have hl : lv_has ls 2 [(0, .ref xo), (1, .int x)] := hl
  refine lv_iload_n hx hb dX8_tell_0 rfl (lv_at hl 1 rfl) ?_
  refine vp_callSi (qS_R (n := 1) (As := [.int x]) (rest := []) (wc := []) ⟨hx, hb, hml, hown, hts⟩ hK hN hP [] rfl (k_X8_isWay l D kI kZ kJ x) gX8_tell_X8_isWay rfl rfl rfl (by decide +kernel) ⟨(Nat.le_of_ble_eq_true rfl), (Nat.le_of_ble_eq_true rfl)⟩ rfl hl.1 rfl (Nat.le_of_ble_eq_true rfl) dX8_tell_1 ⟨(Nat.le_of_ble_eq_true rfl), (Nat.le_of_ble_eq_true rfl)⟩).run (fun r hw => ?_)
  rcases hw with ⟨hway, rfl⟩ | ⟨hway, rfl⟩
  · skip
    refine lv_if_eq (tgt := 20) hx hb dX8_tell_4 (by decide) (fun h9 => absurd h9 (by decide : ¬ ((1 : Int32) = (0 : Int32)))) (fun _ => ?_)
    refine lv_aload_n hx hb dX8_tell_7 rfl (lv_at hl 0 rfl) ?_
    refine va_get (D := D) (ci := 8) (v := .ref tp) (C := RX8) (T := TX8) (N := 11) hx hb hts (by decide +kernel) hown hK hP 0 rfl rfl 9 (by decide) (hts (.fieldLink RX8 70 "CellarPushers" "tape" "LCellarPushers$Ways;") (by decide +kernel)) (fun _ h9 => h9) rfl dX8_tell_8 ?_
    refine va_get (D := D) (ci := 7) (v := .int 0) (C := RX7) (T := TX7) (N := 2) hx hb hts (by decide +kernel) hown hK hP 1 rfl rfl 0 (by decide) (hts (.fieldLink RX8 221 "CellarPushers$Ways" "size" "I") (by decide +kernel)) (fun _ h9 => h9) rfl dX8_tell_11 ?_
    refine lv_sipush (v := 400) hx hb dX8_tell_14 (by decide) ?_
    refine lv_icmp_lt (tgt := 23) hx hb dX8_tell_17 (by decide) (fun _ => ?_) (fun h9 => absurd (by decide : (0 : Int32) < (400 : Int32)) h9)
    refine lv_aload_n hx hb dX8_tell_23 rfl (lv_at hl 0 rfl) ?_
    refine va_get (D := D) (ci := 8) (v := .ref tp) (C := RX8) (T := TX8) (N := 11) hx hb hts (by decide +kernel) hown hK hP 0 rfl rfl 9 (by decide) (hts (.fieldLink RX8 70 "CellarPushers" "tape" "LCellarPushers$Ways;") (by decide +kernel)) (fun _ h9 => h9) rfl dX8_tell_24 ?_
    refine lv_iload_n hx hb dX8_tell_27 rfl (lv_at hl 1 rfl) ?_
    refine qc_v (wr := [(xo, .inr (8, [.ref g, .ref sc, .ref tr, .ref tl, .ref wk, .ref pr, .ref pi, .ref se, .ref pn, .ref tp, .int (-1)]))]) (qV_W (n := 1) (As := [.int x]) (rest := []) (wc := [(tp, .inr (7, [.int 0, .ref tpw])), (tpw, .inl (kI, 400, .inl (fun _ => 0)))]) ⟨hx, hb, hml, hown, hts⟩ hK hN hP hD [1, 2] rfl rfl (by decide) (k_X7_append l D kI kZ kJ tp tpw x s.heap.size) gX8_tell_X7_append rfl rfl rfl (by decide +kernel) ⟨(Nat.le_of_ble_eq_true rfl), (Nat.le_of_ble_eq_true rfl)⟩ 1 7 rfl rfl rfl rfl hl.1 rfl (Nat.le_of_ble_eq_true rfl) dX8_tell_28 ⟨(Nat.le_of_ble_eq_true rfl), (Nat.le_of_ble_eq_true rfl)⟩) hP hD hS hA [1, 2] [0] rfl rfl (by decide) (by decide) (fun u H locs hw hP hD hS => ?_)
    have hP : va_P D vwCl [(xo, .inr (8, [.ref g, .ref sc, .ref tr, .ref tl, .ref wk, .ref pr, .ref pi, .ref se, .ref pn, .ref tp, .int (-1)])), (tp, .inr (7, [.int 1, .ref tpw]))] H := hP
    have hD : va_D A [(xo, .inr (8, [.ref g, .ref sc, .ref tr, .ref tl, .ref wk, .ref pr, .ref pi, .ref se, .ref pn, .ref tp, .int (-1)])), (tp, .inr (7, [.int 1, .ref tpw]))] := hD
    refine lv_aload_n hx hb dX8_tell_31 rfl (lv_at hl 0 rfl) ?_
    refine va_get (D := D) (ci := 8) (v := .ref tp) (C := RX8) (T := TX8) (N := 11) hx hb hts (by decide +kernel) hown hK hP 0 rfl rfl 9 (by decide) (hts (.fieldLink RX8 70 "CellarPushers" "tape" "LCellarPushers$Ways;") (by decide +kernel)) (fun _ h9 => h9) rfl dX8_tell_32 ?_
    refine va_get (D := D) (ci := 7) (v := .int 1) (C := RX7) (T := TX7) (N := 2) hx hb hts (by decide +kernel) hown hK hP 1 rfl rfl 0 (by decide) (hts (.fieldLink RX8 221 "CellarPushers$Ways" "size" "I") (by decide +kernel)) (fun _ h9 => h9) rfl dX8_tell_35 ?_
    have hP9 := hP.sub (ws' := []) [] rfl
    have hD9 := hD.sub (ws' := []) [] (by decide) rfl
    exact W.iret (v := 1) hx hb hr (fun t ht hW => ⟨⟨_, (), rfl, (by first | exact q_ift hway | exact q_iff hway), ⟨by rw [ht]; exact hP9, hD9⟩⟩, hS.F ht⟩) hS.2.2 dX8_tell_38
  · skip
    refine lv_if_eq (tgt := 20) hx hb dX8_tell_4 (by decide) (fun _ => ?_) (fun h9 => absurd (by decide : (0 : Int32) = (0 : Int32)) h9)
    refine lv_bipush (v := (-2)) hx hb dX8_tell_20 (by decide) ?_
    have hP9 := hP.sub (ws' := []) [] rfl
    have hD9 := hD.sub (ws' := []) [] (by decide) rfl
    exact W.iret (v := (-2)) hx hb hr (fun t ht hW => ⟨⟨_, (), rfl, (by first | exact q_ift hway | exact q_iff hway), ⟨by rw [ht]; exact hP9, hD9⟩⟩, hS.F ht⟩) hS.2.2 dX8_tell_22
set_option maxHeartbeats 4000000 in
set_option maxRecDepth 100000 in
theorem k_X8_copy (l : Launch) (D : va_G) (kI kZ kJ : ClassId)  (xo g sc tr tl wk pr pi se pn tp kd rw ms : Nat) (bw bh : Nat) (hbw : bw ≤ 8) (hbh : bh ≤ 8) (tm tb ts tq wf wq pnw tpw pp pq : Nat) (sz : Nat) : Met l yX8_copy wsX8_copy ({ frames := 1, cells := 0, slots := 0, locals := 22 }) (qW D kI kZ kJ [(xo, .inr (8, [.ref g, .ref sc, .ref tr, .ref tl, .ref wk, .ref pr, .ref pi, .ref se, .ref pn, .ref tp, .int (-1)])), (pn, .inr (7, [.int 0, .ref pnw])), (tp, .inr (7, [.int 0, .ref tpw]))] sz [.ref xo]) (va_Qi (fun (r : Int32) (u : Unit) => r = 0) (qB D (fun u : Unit => []) (va_A [(xo, .inr (8, [.ref g, .ref sc, .ref tr, .ref tl, .ref wk, .ref pr, .ref pi, .ref se, .ref pn, .ref tp, .int (-1)])), (pn, .inr (7, [.int 0, .ref pnw])), (tp, .inr (7, [.int 0, .ref tpw]))] sz)) (va_A [(xo, .inr (8, [.ref g, .ref sc, .ref tr, .ref tl, .ref wk, .ref pr, .ref pi, .ref se, .ref pn, .ref tp, .int (-1)])), (pn, .inr (7, [.int 0, .ref pnw])), (tp, .inr (7, [.int 0, .ref tpw]))] sz)) 0 0 (va_A [(xo, .inr (8, [.ref g, .ref sc, .ref tr, .ref tl, .ref wk, .ref pr, .ref pi, .ref se, .ref pn, .ref tp, .int (-1)])), (pn, .inr (7, [.int 0, .ref pnw])), (tp, .inr (7, [.int 0, .ref tpw]))] sz) := by
  refine Met.ofW (cc := cX8_copy) (maxL := 1) (ret := (some .int)) (by decide) rfl ?_
  intro p e s m args below meth c s₁ B hml hv
  obtain ⟨rfl, hsz, hP, hK, hD0, hN⟩ := hv
  have hx := B.exec
  have hb := B.bytes
  have hr := B.returns
  have hts := atoms_spec (ws := wsX8_copy) B.pre
  have hown : s.vm.findClass RX8 = some m.cls := findClass_of_methodNamed B.named
  have hlocks := B.notSynchronized
  subst hsz
  have hD := hD0.self (sz := s.heap.size)
  generalize hAe : va_A [(xo, .inr (8, [.ref g, .ref sc, .ref tr, .ref tl, .ref wk, .ref pr, .ref pi, .ref se, .ref pn, .ref tp, .int (-1)])), (pn, .inr (7, [.int 0, .ref pnw])), (tp, .inr (7, [.int 0, .ref tpw]))] s.heap.size = A at hD ⊢
  have hA : ∀ q : Nat, s.heap.size ≤ q → A q := fun q h => by rw [← hAe]; exact Or.inr h
  have hS : va_S A s.heap s.heap [] := va_S.rf
  have hP : va_P D vwCl [(xo, .inr (8, [.ref g, .ref sc, .ref tr, .ref tl, .ref wk, .ref pr, .ref pi, .ref se, .ref pn, .ref tp, .int (-1)])), (pn, .inr (7, [.int 0, .ref pnw])), (tp, .inr (7, [.int 0, .ref tpw]))] s.heap := hP
  have hl := lv_entry ([.ref xo]) (n := 1) (Nat.le_of_ble_eq_true rfl)
  rw [lg_entry_eq]
  generalize (lg_sl ([.ref xo]) ++ List.replicate (1 - (lg_sl ([.ref xo])).length) Slot.unset).toArray = ls at hl ⊢
  have hl : lv_has ls 1 [(0, .ref xo)] := hl
  refine lv_aload_n hx hb dX8_copy_0 rfl (lv_at hl 0 rfl) ?_
  refine va_get (D := D) (ci := 8) (v := .ref pn) (C := RX8) (T := TX8) (N := 11) hx hb hts (by decide +kernel) hown hK hP 0 rfl rfl 8 (by decide) (hts (.fieldLink RX8 66 "CellarPushers" "thePlan" "LCellarPushers$Ways;") (by decide +kernel)) (fun _ h9 => h9) rfl dX8_copy_1 ?_
  refine va_get (D := D) (ci := 7) (v := .int 0) (C := RX7) (T := TX7) (N := 2) hx hb hts (by decide +kernel) hown hK hP 1 rfl rfl 0 (by decide) (hts (.fieldLink RX8 221 "CellarPushers$Ways" "size" "I") (by decide +kernel)) (fun _ h9 => h9) rfl dX8_copy_4 ?_
  refine lv_sipush (v := 400) hx hb dX8_copy_7 (by decide) ?_
  refine lv_icmp_le (tgt := 16) hx hb dX8_copy_10 (by decide) (fun _ => ?_) (fun h9 => absurd (by decide : (0 : Int32) ≤ (400 : Int32)) h9)
  refine lv_aload_n hx hb dX8_copy_16 rfl (lv_at hl 0 rfl) ?_
  refine va_get (D := D) (ci := 8) (v := .ref tp) (C := RX8) (T := TX8) (N := 11) hx hb hts (by decide +kernel) hown hK hP 0 rfl rfl 9 (by decide) (hts (.fieldLink RX8 70 "CellarPushers" "tape" "LCellarPushers$Ways;") (by decide +kernel)) (fun _ h9 => h9) rfl dX8_copy_17 ?_
  refine lv_aload_n hx hb dX8_copy_20 rfl (lv_at hl 0 rfl) ?_
  refine va_get (D := D) (ci := 8) (v := .ref pn) (C := RX8) (T := TX8) (N := 11) hx hb hts (by decide +kernel) hown hK hP 0 rfl rfl 8 (by decide) (hts (.fieldLink RX8 66 "CellarPushers" "thePlan" "LCellarPushers$Ways;") (by decide +kernel)) (fun _ h9 => h9) rfl dX8_copy_21 ?_
  refine qc_v (wr := [(xo, .inr (8, [.ref g, .ref sc, .ref tr, .ref tl, .ref wk, .ref pr, .ref pi, .ref se, .ref pn, .ref tp, .int (-1)]))]) (qV_W (n := 1) (As := [.ref pn]) (rest := []) (wc := [(tp, .inr (7, [.int 0, .ref tpw])), (pn, .inr (7, [.int 0, .ref pnw]))]) ⟨hx, hb, hml, hown, hts⟩ hK hN hP hD [2, 1] rfl rfl (by decide) (k_X7_become l D kI kZ kJ tp tpw pn pnw s.heap.size) gX8_copy_X7_become rfl rfl rfl (by decide +kernel) ⟨(Nat.le_of_ble_eq_true rfl), (Nat.le_of_ble_eq_true rfl)⟩ 2 7 rfl rfl rfl rfl hl.1 rfl (Nat.le_of_ble_eq_true rfl) dX8_copy_24 ⟨(Nat.le_of_ble_eq_true rfl), (Nat.le_of_ble_eq_true rfl)⟩) hP hD hS hA [2, 1] [0] rfl rfl (by decide) (by decide) (fun u H locs hw hP hD hS => ?_)
  have hP : va_P D vwCl [(xo, .inr (8, [.ref g, .ref sc, .ref tr, .ref tl, .ref wk, .ref pr, .ref pi, .ref se, .ref pn, .ref tp, .int (-1)])), (tp, .inr (7, [.int 0, .ref tpw]))] H := hP
  have hD : va_D A [(xo, .inr (8, [.ref g, .ref sc, .ref tr, .ref tl, .ref wk, .ref pr, .ref pi, .ref se, .ref pn, .ref tp, .int (-1)])), (tp, .inr (7, [.int 0, .ref tpw]))] := hD
  refine lv_aload_n hx hb dX8_copy_27 rfl (lv_at hl 0 rfl) ?_
  refine va_get (D := D) (ci := 8) (v := .ref tp) (C := RX8) (T := TX8) (N := 11) hx hb hts (by decide +kernel) hown hK hP 0 rfl rfl 9 (by decide) (hts (.fieldLink RX8 70 "CellarPushers" "tape" "LCellarPushers$Ways;") (by decide +kernel)) (fun _ h9 => h9) rfl dX8_copy_28 ?_
  refine va_get (D := D) (ci := 7) (v := .int 0) (C := RX7) (T := TX7) (N := 2) hx hb hts (by decide +kernel) hown hK hP 1 rfl rfl 0 (by decide) (hts (.fieldLink RX8 221 "CellarPushers$Ways" "size" "I") (by decide +kernel)) (fun _ h9 => h9) rfl dX8_copy_31 ?_
  have hP9 := hP.sub (ws' := []) [] rfl
  have hD9 := hD.sub (ws' := []) [] (by decide) rfl
  exact W.iret (v := 0) hx hb hr (fun t ht hW => ⟨⟨_, (), rfl, rfl, ⟨by rw [ht]; exact hP9, hD9⟩⟩, hS.F ht⟩) hS.2.2 dX8_copy_34
set_option maxHeartbeats 4000000 in
set_option maxRecDepth 100000 in
theorem k_X8_forge (l : Launch) (D : va_G) (kI kZ kJ : ClassId)  (xo g sc tr tl wk pr pi se pn tp kd rw ms : Nat) (bw bh : Nat) (hbw : bw ≤ 8) (hbh : bh ≤ 8) (tm tb ts tq wf wq pnw tpw pp pq : Nat) (x v : Int32) : Met l yX8_forge wsX8_forge ({ frames := 2, cells := 0, slots := 0, locals := 42 }) (qR D kI kZ kJ [(xo, .inr (8, [.ref g, .ref sc, .ref tr, .ref tl, .ref wk, .ref pr, .ref pi, .ref se, .ref pn, .ref tp, .int (-1)])), (tp, .inr (7, [.int 0, .ref tpw])), (tpw, .inl (kI, 400, .inl (fun _ => 0)))] [.ref xo, .int x, .int v]) (vp_Si (fun r : Int32 => r = -2)) 0 0 (fun _ => False) := by
  refine Met.ofW (cc := cX8_forge) (maxL := 4) (ret := (some .int)) (by decide) rfl ?_
  intro p e s m args below meth c s₁ B hml hv
  obtain ⟨rfl, hP, hK, hN⟩ := hv
  have hx := B.exec
  have hb := B.bytes
  have hr := B.returns
  have hts := atoms_spec (ws := wsX8_forge) B.pre
  have hown : s.vm.findClass RX8 = some m.cls := findClass_of_methodNamed B.named
  have hlocks := B.notSynchronized
  have hP : va_P D vwCl [(xo, .inr (8, [.ref g, .ref sc, .ref tr, .ref tl, .ref wk, .ref pr, .ref pi, .ref se, .ref pn, .ref tp, .int (-1)])), (tp, .inr (7, [.int 0, .ref tpw])), (tpw, .inl (kI, 400, .inl (fun _ => 0)))] s.heap := hP
  have hl := lv_entry ([.ref xo, .int x, .int v]) (n := 4) (Nat.le_of_ble_eq_true rfl)
  rw [lg_entry_eq]
  generalize (lg_sl ([.ref xo, .int x, .int v]) ++ List.replicate (4 - (lg_sl ([.ref xo, .int x, .int v])).length) Slot.unset).toArray = ls at hl ⊢
  have hl : lv_has ls 4 [(0, .ref xo), (1, .int x), (2, .int v)] := hl
  refine lv_aload_n hx hb dX8_forge_0 rfl (lv_at hl 0 rfl) ?_
  refine va_get (D := D) (ci := 8) (v := .ref tp) (C := RX8) (T := TX8) (N := 11) hx hb hts (by decide +kernel) hown hK hP 0 rfl rfl 9 (by decide) (hts (.fieldLink RX8 70 "CellarPushers" "tape" "LCellarPushers$Ways;") (by decide +kernel)) (fun _ h9 => h9) rfl dX8_forge_1 ?_
  refine lv_iload_n hx hb dX8_forge_4 rfl (lv_at hl 1 rfl) ?_
  refine vp_callSi (qV_R (n := 1) (As := [.int x]) (rest := []) (wc := [(tp, .inr (7, [.int 0, .ref tpw])), (tpw, .inl (kI, 400, .inl (fun _ => 0)))]) ⟨hx, hb, hml, hown, hts⟩ hK hN hP [1, 2] rfl (k_X7_wayAt l D kI kZ kJ tp tpw x) gX8_forge_X7_wayAt rfl rfl rfl (by decide +kernel) ⟨(Nat.le_of_ble_eq_true rfl), (Nat.le_of_ble_eq_true rfl)⟩ 1 7 rfl rfl rfl rfl hl.1 rfl (Nat.le_of_ble_eq_true rfl) dX8_forge_5 ⟨(Nat.le_of_ble_eq_true rfl), (Nat.le_of_ble_eq_true rfl)⟩).run (fun r hw => ?_)
  obtain rfl := hw
  refine lv_istore_n (lv' := [(3, .int (-2)), (0, .ref xo), (1, .int x), (2, .int v)]) hx hb dX8_forge_8 rfl hl (by decide) rfl (fun ls hl => ?_)
  refine lv_iload_n hx hb dX8_forge_9 rfl (lv_at hl 0 rfl) ?_
  refine lv_bipush (v := (-2)) hx hb dX8_forge_10 (by decide) ?_
  refine lv_icmp_eq (tgt := 22) hx hb dX8_forge_12 (by decide) (fun _ => ?_) (fun h9 => absurd (by decide : ((-2) : Int32) = ((-2) : Int32)) h9)
  refine lv_bipush (v := (-2)) hx hb dX8_forge_22 (by decide) ?_
  exact W.iret (v := (-2)) hx hb hr (fun t ht hW => ⟨_, rfl, rfl, ht⟩) (fun q hq => by cases hq) dX8_forge_24
set_option maxHeartbeats 4000000 in
set_option maxRecDepth 100000 in
theorem k_X8_hush (l : Launch) (D : va_G) (kI kZ kJ : ClassId)  (xo g sc tr tl wk pr pi se pn tp kd rw ms : Nat) (bw bh : Nat) (hbw : bw ≤ 8) (hbh : bh ≤ 8) (tm tb ts tq wf wq pnw tpw pp pq : Nat) (sz : Nat) : Met l yX8_hush wsX8_hush ({ frames := 0, cells := 0, slots := 0, locals := 0 }) (qW D kI kZ kJ [(xo, .inr (8, [.ref g, .ref sc, .ref tr, .ref tl, .ref wk, .ref pr, .ref pi, .ref se, .ref pn, .ref tp, .int (-1)])), (tp, .inr (7, [.int 0, .ref tpw]))] sz [.ref xo]) (va_Qi (fun (r : Int32) (u : Unit) => r = 0) (qB D (fun u : Unit => []) (va_A [(xo, .inr (8, [.ref g, .ref sc, .ref tr, .ref tl, .ref wk, .ref pr, .ref pi, .ref se, .ref pn, .ref tp, .int (-1)])), (tp, .inr (7, [.int 0, .ref tpw]))] sz)) (va_A [(xo, .inr (8, [.ref g, .ref sc, .ref tr, .ref tl, .ref wk, .ref pr, .ref pi, .ref se, .ref pn, .ref tp, .int (-1)])), (tp, .inr (7, [.int 0, .ref tpw]))] sz)) 0 0 (va_A [(xo, .inr (8, [.ref g, .ref sc, .ref tr, .ref tl, .ref wk, .ref pr, .ref pi, .ref se, .ref pn, .ref tp, .int (-1)])), (tp, .inr (7, [.int 0, .ref tpw]))] sz) := by
  refine Met.ofW (cc := cX8_hush) (maxL := 2) (ret := (some .int)) (by decide) rfl ?_
  intro p e s m args below meth c s₁ B hml hv
  obtain ⟨rfl, hsz, hP, hK, hD0, hN⟩ := hv
  have hx := B.exec
  have hb := B.bytes
  have hr := B.returns
  have hts := atoms_spec (ws := wsX8_hush) B.pre
  have hown : s.vm.findClass RX8 = some m.cls := findClass_of_methodNamed B.named
  have hlocks := B.notSynchronized
  subst hsz
  have hD := hD0.self (sz := s.heap.size)
  generalize hAe : va_A [(xo, .inr (8, [.ref g, .ref sc, .ref tr, .ref tl, .ref wk, .ref pr, .ref pi, .ref se, .ref pn, .ref tp, .int (-1)])), (tp, .inr (7, [.int 0, .ref tpw]))] s.heap.size = A at hD ⊢
  have hA : ∀ q : Nat, s.heap.size ≤ q → A q := fun q h => by rw [← hAe]; exact Or.inr h
  have hS : va_S A s.heap s.heap [] := va_S.rf
  have hP : va_P D vwCl [(xo, .inr (8, [.ref g, .ref sc, .ref tr, .ref tl, .ref wk, .ref pr, .ref pi, .ref se, .ref pn, .ref tp, .int (-1)])), (tp, .inr (7, [.int 0, .ref tpw]))] s.heap := hP
  have hl := lv_entry ([.ref xo]) (n := 2) (Nat.le_of_ble_eq_true rfl)
  rw [lg_entry_eq]
  generalize (lg_sl ([.ref xo]) ++ List.replicate (2 - (lg_sl ([.ref xo])).length) Slot.unset).toArray = ls at hl ⊢
  have hl : lv_has ls 2 [(0, .ref xo)] := hl
  refine lv_aload_n hx hb dX8_hush_0 rfl (lv_at hl 0 rfl) ?_
  refine va_get (D := D) (ci := 8) (v := .ref tp) (C := RX8) (T := TX8) (N := 11) hx hb hts (by decide +kernel) hown hK hP 0 rfl rfl 9 (by decide) (hts (.fieldLink RX8 70 "CellarPushers" "tape" "LCellarPushers$Ways;") (by decide +kernel)) (fun _ h9 => h9) rfl dX8_hush_1 ?_
  refine va_get (D := D) (ci := 7) (v := .int 0) (C := RX7) (T := TX7) (N := 2) hx hb hts (by decide +kernel) hown hK hP 1 rfl rfl 0 (by decide) (hts (.fieldLink RX8 221 "CellarPushers$Ways" "size" "I") (by decide +kernel)) (fun _ h9 => h9) rfl dX8_hush_4 ?_
  refine lv_istore_n (lv' := [(1, .int 0), (0, .ref xo)]) hx hb dX8_hush_7 rfl hl (by decide) rfl (fun ls hl => ?_)
  refine lv_aload_n hx hb dX8_hush_8 rfl (lv_at hl 1 rfl) ?_
  refine va_get (D := D) (ci := 8) (v := .ref tp) (C := RX8) (T := TX8) (N := 11) hx hb hts (by decide +kernel) hown hK hP 0 rfl rfl 9 (by decide) (hts (.fieldLink RX8 70 "CellarPushers" "tape" "LCellarPushers$Ways;") (by decide +kernel)) (fun _ h9 => h9) rfl dX8_hush_9 ?_
  refine lv_iconst (v := 0) hx hb dX8_hush_12 (by decide) ?_
  refine va_put (D := D) (ci := 7) (v := .int 0) (ty := .int) (C := RX7) (T := TX7) (N := 2) hx hb hts (by decide +kernel) tyX7 tyX7_ok nmX7 hown hK hP hD hS 1 rfl rfl 0 (by decide) (hts (.fieldLink RX8 221 "CellarPushers$Ways" "size" "I") (by decide +kernel)) (fun _ h9 => h9) rfl (by decide +kernel) rfl rfl (Nat.le_of_ble_eq_true rfl) dX8_hush_13 (fun H locs hP hD hS => ?_)
  have hP : va_P D vwCl [(xo, .inr (8, [.ref g, .ref sc, .ref tr, .ref tl, .ref wk, .ref pr, .ref pi, .ref se, .ref pn, .ref tp, .int (-1)])), (tp, .inr (7, [.int 0, .ref tpw]))] H := hP
  have hD : va_D A [(xo, .inr (8, [.ref g, .ref sc, .ref tr, .ref tl, .ref wk, .ref pr, .ref pi, .ref se, .ref pn, .ref tp, .int (-1)])), (tp, .inr (7, [.int 0, .ref tpw]))] := hD
  refine lv_iload_n hx hb dX8_hush_16 rfl (lv_at hl 0 rfl) ?_
  have hP9 := hP.sub (ws' := []) [] rfl
  have hD9 := hD.sub (ws' := []) [] (by decide) rfl
  exact W.iret (v := 0) hx hb hr (fun t ht hW => ⟨⟨_, (), rfl, rfl, ⟨by rw [ht]; exact hP9, hD9⟩⟩, hS.F ht⟩) hS.2.2 dX8_hush_17
set_option maxHeartbeats 4000000 in
set_option maxRecDepth 100000 in
theorem k_X8_check (l : Launch) (D : va_G) (kI kZ kJ : ClassId)  (xo g sc tr tl wk pr pi se pn tp kd rw ms : Nat) (bw bh : Nat) (hbw : bw ≤ 8) (hbh : bh ≤ 8) (tm tb ts tq wf wq pnw tpw pp pq : Nat) : Met l yX8_check wsX8_check ({ frames := 1, cells := 0, slots := 0, locals := 20 }) (qR D kI kZ kJ [(xo, .inr (8, [.ref g, .ref sc, .ref tr, .ref tl, .ref wk, .ref pr, .ref pi, .ref se, .ref pn, .ref tp, .int (-1)])), (sc, .inr (3, [.int (-1), .long 0, .int 0, .int 0]))] [.ref xo]) (vp_Si (fun r : Int32 => r = -2)) 0 0 (fun _ => False) := by
  refine Met.ofW (cc := cX8_check) (maxL := 3) (ret := (some .int)) (by decide) rfl ?_
  intro p e s m args below meth c s₁ B hml hv
  obtain ⟨rfl, hP, hK, hN⟩ := hv
  have hx := B.exec
  have hb := B.bytes
  have hr := B.returns
  have hts := atoms_spec (ws := wsX8_check) B.pre
  have hown : s.vm.findClass RX8 = some m.cls := findClass_of_methodNamed B.named
  have hlocks := B.notSynchronized
  have hP : va_P D vwCl [(xo, .inr (8, [.ref g, .ref sc, .ref tr, .ref tl, .ref wk, .ref pr, .ref pi, .ref se, .ref pn, .ref tp, .int (-1)])), (sc, .inr (3, [.int (-1), .long 0, .int 0, .int 0]))] s.heap := hP
  have hl := lv_entry ([.ref xo]) (n := 3) (Nat.le_of_ble_eq_true rfl)
  rw [lg_entry_eq]
  generalize (lg_sl ([.ref xo]) ++ List.replicate (3 - (lg_sl ([.ref xo])).length) Slot.unset).toArray = ls at hl ⊢
  have hl : lv_has ls 3 [(0, .ref xo)] := hl
  refine lv_aload_n hx hb dX8_check_0 rfl (lv_at hl 0 rfl) ?_
  refine va_get (D := D) (ci := 8) (v := .ref sc) (C := RX8) (T := TX8) (N := 11) hx hb hts (by decide +kernel) hown hK hP 0 rfl rfl 1 (by decide) (hts (.fieldLink RX8 21 "CellarPushers" "scene" "LCellarPushers$Scene;") (by decide +kernel)) (fun _ h9 => h9) rfl dX8_check_1 ?_
  refine vp_callSi (qV_R (n := 0) (As := []) (rest := []) (wc := [(sc, .inr (3, [.int (-1), .long 0, .int 0, .int 0]))]) ⟨hx, hb, hml, hown, hts⟩ hK hN hP [1] rfl (k_X3_hasMan l D kI kZ kJ sc) gX8_check_X3_hasMan rfl rfl rfl (by decide +kernel) ⟨(Nat.le_of_ble_eq_true rfl), (Nat.le_of_ble_eq_true rfl)⟩ 1 3 rfl rfl rfl rfl hl.1 rfl (Nat.le_of_ble_eq_true rfl) dX8_check_4 ⟨(Nat.le_of_ble_eq_true rfl), (Nat.le_of_ble_eq_true rfl)⟩).run (fun r hw => ?_)
  obtain rfl := hw
  refine lv_if_ne (tgt := 13) hx hb dX8_check_7 (by decide) (fun h9 => absurd h9 (by decide : ¬ (¬ (0 : Int32) = (0 : Int32)))) (fun _ => ?_)
  refine lv_bipush (v := (-2)) hx hb dX8_check_10 (by decide) ?_
  exact W.iret (v := (-2)) hx hb hr (fun t ht hW => ⟨_, rfl, rfl, ht⟩) (fun q hq => by cases hq) dX8_check_12
set_option maxHeartbeats 4000000 in
set_option maxRecDepth 100000 in
theorem k_X8_count (l : Launch) (D : va_G) (kI kZ kJ : ClassId)  (xo g sc tr tl wk pr pi se pn tp kd rw ms : Nat) (bw bh : Nat) (hbw : bw ≤ 8) (hbh : bh ≤ 8) (tm tb ts tq wf wq pnw tpw pp pq : Nat) (x : Int32) (sz : Nat) : Met l yX8_count wsX8_count ({ frames := 3, cells := 0, slots := 0, locals := 68 }) (qW D kI kZ kJ [(xo, .inr (8, [.ref g, .ref sc, .ref tr, .ref tl, .ref wk, .ref pr, .ref pi, .ref se, .ref pn, .ref tp, .int (-1)])), (g, .inr (0, [.int (nI bw), .int (nI bh), .long 0, .ref kd, .ref rw, .ref ms])), (kd, .inl (kI, 64, .inl (fun _ => 0))), (ms, .inl (kZ, 8, .inl (fun _ => 0))), (sc, .inr (3, [.int (-1), .long 0, .int 0, .int 0])), (tl, .inr (5, [.int 0, .int 0, .ref tm, .ref tb, .ref ts, .ref tq])), (wk, .inr (6, [.int 0, .ref wf, .ref wq])), (wf, .inl (kI, 64, .inl (fun _ => 0))), (tp, .inr (7, [.int 0, .ref tpw]))] sz [.ref xo, .int x]) (va_Qi (fun (r : Int32) (u : Unit) => q_cnt x r) (qB D (fun u : Unit => []) (va_A [(xo, .inr (8, [.ref g, .ref sc, .ref tr, .ref tl, .ref wk, .ref pr, .ref pi, .ref se, .ref pn, .ref tp, .int (-1)])), (g, .inr (0, [.int (nI bw), .int (nI bh), .long 0, .ref kd, .ref rw, .ref ms])), (kd, .inl (kI, 64, .inl (fun _ => 0))), (ms, .inl (kZ, 8, .inl (fun _ => 0))), (sc, .inr (3, [.int (-1), .long 0, .int 0, .int 0])), (tl, .inr (5, [.int 0, .int 0, .ref tm, .ref tb, .ref ts, .ref tq])), (wk, .inr (6, [.int 0, .ref wf, .ref wq])), (wf, .inl (kI, 64, .inl (fun _ => 0))), (tp, .inr (7, [.int 0, .ref tpw]))] sz)) (va_A [(xo, .inr (8, [.ref g, .ref sc, .ref tr, .ref tl, .ref wk, .ref pr, .ref pi, .ref se, .ref pn, .ref tp, .int (-1)])), (g, .inr (0, [.int (nI bw), .int (nI bh), .long 0, .ref kd, .ref rw, .ref ms])), (kd, .inl (kI, 64, .inl (fun _ => 0))), (ms, .inl (kZ, 8, .inl (fun _ => 0))), (sc, .inr (3, [.int (-1), .long 0, .int 0, .int 0])), (tl, .inr (5, [.int 0, .int 0, .ref tm, .ref tb, .ref ts, .ref tq])), (wk, .inr (6, [.int 0, .ref wf, .ref wq])), (wf, .inl (kI, 64, .inl (fun _ => 0))), (tp, .inr (7, [.int 0, .ref tpw]))] sz)) 0 0 (va_A [(xo, .inr (8, [.ref g, .ref sc, .ref tr, .ref tl, .ref wk, .ref pr, .ref pi, .ref se, .ref pn, .ref tp, .int (-1)])), (g, .inr (0, [.int (nI bw), .int (nI bh), .long 0, .ref kd, .ref rw, .ref ms])), (kd, .inl (kI, 64, .inl (fun _ => 0))), (ms, .inl (kZ, 8, .inl (fun _ => 0))), (sc, .inr (3, [.int (-1), .long 0, .int 0, .int 0])), (tl, .inr (5, [.int 0, .int 0, .ref tm, .ref tb, .ref ts, .ref tq])), (wk, .inr (6, [.int 0, .ref wf, .ref wq])), (wf, .inl (kI, 64, .inl (fun _ => 0))), (tp, .inr (7, [.int 0, .ref tpw]))] sz) := by
  refine Met.ofW (cc := cX8_count) (maxL := 2) (ret := (some .int)) (by decide) rfl ?_
  intro p e s m args below meth c s₁ B hml hv
  obtain ⟨rfl, hsz, hP, hK, hD0, hN⟩ := hv
  have hx := B.exec
  have hb := B.bytes
  have hr := B.returns
  have hts := atoms_spec (ws := wsX8_count) B.pre
  have hown : s.vm.findClass RX8 = some m.cls := findClass_of_methodNamed B.named
  have hlocks := B.notSynchronized
  subst hsz
  have hD := hD0.self (sz := s.heap.size)
  generalize hAe : va_A [(xo, .inr (8, [.ref g, .ref sc, .ref tr, .ref tl, .ref wk, .ref pr, .ref pi, .ref se, .ref pn, .ref tp, .int (-1)])), (g, .inr (0, [.int (nI bw), .int (nI bh), .long 0, .ref kd, .ref rw, .ref ms])), (kd, .inl (kI, 64, .inl (fun _ => 0))), (ms, .inl (kZ, 8, .inl (fun _ => 0))), (sc, .inr (3, [.int (-1), .long 0, .int 0, .int 0])), (tl, .inr (5, [.int 0, .int 0, .ref tm, .ref tb, .ref ts, .ref tq])), (wk, .inr (6, [.int 0, .ref wf, .ref wq])), (wf, .inl (kI, 64, .inl (fun _ => 0))), (tp, .inr (7, [.int 0, .ref tpw]))] s.heap.size = A at hD ⊢
  have hA : ∀ q : Nat, s.heap.size ≤ q → A q := fun q h => by rw [← hAe]; exact Or.inr h
  have hS : va_S A s.heap s.heap [] := va_S.rf
  have hP : va_P D vwCl [(xo, .inr (8, [.ref g, .ref sc, .ref tr, .ref tl, .ref wk, .ref pr, .ref pi, .ref se, .ref pn, .ref tp, .int (-1)])), (g, .inr (0, [.int (nI bw), .int (nI bh), .long 0, .ref kd, .ref rw, .ref ms])), (kd, .inl (kI, 64, .inl (fun _ => 0))), (ms, .inl (kZ, 8, .inl (fun _ => 0))), (sc, .inr (3, [.int (-1), .long 0, .int 0, .int 0])), (tl, .inr (5, [.int 0, .int 0, .ref tm, .ref tb, .ref ts, .ref tq])), (wk, .inr (6, [.int 0, .ref wf, .ref wq])), (wf, .inl (kI, 64, .inl (fun _ => 0))), (tp, .inr (7, [.int 0, .ref tpw]))] s.heap := hP
  have hl := lv_entry ([.ref xo, .int x]) (n := 2) (Nat.le_of_ble_eq_true rfl)
  rw [lg_entry_eq]
  generalize (lg_sl ([.ref xo, .int x]) ++ List.replicate (2 - (lg_sl ([.ref xo, .int x])).length) Slot.unset).toArray = ls at hl ⊢
  have hl : lv_has ls 2 [(0, .ref xo), (1, .int x)] := hl
  refine lv_iload_n hx hb dX8_count_0 rfl (lv_at hl 1 rfl) ?_
  rcases q_sw x with rfl | rfl | rfl | rfl | rfl | rfl | rfl | rfl | rfl | hsw
  · skip
    refine lv_tableIn (tgt := 52) (off := 51) hx hb dX8_count_1 (by decide +kernel) (by decide +kernel) (by decide +kernel) (by decide) ?_
    refine lv_aload_n hx hb dX8_count_52 rfl (lv_at hl 0 rfl) ?_
    refine va_get (D := D) (ci := 8) (v := .ref g) (C := RX8) (T := TX8) (N := 11) hx hb hts (by decide +kernel) hown hK hP 0 rfl rfl 0 (by decide) (hts (.fieldLink RX8 12 "CellarPushers" "ground" "LCellarPushers$Ground;") (by decide +kernel)) (fun _ h9 => h9) rfl dX8_count_53 ?_
    refine vp_callSi (qV_R (n := 0) (As := []) (rest := []) (wc := [(g, .inr (0, [.int (nI bw), .int (nI bh), .long 0, .ref kd, .ref rw, .ref ms])), (kd, .inl (kI, 64, .inl (fun _ => 0))), (ms, .inl (kZ, 8, .inl (fun _ => 0)))]) ⟨hx, hb, hml, hown, hts⟩ hK hN hP [1, 2, 3] rfl (k_X0_openFields l D kI kZ kJ g kd rw ms bw bh hbw hbh) gX8_count_X0_openFields rfl rfl rfl (by decide +kernel) ⟨(Nat.le_of_ble_eq_true rfl), (Nat.le_of_ble_eq_true rfl)⟩ 1 0 rfl rfl rfl rfl hl.1 rfl (Nat.le_of_ble_eq_true rfl) dX8_count_56 ⟨(Nat.le_of_ble_eq_true rfl), (Nat.le_of_ble_eq_true rfl)⟩).run (fun r hw => ?_)
    obtain rfl := hw
    have hP9 := hP.sub (ws' := []) [] rfl
    have hD9 := hD.sub (ws' := []) [] (by decide) rfl
    exact W.iret (v := 0) hx hb hr (fun t ht hW => ⟨⟨_, (), rfl, (by first | exact Or.inl ⟨rfl, rfl⟩ | exact Or.inr (Or.inl ⟨by decide, rfl⟩) | exact Or.inr (Or.inr ⟨hsw, rfl⟩)), ⟨by rw [ht]; exact hP9, hD9⟩⟩, hS.F ht⟩) hS.2.2 dX8_count_59
  · skip
    refine lv_tableIn (tgt := 60) (off := 59) hx hb dX8_count_1 (by decide +kernel) (by decide +kernel) (by decide +kernel) (by decide) ?_
    refine lv_aload_n hx hb dX8_count_60 rfl (lv_at hl 0 rfl) ?_
    refine va_get (D := D) (ci := 8) (v := .ref sc) (C := RX8) (T := TX8) (N := 11) hx hb hts (by decide +kernel) hown hK hP 0 rfl rfl 1 (by decide) (hts (.fieldLink RX8 21 "CellarPushers" "scene" "LCellarPushers$Scene;") (by decide +kernel)) (fun _ h9 => h9) rfl dX8_count_61 ?_
    refine va_get (D := D) (ci := 3) (v := .long 0) (C := RX3) (T := TX3) (N := 4) hx hb hts (by decide +kernel) hown hK hP 4 rfl rfl 1 (by decide) (hts (.fieldLink RX8 111 "CellarPushers$Scene" "barrels" "J") (by decide +kernel)) (fun _ h9 => h9) rfl dX8_count_64 ?_
    refine vp_callSi (qS_R (n := 1) (As := [.long 0]) (rest := []) (wc := []) ⟨hx, hb, hml, hown, hts⟩ hK hN hP [] rfl (k_J13_bitCount_95d88 l D kI kZ kJ) gX8_count_J13_bitCount_95d88 rfl rfl rfl (by decide +kernel) ⟨(Nat.le_of_ble_eq_true rfl), (Nat.le_of_ble_eq_true rfl)⟩ rfl hl.1 rfl (Nat.le_of_ble_eq_true rfl) dX8_count_67 ⟨(Nat.le_of_ble_eq_true rfl), (Nat.le_of_ble_eq_true rfl)⟩).run (fun r hw => ?_)
    obtain rfl := hw
    have hP9 := hP.sub (ws' := []) [] rfl
    have hD9 := hD.sub (ws' := []) [] (by decide) rfl
    exact W.iret (v := 0) hx hb hr (fun t ht hW => ⟨⟨_, (), rfl, (by first | exact Or.inl ⟨rfl, rfl⟩ | exact Or.inr (Or.inl ⟨by decide, rfl⟩) | exact Or.inr (Or.inr ⟨hsw, rfl⟩)), ⟨by rw [ht]; exact hP9, hD9⟩⟩, hS.F ht⟩) hS.2.2 dX8_count_70
  · skip
    refine lv_tableIn (tgt := 71) (off := 70) hx hb dX8_count_1 (by decide +kernel) (by decide +kernel) (by decide +kernel) (by decide) ?_
    refine lv_aload_n hx hb dX8_count_71 rfl (lv_at hl 0 rfl) ?_
    refine va_get (D := D) (ci := 8) (v := .ref g) (C := RX8) (T := TX8) (N := 11) hx hb hts (by decide +kernel) hown hK hP 0 rfl rfl 0 (by decide) (hts (.fieldLink RX8 12 "CellarPushers" "ground" "LCellarPushers$Ground;") (by decide +kernel)) (fun _ h9 => h9) rfl dX8_count_72 ?_
    refine va_get (D := D) (ci := 0) (v := .long 0) (C := RX0) (T := TX0) (N := 6) hx hb hts (by decide +kernel) hown hK hP 1 rfl rfl 2 (by decide) (hts (.fieldLink RX8 133 "CellarPushers$Ground" "wanted" "J") (by decide +kernel)) (fun _ h9 => h9) rfl dX8_count_75 ?_
    refine vp_callSi (qS_R (n := 1) (As := [.long 0]) (rest := []) (wc := []) ⟨hx, hb, hml, hown, hts⟩ hK hN hP [] rfl (k_J13_bitCount_95d88 l D kI kZ kJ) gX8_count_J13_bitCount_95d88 rfl rfl rfl (by decide +kernel) ⟨(Nat.le_of_ble_eq_true rfl), (Nat.le_of_ble_eq_true rfl)⟩ rfl hl.1 rfl (Nat.le_of_ble_eq_true rfl) dX8_count_78 ⟨(Nat.le_of_ble_eq_true rfl), (Nat.le_of_ble_eq_true rfl)⟩).run (fun r hw => ?_)
    obtain rfl := hw
    have hP9 := hP.sub (ws' := []) [] rfl
    have hD9 := hD.sub (ws' := []) [] (by decide) rfl
    exact W.iret (v := 0) hx hb hr (fun t ht hW => ⟨⟨_, (), rfl, (by first | exact Or.inl ⟨rfl, rfl⟩ | exact Or.inr (Or.inl ⟨by decide, rfl⟩) | exact Or.inr (Or.inr ⟨hsw, rfl⟩)), ⟨by rw [ht]; exact hP9, hD9⟩⟩, hS.F ht⟩) hS.2.2 dX8_count_81
  · skip
    refine lv_tableIn (tgt := 82) (off := 81) hx hb dX8_count_1 (by decide +kernel) (by decide +kernel) (by decide +kernel) (by decide) ?_
    refine lv_aload_n hx hb dX8_count_82 rfl (lv_at hl 0 rfl) ?_
    refine va_get (D := D) (ci := 8) (v := .ref sc) (C := RX8) (T := TX8) (N := 11) hx hb hts (by decide +kernel) hown hK hP 0 rfl rfl 1 (by decide) (hts (.fieldLink RX8 21 "CellarPushers" "scene" "LCellarPushers$Scene;") (by decide +kernel)) (fun _ h9 => h9) rfl dX8_count_83 ?_
    refine va_get (D := D) (ci := 3) (v := .int 0) (C := RX3) (T := TX3) (N := 4) hx hb hts (by decide +kernel) hown hK hP 4 rfl rfl 2 (by decide) (hts (.fieldLink RX8 241 "CellarPushers$Scene" "stepsDone" "I") (by decide +kernel)) (fun _ h9 => h9) rfl dX8_count_86 ?_
    have hP9 := hP.sub (ws' := []) [] rfl
    have hD9 := hD.sub (ws' := []) [] (by decide) rfl
    exact W.iret (v := 0) hx hb hr (fun t ht hW => ⟨⟨_, (), rfl, (by first | exact Or.inl ⟨rfl, rfl⟩ | exact Or.inr (Or.inl ⟨by decide, rfl⟩) | exact Or.inr (Or.inr ⟨hsw, rfl⟩)), ⟨by rw [ht]; exact hP9, hD9⟩⟩, hS.F ht⟩) hS.2.2 dX8_count_89
  · skip
    refine lv_tableIn (tgt := 90) (off := 89) hx hb dX8_count_1 (by decide +kernel) (by decide +kernel) (by decide +kernel) (by decide) ?_
    refine lv_aload_n hx hb dX8_count_90 rfl (lv_at hl 0 rfl) ?_
    refine va_get (D := D) (ci := 8) (v := .ref sc) (C := RX8) (T := TX8) (N := 11) hx hb hts (by decide +kernel) hown hK hP 0 rfl rfl 1 (by decide) (hts (.fieldLink RX8 21 "CellarPushers" "scene" "LCellarPushers$Scene;") (by decide +kernel)) (fun _ h9 => h9) rfl dX8_count_91 ?_
    refine va_get (D := D) (ci := 3) (v := .int 0) (C := RX3) (T := TX3) (N := 4) hx hb hts (by decide +kernel) hown hK hP 4 rfl rfl 3 (by decide) (hts (.fieldLink RX8 244 "CellarPushers$Scene" "pushesDone" "I") (by decide +kernel)) (fun _ h9 => h9) rfl dX8_count_94 ?_
    have hP9 := hP.sub (ws' := []) [] rfl
    have hD9 := hD.sub (ws' := []) [] (by decide) rfl
    exact W.iret (v := 0) hx hb hr (fun t ht hW => ⟨⟨_, (), rfl, (by first | exact Or.inl ⟨rfl, rfl⟩ | exact Or.inr (Or.inl ⟨by decide, rfl⟩) | exact Or.inr (Or.inr ⟨hsw, rfl⟩)), ⟨by rw [ht]; exact hP9, hD9⟩⟩, hS.F ht⟩) hS.2.2 dX8_count_97
  · skip
    refine lv_tableIn (tgt := 98) (off := 97) hx hb dX8_count_1 (by decide +kernel) (by decide +kernel) (by decide +kernel) (by decide) ?_
    refine lv_aload_n hx hb dX8_count_98 rfl (lv_at hl 0 rfl) ?_
    refine va_get (D := D) (ci := 8) (v := .ref wk) (C := RX8) (T := TX8) (N := 11) hx hb hts (by decide +kernel) hown hK hP 0 rfl rfl 4 (by decide) (hts (.fieldLink RX8 38 "CellarPushers" "walks" "LCellarPushers$Walks;") (by decide +kernel)) (fun _ h9 => h9) rfl dX8_count_99 ?_
    refine lv_aload_n hx hb dX8_count_102 rfl (lv_at hl 0 rfl) ?_
    refine va_get (D := D) (ci := 8) (v := .ref g) (C := RX8) (T := TX8) (N := 11) hx hb hts (by decide +kernel) hown hK hP 0 rfl rfl 0 (by decide) (hts (.fieldLink RX8 12 "CellarPushers" "ground" "LCellarPushers$Ground;") (by decide +kernel)) (fun _ h9 => h9) rfl dX8_count_103 ?_
    refine lv_aload_n hx hb dX8_count_106 rfl (lv_at hl 0 rfl) ?_
    refine va_get (D := D) (ci := 8) (v := .ref sc) (C := RX8) (T := TX8) (N := 11) hx hb hts (by decide +kernel) hown hK hP 0 rfl rfl 1 (by decide) (hts (.fieldLink RX8 21 "CellarPushers" "scene" "LCellarPushers$Scene;") (by decide +kernel)) (fun _ h9 => h9) rfl dX8_count_107 ?_
    refine qc_v (wr := [(xo, .inr (8, [.ref g, .ref sc, .ref tr, .ref tl, .ref wk, .ref pr, .ref pi, .ref se, .ref pn, .ref tp, .int (-1)])), (g, .inr (0, [.int (nI bw), .int (nI bh), .long 0, .ref kd, .ref rw, .ref ms])), (kd, .inl (kI, 64, .inl (fun _ => 0))), (ms, .inl (kZ, 8, .inl (fun _ => 0))), (tl, .inr (5, [.int 0, .int 0, .ref tm, .ref tb, .ref ts, .ref tq])), (tp, .inr (7, [.int 0, .ref tpw]))]) (qV_W (n := 2) (As := [.ref g, .ref sc]) (rest := []) (wc := [(wk, .inr (6, [.int 0, .ref wf, .ref wq])), (wf, .inl (kI, 64, .inl (fun _ => 0))), (sc, .inr (3, [.int (-1), .long 0, .int 0, .int 0]))]) ⟨hx, hb, hml, hown, hts⟩ hK hN hP hD [6, 7, 4] rfl rfl (by decide) (k_X6_measure l D kI kZ kJ wk wf wq g sc s.heap.size) gX8_count_X6_measure rfl rfl rfl (by decide +kernel) ⟨(Nat.le_of_ble_eq_true rfl), (Nat.le_of_ble_eq_true rfl)⟩ 6 6 rfl rfl rfl rfl hl.1 rfl (Nat.le_of_ble_eq_true rfl) dX8_count_110 ⟨(Nat.le_of_ble_eq_true rfl), (Nat.le_of_ble_eq_true rfl)⟩) hP hD hS hA [6, 7, 4] [0, 1, 2, 3, 5, 8] rfl rfl (by decide) (by decide) (fun u H locs hw hP hD hS => ?_)
    have hP : va_P D vwCl [(xo, .inr (8, [.ref g, .ref sc, .ref tr, .ref tl, .ref wk, .ref pr, .ref pi, .ref se, .ref pn, .ref tp, .int (-1)])), (g, .inr (0, [.int (nI bw), .int (nI bh), .long 0, .ref kd, .ref rw, .ref ms])), (kd, .inl (kI, 64, .inl (fun _ => 0))), (ms, .inl (kZ, 8, .inl (fun _ => 0))), (tl, .inr (5, [.int 0, .int 0, .ref tm, .ref tb, .ref ts, .ref tq])), (tp, .inr (7, [.int 0, .ref tpw])), (wk, .inr (6, [.int 0, .ref wf, .ref wq]))] H := hP
    have hD : va_D A [(xo, .inr (8, [.ref g, .ref sc, .ref tr, .ref tl, .ref wk, .ref pr, .ref pi, .ref se, .ref pn, .ref tp, .int (-1)])), (g, .inr (0, [.int (nI bw), .int (nI bh), .long 0, .ref kd, .ref rw, .ref ms])), (kd, .inl (kI, 64, .inl (fun _ => 0))), (ms, .inl (kZ, 8, .inl (fun _ => 0))), (tl, .inr (5, [.int 0, .int 0, .ref tm, .ref tb, .ref ts, .ref tq])), (tp, .inr (7, [.int 0, .ref tpw])), (wk, .inr (6, [.int 0, .ref wf, .ref wq]))] := hD
    refine lv_aload_n hx hb dX8_count_113 rfl (lv_at hl 0 rfl) ?_
    refine va_get (D := D) (ci := 8) (v := .ref wk) (C := RX8) (T := TX8) (N := 11) hx hb hts (by decide +kernel) hown hK hP 0 rfl rfl 4 (by decide) (hts (.fieldLink RX8 38 "CellarPushers" "walks" "LCellarPushers$Walks;") (by decide +kernel)) (fun _ h9 => h9) rfl dX8_count_114 ?_
    refine va_get (D := D) (ci := 6) (v := .int 0) (C := RX6) (T := TX6) (N := 3) hx hb hts (by decide +kernel) hown hK hP 6 rfl rfl 0 (by decide) (hts (.fieldLink RX8 247 "CellarPushers$Walks" "reached" "I") (by decide +kernel)) (fun _ h9 => h9) rfl dX8_count_117 ?_
    have hP9 := hP.sub (ws' := []) [] rfl
    have hD9 := hD.sub (ws' := []) [] (by decide) rfl
    exact W.iret (v := 0) hx hb hr (fun t ht hW => ⟨⟨_, (), rfl, (by first | exact Or.inl ⟨rfl, rfl⟩ | exact Or.inr (Or.inl ⟨by decide, rfl⟩) | exact Or.inr (Or.inr ⟨hsw, rfl⟩)), ⟨by rw [ht]; exact hP9, hD9⟩⟩, hS.F ht⟩) hS.2.2 dX8_count_120
  · skip
    refine lv_tableIn (tgt := 121) (off := 120) hx hb dX8_count_1 (by decide +kernel) (by decide +kernel) (by decide +kernel) (by decide) ?_
    refine lv_aload_n hx hb dX8_count_121 rfl (lv_at hl 0 rfl) ?_
    refine va_get (D := D) (ci := 8) (v := .ref tl) (C := RX8) (T := TX8) (N := 11) hx hb hts (by decide +kernel) hown hK hP 0 rfl rfl 3 (by decide) (hts (.fieldLink RX8 31 "CellarPushers" "timeline" "LCellarPushers$Timeline;") (by decide +kernel)) (fun _ h9 => h9) rfl dX8_count_122 ?_
    refine va_get (D := D) (ci := 5) (v := .int 0) (C := RX5) (T := TX5) (N := 6) hx hb hts (by decide +kernel) hown hK hP 5 rfl rfl 0 (by decide) (hts (.fieldLink RX8 250 "CellarPushers$Timeline" "now" "I") (by decide +kernel)) (fun _ h9 => h9) rfl dX8_count_125 ?_
    have hP9 := hP.sub (ws' := []) [] rfl
    have hD9 := hD.sub (ws' := []) [] (by decide) rfl
    exact W.iret (v := 0) hx hb hr (fun t ht hW => ⟨⟨_, (), rfl, (by first | exact Or.inl ⟨rfl, rfl⟩ | exact Or.inr (Or.inl ⟨by decide, rfl⟩) | exact Or.inr (Or.inr ⟨hsw, rfl⟩)), ⟨by rw [ht]; exact hP9, hD9⟩⟩, hS.F ht⟩) hS.2.2 dX8_count_128
  · skip
    refine lv_tableIn (tgt := 129) (off := 128) hx hb dX8_count_1 (by decide +kernel) (by decide +kernel) (by decide +kernel) (by decide) ?_
    refine lv_aload_n hx hb dX8_count_129 rfl (lv_at hl 0 rfl) ?_
    refine va_get (D := D) (ci := 8) (v := .ref tp) (C := RX8) (T := TX8) (N := 11) hx hb hts (by decide +kernel) hown hK hP 0 rfl rfl 9 (by decide) (hts (.fieldLink RX8 70 "CellarPushers" "tape" "LCellarPushers$Ways;") (by decide +kernel)) (fun _ h9 => h9) rfl dX8_count_130 ?_
    refine va_get (D := D) (ci := 7) (v := .int 0) (C := RX7) (T := TX7) (N := 2) hx hb hts (by decide +kernel) hown hK hP 8 rfl rfl 0 (by decide) (hts (.fieldLink RX8 221 "CellarPushers$Ways" "size" "I") (by decide +kernel)) (fun _ h9 => h9) rfl dX8_count_133 ?_
    have hP9 := hP.sub (ws' := []) [] rfl
    have hD9 := hD.sub (ws' := []) [] (by decide) rfl
    exact W.iret (v := 0) hx hb hr (fun t ht hW => ⟨⟨_, (), rfl, (by first | exact Or.inl ⟨rfl, rfl⟩ | exact Or.inr (Or.inl ⟨by decide, rfl⟩) | exact Or.inr (Or.inr ⟨hsw, rfl⟩)), ⟨by rw [ht]; exact hP9, hD9⟩⟩, hS.F ht⟩) hS.2.2 dX8_count_136
  · skip
    refine lv_tableIn (tgt := 137) (off := 136) hx hb dX8_count_1 (by decide +kernel) (by decide +kernel) (by decide +kernel) (by decide) ?_
    refine lv_aload_n hx hb dX8_count_137 rfl (lv_at hl 0 rfl) ?_
    refine va_get (D := D) (ci := 8) (v := .ref sc) (C := RX8) (T := TX8) (N := 11) hx hb hts (by decide +kernel) hown hK hP 0 rfl rfl 1 (by decide) (hts (.fieldLink RX8 21 "CellarPushers" "scene" "LCellarPushers$Scene;") (by decide +kernel)) (fun _ h9 => h9) rfl dX8_count_138 ?_
    refine va_get (D := D) (ci := 3) (v := .int (-1)) (C := RX3) (T := TX3) (N := 4) hx hb hts (by decide +kernel) hown hK hP 4 rfl rfl 0 (by decide) (hts (.fieldLink RX8 126 "CellarPushers$Scene" "manAt" "I") (by decide +kernel)) (fun _ h9 => h9) rfl dX8_count_141 ?_
    have hP9 := hP.sub (ws' := []) [] rfl
    have hD9 := hD.sub (ws' := []) [] (by decide) rfl
    exact W.iret (v := (-1)) hx hb hr (fun t ht hW => ⟨⟨_, (), rfl, (by first | exact Or.inl ⟨rfl, rfl⟩ | exact Or.inr (Or.inl ⟨by decide, rfl⟩) | exact Or.inr (Or.inr ⟨hsw, rfl⟩)), ⟨by rw [ht]; exact hP9, hD9⟩⟩, hS.F ht⟩) hS.2.2 dX8_count_144
  · skip
    refine lv_tableOut (tgt := 145) hx hb dX8_count_1 hsw (by decide) ?_
    refine lv_bipush (v := (-2)) hx hb dX8_count_145 (by decide) ?_
    have hP9 := hP.sub (ws' := []) [] rfl
    have hD9 := hD.sub (ws' := []) [] (by decide) rfl
    exact W.iret (v := (-2)) hx hb hr (fun t ht hW => ⟨⟨_, (), rfl, (by first | exact Or.inl ⟨rfl, rfl⟩ | exact Or.inr (Or.inl ⟨by decide, rfl⟩) | exact Or.inr (Or.inr ⟨hsw, rfl⟩)), ⟨by rw [ht]; exact hP9, hD9⟩⟩, hS.F ht⟩) hS.2.2 dX8_count_147
