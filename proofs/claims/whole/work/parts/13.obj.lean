/-! The object: what is read of it. -/
abbrev wOp (o1 f1 r1 d1 q1 q2 q3 : Nat) (kI : ClassId) (xs ys : Nat → Int32) (pm : Int32) : va_W := [(o1, .inr (8, [.ref q1, .ref f1, .ref r1, .ref d1])), (q1, .inr (6, [.ref q2, .ref q3, .int pm])), (q2, .inl (kI, 60, .inl xs)), (q3, .inl (kI, 60, .inl ys))]
abbrev wOr (o1 f1 r1 d1 r2 q1 q2 q3 : Nat) (kI : ClassId) (held xs ys : Nat → Int32) (rm pm : Int32) : va_W := [(o1, .inr (8, [.ref q1, .ref f1, .ref r1, .ref d1])), (r1, .inr (7, [.ref q1, .ref r2, .int rm])), (r2, .inl (kI, 24, .inl held)), (q1, .inr (6, [.ref q2, .ref q3, .int pm])), (q2, .inl (kI, 60, .inl xs)), (q3, .inl (kI, 60, .inl ys))]
abbrev wOf (o1 f1 r1 d1 q1 : Nat) (on cl un ze : Int32) : va_W := [(o1, .inr (8, [.ref q1, .ref f1, .ref r1, .ref d1])), (f1, .inr (5, [.ref q1, .int on, .int cl, .int un, .int ze]))]
abbrev wOc (o1 f1 r1 d1 q1 q2 q3 r2 d2 d3 d4 d5 : Nat) (pm rm on cl un ze dm dd de dp dq : Int32) : va_W := [(o1, .inr (8, [.ref q1, .ref f1, .ref r1, .ref d1])), (q1, .inr (6, [.ref q2, .ref q3, .int pm])), (f1, .inr (5, [.ref q1, .int on, .int cl, .int un, .int ze])), (r1, .inr (7, [.ref q1, .ref r2, .int rm])), (d1, .inr (4, [.ref d2, .ref d3, .ref d4, .ref d5, .int dm, .int dd, .int de, .int dp, .int dq]))]
def fX4_isRank  (ia : Int32) (n : Int32) : Int32 := if ia < (0 : Int32) then ((0 : Int32)) else (if n ≤ ia then ((0 : Int32)) else ((1 : Int32)))
set_option maxHeartbeats 4000000 in
set_option maxRecDepth 100000 in
theorem ct4_isRank (l : Launch) (D : va_G)  (ia : Int32) (n : Int32) : Met l yX4_isRank (Cond.code yX4_isRank cX4_isRank 2 (some .boolean) :: BX) ({ frames := 0, cells := 0, slots := 0, locals := 0 }) (xr_P nN D vwCl [] ([] : va_W) [.int ia, .int n]) (xr_Q (.int (fX4_isRank ia n))) 0 0 (fun _ => False) := by
  refine Met.ofW (cc := cX4_isRank) (maxL := 2) (ret := (some .boolean)) (by decide) rfl ?_
  intro p e s m args below meth c s₁ B hml hv
  obtain ⟨rfl, hP, hK, hN⟩ := hv
  have hx := B.exec
  have hb := B.bytes
  have hr := B.returns
  have hts0 := atoms_spec (ws := Cond.code yX4_isRank cX4_isRank 2 (some .boolean) :: BX) B.pre
  have hts : ∀ w ∈ BX, w.before _ s = true := fun w h => hts0 w (List.mem_cons_of_mem _ h)
  have hown : s.vm.findClass RX4 = some m.cls := findClass_of_methodNamed B.named
  have hlocks := B.notSynchronized
  have hl := lv_entry ([.int ia, .int n]) (n := 2) (Nat.le_of_ble_eq_true rfl)
  rw [lg_entry_eq]
  generalize (lg_sl ([.int ia, .int n]) ++ List.replicate (2 - (lg_sl ([.int ia, .int n])).length) Slot.unset).toArray = ls at hl ⊢
  have hl : lv_has ls 2 [(0, .int ia), (1, .int n)] := hl
  refine lv_iload_n hx hb dX4_isRank_0 rfl (lv_at hl 0 rfl) ?_
  refine lv_if_lt (tgt := 13) hx hb dX4_isRank_1 (by decide) (fun c1 => ?_) (fun c1 => ?_)
  · refine lv_iconst (v := 0) hx hb dX4_isRank_13 (by decide) ?_
    exact W.zret (v := (0 : Int32)) hx hb hr rfl (fun t ht hW => ⟨by rw [show fX4_isRank ia n = (0 : Int32) by unfold fX4_isRank; rw [if_pos c1]], ht⟩) (fun _ h => absurd h List.not_mem_nil) dX4_isRank_14
  · refine lv_iload_n hx hb dX4_isRank_4 rfl (lv_at hl 0 rfl) ?_
    refine lv_iload_n hx hb dX4_isRank_5 rfl (lv_at hl 1 rfl) ?_
    refine lv_icmp_ge (tgt := 13) hx hb dX4_isRank_6 (by decide) (fun c2 => ?_) (fun c2 => ?_)
    · refine lv_iconst (v := 0) hx hb dX4_isRank_13 (by decide) ?_
      exact W.zret (v := (0 : Int32)) hx hb hr rfl (fun t ht hW => ⟨by rw [show fX4_isRank ia n = (0 : Int32) by unfold fX4_isRank; rw [if_neg c1, if_pos c2]], ht⟩) (fun _ h => absurd h List.not_mem_nil) dX4_isRank_14
    · refine lv_iconst (v := 1) hx hb dX4_isRank_9 (by decide) ?_
      refine lv_goto (tgt := 14) hx hb dX4_isRank_10 (by decide) ?_
      exact W.zret (v := (1 : Int32)) hx hb hr rfl (fun t ht hW => ⟨by rw [show fX4_isRank ia n = (1 : Int32) by unfold fX4_isRank; rw [if_neg c1, if_neg c2]], ht⟩) (fun _ h => absurd h List.not_mem_nil) dX4_isRank_14
def fX4_isCoordinate  (v : Int64) : Int32 := if (lg_cmp v (-800 : Int64)) < (0 : Int32) then ((0 : Int32)) else (if (0 : Int32) < (lg_cmp v (800 : Int64)) then ((0 : Int32)) else ((1 : Int32)))
set_option maxHeartbeats 4000000 in
set_option maxRecDepth 100000 in
theorem ct4_isCoordinate (l : Launch) (D : va_G)  (v : Int64) : Met l yX4_isCoordinate (Cond.code yX4_isCoordinate cX4_isCoordinate 2 (some .boolean) :: BX) ({ frames := 0, cells := 0, slots := 0, locals := 0 }) (xr_P nN D vwCl [] ([] : va_W) [.long v]) (xr_Q (.int (fX4_isCoordinate v))) 0 0 (fun _ => False) := by
  refine Met.ofW (cc := cX4_isCoordinate) (maxL := 2) (ret := (some .boolean)) (by decide) rfl ?_
  intro p e s m args below meth c s₁ B hml hv
  obtain ⟨rfl, hP, hK, hN⟩ := hv
  have hx := B.exec
  have hb := B.bytes
  have hr := B.returns
  have hts0 := atoms_spec (ws := Cond.code yX4_isCoordinate cX4_isCoordinate 2 (some .boolean) :: BX) B.pre
  have hts : ∀ w ∈ BX, w.before _ s = true := fun w h => hts0 w (List.mem_cons_of_mem _ h)
  have hown : s.vm.findClass RX4 = some m.cls := findClass_of_methodNamed B.named
  have hlocks := B.notSynchronized
  have hl := lv_entry ([.long v]) (n := 2) (Nat.le_of_ble_eq_true rfl)
  rw [lg_entry_eq]
  generalize (lg_sl ([.long v]) ++ List.replicate (2 - (lg_sl ([.long v])).length) Slot.unset).toArray = ls at hl ⊢
  have hl : lv_has ls 2 [(0, .long v)] := hl
  refine lv_lload_n hx hb dX4_isCoordinate_0 rfl (lv_at hl 0 rfl) ?_
  refine lv_ldc2 (v := -800) hx hb hown (hts _ kl_X4_219) dX4_isCoordinate_1 ?_
  refine W.lcmp hx hb dX4_isCoordinate_4 ?_
  refine lv_if_lt (tgt := 20) hx hb dX4_isCoordinate_5 (by decide) (fun c1 => ?_) (fun c1 => ?_)
  · refine lv_iconst (v := 0) hx hb dX4_isCoordinate_20 (by decide) ?_
    exact W.zret (v := (0 : Int32)) hx hb hr rfl (fun t ht hW => ⟨by rw [show fX4_isCoordinate v = (0 : Int32) by unfold fX4_isCoordinate; rw [if_pos c1]], ht⟩) (fun _ h => absurd h List.not_mem_nil) dX4_isCoordinate_21
  · refine lv_lload_n hx hb dX4_isCoordinate_8 rfl (lv_at hl 0 rfl) ?_
    refine lv_ldc2 (v := 800) hx hb hown (hts _ kl_X4_221) dX4_isCoordinate_9 ?_
    refine W.lcmp hx hb dX4_isCoordinate_12 ?_
    refine lv_if_gt (tgt := 20) hx hb dX4_isCoordinate_13 (by decide) (fun c2 => ?_) (fun c2 => ?_)
    · refine lv_iconst (v := 0) hx hb dX4_isCoordinate_20 (by decide) ?_
      exact W.zret (v := (0 : Int32)) hx hb hr rfl (fun t ht hW => ⟨by rw [show fX4_isCoordinate v = (0 : Int32) by unfold fX4_isCoordinate; rw [if_neg c1, if_pos c2]], ht⟩) (fun _ h => absurd h List.not_mem_nil) dX4_isCoordinate_21
    · refine lv_iconst (v := 1) hx hb dX4_isCoordinate_16 (by decide) ?_
      refine lv_goto (tgt := 21) hx hb dX4_isCoordinate_17 (by decide) ?_
      exact W.zret (v := (1 : Int32)) hx hb hr rfl (fun t ht hW => ⟨by rw [show fX4_isCoordinate v = (1 : Int32) by unfold fX4_isCoordinate; rw [if_neg c1, if_neg c2]], ht⟩) (fun _ h => absurd h List.not_mem_nil) dX4_isCoordinate_21
def fX4_between (xs ys : Nat → Int32) (pm : Int32) (ia : Int32) (ib : Int32) (ic : Int32) : Int32 := if (fX2_has pm ia) = (0 : Int32) then ((-2 : Int32)) else (if (fX2_has pm ib) = (0 : Int32) then ((-2 : Int32)) else (if (fX2_has pm ic) = (0 : Int32) then ((-2 : Int32)) else (if (fX2_same xs ys ia ib) = (0 : Int32) then (if (fX2_same xs ys ib ic) = (0 : Int32) then (if (fX2_onWay xs ys ia ic ib) = (0 : Int32) then ((0 : Int32)) else ((1 : Int32))) else ((2 : Int32))) else ((2 : Int32)))))
set_option maxHeartbeats 4000000 in
set_option maxRecDepth 100000 in
theorem ct4_between (l : Launch) (D : va_G) (o1 f1 r1 d1 q1 q2 q3 : Nat) (kI : ClassId) (xs ys : Nat → Int32) (pm : Int32) (ia : Int32) (ib : Int32) (ic : Int32) (opm : pm.toInt ≤ (60 : Nat)) : Met l yX4_between (Cond.code yX4_between cX4_between 4 (some .int) :: BX) ({ frames := 3, cells := 0, slots := 0, locals := 180 }) (xr_P nN D vwCl [(kI, .int)] (wOp o1 f1 r1 d1 q1 q2 q3 kI xs ys pm) [.ref o1, .int ia, .int ib, .int ic]) (xr_Q (.int (fX4_between xs ys pm ia ib ic))) 0 0 (fun _ => False) := by
  refine Met.ofW (cc := cX4_between) (maxL := 4) (ret := (some .int)) (by decide) rfl ?_
  intro p e s m args below meth c s₁ B hml hv
  obtain ⟨rfl, hP, hK, hN⟩ := hv
  have hx := B.exec
  have hb := B.bytes
  have hr := B.returns
  have hts0 := atoms_spec (ws := Cond.code yX4_between cX4_between 4 (some .int) :: BX) B.pre
  have hts : ∀ w ∈ BX, w.before _ s = true := fun w h => hts0 w (List.mem_cons_of_mem _ h)
  have hown : s.vm.findClass RX4 = some m.cls := findClass_of_methodNamed B.named
  have hlocks := B.notSynchronized
  have hl := lv_entry ([.ref o1, .int ia, .int ib, .int ic]) (n := 4) (Nat.le_of_ble_eq_true rfl)
  rw [lg_entry_eq]
  generalize (lg_sl ([.ref o1, .int ia, .int ib, .int ic]) ++ List.replicate (4 - (lg_sl ([.ref o1, .int ia, .int ib, .int ic])).length) Slot.unset).toArray = ls at hl ⊢
  have hl : lv_has ls 4 [(0, .ref o1), (1, .int ia), (2, .int ib), (3, .int ic)] := hl
  refine lv_aload_n hx hb dX4_between_0 rfl (lv_at hl 0 rfl) ?_
  refine va_get (D := D) (ci := 8) (v := .ref q1) (C := RX4) (T := TX4) (N := 4) hx hb hts hinX4 hown hK hP 0 rfl rfl 0 (by decide) (hts _ fk_X4_10) (fun _ h9 => h9) rfl dX4_between_1 ?_
  refine lv_iload_n hx hb dX4_between_4 rfl (lv_at hl 1 rfl) ?_
  refine xr_V (q := (RX2, TX2, 3)) (ci := 6) (q0 := 1) (rest := []) (As := [.int ia]) ⟨hx, hb, hml, hown, hts⟩ (ct2_has l D q1 q2 q3 kI xs ys pm ia ) (cwV 1 hts gl_X4_65 rfl rfl rfl (by decide +kernel) ⟨Nat.le_of_ble_eq_true rfl, Nat.le_of_ble_eq_true rfl⟩) nN_mv hN hK hP [1, 2, 3] [0] rfl rfl rfl rfl rfl hl.1 rfl (Nat.le_of_ble_eq_true rfl) dX4_between_5 ⟨Nat.le_of_ble_eq_true rfl, Nat.le_of_ble_eq_true rfl⟩ ?_
  refine lv_if_eq (tgt := 33) hx hb dX4_between_8 (by decide) (fun c1 => ?_) (fun c1 => ?_)
  · refine lv_bipush (v := (-2)) hx hb dX4_between_33 (by decide) ?_
    exact W.iret (v := (-2 : Int32)) hx hb hr (fun t ht hW => ⟨by rw [show fX4_between xs ys pm ia ib ic = (-2 : Int32) by unfold fX4_between; rw [if_pos c1]], ht⟩) (fun _ h => absurd h List.not_mem_nil) dX4_between_35
  · refine lv_aload_n hx hb dX4_between_11 rfl (lv_at hl 0 rfl) ?_
    refine va_get (D := D) (ci := 8) (v := .ref q1) (C := RX4) (T := TX4) (N := 4) hx hb hts hinX4 hown hK hP 0 rfl rfl 0 (by decide) (hts _ fk_X4_10) (fun _ h9 => h9) rfl dX4_between_12 ?_
    refine lv_iload_n hx hb dX4_between_15 rfl (lv_at hl 2 rfl) ?_
    refine xr_V (q := (RX2, TX2, 3)) (ci := 6) (q0 := 1) (rest := []) (As := [.int ib]) ⟨hx, hb, hml, hown, hts⟩ (ct2_has l D q1 q2 q3 kI xs ys pm ib ) (cwV 1 hts gl_X4_65 rfl rfl rfl (by decide +kernel) ⟨Nat.le_of_ble_eq_true rfl, Nat.le_of_ble_eq_true rfl⟩) nN_mv hN hK hP [1, 2, 3] [0] rfl rfl rfl rfl rfl hl.1 rfl (Nat.le_of_ble_eq_true rfl) dX4_between_16 ⟨Nat.le_of_ble_eq_true rfl, Nat.le_of_ble_eq_true rfl⟩ ?_
    refine lv_if_eq (tgt := 33) hx hb dX4_between_19 (by decide) (fun c2 => ?_) (fun c2 => ?_)
    · refine lv_bipush (v := (-2)) hx hb dX4_between_33 (by decide) ?_
      exact W.iret (v := (-2 : Int32)) hx hb hr (fun t ht hW => ⟨by rw [show fX4_between xs ys pm ia ib ic = (-2 : Int32) by unfold fX4_between; rw [if_neg c1, if_pos c2]], ht⟩) (fun _ h => absurd h List.not_mem_nil) dX4_between_35
    · refine lv_aload_n hx hb dX4_between_22 rfl (lv_at hl 0 rfl) ?_
      refine va_get (D := D) (ci := 8) (v := .ref q1) (C := RX4) (T := TX4) (N := 4) hx hb hts hinX4 hown hK hP 0 rfl rfl 0 (by decide) (hts _ fk_X4_10) (fun _ h9 => h9) rfl dX4_between_23 ?_
      refine lv_iload_n hx hb dX4_between_26 rfl (lv_at hl 3 rfl) ?_
      refine xr_V (q := (RX2, TX2, 3)) (ci := 6) (q0 := 1) (rest := []) (As := [.int ic]) ⟨hx, hb, hml, hown, hts⟩ (ct2_has l D q1 q2 q3 kI xs ys pm ic ) (cwV 1 hts gl_X4_65 rfl rfl rfl (by decide +kernel) ⟨Nat.le_of_ble_eq_true rfl, Nat.le_of_ble_eq_true rfl⟩) nN_mv hN hK hP [1, 2, 3] [0] rfl rfl rfl rfl rfl hl.1 rfl (Nat.le_of_ble_eq_true rfl) dX4_between_27 ⟨Nat.le_of_ble_eq_true rfl, Nat.le_of_ble_eq_true rfl⟩ ?_
      refine lv_if_ne (tgt := 36) hx hb dX4_between_30 (by decide) (fun c3 => ?_) (fun c3 => ?_)
      · refine lv_aload_n hx hb dX4_between_36 rfl (lv_at hl 0 rfl) ?_
        refine va_get (D := D) (ci := 8) (v := .ref q1) (C := RX4) (T := TX4) (N := 4) hx hb hts hinX4 hown hK hP 0 rfl rfl 0 (by decide) (hts _ fk_X4_10) (fun _ h9 => h9) rfl dX4_between_37 ?_
        refine lv_iload_n hx hb dX4_between_40 rfl (lv_at hl 1 rfl) ?_
        refine lv_iload_n hx hb dX4_between_41 rfl (lv_at hl 2 rfl) ?_
        refine xr_V (q := (RX2, TX2, 3)) (ci := 6) (q0 := 1) (rest := []) (As := [.int ia, .int ib]) ⟨hx, hb, hml, hown, hts⟩ (ct2_same l D q1 q2 q3 kI xs ys pm ia ib (o_has c1 opm) (o_has c2 opm)) (cwV 2 hts gl_X4_95 rfl rfl rfl (by decide +kernel) ⟨Nat.le_of_ble_eq_true rfl, Nat.le_of_ble_eq_true rfl⟩) nN_mv hN hK hP [1, 2, 3] [0] rfl rfl rfl rfl rfl hl.1 rfl (Nat.le_of_ble_eq_true rfl) dX4_between_42 ⟨Nat.le_of_ble_eq_true rfl, Nat.le_of_ble_eq_true rfl⟩ ?_
        refine lv_if_ne (tgt := 60) hx hb dX4_between_45 (by decide) (fun c4 => ?_) (fun c4 => ?_)
        · refine lv_iconst (v := 2) hx hb dX4_between_60 (by decide) ?_
          exact W.iret (v := (2 : Int32)) hx hb hr (fun t ht hW => ⟨by rw [show fX4_between xs ys pm ia ib ic = (2 : Int32) by unfold fX4_between; rw [if_neg c1, if_neg c2, if_neg c3, if_neg c4]], ht⟩) (fun _ h => absurd h List.not_mem_nil) dX4_between_61
        · refine lv_aload_n hx hb dX4_between_48 rfl (lv_at hl 0 rfl) ?_
          refine va_get (D := D) (ci := 8) (v := .ref q1) (C := RX4) (T := TX4) (N := 4) hx hb hts hinX4 hown hK hP 0 rfl rfl 0 (by decide) (hts _ fk_X4_10) (fun _ h9 => h9) rfl dX4_between_49 ?_
          refine lv_iload_n hx hb dX4_between_52 rfl (lv_at hl 2 rfl) ?_
          refine lv_iload_n hx hb dX4_between_53 rfl (lv_at hl 3 rfl) ?_
          refine xr_V (q := (RX2, TX2, 3)) (ci := 6) (q0 := 1) (rest := []) (As := [.int ib, .int ic]) ⟨hx, hb, hml, hown, hts⟩ (ct2_same l D q1 q2 q3 kI xs ys pm ib ic (o_has c2 opm) (o_has c3 opm)) (cwV 2 hts gl_X4_95 rfl rfl rfl (by decide +kernel) ⟨Nat.le_of_ble_eq_true rfl, Nat.le_of_ble_eq_true rfl⟩) nN_mv hN hK hP [1, 2, 3] [0] rfl rfl rfl rfl rfl hl.1 rfl (Nat.le_of_ble_eq_true rfl) dX4_between_54 ⟨Nat.le_of_ble_eq_true rfl, Nat.le_of_ble_eq_true rfl⟩ ?_
          refine lv_if_eq (tgt := 62) hx hb dX4_between_57 (by decide) (fun c5 => ?_) (fun c5 => ?_)
          · refine lv_aload_n hx hb dX4_between_62 rfl (lv_at hl 0 rfl) ?_
            refine va_get (D := D) (ci := 8) (v := .ref q1) (C := RX4) (T := TX4) (N := 4) hx hb hts hinX4 hown hK hP 0 rfl rfl 0 (by decide) (hts _ fk_X4_10) (fun _ h9 => h9) rfl dX4_between_63 ?_
            refine lv_iload_n hx hb dX4_between_66 rfl (lv_at hl 1 rfl) ?_
            refine lv_iload_n hx hb dX4_between_67 rfl (lv_at hl 3 rfl) ?_
            refine lv_iload_n hx hb dX4_between_68 rfl (lv_at hl 2 rfl) ?_
            refine xr_V (q := (RX2, TX2, 3)) (ci := 6) (q0 := 1) (rest := []) (As := [.int ia, .int ic, .int ib]) ⟨hx, hb, hml, hown, hts⟩ (ct2_onWay l D q1 q2 q3 kI xs ys pm ia ic ib (o_has c1 opm) (o_has c3 opm) (o_has c2 opm)) (cwV 3 hts gl_X4_134 rfl rfl rfl (by decide +kernel) ⟨Nat.le_of_ble_eq_true rfl, Nat.le_of_ble_eq_true rfl⟩) nN_mv hN hK hP [1, 2, 3] [0] rfl rfl rfl rfl rfl hl.1 rfl (Nat.le_of_ble_eq_true rfl) dX4_between_69 ⟨Nat.le_of_ble_eq_true rfl, Nat.le_of_ble_eq_true rfl⟩ ?_
            refine lv_if_eq (tgt := 79) hx hb dX4_between_72 (by decide) (fun c6 => ?_) (fun c6 => ?_)
            · refine lv_iconst (v := 0) hx hb dX4_between_79 (by decide) ?_
              exact W.iret (v := (0 : Int32)) hx hb hr (fun t ht hW => ⟨by rw [show fX4_between xs ys pm ia ib ic = (0 : Int32) by unfold fX4_between; rw [if_neg c1, if_neg c2, if_neg c3, if_pos c4, if_pos c5, if_pos c6]], ht⟩) (fun _ h => absurd h List.not_mem_nil) dX4_between_80
            · refine lv_iconst (v := 1) hx hb dX4_between_75 (by decide) ?_
              refine lv_goto (tgt := 80) hx hb dX4_between_76 (by decide) ?_
              exact W.iret (v := (1 : Int32)) hx hb hr (fun t ht hW => ⟨by rw [show fX4_between xs ys pm ia ib ic = (1 : Int32) by unfold fX4_between; rw [if_neg c1, if_neg c2, if_neg c3, if_pos c4, if_pos c5, if_neg c6]], ht⟩) (fun _ h => absurd h List.not_mem_nil) dX4_between_80
          · refine lv_iconst (v := 2) hx hb dX4_between_60 (by decide) ?_
            exact W.iret (v := (2 : Int32)) hx hb hr (fun t ht hW => ⟨by rw [show fX4_between xs ys pm ia ib ic = (2 : Int32) by unfold fX4_between; rw [if_neg c1, if_neg c2, if_neg c3, if_pos c4, if_neg c5]], ht⟩) (fun _ h => absurd h List.not_mem_nil) dX4_between_61
      · refine lv_bipush (v := (-2)) hx hb dX4_between_33 (by decide) ?_
        exact W.iret (v := (-2 : Int32)) hx hb hr (fun t ht hW => ⟨by rw [show fX4_between xs ys pm ia ib ic = (-2 : Int32) by unfold fX4_between; rw [if_neg c1, if_neg c2, if_pos c3]], ht⟩) (fun _ h => absurd h List.not_mem_nil) dX4_between_35
def fX4_inside (xs ys : Nat → Int32) (pm : Int32) (ia : Int32) (ib : Int32) (ic : Int32) (id : Int32) : Int32 := if (fX2_hasAll pm ia ib ic id) = (0 : Int32) then ((-2 : Int32)) else (if (fX2_same xs ys ia ib) = (0 : Int32) then (if (fX2_same xs ys ia ic) = (0 : Int32) then (if (fX2_same xs ys ia id) = (0 : Int32) then (if (fX2_oneDirection xs ys ia ib id) = (0 : Int32) then (if (fX2_oneDirection xs ys ia ic id) = (0 : Int32) then (if (fX2_strictlyInAngle xs ys ia ib ic id) = (0 : Int32) then ((0 : Int32)) else ((1 : Int32))) else ((2 : Int32))) else ((2 : Int32))) else ((2 : Int32))) else ((-4 : Int32))) else ((-4 : Int32)))
set_option maxHeartbeats 4000000 in
set_option maxRecDepth 100000 in
theorem ct4_inside (l : Launch) (D : va_G) (o1 f1 r1 d1 q1 q2 q3 : Nat) (kI : ClassId) (xs ys : Nat → Int32) (pm : Int32) (ia : Int32) (ib : Int32) (ic : Int32) (id : Int32) (opm : pm.toInt ≤ (60 : Nat)) : Met l yX4_inside (Cond.code yX4_inside cX4_inside 5 (some .int) :: BX) ({ frames := 3, cells := 0, slots := 0, locals := 180 }) (xr_P nN D vwCl [(kI, .int)] (wOp o1 f1 r1 d1 q1 q2 q3 kI xs ys pm) [.ref o1, .int ia, .int ib, .int ic, .int id]) (xr_Q (.int (fX4_inside xs ys pm ia ib ic id))) 0 0 (fun _ => False) := by
  refine Met.ofW (cc := cX4_inside) (maxL := 5) (ret := (some .int)) (by decide) rfl ?_
  intro p e s m args below meth c s₁ B hml hv
  obtain ⟨rfl, hP, hK, hN⟩ := hv
  have hx := B.exec
  have hb := B.bytes
  have hr := B.returns
  have hts0 := atoms_spec (ws := Cond.code yX4_inside cX4_inside 5 (some .int) :: BX) B.pre
  have hts : ∀ w ∈ BX, w.before _ s = true := fun w h => hts0 w (List.mem_cons_of_mem _ h)
  have hown : s.vm.findClass RX4 = some m.cls := findClass_of_methodNamed B.named
  have hlocks := B.notSynchronized
  have hl := lv_entry ([.ref o1, .int ia, .int ib, .int ic, .int id]) (n := 5) (Nat.le_of_ble_eq_true rfl)
  rw [lg_entry_eq]
  generalize (lg_sl ([.ref o1, .int ia, .int ib, .int ic, .int id]) ++ List.replicate (5 - (lg_sl ([.ref o1, .int ia, .int ib, .int ic, .int id])).length) Slot.unset).toArray = ls at hl ⊢
  have hl : lv_has ls 5 [(0, .ref o1), (1, .int ia), (2, .int ib), (3, .int ic), (4, .int id)] := hl
  refine lv_aload_n hx hb dX4_inside_0 rfl (lv_at hl 0 rfl) ?_
  refine va_get (D := D) (ci := 8) (v := .ref q1) (C := RX4) (T := TX4) (N := 4) hx hb hts hinX4 hown hK hP 0 rfl rfl 0 (by decide) (hts _ fk_X4_10) (fun _ h9 => h9) rfl dX4_inside_1 ?_
  refine lv_iload_n hx hb dX4_inside_4 rfl (lv_at hl 1 rfl) ?_
  refine lv_iload_n hx hb dX4_inside_5 rfl (lv_at hl 2 rfl) ?_
  refine lv_iload_n hx hb dX4_inside_6 rfl (lv_at hl 3 rfl) ?_
  refine lv_iload hx hb dX4_inside_7 (lv_at hl 4 rfl) ?_
  refine xr_V (q := (RX2, TX2, 3)) (ci := 6) (q0 := 1) (rest := []) (As := [.int ia, .int ib, .int ic, .int id]) ⟨hx, hb, hml, hown, hts⟩ (ct2_hasAll l D q1 q2 q3 kI xs ys pm ia ib ic id ) (cwV 4 hts gl_X4_114 rfl rfl rfl (by decide +kernel) ⟨Nat.le_of_ble_eq_true rfl, Nat.le_of_ble_eq_true rfl⟩) nN_mv hN hK hP [1, 2, 3] [0] rfl rfl rfl rfl rfl hl.1 rfl (Nat.le_of_ble_eq_true rfl) dX4_inside_9 ⟨Nat.le_of_ble_eq_true rfl, Nat.le_of_ble_eq_true rfl⟩ ?_
  refine lv_if_ne (tgt := 18) hx hb dX4_inside_12 (by decide) (fun c1 => ?_) (fun c1 => ?_)
  · refine lv_aload_n hx hb dX4_inside_18 rfl (lv_at hl 0 rfl) ?_
    refine va_get (D := D) (ci := 8) (v := .ref q1) (C := RX4) (T := TX4) (N := 4) hx hb hts hinX4 hown hK hP 0 rfl rfl 0 (by decide) (hts _ fk_X4_10) (fun _ h9 => h9) rfl dX4_inside_19 ?_
    refine lv_iload_n hx hb dX4_inside_22 rfl (lv_at hl 1 rfl) ?_
    refine lv_iload_n hx hb dX4_inside_23 rfl (lv_at hl 2 rfl) ?_
    refine xr_V (q := (RX2, TX2, 3)) (ci := 6) (q0 := 1) (rest := []) (As := [.int ia, .int ib]) ⟨hx, hb, hml, hown, hts⟩ (ct2_same l D q1 q2 q3 kI xs ys pm ia ib ((o_all c1 opm).1) ((o_all c1 opm).2.1)) (cwV 2 hts gl_X4_95 rfl rfl rfl (by decide +kernel) ⟨Nat.le_of_ble_eq_true rfl, Nat.le_of_ble_eq_true rfl⟩) nN_mv hN hK hP [1, 2, 3] [0] rfl rfl rfl rfl rfl hl.1 rfl (Nat.le_of_ble_eq_true rfl) dX4_inside_24 ⟨Nat.le_of_ble_eq_true rfl, Nat.le_of_ble_eq_true rfl⟩ ?_
    refine lv_if_ne (tgt := 42) hx hb dX4_inside_27 (by decide) (fun c2 => ?_) (fun c2 => ?_)
    · refine lv_bipush (v := (-4)) hx hb dX4_inside_42 (by decide) ?_
      exact W.iret (v := (-4 : Int32)) hx hb hr (fun t ht hW => ⟨by rw [show fX4_inside xs ys pm ia ib ic id = (-4 : Int32) by unfold fX4_inside; rw [if_neg c1, if_neg c2]], ht⟩) (fun _ h => absurd h List.not_mem_nil) dX4_inside_44
    · refine lv_aload_n hx hb dX4_inside_30 rfl (lv_at hl 0 rfl) ?_
      refine va_get (D := D) (ci := 8) (v := .ref q1) (C := RX4) (T := TX4) (N := 4) hx hb hts hinX4 hown hK hP 0 rfl rfl 0 (by decide) (hts _ fk_X4_10) (fun _ h9 => h9) rfl dX4_inside_31 ?_
      refine lv_iload_n hx hb dX4_inside_34 rfl (lv_at hl 1 rfl) ?_
      refine lv_iload_n hx hb dX4_inside_35 rfl (lv_at hl 3 rfl) ?_
      refine xr_V (q := (RX2, TX2, 3)) (ci := 6) (q0 := 1) (rest := []) (As := [.int ia, .int ic]) ⟨hx, hb, hml, hown, hts⟩ (ct2_same l D q1 q2 q3 kI xs ys pm ia ic ((o_all c1 opm).1) ((o_all c1 opm).2.2.1)) (cwV 2 hts gl_X4_95 rfl rfl rfl (by decide +kernel) ⟨Nat.le_of_ble_eq_true rfl, Nat.le_of_ble_eq_true rfl⟩) nN_mv hN hK hP [1, 2, 3] [0] rfl rfl rfl rfl rfl hl.1 rfl (Nat.le_of_ble_eq_true rfl) dX4_inside_36 ⟨Nat.le_of_ble_eq_true rfl, Nat.le_of_ble_eq_true rfl⟩ ?_
      refine lv_if_eq (tgt := 45) hx hb dX4_inside_39 (by decide) (fun c3 => ?_) (fun c3 => ?_)
      · refine lv_aload_n hx hb dX4_inside_45 rfl (lv_at hl 0 rfl) ?_
        refine va_get (D := D) (ci := 8) (v := .ref q1) (C := RX4) (T := TX4) (N := 4) hx hb hts hinX4 hown hK hP 0 rfl rfl 0 (by decide) (hts _ fk_X4_10) (fun _ h9 => h9) rfl dX4_inside_46 ?_
        refine lv_iload_n hx hb dX4_inside_49 rfl (lv_at hl 1 rfl) ?_
        refine lv_iload hx hb dX4_inside_50 (lv_at hl 4 rfl) ?_
        refine xr_V (q := (RX2, TX2, 3)) (ci := 6) (q0 := 1) (rest := []) (As := [.int ia, .int id]) ⟨hx, hb, hml, hown, hts⟩ (ct2_same l D q1 q2 q3 kI xs ys pm ia id ((o_all c1 opm).1) ((o_all c1 opm).2.2.2)) (cwV 2 hts gl_X4_95 rfl rfl rfl (by decide +kernel) ⟨Nat.le_of_ble_eq_true rfl, Nat.le_of_ble_eq_true rfl⟩) nN_mv hN hK hP [1, 2, 3] [0] rfl rfl rfl rfl rfl hl.1 rfl (Nat.le_of_ble_eq_true rfl) dX4_inside_52 ⟨Nat.le_of_ble_eq_true rfl, Nat.le_of_ble_eq_true rfl⟩ ?_
        refine lv_if_ne (tgt := 86) hx hb dX4_inside_55 (by decide) (fun c4 => ?_) (fun c4 => ?_)
        · refine lv_iconst (v := 2) hx hb dX4_inside_86 (by decide) ?_
          exact W.iret (v := (2 : Int32)) hx hb hr (fun t ht hW => ⟨by rw [show fX4_inside xs ys pm ia ib ic id = (2 : Int32) by unfold fX4_inside; rw [if_neg c1, if_pos c2, if_pos c3, if_neg c4]], ht⟩) (fun _ h => absurd h List.not_mem_nil) dX4_inside_87
        · refine lv_aload_n hx hb dX4_inside_58 rfl (lv_at hl 0 rfl) ?_
          refine va_get (D := D) (ci := 8) (v := .ref q1) (C := RX4) (T := TX4) (N := 4) hx hb hts hinX4 hown hK hP 0 rfl rfl 0 (by decide) (hts _ fk_X4_10) (fun _ h9 => h9) rfl dX4_inside_59 ?_
          refine lv_iload_n hx hb dX4_inside_62 rfl (lv_at hl 1 rfl) ?_
          refine lv_iload_n hx hb dX4_inside_63 rfl (lv_at hl 2 rfl) ?_
          refine lv_iload hx hb dX4_inside_64 (lv_at hl 4 rfl) ?_
          refine xr_V (q := (RX2, TX2, 3)) (ci := 6) (q0 := 1) (rest := []) (As := [.int ia, .int ib, .int id]) ⟨hx, hb, hml, hown, hts⟩ (ct2_oneDirection l D q1 q2 q3 kI xs ys pm ia ib id ((o_all c1 opm).1) ((o_all c1 opm).2.1) ((o_all c1 opm).2.2.2)) (cwV 3 hts gl_X4_138 rfl rfl rfl (by decide +kernel) ⟨Nat.le_of_ble_eq_true rfl, Nat.le_of_ble_eq_true rfl⟩) nN_mv hN hK hP [1, 2, 3] [0] rfl rfl rfl rfl rfl hl.1 rfl (Nat.le_of_ble_eq_true rfl) dX4_inside_66 ⟨Nat.le_of_ble_eq_true rfl, Nat.le_of_ble_eq_true rfl⟩ ?_
          refine lv_if_ne (tgt := 86) hx hb dX4_inside_69 (by decide) (fun c5 => ?_) (fun c5 => ?_)
          · refine lv_iconst (v := 2) hx hb dX4_inside_86 (by decide) ?_
            exact W.iret (v := (2 : Int32)) hx hb hr (fun t ht hW => ⟨by rw [show fX4_inside xs ys pm ia ib ic id = (2 : Int32) by unfold fX4_inside; rw [if_neg c1, if_pos c2, if_pos c3, if_pos c4, if_neg c5]], ht⟩) (fun _ h => absurd h List.not_mem_nil) dX4_inside_87
          · refine lv_aload_n hx hb dX4_inside_72 rfl (lv_at hl 0 rfl) ?_
            refine va_get (D := D) (ci := 8) (v := .ref q1) (C := RX4) (T := TX4) (N := 4) hx hb hts hinX4 hown hK hP 0 rfl rfl 0 (by decide) (hts _ fk_X4_10) (fun _ h9 => h9) rfl dX4_inside_73 ?_
            refine lv_iload_n hx hb dX4_inside_76 rfl (lv_at hl 1 rfl) ?_
            refine lv_iload_n hx hb dX4_inside_77 rfl (lv_at hl 3 rfl) ?_
            refine lv_iload hx hb dX4_inside_78 (lv_at hl 4 rfl) ?_
            refine xr_V (q := (RX2, TX2, 3)) (ci := 6) (q0 := 1) (rest := []) (As := [.int ia, .int ic, .int id]) ⟨hx, hb, hml, hown, hts⟩ (ct2_oneDirection l D q1 q2 q3 kI xs ys pm ia ic id ((o_all c1 opm).1) ((o_all c1 opm).2.2.1) ((o_all c1 opm).2.2.2)) (cwV 3 hts gl_X4_138 rfl rfl rfl (by decide +kernel) ⟨Nat.le_of_ble_eq_true rfl, Nat.le_of_ble_eq_true rfl⟩) nN_mv hN hK hP [1, 2, 3] [0] rfl rfl rfl rfl rfl hl.1 rfl (Nat.le_of_ble_eq_true rfl) dX4_inside_80 ⟨Nat.le_of_ble_eq_true rfl, Nat.le_of_ble_eq_true rfl⟩ ?_
            refine lv_if_eq (tgt := 88) hx hb dX4_inside_83 (by decide) (fun c6 => ?_) (fun c6 => ?_)
            · refine lv_aload_n hx hb dX4_inside_88 rfl (lv_at hl 0 rfl) ?_
              refine va_get (D := D) (ci := 8) (v := .ref q1) (C := RX4) (T := TX4) (N := 4) hx hb hts hinX4 hown hK hP 0 rfl rfl 0 (by decide) (hts _ fk_X4_10) (fun _ h9 => h9) rfl dX4_inside_89 ?_
              refine lv_iload_n hx hb dX4_inside_92 rfl (lv_at hl 1 rfl) ?_
              refine lv_iload_n hx hb dX4_inside_93 rfl (lv_at hl 2 rfl) ?_
              refine lv_iload_n hx hb dX4_inside_94 rfl (lv_at hl 3 rfl) ?_
              refine lv_iload hx hb dX4_inside_95 (lv_at hl 4 rfl) ?_
              refine xr_V (q := (RX2, TX2, 3)) (ci := 6) (q0 := 1) (rest := []) (As := [.int ia, .int ib, .int ic, .int id]) ⟨hx, hb, hml, hown, hts⟩ (ct2_strictlyInAngle l D q1 q2 q3 kI xs ys pm ia ib ic id ((o_all c1 opm).1) ((o_all c1 opm).2.1) ((o_all c1 opm).2.2.1) ((o_all c1 opm).2.2.2)) (cwV 4 hts gl_X4_141 rfl rfl rfl (by decide +kernel) ⟨Nat.le_of_ble_eq_true rfl, Nat.le_of_ble_eq_true rfl⟩) nN_mv hN hK hP [1, 2, 3] [0] rfl rfl rfl rfl rfl hl.1 rfl (Nat.le_of_ble_eq_true rfl) dX4_inside_97 ⟨Nat.le_of_ble_eq_true rfl, Nat.le_of_ble_eq_true rfl⟩ ?_
              refine lv_if_eq (tgt := 107) hx hb dX4_inside_100 (by decide) (fun c7 => ?_) (fun c7 => ?_)
              · refine lv_iconst (v := 0) hx hb dX4_inside_107 (by decide) ?_
                exact W.iret (v := (0 : Int32)) hx hb hr (fun t ht hW => ⟨by rw [show fX4_inside xs ys pm ia ib ic id = (0 : Int32) by unfold fX4_inside; rw [if_neg c1, if_pos c2, if_pos c3, if_pos c4, if_pos c5, if_pos c6, if_pos c7]], ht⟩) (fun _ h => absurd h List.not_mem_nil) dX4_inside_108
              · refine lv_iconst (v := 1) hx hb dX4_inside_103 (by decide) ?_
                refine lv_goto (tgt := 108) hx hb dX4_inside_104 (by decide) ?_
                exact W.iret (v := (1 : Int32)) hx hb hr (fun t ht hW => ⟨by rw [show fX4_inside xs ys pm ia ib ic id = (1 : Int32) by unfold fX4_inside; rw [if_neg c1, if_pos c2, if_pos c3, if_pos c4, if_pos c5, if_pos c6, if_neg c7]], ht⟩) (fun _ h => absurd h List.not_mem_nil) dX4_inside_108
            · refine lv_iconst (v := 2) hx hb dX4_inside_86 (by decide) ?_
              exact W.iret (v := (2 : Int32)) hx hb hr (fun t ht hW => ⟨by rw [show fX4_inside xs ys pm ia ib ic id = (2 : Int32) by unfold fX4_inside; rw [if_neg c1, if_pos c2, if_pos c3, if_pos c4, if_pos c5, if_neg c6]], ht⟩) (fun _ h => absurd h List.not_mem_nil) dX4_inside_87
      · refine lv_bipush (v := (-4)) hx hb dX4_inside_42 (by decide) ?_
        exact W.iret (v := (-4 : Int32)) hx hb hr (fun t ht hW => ⟨by rw [show fX4_inside xs ys pm ia ib ic id = (-4 : Int32) by unfold fX4_inside; rw [if_neg c1, if_pos c2, if_neg c3]], ht⟩) (fun _ h => absurd h List.not_mem_nil) dX4_inside_44
  · refine lv_bipush (v := (-2)) hx hb dX4_inside_15 (by decide) ?_
    exact W.iret (v := (-2 : Int32)) hx hb hr (fun t ht hW => ⟨by rw [show fX4_inside xs ys pm ia ib ic id = (-2 : Int32) by unfold fX4_inside; rw [if_pos c1]], ht⟩) (fun _ h => absurd h List.not_mem_nil) dX4_inside_17
def fX4_cross (xs ys : Nat → Int32) (pm : Int32) (ia : Int32) (ib : Int32) (ic : Int32) (id : Int32) : Int32 := if (fX2_hasAll pm ia ib ic id) = (0 : Int32) then ((-2 : Int32)) else (if (fX2_allInLine xs ys ia ib ic id) = (0 : Int32) then (fX2_meeting xs ys ia ib ic id) else (fX2_overlap xs ys ia ib ic id))
set_option maxHeartbeats 4000000 in
set_option maxRecDepth 100000 in
theorem ct4_cross (l : Launch) (D : va_G) (o1 f1 r1 d1 q1 q2 q3 : Nat) (kI : ClassId) (xs ys : Nat → Int32) (pm : Int32) (ia : Int32) (ib : Int32) (ic : Int32) (id : Int32) (opm : pm.toInt ≤ (60 : Nat)) : Met l yX4_cross (Cond.code yX4_cross cX4_cross 5 (some .int) :: BX) ({ frames := 4, cells := 0, slots := 0, locals := 240 }) (xr_P nN D vwCl [(kI, .int)] (wOp o1 f1 r1 d1 q1 q2 q3 kI xs ys pm) [.ref o1, .int ia, .int ib, .int ic, .int id]) (xr_Q (.int (fX4_cross xs ys pm ia ib ic id))) 0 0 (fun _ => False) := by
  refine Met.ofW (cc := cX4_cross) (maxL := 5) (ret := (some .int)) (by decide) rfl ?_
  intro p e s m args below meth c s₁ B hml hv
  obtain ⟨rfl, hP, hK, hN⟩ := hv
  have hx := B.exec
  have hb := B.bytes
  have hr := B.returns
  have hts0 := atoms_spec (ws := Cond.code yX4_cross cX4_cross 5 (some .int) :: BX) B.pre
  have hts : ∀ w ∈ BX, w.before _ s = true := fun w h => hts0 w (List.mem_cons_of_mem _ h)
  have hown : s.vm.findClass RX4 = some m.cls := findClass_of_methodNamed B.named
  have hlocks := B.notSynchronized
  have hl := lv_entry ([.ref o1, .int ia, .int ib, .int ic, .int id]) (n := 5) (Nat.le_of_ble_eq_true rfl)
  rw [lg_entry_eq]
  generalize (lg_sl ([.ref o1, .int ia, .int ib, .int ic, .int id]) ++ List.replicate (5 - (lg_sl ([.ref o1, .int ia, .int ib, .int ic, .int id])).length) Slot.unset).toArray = ls at hl ⊢
  have hl : lv_has ls 5 [(0, .ref o1), (1, .int ia), (2, .int ib), (3, .int ic), (4, .int id)] := hl
  refine lv_aload_n hx hb dX4_cross_0 rfl (lv_at hl 0 rfl) ?_
  refine va_get (D := D) (ci := 8) (v := .ref q1) (C := RX4) (T := TX4) (N := 4) hx hb hts hinX4 hown hK hP 0 rfl rfl 0 (by decide) (hts _ fk_X4_10) (fun _ h9 => h9) rfl dX4_cross_1 ?_
  refine lv_iload_n hx hb dX4_cross_4 rfl (lv_at hl 1 rfl) ?_
  refine lv_iload_n hx hb dX4_cross_5 rfl (lv_at hl 2 rfl) ?_
  refine lv_iload_n hx hb dX4_cross_6 rfl (lv_at hl 3 rfl) ?_
  refine lv_iload hx hb dX4_cross_7 (lv_at hl 4 rfl) ?_
  refine xr_V (q := (RX2, TX2, 3)) (ci := 6) (q0 := 1) (rest := []) (As := [.int ia, .int ib, .int ic, .int id]) ⟨hx, hb, hml, hown, hts⟩ (ct2_hasAll l D q1 q2 q3 kI xs ys pm ia ib ic id ) (cwV 4 hts gl_X4_114 rfl rfl rfl (by decide +kernel) ⟨Nat.le_of_ble_eq_true rfl, Nat.le_of_ble_eq_true rfl⟩) nN_mv hN hK hP [1, 2, 3] [0] rfl rfl rfl rfl rfl hl.1 rfl (Nat.le_of_ble_eq_true rfl) dX4_cross_9 ⟨Nat.le_of_ble_eq_true rfl, Nat.le_of_ble_eq_true rfl⟩ ?_
  refine lv_if_ne (tgt := 18) hx hb dX4_cross_12 (by decide) (fun c1 => ?_) (fun c1 => ?_)
  · refine lv_aload_n hx hb dX4_cross_18 rfl (lv_at hl 0 rfl) ?_
    refine va_get (D := D) (ci := 8) (v := .ref q1) (C := RX4) (T := TX4) (N := 4) hx hb hts hinX4 hown hK hP 0 rfl rfl 0 (by decide) (hts _ fk_X4_10) (fun _ h9 => h9) rfl dX4_cross_19 ?_
    refine lv_iload_n hx hb dX4_cross_22 rfl (lv_at hl 1 rfl) ?_
    refine lv_iload_n hx hb dX4_cross_23 rfl (lv_at hl 2 rfl) ?_
    refine lv_iload_n hx hb dX4_cross_24 rfl (lv_at hl 3 rfl) ?_
    refine lv_iload hx hb dX4_cross_25 (lv_at hl 4 rfl) ?_
    refine xr_V (q := (RX2, TX2, 3)) (ci := 6) (q0 := 1) (rest := []) (As := [.int ia, .int ib, .int ic, .int id]) ⟨hx, hb, hml, hown, hts⟩ (ct2_allInLine l D q1 q2 q3 kI xs ys pm ia ib ic id ((o_all c1 opm).1) ((o_all c1 opm).2.1) ((o_all c1 opm).2.2.1) ((o_all c1 opm).2.2.2)) (cwV 4 hts gl_X4_144 rfl rfl rfl (by decide +kernel) ⟨Nat.le_of_ble_eq_true rfl, Nat.le_of_ble_eq_true rfl⟩) nN_mv hN hK hP [1, 2, 3] [0] rfl rfl rfl rfl rfl hl.1 rfl (Nat.le_of_ble_eq_true rfl) dX4_cross_27 ⟨Nat.le_of_ble_eq_true rfl, Nat.le_of_ble_eq_true rfl⟩ ?_
    refine lv_if_eq (tgt := 48) hx hb dX4_cross_30 (by decide) (fun c2 => ?_) (fun c2 => ?_)
    · refine lv_aload_n hx hb dX4_cross_48 rfl (lv_at hl 0 rfl) ?_
      refine va_get (D := D) (ci := 8) (v := .ref q1) (C := RX4) (T := TX4) (N := 4) hx hb hts hinX4 hown hK hP 0 rfl rfl 0 (by decide) (hts _ fk_X4_10) (fun _ h9 => h9) rfl dX4_cross_49 ?_
      refine lv_iload_n hx hb dX4_cross_52 rfl (lv_at hl 1 rfl) ?_
      refine lv_iload_n hx hb dX4_cross_53 rfl (lv_at hl 2 rfl) ?_
      refine lv_iload_n hx hb dX4_cross_54 rfl (lv_at hl 3 rfl) ?_
      refine lv_iload hx hb dX4_cross_55 (lv_at hl 4 rfl) ?_
      refine xr_V (q := (RX2, TX2, 3)) (ci := 6) (q0 := 1) (rest := []) (As := [.int ia, .int ib, .int ic, .int id]) ⟨hx, hb, hml, hown, hts⟩ (ct2_meeting l D q1 q2 q3 kI xs ys pm ia ib ic id ((o_all c1 opm).1) ((o_all c1 opm).2.1) ((o_all c1 opm).2.2.1) ((o_all c1 opm).2.2.2)) (cwV 4 hts gl_X4_150 rfl rfl rfl (by decide +kernel) ⟨Nat.le_of_ble_eq_true rfl, Nat.le_of_ble_eq_true rfl⟩) nN_mv hN hK hP [1, 2, 3] [0] rfl rfl rfl rfl rfl hl.1 rfl (Nat.le_of_ble_eq_true rfl) dX4_cross_57 ⟨Nat.le_of_ble_eq_true rfl, Nat.le_of_ble_eq_true rfl⟩ ?_
      exact W.iret (v := fX2_meeting xs ys ia ib ic id) hx hb hr (fun t ht hW => ⟨by rw [show fX4_cross xs ys pm ia ib ic id = fX2_meeting xs ys ia ib ic id by unfold fX4_cross; rw [if_neg c1, if_pos c2]], ht⟩) (fun _ h => absurd h List.not_mem_nil) dX4_cross_60
    · refine lv_aload_n hx hb dX4_cross_33 rfl (lv_at hl 0 rfl) ?_
      refine va_get (D := D) (ci := 8) (v := .ref q1) (C := RX4) (T := TX4) (N := 4) hx hb hts hinX4 hown hK hP 0 rfl rfl 0 (by decide) (hts _ fk_X4_10) (fun _ h9 => h9) rfl dX4_cross_34 ?_
      refine lv_iload_n hx hb dX4_cross_37 rfl (lv_at hl 1 rfl) ?_
      refine lv_iload_n hx hb dX4_cross_38 rfl (lv_at hl 2 rfl) ?_
      refine lv_iload_n hx hb dX4_cross_39 rfl (lv_at hl 3 rfl) ?_
      refine lv_iload hx hb dX4_cross_40 (lv_at hl 4 rfl) ?_
      refine xr_V (q := (RX2, TX2, 3)) (ci := 6) (q0 := 1) (rest := []) (As := [.int ia, .int ib, .int ic, .int id]) ⟨hx, hb, hml, hown, hts⟩ (ct2_overlap l D q1 q2 q3 kI xs ys pm ia ib ic id ((o_all c1 opm).1) ((o_all c1 opm).2.1) ((o_all c1 opm).2.2.1) ((o_all c1 opm).2.2.2)) (cwV 4 hts gl_X4_147 rfl rfl rfl (by decide +kernel) ⟨Nat.le_of_ble_eq_true rfl, Nat.le_of_ble_eq_true rfl⟩) nN_mv hN hK hP [1, 2, 3] [0] rfl rfl rfl rfl rfl hl.1 rfl (Nat.le_of_ble_eq_true rfl) dX4_cross_42 ⟨Nat.le_of_ble_eq_true rfl, Nat.le_of_ble_eq_true rfl⟩ ?_
      refine lv_goto (tgt := 60) hx hb dX4_cross_45 (by decide) ?_
      exact W.iret (v := fX2_overlap xs ys ia ib ic id) hx hb hr (fun t ht hW => ⟨by rw [show fX4_cross xs ys pm ia ib ic id = fX2_overlap xs ys ia ib ic id by unfold fX4_cross; rw [if_neg c1, if_neg c2]], ht⟩) (fun _ h => absurd h List.not_mem_nil) dX4_cross_60
  · refine lv_bipush (v := (-2)) hx hb dX4_cross_15 (by decide) ?_
    exact W.iret (v := (-2 : Int32)) hx hb hr (fun t ht hW => ⟨by rw [show fX4_cross xs ys pm ia ib ic id = (-2 : Int32) by unfold fX4_cross; rw [if_pos c1]], ht⟩) (fun _ h => absurd h List.not_mem_nil) dX4_cross_17
def fX4_separated (xs ys : Nat → Int32) (pm : Int32) (ia : Int32) (ib : Int32) (ic : Int32) (id : Int32) : Int32 := if (fX2_hasAll pm ia ib ic id) = (0 : Int32) then ((-2 : Int32)) else (if (fX2_anySame xs ys ia ib ic id) = (0 : Int32) then (if (fX2_allInLine xs ys ia ib ic id) = (0 : Int32) then (if (fX2_turn xs ys ia ib ic) = (0 : Int32) then ((-4 : Int32)) else (if (fX2_lift xs ys ia ib ic id) = (0 : Int32) then (if (fX2_turn xs ys ia ib ic) = (fX2_turn xs ys ia ib id) then ((0 : Int32)) else ((1 : Int32))) else ((-4 : Int32)))) else (if (fX2_onWay xs ys ia ib ic) = (fX2_onWay xs ys ia ib id) then ((0 : Int32)) else ((1 : Int32)))) else ((-4 : Int32)))
set_option maxHeartbeats 4000000 in
set_option maxRecDepth 100000 in
theorem ct4_separated (l : Launch) (D : va_G) (o1 f1 r1 d1 q1 q2 q3 : Nat) (kI : ClassId) (xs ys : Nat → Int32) (pm : Int32) (ia : Int32) (ib : Int32) (ic : Int32) (id : Int32) (opm : pm.toInt ≤ (60 : Nat)) : Met l yX4_separated (Cond.code yX4_separated cX4_separated 6 (some .int) :: BX) ({ frames := 3, cells := 0, slots := 0, locals := 180 }) (xr_P nN D vwCl [(kI, .int)] (wOp o1 f1 r1 d1 q1 q2 q3 kI xs ys pm) [.ref o1, .int ia, .int ib, .int ic, .int id]) (xr_Q (.int (fX4_separated xs ys pm ia ib ic id))) 0 0 (fun _ => False) := by
  refine Met.ofW (cc := cX4_separated) (maxL := 6) (ret := (some .int)) (by decide) rfl ?_
  intro p e s m args below meth c s₁ B hml hv
  obtain ⟨rfl, hP, hK, hN⟩ := hv
  have hx := B.exec
  have hb := B.bytes
  have hr := B.returns
  have hts0 := atoms_spec (ws := Cond.code yX4_separated cX4_separated 6 (some .int) :: BX) B.pre
  have hts : ∀ w ∈ BX, w.before _ s = true := fun w h => hts0 w (List.mem_cons_of_mem _ h)
  have hown : s.vm.findClass RX4 = some m.cls := findClass_of_methodNamed B.named
  have hlocks := B.notSynchronized
  have hl := lv_entry ([.ref o1, .int ia, .int ib, .int ic, .int id]) (n := 6) (Nat.le_of_ble_eq_true rfl)
  rw [lg_entry_eq]
  generalize (lg_sl ([.ref o1, .int ia, .int ib, .int ic, .int id]) ++ List.replicate (6 - (lg_sl ([.ref o1, .int ia, .int ib, .int ic, .int id])).length) Slot.unset).toArray = ls at hl ⊢
  have hl : lv_has ls 6 [(0, .ref o1), (1, .int ia), (2, .int ib), (3, .int ic), (4, .int id)] := hl
  refine lv_aload_n hx hb dX4_separated_0 rfl (lv_at hl 0 rfl) ?_
  refine va_get (D := D) (ci := 8) (v := .ref q1) (C := RX4) (T := TX4) (N := 4) hx hb hts hinX4 hown hK hP 0 rfl rfl 0 (by decide) (hts _ fk_X4_10) (fun _ h9 => h9) rfl dX4_separated_1 ?_
  refine lv_iload_n hx hb dX4_separated_4 rfl (lv_at hl 1 rfl) ?_
  refine lv_iload_n hx hb dX4_separated_5 rfl (lv_at hl 2 rfl) ?_
  refine lv_iload_n hx hb dX4_separated_6 rfl (lv_at hl 3 rfl) ?_
  refine lv_iload hx hb dX4_separated_7 (lv_at hl 4 rfl) ?_
  refine xr_V (q := (RX2, TX2, 3)) (ci := 6) (q0 := 1) (rest := []) (As := [.int ia, .int ib, .int ic, .int id]) ⟨hx, hb, hml, hown, hts⟩ (ct2_hasAll l D q1 q2 q3 kI xs ys pm ia ib ic id ) (cwV 4 hts gl_X4_114 rfl rfl rfl (by decide +kernel) ⟨Nat.le_of_ble_eq_true rfl, Nat.le_of_ble_eq_true rfl⟩) nN_mv hN hK hP [1, 2, 3] [0] rfl rfl rfl rfl rfl hl.1 rfl (Nat.le_of_ble_eq_true rfl) dX4_separated_9 ⟨Nat.le_of_ble_eq_true rfl, Nat.le_of_ble_eq_true rfl⟩ ?_
  refine lv_if_ne (tgt := 18) hx hb dX4_separated_12 (by decide) (fun c1 => ?_) (fun c1 => ?_)
  · refine lv_aload_n hx hb dX4_separated_18 rfl (lv_at hl 0 rfl) ?_
    refine va_get (D := D) (ci := 8) (v := .ref q1) (C := RX4) (T := TX4) (N := 4) hx hb hts hinX4 hown hK hP 0 rfl rfl 0 (by decide) (hts _ fk_X4_10) (fun _ h9 => h9) rfl dX4_separated_19 ?_
    refine lv_iload_n hx hb dX4_separated_22 rfl (lv_at hl 1 rfl) ?_
    refine lv_iload_n hx hb dX4_separated_23 rfl (lv_at hl 2 rfl) ?_
    refine lv_iload_n hx hb dX4_separated_24 rfl (lv_at hl 3 rfl) ?_
    refine lv_iload hx hb dX4_separated_25 (lv_at hl 4 rfl) ?_
    refine xr_V (q := (RX2, TX2, 3)) (ci := 6) (q0 := 1) (rest := []) (As := [.int ia, .int ib, .int ic, .int id]) ⟨hx, hb, hml, hown, hts⟩ (ct2_anySame l D q1 q2 q3 kI xs ys pm ia ib ic id ((o_all c1 opm).1) ((o_all c1 opm).2.1) ((o_all c1 opm).2.2.1) ((o_all c1 opm).2.2.2)) (cwV 4 hts gl_X4_153 rfl rfl rfl (by decide +kernel) ⟨Nat.le_of_ble_eq_true rfl, Nat.le_of_ble_eq_true rfl⟩) nN_mv hN hK hP [1, 2, 3] [0] rfl rfl rfl rfl rfl hl.1 rfl (Nat.le_of_ble_eq_true rfl) dX4_separated_27 ⟨Nat.le_of_ble_eq_true rfl, Nat.le_of_ble_eq_true rfl⟩ ?_
    refine lv_if_eq (tgt := 36) hx hb dX4_separated_30 (by decide) (fun c2 => ?_) (fun c2 => ?_)
    · refine lv_aload_n hx hb dX4_separated_36 rfl (lv_at hl 0 rfl) ?_
      refine va_get (D := D) (ci := 8) (v := .ref q1) (C := RX4) (T := TX4) (N := 4) hx hb hts hinX4 hown hK hP 0 rfl rfl 0 (by decide) (hts _ fk_X4_10) (fun _ h9 => h9) rfl dX4_separated_37 ?_
      refine lv_iload_n hx hb dX4_separated_40 rfl (lv_at hl 1 rfl) ?_
      refine lv_iload_n hx hb dX4_separated_41 rfl (lv_at hl 2 rfl) ?_
      refine lv_iload_n hx hb dX4_separated_42 rfl (lv_at hl 3 rfl) ?_
      refine lv_iload hx hb dX4_separated_43 (lv_at hl 4 rfl) ?_
      refine xr_V (q := (RX2, TX2, 3)) (ci := 6) (q0 := 1) (rest := []) (As := [.int ia, .int ib, .int ic, .int id]) ⟨hx, hb, hml, hown, hts⟩ (ct2_allInLine l D q1 q2 q3 kI xs ys pm ia ib ic id ((o_all c1 opm).1) ((o_all c1 opm).2.1) ((o_all c1 opm).2.2.1) ((o_all c1 opm).2.2.2)) (cwV 4 hts gl_X4_144 rfl rfl rfl (by decide +kernel) ⟨Nat.le_of_ble_eq_true rfl, Nat.le_of_ble_eq_true rfl⟩) nN_mv hN hK hP [1, 2, 3] [0] rfl rfl rfl rfl rfl hl.1 rfl (Nat.le_of_ble_eq_true rfl) dX4_separated_45 ⟨Nat.le_of_ble_eq_true rfl, Nat.le_of_ble_eq_true rfl⟩ ?_
      refine lv_if_eq (tgt := 81) hx hb dX4_separated_48 (by decide) (fun c3 => ?_) (fun c3 => ?_)
      · refine lv_aload_n hx hb dX4_separated_81 rfl (lv_at hl 0 rfl) ?_
        refine va_get (D := D) (ci := 8) (v := .ref q1) (C := RX4) (T := TX4) (N := 4) hx hb hts hinX4 hown hK hP 0 rfl rfl 0 (by decide) (hts _ fk_X4_10) (fun _ h9 => h9) rfl dX4_separated_82 ?_
        refine lv_iload_n hx hb dX4_separated_85 rfl (lv_at hl 1 rfl) ?_
        refine lv_iload_n hx hb dX4_separated_86 rfl (lv_at hl 2 rfl) ?_
        refine lv_iload_n hx hb dX4_separated_87 rfl (lv_at hl 3 rfl) ?_
        refine xr_V (q := (RX2, TX2, 3)) (ci := 6) (q0 := 1) (rest := []) (As := [.int ia, .int ib, .int ic]) ⟨hx, hb, hml, hown, hts⟩ (ct2_turn l D q1 q2 q3 kI xs ys pm ia ib ic ((o_all c1 opm).1) ((o_all c1 opm).2.1) ((o_all c1 opm).2.2.1)) (cwV 3 hts gl_X4_107 rfl rfl rfl (by decide +kernel) ⟨Nat.le_of_ble_eq_true rfl, Nat.le_of_ble_eq_true rfl⟩) nN_mv hN hK hP [1, 2, 3] [0] rfl rfl rfl rfl rfl hl.1 rfl (Nat.le_of_ble_eq_true rfl) dX4_separated_88 ⟨Nat.le_of_ble_eq_true rfl, Nat.le_of_ble_eq_true rfl⟩ ?_
        refine lv_istore (lv' := [(5, .int (fX2_turn xs ys ia ib ic)), (0, .ref o1), (1, .int ia), (2, .int ib), (3, .int ic), (4, .int id)]) hx hb dX4_separated_91 hl (by decide) rfl (fun ls hl => ?_)
        refine lv_iload hx hb dX4_separated_93 (lv_at hl 0 rfl) ?_
        refine lv_if_eq (tgt := 113) hx hb dX4_separated_95 (by decide) (fun c4 => ?_) (fun c4 => ?_)
        · refine lv_bipush (v := (-4)) hx hb dX4_separated_113 (by decide) ?_
          exact W.iret (v := (-4 : Int32)) hx hb hr (fun t ht hW => ⟨by rw [show fX4_separated xs ys pm ia ib ic id = (-4 : Int32) by unfold fX4_separated; rw [if_neg c1, if_pos c2, if_pos c3, if_pos c4]], ht⟩) (fun _ h => absurd h List.not_mem_nil) dX4_separated_115
        · refine lv_aload_n hx hb dX4_separated_98 rfl (lv_at hl 1 rfl) ?_
          refine va_get (D := D) (ci := 8) (v := .ref q1) (C := RX4) (T := TX4) (N := 4) hx hb hts hinX4 hown hK hP 0 rfl rfl 0 (by decide) (hts _ fk_X4_10) (fun _ h9 => h9) rfl dX4_separated_99 ?_
          refine lv_iload_n hx hb dX4_separated_102 rfl (lv_at hl 2 rfl) ?_
          refine lv_iload_n hx hb dX4_separated_103 rfl (lv_at hl 3 rfl) ?_
          refine lv_iload_n hx hb dX4_separated_104 rfl (lv_at hl 4 rfl) ?_
          refine lv_iload hx hb dX4_separated_105 (lv_at hl 5 rfl) ?_
          refine xr_V (q := (RX2, TX2, 3)) (ci := 6) (q0 := 1) (rest := []) (As := [.int ia, .int ib, .int ic, .int id]) ⟨hx, hb, hml, hown, hts⟩ (ct2_lift l D q1 q2 q3 kI xs ys pm ia ib ic id ((o_all c1 opm).1) ((o_all c1 opm).2.1) ((o_all c1 opm).2.2.1) ((o_all c1 opm).2.2.2)) (cwV 4 hts gl_X4_122 rfl rfl rfl (by decide +kernel) ⟨Nat.le_of_ble_eq_true rfl, Nat.le_of_ble_eq_true rfl⟩) nN_mv hN hK hP [1, 2, 3] [0] rfl rfl rfl rfl rfl hl.1 rfl (Nat.le_of_ble_eq_true rfl) dX4_separated_107 ⟨Nat.le_of_ble_eq_true rfl, Nat.le_of_ble_eq_true rfl⟩ ?_
          refine lv_if_eq (tgt := 116) hx hb dX4_separated_110 (by decide) (fun c5 => ?_) (fun c5 => ?_)
          · refine lv_iload hx hb dX4_separated_116 (lv_at hl 0 rfl) ?_
            refine lv_aload_n hx hb dX4_separated_118 rfl (lv_at hl 1 rfl) ?_
            refine va_get (D := D) (ci := 8) (v := .ref q1) (C := RX4) (T := TX4) (N := 4) hx hb hts hinX4 hown hK hP 0 rfl rfl 0 (by decide) (hts _ fk_X4_10) (fun _ h9 => h9) rfl dX4_separated_119 ?_
            refine lv_iload_n hx hb dX4_separated_122 rfl (lv_at hl 2 rfl) ?_
            refine lv_iload_n hx hb dX4_separated_123 rfl (lv_at hl 3 rfl) ?_
            refine lv_iload hx hb dX4_separated_124 (lv_at hl 5 rfl) ?_
            refine xr_V (q := (RX2, TX2, 3)) (ci := 6) (q0 := 1) (rest := [.int (fX2_turn xs ys ia ib ic)]) (As := [.int ia, .int ib, .int id]) ⟨hx, hb, hml, hown, hts⟩ (ct2_turn l D q1 q2 q3 kI xs ys pm ia ib id ((o_all c1 opm).1) ((o_all c1 opm).2.1) ((o_all c1 opm).2.2.2)) (cwV 3 hts gl_X4_107 rfl rfl rfl (by decide +kernel) ⟨Nat.le_of_ble_eq_true rfl, Nat.le_of_ble_eq_true rfl⟩) nN_mv hN hK hP [1, 2, 3] [0] rfl rfl rfl rfl rfl hl.1 rfl (Nat.le_of_ble_eq_true rfl) dX4_separated_126 ⟨Nat.le_of_ble_eq_true rfl, Nat.le_of_ble_eq_true rfl⟩ ?_
            refine lv_icmp_eq (tgt := 136) hx hb dX4_separated_129 (by decide) (fun c6 => ?_) (fun c6 => ?_)
            · refine lv_iconst (v := 0) hx hb dX4_separated_136 (by decide) ?_
              exact W.iret (v := (0 : Int32)) hx hb hr (fun t ht hW => ⟨by rw [show fX4_separated xs ys pm ia ib ic id = (0 : Int32) by unfold fX4_separated; rw [if_neg c1, if_pos c2, if_pos c3, if_neg c4, if_pos c5, if_pos c6]], ht⟩) (fun _ h => absurd h List.not_mem_nil) dX4_separated_137
            · refine lv_iconst (v := 1) hx hb dX4_separated_132 (by decide) ?_
              refine lv_goto (tgt := 137) hx hb dX4_separated_133 (by decide) ?_
              exact W.iret (v := (1 : Int32)) hx hb hr (fun t ht hW => ⟨by rw [show fX4_separated xs ys pm ia ib ic id = (1 : Int32) by unfold fX4_separated; rw [if_neg c1, if_pos c2, if_pos c3, if_neg c4, if_pos c5, if_neg c6]], ht⟩) (fun _ h => absurd h List.not_mem_nil) dX4_separated_137
          · refine lv_bipush (v := (-4)) hx hb dX4_separated_113 (by decide) ?_
            exact W.iret (v := (-4 : Int32)) hx hb hr (fun t ht hW => ⟨by rw [show fX4_separated xs ys pm ia ib ic id = (-4 : Int32) by unfold fX4_separated; rw [if_neg c1, if_pos c2, if_pos c3, if_neg c4, if_neg c5]], ht⟩) (fun _ h => absurd h List.not_mem_nil) dX4_separated_115
      · refine lv_aload_n hx hb dX4_separated_51 rfl (lv_at hl 0 rfl) ?_
        refine va_get (D := D) (ci := 8) (v := .ref q1) (C := RX4) (T := TX4) (N := 4) hx hb hts hinX4 hown hK hP 0 rfl rfl 0 (by decide) (hts _ fk_X4_10) (fun _ h9 => h9) rfl dX4_separated_52 ?_
        refine lv_iload_n hx hb dX4_separated_55 rfl (lv_at hl 1 rfl) ?_
        refine lv_iload_n hx hb dX4_separated_56 rfl (lv_at hl 2 rfl) ?_
        refine lv_iload_n hx hb dX4_separated_57 rfl (lv_at hl 3 rfl) ?_
        refine xr_V (q := (RX2, TX2, 3)) (ci := 6) (q0 := 1) (rest := []) (As := [.int ia, .int ib, .int ic]) ⟨hx, hb, hml, hown, hts⟩ (ct2_onWay l D q1 q2 q3 kI xs ys pm ia ib ic ((o_all c1 opm).1) ((o_all c1 opm).2.1) ((o_all c1 opm).2.2.1)) (cwV 3 hts gl_X4_134 rfl rfl rfl (by decide +kernel) ⟨Nat.le_of_ble_eq_true rfl, Nat.le_of_ble_eq_true rfl⟩) nN_mv hN hK hP [1, 2, 3] [0] rfl rfl rfl rfl rfl hl.1 rfl (Nat.le_of_ble_eq_true rfl) dX4_separated_58 ⟨Nat.le_of_ble_eq_true rfl, Nat.le_of_ble_eq_true rfl⟩ ?_
        refine lv_aload_n hx hb dX4_separated_61 rfl (lv_at hl 0 rfl) ?_
        refine va_get (D := D) (ci := 8) (v := .ref q1) (C := RX4) (T := TX4) (N := 4) hx hb hts hinX4 hown hK hP 0 rfl rfl 0 (by decide) (hts _ fk_X4_10) (fun _ h9 => h9) rfl dX4_separated_62 ?_
        refine lv_iload_n hx hb dX4_separated_65 rfl (lv_at hl 1 rfl) ?_
        refine lv_iload_n hx hb dX4_separated_66 rfl (lv_at hl 2 rfl) ?_
        refine lv_iload hx hb dX4_separated_67 (lv_at hl 4 rfl) ?_
        refine xr_V (q := (RX2, TX2, 3)) (ci := 6) (q0 := 1) (rest := [.int (fX2_onWay xs ys ia ib ic)]) (As := [.int ia, .int ib, .int id]) ⟨hx, hb, hml, hown, hts⟩ (ct2_onWay l D q1 q2 q3 kI xs ys pm ia ib id ((o_all c1 opm).1) ((o_all c1 opm).2.1) ((o_all c1 opm).2.2.2)) (cwV 3 hts gl_X4_134 rfl rfl rfl (by decide +kernel) ⟨Nat.le_of_ble_eq_true rfl, Nat.le_of_ble_eq_true rfl⟩) nN_mv hN hK hP [1, 2, 3] [0] rfl rfl rfl rfl rfl hl.1 rfl (Nat.le_of_ble_eq_true rfl) dX4_separated_69 ⟨Nat.le_of_ble_eq_true rfl, Nat.le_of_ble_eq_true rfl⟩ ?_
        refine lv_icmp_eq (tgt := 79) hx hb dX4_separated_72 (by decide) (fun c7 => ?_) (fun c7 => ?_)
        · refine lv_iconst (v := 0) hx hb dX4_separated_79 (by decide) ?_
          exact W.iret (v := (0 : Int32)) hx hb hr (fun t ht hW => ⟨by rw [show fX4_separated xs ys pm ia ib ic id = (0 : Int32) by unfold fX4_separated; rw [if_neg c1, if_pos c2, if_neg c3, if_pos c7]], ht⟩) (fun _ h => absurd h List.not_mem_nil) dX4_separated_80
        · refine lv_iconst (v := 1) hx hb dX4_separated_75 (by decide) ?_
          refine lv_goto (tgt := 80) hx hb dX4_separated_76 (by decide) ?_
          exact W.iret (v := (1 : Int32)) hx hb hr (fun t ht hW => ⟨by rw [show fX4_separated xs ys pm ia ib ic id = (1 : Int32) by unfold fX4_separated; rw [if_neg c1, if_pos c2, if_neg c3, if_neg c7]], ht⟩) (fun _ h => absurd h List.not_mem_nil) dX4_separated_80
    · refine lv_bipush (v := (-4)) hx hb dX4_separated_33 (by decide) ?_
      exact W.iret (v := (-4 : Int32)) hx hb hr (fun t ht hW => ⟨by rw [show fX4_separated xs ys pm ia ib ic id = (-4 : Int32) by unfold fX4_separated; rw [if_neg c1, if_neg c2]], ht⟩) (fun _ h => absurd h List.not_mem_nil) dX4_separated_35
  · refine lv_bipush (v := (-2)) hx hb dX4_separated_15 (by decide) ?_
    exact W.iret (v := (-2 : Int32)) hx hb hr (fun t ht hW => ⟨by rw [show fX4_separated xs ys pm ia ib ic id = (-2 : Int32) by unfold fX4_separated; rw [if_pos c1]], ht⟩) (fun _ h => absurd h List.not_mem_nil) dX4_separated_17
def fX4_refusalWithPoint (held : Nat → Int32) (rm pm : Int32) (n : Int32) (ip : Int32) : Int32 := if (fX2_has pm ip) = (0 : Int32) then ((-2 : Int32)) else (fX3_refusal held rm n)
set_option maxHeartbeats 4000000 in
set_option maxRecDepth 100000 in
theorem ct4_refusalWithPoint (l : Launch) (D : va_G) (o1 f1 r1 d1 r2 q1 q2 q3 : Nat) (kI : ClassId) (held xs ys : Nat → Int32) (rm pm : Int32) (n : Int32) (ip : Int32) (orm : rm.toInt ≤ (24 : Nat)) : Met l yX4_refusalWithPoint (Cond.code yX4_refusalWithPoint cX4_refusalWithPoint 3 (some .int) :: BX) ({ frames := 1, cells := 0, slots := 0, locals := 60 }) (xr_P nN D vwCl [(kI, .int)] (wOr o1 f1 r1 d1 r2 q1 q2 q3 kI held xs ys rm pm) [.ref o1, .int n, .int ip]) (xr_Q (.int (fX4_refusalWithPoint held rm pm n ip))) 0 0 (fun _ => False) := by
  refine Met.ofW (cc := cX4_refusalWithPoint) (maxL := 3) (ret := (some .int)) (by decide) rfl ?_
  intro p e s m args below meth c s₁ B hml hv
  obtain ⟨rfl, hP, hK, hN⟩ := hv
  have hx := B.exec
  have hb := B.bytes
  have hr := B.returns
  have hts0 := atoms_spec (ws := Cond.code yX4_refusalWithPoint cX4_refusalWithPoint 3 (some .int) :: BX) B.pre
  have hts : ∀ w ∈ BX, w.before _ s = true := fun w h => hts0 w (List.mem_cons_of_mem _ h)
  have hown : s.vm.findClass RX4 = some m.cls := findClass_of_methodNamed B.named
  have hlocks := B.notSynchronized
  have hl := lv_entry ([.ref o1, .int n, .int ip]) (n := 3) (Nat.le_of_ble_eq_true rfl)
  rw [lg_entry_eq]
  generalize (lg_sl ([.ref o1, .int n, .int ip]) ++ List.replicate (3 - (lg_sl ([.ref o1, .int n, .int ip])).length) Slot.unset).toArray = ls at hl ⊢
  have hl : lv_has ls 3 [(0, .ref o1), (1, .int n), (2, .int ip)] := hl
  refine lv_aload_n hx hb dX4_refusalWithPoint_0 rfl (lv_at hl 0 rfl) ?_
  refine va_get (D := D) (ci := 8) (v := .ref q1) (C := RX4) (T := TX4) (N := 4) hx hb hts hinX4 hown hK hP 0 rfl rfl 0 (by decide) (hts _ fk_X4_10) (fun _ h9 => h9) rfl dX4_refusalWithPoint_1 ?_
  refine lv_iload_n hx hb dX4_refusalWithPoint_4 rfl (lv_at hl 2 rfl) ?_
  refine xr_V (q := (RX2, TX2, 3)) (ci := 6) (q0 := 3) (rest := []) (As := [.int ip]) ⟨hx, hb, hml, hown, hts⟩ (ct2_has l D q1 q2 q3 kI xs ys pm ip ) (cwV 1 hts gl_X4_65 rfl rfl rfl (by decide +kernel) ⟨Nat.le_of_ble_eq_true rfl, Nat.le_of_ble_eq_true rfl⟩) nN_mv hN hK hP [3, 4, 5] [0] rfl rfl rfl rfl rfl hl.1 rfl (Nat.le_of_ble_eq_true rfl) dX4_refusalWithPoint_5 ⟨Nat.le_of_ble_eq_true rfl, Nat.le_of_ble_eq_true rfl⟩ ?_
  refine lv_if_eq (tgt := 22) hx hb dX4_refusalWithPoint_8 (by decide) (fun c1 => ?_) (fun c1 => ?_)
  · refine lv_bipush (v := (-2)) hx hb dX4_refusalWithPoint_22 (by decide) ?_
    exact W.iret (v := (-2 : Int32)) hx hb hr (fun t ht hW => ⟨by rw [show fX4_refusalWithPoint held rm pm n ip = (-2 : Int32) by unfold fX4_refusalWithPoint; rw [if_pos c1]], ht⟩) (fun _ h => absurd h List.not_mem_nil) dX4_refusalWithPoint_24
  · refine lv_aload_n hx hb dX4_refusalWithPoint_11 rfl (lv_at hl 0 rfl) ?_
    refine va_get (D := D) (ci := 8) (v := .ref r1) (C := RX4) (T := TX4) (N := 4) hx hb hts hinX4 hown hK hP 0 rfl rfl 2 (by decide) (hts _ fk_X4_28) (fun _ h9 => h9) rfl dX4_refusalWithPoint_12 ?_
    refine lv_iload_n hx hb dX4_refusalWithPoint_15 rfl (lv_at hl 1 rfl) ?_
    refine xr_V (q := (RX3, TX3, 3)) (ci := 7) (q0 := 1) (rest := []) (As := [.int n]) ⟨hx, hb, hml, hown, hts⟩ (ct3_refusal l D r1 r2 q1 q2 q3 kI held xs ys rm pm n orm) (cwV 1 hts gl_X4_156 rfl rfl rfl (by decide +kernel) ⟨Nat.le_of_ble_eq_true rfl, Nat.le_of_ble_eq_true rfl⟩) nN_mv hN hK hP [1, 2, 3, 4, 5] [0] rfl rfl rfl rfl rfl hl.1 rfl (Nat.le_of_ble_eq_true rfl) dX4_refusalWithPoint_16 ⟨Nat.le_of_ble_eq_true rfl, Nat.le_of_ble_eq_true rfl⟩ ?_
    refine lv_goto (tgt := 24) hx hb dX4_refusalWithPoint_19 (by decide) ?_
    exact W.iret (v := fX3_refusal held rm n) hx hb hr (fun t ht hW => ⟨by rw [show fX4_refusalWithPoint held rm pm n ip = fX3_refusal held rm n by unfold fX4_refusalWithPoint; rw [if_neg c1]], ht⟩) (fun _ h => absurd h List.not_mem_nil) dX4_refusalWithPoint_24
theorem o_rwp {held : Nat → Int32} {rm pm n a : Int32} (h : fX4_refusalWithPoint held rm pm n a = 0) (hp : pm.toInt ≤ (60 : Nat)) (hr : rm.toInt ≤ (24 : Nat)) (hh : hok held) : (n.toInt ≤ (24 : Nat) ∧ 1 ≤ n.toInt ∧ ∀ j : Nat, (j : Int) < n.toInt → vp_in (held j) 60) ∧ vp_in a 60 := by
  unfold fX4_refusalWithPoint at h
  split at h
  · exact absurd h (by decide)
  · rename_i h1
    exact ⟨o_ref h hr hh, o_has h1 hp⟩
theorem o_3 {n : Int32} (h : (3 : Int32) ≤ n) : 3 ≤ n.toInt := by
  rw [Int32.le_iff_toInt_le] at h; exact h
def fX4_convex (held xs ys : Nat → Int32) (rm : Int32) (n : Int32) : Int32 := if (3 : Int32) ≤ n then (if (fX3_refusal held rm n) = (0 : Int32) then (fX3_commonSide held xs ys n) else (fX3_refusal held rm n)) else ((-2 : Int32))
set_option maxHeartbeats 4000000 in
set_option maxRecDepth 100000 in
theorem ct4_convex (l : Launch) (D : va_G) (o1 f1 r1 d1 r2 q1 q2 q3 : Nat) (kI : ClassId) (held xs ys : Nat → Int32) (rm pm : Int32) (n : Int32) (orm : rm.toInt ≤ (24 : Nat)) (ohk : hok held) : Met l yX4_convex (Cond.code yX4_convex cX4_convex 3 (some .int) :: BX) ({ frames := 3, cells := 0, slots := 0, locals := 180 }) (xr_P nN D vwCl [(kI, .int)] (wOr o1 f1 r1 d1 r2 q1 q2 q3 kI held xs ys rm pm) [.ref o1, .int n]) (xr_Q (.int (fX4_convex held xs ys rm n))) 0 0 (fun _ => False) := by
  refine Met.ofW (cc := cX4_convex) (maxL := 3) (ret := (some .int)) (by decide) rfl ?_
  intro p e s m args below meth c s₁ B hml hv
  obtain ⟨rfl, hP, hK, hN⟩ := hv
  have hx := B.exec
  have hb := B.bytes
  have hr := B.returns
  have hts0 := atoms_spec (ws := Cond.code yX4_convex cX4_convex 3 (some .int) :: BX) B.pre
  have hts : ∀ w ∈ BX, w.before _ s = true := fun w h => hts0 w (List.mem_cons_of_mem _ h)
  have hown : s.vm.findClass RX4 = some m.cls := findClass_of_methodNamed B.named
  have hlocks := B.notSynchronized
  have hl := lv_entry ([.ref o1, .int n]) (n := 3) (Nat.le_of_ble_eq_true rfl)
  rw [lg_entry_eq]
  generalize (lg_sl ([.ref o1, .int n]) ++ List.replicate (3 - (lg_sl ([.ref o1, .int n])).length) Slot.unset).toArray = ls at hl ⊢
  have hl : lv_has ls 3 [(0, .ref o1), (1, .int n)] := hl
  refine lv_iload_n hx hb dX4_convex_0 rfl (lv_at hl 1 rfl) ?_
  refine lv_iconst (v := 3) hx hb dX4_convex_1 (by decide) ?_
  refine lv_icmp_ge (tgt := 8) hx hb dX4_convex_2 (by decide) (fun c1 => ?_) (fun c1 => ?_)
  · refine lv_aload_n hx hb dX4_convex_8 rfl (lv_at hl 0 rfl) ?_
    refine va_get (D := D) (ci := 8) (v := .ref r1) (C := RX4) (T := TX4) (N := 4) hx hb hts hinX4 hown hK hP 0 rfl rfl 2 (by decide) (hts _ fk_X4_28) (fun _ h9 => h9) rfl dX4_convex_9 ?_
    refine lv_iload_n hx hb dX4_convex_12 rfl (lv_at hl 1 rfl) ?_
    refine xr_V (q := (RX3, TX3, 3)) (ci := 7) (q0 := 1) (rest := []) (As := [.int n]) ⟨hx, hb, hml, hown, hts⟩ (ct3_refusal l D r1 r2 q1 q2 q3 kI held xs ys rm pm n orm) (cwV 1 hts gl_X4_156 rfl rfl rfl (by decide +kernel) ⟨Nat.le_of_ble_eq_true rfl, Nat.le_of_ble_eq_true rfl⟩) nN_mv hN hK hP [1, 2, 3, 4, 5] [0] rfl rfl rfl rfl rfl hl.1 rfl (Nat.le_of_ble_eq_true rfl) dX4_convex_13 ⟨Nat.le_of_ble_eq_true rfl, Nat.le_of_ble_eq_true rfl⟩ ?_
    refine lv_istore_n (lv' := [(2, .int (fX3_refusal held rm n)), (0, .ref o1), (1, .int n)]) hx hb dX4_convex_16 rfl hl (by decide) rfl (fun ls hl => ?_)
    refine lv_iload_n hx hb dX4_convex_17 rfl (lv_at hl 0 rfl) ?_
    refine lv_if_eq (tgt := 25) hx hb dX4_convex_18 (by decide) (fun c2 => ?_) (fun c2 => ?_)
    · refine lv_aload_n hx hb dX4_convex_25 rfl (lv_at hl 1 rfl) ?_
      refine va_get (D := D) (ci := 8) (v := .ref r1) (C := RX4) (T := TX4) (N := 4) hx hb hts hinX4 hown hK hP 0 rfl rfl 2 (by decide) (hts _ fk_X4_28) (fun _ h9 => h9) rfl dX4_convex_26 ?_
      refine lv_iload_n hx hb dX4_convex_29 rfl (lv_at hl 2 rfl) ?_
      refine xr_V (q := (RX3, TX3, 3)) (ci := 7) (q0 := 1) (rest := []) (As := [.int n]) ⟨hx, hb, hml, hown, hts⟩ (ct3_commonSide l D r1 r2 q1 q2 q3 kI held xs ys rm pm n ((o_ref c2 orm ohk).1) (o_3 c1) ((o_ref c2 orm ohk).2.2)) (cwV 1 hts gl_X4_159 rfl rfl rfl (by decide +kernel) ⟨Nat.le_of_ble_eq_true rfl, Nat.le_of_ble_eq_true rfl⟩) nN_mv hN hK hP [1, 2, 3, 4, 5] [0] rfl rfl rfl rfl rfl hl.1 rfl (Nat.le_of_ble_eq_true rfl) dX4_convex_30 ⟨Nat.le_of_ble_eq_true rfl, Nat.le_of_ble_eq_true rfl⟩ ?_
      exact W.iret (v := fX3_commonSide held xs ys n) hx hb hr (fun t ht hW => ⟨by rw [show fX4_convex held xs ys rm n = fX3_commonSide held xs ys n by unfold fX4_convex; rw [if_pos c1, if_pos c2]], ht⟩) (fun _ h => absurd h List.not_mem_nil) dX4_convex_33
    · refine lv_iload_n hx hb dX4_convex_21 rfl (lv_at hl 0 rfl) ?_
      refine lv_goto (tgt := 33) hx hb dX4_convex_22 (by decide) ?_
      exact W.iret (v := fX3_refusal held rm n) hx hb hr (fun t ht hW => ⟨by rw [show fX4_convex held xs ys rm n = fX3_refusal held rm n by unfold fX4_convex; rw [if_pos c1, if_neg c2]], ht⟩) (fun _ h => absurd h List.not_mem_nil) dX4_convex_33
  · refine lv_bipush (v := (-2)) hx hb dX4_convex_5 (by decide) ?_
    exact W.iret (v := (-2 : Int32)) hx hb hr (fun t ht hW => ⟨by rw [show fX4_convex held xs ys rm n = (-2 : Int32) by unfold fX4_convex; rw [if_neg c1]], ht⟩) (fun _ h => absurd h List.not_mem_nil) dX4_convex_7
def fX4_polygon (held xs ys : Nat → Int32) (rm pm : Int32) (n : Int32) (ip : Int32) : Int32 := if (fX4_refusalWithPoint held rm pm n ip) = (0 : Int32) then (if (fX3_onAnyEdge held xs ys n ip) = (0 : Int32) then (((fX3_rises held xs ys n ip) + (fX3_falls held xs ys n ip)) &&& (1 : Int32)) else ((2 : Int32))) else (fX4_refusalWithPoint held rm pm n ip)
set_option maxHeartbeats 4000000 in
set_option maxRecDepth 100000 in
theorem ct4_polygon (l : Launch) (D : va_G) (o1 f1 r1 d1 r2 q1 q2 q3 : Nat) (kI : ClassId) (held xs ys : Nat → Int32) (rm pm : Int32) (n : Int32) (ip : Int32) (orm : rm.toInt ≤ (24 : Nat)) (opm : pm.toInt ≤ (60 : Nat)) (ohk : hok held) : Met l yX4_polygon (Cond.code yX4_polygon cX4_polygon 4 (some .int) :: BX) ({ frames := 4, cells := 0, slots := 0, locals := 240 }) (xr_P nN D vwCl [(kI, .int)] (wOr o1 f1 r1 d1 r2 q1 q2 q3 kI held xs ys rm pm) [.ref o1, .int n, .int ip]) (xr_Q (.int (fX4_polygon held xs ys rm pm n ip))) 0 0 (fun _ => False) := by
  refine Met.ofW (cc := cX4_polygon) (maxL := 4) (ret := (some .int)) (by decide) rfl ?_
  intro p e s m args below meth c s₁ B hml hv
  obtain ⟨rfl, hP, hK, hN⟩ := hv
  have hx := B.exec
  have hb := B.bytes
  have hr := B.returns
  have hts0 := atoms_spec (ws := Cond.code yX4_polygon cX4_polygon 4 (some .int) :: BX) B.pre
  have hts : ∀ w ∈ BX, w.before _ s = true := fun w h => hts0 w (List.mem_cons_of_mem _ h)
  have hown : s.vm.findClass RX4 = some m.cls := findClass_of_methodNamed B.named
  have hlocks := B.notSynchronized
  have hl := lv_entry ([.ref o1, .int n, .int ip]) (n := 4) (Nat.le_of_ble_eq_true rfl)
  rw [lg_entry_eq]
  generalize (lg_sl ([.ref o1, .int n, .int ip]) ++ List.replicate (4 - (lg_sl ([.ref o1, .int n, .int ip])).length) Slot.unset).toArray = ls at hl ⊢
  have hl : lv_has ls 4 [(0, .ref o1), (1, .int n), (2, .int ip)] := hl
  refine lv_aload_n hx hb dX4_polygon_0 rfl (lv_at hl 0 rfl) ?_
  refine lv_iload_n hx hb dX4_polygon_1 rfl (lv_at hl 1 rfl) ?_
  refine lv_iload_n hx hb dX4_polygon_2 rfl (lv_at hl 2 rfl) ?_
  refine xr_V (q := (RX4, TX4, 4)) (ci := 8) (q0 := 0) (rest := []) (As := [.int n, .int ip]) ⟨hx, hb, hml, hown, hts⟩ (ct4_refusalWithPoint l D o1 f1 r1 d1 r2 q1 q2 q3 kI held xs ys rm pm n ip orm) (cwV 2 hts gl_X4_162 rfl rfl rfl (by decide +kernel) ⟨Nat.le_of_ble_eq_true rfl, Nat.le_of_ble_eq_true rfl⟩) nN_mv hN hK hP [0, 1, 2, 3, 4, 5] [0] rfl rfl rfl rfl rfl hl.1 rfl (Nat.le_of_ble_eq_true rfl) dX4_polygon_3 ⟨Nat.le_of_ble_eq_true rfl, Nat.le_of_ble_eq_true rfl⟩ ?_
  refine lv_topi (fun z1 ez1 => ?_)
  refine lv_istore_n (lv' := [(3, .int z1), (0, .ref o1), (1, .int n), (2, .int ip)]) hx hb dX4_polygon_6 rfl hl (by decide) rfl (fun ls hl => ?_)
  refine lv_iload_n hx hb dX4_polygon_7 rfl (lv_at hl 0 rfl) ?_
  refine lv_if_eq (tgt := 13) hx hb dX4_polygon_8 (by decide) (fun c2 => ?_) (fun c2 => ?_)
  · refine lv_aload_n hx hb dX4_polygon_13 rfl (lv_at hl 1 rfl) ?_
    refine va_get (D := D) (ci := 8) (v := .ref r1) (C := RX4) (T := TX4) (N := 4) hx hb hts hinX4 hown hK hP 0 rfl rfl 2 (by decide) (hts _ fk_X4_28) (fun _ h9 => h9) rfl dX4_polygon_14 ?_
    refine lv_iload_n hx hb dX4_polygon_17 rfl (lv_at hl 2 rfl) ?_
    refine lv_iload_n hx hb dX4_polygon_18 rfl (lv_at hl 3 rfl) ?_
    refine xr_V (q := (RX3, TX3, 3)) (ci := 7) (q0 := 1) (rest := []) (As := [.int n, .int ip]) ⟨hx, hb, hml, hown, hts⟩ (ct3_onAnyEdge l D r1 r2 q1 q2 q3 kI held xs ys rm pm n ip ((o_rwp (ez1.symm.trans c2) opm orm ohk).1.1) ((o_rwp (ez1.symm.trans c2) opm orm ohk).1.2.2) ((o_rwp (ez1.symm.trans c2) opm orm ohk).2)) (cwV 2 hts gl_X4_165 rfl rfl rfl (by decide +kernel) ⟨Nat.le_of_ble_eq_true rfl, Nat.le_of_ble_eq_true rfl⟩) nN_mv hN hK hP [1, 2, 3, 4, 5] [0] rfl rfl rfl rfl rfl hl.1 rfl (Nat.le_of_ble_eq_true rfl) dX4_polygon_19 ⟨Nat.le_of_ble_eq_true rfl, Nat.le_of_ble_eq_true rfl⟩ ?_
    refine lv_if_eq (tgt := 27) hx hb dX4_polygon_22 (by decide) (fun c3 => ?_) (fun c3 => ?_)
    · refine lv_aload_n hx hb dX4_polygon_27 rfl (lv_at hl 1 rfl) ?_
      refine va_get (D := D) (ci := 8) (v := .ref r1) (C := RX4) (T := TX4) (N := 4) hx hb hts hinX4 hown hK hP 0 rfl rfl 2 (by decide) (hts _ fk_X4_28) (fun _ h9 => h9) rfl dX4_polygon_28 ?_
      refine lv_iload_n hx hb dX4_polygon_31 rfl (lv_at hl 2 rfl) ?_
      refine lv_iload_n hx hb dX4_polygon_32 rfl (lv_at hl 3 rfl) ?_
      refine xr_V (q := (RX3, TX3, 3)) (ci := 7) (q0 := 1) (rest := []) (As := [.int n, .int ip]) ⟨hx, hb, hml, hown, hts⟩ (ct3_rises l D r1 r2 q1 q2 q3 kI held xs ys rm pm n ip ((o_rwp (ez1.symm.trans c2) opm orm ohk).1.1) ((o_rwp (ez1.symm.trans c2) opm orm ohk).1.2.2) ((o_rwp (ez1.symm.trans c2) opm orm ohk).2)) (cwV 2 hts gl_X4_168 rfl rfl rfl (by decide +kernel) ⟨Nat.le_of_ble_eq_true rfl, Nat.le_of_ble_eq_true rfl⟩) nN_mv hN hK hP [1, 2, 3, 4, 5] [0] rfl rfl rfl rfl rfl hl.1 rfl (Nat.le_of_ble_eq_true rfl) dX4_polygon_33 ⟨Nat.le_of_ble_eq_true rfl, Nat.le_of_ble_eq_true rfl⟩ ?_
      refine lv_aload_n hx hb dX4_polygon_36 rfl (lv_at hl 1 rfl) ?_
      refine va_get (D := D) (ci := 8) (v := .ref r1) (C := RX4) (T := TX4) (N := 4) hx hb hts hinX4 hown hK hP 0 rfl rfl 2 (by decide) (hts _ fk_X4_28) (fun _ h9 => h9) rfl dX4_polygon_37 ?_
      refine lv_iload_n hx hb dX4_polygon_40 rfl (lv_at hl 2 rfl) ?_
      refine lv_iload_n hx hb dX4_polygon_41 rfl (lv_at hl 3 rfl) ?_
      refine xr_V (q := (RX3, TX3, 3)) (ci := 7) (q0 := 1) (rest := [.int (fX3_rises held xs ys n ip)]) (As := [.int n, .int ip]) ⟨hx, hb, hml, hown, hts⟩ (ct3_falls l D r1 r2 q1 q2 q3 kI held xs ys rm pm n ip ((o_rwp (ez1.symm.trans c2) opm orm ohk).1.1) ((o_rwp (ez1.symm.trans c2) opm orm ohk).1.2.2) ((o_rwp (ez1.symm.trans c2) opm orm ohk).2)) (cwV 2 hts gl_X4_171 rfl rfl rfl (by decide +kernel) ⟨Nat.le_of_ble_eq_true rfl, Nat.le_of_ble_eq_true rfl⟩) nN_mv hN hK hP [1, 2, 3, 4, 5] [0] rfl rfl rfl rfl rfl hl.1 rfl (Nat.le_of_ble_eq_true rfl) dX4_polygon_42 ⟨Nat.le_of_ble_eq_true rfl, Nat.le_of_ble_eq_true rfl⟩ ?_
      refine lv_iadd hx hb dX4_polygon_45 ?_
      refine lv_iconst (v := 1) hx hb dX4_polygon_46 (by decide) ?_
      refine lv_iand hx hb dX4_polygon_47 ?_
      subst ez1
      exact W.iret (v := ((fX3_rises held xs ys n ip) + (fX3_falls held xs ys n ip)) &&& (1 : Int32)) hx hb hr (fun t ht hW => ⟨by rw [show fX4_polygon held xs ys rm pm n ip = ((fX3_rises held xs ys n ip) + (fX3_falls held xs ys n ip)) &&& (1 : Int32) by unfold fX4_polygon; rw [if_pos c2, if_pos c3]], ht⟩) (fun _ h => absurd h List.not_mem_nil) dX4_polygon_48
    · refine lv_iconst (v := 2) hx hb dX4_polygon_25 (by decide) ?_
      subst ez1
      exact W.iret (v := (2 : Int32)) hx hb hr (fun t ht hW => ⟨by rw [show fX4_polygon held xs ys rm pm n ip = (2 : Int32) by unfold fX4_polygon; rw [if_pos c2, if_neg c3]], ht⟩) (fun _ h => absurd h List.not_mem_nil) dX4_polygon_26
  · refine lv_iload_n hx hb dX4_polygon_11 rfl (lv_at hl 0 rfl) ?_
    subst ez1
    exact W.iret (v := fX4_refusalWithPoint held rm pm n ip) hx hb hr (fun t ht hW => ⟨by rw [show fX4_polygon held xs ys rm pm n ip = fX4_refusalWithPoint held rm pm n ip by unfold fX4_polygon; rw [if_neg c2]], ht⟩) (fun _ h => absurd h List.not_mem_nil) dX4_polygon_12
def fX4_winding (held xs ys : Nat → Int32) (rm pm : Int32) (n : Int32) (ip : Int32) : Int32 := if (fX4_refusalWithPoint held rm pm n ip) = (0 : Int32) then (if (fX3_onAnyEdge held xs ys n ip) = (0 : Int32) then ((fX3_rises held xs ys n ip) - (fX3_falls held xs ys n ip)) else ((100 : Int32))) else ((-100 : Int32))
set_option maxHeartbeats 4000000 in
set_option maxRecDepth 100000 in
theorem ct4_winding (l : Launch) (D : va_G) (o1 f1 r1 d1 r2 q1 q2 q3 : Nat) (kI : ClassId) (held xs ys : Nat → Int32) (rm pm : Int32) (n : Int32) (ip : Int32) (orm : rm.toInt ≤ (24 : Nat)) (opm : pm.toInt ≤ (60 : Nat)) (ohk : hok held) : Met l yX4_winding (Cond.code yX4_winding cX4_winding 3 (some .int) :: BX) ({ frames := 4, cells := 0, slots := 0, locals := 240 }) (xr_P nN D vwCl [(kI, .int)] (wOr o1 f1 r1 d1 r2 q1 q2 q3 kI held xs ys rm pm) [.ref o1, .int n, .int ip]) (xr_Q (.int (fX4_winding held xs ys rm pm n ip))) 0 0 (fun _ => False) := by
  refine Met.ofW (cc := cX4_winding) (maxL := 3) (ret := (some .int)) (by decide) rfl ?_
  intro p e s m args below meth c s₁ B hml hv
  obtain ⟨rfl, hP, hK, hN⟩ := hv
  have hx := B.exec
  have hb := B.bytes
  have hr := B.returns
  have hts0 := atoms_spec (ws := Cond.code yX4_winding cX4_winding 3 (some .int) :: BX) B.pre
  have hts : ∀ w ∈ BX, w.before _ s = true := fun w h => hts0 w (List.mem_cons_of_mem _ h)
  have hown : s.vm.findClass RX4 = some m.cls := findClass_of_methodNamed B.named
  have hlocks := B.notSynchronized
  have hl := lv_entry ([.ref o1, .int n, .int ip]) (n := 3) (Nat.le_of_ble_eq_true rfl)
  rw [lg_entry_eq]
  generalize (lg_sl ([.ref o1, .int n, .int ip]) ++ List.replicate (3 - (lg_sl ([.ref o1, .int n, .int ip])).length) Slot.unset).toArray = ls at hl ⊢
  have hl : lv_has ls 3 [(0, .ref o1), (1, .int n), (2, .int ip)] := hl
  refine lv_aload_n hx hb dX4_winding_0 rfl (lv_at hl 0 rfl) ?_
  refine lv_iload_n hx hb dX4_winding_1 rfl (lv_at hl 1 rfl) ?_
  refine lv_iload_n hx hb dX4_winding_2 rfl (lv_at hl 2 rfl) ?_
  refine xr_V (q := (RX4, TX4, 4)) (ci := 8) (q0 := 0) (rest := []) (As := [.int n, .int ip]) ⟨hx, hb, hml, hown, hts⟩ (ct4_refusalWithPoint l D o1 f1 r1 d1 r2 q1 q2 q3 kI held xs ys rm pm n ip orm) (cwV 2 hts gl_X4_162 rfl rfl rfl (by decide +kernel) ⟨Nat.le_of_ble_eq_true rfl, Nat.le_of_ble_eq_true rfl⟩) nN_mv hN hK hP [0, 1, 2, 3, 4, 5] [0] rfl rfl rfl rfl rfl hl.1 rfl (Nat.le_of_ble_eq_true rfl) dX4_winding_3 ⟨Nat.le_of_ble_eq_true rfl, Nat.le_of_ble_eq_true rfl⟩ ?_
  refine lv_if_eq (tgt := 12) hx hb dX4_winding_6 (by decide) (fun c1 => ?_) (fun c1 => ?_)
  · refine lv_aload_n hx hb dX4_winding_12 rfl (lv_at hl 0 rfl) ?_
    refine va_get (D := D) (ci := 8) (v := .ref r1) (C := RX4) (T := TX4) (N := 4) hx hb hts hinX4 hown hK hP 0 rfl rfl 2 (by decide) (hts _ fk_X4_28) (fun _ h9 => h9) rfl dX4_winding_13 ?_
    refine lv_iload_n hx hb dX4_winding_16 rfl (lv_at hl 1 rfl) ?_
    refine lv_iload_n hx hb dX4_winding_17 rfl (lv_at hl 2 rfl) ?_
    refine xr_V (q := (RX3, TX3, 3)) (ci := 7) (q0 := 1) (rest := []) (As := [.int n, .int ip]) ⟨hx, hb, hml, hown, hts⟩ (ct3_onAnyEdge l D r1 r2 q1 q2 q3 kI held xs ys rm pm n ip ((o_rwp c1 opm orm ohk).1.1) ((o_rwp c1 opm orm ohk).1.2.2) ((o_rwp c1 opm orm ohk).2)) (cwV 2 hts gl_X4_165 rfl rfl rfl (by decide +kernel) ⟨Nat.le_of_ble_eq_true rfl, Nat.le_of_ble_eq_true rfl⟩) nN_mv hN hK hP [1, 2, 3, 4, 5] [0] rfl rfl rfl rfl rfl hl.1 rfl (Nat.le_of_ble_eq_true rfl) dX4_winding_18 ⟨Nat.le_of_ble_eq_true rfl, Nat.le_of_ble_eq_true rfl⟩ ?_
    refine lv_if_eq (tgt := 27) hx hb dX4_winding_21 (by decide) (fun c2 => ?_) (fun c2 => ?_)
    · refine lv_aload_n hx hb dX4_winding_27 rfl (lv_at hl 0 rfl) ?_
      refine va_get (D := D) (ci := 8) (v := .ref r1) (C := RX4) (T := TX4) (N := 4) hx hb hts hinX4 hown hK hP 0 rfl rfl 2 (by decide) (hts _ fk_X4_28) (fun _ h9 => h9) rfl dX4_winding_28 ?_
      refine lv_iload_n hx hb dX4_winding_31 rfl (lv_at hl 1 rfl) ?_
      refine lv_iload_n hx hb dX4_winding_32 rfl (lv_at hl 2 rfl) ?_
      refine xr_V (q := (RX3, TX3, 3)) (ci := 7) (q0 := 1) (rest := []) (As := [.int n, .int ip]) ⟨hx, hb, hml, hown, hts⟩ (ct3_rises l D r1 r2 q1 q2 q3 kI held xs ys rm pm n ip ((o_rwp c1 opm orm ohk).1.1) ((o_rwp c1 opm orm ohk).1.2.2) ((o_rwp c1 opm orm ohk).2)) (cwV 2 hts gl_X4_168 rfl rfl rfl (by decide +kernel) ⟨Nat.le_of_ble_eq_true rfl, Nat.le_of_ble_eq_true rfl⟩) nN_mv hN hK hP [1, 2, 3, 4, 5] [0] rfl rfl rfl rfl rfl hl.1 rfl (Nat.le_of_ble_eq_true rfl) dX4_winding_33 ⟨Nat.le_of_ble_eq_true rfl, Nat.le_of_ble_eq_true rfl⟩ ?_
      refine lv_aload_n hx hb dX4_winding_36 rfl (lv_at hl 0 rfl) ?_
      refine va_get (D := D) (ci := 8) (v := .ref r1) (C := RX4) (T := TX4) (N := 4) hx hb hts hinX4 hown hK hP 0 rfl rfl 2 (by decide) (hts _ fk_X4_28) (fun _ h9 => h9) rfl dX4_winding_37 ?_
      refine lv_iload_n hx hb dX4_winding_40 rfl (lv_at hl 1 rfl) ?_
      refine lv_iload_n hx hb dX4_winding_41 rfl (lv_at hl 2 rfl) ?_
      refine xr_V (q := (RX3, TX3, 3)) (ci := 7) (q0 := 1) (rest := [.int (fX3_rises held xs ys n ip)]) (As := [.int n, .int ip]) ⟨hx, hb, hml, hown, hts⟩ (ct3_falls l D r1 r2 q1 q2 q3 kI held xs ys rm pm n ip ((o_rwp c1 opm orm ohk).1.1) ((o_rwp c1 opm orm ohk).1.2.2) ((o_rwp c1 opm orm ohk).2)) (cwV 2 hts gl_X4_171 rfl rfl rfl (by decide +kernel) ⟨Nat.le_of_ble_eq_true rfl, Nat.le_of_ble_eq_true rfl⟩) nN_mv hN hK hP [1, 2, 3, 4, 5] [0] rfl rfl rfl rfl rfl hl.1 rfl (Nat.le_of_ble_eq_true rfl) dX4_winding_42 ⟨Nat.le_of_ble_eq_true rfl, Nat.le_of_ble_eq_true rfl⟩ ?_
      refine lv_isub hx hb dX4_winding_45 ?_
      exact W.iret (v := (fX3_rises held xs ys n ip) - (fX3_falls held xs ys n ip)) hx hb hr (fun t ht hW => ⟨by rw [show fX4_winding held xs ys rm pm n ip = (fX3_rises held xs ys n ip) - (fX3_falls held xs ys n ip) by unfold fX4_winding; rw [if_pos c1, if_pos c2]], ht⟩) (fun _ h => absurd h List.not_mem_nil) dX4_winding_46
    · refine lv_bipush (v := 100) hx hb dX4_winding_24 (by decide) ?_
      exact W.iret (v := (100 : Int32)) hx hb hr (fun t ht hW => ⟨by rw [show fX4_winding held xs ys rm pm n ip = (100 : Int32) by unfold fX4_winding; rw [if_pos c1, if_neg c2]], ht⟩) (fun _ h => absurd h List.not_mem_nil) dX4_winding_26
  · refine lv_bipush (v := (-100)) hx hb dX4_winding_9 (by decide) ?_
    exact W.iret (v := (-100 : Int32)) hx hb hr (fun t ht hW => ⟨by rw [show fX4_winding held xs ys rm pm n ip = (-100 : Int32) by unfold fX4_winding; rw [if_neg c1]], ht⟩) (fun _ h => absurd h List.not_mem_nil) dX4_winding_11
def fX4_nearest (held xs ys : Nat → Int32) (rm pm : Int32) (ia : Int32) (n : Int32) : Int32 := if (fX4_refusalWithPoint held rm pm n ia) = (0 : Int32) then (fX3_nearestBits held xs ys ia n) else (fX4_refusalWithPoint held rm pm n ia)
set_option maxHeartbeats 4000000 in
set_option maxRecDepth 100000 in
theorem ct4_nearest (l : Launch) (D : va_G) (o1 f1 r1 d1 r2 q1 q2 q3 : Nat) (kI : ClassId) (held xs ys : Nat → Int32) (rm pm : Int32) (ia : Int32) (n : Int32) (orm : rm.toInt ≤ (24 : Nat)) (opm : pm.toInt ≤ (60 : Nat)) (ohk : hok held) : Met l yX4_nearest (Cond.code yX4_nearest cX4_nearest 4 (some .int) :: BX) ({ frames := 3, cells := 0, slots := 0, locals := 180 }) (xr_P nN D vwCl [(kI, .int)] (wOr o1 f1 r1 d1 r2 q1 q2 q3 kI held xs ys rm pm) [.ref o1, .int ia, .int n]) (xr_Q (.int (fX4_nearest held xs ys rm pm ia n))) 0 0 (fun _ => False) := by
  refine Met.ofW (cc := cX4_nearest) (maxL := 4) (ret := (some .int)) (by decide) rfl ?_
  intro p e s m args below meth c s₁ B hml hv
  obtain ⟨rfl, hP, hK, hN⟩ := hv
  have hx := B.exec
  have hb := B.bytes
  have hr := B.returns
  have hts0 := atoms_spec (ws := Cond.code yX4_nearest cX4_nearest 4 (some .int) :: BX) B.pre
  have hts : ∀ w ∈ BX, w.before _ s = true := fun w h => hts0 w (List.mem_cons_of_mem _ h)
  have hown : s.vm.findClass RX4 = some m.cls := findClass_of_methodNamed B.named
  have hlocks := B.notSynchronized
  have hl := lv_entry ([.ref o1, .int ia, .int n]) (n := 4) (Nat.le_of_ble_eq_true rfl)
  rw [lg_entry_eq]
  generalize (lg_sl ([.ref o1, .int ia, .int n]) ++ List.replicate (4 - (lg_sl ([.ref o1, .int ia, .int n])).length) Slot.unset).toArray = ls at hl ⊢
  have hl : lv_has ls 4 [(0, .ref o1), (1, .int ia), (2, .int n)] := hl
  refine lv_aload_n hx hb dX4_nearest_0 rfl (lv_at hl 0 rfl) ?_
  refine lv_iload_n hx hb dX4_nearest_1 rfl (lv_at hl 2 rfl) ?_
  refine lv_iload_n hx hb dX4_nearest_2 rfl (lv_at hl 1 rfl) ?_
  refine xr_V (q := (RX4, TX4, 4)) (ci := 8) (q0 := 0) (rest := []) (As := [.int n, .int ia]) ⟨hx, hb, hml, hown, hts⟩ (ct4_refusalWithPoint l D o1 f1 r1 d1 r2 q1 q2 q3 kI held xs ys rm pm n ia orm) (cwV 2 hts gl_X4_162 rfl rfl rfl (by decide +kernel) ⟨Nat.le_of_ble_eq_true rfl, Nat.le_of_ble_eq_true rfl⟩) nN_mv hN hK hP [0, 1, 2, 3, 4, 5] [0] rfl rfl rfl rfl rfl hl.1 rfl (Nat.le_of_ble_eq_true rfl) dX4_nearest_3 ⟨Nat.le_of_ble_eq_true rfl, Nat.le_of_ble_eq_true rfl⟩ ?_
  refine lv_topi (fun z1 ez1 => ?_)
  refine lv_istore_n (lv' := [(3, .int z1), (0, .ref o1), (1, .int ia), (2, .int n)]) hx hb dX4_nearest_6 rfl hl (by decide) rfl (fun ls hl => ?_)
  refine lv_iload_n hx hb dX4_nearest_7 rfl (lv_at hl 0 rfl) ?_
  refine lv_if_eq (tgt := 15) hx hb dX4_nearest_8 (by decide) (fun c2 => ?_) (fun c2 => ?_)
  · refine lv_aload_n hx hb dX4_nearest_15 rfl (lv_at hl 1 rfl) ?_
    refine va_get (D := D) (ci := 8) (v := .ref r1) (C := RX4) (T := TX4) (N := 4) hx hb hts hinX4 hown hK hP 0 rfl rfl 2 (by decide) (hts _ fk_X4_28) (fun _ h9 => h9) rfl dX4_nearest_16 ?_
    refine lv_iload_n hx hb dX4_nearest_19 rfl (lv_at hl 2 rfl) ?_
    refine lv_iload_n hx hb dX4_nearest_20 rfl (lv_at hl 3 rfl) ?_
    refine xr_V (q := (RX3, TX3, 3)) (ci := 7) (q0 := 1) (rest := []) (As := [.int ia, .int n]) ⟨hx, hb, hml, hown, hts⟩ (ct3_nearestBits l D r1 r2 q1 q2 q3 kI held xs ys rm pm ia n ((o_rwp (ez1.symm.trans c2) opm orm ohk).1.1) ((o_rwp (ez1.symm.trans c2) opm orm ohk).1.2.1) ((o_rwp (ez1.symm.trans c2) opm orm ohk).1.2.2) ((o_rwp (ez1.symm.trans c2) opm orm ohk).2)) (cwV 2 hts gl_X4_174 rfl rfl rfl (by decide +kernel) ⟨Nat.le_of_ble_eq_true rfl, Nat.le_of_ble_eq_true rfl⟩) nN_mv hN hK hP [1, 2, 3, 4, 5] [0] rfl rfl rfl rfl rfl hl.1 rfl (Nat.le_of_ble_eq_true rfl) dX4_nearest_21 ⟨Nat.le_of_ble_eq_true rfl, Nat.le_of_ble_eq_true rfl⟩ ?_
    subst ez1
    exact W.iret (v := fX3_nearestBits held xs ys ia n) hx hb hr (fun t ht hW => ⟨by rw [show fX4_nearest held xs ys rm pm ia n = fX3_nearestBits held xs ys ia n by unfold fX4_nearest; rw [if_pos c2]], ht⟩) (fun _ h => absurd h List.not_mem_nil) dX4_nearest_24
  · refine lv_iload_n hx hb dX4_nearest_11 rfl (lv_at hl 0 rfl) ?_
    refine lv_goto (tgt := 24) hx hb dX4_nearest_12 (by decide) ?_
    subst ez1
    exact W.iret (v := fX4_refusalWithPoint held rm pm n ia) hx hb hr (fun t ht hW => ⟨by rw [show fX4_nearest held xs ys rm pm ia n = fX4_refusalWithPoint held rm pm n ia by unfold fX4_nearest; rw [if_neg c2]], ht⟩) (fun _ h => absurd h List.not_mem_nil) dX4_nearest_24
def fX4_around (held xs ys : Nat → Int32) (rm pm : Int32) (ic : Int32) (n : Int32) (ia : Int32) : Int32 := if (fX4_isRank ia n) = (0 : Int32) then ((-2 : Int32)) else (if (fX4_refusalWithPoint held rm pm n ic) = (0 : Int32) then (fX3_placeOfRank held xs ys n ia ic) else (fX4_refusalWithPoint held rm pm n ic))
set_option maxHeartbeats 4000000 in
set_option maxRecDepth 100000 in
theorem ct4_around (l : Launch) (D : va_G) (o1 f1 r1 d1 r2 q1 q2 q3 : Nat) (kI : ClassId) (held xs ys : Nat → Int32) (rm pm : Int32) (ic : Int32) (n : Int32) (ia : Int32) (orm : rm.toInt ≤ (24 : Nat)) (opm : pm.toInt ≤ (60 : Nat)) (ohk : hok held) : Met l yX4_around (Cond.code yX4_around cX4_around 5 (some .int) :: BX) ({ frames := 7, cells := 0, slots := 0, locals := 420 }) (xr_P nN D vwCl [(kI, .int)] (wOr o1 f1 r1 d1 r2 q1 q2 q3 kI held xs ys rm pm) [.ref o1, .int ic, .int n, .int ia]) (xr_Q (.int (fX4_around held xs ys rm pm ic n ia))) 0 0 (fun _ => False) := by
  refine Met.ofW (cc := cX4_around) (maxL := 5) (ret := (some .int)) (by decide) rfl ?_
  intro p e s m args below meth c s₁ B hml hv
  obtain ⟨rfl, hP, hK, hN⟩ := hv
  have hx := B.exec
  have hb := B.bytes
  have hr := B.returns
  have hts0 := atoms_spec (ws := Cond.code yX4_around cX4_around 5 (some .int) :: BX) B.pre
  have hts : ∀ w ∈ BX, w.before _ s = true := fun w h => hts0 w (List.mem_cons_of_mem _ h)
  have hown : s.vm.findClass RX4 = some m.cls := findClass_of_methodNamed B.named
  have hlocks := B.notSynchronized
  have hl := lv_entry ([.ref o1, .int ic, .int n, .int ia]) (n := 5) (Nat.le_of_ble_eq_true rfl)
  rw [lg_entry_eq]
  generalize (lg_sl ([.ref o1, .int ic, .int n, .int ia]) ++ List.replicate (5 - (lg_sl ([.ref o1, .int ic, .int n, .int ia])).length) Slot.unset).toArray = ls at hl ⊢
  have hl : lv_has ls 5 [(0, .ref o1), (1, .int ic), (2, .int n), (3, .int ia)] := hl
  refine lv_iload_n hx hb dX4_around_0 rfl (lv_at hl 3 rfl) ?_
  refine lv_iload_n hx hb dX4_around_1 rfl (lv_at hl 2 rfl) ?_
  refine xr_S (rest := []) (As := [.int ia, .int n]) ⟨hx, hb, hml, hown, hts⟩ (ct4_isRank l D  ia n ) (va_cwS 2 hts gl_X4_177 rfl rfl rfl (by decide +kernel) ⟨Nat.le_of_ble_eq_true rfl, Nat.le_of_ble_eq_true rfl⟩) nN_mv hN hK hP [] [] rfl rfl rfl hl.1 rfl (Nat.le_of_ble_eq_true rfl) dX4_around_2 ⟨Nat.le_of_ble_eq_true rfl, Nat.le_of_ble_eq_true rfl⟩ ?_
  refine lv_if_ne (tgt := 11) hx hb dX4_around_5 (by decide) (fun c1 => ?_) (fun c1 => ?_)
  · refine lv_aload_n hx hb dX4_around_11 rfl (lv_at hl 0 rfl) ?_
    refine lv_iload_n hx hb dX4_around_12 rfl (lv_at hl 2 rfl) ?_
    refine lv_iload_n hx hb dX4_around_13 rfl (lv_at hl 1 rfl) ?_
    refine xr_V (q := (RX4, TX4, 4)) (ci := 8) (q0 := 0) (rest := []) (As := [.int n, .int ic]) ⟨hx, hb, hml, hown, hts⟩ (ct4_refusalWithPoint l D o1 f1 r1 d1 r2 q1 q2 q3 kI held xs ys rm pm n ic orm) (cwV 2 hts gl_X4_162 rfl rfl rfl (by decide +kernel) ⟨Nat.le_of_ble_eq_true rfl, Nat.le_of_ble_eq_true rfl⟩) nN_mv hN hK hP [0, 1, 2, 3, 4, 5] [0] rfl rfl rfl rfl rfl hl.1 rfl (Nat.le_of_ble_eq_true rfl) dX4_around_14 ⟨Nat.le_of_ble_eq_true rfl, Nat.le_of_ble_eq_true rfl⟩ ?_
    refine lv_topi (fun z2 ez2 => ?_)
    refine lv_istore (lv' := [(4, .int z2), (0, .ref o1), (1, .int ic), (2, .int n), (3, .int ia)]) hx hb dX4_around_17 hl (by decide) rfl (fun ls hl => ?_)
    refine lv_iload hx hb dX4_around_19 (lv_at hl 0 rfl) ?_
    refine lv_if_eq (tgt := 29) hx hb dX4_around_21 (by decide) (fun c3 => ?_) (fun c3 => ?_)
    · refine lv_aload_n hx hb dX4_around_29 rfl (lv_at hl 1 rfl) ?_
      refine va_get (D := D) (ci := 8) (v := .ref r1) (C := RX4) (T := TX4) (N := 4) hx hb hts hinX4 hown hK hP 0 rfl rfl 2 (by decide) (hts _ fk_X4_28) (fun _ h9 => h9) rfl dX4_around_30 ?_
      refine lv_iload_n hx hb dX4_around_33 rfl (lv_at hl 3 rfl) ?_
      refine lv_iload_n hx hb dX4_around_34 rfl (lv_at hl 4 rfl) ?_
      refine lv_iload_n hx hb dX4_around_35 rfl (lv_at hl 2 rfl) ?_
      refine xr_V (q := (RX3, TX3, 3)) (ci := 7) (q0 := 1) (rest := []) (As := [.int n, .int ia, .int ic]) ⟨hx, hb, hml, hown, hts⟩ (ct3_placeOfRank l D r1 r2 q1 q2 q3 kI held xs ys rm pm n ia ic ((o_rwp (ez2.symm.trans c3) opm orm ohk).1.1) ((o_rwp (ez2.symm.trans c3) opm orm ohk).1.2.2) (fun _ => (o_rwp (ez2.symm.trans c3) opm orm ohk).2)) (cwV 3 hts gl_X4_180 rfl rfl rfl (by decide +kernel) ⟨Nat.le_of_ble_eq_true rfl, Nat.le_of_ble_eq_true rfl⟩) nN_mv hN hK hP [1, 2, 3, 4, 5] [0] rfl rfl rfl rfl rfl hl.1 rfl (Nat.le_of_ble_eq_true rfl) dX4_around_36 ⟨Nat.le_of_ble_eq_true rfl, Nat.le_of_ble_eq_true rfl⟩ ?_
      subst ez2
      exact W.iret (v := fX3_placeOfRank held xs ys n ia ic) hx hb hr (fun t ht hW => ⟨by rw [show fX4_around held xs ys rm pm ic n ia = fX3_placeOfRank held xs ys n ia ic by unfold fX4_around; rw [if_neg c1, if_pos c3]], ht⟩) (fun _ h => absurd h List.not_mem_nil) dX4_around_39
    · refine lv_iload hx hb dX4_around_24 (lv_at hl 0 rfl) ?_
      refine lv_goto (tgt := 39) hx hb dX4_around_26 (by decide) ?_
      subst ez2
      exact W.iret (v := fX4_refusalWithPoint held rm pm n ic) hx hb hr (fun t ht hW => ⟨by rw [show fX4_around held xs ys rm pm ic n ia = fX4_refusalWithPoint held rm pm n ic by unfold fX4_around; rw [if_neg c1, if_neg c3]], ht⟩) (fun _ h => absurd h List.not_mem_nil) dX4_around_39
  · refine lv_bipush (v := (-2)) hx hb dX4_around_8 (by decide) ?_
    exact W.iret (v := (-2 : Int32)) hx hb hr (fun t ht hW => ⟨by rw [show fX4_around held xs ys rm pm ic n ia = (-2 : Int32) by unfold fX4_around; rw [if_pos c1]], ht⟩) (fun _ h => absurd h List.not_mem_nil) dX4_around_10
def fX4_order (held xs ys : Nat → Int32) (rm : Int32) (n : Int32) (ia : Int32) : Int32 := if (fX4_isRank ia n) = (0 : Int32) then ((-2 : Int32)) else (if (fX3_refusal held rm n) = (0 : Int32) then (fX3_placeOfRank held xs ys n ia (-1 : Int32)) else (fX3_refusal held rm n))
set_option maxHeartbeats 4000000 in
set_option maxRecDepth 100000 in
theorem ct4_order (l : Launch) (D : va_G) (o1 f1 r1 d1 r2 q1 q2 q3 : Nat) (kI : ClassId) (held xs ys : Nat → Int32) (rm pm : Int32) (n : Int32) (ia : Int32) (orm : rm.toInt ≤ (24 : Nat)) (ohk : hok held) : Met l yX4_order (Cond.code yX4_order cX4_order 4 (some .int) :: BX) ({ frames := 7, cells := 0, slots := 0, locals := 420 }) (xr_P nN D vwCl [(kI, .int)] (wOr o1 f1 r1 d1 r2 q1 q2 q3 kI held xs ys rm pm) [.ref o1, .int n, .int ia]) (xr_Q (.int (fX4_order held xs ys rm n ia))) 0 0 (fun _ => False) := by
  refine Met.ofW (cc := cX4_order) (maxL := 4) (ret := (some .int)) (by decide) rfl ?_
  intro p e s m args below meth c s₁ B hml hv
  obtain ⟨rfl, hP, hK, hN⟩ := hv
  have hx := B.exec
  have hb := B.bytes
  have hr := B.returns
  have hts0 := atoms_spec (ws := Cond.code yX4_order cX4_order 4 (some .int) :: BX) B.pre
  have hts : ∀ w ∈ BX, w.before _ s = true := fun w h => hts0 w (List.mem_cons_of_mem _ h)
  have hown : s.vm.findClass RX4 = some m.cls := findClass_of_methodNamed B.named
  have hlocks := B.notSynchronized
  have hl := lv_entry ([.ref o1, .int n, .int ia]) (n := 4) (Nat.le_of_ble_eq_true rfl)
  rw [lg_entry_eq]
  generalize (lg_sl ([.ref o1, .int n, .int ia]) ++ List.replicate (4 - (lg_sl ([.ref o1, .int n, .int ia])).length) Slot.unset).toArray = ls at hl ⊢
  have hl : lv_has ls 4 [(0, .ref o1), (1, .int n), (2, .int ia)] := hl
  refine lv_iload_n hx hb dX4_order_0 rfl (lv_at hl 2 rfl) ?_
  refine lv_iload_n hx hb dX4_order_1 rfl (lv_at hl 1 rfl) ?_
  refine xr_S (rest := []) (As := [.int ia, .int n]) ⟨hx, hb, hml, hown, hts⟩ (ct4_isRank l D  ia n ) (va_cwS 2 hts gl_X4_177 rfl rfl rfl (by decide +kernel) ⟨Nat.le_of_ble_eq_true rfl, Nat.le_of_ble_eq_true rfl⟩) nN_mv hN hK hP [] [] rfl rfl rfl hl.1 rfl (Nat.le_of_ble_eq_true rfl) dX4_order_2 ⟨Nat.le_of_ble_eq_true rfl, Nat.le_of_ble_eq_true rfl⟩ ?_
  refine lv_if_ne (tgt := 11) hx hb dX4_order_5 (by decide) (fun c1 => ?_) (fun c1 => ?_)
  · refine lv_aload_n hx hb dX4_order_11 rfl (lv_at hl 0 rfl) ?_
    refine va_get (D := D) (ci := 8) (v := .ref r1) (C := RX4) (T := TX4) (N := 4) hx hb hts hinX4 hown hK hP 0 rfl rfl 2 (by decide) (hts _ fk_X4_28) (fun _ h9 => h9) rfl dX4_order_12 ?_
    refine lv_iload_n hx hb dX4_order_15 rfl (lv_at hl 1 rfl) ?_
    refine xr_V (q := (RX3, TX3, 3)) (ci := 7) (q0 := 1) (rest := []) (As := [.int n]) ⟨hx, hb, hml, hown, hts⟩ (ct3_refusal l D r1 r2 q1 q2 q3 kI held xs ys rm pm n orm) (cwV 1 hts gl_X4_156 rfl rfl rfl (by decide +kernel) ⟨Nat.le_of_ble_eq_true rfl, Nat.le_of_ble_eq_true rfl⟩) nN_mv hN hK hP [1, 2, 3, 4, 5] [0] rfl rfl rfl rfl rfl hl.1 rfl (Nat.le_of_ble_eq_true rfl) dX4_order_16 ⟨Nat.le_of_ble_eq_true rfl, Nat.le_of_ble_eq_true rfl⟩ ?_
    refine lv_istore_n (lv' := [(3, .int (fX3_refusal held rm n)), (0, .ref o1), (1, .int n), (2, .int ia)]) hx hb dX4_order_19 rfl hl (by decide) rfl (fun ls hl => ?_)
    refine lv_iload_n hx hb dX4_order_20 rfl (lv_at hl 0 rfl) ?_
    refine lv_if_eq (tgt := 28) hx hb dX4_order_21 (by decide) (fun c2 => ?_) (fun c2 => ?_)
    · refine lv_aload_n hx hb dX4_order_28 rfl (lv_at hl 1 rfl) ?_
      refine va_get (D := D) (ci := 8) (v := .ref r1) (C := RX4) (T := TX4) (N := 4) hx hb hts hinX4 hown hK hP 0 rfl rfl 2 (by decide) (hts _ fk_X4_28) (fun _ h9 => h9) rfl dX4_order_29 ?_
      refine lv_iload_n hx hb dX4_order_32 rfl (lv_at hl 2 rfl) ?_
      refine lv_iload_n hx hb dX4_order_33 rfl (lv_at hl 3 rfl) ?_
      refine lv_iconst (v := (-1)) hx hb dX4_order_34 (by decide) ?_
      refine xr_V (q := (RX3, TX3, 3)) (ci := 7) (q0 := 1) (rest := []) (As := [.int n, .int ia, .int (-1 : Int32)]) ⟨hx, hb, hml, hown, hts⟩ (ct3_placeOfRank l D r1 r2 q1 q2 q3 kI held xs ys rm pm n ia (-1 : Int32) ((o_ref c2 orm ohk).1) ((o_ref c2 orm ohk).2.2) (fun h => absurd rfl h)) (cwV 3 hts gl_X4_180 rfl rfl rfl (by decide +kernel) ⟨Nat.le_of_ble_eq_true rfl, Nat.le_of_ble_eq_true rfl⟩) nN_mv hN hK hP [1, 2, 3, 4, 5] [0] rfl rfl rfl rfl rfl hl.1 rfl (Nat.le_of_ble_eq_true rfl) dX4_order_35 ⟨Nat.le_of_ble_eq_true rfl, Nat.le_of_ble_eq_true rfl⟩ ?_
      exact W.iret (v := fX3_placeOfRank held xs ys n ia (-1 : Int32)) hx hb hr (fun t ht hW => ⟨by rw [show fX4_order held xs ys rm n ia = fX3_placeOfRank held xs ys n ia (-1 : Int32) by unfold fX4_order; rw [if_neg c1, if_pos c2]], ht⟩) (fun _ h => absurd h List.not_mem_nil) dX4_order_38
    · refine lv_iload_n hx hb dX4_order_24 rfl (lv_at hl 0 rfl) ?_
      refine lv_goto (tgt := 38) hx hb dX4_order_25 (by decide) ?_
      exact W.iret (v := fX3_refusal held rm n) hx hb hr (fun t ht hW => ⟨by rw [show fX4_order held xs ys rm n ia = fX3_refusal held rm n by unfold fX4_order; rw [if_neg c1, if_neg c2]], ht⟩) (fun _ h => absurd h List.not_mem_nil) dX4_order_38
  · refine lv_bipush (v := (-2)) hx hb dX4_order_8 (by decide) ?_
    exact W.iret (v := (-2 : Int32)) hx hb hr (fun t ht hW => ⟨by rw [show fX4_order held xs ys rm n ia = (-2 : Int32) by unfold fX4_order; rw [if_pos c1]], ht⟩) (fun _ h => absurd h List.not_mem_nil) dX4_order_10
def fX4_isDown  (v : Int64) : Int32 := if (lg_cmp v (1 : Int64)) < (0 : Int32) then ((0 : Int32)) else (if (0 : Int32) < (lg_cmp v (12 : Int64)) then ((0 : Int32)) else (if (lg_cmp ((12 : Int64) - (12 : Int64) / v * v) (0 : Int64)) = (0 : Int32) then ((1 : Int32)) else ((0 : Int32))))
set_option maxHeartbeats 4000000 in
set_option maxRecDepth 100000 in
theorem ct4_isDown (l : Launch) (D : va_G)  (v : Int64) : Met l yX4_isDown (Cond.code yX4_isDown cX4_isDown 2 (some .boolean) :: BX) ({ frames := 0, cells := 0, slots := 0, locals := 0 }) (xr_P nN D vwCl [] ([] : va_W) [.long v]) (xr_Q (.int (fX4_isDown v))) 0 0 (fun _ => False) := by
  refine Met.ofW (cc := cX4_isDown) (maxL := 2) (ret := (some .boolean)) (by decide) rfl ?_
  intro p e s m args below meth c s₁ B hml hv
  obtain ⟨rfl, hP, hK, hN⟩ := hv
  have hx := B.exec
  have hb := B.bytes
  have hr := B.returns
  have hts0 := atoms_spec (ws := Cond.code yX4_isDown cX4_isDown 2 (some .boolean) :: BX) B.pre
  have hts : ∀ w ∈ BX, w.before _ s = true := fun w h => hts0 w (List.mem_cons_of_mem _ h)
  have hown : s.vm.findClass RX4 = some m.cls := findClass_of_methodNamed B.named
  have hlocks := B.notSynchronized
  have hl := lv_entry ([.long v]) (n := 2) (Nat.le_of_ble_eq_true rfl)
  rw [lg_entry_eq]
  generalize (lg_sl ([.long v]) ++ List.replicate (2 - (lg_sl ([.long v])).length) Slot.unset).toArray = ls at hl ⊢
  have hl : lv_has ls 2 [(0, .long v)] := hl
  refine lv_lload_n hx hb dX4_isDown_0 rfl (lv_at hl 0 rfl) ?_
  refine lv_lconst (v := 1) hx hb dX4_isDown_1 (by decide) ?_
  refine W.lcmp hx hb dX4_isDown_2 ?_
  refine lv_if_lt (tgt := 28) hx hb dX4_isDown_3 (by decide) (fun c1 => ?_) (fun c1 => ?_)
  · refine lv_iconst (v := 0) hx hb dX4_isDown_28 (by decide) ?_
    exact W.zret (v := (0 : Int32)) hx hb hr rfl (fun t ht hW => ⟨by rw [show fX4_isDown v = (0 : Int32) by unfold fX4_isDown; rw [if_pos c1]], ht⟩) (fun _ h => absurd h List.not_mem_nil) dX4_isDown_29
  · refine lv_lload_n hx hb dX4_isDown_6 rfl (lv_at hl 0 rfl) ?_
    refine lv_ldc2 (v := 12) hx hb hown (hts _ kl_X4_223) dX4_isDown_7 ?_
    refine W.lcmp hx hb dX4_isDown_10 ?_
    refine lv_if_gt (tgt := 28) hx hb dX4_isDown_11 (by decide) (fun c2 => ?_) (fun c2 => ?_)
    · refine lv_iconst (v := 0) hx hb dX4_isDown_28 (by decide) ?_
      exact W.zret (v := (0 : Int32)) hx hb hr rfl (fun t ht hW => ⟨by rw [show fX4_isDown v = (0 : Int32) by unfold fX4_isDown; rw [if_neg c1, if_pos c2]], ht⟩) (fun _ h => absurd h List.not_mem_nil) dX4_isDown_29
    · refine lv_ldc2 (v := 12) hx hb hown (hts _ kl_X4_223) dX4_isDown_14 ?_
      refine lv_lload_n hx hb dX4_isDown_17 rfl (lv_at hl 0 rfl) ?_
      refine lv_lrem hx hb dX4_isDown_18 (o_nz c1) ?_
      refine lv_lconst (v := 0) hx hb dX4_isDown_19 (by decide) ?_
      refine W.lcmp hx hb dX4_isDown_20 ?_
      refine lv_if_ne (tgt := 28) hx hb dX4_isDown_21 (by decide) (fun c3 => ?_) (fun c3 => ?_)
      · refine lv_iconst (v := 0) hx hb dX4_isDown_28 (by decide) ?_
        exact W.zret (v := (0 : Int32)) hx hb hr rfl (fun t ht hW => ⟨by rw [show fX4_isDown v = (0 : Int32) by unfold fX4_isDown; rw [if_neg c1, if_neg c2, if_neg c3]], ht⟩) (fun _ h => absurd h List.not_mem_nil) dX4_isDown_29
      · refine lv_iconst (v := 1) hx hb dX4_isDown_24 (by decide) ?_
        refine lv_goto (tgt := 29) hx hb dX4_isDown_25 (by decide) ?_
        exact W.zret (v := (1 : Int32)) hx hb hr rfl (fun t ht hW => ⟨by rw [show fX4_isDown v = (1 : Int32) by unfold fX4_isDown; rw [if_neg c1, if_neg c2, if_pos c3]], ht⟩) (fun _ h => absurd h List.not_mem_nil) dX4_isDown_29
def fX4_decided (cl un ze : Int32) (wh : Int32) : Int32 := if wh = (0 : Int32) then (cl) else (if wh = (1 : Int32) then (un) else (if wh = (2 : Int32) then (ze) else ((-2 : Int32))))
set_option maxHeartbeats 4000000 in
set_option maxRecDepth 100000 in
theorem ct4_decided (l : Launch) (D : va_G) (o1 f1 r1 d1 q1 : Nat) (on cl un ze : Int32) (wh : Int32) : Met l yX4_decided (Cond.code yX4_decided cX4_decided 2 (some .int) :: BX) ({ frames := 0, cells := 0, slots := 0, locals := 0 }) (xr_P nN D vwCl [] (wOf o1 f1 r1 d1 q1 on cl un ze) [.ref o1, .int wh]) (xr_Q (.int (fX4_decided cl un ze wh))) 0 0 (fun _ => False) := by
  refine Met.ofW (cc := cX4_decided) (maxL := 2) (ret := (some .int)) (by decide) rfl ?_
  intro p e s m args below meth c s₁ B hml hv
  obtain ⟨rfl, hP, hK, hN⟩ := hv
  have hx := B.exec
  have hb := B.bytes
  have hr := B.returns
  have hts0 := atoms_spec (ws := Cond.code yX4_decided cX4_decided 2 (some .int) :: BX) B.pre
  have hts : ∀ w ∈ BX, w.before _ s = true := fun w h => hts0 w (List.mem_cons_of_mem _ h)
  have hown : s.vm.findClass RX4 = some m.cls := findClass_of_methodNamed B.named
  have hlocks := B.notSynchronized
  have hl := lv_entry ([.ref o1, .int wh]) (n := 2) (Nat.le_of_ble_eq_true rfl)
  rw [lg_entry_eq]
  generalize (lg_sl ([.ref o1, .int wh]) ++ List.replicate (2 - (lg_sl ([.ref o1, .int wh])).length) Slot.unset).toArray = ls at hl ⊢
  have hl : lv_has ls 2 [(0, .ref o1), (1, .int wh)] := hl
  refine lv_iload_n hx hb dX4_decided_0 rfl (lv_at hl 1 rfl) ?_
  by_cases c1 : wh = (0 : Int32)
  · refine lv_tableIn (off := 27) (tgt := 28) hx hb dX4_decided_1 (by rw [c1]; decide) (by rw [c1]; decide) (by rw [c1]; rfl) rfl ?_
    refine lv_aload_n hx hb dX4_decided_28 rfl (lv_at hl 0 rfl) ?_
    refine va_get (D := D) (ci := 8) (v := .ref f1) (C := RX4) (T := TX4) (N := 4) hx hb hts hinX4 hown hK hP 0 rfl rfl 1 (by decide) (hts _ fk_X4_21) (fun _ h9 => h9) rfl dX4_decided_29 ?_
    refine va_get (D := D) (ci := 5) (v := .int cl) (C := RX1) (T := TX1) (N := 5) hx hb hts hinX1 hown hK hP 1 rfl rfl 2 (by decide) (hts _ fk_X4_125) (fun _ h9 => h9) rfl dX4_decided_32 ?_
    exact W.iret (v := cl) hx hb hr (fun t ht hW => ⟨by rw [show fX4_decided cl un ze wh = cl by unfold fX4_decided; rw [if_pos c1]], ht⟩) (fun _ h => absurd h List.not_mem_nil) dX4_decided_35
  · by_cases c2 : wh = (1 : Int32)
    · refine lv_tableIn (off := 35) (tgt := 36) hx hb dX4_decided_1 (by rw [c2]; decide) (by rw [c2]; decide) (by rw [c2]; rfl) rfl ?_
      refine lv_aload_n hx hb dX4_decided_36 rfl (lv_at hl 0 rfl) ?_
      refine va_get (D := D) (ci := 8) (v := .ref f1) (C := RX4) (T := TX4) (N := 4) hx hb hts hinX4 hown hK hP 0 rfl rfl 1 (by decide) (hts _ fk_X4_21) (fun _ h9 => h9) rfl dX4_decided_37 ?_
      refine va_get (D := D) (ci := 5) (v := .int un) (C := RX1) (T := TX1) (N := 5) hx hb hts hinX1 hown hK hP 1 rfl rfl 3 (by decide) (hts _ fk_X4_128) (fun _ h9 => h9) rfl dX4_decided_40 ?_
      exact W.iret (v := un) hx hb hr (fun t ht hW => ⟨by rw [show fX4_decided cl un ze wh = un by unfold fX4_decided; rw [if_neg c1, if_pos c2]], ht⟩) (fun _ h => absurd h List.not_mem_nil) dX4_decided_43
    · by_cases c3 : wh = (2 : Int32)
      · refine lv_tableIn (off := 43) (tgt := 44) hx hb dX4_decided_1 (by rw [c3]; decide) (by rw [c3]; decide) (by rw [c3]; rfl) rfl ?_
        refine lv_aload_n hx hb dX4_decided_44 rfl (lv_at hl 0 rfl) ?_
        refine va_get (D := D) (ci := 8) (v := .ref f1) (C := RX4) (T := TX4) (N := 4) hx hb hts hinX4 hown hK hP 0 rfl rfl 1 (by decide) (hts _ fk_X4_21) (fun _ h9 => h9) rfl dX4_decided_45 ?_
        refine va_get (D := D) (ci := 5) (v := .int ze) (C := RX1) (T := TX1) (N := 5) hx hb hts hinX1 hown hK hP 1 rfl rfl 4 (by decide) (hts _ fk_X4_131) (fun _ h9 => h9) rfl dX4_decided_48 ?_
        exact W.iret (v := ze) hx hb hr (fun t ht hW => ⟨by rw [show fX4_decided cl un ze wh = ze by unfold fX4_decided; rw [if_neg c1, if_neg c2, if_pos c3]], ht⟩) (fun _ h => absurd h List.not_mem_nil) dX4_decided_51
      · refine lv_tableOut (tgt := 52) hx hb dX4_decided_1 (by have g0 : ¬ wh.toInt = 0 := fun h9 => c1 (Int32.toInt_inj.mp h9); have g1 : ¬ wh.toInt = 1 := fun h9 => c2 (Int32.toInt_inj.mp h9); have g2 : ¬ wh.toInt = 2 := fun h9 => c3 (Int32.toInt_inj.mp h9); omega) rfl ?_
        refine lv_bipush (v := (-2)) hx hb dX4_decided_52 (by decide) ?_
        exact W.iret (v := (-2 : Int32)) hx hb hr (fun t ht hW => ⟨by rw [show fX4_decided cl un ze wh = (-2 : Int32) by unfold fX4_decided; rw [if_neg c1, if_neg c2, if_neg c3]], ht⟩) (fun _ h => absurd h List.not_mem_nil) dX4_decided_54
def fX4_count (pm rm dm on : Int32) (wh : Int32) : Int32 := if wh = (0 : Int32) then (pm) else (if wh = (1 : Int32) then (rm) else (if wh = (2 : Int32) then (dm) else (if wh = (3 : Int32) then (if on = (0 : Int32) then ((0 : Int32)) else ((1 : Int32))) else ((-2 : Int32)))))
set_option maxHeartbeats 4000000 in
set_option maxRecDepth 100000 in
theorem ct4_count (l : Launch) (D : va_G) (o1 f1 r1 d1 q1 q2 q3 r2 d2 d3 d4 d5 : Nat) (pm rm on cl un ze dm dd de dp dq : Int32) (wh : Int32) : Met l yX4_count (Cond.code yX4_count cX4_count 2 (some .int) :: BX) ({ frames := 0, cells := 0, slots := 0, locals := 0 }) (xr_P nN D vwCl [] (wOc o1 f1 r1 d1 q1 q2 q3 r2 d2 d3 d4 d5 pm rm on cl un ze dm dd de dp dq) [.ref o1, .int wh]) (xr_Q (.int (fX4_count pm rm dm on wh))) 0 0 (fun _ => False) := by
  refine Met.ofW (cc := cX4_count) (maxL := 2) (ret := (some .int)) (by decide) rfl ?_
  intro p e s m args below meth c s₁ B hml hv
  obtain ⟨rfl, hP, hK, hN⟩ := hv
  have hx := B.exec
  have hb := B.bytes
  have hr := B.returns
  have hts0 := atoms_spec (ws := Cond.code yX4_count cX4_count 2 (some .int) :: BX) B.pre
  have hts : ∀ w ∈ BX, w.before _ s = true := fun w h => hts0 w (List.mem_cons_of_mem _ h)
  have hown : s.vm.findClass RX4 = some m.cls := findClass_of_methodNamed B.named
  have hlocks := B.notSynchronized
  have hl := lv_entry ([.ref o1, .int wh]) (n := 2) (Nat.le_of_ble_eq_true rfl)
  rw [lg_entry_eq]
  generalize (lg_sl ([.ref o1, .int wh]) ++ List.replicate (2 - (lg_sl ([.ref o1, .int wh])).length) Slot.unset).toArray = ls at hl ⊢
  have hl : lv_has ls 2 [(0, .ref o1), (1, .int wh)] := hl
  refine lv_iload_n hx hb dX4_count_0 rfl (lv_at hl 1 rfl) ?_
  by_cases c1 : wh = (0 : Int32)
  · refine lv_tableIn (off := 31) (tgt := 32) hx hb dX4_count_1 (by rw [c1]; decide) (by rw [c1]; decide) (by rw [c1]; rfl) rfl ?_
    refine lv_aload_n hx hb dX4_count_32 rfl (lv_at hl 0 rfl) ?_
    refine va_get (D := D) (ci := 8) (v := .ref q1) (C := RX4) (T := TX4) (N := 4) hx hb hts hinX4 hown hK hP 0 rfl rfl 0 (by decide) (hts _ fk_X4_10) (fun _ h9 => h9) rfl dX4_count_33 ?_
    refine va_get (D := D) (ci := 6) (v := .int pm) (C := RX2) (T := TX2) (N := 3) hx hb hts hinX2 hown hK hP 1 rfl rfl 2 (by decide) (hts _ fk_X4_46) (fun _ h9 => h9) rfl dX4_count_36 ?_
    exact W.iret (v := pm) hx hb hr (fun t ht hW => ⟨by rw [show fX4_count pm rm dm on wh = pm by unfold fX4_count; rw [if_pos c1]], ht⟩) (fun _ h => absurd h List.not_mem_nil) dX4_count_39
  · by_cases c2 : wh = (1 : Int32)
    · refine lv_tableIn (off := 39) (tgt := 40) hx hb dX4_count_1 (by rw [c2]; decide) (by rw [c2]; decide) (by rw [c2]; rfl) rfl ?_
      refine lv_aload_n hx hb dX4_count_40 rfl (lv_at hl 0 rfl) ?_
      refine va_get (D := D) (ci := 8) (v := .ref r1) (C := RX4) (T := TX4) (N := 4) hx hb hts hinX4 hown hK hP 0 rfl rfl 2 (by decide) (hts _ fk_X4_28) (fun _ h9 => h9) rfl dX4_count_41 ?_
      refine va_get (D := D) (ci := 7) (v := .int rm) (C := RX3) (T := TX3) (N := 3) hx hb hts hinX3 hown hK hP 3 rfl rfl 2 (by decide) (hts _ fk_X4_218) (fun _ h9 => h9) rfl dX4_count_44 ?_
      exact W.iret (v := rm) hx hb hr (fun t ht hW => ⟨by rw [show fX4_count pm rm dm on wh = rm by unfold fX4_count; rw [if_neg c1, if_pos c2]], ht⟩) (fun _ h => absurd h List.not_mem_nil) dX4_count_47
    · by_cases c3 : wh = (2 : Int32)
      · refine lv_tableIn (off := 47) (tgt := 48) hx hb dX4_count_1 (by rw [c3]; decide) (by rw [c3]; decide) (by rw [c3]; rfl) rfl ?_
        refine lv_aload_n hx hb dX4_count_48 rfl (lv_at hl 0 rfl) ?_
        refine va_get (D := D) (ci := 8) (v := .ref d1) (C := RX4) (T := TX4) (N := 4) hx hb hts hinX4 hown hK hP 0 rfl rfl 3 (by decide) (hts _ fk_X4_35) (fun _ h9 => h9) rfl dX4_count_49 ?_
        refine va_get (D := D) (ci := 4) (v := .int dm) (C := RX0) (T := TX0) (N := 9) hx hb hts hinX0 hown hK hP 4 rfl rfl 4 (by decide) (hts _ fk_X4_192) (fun _ h9 => h9) rfl dX4_count_52 ?_
        exact W.iret (v := dm) hx hb hr (fun t ht hW => ⟨by rw [show fX4_count pm rm dm on wh = dm by unfold fX4_count; rw [if_neg c1, if_neg c2, if_pos c3]], ht⟩) (fun _ h => absurd h List.not_mem_nil) dX4_count_55
      · by_cases c4 : wh = (3 : Int32)
        · refine lv_tableIn (off := 55) (tgt := 56) hx hb dX4_count_1 (by rw [c4]; decide) (by rw [c4]; decide) (by rw [c4]; rfl) rfl ?_
          refine lv_aload_n hx hb dX4_count_56 rfl (lv_at hl 0 rfl) ?_
          refine va_get (D := D) (ci := 8) (v := .ref f1) (C := RX4) (T := TX4) (N := 4) hx hb hts hinX4 hown hK hP 0 rfl rfl 1 (by decide) (hts _ fk_X4_21) (fun _ h9 => h9) rfl dX4_count_57 ?_
          refine va_get (D := D) (ci := 5) (v := .int on) (C := RX1) (T := TX1) (N := 5) hx hb hts hinX1 hown hK hP 2 rfl rfl 1 (by decide) (hts _ fk_X4_99) (fun _ h9 => h9) rfl dX4_count_60 ?_
          refine lv_if_eq (tgt := 70) hx hb dX4_count_63 (by decide) (fun c5 => ?_) (fun c5 => ?_)
          · refine lv_iconst (v := 0) hx hb dX4_count_70 (by decide) ?_
            exact W.iret (v := (0 : Int32)) hx hb hr (fun t ht hW => ⟨by rw [show fX4_count pm rm dm on wh = (0 : Int32) by unfold fX4_count; rw [if_neg c1, if_neg c2, if_neg c3, if_pos c4, if_pos c5]], ht⟩) (fun _ h => absurd h List.not_mem_nil) dX4_count_71
          · refine lv_iconst (v := 1) hx hb dX4_count_66 (by decide) ?_
            refine lv_goto (tgt := 71) hx hb dX4_count_67 (by decide) ?_
            exact W.iret (v := (1 : Int32)) hx hb hr (fun t ht hW => ⟨by rw [show fX4_count pm rm dm on wh = (1 : Int32) by unfold fX4_count; rw [if_neg c1, if_neg c2, if_neg c3, if_pos c4, if_neg c5]], ht⟩) (fun _ h => absurd h List.not_mem_nil) dX4_count_71
        · refine lv_tableOut (tgt := 72) hx hb dX4_count_1 (by have g0 : ¬ wh.toInt = 0 := fun h9 => c1 (Int32.toInt_inj.mp h9); have g1 : ¬ wh.toInt = 1 := fun h9 => c2 (Int32.toInt_inj.mp h9); have g2 : ¬ wh.toInt = 2 := fun h9 => c3 (Int32.toInt_inj.mp h9); have g3 : ¬ wh.toInt = 3 := fun h9 => c4 (Int32.toInt_inj.mp h9); omega) rfl ?_
          refine lv_bipush (v := (-2)) hx hb dX4_count_72 (by decide) ?_
          exact W.iret (v := (-2 : Int32)) hx hb hr (fun t ht hW => ⟨by rw [show fX4_count pm rm dm on wh = (-2 : Int32) by unfold fX4_count; rw [if_neg c1, if_neg c2, if_neg c3, if_neg c4]], ht⟩) (fun _ h => absurd h List.not_mem_nil) dX4_count_74
