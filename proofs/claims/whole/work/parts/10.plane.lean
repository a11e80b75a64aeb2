/-! The POINTS: what is read of them. -/
abbrev wPl (q1 q2 q3 : Nat) (kI : ClassId) (xs ys : Nat → Int32) (pm : Int32) : va_W := [(q1, .inr (6, [.ref q2, .ref q3, .int pm])), (q2, .inl (kI, 60, .inl xs)), (q3, .inl (kI, 60, .inl ys))]
def fX4_signOf  (v : Int64) : Int32 := if (lg_cmp v (0 : Int64)) ≤ (0 : Int32) then (if (0 : Int32) ≤ (lg_cmp v (0 : Int64)) then ((0 : Int32)) else ((-1 : Int32))) else ((1 : Int32))
set_option maxHeartbeats 4000000 in
set_option maxRecDepth 100000 in
theorem ct4_signOf (l : Launch) (D : va_G)  (v : Int64) : Met l yX4_signOf (Cond.code yX4_signOf cX4_signOf 2 (some .int) :: BX) ({ frames := 0, cells := 0, slots := 0, locals := 0 }) (xr_P nN D vwCl [] ([] : va_W) [.long v]) (xr_Q (.int (fX4_signOf v))) 0 0 (fun _ => False) := by
  refine Met.ofW (cc := cX4_signOf) (maxL := 2) (ret := (some .int)) (by decide) rfl ?_
  intro p e s m args below meth c s₁ B hml hv
  obtain ⟨rfl, hP, hK, hN⟩ := hv
  have hx := B.exec
  have hb := B.bytes
  have hr := B.returns
  have hts0 := atoms_spec (ws := Cond.code yX4_signOf cX4_signOf 2 (some .int) :: BX) B.pre
  have hts : ∀ w ∈ BX, w.before _ s = true := fun w h => hts0 w (List.mem_cons_of_mem _ h)
  have hown : s.vm.findClass RX4 = some m.cls := findClass_of_methodNamed B.named
  have hlocks := B.notSynchronized
  have hl := lv_entry ([.long v]) (n := 2) (Nat.le_of_ble_eq_true rfl)
  rw [lg_entry_eq]
  generalize (lg_sl ([.long v]) ++ List.replicate (2 - (lg_sl ([.long v])).length) Slot.unset).toArray = ls at hl ⊢
  have hl : lv_has ls 2 [(0, .long v)] := hl
  refine lv_lload_n hx hb dX4_signOf_0 rfl (lv_at hl 0 rfl) ?_
  refine lv_lconst (v := 0) hx hb dX4_signOf_1 (by decide) ?_
  refine W.lcmp hx hb dX4_signOf_2 ?_
  refine lv_if_le (tgt := 8) hx hb dX4_signOf_3 (by decide) (fun c1 => ?_) (fun c1 => ?_)
  · refine lv_lload_n hx hb dX4_signOf_8 rfl (lv_at hl 0 rfl) ?_
    refine lv_lconst (v := 0) hx hb dX4_signOf_9 (by decide) ?_
    refine W.lcmp hx hb dX4_signOf_10 ?_
    refine lv_if_ge (tgt := 18) hx hb dX4_signOf_11 (by decide) (fun c2 => ?_) (fun c2 => ?_)
    · refine lv_iconst (v := 0) hx hb dX4_signOf_18 (by decide) ?_
      exact W.iret (v := (0 : Int32)) hx hb hr (fun t ht hW => ⟨by rw [show fX4_signOf v = (0 : Int32) by unfold fX4_signOf; rw [if_pos c1, if_pos c2]], ht⟩) (fun _ h => absurd h List.not_mem_nil) dX4_signOf_19
    · refine lv_iconst (v := (-1)) hx hb dX4_signOf_14 (by decide) ?_
      refine lv_goto (tgt := 19) hx hb dX4_signOf_15 (by decide) ?_
      exact W.iret (v := (-1 : Int32)) hx hb hr (fun t ht hW => ⟨by rw [show fX4_signOf v = (-1 : Int32) by unfold fX4_signOf; rw [if_pos c1, if_neg c2]], ht⟩) (fun _ h => absurd h List.not_mem_nil) dX4_signOf_19
  · refine lv_iconst (v := 1) hx hb dX4_signOf_6 (by decide) ?_
    exact W.iret (v := (1 : Int32)) hx hb hr (fun t ht hW => ⟨by rw [show fX4_signOf v = (1 : Int32) by unfold fX4_signOf; rw [if_neg c1]], ht⟩) (fun _ h => absurd h List.not_mem_nil) dX4_signOf_7
def fX2_has (pm : Int32) (ia : Int32) : Int32 := if ia < (0 : Int32) then ((0 : Int32)) else (if pm ≤ ia then ((0 : Int32)) else ((1 : Int32)))
set_option maxHeartbeats 4000000 in
set_option maxRecDepth 100000 in
theorem ct2_has (l : Launch) (D : va_G) (q1 q2 q3 : Nat) (kI : ClassId) (xs ys : Nat → Int32) (pm : Int32) (ia : Int32) : Met l yX2_has (Cond.code yX2_has cX2_has 2 (some .boolean) :: BX) ({ frames := 0, cells := 0, slots := 0, locals := 0 }) (xr_P nN D vwCl [(kI, .int)] (wPl q1 q2 q3 kI xs ys pm) [.ref q1, .int ia]) (xr_Q (.int (fX2_has pm ia))) 0 0 (fun _ => False) := by
  refine Met.ofW (cc := cX2_has) (maxL := 2) (ret := (some .boolean)) (by decide) rfl ?_
  intro p e s m args below meth c s₁ B hml hv
  obtain ⟨rfl, hP, hK, hN⟩ := hv
  have hx := B.exec
  have hb := B.bytes
  have hr := B.returns
  have hts0 := atoms_spec (ws := Cond.code yX2_has cX2_has 2 (some .boolean) :: BX) B.pre
  have hts : ∀ w ∈ BX, w.before _ s = true := fun w h => hts0 w (List.mem_cons_of_mem _ h)
  have hown : s.vm.findClass RX2 = some m.cls := findClass_of_methodNamed B.named
  have hlocks := B.notSynchronized
  have hl := lv_entry ([.ref q1, .int ia]) (n := 2) (Nat.le_of_ble_eq_true rfl)
  rw [lg_entry_eq]
  generalize (lg_sl ([.ref q1, .int ia]) ++ List.replicate (2 - (lg_sl ([.ref q1, .int ia])).length) Slot.unset).toArray = ls at hl ⊢
  have hl : lv_has ls 2 [(0, .ref q1), (1, .int ia)] := hl
  refine lv_iload_n hx hb dX2_has_0 rfl (lv_at hl 1 rfl) ?_
  refine lv_if_lt (tgt := 16) hx hb dX2_has_1 (by decide) (fun c1 => ?_) (fun c1 => ?_)
  · refine lv_iconst (v := 0) hx hb dX2_has_16 (by decide) ?_
    exact W.zret (v := (0 : Int32)) hx hb hr rfl (fun t ht hW => ⟨by rw [show fX2_has pm ia = (0 : Int32) by unfold fX2_has; rw [if_pos c1]], ht⟩) (fun _ h => absurd h List.not_mem_nil) dX2_has_17
  · refine lv_iload_n hx hb dX2_has_4 rfl (lv_at hl 1 rfl) ?_
    refine lv_aload_n hx hb dX2_has_5 rfl (lv_at hl 0 rfl) ?_
    refine va_get (D := D) (ci := 6) (v := .int pm) (C := RX2) (T := TX2) (N := 3) hx hb hts hinX2 hown hK hP 0 rfl rfl 2 (by decide) (hts _ fk_X2_18) (fun _ h9 => h9) rfl dX2_has_6 ?_
    refine lv_icmp_ge (tgt := 16) hx hb dX2_has_9 (by decide) (fun c2 => ?_) (fun c2 => ?_)
    · refine lv_iconst (v := 0) hx hb dX2_has_16 (by decide) ?_
      exact W.zret (v := (0 : Int32)) hx hb hr rfl (fun t ht hW => ⟨by rw [show fX2_has pm ia = (0 : Int32) by unfold fX2_has; rw [if_neg c1, if_pos c2]], ht⟩) (fun _ h => absurd h List.not_mem_nil) dX2_has_17
    · refine lv_iconst (v := 1) hx hb dX2_has_12 (by decide) ?_
      refine lv_goto (tgt := 17) hx hb dX2_has_13 (by decide) ?_
      exact W.zret (v := (1 : Int32)) hx hb hr rfl (fun t ht hW => ⟨by rw [show fX2_has pm ia = (1 : Int32) by unfold fX2_has; rw [if_neg c1, if_neg c2]], ht⟩) (fun _ h => absurd h List.not_mem_nil) dX2_has_17
def fX2_hasAll (pm : Int32) (ia : Int32) (ib : Int32) (ic : Int32) (id : Int32) : Int32 := if (fX2_has pm ia) = (0 : Int32) then ((0 : Int32)) else (if (fX2_has pm ib) = (0 : Int32) then ((0 : Int32)) else (if (fX2_has pm ic) = (0 : Int32) then ((0 : Int32)) else (if (fX2_has pm id) = (0 : Int32) then ((0 : Int32)) else ((1 : Int32)))))
set_option maxHeartbeats 4000000 in
set_option maxRecDepth 100000 in
theorem ct2_hasAll (l : Launch) (D : va_G) (q1 q2 q3 : Nat) (kI : ClassId) (xs ys : Nat → Int32) (pm : Int32) (ia : Int32) (ib : Int32) (ic : Int32) (id : Int32) : Met l yX2_hasAll (Cond.code yX2_hasAll cX2_hasAll 5 (some .boolean) :: BX) ({ frames := 1, cells := 0, slots := 0, locals := 60 }) (xr_P nN D vwCl [(kI, .int)] (wPl q1 q2 q3 kI xs ys pm) [.ref q1, .int ia, .int ib, .int ic, .int id]) (xr_Q (.int (fX2_hasAll pm ia ib ic id))) 0 0 (fun _ => False) := by
  refine Met.ofW (cc := cX2_hasAll) (maxL := 5) (ret := (some .boolean)) (by decide) rfl ?_
  intro p e s m args below meth c s₁ B hml hv
  obtain ⟨rfl, hP, hK, hN⟩ := hv
  have hx := B.exec
  have hb := B.bytes
  have hr := B.returns
  have hts0 := atoms_spec (ws := Cond.code yX2_hasAll cX2_hasAll 5 (some .boolean) :: BX) B.pre
  have hts : ∀ w ∈ BX, w.before _ s = true := fun w h => hts0 w (List.mem_cons_of_mem _ h)
  have hown : s.vm.findClass RX2 = some m.cls := findClass_of_methodNamed B.named
  have hlocks := B.notSynchronized
  have hl := lv_entry ([.ref q1, .int ia, .int ib, .int ic, .int id]) (n := 5) (Nat.le_of_ble_eq_true rfl)
  rw [lg_entry_eq]
  generalize (lg_sl ([.ref q1, .int ia, .int ib, .int ic, .int id]) ++ List.replicate (5 - (lg_sl ([.ref q1, .int ia, .int ib, .int ic, .int id])).length) Slot.unset).toArray = ls at hl ⊢
  have hl : lv_has ls 5 [(0, .ref q1), (1, .int ia), (2, .int ib), (3, .int ic), (4, .int id)] := hl
  refine lv_aload_n hx hb dX2_hasAll_0 rfl (lv_at hl 0 rfl) ?_
  refine lv_iload_n hx hb dX2_hasAll_1 rfl (lv_at hl 1 rfl) ?_
  refine xr_V (q := (RX2, TX2, 3)) (ci := 6) (q0 := 0) (rest := []) (As := [.int ia]) ⟨hx, hb, hml, hown, hts⟩ (ct2_has l D q1 q2 q3 kI xs ys pm ia ) (cwV 1 hts gl_X2_22 rfl rfl rfl (by decide +kernel) ⟨Nat.le_of_ble_eq_true rfl, Nat.le_of_ble_eq_true rfl⟩) nN_mv hN hK hP [0, 1, 2] [0] rfl rfl rfl rfl rfl hl.1 rfl (Nat.le_of_ble_eq_true rfl) dX2_hasAll_2 ⟨Nat.le_of_ble_eq_true rfl, Nat.le_of_ble_eq_true rfl⟩ ?_
  refine lv_if_eq (tgt := 37) hx hb dX2_hasAll_5 (by decide) (fun c1 => ?_) (fun c1 => ?_)
  · refine lv_iconst (v := 0) hx hb dX2_hasAll_37 (by decide) ?_
    exact W.zret (v := (0 : Int32)) hx hb hr rfl (fun t ht hW => ⟨by rw [show fX2_hasAll pm ia ib ic id = (0 : Int32) by unfold fX2_hasAll; rw [if_pos c1]], ht⟩) (fun _ h => absurd h List.not_mem_nil) dX2_hasAll_38
  · refine lv_aload_n hx hb dX2_hasAll_8 rfl (lv_at hl 0 rfl) ?_
    refine lv_iload_n hx hb dX2_hasAll_9 rfl (lv_at hl 2 rfl) ?_
    refine xr_V (q := (RX2, TX2, 3)) (ci := 6) (q0 := 0) (rest := []) (As := [.int ib]) ⟨hx, hb, hml, hown, hts⟩ (ct2_has l D q1 q2 q3 kI xs ys pm ib ) (cwV 1 hts gl_X2_22 rfl rfl rfl (by decide +kernel) ⟨Nat.le_of_ble_eq_true rfl, Nat.le_of_ble_eq_true rfl⟩) nN_mv hN hK hP [0, 1, 2] [0] rfl rfl rfl rfl rfl hl.1 rfl (Nat.le_of_ble_eq_true rfl) dX2_hasAll_10 ⟨Nat.le_of_ble_eq_true rfl, Nat.le_of_ble_eq_true rfl⟩ ?_
    refine lv_if_eq (tgt := 37) hx hb dX2_hasAll_13 (by decide) (fun c2 => ?_) (fun c2 => ?_)
    · refine lv_iconst (v := 0) hx hb dX2_hasAll_37 (by decide) ?_
      exact W.zret (v := (0 : Int32)) hx hb hr rfl (fun t ht hW => ⟨by rw [show fX2_hasAll pm ia ib ic id = (0 : Int32) by unfold fX2_hasAll; rw [if_neg c1, if_pos c2]], ht⟩) (fun _ h => absurd h List.not_mem_nil) dX2_hasAll_38
    · refine lv_aload_n hx hb dX2_hasAll_16 rfl (lv_at hl 0 rfl) ?_
      refine lv_iload_n hx hb dX2_hasAll_17 rfl (lv_at hl 3 rfl) ?_
      refine xr_V (q := (RX2, TX2, 3)) (ci := 6) (q0 := 0) (rest := []) (As := [.int ic]) ⟨hx, hb, hml, hown, hts⟩ (ct2_has l D q1 q2 q3 kI xs ys pm ic ) (cwV 1 hts gl_X2_22 rfl rfl rfl (by decide +kernel) ⟨Nat.le_of_ble_eq_true rfl, Nat.le_of_ble_eq_true rfl⟩) nN_mv hN hK hP [0, 1, 2] [0] rfl rfl rfl rfl rfl hl.1 rfl (Nat.le_of_ble_eq_true rfl) dX2_hasAll_18 ⟨Nat.le_of_ble_eq_true rfl, Nat.le_of_ble_eq_true rfl⟩ ?_
      refine lv_if_eq (tgt := 37) hx hb dX2_hasAll_21 (by decide) (fun c3 => ?_) (fun c3 => ?_)
      · refine lv_iconst (v := 0) hx hb dX2_hasAll_37 (by decide) ?_
        exact W.zret (v := (0 : Int32)) hx hb hr rfl (fun t ht hW => ⟨by rw [show fX2_hasAll pm ia ib ic id = (0 : Int32) by unfold fX2_hasAll; rw [if_neg c1, if_neg c2, if_pos c3]], ht⟩) (fun _ h => absurd h List.not_mem_nil) dX2_hasAll_38
      · refine lv_aload_n hx hb dX2_hasAll_24 rfl (lv_at hl 0 rfl) ?_
        refine lv_iload hx hb dX2_hasAll_25 (lv_at hl 4 rfl) ?_
        refine xr_V (q := (RX2, TX2, 3)) (ci := 6) (q0 := 0) (rest := []) (As := [.int id]) ⟨hx, hb, hml, hown, hts⟩ (ct2_has l D q1 q2 q3 kI xs ys pm id ) (cwV 1 hts gl_X2_22 rfl rfl rfl (by decide +kernel) ⟨Nat.le_of_ble_eq_true rfl, Nat.le_of_ble_eq_true rfl⟩) nN_mv hN hK hP [0, 1, 2] [0] rfl rfl rfl rfl rfl hl.1 rfl (Nat.le_of_ble_eq_true rfl) dX2_hasAll_27 ⟨Nat.le_of_ble_eq_true rfl, Nat.le_of_ble_eq_true rfl⟩ ?_
        refine lv_if_eq (tgt := 37) hx hb dX2_hasAll_30 (by decide) (fun c4 => ?_) (fun c4 => ?_)
        · refine lv_iconst (v := 0) hx hb dX2_hasAll_37 (by decide) ?_
          exact W.zret (v := (0 : Int32)) hx hb hr rfl (fun t ht hW => ⟨by rw [show fX2_hasAll pm ia ib ic id = (0 : Int32) by unfold fX2_hasAll; rw [if_neg c1, if_neg c2, if_neg c3, if_pos c4]], ht⟩) (fun _ h => absurd h List.not_mem_nil) dX2_hasAll_38
        · refine lv_iconst (v := 1) hx hb dX2_hasAll_33 (by decide) ?_
          refine lv_goto (tgt := 38) hx hb dX2_hasAll_34 (by decide) ?_
          exact W.zret (v := (1 : Int32)) hx hb hr rfl (fun t ht hW => ⟨by rw [show fX2_hasAll pm ia ib ic id = (1 : Int32) by unfold fX2_hasAll; rw [if_neg c1, if_neg c2, if_neg c3, if_neg c4]], ht⟩) (fun _ h => absurd h List.not_mem_nil) dX2_hasAll_38
def fX2_same (xs ys : Nat → Int32) (ia : Int32) (ib : Int32) : Int32 := if (xs ia.toNatClampNeg) = (xs ib.toNatClampNeg) then (if (ys ia.toNatClampNeg) = (ys ib.toNatClampNeg) then ((1 : Int32)) else ((0 : Int32))) else ((0 : Int32))
set_option maxHeartbeats 4000000 in
set_option maxRecDepth 100000 in
theorem ct2_same (l : Launch) (D : va_G) (q1 q2 q3 : Nat) (kI : ClassId) (xs ys : Nat → Int32) (pm : Int32) (ia : Int32) (ib : Int32) (oia : vp_in ia 60) (oib : vp_in ib 60) : Met l yX2_same (Cond.code yX2_same cX2_same 3 (some .boolean) :: BX) ({ frames := 0, cells := 0, slots := 0, locals := 0 }) (xr_P nN D vwCl [(kI, .int)] (wPl q1 q2 q3 kI xs ys pm) [.ref q1, .int ia, .int ib]) (xr_Q (.int (fX2_same xs ys ia ib))) 0 0 (fun _ => False) := by
  refine Met.ofW (cc := cX2_same) (maxL := 3) (ret := (some .boolean)) (by decide) rfl ?_
  intro p e s m args below meth c s₁ B hml hv
  obtain ⟨rfl, hP, hK, hN⟩ := hv
  have hx := B.exec
  have hb := B.bytes
  have hr := B.returns
  have hts0 := atoms_spec (ws := Cond.code yX2_same cX2_same 3 (some .boolean) :: BX) B.pre
  have hts : ∀ w ∈ BX, w.before _ s = true := fun w h => hts0 w (List.mem_cons_of_mem _ h)
  have hown : s.vm.findClass RX2 = some m.cls := findClass_of_methodNamed B.named
  have hlocks := B.notSynchronized
  have hl := lv_entry ([.ref q1, .int ia, .int ib]) (n := 3) (Nat.le_of_ble_eq_true rfl)
  rw [lg_entry_eq]
  generalize (lg_sl ([.ref q1, .int ia, .int ib]) ++ List.replicate (3 - (lg_sl ([.ref q1, .int ia, .int ib])).length) Slot.unset).toArray = ls at hl ⊢
  have hl : lv_has ls 3 [(0, .ref q1), (1, .int ia), (2, .int ib)] := hl
  refine lv_aload_n hx hb dX2_same_0 rfl (lv_at hl 0 rfl) ?_
  refine va_get (D := D) (ci := 6) (v := .ref q2) (C := RX2) (T := TX2) (N := 3) hx hb hts hinX2 hown hK hP 0 rfl rfl 0 (by decide) (hts _ fk_X2_9) (fun _ h9 => h9) rfl dX2_same_1 ?_
  refine lv_iload_n hx hb dX2_same_4 rfl (lv_at hl 1 rfl) ?_
  refine va_iald hx hb hK hP 1 0 rfl rfl oia dX2_same_5 ?_
  refine lv_aload_n hx hb dX2_same_6 rfl (lv_at hl 0 rfl) ?_
  refine va_get (D := D) (ci := 6) (v := .ref q2) (C := RX2) (T := TX2) (N := 3) hx hb hts hinX2 hown hK hP 0 rfl rfl 0 (by decide) (hts _ fk_X2_9) (fun _ h9 => h9) rfl dX2_same_7 ?_
  refine lv_iload_n hx hb dX2_same_10 rfl (lv_at hl 2 rfl) ?_
  refine va_iald hx hb hK hP 1 0 rfl rfl oib dX2_same_11 ?_
  refine lv_icmp_ne (tgt := 34) hx hb dX2_same_12 (by decide) (fun c1 => ?_) (fun c1 => ?_)
  · refine lv_iconst (v := 0) hx hb dX2_same_34 (by decide) ?_
    exact W.zret (v := (0 : Int32)) hx hb hr rfl (fun t ht hW => ⟨by rw [show fX2_same xs ys ia ib = (0 : Int32) by unfold fX2_same; rw [if_neg c1]], ht⟩) (fun _ h => absurd h List.not_mem_nil) dX2_same_35
  · refine lv_aload_n hx hb dX2_same_15 rfl (lv_at hl 0 rfl) ?_
    refine va_get (D := D) (ci := 6) (v := .ref q3) (C := RX2) (T := TX2) (N := 3) hx hb hts hinX2 hown hK hP 0 rfl rfl 1 (by decide) (hts _ fk_X2_15) (fun _ h9 => h9) rfl dX2_same_16 ?_
    refine lv_iload_n hx hb dX2_same_19 rfl (lv_at hl 1 rfl) ?_
    refine va_iald hx hb hK hP 2 0 rfl rfl oia dX2_same_20 ?_
    refine lv_aload_n hx hb dX2_same_21 rfl (lv_at hl 0 rfl) ?_
    refine va_get (D := D) (ci := 6) (v := .ref q3) (C := RX2) (T := TX2) (N := 3) hx hb hts hinX2 hown hK hP 0 rfl rfl 1 (by decide) (hts _ fk_X2_15) (fun _ h9 => h9) rfl dX2_same_22 ?_
    refine lv_iload_n hx hb dX2_same_25 rfl (lv_at hl 2 rfl) ?_
    refine va_iald hx hb hK hP 2 0 rfl rfl oib dX2_same_26 ?_
    refine lv_icmp_ne (tgt := 34) hx hb dX2_same_27 (by decide) (fun c2 => ?_) (fun c2 => ?_)
    · refine lv_iconst (v := 0) hx hb dX2_same_34 (by decide) ?_
      exact W.zret (v := (0 : Int32)) hx hb hr rfl (fun t ht hW => ⟨by rw [show fX2_same xs ys ia ib = (0 : Int32) by unfold fX2_same; rw [if_pos c1, if_neg c2]], ht⟩) (fun _ h => absurd h List.not_mem_nil) dX2_same_35
    · refine lv_iconst (v := 1) hx hb dX2_same_30 (by decide) ?_
      refine lv_goto (tgt := 35) hx hb dX2_same_31 (by decide) ?_
      exact W.zret (v := (1 : Int32)) hx hb hr rfl (fun t ht hW => ⟨by rw [show fX2_same xs ys ia ib = (1 : Int32) by unfold fX2_same; rw [if_pos c1, if_pos c2]], ht⟩) (fun _ h => absurd h List.not_mem_nil) dX2_same_35
def fX2_anySame (xs ys : Nat → Int32) (ia : Int32) (ib : Int32) (ic : Int32) (id : Int32) : Int32 := if (fX2_same xs ys ia ib) = (0 : Int32) then (if (fX2_same xs ys ia ic) = (0 : Int32) then (if (fX2_same xs ys ia id) = (0 : Int32) then (if (fX2_same xs ys ib ic) = (0 : Int32) then (if (fX2_same xs ys ib id) = (0 : Int32) then (if (fX2_same xs ys ic id) = (0 : Int32) then ((0 : Int32)) else ((1 : Int32))) else ((1 : Int32))) else ((1 : Int32))) else ((1 : Int32))) else ((1 : Int32))) else ((1 : Int32))
set_option maxHeartbeats 4000000 in
set_option maxRecDepth 100000 in
theorem ct2_anySame (l : Launch) (D : va_G) (q1 q2 q3 : Nat) (kI : ClassId) (xs ys : Nat → Int32) (pm : Int32) (ia : Int32) (ib : Int32) (ic : Int32) (id : Int32) (oia : vp_in ia 60) (oib : vp_in ib 60) (oic : vp_in ic 60) (oid : vp_in id 60) : Met l yX2_anySame (Cond.code yX2_anySame cX2_anySame 5 (some .boolean) :: BX) ({ frames := 1, cells := 0, slots := 0, locals := 60 }) (xr_P nN D vwCl [(kI, .int)] (wPl q1 q2 q3 kI xs ys pm) [.ref q1, .int ia, .int ib, .int ic, .int id]) (xr_Q (.int (fX2_anySame xs ys ia ib ic id))) 0 0 (fun _ => False) := by
  refine Met.ofW (cc := cX2_anySame) (maxL := 5) (ret := (some .boolean)) (by decide) rfl ?_
  intro p e s m args below meth c s₁ B hml hv
  obtain ⟨rfl, hP, hK, hN⟩ := hv
  have hx := B.exec
  have hb := B.bytes
  have hr := B.returns
  have hts0 := atoms_spec (ws := Cond.code yX2_anySame cX2_anySame 5 (some .boolean) :: BX) B.pre
  have hts : ∀ w ∈ BX, w.before _ s = true := fun w h => hts0 w (List.mem_cons_of_mem _ h)
  have hown : s.vm.findClass RX2 = some m.cls := findClass_of_methodNamed B.named
  have hlocks := B.notSynchronized
  have hl := lv_entry ([.ref q1, .int ia, .int ib, .int ic, .int id]) (n := 5) (Nat.le_of_ble_eq_true rfl)
  rw [lg_entry_eq]
  generalize (lg_sl ([.ref q1, .int ia, .int ib, .int ic, .int id]) ++ List.replicate (5 - (lg_sl ([.ref q1, .int ia, .int ib, .int ic, .int id])).length) Slot.unset).toArray = ls at hl ⊢
  have hl : lv_has ls 5 [(0, .ref q1), (1, .int ia), (2, .int ib), (3, .int ic), (4, .int id)] := hl
  refine lv_aload_n hx hb dX2_anySame_0 rfl (lv_at hl 0 rfl) ?_
  refine lv_iload_n hx hb dX2_anySame_1 rfl (lv_at hl 1 rfl) ?_
  refine lv_iload_n hx hb dX2_anySame_2 rfl (lv_at hl 2 rfl) ?_
  refine xr_V (q := (RX2, TX2, 3)) (ci := 6) (q0 := 0) (rest := []) (As := [.int ia, .int ib]) ⟨hx, hb, hml, hown, hts⟩ (ct2_same l D q1 q2 q3 kI xs ys pm ia ib oia oib) (cwV 2 hts gl_X2_26 rfl rfl rfl (by decide +kernel) ⟨Nat.le_of_ble_eq_true rfl, Nat.le_of_ble_eq_true rfl⟩) nN_mv hN hK hP [0, 1, 2] [0] rfl rfl rfl rfl rfl hl.1 rfl (Nat.le_of_ble_eq_true rfl) dX2_anySame_3 ⟨Nat.le_of_ble_eq_true rfl, Nat.le_of_ble_eq_true rfl⟩ ?_
  refine lv_if_ne (tgt := 57) hx hb dX2_anySame_6 (by decide) (fun c1 => ?_) (fun c1 => ?_)
  · refine lv_iconst (v := 1) hx hb dX2_anySame_57 (by decide) ?_
    refine lv_goto (tgt := 62) hx hb dX2_anySame_58 (by decide) ?_
    exact W.zret (v := (1 : Int32)) hx hb hr rfl (fun t ht hW => ⟨by rw [show fX2_anySame xs ys ia ib ic id = (1 : Int32) by unfold fX2_anySame; rw [if_neg c1]], ht⟩) (fun _ h => absurd h List.not_mem_nil) dX2_anySame_62
  · refine lv_aload_n hx hb dX2_anySame_9 rfl (lv_at hl 0 rfl) ?_
    refine lv_iload_n hx hb dX2_anySame_10 rfl (lv_at hl 1 rfl) ?_
    refine lv_iload_n hx hb dX2_anySame_11 rfl (lv_at hl 3 rfl) ?_
    refine xr_V (q := (RX2, TX2, 3)) (ci := 6) (q0 := 0) (rest := []) (As := [.int ia, .int ic]) ⟨hx, hb, hml, hown, hts⟩ (ct2_same l D q1 q2 q3 kI xs ys pm ia ic oia oic) (cwV 2 hts gl_X2_26 rfl rfl rfl (by decide +kernel) ⟨Nat.le_of_ble_eq_true rfl, Nat.le_of_ble_eq_true rfl⟩) nN_mv hN hK hP [0, 1, 2] [0] rfl rfl rfl rfl rfl hl.1 rfl (Nat.le_of_ble_eq_true rfl) dX2_anySame_12 ⟨Nat.le_of_ble_eq_true rfl, Nat.le_of_ble_eq_true rfl⟩ ?_
    refine lv_if_ne (tgt := 57) hx hb dX2_anySame_15 (by decide) (fun c2 => ?_) (fun c2 => ?_)
    · refine lv_iconst (v := 1) hx hb dX2_anySame_57 (by decide) ?_
      refine lv_goto (tgt := 62) hx hb dX2_anySame_58 (by decide) ?_
      exact W.zret (v := (1 : Int32)) hx hb hr rfl (fun t ht hW => ⟨by rw [show fX2_anySame xs ys ia ib ic id = (1 : Int32) by unfold fX2_anySame; rw [if_pos c1, if_neg c2]], ht⟩) (fun _ h => absurd h List.not_mem_nil) dX2_anySame_62
    · refine lv_aload_n hx hb dX2_anySame_18 rfl (lv_at hl 0 rfl) ?_
      refine lv_iload_n hx hb dX2_anySame_19 rfl (lv_at hl 1 rfl) ?_
      refine lv_iload hx hb dX2_anySame_20 (lv_at hl 4 rfl) ?_
      refine xr_V (q := (RX2, TX2, 3)) (ci := 6) (q0 := 0) (rest := []) (As := [.int ia, .int id]) ⟨hx, hb, hml, hown, hts⟩ (ct2_same l D q1 q2 q3 kI xs ys pm ia id oia oid) (cwV 2 hts gl_X2_26 rfl rfl rfl (by decide +kernel) ⟨Nat.le_of_ble_eq_true rfl, Nat.le_of_ble_eq_true rfl⟩) nN_mv hN hK hP [0, 1, 2] [0] rfl rfl rfl rfl rfl hl.1 rfl (Nat.le_of_ble_eq_true rfl) dX2_anySame_22 ⟨Nat.le_of_ble_eq_true rfl, Nat.le_of_ble_eq_true rfl⟩ ?_
      refine lv_if_ne (tgt := 57) hx hb dX2_anySame_25 (by decide) (fun c3 => ?_) (fun c3 => ?_)
      · refine lv_iconst (v := 1) hx hb dX2_anySame_57 (by decide) ?_
        refine lv_goto (tgt := 62) hx hb dX2_anySame_58 (by decide) ?_
        exact W.zret (v := (1 : Int32)) hx hb hr rfl (fun t ht hW => ⟨by rw [show fX2_anySame xs ys ia ib ic id = (1 : Int32) by unfold fX2_anySame; rw [if_pos c1, if_pos c2, if_neg c3]], ht⟩) (fun _ h => absurd h List.not_mem_nil) dX2_anySame_62
      · refine lv_aload_n hx hb dX2_anySame_28 rfl (lv_at hl 0 rfl) ?_
        refine lv_iload_n hx hb dX2_anySame_29 rfl (lv_at hl 2 rfl) ?_
        refine lv_iload_n hx hb dX2_anySame_30 rfl (lv_at hl 3 rfl) ?_
        refine xr_V (q := (RX2, TX2, 3)) (ci := 6) (q0 := 0) (rest := []) (As := [.int ib, .int ic]) ⟨hx, hb, hml, hown, hts⟩ (ct2_same l D q1 q2 q3 kI xs ys pm ib ic oib oic) (cwV 2 hts gl_X2_26 rfl rfl rfl (by decide +kernel) ⟨Nat.le_of_ble_eq_true rfl, Nat.le_of_ble_eq_true rfl⟩) nN_mv hN hK hP [0, 1, 2] [0] rfl rfl rfl rfl rfl hl.1 rfl (Nat.le_of_ble_eq_true rfl) dX2_anySame_31 ⟨Nat.le_of_ble_eq_true rfl, Nat.le_of_ble_eq_true rfl⟩ ?_
        refine lv_if_ne (tgt := 57) hx hb dX2_anySame_34 (by decide) (fun c4 => ?_) (fun c4 => ?_)
        · refine lv_iconst (v := 1) hx hb dX2_anySame_57 (by decide) ?_
          refine lv_goto (tgt := 62) hx hb dX2_anySame_58 (by decide) ?_
          exact W.zret (v := (1 : Int32)) hx hb hr rfl (fun t ht hW => ⟨by rw [show fX2_anySame xs ys ia ib ic id = (1 : Int32) by unfold fX2_anySame; rw [if_pos c1, if_pos c2, if_pos c3, if_neg c4]], ht⟩) (fun _ h => absurd h List.not_mem_nil) dX2_anySame_62
        · refine lv_aload_n hx hb dX2_anySame_37 rfl (lv_at hl 0 rfl) ?_
          refine lv_iload_n hx hb dX2_anySame_38 rfl (lv_at hl 2 rfl) ?_
          refine lv_iload hx hb dX2_anySame_39 (lv_at hl 4 rfl) ?_
          refine xr_V (q := (RX2, TX2, 3)) (ci := 6) (q0 := 0) (rest := []) (As := [.int ib, .int id]) ⟨hx, hb, hml, hown, hts⟩ (ct2_same l D q1 q2 q3 kI xs ys pm ib id oib oid) (cwV 2 hts gl_X2_26 rfl rfl rfl (by decide +kernel) ⟨Nat.le_of_ble_eq_true rfl, Nat.le_of_ble_eq_true rfl⟩) nN_mv hN hK hP [0, 1, 2] [0] rfl rfl rfl rfl rfl hl.1 rfl (Nat.le_of_ble_eq_true rfl) dX2_anySame_41 ⟨Nat.le_of_ble_eq_true rfl, Nat.le_of_ble_eq_true rfl⟩ ?_
          refine lv_if_ne (tgt := 57) hx hb dX2_anySame_44 (by decide) (fun c5 => ?_) (fun c5 => ?_)
          · refine lv_iconst (v := 1) hx hb dX2_anySame_57 (by decide) ?_
            refine lv_goto (tgt := 62) hx hb dX2_anySame_58 (by decide) ?_
            exact W.zret (v := (1 : Int32)) hx hb hr rfl (fun t ht hW => ⟨by rw [show fX2_anySame xs ys ia ib ic id = (1 : Int32) by unfold fX2_anySame; rw [if_pos c1, if_pos c2, if_pos c3, if_pos c4, if_neg c5]], ht⟩) (fun _ h => absurd h List.not_mem_nil) dX2_anySame_62
          · refine lv_aload_n hx hb dX2_anySame_47 rfl (lv_at hl 0 rfl) ?_
            refine lv_iload_n hx hb dX2_anySame_48 rfl (lv_at hl 3 rfl) ?_
            refine lv_iload hx hb dX2_anySame_49 (lv_at hl 4 rfl) ?_
            refine xr_V (q := (RX2, TX2, 3)) (ci := 6) (q0 := 0) (rest := []) (As := [.int ic, .int id]) ⟨hx, hb, hml, hown, hts⟩ (ct2_same l D q1 q2 q3 kI xs ys pm ic id oic oid) (cwV 2 hts gl_X2_26 rfl rfl rfl (by decide +kernel) ⟨Nat.le_of_ble_eq_true rfl, Nat.le_of_ble_eq_true rfl⟩) nN_mv hN hK hP [0, 1, 2] [0] rfl rfl rfl rfl rfl hl.1 rfl (Nat.le_of_ble_eq_true rfl) dX2_anySame_51 ⟨Nat.le_of_ble_eq_true rfl, Nat.le_of_ble_eq_true rfl⟩ ?_
            refine lv_if_eq (tgt := 61) hx hb dX2_anySame_54 (by decide) (fun c6 => ?_) (fun c6 => ?_)
            · refine lv_iconst (v := 0) hx hb dX2_anySame_61 (by decide) ?_
              exact W.zret (v := (0 : Int32)) hx hb hr rfl (fun t ht hW => ⟨by rw [show fX2_anySame xs ys ia ib ic id = (0 : Int32) by unfold fX2_anySame; rw [if_pos c1, if_pos c2, if_pos c3, if_pos c4, if_pos c5, if_pos c6]], ht⟩) (fun _ h => absurd h List.not_mem_nil) dX2_anySame_62
            · refine lv_iconst (v := 1) hx hb dX2_anySame_57 (by decide) ?_
              refine lv_goto (tgt := 62) hx hb dX2_anySame_58 (by decide) ?_
              exact W.zret (v := (1 : Int32)) hx hb hr rfl (fun t ht hW => ⟨by rw [show fX2_anySame xs ys ia ib ic id = (1 : Int32) by unfold fX2_anySame; rw [if_pos c1, if_pos c2, if_pos c3, if_pos c4, if_pos c5, if_neg c6]], ht⟩) (fun _ h => absurd h List.not_mem_nil) dX2_anySame_62
def fX2_turn (xs ys : Nat → Int32) (ia : Int32) (ib : Int32) (ic : Int32) : Int32 := fX4_signOf (((((xs ib.toNatClampNeg) - (xs ia.toNatClampNeg)).toInt64) * (((ys ic.toNatClampNeg) - (ys ia.toNatClampNeg)).toInt64)) - ((((ys ib.toNatClampNeg) - (ys ia.toNatClampNeg)).toInt64) * (((xs ic.toNatClampNeg) - (xs ia.toNatClampNeg)).toInt64)))
set_option maxHeartbeats 4000000 in
set_option maxRecDepth 100000 in
theorem ct2_turn (l : Launch) (D : va_G) (q1 q2 q3 : Nat) (kI : ClassId) (xs ys : Nat → Int32) (pm : Int32) (ia : Int32) (ib : Int32) (ic : Int32) (oia : vp_in ia 60) (oib : vp_in ib 60) (oic : vp_in ic 60) : Met l yX2_turn (Cond.code yX2_turn cX2_turn 8 (some .int) :: BX) ({ frames := 1, cells := 0, slots := 0, locals := 60 }) (xr_P nN D vwCl [(kI, .int)] (wPl q1 q2 q3 kI xs ys pm) [.ref q1, .int ia, .int ib, .int ic]) (xr_Q (.int (fX2_turn xs ys ia ib ic))) 0 0 (fun _ => False) := by
  refine Met.ofW (cc := cX2_turn) (maxL := 8) (ret := (some .int)) (by decide) rfl ?_
  intro p e s m args below meth c s₁ B hml hv
  obtain ⟨rfl, hP, hK, hN⟩ := hv
  have hx := B.exec
  have hb := B.bytes
  have hr := B.returns
  have hts0 := atoms_spec (ws := Cond.code yX2_turn cX2_turn 8 (some .int) :: BX) B.pre
  have hts : ∀ w ∈ BX, w.before _ s = true := fun w h => hts0 w (List.mem_cons_of_mem _ h)
  have hown : s.vm.findClass RX2 = some m.cls := findClass_of_methodNamed B.named
  have hlocks := B.notSynchronized
  have hl := lv_entry ([.ref q1, .int ia, .int ib, .int ic]) (n := 8) (Nat.le_of_ble_eq_true rfl)
  rw [lg_entry_eq]
  generalize (lg_sl ([.ref q1, .int ia, .int ib, .int ic]) ++ List.replicate (8 - (lg_sl ([.ref q1, .int ia, .int ib, .int ic])).length) Slot.unset).toArray = ls at hl ⊢
  have hl : lv_has ls 8 [(0, .ref q1), (1, .int ia), (2, .int ib), (3, .int ic)] := hl
  refine lv_aload_n hx hb dX2_turn_0 rfl (lv_at hl 0 rfl) ?_
  refine va_get (D := D) (ci := 6) (v := .ref q2) (C := RX2) (T := TX2) (N := 3) hx hb hts hinX2 hown hK hP 0 rfl rfl 0 (by decide) (hts _ fk_X2_9) (fun _ h9 => h9) rfl dX2_turn_1 ?_
  refine lv_iload_n hx hb dX2_turn_4 rfl (lv_at hl 2 rfl) ?_
  refine va_iald hx hb hK hP 1 0 rfl rfl oib dX2_turn_5 ?_
  refine lv_aload_n hx hb dX2_turn_6 rfl (lv_at hl 0 rfl) ?_
  refine va_get (D := D) (ci := 6) (v := .ref q2) (C := RX2) (T := TX2) (N := 3) hx hb hts hinX2 hown hK hP 0 rfl rfl 0 (by decide) (hts _ fk_X2_9) (fun _ h9 => h9) rfl dX2_turn_7 ?_
  refine lv_iload_n hx hb dX2_turn_10 rfl (lv_at hl 1 rfl) ?_
  refine va_iald hx hb hK hP 1 0 rfl rfl oia dX2_turn_11 ?_
  refine lv_isub hx hb dX2_turn_12 ?_
  refine lv_i2l hx hb dX2_turn_13 rfl ?_
  refine lv_aload_n hx hb dX2_turn_14 rfl (lv_at hl 0 rfl) ?_
  refine va_get (D := D) (ci := 6) (v := .ref q3) (C := RX2) (T := TX2) (N := 3) hx hb hts hinX2 hown hK hP 0 rfl rfl 1 (by decide) (hts _ fk_X2_15) (fun _ h9 => h9) rfl dX2_turn_15 ?_
  refine lv_iload_n hx hb dX2_turn_18 rfl (lv_at hl 3 rfl) ?_
  refine va_iald hx hb hK hP 2 0 rfl rfl oic dX2_turn_19 ?_
  refine lv_aload_n hx hb dX2_turn_20 rfl (lv_at hl 0 rfl) ?_
  refine va_get (D := D) (ci := 6) (v := .ref q3) (C := RX2) (T := TX2) (N := 3) hx hb hts hinX2 hown hK hP 0 rfl rfl 1 (by decide) (hts _ fk_X2_15) (fun _ h9 => h9) rfl dX2_turn_21 ?_
  refine lv_iload_n hx hb dX2_turn_24 rfl (lv_at hl 1 rfl) ?_
  refine va_iald hx hb hK hP 2 0 rfl rfl oia dX2_turn_25 ?_
  refine lv_isub hx hb dX2_turn_26 ?_
  refine lv_i2l hx hb dX2_turn_27 rfl ?_
  refine lv_lmul hx hb dX2_turn_28 ?_
  refine lv_topl (fun z1 ez1 => ?_)
  refine lv_lstore (lv' := [(4, .long z1), (0, .ref q1), (1, .int ia), (2, .int ib), (3, .int ic)]) hx hb dX2_turn_29 hl (by decide) rfl (fun ls hl => ?_)
  refine lv_aload_n hx hb dX2_turn_31 rfl (lv_at hl 1 rfl) ?_
  refine va_get (D := D) (ci := 6) (v := .ref q3) (C := RX2) (T := TX2) (N := 3) hx hb hts hinX2 hown hK hP 0 rfl rfl 1 (by decide) (hts _ fk_X2_15) (fun _ h9 => h9) rfl dX2_turn_32 ?_
  refine lv_iload_n hx hb dX2_turn_35 rfl (lv_at hl 3 rfl) ?_
  refine va_iald hx hb hK hP 2 0 rfl rfl oib dX2_turn_36 ?_
  refine lv_aload_n hx hb dX2_turn_37 rfl (lv_at hl 1 rfl) ?_
  refine va_get (D := D) (ci := 6) (v := .ref q3) (C := RX2) (T := TX2) (N := 3) hx hb hts hinX2 hown hK hP 0 rfl rfl 1 (by decide) (hts _ fk_X2_15) (fun _ h9 => h9) rfl dX2_turn_38 ?_
  refine lv_iload_n hx hb dX2_turn_41 rfl (lv_at hl 2 rfl) ?_
  refine va_iald hx hb hK hP 2 0 rfl rfl oia dX2_turn_42 ?_
  refine lv_isub hx hb dX2_turn_43 ?_
  refine lv_i2l hx hb dX2_turn_44 rfl ?_
  refine lv_aload_n hx hb dX2_turn_45 rfl (lv_at hl 1 rfl) ?_
  refine va_get (D := D) (ci := 6) (v := .ref q2) (C := RX2) (T := TX2) (N := 3) hx hb hts hinX2 hown hK hP 0 rfl rfl 0 (by decide) (hts _ fk_X2_9) (fun _ h9 => h9) rfl dX2_turn_46 ?_
  refine lv_iload_n hx hb dX2_turn_49 rfl (lv_at hl 4 rfl) ?_
  refine va_iald hx hb hK hP 1 0 rfl rfl oic dX2_turn_50 ?_
  refine lv_aload_n hx hb dX2_turn_51 rfl (lv_at hl 1 rfl) ?_
  refine va_get (D := D) (ci := 6) (v := .ref q2) (C := RX2) (T := TX2) (N := 3) hx hb hts hinX2 hown hK hP 0 rfl rfl 0 (by decide) (hts _ fk_X2_9) (fun _ h9 => h9) rfl dX2_turn_52 ?_
  refine lv_iload_n hx hb dX2_turn_55 rfl (lv_at hl 2 rfl) ?_
  refine va_iald hx hb hK hP 1 0 rfl rfl oia dX2_turn_56 ?_
  refine lv_isub hx hb dX2_turn_57 ?_
  refine lv_i2l hx hb dX2_turn_58 rfl ?_
  refine lv_lmul hx hb dX2_turn_59 ?_
  refine lv_topl (fun z2 ez2 => ?_)
  refine lv_lstore (lv' := [(6, .long z2), (4, .long z1), (0, .ref q1), (1, .int ia), (2, .int ib), (3, .int ic)]) hx hb dX2_turn_60 hl (by decide) rfl (fun ls hl => ?_)
  refine lv_lload hx hb dX2_turn_62 (lv_at hl 1 rfl) ?_
  refine lv_lload hx hb dX2_turn_64 (lv_at hl 0 rfl) ?_
  refine lv_lsub hx hb dX2_turn_66 ?_
  refine xr_SN (rest := []) (As := [.long (z1 - z2)]) ⟨hx, hb, hml, hown, hts⟩ (ct4_signOf l D  (z1 - z2) ) ⟨va_cnB 1 hts (gdC (bx1 gc_X4_signOf)) rfl rfl rfl hN.1 (hts _ ini_X4) (by decide +kernel) ⟨Nat.le_of_ble_eq_true rfl, Nat.le_of_ble_eq_true rfl⟩, hts _ st_X4_signOf, trivial⟩ nN_mv hN hK hP [] [] rfl rfl rfl hl.1 rfl (Nat.le_of_ble_eq_true rfl) dX2_turn_67 ⟨Nat.le_of_ble_eq_true rfl, Nat.le_of_ble_eq_true rfl⟩ ?_
  subst ez2 ez1
  exact W.iret (v := fX4_signOf (((((xs ib.toNatClampNeg) - (xs ia.toNatClampNeg)).toInt64) * (((ys ic.toNatClampNeg) - (ys ia.toNatClampNeg)).toInt64)) - ((((ys ib.toNatClampNeg) - (ys ia.toNatClampNeg)).toInt64) * (((xs ic.toNatClampNeg) - (xs ia.toNatClampNeg)).toInt64)))) hx hb hr (fun t ht hW => ⟨rfl, ht⟩) (fun _ h => absurd h List.not_mem_nil) dX2_turn_70
def fX2_lift (xs ys : Nat → Int32) (ia : Int32) (ib : Int32) (ic : Int32) (id : Int32) : Int32 := fX4_signOf ((((((((xs ia.toNatClampNeg) - (xs id.toNatClampNeg)).toInt64) * (((xs ia.toNatClampNeg) - (xs id.toNatClampNeg)).toInt64)) + ((((ys ia.toNatClampNeg) - (ys id.toNatClampNeg)).toInt64) * (((ys ia.toNatClampNeg) - (ys id.toNatClampNeg)).toInt64))) * (((((xs ib.toNatClampNeg) - (xs id.toNatClampNeg)).toInt64) * (((ys ic.toNatClampNeg) - (ys id.toNatClampNeg)).toInt64)) - ((((ys ib.toNatClampNeg) - (ys id.toNatClampNeg)).toInt64) * (((xs ic.toNatClampNeg) - (xs id.toNatClampNeg)).toInt64)))) + ((((((xs ib.toNatClampNeg) - (xs id.toNatClampNeg)).toInt64) * (((xs ib.toNatClampNeg) - (xs id.toNatClampNeg)).toInt64)) + ((((ys ib.toNatClampNeg) - (ys id.toNatClampNeg)).toInt64) * (((ys ib.toNatClampNeg) - (ys id.toNatClampNeg)).toInt64))) * (((((xs ic.toNatClampNeg) - (xs id.toNatClampNeg)).toInt64) * (((ys ia.toNatClampNeg) - (ys id.toNatClampNeg)).toInt64)) - ((((ys ic.toNatClampNeg) - (ys id.toNatClampNeg)).toInt64) * (((xs ia.toNatClampNeg) - (xs id.toNatClampNeg)).toInt64))))) + ((((((xs ic.toNatClampNeg) - (xs id.toNatClampNeg)).toInt64) * (((xs ic.toNatClampNeg) - (xs id.toNatClampNeg)).toInt64)) + ((((ys ic.toNatClampNeg) - (ys id.toNatClampNeg)).toInt64) * (((ys ic.toNatClampNeg) - (ys id.toNatClampNeg)).toInt64))) * (((((xs ia.toNatClampNeg) - (xs id.toNatClampNeg)).toInt64) * (((ys ib.toNatClampNeg) - (ys id.toNatClampNeg)).toInt64)) - ((((ys ia.toNatClampNeg) - (ys id.toNatClampNeg)).toInt64) * (((xs ib.toNatClampNeg) - (xs id.toNatClampNeg)).toInt64)))))
set_option maxHeartbeats 4000000 in
set_option maxRecDepth 100000 in
theorem ct2_lift (l : Launch) (D : va_G) (q1 q2 q3 : Nat) (kI : ClassId) (xs ys : Nat → Int32) (pm : Int32) (ia : Int32) (ib : Int32) (ic : Int32) (id : Int32) (oia : vp_in ia 60) (oib : vp_in ib 60) (oic : vp_in ic 60) (oid : vp_in id 60) : Met l yX2_lift (Cond.code yX2_lift cX2_lift 23 (some .int) :: BX) ({ frames := 1, cells := 0, slots := 0, locals := 60 }) (xr_P nN D vwCl [(kI, .int)] (wPl q1 q2 q3 kI xs ys pm) [.ref q1, .int ia, .int ib, .int ic, .int id]) (xr_Q (.int (fX2_lift xs ys ia ib ic id))) 0 0 (fun _ => False) := by
  refine Met.ofW (cc := cX2_lift) (maxL := 23) (ret := (some .int)) (by decide) rfl ?_
  intro p e s m args below meth c s₁ B hml hv
  obtain ⟨rfl, hP, hK, hN⟩ := hv
  have hx := B.exec
  have hb := B.bytes
  have hr := B.returns
  have hts0 := atoms_spec (ws := Cond.code yX2_lift cX2_lift 23 (some .int) :: BX) B.pre
  have hts : ∀ w ∈ BX, w.before _ s = true := fun w h => hts0 w (List.mem_cons_of_mem _ h)
  have hown : s.vm.findClass RX2 = some m.cls := findClass_of_methodNamed B.named
  have hlocks := B.notSynchronized
  have hl := lv_entry ([.ref q1, .int ia, .int ib, .int ic, .int id]) (n := 23) (Nat.le_of_ble_eq_true rfl)
  rw [lg_entry_eq]
  generalize (lg_sl ([.ref q1, .int ia, .int ib, .int ic, .int id]) ++ List.replicate (23 - (lg_sl ([.ref q1, .int ia, .int ib, .int ic, .int id])).length) Slot.unset).toArray = ls at hl ⊢
  have hl : lv_has ls 23 [(0, .ref q1), (1, .int ia), (2, .int ib), (3, .int ic), (4, .int id)] := hl
  refine lv_aload_n hx hb dX2_lift_0 rfl (lv_at hl 0 rfl) ?_
  refine va_get (D := D) (ci := 6) (v := .ref q2) (C := RX2) (T := TX2) (N := 3) hx hb hts hinX2 hown hK hP 0 rfl rfl 0 (by decide) (hts _ fk_X2_9) (fun _ h9 => h9) rfl dX2_lift_1 ?_
  refine lv_iload_n hx hb dX2_lift_4 rfl (lv_at hl 1 rfl) ?_
  refine va_iald hx hb hK hP 1 0 rfl rfl oia dX2_lift_5 ?_
  refine lv_aload_n hx hb dX2_lift_6 rfl (lv_at hl 0 rfl) ?_
  refine va_get (D := D) (ci := 6) (v := .ref q2) (C := RX2) (T := TX2) (N := 3) hx hb hts hinX2 hown hK hP 0 rfl rfl 0 (by decide) (hts _ fk_X2_9) (fun _ h9 => h9) rfl dX2_lift_7 ?_
  refine lv_iload hx hb dX2_lift_10 (lv_at hl 4 rfl) ?_
  refine va_iald hx hb hK hP 1 0 rfl rfl oid dX2_lift_12 ?_
  refine lv_isub hx hb dX2_lift_13 ?_
  refine lv_i2l hx hb dX2_lift_14 rfl ?_
  refine lv_topl (fun z1 ez1 => ?_)
  refine lv_lstore (lv' := [(5, .long z1), (0, .ref q1), (1, .int ia), (2, .int ib), (3, .int ic), (4, .int id)]) hx hb dX2_lift_15 hl (by decide) rfl (fun ls hl => ?_)
  refine lv_aload_n hx hb dX2_lift_17 rfl (lv_at hl 1 rfl) ?_
  refine va_get (D := D) (ci := 6) (v := .ref q3) (C := RX2) (T := TX2) (N := 3) hx hb hts hinX2 hown hK hP 0 rfl rfl 1 (by decide) (hts _ fk_X2_15) (fun _ h9 => h9) rfl dX2_lift_18 ?_
  refine lv_iload_n hx hb dX2_lift_21 rfl (lv_at hl 2 rfl) ?_
  refine va_iald hx hb hK hP 2 0 rfl rfl oia dX2_lift_22 ?_
  refine lv_aload_n hx hb dX2_lift_23 rfl (lv_at hl 1 rfl) ?_
  refine va_get (D := D) (ci := 6) (v := .ref q3) (C := RX2) (T := TX2) (N := 3) hx hb hts hinX2 hown hK hP 0 rfl rfl 1 (by decide) (hts _ fk_X2_15) (fun _ h9 => h9) rfl dX2_lift_24 ?_
  refine lv_iload hx hb dX2_lift_27 (lv_at hl 5 rfl) ?_
  refine va_iald hx hb hK hP 2 0 rfl rfl oid dX2_lift_29 ?_
  refine lv_isub hx hb dX2_lift_30 ?_
  refine lv_i2l hx hb dX2_lift_31 rfl ?_
  refine lv_topl (fun z2 ez2 => ?_)
  refine lv_lstore (lv' := [(7, .long z2), (5, .long z1), (0, .ref q1), (1, .int ia), (2, .int ib), (3, .int ic), (4, .int id)]) hx hb dX2_lift_32 hl (by decide) rfl (fun ls hl => ?_)
  refine lv_aload_n hx hb dX2_lift_34 rfl (lv_at hl 2 rfl) ?_
  refine va_get (D := D) (ci := 6) (v := .ref q2) (C := RX2) (T := TX2) (N := 3) hx hb hts hinX2 hown hK hP 0 rfl rfl 0 (by decide) (hts _ fk_X2_9) (fun _ h9 => h9) rfl dX2_lift_35 ?_
  refine lv_iload_n hx hb dX2_lift_38 rfl (lv_at hl 4 rfl) ?_
  refine va_iald hx hb hK hP 1 0 rfl rfl oib dX2_lift_39 ?_
  refine lv_aload_n hx hb dX2_lift_40 rfl (lv_at hl 2 rfl) ?_
  refine va_get (D := D) (ci := 6) (v := .ref q2) (C := RX2) (T := TX2) (N := 3) hx hb hts hinX2 hown hK hP 0 rfl rfl 0 (by decide) (hts _ fk_X2_9) (fun _ h9 => h9) rfl dX2_lift_41 ?_
  refine lv_iload hx hb dX2_lift_44 (lv_at hl 6 rfl) ?_
  refine va_iald hx hb hK hP 1 0 rfl rfl oid dX2_lift_46 ?_
  refine lv_isub hx hb dX2_lift_47 ?_
  refine lv_i2l hx hb dX2_lift_48 rfl ?_
  refine lv_topl (fun z3 ez3 => ?_)
  refine lv_lstore (lv' := [(9, .long z3), (7, .long z2), (5, .long z1), (0, .ref q1), (1, .int ia), (2, .int ib), (3, .int ic), (4, .int id)]) hx hb dX2_lift_49 hl (by decide) rfl (fun ls hl => ?_)
  refine lv_aload_n hx hb dX2_lift_51 rfl (lv_at hl 3 rfl) ?_
  refine va_get (D := D) (ci := 6) (v := .ref q3) (C := RX2) (T := TX2) (N := 3) hx hb hts hinX2 hown hK hP 0 rfl rfl 1 (by decide) (hts _ fk_X2_15) (fun _ h9 => h9) rfl dX2_lift_52 ?_
  refine lv_iload_n hx hb dX2_lift_55 rfl (lv_at hl 5 rfl) ?_
  refine va_iald hx hb hK hP 2 0 rfl rfl oib dX2_lift_56 ?_
  refine lv_aload_n hx hb dX2_lift_57 rfl (lv_at hl 3 rfl) ?_
  refine va_get (D := D) (ci := 6) (v := .ref q3) (C := RX2) (T := TX2) (N := 3) hx hb hts hinX2 hown hK hP 0 rfl rfl 1 (by decide) (hts _ fk_X2_15) (fun _ h9 => h9) rfl dX2_lift_58 ?_
  refine lv_iload hx hb dX2_lift_61 (lv_at hl 7 rfl) ?_
  refine va_iald hx hb hK hP 2 0 rfl rfl oid dX2_lift_63 ?_
  refine lv_isub hx hb dX2_lift_64 ?_
  refine lv_i2l hx hb dX2_lift_65 rfl ?_
  refine lv_topl (fun z4 ez4 => ?_)
  refine lv_lstore (lv' := [(11, .long z4), (9, .long z3), (7, .long z2), (5, .long z1), (0, .ref q1), (1, .int ia), (2, .int ib), (3, .int ic), (4, .int id)]) hx hb dX2_lift_66 hl (by decide) rfl (fun ls hl => ?_)
  refine lv_aload_n hx hb dX2_lift_68 rfl (lv_at hl 4 rfl) ?_
  refine va_get (D := D) (ci := 6) (v := .ref q2) (C := RX2) (T := TX2) (N := 3) hx hb hts hinX2 hown hK hP 0 rfl rfl 0 (by decide) (hts _ fk_X2_9) (fun _ h9 => h9) rfl dX2_lift_69 ?_
  refine lv_iload_n hx hb dX2_lift_72 rfl (lv_at hl 7 rfl) ?_
  refine va_iald hx hb hK hP 1 0 rfl rfl oic dX2_lift_73 ?_
  refine lv_aload_n hx hb dX2_lift_74 rfl (lv_at hl 4 rfl) ?_
  refine va_get (D := D) (ci := 6) (v := .ref q2) (C := RX2) (T := TX2) (N := 3) hx hb hts hinX2 hown hK hP 0 rfl rfl 0 (by decide) (hts _ fk_X2_9) (fun _ h9 => h9) rfl dX2_lift_75 ?_
  refine lv_iload hx hb dX2_lift_78 (lv_at hl 8 rfl) ?_
  refine va_iald hx hb hK hP 1 0 rfl rfl oid dX2_lift_80 ?_
  refine lv_isub hx hb dX2_lift_81 ?_
  refine lv_i2l hx hb dX2_lift_82 rfl ?_
  refine lv_topl (fun z5 ez5 => ?_)
  refine lv_lstore (lv' := [(13, .long z5), (11, .long z4), (9, .long z3), (7, .long z2), (5, .long z1), (0, .ref q1), (1, .int ia), (2, .int ib), (3, .int ic), (4, .int id)]) hx hb dX2_lift_83 hl (by decide) rfl (fun ls hl => ?_)
  refine lv_aload_n hx hb dX2_lift_85 rfl (lv_at hl 5 rfl) ?_
  refine va_get (D := D) (ci := 6) (v := .ref q3) (C := RX2) (T := TX2) (N := 3) hx hb hts hinX2 hown hK hP 0 rfl rfl 1 (by decide) (hts _ fk_X2_15) (fun _ h9 => h9) rfl dX2_lift_86 ?_
  refine lv_iload_n hx hb dX2_lift_89 rfl (lv_at hl 8 rfl) ?_
  refine va_iald hx hb hK hP 2 0 rfl rfl oic dX2_lift_90 ?_
  refine lv_aload_n hx hb dX2_lift_91 rfl (lv_at hl 5 rfl) ?_
  refine va_get (D := D) (ci := 6) (v := .ref q3) (C := RX2) (T := TX2) (N := 3) hx hb hts hinX2 hown hK hP 0 rfl rfl 1 (by decide) (hts _ fk_X2_15) (fun _ h9 => h9) rfl dX2_lift_92 ?_
  refine lv_iload hx hb dX2_lift_95 (lv_at hl 9 rfl) ?_
  refine va_iald hx hb hK hP 2 0 rfl rfl oid dX2_lift_97 ?_
  refine lv_isub hx hb dX2_lift_98 ?_
  refine lv_i2l hx hb dX2_lift_99 rfl ?_
  refine lv_topl (fun z6 ez6 => ?_)
  refine lv_lstore (lv' := [(15, .long z6), (13, .long z5), (11, .long z4), (9, .long z3), (7, .long z2), (5, .long z1), (0, .ref q1), (1, .int ia), (2, .int ib), (3, .int ic), (4, .int id)]) hx hb dX2_lift_100 hl (by decide) rfl (fun ls hl => ?_)
  refine lv_lload hx hb dX2_lift_102 (lv_at hl 5 rfl) ?_
  refine lv_lload hx hb dX2_lift_104 (lv_at hl 5 rfl) ?_
  refine lv_lmul hx hb dX2_lift_106 ?_
  refine lv_lload hx hb dX2_lift_107 (lv_at hl 4 rfl) ?_
  refine lv_lload hx hb dX2_lift_109 (lv_at hl 4 rfl) ?_
  refine lv_lmul hx hb dX2_lift_111 ?_
  refine lv_ladd hx hb dX2_lift_112 ?_
  refine lv_lstore (lv' := [(17, .long ((z1 * z1) + (z2 * z2))), (15, .long z6), (13, .long z5), (11, .long z4), (9, .long z3), (7, .long z2), (5, .long z1), (0, .ref q1), (1, .int ia), (2, .int ib), (3, .int ic), (4, .int id)]) hx hb dX2_lift_113 hl (by decide) rfl (fun ls hl => ?_)
  refine lv_lload hx hb dX2_lift_115 (lv_at hl 4 rfl) ?_
  refine lv_lload hx hb dX2_lift_117 (lv_at hl 4 rfl) ?_
  refine lv_lmul hx hb dX2_lift_119 ?_
  refine lv_lload hx hb dX2_lift_120 (lv_at hl 3 rfl) ?_
  refine lv_lload hx hb dX2_lift_122 (lv_at hl 3 rfl) ?_
  refine lv_lmul hx hb dX2_lift_124 ?_
  refine lv_ladd hx hb dX2_lift_125 ?_
  refine lv_lstore (lv' := [(19, .long ((z3 * z3) + (z4 * z4))), (17, .long ((z1 * z1) + (z2 * z2))), (15, .long z6), (13, .long z5), (11, .long z4), (9, .long z3), (7, .long z2), (5, .long z1), (0, .ref q1), (1, .int ia), (2, .int ib), (3, .int ic), (4, .int id)]) hx hb dX2_lift_126 hl (by decide) rfl (fun ls hl => ?_)
  refine lv_lload hx hb dX2_lift_128 (lv_at hl 3 rfl) ?_
  refine lv_lload hx hb dX2_lift_130 (lv_at hl 3 rfl) ?_
  refine lv_lmul hx hb dX2_lift_132 ?_
  refine lv_lload hx hb dX2_lift_133 (lv_at hl 2 rfl) ?_
  refine lv_lload hx hb dX2_lift_135 (lv_at hl 2 rfl) ?_
  refine lv_lmul hx hb dX2_lift_137 ?_
  refine lv_ladd hx hb dX2_lift_138 ?_
  refine lv_lstore (lv' := [(21, .long ((z5 * z5) + (z6 * z6))), (19, .long ((z3 * z3) + (z4 * z4))), (17, .long ((z1 * z1) + (z2 * z2))), (15, .long z6), (13, .long z5), (11, .long z4), (9, .long z3), (7, .long z2), (5, .long z1), (0, .ref q1), (1, .int ia), (2, .int ib), (3, .int ic), (4, .int id)]) hx hb dX2_lift_139 hl (by decide) rfl (fun ls hl => ?_)
  refine lv_lload hx hb dX2_lift_141 (lv_at hl 2 rfl) ?_
  refine lv_lload hx hb dX2_lift_143 (lv_at hl 6 rfl) ?_
  refine lv_lload hx hb dX2_lift_145 (lv_at hl 3 rfl) ?_
  refine lv_lmul hx hb dX2_lift_147 ?_
  refine lv_lload hx hb dX2_lift_148 (lv_at hl 5 rfl) ?_
  refine lv_lload hx hb dX2_lift_150 (lv_at hl 4 rfl) ?_
  refine lv_lmul hx hb dX2_lift_152 ?_
  refine lv_lsub hx hb dX2_lift_153 ?_
  refine lv_lmul hx hb dX2_lift_154 ?_
  refine lv_lload hx hb dX2_lift_155 (lv_at hl 1 rfl) ?_
  refine lv_lload hx hb dX2_lift_157 (lv_at hl 4 rfl) ?_
  refine lv_lload hx hb dX2_lift_159 (lv_at hl 7 rfl) ?_
  refine lv_lmul hx hb dX2_lift_161 ?_
  refine lv_lload hx hb dX2_lift_162 (lv_at hl 3 rfl) ?_
  refine lv_lload hx hb dX2_lift_164 (lv_at hl 8 rfl) ?_
  refine lv_lmul hx hb dX2_lift_166 ?_
  refine lv_lsub hx hb dX2_lift_167 ?_
  refine lv_lmul hx hb dX2_lift_168 ?_
  refine lv_ladd hx hb dX2_lift_169 ?_
  refine lv_lload hx hb dX2_lift_170 (lv_at hl 0 rfl) ?_
  refine lv_lload hx hb dX2_lift_172 (lv_at hl 8 rfl) ?_
  refine lv_lload hx hb dX2_lift_174 (lv_at hl 5 rfl) ?_
  refine lv_lmul hx hb dX2_lift_176 ?_
  refine lv_lload hx hb dX2_lift_177 (lv_at hl 7 rfl) ?_
  refine lv_lload hx hb dX2_lift_179 (lv_at hl 6 rfl) ?_
  refine lv_lmul hx hb dX2_lift_181 ?_
  refine lv_lsub hx hb dX2_lift_182 ?_
  refine lv_lmul hx hb dX2_lift_183 ?_
  refine lv_ladd hx hb dX2_lift_184 ?_
  refine xr_SN (rest := []) (As := [.long (((((z1 * z1) + (z2 * z2)) * ((z3 * z6) - (z4 * z5))) + (((z3 * z3) + (z4 * z4)) * ((z5 * z2) - (z6 * z1)))) + (((z5 * z5) + (z6 * z6)) * ((z1 * z4) - (z2 * z3))))]) ⟨hx, hb, hml, hown, hts⟩ (ct4_signOf l D  (((((z1 * z1) + (z2 * z2)) * ((z3 * z6) - (z4 * z5))) + (((z3 * z3) + (z4 * z4)) * ((z5 * z2) - (z6 * z1)))) + (((z5 * z5) + (z6 * z6)) * ((z1 * z4) - (z2 * z3)))) ) ⟨va_cnB 1 hts (gdC (bx1 gc_X4_signOf)) rfl rfl rfl hN.1 (hts _ ini_X4) (by decide +kernel) ⟨Nat.le_of_ble_eq_true rfl, Nat.le_of_ble_eq_true rfl⟩, hts _ st_X4_signOf, trivial⟩ nN_mv hN hK hP [] [] rfl rfl rfl hl.1 rfl (Nat.le_of_ble_eq_true rfl) dX2_lift_185 ⟨Nat.le_of_ble_eq_true rfl, Nat.le_of_ble_eq_true rfl⟩ ?_
  subst ez6 ez5 ez4 ez3 ez2 ez1
  exact W.iret (v := fX4_signOf ((((((((xs ia.toNatClampNeg) - (xs id.toNatClampNeg)).toInt64) * (((xs ia.toNatClampNeg) - (xs id.toNatClampNeg)).toInt64)) + ((((ys ia.toNatClampNeg) - (ys id.toNatClampNeg)).toInt64) * (((ys ia.toNatClampNeg) - (ys id.toNatClampNeg)).toInt64))) * (((((xs ib.toNatClampNeg) - (xs id.toNatClampNeg)).toInt64) * (((ys ic.toNatClampNeg) - (ys id.toNatClampNeg)).toInt64)) - ((((ys ib.toNatClampNeg) - (ys id.toNatClampNeg)).toInt64) * (((xs ic.toNatClampNeg) - (xs id.toNatClampNeg)).toInt64)))) + ((((((xs ib.toNatClampNeg) - (xs id.toNatClampNeg)).toInt64) * (((xs ib.toNatClampNeg) - (xs id.toNatClampNeg)).toInt64)) + ((((ys ib.toNatClampNeg) - (ys id.toNatClampNeg)).toInt64) * (((ys ib.toNatClampNeg) - (ys id.toNatClampNeg)).toInt64))) * (((((xs ic.toNatClampNeg) - (xs id.toNatClampNeg)).toInt64) * (((ys ia.toNatClampNeg) - (ys id.toNatClampNeg)).toInt64)) - ((((ys ic.toNatClampNeg) - (ys id.toNatClampNeg)).toInt64) * (((xs ia.toNatClampNeg) - (xs id.toNatClampNeg)).toInt64))))) + ((((((xs ic.toNatClampNeg) - (xs id.toNatClampNeg)).toInt64) * (((xs ic.toNatClampNeg) - (xs id.toNatClampNeg)).toInt64)) + ((((ys ic.toNatClampNeg) - (ys id.toNatClampNeg)).toInt64) * (((ys ic.toNatClampNeg) - (ys id.toNatClampNeg)).toInt64))) * (((((xs ia.toNatClampNeg) - (xs id.toNatClampNeg)).toInt64) * (((ys ib.toNatClampNeg) - (ys id.toNatClampNeg)).toInt64)) - ((((ys ia.toNatClampNeg) - (ys id.toNatClampNeg)).toInt64) * (((xs ib.toNatClampNeg) - (xs id.toNatClampNeg)).toInt64)))))) hx hb hr (fun t ht hW => ⟨rfl, ht⟩) (fun _ h => absurd h List.not_mem_nil) dX2_lift_188
def fX2_dot (xs ys : Nat → Int32) (ia : Int32) (ib : Int32) (ic : Int32) : Int64 := ((((xs ib.toNatClampNeg) - (xs ia.toNatClampNeg)).toInt64) * (((xs ic.toNatClampNeg) - (xs ia.toNatClampNeg)).toInt64)) + ((((ys ib.toNatClampNeg) - (ys ia.toNatClampNeg)).toInt64) * (((ys ic.toNatClampNeg) - (ys ia.toNatClampNeg)).toInt64))
set_option maxHeartbeats 4000000 in
set_option maxRecDepth 100000 in
theorem ct2_dot (l : Launch) (D : va_G) (q1 q2 q3 : Nat) (kI : ClassId) (xs ys : Nat → Int32) (pm : Int32) (ia : Int32) (ib : Int32) (ic : Int32) (oia : vp_in ia 60) (oib : vp_in ib 60) (oic : vp_in ic 60) : Met l yX2_dot (Cond.code yX2_dot cX2_dot 4 (some .long) :: BX) ({ frames := 0, cells := 0, slots := 0, locals := 0 }) (xr_P nN D vwCl [(kI, .int)] (wPl q1 q2 q3 kI xs ys pm) [.ref q1, .int ia, .int ib, .int ic]) (xr_Q (.long (fX2_dot xs ys ia ib ic))) 0 0 (fun _ => False) := by
  refine Met.ofW (cc := cX2_dot) (maxL := 4) (ret := (some .long)) (by decide) rfl ?_
  intro p e s m args below meth c s₁ B hml hv
  obtain ⟨rfl, hP, hK, hN⟩ := hv
  have hx := B.exec
  have hb := B.bytes
  have hr := B.returns
  have hts0 := atoms_spec (ws := Cond.code yX2_dot cX2_dot 4 (some .long) :: BX) B.pre
  have hts : ∀ w ∈ BX, w.before _ s = true := fun w h => hts0 w (List.mem_cons_of_mem _ h)
  have hown : s.vm.findClass RX2 = some m.cls := findClass_of_methodNamed B.named
  have hlocks := B.notSynchronized
  have hl := lv_entry ([.ref q1, .int ia, .int ib, .int ic]) (n := 4) (Nat.le_of_ble_eq_true rfl)
  rw [lg_entry_eq]
  generalize (lg_sl ([.ref q1, .int ia, .int ib, .int ic]) ++ List.replicate (4 - (lg_sl ([.ref q1, .int ia, .int ib, .int ic])).length) Slot.unset).toArray = ls at hl ⊢
  have hl : lv_has ls 4 [(0, .ref q1), (1, .int ia), (2, .int ib), (3, .int ic)] := hl
  refine lv_aload_n hx hb dX2_dot_0 rfl (lv_at hl 0 rfl) ?_
  refine va_get (D := D) (ci := 6) (v := .ref q2) (C := RX2) (T := TX2) (N := 3) hx hb hts hinX2 hown hK hP 0 rfl rfl 0 (by decide) (hts _ fk_X2_9) (fun _ h9 => h9) rfl dX2_dot_1 ?_
  refine lv_iload_n hx hb dX2_dot_4 rfl (lv_at hl 2 rfl) ?_
  refine va_iald hx hb hK hP 1 0 rfl rfl oib dX2_dot_5 ?_
  refine lv_aload_n hx hb dX2_dot_6 rfl (lv_at hl 0 rfl) ?_
  refine va_get (D := D) (ci := 6) (v := .ref q2) (C := RX2) (T := TX2) (N := 3) hx hb hts hinX2 hown hK hP 0 rfl rfl 0 (by decide) (hts _ fk_X2_9) (fun _ h9 => h9) rfl dX2_dot_7 ?_
  refine lv_iload_n hx hb dX2_dot_10 rfl (lv_at hl 1 rfl) ?_
  refine va_iald hx hb hK hP 1 0 rfl rfl oia dX2_dot_11 ?_
  refine lv_isub hx hb dX2_dot_12 ?_
  refine lv_i2l hx hb dX2_dot_13 rfl ?_
  refine lv_aload_n hx hb dX2_dot_14 rfl (lv_at hl 0 rfl) ?_
  refine va_get (D := D) (ci := 6) (v := .ref q2) (C := RX2) (T := TX2) (N := 3) hx hb hts hinX2 hown hK hP 0 rfl rfl 0 (by decide) (hts _ fk_X2_9) (fun _ h9 => h9) rfl dX2_dot_15 ?_
  refine lv_iload_n hx hb dX2_dot_18 rfl (lv_at hl 3 rfl) ?_
  refine va_iald hx hb hK hP 1 0 rfl rfl oic dX2_dot_19 ?_
  refine lv_aload_n hx hb dX2_dot_20 rfl (lv_at hl 0 rfl) ?_
  refine va_get (D := D) (ci := 6) (v := .ref q2) (C := RX2) (T := TX2) (N := 3) hx hb hts hinX2 hown hK hP 0 rfl rfl 0 (by decide) (hts _ fk_X2_9) (fun _ h9 => h9) rfl dX2_dot_21 ?_
  refine lv_iload_n hx hb dX2_dot_24 rfl (lv_at hl 1 rfl) ?_
  refine va_iald hx hb hK hP 1 0 rfl rfl oia dX2_dot_25 ?_
  refine lv_isub hx hb dX2_dot_26 ?_
  refine lv_i2l hx hb dX2_dot_27 rfl ?_
  refine lv_lmul hx hb dX2_dot_28 ?_
  refine lv_aload_n hx hb dX2_dot_29 rfl (lv_at hl 0 rfl) ?_
  refine va_get (D := D) (ci := 6) (v := .ref q3) (C := RX2) (T := TX2) (N := 3) hx hb hts hinX2 hown hK hP 0 rfl rfl 1 (by decide) (hts _ fk_X2_15) (fun _ h9 => h9) rfl dX2_dot_30 ?_
  refine lv_iload_n hx hb dX2_dot_33 rfl (lv_at hl 2 rfl) ?_
  refine va_iald hx hb hK hP 2 0 rfl rfl oib dX2_dot_34 ?_
  refine lv_aload_n hx hb dX2_dot_35 rfl (lv_at hl 0 rfl) ?_
  refine va_get (D := D) (ci := 6) (v := .ref q3) (C := RX2) (T := TX2) (N := 3) hx hb hts hinX2 hown hK hP 0 rfl rfl 1 (by decide) (hts _ fk_X2_15) (fun _ h9 => h9) rfl dX2_dot_36 ?_
  refine lv_iload_n hx hb dX2_dot_39 rfl (lv_at hl 1 rfl) ?_
  refine va_iald hx hb hK hP 2 0 rfl rfl oia dX2_dot_40 ?_
  refine lv_isub hx hb dX2_dot_41 ?_
  refine lv_i2l hx hb dX2_dot_42 rfl ?_
  refine lv_aload_n hx hb dX2_dot_43 rfl (lv_at hl 0 rfl) ?_
  refine va_get (D := D) (ci := 6) (v := .ref q3) (C := RX2) (T := TX2) (N := 3) hx hb hts hinX2 hown hK hP 0 rfl rfl 1 (by decide) (hts _ fk_X2_15) (fun _ h9 => h9) rfl dX2_dot_44 ?_
  refine lv_iload_n hx hb dX2_dot_47 rfl (lv_at hl 3 rfl) ?_
  refine va_iald hx hb hK hP 2 0 rfl rfl oic dX2_dot_48 ?_
  refine lv_aload_n hx hb dX2_dot_49 rfl (lv_at hl 0 rfl) ?_
  refine va_get (D := D) (ci := 6) (v := .ref q3) (C := RX2) (T := TX2) (N := 3) hx hb hts hinX2 hown hK hP 0 rfl rfl 1 (by decide) (hts _ fk_X2_15) (fun _ h9 => h9) rfl dX2_dot_50 ?_
  refine lv_iload_n hx hb dX2_dot_53 rfl (lv_at hl 1 rfl) ?_
  refine va_iald hx hb hK hP 2 0 rfl rfl oia dX2_dot_54 ?_
  refine lv_isub hx hb dX2_dot_55 ?_
  refine lv_i2l hx hb dX2_dot_56 rfl ?_
  refine lv_lmul hx hb dX2_dot_57 ?_
  refine lv_ladd hx hb dX2_dot_58 ?_
  exact W.lret (v := ((((xs ib.toNatClampNeg) - (xs ia.toNatClampNeg)).toInt64) * (((xs ic.toNatClampNeg) - (xs ia.toNatClampNeg)).toInt64)) + ((((ys ib.toNatClampNeg) - (ys ia.toNatClampNeg)).toInt64) * (((ys ic.toNatClampNeg) - (ys ia.toNatClampNeg)).toInt64))) hx hb hr (fun t ht hW => ⟨rfl, ht⟩) (fun _ h => absurd h List.not_mem_nil) dX2_dot_59
def fX2_distance (xs ys : Nat → Int32) (ia : Int32) (ib : Int32) : Int64 := fX2_dot xs ys ia ib ib
set_option maxHeartbeats 4000000 in
set_option maxRecDepth 100000 in
theorem ct2_distance (l : Launch) (D : va_G) (q1 q2 q3 : Nat) (kI : ClassId) (xs ys : Nat → Int32) (pm : Int32) (ia : Int32) (ib : Int32) (oia : vp_in ia 60) (oib : vp_in ib 60) : Met l yX2_distance (Cond.code yX2_distance cX2_distance 3 (some .long) :: BX) ({ frames := 1, cells := 0, slots := 0, locals := 60 }) (xr_P nN D vwCl [(kI, .int)] (wPl q1 q2 q3 kI xs ys pm) [.ref q1, .int ia, .int ib]) (xr_Q (.long (fX2_distance xs ys ia ib))) 0 0 (fun _ => False) := by
  refine Met.ofW (cc := cX2_distance) (maxL := 3) (ret := (some .long)) (by decide) rfl ?_
  intro p e s m args below meth c s₁ B hml hv
  obtain ⟨rfl, hP, hK, hN⟩ := hv
  have hx := B.exec
  have hb := B.bytes
  have hr := B.returns
  have hts0 := atoms_spec (ws := Cond.code yX2_distance cX2_distance 3 (some .long) :: BX) B.pre
  have hts : ∀ w ∈ BX, w.before _ s = true := fun w h => hts0 w (List.mem_cons_of_mem _ h)
  have hown : s.vm.findClass RX2 = some m.cls := findClass_of_methodNamed B.named
  have hlocks := B.notSynchronized
  have hl := lv_entry ([.ref q1, .int ia, .int ib]) (n := 3) (Nat.le_of_ble_eq_true rfl)
  rw [lg_entry_eq]
  generalize (lg_sl ([.ref q1, .int ia, .int ib]) ++ List.replicate (3 - (lg_sl ([.ref q1, .int ia, .int ib])).length) Slot.unset).toArray = ls at hl ⊢
  have hl : lv_has ls 3 [(0, .ref q1), (1, .int ia), (2, .int ib)] := hl
  refine lv_aload_n hx hb dX2_distance_0 rfl (lv_at hl 0 rfl) ?_
  refine lv_iload_n hx hb dX2_distance_1 rfl (lv_at hl 1 rfl) ?_
  refine lv_iload_n hx hb dX2_distance_2 rfl (lv_at hl 2 rfl) ?_
  refine lv_iload_n hx hb dX2_distance_3 rfl (lv_at hl 2 rfl) ?_
  refine xr_V (q := (RX2, TX2, 3)) (ci := 6) (q0 := 0) (rest := []) (As := [.int ia, .int ib, .int ib]) ⟨hx, hb, hml, hown, hts⟩ (ct2_dot l D q1 q2 q3 kI xs ys pm ia ib ib oia oib oib) (cwV 3 hts gl_X2_34 rfl rfl rfl (by decide +kernel) ⟨Nat.le_of_ble_eq_true rfl, Nat.le_of_ble_eq_true rfl⟩) nN_mv hN hK hP [0, 1, 2] [0] rfl rfl rfl rfl rfl hl.1 rfl (Nat.le_of_ble_eq_true rfl) dX2_distance_4 ⟨Nat.le_of_ble_eq_true rfl, Nat.le_of_ble_eq_true rfl⟩ ?_
  exact W.lret (v := fX2_dot xs ys ia ib ib) hx hb hr (fun t ht hW => ⟨rfl, ht⟩) (fun _ h => absurd h List.not_mem_nil) dX2_distance_7
def fX2_oneDirection (xs ys : Nat → Int32) (ia : Int32) (ib : Int32) (ic : Int32) : Int32 := if (fX2_turn xs ys ia ib ic) = (0 : Int32) then (if (lg_cmp (fX2_dot xs ys ia ib ic) (0 : Int64)) ≤ (0 : Int32) then ((0 : Int32)) else ((1 : Int32))) else ((0 : Int32))
set_option maxHeartbeats 4000000 in
set_option maxRecDepth 100000 in
theorem ct2_oneDirection (l : Launch) (D : va_G) (q1 q2 q3 : Nat) (kI : ClassId) (xs ys : Nat → Int32) (pm : Int32) (ia : Int32) (ib : Int32) (ic : Int32) (oia : vp_in ia 60) (oib : vp_in ib 60) (oic : vp_in ic 60) : Met l yX2_oneDirection (Cond.code yX2_oneDirection cX2_oneDirection 4 (some .boolean) :: BX) ({ frames := 2, cells := 0, slots := 0, locals := 120 }) (xr_P nN D vwCl [(kI, .int)] (wPl q1 q2 q3 kI xs ys pm) [.ref q1, .int ia, .int ib, .int ic]) (xr_Q (.int (fX2_oneDirection xs ys ia ib ic))) 0 0 (fun _ => False) := by
  refine Met.ofW (cc := cX2_oneDirection) (maxL := 4) (ret := (some .boolean)) (by decide) rfl ?_
  intro p e s m args below meth c s₁ B hml hv
  obtain ⟨rfl, hP, hK, hN⟩ := hv
  have hx := B.exec
  have hb := B.bytes
  have hr := B.returns
  have hts0 := atoms_spec (ws := Cond.code yX2_oneDirection cX2_oneDirection 4 (some .boolean) :: BX) B.pre
  have hts : ∀ w ∈ BX, w.before _ s = true := fun w h => hts0 w (List.mem_cons_of_mem _ h)
  have hown : s.vm.findClass RX2 = some m.cls := findClass_of_methodNamed B.named
  have hlocks := B.notSynchronized
  have hl := lv_entry ([.ref q1, .int ia, .int ib, .int ic]) (n := 4) (Nat.le_of_ble_eq_true rfl)
  rw [lg_entry_eq]
  generalize (lg_sl ([.ref q1, .int ia, .int ib, .int ic]) ++ List.replicate (4 - (lg_sl ([.ref q1, .int ia, .int ib, .int ic])).length) Slot.unset).toArray = ls at hl ⊢
  have hl : lv_has ls 4 [(0, .ref q1), (1, .int ia), (2, .int ib), (3, .int ic)] := hl
  refine lv_aload_n hx hb dX2_oneDirection_0 rfl (lv_at hl 0 rfl) ?_
  refine lv_iload_n hx hb dX2_oneDirection_1 rfl (lv_at hl 1 rfl) ?_
  refine lv_iload_n hx hb dX2_oneDirection_2 rfl (lv_at hl 2 rfl) ?_
  refine lv_iload_n hx hb dX2_oneDirection_3 rfl (lv_at hl 3 rfl) ?_
  refine xr_V (q := (RX2, TX2, 3)) (ci := 6) (q0 := 0) (rest := []) (As := [.int ia, .int ib, .int ic]) ⟨hx, hb, hml, hown, hts⟩ (ct2_turn l D q1 q2 q3 kI xs ys pm ia ib ic oia oib oic) (cwV 3 hts gl_X2_38 rfl rfl rfl (by decide +kernel) ⟨Nat.le_of_ble_eq_true rfl, Nat.le_of_ble_eq_true rfl⟩) nN_mv hN hK hP [0, 1, 2] [0] rfl rfl rfl rfl rfl hl.1 rfl (Nat.le_of_ble_eq_true rfl) dX2_oneDirection_4 ⟨Nat.le_of_ble_eq_true rfl, Nat.le_of_ble_eq_true rfl⟩ ?_
  refine lv_if_ne (tgt := 26) hx hb dX2_oneDirection_7 (by decide) (fun c1 => ?_) (fun c1 => ?_)
  · refine lv_iconst (v := 0) hx hb dX2_oneDirection_26 (by decide) ?_
    exact W.zret (v := (0 : Int32)) hx hb hr rfl (fun t ht hW => ⟨by rw [show fX2_oneDirection xs ys ia ib ic = (0 : Int32) by unfold fX2_oneDirection; rw [if_neg c1]], ht⟩) (fun _ h => absurd h List.not_mem_nil) dX2_oneDirection_27
  · refine lv_aload_n hx hb dX2_oneDirection_10 rfl (lv_at hl 0 rfl) ?_
    refine lv_iload_n hx hb dX2_oneDirection_11 rfl (lv_at hl 1 rfl) ?_
    refine lv_iload_n hx hb dX2_oneDirection_12 rfl (lv_at hl 2 rfl) ?_
    refine lv_iload_n hx hb dX2_oneDirection_13 rfl (lv_at hl 3 rfl) ?_
    refine xr_V (q := (RX2, TX2, 3)) (ci := 6) (q0 := 0) (rest := []) (As := [.int ia, .int ib, .int ic]) ⟨hx, hb, hml, hown, hts⟩ (ct2_dot l D q1 q2 q3 kI xs ys pm ia ib ic oia oib oic) (cwV 3 hts gl_X2_34 rfl rfl rfl (by decide +kernel) ⟨Nat.le_of_ble_eq_true rfl, Nat.le_of_ble_eq_true rfl⟩) nN_mv hN hK hP [0, 1, 2] [0] rfl rfl rfl rfl rfl hl.1 rfl (Nat.le_of_ble_eq_true rfl) dX2_oneDirection_14 ⟨Nat.le_of_ble_eq_true rfl, Nat.le_of_ble_eq_true rfl⟩ ?_
    refine lv_lconst (v := 0) hx hb dX2_oneDirection_17 (by decide) ?_
    refine W.lcmp hx hb dX2_oneDirection_18 ?_
    refine lv_if_le (tgt := 26) hx hb dX2_oneDirection_19 (by decide) (fun c2 => ?_) (fun c2 => ?_)
    · refine lv_iconst (v := 0) hx hb dX2_oneDirection_26 (by decide) ?_
      exact W.zret (v := (0 : Int32)) hx hb hr rfl (fun t ht hW => ⟨by rw [show fX2_oneDirection xs ys ia ib ic = (0 : Int32) by unfold fX2_oneDirection; rw [if_pos c1, if_pos c2]], ht⟩) (fun _ h => absurd h List.not_mem_nil) dX2_oneDirection_27
    · refine lv_iconst (v := 1) hx hb dX2_oneDirection_22 (by decide) ?_
      refine lv_goto (tgt := 27) hx hb dX2_oneDirection_23 (by decide) ?_
      exact W.zret (v := (1 : Int32)) hx hb hr rfl (fun t ht hW => ⟨by rw [show fX2_oneDirection xs ys ia ib ic = (1 : Int32) by unfold fX2_oneDirection; rw [if_pos c1, if_neg c2]], ht⟩) (fun _ h => absurd h List.not_mem_nil) dX2_oneDirection_27
def fX2_onWay (xs ys : Nat → Int32) (ia : Int32) (ib : Int32) (ic : Int32) : Int32 := if (fX2_turn xs ys ia ib ic) = (0 : Int32) then (if (0 : Int32) < (lg_cmp (fX2_dot xs ys ic ia ib) (0 : Int64)) then ((0 : Int32)) else ((1 : Int32))) else ((0 : Int32))
set_option maxHeartbeats 4000000 in
set_option maxRecDepth 100000 in
theorem ct2_onWay (l : Launch) (D : va_G) (q1 q2 q3 : Nat) (kI : ClassId) (xs ys : Nat → Int32) (pm : Int32) (ia : Int32) (ib : Int32) (ic : Int32) (oia : vp_in ia 60) (oib : vp_in ib 60) (oic : vp_in ic 60) : Met l yX2_onWay (Cond.code yX2_onWay cX2_onWay 4 (some .boolean) :: BX) ({ frames := 2, cells := 0, slots := 0, locals := 120 }) (xr_P nN D vwCl [(kI, .int)] (wPl q1 q2 q3 kI xs ys pm) [.ref q1, .int ia, .int ib, .int ic]) (xr_Q (.int (fX2_onWay xs ys ia ib ic))) 0 0 (fun _ => False) := by
  refine Met.ofW (cc := cX2_onWay) (maxL := 4) (ret := (some .boolean)) (by decide) rfl ?_
  intro p e s m args below meth c s₁ B hml hv
  obtain ⟨rfl, hP, hK, hN⟩ := hv
  have hx := B.exec
  have hb := B.bytes
  have hr := B.returns
  have hts0 := atoms_spec (ws := Cond.code yX2_onWay cX2_onWay 4 (some .boolean) :: BX) B.pre
  have hts : ∀ w ∈ BX, w.before _ s = true := fun w h => hts0 w (List.mem_cons_of_mem _ h)
  have hown : s.vm.findClass RX2 = some m.cls := findClass_of_methodNamed B.named
  have hlocks := B.notSynchronized
  have hl := lv_entry ([.ref q1, .int ia, .int ib, .int ic]) (n := 4) (Nat.le_of_ble_eq_true rfl)
  rw [lg_entry_eq]
  generalize (lg_sl ([.ref q1, .int ia, .int ib, .int ic]) ++ List.replicate (4 - (lg_sl ([.ref q1, .int ia, .int ib, .int ic])).length) Slot.unset).toArray = ls at hl ⊢
  have hl : lv_has ls 4 [(0, .ref q1), (1, .int ia), (2, .int ib), (3, .int ic)] := hl
  refine lv_aload_n hx hb dX2_onWay_0 rfl (lv_at hl 0 rfl) ?_
  refine lv_iload_n hx hb dX2_onWay_1 rfl (lv_at hl 1 rfl) ?_
  refine lv_iload_n hx hb dX2_onWay_2 rfl (lv_at hl 2 rfl) ?_
  refine lv_iload_n hx hb dX2_onWay_3 rfl (lv_at hl 3 rfl) ?_
  refine xr_V (q := (RX2, TX2, 3)) (ci := 6) (q0 := 0) (rest := []) (As := [.int ia, .int ib, .int ic]) ⟨hx, hb, hml, hown, hts⟩ (ct2_turn l D q1 q2 q3 kI xs ys pm ia ib ic oia oib oic) (cwV 3 hts gl_X2_38 rfl rfl rfl (by decide +kernel) ⟨Nat.le_of_ble_eq_true rfl, Nat.le_of_ble_eq_true rfl⟩) nN_mv hN hK hP [0, 1, 2] [0] rfl rfl rfl rfl rfl hl.1 rfl (Nat.le_of_ble_eq_true rfl) dX2_onWay_4 ⟨Nat.le_of_ble_eq_true rfl, Nat.le_of_ble_eq_true rfl⟩ ?_
  refine lv_if_ne (tgt := 26) hx hb dX2_onWay_7 (by decide) (fun c1 => ?_) (fun c1 => ?_)
  · refine lv_iconst (v := 0) hx hb dX2_onWay_26 (by decide) ?_
    exact W.zret (v := (0 : Int32)) hx hb hr rfl (fun t ht hW => ⟨by rw [show fX2_onWay xs ys ia ib ic = (0 : Int32) by unfold fX2_onWay; rw [if_neg c1]], ht⟩) (fun _ h => absurd h List.not_mem_nil) dX2_onWay_27
  · refine lv_aload_n hx hb dX2_onWay_10 rfl (lv_at hl 0 rfl) ?_
    refine lv_iload_n hx hb dX2_onWay_11 rfl (lv_at hl 3 rfl) ?_
    refine lv_iload_n hx hb dX2_onWay_12 rfl (lv_at hl 1 rfl) ?_
    refine lv_iload_n hx hb dX2_onWay_13 rfl (lv_at hl 2 rfl) ?_
    refine xr_V (q := (RX2, TX2, 3)) (ci := 6) (q0 := 0) (rest := []) (As := [.int ic, .int ia, .int ib]) ⟨hx, hb, hml, hown, hts⟩ (ct2_dot l D q1 q2 q3 kI xs ys pm ic ia ib oic oia oib) (cwV 3 hts gl_X2_34 rfl rfl rfl (by decide +kernel) ⟨Nat.le_of_ble_eq_true rfl, Nat.le_of_ble_eq_true rfl⟩) nN_mv hN hK hP [0, 1, 2] [0] rfl rfl rfl rfl rfl hl.1 rfl (Nat.le_of_ble_eq_true rfl) dX2_onWay_14 ⟨Nat.le_of_ble_eq_true rfl, Nat.le_of_ble_eq_true rfl⟩ ?_
    refine lv_lconst (v := 0) hx hb dX2_onWay_17 (by decide) ?_
    refine W.lcmp hx hb dX2_onWay_18 ?_
    refine lv_if_gt (tgt := 26) hx hb dX2_onWay_19 (by decide) (fun c2 => ?_) (fun c2 => ?_)
    · refine lv_iconst (v := 0) hx hb dX2_onWay_26 (by decide) ?_
      exact W.zret (v := (0 : Int32)) hx hb hr rfl (fun t ht hW => ⟨by rw [show fX2_onWay xs ys ia ib ic = (0 : Int32) by unfold fX2_onWay; rw [if_pos c1, if_pos c2]], ht⟩) (fun _ h => absurd h List.not_mem_nil) dX2_onWay_27
    · refine lv_iconst (v := 1) hx hb dX2_onWay_22 (by decide) ?_
      refine lv_goto (tgt := 27) hx hb dX2_onWay_23 (by decide) ?_
      exact W.zret (v := (1 : Int32)) hx hb hr rfl (fun t ht hW => ⟨by rw [show fX2_onWay xs ys ia ib ic = (1 : Int32) by unfold fX2_onWay; rw [if_pos c1, if_neg c2]], ht⟩) (fun _ h => absurd h List.not_mem_nil) dX2_onWay_27
def fX2_strictlyInAngle (xs ys : Nat → Int32) (ia : Int32) (ib : Int32) (ic : Int32) (id : Int32) : Int32 := if (fX2_turn xs ys ia ib ic) < (0 : Int32) then (if (fX2_turn xs ys ia ic id) ≤ (0 : Int32) then ((1 : Int32)) else (if (0 : Int32) < (fX2_turn xs ys ia id ib) then ((0 : Int32)) else ((1 : Int32)))) else (if (fX2_turn xs ys ia ib id) ≤ (0 : Int32) then ((0 : Int32)) else (if (fX2_turn xs ys ia id ic) ≤ (0 : Int32) then ((0 : Int32)) else ((1 : Int32))))
set_option maxHeartbeats 4000000 in
set_option maxRecDepth 100000 in
theorem ct2_strictlyInAngle (l : Launch) (D : va_G) (q1 q2 q3 : Nat) (kI : ClassId) (xs ys : Nat → Int32) (pm : Int32) (ia : Int32) (ib : Int32) (ic : Int32) (id : Int32) (oia : vp_in ia 60) (oib : vp_in ib 60) (oic : vp_in ic 60) (oid : vp_in id 60) : Met l yX2_strictlyInAngle (Cond.code yX2_strictlyInAngle cX2_strictlyInAngle 5 (some .boolean) :: BX) ({ frames := 2, cells := 0, slots := 0, locals := 120 }) (xr_P nN D vwCl [(kI, .int)] (wPl q1 q2 q3 kI xs ys pm) [.ref q1, .int ia, .int ib, .int ic, .int id]) (xr_Q (.int (fX2_strictlyInAngle xs ys ia ib ic id))) 0 0 (fun _ => False) := by
  refine Met.ofW (cc := cX2_strictlyInAngle) (maxL := 5) (ret := (some .boolean)) (by decide) rfl ?_
  intro p e s m args below meth c s₁ B hml hv
  obtain ⟨rfl, hP, hK, hN⟩ := hv
  have hx := B.exec
  have hb := B.bytes
  have hr := B.returns
  have hts0 := atoms_spec (ws := Cond.code yX2_strictlyInAngle cX2_strictlyInAngle 5 (some .boolean) :: BX) B.pre
  have hts : ∀ w ∈ BX, w.before _ s = true := fun w h => hts0 w (List.mem_cons_of_mem _ h)
  have hown : s.vm.findClass RX2 = some m.cls := findClass_of_methodNamed B.named
  have hlocks := B.notSynchronized
  have hl := lv_entry ([.ref q1, .int ia, .int ib, .int ic, .int id]) (n := 5) (Nat.le_of_ble_eq_true rfl)
  rw [lg_entry_eq]
  generalize (lg_sl ([.ref q1, .int ia, .int ib, .int ic, .int id]) ++ List.replicate (5 - (lg_sl ([.ref q1, .int ia, .int ib, .int ic, .int id])).length) Slot.unset).toArray = ls at hl ⊢
  have hl : lv_has ls 5 [(0, .ref q1), (1, .int ia), (2, .int ib), (3, .int ic), (4, .int id)] := hl
  refine lv_aload_n hx hb dX2_strictlyInAngle_0 rfl (lv_at hl 0 rfl) ?_
  refine lv_iload_n hx hb dX2_strictlyInAngle_1 rfl (lv_at hl 1 rfl) ?_
  refine lv_iload_n hx hb dX2_strictlyInAngle_2 rfl (lv_at hl 2 rfl) ?_
  refine lv_iload_n hx hb dX2_strictlyInAngle_3 rfl (lv_at hl 3 rfl) ?_
  refine xr_V (q := (RX2, TX2, 3)) (ci := 6) (q0 := 0) (rest := []) (As := [.int ia, .int ib, .int ic]) ⟨hx, hb, hml, hown, hts⟩ (ct2_turn l D q1 q2 q3 kI xs ys pm ia ib ic oia oib oic) (cwV 3 hts gl_X2_38 rfl rfl rfl (by decide +kernel) ⟨Nat.le_of_ble_eq_true rfl, Nat.le_of_ble_eq_true rfl⟩) nN_mv hN hK hP [0, 1, 2] [0] rfl rfl rfl rfl rfl hl.1 rfl (Nat.le_of_ble_eq_true rfl) dX2_strictlyInAngle_4 ⟨Nat.le_of_ble_eq_true rfl, Nat.le_of_ble_eq_true rfl⟩ ?_
  refine lv_if_lt (tgt := 38) hx hb dX2_strictlyInAngle_7 (by decide) (fun c1 => ?_) (fun c1 => ?_)
  · refine lv_aload_n hx hb dX2_strictlyInAngle_38 rfl (lv_at hl 0 rfl) ?_
    refine lv_iload_n hx hb dX2_strictlyInAngle_39 rfl (lv_at hl 1 rfl) ?_
    refine lv_iload_n hx hb dX2_strictlyInAngle_40 rfl (lv_at hl 3 rfl) ?_
    refine lv_iload hx hb dX2_strictlyInAngle_41 (lv_at hl 4 rfl) ?_
    refine xr_V (q := (RX2, TX2, 3)) (ci := 6) (q0 := 0) (rest := []) (As := [.int ia, .int ic, .int id]) ⟨hx, hb, hml, hown, hts⟩ (ct2_turn l D q1 q2 q3 kI xs ys pm ia ic id oia oic oid) (cwV 3 hts gl_X2_38 rfl rfl rfl (by decide +kernel) ⟨Nat.le_of_ble_eq_true rfl, Nat.le_of_ble_eq_true rfl⟩) nN_mv hN hK hP [0, 1, 2] [0] rfl rfl rfl rfl rfl hl.1 rfl (Nat.le_of_ble_eq_true rfl) dX2_strictlyInAngle_43 ⟨Nat.le_of_ble_eq_true rfl, Nat.le_of_ble_eq_true rfl⟩ ?_
    refine lv_if_le (tgt := 60) hx hb dX2_strictlyInAngle_46 (by decide) (fun c2 => ?_) (fun c2 => ?_)
    · refine lv_iconst (v := 1) hx hb dX2_strictlyInAngle_60 (by decide) ?_
      refine lv_goto (tgt := 65) hx hb dX2_strictlyInAngle_61 (by decide) ?_
      exact W.zret (v := (1 : Int32)) hx hb hr rfl (fun t ht hW => ⟨by rw [show fX2_strictlyInAngle xs ys ia ib ic id = (1 : Int32) by unfold fX2_strictlyInAngle; rw [if_pos c1, if_pos c2]], ht⟩) (fun _ h => absurd h List.not_mem_nil) dX2_strictlyInAngle_65
    · refine lv_aload_n hx hb dX2_strictlyInAngle_49 rfl (lv_at hl 0 rfl) ?_
      refine lv_iload_n hx hb dX2_strictlyInAngle_50 rfl (lv_at hl 1 rfl) ?_
      refine lv_iload hx hb dX2_strictlyInAngle_51 (lv_at hl 4 rfl) ?_
      refine lv_iload_n hx hb dX2_strictlyInAngle_53 rfl (lv_at hl 2 rfl) ?_
      refine xr_V (q := (RX2, TX2, 3)) (ci := 6) (q0 := 0) (rest := []) (As := [.int ia, .int id, .int ib]) ⟨hx, hb, hml, hown, hts⟩ (ct2_turn l D q1 q2 q3 kI xs ys pm ia id ib oia oid oib) (cwV 3 hts gl_X2_38 rfl rfl rfl (by decide +kernel) ⟨Nat.le_of_ble_eq_true rfl, Nat.le_of_ble_eq_true rfl⟩) nN_mv hN hK hP [0, 1, 2] [0] rfl rfl rfl rfl rfl hl.1 rfl (Nat.le_of_ble_eq_true rfl) dX2_strictlyInAngle_54 ⟨Nat.le_of_ble_eq_true rfl, Nat.le_of_ble_eq_true rfl⟩ ?_
      refine lv_if_gt (tgt := 64) hx hb dX2_strictlyInAngle_57 (by decide) (fun c3 => ?_) (fun c3 => ?_)
      · refine lv_iconst (v := 0) hx hb dX2_strictlyInAngle_64 (by decide) ?_
        exact W.zret (v := (0 : Int32)) hx hb hr rfl (fun t ht hW => ⟨by rw [show fX2_strictlyInAngle xs ys ia ib ic id = (0 : Int32) by unfold fX2_strictlyInAngle; rw [if_pos c1, if_neg c2, if_pos c3]], ht⟩) (fun _ h => absurd h List.not_mem_nil) dX2_strictlyInAngle_65
      · refine lv_iconst (v := 1) hx hb dX2_strictlyInAngle_60 (by decide) ?_
        refine lv_goto (tgt := 65) hx hb dX2_strictlyInAngle_61 (by decide) ?_
        exact W.zret (v := (1 : Int32)) hx hb hr rfl (fun t ht hW => ⟨by rw [show fX2_strictlyInAngle xs ys ia ib ic id = (1 : Int32) by unfold fX2_strictlyInAngle; rw [if_pos c1, if_neg c2, if_neg c3]], ht⟩) (fun _ h => absurd h List.not_mem_nil) dX2_strictlyInAngle_65
  · refine lv_aload_n hx hb dX2_strictlyInAngle_10 rfl (lv_at hl 0 rfl) ?_
    refine lv_iload_n hx hb dX2_strictlyInAngle_11 rfl (lv_at hl 1 rfl) ?_
    refine lv_iload_n hx hb dX2_strictlyInAngle_12 rfl (lv_at hl 2 rfl) ?_
    refine lv_iload hx hb dX2_strictlyInAngle_13 (lv_at hl 4 rfl) ?_
    refine xr_V (q := (RX2, TX2, 3)) (ci := 6) (q0 := 0) (rest := []) (As := [.int ia, .int ib, .int id]) ⟨hx, hb, hml, hown, hts⟩ (ct2_turn l D q1 q2 q3 kI xs ys pm ia ib id oia oib oid) (cwV 3 hts gl_X2_38 rfl rfl rfl (by decide +kernel) ⟨Nat.le_of_ble_eq_true rfl, Nat.le_of_ble_eq_true rfl⟩) nN_mv hN hK hP [0, 1, 2] [0] rfl rfl rfl rfl rfl hl.1 rfl (Nat.le_of_ble_eq_true rfl) dX2_strictlyInAngle_15 ⟨Nat.le_of_ble_eq_true rfl, Nat.le_of_ble_eq_true rfl⟩ ?_
    refine lv_if_le (tgt := 36) hx hb dX2_strictlyInAngle_18 (by decide) (fun c4 => ?_) (fun c4 => ?_)
    · refine lv_iconst (v := 0) hx hb dX2_strictlyInAngle_36 (by decide) ?_
      exact W.zret (v := (0 : Int32)) hx hb hr rfl (fun t ht hW => ⟨by rw [show fX2_strictlyInAngle xs ys ia ib ic id = (0 : Int32) by unfold fX2_strictlyInAngle; rw [if_neg c1, if_pos c4]], ht⟩) (fun _ h => absurd h List.not_mem_nil) dX2_strictlyInAngle_37
    · refine lv_aload_n hx hb dX2_strictlyInAngle_21 rfl (lv_at hl 0 rfl) ?_
      refine lv_iload_n hx hb dX2_strictlyInAngle_22 rfl (lv_at hl 1 rfl) ?_
      refine lv_iload hx hb dX2_strictlyInAngle_23 (lv_at hl 4 rfl) ?_
      refine lv_iload_n hx hb dX2_strictlyInAngle_25 rfl (lv_at hl 3 rfl) ?_
      refine xr_V (q := (RX2, TX2, 3)) (ci := 6) (q0 := 0) (rest := []) (As := [.int ia, .int id, .int ic]) ⟨hx, hb, hml, hown, hts⟩ (ct2_turn l D q1 q2 q3 kI xs ys pm ia id ic oia oid oic) (cwV 3 hts gl_X2_38 rfl rfl rfl (by decide +kernel) ⟨Nat.le_of_ble_eq_true rfl, Nat.le_of_ble_eq_true rfl⟩) nN_mv hN hK hP [0, 1, 2] [0] rfl rfl rfl rfl rfl hl.1 rfl (Nat.le_of_ble_eq_true rfl) dX2_strictlyInAngle_26 ⟨Nat.le_of_ble_eq_true rfl, Nat.le_of_ble_eq_true rfl⟩ ?_
      refine lv_if_le (tgt := 36) hx hb dX2_strictlyInAngle_29 (by decide) (fun c5 => ?_) (fun c5 => ?_)
      · refine lv_iconst (v := 0) hx hb dX2_strictlyInAngle_36 (by decide) ?_
        exact W.zret (v := (0 : Int32)) hx hb hr rfl (fun t ht hW => ⟨by rw [show fX2_strictlyInAngle xs ys ia ib ic id = (0 : Int32) by unfold fX2_strictlyInAngle; rw [if_neg c1, if_neg c4, if_pos c5]], ht⟩) (fun _ h => absurd h List.not_mem_nil) dX2_strictlyInAngle_37
      · refine lv_iconst (v := 1) hx hb dX2_strictlyInAngle_32 (by decide) ?_
        refine lv_goto (tgt := 37) hx hb dX2_strictlyInAngle_33 (by decide) ?_
        exact W.zret (v := (1 : Int32)) hx hb hr rfl (fun t ht hW => ⟨by rw [show fX2_strictlyInAngle xs ys ia ib ic id = (1 : Int32) by unfold fX2_strictlyInAngle; rw [if_neg c1, if_neg c4, if_neg c5]], ht⟩) (fun _ h => absurd h List.not_mem_nil) dX2_strictlyInAngle_37
def fX2_allInLine (xs ys : Nat → Int32) (ia : Int32) (ib : Int32) (ic : Int32) (id : Int32) : Int32 := if (fX2_turn xs ys ia ib ic) = (0 : Int32) then (if (fX2_turn xs ys ia ib id) = (0 : Int32) then (if (fX2_turn xs ys ic id ia) = (0 : Int32) then (if (fX2_turn xs ys ic id ib) = (0 : Int32) then ((1 : Int32)) else ((0 : Int32))) else ((0 : Int32))) else ((0 : Int32))) else ((0 : Int32))
set_option maxHeartbeats 4000000 in
set_option maxRecDepth 100000 in
theorem ct2_allInLine (l : Launch) (D : va_G) (q1 q2 q3 : Nat) (kI : ClassId) (xs ys : Nat → Int32) (pm : Int32) (ia : Int32) (ib : Int32) (ic : Int32) (id : Int32) (oia : vp_in ia 60) (oib : vp_in ib 60) (oic : vp_in ic 60) (oid : vp_in id 60) : Met l yX2_allInLine (Cond.code yX2_allInLine cX2_allInLine 5 (some .boolean) :: BX) ({ frames := 2, cells := 0, slots := 0, locals := 120 }) (xr_P nN D vwCl [(kI, .int)] (wPl q1 q2 q3 kI xs ys pm) [.ref q1, .int ia, .int ib, .int ic, .int id]) (xr_Q (.int (fX2_allInLine xs ys ia ib ic id))) 0 0 (fun _ => False) := by
  refine Met.ofW (cc := cX2_allInLine) (maxL := 5) (ret := (some .boolean)) (by decide) rfl ?_
  intro p e s m args below meth c s₁ B hml hv
  obtain ⟨rfl, hP, hK, hN⟩ := hv
  have hx := B.exec
  have hb := B.bytes
  have hr := B.returns
  have hts0 := atoms_spec (ws := Cond.code yX2_allInLine cX2_allInLine 5 (some .boolean) :: BX) B.pre
  have hts : ∀ w ∈ BX, w.before _ s = true := fun w h => hts0 w (List.mem_cons_of_mem _ h)
  have hown : s.vm.findClass RX2 = some m.cls := findClass_of_methodNamed B.named
  have hlocks := B.notSynchronized
  have hl := lv_entry ([.ref q1, .int ia, .int ib, .int ic, .int id]) (n := 5) (Nat.le_of_ble_eq_true rfl)
  rw [lg_entry_eq]
  generalize (lg_sl ([.ref q1, .int ia, .int ib, .int ic, .int id]) ++ List.replicate (5 - (lg_sl ([.ref q1, .int ia, .int ib, .int ic, .int id])).length) Slot.unset).toArray = ls at hl ⊢
  have hl : lv_has ls 5 [(0, .ref q1), (1, .int ia), (2, .int ib), (3, .int ic), (4, .int id)] := hl
  refine lv_aload_n hx hb dX2_allInLine_0 rfl (lv_at hl 0 rfl) ?_
  refine lv_iload_n hx hb dX2_allInLine_1 rfl (lv_at hl 1 rfl) ?_
  refine lv_iload_n hx hb dX2_allInLine_2 rfl (lv_at hl 2 rfl) ?_
  refine lv_iload_n hx hb dX2_allInLine_3 rfl (lv_at hl 3 rfl) ?_
  refine xr_V (q := (RX2, TX2, 3)) (ci := 6) (q0 := 0) (rest := []) (As := [.int ia, .int ib, .int ic]) ⟨hx, hb, hml, hown, hts⟩ (ct2_turn l D q1 q2 q3 kI xs ys pm ia ib ic oia oib oic) (cwV 3 hts gl_X2_38 rfl rfl rfl (by decide +kernel) ⟨Nat.le_of_ble_eq_true rfl, Nat.le_of_ble_eq_true rfl⟩) nN_mv hN hK hP [0, 1, 2] [0] rfl rfl rfl rfl rfl hl.1 rfl (Nat.le_of_ble_eq_true rfl) dX2_allInLine_4 ⟨Nat.le_of_ble_eq_true rfl, Nat.le_of_ble_eq_true rfl⟩ ?_
  refine lv_if_ne (tgt := 47) hx hb dX2_allInLine_7 (by decide) (fun c1 => ?_) (fun c1 => ?_)
  · refine lv_iconst (v := 0) hx hb dX2_allInLine_47 (by decide) ?_
    exact W.zret (v := (0 : Int32)) hx hb hr rfl (fun t ht hW => ⟨by rw [show fX2_allInLine xs ys ia ib ic id = (0 : Int32) by unfold fX2_allInLine; rw [if_neg c1]], ht⟩) (fun _ h => absurd h List.not_mem_nil) dX2_allInLine_48
  · refine lv_aload_n hx hb dX2_allInLine_10 rfl (lv_at hl 0 rfl) ?_
    refine lv_iload_n hx hb dX2_allInLine_11 rfl (lv_at hl 1 rfl) ?_
    refine lv_iload_n hx hb dX2_allInLine_12 rfl (lv_at hl 2 rfl) ?_
    refine lv_iload hx hb dX2_allInLine_13 (lv_at hl 4 rfl) ?_
    refine xr_V (q := (RX2, TX2, 3)) (ci := 6) (q0 := 0) (rest := []) (As := [.int ia, .int ib, .int id]) ⟨hx, hb, hml, hown, hts⟩ (ct2_turn l D q1 q2 q3 kI xs ys pm ia ib id oia oib oid) (cwV 3 hts gl_X2_38 rfl rfl rfl (by decide +kernel) ⟨Nat.le_of_ble_eq_true rfl, Nat.le_of_ble_eq_true rfl⟩) nN_mv hN hK hP [0, 1, 2] [0] rfl rfl rfl rfl rfl hl.1 rfl (Nat.le_of_ble_eq_true rfl) dX2_allInLine_15 ⟨Nat.le_of_ble_eq_true rfl, Nat.le_of_ble_eq_true rfl⟩ ?_
    refine lv_if_ne (tgt := 47) hx hb dX2_allInLine_18 (by decide) (fun c2 => ?_) (fun c2 => ?_)
    · refine lv_iconst (v := 0) hx hb dX2_allInLine_47 (by decide) ?_
      exact W.zret (v := (0 : Int32)) hx hb hr rfl (fun t ht hW => ⟨by rw [show fX2_allInLine xs ys ia ib ic id = (0 : Int32) by unfold fX2_allInLine; rw [if_pos c1, if_neg c2]], ht⟩) (fun _ h => absurd h List.not_mem_nil) dX2_allInLine_48
    · refine lv_aload_n hx hb dX2_allInLine_21 rfl (lv_at hl 0 rfl) ?_
      refine lv_iload_n hx hb dX2_allInLine_22 rfl (lv_at hl 3 rfl) ?_
      refine lv_iload hx hb dX2_allInLine_23 (lv_at hl 4 rfl) ?_
      refine lv_iload_n hx hb dX2_allInLine_25 rfl (lv_at hl 1 rfl) ?_
      refine xr_V (q := (RX2, TX2, 3)) (ci := 6) (q0 := 0) (rest := []) (As := [.int ic, .int id, .int ia]) ⟨hx, hb, hml, hown, hts⟩ (ct2_turn l D q1 q2 q3 kI xs ys pm ic id ia oic oid oia) (cwV 3 hts gl_X2_38 rfl rfl rfl (by decide +kernel) ⟨Nat.le_of_ble_eq_true rfl, Nat.le_of_ble_eq_true rfl⟩) nN_mv hN hK hP [0, 1, 2] [0] rfl rfl rfl rfl rfl hl.1 rfl (Nat.le_of_ble_eq_true rfl) dX2_allInLine_26 ⟨Nat.le_of_ble_eq_true rfl, Nat.le_of_ble_eq_true rfl⟩ ?_
      refine lv_if_ne (tgt := 47) hx hb dX2_allInLine_29 (by decide) (fun c3 => ?_) (fun c3 => ?_)
      · refine lv_iconst (v := 0) hx hb dX2_allInLine_47 (by decide) ?_
        exact W.zret (v := (0 : Int32)) hx hb hr rfl (fun t ht hW => ⟨by rw [show fX2_allInLine xs ys ia ib ic id = (0 : Int32) by unfold fX2_allInLine; rw [if_pos c1, if_pos c2, if_neg c3]], ht⟩) (fun _ h => absurd h List.not_mem_nil) dX2_allInLine_48
      · refine lv_aload_n hx hb dX2_allInLine_32 rfl (lv_at hl 0 rfl) ?_
        refine lv_iload_n hx hb dX2_allInLine_33 rfl (lv_at hl 3 rfl) ?_
        refine lv_iload hx hb dX2_allInLine_34 (lv_at hl 4 rfl) ?_
        refine lv_iload_n hx hb dX2_allInLine_36 rfl (lv_at hl 2 rfl) ?_
        refine xr_V (q := (RX2, TX2, 3)) (ci := 6) (q0 := 0) (rest := []) (As := [.int ic, .int id, .int ib]) ⟨hx, hb, hml, hown, hts⟩ (ct2_turn l D q1 q2 q3 kI xs ys pm ic id ib oic oid oib) (cwV 3 hts gl_X2_38 rfl rfl rfl (by decide +kernel) ⟨Nat.le_of_ble_eq_true rfl, Nat.le_of_ble_eq_true rfl⟩) nN_mv hN hK hP [0, 1, 2] [0] rfl rfl rfl rfl rfl hl.1 rfl (Nat.le_of_ble_eq_true rfl) dX2_allInLine_37 ⟨Nat.le_of_ble_eq_true rfl, Nat.le_of_ble_eq_true rfl⟩ ?_
        refine lv_if_ne (tgt := 47) hx hb dX2_allInLine_40 (by decide) (fun c4 => ?_) (fun c4 => ?_)
        · refine lv_iconst (v := 0) hx hb dX2_allInLine_47 (by decide) ?_
          exact W.zret (v := (0 : Int32)) hx hb hr rfl (fun t ht hW => ⟨by rw [show fX2_allInLine xs ys ia ib ic id = (0 : Int32) by unfold fX2_allInLine; rw [if_pos c1, if_pos c2, if_pos c3, if_neg c4]], ht⟩) (fun _ h => absurd h List.not_mem_nil) dX2_allInLine_48
        · refine lv_iconst (v := 1) hx hb dX2_allInLine_43 (by decide) ?_
          refine lv_goto (tgt := 48) hx hb dX2_allInLine_44 (by decide) ?_
          exact W.zret (v := (1 : Int32)) hx hb hr rfl (fun t ht hW => ⟨by rw [show fX2_allInLine xs ys ia ib ic id = (1 : Int32) by unfold fX2_allInLine; rw [if_pos c1, if_pos c2, if_pos c3, if_pos c4]], ht⟩) (fun _ h => absurd h List.not_mem_nil) dX2_allInLine_48
def fX2_compareAcross (xs ys : Nat → Int32) (ia : Int32) (ib : Int32) : Int32 := if (fX4_signOf (((xs ia.toNatClampNeg) - (xs ib.toNatClampNeg)).toInt64)) = (0 : Int32) then (fX4_signOf (((ys ia.toNatClampNeg) - (ys ib.toNatClampNeg)).toInt64)) else (fX4_signOf (((xs ia.toNatClampNeg) - (xs ib.toNatClampNeg)).toInt64))
set_option maxHeartbeats 4000000 in
set_option maxRecDepth 100000 in
theorem ct2_compareAcross (l : Launch) (D : va_G) (q1 q2 q3 : Nat) (kI : ClassId) (xs ys : Nat → Int32) (pm : Int32) (ia : Int32) (ib : Int32) (oia : vp_in ia 60) (oib : vp_in ib 60) : Met l yX2_compareAcross (Cond.code yX2_compareAcross cX2_compareAcross 4 (some .int) :: BX) ({ frames := 1, cells := 0, slots := 0, locals := 60 }) (xr_P nN D vwCl [(kI, .int)] (wPl q1 q2 q3 kI xs ys pm) [.ref q1, .int ia, .int ib]) (xr_Q (.int (fX2_compareAcross xs ys ia ib))) 0 0 (fun _ => False) := by
  refine Met.ofW (cc := cX2_compareAcross) (maxL := 4) (ret := (some .int)) (by decide) rfl ?_
  intro p e s m args below meth c s₁ B hml hv
  obtain ⟨rfl, hP, hK, hN⟩ := hv
  have hx := B.exec
  have hb := B.bytes
  have hr := B.returns
  have hts0 := atoms_spec (ws := Cond.code yX2_compareAcross cX2_compareAcross 4 (some .int) :: BX) B.pre
  have hts : ∀ w ∈ BX, w.before _ s = true := fun w h => hts0 w (List.mem_cons_of_mem _ h)
  have hown : s.vm.findClass RX2 = some m.cls := findClass_of_methodNamed B.named
  have hlocks := B.notSynchronized
  have hl := lv_entry ([.ref q1, .int ia, .int ib]) (n := 4) (Nat.le_of_ble_eq_true rfl)
  rw [lg_entry_eq]
  generalize (lg_sl ([.ref q1, .int ia, .int ib]) ++ List.replicate (4 - (lg_sl ([.ref q1, .int ia, .int ib])).length) Slot.unset).toArray = ls at hl ⊢
  have hl : lv_has ls 4 [(0, .ref q1), (1, .int ia), (2, .int ib)] := hl
  refine lv_aload_n hx hb dX2_compareAcross_0 rfl (lv_at hl 0 rfl) ?_
  refine va_get (D := D) (ci := 6) (v := .ref q2) (C := RX2) (T := TX2) (N := 3) hx hb hts hinX2 hown hK hP 0 rfl rfl 0 (by decide) (hts _ fk_X2_9) (fun _ h9 => h9) rfl dX2_compareAcross_1 ?_
  refine lv_iload_n hx hb dX2_compareAcross_4 rfl (lv_at hl 1 rfl) ?_
  refine va_iald hx hb hK hP 1 0 rfl rfl oia dX2_compareAcross_5 ?_
  refine lv_aload_n hx hb dX2_compareAcross_6 rfl (lv_at hl 0 rfl) ?_
  refine va_get (D := D) (ci := 6) (v := .ref q2) (C := RX2) (T := TX2) (N := 3) hx hb hts hinX2 hown hK hP 0 rfl rfl 0 (by decide) (hts _ fk_X2_9) (fun _ h9 => h9) rfl dX2_compareAcross_7 ?_
  refine lv_iload_n hx hb dX2_compareAcross_10 rfl (lv_at hl 2 rfl) ?_
  refine va_iald hx hb hK hP 1 0 rfl rfl oib dX2_compareAcross_11 ?_
  refine lv_isub hx hb dX2_compareAcross_12 ?_
  refine lv_i2l hx hb dX2_compareAcross_13 rfl ?_
  refine xr_SN (rest := []) (As := [.long (((xs ia.toNatClampNeg) - (xs ib.toNatClampNeg)).toInt64)]) ⟨hx, hb, hml, hown, hts⟩ (ct4_signOf l D  (((xs ia.toNatClampNeg) - (xs ib.toNatClampNeg)).toInt64) ) ⟨va_cnB 1 hts (gdC (bx1 gc_X4_signOf)) rfl rfl rfl hN.1 (hts _ ini_X4) (by decide +kernel) ⟨Nat.le_of_ble_eq_true rfl, Nat.le_of_ble_eq_true rfl⟩, hts _ st_X4_signOf, trivial⟩ nN_mv hN hK hP [] [] rfl rfl rfl hl.1 rfl (Nat.le_of_ble_eq_true rfl) dX2_compareAcross_14 ⟨Nat.le_of_ble_eq_true rfl, Nat.le_of_ble_eq_true rfl⟩ ?_
  refine lv_topi (fun z1 ez1 => ?_)
  refine lv_istore_n (lv' := [(3, .int z1), (0, .ref q1), (1, .int ia), (2, .int ib)]) hx hb dX2_compareAcross_17 rfl hl (by decide) rfl (fun ls hl => ?_)
  refine lv_iload_n hx hb dX2_compareAcross_18 rfl (lv_at hl 0 rfl) ?_
  refine lv_if_eq (tgt := 26) hx hb dX2_compareAcross_19 (by decide) (fun c2 => ?_) (fun c2 => ?_)
  · refine lv_aload_n hx hb dX2_compareAcross_26 rfl (lv_at hl 1 rfl) ?_
    refine va_get (D := D) (ci := 6) (v := .ref q3) (C := RX2) (T := TX2) (N := 3) hx hb hts hinX2 hown hK hP 0 rfl rfl 1 (by decide) (hts _ fk_X2_15) (fun _ h9 => h9) rfl dX2_compareAcross_27 ?_
    refine lv_iload_n hx hb dX2_compareAcross_30 rfl (lv_at hl 2 rfl) ?_
    refine va_iald hx hb hK hP 2 0 rfl rfl oia dX2_compareAcross_31 ?_
    refine lv_aload_n hx hb dX2_compareAcross_32 rfl (lv_at hl 1 rfl) ?_
    refine va_get (D := D) (ci := 6) (v := .ref q3) (C := RX2) (T := TX2) (N := 3) hx hb hts hinX2 hown hK hP 0 rfl rfl 1 (by decide) (hts _ fk_X2_15) (fun _ h9 => h9) rfl dX2_compareAcross_33 ?_
    refine lv_iload_n hx hb dX2_compareAcross_36 rfl (lv_at hl 3 rfl) ?_
    refine va_iald hx hb hK hP 2 0 rfl rfl oib dX2_compareAcross_37 ?_
    refine lv_isub hx hb dX2_compareAcross_38 ?_
    refine lv_i2l hx hb dX2_compareAcross_39 rfl ?_
    refine xr_SN (rest := []) (As := [.long (((ys ia.toNatClampNeg) - (ys ib.toNatClampNeg)).toInt64)]) ⟨hx, hb, hml, hown, hts⟩ (ct4_signOf l D  (((ys ia.toNatClampNeg) - (ys ib.toNatClampNeg)).toInt64) ) ⟨va_cnB 1 hts (gdC (bx1 gc_X4_signOf)) rfl rfl rfl hN.1 (hts _ ini_X4) (by decide +kernel) ⟨Nat.le_of_ble_eq_true rfl, Nat.le_of_ble_eq_true rfl⟩, hts _ st_X4_signOf, trivial⟩ nN_mv hN hK hP [] [] rfl rfl rfl hl.1 rfl (Nat.le_of_ble_eq_true rfl) dX2_compareAcross_40 ⟨Nat.le_of_ble_eq_true rfl, Nat.le_of_ble_eq_true rfl⟩ ?_
    subst ez1
    exact W.iret (v := fX4_signOf (((ys ia.toNatClampNeg) - (ys ib.toNatClampNeg)).toInt64)) hx hb hr (fun t ht hW => ⟨by rw [show fX2_compareAcross xs ys ia ib = fX4_signOf (((ys ia.toNatClampNeg) - (ys ib.toNatClampNeg)).toInt64) by unfold fX2_compareAcross; rw [if_pos c2]], ht⟩) (fun _ h => absurd h List.not_mem_nil) dX2_compareAcross_43
  · refine lv_iload_n hx hb dX2_compareAcross_22 rfl (lv_at hl 0 rfl) ?_
    refine lv_goto (tgt := 43) hx hb dX2_compareAcross_23 (by decide) ?_
    subst ez1
    exact W.iret (v := fX4_signOf (((xs ia.toNatClampNeg) - (xs ib.toNatClampNeg)).toInt64)) hx hb hr (fun t ht hW => ⟨by rw [show fX2_compareAcross xs ys ia ib = fX4_signOf (((xs ia.toNatClampNeg) - (xs ib.toNatClampNeg)).toInt64) by unfold fX2_compareAcross; rw [if_neg c2]], ht⟩) (fun _ h => absurd h List.not_mem_nil) dX2_compareAcross_43
def fX2_earlier (xs ys : Nat → Int32) (ia : Int32) (ib : Int32) : Int32 := if (0 : Int32) < (fX2_compareAcross xs ys ia ib) then (ib) else (ia)
set_option maxHeartbeats 4000000 in
set_option maxRecDepth 100000 in
theorem ct2_earlier (l : Launch) (D : va_G) (q1 q2 q3 : Nat) (kI : ClassId) (xs ys : Nat → Int32) (pm : Int32) (ia : Int32) (ib : Int32) (oia : vp_in ia 60) (oib : vp_in ib 60) : Met l yX2_earlier (Cond.code yX2_earlier cX2_earlier 3 (some .int) :: BX) ({ frames := 2, cells := 0, slots := 0, locals := 120 }) (xr_P nN D vwCl [(kI, .int)] (wPl q1 q2 q3 kI xs ys pm) [.ref q1, .int ia, .int ib]) (xr_Q (.int (fX2_earlier xs ys ia ib))) 0 0 (fun _ => False) := by
  refine Met.ofW (cc := cX2_earlier) (maxL := 3) (ret := (some .int)) (by decide) rfl ?_
  intro p e s m args below meth c s₁ B hml hv
  obtain ⟨rfl, hP, hK, hN⟩ := hv
  have hx := B.exec
  have hb := B.bytes
  have hr := B.returns
  have hts0 := atoms_spec (ws := Cond.code yX2_earlier cX2_earlier 3 (some .int) :: BX) B.pre
  have hts : ∀ w ∈ BX, w.before _ s = true := fun w h => hts0 w (List.mem_cons_of_mem _ h)
  have hown : s.vm.findClass RX2 = some m.cls := findClass_of_methodNamed B.named
  have hlocks := B.notSynchronized
  have hl := lv_entry ([.ref q1, .int ia, .int ib]) (n := 3) (Nat.le_of_ble_eq_true rfl)
  rw [lg_entry_eq]
  generalize (lg_sl ([.ref q1, .int ia, .int ib]) ++ List.replicate (3 - (lg_sl ([.ref q1, .int ia, .int ib])).length) Slot.unset).toArray = ls at hl ⊢
  have hl : lv_has ls 3 [(0, .ref q1), (1, .int ia), (2, .int ib)] := hl
  refine lv_aload_n hx hb dX2_earlier_0 rfl (lv_at hl 0 rfl) ?_
  refine lv_iload_n hx hb dX2_earlier_1 rfl (lv_at hl 1 rfl) ?_
  refine lv_iload_n hx hb dX2_earlier_2 rfl (lv_at hl 2 rfl) ?_
  refine xr_V (q := (RX2, TX2, 3)) (ci := 6) (q0 := 0) (rest := []) (As := [.int ia, .int ib]) ⟨hx, hb, hml, hown, hts⟩ (ct2_compareAcross l D q1 q2 q3 kI xs ys pm ia ib oia oib) (cwV 2 hts gl_X2_49 rfl rfl rfl (by decide +kernel) ⟨Nat.le_of_ble_eq_true rfl, Nat.le_of_ble_eq_true rfl⟩) nN_mv hN hK hP [0, 1, 2] [0] rfl rfl rfl rfl rfl hl.1 rfl (Nat.le_of_ble_eq_true rfl) dX2_earlier_3 ⟨Nat.le_of_ble_eq_true rfl, Nat.le_of_ble_eq_true rfl⟩ ?_
  refine lv_if_gt (tgt := 13) hx hb dX2_earlier_6 (by decide) (fun c1 => ?_) (fun c1 => ?_)
  · refine lv_iload_n hx hb dX2_earlier_13 rfl (lv_at hl 2 rfl) ?_
    exact W.iret (v := ib) hx hb hr (fun t ht hW => ⟨by rw [show fX2_earlier xs ys ia ib = ib by unfold fX2_earlier; rw [if_pos c1]], ht⟩) (fun _ h => absurd h List.not_mem_nil) dX2_earlier_14
  · refine lv_iload_n hx hb dX2_earlier_9 rfl (lv_at hl 1 rfl) ?_
    refine lv_goto (tgt := 14) hx hb dX2_earlier_10 (by decide) ?_
    exact W.iret (v := ia) hx hb hr (fun t ht hW => ⟨by rw [show fX2_earlier xs ys ia ib = ia by unfold fX2_earlier; rw [if_neg c1]], ht⟩) (fun _ h => absurd h List.not_mem_nil) dX2_earlier_14
def fX2_later (xs ys : Nat → Int32) (ia : Int32) (ib : Int32) : Int32 := if (0 : Int32) < (fX2_compareAcross xs ys ia ib) then (ia) else (ib)
set_option maxHeartbeats 4000000 in
set_option maxRecDepth 100000 in
theorem ct2_later (l : Launch) (D : va_G) (q1 q2 q3 : Nat) (kI : ClassId) (xs ys : Nat → Int32) (pm : Int32) (ia : Int32) (ib : Int32) (oia : vp_in ia 60) (oib : vp_in ib 60) : Met l yX2_later (Cond.code yX2_later cX2_later 3 (some .int) :: BX) ({ frames := 2, cells := 0, slots := 0, locals := 120 }) (xr_P nN D vwCl [(kI, .int)] (wPl q1 q2 q3 kI xs ys pm) [.ref q1, .int ia, .int ib]) (xr_Q (.int (fX2_later xs ys ia ib))) 0 0 (fun _ => False) := by
  refine Met.ofW (cc := cX2_later) (maxL := 3) (ret := (some .int)) (by decide) rfl ?_
  intro p e s m args below meth c s₁ B hml hv
  obtain ⟨rfl, hP, hK, hN⟩ := hv
  have hx := B.exec
  have hb := B.bytes
  have hr := B.returns
  have hts0 := atoms_spec (ws := Cond.code yX2_later cX2_later 3 (some .int) :: BX) B.pre
  have hts : ∀ w ∈ BX, w.before _ s = true := fun w h => hts0 w (List.mem_cons_of_mem _ h)
  have hown : s.vm.findClass RX2 = some m.cls := findClass_of_methodNamed B.named
  have hlocks := B.notSynchronized
  have hl := lv_entry ([.ref q1, .int ia, .int ib]) (n := 3) (Nat.le_of_ble_eq_true rfl)
  rw [lg_entry_eq]
  generalize (lg_sl ([.ref q1, .int ia, .int ib]) ++ List.replicate (3 - (lg_sl ([.ref q1, .int ia, .int ib])).length) Slot.unset).toArray = ls at hl ⊢
  have hl : lv_has ls 3 [(0, .ref q1), (1, .int ia), (2, .int ib)] := hl
  refine lv_aload_n hx hb dX2_later_0 rfl (lv_at hl 0 rfl) ?_
  refine lv_iload_n hx hb dX2_later_1 rfl (lv_at hl 1 rfl) ?_
  refine lv_iload_n hx hb dX2_later_2 rfl (lv_at hl 2 rfl) ?_
  refine xr_V (q := (RX2, TX2, 3)) (ci := 6) (q0 := 0) (rest := []) (As := [.int ia, .int ib]) ⟨hx, hb, hml, hown, hts⟩ (ct2_compareAcross l D q1 q2 q3 kI xs ys pm ia ib oia oib) (cwV 2 hts gl_X2_49 rfl rfl rfl (by decide +kernel) ⟨Nat.le_of_ble_eq_true rfl, Nat.le_of_ble_eq_true rfl⟩) nN_mv hN hK hP [0, 1, 2] [0] rfl rfl rfl rfl rfl hl.1 rfl (Nat.le_of_ble_eq_true rfl) dX2_later_3 ⟨Nat.le_of_ble_eq_true rfl, Nat.le_of_ble_eq_true rfl⟩ ?_
  refine lv_if_gt (tgt := 13) hx hb dX2_later_6 (by decide) (fun c1 => ?_) (fun c1 => ?_)
  · refine lv_iload_n hx hb dX2_later_13 rfl (lv_at hl 1 rfl) ?_
    exact W.iret (v := ia) hx hb hr (fun t ht hW => ⟨by rw [show fX2_later xs ys ia ib = ia by unfold fX2_later; rw [if_pos c1]], ht⟩) (fun _ h => absurd h List.not_mem_nil) dX2_later_14
  · refine lv_iload_n hx hb dX2_later_9 rfl (lv_at hl 2 rfl) ?_
    refine lv_goto (tgt := 14) hx hb dX2_later_10 (by decide) ?_
    exact W.iret (v := ib) hx hb hr (fun t ht hW => ⟨by rw [show fX2_later xs ys ia ib = ib by unfold fX2_later; rw [if_neg c1]], ht⟩) (fun _ h => absurd h List.not_mem_nil) dX2_later_14
theorem o_earlier {xs ys : Nat → Int32} {ia ib : Int32} (ha : vp_in ia 60) (hb : vp_in ib 60) : vp_in (fX2_earlier xs ys ia ib) 60 := by
  unfold fX2_earlier; split <;> assumption
theorem o_later {xs ys : Nat → Int32} {ia ib : Int32} (ha : vp_in ia 60) (hb : vp_in ib 60) : vp_in (fX2_later xs ys ia ib) 60 := by
  unfold fX2_later; split <;> assumption
def fX2_overlap (xs ys : Nat → Int32) (ia : Int32) (ib : Int32) (ic : Int32) (id : Int32) : Int32 := if (fX2_compareAcross xs ys (fX2_later xs ys (fX2_earlier xs ys ia ib) (fX2_earlier xs ys ic id)) (fX2_earlier xs ys (fX2_later xs ys ia ib) (fX2_later xs ys ic id))) ≤ (0 : Int32) then (if (fX2_compareAcross xs ys (fX2_later xs ys (fX2_earlier xs ys ia ib) (fX2_earlier xs ys ic id)) (fX2_earlier xs ys (fX2_later xs ys ia ib) (fX2_later xs ys ic id))) = (0 : Int32) then ((2 : Int32)) else ((3 : Int32))) else ((0 : Int32))
set_option maxHeartbeats 4000000 in
set_option maxRecDepth 100000 in
theorem ct2_overlap (l : Launch) (D : va_G) (q1 q2 q3 : Nat) (kI : ClassId) (xs ys : Nat → Int32) (pm : Int32) (ia : Int32) (ib : Int32) (ic : Int32) (id : Int32) (oia : vp_in ia 60) (oib : vp_in ib 60) (oic : vp_in ic 60) (oid : vp_in id 60) : Met l yX2_overlap (Cond.code yX2_overlap cX2_overlap 8 (some .int) :: BX) ({ frames := 3, cells := 0, slots := 0, locals := 180 }) (xr_P nN D vwCl [(kI, .int)] (wPl q1 q2 q3 kI xs ys pm) [.ref q1, .int ia, .int ib, .int ic, .int id]) (xr_Q (.int (fX2_overlap xs ys ia ib ic id))) 0 0 (fun _ => False) := by
  refine Met.ofW (cc := cX2_overlap) (maxL := 8) (ret := (some .int)) (by decide) rfl ?_
  intro p e s m args below meth c s₁ B hml hv
  obtain ⟨rfl, hP, hK, hN⟩ := hv
  have hx := B.exec
  have hb := B.bytes
  have hr := B.returns
  have hts0 := atoms_spec (ws := Cond.code yX2_overlap cX2_overlap 8 (some .int) :: BX) B.pre
  have hts : ∀ w ∈ BX, w.before _ s = true := fun w h => hts0 w (List.mem_cons_of_mem _ h)
  have hown : s.vm.findClass RX2 = some m.cls := findClass_of_methodNamed B.named
  have hlocks := B.notSynchronized
  have hl := lv_entry ([.ref q1, .int ia, .int ib, .int ic, .int id]) (n := 8) (Nat.le_of_ble_eq_true rfl)
  rw [lg_entry_eq]
  generalize (lg_sl ([.ref q1, .int ia, .int ib, .int ic, .int id]) ++ List.replicate (8 - (lg_sl ([.ref q1, .int ia, .int ib, .int ic, .int id])).length) Slot.unset).toArray = ls at hl ⊢
  have hl : lv_has ls 8 [(0, .ref q1), (1, .int ia), (2, .int ib), (3, .int ic), (4, .int id)] := hl
  refine lv_aload_n hx hb dX2_overlap_0 rfl (lv_at hl 0 rfl) ?_
  refine lv_aload_n hx hb dX2_overlap_1 rfl (lv_at hl 0 rfl) ?_
  refine lv_iload_n hx hb dX2_overlap_2 rfl (lv_at hl 1 rfl) ?_
  refine lv_iload_n hx hb dX2_overlap_3 rfl (lv_at hl 2 rfl) ?_
  refine xr_V (q := (RX2, TX2, 3)) (ci := 6) (q0 := 0) (rest := [.ref q1]) (As := [.int ia, .int ib]) ⟨hx, hb, hml, hown, hts⟩ (ct2_earlier l D q1 q2 q3 kI xs ys pm ia ib oia oib) (cwV 2 hts gl_X2_42 rfl rfl rfl (by decide +kernel) ⟨Nat.le_of_ble_eq_true rfl, Nat.le_of_ble_eq_true rfl⟩) nN_mv hN hK hP [0, 1, 2] [0] rfl rfl rfl rfl rfl hl.1 rfl (Nat.le_of_ble_eq_true rfl) dX2_overlap_4 ⟨Nat.le_of_ble_eq_true rfl, Nat.le_of_ble_eq_true rfl⟩ ?_
  refine lv_aload_n hx hb dX2_overlap_7 rfl (lv_at hl 0 rfl) ?_
  refine lv_iload_n hx hb dX2_overlap_8 rfl (lv_at hl 3 rfl) ?_
  refine lv_iload hx hb dX2_overlap_9 (lv_at hl 4 rfl) ?_
  refine xr_V (q := (RX2, TX2, 3)) (ci := 6) (q0 := 0) (rest := [.int (fX2_earlier xs ys ia ib), .ref q1]) (As := [.int ic, .int id]) ⟨hx, hb, hml, hown, hts⟩ (ct2_earlier l D q1 q2 q3 kI xs ys pm ic id oic oid) (cwV 2 hts gl_X2_42 rfl rfl rfl (by decide +kernel) ⟨Nat.le_of_ble_eq_true rfl, Nat.le_of_ble_eq_true rfl⟩) nN_mv hN hK hP [0, 1, 2] [0] rfl rfl rfl rfl rfl hl.1 rfl (Nat.le_of_ble_eq_true rfl) dX2_overlap_11 ⟨Nat.le_of_ble_eq_true rfl, Nat.le_of_ble_eq_true rfl⟩ ?_
  refine xr_V (q := (RX2, TX2, 3)) (ci := 6) (q0 := 0) (rest := []) (As := [.int (fX2_earlier xs ys ia ib), .int (fX2_earlier xs ys ic id)]) ⟨hx, hb, hml, hown, hts⟩ (ct2_later l D q1 q2 q3 kI xs ys pm (fX2_earlier xs ys ia ib) (fX2_earlier xs ys ic id) (o_earlier oia oib) (o_earlier oic oid)) (cwV 2 hts gl_X2_46 rfl rfl rfl (by decide +kernel) ⟨Nat.le_of_ble_eq_true rfl, Nat.le_of_ble_eq_true rfl⟩) nN_mv hN hK hP [0, 1, 2] [0] rfl rfl rfl rfl rfl hl.1 rfl (Nat.le_of_ble_eq_true rfl) dX2_overlap_14 ⟨Nat.le_of_ble_eq_true rfl, Nat.le_of_ble_eq_true rfl⟩ ?_
  refine lv_topi (fun z1 ez1 => ?_)
  refine lv_istore (lv' := [(5, .int z1), (0, .ref q1), (1, .int ia), (2, .int ib), (3, .int ic), (4, .int id)]) hx hb dX2_overlap_17 hl (by decide) rfl (fun ls hl => ?_)
  refine lv_aload_n hx hb dX2_overlap_19 rfl (lv_at hl 1 rfl) ?_
  refine lv_aload_n hx hb dX2_overlap_20 rfl (lv_at hl 1 rfl) ?_
  refine lv_iload_n hx hb dX2_overlap_21 rfl (lv_at hl 2 rfl) ?_
  refine lv_iload_n hx hb dX2_overlap_22 rfl (lv_at hl 3 rfl) ?_
  refine xr_V (q := (RX2, TX2, 3)) (ci := 6) (q0 := 0) (rest := [.ref q1]) (As := [.int ia, .int ib]) ⟨hx, hb, hml, hown, hts⟩ (ct2_later l D q1 q2 q3 kI xs ys pm ia ib oia oib) (cwV 2 hts gl_X2_46 rfl rfl rfl (by decide +kernel) ⟨Nat.le_of_ble_eq_true rfl, Nat.le_of_ble_eq_true rfl⟩) nN_mv hN hK hP [0, 1, 2] [0] rfl rfl rfl rfl rfl hl.1 rfl (Nat.le_of_ble_eq_true rfl) dX2_overlap_23 ⟨Nat.le_of_ble_eq_true rfl, Nat.le_of_ble_eq_true rfl⟩ ?_
  refine lv_aload_n hx hb dX2_overlap_26 rfl (lv_at hl 1 rfl) ?_
  refine lv_iload_n hx hb dX2_overlap_27 rfl (lv_at hl 4 rfl) ?_
  refine lv_iload hx hb dX2_overlap_28 (lv_at hl 5 rfl) ?_
  refine xr_V (q := (RX2, TX2, 3)) (ci := 6) (q0 := 0) (rest := [.int (fX2_later xs ys ia ib), .ref q1]) (As := [.int ic, .int id]) ⟨hx, hb, hml, hown, hts⟩ (ct2_later l D q1 q2 q3 kI xs ys pm ic id oic oid) (cwV 2 hts gl_X2_46 rfl rfl rfl (by decide +kernel) ⟨Nat.le_of_ble_eq_true rfl, Nat.le_of_ble_eq_true rfl⟩) nN_mv hN hK hP [0, 1, 2] [0] rfl rfl rfl rfl rfl hl.1 rfl (Nat.le_of_ble_eq_true rfl) dX2_overlap_30 ⟨Nat.le_of_ble_eq_true rfl, Nat.le_of_ble_eq_true rfl⟩ ?_
  refine xr_V (q := (RX2, TX2, 3)) (ci := 6) (q0 := 0) (rest := []) (As := [.int (fX2_later xs ys ia ib), .int (fX2_later xs ys ic id)]) ⟨hx, hb, hml, hown, hts⟩ (ct2_earlier l D q1 q2 q3 kI xs ys pm (fX2_later xs ys ia ib) (fX2_later xs ys ic id) (o_later oia oib) (o_later oic oid)) (cwV 2 hts gl_X2_42 rfl rfl rfl (by decide +kernel) ⟨Nat.le_of_ble_eq_true rfl, Nat.le_of_ble_eq_true rfl⟩) nN_mv hN hK hP [0, 1, 2] [0] rfl rfl rfl rfl rfl hl.1 rfl (Nat.le_of_ble_eq_true rfl) dX2_overlap_33 ⟨Nat.le_of_ble_eq_true rfl, Nat.le_of_ble_eq_true rfl⟩ ?_
  refine lv_topi (fun z2 ez2 => ?_)
  refine lv_istore (lv' := [(6, .int z2), (5, .int z1), (0, .ref q1), (1, .int ia), (2, .int ib), (3, .int ic), (4, .int id)]) hx hb dX2_overlap_36 hl (by decide) rfl (fun ls hl => ?_)
  refine lv_aload_n hx hb dX2_overlap_38 rfl (lv_at hl 2 rfl) ?_
  refine lv_iload hx hb dX2_overlap_39 (lv_at hl 1 rfl) ?_
  refine lv_iload hx hb dX2_overlap_41 (lv_at hl 0 rfl) ?_
  refine xr_V (q := (RX2, TX2, 3)) (ci := 6) (q0 := 0) (rest := []) (As := [.int z1, .int z2]) ⟨hx, hb, hml, hown, hts⟩ (ct2_compareAcross l D q1 q2 q3 kI xs ys pm z1 z2 (by rw [ez1]; exact (o_later (o_earlier oia oib) (o_earlier oic oid))) (by rw [ez2]; exact (o_earlier (o_later oia oib) (o_later oic oid)))) (cwV 2 hts gl_X2_49 rfl rfl rfl (by decide +kernel) ⟨Nat.le_of_ble_eq_true rfl, Nat.le_of_ble_eq_true rfl⟩) nN_mv hN hK hP [0, 1, 2] [0] rfl rfl rfl rfl rfl hl.1 rfl (Nat.le_of_ble_eq_true rfl) dX2_overlap_43 ⟨Nat.le_of_ble_eq_true rfl, Nat.le_of_ble_eq_true rfl⟩ ?_
  refine lv_topi (fun z3 ez3 => ?_)
  refine lv_istore (lv' := [(7, .int z3), (6, .int z2), (5, .int z1), (0, .ref q1), (1, .int ia), (2, .int ib), (3, .int ic), (4, .int id)]) hx hb dX2_overlap_46 hl (by decide) rfl (fun ls hl => ?_)
  refine lv_iload hx hb dX2_overlap_48 (lv_at hl 0 rfl) ?_
  refine lv_if_le (tgt := 55) hx hb dX2_overlap_50 (by decide) (fun c4 => ?_) (fun c4 => ?_)
  · refine lv_iload hx hb dX2_overlap_55 (lv_at hl 0 rfl) ?_
    refine lv_if_ne (tgt := 64) hx hb dX2_overlap_57 (by decide) (fun c5 => ?_) (fun c5 => ?_)
    · refine lv_iconst (v := 3) hx hb dX2_overlap_64 (by decide) ?_
      subst ez3 ez2 ez1
      exact W.iret (v := (3 : Int32)) hx hb hr (fun t ht hW => ⟨by rw [show fX2_overlap xs ys ia ib ic id = (3 : Int32) by unfold fX2_overlap; rw [if_pos c4, if_neg c5]], ht⟩) (fun _ h => absurd h List.not_mem_nil) dX2_overlap_65
    · refine lv_iconst (v := 2) hx hb dX2_overlap_60 (by decide) ?_
      refine lv_goto (tgt := 65) hx hb dX2_overlap_61 (by decide) ?_
      subst ez3 ez2 ez1
      exact W.iret (v := (2 : Int32)) hx hb hr (fun t ht hW => ⟨by rw [show fX2_overlap xs ys ia ib ic id = (2 : Int32) by unfold fX2_overlap; rw [if_pos c4, if_pos c5]], ht⟩) (fun _ h => absurd h List.not_mem_nil) dX2_overlap_65
  · refine lv_iconst (v := 0) hx hb dX2_overlap_53 (by decide) ?_
    subst ez3 ez2 ez1
    exact W.iret (v := (0 : Int32)) hx hb hr (fun t ht hW => ⟨by rw [show fX2_overlap xs ys ia ib ic id = (0 : Int32) by unfold fX2_overlap; rw [if_neg c4]], ht⟩) (fun _ h => absurd h List.not_mem_nil) dX2_overlap_54
def fX2_meeting (xs ys : Nat → Int32) (ia : Int32) (ib : Int32) (ic : Int32) (id : Int32) : Int32 := if (0 : Int32) ≤ ((fX2_turn xs ys ia ib ic) * (fX2_turn xs ys ia ib id)) then (if (fX2_onWay xs ys ia ib ic) = (0 : Int32) then (if (fX2_onWay xs ys ia ib id) = (0 : Int32) then (if (fX2_onWay xs ys ic id ia) = (0 : Int32) then (if (fX2_onWay xs ys ic id ib) = (0 : Int32) then ((0 : Int32)) else ((2 : Int32))) else ((2 : Int32))) else ((2 : Int32))) else ((2 : Int32))) else (if (0 : Int32) ≤ ((fX2_turn xs ys ic id ia) * (fX2_turn xs ys ic id ib)) then (if (fX2_onWay xs ys ia ib ic) = (0 : Int32) then (if (fX2_onWay xs ys ia ib id) = (0 : Int32) then (if (fX2_onWay xs ys ic id ia) = (0 : Int32) then (if (fX2_onWay xs ys ic id ib) = (0 : Int32) then ((0 : Int32)) else ((2 : Int32))) else ((2 : Int32))) else ((2 : Int32))) else ((2 : Int32))) else ((1 : Int32)))
set_option maxHeartbeats 4000000 in
set_option maxRecDepth 100000 in
theorem ct2_meeting (l : Launch) (D : va_G) (q1 q2 q3 : Nat) (kI : ClassId) (xs ys : Nat → Int32) (pm : Int32) (ia : Int32) (ib : Int32) (ic : Int32) (id : Int32) (oia : vp_in ia 60) (oib : vp_in ib 60) (oic : vp_in ic 60) (oid : vp_in id 60) : Met l yX2_meeting (Cond.code yX2_meeting cX2_meeting 6 (some .int) :: BX) ({ frames := 3, cells := 0, slots := 0, locals := 180 }) (xr_P nN D vwCl [(kI, .int)] (wPl q1 q2 q3 kI xs ys pm) [.ref q1, .int ia, .int ib, .int ic, .int id]) (xr_Q (.int (fX2_meeting xs ys ia ib ic id))) 0 0 (fun _ => False) := by
  refine Met.ofW (cc := cX2_meeting) (maxL := 6) (ret := (some .int)) (by decide) rfl ?_
  intro p e s m args below meth c s₁ B hml hv
  obtain ⟨rfl, hP, hK, hN⟩ := hv
  have hx := B.exec
  have hb := B.bytes
  have hr := B.returns
  have hts0 := atoms_spec (ws := Cond.code yX2_meeting cX2_meeting 6 (some .int) :: BX) B.pre
  have hts : ∀ w ∈ BX, w.before _ s = true := fun w h => hts0 w (List.mem_cons_of_mem _ h)
  have hown : s.vm.findClass RX2 = some m.cls := findClass_of_methodNamed B.named
  have hlocks := B.notSynchronized
  have hl := lv_entry ([.ref q1, .int ia, .int ib, .int ic, .int id]) (n := 6) (Nat.le_of_ble_eq_true rfl)
  rw [lg_entry_eq]
  generalize (lg_sl ([.ref q1, .int ia, .int ib, .int ic, .int id]) ++ List.replicate (6 - (lg_sl ([.ref q1, .int ia, .int ib, .int ic, .int id])).length) Slot.unset).toArray = ls at hl ⊢
  have hl : lv_has ls 6 [(0, .ref q1), (1, .int ia), (2, .int ib), (3, .int ic), (4, .int id)] := hl
  refine lv_aload_n hx hb dX2_meeting_0 rfl (lv_at hl 0 rfl) ?_
  refine lv_iload_n hx hb dX2_meeting_1 rfl (lv_at hl 1 rfl) ?_
  refine lv_iload_n hx hb dX2_meeting_2 rfl (lv_at hl 2 rfl) ?_
  refine lv_iload_n hx hb dX2_meeting_3 rfl (lv_at hl 3 rfl) ?_
  refine xr_V (q := (RX2, TX2, 3)) (ci := 6) (q0 := 0) (rest := []) (As := [.int ia, .int ib, .int ic]) ⟨hx, hb, hml, hown, hts⟩ (ct2_turn l D q1 q2 q3 kI xs ys pm ia ib ic oia oib oic) (cwV 3 hts gl_X2_38 rfl rfl rfl (by decide +kernel) ⟨Nat.le_of_ble_eq_true rfl, Nat.le_of_ble_eq_true rfl⟩) nN_mv hN hK hP [0, 1, 2] [0] rfl rfl rfl rfl rfl hl.1 rfl (Nat.le_of_ble_eq_true rfl) dX2_meeting_4 ⟨Nat.le_of_ble_eq_true rfl, Nat.le_of_ble_eq_true rfl⟩ ?_
  refine lv_aload_n hx hb dX2_meeting_7 rfl (lv_at hl 0 rfl) ?_
  refine lv_iload_n hx hb dX2_meeting_8 rfl (lv_at hl 1 rfl) ?_
  refine lv_iload_n hx hb dX2_meeting_9 rfl (lv_at hl 2 rfl) ?_
  refine lv_iload hx hb dX2_meeting_10 (lv_at hl 4 rfl) ?_
  refine xr_V (q := (RX2, TX2, 3)) (ci := 6) (q0 := 0) (rest := [.int (fX2_turn xs ys ia ib ic)]) (As := [.int ia, .int ib, .int id]) ⟨hx, hb, hml, hown, hts⟩ (ct2_turn l D q1 q2 q3 kI xs ys pm ia ib id oia oib oid) (cwV 3 hts gl_X2_38 rfl rfl rfl (by decide +kernel) ⟨Nat.le_of_ble_eq_true rfl, Nat.le_of_ble_eq_true rfl⟩) nN_mv hN hK hP [0, 1, 2] [0] rfl rfl rfl rfl rfl hl.1 rfl (Nat.le_of_ble_eq_true rfl) dX2_meeting_12 ⟨Nat.le_of_ble_eq_true rfl, Nat.le_of_ble_eq_true rfl⟩ ?_
  refine lv_imul hx hb dX2_meeting_15 ?_
  refine lv_if_ge (tgt := 41) hx hb dX2_meeting_16 (by decide) (fun c1 => ?_) (fun c1 => ?_)
  · refine lv_aload_n hx hb dX2_meeting_41 rfl (lv_at hl 0 rfl) ?_
    refine lv_iload_n hx hb dX2_meeting_42 rfl (lv_at hl 1 rfl) ?_
    refine lv_iload_n hx hb dX2_meeting_43 rfl (lv_at hl 2 rfl) ?_
    refine lv_iload_n hx hb dX2_meeting_44 rfl (lv_at hl 3 rfl) ?_
    refine xr_V (q := (RX2, TX2, 3)) (ci := 6) (q0 := 0) (rest := []) (As := [.int ia, .int ib, .int ic]) ⟨hx, hb, hml, hown, hts⟩ (ct2_onWay l D q1 q2 q3 kI xs ys pm ia ib ic oia oib oic) (cwV 3 hts gl_X2_52 rfl rfl rfl (by decide +kernel) ⟨Nat.le_of_ble_eq_true rfl, Nat.le_of_ble_eq_true rfl⟩) nN_mv hN hK hP [0, 1, 2] [0] rfl rfl rfl rfl rfl hl.1 rfl (Nat.le_of_ble_eq_true rfl) dX2_meeting_45 ⟨Nat.le_of_ble_eq_true rfl, Nat.le_of_ble_eq_true rfl⟩ ?_
    refine lv_if_ne (tgt := 84) hx hb dX2_meeting_48 (by decide) (fun c2 => ?_) (fun c2 => ?_)
    · refine lv_iconst (v := 1) hx hb dX2_meeting_84 (by decide) ?_
      refine lv_goto (tgt := 89) hx hb dX2_meeting_85 (by decide) ?_
      refine lv_istore (lv' := [(5, .int (1 : Int32)), (0, .ref q1), (1, .int ia), (2, .int ib), (3, .int ic), (4, .int id)]) hx hb dX2_meeting_89 hl (by decide) rfl (fun ls hl => ?_)
      refine lv_iload hx hb dX2_meeting_91 (lv_at hl 0 rfl) ?_
      refine lv_if_eq (tgt := 100) hx hb dX2_meeting_93 (by decide) (fun c3 => ?_) (fun c3 => ?_)
      · exact absurd c3 (by decide)
      · refine lv_iconst (v := 2) hx hb dX2_meeting_96 (by decide) ?_
        refine lv_goto (tgt := 101) hx hb dX2_meeting_97 (by decide) ?_
        exact W.iret (v := (2 : Int32)) hx hb hr (fun t ht hW => ⟨by rw [show fX2_meeting xs ys ia ib ic id = (2 : Int32) by unfold fX2_meeting; rw [if_pos c1, if_neg c2]], ht⟩) (fun _ h => absurd h List.not_mem_nil) dX2_meeting_101
    · refine lv_aload_n hx hb dX2_meeting_51 rfl (lv_at hl 0 rfl) ?_
      refine lv_iload_n hx hb dX2_meeting_52 rfl (lv_at hl 1 rfl) ?_
      refine lv_iload_n hx hb dX2_meeting_53 rfl (lv_at hl 2 rfl) ?_
      refine lv_iload hx hb dX2_meeting_54 (lv_at hl 4 rfl) ?_
      refine xr_V (q := (RX2, TX2, 3)) (ci := 6) (q0 := 0) (rest := []) (As := [.int ia, .int ib, .int id]) ⟨hx, hb, hml, hown, hts⟩ (ct2_onWay l D q1 q2 q3 kI xs ys pm ia ib id oia oib oid) (cwV 3 hts gl_X2_52 rfl rfl rfl (by decide +kernel) ⟨Nat.le_of_ble_eq_true rfl, Nat.le_of_ble_eq_true rfl⟩) nN_mv hN hK hP [0, 1, 2] [0] rfl rfl rfl rfl rfl hl.1 rfl (Nat.le_of_ble_eq_true rfl) dX2_meeting_56 ⟨Nat.le_of_ble_eq_true rfl, Nat.le_of_ble_eq_true rfl⟩ ?_
      refine lv_if_ne (tgt := 84) hx hb dX2_meeting_59 (by decide) (fun c4 => ?_) (fun c4 => ?_)
      · refine lv_iconst (v := 1) hx hb dX2_meeting_84 (by decide) ?_
        refine lv_goto (tgt := 89) hx hb dX2_meeting_85 (by decide) ?_
        refine lv_istore (lv' := [(5, .int (1 : Int32)), (0, .ref q1), (1, .int ia), (2, .int ib), (3, .int ic), (4, .int id)]) hx hb dX2_meeting_89 hl (by decide) rfl (fun ls hl => ?_)
        refine lv_iload hx hb dX2_meeting_91 (lv_at hl 0 rfl) ?_
        refine lv_if_eq (tgt := 100) hx hb dX2_meeting_93 (by decide) (fun c5 => ?_) (fun c5 => ?_)
        · exact absurd c5 (by decide)
        · refine lv_iconst (v := 2) hx hb dX2_meeting_96 (by decide) ?_
          refine lv_goto (tgt := 101) hx hb dX2_meeting_97 (by decide) ?_
          exact W.iret (v := (2 : Int32)) hx hb hr (fun t ht hW => ⟨by rw [show fX2_meeting xs ys ia ib ic id = (2 : Int32) by unfold fX2_meeting; rw [if_pos c1, if_pos c2, if_neg c4]], ht⟩) (fun _ h => absurd h List.not_mem_nil) dX2_meeting_101
      · refine lv_aload_n hx hb dX2_meeting_62 rfl (lv_at hl 0 rfl) ?_
        refine lv_iload_n hx hb dX2_meeting_63 rfl (lv_at hl 3 rfl) ?_
        refine lv_iload hx hb dX2_meeting_64 (lv_at hl 4 rfl) ?_
        refine lv_iload_n hx hb dX2_meeting_66 rfl (lv_at hl 1 rfl) ?_
        refine xr_V (q := (RX2, TX2, 3)) (ci := 6) (q0 := 0) (rest := []) (As := [.int ic, .int id, .int ia]) ⟨hx, hb, hml, hown, hts⟩ (ct2_onWay l D q1 q2 q3 kI xs ys pm ic id ia oic oid oia) (cwV 3 hts gl_X2_52 rfl rfl rfl (by decide +kernel) ⟨Nat.le_of_ble_eq_true rfl, Nat.le_of_ble_eq_true rfl⟩) nN_mv hN hK hP [0, 1, 2] [0] rfl rfl rfl rfl rfl hl.1 rfl (Nat.le_of_ble_eq_true rfl) dX2_meeting_67 ⟨Nat.le_of_ble_eq_true rfl, Nat.le_of_ble_eq_true rfl⟩ ?_
        refine lv_if_ne (tgt := 84) hx hb dX2_meeting_70 (by decide) (fun c6 => ?_) (fun c6 => ?_)
        · refine lv_iconst (v := 1) hx hb dX2_meeting_84 (by decide) ?_
          refine lv_goto (tgt := 89) hx hb dX2_meeting_85 (by decide) ?_
          refine lv_istore (lv' := [(5, .int (1 : Int32)), (0, .ref q1), (1, .int ia), (2, .int ib), (3, .int ic), (4, .int id)]) hx hb dX2_meeting_89 hl (by decide) rfl (fun ls hl => ?_)
          refine lv_iload hx hb dX2_meeting_91 (lv_at hl 0 rfl) ?_
          refine lv_if_eq (tgt := 100) hx hb dX2_meeting_93 (by decide) (fun c7 => ?_) (fun c7 => ?_)
          · exact absurd c7 (by decide)
          · refine lv_iconst (v := 2) hx hb dX2_meeting_96 (by decide) ?_
            refine lv_goto (tgt := 101) hx hb dX2_meeting_97 (by decide) ?_
            exact W.iret (v := (2 : Int32)) hx hb hr (fun t ht hW => ⟨by rw [show fX2_meeting xs ys ia ib ic id = (2 : Int32) by unfold fX2_meeting; rw [if_pos c1, if_pos c2, if_pos c4, if_neg c6]], ht⟩) (fun _ h => absurd h List.not_mem_nil) dX2_meeting_101
        · refine lv_aload_n hx hb dX2_meeting_73 rfl (lv_at hl 0 rfl) ?_
          refine lv_iload_n hx hb dX2_meeting_74 rfl (lv_at hl 3 rfl) ?_
          refine lv_iload hx hb dX2_meeting_75 (lv_at hl 4 rfl) ?_
          refine lv_iload_n hx hb dX2_meeting_77 rfl (lv_at hl 2 rfl) ?_
          refine xr_V (q := (RX2, TX2, 3)) (ci := 6) (q0 := 0) (rest := []) (As := [.int ic, .int id, .int ib]) ⟨hx, hb, hml, hown, hts⟩ (ct2_onWay l D q1 q2 q3 kI xs ys pm ic id ib oic oid oib) (cwV 3 hts gl_X2_52 rfl rfl rfl (by decide +kernel) ⟨Nat.le_of_ble_eq_true rfl, Nat.le_of_ble_eq_true rfl⟩) nN_mv hN hK hP [0, 1, 2] [0] rfl rfl rfl rfl rfl hl.1 rfl (Nat.le_of_ble_eq_true rfl) dX2_meeting_78 ⟨Nat.le_of_ble_eq_true rfl, Nat.le_of_ble_eq_true rfl⟩ ?_
          refine lv_if_eq (tgt := 88) hx hb dX2_meeting_81 (by decide) (fun c8 => ?_) (fun c8 => ?_)
          · refine lv_iconst (v := 0) hx hb dX2_meeting_88 (by decide) ?_
            refine lv_istore (lv' := [(5, .int (0 : Int32)), (0, .ref q1), (1, .int ia), (2, .int ib), (3, .int ic), (4, .int id)]) hx hb dX2_meeting_89 hl (by decide) rfl (fun ls hl => ?_)
            refine lv_iload hx hb dX2_meeting_91 (lv_at hl 0 rfl) ?_
            refine lv_if_eq (tgt := 100) hx hb dX2_meeting_93 (by decide) (fun c9 => ?_) (fun c9 => ?_)
            · refine lv_iconst (v := 0) hx hb dX2_meeting_100 (by decide) ?_
              exact W.iret (v := (0 : Int32)) hx hb hr (fun t ht hW => ⟨by rw [show fX2_meeting xs ys ia ib ic id = (0 : Int32) by unfold fX2_meeting; rw [if_pos c1, if_pos c2, if_pos c4, if_pos c6, if_pos c8]], ht⟩) (fun _ h => absurd h List.not_mem_nil) dX2_meeting_101
            · exact absurd (by decide) c9
          · refine lv_iconst (v := 1) hx hb dX2_meeting_84 (by decide) ?_
            refine lv_goto (tgt := 89) hx hb dX2_meeting_85 (by decide) ?_
            refine lv_istore (lv' := [(5, .int (1 : Int32)), (0, .ref q1), (1, .int ia), (2, .int ib), (3, .int ic), (4, .int id)]) hx hb dX2_meeting_89 hl (by decide) rfl (fun ls hl => ?_)
            refine lv_iload hx hb dX2_meeting_91 (lv_at hl 0 rfl) ?_
            refine lv_if_eq (tgt := 100) hx hb dX2_meeting_93 (by decide) (fun c10 => ?_) (fun c10 => ?_)
            · exact absurd c10 (by decide)
            · refine lv_iconst (v := 2) hx hb dX2_meeting_96 (by decide) ?_
              refine lv_goto (tgt := 101) hx hb dX2_meeting_97 (by decide) ?_
              exact W.iret (v := (2 : Int32)) hx hb hr (fun t ht hW => ⟨by rw [show fX2_meeting xs ys ia ib ic id = (2 : Int32) by unfold fX2_meeting; rw [if_pos c1, if_pos c2, if_pos c4, if_pos c6, if_neg c8]], ht⟩) (fun _ h => absurd h List.not_mem_nil) dX2_meeting_101
  · refine lv_aload_n hx hb dX2_meeting_19 rfl (lv_at hl 0 rfl) ?_
    refine lv_iload_n hx hb dX2_meeting_20 rfl (lv_at hl 3 rfl) ?_
    refine lv_iload hx hb dX2_meeting_21 (lv_at hl 4 rfl) ?_
    refine lv_iload_n hx hb dX2_meeting_23 rfl (lv_at hl 1 rfl) ?_
    refine xr_V (q := (RX2, TX2, 3)) (ci := 6) (q0 := 0) (rest := []) (As := [.int ic, .int id, .int ia]) ⟨hx, hb, hml, hown, hts⟩ (ct2_turn l D q1 q2 q3 kI xs ys pm ic id ia oic oid oia) (cwV 3 hts gl_X2_38 rfl rfl rfl (by decide +kernel) ⟨Nat.le_of_ble_eq_true rfl, Nat.le_of_ble_eq_true rfl⟩) nN_mv hN hK hP [0, 1, 2] [0] rfl rfl rfl rfl rfl hl.1 rfl (Nat.le_of_ble_eq_true rfl) dX2_meeting_24 ⟨Nat.le_of_ble_eq_true rfl, Nat.le_of_ble_eq_true rfl⟩ ?_
    refine lv_aload_n hx hb dX2_meeting_27 rfl (lv_at hl 0 rfl) ?_
    refine lv_iload_n hx hb dX2_meeting_28 rfl (lv_at hl 3 rfl) ?_
    refine lv_iload hx hb dX2_meeting_29 (lv_at hl 4 rfl) ?_
    refine lv_iload_n hx hb dX2_meeting_31 rfl (lv_at hl 2 rfl) ?_
    refine xr_V (q := (RX2, TX2, 3)) (ci := 6) (q0 := 0) (rest := [.int (fX2_turn xs ys ic id ia)]) (As := [.int ic, .int id, .int ib]) ⟨hx, hb, hml, hown, hts⟩ (ct2_turn l D q1 q2 q3 kI xs ys pm ic id ib oic oid oib) (cwV 3 hts gl_X2_38 rfl rfl rfl (by decide +kernel) ⟨Nat.le_of_ble_eq_true rfl, Nat.le_of_ble_eq_true rfl⟩) nN_mv hN hK hP [0, 1, 2] [0] rfl rfl rfl rfl rfl hl.1 rfl (Nat.le_of_ble_eq_true rfl) dX2_meeting_32 ⟨Nat.le_of_ble_eq_true rfl, Nat.le_of_ble_eq_true rfl⟩ ?_
    refine lv_imul hx hb dX2_meeting_35 ?_
    refine lv_if_ge (tgt := 41) hx hb dX2_meeting_36 (by decide) (fun c11 => ?_) (fun c11 => ?_)
    · refine lv_aload_n hx hb dX2_meeting_41 rfl (lv_at hl 0 rfl) ?_
      refine lv_iload_n hx hb dX2_meeting_42 rfl (lv_at hl 1 rfl) ?_
      refine lv_iload_n hx hb dX2_meeting_43 rfl (lv_at hl 2 rfl) ?_
      refine lv_iload_n hx hb dX2_meeting_44 rfl (lv_at hl 3 rfl) ?_
      refine xr_V (q := (RX2, TX2, 3)) (ci := 6) (q0 := 0) (rest := []) (As := [.int ia, .int ib, .int ic]) ⟨hx, hb, hml, hown, hts⟩ (ct2_onWay l D q1 q2 q3 kI xs ys pm ia ib ic oia oib oic) (cwV 3 hts gl_X2_52 rfl rfl rfl (by decide +kernel) ⟨Nat.le_of_ble_eq_true rfl, Nat.le_of_ble_eq_true rfl⟩) nN_mv hN hK hP [0, 1, 2] [0] rfl rfl rfl rfl rfl hl.1 rfl (Nat.le_of_ble_eq_true rfl) dX2_meeting_45 ⟨Nat.le_of_ble_eq_true rfl, Nat.le_of_ble_eq_true rfl⟩ ?_
      refine lv_if_ne (tgt := 84) hx hb dX2_meeting_48 (by decide) (fun c12 => ?_) (fun c12 => ?_)
      · refine lv_iconst (v := 1) hx hb dX2_meeting_84 (by decide) ?_
        refine lv_goto (tgt := 89) hx hb dX2_meeting_85 (by decide) ?_
        refine lv_istore (lv' := [(5, .int (1 : Int32)), (0, .ref q1), (1, .int ia), (2, .int ib), (3, .int ic), (4, .int id)]) hx hb dX2_meeting_89 hl (by decide) rfl (fun ls hl => ?_)
        refine lv_iload hx hb dX2_meeting_91 (lv_at hl 0 rfl) ?_
        refine lv_if_eq (tgt := 100) hx hb dX2_meeting_93 (by decide) (fun c13 => ?_) (fun c13 => ?_)
        · exact absurd c13 (by decide)
        · refine lv_iconst (v := 2) hx hb dX2_meeting_96 (by decide) ?_
          refine lv_goto (tgt := 101) hx hb dX2_meeting_97 (by decide) ?_
          exact W.iret (v := (2 : Int32)) hx hb hr (fun t ht hW => ⟨by rw [show fX2_meeting xs ys ia ib ic id = (2 : Int32) by unfold fX2_meeting; rw [if_neg c1, if_pos c11, if_neg c12]], ht⟩) (fun _ h => absurd h List.not_mem_nil) dX2_meeting_101
      · refine lv_aload_n hx hb dX2_meeting_51 rfl (lv_at hl 0 rfl) ?_
        refine lv_iload_n hx hb dX2_meeting_52 rfl (lv_at hl 1 rfl) ?_
        refine lv_iload_n hx hb dX2_meeting_53 rfl (lv_at hl 2 rfl) ?_
        refine lv_iload hx hb dX2_meeting_54 (lv_at hl 4 rfl) ?_
        refine xr_V (q := (RX2, TX2, 3)) (ci := 6) (q0 := 0) (rest := []) (As := [.int ia, .int ib, .int id]) ⟨hx, hb, hml, hown, hts⟩ (ct2_onWay l D q1 q2 q3 kI xs ys pm ia ib id oia oib oid) (cwV 3 hts gl_X2_52 rfl rfl rfl (by decide +kernel) ⟨Nat.le_of_ble_eq_true rfl, Nat.le_of_ble_eq_true rfl⟩) nN_mv hN hK hP [0, 1, 2] [0] rfl rfl rfl rfl rfl hl.1 rfl (Nat.le_of_ble_eq_true rfl) dX2_meeting_56 ⟨Nat.le_of_ble_eq_true rfl, Nat.le_of_ble_eq_true rfl⟩ ?_
        refine lv_if_ne (tgt := 84) hx hb dX2_meeting_59 (by decide) (fun c14 => ?_) (fun c14 => ?_)
        · refine lv_iconst (v := 1) hx hb dX2_meeting_84 (by decide) ?_
          refine lv_goto (tgt := 89) hx hb dX2_meeting_85 (by decide) ?_
          refine lv_istore (lv' := [(5, .int (1 : Int32)), (0, .ref q1), (1, .int ia), (2, .int ib), (3, .int ic), (4, .int id)]) hx hb dX2_meeting_89 hl (by decide) rfl (fun ls hl => ?_)
          refine lv_iload hx hb dX2_meeting_91 (lv_at hl 0 rfl) ?_
          refine lv_if_eq (tgt := 100) hx hb dX2_meeting_93 (by decide) (fun c15 => ?_) (fun c15 => ?_)
          · exact absurd c15 (by decide)
          · refine lv_iconst (v := 2) hx hb dX2_meeting_96 (by decide) ?_
            refine lv_goto (tgt := 101) hx hb dX2_meeting_97 (by decide) ?_
            exact W.iret (v := (2 : Int32)) hx hb hr (fun t ht hW => ⟨by rw [show fX2_meeting xs ys ia ib ic id = (2 : Int32) by unfold fX2_meeting; rw [if_neg c1, if_pos c11, if_pos c12, if_neg c14]], ht⟩) (fun _ h => absurd h List.not_mem_nil) dX2_meeting_101
        · refine lv_aload_n hx hb dX2_meeting_62 rfl (lv_at hl 0 rfl) ?_
          refine lv_iload_n hx hb dX2_meeting_63 rfl (lv_at hl 3 rfl) ?_
          refine lv_iload hx hb dX2_meeting_64 (lv_at hl 4 rfl) ?_
          refine lv_iload_n hx hb dX2_meeting_66 rfl (lv_at hl 1 rfl) ?_
          refine xr_V (q := (RX2, TX2, 3)) (ci := 6) (q0 := 0) (rest := []) (As := [.int ic, .int id, .int ia]) ⟨hx, hb, hml, hown, hts⟩ (ct2_onWay l D q1 q2 q3 kI xs ys pm ic id ia oic oid oia) (cwV 3 hts gl_X2_52 rfl rfl rfl (by decide +kernel) ⟨Nat.le_of_ble_eq_true rfl, Nat.le_of_ble_eq_true rfl⟩) nN_mv hN hK hP [0, 1, 2] [0] rfl rfl rfl rfl rfl hl.1 rfl (Nat.le_of_ble_eq_true rfl) dX2_meeting_67 ⟨Nat.le_of_ble_eq_true rfl, Nat.le_of_ble_eq_true rfl⟩ ?_
          refine lv_if_ne (tgt := 84) hx hb dX2_meeting_70 (by decide) (fun c16 => ?_) (fun c16 => ?_)
          · refine lv_iconst (v := 1) hx hb dX2_meeting_84 (by decide) ?_
            refine lv_goto (tgt := 89) hx hb dX2_meeting_85 (by decide) ?_
            refine lv_istore (lv' := [(5, .int (1 : Int32)), (0, .ref q1), (1, .int ia), (2, .int ib), (3, .int ic), (4, .int id)]) hx hb dX2_meeting_89 hl (by decide) rfl (fun ls hl => ?_)
            refine lv_iload hx hb dX2_meeting_91 (lv_at hl 0 rfl) ?_
            refine lv_if_eq (tgt := 100) hx hb dX2_meeting_93 (by decide) (fun c17 => ?_) (fun c17 => ?_)
            · exact absurd c17 (by decide)
            · refine lv_iconst (v := 2) hx hb dX2_meeting_96 (by decide) ?_
              refine lv_goto (tgt := 101) hx hb dX2_meeting_97 (by decide) ?_
              exact W.iret (v := (2 : Int32)) hx hb hr (fun t ht hW => ⟨by rw [show fX2_meeting xs ys ia ib ic id = (2 : Int32) by unfold fX2_meeting; rw [if_neg c1, if_pos c11, if_pos c12, if_pos c14, if_neg c16]], ht⟩) (fun _ h => absurd h List.not_mem_nil) dX2_meeting_101
          · refine lv_aload_n hx hb dX2_meeting_73 rfl (lv_at hl 0 rfl) ?_
            refine lv_iload_n hx hb dX2_meeting_74 rfl (lv_at hl 3 rfl) ?_
            refine lv_iload hx hb dX2_meeting_75 (lv_at hl 4 rfl) ?_
            refine lv_iload_n hx hb dX2_meeting_77 rfl (lv_at hl 2 rfl) ?_
            refine xr_V (q := (RX2, TX2, 3)) (ci := 6) (q0 := 0) (rest := []) (As := [.int ic, .int id, .int ib]) ⟨hx, hb, hml, hown, hts⟩ (ct2_onWay l D q1 q2 q3 kI xs ys pm ic id ib oic oid oib) (cwV 3 hts gl_X2_52 rfl rfl rfl (by decide +kernel) ⟨Nat.le_of_ble_eq_true rfl, Nat.le_of_ble_eq_true rfl⟩) nN_mv hN hK hP [0, 1, 2] [0] rfl rfl rfl rfl rfl hl.1 rfl (Nat.le_of_ble_eq_true rfl) dX2_meeting_78 ⟨Nat.le_of_ble_eq_true rfl, Nat.le_of_ble_eq_true rfl⟩ ?_
            refine lv_if_eq (tgt := 88) hx hb dX2_meeting_81 (by decide) (fun c18 => ?_) (fun c18 => ?_)
            · refine lv_iconst (v := 0) hx hb dX2_meeting_88 (by decide) ?_
              refine lv_istore (lv' := [(5, .int (0 : Int32)), (0, .ref q1), (1, .int ia), (2, .int ib), (3, .int ic), (4, .int id)]) hx hb dX2_meeting_89 hl (by decide) rfl (fun ls hl => ?_)
              refine lv_iload hx hb dX2_meeting_91 (lv_at hl 0 rfl) ?_
              refine lv_if_eq (tgt := 100) hx hb dX2_meeting_93 (by decide) (fun c19 => ?_) (fun c19 => ?_)
              · refine lv_iconst (v := 0) hx hb dX2_meeting_100 (by decide) ?_
                exact W.iret (v := (0 : Int32)) hx hb hr (fun t ht hW => ⟨by rw [show fX2_meeting xs ys ia ib ic id = (0 : Int32) by unfold fX2_meeting; rw [if_neg c1, if_pos c11, if_pos c12, if_pos c14, if_pos c16, if_pos c18]], ht⟩) (fun _ h => absurd h List.not_mem_nil) dX2_meeting_101
              · exact absurd (by decide) c19
            · refine lv_iconst (v := 1) hx hb dX2_meeting_84 (by decide) ?_
              refine lv_goto (tgt := 89) hx hb dX2_meeting_85 (by decide) ?_
              refine lv_istore (lv' := [(5, .int (1 : Int32)), (0, .ref q1), (1, .int ia), (2, .int ib), (3, .int ic), (4, .int id)]) hx hb dX2_meeting_89 hl (by decide) rfl (fun ls hl => ?_)
              refine lv_iload hx hb dX2_meeting_91 (lv_at hl 0 rfl) ?_
              refine lv_if_eq (tgt := 100) hx hb dX2_meeting_93 (by decide) (fun c20 => ?_) (fun c20 => ?_)
              · exact absurd c20 (by decide)
              · refine lv_iconst (v := 2) hx hb dX2_meeting_96 (by decide) ?_
                refine lv_goto (tgt := 101) hx hb dX2_meeting_97 (by decide) ?_
                exact W.iret (v := (2 : Int32)) hx hb hr (fun t ht hW => ⟨by rw [show fX2_meeting xs ys ia ib ic id = (2 : Int32) by unfold fX2_meeting; rw [if_neg c1, if_pos c11, if_pos c12, if_pos c14, if_pos c16, if_neg c18]], ht⟩) (fun _ h => absurd h List.not_mem_nil) dX2_meeting_101
    · refine lv_iconst (v := 1) hx hb dX2_meeting_39 (by decide) ?_
      exact W.iret (v := (1 : Int32)) hx hb hr (fun t ht hW => ⟨by rw [show fX2_meeting xs ys ia ib ic id = (1 : Int32) by unfold fX2_meeting; rw [if_neg c1, if_neg c11]], ht⟩) (fun _ h => absurd h List.not_mem_nil) dX2_meeting_40
def fX2_partRound (xs ys : Nat → Int32) (ia : Int32) (ib : Int32) : Int32 := if (fX2_same xs ys ia ib) = (0 : Int32) then (if (ys ia.toNatClampNeg) < (ys ib.toNatClampNeg) then ((1 : Int32)) else (if (ys ib.toNatClampNeg) = (ys ia.toNatClampNeg) then (if (xs ib.toNatClampNeg) ≤ (xs ia.toNatClampNeg) then ((2 : Int32)) else ((1 : Int32))) else ((2 : Int32)))) else ((0 : Int32))
set_option maxHeartbeats 4000000 in
set_option maxRecDepth 100000 in
theorem ct2_partRound (l : Launch) (D : va_G) (q1 q2 q3 : Nat) (kI : ClassId) (xs ys : Nat → Int32) (pm : Int32) (ia : Int32) (ib : Int32) (oia : vp_in ia 60) (oib : vp_in ib 60) : Met l yX2_partRound (Cond.code yX2_partRound cX2_partRound 3 (some .int) :: BX) ({ frames := 1, cells := 0, slots := 0, locals := 60 }) (xr_P nN D vwCl [(kI, .int)] (wPl q1 q2 q3 kI xs ys pm) [.ref q1, .int ia, .int ib]) (xr_Q (.int (fX2_partRound xs ys ia ib))) 0 0 (fun _ => False) := by
  refine Met.ofW (cc := cX2_partRound) (maxL := 3) (ret := (some .int)) (by decide) rfl ?_
  intro p e s m args below meth c s₁ B hml hv
  obtain ⟨rfl, hP, hK, hN⟩ := hv
  have hx := B.exec
  have hb := B.bytes
  have hr := B.returns
  have hts0 := atoms_spec (ws := Cond.code yX2_partRound cX2_partRound 3 (some .int) :: BX) B.pre
  have hts : ∀ w ∈ BX, w.before _ s = true := fun w h => hts0 w (List.mem_cons_of_mem _ h)
  have hown : s.vm.findClass RX2 = some m.cls := findClass_of_methodNamed B.named
  have hlocks := B.notSynchronized
  have hl := lv_entry ([.ref q1, .int ia, .int ib]) (n := 3) (Nat.le_of_ble_eq_true rfl)
  rw [lg_entry_eq]
  generalize (lg_sl ([.ref q1, .int ia, .int ib]) ++ List.replicate (3 - (lg_sl ([.ref q1, .int ia, .int ib])).length) Slot.unset).toArray = ls at hl ⊢
  have hl : lv_has ls 3 [(0, .ref q1), (1, .int ia), (2, .int ib)] := hl
  refine lv_aload_n hx hb dX2_partRound_0 rfl (lv_at hl 0 rfl) ?_
  refine lv_iload_n hx hb dX2_partRound_1 rfl (lv_at hl 1 rfl) ?_
  refine lv_iload_n hx hb dX2_partRound_2 rfl (lv_at hl 2 rfl) ?_
  refine xr_V (q := (RX2, TX2, 3)) (ci := 6) (q0 := 0) (rest := []) (As := [.int ia, .int ib]) ⟨hx, hb, hml, hown, hts⟩ (ct2_same l D q1 q2 q3 kI xs ys pm ia ib oia oib) (cwV 2 hts gl_X2_26 rfl rfl rfl (by decide +kernel) ⟨Nat.le_of_ble_eq_true rfl, Nat.le_of_ble_eq_true rfl⟩) nN_mv hN hK hP [0, 1, 2] [0] rfl rfl rfl rfl rfl hl.1 rfl (Nat.le_of_ble_eq_true rfl) dX2_partRound_3 ⟨Nat.le_of_ble_eq_true rfl, Nat.le_of_ble_eq_true rfl⟩ ?_
  refine lv_if_eq (tgt := 11) hx hb dX2_partRound_6 (by decide) (fun c1 => ?_) (fun c1 => ?_)
  · refine lv_aload_n hx hb dX2_partRound_11 rfl (lv_at hl 0 rfl) ?_
    refine va_get (D := D) (ci := 6) (v := .ref q3) (C := RX2) (T := TX2) (N := 3) hx hb hts hinX2 hown hK hP 0 rfl rfl 1 (by decide) (hts _ fk_X2_15) (fun _ h9 => h9) rfl dX2_partRound_12 ?_
    refine lv_iload_n hx hb dX2_partRound_15 rfl (lv_at hl 2 rfl) ?_
    refine va_iald hx hb hK hP 2 0 rfl rfl oib dX2_partRound_16 ?_
    refine lv_aload_n hx hb dX2_partRound_17 rfl (lv_at hl 0 rfl) ?_
    refine va_get (D := D) (ci := 6) (v := .ref q3) (C := RX2) (T := TX2) (N := 3) hx hb hts hinX2 hown hK hP 0 rfl rfl 1 (by decide) (hts _ fk_X2_15) (fun _ h9 => h9) rfl dX2_partRound_18 ?_
    refine lv_iload_n hx hb dX2_partRound_21 rfl (lv_at hl 1 rfl) ?_
    refine va_iald hx hb hK hP 2 0 rfl rfl oia dX2_partRound_22 ?_
    refine lv_icmp_gt (tgt := 56) hx hb dX2_partRound_23 (by decide) (fun c2 => ?_) (fun c2 => ?_)
    · refine lv_iconst (v := 1) hx hb dX2_partRound_56 (by decide) ?_
      refine lv_goto (tgt := 61) hx hb dX2_partRound_57 (by decide) ?_
      exact W.iret (v := (1 : Int32)) hx hb hr (fun t ht hW => ⟨by rw [show fX2_partRound xs ys ia ib = (1 : Int32) by unfold fX2_partRound; rw [if_pos c1, if_pos c2]], ht⟩) (fun _ h => absurd h List.not_mem_nil) dX2_partRound_61
    · refine lv_aload_n hx hb dX2_partRound_26 rfl (lv_at hl 0 rfl) ?_
      refine va_get (D := D) (ci := 6) (v := .ref q3) (C := RX2) (T := TX2) (N := 3) hx hb hts hinX2 hown hK hP 0 rfl rfl 1 (by decide) (hts _ fk_X2_15) (fun _ h9 => h9) rfl dX2_partRound_27 ?_
      refine lv_iload_n hx hb dX2_partRound_30 rfl (lv_at hl 2 rfl) ?_
      refine va_iald hx hb hK hP 2 0 rfl rfl oib dX2_partRound_31 ?_
      refine lv_aload_n hx hb dX2_partRound_32 rfl (lv_at hl 0 rfl) ?_
      refine va_get (D := D) (ci := 6) (v := .ref q3) (C := RX2) (T := TX2) (N := 3) hx hb hts hinX2 hown hK hP 0 rfl rfl 1 (by decide) (hts _ fk_X2_15) (fun _ h9 => h9) rfl dX2_partRound_33 ?_
      refine lv_iload_n hx hb dX2_partRound_36 rfl (lv_at hl 1 rfl) ?_
      refine va_iald hx hb hK hP 2 0 rfl rfl oia dX2_partRound_37 ?_
      refine lv_icmp_ne (tgt := 60) hx hb dX2_partRound_38 (by decide) (fun c3 => ?_) (fun c3 => ?_)
      · refine lv_iconst (v := 2) hx hb dX2_partRound_60 (by decide) ?_
        exact W.iret (v := (2 : Int32)) hx hb hr (fun t ht hW => ⟨by rw [show fX2_partRound xs ys ia ib = (2 : Int32) by unfold fX2_partRound; rw [if_pos c1, if_neg c2, if_neg c3]], ht⟩) (fun _ h => absurd h List.not_mem_nil) dX2_partRound_61
      · refine lv_aload_n hx hb dX2_partRound_41 rfl (lv_at hl 0 rfl) ?_
        refine va_get (D := D) (ci := 6) (v := .ref q2) (C := RX2) (T := TX2) (N := 3) hx hb hts hinX2 hown hK hP 0 rfl rfl 0 (by decide) (hts _ fk_X2_9) (fun _ h9 => h9) rfl dX2_partRound_42 ?_
        refine lv_iload_n hx hb dX2_partRound_45 rfl (lv_at hl 2 rfl) ?_
        refine va_iald hx hb hK hP 1 0 rfl rfl oib dX2_partRound_46 ?_
        refine lv_aload_n hx hb dX2_partRound_47 rfl (lv_at hl 0 rfl) ?_
        refine va_get (D := D) (ci := 6) (v := .ref q2) (C := RX2) (T := TX2) (N := 3) hx hb hts hinX2 hown hK hP 0 rfl rfl 0 (by decide) (hts _ fk_X2_9) (fun _ h9 => h9) rfl dX2_partRound_48 ?_
        refine lv_iload_n hx hb dX2_partRound_51 rfl (lv_at hl 1 rfl) ?_
        refine va_iald hx hb hK hP 1 0 rfl rfl oia dX2_partRound_52 ?_
        refine lv_icmp_le (tgt := 60) hx hb dX2_partRound_53 (by decide) (fun c4 => ?_) (fun c4 => ?_)
        · refine lv_iconst (v := 2) hx hb dX2_partRound_60 (by decide) ?_
          exact W.iret (v := (2 : Int32)) hx hb hr (fun t ht hW => ⟨by rw [show fX2_partRound xs ys ia ib = (2 : Int32) by unfold fX2_partRound; rw [if_pos c1, if_neg c2, if_pos c3, if_pos c4]], ht⟩) (fun _ h => absurd h List.not_mem_nil) dX2_partRound_61
        · refine lv_iconst (v := 1) hx hb dX2_partRound_56 (by decide) ?_
          refine lv_goto (tgt := 61) hx hb dX2_partRound_57 (by decide) ?_
          exact W.iret (v := (1 : Int32)) hx hb hr (fun t ht hW => ⟨by rw [show fX2_partRound xs ys ia ib = (1 : Int32) by unfold fX2_partRound; rw [if_pos c1, if_neg c2, if_pos c3, if_neg c4]], ht⟩) (fun _ h => absurd h List.not_mem_nil) dX2_partRound_61
  · refine lv_iconst (v := 0) hx hb dX2_partRound_9 (by decide) ?_
    exact W.iret (v := (0 : Int32)) hx hb hr (fun t ht hW => ⟨by rw [show fX2_partRound xs ys ia ib = (0 : Int32) by unfold fX2_partRound; rw [if_neg c1]], ht⟩) (fun _ h => absurd h List.not_mem_nil) dX2_partRound_10
def fX2_compareRound (xs ys : Nat → Int32) (ia : Int32) (ib : Int32) (ic : Int32) : Int32 := if (fX4_signOf (((fX2_partRound xs ys ia ib) - (fX2_partRound xs ys ia ic)).toInt64)) = (0 : Int32) then (if (fX2_partRound xs ys ia ib) = (0 : Int32) then (fX4_signOf (((fX2_partRound xs ys ia ib) - (fX2_partRound xs ys ia ic)).toInt64)) else (if (fX2_turn xs ys ia ic ib) = (0 : Int32) then (fX4_signOf ((fX2_distance xs ys ia ib) - (fX2_distance xs ys ia ic))) else (fX2_turn xs ys ia ic ib))) else (fX4_signOf (((fX2_partRound xs ys ia ib) - (fX2_partRound xs ys ia ic)).toInt64))
set_option maxHeartbeats 4000000 in
set_option maxRecDepth 100000 in
theorem ct2_compareRound (l : Launch) (D : va_G) (q1 q2 q3 : Nat) (kI : ClassId) (xs ys : Nat → Int32) (pm : Int32) (ia : Int32) (ib : Int32) (ic : Int32) (oia : vp_in ia 60) (oib : vp_in ib 60) (oic : vp_in ic 60) : Met l yX2_compareRound (Cond.code yX2_compareRound cX2_compareRound 7 (some .int) :: BX) ({ frames := 2, cells := 0, slots := 0, locals := 120 }) (xr_P nN D vwCl [(kI, .int)] (wPl q1 q2 q3 kI xs ys pm) [.ref q1, .int ia, .int ib, .int ic]) (xr_Q (.int (fX2_compareRound xs ys ia ib ic))) 0 0 (fun _ => False) := by
  refine Met.ofW (cc := cX2_compareRound) (maxL := 7) (ret := (some .int)) (by decide) rfl ?_
  intro p e s m args below meth c s₁ B hml hv
  obtain ⟨rfl, hP, hK, hN⟩ := hv
  have hx := B.exec
  have hb := B.bytes
  have hr := B.returns
  have hts0 := atoms_spec (ws := Cond.code yX2_compareRound cX2_compareRound 7 (some .int) :: BX) B.pre
  have hts : ∀ w ∈ BX, w.before _ s = true := fun w h => hts0 w (List.mem_cons_of_mem _ h)
  have hown : s.vm.findClass RX2 = some m.cls := findClass_of_methodNamed B.named
  have hlocks := B.notSynchronized
  have hl := lv_entry ([.ref q1, .int ia, .int ib, .int ic]) (n := 7) (Nat.le_of_ble_eq_true rfl)
  rw [lg_entry_eq]
  generalize (lg_sl ([.ref q1, .int ia, .int ib, .int ic]) ++ List.replicate (7 - (lg_sl ([.ref q1, .int ia, .int ib, .int ic])).length) Slot.unset).toArray = ls at hl ⊢
  have hl : lv_has ls 7 [(0, .ref q1), (1, .int ia), (2, .int ib), (3, .int ic)] := hl
  refine lv_aload_n hx hb dX2_compareRound_0 rfl (lv_at hl 0 rfl) ?_
  refine lv_iload_n hx hb dX2_compareRound_1 rfl (lv_at hl 1 rfl) ?_
  refine lv_iload_n hx hb dX2_compareRound_2 rfl (lv_at hl 2 rfl) ?_
  refine xr_V (q := (RX2, TX2, 3)) (ci := 6) (q0 := 0) (rest := []) (As := [.int ia, .int ib]) ⟨hx, hb, hml, hown, hts⟩ (ct2_partRound l D q1 q2 q3 kI xs ys pm ia ib oia oib) (cwV 2 hts gl_X2_56 rfl rfl rfl (by decide +kernel) ⟨Nat.le_of_ble_eq_true rfl, Nat.le_of_ble_eq_true rfl⟩) nN_mv hN hK hP [0, 1, 2] [0] rfl rfl rfl rfl rfl hl.1 rfl (Nat.le_of_ble_eq_true rfl) dX2_compareRound_3 ⟨Nat.le_of_ble_eq_true rfl, Nat.le_of_ble_eq_true rfl⟩ ?_
  refine lv_topi (fun z1 ez1 => ?_)
  refine lv_istore (lv' := [(4, .int z1), (0, .ref q1), (1, .int ia), (2, .int ib), (3, .int ic)]) hx hb dX2_compareRound_6 hl (by decide) rfl (fun ls hl => ?_)
  refine lv_iload hx hb dX2_compareRound_8 (lv_at hl 0 rfl) ?_
  refine lv_aload_n hx hb dX2_compareRound_10 rfl (lv_at hl 1 rfl) ?_
  refine lv_iload_n hx hb dX2_compareRound_11 rfl (lv_at hl 2 rfl) ?_
  refine lv_iload_n hx hb dX2_compareRound_12 rfl (lv_at hl 4 rfl) ?_
  refine xr_V (q := (RX2, TX2, 3)) (ci := 6) (q0 := 0) (rest := [.int z1]) (As := [.int ia, .int ic]) ⟨hx, hb, hml, hown, hts⟩ (ct2_partRound l D q1 q2 q3 kI xs ys pm ia ic oia oic) (cwV 2 hts gl_X2_56 rfl rfl rfl (by decide +kernel) ⟨Nat.le_of_ble_eq_true rfl, Nat.le_of_ble_eq_true rfl⟩) nN_mv hN hK hP [0, 1, 2] [0] rfl rfl rfl rfl rfl hl.1 rfl (Nat.le_of_ble_eq_true rfl) dX2_compareRound_13 ⟨Nat.le_of_ble_eq_true rfl, Nat.le_of_ble_eq_true rfl⟩ ?_
  refine lv_isub hx hb dX2_compareRound_16 ?_
  refine lv_i2l hx hb dX2_compareRound_17 rfl ?_
  refine xr_SN (rest := []) (As := [.long ((z1 - (fX2_partRound xs ys ia ic)).toInt64)]) ⟨hx, hb, hml, hown, hts⟩ (ct4_signOf l D  ((z1 - (fX2_partRound xs ys ia ic)).toInt64) ) ⟨va_cnB 1 hts (gdC (bx1 gc_X4_signOf)) rfl rfl rfl hN.1 (hts _ ini_X4) (by decide +kernel) ⟨Nat.le_of_ble_eq_true rfl, Nat.le_of_ble_eq_true rfl⟩, hts _ st_X4_signOf, trivial⟩ nN_mv hN hK hP [] [] rfl rfl rfl hl.1 rfl (Nat.le_of_ble_eq_true rfl) dX2_compareRound_18 ⟨Nat.le_of_ble_eq_true rfl, Nat.le_of_ble_eq_true rfl⟩ ?_
  refine lv_topi (fun z2 ez2 => ?_)
  refine lv_istore (lv' := [(5, .int z2), (4, .int z1), (0, .ref q1), (1, .int ia), (2, .int ib), (3, .int ic)]) hx hb dX2_compareRound_21 hl (by decide) rfl (fun ls hl => ?_)
  refine lv_iload hx hb dX2_compareRound_23 (lv_at hl 0 rfl) ?_
  refine lv_if_ne (tgt := 33) hx hb dX2_compareRound_25 (by decide) (fun c3 => ?_) (fun c3 => ?_)
  · refine lv_iload hx hb dX2_compareRound_33 (lv_at hl 0 rfl) ?_
    subst ez2 ez1
    exact W.iret (v := fX4_signOf (((fX2_partRound xs ys ia ib) - (fX2_partRound xs ys ia ic)).toInt64)) hx hb hr (fun t ht hW => ⟨by rw [show fX2_compareRound xs ys ia ib ic = fX4_signOf (((fX2_partRound xs ys ia ib) - (fX2_partRound xs ys ia ic)).toInt64) by unfold fX2_compareRound; rw [if_neg c3]], ht⟩) (fun _ h => absurd h List.not_mem_nil) dX2_compareRound_35
  · refine lv_iload hx hb dX2_compareRound_28 (lv_at hl 1 rfl) ?_
    refine lv_if_ne (tgt := 36) hx hb dX2_compareRound_30 (by decide) (fun c4 => ?_) (fun c4 => ?_)
    · refine lv_aload_n hx hb dX2_compareRound_36 rfl (lv_at hl 2 rfl) ?_
      refine lv_iload_n hx hb dX2_compareRound_37 rfl (lv_at hl 3 rfl) ?_
      refine lv_iload_n hx hb dX2_compareRound_38 rfl (lv_at hl 5 rfl) ?_
      refine lv_iload_n hx hb dX2_compareRound_39 rfl (lv_at hl 4 rfl) ?_
      refine xr_V (q := (RX2, TX2, 3)) (ci := 6) (q0 := 0) (rest := []) (As := [.int ia, .int ic, .int ib]) ⟨hx, hb, hml, hown, hts⟩ (ct2_turn l D q1 q2 q3 kI xs ys pm ia ic ib oia oic oib) (cwV 3 hts gl_X2_38 rfl rfl rfl (by decide +kernel) ⟨Nat.le_of_ble_eq_true rfl, Nat.le_of_ble_eq_true rfl⟩) nN_mv hN hK hP [0, 1, 2] [0] rfl rfl rfl rfl rfl hl.1 rfl (Nat.le_of_ble_eq_true rfl) dX2_compareRound_40 ⟨Nat.le_of_ble_eq_true rfl, Nat.le_of_ble_eq_true rfl⟩ ?_
      refine lv_istore (lv' := [(6, .int (fX2_turn xs ys ia ic ib)), (5, .int z2), (4, .int z1), (0, .ref q1), (1, .int ia), (2, .int ib), (3, .int ic)]) hx hb dX2_compareRound_43 hl (by decide) rfl (fun ls hl => ?_)
      refine lv_iload hx hb dX2_compareRound_45 (lv_at hl 0 rfl) ?_
      refine lv_if_eq (tgt := 55) hx hb dX2_compareRound_47 (by decide) (fun c5 => ?_) (fun c5 => ?_)
      · refine lv_aload_n hx hb dX2_compareRound_55 rfl (lv_at hl 3 rfl) ?_
        refine lv_iload_n hx hb dX2_compareRound_56 rfl (lv_at hl 4 rfl) ?_
        refine lv_iload_n hx hb dX2_compareRound_57 rfl (lv_at hl 5 rfl) ?_
        refine xr_V (q := (RX2, TX2, 3)) (ci := 6) (q0 := 0) (rest := []) (As := [.int ia, .int ib]) ⟨hx, hb, hml, hown, hts⟩ (ct2_distance l D q1 q2 q3 kI xs ys pm ia ib oia oib) (cwV 2 hts gl_X2_59 rfl rfl rfl (by decide +kernel) ⟨Nat.le_of_ble_eq_true rfl, Nat.le_of_ble_eq_true rfl⟩) nN_mv hN hK hP [0, 1, 2] [0] rfl rfl rfl rfl rfl hl.1 rfl (Nat.le_of_ble_eq_true rfl) dX2_compareRound_58 ⟨Nat.le_of_ble_eq_true rfl, Nat.le_of_ble_eq_true rfl⟩ ?_
        refine lv_aload_n hx hb dX2_compareRound_61 rfl (lv_at hl 3 rfl) ?_
        refine lv_iload_n hx hb dX2_compareRound_62 rfl (lv_at hl 4 rfl) ?_
        refine lv_iload_n hx hb dX2_compareRound_63 rfl (lv_at hl 6 rfl) ?_
        refine xr_V (q := (RX2, TX2, 3)) (ci := 6) (q0 := 0) (rest := [.long (fX2_distance xs ys ia ib)]) (As := [.int ia, .int ic]) ⟨hx, hb, hml, hown, hts⟩ (ct2_distance l D q1 q2 q3 kI xs ys pm ia ic oia oic) (cwV 2 hts gl_X2_59 rfl rfl rfl (by decide +kernel) ⟨Nat.le_of_ble_eq_true rfl, Nat.le_of_ble_eq_true rfl⟩) nN_mv hN hK hP [0, 1, 2] [0] rfl rfl rfl rfl rfl hl.1 rfl (Nat.le_of_ble_eq_true rfl) dX2_compareRound_64 ⟨Nat.le_of_ble_eq_true rfl, Nat.le_of_ble_eq_true rfl⟩ ?_
        refine lv_lsub hx hb dX2_compareRound_67 ?_
        refine xr_SN (rest := []) (As := [.long ((fX2_distance xs ys ia ib) - (fX2_distance xs ys ia ic))]) ⟨hx, hb, hml, hown, hts⟩ (ct4_signOf l D  ((fX2_distance xs ys ia ib) - (fX2_distance xs ys ia ic)) ) ⟨va_cnB 1 hts (gdC (bx1 gc_X4_signOf)) rfl rfl rfl hN.1 (hts _ ini_X4) (by decide +kernel) ⟨Nat.le_of_ble_eq_true rfl, Nat.le_of_ble_eq_true rfl⟩, hts _ st_X4_signOf, trivial⟩ nN_mv hN hK hP [] [] rfl rfl rfl hl.1 rfl (Nat.le_of_ble_eq_true rfl) dX2_compareRound_68 ⟨Nat.le_of_ble_eq_true rfl, Nat.le_of_ble_eq_true rfl⟩ ?_
        subst ez2 ez1
        exact W.iret (v := fX4_signOf ((fX2_distance xs ys ia ib) - (fX2_distance xs ys ia ic))) hx hb hr (fun t ht hW => ⟨by rw [show fX2_compareRound xs ys ia ib ic = fX4_signOf ((fX2_distance xs ys ia ib) - (fX2_distance xs ys ia ic)) by unfold fX2_compareRound; rw [if_pos c3, if_neg c4, if_pos c5]], ht⟩) (fun _ h => absurd h List.not_mem_nil) dX2_compareRound_71
      · refine lv_iload hx hb dX2_compareRound_50 (lv_at hl 0 rfl) ?_
        refine lv_goto (tgt := 71) hx hb dX2_compareRound_52 (by decide) ?_
        subst ez2 ez1
        exact W.iret (v := fX2_turn xs ys ia ic ib) hx hb hr (fun t ht hW => ⟨by rw [show fX2_compareRound xs ys ia ib ic = fX2_turn xs ys ia ic ib by unfold fX2_compareRound; rw [if_pos c3, if_neg c4, if_neg c5]], ht⟩) (fun _ h => absurd h List.not_mem_nil) dX2_compareRound_71
    · refine lv_iload hx hb dX2_compareRound_33 (lv_at hl 0 rfl) ?_
      subst ez2 ez1
      exact W.iret (v := fX4_signOf (((fX2_partRound xs ys ia ib) - (fX2_partRound xs ys ia ic)).toInt64)) hx hb hr (fun t ht hW => ⟨by rw [show fX2_compareRound xs ys ia ib ic = fX4_signOf (((fX2_partRound xs ys ia ib) - (fX2_partRound xs ys ia ic)).toInt64) by unfold fX2_compareRound; rw [if_pos c3, if_pos c4]], ht⟩) (fun _ h => absurd h List.not_mem_nil) dX2_compareRound_35
