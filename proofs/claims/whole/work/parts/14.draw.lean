/-! The LINES: what is read of them. -/
abbrev wDr (d1 d2 d3 d4 d5 : Nat) (kI kJ : ClassId) (la lb lc : Nat → Int64) (di : Nat → Int32) (dm dd de dp dq : Int32) : va_W := [(d1, .inr (4, [.ref d2, .ref d3, .ref d4, .ref d5, .int dm, .int dd, .int de, .int dp, .int dq])), (d2, .inl (kJ, 12, .inr (.inl la))), (d3, .inl (kJ, 12, .inr (.inl lb))), (d4, .inl (kJ, 12, .inr (.inl lc))), (d5, .inl (kI, 12, .inl di))]
def fX0_weight (la lb : Nat → Int64) (ia : Int32) (ib : Int32) : Int64 := ((la ia.toNatClampNeg) * (lb ib.toNatClampNeg)) - ((la ib.toNatClampNeg) * (lb ia.toNatClampNeg))
set_option maxHeartbeats 4000000 in
set_option maxRecDepth 100000 in
theorem ct0_weight (l : Launch) (D : va_G) (d1 d2 d3 d4 d5 : Nat) (kI kJ : ClassId) (la lb lc : Nat → Int64) (di : Nat → Int32) (dm dd de dp dq : Int32) (ia : Int32) (ib : Int32) (oia : vp_in ia 12) (oib : vp_in ib 12) : Met l yX0_weight (Cond.code yX0_weight cX0_weight 3 (some .long) :: BX) ({ frames := 0, cells := 0, slots := 0, locals := 0 }) (xr_P nN D vwCl [(kI, .int), (kJ, .long)] (wDr d1 d2 d3 d4 d5 kI kJ la lb lc di dm dd de dp dq) [.ref d1, .int ia, .int ib]) (xr_Q (.long (fX0_weight la lb ia ib))) 0 0 (fun _ => False) := by
  refine Met.ofW (cc := cX0_weight) (maxL := 3) (ret := (some .long)) (by decide) rfl ?_
  intro p e s m args below meth c s₁ B hml hv
  obtain ⟨rfl, hP, hK, hN⟩ := hv
  have hx := B.exec
  have hb := B.bytes
  have hr := B.returns
  have hts0 := atoms_spec (ws := Cond.code yX0_weight cX0_weight 3 (some .long) :: BX) B.pre
  have hts : ∀ w ∈ BX, w.before _ s = true := fun w h => hts0 w (List.mem_cons_of_mem _ h)
  have hown : s.vm.findClass RX0 = some m.cls := findClass_of_methodNamed B.named
  have hlocks := B.notSynchronized
  have hl := lv_entry ([.ref d1, .int ia, .int ib]) (n := 3) (Nat.le_of_ble_eq_true rfl)
  rw [lg_entry_eq]
  generalize (lg_sl ([.ref d1, .int ia, .int ib]) ++ List.replicate (3 - (lg_sl ([.ref d1, .int ia, .int ib])).length) Slot.unset).toArray = ls at hl ⊢
  have hl : lv_has ls 3 [(0, .ref d1), (1, .int ia), (2, .int ib)] := hl
  refine lv_aload_n hx hb dX0_weight_0 rfl (lv_at hl 0 rfl) ?_
  refine va_get (D := D) (ci := 4) (v := .ref d2) (C := RX0) (T := TX0) (N := 9) hx hb hts hinX0 hown hK hP 0 rfl rfl 0 (by decide) (hts _ fk_X0_9) (fun _ h9 => h9) rfl dX0_weight_1 ?_
  refine lv_iload_n hx hb dX0_weight_4 rfl (lv_at hl 1 rfl) ?_
  refine va_lald hx hb hK hP 1 1 rfl rfl oia dX0_weight_5 ?_
  refine lv_aload_n hx hb dX0_weight_6 rfl (lv_at hl 0 rfl) ?_
  refine va_get (D := D) (ci := 4) (v := .ref d3) (C := RX0) (T := TX0) (N := 9) hx hb hts hinX0 hown hK hP 0 rfl rfl 1 (by decide) (hts _ fk_X0_15) (fun _ h9 => h9) rfl dX0_weight_7 ?_
  refine lv_iload_n hx hb dX0_weight_10 rfl (lv_at hl 2 rfl) ?_
  refine va_lald hx hb hK hP 2 1 rfl rfl oib dX0_weight_11 ?_
  refine lv_lmul hx hb dX0_weight_12 ?_
  refine lv_aload_n hx hb dX0_weight_13 rfl (lv_at hl 0 rfl) ?_
  refine va_get (D := D) (ci := 4) (v := .ref d2) (C := RX0) (T := TX0) (N := 9) hx hb hts hinX0 hown hK hP 0 rfl rfl 0 (by decide) (hts _ fk_X0_9) (fun _ h9 => h9) rfl dX0_weight_14 ?_
  refine lv_iload_n hx hb dX0_weight_17 rfl (lv_at hl 2 rfl) ?_
  refine va_lald hx hb hK hP 1 1 rfl rfl oib dX0_weight_18 ?_
  refine lv_aload_n hx hb dX0_weight_19 rfl (lv_at hl 0 rfl) ?_
  refine va_get (D := D) (ci := 4) (v := .ref d3) (C := RX0) (T := TX0) (N := 9) hx hb hts hinX0 hown hK hP 0 rfl rfl 1 (by decide) (hts _ fk_X0_15) (fun _ h9 => h9) rfl dX0_weight_20 ?_
  refine lv_iload_n hx hb dX0_weight_23 rfl (lv_at hl 1 rfl) ?_
  refine va_lald hx hb hK hP 2 1 rfl rfl oia dX0_weight_24 ?_
  refine lv_lmul hx hb dX0_weight_25 ?_
  refine lv_lsub hx hb dX0_weight_26 ?_
  exact W.lret (v := ((la ia.toNatClampNeg) * (lb ib.toNatClampNeg)) - ((la ib.toNatClampNeg) * (lb ia.toNatClampNeg))) hx hb hr (fun t ht hW => ⟨rfl, ht⟩) (fun _ h => absurd h List.not_mem_nil) dX0_weight_27
def fX0_momentX (lb lc : Nat → Int64) (ia : Int32) (ib : Int32) : Int64 := ((lb ia.toNatClampNeg) * (lc ib.toNatClampNeg)) - ((lb ib.toNatClampNeg) * (lc ia.toNatClampNeg))
set_option maxHeartbeats 4000000 in
set_option maxRecDepth 100000 in
theorem ct0_momentX (l : Launch) (D : va_G) (d1 d2 d3 d4 d5 : Nat) (kI kJ : ClassId) (la lb lc : Nat → Int64) (di : Nat → Int32) (dm dd de dp dq : Int32) (ia : Int32) (ib : Int32) (oia : vp_in ia 12) (oib : vp_in ib 12) : Met l yX0_momentX (Cond.code yX0_momentX cX0_momentX 3 (some .long) :: BX) ({ frames := 0, cells := 0, slots := 0, locals := 0 }) (xr_P nN D vwCl [(kI, .int), (kJ, .long)] (wDr d1 d2 d3 d4 d5 kI kJ la lb lc di dm dd de dp dq) [.ref d1, .int ia, .int ib]) (xr_Q (.long (fX0_momentX lb lc ia ib))) 0 0 (fun _ => False) := by
  refine Met.ofW (cc := cX0_momentX) (maxL := 3) (ret := (some .long)) (by decide) rfl ?_
  intro p e s m args below meth c s₁ B hml hv
  obtain ⟨rfl, hP, hK, hN⟩ := hv
  have hx := B.exec
  have hb := B.bytes
  have hr := B.returns
  have hts0 := atoms_spec (ws := Cond.code yX0_momentX cX0_momentX 3 (some .long) :: BX) B.pre
  have hts : ∀ w ∈ BX, w.before _ s = true := fun w h => hts0 w (List.mem_cons_of_mem _ h)
  have hown : s.vm.findClass RX0 = some m.cls := findClass_of_methodNamed B.named
  have hlocks := B.notSynchronized
  have hl := lv_entry ([.ref d1, .int ia, .int ib]) (n := 3) (Nat.le_of_ble_eq_true rfl)
  rw [lg_entry_eq]
  generalize (lg_sl ([.ref d1, .int ia, .int ib]) ++ List.replicate (3 - (lg_sl ([.ref d1, .int ia, .int ib])).length) Slot.unset).toArray = ls at hl ⊢
  have hl : lv_has ls 3 [(0, .ref d1), (1, .int ia), (2, .int ib)] := hl
  refine lv_aload_n hx hb dX0_momentX_0 rfl (lv_at hl 0 rfl) ?_
  refine va_get (D := D) (ci := 4) (v := .ref d3) (C := RX0) (T := TX0) (N := 9) hx hb hts hinX0 hown hK hP 0 rfl rfl 1 (by decide) (hts _ fk_X0_15) (fun _ h9 => h9) rfl dX0_momentX_1 ?_
  refine lv_iload_n hx hb dX0_momentX_4 rfl (lv_at hl 1 rfl) ?_
  refine va_lald hx hb hK hP 2 1 rfl rfl oia dX0_momentX_5 ?_
  refine lv_aload_n hx hb dX0_momentX_6 rfl (lv_at hl 0 rfl) ?_
  refine va_get (D := D) (ci := 4) (v := .ref d4) (C := RX0) (T := TX0) (N := 9) hx hb hts hinX0 hown hK hP 0 rfl rfl 2 (by decide) (hts _ fk_X0_18) (fun _ h9 => h9) rfl dX0_momentX_7 ?_
  refine lv_iload_n hx hb dX0_momentX_10 rfl (lv_at hl 2 rfl) ?_
  refine va_lald hx hb hK hP 3 1 rfl rfl oib dX0_momentX_11 ?_
  refine lv_lmul hx hb dX0_momentX_12 ?_
  refine lv_aload_n hx hb dX0_momentX_13 rfl (lv_at hl 0 rfl) ?_
  refine va_get (D := D) (ci := 4) (v := .ref d3) (C := RX0) (T := TX0) (N := 9) hx hb hts hinX0 hown hK hP 0 rfl rfl 1 (by decide) (hts _ fk_X0_15) (fun _ h9 => h9) rfl dX0_momentX_14 ?_
  refine lv_iload_n hx hb dX0_momentX_17 rfl (lv_at hl 2 rfl) ?_
  refine va_lald hx hb hK hP 2 1 rfl rfl oib dX0_momentX_18 ?_
  refine lv_aload_n hx hb dX0_momentX_19 rfl (lv_at hl 0 rfl) ?_
  refine va_get (D := D) (ci := 4) (v := .ref d4) (C := RX0) (T := TX0) (N := 9) hx hb hts hinX0 hown hK hP 0 rfl rfl 2 (by decide) (hts _ fk_X0_18) (fun _ h9 => h9) rfl dX0_momentX_20 ?_
  refine lv_iload_n hx hb dX0_momentX_23 rfl (lv_at hl 1 rfl) ?_
  refine va_lald hx hb hK hP 3 1 rfl rfl oia dX0_momentX_24 ?_
  refine lv_lmul hx hb dX0_momentX_25 ?_
  refine lv_lsub hx hb dX0_momentX_26 ?_
  exact W.lret (v := ((lb ia.toNatClampNeg) * (lc ib.toNatClampNeg)) - ((lb ib.toNatClampNeg) * (lc ia.toNatClampNeg))) hx hb hr (fun t ht hW => ⟨rfl, ht⟩) (fun _ h => absurd h List.not_mem_nil) dX0_momentX_27
def fX0_momentY (lc la : Nat → Int64) (ia : Int32) (ib : Int32) : Int64 := ((lc ia.toNatClampNeg) * (la ib.toNatClampNeg)) - ((lc ib.toNatClampNeg) * (la ia.toNatClampNeg))
set_option maxHeartbeats 4000000 in
set_option maxRecDepth 100000 in
theorem ct0_momentY (l : Launch) (D : va_G) (d1 d2 d3 d4 d5 : Nat) (kI kJ : ClassId) (la lb lc : Nat → Int64) (di : Nat → Int32) (dm dd de dp dq : Int32) (ia : Int32) (ib : Int32) (oia : vp_in ia 12) (oib : vp_in ib 12) : Met l yX0_momentY (Cond.code yX0_momentY cX0_momentY 3 (some .long) :: BX) ({ frames := 0, cells := 0, slots := 0, locals := 0 }) (xr_P nN D vwCl [(kI, .int), (kJ, .long)] (wDr d1 d2 d3 d4 d5 kI kJ la lb lc di dm dd de dp dq) [.ref d1, .int ia, .int ib]) (xr_Q (.long (fX0_momentY lc la ia ib))) 0 0 (fun _ => False) := by
  refine Met.ofW (cc := cX0_momentY) (maxL := 3) (ret := (some .long)) (by decide) rfl ?_
  intro p e s m args below meth c s₁ B hml hv
  obtain ⟨rfl, hP, hK, hN⟩ := hv
  have hx := B.exec
  have hb := B.bytes
  have hr := B.returns
  have hts0 := atoms_spec (ws := Cond.code yX0_momentY cX0_momentY 3 (some .long) :: BX) B.pre
  have hts : ∀ w ∈ BX, w.before _ s = true := fun w h => hts0 w (List.mem_cons_of_mem _ h)
  have hown : s.vm.findClass RX0 = some m.cls := findClass_of_methodNamed B.named
  have hlocks := B.notSynchronized
  have hl := lv_entry ([.ref d1, .int ia, .int ib]) (n := 3) (Nat.le_of_ble_eq_true rfl)
  rw [lg_entry_eq]
  generalize (lg_sl ([.ref d1, .int ia, .int ib]) ++ List.replicate (3 - (lg_sl ([.ref d1, .int ia, .int ib])).length) Slot.unset).toArray = ls at hl ⊢
  have hl : lv_has ls 3 [(0, .ref d1), (1, .int ia), (2, .int ib)] := hl
  refine lv_aload_n hx hb dX0_momentY_0 rfl (lv_at hl 0 rfl) ?_
  refine va_get (D := D) (ci := 4) (v := .ref d4) (C := RX0) (T := TX0) (N := 9) hx hb hts hinX0 hown hK hP 0 rfl rfl 2 (by decide) (hts _ fk_X0_18) (fun _ h9 => h9) rfl dX0_momentY_1 ?_
  refine lv_iload_n hx hb dX0_momentY_4 rfl (lv_at hl 1 rfl) ?_
  refine va_lald hx hb hK hP 3 1 rfl rfl oia dX0_momentY_5 ?_
  refine lv_aload_n hx hb dX0_momentY_6 rfl (lv_at hl 0 rfl) ?_
  refine va_get (D := D) (ci := 4) (v := .ref d2) (C := RX0) (T := TX0) (N := 9) hx hb hts hinX0 hown hK hP 0 rfl rfl 0 (by decide) (hts _ fk_X0_9) (fun _ h9 => h9) rfl dX0_momentY_7 ?_
  refine lv_iload_n hx hb dX0_momentY_10 rfl (lv_at hl 2 rfl) ?_
  refine va_lald hx hb hK hP 1 1 rfl rfl oib dX0_momentY_11 ?_
  refine lv_lmul hx hb dX0_momentY_12 ?_
  refine lv_aload_n hx hb dX0_momentY_13 rfl (lv_at hl 0 rfl) ?_
  refine va_get (D := D) (ci := 4) (v := .ref d4) (C := RX0) (T := TX0) (N := 9) hx hb hts hinX0 hown hK hP 0 rfl rfl 2 (by decide) (hts _ fk_X0_18) (fun _ h9 => h9) rfl dX0_momentY_14 ?_
  refine lv_iload_n hx hb dX0_momentY_17 rfl (lv_at hl 2 rfl) ?_
  refine va_lald hx hb hK hP 3 1 rfl rfl oib dX0_momentY_18 ?_
  refine lv_aload_n hx hb dX0_momentY_19 rfl (lv_at hl 0 rfl) ?_
  refine va_get (D := D) (ci := 4) (v := .ref d2) (C := RX0) (T := TX0) (N := 9) hx hb hts hinX0 hown hK hP 0 rfl rfl 0 (by decide) (hts _ fk_X0_9) (fun _ h9 => h9) rfl dX0_momentY_20 ?_
  refine lv_iload_n hx hb dX0_momentY_23 rfl (lv_at hl 1 rfl) ?_
  refine va_lald hx hb hK hP 1 1 rfl rfl oia dX0_momentY_24 ?_
  refine lv_lmul hx hb dX0_momentY_25 ?_
  refine lv_lsub hx hb dX0_momentY_26 ?_
  exact W.lret (v := ((lc ia.toNatClampNeg) * (la ib.toNatClampNeg)) - ((lc ib.toNatClampNeg) * (la ia.toNatClampNeg))) hx hb hr (fun t ht hW => ⟨rfl, ht⟩) (fun _ h => absurd h List.not_mem_nil) dX0_momentY_27
def fX0_cells (dd dp de : Int32)  : Int32 := (((1 : Int32) + dd) + dp) - de
set_option maxHeartbeats 4000000 in
set_option maxRecDepth 100000 in
theorem ct0_cells (l : Launch) (D : va_G) (d1 d2 d3 d4 d5 : Nat) (kI kJ : ClassId) (la lb lc : Nat → Int64) (di : Nat → Int32) (dm dd de dp dq : Int32)  : Met l yX0_cells (Cond.code yX0_cells cX0_cells 1 (some .int) :: BX) ({ frames := 0, cells := 0, slots := 0, locals := 0 }) (xr_P nN D vwCl [(kI, .int), (kJ, .long)] (wDr d1 d2 d3 d4 d5 kI kJ la lb lc di dm dd de dp dq) [.ref d1]) (xr_Q (.int (fX0_cells dd dp de))) 0 0 (fun _ => False) := by
  refine Met.ofW (cc := cX0_cells) (maxL := 1) (ret := (some .int)) (by decide) rfl ?_
  intro p e s m args below meth c s₁ B hml hv
  obtain ⟨rfl, hP, hK, hN⟩ := hv
  have hx := B.exec
  have hb := B.bytes
  have hr := B.returns
  have hts0 := atoms_spec (ws := Cond.code yX0_cells cX0_cells 1 (some .int) :: BX) B.pre
  have hts : ∀ w ∈ BX, w.before _ s = true := fun w h => hts0 w (List.mem_cons_of_mem _ h)
  have hown : s.vm.findClass RX0 = some m.cls := findClass_of_methodNamed B.named
  have hlocks := B.notSynchronized
  have hl := lv_entry ([.ref d1]) (n := 1) (Nat.le_of_ble_eq_true rfl)
  rw [lg_entry_eq]
  generalize (lg_sl ([.ref d1]) ++ List.replicate (1 - (lg_sl ([.ref d1])).length) Slot.unset).toArray = ls at hl ⊢
  have hl : lv_has ls 1 [(0, .ref d1)] := hl
  refine lv_iconst (v := 1) hx hb dX0_cells_0 (by decide) ?_
  refine lv_aload_n hx hb dX0_cells_1 rfl (lv_at hl 0 rfl) ?_
  refine va_get (D := D) (ci := 4) (v := .int dd) (C := RX0) (T := TX0) (N := 9) hx hb hts hinX0 hown hK hP 0 rfl rfl 5 (by decide) (hts _ fk_X0_42) (fun _ h9 => h9) rfl dX0_cells_2 ?_
  refine lv_iadd hx hb dX0_cells_5 ?_
  refine lv_aload_n hx hb dX0_cells_6 rfl (lv_at hl 0 rfl) ?_
  refine va_get (D := D) (ci := 4) (v := .int dp) (C := RX0) (T := TX0) (N := 9) hx hb hts hinX0 hown hK hP 0 rfl rfl 7 (by decide) (hts _ fk_X0_36) (fun _ h9 => h9) rfl dX0_cells_7 ?_
  refine lv_iadd hx hb dX0_cells_10 ?_
  refine lv_aload_n hx hb dX0_cells_11 rfl (lv_at hl 0 rfl) ?_
  refine va_get (D := D) (ci := 4) (v := .int de) (C := RX0) (T := TX0) (N := 9) hx hb hts hinX0 hown hK hP 0 rfl rfl 6 (by decide) (hts _ fk_X0_33) (fun _ h9 => h9) rfl dX0_cells_12 ?_
  refine lv_isub hx hb dX0_cells_15 ?_
  exact W.iret (v := (((1 : Int32) + dd) + dp) - de) hx hb hr (fun t ht hW => ⟨rfl, ht⟩) (fun _ h => absurd h List.not_mem_nil) dX0_cells_16
def fX0_closedCells (dd dp de : Int32)  : Int32 := if de = (0 : Int32) then ((0 : Int32)) else ((fX0_cells dd dp de) - ((2 : Int32) * dd))
set_option maxHeartbeats 4000000 in
set_option maxRecDepth 100000 in
theorem ct0_closedCells (l : Launch) (D : va_G) (d1 d2 d3 d4 d5 : Nat) (kI kJ : ClassId) (la lb lc : Nat → Int64) (di : Nat → Int32) (dm dd de dp dq : Int32)  : Met l yX0_closedCells (Cond.code yX0_closedCells cX0_closedCells 1 (some .int) :: BX) ({ frames := 1, cells := 0, slots := 0, locals := 60 }) (xr_P nN D vwCl [(kI, .int), (kJ, .long)] (wDr d1 d2 d3 d4 d5 kI kJ la lb lc di dm dd de dp dq) [.ref d1]) (xr_Q (.int (fX0_closedCells dd dp de))) 0 0 (fun _ => False) := by
  refine Met.ofW (cc := cX0_closedCells) (maxL := 1) (ret := (some .int)) (by decide) rfl ?_
  intro p e s m args below meth c s₁ B hml hv
  obtain ⟨rfl, hP, hK, hN⟩ := hv
  have hx := B.exec
  have hb := B.bytes
  have hr := B.returns
  have hts0 := atoms_spec (ws := Cond.code yX0_closedCells cX0_closedCells 1 (some .int) :: BX) B.pre
  have hts : ∀ w ∈ BX, w.before _ s = true := fun w h => hts0 w (List.mem_cons_of_mem _ h)
  have hown : s.vm.findClass RX0 = some m.cls := findClass_of_methodNamed B.named
  have hlocks := B.notSynchronized
  have hl := lv_entry ([.ref d1]) (n := 1) (Nat.le_of_ble_eq_true rfl)
  rw [lg_entry_eq]
  generalize (lg_sl ([.ref d1]) ++ List.replicate (1 - (lg_sl ([.ref d1])).length) Slot.unset).toArray = ls at hl ⊢
  have hl : lv_has ls 1 [(0, .ref d1)] := hl
  refine lv_aload_n hx hb dX0_closedCells_0 rfl (lv_at hl 0 rfl) ?_
  refine va_get (D := D) (ci := 4) (v := .int de) (C := RX0) (T := TX0) (N := 9) hx hb hts hinX0 hown hK hP 0 rfl rfl 6 (by decide) (hts _ fk_X0_33) (fun _ h9 => h9) rfl dX0_closedCells_1 ?_
  refine lv_if_ne (tgt := 11) hx hb dX0_closedCells_4 (by decide) (fun c1 => ?_) (fun c1 => ?_)
  · refine lv_aload_n hx hb dX0_closedCells_11 rfl (lv_at hl 0 rfl) ?_
    refine xr_V (q := (RX0, TX0, 9)) (ci := 4) (q0 := 0) (rest := []) (As := []) ⟨hx, hb, hml, hown, hts⟩ (ct0_cells l D d1 d2 d3 d4 d5 kI kJ la lb lc di dm dd de dp dq  ) (cwV 0 hts gl_X0_49 rfl rfl rfl (by decide +kernel) ⟨Nat.le_of_ble_eq_true rfl, Nat.le_of_ble_eq_true rfl⟩) nN_mv hN hK hP [0, 1, 2, 3, 4] [0, 1] rfl rfl rfl rfl rfl hl.1 rfl (Nat.le_of_ble_eq_true rfl) dX0_closedCells_12 ⟨Nat.le_of_ble_eq_true rfl, Nat.le_of_ble_eq_true rfl⟩ ?_
    refine lv_iconst (v := 2) hx hb dX0_closedCells_15 (by decide) ?_
    refine lv_aload_n hx hb dX0_closedCells_16 rfl (lv_at hl 0 rfl) ?_
    refine va_get (D := D) (ci := 4) (v := .int dd) (C := RX0) (T := TX0) (N := 9) hx hb hts hinX0 hown hK hP 0 rfl rfl 5 (by decide) (hts _ fk_X0_42) (fun _ h9 => h9) rfl dX0_closedCells_17 ?_
    refine lv_imul hx hb dX0_closedCells_20 ?_
    refine lv_isub hx hb dX0_closedCells_21 ?_
    exact W.iret (v := (fX0_cells dd dp de) - ((2 : Int32) * dd)) hx hb hr (fun t ht hW => ⟨by rw [show fX0_closedCells dd dp de = (fX0_cells dd dp de) - ((2 : Int32) * dd) by unfold fX0_closedCells; rw [if_neg c1]], ht⟩) (fun _ h => absurd h List.not_mem_nil) dX0_closedCells_22
  · refine lv_iconst (v := 0) hx hb dX0_closedCells_7 (by decide) ?_
    refine lv_goto (tgt := 22) hx hb dX0_closedCells_8 (by decide) ?_
    exact W.iret (v := (0 : Int32)) hx hb hr (fun t ht hW => ⟨by rw [show fX0_closedCells dd dp de = (0 : Int32) by unfold fX0_closedCells; rw [if_pos c1]], ht⟩) (fun _ h => absurd h List.not_mem_nil) dX0_closedCells_22
def fX0_isNew_A (la lb lc : Nat → Int64) (di : Nat → Int32) (dd : Int32) (ia : Int32) : Nat → Int32 → Int32
  | 0, _ => 0
  | kA + 1, j => if dd ≤ j then ((1 : Int32)) else (if (lg_cmp (fX0_weight la lb (di j.toNatClampNeg) ia) (0 : Int64)) = (0 : Int32) then (if (lg_cmp (fX0_momentX lb lc (di j.toNatClampNeg) ia) (0 : Int64)) = (0 : Int32) then (if (lg_cmp (fX0_momentY lc la (di j.toNatClampNeg) ia) (0 : Int64)) = (0 : Int32) then ((0 : Int32)) else (fX0_isNew_A la lb lc di dd ia kA (j + 1))) else (fX0_isNew_A la lb lc di dd ia kA (j + 1))) else (fX0_isNew_A la lb lc di dd ia kA (j + 1)))
theorem fX0_isNew_A_s (la lb lc : Nat → Int64) (di : Nat → Int32) (dd : Int32) (ia : Int32) (kA : Nat) (j : Int32) : fX0_isNew_A la lb lc di dd ia  (kA + 1) j = (if dd ≤ j then ((1 : Int32)) else (if (lg_cmp (fX0_weight la lb (di j.toNatClampNeg) ia) (0 : Int64)) = (0 : Int32) then (if (lg_cmp (fX0_momentX lb lc (di j.toNatClampNeg) ia) (0 : Int64)) = (0 : Int32) then (if (lg_cmp (fX0_momentY lc la (di j.toNatClampNeg) ia) (0 : Int64)) = (0 : Int32) then ((0 : Int32)) else (fX0_isNew_A la lb lc di dd ia kA (j + 1))) else (fX0_isNew_A la lb lc di dd ia kA (j + 1))) else (fX0_isNew_A la lb lc di dd ia kA (j + 1)))) := rfl
def fX0_isNew (la lb lc : Nat → Int64) (di : Nat → Int32) (dd : Int32) (ia : Int32) : Int32 := fX0_isNew_A la lb lc di dd ia (dd.toInt.toNat + 1) (0 : Int32)
set_option maxHeartbeats 4000000 in
set_option maxRecDepth 100000 in
theorem ct0_isNew (l : Launch) (D : va_G) (d1 d2 d3 d4 d5 : Nat) (kI kJ : ClassId) (la lb lc : Nat → Int64) (di : Nat → Int32) (dm dd de dp dq : Int32) (ia : Int32) (odd : dd.toInt ≤ (12 : Nat)) (odi : ∀ j : Nat, (j : Int) < dd.toInt → vp_in (di j) 12) (oia : vp_in ia 12) : Met l yX0_isNew (Cond.code yX0_isNew cX0_isNew 4 (some .boolean) :: BX) ({ frames := 1, cells := 0, slots := 0, locals := 60 }) (xr_P nN D vwCl [(kI, .int), (kJ, .long)] (wDr d1 d2 d3 d4 d5 kI kJ la lb lc di dm dd de dp dq) [.ref d1, .int ia]) (xr_Q (.int (fX0_isNew la lb lc di dd ia))) 0 0 (fun _ => False) := by
  refine Met.ofW (cc := cX0_isNew) (maxL := 4) (ret := (some .boolean)) (by decide) rfl ?_
  intro p e s m args below meth c s₁ B hml hv
  obtain ⟨rfl, hP, hK, hN⟩ := hv
  have hx := B.exec
  have hb := B.bytes
  have hr := B.returns
  have hts0 := atoms_spec (ws := Cond.code yX0_isNew cX0_isNew 4 (some .boolean) :: BX) B.pre
  have hts : ∀ w ∈ BX, w.before _ s = true := fun w h => hts0 w (List.mem_cons_of_mem _ h)
  have hown : s.vm.findClass RX0 = some m.cls := findClass_of_methodNamed B.named
  have hlocks := B.notSynchronized
  have hl := lv_entry ([.ref d1, .int ia]) (n := 4) (Nat.le_of_ble_eq_true rfl)
  rw [lg_entry_eq]
  generalize (lg_sl ([.ref d1, .int ia]) ++ List.replicate (4 - (lg_sl ([.ref d1, .int ia])).length) Slot.unset).toArray = ls at hl ⊢
  have hl : lv_has ls 4 [(0, .ref d1), (1, .int ia)] := hl
  refine lv_iconst (v := 0) hx hb dX0_isNew_0 (by decide) ?_
  refine lv_istore_n (lv' := [(2, .int (0 : Int32)), (0, .ref d1), (1, .int ia)]) hx hb dX0_isNew_1 rfl hl (by decide) rfl (fun ls hl => ?_)
  refine xr_l1 (P := fun ls => W p l e _ s m _ below meth c _ _ _ _ _ (F0 m 2 ls [])) (nL := 4) (fun (j : Int32) => [(2, .int j), (0, .ref d1), (1, .int ia)]) (fun kA (j : Int32) => xr_u dd j kA ∧ fX0_isNew_A la lb lc di dd ia kA j = fX0_isNew la lb lc di dd ia) (fun _ h => xr_u0 h.1) ?_ (dd.toInt.toNat + 1) (0 : Int32) ls hl ⟨(xr_ub dd), (by unfold fX0_isNew; rfl)⟩
  clear hl
  intro kA j ls hl hI ihA
  obtain ⟨huA, hLA⟩ := hI
  refine lv_iload_n hx hb dX0_isNew_2 rfl (lv_at hl 0 rfl) ?_
  refine lv_aload_n hx hb dX0_isNew_3 rfl (lv_at hl 1 rfl) ?_
  refine va_get (D := D) (ci := 4) (v := .int dd) (C := RX0) (T := TX0) (N := 9) hx hb hts hinX0 hown hK hP 0 rfl rfl 5 (by decide) (hts _ fk_X0_42) (fun _ h9 => h9) rfl dX0_isNew_4 ?_
  refine lv_icmp_ge (tgt := 58) hx hb dX0_isNew_7 (by decide) (fun c1 => ?_) (fun c1 => ?_)
  · refine lv_iconst (v := 1) hx hb dX0_isNew_58 (by decide) ?_
    exact W.zret (v := (1 : Int32)) hx hb hr rfl (fun t ht hW => ⟨by rw [← hLA, fX0_isNew_A_s, if_pos c1], ht⟩) (fun _ h => absurd h List.not_mem_nil) dX0_isNew_59
  · refine lv_aload_n hx hb dX0_isNew_10 rfl (lv_at hl 1 rfl) ?_
    refine va_get (D := D) (ci := 4) (v := .ref d5) (C := RX0) (T := TX0) (N := 9) hx hb hts hinX0 hown hK hP 0 rfl rfl 3 (by decide) (hts _ fk_X0_21) (fun _ h9 => h9) rfl dX0_isNew_11 ?_
    refine lv_iload_n hx hb dX0_isNew_14 rfl (lv_at hl 0 rfl) ?_
    refine va_iald hx hb hK hP 4 0 rfl rfl (xr_in huA c1 odd) dX0_isNew_15 ?_
    refine lv_istore_n (lv' := [(3, .int (di j.toNatClampNeg)), (2, .int j), (0, .ref d1), (1, .int ia)]) hx hb dX0_isNew_16 rfl hl (by decide) rfl (fun ls hl => ?_)
    refine lv_aload_n hx hb dX0_isNew_17 rfl (lv_at hl 2 rfl) ?_
    refine lv_iload_n hx hb dX0_isNew_18 rfl (lv_at hl 0 rfl) ?_
    refine lv_iload_n hx hb dX0_isNew_19 rfl (lv_at hl 3 rfl) ?_
    refine xr_V (q := (RX0, TX0, 9)) (ci := 4) (q0 := 0) (rest := []) (As := [.int (di j.toNatClampNeg), .int ia]) ⟨hx, hb, hml, hown, hts⟩ (ct0_weight l D d1 d2 d3 d4 d5 kI kJ la lb lc di dm dd de dp dq (di j.toNatClampNeg) ia (odi _ (xr_cl huA c1)) oia) (cwV 2 hts gl_X0_57 rfl rfl rfl (by decide +kernel) ⟨Nat.le_of_ble_eq_true rfl, Nat.le_of_ble_eq_true rfl⟩) nN_mv hN hK hP [0, 1, 2, 3, 4] [0, 1] rfl rfl rfl rfl rfl hl.1 rfl (Nat.le_of_ble_eq_true rfl) dX0_isNew_20 ⟨Nat.le_of_ble_eq_true rfl, Nat.le_of_ble_eq_true rfl⟩ ?_
    refine lv_lconst (v := 0) hx hb dX0_isNew_23 (by decide) ?_
    refine W.lcmp hx hb dX0_isNew_24 ?_
    refine lv_if_ne (tgt := 52) hx hb dX0_isNew_25 (by decide) (fun c2 => ?_) (fun c2 => ?_)
    · obtain ⟨z3, ez3⟩ : ∃ y : Int32, y = j + 1 := ⟨_, rfl⟩
      refine lv_iinc (v := z3) (lv' := [(2, .int z3), (3, .int (di j.toNatClampNeg)), (0, .ref d1), (1, .int ia)]) hx hb dX0_isNew_52 hl (k := 1) rfl (by rw [ez3]; rfl) (by decide) rfl (fun ls hl => ?_)
      refine lv_goto (tgt := 2) hx hb dX0_isNew_55 (by decide) ?_
      have hl9 := hl
      subst ez3
      exact ihA (j + 1) _ (lv_sub hl9 [0, 2, 3] rfl) ⟨xr_us huA c1, by rw [← hLA, fX0_isNew_A_s, if_neg c1, if_neg c2]⟩
    · refine lv_aload_n hx hb dX0_isNew_28 rfl (lv_at hl 2 rfl) ?_
      refine lv_iload_n hx hb dX0_isNew_29 rfl (lv_at hl 0 rfl) ?_
      refine lv_iload_n hx hb dX0_isNew_30 rfl (lv_at hl 3 rfl) ?_
      refine xr_V (q := (RX0, TX0, 9)) (ci := 4) (q0 := 0) (rest := []) (As := [.int (di j.toNatClampNeg), .int ia]) ⟨hx, hb, hml, hown, hts⟩ (ct0_momentX l D d1 d2 d3 d4 d5 kI kJ la lb lc di dm dd de dp dq (di j.toNatClampNeg) ia (odi _ (xr_cl huA c1)) oia) (cwV 2 hts gl_X0_61 rfl rfl rfl (by decide +kernel) ⟨Nat.le_of_ble_eq_true rfl, Nat.le_of_ble_eq_true rfl⟩) nN_mv hN hK hP [0, 1, 2, 3, 4] [0, 1] rfl rfl rfl rfl rfl hl.1 rfl (Nat.le_of_ble_eq_true rfl) dX0_isNew_31 ⟨Nat.le_of_ble_eq_true rfl, Nat.le_of_ble_eq_true rfl⟩ ?_
      refine lv_lconst (v := 0) hx hb dX0_isNew_34 (by decide) ?_
      refine W.lcmp hx hb dX0_isNew_35 ?_
      refine lv_if_ne (tgt := 52) hx hb dX0_isNew_36 (by decide) (fun c4 => ?_) (fun c4 => ?_)
      · obtain ⟨z5, ez5⟩ : ∃ y : Int32, y = j + 1 := ⟨_, rfl⟩
        refine lv_iinc (v := z5) (lv' := [(2, .int z5), (3, .int (di j.toNatClampNeg)), (0, .ref d1), (1, .int ia)]) hx hb dX0_isNew_52 hl (k := 1) rfl (by rw [ez5]; rfl) (by decide) rfl (fun ls hl => ?_)
        refine lv_goto (tgt := 2) hx hb dX0_isNew_55 (by decide) ?_
        have hl9 := hl
        subst ez5
        exact ihA (j + 1) _ (lv_sub hl9 [0, 2, 3] rfl) ⟨xr_us huA c1, by rw [← hLA, fX0_isNew_A_s, if_neg c1, if_pos c2, if_neg c4]⟩
      · refine lv_aload_n hx hb dX0_isNew_39 rfl (lv_at hl 2 rfl) ?_
        refine lv_iload_n hx hb dX0_isNew_40 rfl (lv_at hl 0 rfl) ?_
        refine lv_iload_n hx hb dX0_isNew_41 rfl (lv_at hl 3 rfl) ?_
        refine xr_V (q := (RX0, TX0, 9)) (ci := 4) (q0 := 0) (rest := []) (As := [.int (di j.toNatClampNeg), .int ia]) ⟨hx, hb, hml, hown, hts⟩ (ct0_momentY l D d1 d2 d3 d4 d5 kI kJ la lb lc di dm dd de dp dq (di j.toNatClampNeg) ia (odi _ (xr_cl huA c1)) oia) (cwV 2 hts gl_X0_64 rfl rfl rfl (by decide +kernel) ⟨Nat.le_of_ble_eq_true rfl, Nat.le_of_ble_eq_true rfl⟩) nN_mv hN hK hP [0, 1, 2, 3, 4] [0, 1] rfl rfl rfl rfl rfl hl.1 rfl (Nat.le_of_ble_eq_true rfl) dX0_isNew_42 ⟨Nat.le_of_ble_eq_true rfl, Nat.le_of_ble_eq_true rfl⟩ ?_
        refine lv_lconst (v := 0) hx hb dX0_isNew_45 (by decide) ?_
        refine W.lcmp hx hb dX0_isNew_46 ?_
        refine lv_if_ne (tgt := 52) hx hb dX0_isNew_47 (by decide) (fun c6 => ?_) (fun c6 => ?_)
        · obtain ⟨z7, ez7⟩ : ∃ y : Int32, y = j + 1 := ⟨_, rfl⟩
          refine lv_iinc (v := z7) (lv' := [(2, .int z7), (3, .int (di j.toNatClampNeg)), (0, .ref d1), (1, .int ia)]) hx hb dX0_isNew_52 hl (k := 1) rfl (by rw [ez7]; rfl) (by decide) rfl (fun ls hl => ?_)
          refine lv_goto (tgt := 2) hx hb dX0_isNew_55 (by decide) ?_
          have hl9 := hl
          subst ez7
          exact ihA (j + 1) _ (lv_sub hl9 [0, 2, 3] rfl) ⟨xr_us huA c1, by rw [← hLA, fX0_isNew_A_s, if_neg c1, if_pos c2, if_pos c4, if_neg c6]⟩
        · refine lv_iconst (v := 0) hx hb dX0_isNew_50 (by decide) ?_
          exact W.zret (v := (0 : Int32)) hx hb hr rfl (fun t ht hW => ⟨by rw [← hLA, fX0_isNew_A_s, if_neg c1, if_pos c2, if_pos c4, if_pos c6], ht⟩) (fun _ h => absurd h List.not_mem_nil) dX0_isNew_51
