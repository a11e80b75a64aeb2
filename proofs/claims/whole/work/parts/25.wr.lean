/-! Writers without loops. -/
abbrev wTa (f1 q1 : Nat) (on cl un ze : Int32) : va_W := [(f1, .inr (5, [.ref q1, .int on, .int cl, .int un, .int ze]))]
abbrev wRp (r1 r2 q1 : Nat) (kI : ClassId) (held : Nat → Int32) (rm : Int32) : va_W := [(r1, .inr (7, [.ref q1, .ref r2, .int rm])), (r2, .inl (kI, 24, .inl held))]
abbrev wOs (o1 f1 r1 d1 q1 q2 q3 : Nat) (kI : ClassId) (xs ys : Nat → Int32) (pm on cl un ze : Int32) : va_W := [(o1, .inr (8, [.ref q1, .ref f1, .ref r1, .ref d1])), (f1, .inr (5, [.ref q1, .int on, .int cl, .int un, .int ze])), (q1, .inr (6, [.ref q2, .ref q3, .int pm])), (q2, .inl (kI, 60, .inl xs)), (q3, .inl (kI, 60, .inl ys))]
abbrev wOl (o1 f1 r1 d1 q1 q2 q3 d2 d3 d4 d5 : Nat) (kI kJ : ClassId) (xs ys : Nat → Int32) (la lb lc : Nat → Int64) (di : Nat → Int32) (pm dm dd de dp dq : Int32) : va_W := [(o1, .inr (8, [.ref q1, .ref f1, .ref r1, .ref d1])), (q1, .inr (6, [.ref q2, .ref q3, .int pm])), (q2, .inl (kI, 60, .inl xs)), (q3, .inl (kI, 60, .inl ys)), (d1, .inr (4, [.ref d2, .ref d3, .ref d4, .ref d5, .int dm, .int dd, .int de, .int dp, .int dq])), (d2, .inl (kJ, 12, .inr (.inl la))), (d3, .inl (kJ, 12, .inr (.inl lb))), (d4, .inl (kJ, 12, .inr (.inl lc))), (d5, .inl (kI, 12, .inl di))]
theorem o_pm {pm : Int32} (h : pm.toInt ≤ (60 : Nat)) (h0 : 0 ≤ pm.toInt) (hc : pm < (60 : Int32)) : vp_in pm 60 := by
  rw [Int32.lt_iff_toInt_lt, show (60 : Int32).toInt = 60 from rfl] at hc
  rw [vp_in_iff]; omega
theorem o_dm {dm : Int32} (h : dm.toInt ≤ (12 : Nat)) (h0 : 0 ≤ dm.toInt) (hc : dm < (12 : Int32)) : vp_in dm 12 := by
  rw [Int32.lt_iff_toInt_lt, show (12 : Int32).toInt = 12 from rfl] at hc
  rw [vp_in_iff]; omega
def fX2_add (xs ys : Nat → Int32) (pm : Int32) (ix : Int32) (iy : Int32) : Int32 := (pm + (1 : Int32)) - (1 : Int32)
def gX2_add_xs (xs ys : Nat → Int32) (pm : Int32) (ix : Int32) (iy : Int32) : Nat → Int32 := upd xs pm.toNatClampNeg ix
def gX2_add_ys (xs ys : Nat → Int32) (pm : Int32) (ix : Int32) (iy : Int32) : Nat → Int32 := upd ys pm.toNatClampNeg iy
def gX2_add_pm (xs ys : Nat → Int32) (pm : Int32) (ix : Int32) (iy : Int32) : Int32 := pm + (1 : Int32)
set_option maxHeartbeats 4000000 in
set_option maxRecDepth 100000 in
theorem ct2_add (l : Launch) (D : va_G) (sz : Nat) (q1 q2 q3 : Nat) (kI : ClassId) (xs ys : Nat → Int32) (pm : Int32) (ix : Int32) (iy : Int32) (opm : vp_in pm 60) : Met l yX2_add (Cond.code yX2_add cX2_add 3 (some .int) :: BX) ({ frames := 0, cells := 0, slots := 0, locals := 0 }) (xw_P nN D vwCl [(kI, .int)] (wPl q1 q2 q3 kI xs ys pm) sz [.ref q1, .int ix, .int iy]) (xw_Q D vwCl (some (.int (fX2_add xs ys pm ix iy))) (wPl q1 q2 q3 kI xs ys pm) (wPl q1 q2 q3 kI (gX2_add_xs xs ys pm ix iy) (gX2_add_ys xs ys pm ix iy) (gX2_add_pm xs ys pm ix iy)) sz) 0 0 (va_A (wPl q1 q2 q3 kI xs ys pm) sz) := by
  refine Met.ofW (cc := cX2_add) (maxL := 3) (ret := (some .int)) (by decide) rfl ?_
  intro p e s m args below meth c s₁ B hml hv
  obtain ⟨rfl, hsz, hP, hK, hN, hD0⟩ := hv
  have hx := B.exec
  have hb := B.bytes
  have hr := B.returns
  have hts0 := atoms_spec (ws := Cond.code yX2_add cX2_add 3 (some .int) :: BX) B.pre
  have hts : ∀ w ∈ BX, w.before _ s = true := fun w h => hts0 w (List.mem_cons_of_mem _ h)
  have hown : s.vm.findClass RX2 = some m.cls := findClass_of_methodNamed B.named
  have hlocks := B.notSynchronized
  subst hsz
  have hD := hD0.self (sz := s.heap.size)
  generalize hAe : va_A (wPl q1 q2 q3 kI xs ys pm) s.heap.size = A at hD ⊢
  have hA : ∀ q : Nat, s.heap.size ≤ q → A q := fun q h => by rw [← hAe]; exact Or.inr h
  have hS : va_S A s.heap s.heap [] := va_S.rf
  have hP : va_P D vwCl [(q1, .inr (6, [.ref q2, .ref q3, .int pm])), (q2, .inl (kI, 60, .inl xs)), (q3, .inl (kI, 60, .inl ys))] s.heap := hP
  have hD : va_D A [(q1, .inr (6, [.ref q2, .ref q3, .int pm])), (q2, .inl (kI, 60, .inl xs)), (q3, .inl (kI, 60, .inl ys))] := hD
  have hl := lv_entry ([.ref q1, .int ix, .int iy]) (n := 3) (Nat.le_of_ble_eq_true rfl)
  rw [lg_entry_eq]
  generalize (lg_sl ([.ref q1, .int ix, .int iy]) ++ List.replicate (3 - (lg_sl ([.ref q1, .int ix, .int iy])).length) Slot.unset).toArray = ls at hl ⊢
  have hl : lv_has ls 3 [(0, .ref q1), (1, .int ix), (2, .int iy)] := hl
  refine lv_aload_n hx hb dX2_add_0 rfl (lv_at hl 0 rfl) ?_
  refine va_get (D := D) (ci := 6) (v := .ref q2) (C := RX2) (T := TX2) (N := 3) hx hb hts hinX2 hown hK hP 0 rfl rfl 0 (by decide) (hts _ fk_X2_9) (fun _ h9 => h9) rfl dX2_add_1 ?_
  refine lv_aload_n hx hb dX2_add_4 rfl (lv_at hl 0 rfl) ?_
  refine va_get (D := D) (ci := 6) (v := .int pm) (C := RX2) (T := TX2) (N := 3) hx hb hts hinX2 hown hK hP 0 rfl rfl 2 (by decide) (hts _ fk_X2_18) (fun _ h9 => h9) rfl dX2_add_5 ?_
  refine lv_iload_n hx hb dX2_add_8 rfl (lv_at hl 1 rfl) ?_
  refine va_iast hx hb hK hP hD hS 1 0 rfl rfl opm dX2_add_9 (fun H locs hP hD hS => ?_)
  have hP : va_P D vwCl [(q1, .inr (6, [.ref q2, .ref q3, .int pm])), (q2, .inl (kI, 60, .inl (upd xs pm.toNatClampNeg ix))), (q3, .inl (kI, 60, .inl ys))] H := hP
  have hD : va_D A [(q1, .inr (6, [.ref q2, .ref q3, .int pm])), (q2, .inl (kI, 60, .inl (upd xs pm.toNatClampNeg ix))), (q3, .inl (kI, 60, .inl ys))] := hD
  refine lv_aload_n hx hb dX2_add_10 rfl (lv_at hl 0 rfl) ?_
  refine va_get (D := D) (ci := 6) (v := .ref q3) (C := RX2) (T := TX2) (N := 3) hx hb hts hinX2 hown hK hP 0 rfl rfl 1 (by decide) (hts _ fk_X2_15) (fun _ h9 => h9) rfl dX2_add_11 ?_
  refine lv_aload_n hx hb dX2_add_14 rfl (lv_at hl 0 rfl) ?_
  refine va_get (D := D) (ci := 6) (v := .int pm) (C := RX2) (T := TX2) (N := 3) hx hb hts hinX2 hown hK hP 0 rfl rfl 2 (by decide) (hts _ fk_X2_18) (fun _ h9 => h9) rfl dX2_add_15 ?_
  refine lv_iload_n hx hb dX2_add_18 rfl (lv_at hl 2 rfl) ?_
  refine va_iast hx hb hK hP hD hS 2 0 rfl rfl opm dX2_add_19 (fun H locs hP hD hS => ?_)
  have hP : va_P D vwCl [(q1, .inr (6, [.ref q2, .ref q3, .int pm])), (q2, .inl (kI, 60, .inl (upd xs pm.toNatClampNeg ix))), (q3, .inl (kI, 60, .inl (upd ys pm.toNatClampNeg iy)))] H := hP
  have hD : va_D A [(q1, .inr (6, [.ref q2, .ref q3, .int pm])), (q2, .inl (kI, 60, .inl (upd xs pm.toNatClampNeg ix))), (q3, .inl (kI, 60, .inl (upd ys pm.toNatClampNeg iy)))] := hD
  refine lv_aload_n hx hb dX2_add_20 rfl (lv_at hl 0 rfl) ?_
  refine lv_dup hx hb dX2_add_21 rfl ?_
  refine va_get (D := D) (ci := 6) (v := .int pm) (C := RX2) (T := TX2) (N := 3) hx hb hts hinX2 hown hK hP 0 rfl rfl 2 (by decide) (hts _ fk_X2_18) (fun _ h9 => h9) rfl dX2_add_22 ?_
  refine lv_iconst (v := 1) hx hb dX2_add_25 (by decide) ?_
  refine lv_iadd hx hb dX2_add_26 ?_
  refine va_put (D := D) (ci := 6) (v := .int (pm + (1 : Int32))) (ty := .int) (C := RX2) (T := TX2) (N := 3) hx hb hts hinX2 tyX2 tyX2_ok nmX2 hown hK hP hD hS 0 rfl rfl 2 (by decide) (hts _ fk_X2_18) (fun _ h9 => h9) rfl (by decide +kernel) rfl rfl (Nat.le_of_ble_eq_true rfl) dX2_add_27 (fun H locs hP hD hS => ?_)
  have hP : va_P D vwCl [(q1, .inr (6, [.ref q2, .ref q3, .int (pm + (1 : Int32))])), (q2, .inl (kI, 60, .inl (upd xs pm.toNatClampNeg ix))), (q3, .inl (kI, 60, .inl (upd ys pm.toNatClampNeg iy)))] H := hP
  have hD : va_D A [(q1, .inr (6, [.ref q2, .ref q3, .int (pm + (1 : Int32))])), (q2, .inl (kI, 60, .inl (upd xs pm.toNatClampNeg ix))), (q3, .inl (kI, 60, .inl (upd ys pm.toNatClampNeg iy)))] := hD
  refine lv_aload_n hx hb dX2_add_30 rfl (lv_at hl 0 rfl) ?_
  refine va_get (D := D) (ci := 6) (v := .int (pm + (1 : Int32))) (C := RX2) (T := TX2) (N := 3) hx hb hts hinX2 hown hK hP 0 rfl rfl 2 (by decide) (hts _ fk_X2_18) (fun _ h9 => h9) rfl dX2_add_31 ?_
  refine lv_iconst (v := 1) hx hb dX2_add_34 (by decide) ?_
  refine lv_isub hx hb dX2_add_35 ?_
  have hP9 := hP
  have hD9 := hD
  have hS9 := hS
  have qv : fX2_add xs ys pm ix iy = (pm + (1 : Int32)) - (1 : Int32) := by unfold fX2_add; rfl
  have q_xs : gX2_add_xs xs ys pm ix iy = upd xs pm.toNatClampNeg ix := by unfold gX2_add_xs; rfl
  have q_ys : gX2_add_ys xs ys pm ix iy = upd ys pm.toNatClampNeg iy := by unfold gX2_add_ys; rfl
  have q_pm : gX2_add_pm xs ys pm ix iy = pm + (1 : Int32) := by unfold gX2_add_pm; rfl
  rw [qv, q_xs, q_ys, q_pm]
  exact W.iret (v := (pm + (1 : Int32)) - (1 : Int32)) hx hb hr (fun t ht hW => ⟨⟨rfl, by rw [ht]; exact hP9, by rw [hAe]; exact hD9⟩, by rw [hAe]; exact hS9.F ht⟩) hS9.2.2 dX2_add_36
def gX1_tally_cl (cl un ze : Int32) (bc : Int32) (sg_ : Int32) : Int32 := if bc = (0 : Int32) then (if sg_ = (0 : Int32) then (cl) else (cl)) else (if sg_ = (0 : Int32) then (cl + (1 : Int32)) else (cl + (1 : Int32)))
def gX1_tally_un (cl un ze : Int32) (bc : Int32) (sg_ : Int32) : Int32 := if bc = (0 : Int32) then (if sg_ = (0 : Int32) then (un + (1 : Int32)) else (un + (1 : Int32))) else (if sg_ = (0 : Int32) then (un) else (un))
def gX1_tally_ze (cl un ze : Int32) (bc : Int32) (sg_ : Int32) : Int32 := if bc = (0 : Int32) then (if sg_ = (0 : Int32) then (ze + (1 : Int32)) else (ze)) else (if sg_ = (0 : Int32) then (ze + (1 : Int32)) else (ze))
set_option maxHeartbeats 4000000 in
set_option maxRecDepth 100000 in
theorem ct1_tally (l : Launch) (D : va_G) (sz : Nat) (f1 q1 : Nat) (on cl un ze : Int32) (bc : Int32) (sg_ : Int32) : Met l yX1_tally (Cond.code yX1_tally cX1_tally 3 none :: BX) ({ frames := 0, cells := 0, slots := 0, locals := 0 }) (xw_P nN D vwCl [] (wTa f1 q1 on cl un ze) sz [.ref f1, .int bc, .int sg_]) (xw_Q D vwCl none (wTa f1 q1 on cl un ze) (wTa f1 q1 on (gX1_tally_cl cl un ze bc sg_) (gX1_tally_un cl un ze bc sg_) (gX1_tally_ze cl un ze bc sg_)) sz) 0 0 (va_A (wTa f1 q1 on cl un ze) sz) := by
  refine Met.ofW (cc := cX1_tally) (maxL := 3) (ret := none) (by decide) rfl ?_
  intro p e s m args below meth c s₁ B hml hv
  obtain ⟨rfl, hsz, hP, hK, hN, hD0⟩ := hv
  have hx := B.exec
  have hb := B.bytes
  have hr := B.returns
  have hts0 := atoms_spec (ws := Cond.code yX1_tally cX1_tally 3 none :: BX) B.pre
  have hts : ∀ w ∈ BX, w.before _ s = true := fun w h => hts0 w (List.mem_cons_of_mem _ h)
  have hown : s.vm.findClass RX1 = some m.cls := findClass_of_methodNamed B.named
  have hlocks := B.notSynchronized
  subst hsz
  have hD := hD0.self (sz := s.heap.size)
  generalize hAe : va_A (wTa f1 q1 on cl un ze) s.heap.size = A at hD ⊢
  have hA : ∀ q : Nat, s.heap.size ≤ q → A q := fun q h => by rw [← hAe]; exact Or.inr h
  have hS : va_S A s.heap s.heap [] := va_S.rf
  have hP : va_P D vwCl [(f1, .inr (5, [.ref q1, .int on, .int cl, .int un, .int ze]))] s.heap := hP
  have hD : va_D A [(f1, .inr (5, [.ref q1, .int on, .int cl, .int un, .int ze]))] := hD
  have hl := lv_entry ([.ref f1, .int bc, .int sg_]) (n := 3) (Nat.le_of_ble_eq_true rfl)
  rw [lg_entry_eq]
  generalize (lg_sl ([.ref f1, .int bc, .int sg_]) ++ List.replicate (3 - (lg_sl ([.ref f1, .int bc, .int sg_])).length) Slot.unset).toArray = ls at hl ⊢
  have hl : lv_has ls 3 [(0, .ref f1), (1, .int bc), (2, .int sg_)] := hl
  refine lv_iload_n hx hb dX1_tally_0 rfl (lv_at hl 1 rfl) ?_
  refine lv_if_eq (tgt := 17) hx hb dX1_tally_1 (by decide) (fun c1 => ?_) (fun c1 => ?_)
  · refine lv_aload_n hx hb dX1_tally_17 rfl (lv_at hl 0 rfl) ?_
    refine lv_dup hx hb dX1_tally_18 rfl ?_
    refine va_get (D := D) (ci := 5) (v := .int un) (C := RX1) (T := TX1) (N := 5) hx hb hts hinX1 hown hK hP 0 rfl rfl 3 (by decide) (hts _ fk_X1_21) (fun _ h9 => h9) rfl dX1_tally_19 ?_
    refine lv_iconst (v := 1) hx hb dX1_tally_22 (by decide) ?_
    refine lv_iadd hx hb dX1_tally_23 ?_
    refine va_put (D := D) (ci := 5) (v := .int (un + (1 : Int32))) (ty := .int) (C := RX1) (T := TX1) (N := 5) hx hb hts hinX1 tyX1 tyX1_ok nmX1 hown hK hP hD hS 0 rfl rfl 3 (by decide) (hts _ fk_X1_21) (fun _ h9 => h9) rfl (by decide +kernel) rfl rfl (Nat.le_of_ble_eq_true rfl) dX1_tally_24 (fun H locs hP hD hS => ?_)
    have hP : va_P D vwCl [(f1, .inr (5, [.ref q1, .int on, .int cl, .int (un + (1 : Int32)), .int ze]))] H := hP
    have hD : va_D A [(f1, .inr (5, [.ref q1, .int on, .int cl, .int (un + (1 : Int32)), .int ze]))] := hD
    refine lv_iload_n hx hb dX1_tally_27 rfl (lv_at hl 2 rfl) ?_
    refine lv_if_ne (tgt := 41) hx hb dX1_tally_28 (by decide) (fun c2 => ?_) (fun c2 => ?_)
    · have hP9 := hP
      have hD9 := hD
      have hS9 := hS
      have q_cl : gX1_tally_cl cl un ze bc sg_ = cl := by unfold gX1_tally_cl; rw [if_pos c1, if_neg c2]
      have q_un : gX1_tally_un cl un ze bc sg_ = un + (1 : Int32) := by unfold gX1_tally_un; rw [if_pos c1, if_neg c2]
      have q_ze : gX1_tally_ze cl un ze bc sg_ = ze := by unfold gX1_tally_ze; rw [if_pos c1, if_neg c2]
      rw [q_cl, q_un, q_ze]
      exact W.vret hx hb hr (fun t ht hW => ⟨⟨rfl, by rw [ht]; exact hP9, by rw [hAe]; exact hD9⟩, by rw [hAe]; exact hS9.F ht⟩) hS9.2.2 dX1_tally_41
    · refine lv_aload_n hx hb dX1_tally_31 rfl (lv_at hl 0 rfl) ?_
      refine lv_dup hx hb dX1_tally_32 rfl ?_
      refine va_get (D := D) (ci := 5) (v := .int ze) (C := RX1) (T := TX1) (N := 5) hx hb hts hinX1 hown hK hP 0 rfl rfl 4 (by decide) (hts _ fk_X1_24) (fun _ h9 => h9) rfl dX1_tally_33 ?_
      refine lv_iconst (v := 1) hx hb dX1_tally_36 (by decide) ?_
      refine lv_iadd hx hb dX1_tally_37 ?_
      refine va_put (D := D) (ci := 5) (v := .int (ze + (1 : Int32))) (ty := .int) (C := RX1) (T := TX1) (N := 5) hx hb hts hinX1 tyX1 tyX1_ok nmX1 hown hK hP hD hS 0 rfl rfl 4 (by decide) (hts _ fk_X1_24) (fun _ h9 => h9) rfl (by decide +kernel) rfl rfl (Nat.le_of_ble_eq_true rfl) dX1_tally_38 (fun H locs hP hD hS => ?_)
      have hP : va_P D vwCl [(f1, .inr (5, [.ref q1, .int on, .int cl, .int (un + (1 : Int32)), .int (ze + (1 : Int32))]))] H := hP
      have hD : va_D A [(f1, .inr (5, [.ref q1, .int on, .int cl, .int (un + (1 : Int32)), .int (ze + (1 : Int32))]))] := hD
      have hP9 := hP
      have hD9 := hD
      have hS9 := hS
      have q_cl : gX1_tally_cl cl un ze bc sg_ = cl := by unfold gX1_tally_cl; rw [if_pos c1, if_pos c2]
      have q_un : gX1_tally_un cl un ze bc sg_ = un + (1 : Int32) := by unfold gX1_tally_un; rw [if_pos c1, if_pos c2]
      have q_ze : gX1_tally_ze cl un ze bc sg_ = ze + (1 : Int32) := by unfold gX1_tally_ze; rw [if_pos c1, if_pos c2]
      rw [q_cl, q_un, q_ze]
      exact W.vret hx hb hr (fun t ht hW => ⟨⟨rfl, by rw [ht]; exact hP9, by rw [hAe]; exact hD9⟩, by rw [hAe]; exact hS9.F ht⟩) hS9.2.2 dX1_tally_41
  · refine lv_aload_n hx hb dX1_tally_4 rfl (lv_at hl 0 rfl) ?_
    refine lv_dup hx hb dX1_tally_5 rfl ?_
    refine va_get (D := D) (ci := 5) (v := .int cl) (C := RX1) (T := TX1) (N := 5) hx hb hts hinX1 hown hK hP 0 rfl rfl 2 (by decide) (hts _ fk_X1_17) (fun _ h9 => h9) rfl dX1_tally_6 ?_
    refine lv_iconst (v := 1) hx hb dX1_tally_9 (by decide) ?_
    refine lv_iadd hx hb dX1_tally_10 ?_
    refine va_put (D := D) (ci := 5) (v := .int (cl + (1 : Int32))) (ty := .int) (C := RX1) (T := TX1) (N := 5) hx hb hts hinX1 tyX1 tyX1_ok nmX1 hown hK hP hD hS 0 rfl rfl 2 (by decide) (hts _ fk_X1_17) (fun _ h9 => h9) rfl (by decide +kernel) rfl rfl (Nat.le_of_ble_eq_true rfl) dX1_tally_11 (fun H locs hP hD hS => ?_)
    have hP : va_P D vwCl [(f1, .inr (5, [.ref q1, .int on, .int (cl + (1 : Int32)), .int un, .int ze]))] H := hP
    have hD : va_D A [(f1, .inr (5, [.ref q1, .int on, .int (cl + (1 : Int32)), .int un, .int ze]))] := hD
    refine lv_goto (tgt := 27) hx hb dX1_tally_14 (by decide) ?_
    refine lv_iload_n hx hb dX1_tally_27 rfl (lv_at hl 2 rfl) ?_
    refine lv_if_ne (tgt := 41) hx hb dX1_tally_28 (by decide) (fun c3 => ?_) (fun c3 => ?_)
    · have hP9 := hP
      have hD9 := hD
      have hS9 := hS
      have q_cl : gX1_tally_cl cl un ze bc sg_ = cl + (1 : Int32) := by unfold gX1_tally_cl; rw [if_neg c1, if_neg c3]
      have q_un : gX1_tally_un cl un ze bc sg_ = un := by unfold gX1_tally_un; rw [if_neg c1, if_neg c3]
      have q_ze : gX1_tally_ze cl un ze bc sg_ = ze := by unfold gX1_tally_ze; rw [if_neg c1, if_neg c3]
      rw [q_cl, q_un, q_ze]
      exact W.vret hx hb hr (fun t ht hW => ⟨⟨rfl, by rw [ht]; exact hP9, by rw [hAe]; exact hD9⟩, by rw [hAe]; exact hS9.F ht⟩) hS9.2.2 dX1_tally_41
    · refine lv_aload_n hx hb dX1_tally_31 rfl (lv_at hl 0 rfl) ?_
      refine lv_dup hx hb dX1_tally_32 rfl ?_
      refine va_get (D := D) (ci := 5) (v := .int ze) (C := RX1) (T := TX1) (N := 5) hx hb hts hinX1 hown hK hP 0 rfl rfl 4 (by decide) (hts _ fk_X1_24) (fun _ h9 => h9) rfl dX1_tally_33 ?_
      refine lv_iconst (v := 1) hx hb dX1_tally_36 (by decide) ?_
      refine lv_iadd hx hb dX1_tally_37 ?_
      refine va_put (D := D) (ci := 5) (v := .int (ze + (1 : Int32))) (ty := .int) (C := RX1) (T := TX1) (N := 5) hx hb hts hinX1 tyX1 tyX1_ok nmX1 hown hK hP hD hS 0 rfl rfl 4 (by decide) (hts _ fk_X1_24) (fun _ h9 => h9) rfl (by decide +kernel) rfl rfl (Nat.le_of_ble_eq_true rfl) dX1_tally_38 (fun H locs hP hD hS => ?_)
      have hP : va_P D vwCl [(f1, .inr (5, [.ref q1, .int on, .int (cl + (1 : Int32)), .int un, .int (ze + (1 : Int32))]))] H := hP
      have hD : va_D A [(f1, .inr (5, [.ref q1, .int on, .int (cl + (1 : Int32)), .int un, .int (ze + (1 : Int32))]))] := hD
      have hP9 := hP
      have hD9 := hD
      have hS9 := hS
      have q_cl : gX1_tally_cl cl un ze bc sg_ = cl + (1 : Int32) := by unfold gX1_tally_cl; rw [if_neg c1, if_pos c3]
      have q_un : gX1_tally_un cl un ze bc sg_ = un := by unfold gX1_tally_un; rw [if_neg c1, if_pos c3]
      have q_ze : gX1_tally_ze cl un ze bc sg_ = ze + (1 : Int32) := by unfold gX1_tally_ze; rw [if_neg c1, if_pos c3]
      rw [q_cl, q_un, q_ze]
      exact W.vret hx hb hr (fun t ht hW => ⟨⟨rfl, by rw [ht]; exact hP9, by rw [hAe]; exact hD9⟩, by rw [hAe]; exact hS9.F ht⟩) hS9.2.2 dX1_tally_41
def fX3_put (held : Nat → Int32) (ia : Int32) (ip : Int32) : Int32 := held ia.toNatClampNeg
def gX3_put_held (held : Nat → Int32) (ia : Int32) (ip : Int32) : Nat → Int32 := upd held ia.toNatClampNeg ip
set_option maxHeartbeats 4000000 in
set_option maxRecDepth 100000 in
theorem ct3_put (l : Launch) (D : va_G) (sz : Nat) (r1 r2 q1 : Nat) (kI : ClassId) (held : Nat → Int32) (rm : Int32) (ia : Int32) (ip : Int32) (oia : vp_in ia 24) : Met l yX3_put (Cond.code yX3_put cX3_put 4 (some .int) :: BX) ({ frames := 0, cells := 0, slots := 0, locals := 0 }) (xw_P nN D vwCl [(kI, .int)] (wRp r1 r2 q1 kI held rm) sz [.ref r1, .int ia, .int ip]) (xw_Q D vwCl (some (.int (fX3_put held ia ip))) (wRp r1 r2 q1 kI held rm) (wRp r1 r2 q1 kI (gX3_put_held held ia ip) rm) sz) 0 0 (va_A (wRp r1 r2 q1 kI held rm) sz) := by
  refine Met.ofW (cc := cX3_put) (maxL := 4) (ret := (some .int)) (by decide) rfl ?_
  intro p e s m args below meth c s₁ B hml hv
  obtain ⟨rfl, hsz, hP, hK, hN, hD0⟩ := hv
  have hx := B.exec
  have hb := B.bytes
  have hr := B.returns
  have hts0 := atoms_spec (ws := Cond.code yX3_put cX3_put 4 (some .int) :: BX) B.pre
  have hts : ∀ w ∈ BX, w.before _ s = true := fun w h => hts0 w (List.mem_cons_of_mem _ h)
  have hown : s.vm.findClass RX3 = some m.cls := findClass_of_methodNamed B.named
  have hlocks := B.notSynchronized
  subst hsz
  have hD := hD0.self (sz := s.heap.size)
  generalize hAe : va_A (wRp r1 r2 q1 kI held rm) s.heap.size = A at hD ⊢
  have hA : ∀ q : Nat, s.heap.size ≤ q → A q := fun q h => by rw [← hAe]; exact Or.inr h
  have hS : va_S A s.heap s.heap [] := va_S.rf
  have hP : va_P D vwCl [(r1, .inr (7, [.ref q1, .ref r2, .int rm])), (r2, .inl (kI, 24, .inl held))] s.heap := hP
  have hD : va_D A [(r1, .inr (7, [.ref q1, .ref r2, .int rm])), (r2, .inl (kI, 24, .inl held))] := hD
  have hl := lv_entry ([.ref r1, .int ia, .int ip]) (n := 4) (Nat.le_of_ble_eq_true rfl)
  rw [lg_entry_eq]
  generalize (lg_sl ([.ref r1, .int ia, .int ip]) ++ List.replicate (4 - (lg_sl ([.ref r1, .int ia, .int ip])).length) Slot.unset).toArray = ls at hl ⊢
  have hl : lv_has ls 4 [(0, .ref r1), (1, .int ia), (2, .int ip)] := hl
  refine lv_aload_n hx hb dX3_put_0 rfl (lv_at hl 0 rfl) ?_
  refine va_get (D := D) (ci := 7) (v := .ref r2) (C := RX3) (T := TX3) (N := 3) hx hb hts hinX3 hown hK hP 0 rfl rfl 1 (by decide) (hts _ fk_X3_9) (fun _ h9 => h9) rfl dX3_put_1 ?_
  refine lv_iload_n hx hb dX3_put_4 rfl (lv_at hl 1 rfl) ?_
  refine va_iald hx hb hK hP 1 0 rfl rfl oia dX3_put_5 ?_
  refine lv_istore_n (lv' := [(3, .int (held ia.toNatClampNeg)), (0, .ref r1), (1, .int ia), (2, .int ip)]) hx hb dX3_put_6 rfl hl (by decide) rfl (fun ls hl => ?_)
  refine lv_aload_n hx hb dX3_put_7 rfl (lv_at hl 1 rfl) ?_
  refine va_get (D := D) (ci := 7) (v := .ref r2) (C := RX3) (T := TX3) (N := 3) hx hb hts hinX3 hown hK hP 0 rfl rfl 1 (by decide) (hts _ fk_X3_9) (fun _ h9 => h9) rfl dX3_put_8 ?_
  refine lv_iload_n hx hb dX3_put_11 rfl (lv_at hl 2 rfl) ?_
  refine lv_iload_n hx hb dX3_put_12 rfl (lv_at hl 3 rfl) ?_
  refine va_iast hx hb hK hP hD hS 1 0 rfl rfl oia dX3_put_13 (fun H locs hP hD hS => ?_)
  have hP : va_P D vwCl [(r1, .inr (7, [.ref q1, .ref r2, .int rm])), (r2, .inl (kI, 24, .inl (upd held ia.toNatClampNeg ip)))] H := hP
  have hD : va_D A [(r1, .inr (7, [.ref q1, .ref r2, .int rm])), (r2, .inl (kI, 24, .inl (upd held ia.toNatClampNeg ip)))] := hD
  refine lv_iload_n hx hb dX3_put_14 rfl (lv_at hl 0 rfl) ?_
  have hP9 := hP
  have hD9 := hD
  have hS9 := hS
  have qv : fX3_put held ia ip = held ia.toNatClampNeg := by unfold fX3_put; rfl
  have q_held : gX3_put_held held ia ip = upd held ia.toNatClampNeg ip := by unfold gX3_put_held; rfl
  rw [qv, q_held]
  exact W.iret (v := held ia.toNatClampNeg) hx hb hr (fun t ht hW => ⟨⟨rfl, by rw [ht]; exact hP9, by rw [hAe]; exact hD9⟩, by rw [hAe]; exact hS9.F ht⟩) hS9.2.2 dX3_put_15
def fX0_add (la lb lc : Nat → Int64) (dm : Int32) (ix : Int32) (iy : Int32) (ju : Int32) (jv : Int32) : Int32 := (dm + (1 : Int32)) - (1 : Int32)
def gX0_add_la (la lb lc : Nat → Int64) (dm : Int32) (ix : Int32) (iy : Int32) (ju : Int32) (jv : Int32) : Nat → Int64 := vp_updL la dm.toNatClampNeg ((iy - jv).toInt64)
def gX0_add_lb (la lb lc : Nat → Int64) (dm : Int32) (ix : Int32) (iy : Int32) (ju : Int32) (jv : Int32) : Nat → Int64 := vp_updL lb dm.toNatClampNeg ((ju - ix).toInt64)
def gX0_add_lc (la lb lc : Nat → Int64) (dm : Int32) (ix : Int32) (iy : Int32) (ju : Int32) (jv : Int32) : Nat → Int64 := vp_updL lc dm.toNatClampNeg ((ix.toInt64 * jv.toInt64) - (ju.toInt64 * iy.toInt64))
def gX0_add_dm (la lb lc : Nat → Int64) (dm : Int32) (ix : Int32) (iy : Int32) (ju : Int32) (jv : Int32) : Int32 := dm + (1 : Int32)
set_option maxHeartbeats 4000000 in
set_option maxRecDepth 100000 in
theorem ct0_add (l : Launch) (D : va_G) (sz : Nat) (d1 d2 d3 d4 d5 : Nat) (kI kJ : ClassId) (la lb lc : Nat → Int64) (di : Nat → Int32) (dm dd de dp dq : Int32) (ix : Int32) (iy : Int32) (ju : Int32) (jv : Int32) (odm : vp_in dm 12) : Met l yX0_add (Cond.code yX0_add cX0_add 5 (some .int) :: BX) ({ frames := 0, cells := 0, slots := 0, locals := 0 }) (xw_P nN D vwCl [(kI, .int), (kJ, .long)] (wDr d1 d2 d3 d4 d5 kI kJ la lb lc di dm dd de dp dq) sz [.ref d1, .int ix, .int iy, .int ju, .int jv]) (xw_Q D vwCl (some (.int (fX0_add la lb lc dm ix iy ju jv))) (wDr d1 d2 d3 d4 d5 kI kJ la lb lc di dm dd de dp dq) (wDr d1 d2 d3 d4 d5 kI kJ (gX0_add_la la lb lc dm ix iy ju jv) (gX0_add_lb la lb lc dm ix iy ju jv) (gX0_add_lc la lb lc dm ix iy ju jv) di (gX0_add_dm la lb lc dm ix iy ju jv) dd de dp dq) sz) 0 0 (va_A (wDr d1 d2 d3 d4 d5 kI kJ la lb lc di dm dd de dp dq) sz) := by
  refine Met.ofW (cc := cX0_add) (maxL := 5) (ret := (some .int)) (by decide) rfl ?_
  intro p e s m args below meth c s₁ B hml hv
  obtain ⟨rfl, hsz, hP, hK, hN, hD0⟩ := hv
  have hx := B.exec
  have hb := B.bytes
  have hr := B.returns
  have hts0 := atoms_spec (ws := Cond.code yX0_add cX0_add 5 (some .int) :: BX) B.pre
  have hts : ∀ w ∈ BX, w.before _ s = true := fun w h => hts0 w (List.mem_cons_of_mem _ h)
  have hown : s.vm.findClass RX0 = some m.cls := findClass_of_methodNamed B.named
  have hlocks := B.notSynchronized
  subst hsz
  have hD := hD0.self (sz := s.heap.size)
  generalize hAe : va_A (wDr d1 d2 d3 d4 d5 kI kJ la lb lc di dm dd de dp dq) s.heap.size = A at hD ⊢
  have hA : ∀ q : Nat, s.heap.size ≤ q → A q := fun q h => by rw [← hAe]; exact Or.inr h
  have hS : va_S A s.heap s.heap [] := va_S.rf
  have hP : va_P D vwCl [(d1, .inr (4, [.ref d2, .ref d3, .ref d4, .ref d5, .int dm, .int dd, .int de, .int dp, .int dq])), (d2, .inl (kJ, 12, .inr (.inl la))), (d3, .inl (kJ, 12, .inr (.inl lb))), (d4, .inl (kJ, 12, .inr (.inl lc))), (d5, .inl (kI, 12, .inl di))] s.heap := hP
  have hD : va_D A [(d1, .inr (4, [.ref d2, .ref d3, .ref d4, .ref d5, .int dm, .int dd, .int de, .int dp, .int dq])), (d2, .inl (kJ, 12, .inr (.inl la))), (d3, .inl (kJ, 12, .inr (.inl lb))), (d4, .inl (kJ, 12, .inr (.inl lc))), (d5, .inl (kI, 12, .inl di))] := hD
  have hl := lv_entry ([.ref d1, .int ix, .int iy, .int ju, .int jv]) (n := 5) (Nat.le_of_ble_eq_true rfl)
  rw [lg_entry_eq]
  generalize (lg_sl ([.ref d1, .int ix, .int iy, .int ju, .int jv]) ++ List.replicate (5 - (lg_sl ([.ref d1, .int ix, .int iy, .int ju, .int jv])).length) Slot.unset).toArray = ls at hl ⊢
  have hl : lv_has ls 5 [(0, .ref d1), (1, .int ix), (2, .int iy), (3, .int ju), (4, .int jv)] := hl
  refine lv_aload_n hx hb dX0_add_0 rfl (lv_at hl 0 rfl) ?_
  refine va_get (D := D) (ci := 4) (v := .ref d2) (C := RX0) (T := TX0) (N := 9) hx hb hts hinX0 hown hK hP 0 rfl rfl 0 (by decide) (hts _ fk_X0_9) (fun _ h9 => h9) rfl dX0_add_1 ?_
  refine lv_aload_n hx hb dX0_add_4 rfl (lv_at hl 0 rfl) ?_
  refine va_get (D := D) (ci := 4) (v := .int dm) (C := RX0) (T := TX0) (N := 9) hx hb hts hinX0 hown hK hP 0 rfl rfl 4 (by decide) (hts _ fk_X0_25) (fun _ h9 => h9) rfl dX0_add_5 ?_
  refine lv_iload_n hx hb dX0_add_8 rfl (lv_at hl 2 rfl) ?_
  refine lv_iload hx hb dX0_add_9 (lv_at hl 4 rfl) ?_
  refine lv_isub hx hb dX0_add_11 ?_
  refine lv_i2l hx hb dX0_add_12 rfl ?_
  refine va_last hx hb hK hP hD hS 1 1 rfl rfl odm dX0_add_13 (fun H locs hP hD hS => ?_)
  have hP : va_P D vwCl [(d1, .inr (4, [.ref d2, .ref d3, .ref d4, .ref d5, .int dm, .int dd, .int de, .int dp, .int dq])), (d2, .inl (kJ, 12, .inr (.inl (vp_updL la dm.toNatClampNeg ((iy - jv).toInt64))))), (d3, .inl (kJ, 12, .inr (.inl lb))), (d4, .inl (kJ, 12, .inr (.inl lc))), (d5, .inl (kI, 12, .inl di))] H := hP
  have hD : va_D A [(d1, .inr (4, [.ref d2, .ref d3, .ref d4, .ref d5, .int dm, .int dd, .int de, .int dp, .int dq])), (d2, .inl (kJ, 12, .inr (.inl (vp_updL la dm.toNatClampNeg ((iy - jv).toInt64))))), (d3, .inl (kJ, 12, .inr (.inl lb))), (d4, .inl (kJ, 12, .inr (.inl lc))), (d5, .inl (kI, 12, .inl di))] := hD
  refine lv_aload_n hx hb dX0_add_14 rfl (lv_at hl 0 rfl) ?_
  refine va_get (D := D) (ci := 4) (v := .ref d3) (C := RX0) (T := TX0) (N := 9) hx hb hts hinX0 hown hK hP 0 rfl rfl 1 (by decide) (hts _ fk_X0_15) (fun _ h9 => h9) rfl dX0_add_15 ?_
  refine lv_aload_n hx hb dX0_add_18 rfl (lv_at hl 0 rfl) ?_
  refine va_get (D := D) (ci := 4) (v := .int dm) (C := RX0) (T := TX0) (N := 9) hx hb hts hinX0 hown hK hP 0 rfl rfl 4 (by decide) (hts _ fk_X0_25) (fun _ h9 => h9) rfl dX0_add_19 ?_
  refine lv_iload_n hx hb dX0_add_22 rfl (lv_at hl 3 rfl) ?_
  refine lv_iload_n hx hb dX0_add_23 rfl (lv_at hl 1 rfl) ?_
  refine lv_isub hx hb dX0_add_24 ?_
  refine lv_i2l hx hb dX0_add_25 rfl ?_
  refine va_last hx hb hK hP hD hS 2 1 rfl rfl odm dX0_add_26 (fun H locs hP hD hS => ?_)
  have hP : va_P D vwCl [(d1, .inr (4, [.ref d2, .ref d3, .ref d4, .ref d5, .int dm, .int dd, .int de, .int dp, .int dq])), (d2, .inl (kJ, 12, .inr (.inl (vp_updL la dm.toNatClampNeg ((iy - jv).toInt64))))), (d3, .inl (kJ, 12, .inr (.inl (vp_updL lb dm.toNatClampNeg ((ju - ix).toInt64))))), (d4, .inl (kJ, 12, .inr (.inl lc))), (d5, .inl (kI, 12, .inl di))] H := hP
  have hD : va_D A [(d1, .inr (4, [.ref d2, .ref d3, .ref d4, .ref d5, .int dm, .int dd, .int de, .int dp, .int dq])), (d2, .inl (kJ, 12, .inr (.inl (vp_updL la dm.toNatClampNeg ((iy - jv).toInt64))))), (d3, .inl (kJ, 12, .inr (.inl (vp_updL lb dm.toNatClampNeg ((ju - ix).toInt64))))), (d4, .inl (kJ, 12, .inr (.inl lc))), (d5, .inl (kI, 12, .inl di))] := hD
  refine lv_aload_n hx hb dX0_add_27 rfl (lv_at hl 0 rfl) ?_
  refine va_get (D := D) (ci := 4) (v := .ref d4) (C := RX0) (T := TX0) (N := 9) hx hb hts hinX0 hown hK hP 0 rfl rfl 2 (by decide) (hts _ fk_X0_18) (fun _ h9 => h9) rfl dX0_add_28 ?_
  refine lv_aload_n hx hb dX0_add_31 rfl (lv_at hl 0 rfl) ?_
  refine va_get (D := D) (ci := 4) (v := .int dm) (C := RX0) (T := TX0) (N := 9) hx hb hts hinX0 hown hK hP 0 rfl rfl 4 (by decide) (hts _ fk_X0_25) (fun _ h9 => h9) rfl dX0_add_32 ?_
  refine lv_iload_n hx hb dX0_add_35 rfl (lv_at hl 1 rfl) ?_
  refine lv_i2l hx hb dX0_add_36 rfl ?_
  refine lv_iload hx hb dX0_add_37 (lv_at hl 4 rfl) ?_
  refine lv_i2l hx hb dX0_add_39 rfl ?_
  refine lv_lmul hx hb dX0_add_40 ?_
  refine lv_iload_n hx hb dX0_add_41 rfl (lv_at hl 3 rfl) ?_
  refine lv_i2l hx hb dX0_add_42 rfl ?_
  refine lv_iload_n hx hb dX0_add_43 rfl (lv_at hl 2 rfl) ?_
  refine lv_i2l hx hb dX0_add_44 rfl ?_
  refine lv_lmul hx hb dX0_add_45 ?_
  refine lv_lsub hx hb dX0_add_46 ?_
  refine lv_topl (fun z1 ez1 => ?_)
  refine va_last hx hb hK hP hD hS 3 1 rfl rfl odm dX0_add_47 (fun H locs hP hD hS => ?_)
  have hP : va_P D vwCl [(d1, .inr (4, [.ref d2, .ref d3, .ref d4, .ref d5, .int dm, .int dd, .int de, .int dp, .int dq])), (d2, .inl (kJ, 12, .inr (.inl (vp_updL la dm.toNatClampNeg ((iy - jv).toInt64))))), (d3, .inl (kJ, 12, .inr (.inl (vp_updL lb dm.toNatClampNeg ((ju - ix).toInt64))))), (d4, .inl (kJ, 12, .inr (.inl (vp_updL lc dm.toNatClampNeg z1)))), (d5, .inl (kI, 12, .inl di))] H := hP
  have hD : va_D A [(d1, .inr (4, [.ref d2, .ref d3, .ref d4, .ref d5, .int dm, .int dd, .int de, .int dp, .int dq])), (d2, .inl (kJ, 12, .inr (.inl (vp_updL la dm.toNatClampNeg ((iy - jv).toInt64))))), (d3, .inl (kJ, 12, .inr (.inl (vp_updL lb dm.toNatClampNeg ((ju - ix).toInt64))))), (d4, .inl (kJ, 12, .inr (.inl (vp_updL lc dm.toNatClampNeg z1)))), (d5, .inl (kI, 12, .inl di))] := hD
  refine lv_aload_n hx hb dX0_add_48 rfl (lv_at hl 0 rfl) ?_
  refine lv_dup hx hb dX0_add_49 rfl ?_
  refine va_get (D := D) (ci := 4) (v := .int dm) (C := RX0) (T := TX0) (N := 9) hx hb hts hinX0 hown hK hP 0 rfl rfl 4 (by decide) (hts _ fk_X0_25) (fun _ h9 => h9) rfl dX0_add_50 ?_
  refine lv_iconst (v := 1) hx hb dX0_add_53 (by decide) ?_
  refine lv_iadd hx hb dX0_add_54 ?_
  refine va_put (D := D) (ci := 4) (v := .int (dm + (1 : Int32))) (ty := .int) (C := RX0) (T := TX0) (N := 9) hx hb hts hinX0 tyX0 tyX0_ok nmX0 hown hK hP hD hS 0 rfl rfl 4 (by decide) (hts _ fk_X0_25) (fun _ h9 => h9) rfl (by decide +kernel) rfl rfl (Nat.le_of_ble_eq_true rfl) dX0_add_55 (fun H locs hP hD hS => ?_)
  have hP : va_P D vwCl [(d1, .inr (4, [.ref d2, .ref d3, .ref d4, .ref d5, .int (dm + (1 : Int32)), .int dd, .int de, .int dp, .int dq])), (d2, .inl (kJ, 12, .inr (.inl (vp_updL la dm.toNatClampNeg ((iy - jv).toInt64))))), (d3, .inl (kJ, 12, .inr (.inl (vp_updL lb dm.toNatClampNeg ((ju - ix).toInt64))))), (d4, .inl (kJ, 12, .inr (.inl (vp_updL lc dm.toNatClampNeg z1)))), (d5, .inl (kI, 12, .inl di))] H := hP
  have hD : va_D A [(d1, .inr (4, [.ref d2, .ref d3, .ref d4, .ref d5, .int (dm + (1 : Int32)), .int dd, .int de, .int dp, .int dq])), (d2, .inl (kJ, 12, .inr (.inl (vp_updL la dm.toNatClampNeg ((iy - jv).toInt64))))), (d3, .inl (kJ, 12, .inr (.inl (vp_updL lb dm.toNatClampNeg ((ju - ix).toInt64))))), (d4, .inl (kJ, 12, .inr (.inl (vp_updL lc dm.toNatClampNeg z1)))), (d5, .inl (kI, 12, .inl di))] := hD
  refine lv_aload_n hx hb dX0_add_58 rfl (lv_at hl 0 rfl) ?_
  refine va_get (D := D) (ci := 4) (v := .int (dm + (1 : Int32))) (C := RX0) (T := TX0) (N := 9) hx hb hts hinX0 hown hK hP 0 rfl rfl 4 (by decide) (hts _ fk_X0_25) (fun _ h9 => h9) rfl dX0_add_59 ?_
  refine lv_iconst (v := 1) hx hb dX0_add_62 (by decide) ?_
  refine lv_isub hx hb dX0_add_63 ?_
  have hP9 := hP
  have hD9 := hD
  have hS9 := hS
  subst ez1
  have qv : fX0_add la lb lc dm ix iy ju jv = (dm + (1 : Int32)) - (1 : Int32) := by unfold fX0_add; rfl
  have q_la : gX0_add_la la lb lc dm ix iy ju jv = vp_updL la dm.toNatClampNeg ((iy - jv).toInt64) := by unfold gX0_add_la; rfl
  have q_lb : gX0_add_lb la lb lc dm ix iy ju jv = vp_updL lb dm.toNatClampNeg ((ju - ix).toInt64) := by unfold gX0_add_lb; rfl
  have q_lc : gX0_add_lc la lb lc dm ix iy ju jv = vp_updL lc dm.toNatClampNeg ((ix.toInt64 * jv.toInt64) - (ju.toInt64 * iy.toInt64)) := by unfold gX0_add_lc; rfl
  have q_dm : gX0_add_dm la lb lc dm ix iy ju jv = dm + (1 : Int32) := by unfold gX0_add_dm; rfl
  rw [qv, q_la, q_lb, q_lc, q_dm]
  exact W.iret (v := (dm + (1 : Int32)) - (1 : Int32)) hx hb hr (fun t ht hW => ⟨⟨rfl, by rw [ht]; exact hP9, by rw [hAe]; exact hD9⟩, by rw [hAe]; exact hS9.F ht⟩) hS9.2.2 dX0_add_64
def fX4_side (xs ys : Nat → Int32) (pm on cl un ze : Int32) (ia : Int32) (ib : Int32) (ic : Int32) : Int32 := if (fX2_has pm ia) = (0 : Int32) then ((-2 : Int32)) else (if (fX2_has pm ib) = (0 : Int32) then ((-2 : Int32)) else (if (fX2_has pm ic) = (0 : Int32) then ((-2 : Int32)) else (if (fX2_same xs ys ia ib) = (0 : Int32) then (if on = (0 : Int32) then (fX2_turn xs ys ia ib ic) else (if (fX1_clearTurn xs ys ia ib ic) = (0 : Int32) then (fX2_turn xs ys ia ib ic) else (fX1_clearTurn xs ys ia ib ic))) else ((-4 : Int32)))))
def gX4_side_cl (xs ys : Nat → Int32) (pm on cl un ze : Int32) (ia : Int32) (ib : Int32) (ic : Int32) : Int32 := if (fX2_has pm ia) = (0 : Int32) then (cl) else (if (fX2_has pm ib) = (0 : Int32) then (cl) else (if (fX2_has pm ic) = (0 : Int32) then (cl) else (if (fX2_same xs ys ia ib) = (0 : Int32) then (if on = (0 : Int32) then (gX1_tally_cl cl un ze (0 : Int32) (fX2_turn xs ys ia ib ic)) else (if (fX1_clearTurn xs ys ia ib ic) = (0 : Int32) then (gX1_tally_cl cl un ze (0 : Int32) (fX2_turn xs ys ia ib ic)) else (gX1_tally_cl cl un ze (1 : Int32) (fX1_clearTurn xs ys ia ib ic)))) else (cl))))
def gX4_side_un (xs ys : Nat → Int32) (pm on cl un ze : Int32) (ia : Int32) (ib : Int32) (ic : Int32) : Int32 := if (fX2_has pm ia) = (0 : Int32) then (un) else (if (fX2_has pm ib) = (0 : Int32) then (un) else (if (fX2_has pm ic) = (0 : Int32) then (un) else (if (fX2_same xs ys ia ib) = (0 : Int32) then (if on = (0 : Int32) then (gX1_tally_un cl un ze (0 : Int32) (fX2_turn xs ys ia ib ic)) else (if (fX1_clearTurn xs ys ia ib ic) = (0 : Int32) then (gX1_tally_un cl un ze (0 : Int32) (fX2_turn xs ys ia ib ic)) else (gX1_tally_un cl un ze (1 : Int32) (fX1_clearTurn xs ys ia ib ic)))) else (un))))
def gX4_side_ze (xs ys : Nat → Int32) (pm on cl un ze : Int32) (ia : Int32) (ib : Int32) (ic : Int32) : Int32 := if (fX2_has pm ia) = (0 : Int32) then (ze) else (if (fX2_has pm ib) = (0 : Int32) then (ze) else (if (fX2_has pm ic) = (0 : Int32) then (ze) else (if (fX2_same xs ys ia ib) = (0 : Int32) then (if on = (0 : Int32) then (gX1_tally_ze cl un ze (0 : Int32) (fX2_turn xs ys ia ib ic)) else (if (fX1_clearTurn xs ys ia ib ic) = (0 : Int32) then (gX1_tally_ze cl un ze (0 : Int32) (fX2_turn xs ys ia ib ic)) else (gX1_tally_ze cl un ze (1 : Int32) (fX1_clearTurn xs ys ia ib ic)))) else (ze))))
set_option maxHeartbeats 4000000 in
set_option maxRecDepth 100000 in
theorem ct4_side (l : Launch) (D : va_G) (sz : Nat) (o1 f1 r1 d1 q1 q2 q3 : Nat) (kI : ClassId) (xs ys : Nat → Int32) (pm on cl un ze : Int32) (ia : Int32) (ib : Int32) (ic : Int32) (opm : pm.toInt ≤ (60 : Nat)) (bx : bd xs) (by_ : bd ys) : Met l yX4_side (Cond.code yX4_side cX4_side 6 (some .int) :: BX) ({ frames := 4, cells := 0, slots := 0, locals := 240 }) (xw_P nN D vwCl [(kI, .int)] (wOs o1 f1 r1 d1 q1 q2 q3 kI xs ys pm on cl un ze) sz [.ref o1, .int ia, .int ib, .int ic]) (xw_Q D vwCl (some (.int (fX4_side xs ys pm on cl un ze ia ib ic))) (wOs o1 f1 r1 d1 q1 q2 q3 kI xs ys pm on cl un ze) (wOs o1 f1 r1 d1 q1 q2 q3 kI xs ys pm on (gX4_side_cl xs ys pm on cl un ze ia ib ic) (gX4_side_un xs ys pm on cl un ze ia ib ic) (gX4_side_ze xs ys pm on cl un ze ia ib ic)) sz) 0 0 (va_A (wOs o1 f1 r1 d1 q1 q2 q3 kI xs ys pm on cl un ze) sz) := by
  refine Met.ofW (cc := cX4_side) (maxL := 6) (ret := (some .int)) (by decide) rfl ?_
  intro p e s m args below meth c s₁ B hml hv
  obtain ⟨rfl, hsz, hP, hK, hN, hD0⟩ := hv
  have hx := B.exec
  have hb := B.bytes
  have hr := B.returns
  have hts0 := atoms_spec (ws := Cond.code yX4_side cX4_side 6 (some .int) :: BX) B.pre
  have hts : ∀ w ∈ BX, w.before _ s = true := fun w h => hts0 w (List.mem_cons_of_mem _ h)
  have hown : s.vm.findClass RX4 = some m.cls := findClass_of_methodNamed B.named
  have hlocks := B.notSynchronized
  subst hsz
  have hD := hD0.self (sz := s.heap.size)
  generalize hAe : va_A (wOs o1 f1 r1 d1 q1 q2 q3 kI xs ys pm on cl un ze) s.heap.size = A at hD ⊢
  have hA : ∀ q : Nat, s.heap.size ≤ q → A q := fun q h => by rw [← hAe]; exact Or.inr h
  have hS : va_S A s.heap s.heap [] := va_S.rf
  have hP : va_P D vwCl [(o1, .inr (8, [.ref q1, .ref f1, .ref r1, .ref d1])), (f1, .inr (5, [.ref q1, .int on, .int cl, .int un, .int ze])), (q1, .inr (6, [.ref q2, .ref q3, .int pm])), (q2, .inl (kI, 60, .inl xs)), (q3, .inl (kI, 60, .inl ys))] s.heap := hP
  have hD : va_D A [(o1, .inr (8, [.ref q1, .ref f1, .ref r1, .ref d1])), (f1, .inr (5, [.ref q1, .int on, .int cl, .int un, .int ze])), (q1, .inr (6, [.ref q2, .ref q3, .int pm])), (q2, .inl (kI, 60, .inl xs)), (q3, .inl (kI, 60, .inl ys))] := hD
  have hl := lv_entry ([.ref o1, .int ia, .int ib, .int ic]) (n := 6) (Nat.le_of_ble_eq_true rfl)
  rw [lg_entry_eq]
  generalize (lg_sl ([.ref o1, .int ia, .int ib, .int ic]) ++ List.replicate (6 - (lg_sl ([.ref o1, .int ia, .int ib, .int ic])).length) Slot.unset).toArray = ls at hl ⊢
  have hl : lv_has ls 6 [(0, .ref o1), (1, .int ia), (2, .int ib), (3, .int ic)] := hl
  refine lv_aload_n hx hb dX4_side_0 rfl (lv_at hl 0 rfl) ?_
  refine va_get (D := D) (ci := 8) (v := .ref q1) (C := RX4) (T := TX4) (N := 4) hx hb hts hinX4 hown hK hP 0 rfl rfl 0 (by decide) (hts _ fk_X4_10) (fun _ h9 => h9) rfl dX4_side_1 ?_
  refine lv_iload_n hx hb dX4_side_4 rfl (lv_at hl 1 rfl) ?_
  refine xr_V (q := (RX2, TX2, 3)) (ci := 6) (q0 := 2) (rest := []) (As := [.int ia]) ⟨hx, hb, hml, hown, hts⟩ (ct2_has l D q1 q2 q3 kI xs ys pm ia ) (cwV 1 hts gl_X4_65 rfl rfl rfl (by decide +kernel) ⟨Nat.le_of_ble_eq_true rfl, Nat.le_of_ble_eq_true rfl⟩) nN_mv hN hK hP [2, 3, 4] [0] rfl rfl rfl rfl rfl hl.1 rfl (Nat.le_of_ble_eq_true rfl) dX4_side_5 ⟨Nat.le_of_ble_eq_true rfl, Nat.le_of_ble_eq_true rfl⟩ ?_
  refine lv_if_eq (tgt := 33) hx hb dX4_side_8 (by decide) (fun c1 => ?_) (fun c1 => ?_)
  · refine lv_bipush (v := (-2)) hx hb dX4_side_33 (by decide) ?_
    have hP9 := hP
    have hD9 := hD
    have hS9 := hS
    have qv : fX4_side xs ys pm on cl un ze ia ib ic = (-2 : Int32) := by unfold fX4_side; rw [if_pos c1]
    have q_cl : gX4_side_cl xs ys pm on cl un ze ia ib ic = cl := by unfold gX4_side_cl; rw [if_pos c1]
    have q_un : gX4_side_un xs ys pm on cl un ze ia ib ic = un := by unfold gX4_side_un; rw [if_pos c1]
    have q_ze : gX4_side_ze xs ys pm on cl un ze ia ib ic = ze := by unfold gX4_side_ze; rw [if_pos c1]
    rw [qv, q_cl, q_un, q_ze]
    exact W.iret (v := (-2 : Int32)) hx hb hr (fun t ht hW => ⟨⟨rfl, by rw [ht]; exact hP9, by rw [hAe]; exact hD9⟩, by rw [hAe]; exact hS9.F ht⟩) hS9.2.2 dX4_side_35
  · refine lv_aload_n hx hb dX4_side_11 rfl (lv_at hl 0 rfl) ?_
    refine va_get (D := D) (ci := 8) (v := .ref q1) (C := RX4) (T := TX4) (N := 4) hx hb hts hinX4 hown hK hP 0 rfl rfl 0 (by decide) (hts _ fk_X4_10) (fun _ h9 => h9) rfl dX4_side_12 ?_
    refine lv_iload_n hx hb dX4_side_15 rfl (lv_at hl 2 rfl) ?_
    refine xr_V (q := (RX2, TX2, 3)) (ci := 6) (q0 := 2) (rest := []) (As := [.int ib]) ⟨hx, hb, hml, hown, hts⟩ (ct2_has l D q1 q2 q3 kI xs ys pm ib ) (cwV 1 hts gl_X4_65 rfl rfl rfl (by decide +kernel) ⟨Nat.le_of_ble_eq_true rfl, Nat.le_of_ble_eq_true rfl⟩) nN_mv hN hK hP [2, 3, 4] [0] rfl rfl rfl rfl rfl hl.1 rfl (Nat.le_of_ble_eq_true rfl) dX4_side_16 ⟨Nat.le_of_ble_eq_true rfl, Nat.le_of_ble_eq_true rfl⟩ ?_
    refine lv_if_eq (tgt := 33) hx hb dX4_side_19 (by decide) (fun c2 => ?_) (fun c2 => ?_)
    · refine lv_bipush (v := (-2)) hx hb dX4_side_33 (by decide) ?_
      have hP9 := hP
      have hD9 := hD
      have hS9 := hS
      have qv : fX4_side xs ys pm on cl un ze ia ib ic = (-2 : Int32) := by unfold fX4_side; rw [if_neg c1, if_pos c2]
      have q_cl : gX4_side_cl xs ys pm on cl un ze ia ib ic = cl := by unfold gX4_side_cl; rw [if_neg c1, if_pos c2]
      have q_un : gX4_side_un xs ys pm on cl un ze ia ib ic = un := by unfold gX4_side_un; rw [if_neg c1, if_pos c2]
      have q_ze : gX4_side_ze xs ys pm on cl un ze ia ib ic = ze := by unfold gX4_side_ze; rw [if_neg c1, if_pos c2]
      rw [qv, q_cl, q_un, q_ze]
      exact W.iret (v := (-2 : Int32)) hx hb hr (fun t ht hW => ⟨⟨rfl, by rw [ht]; exact hP9, by rw [hAe]; exact hD9⟩, by rw [hAe]; exact hS9.F ht⟩) hS9.2.2 dX4_side_35
    · refine lv_aload_n hx hb dX4_side_22 rfl (lv_at hl 0 rfl) ?_
      refine va_get (D := D) (ci := 8) (v := .ref q1) (C := RX4) (T := TX4) (N := 4) hx hb hts hinX4 hown hK hP 0 rfl rfl 0 (by decide) (hts _ fk_X4_10) (fun _ h9 => h9) rfl dX4_side_23 ?_
      refine lv_iload_n hx hb dX4_side_26 rfl (lv_at hl 3 rfl) ?_
      refine xr_V (q := (RX2, TX2, 3)) (ci := 6) (q0 := 2) (rest := []) (As := [.int ic]) ⟨hx, hb, hml, hown, hts⟩ (ct2_has l D q1 q2 q3 kI xs ys pm ic ) (cwV 1 hts gl_X4_65 rfl rfl rfl (by decide +kernel) ⟨Nat.le_of_ble_eq_true rfl, Nat.le_of_ble_eq_true rfl⟩) nN_mv hN hK hP [2, 3, 4] [0] rfl rfl rfl rfl rfl hl.1 rfl (Nat.le_of_ble_eq_true rfl) dX4_side_27 ⟨Nat.le_of_ble_eq_true rfl, Nat.le_of_ble_eq_true rfl⟩ ?_
      refine lv_if_ne (tgt := 36) hx hb dX4_side_30 (by decide) (fun c3 => ?_) (fun c3 => ?_)
      · refine lv_aload_n hx hb dX4_side_36 rfl (lv_at hl 0 rfl) ?_
        refine va_get (D := D) (ci := 8) (v := .ref q1) (C := RX4) (T := TX4) (N := 4) hx hb hts hinX4 hown hK hP 0 rfl rfl 0 (by decide) (hts _ fk_X4_10) (fun _ h9 => h9) rfl dX4_side_37 ?_
        refine lv_iload_n hx hb dX4_side_40 rfl (lv_at hl 1 rfl) ?_
        refine lv_iload_n hx hb dX4_side_41 rfl (lv_at hl 2 rfl) ?_
        refine xr_V (q := (RX2, TX2, 3)) (ci := 6) (q0 := 2) (rest := []) (As := [.int ia, .int ib]) ⟨hx, hb, hml, hown, hts⟩ (ct2_same l D q1 q2 q3 kI xs ys pm ia ib (o_has c1 opm) (o_has c2 opm)) (cwV 2 hts gl_X4_95 rfl rfl rfl (by decide +kernel) ⟨Nat.le_of_ble_eq_true rfl, Nat.le_of_ble_eq_true rfl⟩) nN_mv hN hK hP [2, 3, 4] [0] rfl rfl rfl rfl rfl hl.1 rfl (Nat.le_of_ble_eq_true rfl) dX4_side_42 ⟨Nat.le_of_ble_eq_true rfl, Nat.le_of_ble_eq_true rfl⟩ ?_
        refine lv_if_eq (tgt := 51) hx hb dX4_side_45 (by decide) (fun c4 => ?_) (fun c4 => ?_)
        · refine lv_aload_n hx hb dX4_side_51 rfl (lv_at hl 0 rfl) ?_
          refine va_get (D := D) (ci := 8) (v := .ref f1) (C := RX4) (T := TX4) (N := 4) hx hb hts hinX4 hown hK hP 0 rfl rfl 1 (by decide) (hts _ fk_X4_21) (fun _ h9 => h9) rfl dX4_side_52 ?_
          refine va_get (D := D) (ci := 5) (v := .int on) (C := RX1) (T := TX1) (N := 5) hx hb hts hinX1 hown hK hP 1 rfl rfl 1 (by decide) (hts _ fk_X4_99) (fun _ h9 => h9) rfl dX4_side_55 ?_
          refine lv_if_eq (tgt := 74) hx hb dX4_side_58 (by decide) (fun c5 => ?_) (fun c5 => ?_)
          · refine lv_iconst (v := 0) hx hb dX4_side_74 (by decide) ?_
            refine lv_istore (lv' := [(4, .int (0 : Int32)), (0, .ref o1), (1, .int ia), (2, .int ib), (3, .int ic)]) hx hb dX4_side_75 hl (by decide) rfl (fun ls hl => ?_)
            refine lv_iload hx hb dX4_side_77 (lv_at hl 0 rfl) ?_
            refine lv_if_eq (tgt := 87) hx hb dX4_side_79 (by decide) (fun c6 => ?_) (fun c6 => ?_)
            · refine lv_aload_n hx hb dX4_side_87 rfl (lv_at hl 1 rfl) ?_
              refine va_get (D := D) (ci := 8) (v := .ref q1) (C := RX4) (T := TX4) (N := 4) hx hb hts hinX4 hown hK hP 0 rfl rfl 0 (by decide) (hts _ fk_X4_10) (fun _ h9 => h9) rfl dX4_side_88 ?_
              refine lv_iload_n hx hb dX4_side_91 rfl (lv_at hl 2 rfl) ?_
              refine lv_iload_n hx hb dX4_side_92 rfl (lv_at hl 3 rfl) ?_
              refine lv_iload_n hx hb dX4_side_93 rfl (lv_at hl 4 rfl) ?_
              refine xr_V (q := (RX2, TX2, 3)) (ci := 6) (q0 := 2) (rest := []) (As := [.int ia, .int ib, .int ic]) ⟨hx, hb, hml, hown, hts⟩ (ct2_turn l D q1 q2 q3 kI xs ys pm ia ib ic (o_has c1 opm) (o_has c2 opm) (o_has c3 opm)) (cwV 3 hts gl_X4_107 rfl rfl rfl (by decide +kernel) ⟨Nat.le_of_ble_eq_true rfl, Nat.le_of_ble_eq_true rfl⟩) nN_mv hN hK hP [2, 3, 4] [0] rfl rfl rfl rfl rfl hl.1 rfl (Nat.le_of_ble_eq_true rfl) dX4_side_94 ⟨Nat.le_of_ble_eq_true rfl, Nat.le_of_ble_eq_true rfl⟩ ?_
              refine lv_istore (lv' := [(5, .int (fX2_turn xs ys ia ib ic)), (4, .int (0 : Int32)), (0, .ref o1), (1, .int ia), (2, .int ib), (3, .int ic)]) hx hb dX4_side_97 hl (by decide) rfl (fun ls hl => ?_)
              refine lv_aload_n hx hb dX4_side_99 rfl (lv_at hl 2 rfl) ?_
              refine va_get (D := D) (ci := 8) (v := .ref f1) (C := RX4) (T := TX4) (N := 4) hx hb hts hinX4 hown hK hP 0 rfl rfl 1 (by decide) (hts _ fk_X4_21) (fun _ h9 => h9) rfl dX4_side_100 ?_
              refine lv_iload hx hb dX4_side_103 (lv_at hl 1 rfl) ?_
              refine lv_if_eq (tgt := 112) hx hb dX4_side_105 (by decide) (fun c7 => ?_) (fun c7 => ?_)
              · refine lv_iconst (v := 0) hx hb dX4_side_112 (by decide) ?_
                refine lv_iload hx hb dX4_side_113 (lv_at hl 0 rfl) ?_
                refine xw_Vv (q := (RX1, TX1, 5)) (ci := 5) (q0 := 1) (rest := []) (As := [.int (0 : Int32), .int (fX2_turn xs ys ia ib ic)]) (wr := [(o1, .inr (8, [.ref q1, .ref f1, .ref r1, .ref d1])), (q1, .inr (6, [.ref q2, .ref q3, .int pm])), (q2, .inl (kI, 60, .inl xs)), (q3, .inl (kI, 60, .inl ys))]) (w1 := (wTa f1 q1 on (gX1_tally_cl cl un ze (0 : Int32) (fX2_turn xs ys ia ib ic)) (gX1_tally_un cl un ze (0 : Int32) (fX2_turn xs ys ia ib ic)) (gX1_tally_ze cl un ze (0 : Int32) (fX2_turn xs ys ia ib ic)))) (ws' := [(o1, .inr (8, [.ref q1, .ref f1, .ref r1, .ref d1])), (f1, .inr (5, [.ref q1, .int on, .int (gX1_tally_cl cl un ze (0 : Int32) (fX2_turn xs ys ia ib ic)), .int (gX1_tally_un cl un ze (0 : Int32) (fX2_turn xs ys ia ib ic)), .int (gX1_tally_ze cl un ze (0 : Int32) (fX2_turn xs ys ia ib ic))])), (q1, .inr (6, [.ref q2, .ref q3, .int pm])), (q2, .inl (kI, 60, .inl xs)), (q3, .inl (kI, 60, .inl ys))]) ⟨hx, hb, hml, hown, hts⟩ (ct1_tally l D _ f1 q1 on cl un ze (0 : Int32) (fX2_turn xs ys ia ib ic) ) (cwV 2 hts gl_X4_110 rfl rfl rfl (by decide +kernel) ⟨Nat.le_of_ble_eq_true rfl, Nat.le_of_ble_eq_true rfl⟩) nN_mv hN hK hP hD hS hA [1] [0, 2, 3, 4] [0, 4, 1, 2, 3] [] rfl (by decide) rfl rfl rfl (by decide) (by decide) rfl (by decide) rfl rfl rfl rfl hl.1 rfl (Nat.le_of_ble_eq_true rfl) dX4_side_115 ⟨Nat.le_of_ble_eq_true rfl, Nat.le_of_ble_eq_true rfl⟩ (fun H locs hP hD hS => ?_)
                have hP : va_P D vwCl [(o1, .inr (8, [.ref q1, .ref f1, .ref r1, .ref d1])), (f1, .inr (5, [.ref q1, .int on, .int (gX1_tally_cl cl un ze (0 : Int32) (fX2_turn xs ys ia ib ic)), .int (gX1_tally_un cl un ze (0 : Int32) (fX2_turn xs ys ia ib ic)), .int (gX1_tally_ze cl un ze (0 : Int32) (fX2_turn xs ys ia ib ic))])), (q1, .inr (6, [.ref q2, .ref q3, .int pm])), (q2, .inl (kI, 60, .inl xs)), (q3, .inl (kI, 60, .inl ys))] H := hP
                have hD : va_D A [(o1, .inr (8, [.ref q1, .ref f1, .ref r1, .ref d1])), (f1, .inr (5, [.ref q1, .int on, .int (gX1_tally_cl cl un ze (0 : Int32) (fX2_turn xs ys ia ib ic)), .int (gX1_tally_un cl un ze (0 : Int32) (fX2_turn xs ys ia ib ic)), .int (gX1_tally_ze cl un ze (0 : Int32) (fX2_turn xs ys ia ib ic))])), (q1, .inr (6, [.ref q2, .ref q3, .int pm])), (q2, .inl (kI, 60, .inl xs)), (q3, .inl (kI, 60, .inl ys))] := hD
                refine lv_iload hx hb dX4_side_118 (lv_at hl 0 rfl) ?_
                have hP9 := hP
                have hD9 := hD
                have hS9 := hS
                have qv : fX4_side xs ys pm on cl un ze ia ib ic = fX2_turn xs ys ia ib ic := by unfold fX4_side; rw [if_neg c1, if_neg c2, if_neg c3, if_pos c4, if_pos c5]
                have q_cl : gX4_side_cl xs ys pm on cl un ze ia ib ic = gX1_tally_cl cl un ze (0 : Int32) (fX2_turn xs ys ia ib ic) := by unfold gX4_side_cl; rw [if_neg c1, if_neg c2, if_neg c3, if_pos c4, if_pos c5]
                have q_un : gX4_side_un xs ys pm on cl un ze ia ib ic = gX1_tally_un cl un ze (0 : Int32) (fX2_turn xs ys ia ib ic) := by unfold gX4_side_un; rw [if_neg c1, if_neg c2, if_neg c3, if_pos c4, if_pos c5]
                have q_ze : gX4_side_ze xs ys pm on cl un ze ia ib ic = gX1_tally_ze cl un ze (0 : Int32) (fX2_turn xs ys ia ib ic) := by unfold gX4_side_ze; rw [if_neg c1, if_neg c2, if_neg c3, if_pos c4, if_pos c5]
                rw [qv, q_cl, q_un, q_ze]
                exact W.iret (v := fX2_turn xs ys ia ib ic) hx hb hr (fun t ht hW => ⟨⟨rfl, by rw [ht]; exact hP9, by rw [hAe]; exact hD9⟩, by rw [hAe]; exact hS9.F ht⟩) hS9.2.2 dX4_side_120
              · exact absurd (by decide) c7
            · exact absurd (by decide) c6
          · refine lv_aload_n hx hb dX4_side_61 rfl (lv_at hl 0 rfl) ?_
            refine va_get (D := D) (ci := 8) (v := .ref f1) (C := RX4) (T := TX4) (N := 4) hx hb hts hinX4 hown hK hP 0 rfl rfl 1 (by decide) (hts _ fk_X4_21) (fun _ h9 => h9) rfl dX4_side_62 ?_
            refine lv_iload_n hx hb dX4_side_65 rfl (lv_at hl 1 rfl) ?_
            refine lv_iload_n hx hb dX4_side_66 rfl (lv_at hl 2 rfl) ?_
            refine lv_iload_n hx hb dX4_side_67 rfl (lv_at hl 3 rfl) ?_
            refine xr_V (q := (RX1, TX1, 5)) (ci := 5) (q0 := 1) (rest := []) (As := [.int ia, .int ib, .int ic]) ⟨hx, hb, hml, hown, hts⟩ (ct1_clearTurn l D f1 q1 q2 q3 kI xs ys pm on cl un ze ia ib ic (o_has c1 opm) (o_has c2 opm) (o_has c3 opm) bx by_) (cwV 3 hts gl_X4_103 rfl rfl rfl (by decide +kernel) ⟨Nat.le_of_ble_eq_true rfl, Nat.le_of_ble_eq_true rfl⟩) nN_mv hN hK hP [1, 2, 3, 4] [0] rfl rfl rfl rfl rfl hl.1 rfl (Nat.le_of_ble_eq_true rfl) dX4_side_68 ⟨Nat.le_of_ble_eq_true rfl, Nat.le_of_ble_eq_true rfl⟩ ?_
            refine lv_goto (tgt := 75) hx hb dX4_side_71 (by decide) ?_
            refine lv_topi (fun z8 ez8 => ?_)
            refine lv_istore (lv' := [(4, .int z8), (0, .ref o1), (1, .int ia), (2, .int ib), (3, .int ic)]) hx hb dX4_side_75 hl (by decide) rfl (fun ls hl => ?_)
            refine lv_iload hx hb dX4_side_77 (lv_at hl 0 rfl) ?_
            refine lv_if_eq (tgt := 87) hx hb dX4_side_79 (by decide) (fun c9 => ?_) (fun c9 => ?_)
            · refine lv_aload_n hx hb dX4_side_87 rfl (lv_at hl 1 rfl) ?_
              refine va_get (D := D) (ci := 8) (v := .ref q1) (C := RX4) (T := TX4) (N := 4) hx hb hts hinX4 hown hK hP 0 rfl rfl 0 (by decide) (hts _ fk_X4_10) (fun _ h9 => h9) rfl dX4_side_88 ?_
              refine lv_iload_n hx hb dX4_side_91 rfl (lv_at hl 2 rfl) ?_
              refine lv_iload_n hx hb dX4_side_92 rfl (lv_at hl 3 rfl) ?_
              refine lv_iload_n hx hb dX4_side_93 rfl (lv_at hl 4 rfl) ?_
              refine xr_V (q := (RX2, TX2, 3)) (ci := 6) (q0 := 2) (rest := []) (As := [.int ia, .int ib, .int ic]) ⟨hx, hb, hml, hown, hts⟩ (ct2_turn l D q1 q2 q3 kI xs ys pm ia ib ic (o_has c1 opm) (o_has c2 opm) (o_has c3 opm)) (cwV 3 hts gl_X4_107 rfl rfl rfl (by decide +kernel) ⟨Nat.le_of_ble_eq_true rfl, Nat.le_of_ble_eq_true rfl⟩) nN_mv hN hK hP [2, 3, 4] [0] rfl rfl rfl rfl rfl hl.1 rfl (Nat.le_of_ble_eq_true rfl) dX4_side_94 ⟨Nat.le_of_ble_eq_true rfl, Nat.le_of_ble_eq_true rfl⟩ ?_
              refine lv_istore (lv' := [(5, .int (fX2_turn xs ys ia ib ic)), (4, .int z8), (0, .ref o1), (1, .int ia), (2, .int ib), (3, .int ic)]) hx hb dX4_side_97 hl (by decide) rfl (fun ls hl => ?_)
              refine lv_aload_n hx hb dX4_side_99 rfl (lv_at hl 2 rfl) ?_
              refine va_get (D := D) (ci := 8) (v := .ref f1) (C := RX4) (T := TX4) (N := 4) hx hb hts hinX4 hown hK hP 0 rfl rfl 1 (by decide) (hts _ fk_X4_21) (fun _ h9 => h9) rfl dX4_side_100 ?_
              refine lv_iload hx hb dX4_side_103 (lv_at hl 1 rfl) ?_
              refine lv_if_eq (tgt := 112) hx hb dX4_side_105 (by decide) (fun c10 => ?_) (fun c10 => ?_)
              · refine lv_iconst (v := 0) hx hb dX4_side_112 (by decide) ?_
                refine lv_iload hx hb dX4_side_113 (lv_at hl 0 rfl) ?_
                refine xw_Vv (q := (RX1, TX1, 5)) (ci := 5) (q0 := 1) (rest := []) (As := [.int (0 : Int32), .int (fX2_turn xs ys ia ib ic)]) (wr := [(o1, .inr (8, [.ref q1, .ref f1, .ref r1, .ref d1])), (q1, .inr (6, [.ref q2, .ref q3, .int pm])), (q2, .inl (kI, 60, .inl xs)), (q3, .inl (kI, 60, .inl ys))]) (w1 := (wTa f1 q1 on (gX1_tally_cl cl un ze (0 : Int32) (fX2_turn xs ys ia ib ic)) (gX1_tally_un cl un ze (0 : Int32) (fX2_turn xs ys ia ib ic)) (gX1_tally_ze cl un ze (0 : Int32) (fX2_turn xs ys ia ib ic)))) (ws' := [(o1, .inr (8, [.ref q1, .ref f1, .ref r1, .ref d1])), (f1, .inr (5, [.ref q1, .int on, .int (gX1_tally_cl cl un ze (0 : Int32) (fX2_turn xs ys ia ib ic)), .int (gX1_tally_un cl un ze (0 : Int32) (fX2_turn xs ys ia ib ic)), .int (gX1_tally_ze cl un ze (0 : Int32) (fX2_turn xs ys ia ib ic))])), (q1, .inr (6, [.ref q2, .ref q3, .int pm])), (q2, .inl (kI, 60, .inl xs)), (q3, .inl (kI, 60, .inl ys))]) ⟨hx, hb, hml, hown, hts⟩ (ct1_tally l D _ f1 q1 on cl un ze (0 : Int32) (fX2_turn xs ys ia ib ic) ) (cwV 2 hts gl_X4_110 rfl rfl rfl (by decide +kernel) ⟨Nat.le_of_ble_eq_true rfl, Nat.le_of_ble_eq_true rfl⟩) nN_mv hN hK hP hD hS hA [1] [0, 2, 3, 4] [0, 4, 1, 2, 3] [] rfl (by decide) rfl rfl rfl (by decide) (by decide) rfl (by decide) rfl rfl rfl rfl hl.1 rfl (Nat.le_of_ble_eq_true rfl) dX4_side_115 ⟨Nat.le_of_ble_eq_true rfl, Nat.le_of_ble_eq_true rfl⟩ (fun H locs hP hD hS => ?_)
                have hP : va_P D vwCl [(o1, .inr (8, [.ref q1, .ref f1, .ref r1, .ref d1])), (f1, .inr (5, [.ref q1, .int on, .int (gX1_tally_cl cl un ze (0 : Int32) (fX2_turn xs ys ia ib ic)), .int (gX1_tally_un cl un ze (0 : Int32) (fX2_turn xs ys ia ib ic)), .int (gX1_tally_ze cl un ze (0 : Int32) (fX2_turn xs ys ia ib ic))])), (q1, .inr (6, [.ref q2, .ref q3, .int pm])), (q2, .inl (kI, 60, .inl xs)), (q3, .inl (kI, 60, .inl ys))] H := hP
                have hD : va_D A [(o1, .inr (8, [.ref q1, .ref f1, .ref r1, .ref d1])), (f1, .inr (5, [.ref q1, .int on, .int (gX1_tally_cl cl un ze (0 : Int32) (fX2_turn xs ys ia ib ic)), .int (gX1_tally_un cl un ze (0 : Int32) (fX2_turn xs ys ia ib ic)), .int (gX1_tally_ze cl un ze (0 : Int32) (fX2_turn xs ys ia ib ic))])), (q1, .inr (6, [.ref q2, .ref q3, .int pm])), (q2, .inl (kI, 60, .inl xs)), (q3, .inl (kI, 60, .inl ys))] := hD
                refine lv_iload hx hb dX4_side_118 (lv_at hl 0 rfl) ?_
                have hP9 := hP
                have hD9 := hD
                have hS9 := hS
                subst ez8
                have qv : fX4_side xs ys pm on cl un ze ia ib ic = fX2_turn xs ys ia ib ic := by unfold fX4_side; rw [if_neg c1, if_neg c2, if_neg c3, if_pos c4, if_neg c5, if_pos c9]
                have q_cl : gX4_side_cl xs ys pm on cl un ze ia ib ic = gX1_tally_cl cl un ze (0 : Int32) (fX2_turn xs ys ia ib ic) := by unfold gX4_side_cl; rw [if_neg c1, if_neg c2, if_neg c3, if_pos c4, if_neg c5, if_pos c9]
                have q_un : gX4_side_un xs ys pm on cl un ze ia ib ic = gX1_tally_un cl un ze (0 : Int32) (fX2_turn xs ys ia ib ic) := by unfold gX4_side_un; rw [if_neg c1, if_neg c2, if_neg c3, if_pos c4, if_neg c5, if_pos c9]
                have q_ze : gX4_side_ze xs ys pm on cl un ze ia ib ic = gX1_tally_ze cl un ze (0 : Int32) (fX2_turn xs ys ia ib ic) := by unfold gX4_side_ze; rw [if_neg c1, if_neg c2, if_neg c3, if_pos c4, if_neg c5, if_pos c9]
                rw [qv, q_cl, q_un, q_ze]
                exact W.iret (v := fX2_turn xs ys ia ib ic) hx hb hr (fun t ht hW => ⟨⟨rfl, by rw [ht]; exact hP9, by rw [hAe]; exact hD9⟩, by rw [hAe]; exact hS9.F ht⟩) hS9.2.2 dX4_side_120
              · exact absurd c9 c10
            · refine lv_iload hx hb dX4_side_82 (lv_at hl 0 rfl) ?_
              refine lv_goto (tgt := 97) hx hb dX4_side_84 (by decide) ?_
              refine lv_istore (lv' := [(5, .int z8), (4, .int z8), (0, .ref o1), (1, .int ia), (2, .int ib), (3, .int ic)]) hx hb dX4_side_97 hl (by decide) rfl (fun ls hl => ?_)
              refine lv_aload_n hx hb dX4_side_99 rfl (lv_at hl 2 rfl) ?_
              refine va_get (D := D) (ci := 8) (v := .ref f1) (C := RX4) (T := TX4) (N := 4) hx hb hts hinX4 hown hK hP 0 rfl rfl 1 (by decide) (hts _ fk_X4_21) (fun _ h9 => h9) rfl dX4_side_100 ?_
              refine lv_iload hx hb dX4_side_103 (lv_at hl 1 rfl) ?_
              refine lv_if_eq (tgt := 112) hx hb dX4_side_105 (by decide) (fun c11 => ?_) (fun c11 => ?_)
              · exact absurd c11 c9
              · refine lv_iconst (v := 1) hx hb dX4_side_108 (by decide) ?_
                refine lv_goto (tgt := 113) hx hb dX4_side_109 (by decide) ?_
                refine lv_iload hx hb dX4_side_113 (lv_at hl 0 rfl) ?_
                refine xw_Vv (q := (RX1, TX1, 5)) (ci := 5) (q0 := 1) (rest := []) (As := [.int (1 : Int32), .int z8]) (wr := [(o1, .inr (8, [.ref q1, .ref f1, .ref r1, .ref d1])), (q1, .inr (6, [.ref q2, .ref q3, .int pm])), (q2, .inl (kI, 60, .inl xs)), (q3, .inl (kI, 60, .inl ys))]) (w1 := (wTa f1 q1 on (gX1_tally_cl cl un ze (1 : Int32) z8) (gX1_tally_un cl un ze (1 : Int32) z8) (gX1_tally_ze cl un ze (1 : Int32) z8))) (ws' := [(o1, .inr (8, [.ref q1, .ref f1, .ref r1, .ref d1])), (f1, .inr (5, [.ref q1, .int on, .int (gX1_tally_cl cl un ze (1 : Int32) z8), .int (gX1_tally_un cl un ze (1 : Int32) z8), .int (gX1_tally_ze cl un ze (1 : Int32) z8)])), (q1, .inr (6, [.ref q2, .ref q3, .int pm])), (q2, .inl (kI, 60, .inl xs)), (q3, .inl (kI, 60, .inl ys))]) ⟨hx, hb, hml, hown, hts⟩ (ct1_tally l D _ f1 q1 on cl un ze (1 : Int32) z8 ) (cwV 2 hts gl_X4_110 rfl rfl rfl (by decide +kernel) ⟨Nat.le_of_ble_eq_true rfl, Nat.le_of_ble_eq_true rfl⟩) nN_mv hN hK hP hD hS hA [1] [0, 2, 3, 4] [0, 4, 1, 2, 3] [] rfl (by decide) rfl rfl rfl (by decide) (by decide) rfl (by decide) rfl rfl rfl rfl hl.1 rfl (Nat.le_of_ble_eq_true rfl) dX4_side_115 ⟨Nat.le_of_ble_eq_true rfl, Nat.le_of_ble_eq_true rfl⟩ (fun H locs hP hD hS => ?_)
                have hP : va_P D vwCl [(o1, .inr (8, [.ref q1, .ref f1, .ref r1, .ref d1])), (f1, .inr (5, [.ref q1, .int on, .int (gX1_tally_cl cl un ze (1 : Int32) z8), .int (gX1_tally_un cl un ze (1 : Int32) z8), .int (gX1_tally_ze cl un ze (1 : Int32) z8)])), (q1, .inr (6, [.ref q2, .ref q3, .int pm])), (q2, .inl (kI, 60, .inl xs)), (q3, .inl (kI, 60, .inl ys))] H := hP
                have hD : va_D A [(o1, .inr (8, [.ref q1, .ref f1, .ref r1, .ref d1])), (f1, .inr (5, [.ref q1, .int on, .int (gX1_tally_cl cl un ze (1 : Int32) z8), .int (gX1_tally_un cl un ze (1 : Int32) z8), .int (gX1_tally_ze cl un ze (1 : Int32) z8)])), (q1, .inr (6, [.ref q2, .ref q3, .int pm])), (q2, .inl (kI, 60, .inl xs)), (q3, .inl (kI, 60, .inl ys))] := hD
                refine lv_iload hx hb dX4_side_118 (lv_at hl 0 rfl) ?_
                have hP9 := hP
                have hD9 := hD
                have hS9 := hS
                subst ez8
                have qv : fX4_side xs ys pm on cl un ze ia ib ic = fX1_clearTurn xs ys ia ib ic := by unfold fX4_side; rw [if_neg c1, if_neg c2, if_neg c3, if_pos c4, if_neg c5, if_neg c9]
                have q_cl : gX4_side_cl xs ys pm on cl un ze ia ib ic = gX1_tally_cl cl un ze (1 : Int32) (fX1_clearTurn xs ys ia ib ic) := by unfold gX4_side_cl; rw [if_neg c1, if_neg c2, if_neg c3, if_pos c4, if_neg c5, if_neg c9]
                have q_un : gX4_side_un xs ys pm on cl un ze ia ib ic = gX1_tally_un cl un ze (1 : Int32) (fX1_clearTurn xs ys ia ib ic) := by unfold gX4_side_un; rw [if_neg c1, if_neg c2, if_neg c3, if_pos c4, if_neg c5, if_neg c9]
                have q_ze : gX4_side_ze xs ys pm on cl un ze ia ib ic = gX1_tally_ze cl un ze (1 : Int32) (fX1_clearTurn xs ys ia ib ic) := by unfold gX4_side_ze; rw [if_neg c1, if_neg c2, if_neg c3, if_pos c4, if_neg c5, if_neg c9]
                rw [qv, q_cl, q_un, q_ze]
                exact W.iret (v := fX1_clearTurn xs ys ia ib ic) hx hb hr (fun t ht hW => ⟨⟨rfl, by rw [ht]; exact hP9, by rw [hAe]; exact hD9⟩, by rw [hAe]; exact hS9.F ht⟩) hS9.2.2 dX4_side_120
        · refine lv_bipush (v := (-4)) hx hb dX4_side_48 (by decide) ?_
          have hP9 := hP
          have hD9 := hD
          have hS9 := hS
          have qv : fX4_side xs ys pm on cl un ze ia ib ic = (-4 : Int32) := by unfold fX4_side; rw [if_neg c1, if_neg c2, if_neg c3, if_neg c4]
          have q_cl : gX4_side_cl xs ys pm on cl un ze ia ib ic = cl := by unfold gX4_side_cl; rw [if_neg c1, if_neg c2, if_neg c3, if_neg c4]
          have q_un : gX4_side_un xs ys pm on cl un ze ia ib ic = un := by unfold gX4_side_un; rw [if_neg c1, if_neg c2, if_neg c3, if_neg c4]
          have q_ze : gX4_side_ze xs ys pm on cl un ze ia ib ic = ze := by unfold gX4_side_ze; rw [if_neg c1, if_neg c2, if_neg c3, if_neg c4]
          rw [qv, q_cl, q_un, q_ze]
          exact W.iret (v := (-4 : Int32)) hx hb hr (fun t ht hW => ⟨⟨rfl, by rw [ht]; exact hP9, by rw [hAe]; exact hD9⟩, by rw [hAe]; exact hS9.F ht⟩) hS9.2.2 dX4_side_50
      · refine lv_bipush (v := (-2)) hx hb dX4_side_33 (by decide) ?_
        have hP9 := hP
        have hD9 := hD
        have hS9 := hS
        have qv : fX4_side xs ys pm on cl un ze ia ib ic = (-2 : Int32) := by unfold fX4_side; rw [if_neg c1, if_neg c2, if_pos c3]
        have q_cl : gX4_side_cl xs ys pm on cl un ze ia ib ic = cl := by unfold gX4_side_cl; rw [if_neg c1, if_neg c2, if_pos c3]
        have q_un : gX4_side_un xs ys pm on cl un ze ia ib ic = un := by unfold gX4_side_un; rw [if_neg c1, if_neg c2, if_pos c3]
        have q_ze : gX4_side_ze xs ys pm on cl un ze ia ib ic = ze := by unfold gX4_side_ze; rw [if_neg c1, if_neg c2, if_pos c3]
        rw [qv, q_cl, q_un, q_ze]
        exact W.iret (v := (-2 : Int32)) hx hb hr (fun t ht hW => ⟨⟨rfl, by rw [ht]; exact hP9, by rw [hAe]; exact hD9⟩, by rw [hAe]; exact hS9.F ht⟩) hS9.2.2 dX4_side_35
def fX4_circle (xs ys : Nat → Int32) (pm on cl un ze : Int32) (ia : Int32) (ib : Int32) (ic : Int32) (id : Int32) : Int32 := if (fX2_hasAll pm ia ib ic id) = (0 : Int32) then ((-2 : Int32)) else (if (fX2_turn xs ys ia ib ic) = (0 : Int32) then ((-4 : Int32)) else (if on = (0 : Int32) then ((fX2_turn xs ys ia ib ic) * (fX2_lift xs ys ia ib ic id)) else (if (fX1_clearLift xs ys ia ib ic id) = (0 : Int32) then ((fX2_turn xs ys ia ib ic) * (fX2_lift xs ys ia ib ic id)) else ((fX2_turn xs ys ia ib ic) * (fX1_clearLift xs ys ia ib ic id)))))
def gX4_circle_cl (xs ys : Nat → Int32) (pm on cl un ze : Int32) (ia : Int32) (ib : Int32) (ic : Int32) (id : Int32) : Int32 := if (fX2_hasAll pm ia ib ic id) = (0 : Int32) then (cl) else (if (fX2_turn xs ys ia ib ic) = (0 : Int32) then (cl) else (if on = (0 : Int32) then (gX1_tally_cl cl un ze (0 : Int32) ((fX2_turn xs ys ia ib ic) * (fX2_lift xs ys ia ib ic id))) else (if (fX1_clearLift xs ys ia ib ic id) = (0 : Int32) then (gX1_tally_cl cl un ze (0 : Int32) ((fX2_turn xs ys ia ib ic) * (fX2_lift xs ys ia ib ic id))) else (gX1_tally_cl cl un ze (1 : Int32) ((fX2_turn xs ys ia ib ic) * (fX1_clearLift xs ys ia ib ic id))))))
def gX4_circle_un (xs ys : Nat → Int32) (pm on cl un ze : Int32) (ia : Int32) (ib : Int32) (ic : Int32) (id : Int32) : Int32 := if (fX2_hasAll pm ia ib ic id) = (0 : Int32) then (un) else (if (fX2_turn xs ys ia ib ic) = (0 : Int32) then (un) else (if on = (0 : Int32) then (gX1_tally_un cl un ze (0 : Int32) ((fX2_turn xs ys ia ib ic) * (fX2_lift xs ys ia ib ic id))) else (if (fX1_clearLift xs ys ia ib ic id) = (0 : Int32) then (gX1_tally_un cl un ze (0 : Int32) ((fX2_turn xs ys ia ib ic) * (fX2_lift xs ys ia ib ic id))) else (gX1_tally_un cl un ze (1 : Int32) ((fX2_turn xs ys ia ib ic) * (fX1_clearLift xs ys ia ib ic id))))))
def gX4_circle_ze (xs ys : Nat → Int32) (pm on cl un ze : Int32) (ia : Int32) (ib : Int32) (ic : Int32) (id : Int32) : Int32 := if (fX2_hasAll pm ia ib ic id) = (0 : Int32) then (ze) else (if (fX2_turn xs ys ia ib ic) = (0 : Int32) then (ze) else (if on = (0 : Int32) then (gX1_tally_ze cl un ze (0 : Int32) ((fX2_turn xs ys ia ib ic) * (fX2_lift xs ys ia ib ic id))) else (if (fX1_clearLift xs ys ia ib ic id) = (0 : Int32) then (gX1_tally_ze cl un ze (0 : Int32) ((fX2_turn xs ys ia ib ic) * (fX2_lift xs ys ia ib ic id))) else (gX1_tally_ze cl un ze (1 : Int32) ((fX2_turn xs ys ia ib ic) * (fX1_clearLift xs ys ia ib ic id))))))
set_option maxHeartbeats 4000000 in
set_option maxRecDepth 100000 in
theorem ct4_circle (l : Launch) (D : va_G) (sz : Nat) (o1 f1 r1 d1 q1 q2 q3 : Nat) (kI : ClassId) (xs ys : Nat → Int32) (pm on cl un ze : Int32) (ia : Int32) (ib : Int32) (ic : Int32) (id : Int32) (opm : pm.toInt ≤ (60 : Nat)) (bx : bd xs) (by_ : bd ys) : Met l yX4_circle (Cond.code yX4_circle cX4_circle 8 (some .int) :: BX) ({ frames := 4, cells := 0, slots := 0, locals := 240 }) (xw_P nN D vwCl [(kI, .int)] (wOs o1 f1 r1 d1 q1 q2 q3 kI xs ys pm on cl un ze) sz [.ref o1, .int ia, .int ib, .int ic, .int id]) (xw_Q D vwCl (some (.int (fX4_circle xs ys pm on cl un ze ia ib ic id))) (wOs o1 f1 r1 d1 q1 q2 q3 kI xs ys pm on cl un ze) (wOs o1 f1 r1 d1 q1 q2 q3 kI xs ys pm on (gX4_circle_cl xs ys pm on cl un ze ia ib ic id) (gX4_circle_un xs ys pm on cl un ze ia ib ic id) (gX4_circle_ze xs ys pm on cl un ze ia ib ic id)) sz) 0 0 (va_A (wOs o1 f1 r1 d1 q1 q2 q3 kI xs ys pm on cl un ze) sz) := by
  refine Met.ofW (cc := cX4_circle) (maxL := 8) (ret := (some .int)) (by decide) rfl ?_
  intro p e s m args below meth c s₁ B hml hv
  obtain ⟨rfl, hsz, hP, hK, hN, hD0⟩ := hv
  have hx := B.exec
  have hb := B.bytes
  have hr := B.returns
  have hts0 := atoms_spec (ws := Cond.code yX4_circle cX4_circle 8 (some .int) :: BX) B.pre
  have hts : ∀ w ∈ BX, w.before _ s = true := fun w h => hts0 w (List.mem_cons_of_mem _ h)
  have hown : s.vm.findClass RX4 = some m.cls := findClass_of_methodNamed B.named
  have hlocks := B.notSynchronized
  subst hsz
  have hD := hD0.self (sz := s.heap.size)
  generalize hAe : va_A (wOs o1 f1 r1 d1 q1 q2 q3 kI xs ys pm on cl un ze) s.heap.size = A at hD ⊢
  have hA : ∀ q : Nat, s.heap.size ≤ q → A q := fun q h => by rw [← hAe]; exact Or.inr h
  have hS : va_S A s.heap s.heap [] := va_S.rf
  have hP : va_P D vwCl [(o1, .inr (8, [.ref q1, .ref f1, .ref r1, .ref d1])), (f1, .inr (5, [.ref q1, .int on, .int cl, .int un, .int ze])), (q1, .inr (6, [.ref q2, .ref q3, .int pm])), (q2, .inl (kI, 60, .inl xs)), (q3, .inl (kI, 60, .inl ys))] s.heap := hP
  have hD : va_D A [(o1, .inr (8, [.ref q1, .ref f1, .ref r1, .ref d1])), (f1, .inr (5, [.ref q1, .int on, .int cl, .int un, .int ze])), (q1, .inr (6, [.ref q2, .ref q3, .int pm])), (q2, .inl (kI, 60, .inl xs)), (q3, .inl (kI, 60, .inl ys))] := hD
  have hl := lv_entry ([.ref o1, .int ia, .int ib, .int ic, .int id]) (n := 8) (Nat.le_of_ble_eq_true rfl)
  rw [lg_entry_eq]
  generalize (lg_sl ([.ref o1, .int ia, .int ib, .int ic, .int id]) ++ List.replicate (8 - (lg_sl ([.ref o1, .int ia, .int ib, .int ic, .int id])).length) Slot.unset).toArray = ls at hl ⊢
  have hl : lv_has ls 8 [(0, .ref o1), (1, .int ia), (2, .int ib), (3, .int ic), (4, .int id)] := hl
  refine lv_aload_n hx hb dX4_circle_0 rfl (lv_at hl 0 rfl) ?_
  refine va_get (D := D) (ci := 8) (v := .ref q1) (C := RX4) (T := TX4) (N := 4) hx hb hts hinX4 hown hK hP 0 rfl rfl 0 (by decide) (hts _ fk_X4_10) (fun _ h9 => h9) rfl dX4_circle_1 ?_
  refine lv_iload_n hx hb dX4_circle_4 rfl (lv_at hl 1 rfl) ?_
  refine lv_iload_n hx hb dX4_circle_5 rfl (lv_at hl 2 rfl) ?_
  refine lv_iload_n hx hb dX4_circle_6 rfl (lv_at hl 3 rfl) ?_
  refine lv_iload hx hb dX4_circle_7 (lv_at hl 4 rfl) ?_
  refine xr_V (q := (RX2, TX2, 3)) (ci := 6) (q0 := 2) (rest := []) (As := [.int ia, .int ib, .int ic, .int id]) ⟨hx, hb, hml, hown, hts⟩ (ct2_hasAll l D q1 q2 q3 kI xs ys pm ia ib ic id ) (cwV 4 hts gl_X4_114 rfl rfl rfl (by decide +kernel) ⟨Nat.le_of_ble_eq_true rfl, Nat.le_of_ble_eq_true rfl⟩) nN_mv hN hK hP [2, 3, 4] [0] rfl rfl rfl rfl rfl hl.1 rfl (Nat.le_of_ble_eq_true rfl) dX4_circle_9 ⟨Nat.le_of_ble_eq_true rfl, Nat.le_of_ble_eq_true rfl⟩ ?_
  refine lv_if_ne (tgt := 18) hx hb dX4_circle_12 (by decide) (fun c1 => ?_) (fun c1 => ?_)
  · refine lv_aload_n hx hb dX4_circle_18 rfl (lv_at hl 0 rfl) ?_
    refine va_get (D := D) (ci := 8) (v := .ref q1) (C := RX4) (T := TX4) (N := 4) hx hb hts hinX4 hown hK hP 0 rfl rfl 0 (by decide) (hts _ fk_X4_10) (fun _ h9 => h9) rfl dX4_circle_19 ?_
    refine lv_iload_n hx hb dX4_circle_22 rfl (lv_at hl 1 rfl) ?_
    refine lv_iload_n hx hb dX4_circle_23 rfl (lv_at hl 2 rfl) ?_
    refine lv_iload_n hx hb dX4_circle_24 rfl (lv_at hl 3 rfl) ?_
    refine xr_V (q := (RX2, TX2, 3)) (ci := 6) (q0 := 2) (rest := []) (As := [.int ia, .int ib, .int ic]) ⟨hx, hb, hml, hown, hts⟩ (ct2_turn l D q1 q2 q3 kI xs ys pm ia ib ic ((o_all c1 opm).1) ((o_all c1 opm).2.1) ((o_all c1 opm).2.2.1)) (cwV 3 hts gl_X4_107 rfl rfl rfl (by decide +kernel) ⟨Nat.le_of_ble_eq_true rfl, Nat.le_of_ble_eq_true rfl⟩) nN_mv hN hK hP [2, 3, 4] [0] rfl rfl rfl rfl rfl hl.1 rfl (Nat.le_of_ble_eq_true rfl) dX4_circle_25 ⟨Nat.le_of_ble_eq_true rfl, Nat.le_of_ble_eq_true rfl⟩ ?_
    refine lv_istore (lv' := [(5, .int (fX2_turn xs ys ia ib ic)), (0, .ref o1), (1, .int ia), (2, .int ib), (3, .int ic), (4, .int id)]) hx hb dX4_circle_28 hl (by decide) rfl (fun ls hl => ?_)
    refine lv_iload hx hb dX4_circle_30 (lv_at hl 0 rfl) ?_
    refine lv_if_ne (tgt := 38) hx hb dX4_circle_32 (by decide) (fun c2 => ?_) (fun c2 => ?_)
    · refine lv_aload_n hx hb dX4_circle_38 rfl (lv_at hl 1 rfl) ?_
      refine va_get (D := D) (ci := 8) (v := .ref f1) (C := RX4) (T := TX4) (N := 4) hx hb hts hinX4 hown hK hP 0 rfl rfl 1 (by decide) (hts _ fk_X4_21) (fun _ h9 => h9) rfl dX4_circle_39 ?_
      refine va_get (D := D) (ci := 5) (v := .int on) (C := RX1) (T := TX1) (N := 5) hx hb hts hinX1 hown hK hP 1 rfl rfl 1 (by decide) (hts _ fk_X4_99) (fun _ h9 => h9) rfl dX4_circle_42 ?_
      refine lv_if_eq (tgt := 63) hx hb dX4_circle_45 (by decide) (fun c3 => ?_) (fun c3 => ?_)
      · refine lv_iconst (v := 0) hx hb dX4_circle_63 (by decide) ?_
        refine lv_istore (lv' := [(6, .int (0 : Int32)), (5, .int (fX2_turn xs ys ia ib ic)), (0, .ref o1), (1, .int ia), (2, .int ib), (3, .int ic), (4, .int id)]) hx hb dX4_circle_64 hl (by decide) rfl (fun ls hl => ?_)
        refine lv_iload hx hb dX4_circle_66 (lv_at hl 1 rfl) ?_
        refine lv_iload hx hb dX4_circle_68 (lv_at hl 0 rfl) ?_
        refine lv_if_eq (tgt := 78) hx hb dX4_circle_70 (by decide) (fun c4 => ?_) (fun c4 => ?_)
        · refine lv_aload_n hx hb dX4_circle_78 rfl (lv_at hl 2 rfl) ?_
          refine va_get (D := D) (ci := 8) (v := .ref q1) (C := RX4) (T := TX4) (N := 4) hx hb hts hinX4 hown hK hP 0 rfl rfl 0 (by decide) (hts _ fk_X4_10) (fun _ h9 => h9) rfl dX4_circle_79 ?_
          refine lv_iload_n hx hb dX4_circle_82 rfl (lv_at hl 3 rfl) ?_
          refine lv_iload_n hx hb dX4_circle_83 rfl (lv_at hl 4 rfl) ?_
          refine lv_iload_n hx hb dX4_circle_84 rfl (lv_at hl 5 rfl) ?_
          refine lv_iload hx hb dX4_circle_85 (lv_at hl 6 rfl) ?_
          refine xr_V (q := (RX2, TX2, 3)) (ci := 6) (q0 := 2) (rest := [.int (fX2_turn xs ys ia ib ic)]) (As := [.int ia, .int ib, .int ic, .int id]) ⟨hx, hb, hml, hown, hts⟩ (ct2_lift l D q1 q2 q3 kI xs ys pm ia ib ic id ((o_all c1 opm).1) ((o_all c1 opm).2.1) ((o_all c1 opm).2.2.1) ((o_all c1 opm).2.2.2)) (cwV 4 hts gl_X4_122 rfl rfl rfl (by decide +kernel) ⟨Nat.le_of_ble_eq_true rfl, Nat.le_of_ble_eq_true rfl⟩) nN_mv hN hK hP [2, 3, 4] [0] rfl rfl rfl rfl rfl hl.1 rfl (Nat.le_of_ble_eq_true rfl) dX4_circle_87 ⟨Nat.le_of_ble_eq_true rfl, Nat.le_of_ble_eq_true rfl⟩ ?_
          refine lv_imul hx hb dX4_circle_90 ?_
          refine lv_topi (fun z5 ez5 => ?_)
          refine lv_istore (lv' := [(7, .int z5), (6, .int (0 : Int32)), (5, .int (fX2_turn xs ys ia ib ic)), (0, .ref o1), (1, .int ia), (2, .int ib), (3, .int ic), (4, .int id)]) hx hb dX4_circle_91 hl (by decide) rfl (fun ls hl => ?_)
          refine lv_aload_n hx hb dX4_circle_93 rfl (lv_at hl 3 rfl) ?_
          refine va_get (D := D) (ci := 8) (v := .ref f1) (C := RX4) (T := TX4) (N := 4) hx hb hts hinX4 hown hK hP 0 rfl rfl 1 (by decide) (hts _ fk_X4_21) (fun _ h9 => h9) rfl dX4_circle_94 ?_
          refine lv_iload hx hb dX4_circle_97 (lv_at hl 1 rfl) ?_
          refine lv_if_eq (tgt := 106) hx hb dX4_circle_99 (by decide) (fun c6 => ?_) (fun c6 => ?_)
          · refine lv_iconst (v := 0) hx hb dX4_circle_106 (by decide) ?_
            refine lv_iload hx hb dX4_circle_107 (lv_at hl 0 rfl) ?_
            refine xw_Vv (q := (RX1, TX1, 5)) (ci := 5) (q0 := 1) (rest := []) (As := [.int (0 : Int32), .int z5]) (wr := [(o1, .inr (8, [.ref q1, .ref f1, .ref r1, .ref d1])), (q1, .inr (6, [.ref q2, .ref q3, .int pm])), (q2, .inl (kI, 60, .inl xs)), (q3, .inl (kI, 60, .inl ys))]) (w1 := (wTa f1 q1 on (gX1_tally_cl cl un ze (0 : Int32) z5) (gX1_tally_un cl un ze (0 : Int32) z5) (gX1_tally_ze cl un ze (0 : Int32) z5))) (ws' := [(o1, .inr (8, [.ref q1, .ref f1, .ref r1, .ref d1])), (f1, .inr (5, [.ref q1, .int on, .int (gX1_tally_cl cl un ze (0 : Int32) z5), .int (gX1_tally_un cl un ze (0 : Int32) z5), .int (gX1_tally_ze cl un ze (0 : Int32) z5)])), (q1, .inr (6, [.ref q2, .ref q3, .int pm])), (q2, .inl (kI, 60, .inl xs)), (q3, .inl (kI, 60, .inl ys))]) ⟨hx, hb, hml, hown, hts⟩ (ct1_tally l D _ f1 q1 on cl un ze (0 : Int32) z5 ) (cwV 2 hts gl_X4_110 rfl rfl rfl (by decide +kernel) ⟨Nat.le_of_ble_eq_true rfl, Nat.le_of_ble_eq_true rfl⟩) nN_mv hN hK hP hD hS hA [1] [0, 2, 3, 4] [0, 4, 1, 2, 3] [] rfl (by decide) rfl rfl rfl (by decide) (by decide) rfl (by decide) rfl rfl rfl rfl hl.1 rfl (Nat.le_of_ble_eq_true rfl) dX4_circle_109 ⟨Nat.le_of_ble_eq_true rfl, Nat.le_of_ble_eq_true rfl⟩ (fun H locs hP hD hS => ?_)
            have hP : va_P D vwCl [(o1, .inr (8, [.ref q1, .ref f1, .ref r1, .ref d1])), (f1, .inr (5, [.ref q1, .int on, .int (gX1_tally_cl cl un ze (0 : Int32) z5), .int (gX1_tally_un cl un ze (0 : Int32) z5), .int (gX1_tally_ze cl un ze (0 : Int32) z5)])), (q1, .inr (6, [.ref q2, .ref q3, .int pm])), (q2, .inl (kI, 60, .inl xs)), (q3, .inl (kI, 60, .inl ys))] H := hP
            have hD : va_D A [(o1, .inr (8, [.ref q1, .ref f1, .ref r1, .ref d1])), (f1, .inr (5, [.ref q1, .int on, .int (gX1_tally_cl cl un ze (0 : Int32) z5), .int (gX1_tally_un cl un ze (0 : Int32) z5), .int (gX1_tally_ze cl un ze (0 : Int32) z5)])), (q1, .inr (6, [.ref q2, .ref q3, .int pm])), (q2, .inl (kI, 60, .inl xs)), (q3, .inl (kI, 60, .inl ys))] := hD
            refine lv_iload hx hb dX4_circle_112 (lv_at hl 0 rfl) ?_
            have hP9 := hP
            have hD9 := hD
            have hS9 := hS
            subst ez5
            have qv : fX4_circle xs ys pm on cl un ze ia ib ic id = (fX2_turn xs ys ia ib ic) * (fX2_lift xs ys ia ib ic id) := by unfold fX4_circle; rw [if_neg c1, if_neg c2, if_pos c3]
            have q_cl : gX4_circle_cl xs ys pm on cl un ze ia ib ic id = gX1_tally_cl cl un ze (0 : Int32) ((fX2_turn xs ys ia ib ic) * (fX2_lift xs ys ia ib ic id)) := by unfold gX4_circle_cl; rw [if_neg c1, if_neg c2, if_pos c3]
            have q_un : gX4_circle_un xs ys pm on cl un ze ia ib ic id = gX1_tally_un cl un ze (0 : Int32) ((fX2_turn xs ys ia ib ic) * (fX2_lift xs ys ia ib ic id)) := by unfold gX4_circle_un; rw [if_neg c1, if_neg c2, if_pos c3]
            have q_ze : gX4_circle_ze xs ys pm on cl un ze ia ib ic id = gX1_tally_ze cl un ze (0 : Int32) ((fX2_turn xs ys ia ib ic) * (fX2_lift xs ys ia ib ic id)) := by unfold gX4_circle_ze; rw [if_neg c1, if_neg c2, if_pos c3]
            rw [qv, q_cl, q_un, q_ze]
            exact W.iret (v := (fX2_turn xs ys ia ib ic) * (fX2_lift xs ys ia ib ic id)) hx hb hr (fun t ht hW => ⟨⟨rfl, by rw [ht]; exact hP9, by rw [hAe]; exact hD9⟩, by rw [hAe]; exact hS9.F ht⟩) hS9.2.2 dX4_circle_114
          · exact absurd (by decide) c6
        · exact absurd (by decide) c4
      · refine lv_aload_n hx hb dX4_circle_48 rfl (lv_at hl 1 rfl) ?_
        refine va_get (D := D) (ci := 8) (v := .ref f1) (C := RX4) (T := TX4) (N := 4) hx hb hts hinX4 hown hK hP 0 rfl rfl 1 (by decide) (hts _ fk_X4_21) (fun _ h9 => h9) rfl dX4_circle_49 ?_
        refine lv_iload_n hx hb dX4_circle_52 rfl (lv_at hl 2 rfl) ?_
        refine lv_iload_n hx hb dX4_circle_53 rfl (lv_at hl 3 rfl) ?_
        refine lv_iload_n hx hb dX4_circle_54 rfl (lv_at hl 4 rfl) ?_
        refine lv_iload hx hb dX4_circle_55 (lv_at hl 5 rfl) ?_
        refine xr_V (q := (RX1, TX1, 5)) (ci := 5) (q0 := 1) (rest := []) (As := [.int ia, .int ib, .int ic, .int id]) ⟨hx, hb, hml, hown, hts⟩ (ct1_clearLift l D f1 q1 q2 q3 kI xs ys pm on cl un ze ia ib ic id ((o_all c1 opm).1) ((o_all c1 opm).2.1) ((o_all c1 opm).2.2.1) ((o_all c1 opm).2.2.2) bx by_) (cwV 4 hts gl_X4_118 rfl rfl rfl (by decide +kernel) ⟨Nat.le_of_ble_eq_true rfl, Nat.le_of_ble_eq_true rfl⟩) nN_mv hN hK hP [1, 2, 3, 4] [0] rfl rfl rfl rfl rfl hl.1 rfl (Nat.le_of_ble_eq_true rfl) dX4_circle_57 ⟨Nat.le_of_ble_eq_true rfl, Nat.le_of_ble_eq_true rfl⟩ ?_
        refine lv_goto (tgt := 64) hx hb dX4_circle_60 (by decide) ?_
        refine lv_topi (fun z7 ez7 => ?_)
        refine lv_istore (lv' := [(6, .int z7), (5, .int (fX2_turn xs ys ia ib ic)), (0, .ref o1), (1, .int ia), (2, .int ib), (3, .int ic), (4, .int id)]) hx hb dX4_circle_64 hl (by decide) rfl (fun ls hl => ?_)
        refine lv_iload hx hb dX4_circle_66 (lv_at hl 1 rfl) ?_
        refine lv_iload hx hb dX4_circle_68 (lv_at hl 0 rfl) ?_
        refine lv_if_eq (tgt := 78) hx hb dX4_circle_70 (by decide) (fun c8 => ?_) (fun c8 => ?_)
        · refine lv_aload_n hx hb dX4_circle_78 rfl (lv_at hl 2 rfl) ?_
          refine va_get (D := D) (ci := 8) (v := .ref q1) (C := RX4) (T := TX4) (N := 4) hx hb hts hinX4 hown hK hP 0 rfl rfl 0 (by decide) (hts _ fk_X4_10) (fun _ h9 => h9) rfl dX4_circle_79 ?_
          refine lv_iload_n hx hb dX4_circle_82 rfl (lv_at hl 3 rfl) ?_
          refine lv_iload_n hx hb dX4_circle_83 rfl (lv_at hl 4 rfl) ?_
          refine lv_iload_n hx hb dX4_circle_84 rfl (lv_at hl 5 rfl) ?_
          refine lv_iload hx hb dX4_circle_85 (lv_at hl 6 rfl) ?_
          refine xr_V (q := (RX2, TX2, 3)) (ci := 6) (q0 := 2) (rest := [.int (fX2_turn xs ys ia ib ic)]) (As := [.int ia, .int ib, .int ic, .int id]) ⟨hx, hb, hml, hown, hts⟩ (ct2_lift l D q1 q2 q3 kI xs ys pm ia ib ic id ((o_all c1 opm).1) ((o_all c1 opm).2.1) ((o_all c1 opm).2.2.1) ((o_all c1 opm).2.2.2)) (cwV 4 hts gl_X4_122 rfl rfl rfl (by decide +kernel) ⟨Nat.le_of_ble_eq_true rfl, Nat.le_of_ble_eq_true rfl⟩) nN_mv hN hK hP [2, 3, 4] [0] rfl rfl rfl rfl rfl hl.1 rfl (Nat.le_of_ble_eq_true rfl) dX4_circle_87 ⟨Nat.le_of_ble_eq_true rfl, Nat.le_of_ble_eq_true rfl⟩ ?_
          refine lv_imul hx hb dX4_circle_90 ?_
          refine lv_topi (fun z9 ez9 => ?_)
          refine lv_istore (lv' := [(7, .int z9), (6, .int z7), (5, .int (fX2_turn xs ys ia ib ic)), (0, .ref o1), (1, .int ia), (2, .int ib), (3, .int ic), (4, .int id)]) hx hb dX4_circle_91 hl (by decide) rfl (fun ls hl => ?_)
          refine lv_aload_n hx hb dX4_circle_93 rfl (lv_at hl 3 rfl) ?_
          refine va_get (D := D) (ci := 8) (v := .ref f1) (C := RX4) (T := TX4) (N := 4) hx hb hts hinX4 hown hK hP 0 rfl rfl 1 (by decide) (hts _ fk_X4_21) (fun _ h9 => h9) rfl dX4_circle_94 ?_
          refine lv_iload hx hb dX4_circle_97 (lv_at hl 1 rfl) ?_
          refine lv_if_eq (tgt := 106) hx hb dX4_circle_99 (by decide) (fun c10 => ?_) (fun c10 => ?_)
          · refine lv_iconst (v := 0) hx hb dX4_circle_106 (by decide) ?_
            refine lv_iload hx hb dX4_circle_107 (lv_at hl 0 rfl) ?_
            refine xw_Vv (q := (RX1, TX1, 5)) (ci := 5) (q0 := 1) (rest := []) (As := [.int (0 : Int32), .int z9]) (wr := [(o1, .inr (8, [.ref q1, .ref f1, .ref r1, .ref d1])), (q1, .inr (6, [.ref q2, .ref q3, .int pm])), (q2, .inl (kI, 60, .inl xs)), (q3, .inl (kI, 60, .inl ys))]) (w1 := (wTa f1 q1 on (gX1_tally_cl cl un ze (0 : Int32) z9) (gX1_tally_un cl un ze (0 : Int32) z9) (gX1_tally_ze cl un ze (0 : Int32) z9))) (ws' := [(o1, .inr (8, [.ref q1, .ref f1, .ref r1, .ref d1])), (f1, .inr (5, [.ref q1, .int on, .int (gX1_tally_cl cl un ze (0 : Int32) z9), .int (gX1_tally_un cl un ze (0 : Int32) z9), .int (gX1_tally_ze cl un ze (0 : Int32) z9)])), (q1, .inr (6, [.ref q2, .ref q3, .int pm])), (q2, .inl (kI, 60, .inl xs)), (q3, .inl (kI, 60, .inl ys))]) ⟨hx, hb, hml, hown, hts⟩ (ct1_tally l D _ f1 q1 on cl un ze (0 : Int32) z9 ) (cwV 2 hts gl_X4_110 rfl rfl rfl (by decide +kernel) ⟨Nat.le_of_ble_eq_true rfl, Nat.le_of_ble_eq_true rfl⟩) nN_mv hN hK hP hD hS hA [1] [0, 2, 3, 4] [0, 4, 1, 2, 3] [] rfl (by decide) rfl rfl rfl (by decide) (by decide) rfl (by decide) rfl rfl rfl rfl hl.1 rfl (Nat.le_of_ble_eq_true rfl) dX4_circle_109 ⟨Nat.le_of_ble_eq_true rfl, Nat.le_of_ble_eq_true rfl⟩ (fun H locs hP hD hS => ?_)
            have hP : va_P D vwCl [(o1, .inr (8, [.ref q1, .ref f1, .ref r1, .ref d1])), (f1, .inr (5, [.ref q1, .int on, .int (gX1_tally_cl cl un ze (0 : Int32) z9), .int (gX1_tally_un cl un ze (0 : Int32) z9), .int (gX1_tally_ze cl un ze (0 : Int32) z9)])), (q1, .inr (6, [.ref q2, .ref q3, .int pm])), (q2, .inl (kI, 60, .inl xs)), (q3, .inl (kI, 60, .inl ys))] H := hP
            have hD : va_D A [(o1, .inr (8, [.ref q1, .ref f1, .ref r1, .ref d1])), (f1, .inr (5, [.ref q1, .int on, .int (gX1_tally_cl cl un ze (0 : Int32) z9), .int (gX1_tally_un cl un ze (0 : Int32) z9), .int (gX1_tally_ze cl un ze (0 : Int32) z9)])), (q1, .inr (6, [.ref q2, .ref q3, .int pm])), (q2, .inl (kI, 60, .inl xs)), (q3, .inl (kI, 60, .inl ys))] := hD
            refine lv_iload hx hb dX4_circle_112 (lv_at hl 0 rfl) ?_
            have hP9 := hP
            have hD9 := hD
            have hS9 := hS
            subst ez9 ez7
            have qv : fX4_circle xs ys pm on cl un ze ia ib ic id = (fX2_turn xs ys ia ib ic) * (fX2_lift xs ys ia ib ic id) := by unfold fX4_circle; rw [if_neg c1, if_neg c2, if_neg c3, if_pos c8]
            have q_cl : gX4_circle_cl xs ys pm on cl un ze ia ib ic id = gX1_tally_cl cl un ze (0 : Int32) ((fX2_turn xs ys ia ib ic) * (fX2_lift xs ys ia ib ic id)) := by unfold gX4_circle_cl; rw [if_neg c1, if_neg c2, if_neg c3, if_pos c8]
            have q_un : gX4_circle_un xs ys pm on cl un ze ia ib ic id = gX1_tally_un cl un ze (0 : Int32) ((fX2_turn xs ys ia ib ic) * (fX2_lift xs ys ia ib ic id)) := by unfold gX4_circle_un; rw [if_neg c1, if_neg c2, if_neg c3, if_pos c8]
            have q_ze : gX4_circle_ze xs ys pm on cl un ze ia ib ic id = gX1_tally_ze cl un ze (0 : Int32) ((fX2_turn xs ys ia ib ic) * (fX2_lift xs ys ia ib ic id)) := by unfold gX4_circle_ze; rw [if_neg c1, if_neg c2, if_neg c3, if_pos c8]
            rw [qv, q_cl, q_un, q_ze]
            exact W.iret (v := (fX2_turn xs ys ia ib ic) * (fX2_lift xs ys ia ib ic id)) hx hb hr (fun t ht hW => ⟨⟨rfl, by rw [ht]; exact hP9, by rw [hAe]; exact hD9⟩, by rw [hAe]; exact hS9.F ht⟩) hS9.2.2 dX4_circle_114
          · exact absurd c8 c10
        · refine lv_iload hx hb dX4_circle_73 (lv_at hl 0 rfl) ?_
          refine lv_goto (tgt := 90) hx hb dX4_circle_75 (by decide) ?_
          refine lv_imul hx hb dX4_circle_90 ?_
          refine lv_topi (fun z11 ez11 => ?_)
          refine lv_istore (lv' := [(7, .int z11), (6, .int z7), (5, .int (fX2_turn xs ys ia ib ic)), (0, .ref o1), (1, .int ia), (2, .int ib), (3, .int ic), (4, .int id)]) hx hb dX4_circle_91 hl (by decide) rfl (fun ls hl => ?_)
          refine lv_aload_n hx hb dX4_circle_93 rfl (lv_at hl 3 rfl) ?_
          refine va_get (D := D) (ci := 8) (v := .ref f1) (C := RX4) (T := TX4) (N := 4) hx hb hts hinX4 hown hK hP 0 rfl rfl 1 (by decide) (hts _ fk_X4_21) (fun _ h9 => h9) rfl dX4_circle_94 ?_
          refine lv_iload hx hb dX4_circle_97 (lv_at hl 1 rfl) ?_
          refine lv_if_eq (tgt := 106) hx hb dX4_circle_99 (by decide) (fun c12 => ?_) (fun c12 => ?_)
          · exact absurd c12 c8
          · refine lv_iconst (v := 1) hx hb dX4_circle_102 (by decide) ?_
            refine lv_goto (tgt := 107) hx hb dX4_circle_103 (by decide) ?_
            refine lv_iload hx hb dX4_circle_107 (lv_at hl 0 rfl) ?_
            refine xw_Vv (q := (RX1, TX1, 5)) (ci := 5) (q0 := 1) (rest := []) (As := [.int (1 : Int32), .int z11]) (wr := [(o1, .inr (8, [.ref q1, .ref f1, .ref r1, .ref d1])), (q1, .inr (6, [.ref q2, .ref q3, .int pm])), (q2, .inl (kI, 60, .inl xs)), (q3, .inl (kI, 60, .inl ys))]) (w1 := (wTa f1 q1 on (gX1_tally_cl cl un ze (1 : Int32) z11) (gX1_tally_un cl un ze (1 : Int32) z11) (gX1_tally_ze cl un ze (1 : Int32) z11))) (ws' := [(o1, .inr (8, [.ref q1, .ref f1, .ref r1, .ref d1])), (f1, .inr (5, [.ref q1, .int on, .int (gX1_tally_cl cl un ze (1 : Int32) z11), .int (gX1_tally_un cl un ze (1 : Int32) z11), .int (gX1_tally_ze cl un ze (1 : Int32) z11)])), (q1, .inr (6, [.ref q2, .ref q3, .int pm])), (q2, .inl (kI, 60, .inl xs)), (q3, .inl (kI, 60, .inl ys))]) ⟨hx, hb, hml, hown, hts⟩ (ct1_tally l D _ f1 q1 on cl un ze (1 : Int32) z11 ) (cwV 2 hts gl_X4_110 rfl rfl rfl (by decide +kernel) ⟨Nat.le_of_ble_eq_true rfl, Nat.le_of_ble_eq_true rfl⟩) nN_mv hN hK hP hD hS hA [1] [0, 2, 3, 4] [0, 4, 1, 2, 3] [] rfl (by decide) rfl rfl rfl (by decide) (by decide) rfl (by decide) rfl rfl rfl rfl hl.1 rfl (Nat.le_of_ble_eq_true rfl) dX4_circle_109 ⟨Nat.le_of_ble_eq_true rfl, Nat.le_of_ble_eq_true rfl⟩ (fun H locs hP hD hS => ?_)
            have hP : va_P D vwCl [(o1, .inr (8, [.ref q1, .ref f1, .ref r1, .ref d1])), (f1, .inr (5, [.ref q1, .int on, .int (gX1_tally_cl cl un ze (1 : Int32) z11), .int (gX1_tally_un cl un ze (1 : Int32) z11), .int (gX1_tally_ze cl un ze (1 : Int32) z11)])), (q1, .inr (6, [.ref q2, .ref q3, .int pm])), (q2, .inl (kI, 60, .inl xs)), (q3, .inl (kI, 60, .inl ys))] H := hP
            have hD : va_D A [(o1, .inr (8, [.ref q1, .ref f1, .ref r1, .ref d1])), (f1, .inr (5, [.ref q1, .int on, .int (gX1_tally_cl cl un ze (1 : Int32) z11), .int (gX1_tally_un cl un ze (1 : Int32) z11), .int (gX1_tally_ze cl un ze (1 : Int32) z11)])), (q1, .inr (6, [.ref q2, .ref q3, .int pm])), (q2, .inl (kI, 60, .inl xs)), (q3, .inl (kI, 60, .inl ys))] := hD
            refine lv_iload hx hb dX4_circle_112 (lv_at hl 0 rfl) ?_
            have hP9 := hP
            have hD9 := hD
            have hS9 := hS
            subst ez11 ez7
            have qv : fX4_circle xs ys pm on cl un ze ia ib ic id = (fX2_turn xs ys ia ib ic) * (fX1_clearLift xs ys ia ib ic id) := by unfold fX4_circle; rw [if_neg c1, if_neg c2, if_neg c3, if_neg c8]
            have q_cl : gX4_circle_cl xs ys pm on cl un ze ia ib ic id = gX1_tally_cl cl un ze (1 : Int32) ((fX2_turn xs ys ia ib ic) * (fX1_clearLift xs ys ia ib ic id)) := by unfold gX4_circle_cl; rw [if_neg c1, if_neg c2, if_neg c3, if_neg c8]
            have q_un : gX4_circle_un xs ys pm on cl un ze ia ib ic id = gX1_tally_un cl un ze (1 : Int32) ((fX2_turn xs ys ia ib ic) * (fX1_clearLift xs ys ia ib ic id)) := by unfold gX4_circle_un; rw [if_neg c1, if_neg c2, if_neg c3, if_neg c8]
            have q_ze : gX4_circle_ze xs ys pm on cl un ze ia ib ic id = gX1_tally_ze cl un ze (1 : Int32) ((fX2_turn xs ys ia ib ic) * (fX1_clearLift xs ys ia ib ic id)) := by unfold gX4_circle_ze; rw [if_neg c1, if_neg c2, if_neg c3, if_neg c8]
            rw [qv, q_cl, q_un, q_ze]
            exact W.iret (v := (fX2_turn xs ys ia ib ic) * (fX1_clearLift xs ys ia ib ic id)) hx hb hr (fun t ht hW => ⟨⟨rfl, by rw [ht]; exact hP9, by rw [hAe]; exact hD9⟩, by rw [hAe]; exact hS9.F ht⟩) hS9.2.2 dX4_circle_114
    · refine lv_bipush (v := (-4)) hx hb dX4_circle_35 (by decide) ?_
      have hP9 := hP
      have hD9 := hD
      have hS9 := hS
      have qv : fX4_circle xs ys pm on cl un ze ia ib ic id = (-4 : Int32) := by unfold fX4_circle; rw [if_neg c1, if_pos c2]
      have q_cl : gX4_circle_cl xs ys pm on cl un ze ia ib ic id = cl := by unfold gX4_circle_cl; rw [if_neg c1, if_pos c2]
      have q_un : gX4_circle_un xs ys pm on cl un ze ia ib ic id = un := by unfold gX4_circle_un; rw [if_neg c1, if_pos c2]
      have q_ze : gX4_circle_ze xs ys pm on cl un ze ia ib ic id = ze := by unfold gX4_circle_ze; rw [if_neg c1, if_pos c2]
      rw [qv, q_cl, q_un, q_ze]
      exact W.iret (v := (-4 : Int32)) hx hb hr (fun t ht hW => ⟨⟨rfl, by rw [ht]; exact hP9, by rw [hAe]; exact hD9⟩, by rw [hAe]; exact hS9.F ht⟩) hS9.2.2 dX4_circle_37
  · refine lv_bipush (v := (-2)) hx hb dX4_circle_15 (by decide) ?_
    have hP9 := hP
    have hD9 := hD
    have hS9 := hS
    have qv : fX4_circle xs ys pm on cl un ze ia ib ic id = (-2 : Int32) := by unfold fX4_circle; rw [if_pos c1]
    have q_cl : gX4_circle_cl xs ys pm on cl un ze ia ib ic id = cl := by unfold gX4_circle_cl; rw [if_pos c1]
    have q_un : gX4_circle_un xs ys pm on cl un ze ia ib ic id = un := by unfold gX4_circle_un; rw [if_pos c1]
    have q_ze : gX4_circle_ze xs ys pm on cl un ze ia ib ic id = ze := by unfold gX4_circle_ze; rw [if_pos c1]
    rw [qv, q_cl, q_un, q_ze]
    exact W.iret (v := (-2 : Int32)) hx hb hr (fun t ht hW => ⟨⟨rfl, by rw [ht]; exact hP9, by rw [hAe]; exact hD9⟩, by rw [hAe]; exact hS9.F ht⟩) hS9.2.2 dX4_circle_17
def fX4_filter (on : Int32) (bn : Int32) : Int32 := if on = (0 : Int32) then ((0 : Int32)) else ((1 : Int32))
def gX4_filter_on (on : Int32) (bn : Int32) : Int32 := if on = (0 : Int32) then (bn) else (bn)
set_option maxHeartbeats 4000000 in
set_option maxRecDepth 100000 in
theorem ct4_filter (l : Launch) (D : va_G) (sz : Nat) (o1 f1 r1 d1 q1 : Nat) (on cl un ze : Int32) (bn : Int32) (hbn : bn = 0 ∨ bn = 1) : Met l yX4_filter (Cond.code yX4_filter cX4_filter 3 (some .int) :: BX) ({ frames := 0, cells := 0, slots := 0, locals := 0 }) (xw_P nN D vwCl [] (wOf o1 f1 r1 d1 q1 on cl un ze) sz [.ref o1, .int bn]) (xw_Q D vwCl (some (.int (fX4_filter on bn))) (wOf o1 f1 r1 d1 q1 on cl un ze) (wOf o1 f1 r1 d1 q1 (gX4_filter_on on bn) cl un ze) sz) 0 0 (va_A (wOf o1 f1 r1 d1 q1 on cl un ze) sz) := by
  refine Met.ofW (cc := cX4_filter) (maxL := 3) (ret := (some .int)) (by decide) rfl ?_
  intro p e s m args below meth c s₁ B hml hv
  obtain ⟨rfl, hsz, hP, hK, hN, hD0⟩ := hv
  have hx := B.exec
  have hb := B.bytes
  have hr := B.returns
  have hts0 := atoms_spec (ws := Cond.code yX4_filter cX4_filter 3 (some .int) :: BX) B.pre
  have hts : ∀ w ∈ BX, w.before _ s = true := fun w h => hts0 w (List.mem_cons_of_mem _ h)
  have hown : s.vm.findClass RX4 = some m.cls := findClass_of_methodNamed B.named
  have hlocks := B.notSynchronized
  subst hsz
  have hD := hD0.self (sz := s.heap.size)
  generalize hAe : va_A (wOf o1 f1 r1 d1 q1 on cl un ze) s.heap.size = A at hD ⊢
  have hA : ∀ q : Nat, s.heap.size ≤ q → A q := fun q h => by rw [← hAe]; exact Or.inr h
  have hS : va_S A s.heap s.heap [] := va_S.rf
  have hP : va_P D vwCl [(o1, .inr (8, [.ref q1, .ref f1, .ref r1, .ref d1])), (f1, .inr (5, [.ref q1, .int on, .int cl, .int un, .int ze]))] s.heap := hP
  have hD : va_D A [(o1, .inr (8, [.ref q1, .ref f1, .ref r1, .ref d1])), (f1, .inr (5, [.ref q1, .int on, .int cl, .int un, .int ze]))] := hD
  have hl := lv_entry ([.ref o1, .int bn]) (n := 3) (Nat.le_of_ble_eq_true rfl)
  rw [lg_entry_eq]
  generalize (lg_sl ([.ref o1, .int bn]) ++ List.replicate (3 - (lg_sl ([.ref o1, .int bn])).length) Slot.unset).toArray = ls at hl ⊢
  have hl : lv_has ls 3 [(0, .ref o1), (1, .int bn)] := hl
  refine lv_aload_n hx hb dX4_filter_0 rfl (lv_at hl 0 rfl) ?_
  refine va_get (D := D) (ci := 8) (v := .ref f1) (C := RX4) (T := TX4) (N := 4) hx hb hts hinX4 hown hK hP 0 rfl rfl 1 (by decide) (hts _ fk_X4_21) (fun _ h9 => h9) rfl dX4_filter_1 ?_
  refine va_get (D := D) (ci := 5) (v := .int on) (C := RX1) (T := TX1) (N := 5) hx hb hts hinX1 hown hK hP 1 rfl rfl 1 (by decide) (hts _ fk_X4_99) (fun _ h9 => h9) rfl dX4_filter_4 ?_
  refine lv_istore_n (lv' := [(2, .int on), (0, .ref o1), (1, .int bn)]) hx hb dX4_filter_7 rfl hl (by decide) rfl (fun ls hl => ?_)
  refine lv_aload_n hx hb dX4_filter_8 rfl (lv_at hl 1 rfl) ?_
  refine va_get (D := D) (ci := 8) (v := .ref f1) (C := RX4) (T := TX4) (N := 4) hx hb hts hinX4 hown hK hP 0 rfl rfl 1 (by decide) (hts _ fk_X4_21) (fun _ h9 => h9) rfl dX4_filter_9 ?_
  refine lv_iload_n hx hb dX4_filter_12 rfl (lv_at hl 2 rfl) ?_
  refine va_put (D := D) (ci := 5) (v := .int bn) (ty := .boolean) (C := RX1) (T := TX1) (N := 5) hx hb hts hinX1 tyX1 tyX1_ok nmX1 hown hK hP hD hS 1 rfl rfl 1 (by decide) (hts _ fk_X4_99) (fun _ h9 => h9) rfl (by decide +kernel) (bz hbn) (bf hbn) (Nat.le_of_ble_eq_true rfl) dX4_filter_13 (fun H locs hP hD hS => ?_)
  have hP : va_P D vwCl [(o1, .inr (8, [.ref q1, .ref f1, .ref r1, .ref d1])), (f1, .inr (5, [.ref q1, .int bn, .int cl, .int un, .int ze]))] H := hP
  have hD : va_D A [(o1, .inr (8, [.ref q1, .ref f1, .ref r1, .ref d1])), (f1, .inr (5, [.ref q1, .int bn, .int cl, .int un, .int ze]))] := hD
  refine lv_iload_n hx hb dX4_filter_16 rfl (lv_at hl 0 rfl) ?_
  refine lv_if_eq (tgt := 24) hx hb dX4_filter_17 (by decide) (fun c1 => ?_) (fun c1 => ?_)
  · refine lv_iconst (v := 0) hx hb dX4_filter_24 (by decide) ?_
    have hP9 := hP
    have hD9 := hD
    have hS9 := hS
    have qv : fX4_filter on bn = (0 : Int32) := by unfold fX4_filter; rw [if_pos c1]
    have q_on : gX4_filter_on on bn = bn := by unfold gX4_filter_on; rw [if_pos c1]
    rw [qv, q_on]
    exact W.iret (v := (0 : Int32)) hx hb hr (fun t ht hW => ⟨⟨rfl, by rw [ht]; exact hP9, by rw [hAe]; exact hD9⟩, by rw [hAe]; exact hS9.F ht⟩) hS9.2.2 dX4_filter_25
  · refine lv_iconst (v := 1) hx hb dX4_filter_20 (by decide) ?_
    refine lv_goto (tgt := 25) hx hb dX4_filter_21 (by decide) ?_
    have hP9 := hP
    have hD9 := hD
    have hS9 := hS
    have qv : fX4_filter on bn = (1 : Int32) := by unfold fX4_filter; rw [if_neg c1]
    have q_on : gX4_filter_on on bn = bn := by unfold gX4_filter_on; rw [if_neg c1]
    rw [qv, q_on]
    exact W.iret (v := (1 : Int32)) hx hb hr (fun t ht hW => ⟨⟨rfl, by rw [ht]; exact hP9, by rw [hAe]; exact hD9⟩, by rw [hAe]; exact hS9.F ht⟩) hS9.2.2 dX4_filter_25
def fX4_point (xs ys : Nat → Int32) (pm : Int32) (vx : Int64) (vy : Int64) (vd : Int64) : Int32 := if (fX4_isCoordinate vx) = (0 : Int32) then ((-2 : Int32)) else (if (fX4_isCoordinate vy) = (0 : Int32) then ((-2 : Int32)) else (if (fX4_isDown vd) = (0 : Int32) then ((-2 : Int32)) else (if pm < (60 : Int32) then (fX2_add xs ys pm (vx.toInt32 * ((12 : Int32) / vd.toInt32)) (vy.toInt32 * ((12 : Int32) / vd.toInt32))) else ((-3 : Int32)))))
def gX4_point_xs (xs ys : Nat → Int32) (pm : Int32) (vx : Int64) (vy : Int64) (vd : Int64) : Nat → Int32 := if (fX4_isCoordinate vx) = (0 : Int32) then (xs) else (if (fX4_isCoordinate vy) = (0 : Int32) then (xs) else (if (fX4_isDown vd) = (0 : Int32) then (xs) else (if pm < (60 : Int32) then (gX2_add_xs xs ys pm (vx.toInt32 * ((12 : Int32) / vd.toInt32)) (vy.toInt32 * ((12 : Int32) / vd.toInt32))) else (xs))))
def gX4_point_ys (xs ys : Nat → Int32) (pm : Int32) (vx : Int64) (vy : Int64) (vd : Int64) : Nat → Int32 := if (fX4_isCoordinate vx) = (0 : Int32) then (ys) else (if (fX4_isCoordinate vy) = (0 : Int32) then (ys) else (if (fX4_isDown vd) = (0 : Int32) then (ys) else (if pm < (60 : Int32) then (gX2_add_ys xs ys pm (vx.toInt32 * ((12 : Int32) / vd.toInt32)) (vy.toInt32 * ((12 : Int32) / vd.toInt32))) else (ys))))
def gX4_point_pm (xs ys : Nat → Int32) (pm : Int32) (vx : Int64) (vy : Int64) (vd : Int64) : Int32 := if (fX4_isCoordinate vx) = (0 : Int32) then (pm) else (if (fX4_isCoordinate vy) = (0 : Int32) then (pm) else (if (fX4_isDown vd) = (0 : Int32) then (pm) else (if pm < (60 : Int32) then (gX2_add_pm xs ys pm (vx.toInt32 * ((12 : Int32) / vd.toInt32)) (vy.toInt32 * ((12 : Int32) / vd.toInt32))) else (pm))))
set_option maxHeartbeats 4000000 in
set_option maxRecDepth 100000 in
theorem ct4_point (l : Launch) (D : va_G) (sz : Nat) (o1 f1 r1 d1 q1 q2 q3 : Nat) (kI : ClassId) (xs ys : Nat → Int32) (pm : Int32) (vx : Int64) (vy : Int64) (vd : Int64) (opm : pm.toInt ≤ (60 : Nat)) (opn : 0 ≤ pm.toInt) : Met l yX4_point (Cond.code yX4_point cX4_point 8 (some .int) :: BX) ({ frames := 1, cells := 0, slots := 0, locals := 60 }) (xw_P nN D vwCl [(kI, .int)] (wOp o1 f1 r1 d1 q1 q2 q3 kI xs ys pm) sz [.ref o1, .long vx, .long vy, .long vd]) (xw_Q D vwCl (some (.int (fX4_point xs ys pm vx vy vd))) (wOp o1 f1 r1 d1 q1 q2 q3 kI xs ys pm) (wOp o1 f1 r1 d1 q1 q2 q3 kI (gX4_point_xs xs ys pm vx vy vd) (gX4_point_ys xs ys pm vx vy vd) (gX4_point_pm xs ys pm vx vy vd)) sz) 0 0 (va_A (wOp o1 f1 r1 d1 q1 q2 q3 kI xs ys pm) sz) := by
  refine Met.ofW (cc := cX4_point) (maxL := 8) (ret := (some .int)) (by decide) rfl ?_
  intro p e s m args below meth c s₁ B hml hv
  obtain ⟨rfl, hsz, hP, hK, hN, hD0⟩ := hv
  have hx := B.exec
  have hb := B.bytes
  have hr := B.returns
  have hts0 := atoms_spec (ws := Cond.code yX4_point cX4_point 8 (some .int) :: BX) B.pre
  have hts : ∀ w ∈ BX, w.before _ s = true := fun w h => hts0 w (List.mem_cons_of_mem _ h)
  have hown : s.vm.findClass RX4 = some m.cls := findClass_of_methodNamed B.named
  have hlocks := B.notSynchronized
  subst hsz
  have hD := hD0.self (sz := s.heap.size)
  generalize hAe : va_A (wOp o1 f1 r1 d1 q1 q2 q3 kI xs ys pm) s.heap.size = A at hD ⊢
  have hA : ∀ q : Nat, s.heap.size ≤ q → A q := fun q h => by rw [← hAe]; exact Or.inr h
  have hS : va_S A s.heap s.heap [] := va_S.rf
  have hP : va_P D vwCl [(o1, .inr (8, [.ref q1, .ref f1, .ref r1, .ref d1])), (q1, .inr (6, [.ref q2, .ref q3, .int pm])), (q2, .inl (kI, 60, .inl xs)), (q3, .inl (kI, 60, .inl ys))] s.heap := hP
  have hD : va_D A [(o1, .inr (8, [.ref q1, .ref f1, .ref r1, .ref d1])), (q1, .inr (6, [.ref q2, .ref q3, .int pm])), (q2, .inl (kI, 60, .inl xs)), (q3, .inl (kI, 60, .inl ys))] := hD
  have hl := lv_entry ([.ref o1, .long vx, .long vy, .long vd]) (n := 8) (Nat.le_of_ble_eq_true rfl)
  rw [lg_entry_eq]
  generalize (lg_sl ([.ref o1, .long vx, .long vy, .long vd]) ++ List.replicate (8 - (lg_sl ([.ref o1, .long vx, .long vy, .long vd])).length) Slot.unset).toArray = ls at hl ⊢
  have hl : lv_has ls 8 [(0, .ref o1), (1, .long vx), (3, .long vy), (5, .long vd)] := hl
  refine lv_lload_n hx hb dX4_point_0 rfl (lv_at hl 1 rfl) ?_
  refine xr_S (rest := []) (As := [.long vx]) ⟨hx, hb, hml, hown, hts⟩ (ct4_isCoordinate l D  vx ) (va_cwS 1 hts gl_X4_39 rfl rfl rfl (by decide +kernel) ⟨Nat.le_of_ble_eq_true rfl, Nat.le_of_ble_eq_true rfl⟩) nN_mv hN hK hP [] [] rfl rfl rfl hl.1 rfl (Nat.le_of_ble_eq_true rfl) dX4_point_1 ⟨Nat.le_of_ble_eq_true rfl, Nat.le_of_ble_eq_true rfl⟩ ?_
  refine lv_if_eq (tgt := 22) hx hb dX4_point_4 (by decide) (fun c1 => ?_) (fun c1 => ?_)
  · refine lv_bipush (v := (-2)) hx hb dX4_point_22 (by decide) ?_
    have hP9 := hP
    have hD9 := hD
    have hS9 := hS
    have qv : fX4_point xs ys pm vx vy vd = (-2 : Int32) := by unfold fX4_point; rw [if_pos c1]
    have q_xs : gX4_point_xs xs ys pm vx vy vd = xs := by unfold gX4_point_xs; rw [if_pos c1]
    have q_ys : gX4_point_ys xs ys pm vx vy vd = ys := by unfold gX4_point_ys; rw [if_pos c1]
    have q_pm : gX4_point_pm xs ys pm vx vy vd = pm := by unfold gX4_point_pm; rw [if_pos c1]
    rw [qv, q_xs, q_ys, q_pm]
    exact W.iret (v := (-2 : Int32)) hx hb hr (fun t ht hW => ⟨⟨rfl, by rw [ht]; exact hP9, by rw [hAe]; exact hD9⟩, by rw [hAe]; exact hS9.F ht⟩) hS9.2.2 dX4_point_24
  · refine lv_lload_n hx hb dX4_point_7 rfl (lv_at hl 2 rfl) ?_
    refine xr_S (rest := []) (As := [.long vy]) ⟨hx, hb, hml, hown, hts⟩ (ct4_isCoordinate l D  vy ) (va_cwS 1 hts gl_X4_39 rfl rfl rfl (by decide +kernel) ⟨Nat.le_of_ble_eq_true rfl, Nat.le_of_ble_eq_true rfl⟩) nN_mv hN hK hP [] [] rfl rfl rfl hl.1 rfl (Nat.le_of_ble_eq_true rfl) dX4_point_8 ⟨Nat.le_of_ble_eq_true rfl, Nat.le_of_ble_eq_true rfl⟩ ?_
    refine lv_if_eq (tgt := 22) hx hb dX4_point_11 (by decide) (fun c2 => ?_) (fun c2 => ?_)
    · refine lv_bipush (v := (-2)) hx hb dX4_point_22 (by decide) ?_
      have hP9 := hP
      have hD9 := hD
      have hS9 := hS
      have qv : fX4_point xs ys pm vx vy vd = (-2 : Int32) := by unfold fX4_point; rw [if_neg c1, if_pos c2]
      have q_xs : gX4_point_xs xs ys pm vx vy vd = xs := by unfold gX4_point_xs; rw [if_neg c1, if_pos c2]
      have q_ys : gX4_point_ys xs ys pm vx vy vd = ys := by unfold gX4_point_ys; rw [if_neg c1, if_pos c2]
      have q_pm : gX4_point_pm xs ys pm vx vy vd = pm := by unfold gX4_point_pm; rw [if_neg c1, if_pos c2]
      rw [qv, q_xs, q_ys, q_pm]
      exact W.iret (v := (-2 : Int32)) hx hb hr (fun t ht hW => ⟨⟨rfl, by rw [ht]; exact hP9, by rw [hAe]; exact hD9⟩, by rw [hAe]; exact hS9.F ht⟩) hS9.2.2 dX4_point_24
    · refine lv_lload hx hb dX4_point_14 (lv_at hl 3 rfl) ?_
      refine xr_S (rest := []) (As := [.long vd]) ⟨hx, hb, hml, hown, hts⟩ (ct4_isDown l D  vd ) (va_cwS 1 hts gl_X4_43 rfl rfl rfl (by decide +kernel) ⟨Nat.le_of_ble_eq_true rfl, Nat.le_of_ble_eq_true rfl⟩) nN_mv hN hK hP [] [] rfl rfl rfl hl.1 rfl (Nat.le_of_ble_eq_true rfl) dX4_point_16 ⟨Nat.le_of_ble_eq_true rfl, Nat.le_of_ble_eq_true rfl⟩ ?_
      refine lv_if_ne (tgt := 25) hx hb dX4_point_19 (by decide) (fun c3 => ?_) (fun c3 => ?_)
      · refine lv_aload_n hx hb dX4_point_25 rfl (lv_at hl 0 rfl) ?_
        refine va_get (D := D) (ci := 8) (v := .ref q1) (C := RX4) (T := TX4) (N := 4) hx hb hts hinX4 hown hK hP 0 rfl rfl 0 (by decide) (hts _ fk_X4_10) (fun _ h9 => h9) rfl dX4_point_26 ?_
        refine va_get (D := D) (ci := 6) (v := .int pm) (C := RX2) (T := TX2) (N := 3) hx hb hts hinX2 hown hK hP 1 rfl rfl 2 (by decide) (hts _ fk_X4_46) (fun _ h9 => h9) rfl dX4_point_29 ?_
        refine lv_bipush (v := 60) hx hb dX4_point_32 (by decide) ?_
        refine lv_icmp_lt (tgt := 40) hx hb dX4_point_34 (by decide) (fun c4 => ?_) (fun c4 => ?_)
        · refine lv_bipush (v := 12) hx hb dX4_point_40 (by decide) ?_
          refine lv_lload hx hb dX4_point_42 (lv_at hl 3 rfl) ?_
          refine lv_l2i hx hb dX4_point_44 rfl ?_
          refine lv_idiv hx hb dX4_point_45 (o_dn c3) ?_
          refine lv_topi (fun z5 ez5 => ?_)
          refine lv_istore (lv' := [(7, .int z5), (0, .ref o1), (1, .long vx), (3, .long vy), (5, .long vd)]) hx hb dX4_point_46 hl (by decide) rfl (fun ls hl => ?_)
          refine lv_aload_n hx hb dX4_point_48 rfl (lv_at hl 1 rfl) ?_
          refine va_get (D := D) (ci := 8) (v := .ref q1) (C := RX4) (T := TX4) (N := 4) hx hb hts hinX4 hown hK hP 0 rfl rfl 0 (by decide) (hts _ fk_X4_10) (fun _ h9 => h9) rfl dX4_point_49 ?_
          refine lv_lload_n hx hb dX4_point_52 rfl (lv_at hl 2 rfl) ?_
          refine lv_l2i hx hb dX4_point_53 rfl ?_
          refine lv_iload hx hb dX4_point_54 (lv_at hl 0 rfl) ?_
          refine lv_imul hx hb dX4_point_56 ?_
          refine lv_lload_n hx hb dX4_point_57 rfl (lv_at hl 3 rfl) ?_
          refine lv_l2i hx hb dX4_point_58 rfl ?_
          refine lv_iload hx hb dX4_point_59 (lv_at hl 0 rfl) ?_
          refine lv_imul hx hb dX4_point_61 ?_
          refine xw_V (q := (RX2, TX2, 3)) (ci := 6) (q0 := 1) (rest := []) (As := [.int (vx.toInt32 * z5), .int (vy.toInt32 * z5)]) (wr := [(o1, .inr (8, [.ref q1, .ref f1, .ref r1, .ref d1]))]) (w1 := (wPl q1 q2 q3 kI (gX2_add_xs xs ys pm (vx.toInt32 * z5) (vy.toInt32 * z5)) (gX2_add_ys xs ys pm (vx.toInt32 * z5) (vy.toInt32 * z5)) (gX2_add_pm xs ys pm (vx.toInt32 * z5) (vy.toInt32 * z5)))) (ws' := [(o1, .inr (8, [.ref q1, .ref f1, .ref r1, .ref d1])), (q1, .inr (6, [.ref q2, .ref q3, .int (gX2_add_pm xs ys pm (vx.toInt32 * z5) (vy.toInt32 * z5))])), (q2, .inl (kI, 60, .inl (gX2_add_xs xs ys pm (vx.toInt32 * z5) (vy.toInt32 * z5)))), (q3, .inl (kI, 60, .inl (gX2_add_ys xs ys pm (vx.toInt32 * z5) (vy.toInt32 * z5))))]) ⟨hx, hb, hml, hown, hts⟩ (ct2_add l D _ q1 q2 q3 kI xs ys pm (vx.toInt32 * z5) (vy.toInt32 * z5) (o_pm opm opn c4)) (cwV 2 hts gl_X4_50 rfl rfl rfl (by decide +kernel) ⟨Nat.le_of_ble_eq_true rfl, Nat.le_of_ble_eq_true rfl⟩) nN_mv hN hK hP hD hS hA [1, 2, 3] [0] [0, 1, 2, 3] [0] rfl (by decide) rfl rfl rfl (by decide) (by decide) rfl (by decide) rfl rfl rfl rfl hl.1 rfl (Nat.le_of_ble_eq_true rfl) dX4_point_62 ⟨Nat.le_of_ble_eq_true rfl, Nat.le_of_ble_eq_true rfl⟩ (fun H locs hP hD hS => ?_)
          have hP : va_P D vwCl [(o1, .inr (8, [.ref q1, .ref f1, .ref r1, .ref d1])), (q1, .inr (6, [.ref q2, .ref q3, .int (gX2_add_pm xs ys pm (vx.toInt32 * z5) (vy.toInt32 * z5))])), (q2, .inl (kI, 60, .inl (gX2_add_xs xs ys pm (vx.toInt32 * z5) (vy.toInt32 * z5)))), (q3, .inl (kI, 60, .inl (gX2_add_ys xs ys pm (vx.toInt32 * z5) (vy.toInt32 * z5))))] H := hP
          have hD : va_D A [(o1, .inr (8, [.ref q1, .ref f1, .ref r1, .ref d1])), (q1, .inr (6, [.ref q2, .ref q3, .int (gX2_add_pm xs ys pm (vx.toInt32 * z5) (vy.toInt32 * z5))])), (q2, .inl (kI, 60, .inl (gX2_add_xs xs ys pm (vx.toInt32 * z5) (vy.toInt32 * z5)))), (q3, .inl (kI, 60, .inl (gX2_add_ys xs ys pm (vx.toInt32 * z5) (vy.toInt32 * z5))))] := hD
          have hP9 := hP
          have hD9 := hD
          have hS9 := hS
          subst ez5
          have qv : fX4_point xs ys pm vx vy vd = fX2_add xs ys pm (vx.toInt32 * ((12 : Int32) / vd.toInt32)) (vy.toInt32 * ((12 : Int32) / vd.toInt32)) := by unfold fX4_point; rw [if_neg c1, if_neg c2, if_neg c3, if_pos c4]
          have q_xs : gX4_point_xs xs ys pm vx vy vd = gX2_add_xs xs ys pm (vx.toInt32 * ((12 : Int32) / vd.toInt32)) (vy.toInt32 * ((12 : Int32) / vd.toInt32)) := by unfold gX4_point_xs; rw [if_neg c1, if_neg c2, if_neg c3, if_pos c4]
          have q_ys : gX4_point_ys xs ys pm vx vy vd = gX2_add_ys xs ys pm (vx.toInt32 * ((12 : Int32) / vd.toInt32)) (vy.toInt32 * ((12 : Int32) / vd.toInt32)) := by unfold gX4_point_ys; rw [if_neg c1, if_neg c2, if_neg c3, if_pos c4]
          have q_pm : gX4_point_pm xs ys pm vx vy vd = gX2_add_pm xs ys pm (vx.toInt32 * ((12 : Int32) / vd.toInt32)) (vy.toInt32 * ((12 : Int32) / vd.toInt32)) := by unfold gX4_point_pm; rw [if_neg c1, if_neg c2, if_neg c3, if_pos c4]
          rw [qv, q_xs, q_ys, q_pm]
          exact W.iret (v := fX2_add xs ys pm (vx.toInt32 * ((12 : Int32) / vd.toInt32)) (vy.toInt32 * ((12 : Int32) / vd.toInt32))) hx hb hr (fun t ht hW => ⟨⟨rfl, by rw [ht]; exact hP9, by rw [hAe]; exact hD9⟩, by rw [hAe]; exact hS9.F ht⟩) hS9.2.2 dX4_point_65
        · refine lv_bipush (v := (-3)) hx hb dX4_point_37 (by decide) ?_
          have hP9 := hP
          have hD9 := hD
          have hS9 := hS
          have qv : fX4_point xs ys pm vx vy vd = (-3 : Int32) := by unfold fX4_point; rw [if_neg c1, if_neg c2, if_neg c3, if_neg c4]
          have q_xs : gX4_point_xs xs ys pm vx vy vd = xs := by unfold gX4_point_xs; rw [if_neg c1, if_neg c2, if_neg c3, if_neg c4]
          have q_ys : gX4_point_ys xs ys pm vx vy vd = ys := by unfold gX4_point_ys; rw [if_neg c1, if_neg c2, if_neg c3, if_neg c4]
          have q_pm : gX4_point_pm xs ys pm vx vy vd = pm := by unfold gX4_point_pm; rw [if_neg c1, if_neg c2, if_neg c3, if_neg c4]
          rw [qv, q_xs, q_ys, q_pm]
          exact W.iret (v := (-3 : Int32)) hx hb hr (fun t ht hW => ⟨⟨rfl, by rw [ht]; exact hP9, by rw [hAe]; exact hD9⟩, by rw [hAe]; exact hS9.F ht⟩) hS9.2.2 dX4_point_39
      · refine lv_bipush (v := (-2)) hx hb dX4_point_22 (by decide) ?_
        have hP9 := hP
        have hD9 := hD
        have hS9 := hS
        have qv : fX4_point xs ys pm vx vy vd = (-2 : Int32) := by unfold fX4_point; rw [if_neg c1, if_neg c2, if_pos c3]
        have q_xs : gX4_point_xs xs ys pm vx vy vd = xs := by unfold gX4_point_xs; rw [if_neg c1, if_neg c2, if_pos c3]
        have q_ys : gX4_point_ys xs ys pm vx vy vd = ys := by unfold gX4_point_ys; rw [if_neg c1, if_neg c2, if_pos c3]
        have q_pm : gX4_point_pm xs ys pm vx vy vd = pm := by unfold gX4_point_pm; rw [if_neg c1, if_neg c2, if_pos c3]
        rw [qv, q_xs, q_ys, q_pm]
        exact W.iret (v := (-2 : Int32)) hx hb hr (fun t ht hW => ⟨⟨rfl, by rw [ht]; exact hP9, by rw [hAe]; exact hD9⟩, by rw [hAe]; exact hS9.F ht⟩) hS9.2.2 dX4_point_24
def fX4_line (xs ys : Nat → Int32) (pm : Int32) (la lb lc : Nat → Int64) (dm : Int32) (ia : Int32) (ib : Int32) : Int32 := if (fX2_has pm ia) = (0 : Int32) then ((-2 : Int32)) else (if (fX2_has pm ib) = (0 : Int32) then ((-2 : Int32)) else (if (fX2_same xs ys ia ib) = (0 : Int32) then (if dm < (12 : Int32) then (fX0_add la lb lc dm (xs ia.toNatClampNeg) (ys ia.toNatClampNeg) (xs ib.toNatClampNeg) (ys ib.toNatClampNeg)) else ((-3 : Int32))) else ((-4 : Int32))))
def gX4_line_la (xs ys : Nat → Int32) (pm : Int32) (la lb lc : Nat → Int64) (dm : Int32) (ia : Int32) (ib : Int32) : Nat → Int64 := if (fX2_has pm ia) = (0 : Int32) then (la) else (if (fX2_has pm ib) = (0 : Int32) then (la) else (if (fX2_same xs ys ia ib) = (0 : Int32) then (if dm < (12 : Int32) then (gX0_add_la la lb lc dm (xs ia.toNatClampNeg) (ys ia.toNatClampNeg) (xs ib.toNatClampNeg) (ys ib.toNatClampNeg)) else (la)) else (la)))
def gX4_line_lb (xs ys : Nat → Int32) (pm : Int32) (la lb lc : Nat → Int64) (dm : Int32) (ia : Int32) (ib : Int32) : Nat → Int64 := if (fX2_has pm ia) = (0 : Int32) then (lb) else (if (fX2_has pm ib) = (0 : Int32) then (lb) else (if (fX2_same xs ys ia ib) = (0 : Int32) then (if dm < (12 : Int32) then (gX0_add_lb la lb lc dm (xs ia.toNatClampNeg) (ys ia.toNatClampNeg) (xs ib.toNatClampNeg) (ys ib.toNatClampNeg)) else (lb)) else (lb)))
def gX4_line_lc (xs ys : Nat → Int32) (pm : Int32) (la lb lc : Nat → Int64) (dm : Int32) (ia : Int32) (ib : Int32) : Nat → Int64 := if (fX2_has pm ia) = (0 : Int32) then (lc) else (if (fX2_has pm ib) = (0 : Int32) then (lc) else (if (fX2_same xs ys ia ib) = (0 : Int32) then (if dm < (12 : Int32) then (gX0_add_lc la lb lc dm (xs ia.toNatClampNeg) (ys ia.toNatClampNeg) (xs ib.toNatClampNeg) (ys ib.toNatClampNeg)) else (lc)) else (lc)))
def gX4_line_dm (xs ys : Nat → Int32) (pm : Int32) (la lb lc : Nat → Int64) (dm : Int32) (ia : Int32) (ib : Int32) : Int32 := if (fX2_has pm ia) = (0 : Int32) then (dm) else (if (fX2_has pm ib) = (0 : Int32) then (dm) else (if (fX2_same xs ys ia ib) = (0 : Int32) then (if dm < (12 : Int32) then (gX0_add_dm la lb lc dm (xs ia.toNatClampNeg) (ys ia.toNatClampNeg) (xs ib.toNatClampNeg) (ys ib.toNatClampNeg)) else (dm)) else (dm)))
set_option maxHeartbeats 4000000 in
set_option maxRecDepth 100000 in
theorem ct4_line (l : Launch) (D : va_G) (sz : Nat) (o1 f1 r1 d1 q1 q2 q3 d2 d3 d4 d5 : Nat) (kI kJ : ClassId) (xs ys : Nat → Int32) (la lb lc : Nat → Int64) (di : Nat → Int32) (pm dm dd de dp dq : Int32) (ia : Int32) (ib : Int32) (opm : pm.toInt ≤ (60 : Nat)) (odm : dm.toInt ≤ (12 : Nat)) (odn : 0 ≤ dm.toInt) : Met l yX4_line (Cond.code yX4_line cX4_line 3 (some .int) :: BX) ({ frames := 2, cells := 0, slots := 0, locals := 120 }) (xw_P nN D vwCl [(kI, .int), (kJ, .long)] (wOl o1 f1 r1 d1 q1 q2 q3 d2 d3 d4 d5 kI kJ xs ys la lb lc di pm dm dd de dp dq) sz [.ref o1, .int ia, .int ib]) (xw_Q D vwCl (some (.int (fX4_line xs ys pm la lb lc dm ia ib))) (wOl o1 f1 r1 d1 q1 q2 q3 d2 d3 d4 d5 kI kJ xs ys la lb lc di pm dm dd de dp dq) (wOl o1 f1 r1 d1 q1 q2 q3 d2 d3 d4 d5 kI kJ xs ys (gX4_line_la xs ys pm la lb lc dm ia ib) (gX4_line_lb xs ys pm la lb lc dm ia ib) (gX4_line_lc xs ys pm la lb lc dm ia ib) di pm (gX4_line_dm xs ys pm la lb lc dm ia ib) dd de dp dq) sz) 0 0 (va_A (wOl o1 f1 r1 d1 q1 q2 q3 d2 d3 d4 d5 kI kJ xs ys la lb lc di pm dm dd de dp dq) sz) := by
  refine Met.ofW (cc := cX4_line) (maxL := 3) (ret := (some .int)) (by decide) rfl ?_
  intro p e s m args below meth c s₁ B hml hv
  obtain ⟨rfl, hsz, hP, hK, hN, hD0⟩ := hv
  have hx := B.exec
  have hb := B.bytes
  have hr := B.returns
  have hts0 := atoms_spec (ws := Cond.code yX4_line cX4_line 3 (some .int) :: BX) B.pre
  have hts : ∀ w ∈ BX, w.before _ s = true := fun w h => hts0 w (List.mem_cons_of_mem _ h)
  have hown : s.vm.findClass RX4 = some m.cls := findClass_of_methodNamed B.named
  have hlocks := B.notSynchronized
  subst hsz
  have hD := hD0.self (sz := s.heap.size)
  generalize hAe : va_A (wOl o1 f1 r1 d1 q1 q2 q3 d2 d3 d4 d5 kI kJ xs ys la lb lc di pm dm dd de dp dq) s.heap.size = A at hD ⊢
  have hA : ∀ q : Nat, s.heap.size ≤ q → A q := fun q h => by rw [← hAe]; exact Or.inr h
  have hS : va_S A s.heap s.heap [] := va_S.rf
  have hP : va_P D vwCl [(o1, .inr (8, [.ref q1, .ref f1, .ref r1, .ref d1])), (q1, .inr (6, [.ref q2, .ref q3, .int pm])), (q2, .inl (kI, 60, .inl xs)), (q3, .inl (kI, 60, .inl ys)), (d1, .inr (4, [.ref d2, .ref d3, .ref d4, .ref d5, .int dm, .int dd, .int de, .int dp, .int dq])), (d2, .inl (kJ, 12, .inr (.inl la))), (d3, .inl (kJ, 12, .inr (.inl lb))), (d4, .inl (kJ, 12, .inr (.inl lc))), (d5, .inl (kI, 12, .inl di))] s.heap := hP
  have hD : va_D A [(o1, .inr (8, [.ref q1, .ref f1, .ref r1, .ref d1])), (q1, .inr (6, [.ref q2, .ref q3, .int pm])), (q2, .inl (kI, 60, .inl xs)), (q3, .inl (kI, 60, .inl ys)), (d1, .inr (4, [.ref d2, .ref d3, .ref d4, .ref d5, .int dm, .int dd, .int de, .int dp, .int dq])), (d2, .inl (kJ, 12, .inr (.inl la))), (d3, .inl (kJ, 12, .inr (.inl lb))), (d4, .inl (kJ, 12, .inr (.inl lc))), (d5, .inl (kI, 12, .inl di))] := hD
  have hl := lv_entry ([.ref o1, .int ia, .int ib]) (n := 3) (Nat.le_of_ble_eq_true rfl)
  rw [lg_entry_eq]
  generalize (lg_sl ([.ref o1, .int ia, .int ib]) ++ List.replicate (3 - (lg_sl ([.ref o1, .int ia, .int ib])).length) Slot.unset).toArray = ls at hl ⊢
  have hl : lv_has ls 3 [(0, .ref o1), (1, .int ia), (2, .int ib)] := hl
  refine lv_aload_n hx hb dX4_line_0 rfl (lv_at hl 0 rfl) ?_
  refine va_get (D := D) (ci := 8) (v := .ref q1) (C := RX4) (T := TX4) (N := 4) hx hb hts hinX4 hown hK hP 0 rfl rfl 0 (by decide) (hts _ fk_X4_10) (fun _ h9 => h9) rfl dX4_line_1 ?_
  refine lv_iload_n hx hb dX4_line_4 rfl (lv_at hl 1 rfl) ?_
  refine xr_V (q := (RX2, TX2, 3)) (ci := 6) (q0 := 1) (rest := []) (As := [.int ia]) ⟨hx, hb, hml, hown, hts⟩ (ct2_has l D q1 q2 q3 kI xs ys pm ia ) (cwV 1 hts gl_X4_65 rfl rfl rfl (by decide +kernel) ⟨Nat.le_of_ble_eq_true rfl, Nat.le_of_ble_eq_true rfl⟩) nN_mv hN hK hP [1, 2, 3] [0] rfl rfl rfl rfl rfl hl.1 rfl (Nat.le_of_ble_eq_true rfl) dX4_line_5 ⟨Nat.le_of_ble_eq_true rfl, Nat.le_of_ble_eq_true rfl⟩ ?_
  refine lv_if_eq (tgt := 22) hx hb dX4_line_8 (by decide) (fun c1 => ?_) (fun c1 => ?_)
  · refine lv_bipush (v := (-2)) hx hb dX4_line_22 (by decide) ?_
    have hP9 := hP
    have hD9 := hD
    have hS9 := hS
    have qv : fX4_line xs ys pm la lb lc dm ia ib = (-2 : Int32) := by unfold fX4_line; rw [if_pos c1]
    have q_la : gX4_line_la xs ys pm la lb lc dm ia ib = la := by unfold gX4_line_la; rw [if_pos c1]
    have q_lb : gX4_line_lb xs ys pm la lb lc dm ia ib = lb := by unfold gX4_line_lb; rw [if_pos c1]
    have q_lc : gX4_line_lc xs ys pm la lb lc dm ia ib = lc := by unfold gX4_line_lc; rw [if_pos c1]
    have q_dm : gX4_line_dm xs ys pm la lb lc dm ia ib = dm := by unfold gX4_line_dm; rw [if_pos c1]
    rw [qv, q_la, q_lb, q_lc, q_dm]
    exact W.iret (v := (-2 : Int32)) hx hb hr (fun t ht hW => ⟨⟨rfl, by rw [ht]; exact hP9, by rw [hAe]; exact hD9⟩, by rw [hAe]; exact hS9.F ht⟩) hS9.2.2 dX4_line_24
  · refine lv_aload_n hx hb dX4_line_11 rfl (lv_at hl 0 rfl) ?_
    refine va_get (D := D) (ci := 8) (v := .ref q1) (C := RX4) (T := TX4) (N := 4) hx hb hts hinX4 hown hK hP 0 rfl rfl 0 (by decide) (hts _ fk_X4_10) (fun _ h9 => h9) rfl dX4_line_12 ?_
    refine lv_iload_n hx hb dX4_line_15 rfl (lv_at hl 2 rfl) ?_
    refine xr_V (q := (RX2, TX2, 3)) (ci := 6) (q0 := 1) (rest := []) (As := [.int ib]) ⟨hx, hb, hml, hown, hts⟩ (ct2_has l D q1 q2 q3 kI xs ys pm ib ) (cwV 1 hts gl_X4_65 rfl rfl rfl (by decide +kernel) ⟨Nat.le_of_ble_eq_true rfl, Nat.le_of_ble_eq_true rfl⟩) nN_mv hN hK hP [1, 2, 3] [0] rfl rfl rfl rfl rfl hl.1 rfl (Nat.le_of_ble_eq_true rfl) dX4_line_16 ⟨Nat.le_of_ble_eq_true rfl, Nat.le_of_ble_eq_true rfl⟩ ?_
    refine lv_if_ne (tgt := 25) hx hb dX4_line_19 (by decide) (fun c2 => ?_) (fun c2 => ?_)
    · refine lv_aload_n hx hb dX4_line_25 rfl (lv_at hl 0 rfl) ?_
      refine va_get (D := D) (ci := 8) (v := .ref q1) (C := RX4) (T := TX4) (N := 4) hx hb hts hinX4 hown hK hP 0 rfl rfl 0 (by decide) (hts _ fk_X4_10) (fun _ h9 => h9) rfl dX4_line_26 ?_
      refine lv_iload_n hx hb dX4_line_29 rfl (lv_at hl 1 rfl) ?_
      refine lv_iload_n hx hb dX4_line_30 rfl (lv_at hl 2 rfl) ?_
      refine xr_V (q := (RX2, TX2, 3)) (ci := 6) (q0 := 1) (rest := []) (As := [.int ia, .int ib]) ⟨hx, hb, hml, hown, hts⟩ (ct2_same l D q1 q2 q3 kI xs ys pm ia ib (o_has c1 opm) (o_has c2 opm)) (cwV 2 hts gl_X4_95 rfl rfl rfl (by decide +kernel) ⟨Nat.le_of_ble_eq_true rfl, Nat.le_of_ble_eq_true rfl⟩) nN_mv hN hK hP [1, 2, 3] [0] rfl rfl rfl rfl rfl hl.1 rfl (Nat.le_of_ble_eq_true rfl) dX4_line_31 ⟨Nat.le_of_ble_eq_true rfl, Nat.le_of_ble_eq_true rfl⟩ ?_
      refine lv_if_eq (tgt := 40) hx hb dX4_line_34 (by decide) (fun c3 => ?_) (fun c3 => ?_)
      · refine lv_aload_n hx hb dX4_line_40 rfl (lv_at hl 0 rfl) ?_
        refine va_get (D := D) (ci := 8) (v := .ref d1) (C := RX4) (T := TX4) (N := 4) hx hb hts hinX4 hown hK hP 0 rfl rfl 3 (by decide) (hts _ fk_X4_35) (fun _ h9 => h9) rfl dX4_line_41 ?_
        refine va_get (D := D) (ci := 4) (v := .int dm) (C := RX0) (T := TX0) (N := 9) hx hb hts hinX0 hown hK hP 4 rfl rfl 4 (by decide) (hts _ fk_X4_192) (fun _ h9 => h9) rfl dX4_line_44 ?_
        refine lv_bipush (v := 12) hx hb dX4_line_47 (by decide) ?_
        refine lv_icmp_lt (tgt := 55) hx hb dX4_line_49 (by decide) (fun c4 => ?_) (fun c4 => ?_)
        · refine lv_aload_n hx hb dX4_line_55 rfl (lv_at hl 0 rfl) ?_
          refine va_get (D := D) (ci := 8) (v := .ref d1) (C := RX4) (T := TX4) (N := 4) hx hb hts hinX4 hown hK hP 0 rfl rfl 3 (by decide) (hts _ fk_X4_35) (fun _ h9 => h9) rfl dX4_line_56 ?_
          refine lv_aload_n hx hb dX4_line_59 rfl (lv_at hl 0 rfl) ?_
          refine va_get (D := D) (ci := 8) (v := .ref q1) (C := RX4) (T := TX4) (N := 4) hx hb hts hinX4 hown hK hP 0 rfl rfl 0 (by decide) (hts _ fk_X4_10) (fun _ h9 => h9) rfl dX4_line_60 ?_
          refine va_get (D := D) (ci := 6) (v := .ref q2) (C := RX2) (T := TX2) (N := 3) hx hb hts hinX2 hown hK hP 1 rfl rfl 0 (by decide) (hts _ fk_X4_89) (fun _ h9 => h9) rfl dX4_line_63 ?_
          refine lv_iload_n hx hb dX4_line_66 rfl (lv_at hl 1 rfl) ?_
          refine va_iald hx hb hK hP 2 0 rfl rfl (o_has c1 opm) dX4_line_67 ?_
          refine lv_aload_n hx hb dX4_line_68 rfl (lv_at hl 0 rfl) ?_
          refine va_get (D := D) (ci := 8) (v := .ref q1) (C := RX4) (T := TX4) (N := 4) hx hb hts hinX4 hown hK hP 0 rfl rfl 0 (by decide) (hts _ fk_X4_10) (fun _ h9 => h9) rfl dX4_line_69 ?_
          refine va_get (D := D) (ci := 6) (v := .ref q3) (C := RX2) (T := TX2) (N := 3) hx hb hts hinX2 hown hK hP 1 rfl rfl 1 (by decide) (hts _ fk_X4_92) (fun _ h9 => h9) rfl dX4_line_72 ?_
          refine lv_iload_n hx hb dX4_line_75 rfl (lv_at hl 1 rfl) ?_
          refine va_iald hx hb hK hP 3 0 rfl rfl (o_has c1 opm) dX4_line_76 ?_
          refine lv_aload_n hx hb dX4_line_77 rfl (lv_at hl 0 rfl) ?_
          refine va_get (D := D) (ci := 8) (v := .ref q1) (C := RX4) (T := TX4) (N := 4) hx hb hts hinX4 hown hK hP 0 rfl rfl 0 (by decide) (hts _ fk_X4_10) (fun _ h9 => h9) rfl dX4_line_78 ?_
          refine va_get (D := D) (ci := 6) (v := .ref q2) (C := RX2) (T := TX2) (N := 3) hx hb hts hinX2 hown hK hP 1 rfl rfl 0 (by decide) (hts _ fk_X4_89) (fun _ h9 => h9) rfl dX4_line_81 ?_
          refine lv_iload_n hx hb dX4_line_84 rfl (lv_at hl 2 rfl) ?_
          refine va_iald hx hb hK hP 2 0 rfl rfl (o_has c2 opm) dX4_line_85 ?_
          refine lv_aload_n hx hb dX4_line_86 rfl (lv_at hl 0 rfl) ?_
          refine va_get (D := D) (ci := 8) (v := .ref q1) (C := RX4) (T := TX4) (N := 4) hx hb hts hinX4 hown hK hP 0 rfl rfl 0 (by decide) (hts _ fk_X4_10) (fun _ h9 => h9) rfl dX4_line_87 ?_
          refine va_get (D := D) (ci := 6) (v := .ref q3) (C := RX2) (T := TX2) (N := 3) hx hb hts hinX2 hown hK hP 1 rfl rfl 1 (by decide) (hts _ fk_X4_92) (fun _ h9 => h9) rfl dX4_line_90 ?_
          refine lv_iload_n hx hb dX4_line_93 rfl (lv_at hl 2 rfl) ?_
          refine va_iald hx hb hK hP 3 0 rfl rfl (o_has c2 opm) dX4_line_94 ?_
          refine xw_V (q := (RX0, TX0, 9)) (ci := 4) (q0 := 4) (rest := []) (As := [.int (xs ia.toNatClampNeg), .int (ys ia.toNatClampNeg), .int (xs ib.toNatClampNeg), .int (ys ib.toNatClampNeg)]) (wr := [(o1, .inr (8, [.ref q1, .ref f1, .ref r1, .ref d1])), (q1, .inr (6, [.ref q2, .ref q3, .int pm])), (q2, .inl (kI, 60, .inl xs)), (q3, .inl (kI, 60, .inl ys))]) (w1 := (wDr d1 d2 d3 d4 d5 kI kJ (gX0_add_la la lb lc dm (xs ia.toNatClampNeg) (ys ia.toNatClampNeg) (xs ib.toNatClampNeg) (ys ib.toNatClampNeg)) (gX0_add_lb la lb lc dm (xs ia.toNatClampNeg) (ys ia.toNatClampNeg) (xs ib.toNatClampNeg) (ys ib.toNatClampNeg)) (gX0_add_lc la lb lc dm (xs ia.toNatClampNeg) (ys ia.toNatClampNeg) (xs ib.toNatClampNeg) (ys ib.toNatClampNeg)) di (gX0_add_dm la lb lc dm (xs ia.toNatClampNeg) (ys ia.toNatClampNeg) (xs ib.toNatClampNeg) (ys ib.toNatClampNeg)) dd de dp dq)) (ws' := [(o1, .inr (8, [.ref q1, .ref f1, .ref r1, .ref d1])), (q1, .inr (6, [.ref q2, .ref q3, .int pm])), (q2, .inl (kI, 60, .inl xs)), (q3, .inl (kI, 60, .inl ys)), (d1, .inr (4, [.ref d2, .ref d3, .ref d4, .ref d5, .int (gX0_add_dm la lb lc dm (xs ia.toNatClampNeg) (ys ia.toNatClampNeg) (xs ib.toNatClampNeg) (ys ib.toNatClampNeg)), .int dd, .int de, .int dp, .int dq])), (d2, .inl (kJ, 12, .inr (.inl (gX0_add_la la lb lc dm (xs ia.toNatClampNeg) (ys ia.toNatClampNeg) (xs ib.toNatClampNeg) (ys ib.toNatClampNeg))))), (d3, .inl (kJ, 12, .inr (.inl (gX0_add_lb la lb lc dm (xs ia.toNatClampNeg) (ys ia.toNatClampNeg) (xs ib.toNatClampNeg) (ys ib.toNatClampNeg))))), (d4, .inl (kJ, 12, .inr (.inl (gX0_add_lc la lb lc dm (xs ia.toNatClampNeg) (ys ia.toNatClampNeg) (xs ib.toNatClampNeg) (ys ib.toNatClampNeg))))), (d5, .inl (kI, 12, .inl di))]) ⟨hx, hb, hml, hown, hts⟩ (ct0_add l D _ d1 d2 d3 d4 d5 kI kJ la lb lc di dm dd de dp dq (xs ia.toNatClampNeg) (ys ia.toNatClampNeg) (xs ib.toNatClampNeg) (ys ib.toNatClampNeg) (o_dm odm odn c4)) (cwV 4 hts gl_X4_193 rfl rfl rfl (by decide +kernel) ⟨Nat.le_of_ble_eq_true rfl, Nat.le_of_ble_eq_true rfl⟩) nN_mv hN hK hP hD hS hA [4, 5, 6, 7, 8] [0, 1, 2, 3] [0, 1, 2, 3, 4, 5, 6, 7, 8] [0, 1] rfl (by decide) rfl rfl rfl (by decide) (by decide) rfl (by decide) rfl rfl rfl rfl hl.1 rfl (Nat.le_of_ble_eq_true rfl) dX4_line_95 ⟨Nat.le_of_ble_eq_true rfl, Nat.le_of_ble_eq_true rfl⟩ (fun H locs hP hD hS => ?_)
          have hP : va_P D vwCl [(o1, .inr (8, [.ref q1, .ref f1, .ref r1, .ref d1])), (q1, .inr (6, [.ref q2, .ref q3, .int pm])), (q2, .inl (kI, 60, .inl xs)), (q3, .inl (kI, 60, .inl ys)), (d1, .inr (4, [.ref d2, .ref d3, .ref d4, .ref d5, .int (gX0_add_dm la lb lc dm (xs ia.toNatClampNeg) (ys ia.toNatClampNeg) (xs ib.toNatClampNeg) (ys ib.toNatClampNeg)), .int dd, .int de, .int dp, .int dq])), (d2, .inl (kJ, 12, .inr (.inl (gX0_add_la la lb lc dm (xs ia.toNatClampNeg) (ys ia.toNatClampNeg) (xs ib.toNatClampNeg) (ys ib.toNatClampNeg))))), (d3, .inl (kJ, 12, .inr (.inl (gX0_add_lb la lb lc dm (xs ia.toNatClampNeg) (ys ia.toNatClampNeg) (xs ib.toNatClampNeg) (ys ib.toNatClampNeg))))), (d4, .inl (kJ, 12, .inr (.inl (gX0_add_lc la lb lc dm (xs ia.toNatClampNeg) (ys ia.toNatClampNeg) (xs ib.toNatClampNeg) (ys ib.toNatClampNeg))))), (d5, .inl (kI, 12, .inl di))] H := hP
          have hD : va_D A [(o1, .inr (8, [.ref q1, .ref f1, .ref r1, .ref d1])), (q1, .inr (6, [.ref q2, .ref q3, .int pm])), (q2, .inl (kI, 60, .inl xs)), (q3, .inl (kI, 60, .inl ys)), (d1, .inr (4, [.ref d2, .ref d3, .ref d4, .ref d5, .int (gX0_add_dm la lb lc dm (xs ia.toNatClampNeg) (ys ia.toNatClampNeg) (xs ib.toNatClampNeg) (ys ib.toNatClampNeg)), .int dd, .int de, .int dp, .int dq])), (d2, .inl (kJ, 12, .inr (.inl (gX0_add_la la lb lc dm (xs ia.toNatClampNeg) (ys ia.toNatClampNeg) (xs ib.toNatClampNeg) (ys ib.toNatClampNeg))))), (d3, .inl (kJ, 12, .inr (.inl (gX0_add_lb la lb lc dm (xs ia.toNatClampNeg) (ys ia.toNatClampNeg) (xs ib.toNatClampNeg) (ys ib.toNatClampNeg))))), (d4, .inl (kJ, 12, .inr (.inl (gX0_add_lc la lb lc dm (xs ia.toNatClampNeg) (ys ia.toNatClampNeg) (xs ib.toNatClampNeg) (ys ib.toNatClampNeg))))), (d5, .inl (kI, 12, .inl di))] := hD
          have hP9 := hP
          have hD9 := hD
          have hS9 := hS
          have qv : fX4_line xs ys pm la lb lc dm ia ib = fX0_add la lb lc dm (xs ia.toNatClampNeg) (ys ia.toNatClampNeg) (xs ib.toNatClampNeg) (ys ib.toNatClampNeg) := by unfold fX4_line; rw [if_neg c1, if_neg c2, if_pos c3, if_pos c4]
          have q_la : gX4_line_la xs ys pm la lb lc dm ia ib = gX0_add_la la lb lc dm (xs ia.toNatClampNeg) (ys ia.toNatClampNeg) (xs ib.toNatClampNeg) (ys ib.toNatClampNeg) := by unfold gX4_line_la; rw [if_neg c1, if_neg c2, if_pos c3, if_pos c4]
          have q_lb : gX4_line_lb xs ys pm la lb lc dm ia ib = gX0_add_lb la lb lc dm (xs ia.toNatClampNeg) (ys ia.toNatClampNeg) (xs ib.toNatClampNeg) (ys ib.toNatClampNeg) := by unfold gX4_line_lb; rw [if_neg c1, if_neg c2, if_pos c3, if_pos c4]
          have q_lc : gX4_line_lc xs ys pm la lb lc dm ia ib = gX0_add_lc la lb lc dm (xs ia.toNatClampNeg) (ys ia.toNatClampNeg) (xs ib.toNatClampNeg) (ys ib.toNatClampNeg) := by unfold gX4_line_lc; rw [if_neg c1, if_neg c2, if_pos c3, if_pos c4]
          have q_dm : gX4_line_dm xs ys pm la lb lc dm ia ib = gX0_add_dm la lb lc dm (xs ia.toNatClampNeg) (ys ia.toNatClampNeg) (xs ib.toNatClampNeg) (ys ib.toNatClampNeg) := by unfold gX4_line_dm; rw [if_neg c1, if_neg c2, if_pos c3, if_pos c4]
          rw [qv, q_la, q_lb, q_lc, q_dm]
          exact W.iret (v := fX0_add la lb lc dm (xs ia.toNatClampNeg) (ys ia.toNatClampNeg) (xs ib.toNatClampNeg) (ys ib.toNatClampNeg)) hx hb hr (fun t ht hW => ⟨⟨rfl, by rw [ht]; exact hP9, by rw [hAe]; exact hD9⟩, by rw [hAe]; exact hS9.F ht⟩) hS9.2.2 dX4_line_98
        · refine lv_bipush (v := (-3)) hx hb dX4_line_52 (by decide) ?_
          have hP9 := hP
          have hD9 := hD
          have hS9 := hS
          have qv : fX4_line xs ys pm la lb lc dm ia ib = (-3 : Int32) := by unfold fX4_line; rw [if_neg c1, if_neg c2, if_pos c3, if_neg c4]
          have q_la : gX4_line_la xs ys pm la lb lc dm ia ib = la := by unfold gX4_line_la; rw [if_neg c1, if_neg c2, if_pos c3, if_neg c4]
          have q_lb : gX4_line_lb xs ys pm la lb lc dm ia ib = lb := by unfold gX4_line_lb; rw [if_neg c1, if_neg c2, if_pos c3, if_neg c4]
          have q_lc : gX4_line_lc xs ys pm la lb lc dm ia ib = lc := by unfold gX4_line_lc; rw [if_neg c1, if_neg c2, if_pos c3, if_neg c4]
          have q_dm : gX4_line_dm xs ys pm la lb lc dm ia ib = dm := by unfold gX4_line_dm; rw [if_neg c1, if_neg c2, if_pos c3, if_neg c4]
          rw [qv, q_la, q_lb, q_lc, q_dm]
          exact W.iret (v := (-3 : Int32)) hx hb hr (fun t ht hW => ⟨⟨rfl, by rw [ht]; exact hP9, by rw [hAe]; exact hD9⟩, by rw [hAe]; exact hS9.F ht⟩) hS9.2.2 dX4_line_54
      · refine lv_bipush (v := (-4)) hx hb dX4_line_37 (by decide) ?_
        have hP9 := hP
        have hD9 := hD
        have hS9 := hS
        have qv : fX4_line xs ys pm la lb lc dm ia ib = (-4 : Int32) := by unfold fX4_line; rw [if_neg c1, if_neg c2, if_neg c3]
        have q_la : gX4_line_la xs ys pm la lb lc dm ia ib = la := by unfold gX4_line_la; rw [if_neg c1, if_neg c2, if_neg c3]
        have q_lb : gX4_line_lb xs ys pm la lb lc dm ia ib = lb := by unfold gX4_line_lb; rw [if_neg c1, if_neg c2, if_neg c3]
        have q_lc : gX4_line_lc xs ys pm la lb lc dm ia ib = lc := by unfold gX4_line_lc; rw [if_neg c1, if_neg c2, if_neg c3]
        have q_dm : gX4_line_dm xs ys pm la lb lc dm ia ib = dm := by unfold gX4_line_dm; rw [if_neg c1, if_neg c2, if_neg c3]
        rw [qv, q_la, q_lb, q_lc, q_dm]
        exact W.iret (v := (-4 : Int32)) hx hb hr (fun t ht hW => ⟨⟨rfl, by rw [ht]; exact hP9, by rw [hAe]; exact hD9⟩, by rw [hAe]; exact hS9.F ht⟩) hS9.2.2 dX4_line_39
    · refine lv_bipush (v := (-2)) hx hb dX4_line_22 (by decide) ?_
      have hP9 := hP
      have hD9 := hD
      have hS9 := hS
      have qv : fX4_line xs ys pm la lb lc dm ia ib = (-2 : Int32) := by unfold fX4_line; rw [if_neg c1, if_pos c2]
      have q_la : gX4_line_la xs ys pm la lb lc dm ia ib = la := by unfold gX4_line_la; rw [if_neg c1, if_pos c2]
      have q_lb : gX4_line_lb xs ys pm la lb lc dm ia ib = lb := by unfold gX4_line_lb; rw [if_neg c1, if_pos c2]
      have q_lc : gX4_line_lc xs ys pm la lb lc dm ia ib = lc := by unfold gX4_line_lc; rw [if_neg c1, if_pos c2]
      have q_dm : gX4_line_dm xs ys pm la lb lc dm ia ib = dm := by unfold gX4_line_dm; rw [if_neg c1, if_pos c2]
      rw [qv, q_la, q_lb, q_lc, q_dm]
      exact W.iret (v := (-2 : Int32)) hx hb hr (fun t ht hW => ⟨⟨rfl, by rw [ht]; exact hP9, by rw [hAe]; exact hD9⟩, by rw [hAe]; exact hS9.F ht⟩) hS9.2.2 dX4_line_24
