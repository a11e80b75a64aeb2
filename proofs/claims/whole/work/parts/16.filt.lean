/-! THE FILTER: what is reckoned in floats. -/
abbrev wFi (f1 q1 q2 q3 : Nat) (kI : ClassId) (xs ys : Nat → Int32) (pm on cl un ze : Int32) : va_W := [(f1, .inr (5, [.ref q1, .int on, .int cl, .int un, .int ze])), (q1, .inr (6, [.ref q2, .ref q3, .int pm])), (q2, .inl (kI, 60, .inl xs)), (q3, .inl (kI, 60, .inl ys))]
def fX1_unsigned  (v : UInt32) : UInt32 := if (0 : Int32) ≤ (Op.cmpValue (FP.fcmp v FP.fconst0) .g) then (v) else (FP.fneg v)
set_option maxHeartbeats 4000000 in
set_option maxRecDepth 100000 in
theorem ct1_unsigned (l : Launch) (D : va_G)  (v : UInt32) : Met l yX1_unsigned (Cond.code yX1_unsigned cX1_unsigned 1 (some .float) :: BX) ({ frames := 0, cells := 0, slots := 0, locals := 0 }) (xr_P nN D vwCl [] ([] : va_W) [.float v]) (xr_Q (.float (fX1_unsigned v))) 0 0 (fun _ => False) := by
  refine Met.ofW (cc := cX1_unsigned) (maxL := 1) (ret := (some .float)) (by decide) rfl ?_
  intro p e s m args below meth c s₁ B hml hv
  obtain ⟨rfl, hP, hK, hN⟩ := hv
  have hx := B.exec
  have hb := B.bytes
  have hr := B.returns
  have hts0 := atoms_spec (ws := Cond.code yX1_unsigned cX1_unsigned 1 (some .float) :: BX) B.pre
  have hts : ∀ w ∈ BX, w.before _ s = true := fun w h => hts0 w (List.mem_cons_of_mem _ h)
  have hown : s.vm.findClass RX1 = some m.cls := findClass_of_methodNamed B.named
  have hlocks := B.notSynchronized
  have hl := lv_entry ([.float v]) (n := 1) (Nat.le_of_ble_eq_true rfl)
  rw [lg_entry_eq]
  generalize (lg_sl ([.float v]) ++ List.replicate (1 - (lg_sl ([.float v])).length) Slot.unset).toArray = ls at hl ⊢
  have hl : lv_has ls 1 [(0, .float v)] := hl
  refine lv_fload_n hx hb dX1_unsigned_0 rfl (lv_at hl 0 rfl) ?_
  refine lv_fconst0 hx hb dX1_unsigned_1 ?_
  refine lv_fcmp hx hb dX1_unsigned_2 ?_
  refine lv_if_ge (tgt := 11) hx hb dX1_unsigned_3 (by decide) (fun c1 => ?_) (fun c1 => ?_)
  · refine lv_fload_n hx hb dX1_unsigned_11 rfl (lv_at hl 0 rfl) ?_
    exact W.fret (v := v) hx hb hr (fun t ht hW => ⟨by rw [show fX1_unsigned v = v by unfold fX1_unsigned; rw [if_pos c1]], ht⟩) (fun _ h => absurd h List.not_mem_nil) dX1_unsigned_12
  · refine lv_fload_n hx hb dX1_unsigned_6 rfl (lv_at hl 0 rfl) ?_
    refine lv_fneg hx hb dX1_unsigned_7 ?_
    refine lv_goto (tgt := 12) hx hb dX1_unsigned_8 (by decide) ?_
    exact W.fret (v := FP.fneg v) hx hb hr (fun t ht hW => ⟨by rw [show fX1_unsigned v = FP.fneg v by unfold fX1_unsigned; rw [if_neg c1]], ht⟩) (fun _ h => absurd h List.not_mem_nil) dX1_unsigned_12
def fX1_larger  (v : UInt32) (u : UInt32) : UInt32 := if (Op.cmpValue (FP.fcmp v u) .l) < (0 : Int32) then (u) else (v)
set_option maxHeartbeats 4000000 in
set_option maxRecDepth 100000 in
theorem ct1_larger (l : Launch) (D : va_G)  (v : UInt32) (u : UInt32) : Met l yX1_larger (Cond.code yX1_larger cX1_larger 2 (some .float) :: BX) ({ frames := 0, cells := 0, slots := 0, locals := 0 }) (xr_P nN D vwCl [] ([] : va_W) [.float v, .float u]) (xr_Q (.float (fX1_larger v u))) 0 0 (fun _ => False) := by
  refine Met.ofW (cc := cX1_larger) (maxL := 2) (ret := (some .float)) (by decide) rfl ?_
  intro p e s m args below meth c s₁ B hml hv
  obtain ⟨rfl, hP, hK, hN⟩ := hv
  have hx := B.exec
  have hb := B.bytes
  have hr := B.returns
  have hts0 := atoms_spec (ws := Cond.code yX1_larger cX1_larger 2 (some .float) :: BX) B.pre
  have hts : ∀ w ∈ BX, w.before _ s = true := fun w h => hts0 w (List.mem_cons_of_mem _ h)
  have hown : s.vm.findClass RX1 = some m.cls := findClass_of_methodNamed B.named
  have hlocks := B.notSynchronized
  have hl := lv_entry ([.float v, .float u]) (n := 2) (Nat.le_of_ble_eq_true rfl)
  rw [lg_entry_eq]
  generalize (lg_sl ([.float v, .float u]) ++ List.replicate (2 - (lg_sl ([.float v, .float u])).length) Slot.unset).toArray = ls at hl ⊢
  have hl : lv_has ls 2 [(0, .float v), (1, .float u)] := hl
  refine lv_fload_n hx hb dX1_larger_0 rfl (lv_at hl 0 rfl) ?_
  refine lv_fload_n hx hb dX1_larger_1 rfl (lv_at hl 1 rfl) ?_
  refine lv_fcmp hx hb dX1_larger_2 ?_
  refine lv_if_lt (tgt := 10) hx hb dX1_larger_3 (by decide) (fun c1 => ?_) (fun c1 => ?_)
  · refine lv_fload_n hx hb dX1_larger_10 rfl (lv_at hl 1 rfl) ?_
    exact W.fret (v := u) hx hb hr (fun t ht hW => ⟨by rw [show fX1_larger v u = u by unfold fX1_larger; rw [if_pos c1]], ht⟩) (fun _ h => absurd h List.not_mem_nil) dX1_larger_11
  · refine lv_fload_n hx hb dX1_larger_6 rfl (lv_at hl 0 rfl) ?_
    refine lv_goto (tgt := 11) hx hb dX1_larger_7 (by decide) ?_
    exact W.fret (v := v) hx hb hr (fun t ht hW => ⟨by rw [show fX1_larger v u = v by unfold fX1_larger; rw [if_neg c1]], ht⟩) (fun _ h => absurd h List.not_mem_nil) dX1_larger_11
def fX1_x (xs : Nat → Int32) (ia : Int32) : UInt32 := FP.fdiv (FP.i2f (xs ia.toNatClampNeg)) (1094713344 : UInt32)
set_option maxHeartbeats 4000000 in
set_option maxRecDepth 100000 in
theorem ct1_x (l : Launch) (D : va_G) (f1 q1 q2 q3 : Nat) (kI : ClassId) (xs ys : Nat → Int32) (pm on cl un ze : Int32) (ia : Int32) (oia : vp_in ia 60) (bx : bd xs) (by_ : bd ys) : Met l yX1_x (Cond.code yX1_x cX1_x 2 (some .float) :: BX) ({ frames := 0, cells := 0, slots := 0, locals := 0 }) (xr_P nN D vwCl [(kI, .int)] (wFi f1 q1 q2 q3 kI xs ys pm on cl un ze) [.ref f1, .int ia]) (xr_Q (.float (fX1_x xs ia))) 0 0 (fun _ => False) := by
  refine Met.ofW (cc := cX1_x) (maxL := 2) (ret := (some .float)) (by decide) rfl ?_
  intro p e s m args below meth c s₁ B hml hv
  obtain ⟨rfl, hP, hK, hN⟩ := hv
  have hx := B.exec
  have hb := B.bytes
  have hr := B.returns
  have hts0 := atoms_spec (ws := Cond.code yX1_x cX1_x 2 (some .float) :: BX) B.pre
  have hts : ∀ w ∈ BX, w.before _ s = true := fun w h => hts0 w (List.mem_cons_of_mem _ h)
  have hown : s.vm.findClass RX1 = some m.cls := findClass_of_methodNamed B.named
  have hlocks := B.notSynchronized
  have hl := lv_entry ([.ref f1, .int ia]) (n := 2) (Nat.le_of_ble_eq_true rfl)
  rw [lg_entry_eq]
  generalize (lg_sl ([.ref f1, .int ia]) ++ List.replicate (2 - (lg_sl ([.ref f1, .int ia])).length) Slot.unset).toArray = ls at hl ⊢
  have hl : lv_has ls 2 [(0, .ref f1), (1, .int ia)] := hl
  refine lv_aload_n hx hb dX1_x_0 rfl (lv_at hl 0 rfl) ?_
  refine va_get (D := D) (ci := 5) (v := .ref q1) (C := RX1) (T := TX1) (N := 5) hx hb hts hinX1 hown hK hP 0 rfl rfl 0 (by decide) (hts _ fk_X1_13) (fun _ h9 => h9) rfl dX1_x_1 ?_
  refine va_get (D := D) (ci := 6) (v := .ref q2) (C := RX2) (T := TX2) (N := 3) hx hb hts hinX2 hown hK hP 1 rfl rfl 0 (by decide) (hts _ fk_X1_55) (fun _ h9 => h9) rfl dX1_x_4 ?_
  refine lv_iload_n hx hb dX1_x_7 rfl (lv_at hl 1 rfl) ?_
  refine va_iald hx hb hK hP 2 0 rfl rfl oia dX1_x_8 ?_
  refine lv_i2f hx hb dX1_x_9 ?_
  refine lv_ldcf (v := 1094713344) hx hb hown (hts _ kf_X1_61) dX1_x_10 ?_
  refine lv_fdiv hx hb dX1_x_12 (mg_n (K := 140) (mg_12 (mg_i2f (bx _))) (by decide)) ?_
  exact W.fret (v := FP.fdiv (FP.i2f (xs ia.toNatClampNeg)) (1094713344 : UInt32)) hx hb hr (fun t ht hW => ⟨rfl, ht⟩) (fun _ h => absurd h List.not_mem_nil) dX1_x_13
def fX1_y (ys : Nat → Int32) (ia : Int32) : UInt32 := FP.fdiv (FP.i2f (ys ia.toNatClampNeg)) (1094713344 : UInt32)
set_option maxHeartbeats 4000000 in
set_option maxRecDepth 100000 in
theorem ct1_y (l : Launch) (D : va_G) (f1 q1 q2 q3 : Nat) (kI : ClassId) (xs ys : Nat → Int32) (pm on cl un ze : Int32) (ia : Int32) (oia : vp_in ia 60) (bx : bd xs) (by_ : bd ys) : Met l yX1_y (Cond.code yX1_y cX1_y 2 (some .float) :: BX) ({ frames := 0, cells := 0, slots := 0, locals := 0 }) (xr_P nN D vwCl [(kI, .int)] (wFi f1 q1 q2 q3 kI xs ys pm on cl un ze) [.ref f1, .int ia]) (xr_Q (.float (fX1_y ys ia))) 0 0 (fun _ => False) := by
  refine Met.ofW (cc := cX1_y) (maxL := 2) (ret := (some .float)) (by decide) rfl ?_
  intro p e s m args below meth c s₁ B hml hv
  obtain ⟨rfl, hP, hK, hN⟩ := hv
  have hx := B.exec
  have hb := B.bytes
  have hr := B.returns
  have hts0 := atoms_spec (ws := Cond.code yX1_y cX1_y 2 (some .float) :: BX) B.pre
  have hts : ∀ w ∈ BX, w.before _ s = true := fun w h => hts0 w (List.mem_cons_of_mem _ h)
  have hown : s.vm.findClass RX1 = some m.cls := findClass_of_methodNamed B.named
  have hlocks := B.notSynchronized
  have hl := lv_entry ([.ref f1, .int ia]) (n := 2) (Nat.le_of_ble_eq_true rfl)
  rw [lg_entry_eq]
  generalize (lg_sl ([.ref f1, .int ia]) ++ List.replicate (2 - (lg_sl ([.ref f1, .int ia])).length) Slot.unset).toArray = ls at hl ⊢
  have hl : lv_has ls 2 [(0, .ref f1), (1, .int ia)] := hl
  refine lv_aload_n hx hb dX1_y_0 rfl (lv_at hl 0 rfl) ?_
  refine va_get (D := D) (ci := 5) (v := .ref q1) (C := RX1) (T := TX1) (N := 5) hx hb hts hinX1 hown hK hP 0 rfl rfl 0 (by decide) (hts _ fk_X1_13) (fun _ h9 => h9) rfl dX1_y_1 ?_
  refine va_get (D := D) (ci := 6) (v := .ref q3) (C := RX2) (T := TX2) (N := 3) hx hb hts hinX2 hown hK hP 1 rfl rfl 1 (by decide) (hts _ fk_X1_62) (fun _ h9 => h9) rfl dX1_y_4 ?_
  refine lv_iload_n hx hb dX1_y_7 rfl (lv_at hl 1 rfl) ?_
  refine va_iald hx hb hK hP 3 0 rfl rfl oia dX1_y_8 ?_
  refine lv_i2f hx hb dX1_y_9 ?_
  refine lv_ldcf (v := 1094713344) hx hb hown (hts _ kf_X1_61) dX1_y_10 ?_
  refine lv_fdiv hx hb dX1_y_12 (mg_n (K := 140) (mg_12 (mg_i2f (by_ _))) (by decide)) ?_
  exact W.fret (v := FP.fdiv (FP.i2f (ys ia.toNatClampNeg)) (1094713344 : UInt32)) hx hb hr (fun t ht hW => ⟨rfl, ht⟩) (fun _ h => absurd h List.not_mem_nil) dX1_y_13
theorem mg_un {K : Nat} {v : UInt32} (h : mg K v) : mg K (fX1_unsigned v) := by
  unfold fX1_unsigned
  split
  · exact h
  · exact mg_neg h
theorem mg_larger {K : Nat} {v u : UInt32} (h : mg K v) (h2 : mg K u) : mg K (fX1_larger v u) := by
  unfold fX1_larger; split <;> assumption
theorem mg_x {xs : Nat → Int32} {a : Int32} (h : bd xs) : mg 140 (fX1_x xs a) := mg_12 (mg_i2f (h _))
theorem mg_y {ys : Nat → Int32} {a : Int32} (h : bd ys) : mg 140 (fX1_y ys a) := mg_12 (mg_i2f (h _))
def fX1_clearSign  (v : UInt32) (u : UInt32) : Int32 := if (Op.cmpValue (FP.fcmp (fX1_unsigned v) u) .l) ≤ (0 : Int32) then ((0 : Int32)) else (if (Op.cmpValue (FP.fcmp v FP.fconst0) .l) ≤ (0 : Int32) then ((-1 : Int32)) else ((1 : Int32)))
set_option maxHeartbeats 4000000 in
set_option maxRecDepth 100000 in
theorem ct1_clearSign (l : Launch) (D : va_G)  (v : UInt32) (u : UInt32) : Met l yX1_clearSign (Cond.code yX1_clearSign cX1_clearSign 2 (some .int) :: BX) ({ frames := 1, cells := 0, slots := 0, locals := 60 }) (xr_P nN D vwCl [] ([] : va_W) [.float v, .float u]) (xr_Q (.int (fX1_clearSign v u))) 0 0 (fun _ => False) := by
  refine Met.ofW (cc := cX1_clearSign) (maxL := 2) (ret := (some .int)) (by decide) rfl ?_
  intro p e s m args below meth c s₁ B hml hv
  obtain ⟨rfl, hP, hK, hN⟩ := hv
  have hx := B.exec
  have hb := B.bytes
  have hr := B.returns
  have hts0 := atoms_spec (ws := Cond.code yX1_clearSign cX1_clearSign 2 (some .int) :: BX) B.pre
  have hts : ∀ w ∈ BX, w.before _ s = true := fun w h => hts0 w (List.mem_cons_of_mem _ h)
  have hown : s.vm.findClass RX1 = some m.cls := findClass_of_methodNamed B.named
  have hlocks := B.notSynchronized
  have hl := lv_entry ([.float v, .float u]) (n := 2) (Nat.le_of_ble_eq_true rfl)
  rw [lg_entry_eq]
  generalize (lg_sl ([.float v, .float u]) ++ List.replicate (2 - (lg_sl ([.float v, .float u])).length) Slot.unset).toArray = ls at hl ⊢
  have hl : lv_has ls 2 [(0, .float v), (1, .float u)] := hl
  refine lv_fload_n hx hb dX1_clearSign_0 rfl (lv_at hl 0 rfl) ?_
  refine xr_S (rest := []) (As := [.float v]) ⟨hx, hb, hml, hown, hts⟩ (ct1_unsigned l D  v ) (va_cwS 1 hts gl_X1_51 rfl rfl rfl (by decide +kernel) ⟨Nat.le_of_ble_eq_true rfl, Nat.le_of_ble_eq_true rfl⟩) nN_mv hN hK hP [] [] rfl rfl rfl hl.1 rfl (Nat.le_of_ble_eq_true rfl) dX1_clearSign_1 ⟨Nat.le_of_ble_eq_true rfl, Nat.le_of_ble_eq_true rfl⟩ ?_
  refine lv_fload_n hx hb dX1_clearSign_4 rfl (lv_at hl 1 rfl) ?_
  refine lv_fcmp hx hb dX1_clearSign_5 ?_
  refine lv_if_le (tgt := 21) hx hb dX1_clearSign_6 (by decide) (fun c1 => ?_) (fun c1 => ?_)
  · refine lv_iconst (v := 0) hx hb dX1_clearSign_21 (by decide) ?_
    exact W.iret (v := (0 : Int32)) hx hb hr (fun t ht hW => ⟨by rw [show fX1_clearSign v u = (0 : Int32) by unfold fX1_clearSign; rw [if_pos c1]], ht⟩) (fun _ h => absurd h List.not_mem_nil) dX1_clearSign_22
  · refine lv_fload_n hx hb dX1_clearSign_9 rfl (lv_at hl 0 rfl) ?_
    refine lv_fconst0 hx hb dX1_clearSign_10 ?_
    refine lv_fcmp hx hb dX1_clearSign_11 ?_
    refine lv_if_le (tgt := 19) hx hb dX1_clearSign_12 (by decide) (fun c2 => ?_) (fun c2 => ?_)
    · refine lv_iconst (v := (-1)) hx hb dX1_clearSign_19 (by decide) ?_
      exact W.iret (v := (-1 : Int32)) hx hb hr (fun t ht hW => ⟨by rw [show fX1_clearSign v u = (-1 : Int32) by unfold fX1_clearSign; rw [if_neg c1, if_pos c2]], ht⟩) (fun _ h => absurd h List.not_mem_nil) dX1_clearSign_20
    · refine lv_iconst (v := 1) hx hb dX1_clearSign_15 (by decide) ?_
      refine lv_goto (tgt := 20) hx hb dX1_clearSign_16 (by decide) ?_
      exact W.iret (v := (1 : Int32)) hx hb hr (fun t ht hW => ⟨by rw [show fX1_clearSign v u = (1 : Int32) by unfold fX1_clearSign; rw [if_neg c1, if_neg c2]], ht⟩) (fun _ h => absurd h List.not_mem_nil) dX1_clearSign_20
def fX1_reach (xs ys : Nat → Int32) (ia : Int32) : UInt32 := fX1_larger (fX1_unsigned (fX1_x xs ia)) (fX1_unsigned (fX1_y ys ia))
set_option maxHeartbeats 4000000 in
set_option maxRecDepth 100000 in
theorem ct1_reach (l : Launch) (D : va_G) (f1 q1 q2 q3 : Nat) (kI : ClassId) (xs ys : Nat → Int32) (pm on cl un ze : Int32) (ia : Int32) (oia : vp_in ia 60) (bx : bd xs) (by_ : bd ys) : Met l yX1_reach (Cond.code yX1_reach cX1_reach 2 (some .float) :: BX) ({ frames := 1, cells := 0, slots := 0, locals := 60 }) (xr_P nN D vwCl [(kI, .int)] (wFi f1 q1 q2 q3 kI xs ys pm on cl un ze) [.ref f1, .int ia]) (xr_Q (.float (fX1_reach xs ys ia))) 0 0 (fun _ => False) := by
  refine Met.ofW (cc := cX1_reach) (maxL := 2) (ret := (some .float)) (by decide) rfl ?_
  intro p e s m args below meth c s₁ B hml hv
  obtain ⟨rfl, hP, hK, hN⟩ := hv
  have hx := B.exec
  have hb := B.bytes
  have hr := B.returns
  have hts0 := atoms_spec (ws := Cond.code yX1_reach cX1_reach 2 (some .float) :: BX) B.pre
  have hts : ∀ w ∈ BX, w.before _ s = true := fun w h => hts0 w (List.mem_cons_of_mem _ h)
  have hown : s.vm.findClass RX1 = some m.cls := findClass_of_methodNamed B.named
  have hlocks := B.notSynchronized
  have hl := lv_entry ([.ref f1, .int ia]) (n := 2) (Nat.le_of_ble_eq_true rfl)
  rw [lg_entry_eq]
  generalize (lg_sl ([.ref f1, .int ia]) ++ List.replicate (2 - (lg_sl ([.ref f1, .int ia])).length) Slot.unset).toArray = ls at hl ⊢
  have hl : lv_has ls 2 [(0, .ref f1), (1, .int ia)] := hl
  refine lv_aload_n hx hb dX1_reach_0 rfl (lv_at hl 0 rfl) ?_
  refine lv_iload_n hx hb dX1_reach_1 rfl (lv_at hl 1 rfl) ?_
  refine xr_V (q := (RX1, TX1, 5)) (ci := 5) (q0 := 0) (rest := []) (As := [.int ia]) ⟨hx, hb, hml, hown, hts⟩ (ct1_x l D f1 q1 q2 q3 kI xs ys pm on cl un ze ia oia bx by_) (cwV 1 hts gl_X1_27 rfl rfl rfl (by decide +kernel) ⟨Nat.le_of_ble_eq_true rfl, Nat.le_of_ble_eq_true rfl⟩) nN_mv hN hK hP [0, 1, 2, 3] [0] rfl rfl rfl rfl rfl hl.1 rfl (Nat.le_of_ble_eq_true rfl) dX1_reach_2 ⟨Nat.le_of_ble_eq_true rfl, Nat.le_of_ble_eq_true rfl⟩ ?_
  refine xr_S (rest := []) (As := [.float (fX1_x xs ia)]) ⟨hx, hb, hml, hown, hts⟩ (ct1_unsigned l D  (fX1_x xs ia) ) (va_cwS 1 hts gl_X1_51 rfl rfl rfl (by decide +kernel) ⟨Nat.le_of_ble_eq_true rfl, Nat.le_of_ble_eq_true rfl⟩) nN_mv hN hK hP [] [] rfl rfl rfl hl.1 rfl (Nat.le_of_ble_eq_true rfl) dX1_reach_5 ⟨Nat.le_of_ble_eq_true rfl, Nat.le_of_ble_eq_true rfl⟩ ?_
  refine lv_aload_n hx hb dX1_reach_8 rfl (lv_at hl 0 rfl) ?_
  refine lv_iload_n hx hb dX1_reach_9 rfl (lv_at hl 1 rfl) ?_
  refine xr_V (q := (RX1, TX1, 5)) (ci := 5) (q0 := 0) (rest := [.float (fX1_unsigned (fX1_x xs ia))]) (As := [.int ia]) ⟨hx, hb, hml, hown, hts⟩ (ct1_y l D f1 q1 q2 q3 kI xs ys pm on cl un ze ia oia bx by_) (cwV 1 hts gl_X1_31 rfl rfl rfl (by decide +kernel) ⟨Nat.le_of_ble_eq_true rfl, Nat.le_of_ble_eq_true rfl⟩) nN_mv hN hK hP [0, 1, 2, 3] [0] rfl rfl rfl rfl rfl hl.1 rfl (Nat.le_of_ble_eq_true rfl) dX1_reach_10 ⟨Nat.le_of_ble_eq_true rfl, Nat.le_of_ble_eq_true rfl⟩ ?_
  refine xr_S (rest := [.float (fX1_unsigned (fX1_x xs ia))]) (As := [.float (fX1_y ys ia)]) ⟨hx, hb, hml, hown, hts⟩ (ct1_unsigned l D  (fX1_y ys ia) ) (va_cwS 1 hts gl_X1_51 rfl rfl rfl (by decide +kernel) ⟨Nat.le_of_ble_eq_true rfl, Nat.le_of_ble_eq_true rfl⟩) nN_mv hN hK hP [] [] rfl rfl rfl hl.1 rfl (Nat.le_of_ble_eq_true rfl) dX1_reach_13 ⟨Nat.le_of_ble_eq_true rfl, Nat.le_of_ble_eq_true rfl⟩ ?_
  refine xr_S (rest := []) (As := [.float (fX1_unsigned (fX1_x xs ia)), .float (fX1_unsigned (fX1_y ys ia))]) ⟨hx, hb, hml, hown, hts⟩ (ct1_larger l D  (fX1_unsigned (fX1_x xs ia)) (fX1_unsigned (fX1_y ys ia)) ) (va_cwS 2 hts gl_X1_46 rfl rfl rfl (by decide +kernel) ⟨Nat.le_of_ble_eq_true rfl, Nat.le_of_ble_eq_true rfl⟩) nN_mv hN hK hP [] [] rfl rfl rfl hl.1 rfl (Nat.le_of_ble_eq_true rfl) dX1_reach_16 ⟨Nat.le_of_ble_eq_true rfl, Nat.le_of_ble_eq_true rfl⟩ ?_
  exact W.fret (v := fX1_larger (fX1_unsigned (fX1_x xs ia)) (fX1_unsigned (fX1_y ys ia))) hx hb hr (fun t ht hW => ⟨rfl, ht⟩) (fun _ h => absurd h List.not_mem_nil) dX1_reach_19
theorem mg_reach {xs ys : Nat → Int32} {a : Int32} (bx : bd xs) (by_ : bd ys) : mg 140 (fX1_reach xs ys a) := mg_larger (mg_un (mg_x bx)) (mg_un (mg_y by_))
def fX1_reachOfThree (xs ys : Nat → Int32) (ia : Int32) (ib : Int32) (ic : Int32) : UInt32 := fX1_larger (fX1_larger (fX1_reach xs ys ia) (fX1_reach xs ys ib)) (fX1_reach xs ys ic)
set_option maxHeartbeats 4000000 in
set_option maxRecDepth 100000 in
theorem ct1_reachOfThree (l : Launch) (D : va_G) (f1 q1 q2 q3 : Nat) (kI : ClassId) (xs ys : Nat → Int32) (pm on cl un ze : Int32) (ia : Int32) (ib : Int32) (ic : Int32) (oia : vp_in ia 60) (oib : vp_in ib 60) (oic : vp_in ic 60) (bx : bd xs) (by_ : bd ys) : Met l yX1_reachOfThree (Cond.code yX1_reachOfThree cX1_reachOfThree 4 (some .float) :: BX) ({ frames := 2, cells := 0, slots := 0, locals := 120 }) (xr_P nN D vwCl [(kI, .int)] (wFi f1 q1 q2 q3 kI xs ys pm on cl un ze) [.ref f1, .int ia, .int ib, .int ic]) (xr_Q (.float (fX1_reachOfThree xs ys ia ib ic))) 0 0 (fun _ => False) := by
  refine Met.ofW (cc := cX1_reachOfThree) (maxL := 4) (ret := (some .float)) (by decide) rfl ?_
  intro p e s m args below meth c s₁ B hml hv
  obtain ⟨rfl, hP, hK, hN⟩ := hv
  have hx := B.exec
  have hb := B.bytes
  have hr := B.returns
  have hts0 := atoms_spec (ws := Cond.code yX1_reachOfThree cX1_reachOfThree 4 (some .float) :: BX) B.pre
  have hts : ∀ w ∈ BX, w.before _ s = true := fun w h => hts0 w (List.mem_cons_of_mem _ h)
  have hown : s.vm.findClass RX1 = some m.cls := findClass_of_methodNamed B.named
  have hlocks := B.notSynchronized
  have hl := lv_entry ([.ref f1, .int ia, .int ib, .int ic]) (n := 4) (Nat.le_of_ble_eq_true rfl)
  rw [lg_entry_eq]
  generalize (lg_sl ([.ref f1, .int ia, .int ib, .int ic]) ++ List.replicate (4 - (lg_sl ([.ref f1, .int ia, .int ib, .int ic])).length) Slot.unset).toArray = ls at hl ⊢
  have hl : lv_has ls 4 [(0, .ref f1), (1, .int ia), (2, .int ib), (3, .int ic)] := hl
  refine lv_aload_n hx hb dX1_reachOfThree_0 rfl (lv_at hl 0 rfl) ?_
  refine lv_iload_n hx hb dX1_reachOfThree_1 rfl (lv_at hl 1 rfl) ?_
  refine xr_V (q := (RX1, TX1, 5)) (ci := 5) (q0 := 0) (rest := []) (As := [.int ia]) ⟨hx, hb, hml, hown, hts⟩ (ct1_reach l D f1 q1 q2 q3 kI xs ys pm on cl un ze ia oia bx by_) (cwV 1 hts gl_X1_43 rfl rfl rfl (by decide +kernel) ⟨Nat.le_of_ble_eq_true rfl, Nat.le_of_ble_eq_true rfl⟩) nN_mv hN hK hP [0, 1, 2, 3] [0] rfl rfl rfl rfl rfl hl.1 rfl (Nat.le_of_ble_eq_true rfl) dX1_reachOfThree_2 ⟨Nat.le_of_ble_eq_true rfl, Nat.le_of_ble_eq_true rfl⟩ ?_
  refine lv_aload_n hx hb dX1_reachOfThree_5 rfl (lv_at hl 0 rfl) ?_
  refine lv_iload_n hx hb dX1_reachOfThree_6 rfl (lv_at hl 2 rfl) ?_
  refine xr_V (q := (RX1, TX1, 5)) (ci := 5) (q0 := 0) (rest := [.float (fX1_reach xs ys ia)]) (As := [.int ib]) ⟨hx, hb, hml, hown, hts⟩ (ct1_reach l D f1 q1 q2 q3 kI xs ys pm on cl un ze ib oib bx by_) (cwV 1 hts gl_X1_43 rfl rfl rfl (by decide +kernel) ⟨Nat.le_of_ble_eq_true rfl, Nat.le_of_ble_eq_true rfl⟩) nN_mv hN hK hP [0, 1, 2, 3] [0] rfl rfl rfl rfl rfl hl.1 rfl (Nat.le_of_ble_eq_true rfl) dX1_reachOfThree_7 ⟨Nat.le_of_ble_eq_true rfl, Nat.le_of_ble_eq_true rfl⟩ ?_
  refine xr_S (rest := []) (As := [.float (fX1_reach xs ys ia), .float (fX1_reach xs ys ib)]) ⟨hx, hb, hml, hown, hts⟩ (ct1_larger l D  (fX1_reach xs ys ia) (fX1_reach xs ys ib) ) (va_cwS 2 hts gl_X1_46 rfl rfl rfl (by decide +kernel) ⟨Nat.le_of_ble_eq_true rfl, Nat.le_of_ble_eq_true rfl⟩) nN_mv hN hK hP [] [] rfl rfl rfl hl.1 rfl (Nat.le_of_ble_eq_true rfl) dX1_reachOfThree_10 ⟨Nat.le_of_ble_eq_true rfl, Nat.le_of_ble_eq_true rfl⟩ ?_
  refine lv_aload_n hx hb dX1_reachOfThree_13 rfl (lv_at hl 0 rfl) ?_
  refine lv_iload_n hx hb dX1_reachOfThree_14 rfl (lv_at hl 3 rfl) ?_
  refine xr_V (q := (RX1, TX1, 5)) (ci := 5) (q0 := 0) (rest := [.float (fX1_larger (fX1_reach xs ys ia) (fX1_reach xs ys ib))]) (As := [.int ic]) ⟨hx, hb, hml, hown, hts⟩ (ct1_reach l D f1 q1 q2 q3 kI xs ys pm on cl un ze ic oic bx by_) (cwV 1 hts gl_X1_43 rfl rfl rfl (by decide +kernel) ⟨Nat.le_of_ble_eq_true rfl, Nat.le_of_ble_eq_true rfl⟩) nN_mv hN hK hP [0, 1, 2, 3] [0] rfl rfl rfl rfl rfl hl.1 rfl (Nat.le_of_ble_eq_true rfl) dX1_reachOfThree_15 ⟨Nat.le_of_ble_eq_true rfl, Nat.le_of_ble_eq_true rfl⟩ ?_
  refine xr_S (rest := []) (As := [.float (fX1_larger (fX1_reach xs ys ia) (fX1_reach xs ys ib)), .float (fX1_reach xs ys ic)]) ⟨hx, hb, hml, hown, hts⟩ (ct1_larger l D  (fX1_larger (fX1_reach xs ys ia) (fX1_reach xs ys ib)) (fX1_reach xs ys ic) ) (va_cwS 2 hts gl_X1_46 rfl rfl rfl (by decide +kernel) ⟨Nat.le_of_ble_eq_true rfl, Nat.le_of_ble_eq_true rfl⟩) nN_mv hN hK hP [] [] rfl rfl rfl hl.1 rfl (Nat.le_of_ble_eq_true rfl) dX1_reachOfThree_18 ⟨Nat.le_of_ble_eq_true rfl, Nat.le_of_ble_eq_true rfl⟩ ?_
  exact W.fret (v := fX1_larger (fX1_larger (fX1_reach xs ys ia) (fX1_reach xs ys ib)) (fX1_reach xs ys ic)) hx hb hr (fun t ht hW => ⟨rfl, ht⟩) (fun _ h => absurd h List.not_mem_nil) dX1_reachOfThree_21
theorem mg_r3 {xs ys : Nat → Int32} {a b c : Int32} (bx : bd xs) (by_ : bd ys) : mg 140 (fX1_reachOfThree xs ys a b c) := mg_larger (mg_larger (mg_reach bx by_) (mg_reach bx by_)) (mg_reach bx by_)
def fX1_clearTurn (xs ys : Nat → Int32) (ia : Int32) (ib : Int32) (ic : Int32) : Int32 := fX1_clearSign (FP.fsub (FP.fmul (FP.fsub (fX1_x xs ib) (fX1_x xs ia)) (FP.fsub (fX1_y ys ic) (fX1_y ys ia))) (FP.fmul (FP.fsub (fX1_y ys ib) (fX1_y ys ia)) (FP.fsub (fX1_x xs ic) (fX1_x xs ia)))) (FP.fmul (FP.fmul (fX1_reachOfThree xs ys ia ib ic) (fX1_reachOfThree xs ys ia ib ic)) (914358272 : UInt32))
set_option maxHeartbeats 4000000 in
set_option maxRecDepth 100000 in
theorem ct1_clearTurn (l : Launch) (D : va_G) (f1 q1 q2 q3 : Nat) (kI : ClassId) (xs ys : Nat → Int32) (pm on cl un ze : Int32) (ia : Int32) (ib : Int32) (ic : Int32) (oia : vp_in ia 60) (oib : vp_in ib 60) (oic : vp_in ic 60) (bx : bd xs) (by_ : bd ys) : Met l yX1_clearTurn (Cond.code yX1_clearTurn cX1_clearTurn 6 (some .int) :: BX) ({ frames := 3, cells := 0, slots := 0, locals := 180 }) (xr_P nN D vwCl [(kI, .int)] (wFi f1 q1 q2 q3 kI xs ys pm on cl un ze) [.ref f1, .int ia, .int ib, .int ic]) (xr_Q (.int (fX1_clearTurn xs ys ia ib ic))) 0 0 (fun _ => False) := by
  refine Met.ofW (cc := cX1_clearTurn) (maxL := 6) (ret := (some .int)) (by decide) rfl ?_
  intro p e s m args below meth c s₁ B hml hv
  obtain ⟨rfl, hP, hK, hN⟩ := hv
  have hx := B.exec
  have hb := B.bytes
  have hr := B.returns
  have hts0 := atoms_spec (ws := Cond.code yX1_clearTurn cX1_clearTurn 6 (some .int) :: BX) B.pre
  have hts : ∀ w ∈ BX, w.before _ s = true := fun w h => hts0 w (List.mem_cons_of_mem _ h)
  have hown : s.vm.findClass RX1 = some m.cls := findClass_of_methodNamed B.named
  have hlocks := B.notSynchronized
  have hl := lv_entry ([.ref f1, .int ia, .int ib, .int ic]) (n := 6) (Nat.le_of_ble_eq_true rfl)
  rw [lg_entry_eq]
  generalize (lg_sl ([.ref f1, .int ia, .int ib, .int ic]) ++ List.replicate (6 - (lg_sl ([.ref f1, .int ia, .int ib, .int ic])).length) Slot.unset).toArray = ls at hl ⊢
  have hl : lv_has ls 6 [(0, .ref f1), (1, .int ia), (2, .int ib), (3, .int ic)] := hl
  refine lv_aload_n hx hb dX1_clearTurn_0 rfl (lv_at hl 0 rfl) ?_
  refine lv_iload_n hx hb dX1_clearTurn_1 rfl (lv_at hl 2 rfl) ?_
  refine xr_V (q := (RX1, TX1, 5)) (ci := 5) (q0 := 0) (rest := []) (As := [.int ib]) ⟨hx, hb, hml, hown, hts⟩ (ct1_x l D f1 q1 q2 q3 kI xs ys pm on cl un ze ib oib bx by_) (cwV 1 hts gl_X1_27 rfl rfl rfl (by decide +kernel) ⟨Nat.le_of_ble_eq_true rfl, Nat.le_of_ble_eq_true rfl⟩) nN_mv hN hK hP [0, 1, 2, 3] [0] rfl rfl rfl rfl rfl hl.1 rfl (Nat.le_of_ble_eq_true rfl) dX1_clearTurn_2 ⟨Nat.le_of_ble_eq_true rfl, Nat.le_of_ble_eq_true rfl⟩ ?_
  refine lv_aload_n hx hb dX1_clearTurn_5 rfl (lv_at hl 0 rfl) ?_
  refine lv_iload_n hx hb dX1_clearTurn_6 rfl (lv_at hl 1 rfl) ?_
  refine xr_V (q := (RX1, TX1, 5)) (ci := 5) (q0 := 0) (rest := [.float (fX1_x xs ib)]) (As := [.int ia]) ⟨hx, hb, hml, hown, hts⟩ (ct1_x l D f1 q1 q2 q3 kI xs ys pm on cl un ze ia oia bx by_) (cwV 1 hts gl_X1_27 rfl rfl rfl (by decide +kernel) ⟨Nat.le_of_ble_eq_true rfl, Nat.le_of_ble_eq_true rfl⟩) nN_mv hN hK hP [0, 1, 2, 3] [0] rfl rfl rfl rfl rfl hl.1 rfl (Nat.le_of_ble_eq_true rfl) dX1_clearTurn_7 ⟨Nat.le_of_ble_eq_true rfl, Nat.le_of_ble_eq_true rfl⟩ ?_
  refine lv_fsub hx hb dX1_clearTurn_10 (mg_n (K := 142) (mg_sub (K := 140) (mg_x bx) (mg_x bx) (by decide)) (by decide)) ?_
  refine lv_aload_n hx hb dX1_clearTurn_11 rfl (lv_at hl 0 rfl) ?_
  refine lv_iload_n hx hb dX1_clearTurn_12 rfl (lv_at hl 3 rfl) ?_
  refine xr_V (q := (RX1, TX1, 5)) (ci := 5) (q0 := 0) (rest := [.float (FP.fsub (fX1_x xs ib) (fX1_x xs ia))]) (As := [.int ic]) ⟨hx, hb, hml, hown, hts⟩ (ct1_y l D f1 q1 q2 q3 kI xs ys pm on cl un ze ic oic bx by_) (cwV 1 hts gl_X1_31 rfl rfl rfl (by decide +kernel) ⟨Nat.le_of_ble_eq_true rfl, Nat.le_of_ble_eq_true rfl⟩) nN_mv hN hK hP [0, 1, 2, 3] [0] rfl rfl rfl rfl rfl hl.1 rfl (Nat.le_of_ble_eq_true rfl) dX1_clearTurn_13 ⟨Nat.le_of_ble_eq_true rfl, Nat.le_of_ble_eq_true rfl⟩ ?_
  refine lv_aload_n hx hb dX1_clearTurn_16 rfl (lv_at hl 0 rfl) ?_
  refine lv_iload_n hx hb dX1_clearTurn_17 rfl (lv_at hl 1 rfl) ?_
  refine xr_V (q := (RX1, TX1, 5)) (ci := 5) (q0 := 0) (rest := [.float (fX1_y ys ic), .float (FP.fsub (fX1_x xs ib) (fX1_x xs ia))]) (As := [.int ia]) ⟨hx, hb, hml, hown, hts⟩ (ct1_y l D f1 q1 q2 q3 kI xs ys pm on cl un ze ia oia bx by_) (cwV 1 hts gl_X1_31 rfl rfl rfl (by decide +kernel) ⟨Nat.le_of_ble_eq_true rfl, Nat.le_of_ble_eq_true rfl⟩) nN_mv hN hK hP [0, 1, 2, 3] [0] rfl rfl rfl rfl rfl hl.1 rfl (Nat.le_of_ble_eq_true rfl) dX1_clearTurn_18 ⟨Nat.le_of_ble_eq_true rfl, Nat.le_of_ble_eq_true rfl⟩ ?_
  refine lv_fsub hx hb dX1_clearTurn_21 (mg_n (K := 142) (mg_sub (K := 140) (mg_y by_) (mg_y by_) (by decide)) (by decide)) ?_
  refine lv_fmul hx hb dX1_clearTurn_22 (mg_n (K := 158) (mg_mul (K := 142) (L := 142) (mg_sub (K := 140) (mg_x bx) (mg_x bx) (by decide)) (mg_sub (K := 140) (mg_y by_) (mg_y by_) (by decide)) (by decide) (by decide)) (by decide)) ?_
  refine lv_aload_n hx hb dX1_clearTurn_23 rfl (lv_at hl 0 rfl) ?_
  refine lv_iload_n hx hb dX1_clearTurn_24 rfl (lv_at hl 2 rfl) ?_
  refine xr_V (q := (RX1, TX1, 5)) (ci := 5) (q0 := 0) (rest := [.float (FP.fmul (FP.fsub (fX1_x xs ib) (fX1_x xs ia)) (FP.fsub (fX1_y ys ic) (fX1_y ys ia)))]) (As := [.int ib]) ⟨hx, hb, hml, hown, hts⟩ (ct1_y l D f1 q1 q2 q3 kI xs ys pm on cl un ze ib oib bx by_) (cwV 1 hts gl_X1_31 rfl rfl rfl (by decide +kernel) ⟨Nat.le_of_ble_eq_true rfl, Nat.le_of_ble_eq_true rfl⟩) nN_mv hN hK hP [0, 1, 2, 3] [0] rfl rfl rfl rfl rfl hl.1 rfl (Nat.le_of_ble_eq_true rfl) dX1_clearTurn_25 ⟨Nat.le_of_ble_eq_true rfl, Nat.le_of_ble_eq_true rfl⟩ ?_
  refine lv_aload_n hx hb dX1_clearTurn_28 rfl (lv_at hl 0 rfl) ?_
  refine lv_iload_n hx hb dX1_clearTurn_29 rfl (lv_at hl 1 rfl) ?_
  refine xr_V (q := (RX1, TX1, 5)) (ci := 5) (q0 := 0) (rest := [.float (fX1_y ys ib), .float (FP.fmul (FP.fsub (fX1_x xs ib) (fX1_x xs ia)) (FP.fsub (fX1_y ys ic) (fX1_y ys ia)))]) (As := [.int ia]) ⟨hx, hb, hml, hown, hts⟩ (ct1_y l D f1 q1 q2 q3 kI xs ys pm on cl un ze ia oia bx by_) (cwV 1 hts gl_X1_31 rfl rfl rfl (by decide +kernel) ⟨Nat.le_of_ble_eq_true rfl, Nat.le_of_ble_eq_true rfl⟩) nN_mv hN hK hP [0, 1, 2, 3] [0] rfl rfl rfl rfl rfl hl.1 rfl (Nat.le_of_ble_eq_true rfl) dX1_clearTurn_30 ⟨Nat.le_of_ble_eq_true rfl, Nat.le_of_ble_eq_true rfl⟩ ?_
  refine lv_fsub hx hb dX1_clearTurn_33 (mg_n (K := 142) (mg_sub (K := 140) (mg_y by_) (mg_y by_) (by decide)) (by decide)) ?_
  refine lv_aload_n hx hb dX1_clearTurn_34 rfl (lv_at hl 0 rfl) ?_
  refine lv_iload_n hx hb dX1_clearTurn_35 rfl (lv_at hl 3 rfl) ?_
  refine xr_V (q := (RX1, TX1, 5)) (ci := 5) (q0 := 0) (rest := [.float (FP.fsub (fX1_y ys ib) (fX1_y ys ia)), .float (FP.fmul (FP.fsub (fX1_x xs ib) (fX1_x xs ia)) (FP.fsub (fX1_y ys ic) (fX1_y ys ia)))]) (As := [.int ic]) ⟨hx, hb, hml, hown, hts⟩ (ct1_x l D f1 q1 q2 q3 kI xs ys pm on cl un ze ic oic bx by_) (cwV 1 hts gl_X1_27 rfl rfl rfl (by decide +kernel) ⟨Nat.le_of_ble_eq_true rfl, Nat.le_of_ble_eq_true rfl⟩) nN_mv hN hK hP [0, 1, 2, 3] [0] rfl rfl rfl rfl rfl hl.1 rfl (Nat.le_of_ble_eq_true rfl) dX1_clearTurn_36 ⟨Nat.le_of_ble_eq_true rfl, Nat.le_of_ble_eq_true rfl⟩ ?_
  refine lv_aload_n hx hb dX1_clearTurn_39 rfl (lv_at hl 0 rfl) ?_
  refine lv_iload_n hx hb dX1_clearTurn_40 rfl (lv_at hl 1 rfl) ?_
  refine xr_V (q := (RX1, TX1, 5)) (ci := 5) (q0 := 0) (rest := [.float (fX1_x xs ic), .float (FP.fsub (fX1_y ys ib) (fX1_y ys ia)), .float (FP.fmul (FP.fsub (fX1_x xs ib) (fX1_x xs ia)) (FP.fsub (fX1_y ys ic) (fX1_y ys ia)))]) (As := [.int ia]) ⟨hx, hb, hml, hown, hts⟩ (ct1_x l D f1 q1 q2 q3 kI xs ys pm on cl un ze ia oia bx by_) (cwV 1 hts gl_X1_27 rfl rfl rfl (by decide +kernel) ⟨Nat.le_of_ble_eq_true rfl, Nat.le_of_ble_eq_true rfl⟩) nN_mv hN hK hP [0, 1, 2, 3] [0] rfl rfl rfl rfl rfl hl.1 rfl (Nat.le_of_ble_eq_true rfl) dX1_clearTurn_41 ⟨Nat.le_of_ble_eq_true rfl, Nat.le_of_ble_eq_true rfl⟩ ?_
  refine lv_fsub hx hb dX1_clearTurn_44 (mg_n (K := 142) (mg_sub (K := 140) (mg_x bx) (mg_x bx) (by decide)) (by decide)) ?_
  refine lv_fmul hx hb dX1_clearTurn_45 (mg_n (K := 158) (mg_mul (K := 142) (L := 142) (mg_sub (K := 140) (mg_y by_) (mg_y by_) (by decide)) (mg_sub (K := 140) (mg_x bx) (mg_x bx) (by decide)) (by decide) (by decide)) (by decide)) ?_
  refine lv_fsub hx hb dX1_clearTurn_46 (mg_n (K := 160) (mg_sub (K := 158) (mg_mul (K := 142) (L := 142) (mg_sub (K := 140) (mg_x bx) (mg_x bx) (by decide)) (mg_sub (K := 140) (mg_y by_) (mg_y by_) (by decide)) (by decide) (by decide)) (mg_mul (K := 142) (L := 142) (mg_sub (K := 140) (mg_y by_) (mg_y by_) (by decide)) (mg_sub (K := 140) (mg_x bx) (mg_x bx) (by decide)) (by decide) (by decide)) (by decide)) (by decide)) ?_
  refine lv_topf (fun z1 ez1 => ?_)
  refine lv_fstore (lv' := [(4, .float z1), (0, .ref f1), (1, .int ia), (2, .int ib), (3, .int ic)]) hx hb dX1_clearTurn_47 hl (by decide) rfl (fun ls hl => ?_)
  refine lv_aload_n hx hb dX1_clearTurn_49 rfl (lv_at hl 1 rfl) ?_
  refine lv_iload_n hx hb dX1_clearTurn_50 rfl (lv_at hl 2 rfl) ?_
  refine lv_iload_n hx hb dX1_clearTurn_51 rfl (lv_at hl 3 rfl) ?_
  refine lv_iload_n hx hb dX1_clearTurn_52 rfl (lv_at hl 4 rfl) ?_
  refine xr_V (q := (RX1, TX1, 5)) (ci := 5) (q0 := 0) (rest := []) (As := [.int ia, .int ib, .int ic]) ⟨hx, hb, hml, hown, hts⟩ (ct1_reachOfThree l D f1 q1 q2 q3 kI xs ys pm on cl un ze ia ib ic oia oib oic bx by_) (cwV 3 hts gl_X1_34 rfl rfl rfl (by decide +kernel) ⟨Nat.le_of_ble_eq_true rfl, Nat.le_of_ble_eq_true rfl⟩) nN_mv hN hK hP [0, 1, 2, 3] [0] rfl rfl rfl rfl rfl hl.1 rfl (Nat.le_of_ble_eq_true rfl) dX1_clearTurn_53 ⟨Nat.le_of_ble_eq_true rfl, Nat.le_of_ble_eq_true rfl⟩ ?_
  refine lv_topf (fun z2 ez2 => ?_)
  refine lv_fstore (lv' := [(5, .float z2), (4, .float z1), (0, .ref f1), (1, .int ia), (2, .int ib), (3, .int ic)]) hx hb dX1_clearTurn_56 hl (by decide) rfl (fun ls hl => ?_)
  refine lv_fload hx hb dX1_clearTurn_58 (lv_at hl 1 rfl) ?_
  refine lv_fload hx hb dX1_clearTurn_60 (lv_at hl 0 rfl) ?_
  refine lv_fload hx hb dX1_clearTurn_62 (lv_at hl 0 rfl) ?_
  refine lv_fmul hx hb dX1_clearTurn_64 (mg_n (K := 154) (mg_mul (K := 140) (L := 140) (by rw [ez2]; exact (mg_r3 bx by_)) (by rw [ez2]; exact (mg_r3 bx by_)) (by decide) (by decide)) (by decide)) ?_
  refine lv_ldcf (v := 914358272) hx hb hown (hts _ kf_X1_38) dX1_clearTurn_65 ?_
  refine lv_fmul hx hb dX1_clearTurn_67 (mg_n (K := 138) (mg_mul (K := 154) (L := 110) (mg_mul (K := 140) (L := 140) (by rw [ez2]; exact (mg_r3 bx by_)) (by rw [ez2]; exact (mg_r3 bx by_)) (by decide) (by decide)) mg_k18 (by decide) (by decide)) (by decide)) ?_
  refine xr_S (rest := []) (As := [.float z1, .float (FP.fmul (FP.fmul z2 z2) (914358272 : UInt32))]) ⟨hx, hb, hml, hown, hts⟩ (ct1_clearSign l D  z1 (FP.fmul (FP.fmul z2 z2) (914358272 : UInt32)) ) (va_cwS 2 hts gl_X1_39 rfl rfl rfl (by decide +kernel) ⟨Nat.le_of_ble_eq_true rfl, Nat.le_of_ble_eq_true rfl⟩) nN_mv hN hK hP [] [] rfl rfl rfl hl.1 rfl (Nat.le_of_ble_eq_true rfl) dX1_clearTurn_68 ⟨Nat.le_of_ble_eq_true rfl, Nat.le_of_ble_eq_true rfl⟩ ?_
  subst ez2 ez1
  exact W.iret (v := fX1_clearSign (FP.fsub (FP.fmul (FP.fsub (fX1_x xs ib) (fX1_x xs ia)) (FP.fsub (fX1_y ys ic) (fX1_y ys ia))) (FP.fmul (FP.fsub (fX1_y ys ib) (fX1_y ys ia)) (FP.fsub (fX1_x xs ic) (fX1_x xs ia)))) (FP.fmul (FP.fmul (fX1_reachOfThree xs ys ia ib ic) (fX1_reachOfThree xs ys ia ib ic)) (914358272 : UInt32))) hx hb hr (fun t ht hW => ⟨rfl, ht⟩) (fun _ h => absurd h List.not_mem_nil) dX1_clearTurn_71
def fX1_clearLift (xs ys : Nat → Int32) (ia : Int32) (ib : Int32) (ic : Int32) (id : Int32) : Int32 := fX1_clearSign (FP.fadd (FP.fadd (FP.fmul (FP.fadd (FP.fmul (FP.fsub (fX1_x xs ia) (fX1_x xs id)) (FP.fsub (fX1_x xs ia) (fX1_x xs id))) (FP.fmul (FP.fsub (fX1_y ys ia) (fX1_y ys id)) (FP.fsub (fX1_y ys ia) (fX1_y ys id)))) (FP.fsub (FP.fmul (FP.fsub (fX1_x xs ib) (fX1_x xs id)) (FP.fsub (fX1_y ys ic) (fX1_y ys id))) (FP.fmul (FP.fsub (fX1_y ys ib) (fX1_y ys id)) (FP.fsub (fX1_x xs ic) (fX1_x xs id))))) (FP.fmul (FP.fadd (FP.fmul (FP.fsub (fX1_x xs ib) (fX1_x xs id)) (FP.fsub (fX1_x xs ib) (fX1_x xs id))) (FP.fmul (FP.fsub (fX1_y ys ib) (fX1_y ys id)) (FP.fsub (fX1_y ys ib) (fX1_y ys id)))) (FP.fsub (FP.fmul (FP.fsub (fX1_x xs ic) (fX1_x xs id)) (FP.fsub (fX1_y ys ia) (fX1_y ys id))) (FP.fmul (FP.fsub (fX1_y ys ic) (fX1_y ys id)) (FP.fsub (fX1_x xs ia) (fX1_x xs id)))))) (FP.fmul (FP.fadd (FP.fmul (FP.fsub (fX1_x xs ic) (fX1_x xs id)) (FP.fsub (fX1_x xs ic) (fX1_x xs id))) (FP.fmul (FP.fsub (fX1_y ys ic) (fX1_y ys id)) (FP.fsub (fX1_y ys ic) (fX1_y ys id)))) (FP.fsub (FP.fmul (FP.fsub (fX1_x xs ia) (fX1_x xs id)) (FP.fsub (fX1_y ys ib) (fX1_y ys id))) (FP.fmul (FP.fsub (fX1_y ys ia) (fX1_y ys id)) (FP.fsub (fX1_x xs ib) (fX1_x xs id)))))) (FP.fmul (FP.fmul (FP.fmul (fX1_larger (fX1_reachOfThree xs ys ia ib ic) (fX1_reach xs ys id)) (fX1_larger (fX1_reachOfThree xs ys ia ib ic) (fX1_reach xs ys id))) (FP.fmul (fX1_larger (fX1_reachOfThree xs ys ia ib ic) (fX1_reach xs ys id)) (fX1_larger (fX1_reachOfThree xs ys ia ib ic) (fX1_reach xs ys id)))) (964689920 : UInt32))
set_option maxHeartbeats 4000000 in
set_option maxRecDepth 100000 in
theorem ct1_clearLift (l : Launch) (D : va_G) (f1 q1 q2 q3 : Nat) (kI : ClassId) (xs ys : Nat → Int32) (pm on cl un ze : Int32) (ia : Int32) (ib : Int32) (ic : Int32) (id : Int32) (oia : vp_in ia 60) (oib : vp_in ib 60) (oic : vp_in ic 60) (oid : vp_in id 60) (bx : bd xs) (by_ : bd ys) : Met l yX1_clearLift (Cond.code yX1_clearLift cX1_clearLift 16 (some .int) :: BX) ({ frames := 3, cells := 0, slots := 0, locals := 180 }) (xr_P nN D vwCl [(kI, .int)] (wFi f1 q1 q2 q3 kI xs ys pm on cl un ze) [.ref f1, .int ia, .int ib, .int ic, .int id]) (xr_Q (.int (fX1_clearLift xs ys ia ib ic id))) 0 0 (fun _ => False) := by
  refine Met.ofW (cc := cX1_clearLift) (maxL := 16) (ret := (some .int)) (by decide) rfl ?_
  intro p e s m args below meth c s₁ B hml hv
  obtain ⟨rfl, hP, hK, hN⟩ := hv
  have hx := B.exec
  have hb := B.bytes
  have hr := B.returns
  have hts0 := atoms_spec (ws := Cond.code yX1_clearLift cX1_clearLift 16 (some .int) :: BX) B.pre
  have hts : ∀ w ∈ BX, w.before _ s = true := fun w h => hts0 w (List.mem_cons_of_mem _ h)
  have hown : s.vm.findClass RX1 = some m.cls := findClass_of_methodNamed B.named
  have hlocks := B.notSynchronized
  have hl := lv_entry ([.ref f1, .int ia, .int ib, .int ic, .int id]) (n := 16) (Nat.le_of_ble_eq_true rfl)
  rw [lg_entry_eq]
  generalize (lg_sl ([.ref f1, .int ia, .int ib, .int ic, .int id]) ++ List.replicate (16 - (lg_sl ([.ref f1, .int ia, .int ib, .int ic, .int id])).length) Slot.unset).toArray = ls at hl ⊢
  have hl : lv_has ls 16 [(0, .ref f1), (1, .int ia), (2, .int ib), (3, .int ic), (4, .int id)] := hl
  refine lv_aload_n hx hb dX1_clearLift_0 rfl (lv_at hl 0 rfl) ?_
  refine lv_iload_n hx hb dX1_clearLift_1 rfl (lv_at hl 1 rfl) ?_
  refine xr_V (q := (RX1, TX1, 5)) (ci := 5) (q0 := 0) (rest := []) (As := [.int ia]) ⟨hx, hb, hml, hown, hts⟩ (ct1_x l D f1 q1 q2 q3 kI xs ys pm on cl un ze ia oia bx by_) (cwV 1 hts gl_X1_27 rfl rfl rfl (by decide +kernel) ⟨Nat.le_of_ble_eq_true rfl, Nat.le_of_ble_eq_true rfl⟩) nN_mv hN hK hP [0, 1, 2, 3] [0] rfl rfl rfl rfl rfl hl.1 rfl (Nat.le_of_ble_eq_true rfl) dX1_clearLift_2 ⟨Nat.le_of_ble_eq_true rfl, Nat.le_of_ble_eq_true rfl⟩ ?_
  refine lv_aload_n hx hb dX1_clearLift_5 rfl (lv_at hl 0 rfl) ?_
  refine lv_iload hx hb dX1_clearLift_6 (lv_at hl 4 rfl) ?_
  refine xr_V (q := (RX1, TX1, 5)) (ci := 5) (q0 := 0) (rest := [.float (fX1_x xs ia)]) (As := [.int id]) ⟨hx, hb, hml, hown, hts⟩ (ct1_x l D f1 q1 q2 q3 kI xs ys pm on cl un ze id oid bx by_) (cwV 1 hts gl_X1_27 rfl rfl rfl (by decide +kernel) ⟨Nat.le_of_ble_eq_true rfl, Nat.le_of_ble_eq_true rfl⟩) nN_mv hN hK hP [0, 1, 2, 3] [0] rfl rfl rfl rfl rfl hl.1 rfl (Nat.le_of_ble_eq_true rfl) dX1_clearLift_8 ⟨Nat.le_of_ble_eq_true rfl, Nat.le_of_ble_eq_true rfl⟩ ?_
  refine lv_fsub hx hb dX1_clearLift_11 (mg_n (K := 142) (mg_sub (K := 140) (mg_x bx) (mg_x bx) (by decide)) (by decide)) ?_
  refine lv_topf (fun z1 ez1 => ?_)
  refine lv_fstore (lv' := [(5, .float z1), (0, .ref f1), (1, .int ia), (2, .int ib), (3, .int ic), (4, .int id)]) hx hb dX1_clearLift_12 hl (by decide) rfl (fun ls hl => ?_)
  refine lv_aload_n hx hb dX1_clearLift_14 rfl (lv_at hl 1 rfl) ?_
  refine lv_iload_n hx hb dX1_clearLift_15 rfl (lv_at hl 2 rfl) ?_
  refine xr_V (q := (RX1, TX1, 5)) (ci := 5) (q0 := 0) (rest := []) (As := [.int ia]) ⟨hx, hb, hml, hown, hts⟩ (ct1_y l D f1 q1 q2 q3 kI xs ys pm on cl un ze ia oia bx by_) (cwV 1 hts gl_X1_31 rfl rfl rfl (by decide +kernel) ⟨Nat.le_of_ble_eq_true rfl, Nat.le_of_ble_eq_true rfl⟩) nN_mv hN hK hP [0, 1, 2, 3] [0] rfl rfl rfl rfl rfl hl.1 rfl (Nat.le_of_ble_eq_true rfl) dX1_clearLift_16 ⟨Nat.le_of_ble_eq_true rfl, Nat.le_of_ble_eq_true rfl⟩ ?_
  refine lv_aload_n hx hb dX1_clearLift_19 rfl (lv_at hl 1 rfl) ?_
  refine lv_iload hx hb dX1_clearLift_20 (lv_at hl 5 rfl) ?_
  refine xr_V (q := (RX1, TX1, 5)) (ci := 5) (q0 := 0) (rest := [.float (fX1_y ys ia)]) (As := [.int id]) ⟨hx, hb, hml, hown, hts⟩ (ct1_y l D f1 q1 q2 q3 kI xs ys pm on cl un ze id oid bx by_) (cwV 1 hts gl_X1_31 rfl rfl rfl (by decide +kernel) ⟨Nat.le_of_ble_eq_true rfl, Nat.le_of_ble_eq_true rfl⟩) nN_mv hN hK hP [0, 1, 2, 3] [0] rfl rfl rfl rfl rfl hl.1 rfl (Nat.le_of_ble_eq_true rfl) dX1_clearLift_22 ⟨Nat.le_of_ble_eq_true rfl, Nat.le_of_ble_eq_true rfl⟩ ?_
  refine lv_fsub hx hb dX1_clearLift_25 (mg_n (K := 142) (mg_sub (K := 140) (mg_y by_) (mg_y by_) (by decide)) (by decide)) ?_
  refine lv_topf (fun z2 ez2 => ?_)
  refine lv_fstore (lv' := [(6, .float z2), (5, .float z1), (0, .ref f1), (1, .int ia), (2, .int ib), (3, .int ic), (4, .int id)]) hx hb dX1_clearLift_26 hl (by decide) rfl (fun ls hl => ?_)
  refine lv_aload_n hx hb dX1_clearLift_28 rfl (lv_at hl 2 rfl) ?_
  refine lv_iload_n hx hb dX1_clearLift_29 rfl (lv_at hl 4 rfl) ?_
  refine xr_V (q := (RX1, TX1, 5)) (ci := 5) (q0 := 0) (rest := []) (As := [.int ib]) ⟨hx, hb, hml, hown, hts⟩ (ct1_x l D f1 q1 q2 q3 kI xs ys pm on cl un ze ib oib bx by_) (cwV 1 hts gl_X1_27 rfl rfl rfl (by decide +kernel) ⟨Nat.le_of_ble_eq_true rfl, Nat.le_of_ble_eq_true rfl⟩) nN_mv hN hK hP [0, 1, 2, 3] [0] rfl rfl rfl rfl rfl hl.1 rfl (Nat.le_of_ble_eq_true rfl) dX1_clearLift_30 ⟨Nat.le_of_ble_eq_true rfl, Nat.le_of_ble_eq_true rfl⟩ ?_
  refine lv_aload_n hx hb dX1_clearLift_33 rfl (lv_at hl 2 rfl) ?_
  refine lv_iload hx hb dX1_clearLift_34 (lv_at hl 6 rfl) ?_
  refine xr_V (q := (RX1, TX1, 5)) (ci := 5) (q0 := 0) (rest := [.float (fX1_x xs ib)]) (As := [.int id]) ⟨hx, hb, hml, hown, hts⟩ (ct1_x l D f1 q1 q2 q3 kI xs ys pm on cl un ze id oid bx by_) (cwV 1 hts gl_X1_27 rfl rfl rfl (by decide +kernel) ⟨Nat.le_of_ble_eq_true rfl, Nat.le_of_ble_eq_true rfl⟩) nN_mv hN hK hP [0, 1, 2, 3] [0] rfl rfl rfl rfl rfl hl.1 rfl (Nat.le_of_ble_eq_true rfl) dX1_clearLift_36 ⟨Nat.le_of_ble_eq_true rfl, Nat.le_of_ble_eq_true rfl⟩ ?_
  refine lv_fsub hx hb dX1_clearLift_39 (mg_n (K := 142) (mg_sub (K := 140) (mg_x bx) (mg_x bx) (by decide)) (by decide)) ?_
  refine lv_topf (fun z3 ez3 => ?_)
  refine lv_fstore (lv' := [(7, .float z3), (6, .float z2), (5, .float z1), (0, .ref f1), (1, .int ia), (2, .int ib), (3, .int ic), (4, .int id)]) hx hb dX1_clearLift_40 hl (by decide) rfl (fun ls hl => ?_)
  refine lv_aload_n hx hb dX1_clearLift_42 rfl (lv_at hl 3 rfl) ?_
  refine lv_iload_n hx hb dX1_clearLift_43 rfl (lv_at hl 5 rfl) ?_
  refine xr_V (q := (RX1, TX1, 5)) (ci := 5) (q0 := 0) (rest := []) (As := [.int ib]) ⟨hx, hb, hml, hown, hts⟩ (ct1_y l D f1 q1 q2 q3 kI xs ys pm on cl un ze ib oib bx by_) (cwV 1 hts gl_X1_31 rfl rfl rfl (by decide +kernel) ⟨Nat.le_of_ble_eq_true rfl, Nat.le_of_ble_eq_true rfl⟩) nN_mv hN hK hP [0, 1, 2, 3] [0] rfl rfl rfl rfl rfl hl.1 rfl (Nat.le_of_ble_eq_true rfl) dX1_clearLift_44 ⟨Nat.le_of_ble_eq_true rfl, Nat.le_of_ble_eq_true rfl⟩ ?_
  refine lv_aload_n hx hb dX1_clearLift_47 rfl (lv_at hl 3 rfl) ?_
  refine lv_iload hx hb dX1_clearLift_48 (lv_at hl 7 rfl) ?_
  refine xr_V (q := (RX1, TX1, 5)) (ci := 5) (q0 := 0) (rest := [.float (fX1_y ys ib)]) (As := [.int id]) ⟨hx, hb, hml, hown, hts⟩ (ct1_y l D f1 q1 q2 q3 kI xs ys pm on cl un ze id oid bx by_) (cwV 1 hts gl_X1_31 rfl rfl rfl (by decide +kernel) ⟨Nat.le_of_ble_eq_true rfl, Nat.le_of_ble_eq_true rfl⟩) nN_mv hN hK hP [0, 1, 2, 3] [0] rfl rfl rfl rfl rfl hl.1 rfl (Nat.le_of_ble_eq_true rfl) dX1_clearLift_50 ⟨Nat.le_of_ble_eq_true rfl, Nat.le_of_ble_eq_true rfl⟩ ?_
  refine lv_fsub hx hb dX1_clearLift_53 (mg_n (K := 142) (mg_sub (K := 140) (mg_y by_) (mg_y by_) (by decide)) (by decide)) ?_
  refine lv_topf (fun z4 ez4 => ?_)
  refine lv_fstore (lv' := [(8, .float z4), (7, .float z3), (6, .float z2), (5, .float z1), (0, .ref f1), (1, .int ia), (2, .int ib), (3, .int ic), (4, .int id)]) hx hb dX1_clearLift_54 hl (by decide) rfl (fun ls hl => ?_)
  refine lv_aload_n hx hb dX1_clearLift_56 rfl (lv_at hl 4 rfl) ?_
  refine lv_iload_n hx hb dX1_clearLift_57 rfl (lv_at hl 7 rfl) ?_
  refine xr_V (q := (RX1, TX1, 5)) (ci := 5) (q0 := 0) (rest := []) (As := [.int ic]) ⟨hx, hb, hml, hown, hts⟩ (ct1_x l D f1 q1 q2 q3 kI xs ys pm on cl un ze ic oic bx by_) (cwV 1 hts gl_X1_27 rfl rfl rfl (by decide +kernel) ⟨Nat.le_of_ble_eq_true rfl, Nat.le_of_ble_eq_true rfl⟩) nN_mv hN hK hP [0, 1, 2, 3] [0] rfl rfl rfl rfl rfl hl.1 rfl (Nat.le_of_ble_eq_true rfl) dX1_clearLift_58 ⟨Nat.le_of_ble_eq_true rfl, Nat.le_of_ble_eq_true rfl⟩ ?_
  refine lv_aload_n hx hb dX1_clearLift_61 rfl (lv_at hl 4 rfl) ?_
  refine lv_iload hx hb dX1_clearLift_62 (lv_at hl 8 rfl) ?_
  refine xr_V (q := (RX1, TX1, 5)) (ci := 5) (q0 := 0) (rest := [.float (fX1_x xs ic)]) (As := [.int id]) ⟨hx, hb, hml, hown, hts⟩ (ct1_x l D f1 q1 q2 q3 kI xs ys pm on cl un ze id oid bx by_) (cwV 1 hts gl_X1_27 rfl rfl rfl (by decide +kernel) ⟨Nat.le_of_ble_eq_true rfl, Nat.le_of_ble_eq_true rfl⟩) nN_mv hN hK hP [0, 1, 2, 3] [0] rfl rfl rfl rfl rfl hl.1 rfl (Nat.le_of_ble_eq_true rfl) dX1_clearLift_64 ⟨Nat.le_of_ble_eq_true rfl, Nat.le_of_ble_eq_true rfl⟩ ?_
  refine lv_fsub hx hb dX1_clearLift_67 (mg_n (K := 142) (mg_sub (K := 140) (mg_x bx) (mg_x bx) (by decide)) (by decide)) ?_
  refine lv_topf (fun z5 ez5 => ?_)
  refine lv_fstore (lv' := [(9, .float z5), (8, .float z4), (7, .float z3), (6, .float z2), (5, .float z1), (0, .ref f1), (1, .int ia), (2, .int ib), (3, .int ic), (4, .int id)]) hx hb dX1_clearLift_68 hl (by decide) rfl (fun ls hl => ?_)
  refine lv_aload_n hx hb dX1_clearLift_70 rfl (lv_at hl 5 rfl) ?_
  refine lv_iload_n hx hb dX1_clearLift_71 rfl (lv_at hl 8 rfl) ?_
  refine xr_V (q := (RX1, TX1, 5)) (ci := 5) (q0 := 0) (rest := []) (As := [.int ic]) ⟨hx, hb, hml, hown, hts⟩ (ct1_y l D f1 q1 q2 q3 kI xs ys pm on cl un ze ic oic bx by_) (cwV 1 hts gl_X1_31 rfl rfl rfl (by decide +kernel) ⟨Nat.le_of_ble_eq_true rfl, Nat.le_of_ble_eq_true rfl⟩) nN_mv hN hK hP [0, 1, 2, 3] [0] rfl rfl rfl rfl rfl hl.1 rfl (Nat.le_of_ble_eq_true rfl) dX1_clearLift_72 ⟨Nat.le_of_ble_eq_true rfl, Nat.le_of_ble_eq_true rfl⟩ ?_
  refine lv_aload_n hx hb dX1_clearLift_75 rfl (lv_at hl 5 rfl) ?_
  refine lv_iload hx hb dX1_clearLift_76 (lv_at hl 9 rfl) ?_
  refine xr_V (q := (RX1, TX1, 5)) (ci := 5) (q0 := 0) (rest := [.float (fX1_y ys ic)]) (As := [.int id]) ⟨hx, hb, hml, hown, hts⟩ (ct1_y l D f1 q1 q2 q3 kI xs ys pm on cl un ze id oid bx by_) (cwV 1 hts gl_X1_31 rfl rfl rfl (by decide +kernel) ⟨Nat.le_of_ble_eq_true rfl, Nat.le_of_ble_eq_true rfl⟩) nN_mv hN hK hP [0, 1, 2, 3] [0] rfl rfl rfl rfl rfl hl.1 rfl (Nat.le_of_ble_eq_true rfl) dX1_clearLift_78 ⟨Nat.le_of_ble_eq_true rfl, Nat.le_of_ble_eq_true rfl⟩ ?_
  refine lv_fsub hx hb dX1_clearLift_81 (mg_n (K := 142) (mg_sub (K := 140) (mg_y by_) (mg_y by_) (by decide)) (by decide)) ?_
  refine lv_topf (fun z6 ez6 => ?_)
  refine lv_fstore (lv' := [(10, .float z6), (9, .float z5), (8, .float z4), (7, .float z3), (6, .float z2), (5, .float z1), (0, .ref f1), (1, .int ia), (2, .int ib), (3, .int ic), (4, .int id)]) hx hb dX1_clearLift_82 hl (by decide) rfl (fun ls hl => ?_)
  refine lv_fload hx hb dX1_clearLift_84 (lv_at hl 5 rfl) ?_
  refine lv_fload hx hb dX1_clearLift_86 (lv_at hl 5 rfl) ?_
  refine lv_fmul hx hb dX1_clearLift_88 (mg_n (K := 158) (mg_mul (K := 142) (L := 142) (by rw [ez1]; exact (mg_sub (K := 140) (mg_x bx) (mg_x bx) (by decide))) (by rw [ez1]; exact (mg_sub (K := 140) (mg_x bx) (mg_x bx) (by decide))) (by decide) (by decide)) (by decide)) ?_
  refine lv_fload hx hb dX1_clearLift_89 (lv_at hl 4 rfl) ?_
  refine lv_fload hx hb dX1_clearLift_91 (lv_at hl 4 rfl) ?_
  refine lv_fmul hx hb dX1_clearLift_93 (mg_n (K := 158) (mg_mul (K := 142) (L := 142) (by rw [ez2]; exact (mg_sub (K := 140) (mg_y by_) (mg_y by_) (by decide))) (by rw [ez2]; exact (mg_sub (K := 140) (mg_y by_) (mg_y by_) (by decide))) (by decide) (by decide)) (by decide)) ?_
  refine lv_fadd hx hb dX1_clearLift_94 (mg_n (K := 160) (mg_add (K := 158) (mg_mul (K := 142) (L := 142) (by rw [ez1]; exact (mg_sub (K := 140) (mg_x bx) (mg_x bx) (by decide))) (by rw [ez1]; exact (mg_sub (K := 140) (mg_x bx) (mg_x bx) (by decide))) (by decide) (by decide)) (mg_mul (K := 142) (L := 142) (by rw [ez2]; exact (mg_sub (K := 140) (mg_y by_) (mg_y by_) (by decide))) (by rw [ez2]; exact (mg_sub (K := 140) (mg_y by_) (mg_y by_) (by decide))) (by decide) (by decide)) (by decide)) (by decide)) ?_
  refine lv_topf (fun z7 ez7 => ?_)
  refine lv_fstore (lv' := [(11, .float z7), (10, .float z6), (9, .float z5), (8, .float z4), (7, .float z3), (6, .float z2), (5, .float z1), (0, .ref f1), (1, .int ia), (2, .int ib), (3, .int ic), (4, .int id)]) hx hb dX1_clearLift_95 hl (by decide) rfl (fun ls hl => ?_)
  refine lv_fload hx hb dX1_clearLift_97 (lv_at hl 4 rfl) ?_
  refine lv_fload hx hb dX1_clearLift_99 (lv_at hl 4 rfl) ?_
  refine lv_fmul hx hb dX1_clearLift_101 (mg_n (K := 158) (mg_mul (K := 142) (L := 142) (by rw [ez3]; exact (mg_sub (K := 140) (mg_x bx) (mg_x bx) (by decide))) (by rw [ez3]; exact (mg_sub (K := 140) (mg_x bx) (mg_x bx) (by decide))) (by decide) (by decide)) (by decide)) ?_
  refine lv_fload hx hb dX1_clearLift_102 (lv_at hl 3 rfl) ?_
  refine lv_fload hx hb dX1_clearLift_104 (lv_at hl 3 rfl) ?_
  refine lv_fmul hx hb dX1_clearLift_106 (mg_n (K := 158) (mg_mul (K := 142) (L := 142) (by rw [ez4]; exact (mg_sub (K := 140) (mg_y by_) (mg_y by_) (by decide))) (by rw [ez4]; exact (mg_sub (K := 140) (mg_y by_) (mg_y by_) (by decide))) (by decide) (by decide)) (by decide)) ?_
  refine lv_fadd hx hb dX1_clearLift_107 (mg_n (K := 160) (mg_add (K := 158) (mg_mul (K := 142) (L := 142) (by rw [ez3]; exact (mg_sub (K := 140) (mg_x bx) (mg_x bx) (by decide))) (by rw [ez3]; exact (mg_sub (K := 140) (mg_x bx) (mg_x bx) (by decide))) (by decide) (by decide)) (mg_mul (K := 142) (L := 142) (by rw [ez4]; exact (mg_sub (K := 140) (mg_y by_) (mg_y by_) (by decide))) (by rw [ez4]; exact (mg_sub (K := 140) (mg_y by_) (mg_y by_) (by decide))) (by decide) (by decide)) (by decide)) (by decide)) ?_
  refine lv_topf (fun z8 ez8 => ?_)
  refine lv_fstore (lv' := [(12, .float z8), (11, .float z7), (10, .float z6), (9, .float z5), (8, .float z4), (7, .float z3), (6, .float z2), (5, .float z1), (0, .ref f1), (1, .int ia), (2, .int ib), (3, .int ic), (4, .int id)]) hx hb dX1_clearLift_108 hl (by decide) rfl (fun ls hl => ?_)
  refine lv_fload hx hb dX1_clearLift_110 (lv_at hl 3 rfl) ?_
  refine lv_fload hx hb dX1_clearLift_112 (lv_at hl 3 rfl) ?_
  refine lv_fmul hx hb dX1_clearLift_114 (mg_n (K := 158) (mg_mul (K := 142) (L := 142) (by rw [ez5]; exact (mg_sub (K := 140) (mg_x bx) (mg_x bx) (by decide))) (by rw [ez5]; exact (mg_sub (K := 140) (mg_x bx) (mg_x bx) (by decide))) (by decide) (by decide)) (by decide)) ?_
  refine lv_fload hx hb dX1_clearLift_115 (lv_at hl 2 rfl) ?_
  refine lv_fload hx hb dX1_clearLift_117 (lv_at hl 2 rfl) ?_
  refine lv_fmul hx hb dX1_clearLift_119 (mg_n (K := 158) (mg_mul (K := 142) (L := 142) (by rw [ez6]; exact (mg_sub (K := 140) (mg_y by_) (mg_y by_) (by decide))) (by rw [ez6]; exact (mg_sub (K := 140) (mg_y by_) (mg_y by_) (by decide))) (by decide) (by decide)) (by decide)) ?_
  refine lv_fadd hx hb dX1_clearLift_120 (mg_n (K := 160) (mg_add (K := 158) (mg_mul (K := 142) (L := 142) (by rw [ez5]; exact (mg_sub (K := 140) (mg_x bx) (mg_x bx) (by decide))) (by rw [ez5]; exact (mg_sub (K := 140) (mg_x bx) (mg_x bx) (by decide))) (by decide) (by decide)) (mg_mul (K := 142) (L := 142) (by rw [ez6]; exact (mg_sub (K := 140) (mg_y by_) (mg_y by_) (by decide))) (by rw [ez6]; exact (mg_sub (K := 140) (mg_y by_) (mg_y by_) (by decide))) (by decide) (by decide)) (by decide)) (by decide)) ?_
  refine lv_topf (fun z9 ez9 => ?_)
  refine lv_fstore (lv' := [(13, .float z9), (12, .float z8), (11, .float z7), (10, .float z6), (9, .float z5), (8, .float z4), (7, .float z3), (6, .float z2), (5, .float z1), (0, .ref f1), (1, .int ia), (2, .int ib), (3, .int ic), (4, .int id)]) hx hb dX1_clearLift_121 hl (by decide) rfl (fun ls hl => ?_)
  refine lv_fload hx hb dX1_clearLift_123 (lv_at hl 2 rfl) ?_
  refine lv_fload hx hb dX1_clearLift_125 (lv_at hl 6 rfl) ?_
  refine lv_fload hx hb dX1_clearLift_127 (lv_at hl 3 rfl) ?_
  refine lv_fmul hx hb dX1_clearLift_129 (mg_n (K := 158) (mg_mul (K := 142) (L := 142) (by rw [ez3]; exact (mg_sub (K := 140) (mg_x bx) (mg_x bx) (by decide))) (by rw [ez6]; exact (mg_sub (K := 140) (mg_y by_) (mg_y by_) (by decide))) (by decide) (by decide)) (by decide)) ?_
  refine lv_fload hx hb dX1_clearLift_130 (lv_at hl 5 rfl) ?_
  refine lv_fload hx hb dX1_clearLift_132 (lv_at hl 4 rfl) ?_
  refine lv_fmul hx hb dX1_clearLift_134 (mg_n (K := 158) (mg_mul (K := 142) (L := 142) (by rw [ez4]; exact (mg_sub (K := 140) (mg_y by_) (mg_y by_) (by decide))) (by rw [ez5]; exact (mg_sub (K := 140) (mg_x bx) (mg_x bx) (by decide))) (by decide) (by decide)) (by decide)) ?_
  refine lv_fsub hx hb dX1_clearLift_135 (mg_n (K := 160) (mg_sub (K := 158) (mg_mul (K := 142) (L := 142) (by rw [ez3]; exact (mg_sub (K := 140) (mg_x bx) (mg_x bx) (by decide))) (by rw [ez6]; exact (mg_sub (K := 140) (mg_y by_) (mg_y by_) (by decide))) (by decide) (by decide)) (mg_mul (K := 142) (L := 142) (by rw [ez4]; exact (mg_sub (K := 140) (mg_y by_) (mg_y by_) (by decide))) (by rw [ez5]; exact (mg_sub (K := 140) (mg_x bx) (mg_x bx) (by decide))) (by decide) (by decide)) (by decide)) (by decide)) ?_
  refine lv_fmul hx hb dX1_clearLift_136 (mg_n (K := 194) (mg_mul (K := 160) (L := 160) (by rw [ez7]; exact (mg_add (K := 158) (mg_mul (K := 142) (L := 142) (by rw [ez1]; exact (mg_sub (K := 140) (mg_x bx) (mg_x bx) (by decide))) (by rw [ez1]; exact (mg_sub (K := 140) (mg_x bx) (mg_x bx) (by decide))) (by decide) (by decide)) (mg_mul (K := 142) (L := 142) (by rw [ez2]; exact (mg_sub (K := 140) (mg_y by_) (mg_y by_) (by decide))) (by rw [ez2]; exact (mg_sub (K := 140) (mg_y by_) (mg_y by_) (by decide))) (by decide) (by decide)) (by decide))) (mg_sub (K := 158) (mg_mul (K := 142) (L := 142) (by rw [ez3]; exact (mg_sub (K := 140) (mg_x bx) (mg_x bx) (by decide))) (by rw [ez6]; exact (mg_sub (K := 140) (mg_y by_) (mg_y by_) (by decide))) (by decide) (by decide)) (mg_mul (K := 142) (L := 142) (by rw [ez4]; exact (mg_sub (K := 140) (mg_y by_) (mg_y by_) (by decide))) (by rw [ez5]; exact (mg_sub (K := 140) (mg_x bx) (mg_x bx) (by decide))) (by decide) (by decide)) (by decide)) (by decide) (by decide)) (by decide)) ?_
  refine lv_fload hx hb dX1_clearLift_137 (lv_at hl 1 rfl) ?_
  refine lv_fload hx hb dX1_clearLift_139 (lv_at hl 4 rfl) ?_
  refine lv_fload hx hb dX1_clearLift_141 (lv_at hl 7 rfl) ?_
  refine lv_fmul hx hb dX1_clearLift_143 (mg_n (K := 158) (mg_mul (K := 142) (L := 142) (by rw [ez5]; exact (mg_sub (K := 140) (mg_x bx) (mg_x bx) (by decide))) (by rw [ez2]; exact (mg_sub (K := 140) (mg_y by_) (mg_y by_) (by decide))) (by decide) (by decide)) (by decide)) ?_
  refine lv_fload hx hb dX1_clearLift_144 (lv_at hl 3 rfl) ?_
  refine lv_fload hx hb dX1_clearLift_146 (lv_at hl 8 rfl) ?_
  refine lv_fmul hx hb dX1_clearLift_148 (mg_n (K := 158) (mg_mul (K := 142) (L := 142) (by rw [ez6]; exact (mg_sub (K := 140) (mg_y by_) (mg_y by_) (by decide))) (by rw [ez1]; exact (mg_sub (K := 140) (mg_x bx) (mg_x bx) (by decide))) (by decide) (by decide)) (by decide)) ?_
  refine lv_fsub hx hb dX1_clearLift_149 (mg_n (K := 160) (mg_sub (K := 158) (mg_mul (K := 142) (L := 142) (by rw [ez5]; exact (mg_sub (K := 140) (mg_x bx) (mg_x bx) (by decide))) (by rw [ez2]; exact (mg_sub (K := 140) (mg_y by_) (mg_y by_) (by decide))) (by decide) (by decide)) (mg_mul (K := 142) (L := 142) (by rw [ez6]; exact (mg_sub (K := 140) (mg_y by_) (mg_y by_) (by decide))) (by rw [ez1]; exact (mg_sub (K := 140) (mg_x bx) (mg_x bx) (by decide))) (by decide) (by decide)) (by decide)) (by decide)) ?_
  refine lv_fmul hx hb dX1_clearLift_150 (mg_n (K := 194) (mg_mul (K := 160) (L := 160) (by rw [ez8]; exact (mg_add (K := 158) (mg_mul (K := 142) (L := 142) (by rw [ez3]; exact (mg_sub (K := 140) (mg_x bx) (mg_x bx) (by decide))) (by rw [ez3]; exact (mg_sub (K := 140) (mg_x bx) (mg_x bx) (by decide))) (by decide) (by decide)) (mg_mul (K := 142) (L := 142) (by rw [ez4]; exact (mg_sub (K := 140) (mg_y by_) (mg_y by_) (by decide))) (by rw [ez4]; exact (mg_sub (K := 140) (mg_y by_) (mg_y by_) (by decide))) (by decide) (by decide)) (by decide))) (mg_sub (K := 158) (mg_mul (K := 142) (L := 142) (by rw [ez5]; exact (mg_sub (K := 140) (mg_x bx) (mg_x bx) (by decide))) (by rw [ez2]; exact (mg_sub (K := 140) (mg_y by_) (mg_y by_) (by decide))) (by decide) (by decide)) (mg_mul (K := 142) (L := 142) (by rw [ez6]; exact (mg_sub (K := 140) (mg_y by_) (mg_y by_) (by decide))) (by rw [ez1]; exact (mg_sub (K := 140) (mg_x bx) (mg_x bx) (by decide))) (by decide) (by decide)) (by decide)) (by decide) (by decide)) (by decide)) ?_
  refine lv_fadd hx hb dX1_clearLift_151 (mg_n (K := 196) (mg_add (K := 194) (mg_mul (K := 160) (L := 160) (by rw [ez7]; exact (mg_add (K := 158) (mg_mul (K := 142) (L := 142) (by rw [ez1]; exact (mg_sub (K := 140) (mg_x bx) (mg_x bx) (by decide))) (by rw [ez1]; exact (mg_sub (K := 140) (mg_x bx) (mg_x bx) (by decide))) (by decide) (by decide)) (mg_mul (K := 142) (L := 142) (by rw [ez2]; exact (mg_sub (K := 140) (mg_y by_) (mg_y by_) (by decide))) (by rw [ez2]; exact (mg_sub (K := 140) (mg_y by_) (mg_y by_) (by decide))) (by decide) (by decide)) (by decide))) (mg_sub (K := 158) (mg_mul (K := 142) (L := 142) (by rw [ez3]; exact (mg_sub (K := 140) (mg_x bx) (mg_x bx) (by decide))) (by rw [ez6]; exact (mg_sub (K := 140) (mg_y by_) (mg_y by_) (by decide))) (by decide) (by decide)) (mg_mul (K := 142) (L := 142) (by rw [ez4]; exact (mg_sub (K := 140) (mg_y by_) (mg_y by_) (by decide))) (by rw [ez5]; exact (mg_sub (K := 140) (mg_x bx) (mg_x bx) (by decide))) (by decide) (by decide)) (by decide)) (by decide) (by decide)) (mg_mul (K := 160) (L := 160) (by rw [ez8]; exact (mg_add (K := 158) (mg_mul (K := 142) (L := 142) (by rw [ez3]; exact (mg_sub (K := 140) (mg_x bx) (mg_x bx) (by decide))) (by rw [ez3]; exact (mg_sub (K := 140) (mg_x bx) (mg_x bx) (by decide))) (by decide) (by decide)) (mg_mul (K := 142) (L := 142) (by rw [ez4]; exact (mg_sub (K := 140) (mg_y by_) (mg_y by_) (by decide))) (by rw [ez4]; exact (mg_sub (K := 140) (mg_y by_) (mg_y by_) (by decide))) (by decide) (by decide)) (by decide))) (mg_sub (K := 158) (mg_mul (K := 142) (L := 142) (by rw [ez5]; exact (mg_sub (K := 140) (mg_x bx) (mg_x bx) (by decide))) (by rw [ez2]; exact (mg_sub (K := 140) (mg_y by_) (mg_y by_) (by decide))) (by decide) (by decide)) (mg_mul (K := 142) (L := 142) (by rw [ez6]; exact (mg_sub (K := 140) (mg_y by_) (mg_y by_) (by decide))) (by rw [ez1]; exact (mg_sub (K := 140) (mg_x bx) (mg_x bx) (by decide))) (by decide) (by decide)) (by decide)) (by decide) (by decide)) (by decide)) (by decide)) ?_
  refine lv_fload hx hb dX1_clearLift_152 (lv_at hl 0 rfl) ?_
  refine lv_fload hx hb dX1_clearLift_154 (lv_at hl 8 rfl) ?_
  refine lv_fload hx hb dX1_clearLift_156 (lv_at hl 5 rfl) ?_
  refine lv_fmul hx hb dX1_clearLift_158 (mg_n (K := 158) (mg_mul (K := 142) (L := 142) (by rw [ez1]; exact (mg_sub (K := 140) (mg_x bx) (mg_x bx) (by decide))) (by rw [ez4]; exact (mg_sub (K := 140) (mg_y by_) (mg_y by_) (by decide))) (by decide) (by decide)) (by decide)) ?_
  refine lv_fload hx hb dX1_clearLift_159 (lv_at hl 7 rfl) ?_
  refine lv_fload hx hb dX1_clearLift_161 (lv_at hl 6 rfl) ?_
  refine lv_fmul hx hb dX1_clearLift_163 (mg_n (K := 158) (mg_mul (K := 142) (L := 142) (by rw [ez2]; exact (mg_sub (K := 140) (mg_y by_) (mg_y by_) (by decide))) (by rw [ez3]; exact (mg_sub (K := 140) (mg_x bx) (mg_x bx) (by decide))) (by decide) (by decide)) (by decide)) ?_
  refine lv_fsub hx hb dX1_clearLift_164 (mg_n (K := 160) (mg_sub (K := 158) (mg_mul (K := 142) (L := 142) (by rw [ez1]; exact (mg_sub (K := 140) (mg_x bx) (mg_x bx) (by decide))) (by rw [ez4]; exact (mg_sub (K := 140) (mg_y by_) (mg_y by_) (by decide))) (by decide) (by decide)) (mg_mul (K := 142) (L := 142) (by rw [ez2]; exact (mg_sub (K := 140) (mg_y by_) (mg_y by_) (by decide))) (by rw [ez3]; exact (mg_sub (K := 140) (mg_x bx) (mg_x bx) (by decide))) (by decide) (by decide)) (by decide)) (by decide)) ?_
  refine lv_fmul hx hb dX1_clearLift_165 (mg_n (K := 194) (mg_mul (K := 160) (L := 160) (by rw [ez9]; exact (mg_add (K := 158) (mg_mul (K := 142) (L := 142) (by rw [ez5]; exact (mg_sub (K := 140) (mg_x bx) (mg_x bx) (by decide))) (by rw [ez5]; exact (mg_sub (K := 140) (mg_x bx) (mg_x bx) (by decide))) (by decide) (by decide)) (mg_mul (K := 142) (L := 142) (by rw [ez6]; exact (mg_sub (K := 140) (mg_y by_) (mg_y by_) (by decide))) (by rw [ez6]; exact (mg_sub (K := 140) (mg_y by_) (mg_y by_) (by decide))) (by decide) (by decide)) (by decide))) (mg_sub (K := 158) (mg_mul (K := 142) (L := 142) (by rw [ez1]; exact (mg_sub (K := 140) (mg_x bx) (mg_x bx) (by decide))) (by rw [ez4]; exact (mg_sub (K := 140) (mg_y by_) (mg_y by_) (by decide))) (by decide) (by decide)) (mg_mul (K := 142) (L := 142) (by rw [ez2]; exact (mg_sub (K := 140) (mg_y by_) (mg_y by_) (by decide))) (by rw [ez3]; exact (mg_sub (K := 140) (mg_x bx) (mg_x bx) (by decide))) (by decide) (by decide)) (by decide)) (by decide) (by decide)) (by decide)) ?_
  refine lv_fadd hx hb dX1_clearLift_166 (mg_n (K := 198) (mg_add (K := 196) (mg_add (K := 194) (mg_mul (K := 160) (L := 160) (by rw [ez7]; exact (mg_add (K := 158) (mg_mul (K := 142) (L := 142) (by rw [ez1]; exact (mg_sub (K := 140) (mg_x bx) (mg_x bx) (by decide))) (by rw [ez1]; exact (mg_sub (K := 140) (mg_x bx) (mg_x bx) (by decide))) (by decide) (by decide)) (mg_mul (K := 142) (L := 142) (by rw [ez2]; exact (mg_sub (K := 140) (mg_y by_) (mg_y by_) (by decide))) (by rw [ez2]; exact (mg_sub (K := 140) (mg_y by_) (mg_y by_) (by decide))) (by decide) (by decide)) (by decide))) (mg_sub (K := 158) (mg_mul (K := 142) (L := 142) (by rw [ez3]; exact (mg_sub (K := 140) (mg_x bx) (mg_x bx) (by decide))) (by rw [ez6]; exact (mg_sub (K := 140) (mg_y by_) (mg_y by_) (by decide))) (by decide) (by decide)) (mg_mul (K := 142) (L := 142) (by rw [ez4]; exact (mg_sub (K := 140) (mg_y by_) (mg_y by_) (by decide))) (by rw [ez5]; exact (mg_sub (K := 140) (mg_x bx) (mg_x bx) (by decide))) (by decide) (by decide)) (by decide)) (by decide) (by decide)) (mg_mul (K := 160) (L := 160) (by rw [ez8]; exact (mg_add (K := 158) (mg_mul (K := 142) (L := 142) (by rw [ez3]; exact (mg_sub (K := 140) (mg_x bx) (mg_x bx) (by decide))) (by rw [ez3]; exact (mg_sub (K := 140) (mg_x bx) (mg_x bx) (by decide))) (by decide) (by decide)) (mg_mul (K := 142) (L := 142) (by rw [ez4]; exact (mg_sub (K := 140) (mg_y by_) (mg_y by_) (by decide))) (by rw [ez4]; exact (mg_sub (K := 140) (mg_y by_) (mg_y by_) (by decide))) (by decide) (by decide)) (by decide))) (mg_sub (K := 158) (mg_mul (K := 142) (L := 142) (by rw [ez5]; exact (mg_sub (K := 140) (mg_x bx) (mg_x bx) (by decide))) (by rw [ez2]; exact (mg_sub (K := 140) (mg_y by_) (mg_y by_) (by decide))) (by decide) (by decide)) (mg_mul (K := 142) (L := 142) (by rw [ez6]; exact (mg_sub (K := 140) (mg_y by_) (mg_y by_) (by decide))) (by rw [ez1]; exact (mg_sub (K := 140) (mg_x bx) (mg_x bx) (by decide))) (by decide) (by decide)) (by decide)) (by decide) (by decide)) (by decide)) (mg_le (mg_mul (K := 160) (L := 160) (by rw [ez9]; exact (mg_add (K := 158) (mg_mul (K := 142) (L := 142) (by rw [ez5]; exact (mg_sub (K := 140) (mg_x bx) (mg_x bx) (by decide))) (by rw [ez5]; exact (mg_sub (K := 140) (mg_x bx) (mg_x bx) (by decide))) (by decide) (by decide)) (mg_mul (K := 142) (L := 142) (by rw [ez6]; exact (mg_sub (K := 140) (mg_y by_) (mg_y by_) (by decide))) (by rw [ez6]; exact (mg_sub (K := 140) (mg_y by_) (mg_y by_) (by decide))) (by decide) (by decide)) (by decide))) (mg_sub (K := 158) (mg_mul (K := 142) (L := 142) (by rw [ez1]; exact (mg_sub (K := 140) (mg_x bx) (mg_x bx) (by decide))) (by rw [ez4]; exact (mg_sub (K := 140) (mg_y by_) (mg_y by_) (by decide))) (by decide) (by decide)) (mg_mul (K := 142) (L := 142) (by rw [ez2]; exact (mg_sub (K := 140) (mg_y by_) (mg_y by_) (by decide))) (by rw [ez3]; exact (mg_sub (K := 140) (mg_x bx) (mg_x bx) (by decide))) (by decide) (by decide)) (by decide)) (by decide) (by decide)) (by decide)) (by decide)) (by decide)) ?_
  refine lv_topf (fun z10 ez10 => ?_)
  refine lv_fstore (lv' := [(14, .float z10), (13, .float z9), (12, .float z8), (11, .float z7), (10, .float z6), (9, .float z5), (8, .float z4), (7, .float z3), (6, .float z2), (5, .float z1), (0, .ref f1), (1, .int ia), (2, .int ib), (3, .int ic), (4, .int id)]) hx hb dX1_clearLift_167 hl (by decide) rfl (fun ls hl => ?_)
  refine lv_aload_n hx hb dX1_clearLift_169 rfl (lv_at hl 10 rfl) ?_
  refine lv_iload_n hx hb dX1_clearLift_170 rfl (lv_at hl 11 rfl) ?_
  refine lv_iload_n hx hb dX1_clearLift_171 rfl (lv_at hl 12 rfl) ?_
  refine lv_iload_n hx hb dX1_clearLift_172 rfl (lv_at hl 13 rfl) ?_
  refine xr_V (q := (RX1, TX1, 5)) (ci := 5) (q0 := 0) (rest := []) (As := [.int ia, .int ib, .int ic]) ⟨hx, hb, hml, hown, hts⟩ (ct1_reachOfThree l D f1 q1 q2 q3 kI xs ys pm on cl un ze ia ib ic oia oib oic bx by_) (cwV 3 hts gl_X1_34 rfl rfl rfl (by decide +kernel) ⟨Nat.le_of_ble_eq_true rfl, Nat.le_of_ble_eq_true rfl⟩) nN_mv hN hK hP [0, 1, 2, 3] [0] rfl rfl rfl rfl rfl hl.1 rfl (Nat.le_of_ble_eq_true rfl) dX1_clearLift_173 ⟨Nat.le_of_ble_eq_true rfl, Nat.le_of_ble_eq_true rfl⟩ ?_
  refine lv_aload_n hx hb dX1_clearLift_176 rfl (lv_at hl 10 rfl) ?_
  refine lv_iload hx hb dX1_clearLift_177 (lv_at hl 14 rfl) ?_
  refine xr_V (q := (RX1, TX1, 5)) (ci := 5) (q0 := 0) (rest := [.float (fX1_reachOfThree xs ys ia ib ic)]) (As := [.int id]) ⟨hx, hb, hml, hown, hts⟩ (ct1_reach l D f1 q1 q2 q3 kI xs ys pm on cl un ze id oid bx by_) (cwV 1 hts gl_X1_43 rfl rfl rfl (by decide +kernel) ⟨Nat.le_of_ble_eq_true rfl, Nat.le_of_ble_eq_true rfl⟩) nN_mv hN hK hP [0, 1, 2, 3] [0] rfl rfl rfl rfl rfl hl.1 rfl (Nat.le_of_ble_eq_true rfl) dX1_clearLift_179 ⟨Nat.le_of_ble_eq_true rfl, Nat.le_of_ble_eq_true rfl⟩ ?_
  refine xr_S (rest := []) (As := [.float (fX1_reachOfThree xs ys ia ib ic), .float (fX1_reach xs ys id)]) ⟨hx, hb, hml, hown, hts⟩ (ct1_larger l D  (fX1_reachOfThree xs ys ia ib ic) (fX1_reach xs ys id) ) (va_cwS 2 hts gl_X1_46 rfl rfl rfl (by decide +kernel) ⟨Nat.le_of_ble_eq_true rfl, Nat.le_of_ble_eq_true rfl⟩) nN_mv hN hK hP [] [] rfl rfl rfl hl.1 rfl (Nat.le_of_ble_eq_true rfl) dX1_clearLift_182 ⟨Nat.le_of_ble_eq_true rfl, Nat.le_of_ble_eq_true rfl⟩ ?_
  refine lv_topf (fun z11 ez11 => ?_)
  refine lv_fstore (lv' := [(15, .float z11), (14, .float z10), (13, .float z9), (12, .float z8), (11, .float z7), (10, .float z6), (9, .float z5), (8, .float z4), (7, .float z3), (6, .float z2), (5, .float z1), (0, .ref f1), (1, .int ia), (2, .int ib), (3, .int ic), (4, .int id)]) hx hb dX1_clearLift_185 hl (by decide) rfl (fun ls hl => ?_)
  refine lv_fload hx hb dX1_clearLift_187 (lv_at hl 1 rfl) ?_
  refine lv_fload hx hb dX1_clearLift_189 (lv_at hl 0 rfl) ?_
  refine lv_fload hx hb dX1_clearLift_191 (lv_at hl 0 rfl) ?_
  refine lv_fmul hx hb dX1_clearLift_193 (mg_n (K := 154) (mg_mul (K := 140) (L := 140) (by rw [ez11]; exact (mg_larger (mg_r3 bx by_) (mg_reach bx by_))) (by rw [ez11]; exact (mg_larger (mg_r3 bx by_) (mg_reach bx by_))) (by decide) (by decide)) (by decide)) ?_
  refine lv_fload hx hb dX1_clearLift_194 (lv_at hl 0 rfl) ?_
  refine lv_fload hx hb dX1_clearLift_196 (lv_at hl 0 rfl) ?_
  refine lv_fmul hx hb dX1_clearLift_198 (mg_n (K := 154) (mg_mul (K := 140) (L := 140) (by rw [ez11]; exact (mg_larger (mg_r3 bx by_) (mg_reach bx by_))) (by rw [ez11]; exact (mg_larger (mg_r3 bx by_) (mg_reach bx by_))) (by decide) (by decide)) (by decide)) ?_
  refine lv_fmul hx hb dX1_clearLift_199 (mg_n (K := 182) (mg_mul (K := 154) (L := 154) (mg_mul (K := 140) (L := 140) (by rw [ez11]; exact (mg_larger (mg_r3 bx by_) (mg_reach bx by_))) (by rw [ez11]; exact (mg_larger (mg_r3 bx by_) (mg_reach bx by_))) (by decide) (by decide)) (mg_mul (K := 140) (L := 140) (by rw [ez11]; exact (mg_larger (mg_r3 bx by_) (mg_reach bx by_))) (by rw [ez11]; exact (mg_larger (mg_r3 bx by_) (mg_reach bx by_))) (by decide) (by decide)) (by decide) (by decide)) (by decide)) ?_
  refine lv_ldcf (v := 964689920) hx hb hown (hts _ kf_X1_50) dX1_clearLift_200 ?_
  refine lv_fmul hx hb dX1_clearLift_202 (mg_n (K := 172) (mg_mul (K := 182) (L := 116) (mg_mul (K := 154) (L := 154) (mg_mul (K := 140) (L := 140) (by rw [ez11]; exact (mg_larger (mg_r3 bx by_) (mg_reach bx by_))) (by rw [ez11]; exact (mg_larger (mg_r3 bx by_) (mg_reach bx by_))) (by decide) (by decide)) (mg_mul (K := 140) (L := 140) (by rw [ez11]; exact (mg_larger (mg_r3 bx by_) (mg_reach bx by_))) (by rw [ez11]; exact (mg_larger (mg_r3 bx by_) (mg_reach bx by_))) (by decide) (by decide)) (by decide) (by decide)) mg_k12 (by decide) (by decide)) (by decide)) ?_
  refine xr_S (rest := []) (As := [.float z10, .float (FP.fmul (FP.fmul (FP.fmul z11 z11) (FP.fmul z11 z11)) (964689920 : UInt32))]) ⟨hx, hb, hml, hown, hts⟩ (ct1_clearSign l D  z10 (FP.fmul (FP.fmul (FP.fmul z11 z11) (FP.fmul z11 z11)) (964689920 : UInt32)) ) (va_cwS 2 hts gl_X1_39 rfl rfl rfl (by decide +kernel) ⟨Nat.le_of_ble_eq_true rfl, Nat.le_of_ble_eq_true rfl⟩) nN_mv hN hK hP [] [] rfl rfl rfl hl.1 rfl (Nat.le_of_ble_eq_true rfl) dX1_clearLift_203 ⟨Nat.le_of_ble_eq_true rfl, Nat.le_of_ble_eq_true rfl⟩ ?_
  subst ez11 ez10 ez9 ez8 ez7 ez6 ez5 ez4 ez3 ez2 ez1
  exact W.iret (v := fX1_clearSign (FP.fadd (FP.fadd (FP.fmul (FP.fadd (FP.fmul (FP.fsub (fX1_x xs ia) (fX1_x xs id)) (FP.fsub (fX1_x xs ia) (fX1_x xs id))) (FP.fmul (FP.fsub (fX1_y ys ia) (fX1_y ys id)) (FP.fsub (fX1_y ys ia) (fX1_y ys id)))) (FP.fsub (FP.fmul (FP.fsub (fX1_x xs ib) (fX1_x xs id)) (FP.fsub (fX1_y ys ic) (fX1_y ys id))) (FP.fmul (FP.fsub (fX1_y ys ib) (fX1_y ys id)) (FP.fsub (fX1_x xs ic) (fX1_x xs id))))) (FP.fmul (FP.fadd (FP.fmul (FP.fsub (fX1_x xs ib) (fX1_x xs id)) (FP.fsub (fX1_x xs ib) (fX1_x xs id))) (FP.fmul (FP.fsub (fX1_y ys ib) (fX1_y ys id)) (FP.fsub (fX1_y ys ib) (fX1_y ys id)))) (FP.fsub (FP.fmul (FP.fsub (fX1_x xs ic) (fX1_x xs id)) (FP.fsub (fX1_y ys ia) (fX1_y ys id))) (FP.fmul (FP.fsub (fX1_y ys ic) (fX1_y ys id)) (FP.fsub (fX1_x xs ia) (fX1_x xs id)))))) (FP.fmul (FP.fadd (FP.fmul (FP.fsub (fX1_x xs ic) (fX1_x xs id)) (FP.fsub (fX1_x xs ic) (fX1_x xs id))) (FP.fmul (FP.fsub (fX1_y ys ic) (fX1_y ys id)) (FP.fsub (fX1_y ys ic) (fX1_y ys id)))) (FP.fsub (FP.fmul (FP.fsub (fX1_x xs ia) (fX1_x xs id)) (FP.fsub (fX1_y ys ib) (fX1_y ys id))) (FP.fmul (FP.fsub (fX1_y ys ia) (fX1_y ys id)) (FP.fsub (fX1_x xs ib) (fX1_x xs id)))))) (FP.fmul (FP.fmul (FP.fmul (fX1_larger (fX1_reachOfThree xs ys ia ib ic) (fX1_reach xs ys id)) (fX1_larger (fX1_reachOfThree xs ys ia ib ic) (fX1_reach xs ys id))) (FP.fmul (fX1_larger (fX1_reachOfThree xs ys ia ib ic) (fX1_reach xs ys id)) (fX1_larger (fX1_reachOfThree xs ys ia ib ic) (fX1_reach xs ys id)))) (964689920 : UInt32))) hx hb hr (fun t ht hW => ⟨rfl, ht⟩) (fun _ h => absurd h List.not_mem_nil) dX1_clearLift_206
