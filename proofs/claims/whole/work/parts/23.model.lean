/-! The reference: what is read of it. -/
abbrev wMo (m1 m2 m3 m4 m5 m6 m7 : Nat) (kI kJ : ClassId) (xs ys held : Nat → Int32) (la lb lc : Nat → Int64) (th pm rm on cl un ze lm : Int32) : va_W := [(m1, .inr (9, [.int th, .int pm, .ref m2, .ref m3, .int rm, .ref m4, .int on, .int cl, .int un, .int ze, .int lm, .ref m5, .ref m6, .ref m7])), (m2, .inl (kI, 60, .inl xs)), (m3, .inl (kI, 60, .inl ys)), (m4, .inl (kI, 24, .inl held)), (m5, .inl (kJ, 12, .inr (.inl la))), (m6, .inl (kJ, 12, .inr (.inl lb))), (m7, .inl (kJ, 12, .inr (.inl lc)))]
theorem bz {x : Int32} (h : x = 0 ∨ x = 1) : narrow FieldType.boolean (Value.int x) = Value.int x := by
  rcases h with rfl | rfl <;> rfl
theorem xr_rg {n i : Int32} {k : Nat} (h : xr_u n i k) (hc : ¬ n ≤ i) : 0 ≤ i.toInt ∧ i.toInt < n.toInt := by
  rw [Int32.le_iff_toInt_le] at hc; exact ⟨h.1, by omega⟩
theorem rg_in {n i : Int32} (h : 0 ≤ i.toInt ∧ i.toInt < n.toInt) (hn : n.toInt ≤ (24 : Nat)) : vp_in i 24 := by
  rw [vp_in_iff]; omega
theorem rg_cl {n i : Int32} (h : 0 ≤ i.toInt ∧ i.toInt < n.toInt) : (i.toNatClampNeg : Int) < n.toInt := by
  rw [xr_cl0 h.1]; omega
theorem nx_ne {n i : Int32} (h : 0 ≤ i.toInt ∧ i.toInt < n.toInt) (hc : ¬ i + 1 = n) : (i + 1).toInt = i.toInt + 1 ∧ i.toInt + 1 < n.toInt := by
  have h1 : (i + 1).toInt = i.toInt + 1 := xr_s1 (n := n) (by rw [Int32.le_iff_toInt_le]; omega)
  refine ⟨h1, ?_⟩
  have : ¬ (i + 1).toInt = n.toInt := fun e => hc (Int32.toInt_inj.mp e)
  omega
theorem o_nx {n i : Int32} (h : 0 ≤ i.toInt ∧ i.toInt < n.toInt) (hn : n.toInt ≤ (24 : Nat)) (hc : ¬ i + 1 = n) : vp_in (i + 1) 24 := by
  have := nx_ne h hc
  rw [vp_in_iff]; omega
def fX5_signOf  (v : Int64) : Int32 := if (lg_cmp v (0 : Int64)) ≤ (0 : Int32) then (if (0 : Int32) ≤ (lg_cmp v (0 : Int64)) then ((0 : Int32)) else ((-1 : Int32))) else ((1 : Int32))
set_option maxHeartbeats 4000000 in
set_option maxRecDepth 100000 in
theorem ct5_signOf (l : Launch) (D : va_G)  (v : Int64) : Met l yX5_signOf (Cond.code yX5_signOf cX5_signOf 2 (some .int) :: BY) ({ frames := 0, cells := 0, slots := 0, locals := 0 }) (xr_P nN D vwCl [] ([] : va_W) [.long v]) (xr_Q (.int (fX5_signOf v))) 0 0 (fun _ => False) := by
  refine Met.ofW (cc := cX5_signOf) (maxL := 2) (ret := (some .int)) (by decide) rfl ?_
  intro p e s m args below meth c s₁ B hml hv
  obtain ⟨rfl, hP, hK, hN⟩ := hv
  have hx := B.exec
  have hb := B.bytes
  have hr := B.returns
  have hts0 := atoms_spec (ws := Cond.code yX5_signOf cX5_signOf 2 (some .int) :: BY) B.pre
  have hts : ∀ w ∈ BY, w.before _ s = true := fun w h => hts0 w (List.mem_cons_of_mem _ h)
  have hown : s.vm.findClass RX5 = some m.cls := findClass_of_methodNamed B.named
  have hlocks := B.notSynchronized
  have hl := lv_entry ([.long v]) (n := 2) (Nat.le_of_ble_eq_true rfl)
  rw [lg_entry_eq]
  generalize (lg_sl ([.long v]) ++ List.replicate (2 - (lg_sl ([.long v])).length) Slot.unset).toArray = ls at hl ⊢
  have hl : lv_has ls 2 [(0, .long v)] := hl
  refine lv_lload_n hx hb dX5_signOf_0 rfl (lv_at hl 0 rfl) ?_
  refine lv_lconst (v := 0) hx hb dX5_signOf_1 (by decide) ?_
  refine W.lcmp hx hb dX5_signOf_2 ?_
  refine lv_if_le (tgt := 10) hx hb dX5_signOf_3 (by decide) (fun c1 => ?_) (fun c1 => ?_)
  · refine lv_lload_n hx hb dX5_signOf_10 rfl (lv_at hl 0 rfl) ?_
    refine lv_lconst (v := 0) hx hb dX5_signOf_11 (by decide) ?_
    refine W.lcmp hx hb dX5_signOf_12 ?_
    refine lv_if_ge (tgt := 20) hx hb dX5_signOf_13 (by decide) (fun c2 => ?_) (fun c2 => ?_)
    · refine lv_iconst (v := 0) hx hb dX5_signOf_20 (by decide) ?_
      exact W.iret (v := (0 : Int32)) hx hb hr (fun t ht hW => ⟨by rw [show fX5_signOf v = (0 : Int32) by unfold fX5_signOf; rw [if_pos c1, if_pos c2]], ht⟩) (fun _ h => absurd h List.not_mem_nil) dX5_signOf_21
    · refine lv_iconst (v := (-1)) hx hb dX5_signOf_16 (by decide) ?_
      refine lv_goto (tgt := 21) hx hb dX5_signOf_17 (by decide) ?_
      exact W.iret (v := (-1 : Int32)) hx hb hr (fun t ht hW => ⟨by rw [show fX5_signOf v = (-1 : Int32) by unfold fX5_signOf; rw [if_pos c1, if_neg c2]], ht⟩) (fun _ h => absurd h List.not_mem_nil) dX5_signOf_21
  · refine lv_iconst (v := 1) hx hb dX5_signOf_6 (by decide) ?_
    refine lv_goto (tgt := 21) hx hb dX5_signOf_7 (by decide) ?_
    exact W.iret (v := (1 : Int32)) hx hb hr (fun t ht hW => ⟨by rw [show fX5_signOf v = (1 : Int32) by unfold fX5_signOf; rw [if_neg c1]], ht⟩) (fun _ h => absurd h List.not_mem_nil) dX5_signOf_21
def fX5_isPoint (pm : Int32) (ia : Int32) : Int32 := if ia < (0 : Int32) then ((0 : Int32)) else (if pm ≤ ia then ((0 : Int32)) else ((1 : Int32)))
set_option maxHeartbeats 4000000 in
set_option maxRecDepth 100000 in
theorem ct5_isPoint (l : Launch) (D : va_G) (m1 m2 m3 m4 m5 m6 m7 : Nat) (kI kJ : ClassId) (xs ys held : Nat → Int32) (la lb lc : Nat → Int64) (th pm rm on cl un ze lm : Int32) (ia : Int32) : Met l yX5_isPoint (Cond.code yX5_isPoint cX5_isPoint 2 (some .boolean) :: BY) ({ frames := 0, cells := 0, slots := 0, locals := 0 }) (xr_P nN D vwCl [(kI, .int), (kJ, .long)] (wMo m1 m2 m3 m4 m5 m6 m7 kI kJ xs ys held la lb lc th pm rm on cl un ze lm) [.ref m1, .int ia]) (xr_Q (.int (fX5_isPoint pm ia))) 0 0 (fun _ => False) := by
  refine Met.ofW (cc := cX5_isPoint) (maxL := 2) (ret := (some .boolean)) (by decide) rfl ?_
  intro p e s m args below meth c s₁ B hml hv
  obtain ⟨rfl, hP, hK, hN⟩ := hv
  have hx := B.exec
  have hb := B.bytes
  have hr := B.returns
  have hts0 := atoms_spec (ws := Cond.code yX5_isPoint cX5_isPoint 2 (some .boolean) :: BY) B.pre
  have hts : ∀ w ∈ BY, w.before _ s = true := fun w h => hts0 w (List.mem_cons_of_mem _ h)
  have hown : s.vm.findClass RX5 = some m.cls := findClass_of_methodNamed B.named
  have hlocks := B.notSynchronized
  have hl := lv_entry ([.ref m1, .int ia]) (n := 2) (Nat.le_of_ble_eq_true rfl)
  rw [lg_entry_eq]
  generalize (lg_sl ([.ref m1, .int ia]) ++ List.replicate (2 - (lg_sl ([.ref m1, .int ia])).length) Slot.unset).toArray = ls at hl ⊢
  have hl : lv_has ls 2 [(0, .ref m1), (1, .int ia)] := hl
  refine lv_iload_n hx hb dX5_isPoint_0 rfl (lv_at hl 1 rfl) ?_
  refine lv_if_lt (tgt := 16) hx hb dX5_isPoint_1 (by decide) (fun c1 => ?_) (fun c1 => ?_)
  · refine lv_iconst (v := 0) hx hb dX5_isPoint_16 (by decide) ?_
    exact W.zret (v := (0 : Int32)) hx hb hr rfl (fun t ht hW => ⟨by rw [show fX5_isPoint pm ia = (0 : Int32) by unfold fX5_isPoint; rw [if_pos c1]], ht⟩) (fun _ h => absurd h List.not_mem_nil) dX5_isPoint_17
  · refine lv_iload_n hx hb dX5_isPoint_4 rfl (lv_at hl 1 rfl) ?_
    refine lv_aload_n hx hb dX5_isPoint_5 rfl (lv_at hl 0 rfl) ?_
    refine va_get (D := D) (ci := 9) (v := .int pm) (C := RX5) (T := TX5) (N := 14) hx hb hts hinX5 hown hK hP 0 rfl rfl 1 (by decide) (hts _ fk_X5_51) (fun _ h9 => h9) rfl dX5_isPoint_6 ?_
    refine lv_icmp_ge (tgt := 16) hx hb dX5_isPoint_9 (by decide) (fun c2 => ?_) (fun c2 => ?_)
    · refine lv_iconst (v := 0) hx hb dX5_isPoint_16 (by decide) ?_
      exact W.zret (v := (0 : Int32)) hx hb hr rfl (fun t ht hW => ⟨by rw [show fX5_isPoint pm ia = (0 : Int32) by unfold fX5_isPoint; rw [if_neg c1, if_pos c2]], ht⟩) (fun _ h => absurd h List.not_mem_nil) dX5_isPoint_17
    · refine lv_iconst (v := 1) hx hb dX5_isPoint_12 (by decide) ?_
      refine lv_goto (tgt := 17) hx hb dX5_isPoint_13 (by decide) ?_
      exact W.zret (v := (1 : Int32)) hx hb hr rfl (fun t ht hW => ⟨by rw [show fX5_isPoint pm ia = (1 : Int32) by unfold fX5_isPoint; rw [if_neg c1, if_neg c2]], ht⟩) (fun _ h => absurd h List.not_mem_nil) dX5_isPoint_17
def fX5_isPlace (rm : Int32) (ia : Int32) : Int32 := if ia < (0 : Int32) then ((0 : Int32)) else (if rm ≤ ia then ((0 : Int32)) else ((1 : Int32)))
set_option maxHeartbeats 4000000 in
set_option maxRecDepth 100000 in
theorem ct5_isPlace (l : Launch) (D : va_G) (m1 m2 m3 m4 m5 m6 m7 : Nat) (kI kJ : ClassId) (xs ys held : Nat → Int32) (la lb lc : Nat → Int64) (th pm rm on cl un ze lm : Int32) (ia : Int32) : Met l yX5_isPlace (Cond.code yX5_isPlace cX5_isPlace 2 (some .boolean) :: BY) ({ frames := 0, cells := 0, slots := 0, locals := 0 }) (xr_P nN D vwCl [(kI, .int), (kJ, .long)] (wMo m1 m2 m3 m4 m5 m6 m7 kI kJ xs ys held la lb lc th pm rm on cl un ze lm) [.ref m1, .int ia]) (xr_Q (.int (fX5_isPlace rm ia))) 0 0 (fun _ => False) := by
  refine Met.ofW (cc := cX5_isPlace) (maxL := 2) (ret := (some .boolean)) (by decide) rfl ?_
  intro p e s m args below meth c s₁ B hml hv
  obtain ⟨rfl, hP, hK, hN⟩ := hv
  have hx := B.exec
  have hb := B.bytes
  have hr := B.returns
  have hts0 := atoms_spec (ws := Cond.code yX5_isPlace cX5_isPlace 2 (some .boolean) :: BY) B.pre
  have hts : ∀ w ∈ BY, w.before _ s = true := fun w h => hts0 w (List.mem_cons_of_mem _ h)
  have hown : s.vm.findClass RX5 = some m.cls := findClass_of_methodNamed B.named
  have hlocks := B.notSynchronized
  have hl := lv_entry ([.ref m1, .int ia]) (n := 2) (Nat.le_of_ble_eq_true rfl)
  rw [lg_entry_eq]
  generalize (lg_sl ([.ref m1, .int ia]) ++ List.replicate (2 - (lg_sl ([.ref m1, .int ia])).length) Slot.unset).toArray = ls at hl ⊢
  have hl : lv_has ls 2 [(0, .ref m1), (1, .int ia)] := hl
  refine lv_iload_n hx hb dX5_isPlace_0 rfl (lv_at hl 1 rfl) ?_
  refine lv_if_lt (tgt := 16) hx hb dX5_isPlace_1 (by decide) (fun c1 => ?_) (fun c1 => ?_)
  · refine lv_iconst (v := 0) hx hb dX5_isPlace_16 (by decide) ?_
    exact W.zret (v := (0 : Int32)) hx hb hr rfl (fun t ht hW => ⟨by rw [show fX5_isPlace rm ia = (0 : Int32) by unfold fX5_isPlace; rw [if_pos c1]], ht⟩) (fun _ h => absurd h List.not_mem_nil) dX5_isPlace_17
  · refine lv_iload_n hx hb dX5_isPlace_4 rfl (lv_at hl 1 rfl) ?_
    refine lv_aload_n hx hb dX5_isPlace_5 rfl (lv_at hl 0 rfl) ?_
    refine va_get (D := D) (ci := 9) (v := .int rm) (C := RX5) (T := TX5) (N := 14) hx hb hts hinX5 hown hK hP 0 rfl rfl 4 (by decide) (hts _ fk_X5_66) (fun _ h9 => h9) rfl dX5_isPlace_6 ?_
    refine lv_icmp_ge (tgt := 16) hx hb dX5_isPlace_9 (by decide) (fun c2 => ?_) (fun c2 => ?_)
    · refine lv_iconst (v := 0) hx hb dX5_isPlace_16 (by decide) ?_
      exact W.zret (v := (0 : Int32)) hx hb hr rfl (fun t ht hW => ⟨by rw [show fX5_isPlace rm ia = (0 : Int32) by unfold fX5_isPlace; rw [if_neg c1, if_pos c2]], ht⟩) (fun _ h => absurd h List.not_mem_nil) dX5_isPlace_17
    · refine lv_iconst (v := 1) hx hb dX5_isPlace_12 (by decide) ?_
      refine lv_goto (tgt := 17) hx hb dX5_isPlace_13 (by decide) ?_
      exact W.zret (v := (1 : Int32)) hx hb hr rfl (fun t ht hW => ⟨by rw [show fX5_isPlace rm ia = (1 : Int32) by unfold fX5_isPlace; rw [if_neg c1, if_neg c2]], ht⟩) (fun _ h => absurd h List.not_mem_nil) dX5_isPlace_17
def fX5_areEqual (xs ys : Nat → Int32) (ia : Int32) (ib : Int32) : Int32 := if (xs ia.toNatClampNeg) = (xs ib.toNatClampNeg) then (if (ys ia.toNatClampNeg) = (ys ib.toNatClampNeg) then ((1 : Int32)) else ((0 : Int32))) else ((0 : Int32))
set_option maxHeartbeats 4000000 in
set_option maxRecDepth 100000 in
theorem ct5_areEqual (l : Launch) (D : va_G) (m1 m2 m3 m4 m5 m6 m7 : Nat) (kI kJ : ClassId) (xs ys held : Nat → Int32) (la lb lc : Nat → Int64) (th pm rm on cl un ze lm : Int32) (ia : Int32) (ib : Int32) (oia : vp_in ia 60) (oib : vp_in ib 60) : Met l yX5_areEqual (Cond.code yX5_areEqual cX5_areEqual 3 (some .boolean) :: BY) ({ frames := 0, cells := 0, slots := 0, locals := 0 }) (xr_P nN D vwCl [(kI, .int), (kJ, .long)] (wMo m1 m2 m3 m4 m5 m6 m7 kI kJ xs ys held la lb lc th pm rm on cl un ze lm) [.ref m1, .int ia, .int ib]) (xr_Q (.int (fX5_areEqual xs ys ia ib))) 0 0 (fun _ => False) := by
  refine Met.ofW (cc := cX5_areEqual) (maxL := 3) (ret := (some .boolean)) (by decide) rfl ?_
  intro p e s m args below meth c s₁ B hml hv
  obtain ⟨rfl, hP, hK, hN⟩ := hv
  have hx := B.exec
  have hb := B.bytes
  have hr := B.returns
  have hts0 := atoms_spec (ws := Cond.code yX5_areEqual cX5_areEqual 3 (some .boolean) :: BY) B.pre
  have hts : ∀ w ∈ BY, w.before _ s = true := fun w h => hts0 w (List.mem_cons_of_mem _ h)
  have hown : s.vm.findClass RX5 = some m.cls := findClass_of_methodNamed B.named
  have hlocks := B.notSynchronized
  have hl := lv_entry ([.ref m1, .int ia, .int ib]) (n := 3) (Nat.le_of_ble_eq_true rfl)
  rw [lg_entry_eq]
  generalize (lg_sl ([.ref m1, .int ia, .int ib]) ++ List.replicate (3 - (lg_sl ([.ref m1, .int ia, .int ib])).length) Slot.unset).toArray = ls at hl ⊢
  have hl : lv_has ls 3 [(0, .ref m1), (1, .int ia), (2, .int ib)] := hl
  refine lv_aload_n hx hb dX5_areEqual_0 rfl (lv_at hl 0 rfl) ?_
  refine va_get (D := D) (ci := 9) (v := .ref m2) (C := RX5) (T := TX5) (N := 14) hx hb hts hinX5 hown hK hP 0 rfl rfl 2 (by decide) (hts _ fk_X5_13) (fun _ h9 => h9) rfl dX5_areEqual_1 ?_
  refine lv_iload_n hx hb dX5_areEqual_4 rfl (lv_at hl 1 rfl) ?_
  refine va_iald hx hb hK hP 1 0 rfl rfl oia dX5_areEqual_5 ?_
  refine lv_aload_n hx hb dX5_areEqual_6 rfl (lv_at hl 0 rfl) ?_
  refine va_get (D := D) (ci := 9) (v := .ref m2) (C := RX5) (T := TX5) (N := 14) hx hb hts hinX5 hown hK hP 0 rfl rfl 2 (by decide) (hts _ fk_X5_13) (fun _ h9 => h9) rfl dX5_areEqual_7 ?_
  refine lv_iload_n hx hb dX5_areEqual_10 rfl (lv_at hl 2 rfl) ?_
  refine va_iald hx hb hK hP 1 0 rfl rfl oib dX5_areEqual_11 ?_
  refine lv_icmp_ne (tgt := 34) hx hb dX5_areEqual_12 (by decide) (fun c1 => ?_) (fun c1 => ?_)
  · refine lv_iconst (v := 0) hx hb dX5_areEqual_34 (by decide) ?_
    exact W.zret (v := (0 : Int32)) hx hb hr rfl (fun t ht hW => ⟨by rw [show fX5_areEqual xs ys ia ib = (0 : Int32) by unfold fX5_areEqual; rw [if_neg c1]], ht⟩) (fun _ h => absurd h List.not_mem_nil) dX5_areEqual_35
  · refine lv_aload_n hx hb dX5_areEqual_15 rfl (lv_at hl 0 rfl) ?_
    refine va_get (D := D) (ci := 9) (v := .ref m3) (C := RX5) (T := TX5) (N := 14) hx hb hts hinX5 hown hK hP 0 rfl rfl 3 (by decide) (hts _ fk_X5_17) (fun _ h9 => h9) rfl dX5_areEqual_16 ?_
    refine lv_iload_n hx hb dX5_areEqual_19 rfl (lv_at hl 1 rfl) ?_
    refine va_iald hx hb hK hP 2 0 rfl rfl oia dX5_areEqual_20 ?_
    refine lv_aload_n hx hb dX5_areEqual_21 rfl (lv_at hl 0 rfl) ?_
    refine va_get (D := D) (ci := 9) (v := .ref m3) (C := RX5) (T := TX5) (N := 14) hx hb hts hinX5 hown hK hP 0 rfl rfl 3 (by decide) (hts _ fk_X5_17) (fun _ h9 => h9) rfl dX5_areEqual_22 ?_
    refine lv_iload_n hx hb dX5_areEqual_25 rfl (lv_at hl 2 rfl) ?_
    refine va_iald hx hb hK hP 2 0 rfl rfl oib dX5_areEqual_26 ?_
    refine lv_icmp_ne (tgt := 34) hx hb dX5_areEqual_27 (by decide) (fun c2 => ?_) (fun c2 => ?_)
    · refine lv_iconst (v := 0) hx hb dX5_areEqual_34 (by decide) ?_
      exact W.zret (v := (0 : Int32)) hx hb hr rfl (fun t ht hW => ⟨by rw [show fX5_areEqual xs ys ia ib = (0 : Int32) by unfold fX5_areEqual; rw [if_pos c1, if_neg c2]], ht⟩) (fun _ h => absurd h List.not_mem_nil) dX5_areEqual_35
    · refine lv_iconst (v := 1) hx hb dX5_areEqual_30 (by decide) ?_
      refine lv_goto (tgt := 35) hx hb dX5_areEqual_31 (by decide) ?_
      exact W.zret (v := (1 : Int32)) hx hb hr rfl (fun t ht hW => ⟨by rw [show fX5_areEqual xs ys ia ib = (1 : Int32) by unfold fX5_areEqual; rw [if_pos c1, if_pos c2]], ht⟩) (fun _ h => absurd h List.not_mem_nil) dX5_areEqual_35
def fX5_turn (xs ys : Nat → Int32) (ia : Int32) (ib : Int32) (ic : Int32) : Int32 := fX5_signOf (((((xs ib.toNatClampNeg) - (xs ia.toNatClampNeg)).toInt64) * (((ys ic.toNatClampNeg) - (ys ia.toNatClampNeg)).toInt64)) - ((((ys ib.toNatClampNeg) - (ys ia.toNatClampNeg)).toInt64) * (((xs ic.toNatClampNeg) - (xs ia.toNatClampNeg)).toInt64)))
set_option maxHeartbeats 4000000 in
set_option maxRecDepth 100000 in
theorem ct5_turn (l : Launch) (D : va_G) (m1 m2 m3 m4 m5 m6 m7 : Nat) (kI kJ : ClassId) (xs ys held : Nat → Int32) (la lb lc : Nat → Int64) (th pm rm on cl un ze lm : Int32) (ia : Int32) (ib : Int32) (ic : Int32) (oia : vp_in ia 60) (oib : vp_in ib 60) (oic : vp_in ic 60) : Met l yX5_turn (Cond.code yX5_turn cX5_turn 4 (some .int) :: BY) ({ frames := 1, cells := 0, slots := 0, locals := 60 }) (xr_P nN D vwCl [(kI, .int), (kJ, .long)] (wMo m1 m2 m3 m4 m5 m6 m7 kI kJ xs ys held la lb lc th pm rm on cl un ze lm) [.ref m1, .int ia, .int ib, .int ic]) (xr_Q (.int (fX5_turn xs ys ia ib ic))) 0 0 (fun _ => False) := by
  refine Met.ofW (cc := cX5_turn) (maxL := 4) (ret := (some .int)) (by decide) rfl ?_
  intro p e s m args below meth c s₁ B hml hv
  obtain ⟨rfl, hP, hK, hN⟩ := hv
  have hx := B.exec
  have hb := B.bytes
  have hr := B.returns
  have hts0 := atoms_spec (ws := Cond.code yX5_turn cX5_turn 4 (some .int) :: BY) B.pre
  have hts : ∀ w ∈ BY, w.before _ s = true := fun w h => hts0 w (List.mem_cons_of_mem _ h)
  have hown : s.vm.findClass RX5 = some m.cls := findClass_of_methodNamed B.named
  have hlocks := B.notSynchronized
  have hl := lv_entry ([.ref m1, .int ia, .int ib, .int ic]) (n := 4) (Nat.le_of_ble_eq_true rfl)
  rw [lg_entry_eq]
  generalize (lg_sl ([.ref m1, .int ia, .int ib, .int ic]) ++ List.replicate (4 - (lg_sl ([.ref m1, .int ia, .int ib, .int ic])).length) Slot.unset).toArray = ls at hl ⊢
  have hl : lv_has ls 4 [(0, .ref m1), (1, .int ia), (2, .int ib), (3, .int ic)] := hl
  refine lv_aload_n hx hb dX5_turn_0 rfl (lv_at hl 0 rfl) ?_
  refine va_get (D := D) (ci := 9) (v := .ref m2) (C := RX5) (T := TX5) (N := 14) hx hb hts hinX5 hown hK hP 0 rfl rfl 2 (by decide) (hts _ fk_X5_13) (fun _ h9 => h9) rfl dX5_turn_1 ?_
  refine lv_iload_n hx hb dX5_turn_4 rfl (lv_at hl 2 rfl) ?_
  refine va_iald hx hb hK hP 1 0 rfl rfl oib dX5_turn_5 ?_
  refine lv_aload_n hx hb dX5_turn_6 rfl (lv_at hl 0 rfl) ?_
  refine va_get (D := D) (ci := 9) (v := .ref m2) (C := RX5) (T := TX5) (N := 14) hx hb hts hinX5 hown hK hP 0 rfl rfl 2 (by decide) (hts _ fk_X5_13) (fun _ h9 => h9) rfl dX5_turn_7 ?_
  refine lv_iload_n hx hb dX5_turn_10 rfl (lv_at hl 1 rfl) ?_
  refine va_iald hx hb hK hP 1 0 rfl rfl oia dX5_turn_11 ?_
  refine lv_isub hx hb dX5_turn_12 ?_
  refine lv_i2l hx hb dX5_turn_13 rfl ?_
  refine lv_aload_n hx hb dX5_turn_14 rfl (lv_at hl 0 rfl) ?_
  refine va_get (D := D) (ci := 9) (v := .ref m3) (C := RX5) (T := TX5) (N := 14) hx hb hts hinX5 hown hK hP 0 rfl rfl 3 (by decide) (hts _ fk_X5_17) (fun _ h9 => h9) rfl dX5_turn_15 ?_
  refine lv_iload_n hx hb dX5_turn_18 rfl (lv_at hl 3 rfl) ?_
  refine va_iald hx hb hK hP 2 0 rfl rfl oic dX5_turn_19 ?_
  refine lv_aload_n hx hb dX5_turn_20 rfl (lv_at hl 0 rfl) ?_
  refine va_get (D := D) (ci := 9) (v := .ref m3) (C := RX5) (T := TX5) (N := 14) hx hb hts hinX5 hown hK hP 0 rfl rfl 3 (by decide) (hts _ fk_X5_17) (fun _ h9 => h9) rfl dX5_turn_21 ?_
  refine lv_iload_n hx hb dX5_turn_24 rfl (lv_at hl 1 rfl) ?_
  refine va_iald hx hb hK hP 2 0 rfl rfl oia dX5_turn_25 ?_
  refine lv_isub hx hb dX5_turn_26 ?_
  refine lv_i2l hx hb dX5_turn_27 rfl ?_
  refine lv_lmul hx hb dX5_turn_28 ?_
  refine lv_aload_n hx hb dX5_turn_29 rfl (lv_at hl 0 rfl) ?_
  refine va_get (D := D) (ci := 9) (v := .ref m3) (C := RX5) (T := TX5) (N := 14) hx hb hts hinX5 hown hK hP 0 rfl rfl 3 (by decide) (hts _ fk_X5_17) (fun _ h9 => h9) rfl dX5_turn_30 ?_
  refine lv_iload_n hx hb dX5_turn_33 rfl (lv_at hl 2 rfl) ?_
  refine va_iald hx hb hK hP 2 0 rfl rfl oib dX5_turn_34 ?_
  refine lv_aload_n hx hb dX5_turn_35 rfl (lv_at hl 0 rfl) ?_
  refine va_get (D := D) (ci := 9) (v := .ref m3) (C := RX5) (T := TX5) (N := 14) hx hb hts hinX5 hown hK hP 0 rfl rfl 3 (by decide) (hts _ fk_X5_17) (fun _ h9 => h9) rfl dX5_turn_36 ?_
  refine lv_iload_n hx hb dX5_turn_39 rfl (lv_at hl 1 rfl) ?_
  refine va_iald hx hb hK hP 2 0 rfl rfl oia dX5_turn_40 ?_
  refine lv_isub hx hb dX5_turn_41 ?_
  refine lv_i2l hx hb dX5_turn_42 rfl ?_
  refine lv_aload_n hx hb dX5_turn_43 rfl (lv_at hl 0 rfl) ?_
  refine va_get (D := D) (ci := 9) (v := .ref m2) (C := RX5) (T := TX5) (N := 14) hx hb hts hinX5 hown hK hP 0 rfl rfl 2 (by decide) (hts _ fk_X5_13) (fun _ h9 => h9) rfl dX5_turn_44 ?_
  refine lv_iload_n hx hb dX5_turn_47 rfl (lv_at hl 3 rfl) ?_
  refine va_iald hx hb hK hP 1 0 rfl rfl oic dX5_turn_48 ?_
  refine lv_aload_n hx hb dX5_turn_49 rfl (lv_at hl 0 rfl) ?_
  refine va_get (D := D) (ci := 9) (v := .ref m2) (C := RX5) (T := TX5) (N := 14) hx hb hts hinX5 hown hK hP 0 rfl rfl 2 (by decide) (hts _ fk_X5_13) (fun _ h9 => h9) rfl dX5_turn_50 ?_
  refine lv_iload_n hx hb dX5_turn_53 rfl (lv_at hl 1 rfl) ?_
  refine va_iald hx hb hK hP 1 0 rfl rfl oia dX5_turn_54 ?_
  refine lv_isub hx hb dX5_turn_55 ?_
  refine lv_i2l hx hb dX5_turn_56 rfl ?_
  refine lv_lmul hx hb dX5_turn_57 ?_
  refine lv_lsub hx hb dX5_turn_58 ?_
  refine xr_S (rest := []) (As := [.long (((((xs ib.toNatClampNeg) - (xs ia.toNatClampNeg)).toInt64) * (((ys ic.toNatClampNeg) - (ys ia.toNatClampNeg)).toInt64)) - ((((ys ib.toNatClampNeg) - (ys ia.toNatClampNeg)).toInt64) * (((xs ic.toNatClampNeg) - (xs ia.toNatClampNeg)).toInt64)))]) ⟨hx, hb, hml, hown, hts⟩ (ct5_signOf l D  (((((xs ib.toNatClampNeg) - (xs ia.toNatClampNeg)).toInt64) * (((ys ic.toNatClampNeg) - (ys ia.toNatClampNeg)).toInt64)) - ((((ys ib.toNatClampNeg) - (ys ia.toNatClampNeg)).toInt64) * (((xs ic.toNatClampNeg) - (xs ia.toNatClampNeg)).toInt64))) ) (va_cwS 1 hts gl_X5_54 rfl rfl rfl (by decide +kernel) ⟨Nat.le_of_ble_eq_true rfl, Nat.le_of_ble_eq_true rfl⟩) nN_mv hN hK hP [] [] rfl rfl rfl hl.1 rfl (Nat.le_of_ble_eq_true rfl) dX5_turn_59 ⟨Nat.le_of_ble_eq_true rfl, Nat.le_of_ble_eq_true rfl⟩ ?_
  exact W.iret (v := fX5_signOf (((((xs ib.toNatClampNeg) - (xs ia.toNatClampNeg)).toInt64) * (((ys ic.toNatClampNeg) - (ys ia.toNatClampNeg)).toInt64)) - ((((ys ib.toNatClampNeg) - (ys ia.toNatClampNeg)).toInt64) * (((xs ic.toNatClampNeg) - (xs ia.toNatClampNeg)).toInt64)))) hx hb hr (fun t ht hW => ⟨rfl, ht⟩) (fun _ h => absurd h List.not_mem_nil) dX5_turn_62
def fX5_along (xs ys : Nat → Int32) (ia : Int32) (ib : Int32) (ic : Int32) : Int64 := ((((xs ib.toNatClampNeg) - (xs ia.toNatClampNeg)).toInt64) * (((xs ic.toNatClampNeg) - (xs ia.toNatClampNeg)).toInt64)) + ((((ys ib.toNatClampNeg) - (ys ia.toNatClampNeg)).toInt64) * (((ys ic.toNatClampNeg) - (ys ia.toNatClampNeg)).toInt64))
set_option maxHeartbeats 4000000 in
set_option maxRecDepth 100000 in
theorem ct5_along (l : Launch) (D : va_G) (m1 m2 m3 m4 m5 m6 m7 : Nat) (kI kJ : ClassId) (xs ys held : Nat → Int32) (la lb lc : Nat → Int64) (th pm rm on cl un ze lm : Int32) (ia : Int32) (ib : Int32) (ic : Int32) (oia : vp_in ia 60) (oib : vp_in ib 60) (oic : vp_in ic 60) : Met l yX5_along (Cond.code yX5_along cX5_along 4 (some .long) :: BY) ({ frames := 0, cells := 0, slots := 0, locals := 0 }) (xr_P nN D vwCl [(kI, .int), (kJ, .long)] (wMo m1 m2 m3 m4 m5 m6 m7 kI kJ xs ys held la lb lc th pm rm on cl un ze lm) [.ref m1, .int ia, .int ib, .int ic]) (xr_Q (.long (fX5_along xs ys ia ib ic))) 0 0 (fun _ => False) := by
  refine Met.ofW (cc := cX5_along) (maxL := 4) (ret := (some .long)) (by decide) rfl ?_
  intro p e s m args below meth c s₁ B hml hv
  obtain ⟨rfl, hP, hK, hN⟩ := hv
  have hx := B.exec
  have hb := B.bytes
  have hr := B.returns
  have hts0 := atoms_spec (ws := Cond.code yX5_along cX5_along 4 (some .long) :: BY) B.pre
  have hts : ∀ w ∈ BY, w.before _ s = true := fun w h => hts0 w (List.mem_cons_of_mem _ h)
  have hown : s.vm.findClass RX5 = some m.cls := findClass_of_methodNamed B.named
  have hlocks := B.notSynchronized
  have hl := lv_entry ([.ref m1, .int ia, .int ib, .int ic]) (n := 4) (Nat.le_of_ble_eq_true rfl)
  rw [lg_entry_eq]
  generalize (lg_sl ([.ref m1, .int ia, .int ib, .int ic]) ++ List.replicate (4 - (lg_sl ([.ref m1, .int ia, .int ib, .int ic])).length) Slot.unset).toArray = ls at hl ⊢
  have hl : lv_has ls 4 [(0, .ref m1), (1, .int ia), (2, .int ib), (3, .int ic)] := hl
  refine lv_aload_n hx hb dX5_along_0 rfl (lv_at hl 0 rfl) ?_
  refine va_get (D := D) (ci := 9) (v := .ref m2) (C := RX5) (T := TX5) (N := 14) hx hb hts hinX5 hown hK hP 0 rfl rfl 2 (by decide) (hts _ fk_X5_13) (fun _ h9 => h9) rfl dX5_along_1 ?_
  refine lv_iload_n hx hb dX5_along_4 rfl (lv_at hl 2 rfl) ?_
  refine va_iald hx hb hK hP 1 0 rfl rfl oib dX5_along_5 ?_
  refine lv_aload_n hx hb dX5_along_6 rfl (lv_at hl 0 rfl) ?_
  refine va_get (D := D) (ci := 9) (v := .ref m2) (C := RX5) (T := TX5) (N := 14) hx hb hts hinX5 hown hK hP 0 rfl rfl 2 (by decide) (hts _ fk_X5_13) (fun _ h9 => h9) rfl dX5_along_7 ?_
  refine lv_iload_n hx hb dX5_along_10 rfl (lv_at hl 1 rfl) ?_
  refine va_iald hx hb hK hP 1 0 rfl rfl oia dX5_along_11 ?_
  refine lv_isub hx hb dX5_along_12 ?_
  refine lv_i2l hx hb dX5_along_13 rfl ?_
  refine lv_aload_n hx hb dX5_along_14 rfl (lv_at hl 0 rfl) ?_
  refine va_get (D := D) (ci := 9) (v := .ref m2) (C := RX5) (T := TX5) (N := 14) hx hb hts hinX5 hown hK hP 0 rfl rfl 2 (by decide) (hts _ fk_X5_13) (fun _ h9 => h9) rfl dX5_along_15 ?_
  refine lv_iload_n hx hb dX5_along_18 rfl (lv_at hl 3 rfl) ?_
  refine va_iald hx hb hK hP 1 0 rfl rfl oic dX5_along_19 ?_
  refine lv_aload_n hx hb dX5_along_20 rfl (lv_at hl 0 rfl) ?_
  refine va_get (D := D) (ci := 9) (v := .ref m2) (C := RX5) (T := TX5) (N := 14) hx hb hts hinX5 hown hK hP 0 rfl rfl 2 (by decide) (hts _ fk_X5_13) (fun _ h9 => h9) rfl dX5_along_21 ?_
  refine lv_iload_n hx hb dX5_along_24 rfl (lv_at hl 1 rfl) ?_
  refine va_iald hx hb hK hP 1 0 rfl rfl oia dX5_along_25 ?_
  refine lv_isub hx hb dX5_along_26 ?_
  refine lv_i2l hx hb dX5_along_27 rfl ?_
  refine lv_lmul hx hb dX5_along_28 ?_
  refine lv_aload_n hx hb dX5_along_29 rfl (lv_at hl 0 rfl) ?_
  refine va_get (D := D) (ci := 9) (v := .ref m3) (C := RX5) (T := TX5) (N := 14) hx hb hts hinX5 hown hK hP 0 rfl rfl 3 (by decide) (hts _ fk_X5_17) (fun _ h9 => h9) rfl dX5_along_30 ?_
  refine lv_iload_n hx hb dX5_along_33 rfl (lv_at hl 2 rfl) ?_
  refine va_iald hx hb hK hP 2 0 rfl rfl oib dX5_along_34 ?_
  refine lv_aload_n hx hb dX5_along_35 rfl (lv_at hl 0 rfl) ?_
  refine va_get (D := D) (ci := 9) (v := .ref m3) (C := RX5) (T := TX5) (N := 14) hx hb hts hinX5 hown hK hP 0 rfl rfl 3 (by decide) (hts _ fk_X5_17) (fun _ h9 => h9) rfl dX5_along_36 ?_
  refine lv_iload_n hx hb dX5_along_39 rfl (lv_at hl 1 rfl) ?_
  refine va_iald hx hb hK hP 2 0 rfl rfl oia dX5_along_40 ?_
  refine lv_isub hx hb dX5_along_41 ?_
  refine lv_i2l hx hb dX5_along_42 rfl ?_
  refine lv_aload_n hx hb dX5_along_43 rfl (lv_at hl 0 rfl) ?_
  refine va_get (D := D) (ci := 9) (v := .ref m3) (C := RX5) (T := TX5) (N := 14) hx hb hts hinX5 hown hK hP 0 rfl rfl 3 (by decide) (hts _ fk_X5_17) (fun _ h9 => h9) rfl dX5_along_44 ?_
  refine lv_iload_n hx hb dX5_along_47 rfl (lv_at hl 3 rfl) ?_
  refine va_iald hx hb hK hP 2 0 rfl rfl oic dX5_along_48 ?_
  refine lv_aload_n hx hb dX5_along_49 rfl (lv_at hl 0 rfl) ?_
  refine va_get (D := D) (ci := 9) (v := .ref m3) (C := RX5) (T := TX5) (N := 14) hx hb hts hinX5 hown hK hP 0 rfl rfl 3 (by decide) (hts _ fk_X5_17) (fun _ h9 => h9) rfl dX5_along_50 ?_
  refine lv_iload_n hx hb dX5_along_53 rfl (lv_at hl 1 rfl) ?_
  refine va_iald hx hb hK hP 2 0 rfl rfl oia dX5_along_54 ?_
  refine lv_isub hx hb dX5_along_55 ?_
  refine lv_i2l hx hb dX5_along_56 rfl ?_
  refine lv_lmul hx hb dX5_along_57 ?_
  refine lv_ladd hx hb dX5_along_58 ?_
  exact W.lret (v := ((((xs ib.toNatClampNeg) - (xs ia.toNatClampNeg)).toInt64) * (((xs ic.toNatClampNeg) - (xs ia.toNatClampNeg)).toInt64)) + ((((ys ib.toNatClampNeg) - (ys ia.toNatClampNeg)).toInt64) * (((ys ic.toNatClampNeg) - (ys ia.toNatClampNeg)).toInt64))) hx hb hr (fun t ht hW => ⟨rfl, ht⟩) (fun _ h => absurd h List.not_mem_nil) dX5_along_59
def fX5_ring (xs ys : Nat → Int32) (ia : Int32) (ib : Int32) (ic : Int32) (id : Int32) : Int32 := (fX5_turn xs ys ia ib ic) * (fX5_signOf ((((((((xs ia.toNatClampNeg) - (xs id.toNatClampNeg)).toInt64) * (((xs ia.toNatClampNeg) - (xs id.toNatClampNeg)).toInt64)) + ((((ys ia.toNatClampNeg) - (ys id.toNatClampNeg)).toInt64) * (((ys ia.toNatClampNeg) - (ys id.toNatClampNeg)).toInt64))) * (((((xs ib.toNatClampNeg) - (xs id.toNatClampNeg)).toInt64) * (((ys ic.toNatClampNeg) - (ys id.toNatClampNeg)).toInt64)) - ((((ys ib.toNatClampNeg) - (ys id.toNatClampNeg)).toInt64) * (((xs ic.toNatClampNeg) - (xs id.toNatClampNeg)).toInt64)))) + ((((((xs ib.toNatClampNeg) - (xs id.toNatClampNeg)).toInt64) * (((xs ib.toNatClampNeg) - (xs id.toNatClampNeg)).toInt64)) + ((((ys ib.toNatClampNeg) - (ys id.toNatClampNeg)).toInt64) * (((ys ib.toNatClampNeg) - (ys id.toNatClampNeg)).toInt64))) * (((((xs ic.toNatClampNeg) - (xs id.toNatClampNeg)).toInt64) * (((ys ia.toNatClampNeg) - (ys id.toNatClampNeg)).toInt64)) - ((((ys ic.toNatClampNeg) - (ys id.toNatClampNeg)).toInt64) * (((xs ia.toNatClampNeg) - (xs id.toNatClampNeg)).toInt64))))) + ((((((xs ic.toNatClampNeg) - (xs id.toNatClampNeg)).toInt64) * (((xs ic.toNatClampNeg) - (xs id.toNatClampNeg)).toInt64)) + ((((ys ic.toNatClampNeg) - (ys id.toNatClampNeg)).toInt64) * (((ys ic.toNatClampNeg) - (ys id.toNatClampNeg)).toInt64))) * (((((xs ia.toNatClampNeg) - (xs id.toNatClampNeg)).toInt64) * (((ys ib.toNatClampNeg) - (ys id.toNatClampNeg)).toInt64)) - ((((ys ia.toNatClampNeg) - (ys id.toNatClampNeg)).toInt64) * (((xs ib.toNatClampNeg) - (xs id.toNatClampNeg)).toInt64))))))
set_option maxHeartbeats 4000000 in
set_option maxRecDepth 100000 in
theorem ct5_ring (l : Launch) (D : va_G) (m1 m2 m3 m4 m5 m6 m7 : Nat) (kI kJ : ClassId) (xs ys held : Nat → Int32) (la lb lc : Nat → Int64) (th pm rm on cl un ze lm : Int32) (ia : Int32) (ib : Int32) (ic : Int32) (id : Int32) (oia : vp_in ia 60) (oib : vp_in ib 60) (oic : vp_in ic 60) (oid : vp_in id 60) : Met l yX5_ring (Cond.code yX5_ring cX5_ring 23 (some .int) :: BY) ({ frames := 2, cells := 0, slots := 0, locals := 120 }) (xr_P nN D vwCl [(kI, .int), (kJ, .long)] (wMo m1 m2 m3 m4 m5 m6 m7 kI kJ xs ys held la lb lc th pm rm on cl un ze lm) [.ref m1, .int ia, .int ib, .int ic, .int id]) (xr_Q (.int (fX5_ring xs ys ia ib ic id))) 0 0 (fun _ => False) := by
  refine Met.ofW (cc := cX5_ring) (maxL := 23) (ret := (some .int)) (by decide) rfl ?_
  intro p e s m args below meth c s₁ B hml hv
  obtain ⟨rfl, hP, hK, hN⟩ := hv
  have hx := B.exec
  have hb := B.bytes
  have hr := B.returns
  have hts0 := atoms_spec (ws := Cond.code yX5_ring cX5_ring 23 (some .int) :: BY) B.pre
  have hts : ∀ w ∈ BY, w.before _ s = true := fun w h => hts0 w (List.mem_cons_of_mem _ h)
  have hown : s.vm.findClass RX5 = some m.cls := findClass_of_methodNamed B.named
  have hlocks := B.notSynchronized
  have hl := lv_entry ([.ref m1, .int ia, .int ib, .int ic, .int id]) (n := 23) (Nat.le_of_ble_eq_true rfl)
  rw [lg_entry_eq]
  generalize (lg_sl ([.ref m1, .int ia, .int ib, .int ic, .int id]) ++ List.replicate (23 - (lg_sl ([.ref m1, .int ia, .int ib, .int ic, .int id])).length) Slot.unset).toArray = ls at hl ⊢
  have hl : lv_has ls 23 [(0, .ref m1), (1, .int ia), (2, .int ib), (3, .int ic), (4, .int id)] := hl
  refine lv_aload_n hx hb dX5_ring_0 rfl (lv_at hl 0 rfl) ?_
  refine va_get (D := D) (ci := 9) (v := .ref m2) (C := RX5) (T := TX5) (N := 14) hx hb hts hinX5 hown hK hP 0 rfl rfl 2 (by decide) (hts _ fk_X5_13) (fun _ h9 => h9) rfl dX5_ring_1 ?_
  refine lv_iload_n hx hb dX5_ring_4 rfl (lv_at hl 1 rfl) ?_
  refine va_iald hx hb hK hP 1 0 rfl rfl oia dX5_ring_5 ?_
  refine lv_aload_n hx hb dX5_ring_6 rfl (lv_at hl 0 rfl) ?_
  refine va_get (D := D) (ci := 9) (v := .ref m2) (C := RX5) (T := TX5) (N := 14) hx hb hts hinX5 hown hK hP 0 rfl rfl 2 (by decide) (hts _ fk_X5_13) (fun _ h9 => h9) rfl dX5_ring_7 ?_
  refine lv_iload hx hb dX5_ring_10 (lv_at hl 4 rfl) ?_
  refine va_iald hx hb hK hP 1 0 rfl rfl oid dX5_ring_12 ?_
  refine lv_isub hx hb dX5_ring_13 ?_
  refine lv_i2l hx hb dX5_ring_14 rfl ?_
  refine lv_topl (fun z1 ez1 => ?_)
  refine lv_lstore (lv' := [(5, .long z1), (0, .ref m1), (1, .int ia), (2, .int ib), (3, .int ic), (4, .int id)]) hx hb dX5_ring_15 hl (by decide) rfl (fun ls hl => ?_)
  refine lv_aload_n hx hb dX5_ring_17 rfl (lv_at hl 1 rfl) ?_
  refine va_get (D := D) (ci := 9) (v := .ref m3) (C := RX5) (T := TX5) (N := 14) hx hb hts hinX5 hown hK hP 0 rfl rfl 3 (by decide) (hts _ fk_X5_17) (fun _ h9 => h9) rfl dX5_ring_18 ?_
  refine lv_iload_n hx hb dX5_ring_21 rfl (lv_at hl 2 rfl) ?_
  refine va_iald hx hb hK hP 2 0 rfl rfl oia dX5_ring_22 ?_
  refine lv_aload_n hx hb dX5_ring_23 rfl (lv_at hl 1 rfl) ?_
  refine va_get (D := D) (ci := 9) (v := .ref m3) (C := RX5) (T := TX5) (N := 14) hx hb hts hinX5 hown hK hP 0 rfl rfl 3 (by decide) (hts _ fk_X5_17) (fun _ h9 => h9) rfl dX5_ring_24 ?_
  refine lv_iload hx hb dX5_ring_27 (lv_at hl 5 rfl) ?_
  refine va_iald hx hb hK hP 2 0 rfl rfl oid dX5_ring_29 ?_
  refine lv_isub hx hb dX5_ring_30 ?_
  refine lv_i2l hx hb dX5_ring_31 rfl ?_
  refine lv_topl (fun z2 ez2 => ?_)
  refine lv_lstore (lv' := [(7, .long z2), (5, .long z1), (0, .ref m1), (1, .int ia), (2, .int ib), (3, .int ic), (4, .int id)]) hx hb dX5_ring_32 hl (by decide) rfl (fun ls hl => ?_)
  refine lv_aload_n hx hb dX5_ring_34 rfl (lv_at hl 2 rfl) ?_
  refine va_get (D := D) (ci := 9) (v := .ref m2) (C := RX5) (T := TX5) (N := 14) hx hb hts hinX5 hown hK hP 0 rfl rfl 2 (by decide) (hts _ fk_X5_13) (fun _ h9 => h9) rfl dX5_ring_35 ?_
  refine lv_iload_n hx hb dX5_ring_38 rfl (lv_at hl 4 rfl) ?_
  refine va_iald hx hb hK hP 1 0 rfl rfl oib dX5_ring_39 ?_
  refine lv_aload_n hx hb dX5_ring_40 rfl (lv_at hl 2 rfl) ?_
  refine va_get (D := D) (ci := 9) (v := .ref m2) (C := RX5) (T := TX5) (N := 14) hx hb hts hinX5 hown hK hP 0 rfl rfl 2 (by decide) (hts _ fk_X5_13) (fun _ h9 => h9) rfl dX5_ring_41 ?_
  refine lv_iload hx hb dX5_ring_44 (lv_at hl 6 rfl) ?_
  refine va_iald hx hb hK hP 1 0 rfl rfl oid dX5_ring_46 ?_
  refine lv_isub hx hb dX5_ring_47 ?_
  refine lv_i2l hx hb dX5_ring_48 rfl ?_
  refine lv_topl (fun z3 ez3 => ?_)
  refine lv_lstore (lv' := [(9, .long z3), (7, .long z2), (5, .long z1), (0, .ref m1), (1, .int ia), (2, .int ib), (3, .int ic), (4, .int id)]) hx hb dX5_ring_49 hl (by decide) rfl (fun ls hl => ?_)
  refine lv_aload_n hx hb dX5_ring_51 rfl (lv_at hl 3 rfl) ?_
  refine va_get (D := D) (ci := 9) (v := .ref m3) (C := RX5) (T := TX5) (N := 14) hx hb hts hinX5 hown hK hP 0 rfl rfl 3 (by decide) (hts _ fk_X5_17) (fun _ h9 => h9) rfl dX5_ring_52 ?_
  refine lv_iload_n hx hb dX5_ring_55 rfl (lv_at hl 5 rfl) ?_
  refine va_iald hx hb hK hP 2 0 rfl rfl oib dX5_ring_56 ?_
  refine lv_aload_n hx hb dX5_ring_57 rfl (lv_at hl 3 rfl) ?_
  refine va_get (D := D) (ci := 9) (v := .ref m3) (C := RX5) (T := TX5) (N := 14) hx hb hts hinX5 hown hK hP 0 rfl rfl 3 (by decide) (hts _ fk_X5_17) (fun _ h9 => h9) rfl dX5_ring_58 ?_
  refine lv_iload hx hb dX5_ring_61 (lv_at hl 7 rfl) ?_
  refine va_iald hx hb hK hP 2 0 rfl rfl oid dX5_ring_63 ?_
  refine lv_isub hx hb dX5_ring_64 ?_
  refine lv_i2l hx hb dX5_ring_65 rfl ?_
  refine lv_topl (fun z4 ez4 => ?_)
  refine lv_lstore (lv' := [(11, .long z4), (9, .long z3), (7, .long z2), (5, .long z1), (0, .ref m1), (1, .int ia), (2, .int ib), (3, .int ic), (4, .int id)]) hx hb dX5_ring_66 hl (by decide) rfl (fun ls hl => ?_)
  refine lv_aload_n hx hb dX5_ring_68 rfl (lv_at hl 4 rfl) ?_
  refine va_get (D := D) (ci := 9) (v := .ref m2) (C := RX5) (T := TX5) (N := 14) hx hb hts hinX5 hown hK hP 0 rfl rfl 2 (by decide) (hts _ fk_X5_13) (fun _ h9 => h9) rfl dX5_ring_69 ?_
  refine lv_iload_n hx hb dX5_ring_72 rfl (lv_at hl 7 rfl) ?_
  refine va_iald hx hb hK hP 1 0 rfl rfl oic dX5_ring_73 ?_
  refine lv_aload_n hx hb dX5_ring_74 rfl (lv_at hl 4 rfl) ?_
  refine va_get (D := D) (ci := 9) (v := .ref m2) (C := RX5) (T := TX5) (N := 14) hx hb hts hinX5 hown hK hP 0 rfl rfl 2 (by decide) (hts _ fk_X5_13) (fun _ h9 => h9) rfl dX5_ring_75 ?_
  refine lv_iload hx hb dX5_ring_78 (lv_at hl 8 rfl) ?_
  refine va_iald hx hb hK hP 1 0 rfl rfl oid dX5_ring_80 ?_
  refine lv_isub hx hb dX5_ring_81 ?_
  refine lv_i2l hx hb dX5_ring_82 rfl ?_
  refine lv_topl (fun z5 ez5 => ?_)
  refine lv_lstore (lv' := [(13, .long z5), (11, .long z4), (9, .long z3), (7, .long z2), (5, .long z1), (0, .ref m1), (1, .int ia), (2, .int ib), (3, .int ic), (4, .int id)]) hx hb dX5_ring_83 hl (by decide) rfl (fun ls hl => ?_)
  refine lv_aload_n hx hb dX5_ring_85 rfl (lv_at hl 5 rfl) ?_
  refine va_get (D := D) (ci := 9) (v := .ref m3) (C := RX5) (T := TX5) (N := 14) hx hb hts hinX5 hown hK hP 0 rfl rfl 3 (by decide) (hts _ fk_X5_17) (fun _ h9 => h9) rfl dX5_ring_86 ?_
  refine lv_iload_n hx hb dX5_ring_89 rfl (lv_at hl 8 rfl) ?_
  refine va_iald hx hb hK hP 2 0 rfl rfl oic dX5_ring_90 ?_
  refine lv_aload_n hx hb dX5_ring_91 rfl (lv_at hl 5 rfl) ?_
  refine va_get (D := D) (ci := 9) (v := .ref m3) (C := RX5) (T := TX5) (N := 14) hx hb hts hinX5 hown hK hP 0 rfl rfl 3 (by decide) (hts _ fk_X5_17) (fun _ h9 => h9) rfl dX5_ring_92 ?_
  refine lv_iload hx hb dX5_ring_95 (lv_at hl 9 rfl) ?_
  refine va_iald hx hb hK hP 2 0 rfl rfl oid dX5_ring_97 ?_
  refine lv_isub hx hb dX5_ring_98 ?_
  refine lv_i2l hx hb dX5_ring_99 rfl ?_
  refine lv_topl (fun z6 ez6 => ?_)
  refine lv_lstore (lv' := [(15, .long z6), (13, .long z5), (11, .long z4), (9, .long z3), (7, .long z2), (5, .long z1), (0, .ref m1), (1, .int ia), (2, .int ib), (3, .int ic), (4, .int id)]) hx hb dX5_ring_100 hl (by decide) rfl (fun ls hl => ?_)
  refine lv_lload hx hb dX5_ring_102 (lv_at hl 5 rfl) ?_
  refine lv_lload hx hb dX5_ring_104 (lv_at hl 5 rfl) ?_
  refine lv_lmul hx hb dX5_ring_106 ?_
  refine lv_lload hx hb dX5_ring_107 (lv_at hl 4 rfl) ?_
  refine lv_lload hx hb dX5_ring_109 (lv_at hl 4 rfl) ?_
  refine lv_lmul hx hb dX5_ring_111 ?_
  refine lv_ladd hx hb dX5_ring_112 ?_
  refine lv_lstore (lv' := [(17, .long ((z1 * z1) + (z2 * z2))), (15, .long z6), (13, .long z5), (11, .long z4), (9, .long z3), (7, .long z2), (5, .long z1), (0, .ref m1), (1, .int ia), (2, .int ib), (3, .int ic), (4, .int id)]) hx hb dX5_ring_113 hl (by decide) rfl (fun ls hl => ?_)
  refine lv_lload hx hb dX5_ring_115 (lv_at hl 4 rfl) ?_
  refine lv_lload hx hb dX5_ring_117 (lv_at hl 4 rfl) ?_
  refine lv_lmul hx hb dX5_ring_119 ?_
  refine lv_lload hx hb dX5_ring_120 (lv_at hl 3 rfl) ?_
  refine lv_lload hx hb dX5_ring_122 (lv_at hl 3 rfl) ?_
  refine lv_lmul hx hb dX5_ring_124 ?_
  refine lv_ladd hx hb dX5_ring_125 ?_
  refine lv_lstore (lv' := [(19, .long ((z3 * z3) + (z4 * z4))), (17, .long ((z1 * z1) + (z2 * z2))), (15, .long z6), (13, .long z5), (11, .long z4), (9, .long z3), (7, .long z2), (5, .long z1), (0, .ref m1), (1, .int ia), (2, .int ib), (3, .int ic), (4, .int id)]) hx hb dX5_ring_126 hl (by decide) rfl (fun ls hl => ?_)
  refine lv_lload hx hb dX5_ring_128 (lv_at hl 3 rfl) ?_
  refine lv_lload hx hb dX5_ring_130 (lv_at hl 3 rfl) ?_
  refine lv_lmul hx hb dX5_ring_132 ?_
  refine lv_lload hx hb dX5_ring_133 (lv_at hl 2 rfl) ?_
  refine lv_lload hx hb dX5_ring_135 (lv_at hl 2 rfl) ?_
  refine lv_lmul hx hb dX5_ring_137 ?_
  refine lv_ladd hx hb dX5_ring_138 ?_
  refine lv_lstore (lv' := [(21, .long ((z5 * z5) + (z6 * z6))), (19, .long ((z3 * z3) + (z4 * z4))), (17, .long ((z1 * z1) + (z2 * z2))), (15, .long z6), (13, .long z5), (11, .long z4), (9, .long z3), (7, .long z2), (5, .long z1), (0, .ref m1), (1, .int ia), (2, .int ib), (3, .int ic), (4, .int id)]) hx hb dX5_ring_139 hl (by decide) rfl (fun ls hl => ?_)
  refine lv_aload_n hx hb dX5_ring_141 rfl (lv_at hl 9 rfl) ?_
  refine lv_iload_n hx hb dX5_ring_142 rfl (lv_at hl 10 rfl) ?_
  refine lv_iload_n hx hb dX5_ring_143 rfl (lv_at hl 11 rfl) ?_
  refine lv_iload_n hx hb dX5_ring_144 rfl (lv_at hl 12 rfl) ?_
  refine xr_V (q := (RX5, TX5, 14)) (ci := 9) (q0 := 0) (rest := []) (As := [.int ia, .int ib, .int ic]) ⟨hx, hb, hml, hown, hts⟩ (ct5_turn l D m1 m2 m3 m4 m5 m6 m7 kI kJ xs ys held la lb lc th pm rm on cl un ze lm ia ib ic oia oib oic) (cwV 3 hts gl_X5_58 rfl rfl rfl (by decide +kernel) ⟨Nat.le_of_ble_eq_true rfl, Nat.le_of_ble_eq_true rfl⟩) nN_mv hN hK hP [0, 1, 2, 3, 4, 5, 6] [0, 1] rfl rfl rfl rfl rfl hl.1 rfl (Nat.le_of_ble_eq_true rfl) dX5_ring_145 ⟨Nat.le_of_ble_eq_true rfl, Nat.le_of_ble_eq_true rfl⟩ ?_
  refine lv_lload hx hb dX5_ring_148 (lv_at hl 2 rfl) ?_
  refine lv_lload hx hb dX5_ring_150 (lv_at hl 6 rfl) ?_
  refine lv_lload hx hb dX5_ring_152 (lv_at hl 3 rfl) ?_
  refine lv_lmul hx hb dX5_ring_154 ?_
  refine lv_lload hx hb dX5_ring_155 (lv_at hl 5 rfl) ?_
  refine lv_lload hx hb dX5_ring_157 (lv_at hl 4 rfl) ?_
  refine lv_lmul hx hb dX5_ring_159 ?_
  refine lv_lsub hx hb dX5_ring_160 ?_
  refine lv_lmul hx hb dX5_ring_161 ?_
  refine lv_lload hx hb dX5_ring_162 (lv_at hl 1 rfl) ?_
  refine lv_lload hx hb dX5_ring_164 (lv_at hl 4 rfl) ?_
  refine lv_lload hx hb dX5_ring_166 (lv_at hl 7 rfl) ?_
  refine lv_lmul hx hb dX5_ring_168 ?_
  refine lv_lload hx hb dX5_ring_169 (lv_at hl 3 rfl) ?_
  refine lv_lload hx hb dX5_ring_171 (lv_at hl 8 rfl) ?_
  refine lv_lmul hx hb dX5_ring_173 ?_
  refine lv_lsub hx hb dX5_ring_174 ?_
  refine lv_lmul hx hb dX5_ring_175 ?_
  refine lv_ladd hx hb dX5_ring_176 ?_
  refine lv_lload hx hb dX5_ring_177 (lv_at hl 0 rfl) ?_
  refine lv_lload hx hb dX5_ring_179 (lv_at hl 8 rfl) ?_
  refine lv_lload hx hb dX5_ring_181 (lv_at hl 5 rfl) ?_
  refine lv_lmul hx hb dX5_ring_183 ?_
  refine lv_lload hx hb dX5_ring_184 (lv_at hl 7 rfl) ?_
  refine lv_lload hx hb dX5_ring_186 (lv_at hl 6 rfl) ?_
  refine lv_lmul hx hb dX5_ring_188 ?_
  refine lv_lsub hx hb dX5_ring_189 ?_
  refine lv_lmul hx hb dX5_ring_190 ?_
  refine lv_ladd hx hb dX5_ring_191 ?_
  refine xr_S (rest := [.int (fX5_turn xs ys ia ib ic)]) (As := [.long (((((z1 * z1) + (z2 * z2)) * ((z3 * z6) - (z4 * z5))) + (((z3 * z3) + (z4 * z4)) * ((z5 * z2) - (z6 * z1)))) + (((z5 * z5) + (z6 * z6)) * ((z1 * z4) - (z2 * z3))))]) ⟨hx, hb, hml, hown, hts⟩ (ct5_signOf l D  (((((z1 * z1) + (z2 * z2)) * ((z3 * z6) - (z4 * z5))) + (((z3 * z3) + (z4 * z4)) * ((z5 * z2) - (z6 * z1)))) + (((z5 * z5) + (z6 * z6)) * ((z1 * z4) - (z2 * z3)))) ) (va_cwS 1 hts gl_X5_54 rfl rfl rfl (by decide +kernel) ⟨Nat.le_of_ble_eq_true rfl, Nat.le_of_ble_eq_true rfl⟩) nN_mv hN hK hP [] [] rfl rfl rfl hl.1 rfl (Nat.le_of_ble_eq_true rfl) dX5_ring_192 ⟨Nat.le_of_ble_eq_true rfl, Nat.le_of_ble_eq_true rfl⟩ ?_
  refine lv_imul hx hb dX5_ring_195 ?_
  subst ez6 ez5 ez4 ez3 ez2 ez1
  exact W.iret (v := (fX5_turn xs ys ia ib ic) * (fX5_signOf ((((((((xs ia.toNatClampNeg) - (xs id.toNatClampNeg)).toInt64) * (((xs ia.toNatClampNeg) - (xs id.toNatClampNeg)).toInt64)) + ((((ys ia.toNatClampNeg) - (ys id.toNatClampNeg)).toInt64) * (((ys ia.toNatClampNeg) - (ys id.toNatClampNeg)).toInt64))) * (((((xs ib.toNatClampNeg) - (xs id.toNatClampNeg)).toInt64) * (((ys ic.toNatClampNeg) - (ys id.toNatClampNeg)).toInt64)) - ((((ys ib.toNatClampNeg) - (ys id.toNatClampNeg)).toInt64) * (((xs ic.toNatClampNeg) - (xs id.toNatClampNeg)).toInt64)))) + ((((((xs ib.toNatClampNeg) - (xs id.toNatClampNeg)).toInt64) * (((xs ib.toNatClampNeg) - (xs id.toNatClampNeg)).toInt64)) + ((((ys ib.toNatClampNeg) - (ys id.toNatClampNeg)).toInt64) * (((ys ib.toNatClampNeg) - (ys id.toNatClampNeg)).toInt64))) * (((((xs ic.toNatClampNeg) - (xs id.toNatClampNeg)).toInt64) * (((ys ia.toNatClampNeg) - (ys id.toNatClampNeg)).toInt64)) - ((((ys ic.toNatClampNeg) - (ys id.toNatClampNeg)).toInt64) * (((xs ia.toNatClampNeg) - (xs id.toNatClampNeg)).toInt64))))) + ((((((xs ic.toNatClampNeg) - (xs id.toNatClampNeg)).toInt64) * (((xs ic.toNatClampNeg) - (xs id.toNatClampNeg)).toInt64)) + ((((ys ic.toNatClampNeg) - (ys id.toNatClampNeg)).toInt64) * (((ys ic.toNatClampNeg) - (ys id.toNatClampNeg)).toInt64))) * (((((xs ia.toNatClampNeg) - (xs id.toNatClampNeg)).toInt64) * (((ys ib.toNatClampNeg) - (ys id.toNatClampNeg)).toInt64)) - ((((ys ia.toNatClampNeg) - (ys id.toNatClampNeg)).toInt64) * (((xs ib.toNatClampNeg) - (xs id.toNatClampNeg)).toInt64))))))) hx hb hr (fun t ht hW => ⟨rfl, ht⟩) (fun _ h => absurd h List.not_mem_nil) dX5_ring_196
def fX5_size_  (v : UInt32) : UInt32 := if (0 : Int32) ≤ (Op.cmpValue (FP.fcmp v FP.fconst0) .g) then (v) else (FP.fneg v)
set_option maxHeartbeats 4000000 in
set_option maxRecDepth 100000 in
theorem ct5_size_ (l : Launch) (D : va_G)  (v : UInt32) : Met l yX5_size_ (Cond.code yX5_size_ cX5_size_ 1 (some .float) :: BY) ({ frames := 0, cells := 0, slots := 0, locals := 0 }) (xr_P nN D vwCl [] ([] : va_W) [.float v]) (xr_Q (.float (fX5_size_ v))) 0 0 (fun _ => False) := by
  refine Met.ofW (cc := cX5_size_) (maxL := 1) (ret := (some .float)) (by decide) rfl ?_
  intro p e s m args below meth c s₁ B hml hv
  obtain ⟨rfl, hP, hK, hN⟩ := hv
  have hx := B.exec
  have hb := B.bytes
  have hr := B.returns
  have hts0 := atoms_spec (ws := Cond.code yX5_size_ cX5_size_ 1 (some .float) :: BY) B.pre
  have hts : ∀ w ∈ BY, w.before _ s = true := fun w h => hts0 w (List.mem_cons_of_mem _ h)
  have hown : s.vm.findClass RX5 = some m.cls := findClass_of_methodNamed B.named
  have hlocks := B.notSynchronized
  have hl := lv_entry ([.float v]) (n := 1) (Nat.le_of_ble_eq_true rfl)
  rw [lg_entry_eq]
  generalize (lg_sl ([.float v]) ++ List.replicate (1 - (lg_sl ([.float v])).length) Slot.unset).toArray = ls at hl ⊢
  have hl : lv_has ls 1 [(0, .float v)] := hl
  refine lv_fload_n hx hb dX5_size__0 rfl (lv_at hl 0 rfl) ?_
  refine lv_fconst0 hx hb dX5_size__1 ?_
  refine lv_fcmp hx hb dX5_size__2 ?_
  refine lv_if_ge (tgt := 11) hx hb dX5_size__3 (by decide) (fun c1 => ?_) (fun c1 => ?_)
  · refine lv_fload_n hx hb dX5_size__11 rfl (lv_at hl 0 rfl) ?_
    exact W.fret (v := v) hx hb hr (fun t ht hW => ⟨by rw [show fX5_size_ v = v by unfold fX5_size_; rw [if_pos c1]], ht⟩) (fun _ h => absurd h List.not_mem_nil) dX5_size__12
  · refine lv_fload_n hx hb dX5_size__6 rfl (lv_at hl 0 rfl) ?_
    refine lv_fneg hx hb dX5_size__7 ?_
    refine lv_goto (tgt := 12) hx hb dX5_size__8 (by decide) ?_
    exact W.fret (v := FP.fneg v) hx hb hr (fun t ht hW => ⟨by rw [show fX5_size_ v = FP.fneg v by unfold fX5_size_; rw [if_neg c1]], ht⟩) (fun _ h => absurd h List.not_mem_nil) dX5_size__12
def fX5_greater  (v : UInt32) (u : UInt32) : UInt32 := if (Op.cmpValue (FP.fcmp v u) .l) ≤ (0 : Int32) then (u) else (v)
set_option maxHeartbeats 4000000 in
set_option maxRecDepth 100000 in
theorem ct5_greater (l : Launch) (D : va_G)  (v : UInt32) (u : UInt32) : Met l yX5_greater (Cond.code yX5_greater cX5_greater 2 (some .float) :: BY) ({ frames := 0, cells := 0, slots := 0, locals := 0 }) (xr_P nN D vwCl [] ([] : va_W) [.float v, .float u]) (xr_Q (.float (fX5_greater v u))) 0 0 (fun _ => False) := by
  refine Met.ofW (cc := cX5_greater) (maxL := 2) (ret := (some .float)) (by decide) rfl ?_
  intro p e s m args below meth c s₁ B hml hv
  obtain ⟨rfl, hP, hK, hN⟩ := hv
  have hx := B.exec
  have hb := B.bytes
  have hr := B.returns
  have hts0 := atoms_spec (ws := Cond.code yX5_greater cX5_greater 2 (some .float) :: BY) B.pre
  have hts : ∀ w ∈ BY, w.before _ s = true := fun w h => hts0 w (List.mem_cons_of_mem _ h)
  have hown : s.vm.findClass RX5 = some m.cls := findClass_of_methodNamed B.named
  have hlocks := B.notSynchronized
  have hl := lv_entry ([.float v, .float u]) (n := 2) (Nat.le_of_ble_eq_true rfl)
  rw [lg_entry_eq]
  generalize (lg_sl ([.float v, .float u]) ++ List.replicate (2 - (lg_sl ([.float v, .float u])).length) Slot.unset).toArray = ls at hl ⊢
  have hl : lv_has ls 2 [(0, .float v), (1, .float u)] := hl
  refine lv_fload_n hx hb dX5_greater_0 rfl (lv_at hl 0 rfl) ?_
  refine lv_fload_n hx hb dX5_greater_1 rfl (lv_at hl 1 rfl) ?_
  refine lv_fcmp hx hb dX5_greater_2 ?_
  refine lv_if_le (tgt := 10) hx hb dX5_greater_3 (by decide) (fun c1 => ?_) (fun c1 => ?_)
  · refine lv_fload_n hx hb dX5_greater_10 rfl (lv_at hl 1 rfl) ?_
    exact W.fret (v := u) hx hb hr (fun t ht hW => ⟨by rw [show fX5_greater v u = u by unfold fX5_greater; rw [if_pos c1]], ht⟩) (fun _ h => absurd h List.not_mem_nil) dX5_greater_11
  · refine lv_fload_n hx hb dX5_greater_6 rfl (lv_at hl 0 rfl) ?_
    refine lv_goto (tgt := 11) hx hb dX5_greater_7 (by decide) ?_
    exact W.fret (v := v) hx hb hr (fun t ht hW => ⟨by rw [show fX5_greater v u = v by unfold fX5_greater; rw [if_neg c1]], ht⟩) (fun _ h => absurd h List.not_mem_nil) dX5_greater_11
def fX5_fx (xs : Nat → Int32) (ia : Int32) : UInt32 := FP.fdiv (FP.i2f (xs ia.toNatClampNeg)) (1094713344 : UInt32)
set_option maxHeartbeats 4000000 in
set_option maxRecDepth 100000 in
theorem ct5_fx (l : Launch) (D : va_G) (m1 m2 m3 m4 m5 m6 m7 : Nat) (kI kJ : ClassId) (xs ys held : Nat → Int32) (la lb lc : Nat → Int64) (th pm rm on cl un ze lm : Int32) (ia : Int32) (oia : vp_in ia 60) (bx : bd xs) (by_ : bd ys) : Met l yX5_fx (Cond.code yX5_fx cX5_fx 2 (some .float) :: BY) ({ frames := 0, cells := 0, slots := 0, locals := 0 }) (xr_P nN D vwCl [(kI, .int), (kJ, .long)] (wMo m1 m2 m3 m4 m5 m6 m7 kI kJ xs ys held la lb lc th pm rm on cl un ze lm) [.ref m1, .int ia]) (xr_Q (.float (fX5_fx xs ia))) 0 0 (fun _ => False) := by
  refine Met.ofW (cc := cX5_fx) (maxL := 2) (ret := (some .float)) (by decide) rfl ?_
  intro p e s m args below meth c s₁ B hml hv
  obtain ⟨rfl, hP, hK, hN⟩ := hv
  have hx := B.exec
  have hb := B.bytes
  have hr := B.returns
  have hts0 := atoms_spec (ws := Cond.code yX5_fx cX5_fx 2 (some .float) :: BY) B.pre
  have hts : ∀ w ∈ BY, w.before _ s = true := fun w h => hts0 w (List.mem_cons_of_mem _ h)
  have hown : s.vm.findClass RX5 = some m.cls := findClass_of_methodNamed B.named
  have hlocks := B.notSynchronized
  have hl := lv_entry ([.ref m1, .int ia]) (n := 2) (Nat.le_of_ble_eq_true rfl)
  rw [lg_entry_eq]
  generalize (lg_sl ([.ref m1, .int ia]) ++ List.replicate (2 - (lg_sl ([.ref m1, .int ia])).length) Slot.unset).toArray = ls at hl ⊢
  have hl : lv_has ls 2 [(0, .ref m1), (1, .int ia)] := hl
  refine lv_aload_n hx hb dX5_fx_0 rfl (lv_at hl 0 rfl) ?_
  refine va_get (D := D) (ci := 9) (v := .ref m2) (C := RX5) (T := TX5) (N := 14) hx hb hts hinX5 hown hK hP 0 rfl rfl 2 (by decide) (hts _ fk_X5_13) (fun _ h9 => h9) rfl dX5_fx_1 ?_
  refine lv_iload_n hx hb dX5_fx_4 rfl (lv_at hl 1 rfl) ?_
  refine va_iald hx hb hK hP 1 0 rfl rfl oia dX5_fx_5 ?_
  refine lv_i2f hx hb dX5_fx_6 ?_
  refine lv_ldcf (v := 1094713344) hx hb hown (hts _ kf_X5_76) dX5_fx_7 ?_
  refine lv_fdiv hx hb dX5_fx_9 (mg_n (K := 140) (mg_12 (mg_i2f (bx _))) (by decide)) ?_
  exact W.fret (v := FP.fdiv (FP.i2f (xs ia.toNatClampNeg)) (1094713344 : UInt32)) hx hb hr (fun t ht hW => ⟨rfl, ht⟩) (fun _ h => absurd h List.not_mem_nil) dX5_fx_10
def fX5_fy (ys : Nat → Int32) (ia : Int32) : UInt32 := FP.fdiv (FP.i2f (ys ia.toNatClampNeg)) (1094713344 : UInt32)
set_option maxHeartbeats 4000000 in
set_option maxRecDepth 100000 in
theorem ct5_fy (l : Launch) (D : va_G) (m1 m2 m3 m4 m5 m6 m7 : Nat) (kI kJ : ClassId) (xs ys held : Nat → Int32) (la lb lc : Nat → Int64) (th pm rm on cl un ze lm : Int32) (ia : Int32) (oia : vp_in ia 60) (bx : bd xs) (by_ : bd ys) : Met l yX5_fy (Cond.code yX5_fy cX5_fy 2 (some .float) :: BY) ({ frames := 0, cells := 0, slots := 0, locals := 0 }) (xr_P nN D vwCl [(kI, .int), (kJ, .long)] (wMo m1 m2 m3 m4 m5 m6 m7 kI kJ xs ys held la lb lc th pm rm on cl un ze lm) [.ref m1, .int ia]) (xr_Q (.float (fX5_fy ys ia))) 0 0 (fun _ => False) := by
  refine Met.ofW (cc := cX5_fy) (maxL := 2) (ret := (some .float)) (by decide) rfl ?_
  intro p e s m args below meth c s₁ B hml hv
  obtain ⟨rfl, hP, hK, hN⟩ := hv
  have hx := B.exec
  have hb := B.bytes
  have hr := B.returns
  have hts0 := atoms_spec (ws := Cond.code yX5_fy cX5_fy 2 (some .float) :: BY) B.pre
  have hts : ∀ w ∈ BY, w.before _ s = true := fun w h => hts0 w (List.mem_cons_of_mem _ h)
  have hown : s.vm.findClass RX5 = some m.cls := findClass_of_methodNamed B.named
  have hlocks := B.notSynchronized
  have hl := lv_entry ([.ref m1, .int ia]) (n := 2) (Nat.le_of_ble_eq_true rfl)
  rw [lg_entry_eq]
  generalize (lg_sl ([.ref m1, .int ia]) ++ List.replicate (2 - (lg_sl ([.ref m1, .int ia])).length) Slot.unset).toArray = ls at hl ⊢
  have hl : lv_has ls 2 [(0, .ref m1), (1, .int ia)] := hl
  refine lv_aload_n hx hb dX5_fy_0 rfl (lv_at hl 0 rfl) ?_
  refine va_get (D := D) (ci := 9) (v := .ref m3) (C := RX5) (T := TX5) (N := 14) hx hb hts hinX5 hown hK hP 0 rfl rfl 3 (by decide) (hts _ fk_X5_17) (fun _ h9 => h9) rfl dX5_fy_1 ?_
  refine lv_iload_n hx hb dX5_fy_4 rfl (lv_at hl 1 rfl) ?_
  refine va_iald hx hb hK hP 2 0 rfl rfl oia dX5_fy_5 ?_
  refine lv_i2f hx hb dX5_fy_6 ?_
  refine lv_ldcf (v := 1094713344) hx hb hown (hts _ kf_X5_76) dX5_fy_7 ?_
  refine lv_fdiv hx hb dX5_fy_9 (mg_n (K := 140) (mg_12 (mg_i2f (by_ _))) (by decide)) ?_
  exact W.fret (v := FP.fdiv (FP.i2f (ys ia.toNatClampNeg)) (1094713344 : UInt32)) hx hb hr (fun t ht hW => ⟨rfl, ht⟩) (fun _ h => absurd h List.not_mem_nil) dX5_fy_10
theorem mg_size {K : Nat} {v : UInt32} (h : mg K v) : mg K (fX5_size_ v) := by
  unfold fX5_size_
  split
  · exact h
  · exact mg_neg h
theorem mg_greater {K : Nat} {v u : UInt32} (h : mg K v) (h2 : mg K u) : mg K (fX5_greater v u) := by
  unfold fX5_greater; split <;> assumption
theorem mg_fx {xs : Nat → Int32} {a : Int32} (h : bd xs) : mg 140 (fX5_fx xs a) := mg_12 (mg_i2f (h _))
theorem mg_fy {ys : Nat → Int32} {a : Int32} (h : bd ys) : mg 140 (fX5_fy ys a) := mg_12 (mg_i2f (h _))
def fX5_most (xs ys : Nat → Int32) (ia : Int32) (ib : Int32) (ic : Int32) : UInt32 := fX5_greater (fX5_greater (fX5_greater (fX5_size_ (fX5_fx xs ia)) (fX5_size_ (fX5_fy ys ia))) (fX5_greater (fX5_size_ (fX5_fx xs ib)) (fX5_size_ (fX5_fy ys ib)))) (fX5_greater (fX5_size_ (fX5_fx xs ic)) (fX5_size_ (fX5_fy ys ic)))
set_option maxHeartbeats 4000000 in
set_option maxRecDepth 100000 in
theorem ct5_most (l : Launch) (D : va_G) (m1 m2 m3 m4 m5 m6 m7 : Nat) (kI kJ : ClassId) (xs ys held : Nat → Int32) (la lb lc : Nat → Int64) (th pm rm on cl un ze lm : Int32) (ia : Int32) (ib : Int32) (ic : Int32) (oia : vp_in ia 60) (oib : vp_in ib 60) (oic : vp_in ic 60) (bx : bd xs) (by_ : bd ys) : Met l yX5_most (Cond.code yX5_most cX5_most 4 (some .float) :: BY) ({ frames := 1, cells := 0, slots := 0, locals := 60 }) (xr_P nN D vwCl [(kI, .int), (kJ, .long)] (wMo m1 m2 m3 m4 m5 m6 m7 kI kJ xs ys held la lb lc th pm rm on cl un ze lm) [.ref m1, .int ia, .int ib, .int ic]) (xr_Q (.float (fX5_most xs ys ia ib ic))) 0 0 (fun _ => False) := by
  refine Met.ofW (cc := cX5_most) (maxL := 4) (ret := (some .float)) (by decide) rfl ?_
  intro p e s m args below meth c s₁ B hml hv
  obtain ⟨rfl, hP, hK, hN⟩ := hv
  have hx := B.exec
  have hb := B.bytes
  have hr := B.returns
  have hts0 := atoms_spec (ws := Cond.code yX5_most cX5_most 4 (some .float) :: BY) B.pre
  have hts : ∀ w ∈ BY, w.before _ s = true := fun w h => hts0 w (List.mem_cons_of_mem _ h)
  have hown : s.vm.findClass RX5 = some m.cls := findClass_of_methodNamed B.named
  have hlocks := B.notSynchronized
  have hl := lv_entry ([.ref m1, .int ia, .int ib, .int ic]) (n := 4) (Nat.le_of_ble_eq_true rfl)
  rw [lg_entry_eq]
  generalize (lg_sl ([.ref m1, .int ia, .int ib, .int ic]) ++ List.replicate (4 - (lg_sl ([.ref m1, .int ia, .int ib, .int ic])).length) Slot.unset).toArray = ls at hl ⊢
  have hl : lv_has ls 4 [(0, .ref m1), (1, .int ia), (2, .int ib), (3, .int ic)] := hl
  refine lv_aload_n hx hb dX5_most_0 rfl (lv_at hl 0 rfl) ?_
  refine lv_iload_n hx hb dX5_most_1 rfl (lv_at hl 1 rfl) ?_
  refine xr_V (q := (RX5, TX5, 14)) (ci := 9) (q0 := 0) (rest := []) (As := [.int ia]) ⟨hx, hb, hml, hown, hts⟩ (ct5_fx l D m1 m2 m3 m4 m5 m6 m7 kI kJ xs ys held la lb lc th pm rm on cl un ze lm ia oia bx by_) (cwV 1 hts gl_X5_77 rfl rfl rfl (by decide +kernel) ⟨Nat.le_of_ble_eq_true rfl, Nat.le_of_ble_eq_true rfl⟩) nN_mv hN hK hP [0, 1, 2, 3, 4, 5, 6] [0, 1] rfl rfl rfl rfl rfl hl.1 rfl (Nat.le_of_ble_eq_true rfl) dX5_most_2 ⟨Nat.le_of_ble_eq_true rfl, Nat.le_of_ble_eq_true rfl⟩ ?_
  refine xr_S (rest := []) (As := [.float (fX5_fx xs ia)]) ⟨hx, hb, hml, hown, hts⟩ (ct5_size_ l D  (fX5_fx xs ia) ) (va_cwS 1 hts gl_X5_81 rfl rfl rfl (by decide +kernel) ⟨Nat.le_of_ble_eq_true rfl, Nat.le_of_ble_eq_true rfl⟩) nN_mv hN hK hP [] [] rfl rfl rfl hl.1 rfl (Nat.le_of_ble_eq_true rfl) dX5_most_5 ⟨Nat.le_of_ble_eq_true rfl, Nat.le_of_ble_eq_true rfl⟩ ?_
  refine lv_aload_n hx hb dX5_most_8 rfl (lv_at hl 0 rfl) ?_
  refine lv_iload_n hx hb dX5_most_9 rfl (lv_at hl 1 rfl) ?_
  refine xr_V (q := (RX5, TX5, 14)) (ci := 9) (q0 := 0) (rest := [.float (fX5_size_ (fX5_fx xs ia))]) (As := [.int ia]) ⟨hx, hb, hml, hown, hts⟩ (ct5_fy l D m1 m2 m3 m4 m5 m6 m7 kI kJ xs ys held la lb lc th pm rm on cl un ze lm ia oia bx by_) (cwV 1 hts gl_X5_85 rfl rfl rfl (by decide +kernel) ⟨Nat.le_of_ble_eq_true rfl, Nat.le_of_ble_eq_true rfl⟩) nN_mv hN hK hP [0, 1, 2, 3, 4, 5, 6] [0, 1] rfl rfl rfl rfl rfl hl.1 rfl (Nat.le_of_ble_eq_true rfl) dX5_most_10 ⟨Nat.le_of_ble_eq_true rfl, Nat.le_of_ble_eq_true rfl⟩ ?_
  refine xr_S (rest := [.float (fX5_size_ (fX5_fx xs ia))]) (As := [.float (fX5_fy ys ia)]) ⟨hx, hb, hml, hown, hts⟩ (ct5_size_ l D  (fX5_fy ys ia) ) (va_cwS 1 hts gl_X5_81 rfl rfl rfl (by decide +kernel) ⟨Nat.le_of_ble_eq_true rfl, Nat.le_of_ble_eq_true rfl⟩) nN_mv hN hK hP [] [] rfl rfl rfl hl.1 rfl (Nat.le_of_ble_eq_true rfl) dX5_most_13 ⟨Nat.le_of_ble_eq_true rfl, Nat.le_of_ble_eq_true rfl⟩ ?_
  refine xr_S (rest := []) (As := [.float (fX5_size_ (fX5_fx xs ia)), .float (fX5_size_ (fX5_fy ys ia))]) ⟨hx, hb, hml, hown, hts⟩ (ct5_greater l D  (fX5_size_ (fX5_fx xs ia)) (fX5_size_ (fX5_fy ys ia)) ) (va_cwS 2 hts gl_X5_88 rfl rfl rfl (by decide +kernel) ⟨Nat.le_of_ble_eq_true rfl, Nat.le_of_ble_eq_true rfl⟩) nN_mv hN hK hP [] [] rfl rfl rfl hl.1 rfl (Nat.le_of_ble_eq_true rfl) dX5_most_16 ⟨Nat.le_of_ble_eq_true rfl, Nat.le_of_ble_eq_true rfl⟩ ?_
  refine lv_aload_n hx hb dX5_most_19 rfl (lv_at hl 0 rfl) ?_
  refine lv_iload_n hx hb dX5_most_20 rfl (lv_at hl 2 rfl) ?_
  refine xr_V (q := (RX5, TX5, 14)) (ci := 9) (q0 := 0) (rest := [.float (fX5_greater (fX5_size_ (fX5_fx xs ia)) (fX5_size_ (fX5_fy ys ia)))]) (As := [.int ib]) ⟨hx, hb, hml, hown, hts⟩ (ct5_fx l D m1 m2 m3 m4 m5 m6 m7 kI kJ xs ys held la lb lc th pm rm on cl un ze lm ib oib bx by_) (cwV 1 hts gl_X5_77 rfl rfl rfl (by decide +kernel) ⟨Nat.le_of_ble_eq_true rfl, Nat.le_of_ble_eq_true rfl⟩) nN_mv hN hK hP [0, 1, 2, 3, 4, 5, 6] [0, 1] rfl rfl rfl rfl rfl hl.1 rfl (Nat.le_of_ble_eq_true rfl) dX5_most_21 ⟨Nat.le_of_ble_eq_true rfl, Nat.le_of_ble_eq_true rfl⟩ ?_
  refine xr_S (rest := [.float (fX5_greater (fX5_size_ (fX5_fx xs ia)) (fX5_size_ (fX5_fy ys ia)))]) (As := [.float (fX5_fx xs ib)]) ⟨hx, hb, hml, hown, hts⟩ (ct5_size_ l D  (fX5_fx xs ib) ) (va_cwS 1 hts gl_X5_81 rfl rfl rfl (by decide +kernel) ⟨Nat.le_of_ble_eq_true rfl, Nat.le_of_ble_eq_true rfl⟩) nN_mv hN hK hP [] [] rfl rfl rfl hl.1 rfl (Nat.le_of_ble_eq_true rfl) dX5_most_24 ⟨Nat.le_of_ble_eq_true rfl, Nat.le_of_ble_eq_true rfl⟩ ?_
  refine lv_aload_n hx hb dX5_most_27 rfl (lv_at hl 0 rfl) ?_
  refine lv_iload_n hx hb dX5_most_28 rfl (lv_at hl 2 rfl) ?_
  refine xr_V (q := (RX5, TX5, 14)) (ci := 9) (q0 := 0) (rest := [.float (fX5_size_ (fX5_fx xs ib)), .float (fX5_greater (fX5_size_ (fX5_fx xs ia)) (fX5_size_ (fX5_fy ys ia)))]) (As := [.int ib]) ⟨hx, hb, hml, hown, hts⟩ (ct5_fy l D m1 m2 m3 m4 m5 m6 m7 kI kJ xs ys held la lb lc th pm rm on cl un ze lm ib oib bx by_) (cwV 1 hts gl_X5_85 rfl rfl rfl (by decide +kernel) ⟨Nat.le_of_ble_eq_true rfl, Nat.le_of_ble_eq_true rfl⟩) nN_mv hN hK hP [0, 1, 2, 3, 4, 5, 6] [0, 1] rfl rfl rfl rfl rfl hl.1 rfl (Nat.le_of_ble_eq_true rfl) dX5_most_29 ⟨Nat.le_of_ble_eq_true rfl, Nat.le_of_ble_eq_true rfl⟩ ?_
  refine xr_S (rest := [.float (fX5_size_ (fX5_fx xs ib)), .float (fX5_greater (fX5_size_ (fX5_fx xs ia)) (fX5_size_ (fX5_fy ys ia)))]) (As := [.float (fX5_fy ys ib)]) ⟨hx, hb, hml, hown, hts⟩ (ct5_size_ l D  (fX5_fy ys ib) ) (va_cwS 1 hts gl_X5_81 rfl rfl rfl (by decide +kernel) ⟨Nat.le_of_ble_eq_true rfl, Nat.le_of_ble_eq_true rfl⟩) nN_mv hN hK hP [] [] rfl rfl rfl hl.1 rfl (Nat.le_of_ble_eq_true rfl) dX5_most_32 ⟨Nat.le_of_ble_eq_true rfl, Nat.le_of_ble_eq_true rfl⟩ ?_
  refine xr_S (rest := [.float (fX5_greater (fX5_size_ (fX5_fx xs ia)) (fX5_size_ (fX5_fy ys ia)))]) (As := [.float (fX5_size_ (fX5_fx xs ib)), .float (fX5_size_ (fX5_fy ys ib))]) ⟨hx, hb, hml, hown, hts⟩ (ct5_greater l D  (fX5_size_ (fX5_fx xs ib)) (fX5_size_ (fX5_fy ys ib)) ) (va_cwS 2 hts gl_X5_88 rfl rfl rfl (by decide +kernel) ⟨Nat.le_of_ble_eq_true rfl, Nat.le_of_ble_eq_true rfl⟩) nN_mv hN hK hP [] [] rfl rfl rfl hl.1 rfl (Nat.le_of_ble_eq_true rfl) dX5_most_35 ⟨Nat.le_of_ble_eq_true rfl, Nat.le_of_ble_eq_true rfl⟩ ?_
  refine xr_S (rest := []) (As := [.float (fX5_greater (fX5_size_ (fX5_fx xs ia)) (fX5_size_ (fX5_fy ys ia))), .float (fX5_greater (fX5_size_ (fX5_fx xs ib)) (fX5_size_ (fX5_fy ys ib)))]) ⟨hx, hb, hml, hown, hts⟩ (ct5_greater l D  (fX5_greater (fX5_size_ (fX5_fx xs ia)) (fX5_size_ (fX5_fy ys ia))) (fX5_greater (fX5_size_ (fX5_fx xs ib)) (fX5_size_ (fX5_fy ys ib))) ) (va_cwS 2 hts gl_X5_88 rfl rfl rfl (by decide +kernel) ⟨Nat.le_of_ble_eq_true rfl, Nat.le_of_ble_eq_true rfl⟩) nN_mv hN hK hP [] [] rfl rfl rfl hl.1 rfl (Nat.le_of_ble_eq_true rfl) dX5_most_38 ⟨Nat.le_of_ble_eq_true rfl, Nat.le_of_ble_eq_true rfl⟩ ?_
  refine lv_aload_n hx hb dX5_most_41 rfl (lv_at hl 0 rfl) ?_
  refine lv_iload_n hx hb dX5_most_42 rfl (lv_at hl 3 rfl) ?_
  refine xr_V (q := (RX5, TX5, 14)) (ci := 9) (q0 := 0) (rest := [.float (fX5_greater (fX5_greater (fX5_size_ (fX5_fx xs ia)) (fX5_size_ (fX5_fy ys ia))) (fX5_greater (fX5_size_ (fX5_fx xs ib)) (fX5_size_ (fX5_fy ys ib))))]) (As := [.int ic]) ⟨hx, hb, hml, hown, hts⟩ (ct5_fx l D m1 m2 m3 m4 m5 m6 m7 kI kJ xs ys held la lb lc th pm rm on cl un ze lm ic oic bx by_) (cwV 1 hts gl_X5_77 rfl rfl rfl (by decide +kernel) ⟨Nat.le_of_ble_eq_true rfl, Nat.le_of_ble_eq_true rfl⟩) nN_mv hN hK hP [0, 1, 2, 3, 4, 5, 6] [0, 1] rfl rfl rfl rfl rfl hl.1 rfl (Nat.le_of_ble_eq_true rfl) dX5_most_43 ⟨Nat.le_of_ble_eq_true rfl, Nat.le_of_ble_eq_true rfl⟩ ?_
  refine xr_S (rest := [.float (fX5_greater (fX5_greater (fX5_size_ (fX5_fx xs ia)) (fX5_size_ (fX5_fy ys ia))) (fX5_greater (fX5_size_ (fX5_fx xs ib)) (fX5_size_ (fX5_fy ys ib))))]) (As := [.float (fX5_fx xs ic)]) ⟨hx, hb, hml, hown, hts⟩ (ct5_size_ l D  (fX5_fx xs ic) ) (va_cwS 1 hts gl_X5_81 rfl rfl rfl (by decide +kernel) ⟨Nat.le_of_ble_eq_true rfl, Nat.le_of_ble_eq_true rfl⟩) nN_mv hN hK hP [] [] rfl rfl rfl hl.1 rfl (Nat.le_of_ble_eq_true rfl) dX5_most_46 ⟨Nat.le_of_ble_eq_true rfl, Nat.le_of_ble_eq_true rfl⟩ ?_
  refine lv_aload_n hx hb dX5_most_49 rfl (lv_at hl 0 rfl) ?_
  refine lv_iload_n hx hb dX5_most_50 rfl (lv_at hl 3 rfl) ?_
  refine xr_V (q := (RX5, TX5, 14)) (ci := 9) (q0 := 0) (rest := [.float (fX5_size_ (fX5_fx xs ic)), .float (fX5_greater (fX5_greater (fX5_size_ (fX5_fx xs ia)) (fX5_size_ (fX5_fy ys ia))) (fX5_greater (fX5_size_ (fX5_fx xs ib)) (fX5_size_ (fX5_fy ys ib))))]) (As := [.int ic]) ⟨hx, hb, hml, hown, hts⟩ (ct5_fy l D m1 m2 m3 m4 m5 m6 m7 kI kJ xs ys held la lb lc th pm rm on cl un ze lm ic oic bx by_) (cwV 1 hts gl_X5_85 rfl rfl rfl (by decide +kernel) ⟨Nat.le_of_ble_eq_true rfl, Nat.le_of_ble_eq_true rfl⟩) nN_mv hN hK hP [0, 1, 2, 3, 4, 5, 6] [0, 1] rfl rfl rfl rfl rfl hl.1 rfl (Nat.le_of_ble_eq_true rfl) dX5_most_51 ⟨Nat.le_of_ble_eq_true rfl, Nat.le_of_ble_eq_true rfl⟩ ?_
  refine xr_S (rest := [.float (fX5_size_ (fX5_fx xs ic)), .float (fX5_greater (fX5_greater (fX5_size_ (fX5_fx xs ia)) (fX5_size_ (fX5_fy ys ia))) (fX5_greater (fX5_size_ (fX5_fx xs ib)) (fX5_size_ (fX5_fy ys ib))))]) (As := [.float (fX5_fy ys ic)]) ⟨hx, hb, hml, hown, hts⟩ (ct5_size_ l D  (fX5_fy ys ic) ) (va_cwS 1 hts gl_X5_81 rfl rfl rfl (by decide +kernel) ⟨Nat.le_of_ble_eq_true rfl, Nat.le_of_ble_eq_true rfl⟩) nN_mv hN hK hP [] [] rfl rfl rfl hl.1 rfl (Nat.le_of_ble_eq_true rfl) dX5_most_54 ⟨Nat.le_of_ble_eq_true rfl, Nat.le_of_ble_eq_true rfl⟩ ?_
  refine xr_S (rest := [.float (fX5_greater (fX5_greater (fX5_size_ (fX5_fx xs ia)) (fX5_size_ (fX5_fy ys ia))) (fX5_greater (fX5_size_ (fX5_fx xs ib)) (fX5_size_ (fX5_fy ys ib))))]) (As := [.float (fX5_size_ (fX5_fx xs ic)), .float (fX5_size_ (fX5_fy ys ic))]) ⟨hx, hb, hml, hown, hts⟩ (ct5_greater l D  (fX5_size_ (fX5_fx xs ic)) (fX5_size_ (fX5_fy ys ic)) ) (va_cwS 2 hts gl_X5_88 rfl rfl rfl (by decide +kernel) ⟨Nat.le_of_ble_eq_true rfl, Nat.le_of_ble_eq_true rfl⟩) nN_mv hN hK hP [] [] rfl rfl rfl hl.1 rfl (Nat.le_of_ble_eq_true rfl) dX5_most_57 ⟨Nat.le_of_ble_eq_true rfl, Nat.le_of_ble_eq_true rfl⟩ ?_
  refine xr_S (rest := []) (As := [.float (fX5_greater (fX5_greater (fX5_size_ (fX5_fx xs ia)) (fX5_size_ (fX5_fy ys ia))) (fX5_greater (fX5_size_ (fX5_fx xs ib)) (fX5_size_ (fX5_fy ys ib)))), .float (fX5_greater (fX5_size_ (fX5_fx xs ic)) (fX5_size_ (fX5_fy ys ic)))]) ⟨hx, hb, hml, hown, hts⟩ (ct5_greater l D  (fX5_greater (fX5_greater (fX5_size_ (fX5_fx xs ia)) (fX5_size_ (fX5_fy ys ia))) (fX5_greater (fX5_size_ (fX5_fx xs ib)) (fX5_size_ (fX5_fy ys ib)))) (fX5_greater (fX5_size_ (fX5_fx xs ic)) (fX5_size_ (fX5_fy ys ic))) ) (va_cwS 2 hts gl_X5_88 rfl rfl rfl (by decide +kernel) ⟨Nat.le_of_ble_eq_true rfl, Nat.le_of_ble_eq_true rfl⟩) nN_mv hN hK hP [] [] rfl rfl rfl hl.1 rfl (Nat.le_of_ble_eq_true rfl) dX5_most_60 ⟨Nat.le_of_ble_eq_true rfl, Nat.le_of_ble_eq_true rfl⟩ ?_
  exact W.fret (v := fX5_greater (fX5_greater (fX5_greater (fX5_size_ (fX5_fx xs ia)) (fX5_size_ (fX5_fy ys ia))) (fX5_greater (fX5_size_ (fX5_fx xs ib)) (fX5_size_ (fX5_fy ys ib)))) (fX5_greater (fX5_size_ (fX5_fx xs ic)) (fX5_size_ (fX5_fy ys ic)))) hx hb hr (fun t ht hW => ⟨rfl, ht⟩) (fun _ h => absurd h List.not_mem_nil) dX5_most_63
theorem mg_most {xs ys : Nat → Int32} {a b c : Int32} (bx : bd xs) (by_ : bd ys) : mg 140 (fX5_most xs ys a b c) := mg_greater (mg_greater (mg_greater (mg_size (mg_fx bx)) (mg_size (mg_fy by_))) (mg_greater (mg_size (mg_fx bx)) (mg_size (mg_fy by_)))) (mg_greater (mg_size (mg_fx bx)) (mg_size (mg_fy by_)))
def fX5_decidesTurn (xs ys : Nat → Int32) (ia : Int32) (ib : Int32) (ic : Int32) : Int32 := if (Op.cmpValue (FP.fcmp (fX5_size_ (FP.fsub (FP.fmul (FP.fsub (fX5_fx xs ib) (fX5_fx xs ia)) (FP.fsub (fX5_fy ys ic) (fX5_fy ys ia))) (FP.fmul (FP.fsub (fX5_fy ys ib) (fX5_fy ys ia)) (FP.fsub (fX5_fx xs ic) (fX5_fx xs ia))))) (FP.fmul (FP.fmul (fX5_most xs ys ia ib ic) (fX5_most xs ys ia ib ic)) (914358272 : UInt32))) .l) ≤ (0 : Int32) then ((0 : Int32)) else ((1 : Int32))
set_option maxHeartbeats 4000000 in
set_option maxRecDepth 100000 in
theorem ct5_decidesTurn (l : Launch) (D : va_G) (m1 m2 m3 m4 m5 m6 m7 : Nat) (kI kJ : ClassId) (xs ys held : Nat → Int32) (la lb lc : Nat → Int64) (th pm rm on cl un ze lm : Int32) (ia : Int32) (ib : Int32) (ic : Int32) (oia : vp_in ia 60) (oib : vp_in ib 60) (oic : vp_in ic 60) (bx : bd xs) (by_ : bd ys) : Met l yX5_decidesTurn (Cond.code yX5_decidesTurn cX5_decidesTurn 9 (some .boolean) :: BY) ({ frames := 2, cells := 0, slots := 0, locals := 120 }) (xr_P nN D vwCl [(kI, .int), (kJ, .long)] (wMo m1 m2 m3 m4 m5 m6 m7 kI kJ xs ys held la lb lc th pm rm on cl un ze lm) [.ref m1, .int ia, .int ib, .int ic]) (xr_Q (.int (fX5_decidesTurn xs ys ia ib ic))) 0 0 (fun _ => False) := by
  refine Met.ofW (cc := cX5_decidesTurn) (maxL := 9) (ret := (some .boolean)) (by decide) rfl ?_
  intro p e s m args below meth c s₁ B hml hv
  obtain ⟨rfl, hP, hK, hN⟩ := hv
  have hx := B.exec
  have hb := B.bytes
  have hr := B.returns
  have hts0 := atoms_spec (ws := Cond.code yX5_decidesTurn cX5_decidesTurn 9 (some .boolean) :: BY) B.pre
  have hts : ∀ w ∈ BY, w.before _ s = true := fun w h => hts0 w (List.mem_cons_of_mem _ h)
  have hown : s.vm.findClass RX5 = some m.cls := findClass_of_methodNamed B.named
  have hlocks := B.notSynchronized
  have hl := lv_entry ([.ref m1, .int ia, .int ib, .int ic]) (n := 9) (Nat.le_of_ble_eq_true rfl)
  rw [lg_entry_eq]
  generalize (lg_sl ([.ref m1, .int ia, .int ib, .int ic]) ++ List.replicate (9 - (lg_sl ([.ref m1, .int ia, .int ib, .int ic])).length) Slot.unset).toArray = ls at hl ⊢
  have hl : lv_has ls 9 [(0, .ref m1), (1, .int ia), (2, .int ib), (3, .int ic)] := hl
  refine lv_aload_n hx hb dX5_decidesTurn_0 rfl (lv_at hl 0 rfl) ?_
  refine lv_iload_n hx hb dX5_decidesTurn_1 rfl (lv_at hl 2 rfl) ?_
  refine xr_V (q := (RX5, TX5, 14)) (ci := 9) (q0 := 0) (rest := []) (As := [.int ib]) ⟨hx, hb, hml, hown, hts⟩ (ct5_fx l D m1 m2 m3 m4 m5 m6 m7 kI kJ xs ys held la lb lc th pm rm on cl un ze lm ib oib bx by_) (cwV 1 hts gl_X5_77 rfl rfl rfl (by decide +kernel) ⟨Nat.le_of_ble_eq_true rfl, Nat.le_of_ble_eq_true rfl⟩) nN_mv hN hK hP [0, 1, 2, 3, 4, 5, 6] [0, 1] rfl rfl rfl rfl rfl hl.1 rfl (Nat.le_of_ble_eq_true rfl) dX5_decidesTurn_2 ⟨Nat.le_of_ble_eq_true rfl, Nat.le_of_ble_eq_true rfl⟩ ?_
  refine lv_aload_n hx hb dX5_decidesTurn_5 rfl (lv_at hl 0 rfl) ?_
  refine lv_iload_n hx hb dX5_decidesTurn_6 rfl (lv_at hl 1 rfl) ?_
  refine xr_V (q := (RX5, TX5, 14)) (ci := 9) (q0 := 0) (rest := [.float (fX5_fx xs ib)]) (As := [.int ia]) ⟨hx, hb, hml, hown, hts⟩ (ct5_fx l D m1 m2 m3 m4 m5 m6 m7 kI kJ xs ys held la lb lc th pm rm on cl un ze lm ia oia bx by_) (cwV 1 hts gl_X5_77 rfl rfl rfl (by decide +kernel) ⟨Nat.le_of_ble_eq_true rfl, Nat.le_of_ble_eq_true rfl⟩) nN_mv hN hK hP [0, 1, 2, 3, 4, 5, 6] [0, 1] rfl rfl rfl rfl rfl hl.1 rfl (Nat.le_of_ble_eq_true rfl) dX5_decidesTurn_7 ⟨Nat.le_of_ble_eq_true rfl, Nat.le_of_ble_eq_true rfl⟩ ?_
  refine lv_fsub hx hb dX5_decidesTurn_10 (mg_n (K := 142) (mg_sub (K := 140) (mg_fx bx) (mg_fx bx) (by decide)) (by decide)) ?_
  refine lv_aload_n hx hb dX5_decidesTurn_11 rfl (lv_at hl 0 rfl) ?_
  refine lv_iload_n hx hb dX5_decidesTurn_12 rfl (lv_at hl 3 rfl) ?_
  refine xr_V (q := (RX5, TX5, 14)) (ci := 9) (q0 := 0) (rest := [.float (FP.fsub (fX5_fx xs ib) (fX5_fx xs ia))]) (As := [.int ic]) ⟨hx, hb, hml, hown, hts⟩ (ct5_fy l D m1 m2 m3 m4 m5 m6 m7 kI kJ xs ys held la lb lc th pm rm on cl un ze lm ic oic bx by_) (cwV 1 hts gl_X5_85 rfl rfl rfl (by decide +kernel) ⟨Nat.le_of_ble_eq_true rfl, Nat.le_of_ble_eq_true rfl⟩) nN_mv hN hK hP [0, 1, 2, 3, 4, 5, 6] [0, 1] rfl rfl rfl rfl rfl hl.1 rfl (Nat.le_of_ble_eq_true rfl) dX5_decidesTurn_13 ⟨Nat.le_of_ble_eq_true rfl, Nat.le_of_ble_eq_true rfl⟩ ?_
  refine lv_aload_n hx hb dX5_decidesTurn_16 rfl (lv_at hl 0 rfl) ?_
  refine lv_iload_n hx hb dX5_decidesTurn_17 rfl (lv_at hl 1 rfl) ?_
  refine xr_V (q := (RX5, TX5, 14)) (ci := 9) (q0 := 0) (rest := [.float (fX5_fy ys ic), .float (FP.fsub (fX5_fx xs ib) (fX5_fx xs ia))]) (As := [.int ia]) ⟨hx, hb, hml, hown, hts⟩ (ct5_fy l D m1 m2 m3 m4 m5 m6 m7 kI kJ xs ys held la lb lc th pm rm on cl un ze lm ia oia bx by_) (cwV 1 hts gl_X5_85 rfl rfl rfl (by decide +kernel) ⟨Nat.le_of_ble_eq_true rfl, Nat.le_of_ble_eq_true rfl⟩) nN_mv hN hK hP [0, 1, 2, 3, 4, 5, 6] [0, 1] rfl rfl rfl rfl rfl hl.1 rfl (Nat.le_of_ble_eq_true rfl) dX5_decidesTurn_18 ⟨Nat.le_of_ble_eq_true rfl, Nat.le_of_ble_eq_true rfl⟩ ?_
  refine lv_fsub hx hb dX5_decidesTurn_21 (mg_n (K := 142) (mg_sub (K := 140) (mg_fy by_) (mg_fy by_) (by decide)) (by decide)) ?_
  refine lv_fmul hx hb dX5_decidesTurn_22 (mg_n (K := 158) (mg_mul (K := 142) (L := 142) (mg_sub (K := 140) (mg_fx bx) (mg_fx bx) (by decide)) (mg_sub (K := 140) (mg_fy by_) (mg_fy by_) (by decide)) (by decide) (by decide)) (by decide)) ?_
  refine lv_topf (fun z1 ez1 => ?_)
  refine lv_fstore (lv' := [(4, .float z1), (0, .ref m1), (1, .int ia), (2, .int ib), (3, .int ic)]) hx hb dX5_decidesTurn_23 hl (by decide) rfl (fun ls hl => ?_)
  refine lv_aload_n hx hb dX5_decidesTurn_25 rfl (lv_at hl 1 rfl) ?_
  refine lv_iload_n hx hb dX5_decidesTurn_26 rfl (lv_at hl 3 rfl) ?_
  refine xr_V (q := (RX5, TX5, 14)) (ci := 9) (q0 := 0) (rest := []) (As := [.int ib]) ⟨hx, hb, hml, hown, hts⟩ (ct5_fy l D m1 m2 m3 m4 m5 m6 m7 kI kJ xs ys held la lb lc th pm rm on cl un ze lm ib oib bx by_) (cwV 1 hts gl_X5_85 rfl rfl rfl (by decide +kernel) ⟨Nat.le_of_ble_eq_true rfl, Nat.le_of_ble_eq_true rfl⟩) nN_mv hN hK hP [0, 1, 2, 3, 4, 5, 6] [0, 1] rfl rfl rfl rfl rfl hl.1 rfl (Nat.le_of_ble_eq_true rfl) dX5_decidesTurn_27 ⟨Nat.le_of_ble_eq_true rfl, Nat.le_of_ble_eq_true rfl⟩ ?_
  refine lv_aload_n hx hb dX5_decidesTurn_30 rfl (lv_at hl 1 rfl) ?_
  refine lv_iload_n hx hb dX5_decidesTurn_31 rfl (lv_at hl 2 rfl) ?_
  refine xr_V (q := (RX5, TX5, 14)) (ci := 9) (q0 := 0) (rest := [.float (fX5_fy ys ib)]) (As := [.int ia]) ⟨hx, hb, hml, hown, hts⟩ (ct5_fy l D m1 m2 m3 m4 m5 m6 m7 kI kJ xs ys held la lb lc th pm rm on cl un ze lm ia oia bx by_) (cwV 1 hts gl_X5_85 rfl rfl rfl (by decide +kernel) ⟨Nat.le_of_ble_eq_true rfl, Nat.le_of_ble_eq_true rfl⟩) nN_mv hN hK hP [0, 1, 2, 3, 4, 5, 6] [0, 1] rfl rfl rfl rfl rfl hl.1 rfl (Nat.le_of_ble_eq_true rfl) dX5_decidesTurn_32 ⟨Nat.le_of_ble_eq_true rfl, Nat.le_of_ble_eq_true rfl⟩ ?_
  refine lv_fsub hx hb dX5_decidesTurn_35 (mg_n (K := 142) (mg_sub (K := 140) (mg_fy by_) (mg_fy by_) (by decide)) (by decide)) ?_
  refine lv_aload_n hx hb dX5_decidesTurn_36 rfl (lv_at hl 1 rfl) ?_
  refine lv_iload_n hx hb dX5_decidesTurn_37 rfl (lv_at hl 4 rfl) ?_
  refine xr_V (q := (RX5, TX5, 14)) (ci := 9) (q0 := 0) (rest := [.float (FP.fsub (fX5_fy ys ib) (fX5_fy ys ia))]) (As := [.int ic]) ⟨hx, hb, hml, hown, hts⟩ (ct5_fx l D m1 m2 m3 m4 m5 m6 m7 kI kJ xs ys held la lb lc th pm rm on cl un ze lm ic oic bx by_) (cwV 1 hts gl_X5_77 rfl rfl rfl (by decide +kernel) ⟨Nat.le_of_ble_eq_true rfl, Nat.le_of_ble_eq_true rfl⟩) nN_mv hN hK hP [0, 1, 2, 3, 4, 5, 6] [0, 1] rfl rfl rfl rfl rfl hl.1 rfl (Nat.le_of_ble_eq_true rfl) dX5_decidesTurn_38 ⟨Nat.le_of_ble_eq_true rfl, Nat.le_of_ble_eq_true rfl⟩ ?_
  refine lv_aload_n hx hb dX5_decidesTurn_41 rfl (lv_at hl 1 rfl) ?_
  refine lv_iload_n hx hb dX5_decidesTurn_42 rfl (lv_at hl 2 rfl) ?_
  refine xr_V (q := (RX5, TX5, 14)) (ci := 9) (q0 := 0) (rest := [.float (fX5_fx xs ic), .float (FP.fsub (fX5_fy ys ib) (fX5_fy ys ia))]) (As := [.int ia]) ⟨hx, hb, hml, hown, hts⟩ (ct5_fx l D m1 m2 m3 m4 m5 m6 m7 kI kJ xs ys held la lb lc th pm rm on cl un ze lm ia oia bx by_) (cwV 1 hts gl_X5_77 rfl rfl rfl (by decide +kernel) ⟨Nat.le_of_ble_eq_true rfl, Nat.le_of_ble_eq_true rfl⟩) nN_mv hN hK hP [0, 1, 2, 3, 4, 5, 6] [0, 1] rfl rfl rfl rfl rfl hl.1 rfl (Nat.le_of_ble_eq_true rfl) dX5_decidesTurn_43 ⟨Nat.le_of_ble_eq_true rfl, Nat.le_of_ble_eq_true rfl⟩ ?_
  refine lv_fsub hx hb dX5_decidesTurn_46 (mg_n (K := 142) (mg_sub (K := 140) (mg_fx bx) (mg_fx bx) (by decide)) (by decide)) ?_
  refine lv_fmul hx hb dX5_decidesTurn_47 (mg_n (K := 158) (mg_mul (K := 142) (L := 142) (mg_sub (K := 140) (mg_fy by_) (mg_fy by_) (by decide)) (mg_sub (K := 140) (mg_fx bx) (mg_fx bx) (by decide)) (by decide) (by decide)) (by decide)) ?_
  refine lv_topf (fun z2 ez2 => ?_)
  refine lv_fstore (lv' := [(5, .float z2), (4, .float z1), (0, .ref m1), (1, .int ia), (2, .int ib), (3, .int ic)]) hx hb dX5_decidesTurn_48 hl (by decide) rfl (fun ls hl => ?_)
  refine lv_fload hx hb dX5_decidesTurn_50 (lv_at hl 1 rfl) ?_
  refine lv_fload hx hb dX5_decidesTurn_52 (lv_at hl 0 rfl) ?_
  refine lv_fsub hx hb dX5_decidesTurn_54 (mg_n (K := 160) (mg_sub (K := 158) (by rw [ez1]; exact (mg_mul (K := 142) (L := 142) (mg_sub (K := 140) (mg_fx bx) (mg_fx bx) (by decide)) (mg_sub (K := 140) (mg_fy by_) (mg_fy by_) (by decide)) (by decide) (by decide))) (by rw [ez2]; exact (mg_mul (K := 142) (L := 142) (mg_sub (K := 140) (mg_fy by_) (mg_fy by_) (by decide)) (mg_sub (K := 140) (mg_fx bx) (mg_fx bx) (by decide)) (by decide) (by decide))) (by decide)) (by decide)) ?_
  refine lv_fstore (lv' := [(6, .float (FP.fsub z1 z2)), (5, .float z2), (4, .float z1), (0, .ref m1), (1, .int ia), (2, .int ib), (3, .int ic)]) hx hb dX5_decidesTurn_55 hl (by decide) rfl (fun ls hl => ?_)
  refine lv_aload_n hx hb dX5_decidesTurn_57 rfl (lv_at hl 3 rfl) ?_
  refine lv_iload_n hx hb dX5_decidesTurn_58 rfl (lv_at hl 4 rfl) ?_
  refine lv_iload_n hx hb dX5_decidesTurn_59 rfl (lv_at hl 5 rfl) ?_
  refine lv_iload_n hx hb dX5_decidesTurn_60 rfl (lv_at hl 6 rfl) ?_
  refine xr_V (q := (RX5, TX5, 14)) (ci := 9) (q0 := 0) (rest := []) (As := [.int ia, .int ib, .int ic]) ⟨hx, hb, hml, hown, hts⟩ (ct5_most l D m1 m2 m3 m4 m5 m6 m7 kI kJ xs ys held la lb lc th pm rm on cl un ze lm ia ib ic oia oib oic bx by_) (cwV 3 hts gl_X5_92 rfl rfl rfl (by decide +kernel) ⟨Nat.le_of_ble_eq_true rfl, Nat.le_of_ble_eq_true rfl⟩) nN_mv hN hK hP [0, 1, 2, 3, 4, 5, 6] [0, 1] rfl rfl rfl rfl rfl hl.1 rfl (Nat.le_of_ble_eq_true rfl) dX5_decidesTurn_61 ⟨Nat.le_of_ble_eq_true rfl, Nat.le_of_ble_eq_true rfl⟩ ?_
  refine lv_fstore (lv' := [(7, .float (fX5_most xs ys ia ib ic)), (6, .float (FP.fsub z1 z2)), (5, .float z2), (4, .float z1), (0, .ref m1), (1, .int ia), (2, .int ib), (3, .int ic)]) hx hb dX5_decidesTurn_64 hl (by decide) rfl (fun ls hl => ?_)
  refine lv_fload hx hb dX5_decidesTurn_66 (lv_at hl 0 rfl) ?_
  refine lv_fload hx hb dX5_decidesTurn_68 (lv_at hl 0 rfl) ?_
  refine lv_fmul hx hb dX5_decidesTurn_70 (mg_n (K := 154) (mg_mul (K := 140) (L := 140) (mg_most bx by_) (mg_most bx by_) (by decide) (by decide)) (by decide)) ?_
  refine lv_ldcf (v := 914358272) hx hb hown (hts _ kf_X5_96) dX5_decidesTurn_71 ?_
  refine lv_fmul hx hb dX5_decidesTurn_73 (mg_n (K := 138) (mg_mul (K := 154) (L := 110) (mg_mul (K := 140) (L := 140) (mg_most bx by_) (mg_most bx by_) (by decide) (by decide)) mg_k18 (by decide) (by decide)) (by decide)) ?_
  refine lv_topf (fun z3 ez3 => ?_)
  refine lv_fstore (lv' := [(8, .float z3), (7, .float (fX5_most xs ys ia ib ic)), (6, .float (FP.fsub z1 z2)), (5, .float z2), (4, .float z1), (0, .ref m1), (1, .int ia), (2, .int ib), (3, .int ic)]) hx hb dX5_decidesTurn_74 hl (by decide) rfl (fun ls hl => ?_)
  refine lv_fload hx hb dX5_decidesTurn_76 (lv_at hl 2 rfl) ?_
  refine xr_S (rest := []) (As := [.float (FP.fsub z1 z2)]) ⟨hx, hb, hml, hown, hts⟩ (ct5_size_ l D  (FP.fsub z1 z2) ) (va_cwS 1 hts gl_X5_81 rfl rfl rfl (by decide +kernel) ⟨Nat.le_of_ble_eq_true rfl, Nat.le_of_ble_eq_true rfl⟩) nN_mv hN hK hP [] [] rfl rfl rfl hl.1 rfl (Nat.le_of_ble_eq_true rfl) dX5_decidesTurn_78 ⟨Nat.le_of_ble_eq_true rfl, Nat.le_of_ble_eq_true rfl⟩ ?_
  refine lv_fload hx hb dX5_decidesTurn_81 (lv_at hl 0 rfl) ?_
  refine lv_fcmp hx hb dX5_decidesTurn_83 ?_
  refine lv_if_le (tgt := 91) hx hb dX5_decidesTurn_84 (by decide) (fun c4 => ?_) (fun c4 => ?_)
  · refine lv_iconst (v := 0) hx hb dX5_decidesTurn_91 (by decide) ?_
    subst ez3 ez2 ez1
    exact W.zret (v := (0 : Int32)) hx hb hr rfl (fun t ht hW => ⟨by rw [show fX5_decidesTurn xs ys ia ib ic = (0 : Int32) by unfold fX5_decidesTurn; rw [if_pos c4]], ht⟩) (fun _ h => absurd h List.not_mem_nil) dX5_decidesTurn_92
  · refine lv_iconst (v := 1) hx hb dX5_decidesTurn_87 (by decide) ?_
    refine lv_goto (tgt := 92) hx hb dX5_decidesTurn_88 (by decide) ?_
    subst ez3 ez2 ez1
    exact W.zret (v := (1 : Int32)) hx hb hr rfl (fun t ht hW => ⟨by rw [show fX5_decidesTurn xs ys ia ib ic = (1 : Int32) by unfold fX5_decidesTurn; rw [if_neg c4]], ht⟩) (fun _ h => absurd h List.not_mem_nil) dX5_decidesTurn_92
def fX5_decidesRing (xs ys : Nat → Int32) (ia : Int32) (ib : Int32) (ic : Int32) (id : Int32) : Int32 := if (Op.cmpValue (FP.fcmp (fX5_size_ (FP.fadd (FP.fadd (FP.fmul (FP.fadd (FP.fmul (FP.fsub (fX5_fx xs ia) (fX5_fx xs id)) (FP.fsub (fX5_fx xs ia) (fX5_fx xs id))) (FP.fmul (FP.fsub (fX5_fy ys ia) (fX5_fy ys id)) (FP.fsub (fX5_fy ys ia) (fX5_fy ys id)))) (FP.fsub (FP.fmul (FP.fsub (fX5_fx xs ib) (fX5_fx xs id)) (FP.fsub (fX5_fy ys ic) (fX5_fy ys id))) (FP.fmul (FP.fsub (fX5_fy ys ib) (fX5_fy ys id)) (FP.fsub (fX5_fx xs ic) (fX5_fx xs id))))) (FP.fmul (FP.fadd (FP.fmul (FP.fsub (fX5_fx xs ib) (fX5_fx xs id)) (FP.fsub (fX5_fx xs ib) (fX5_fx xs id))) (FP.fmul (FP.fsub (fX5_fy ys ib) (fX5_fy ys id)) (FP.fsub (fX5_fy ys ib) (fX5_fy ys id)))) (FP.fsub (FP.fmul (FP.fsub (fX5_fx xs ic) (fX5_fx xs id)) (FP.fsub (fX5_fy ys ia) (fX5_fy ys id))) (FP.fmul (FP.fsub (fX5_fy ys ic) (fX5_fy ys id)) (FP.fsub (fX5_fx xs ia) (fX5_fx xs id)))))) (FP.fmul (FP.fadd (FP.fmul (FP.fsub (fX5_fx xs ic) (fX5_fx xs id)) (FP.fsub (fX5_fx xs ic) (fX5_fx xs id))) (FP.fmul (FP.fsub (fX5_fy ys ic) (fX5_fy ys id)) (FP.fsub (fX5_fy ys ic) (fX5_fy ys id)))) (FP.fsub (FP.fmul (FP.fsub (fX5_fx xs ia) (fX5_fx xs id)) (FP.fsub (fX5_fy ys ib) (fX5_fy ys id))) (FP.fmul (FP.fsub (fX5_fy ys ia) (fX5_fy ys id)) (FP.fsub (fX5_fx xs ib) (fX5_fx xs id))))))) (FP.fmul (FP.fmul (FP.fmul (fX5_greater (fX5_most xs ys ia ib ic) (fX5_greater (fX5_size_ (fX5_fx xs id)) (fX5_size_ (fX5_fy ys id)))) (fX5_greater (fX5_most xs ys ia ib ic) (fX5_greater (fX5_size_ (fX5_fx xs id)) (fX5_size_ (fX5_fy ys id))))) (FP.fmul (fX5_greater (fX5_most xs ys ia ib ic) (fX5_greater (fX5_size_ (fX5_fx xs id)) (fX5_size_ (fX5_fy ys id)))) (fX5_greater (fX5_most xs ys ia ib ic) (fX5_greater (fX5_size_ (fX5_fx xs id)) (fX5_size_ (fX5_fy ys id)))))) (964689920 : UInt32))) .l) ≤ (0 : Int32) then ((0 : Int32)) else ((1 : Int32))
set_option maxHeartbeats 4000000 in
set_option maxRecDepth 100000 in
theorem ct5_decidesRing (l : Launch) (D : va_G) (m1 m2 m3 m4 m5 m6 m7 : Nat) (kI kJ : ClassId) (xs ys held : Nat → Int32) (la lb lc : Nat → Int64) (th pm rm on cl un ze lm : Int32) (ia : Int32) (ib : Int32) (ic : Int32) (id : Int32) (oia : vp_in ia 60) (oib : vp_in ib 60) (oic : vp_in ic 60) (oid : vp_in id 60) (bx : bd xs) (by_ : bd ys) : Met l yX5_decidesRing (Cond.code yX5_decidesRing cX5_decidesRing 17 (some .boolean) :: BY) ({ frames := 2, cells := 0, slots := 0, locals := 120 }) (xr_P nN D vwCl [(kI, .int), (kJ, .long)] (wMo m1 m2 m3 m4 m5 m6 m7 kI kJ xs ys held la lb lc th pm rm on cl un ze lm) [.ref m1, .int ia, .int ib, .int ic, .int id]) (xr_Q (.int (fX5_decidesRing xs ys ia ib ic id))) 0 0 (fun _ => False) := by
  refine Met.ofW (cc := cX5_decidesRing) (maxL := 17) (ret := (some .boolean)) (by decide) rfl ?_
  intro p e s m args below meth c s₁ B hml hv
  obtain ⟨rfl, hP, hK, hN⟩ := hv
  have hx := B.exec
  have hb := B.bytes
  have hr := B.returns
  have hts0 := atoms_spec (ws := Cond.code yX5_decidesRing cX5_decidesRing 17 (some .boolean) :: BY) B.pre
  have hts : ∀ w ∈ BY, w.before _ s = true := fun w h => hts0 w (List.mem_cons_of_mem _ h)
  have hown : s.vm.findClass RX5 = some m.cls := findClass_of_methodNamed B.named
  have hlocks := B.notSynchronized
  have hl := lv_entry ([.ref m1, .int ia, .int ib, .int ic, .int id]) (n := 17) (Nat.le_of_ble_eq_true rfl)
  rw [lg_entry_eq]
  generalize (lg_sl ([.ref m1, .int ia, .int ib, .int ic, .int id]) ++ List.replicate (17 - (lg_sl ([.ref m1, .int ia, .int ib, .int ic, .int id])).length) Slot.unset).toArray = ls at hl ⊢
  have hl : lv_has ls 17 [(0, .ref m1), (1, .int ia), (2, .int ib), (3, .int ic), (4, .int id)] := hl
  refine lv_aload_n hx hb dX5_decidesRing_0 rfl (lv_at hl 0 rfl) ?_
  refine lv_iload_n hx hb dX5_decidesRing_1 rfl (lv_at hl 1 rfl) ?_
  refine xr_V (q := (RX5, TX5, 14)) (ci := 9) (q0 := 0) (rest := []) (As := [.int ia]) ⟨hx, hb, hml, hown, hts⟩ (ct5_fx l D m1 m2 m3 m4 m5 m6 m7 kI kJ xs ys held la lb lc th pm rm on cl un ze lm ia oia bx by_) (cwV 1 hts gl_X5_77 rfl rfl rfl (by decide +kernel) ⟨Nat.le_of_ble_eq_true rfl, Nat.le_of_ble_eq_true rfl⟩) nN_mv hN hK hP [0, 1, 2, 3, 4, 5, 6] [0, 1] rfl rfl rfl rfl rfl hl.1 rfl (Nat.le_of_ble_eq_true rfl) dX5_decidesRing_2 ⟨Nat.le_of_ble_eq_true rfl, Nat.le_of_ble_eq_true rfl⟩ ?_
  refine lv_aload_n hx hb dX5_decidesRing_5 rfl (lv_at hl 0 rfl) ?_
  refine lv_iload hx hb dX5_decidesRing_6 (lv_at hl 4 rfl) ?_
  refine xr_V (q := (RX5, TX5, 14)) (ci := 9) (q0 := 0) (rest := [.float (fX5_fx xs ia)]) (As := [.int id]) ⟨hx, hb, hml, hown, hts⟩ (ct5_fx l D m1 m2 m3 m4 m5 m6 m7 kI kJ xs ys held la lb lc th pm rm on cl un ze lm id oid bx by_) (cwV 1 hts gl_X5_77 rfl rfl rfl (by decide +kernel) ⟨Nat.le_of_ble_eq_true rfl, Nat.le_of_ble_eq_true rfl⟩) nN_mv hN hK hP [0, 1, 2, 3, 4, 5, 6] [0, 1] rfl rfl rfl rfl rfl hl.1 rfl (Nat.le_of_ble_eq_true rfl) dX5_decidesRing_8 ⟨Nat.le_of_ble_eq_true rfl, Nat.le_of_ble_eq_true rfl⟩ ?_
  refine lv_fsub hx hb dX5_decidesRing_11 (mg_n (K := 142) (mg_sub (K := 140) (mg_fx bx) (mg_fx bx) (by decide)) (by decide)) ?_
  refine lv_topf (fun z1 ez1 => ?_)
  refine lv_fstore (lv' := [(5, .float z1), (0, .ref m1), (1, .int ia), (2, .int ib), (3, .int ic), (4, .int id)]) hx hb dX5_decidesRing_12 hl (by decide) rfl (fun ls hl => ?_)
  refine lv_aload_n hx hb dX5_decidesRing_14 rfl (lv_at hl 1 rfl) ?_
  refine lv_iload_n hx hb dX5_decidesRing_15 rfl (lv_at hl 2 rfl) ?_
  refine xr_V (q := (RX5, TX5, 14)) (ci := 9) (q0 := 0) (rest := []) (As := [.int ia]) ⟨hx, hb, hml, hown, hts⟩ (ct5_fy l D m1 m2 m3 m4 m5 m6 m7 kI kJ xs ys held la lb lc th pm rm on cl un ze lm ia oia bx by_) (cwV 1 hts gl_X5_85 rfl rfl rfl (by decide +kernel) ⟨Nat.le_of_ble_eq_true rfl, Nat.le_of_ble_eq_true rfl⟩) nN_mv hN hK hP [0, 1, 2, 3, 4, 5, 6] [0, 1] rfl rfl rfl rfl rfl hl.1 rfl (Nat.le_of_ble_eq_true rfl) dX5_decidesRing_16 ⟨Nat.le_of_ble_eq_true rfl, Nat.le_of_ble_eq_true rfl⟩ ?_
  refine lv_aload_n hx hb dX5_decidesRing_19 rfl (lv_at hl 1 rfl) ?_
  refine lv_iload hx hb dX5_decidesRing_20 (lv_at hl 5 rfl) ?_
  refine xr_V (q := (RX5, TX5, 14)) (ci := 9) (q0 := 0) (rest := [.float (fX5_fy ys ia)]) (As := [.int id]) ⟨hx, hb, hml, hown, hts⟩ (ct5_fy l D m1 m2 m3 m4 m5 m6 m7 kI kJ xs ys held la lb lc th pm rm on cl un ze lm id oid bx by_) (cwV 1 hts gl_X5_85 rfl rfl rfl (by decide +kernel) ⟨Nat.le_of_ble_eq_true rfl, Nat.le_of_ble_eq_true rfl⟩) nN_mv hN hK hP [0, 1, 2, 3, 4, 5, 6] [0, 1] rfl rfl rfl rfl rfl hl.1 rfl (Nat.le_of_ble_eq_true rfl) dX5_decidesRing_22 ⟨Nat.le_of_ble_eq_true rfl, Nat.le_of_ble_eq_true rfl⟩ ?_
  refine lv_fsub hx hb dX5_decidesRing_25 (mg_n (K := 142) (mg_sub (K := 140) (mg_fy by_) (mg_fy by_) (by decide)) (by decide)) ?_
  refine lv_topf (fun z2 ez2 => ?_)
  refine lv_fstore (lv' := [(6, .float z2), (5, .float z1), (0, .ref m1), (1, .int ia), (2, .int ib), (3, .int ic), (4, .int id)]) hx hb dX5_decidesRing_26 hl (by decide) rfl (fun ls hl => ?_)
  refine lv_aload_n hx hb dX5_decidesRing_28 rfl (lv_at hl 2 rfl) ?_
  refine lv_iload_n hx hb dX5_decidesRing_29 rfl (lv_at hl 4 rfl) ?_
  refine xr_V (q := (RX5, TX5, 14)) (ci := 9) (q0 := 0) (rest := []) (As := [.int ib]) ⟨hx, hb, hml, hown, hts⟩ (ct5_fx l D m1 m2 m3 m4 m5 m6 m7 kI kJ xs ys held la lb lc th pm rm on cl un ze lm ib oib bx by_) (cwV 1 hts gl_X5_77 rfl rfl rfl (by decide +kernel) ⟨Nat.le_of_ble_eq_true rfl, Nat.le_of_ble_eq_true rfl⟩) nN_mv hN hK hP [0, 1, 2, 3, 4, 5, 6] [0, 1] rfl rfl rfl rfl rfl hl.1 rfl (Nat.le_of_ble_eq_true rfl) dX5_decidesRing_30 ⟨Nat.le_of_ble_eq_true rfl, Nat.le_of_ble_eq_true rfl⟩ ?_
  refine lv_aload_n hx hb dX5_decidesRing_33 rfl (lv_at hl 2 rfl) ?_
  refine lv_iload hx hb dX5_decidesRing_34 (lv_at hl 6 rfl) ?_
  refine xr_V (q := (RX5, TX5, 14)) (ci := 9) (q0 := 0) (rest := [.float (fX5_fx xs ib)]) (As := [.int id]) ⟨hx, hb, hml, hown, hts⟩ (ct5_fx l D m1 m2 m3 m4 m5 m6 m7 kI kJ xs ys held la lb lc th pm rm on cl un ze lm id oid bx by_) (cwV 1 hts gl_X5_77 rfl rfl rfl (by decide +kernel) ⟨Nat.le_of_ble_eq_true rfl, Nat.le_of_ble_eq_true rfl⟩) nN_mv hN hK hP [0, 1, 2, 3, 4, 5, 6] [0, 1] rfl rfl rfl rfl rfl hl.1 rfl (Nat.le_of_ble_eq_true rfl) dX5_decidesRing_36 ⟨Nat.le_of_ble_eq_true rfl, Nat.le_of_ble_eq_true rfl⟩ ?_
  refine lv_fsub hx hb dX5_decidesRing_39 (mg_n (K := 142) (mg_sub (K := 140) (mg_fx bx) (mg_fx bx) (by decide)) (by decide)) ?_
  refine lv_topf (fun z3 ez3 => ?_)
  refine lv_fstore (lv' := [(7, .float z3), (6, .float z2), (5, .float z1), (0, .ref m1), (1, .int ia), (2, .int ib), (3, .int ic), (4, .int id)]) hx hb dX5_decidesRing_40 hl (by decide) rfl (fun ls hl => ?_)
  refine lv_aload_n hx hb dX5_decidesRing_42 rfl (lv_at hl 3 rfl) ?_
  refine lv_iload_n hx hb dX5_decidesRing_43 rfl (lv_at hl 5 rfl) ?_
  refine xr_V (q := (RX5, TX5, 14)) (ci := 9) (q0 := 0) (rest := []) (As := [.int ib]) ⟨hx, hb, hml, hown, hts⟩ (ct5_fy l D m1 m2 m3 m4 m5 m6 m7 kI kJ xs ys held la lb lc th pm rm on cl un ze lm ib oib bx by_) (cwV 1 hts gl_X5_85 rfl rfl rfl (by decide +kernel) ⟨Nat.le_of_ble_eq_true rfl, Nat.le_of_ble_eq_true rfl⟩) nN_mv hN hK hP [0, 1, 2, 3, 4, 5, 6] [0, 1] rfl rfl rfl rfl rfl hl.1 rfl (Nat.le_of_ble_eq_true rfl) dX5_decidesRing_44 ⟨Nat.le_of_ble_eq_true rfl, Nat.le_of_ble_eq_true rfl⟩ ?_
  refine lv_aload_n hx hb dX5_decidesRing_47 rfl (lv_at hl 3 rfl) ?_
  refine lv_iload hx hb dX5_decidesRing_48 (lv_at hl 7 rfl) ?_
  refine xr_V (q := (RX5, TX5, 14)) (ci := 9) (q0 := 0) (rest := [.float (fX5_fy ys ib)]) (As := [.int id]) ⟨hx, hb, hml, hown, hts⟩ (ct5_fy l D m1 m2 m3 m4 m5 m6 m7 kI kJ xs ys held la lb lc th pm rm on cl un ze lm id oid bx by_) (cwV 1 hts gl_X5_85 rfl rfl rfl (by decide +kernel) ⟨Nat.le_of_ble_eq_true rfl, Nat.le_of_ble_eq_true rfl⟩) nN_mv hN hK hP [0, 1, 2, 3, 4, 5, 6] [0, 1] rfl rfl rfl rfl rfl hl.1 rfl (Nat.le_of_ble_eq_true rfl) dX5_decidesRing_50 ⟨Nat.le_of_ble_eq_true rfl, Nat.le_of_ble_eq_true rfl⟩ ?_
  refine lv_fsub hx hb dX5_decidesRing_53 (mg_n (K := 142) (mg_sub (K := 140) (mg_fy by_) (mg_fy by_) (by decide)) (by decide)) ?_
  refine lv_topf (fun z4 ez4 => ?_)
  refine lv_fstore (lv' := [(8, .float z4), (7, .float z3), (6, .float z2), (5, .float z1), (0, .ref m1), (1, .int ia), (2, .int ib), (3, .int ic), (4, .int id)]) hx hb dX5_decidesRing_54 hl (by decide) rfl (fun ls hl => ?_)
  refine lv_aload_n hx hb dX5_decidesRing_56 rfl (lv_at hl 4 rfl) ?_
  refine lv_iload_n hx hb dX5_decidesRing_57 rfl (lv_at hl 7 rfl) ?_
  refine xr_V (q := (RX5, TX5, 14)) (ci := 9) (q0 := 0) (rest := []) (As := [.int ic]) ⟨hx, hb, hml, hown, hts⟩ (ct5_fx l D m1 m2 m3 m4 m5 m6 m7 kI kJ xs ys held la lb lc th pm rm on cl un ze lm ic oic bx by_) (cwV 1 hts gl_X5_77 rfl rfl rfl (by decide +kernel) ⟨Nat.le_of_ble_eq_true rfl, Nat.le_of_ble_eq_true rfl⟩) nN_mv hN hK hP [0, 1, 2, 3, 4, 5, 6] [0, 1] rfl rfl rfl rfl rfl hl.1 rfl (Nat.le_of_ble_eq_true rfl) dX5_decidesRing_58 ⟨Nat.le_of_ble_eq_true rfl, Nat.le_of_ble_eq_true rfl⟩ ?_
  refine lv_aload_n hx hb dX5_decidesRing_61 rfl (lv_at hl 4 rfl) ?_
  refine lv_iload hx hb dX5_decidesRing_62 (lv_at hl 8 rfl) ?_
  refine xr_V (q := (RX5, TX5, 14)) (ci := 9) (q0 := 0) (rest := [.float (fX5_fx xs ic)]) (As := [.int id]) ⟨hx, hb, hml, hown, hts⟩ (ct5_fx l D m1 m2 m3 m4 m5 m6 m7 kI kJ xs ys held la lb lc th pm rm on cl un ze lm id oid bx by_) (cwV 1 hts gl_X5_77 rfl rfl rfl (by decide +kernel) ⟨Nat.le_of_ble_eq_true rfl, Nat.le_of_ble_eq_true rfl⟩) nN_mv hN hK hP [0, 1, 2, 3, 4, 5, 6] [0, 1] rfl rfl rfl rfl rfl hl.1 rfl (Nat.le_of_ble_eq_true rfl) dX5_decidesRing_64 ⟨Nat.le_of_ble_eq_true rfl, Nat.le_of_ble_eq_true rfl⟩ ?_
  refine lv_fsub hx hb dX5_decidesRing_67 (mg_n (K := 142) (mg_sub (K := 140) (mg_fx bx) (mg_fx bx) (by decide)) (by decide)) ?_
  refine lv_topf (fun z5 ez5 => ?_)
  refine lv_fstore (lv' := [(9, .float z5), (8, .float z4), (7, .float z3), (6, .float z2), (5, .float z1), (0, .ref m1), (1, .int ia), (2, .int ib), (3, .int ic), (4, .int id)]) hx hb dX5_decidesRing_68 hl (by decide) rfl (fun ls hl => ?_)
  refine lv_aload_n hx hb dX5_decidesRing_70 rfl (lv_at hl 5 rfl) ?_
  refine lv_iload_n hx hb dX5_decidesRing_71 rfl (lv_at hl 8 rfl) ?_
  refine xr_V (q := (RX5, TX5, 14)) (ci := 9) (q0 := 0) (rest := []) (As := [.int ic]) ⟨hx, hb, hml, hown, hts⟩ (ct5_fy l D m1 m2 m3 m4 m5 m6 m7 kI kJ xs ys held la lb lc th pm rm on cl un ze lm ic oic bx by_) (cwV 1 hts gl_X5_85 rfl rfl rfl (by decide +kernel) ⟨Nat.le_of_ble_eq_true rfl, Nat.le_of_ble_eq_true rfl⟩) nN_mv hN hK hP [0, 1, 2, 3, 4, 5, 6] [0, 1] rfl rfl rfl rfl rfl hl.1 rfl (Nat.le_of_ble_eq_true rfl) dX5_decidesRing_72 ⟨Nat.le_of_ble_eq_true rfl, Nat.le_of_ble_eq_true rfl⟩ ?_
  refine lv_aload_n hx hb dX5_decidesRing_75 rfl (lv_at hl 5 rfl) ?_
  refine lv_iload hx hb dX5_decidesRing_76 (lv_at hl 9 rfl) ?_
  refine xr_V (q := (RX5, TX5, 14)) (ci := 9) (q0 := 0) (rest := [.float (fX5_fy ys ic)]) (As := [.int id]) ⟨hx, hb, hml, hown, hts⟩ (ct5_fy l D m1 m2 m3 m4 m5 m6 m7 kI kJ xs ys held la lb lc th pm rm on cl un ze lm id oid bx by_) (cwV 1 hts gl_X5_85 rfl rfl rfl (by decide +kernel) ⟨Nat.le_of_ble_eq_true rfl, Nat.le_of_ble_eq_true rfl⟩) nN_mv hN hK hP [0, 1, 2, 3, 4, 5, 6] [0, 1] rfl rfl rfl rfl rfl hl.1 rfl (Nat.le_of_ble_eq_true rfl) dX5_decidesRing_78 ⟨Nat.le_of_ble_eq_true rfl, Nat.le_of_ble_eq_true rfl⟩ ?_
  refine lv_fsub hx hb dX5_decidesRing_81 (mg_n (K := 142) (mg_sub (K := 140) (mg_fy by_) (mg_fy by_) (by decide)) (by decide)) ?_
  refine lv_topf (fun z6 ez6 => ?_)
  refine lv_fstore (lv' := [(10, .float z6), (9, .float z5), (8, .float z4), (7, .float z3), (6, .float z2), (5, .float z1), (0, .ref m1), (1, .int ia), (2, .int ib), (3, .int ic), (4, .int id)]) hx hb dX5_decidesRing_82 hl (by decide) rfl (fun ls hl => ?_)
  refine lv_fload hx hb dX5_decidesRing_84 (lv_at hl 5 rfl) ?_
  refine lv_fload hx hb dX5_decidesRing_86 (lv_at hl 5 rfl) ?_
  refine lv_fmul hx hb dX5_decidesRing_88 (mg_n (K := 158) (mg_mul (K := 142) (L := 142) (by rw [ez1]; exact (mg_sub (K := 140) (mg_fx bx) (mg_fx bx) (by decide))) (by rw [ez1]; exact (mg_sub (K := 140) (mg_fx bx) (mg_fx bx) (by decide))) (by decide) (by decide)) (by decide)) ?_
  refine lv_fload hx hb dX5_decidesRing_89 (lv_at hl 4 rfl) ?_
  refine lv_fload hx hb dX5_decidesRing_91 (lv_at hl 4 rfl) ?_
  refine lv_fmul hx hb dX5_decidesRing_93 (mg_n (K := 158) (mg_mul (K := 142) (L := 142) (by rw [ez2]; exact (mg_sub (K := 140) (mg_fy by_) (mg_fy by_) (by decide))) (by rw [ez2]; exact (mg_sub (K := 140) (mg_fy by_) (mg_fy by_) (by decide))) (by decide) (by decide)) (by decide)) ?_
  refine lv_fadd hx hb dX5_decidesRing_94 (mg_n (K := 160) (mg_add (K := 158) (mg_mul (K := 142) (L := 142) (by rw [ez1]; exact (mg_sub (K := 140) (mg_fx bx) (mg_fx bx) (by decide))) (by rw [ez1]; exact (mg_sub (K := 140) (mg_fx bx) (mg_fx bx) (by decide))) (by decide) (by decide)) (mg_mul (K := 142) (L := 142) (by rw [ez2]; exact (mg_sub (K := 140) (mg_fy by_) (mg_fy by_) (by decide))) (by rw [ez2]; exact (mg_sub (K := 140) (mg_fy by_) (mg_fy by_) (by decide))) (by decide) (by decide)) (by decide)) (by decide)) ?_
  refine lv_topf (fun z7 ez7 => ?_)
  refine lv_fstore (lv' := [(11, .float z7), (10, .float z6), (9, .float z5), (8, .float z4), (7, .float z3), (6, .float z2), (5, .float z1), (0, .ref m1), (1, .int ia), (2, .int ib), (3, .int ic), (4, .int id)]) hx hb dX5_decidesRing_95 hl (by decide) rfl (fun ls hl => ?_)
  refine lv_fload hx hb dX5_decidesRing_97 (lv_at hl 4 rfl) ?_
  refine lv_fload hx hb dX5_decidesRing_99 (lv_at hl 4 rfl) ?_
  refine lv_fmul hx hb dX5_decidesRing_101 (mg_n (K := 158) (mg_mul (K := 142) (L := 142) (by rw [ez3]; exact (mg_sub (K := 140) (mg_fx bx) (mg_fx bx) (by decide))) (by rw [ez3]; exact (mg_sub (K := 140) (mg_fx bx) (mg_fx bx) (by decide))) (by decide) (by decide)) (by decide)) ?_
  refine lv_fload hx hb dX5_decidesRing_102 (lv_at hl 3 rfl) ?_
  refine lv_fload hx hb dX5_decidesRing_104 (lv_at hl 3 rfl) ?_
  refine lv_fmul hx hb dX5_decidesRing_106 (mg_n (K := 158) (mg_mul (K := 142) (L := 142) (by rw [ez4]; exact (mg_sub (K := 140) (mg_fy by_) (mg_fy by_) (by decide))) (by rw [ez4]; exact (mg_sub (K := 140) (mg_fy by_) (mg_fy by_) (by decide))) (by decide) (by decide)) (by decide)) ?_
  refine lv_fadd hx hb dX5_decidesRing_107 (mg_n (K := 160) (mg_add (K := 158) (mg_mul (K := 142) (L := 142) (by rw [ez3]; exact (mg_sub (K := 140) (mg_fx bx) (mg_fx bx) (by decide))) (by rw [ez3]; exact (mg_sub (K := 140) (mg_fx bx) (mg_fx bx) (by decide))) (by decide) (by decide)) (mg_mul (K := 142) (L := 142) (by rw [ez4]; exact (mg_sub (K := 140) (mg_fy by_) (mg_fy by_) (by decide))) (by rw [ez4]; exact (mg_sub (K := 140) (mg_fy by_) (mg_fy by_) (by decide))) (by decide) (by decide)) (by decide)) (by decide)) ?_
  refine lv_topf (fun z8 ez8 => ?_)
  refine lv_fstore (lv' := [(12, .float z8), (11, .float z7), (10, .float z6), (9, .float z5), (8, .float z4), (7, .float z3), (6, .float z2), (5, .float z1), (0, .ref m1), (1, .int ia), (2, .int ib), (3, .int ic), (4, .int id)]) hx hb dX5_decidesRing_108 hl (by decide) rfl (fun ls hl => ?_)
  refine lv_fload hx hb dX5_decidesRing_110 (lv_at hl 3 rfl) ?_
  refine lv_fload hx hb dX5_decidesRing_112 (lv_at hl 3 rfl) ?_
  refine lv_fmul hx hb dX5_decidesRing_114 (mg_n (K := 158) (mg_mul (K := 142) (L := 142) (by rw [ez5]; exact (mg_sub (K := 140) (mg_fx bx) (mg_fx bx) (by decide))) (by rw [ez5]; exact (mg_sub (K := 140) (mg_fx bx) (mg_fx bx) (by decide))) (by decide) (by decide)) (by decide)) ?_
  refine lv_fload hx hb dX5_decidesRing_115 (lv_at hl 2 rfl) ?_
  refine lv_fload hx hb dX5_decidesRing_117 (lv_at hl 2 rfl) ?_
  refine lv_fmul hx hb dX5_decidesRing_119 (mg_n (K := 158) (mg_mul (K := 142) (L := 142) (by rw [ez6]; exact (mg_sub (K := 140) (mg_fy by_) (mg_fy by_) (by decide))) (by rw [ez6]; exact (mg_sub (K := 140) (mg_fy by_) (mg_fy by_) (by decide))) (by decide) (by decide)) (by decide)) ?_
  refine lv_fadd hx hb dX5_decidesRing_120 (mg_n (K := 160) (mg_add (K := 158) (mg_mul (K := 142) (L := 142) (by rw [ez5]; exact (mg_sub (K := 140) (mg_fx bx) (mg_fx bx) (by decide))) (by rw [ez5]; exact (mg_sub (K := 140) (mg_fx bx) (mg_fx bx) (by decide))) (by decide) (by decide)) (mg_mul (K := 142) (L := 142) (by rw [ez6]; exact (mg_sub (K := 140) (mg_fy by_) (mg_fy by_) (by decide))) (by rw [ez6]; exact (mg_sub (K := 140) (mg_fy by_) (mg_fy by_) (by decide))) (by decide) (by decide)) (by decide)) (by decide)) ?_
  refine lv_topf (fun z9 ez9 => ?_)
  refine lv_fstore (lv' := [(13, .float z9), (12, .float z8), (11, .float z7), (10, .float z6), (9, .float z5), (8, .float z4), (7, .float z3), (6, .float z2), (5, .float z1), (0, .ref m1), (1, .int ia), (2, .int ib), (3, .int ic), (4, .int id)]) hx hb dX5_decidesRing_121 hl (by decide) rfl (fun ls hl => ?_)
  refine lv_fload hx hb dX5_decidesRing_123 (lv_at hl 2 rfl) ?_
  refine lv_fload hx hb dX5_decidesRing_125 (lv_at hl 6 rfl) ?_
  refine lv_fload hx hb dX5_decidesRing_127 (lv_at hl 3 rfl) ?_
  refine lv_fmul hx hb dX5_decidesRing_129 (mg_n (K := 158) (mg_mul (K := 142) (L := 142) (by rw [ez3]; exact (mg_sub (K := 140) (mg_fx bx) (mg_fx bx) (by decide))) (by rw [ez6]; exact (mg_sub (K := 140) (mg_fy by_) (mg_fy by_) (by decide))) (by decide) (by decide)) (by decide)) ?_
  refine lv_fload hx hb dX5_decidesRing_130 (lv_at hl 5 rfl) ?_
  refine lv_fload hx hb dX5_decidesRing_132 (lv_at hl 4 rfl) ?_
  refine lv_fmul hx hb dX5_decidesRing_134 (mg_n (K := 158) (mg_mul (K := 142) (L := 142) (by rw [ez4]; exact (mg_sub (K := 140) (mg_fy by_) (mg_fy by_) (by decide))) (by rw [ez5]; exact (mg_sub (K := 140) (mg_fx bx) (mg_fx bx) (by decide))) (by decide) (by decide)) (by decide)) ?_
  refine lv_fsub hx hb dX5_decidesRing_135 (mg_n (K := 160) (mg_sub (K := 158) (mg_mul (K := 142) (L := 142) (by rw [ez3]; exact (mg_sub (K := 140) (mg_fx bx) (mg_fx bx) (by decide))) (by rw [ez6]; exact (mg_sub (K := 140) (mg_fy by_) (mg_fy by_) (by decide))) (by decide) (by decide)) (mg_mul (K := 142) (L := 142) (by rw [ez4]; exact (mg_sub (K := 140) (mg_fy by_) (mg_fy by_) (by decide))) (by rw [ez5]; exact (mg_sub (K := 140) (mg_fx bx) (mg_fx bx) (by decide))) (by decide) (by decide)) (by decide)) (by decide)) ?_
  refine lv_fmul hx hb dX5_decidesRing_136 (mg_n (K := 194) (mg_mul (K := 160) (L := 160) (by rw [ez7]; exact (mg_add (K := 158) (mg_mul (K := 142) (L := 142) (by rw [ez1]; exact (mg_sub (K := 140) (mg_fx bx) (mg_fx bx) (by decide))) (by rw [ez1]; exact (mg_sub (K := 140) (mg_fx bx) (mg_fx bx) (by decide))) (by decide) (by decide)) (mg_mul (K := 142) (L := 142) (by rw [ez2]; exact (mg_sub (K := 140) (mg_fy by_) (mg_fy by_) (by decide))) (by rw [ez2]; exact (mg_sub (K := 140) (mg_fy by_) (mg_fy by_) (by decide))) (by decide) (by decide)) (by decide))) (mg_sub (K := 158) (mg_mul (K := 142) (L := 142) (by rw [ez3]; exact (mg_sub (K := 140) (mg_fx bx) (mg_fx bx) (by decide))) (by rw [ez6]; exact (mg_sub (K := 140) (mg_fy by_) (mg_fy by_) (by decide))) (by decide) (by decide)) (mg_mul (K := 142) (L := 142) (by rw [ez4]; exact (mg_sub (K := 140) (mg_fy by_) (mg_fy by_) (by decide))) (by rw [ez5]; exact (mg_sub (K := 140) (mg_fx bx) (mg_fx bx) (by decide))) (by decide) (by decide)) (by decide)) (by decide) (by decide)) (by decide)) ?_
  refine lv_fload hx hb dX5_decidesRing_137 (lv_at hl 1 rfl) ?_
  refine lv_fload hx hb dX5_decidesRing_139 (lv_at hl 4 rfl) ?_
  refine lv_fload hx hb dX5_decidesRing_141 (lv_at hl 7 rfl) ?_
  refine lv_fmul hx hb dX5_decidesRing_143 (mg_n (K := 158) (mg_mul (K := 142) (L := 142) (by rw [ez5]; exact (mg_sub (K := 140) (mg_fx bx) (mg_fx bx) (by decide))) (by rw [ez2]; exact (mg_sub (K := 140) (mg_fy by_) (mg_fy by_) (by decide))) (by decide) (by decide)) (by decide)) ?_
  refine lv_fload hx hb dX5_decidesRing_144 (lv_at hl 3 rfl) ?_
  refine lv_fload hx hb dX5_decidesRing_146 (lv_at hl 8 rfl) ?_
  refine lv_fmul hx hb dX5_decidesRing_148 (mg_n (K := 158) (mg_mul (K := 142) (L := 142) (by rw [ez6]; exact (mg_sub (K := 140) (mg_fy by_) (mg_fy by_) (by decide))) (by rw [ez1]; exact (mg_sub (K := 140) (mg_fx bx) (mg_fx bx) (by decide))) (by decide) (by decide)) (by decide)) ?_
  refine lv_fsub hx hb dX5_decidesRing_149 (mg_n (K := 160) (mg_sub (K := 158) (mg_mul (K := 142) (L := 142) (by rw [ez5]; exact (mg_sub (K := 140) (mg_fx bx) (mg_fx bx) (by decide))) (by rw [ez2]; exact (mg_sub (K := 140) (mg_fy by_) (mg_fy by_) (by decide))) (by decide) (by decide)) (mg_mul (K := 142) (L := 142) (by rw [ez6]; exact (mg_sub (K := 140) (mg_fy by_) (mg_fy by_) (by decide))) (by rw [ez1]; exact (mg_sub (K := 140) (mg_fx bx) (mg_fx bx) (by decide))) (by decide) (by decide)) (by decide)) (by decide)) ?_
  refine lv_fmul hx hb dX5_decidesRing_150 (mg_n (K := 194) (mg_mul (K := 160) (L := 160) (by rw [ez8]; exact (mg_add (K := 158) (mg_mul (K := 142) (L := 142) (by rw [ez3]; exact (mg_sub (K := 140) (mg_fx bx) (mg_fx bx) (by decide))) (by rw [ez3]; exact (mg_sub (K := 140) (mg_fx bx) (mg_fx bx) (by decide))) (by decide) (by decide)) (mg_mul (K := 142) (L := 142) (by rw [ez4]; exact (mg_sub (K := 140) (mg_fy by_) (mg_fy by_) (by decide))) (by rw [ez4]; exact (mg_sub (K := 140) (mg_fy by_) (mg_fy by_) (by decide))) (by decide) (by decide)) (by decide))) (mg_sub (K := 158) (mg_mul (K := 142) (L := 142) (by rw [ez5]; exact (mg_sub (K := 140) (mg_fx bx) (mg_fx bx) (by decide))) (by rw [ez2]; exact (mg_sub (K := 140) (mg_fy by_) (mg_fy by_) (by decide))) (by decide) (by decide)) (mg_mul (K := 142) (L := 142) (by rw [ez6]; exact (mg_sub (K := 140) (mg_fy by_) (mg_fy by_) (by decide))) (by rw [ez1]; exact (mg_sub (K := 140) (mg_fx bx) (mg_fx bx) (by decide))) (by decide) (by decide)) (by decide)) (by decide) (by decide)) (by decide)) ?_
  refine lv_fadd hx hb dX5_decidesRing_151 (mg_n (K := 196) (mg_add (K := 194) (mg_mul (K := 160) (L := 160) (by rw [ez7]; exact (mg_add (K := 158) (mg_mul (K := 142) (L := 142) (by rw [ez1]; exact (mg_sub (K := 140) (mg_fx bx) (mg_fx bx) (by decide))) (by rw [ez1]; exact (mg_sub (K := 140) (mg_fx bx) (mg_fx bx) (by decide))) (by decide) (by decide)) (mg_mul (K := 142) (L := 142) (by rw [ez2]; exact (mg_sub (K := 140) (mg_fy by_) (mg_fy by_) (by decide))) (by rw [ez2]; exact (mg_sub (K := 140) (mg_fy by_) (mg_fy by_) (by decide))) (by decide) (by decide)) (by decide))) (mg_sub (K := 158) (mg_mul (K := 142) (L := 142) (by rw [ez3]; exact (mg_sub (K := 140) (mg_fx bx) (mg_fx bx) (by decide))) (by rw [ez6]; exact (mg_sub (K := 140) (mg_fy by_) (mg_fy by_) (by decide))) (by decide) (by decide)) (mg_mul (K := 142) (L := 142) (by rw [ez4]; exact (mg_sub (K := 140) (mg_fy by_) (mg_fy by_) (by decide))) (by rw [ez5]; exact (mg_sub (K := 140) (mg_fx bx) (mg_fx bx) (by decide))) (by decide) (by decide)) (by decide)) (by decide) (by decide)) (mg_mul (K := 160) (L := 160) (by rw [ez8]; exact (mg_add (K := 158) (mg_mul (K := 142) (L := 142) (by rw [ez3]; exact (mg_sub (K := 140) (mg_fx bx) (mg_fx bx) (by decide))) (by rw [ez3]; exact (mg_sub (K := 140) (mg_fx bx) (mg_fx bx) (by decide))) (by decide) (by decide)) (mg_mul (K := 142) (L := 142) (by rw [ez4]; exact (mg_sub (K := 140) (mg_fy by_) (mg_fy by_) (by decide))) (by rw [ez4]; exact (mg_sub (K := 140) (mg_fy by_) (mg_fy by_) (by decide))) (by decide) (by decide)) (by decide))) (mg_sub (K := 158) (mg_mul (K := 142) (L := 142) (by rw [ez5]; exact (mg_sub (K := 140) (mg_fx bx) (mg_fx bx) (by decide))) (by rw [ez2]; exact (mg_sub (K := 140) (mg_fy by_) (mg_fy by_) (by decide))) (by decide) (by decide)) (mg_mul (K := 142) (L := 142) (by rw [ez6]; exact (mg_sub (K := 140) (mg_fy by_) (mg_fy by_) (by decide))) (by rw [ez1]; exact (mg_sub (K := 140) (mg_fx bx) (mg_fx bx) (by decide))) (by decide) (by decide)) (by decide)) (by decide) (by decide)) (by decide)) (by decide)) ?_
  refine lv_fload hx hb dX5_decidesRing_152 (lv_at hl 0 rfl) ?_
  refine lv_fload hx hb dX5_decidesRing_154 (lv_at hl 8 rfl) ?_
  refine lv_fload hx hb dX5_decidesRing_156 (lv_at hl 5 rfl) ?_
  refine lv_fmul hx hb dX5_decidesRing_158 (mg_n (K := 158) (mg_mul (K := 142) (L := 142) (by rw [ez1]; exact (mg_sub (K := 140) (mg_fx bx) (mg_fx bx) (by decide))) (by rw [ez4]; exact (mg_sub (K := 140) (mg_fy by_) (mg_fy by_) (by decide))) (by decide) (by decide)) (by decide)) ?_
  refine lv_fload hx hb dX5_decidesRing_159 (lv_at hl 7 rfl) ?_
  refine lv_fload hx hb dX5_decidesRing_161 (lv_at hl 6 rfl) ?_
  refine lv_fmul hx hb dX5_decidesRing_163 (mg_n (K := 158) (mg_mul (K := 142) (L := 142) (by rw [ez2]; exact (mg_sub (K := 140) (mg_fy by_) (mg_fy by_) (by decide))) (by rw [ez3]; exact (mg_sub (K := 140) (mg_fx bx) (mg_fx bx) (by decide))) (by decide) (by decide)) (by decide)) ?_
  refine lv_fsub hx hb dX5_decidesRing_164 (mg_n (K := 160) (mg_sub (K := 158) (mg_mul (K := 142) (L := 142) (by rw [ez1]; exact (mg_sub (K := 140) (mg_fx bx) (mg_fx bx) (by decide))) (by rw [ez4]; exact (mg_sub (K := 140) (mg_fy by_) (mg_fy by_) (by decide))) (by decide) (by decide)) (mg_mul (K := 142) (L := 142) (by rw [ez2]; exact (mg_sub (K := 140) (mg_fy by_) (mg_fy by_) (by decide))) (by rw [ez3]; exact (mg_sub (K := 140) (mg_fx bx) (mg_fx bx) (by decide))) (by decide) (by decide)) (by decide)) (by decide)) ?_
  refine lv_fmul hx hb dX5_decidesRing_165 (mg_n (K := 194) (mg_mul (K := 160) (L := 160) (by rw [ez9]; exact (mg_add (K := 158) (mg_mul (K := 142) (L := 142) (by rw [ez5]; exact (mg_sub (K := 140) (mg_fx bx) (mg_fx bx) (by decide))) (by rw [ez5]; exact (mg_sub (K := 140) (mg_fx bx) (mg_fx bx) (by decide))) (by decide) (by decide)) (mg_mul (K := 142) (L := 142) (by rw [ez6]; exact (mg_sub (K := 140) (mg_fy by_) (mg_fy by_) (by decide))) (by rw [ez6]; exact (mg_sub (K := 140) (mg_fy by_) (mg_fy by_) (by decide))) (by decide) (by decide)) (by decide))) (mg_sub (K := 158) (mg_mul (K := 142) (L := 142) (by rw [ez1]; exact (mg_sub (K := 140) (mg_fx bx) (mg_fx bx) (by decide))) (by rw [ez4]; exact (mg_sub (K := 140) (mg_fy by_) (mg_fy by_) (by decide))) (by decide) (by decide)) (mg_mul (K := 142) (L := 142) (by rw [ez2]; exact (mg_sub (K := 140) (mg_fy by_) (mg_fy by_) (by decide))) (by rw [ez3]; exact (mg_sub (K := 140) (mg_fx bx) (mg_fx bx) (by decide))) (by decide) (by decide)) (by decide)) (by decide) (by decide)) (by decide)) ?_
  refine lv_fadd hx hb dX5_decidesRing_166 (mg_n (K := 198) (mg_add (K := 196) (mg_add (K := 194) (mg_mul (K := 160) (L := 160) (by rw [ez7]; exact (mg_add (K := 158) (mg_mul (K := 142) (L := 142) (by rw [ez1]; exact (mg_sub (K := 140) (mg_fx bx) (mg_fx bx) (by decide))) (by rw [ez1]; exact (mg_sub (K := 140) (mg_fx bx) (mg_fx bx) (by decide))) (by decide) (by decide)) (mg_mul (K := 142) (L := 142) (by rw [ez2]; exact (mg_sub (K := 140) (mg_fy by_) (mg_fy by_) (by decide))) (by rw [ez2]; exact (mg_sub (K := 140) (mg_fy by_) (mg_fy by_) (by decide))) (by decide) (by decide)) (by decide))) (mg_sub (K := 158) (mg_mul (K := 142) (L := 142) (by rw [ez3]; exact (mg_sub (K := 140) (mg_fx bx) (mg_fx bx) (by decide))) (by rw [ez6]; exact (mg_sub (K := 140) (mg_fy by_) (mg_fy by_) (by decide))) (by decide) (by decide)) (mg_mul (K := 142) (L := 142) (by rw [ez4]; exact (mg_sub (K := 140) (mg_fy by_) (mg_fy by_) (by decide))) (by rw [ez5]; exact (mg_sub (K := 140) (mg_fx bx) (mg_fx bx) (by decide))) (by decide) (by decide)) (by decide)) (by decide) (by decide)) (mg_mul (K := 160) (L := 160) (by rw [ez8]; exact (mg_add (K := 158) (mg_mul (K := 142) (L := 142) (by rw [ez3]; exact (mg_sub (K := 140) (mg_fx bx) (mg_fx bx) (by decide))) (by rw [ez3]; exact (mg_sub (K := 140) (mg_fx bx) (mg_fx bx) (by decide))) (by decide) (by decide)) (mg_mul (K := 142) (L := 142) (by rw [ez4]; exact (mg_sub (K := 140) (mg_fy by_) (mg_fy by_) (by decide))) (by rw [ez4]; exact (mg_sub (K := 140) (mg_fy by_) (mg_fy by_) (by decide))) (by decide) (by decide)) (by decide))) (mg_sub (K := 158) (mg_mul (K := 142) (L := 142) (by rw [ez5]; exact (mg_sub (K := 140) (mg_fx bx) (mg_fx bx) (by decide))) (by rw [ez2]; exact (mg_sub (K := 140) (mg_fy by_) (mg_fy by_) (by decide))) (by decide) (by decide)) (mg_mul (K := 142) (L := 142) (by rw [ez6]; exact (mg_sub (K := 140) (mg_fy by_) (mg_fy by_) (by decide))) (by rw [ez1]; exact (mg_sub (K := 140) (mg_fx bx) (mg_fx bx) (by decide))) (by decide) (by decide)) (by decide)) (by decide) (by decide)) (by decide)) (mg_le (mg_mul (K := 160) (L := 160) (by rw [ez9]; exact (mg_add (K := 158) (mg_mul (K := 142) (L := 142) (by rw [ez5]; exact (mg_sub (K := 140) (mg_fx bx) (mg_fx bx) (by decide))) (by rw [ez5]; exact (mg_sub (K := 140) (mg_fx bx) (mg_fx bx) (by decide))) (by decide) (by decide)) (mg_mul (K := 142) (L := 142) (by rw [ez6]; exact (mg_sub (K := 140) (mg_fy by_) (mg_fy by_) (by decide))) (by rw [ez6]; exact (mg_sub (K := 140) (mg_fy by_) (mg_fy by_) (by decide))) (by decide) (by decide)) (by decide))) (mg_sub (K := 158) (mg_mul (K := 142) (L := 142) (by rw [ez1]; exact (mg_sub (K := 140) (mg_fx bx) (mg_fx bx) (by decide))) (by rw [ez4]; exact (mg_sub (K := 140) (mg_fy by_) (mg_fy by_) (by decide))) (by decide) (by decide)) (mg_mul (K := 142) (L := 142) (by rw [ez2]; exact (mg_sub (K := 140) (mg_fy by_) (mg_fy by_) (by decide))) (by rw [ez3]; exact (mg_sub (K := 140) (mg_fx bx) (mg_fx bx) (by decide))) (by decide) (by decide)) (by decide)) (by decide) (by decide)) (by decide)) (by decide)) (by decide)) ?_
  refine lv_topf (fun z10 ez10 => ?_)
  refine lv_fstore (lv' := [(14, .float z10), (13, .float z9), (12, .float z8), (11, .float z7), (10, .float z6), (9, .float z5), (8, .float z4), (7, .float z3), (6, .float z2), (5, .float z1), (0, .ref m1), (1, .int ia), (2, .int ib), (3, .int ic), (4, .int id)]) hx hb dX5_decidesRing_167 hl (by decide) rfl (fun ls hl => ?_)
  refine lv_aload_n hx hb dX5_decidesRing_169 rfl (lv_at hl 10 rfl) ?_
  refine lv_iload_n hx hb dX5_decidesRing_170 rfl (lv_at hl 11 rfl) ?_
  refine lv_iload_n hx hb dX5_decidesRing_171 rfl (lv_at hl 12 rfl) ?_
  refine lv_iload_n hx hb dX5_decidesRing_172 rfl (lv_at hl 13 rfl) ?_
  refine xr_V (q := (RX5, TX5, 14)) (ci := 9) (q0 := 0) (rest := []) (As := [.int ia, .int ib, .int ic]) ⟨hx, hb, hml, hown, hts⟩ (ct5_most l D m1 m2 m3 m4 m5 m6 m7 kI kJ xs ys held la lb lc th pm rm on cl un ze lm ia ib ic oia oib oic bx by_) (cwV 3 hts gl_X5_92 rfl rfl rfl (by decide +kernel) ⟨Nat.le_of_ble_eq_true rfl, Nat.le_of_ble_eq_true rfl⟩) nN_mv hN hK hP [0, 1, 2, 3, 4, 5, 6] [0, 1] rfl rfl rfl rfl rfl hl.1 rfl (Nat.le_of_ble_eq_true rfl) dX5_decidesRing_173 ⟨Nat.le_of_ble_eq_true rfl, Nat.le_of_ble_eq_true rfl⟩ ?_
  refine lv_aload_n hx hb dX5_decidesRing_176 rfl (lv_at hl 10 rfl) ?_
  refine lv_iload hx hb dX5_decidesRing_177 (lv_at hl 14 rfl) ?_
  refine xr_V (q := (RX5, TX5, 14)) (ci := 9) (q0 := 0) (rest := [.float (fX5_most xs ys ia ib ic)]) (As := [.int id]) ⟨hx, hb, hml, hown, hts⟩ (ct5_fx l D m1 m2 m3 m4 m5 m6 m7 kI kJ xs ys held la lb lc th pm rm on cl un ze lm id oid bx by_) (cwV 1 hts gl_X5_77 rfl rfl rfl (by decide +kernel) ⟨Nat.le_of_ble_eq_true rfl, Nat.le_of_ble_eq_true rfl⟩) nN_mv hN hK hP [0, 1, 2, 3, 4, 5, 6] [0, 1] rfl rfl rfl rfl rfl hl.1 rfl (Nat.le_of_ble_eq_true rfl) dX5_decidesRing_179 ⟨Nat.le_of_ble_eq_true rfl, Nat.le_of_ble_eq_true rfl⟩ ?_
  refine xr_S (rest := [.float (fX5_most xs ys ia ib ic)]) (As := [.float (fX5_fx xs id)]) ⟨hx, hb, hml, hown, hts⟩ (ct5_size_ l D  (fX5_fx xs id) ) (va_cwS 1 hts gl_X5_81 rfl rfl rfl (by decide +kernel) ⟨Nat.le_of_ble_eq_true rfl, Nat.le_of_ble_eq_true rfl⟩) nN_mv hN hK hP [] [] rfl rfl rfl hl.1 rfl (Nat.le_of_ble_eq_true rfl) dX5_decidesRing_182 ⟨Nat.le_of_ble_eq_true rfl, Nat.le_of_ble_eq_true rfl⟩ ?_
  refine lv_aload_n hx hb dX5_decidesRing_185 rfl (lv_at hl 10 rfl) ?_
  refine lv_iload hx hb dX5_decidesRing_186 (lv_at hl 14 rfl) ?_
  refine xr_V (q := (RX5, TX5, 14)) (ci := 9) (q0 := 0) (rest := [.float (fX5_size_ (fX5_fx xs id)), .float (fX5_most xs ys ia ib ic)]) (As := [.int id]) ⟨hx, hb, hml, hown, hts⟩ (ct5_fy l D m1 m2 m3 m4 m5 m6 m7 kI kJ xs ys held la lb lc th pm rm on cl un ze lm id oid bx by_) (cwV 1 hts gl_X5_85 rfl rfl rfl (by decide +kernel) ⟨Nat.le_of_ble_eq_true rfl, Nat.le_of_ble_eq_true rfl⟩) nN_mv hN hK hP [0, 1, 2, 3, 4, 5, 6] [0, 1] rfl rfl rfl rfl rfl hl.1 rfl (Nat.le_of_ble_eq_true rfl) dX5_decidesRing_188 ⟨Nat.le_of_ble_eq_true rfl, Nat.le_of_ble_eq_true rfl⟩ ?_
  refine xr_S (rest := [.float (fX5_size_ (fX5_fx xs id)), .float (fX5_most xs ys ia ib ic)]) (As := [.float (fX5_fy ys id)]) ⟨hx, hb, hml, hown, hts⟩ (ct5_size_ l D  (fX5_fy ys id) ) (va_cwS 1 hts gl_X5_81 rfl rfl rfl (by decide +kernel) ⟨Nat.le_of_ble_eq_true rfl, Nat.le_of_ble_eq_true rfl⟩) nN_mv hN hK hP [] [] rfl rfl rfl hl.1 rfl (Nat.le_of_ble_eq_true rfl) dX5_decidesRing_191 ⟨Nat.le_of_ble_eq_true rfl, Nat.le_of_ble_eq_true rfl⟩ ?_
  refine xr_S (rest := [.float (fX5_most xs ys ia ib ic)]) (As := [.float (fX5_size_ (fX5_fx xs id)), .float (fX5_size_ (fX5_fy ys id))]) ⟨hx, hb, hml, hown, hts⟩ (ct5_greater l D  (fX5_size_ (fX5_fx xs id)) (fX5_size_ (fX5_fy ys id)) ) (va_cwS 2 hts gl_X5_88 rfl rfl rfl (by decide +kernel) ⟨Nat.le_of_ble_eq_true rfl, Nat.le_of_ble_eq_true rfl⟩) nN_mv hN hK hP [] [] rfl rfl rfl hl.1 rfl (Nat.le_of_ble_eq_true rfl) dX5_decidesRing_194 ⟨Nat.le_of_ble_eq_true rfl, Nat.le_of_ble_eq_true rfl⟩ ?_
  refine xr_S (rest := []) (As := [.float (fX5_most xs ys ia ib ic), .float (fX5_greater (fX5_size_ (fX5_fx xs id)) (fX5_size_ (fX5_fy ys id)))]) ⟨hx, hb, hml, hown, hts⟩ (ct5_greater l D  (fX5_most xs ys ia ib ic) (fX5_greater (fX5_size_ (fX5_fx xs id)) (fX5_size_ (fX5_fy ys id))) ) (va_cwS 2 hts gl_X5_88 rfl rfl rfl (by decide +kernel) ⟨Nat.le_of_ble_eq_true rfl, Nat.le_of_ble_eq_true rfl⟩) nN_mv hN hK hP [] [] rfl rfl rfl hl.1 rfl (Nat.le_of_ble_eq_true rfl) dX5_decidesRing_197 ⟨Nat.le_of_ble_eq_true rfl, Nat.le_of_ble_eq_true rfl⟩ ?_
  refine lv_topf (fun z11 ez11 => ?_)
  refine lv_fstore (lv' := [(15, .float z11), (14, .float z10), (13, .float z9), (12, .float z8), (11, .float z7), (10, .float z6), (9, .float z5), (8, .float z4), (7, .float z3), (6, .float z2), (5, .float z1), (0, .ref m1), (1, .int ia), (2, .int ib), (3, .int ic), (4, .int id)]) hx hb dX5_decidesRing_200 hl (by decide) rfl (fun ls hl => ?_)
  refine lv_fload hx hb dX5_decidesRing_202 (lv_at hl 0 rfl) ?_
  refine lv_fload hx hb dX5_decidesRing_204 (lv_at hl 0 rfl) ?_
  refine lv_fmul hx hb dX5_decidesRing_206 (mg_n (K := 154) (mg_mul (K := 140) (L := 140) (by rw [ez11]; exact (mg_greater (mg_most bx by_) (mg_greater (mg_size (mg_fx bx)) (mg_size (mg_fy by_))))) (by rw [ez11]; exact (mg_greater (mg_most bx by_) (mg_greater (mg_size (mg_fx bx)) (mg_size (mg_fy by_))))) (by decide) (by decide)) (by decide)) ?_
  refine lv_fload hx hb dX5_decidesRing_207 (lv_at hl 0 rfl) ?_
  refine lv_fload hx hb dX5_decidesRing_209 (lv_at hl 0 rfl) ?_
  refine lv_fmul hx hb dX5_decidesRing_211 (mg_n (K := 154) (mg_mul (K := 140) (L := 140) (by rw [ez11]; exact (mg_greater (mg_most bx by_) (mg_greater (mg_size (mg_fx bx)) (mg_size (mg_fy by_))))) (by rw [ez11]; exact (mg_greater (mg_most bx by_) (mg_greater (mg_size (mg_fx bx)) (mg_size (mg_fy by_))))) (by decide) (by decide)) (by decide)) ?_
  refine lv_fmul hx hb dX5_decidesRing_212 (mg_n (K := 182) (mg_mul (K := 154) (L := 154) (mg_mul (K := 140) (L := 140) (by rw [ez11]; exact (mg_greater (mg_most bx by_) (mg_greater (mg_size (mg_fx bx)) (mg_size (mg_fy by_))))) (by rw [ez11]; exact (mg_greater (mg_most bx by_) (mg_greater (mg_size (mg_fx bx)) (mg_size (mg_fy by_))))) (by decide) (by decide)) (mg_mul (K := 140) (L := 140) (by rw [ez11]; exact (mg_greater (mg_most bx by_) (mg_greater (mg_size (mg_fx bx)) (mg_size (mg_fy by_))))) (by rw [ez11]; exact (mg_greater (mg_most bx by_) (mg_greater (mg_size (mg_fx bx)) (mg_size (mg_fy by_))))) (by decide) (by decide)) (by decide) (by decide)) (by decide)) ?_
  refine lv_ldcf (v := 964689920) hx hb hown (hts _ kf_X5_97) dX5_decidesRing_213 ?_
  refine lv_fmul hx hb dX5_decidesRing_215 (mg_n (K := 172) (mg_mul (K := 182) (L := 116) (mg_mul (K := 154) (L := 154) (mg_mul (K := 140) (L := 140) (by rw [ez11]; exact (mg_greater (mg_most bx by_) (mg_greater (mg_size (mg_fx bx)) (mg_size (mg_fy by_))))) (by rw [ez11]; exact (mg_greater (mg_most bx by_) (mg_greater (mg_size (mg_fx bx)) (mg_size (mg_fy by_))))) (by decide) (by decide)) (mg_mul (K := 140) (L := 140) (by rw [ez11]; exact (mg_greater (mg_most bx by_) (mg_greater (mg_size (mg_fx bx)) (mg_size (mg_fy by_))))) (by rw [ez11]; exact (mg_greater (mg_most bx by_) (mg_greater (mg_size (mg_fx bx)) (mg_size (mg_fy by_))))) (by decide) (by decide)) (by decide) (by decide)) mg_k12 (by decide) (by decide)) (by decide)) ?_
  refine lv_topf (fun z12 ez12 => ?_)
  refine lv_fstore (lv' := [(16, .float z12), (15, .float z11), (14, .float z10), (13, .float z9), (12, .float z8), (11, .float z7), (10, .float z6), (9, .float z5), (8, .float z4), (7, .float z3), (6, .float z2), (5, .float z1), (0, .ref m1), (1, .int ia), (2, .int ib), (3, .int ic), (4, .int id)]) hx hb dX5_decidesRing_216 hl (by decide) rfl (fun ls hl => ?_)
  refine lv_fload hx hb dX5_decidesRing_218 (lv_at hl 2 rfl) ?_
  refine xr_S (rest := []) (As := [.float z10]) ⟨hx, hb, hml, hown, hts⟩ (ct5_size_ l D  z10 ) (va_cwS 1 hts gl_X5_81 rfl rfl rfl (by decide +kernel) ⟨Nat.le_of_ble_eq_true rfl, Nat.le_of_ble_eq_true rfl⟩) nN_mv hN hK hP [] [] rfl rfl rfl hl.1 rfl (Nat.le_of_ble_eq_true rfl) dX5_decidesRing_220 ⟨Nat.le_of_ble_eq_true rfl, Nat.le_of_ble_eq_true rfl⟩ ?_
  refine lv_fload hx hb dX5_decidesRing_223 (lv_at hl 0 rfl) ?_
  refine lv_fcmp hx hb dX5_decidesRing_225 ?_
  refine lv_if_le (tgt := 233) hx hb dX5_decidesRing_226 (by decide) (fun c13 => ?_) (fun c13 => ?_)
  · refine lv_iconst (v := 0) hx hb dX5_decidesRing_233 (by decide) ?_
    subst ez12 ez11 ez10 ez9 ez8 ez7 ez6 ez5 ez4 ez3 ez2 ez1
    exact W.zret (v := (0 : Int32)) hx hb hr rfl (fun t ht hW => ⟨by rw [show fX5_decidesRing xs ys ia ib ic id = (0 : Int32) by unfold fX5_decidesRing; rw [if_pos c13]], ht⟩) (fun _ h => absurd h List.not_mem_nil) dX5_decidesRing_234
  · refine lv_iconst (v := 1) hx hb dX5_decidesRing_229 (by decide) ?_
    refine lv_goto (tgt := 234) hx hb dX5_decidesRing_230 (by decide) ?_
    subst ez12 ez11 ez10 ez9 ez8 ez7 ez6 ez5 ez4 ez3 ez2 ez1
    exact W.zret (v := (1 : Int32)) hx hb hr rfl (fun t ht hW => ⟨by rw [show fX5_decidesRing xs ys ia ib ic id = (1 : Int32) by unfold fX5_decidesRing; rw [if_neg c13]], ht⟩) (fun _ h => absurd h List.not_mem_nil) dX5_decidesRing_234
def fX5_isOn (xs ys : Nat → Int32) (ia : Int32) (ib : Int32) (ip : Int32) : Int32 := if (fX5_turn xs ys ia ib ip) = (0 : Int32) then (if (fX5_areEqual xs ys ia ib) = (0 : Int32) then (if (0 : Int32) < (lg_cmp (fX5_along xs ys ip ia ib) (0 : Int64)) then ((0 : Int32)) else ((1 : Int32))) else (if (fX5_areEqual xs ys ia ip) = (0 : Int32) then ((0 : Int32)) else ((1 : Int32)))) else ((0 : Int32))
set_option maxHeartbeats 4000000 in
set_option maxRecDepth 100000 in
theorem ct5_isOn (l : Launch) (D : va_G) (m1 m2 m3 m4 m5 m6 m7 : Nat) (kI kJ : ClassId) (xs ys held : Nat → Int32) (la lb lc : Nat → Int64) (th pm rm on cl un ze lm : Int32) (ia : Int32) (ib : Int32) (ip : Int32) (oia : vp_in ia 60) (oib : vp_in ib 60) (oip : vp_in ip 60) : Met l yX5_isOn (Cond.code yX5_isOn cX5_isOn 4 (some .boolean) :: BY) ({ frames := 2, cells := 0, slots := 0, locals := 120 }) (xr_P nN D vwCl [(kI, .int), (kJ, .long)] (wMo m1 m2 m3 m4 m5 m6 m7 kI kJ xs ys held la lb lc th pm rm on cl un ze lm) [.ref m1, .int ia, .int ib, .int ip]) (xr_Q (.int (fX5_isOn xs ys ia ib ip))) 0 0 (fun _ => False) := by
  refine Met.ofW (cc := cX5_isOn) (maxL := 4) (ret := (some .boolean)) (by decide) rfl ?_
  intro p e s m args below meth c s₁ B hml hv
  obtain ⟨rfl, hP, hK, hN⟩ := hv
  have hx := B.exec
  have hb := B.bytes
  have hr := B.returns
  have hts0 := atoms_spec (ws := Cond.code yX5_isOn cX5_isOn 4 (some .boolean) :: BY) B.pre
  have hts : ∀ w ∈ BY, w.before _ s = true := fun w h => hts0 w (List.mem_cons_of_mem _ h)
  have hown : s.vm.findClass RX5 = some m.cls := findClass_of_methodNamed B.named
  have hlocks := B.notSynchronized
  have hl := lv_entry ([.ref m1, .int ia, .int ib, .int ip]) (n := 4) (Nat.le_of_ble_eq_true rfl)
  rw [lg_entry_eq]
  generalize (lg_sl ([.ref m1, .int ia, .int ib, .int ip]) ++ List.replicate (4 - (lg_sl ([.ref m1, .int ia, .int ib, .int ip])).length) Slot.unset).toArray = ls at hl ⊢
  have hl : lv_has ls 4 [(0, .ref m1), (1, .int ia), (2, .int ib), (3, .int ip)] := hl
  refine lv_aload_n hx hb dX5_isOn_0 rfl (lv_at hl 0 rfl) ?_
  refine lv_iload_n hx hb dX5_isOn_1 rfl (lv_at hl 1 rfl) ?_
  refine lv_iload_n hx hb dX5_isOn_2 rfl (lv_at hl 2 rfl) ?_
  refine lv_iload_n hx hb dX5_isOn_3 rfl (lv_at hl 3 rfl) ?_
  refine xr_V (q := (RX5, TX5, 14)) (ci := 9) (q0 := 0) (rest := []) (As := [.int ia, .int ib, .int ip]) ⟨hx, hb, hml, hown, hts⟩ (ct5_turn l D m1 m2 m3 m4 m5 m6 m7 kI kJ xs ys held la lb lc th pm rm on cl un ze lm ia ib ip oia oib oip) (cwV 3 hts gl_X5_58 rfl rfl rfl (by decide +kernel) ⟨Nat.le_of_ble_eq_true rfl, Nat.le_of_ble_eq_true rfl⟩) nN_mv hN hK hP [0, 1, 2, 3, 4, 5, 6] [0, 1] rfl rfl rfl rfl rfl hl.1 rfl (Nat.le_of_ble_eq_true rfl) dX5_isOn_4 ⟨Nat.le_of_ble_eq_true rfl, Nat.le_of_ble_eq_true rfl⟩ ?_
  refine lv_if_ne (tgt := 47) hx hb dX5_isOn_7 (by decide) (fun c1 => ?_) (fun c1 => ?_)
  · refine lv_iconst (v := 0) hx hb dX5_isOn_47 (by decide) ?_
    exact W.zret (v := (0 : Int32)) hx hb hr rfl (fun t ht hW => ⟨by rw [show fX5_isOn xs ys ia ib ip = (0 : Int32) by unfold fX5_isOn; rw [if_neg c1]], ht⟩) (fun _ h => absurd h List.not_mem_nil) dX5_isOn_48
  · refine lv_aload_n hx hb dX5_isOn_10 rfl (lv_at hl 0 rfl) ?_
    refine lv_iload_n hx hb dX5_isOn_11 rfl (lv_at hl 1 rfl) ?_
    refine lv_iload_n hx hb dX5_isOn_12 rfl (lv_at hl 2 rfl) ?_
    refine xr_V (q := (RX5, TX5, 14)) (ci := 9) (q0 := 0) (rest := []) (As := [.int ia, .int ib]) ⟨hx, hb, hml, hown, hts⟩ (ct5_areEqual l D m1 m2 m3 m4 m5 m6 m7 kI kJ xs ys held la lb lc th pm rm on cl un ze lm ia ib oia oib) (cwV 2 hts gl_X5_107 rfl rfl rfl (by decide +kernel) ⟨Nat.le_of_ble_eq_true rfl, Nat.le_of_ble_eq_true rfl⟩) nN_mv hN hK hP [0, 1, 2, 3, 4, 5, 6] [0, 1] rfl rfl rfl rfl rfl hl.1 rfl (Nat.le_of_ble_eq_true rfl) dX5_isOn_13 ⟨Nat.le_of_ble_eq_true rfl, Nat.le_of_ble_eq_true rfl⟩ ?_
    refine lv_if_eq (tgt := 31) hx hb dX5_isOn_16 (by decide) (fun c2 => ?_) (fun c2 => ?_)
    · refine lv_aload_n hx hb dX5_isOn_31 rfl (lv_at hl 0 rfl) ?_
      refine lv_iload_n hx hb dX5_isOn_32 rfl (lv_at hl 3 rfl) ?_
      refine lv_iload_n hx hb dX5_isOn_33 rfl (lv_at hl 1 rfl) ?_
      refine lv_iload_n hx hb dX5_isOn_34 rfl (lv_at hl 2 rfl) ?_
      refine xr_V (q := (RX5, TX5, 14)) (ci := 9) (q0 := 0) (rest := []) (As := [.int ip, .int ia, .int ib]) ⟨hx, hb, hml, hown, hts⟩ (ct5_along l D m1 m2 m3 m4 m5 m6 m7 kI kJ xs ys held la lb lc th pm rm on cl un ze lm ip ia ib oip oia oib) (cwV 3 hts gl_X5_127 rfl rfl rfl (by decide +kernel) ⟨Nat.le_of_ble_eq_true rfl, Nat.le_of_ble_eq_true rfl⟩) nN_mv hN hK hP [0, 1, 2, 3, 4, 5, 6] [0, 1] rfl rfl rfl rfl rfl hl.1 rfl (Nat.le_of_ble_eq_true rfl) dX5_isOn_35 ⟨Nat.le_of_ble_eq_true rfl, Nat.le_of_ble_eq_true rfl⟩ ?_
      refine lv_lconst (v := 0) hx hb dX5_isOn_38 (by decide) ?_
      refine W.lcmp hx hb dX5_isOn_39 ?_
      refine lv_if_gt (tgt := 47) hx hb dX5_isOn_40 (by decide) (fun c3 => ?_) (fun c3 => ?_)
      · refine lv_iconst (v := 0) hx hb dX5_isOn_47 (by decide) ?_
        exact W.zret (v := (0 : Int32)) hx hb hr rfl (fun t ht hW => ⟨by rw [show fX5_isOn xs ys ia ib ip = (0 : Int32) by unfold fX5_isOn; rw [if_pos c1, if_pos c2, if_pos c3]], ht⟩) (fun _ h => absurd h List.not_mem_nil) dX5_isOn_48
      · refine lv_iconst (v := 1) hx hb dX5_isOn_43 (by decide) ?_
        refine lv_goto (tgt := 48) hx hb dX5_isOn_44 (by decide) ?_
        exact W.zret (v := (1 : Int32)) hx hb hr rfl (fun t ht hW => ⟨by rw [show fX5_isOn xs ys ia ib ip = (1 : Int32) by unfold fX5_isOn; rw [if_pos c1, if_pos c2, if_neg c3]], ht⟩) (fun _ h => absurd h List.not_mem_nil) dX5_isOn_48
    · refine lv_aload_n hx hb dX5_isOn_19 rfl (lv_at hl 0 rfl) ?_
      refine lv_iload_n hx hb dX5_isOn_20 rfl (lv_at hl 1 rfl) ?_
      refine lv_iload_n hx hb dX5_isOn_21 rfl (lv_at hl 3 rfl) ?_
      refine xr_V (q := (RX5, TX5, 14)) (ci := 9) (q0 := 0) (rest := []) (As := [.int ia, .int ip]) ⟨hx, hb, hml, hown, hts⟩ (ct5_areEqual l D m1 m2 m3 m4 m5 m6 m7 kI kJ xs ys held la lb lc th pm rm on cl un ze lm ia ip oia oip) (cwV 2 hts gl_X5_107 rfl rfl rfl (by decide +kernel) ⟨Nat.le_of_ble_eq_true rfl, Nat.le_of_ble_eq_true rfl⟩) nN_mv hN hK hP [0, 1, 2, 3, 4, 5, 6] [0, 1] rfl rfl rfl rfl rfl hl.1 rfl (Nat.le_of_ble_eq_true rfl) dX5_isOn_22 ⟨Nat.le_of_ble_eq_true rfl, Nat.le_of_ble_eq_true rfl⟩ ?_
      refine lv_if_eq (tgt := 47) hx hb dX5_isOn_25 (by decide) (fun c4 => ?_) (fun c4 => ?_)
      · refine lv_iconst (v := 0) hx hb dX5_isOn_47 (by decide) ?_
        exact W.zret (v := (0 : Int32)) hx hb hr rfl (fun t ht hW => ⟨by rw [show fX5_isOn xs ys ia ib ip = (0 : Int32) by unfold fX5_isOn; rw [if_pos c1, if_neg c2, if_pos c4]], ht⟩) (fun _ h => absurd h List.not_mem_nil) dX5_isOn_48
      · refine lv_goto (tgt := 43) hx hb dX5_isOn_28 (by decide) ?_
        refine lv_iconst (v := 1) hx hb dX5_isOn_43 (by decide) ?_
        refine lv_goto (tgt := 48) hx hb dX5_isOn_44 (by decide) ?_
        exact W.zret (v := (1 : Int32)) hx hb hr rfl (fun t ht hW => ⟨by rw [show fX5_isOn xs ys ia ib ip = (1 : Int32) by unfold fX5_isOn; rw [if_pos c1, if_neg c2, if_neg c4]], ht⟩) (fun _ h => absurd h List.not_mem_nil) dX5_isOn_48
def fX5_isOneWay (xs ys : Nat → Int32) (ia : Int32) (ib : Int32) (ic : Int32) : Int32 := if (fX5_turn xs ys ia ib ic) = (0 : Int32) then (if (lg_cmp (fX5_along xs ys ia ib ic) (0 : Int64)) ≤ (0 : Int32) then ((0 : Int32)) else ((1 : Int32))) else ((0 : Int32))
set_option maxHeartbeats 4000000 in
set_option maxRecDepth 100000 in
theorem ct5_isOneWay (l : Launch) (D : va_G) (m1 m2 m3 m4 m5 m6 m7 : Nat) (kI kJ : ClassId) (xs ys held : Nat → Int32) (la lb lc : Nat → Int64) (th pm rm on cl un ze lm : Int32) (ia : Int32) (ib : Int32) (ic : Int32) (oia : vp_in ia 60) (oib : vp_in ib 60) (oic : vp_in ic 60) : Met l yX5_isOneWay (Cond.code yX5_isOneWay cX5_isOneWay 4 (some .boolean) :: BY) ({ frames := 2, cells := 0, slots := 0, locals := 120 }) (xr_P nN D vwCl [(kI, .int), (kJ, .long)] (wMo m1 m2 m3 m4 m5 m6 m7 kI kJ xs ys held la lb lc th pm rm on cl un ze lm) [.ref m1, .int ia, .int ib, .int ic]) (xr_Q (.int (fX5_isOneWay xs ys ia ib ic))) 0 0 (fun _ => False) := by
  refine Met.ofW (cc := cX5_isOneWay) (maxL := 4) (ret := (some .boolean)) (by decide) rfl ?_
  intro p e s m args below meth c s₁ B hml hv
  obtain ⟨rfl, hP, hK, hN⟩ := hv
  have hx := B.exec
  have hb := B.bytes
  have hr := B.returns
  have hts0 := atoms_spec (ws := Cond.code yX5_isOneWay cX5_isOneWay 4 (some .boolean) :: BY) B.pre
  have hts : ∀ w ∈ BY, w.before _ s = true := fun w h => hts0 w (List.mem_cons_of_mem _ h)
  have hown : s.vm.findClass RX5 = some m.cls := findClass_of_methodNamed B.named
  have hlocks := B.notSynchronized
  have hl := lv_entry ([.ref m1, .int ia, .int ib, .int ic]) (n := 4) (Nat.le_of_ble_eq_true rfl)
  rw [lg_entry_eq]
  generalize (lg_sl ([.ref m1, .int ia, .int ib, .int ic]) ++ List.replicate (4 - (lg_sl ([.ref m1, .int ia, .int ib, .int ic])).length) Slot.unset).toArray = ls at hl ⊢
  have hl : lv_has ls 4 [(0, .ref m1), (1, .int ia), (2, .int ib), (3, .int ic)] := hl
  refine lv_aload_n hx hb dX5_isOneWay_0 rfl (lv_at hl 0 rfl) ?_
  refine lv_iload_n hx hb dX5_isOneWay_1 rfl (lv_at hl 1 rfl) ?_
  refine lv_iload_n hx hb dX5_isOneWay_2 rfl (lv_at hl 2 rfl) ?_
  refine lv_iload_n hx hb dX5_isOneWay_3 rfl (lv_at hl 3 rfl) ?_
  refine xr_V (q := (RX5, TX5, 14)) (ci := 9) (q0 := 0) (rest := []) (As := [.int ia, .int ib, .int ic]) ⟨hx, hb, hml, hown, hts⟩ (ct5_turn l D m1 m2 m3 m4 m5 m6 m7 kI kJ xs ys held la lb lc th pm rm on cl un ze lm ia ib ic oia oib oic) (cwV 3 hts gl_X5_58 rfl rfl rfl (by decide +kernel) ⟨Nat.le_of_ble_eq_true rfl, Nat.le_of_ble_eq_true rfl⟩) nN_mv hN hK hP [0, 1, 2, 3, 4, 5, 6] [0, 1] rfl rfl rfl rfl rfl hl.1 rfl (Nat.le_of_ble_eq_true rfl) dX5_isOneWay_4 ⟨Nat.le_of_ble_eq_true rfl, Nat.le_of_ble_eq_true rfl⟩ ?_
  refine lv_if_ne (tgt := 26) hx hb dX5_isOneWay_7 (by decide) (fun c1 => ?_) (fun c1 => ?_)
  · refine lv_iconst (v := 0) hx hb dX5_isOneWay_26 (by decide) ?_
    exact W.zret (v := (0 : Int32)) hx hb hr rfl (fun t ht hW => ⟨by rw [show fX5_isOneWay xs ys ia ib ic = (0 : Int32) by unfold fX5_isOneWay; rw [if_neg c1]], ht⟩) (fun _ h => absurd h List.not_mem_nil) dX5_isOneWay_27
  · refine lv_aload_n hx hb dX5_isOneWay_10 rfl (lv_at hl 0 rfl) ?_
    refine lv_iload_n hx hb dX5_isOneWay_11 rfl (lv_at hl 1 rfl) ?_
    refine lv_iload_n hx hb dX5_isOneWay_12 rfl (lv_at hl 2 rfl) ?_
    refine lv_iload_n hx hb dX5_isOneWay_13 rfl (lv_at hl 3 rfl) ?_
    refine xr_V (q := (RX5, TX5, 14)) (ci := 9) (q0 := 0) (rest := []) (As := [.int ia, .int ib, .int ic]) ⟨hx, hb, hml, hown, hts⟩ (ct5_along l D m1 m2 m3 m4 m5 m6 m7 kI kJ xs ys held la lb lc th pm rm on cl un ze lm ia ib ic oia oib oic) (cwV 3 hts gl_X5_127 rfl rfl rfl (by decide +kernel) ⟨Nat.le_of_ble_eq_true rfl, Nat.le_of_ble_eq_true rfl⟩) nN_mv hN hK hP [0, 1, 2, 3, 4, 5, 6] [0, 1] rfl rfl rfl rfl rfl hl.1 rfl (Nat.le_of_ble_eq_true rfl) dX5_isOneWay_14 ⟨Nat.le_of_ble_eq_true rfl, Nat.le_of_ble_eq_true rfl⟩ ?_
    refine lv_lconst (v := 0) hx hb dX5_isOneWay_17 (by decide) ?_
    refine W.lcmp hx hb dX5_isOneWay_18 ?_
    refine lv_if_le (tgt := 26) hx hb dX5_isOneWay_19 (by decide) (fun c2 => ?_) (fun c2 => ?_)
    · refine lv_iconst (v := 0) hx hb dX5_isOneWay_26 (by decide) ?_
      exact W.zret (v := (0 : Int32)) hx hb hr rfl (fun t ht hW => ⟨by rw [show fX5_isOneWay xs ys ia ib ic = (0 : Int32) by unfold fX5_isOneWay; rw [if_pos c1, if_pos c2]], ht⟩) (fun _ h => absurd h List.not_mem_nil) dX5_isOneWay_27
    · refine lv_iconst (v := 1) hx hb dX5_isOneWay_22 (by decide) ?_
      refine lv_goto (tgt := 27) hx hb dX5_isOneWay_23 (by decide) ?_
      exact W.zret (v := (1 : Int32)) hx hb hr rfl (fun t ht hW => ⟨by rw [show fX5_isOneWay xs ys ia ib ic = (1 : Int32) by unfold fX5_isOneWay; rw [if_pos c1, if_neg c2]], ht⟩) (fun _ h => absurd h List.not_mem_nil) dX5_isOneWay_27
def fX5_common (xs ys : Nat → Int32) (ia : Int32) (ib : Int32) (ic : Int32) (id : Int32) : Int32 := if (fX5_isOn xs ys ia ib ic) = (0 : Int32) then (if (fX5_isOn xs ys ia ib id) = (0 : Int32) then (if (fX5_isOn xs ys ic id ia) = (0 : Int32) then (if (fX5_isOn xs ys ic id ib) = (0 : Int32) then (if (((((0 : Int32) + (0 : Int32)) + (0 : Int32)) + (0 : Int32)) + (0 : Int32)) ≤ (1 : Int32) then (((((0 : Int32) + (0 : Int32)) + (0 : Int32)) + (0 : Int32)) + (0 : Int32)) else ((2 : Int32))) else (if (fX5_areEqual xs ys ib ic) = (0 : Int32) then (if (fX5_areEqual xs ys ib id) = (0 : Int32) then (if (fX5_areEqual xs ys ia ib) = (0 : Int32) then (if (((((0 : Int32) + (0 : Int32)) + (0 : Int32)) + (0 : Int32)) + (1 : Int32)) ≤ (1 : Int32) then (((((0 : Int32) + (0 : Int32)) + (0 : Int32)) + (0 : Int32)) + (1 : Int32)) else ((2 : Int32))) else (if (((((0 : Int32) + (0 : Int32)) + (0 : Int32)) + (0 : Int32)) + (0 : Int32)) ≤ (1 : Int32) then (((((0 : Int32) + (0 : Int32)) + (0 : Int32)) + (0 : Int32)) + (0 : Int32)) else ((2 : Int32)))) else (if (((((0 : Int32) + (0 : Int32)) + (0 : Int32)) + (0 : Int32)) + (0 : Int32)) ≤ (1 : Int32) then (((((0 : Int32) + (0 : Int32)) + (0 : Int32)) + (0 : Int32)) + (0 : Int32)) else ((2 : Int32)))) else (if (((((0 : Int32) + (0 : Int32)) + (0 : Int32)) + (0 : Int32)) + (0 : Int32)) ≤ (1 : Int32) then (((((0 : Int32) + (0 : Int32)) + (0 : Int32)) + (0 : Int32)) + (0 : Int32)) else ((2 : Int32))))) else (if (fX5_areEqual xs ys ia ic) = (0 : Int32) then (if (fX5_areEqual xs ys ia id) = (0 : Int32) then (if (fX5_isOn xs ys ic id ib) = (0 : Int32) then (if (((((0 : Int32) + (0 : Int32)) + (0 : Int32)) + (1 : Int32)) + (0 : Int32)) ≤ (1 : Int32) then (((((0 : Int32) + (0 : Int32)) + (0 : Int32)) + (1 : Int32)) + (0 : Int32)) else ((2 : Int32))) else (if (fX5_areEqual xs ys ib ic) = (0 : Int32) then (if (fX5_areEqual xs ys ib id) = (0 : Int32) then (if (fX5_areEqual xs ys ia ib) = (0 : Int32) then (if (((((0 : Int32) + (0 : Int32)) + (0 : Int32)) + (1 : Int32)) + (1 : Int32)) ≤ (1 : Int32) then (((((0 : Int32) + (0 : Int32)) + (0 : Int32)) + (1 : Int32)) + (1 : Int32)) else ((2 : Int32))) else (if (((((0 : Int32) + (0 : Int32)) + (0 : Int32)) + (1 : Int32)) + (0 : Int32)) ≤ (1 : Int32) then (((((0 : Int32) + (0 : Int32)) + (0 : Int32)) + (1 : Int32)) + (0 : Int32)) else ((2 : Int32)))) else (if (((((0 : Int32) + (0 : Int32)) + (0 : Int32)) + (1 : Int32)) + (0 : Int32)) ≤ (1 : Int32) then (((((0 : Int32) + (0 : Int32)) + (0 : Int32)) + (1 : Int32)) + (0 : Int32)) else ((2 : Int32)))) else (if (((((0 : Int32) + (0 : Int32)) + (0 : Int32)) + (1 : Int32)) + (0 : Int32)) ≤ (1 : Int32) then (((((0 : Int32) + (0 : Int32)) + (0 : Int32)) + (1 : Int32)) + (0 : Int32)) else ((2 : Int32))))) else (if (fX5_isOn xs ys ic id ib) = (0 : Int32) then (if (((((0 : Int32) + (0 : Int32)) + (0 : Int32)) + (0 : Int32)) + (0 : Int32)) ≤ (1 : Int32) then (((((0 : Int32) + (0 : Int32)) + (0 : Int32)) + (0 : Int32)) + (0 : Int32)) else ((2 : Int32))) else (if (fX5_areEqual xs ys ib ic) = (0 : Int32) then (if (fX5_areEqual xs ys ib id) = (0 : Int32) then (if (fX5_areEqual xs ys ia ib) = (0 : Int32) then (if (((((0 : Int32) + (0 : Int32)) + (0 : Int32)) + (0 : Int32)) + (1 : Int32)) ≤ (1 : Int32) then (((((0 : Int32) + (0 : Int32)) + (0 : Int32)) + (0 : Int32)) + (1 : Int32)) else ((2 : Int32))) else (if (((((0 : Int32) + (0 : Int32)) + (0 : Int32)) + (0 : Int32)) + (0 : Int32)) ≤ (1 : Int32) then (((((0 : Int32) + (0 : Int32)) + (0 : Int32)) + (0 : Int32)) + (0 : Int32)) else ((2 : Int32)))) else (if (((((0 : Int32) + (0 : Int32)) + (0 : Int32)) + (0 : Int32)) + (0 : Int32)) ≤ (1 : Int32) then (((((0 : Int32) + (0 : Int32)) + (0 : Int32)) + (0 : Int32)) + (0 : Int32)) else ((2 : Int32)))) else (if (((((0 : Int32) + (0 : Int32)) + (0 : Int32)) + (0 : Int32)) + (0 : Int32)) ≤ (1 : Int32) then (((((0 : Int32) + (0 : Int32)) + (0 : Int32)) + (0 : Int32)) + (0 : Int32)) else ((2 : Int32)))))) else (if (fX5_isOn xs ys ic id ib) = (0 : Int32) then (if (((((0 : Int32) + (0 : Int32)) + (0 : Int32)) + (0 : Int32)) + (0 : Int32)) ≤ (1 : Int32) then (((((0 : Int32) + (0 : Int32)) + (0 : Int32)) + (0 : Int32)) + (0 : Int32)) else ((2 : Int32))) else (if (fX5_areEqual xs ys ib ic) = (0 : Int32) then (if (fX5_areEqual xs ys ib id) = (0 : Int32) then (if (fX5_areEqual xs ys ia ib) = (0 : Int32) then (if (((((0 : Int32) + (0 : Int32)) + (0 : Int32)) + (0 : Int32)) + (1 : Int32)) ≤ (1 : Int32) then (((((0 : Int32) + (0 : Int32)) + (0 : Int32)) + (0 : Int32)) + (1 : Int32)) else ((2 : Int32))) else (if (((((0 : Int32) + (0 : Int32)) + (0 : Int32)) + (0 : Int32)) + (0 : Int32)) ≤ (1 : Int32) then (((((0 : Int32) + (0 : Int32)) + (0 : Int32)) + (0 : Int32)) + (0 : Int32)) else ((2 : Int32)))) else (if (((((0 : Int32) + (0 : Int32)) + (0 : Int32)) + (0 : Int32)) + (0 : Int32)) ≤ (1 : Int32) then (((((0 : Int32) + (0 : Int32)) + (0 : Int32)) + (0 : Int32)) + (0 : Int32)) else ((2 : Int32)))) else (if (((((0 : Int32) + (0 : Int32)) + (0 : Int32)) + (0 : Int32)) + (0 : Int32)) ≤ (1 : Int32) then (((((0 : Int32) + (0 : Int32)) + (0 : Int32)) + (0 : Int32)) + (0 : Int32)) else ((2 : Int32))))))) else (if (fX5_areEqual xs ys ic id) = (0 : Int32) then (if (fX5_isOn xs ys ic id ia) = (0 : Int32) then (if (fX5_isOn xs ys ic id ib) = (0 : Int32) then (if (((((0 : Int32) + (0 : Int32)) + (1 : Int32)) + (0 : Int32)) + (0 : Int32)) ≤ (1 : Int32) then (((((0 : Int32) + (0 : Int32)) + (1 : Int32)) + (0 : Int32)) + (0 : Int32)) else ((2 : Int32))) else (if (fX5_areEqual xs ys ib ic) = (0 : Int32) then (if (fX5_areEqual xs ys ib id) = (0 : Int32) then (if (fX5_areEqual xs ys ia ib) = (0 : Int32) then (if (((((0 : Int32) + (0 : Int32)) + (1 : Int32)) + (0 : Int32)) + (1 : Int32)) ≤ (1 : Int32) then (((((0 : Int32) + (0 : Int32)) + (1 : Int32)) + (0 : Int32)) + (1 : Int32)) else ((2 : Int32))) else (if (((((0 : Int32) + (0 : Int32)) + (1 : Int32)) + (0 : Int32)) + (0 : Int32)) ≤ (1 : Int32) then (((((0 : Int32) + (0 : Int32)) + (1 : Int32)) + (0 : Int32)) + (0 : Int32)) else ((2 : Int32)))) else (if (((((0 : Int32) + (0 : Int32)) + (1 : Int32)) + (0 : Int32)) + (0 : Int32)) ≤ (1 : Int32) then (((((0 : Int32) + (0 : Int32)) + (1 : Int32)) + (0 : Int32)) + (0 : Int32)) else ((2 : Int32)))) else (if (((((0 : Int32) + (0 : Int32)) + (1 : Int32)) + (0 : Int32)) + (0 : Int32)) ≤ (1 : Int32) then (((((0 : Int32) + (0 : Int32)) + (1 : Int32)) + (0 : Int32)) + (0 : Int32)) else ((2 : Int32))))) else (if (fX5_areEqual xs ys ia ic) = (0 : Int32) then (if (fX5_areEqual xs ys ia id) = (0 : Int32) then (if (fX5_isOn xs ys ic id ib) = (0 : Int32) then (if (((((0 : Int32) + (0 : Int32)) + (1 : Int32)) + (1 : Int32)) + (0 : Int32)) ≤ (1 : Int32) then (((((0 : Int32) + (0 : Int32)) + (1 : Int32)) + (1 : Int32)) + (0 : Int32)) else ((2 : Int32))) else (if (fX5_areEqual xs ys ib ic) = (0 : Int32) then (if (fX5_areEqual xs ys ib id) = (0 : Int32) then (if (fX5_areEqual xs ys ia ib) = (0 : Int32) then (if (((((0 : Int32) + (0 : Int32)) + (1 : Int32)) + (1 : Int32)) + (1 : Int32)) ≤ (1 : Int32) then (((((0 : Int32) + (0 : Int32)) + (1 : Int32)) + (1 : Int32)) + (1 : Int32)) else ((2 : Int32))) else (if (((((0 : Int32) + (0 : Int32)) + (1 : Int32)) + (1 : Int32)) + (0 : Int32)) ≤ (1 : Int32) then (((((0 : Int32) + (0 : Int32)) + (1 : Int32)) + (1 : Int32)) + (0 : Int32)) else ((2 : Int32)))) else (if (((((0 : Int32) + (0 : Int32)) + (1 : Int32)) + (1 : Int32)) + (0 : Int32)) ≤ (1 : Int32) then (((((0 : Int32) + (0 : Int32)) + (1 : Int32)) + (1 : Int32)) + (0 : Int32)) else ((2 : Int32)))) else (if (((((0 : Int32) + (0 : Int32)) + (1 : Int32)) + (1 : Int32)) + (0 : Int32)) ≤ (1 : Int32) then (((((0 : Int32) + (0 : Int32)) + (1 : Int32)) + (1 : Int32)) + (0 : Int32)) else ((2 : Int32))))) else (if (fX5_isOn xs ys ic id ib) = (0 : Int32) then (if (((((0 : Int32) + (0 : Int32)) + (1 : Int32)) + (0 : Int32)) + (0 : Int32)) ≤ (1 : Int32) then (((((0 : Int32) + (0 : Int32)) + (1 : Int32)) + (0 : Int32)) + (0 : Int32)) else ((2 : Int32))) else (if (fX5_areEqual xs ys ib ic) = (0 : Int32) then (if (fX5_areEqual xs ys ib id) = (0 : Int32) then (if (fX5_areEqual xs ys ia ib) = (0 : Int32) then (if (((((0 : Int32) + (0 : Int32)) + (1 : Int32)) + (0 : Int32)) + (1 : Int32)) ≤ (1 : Int32) then (((((0 : Int32) + (0 : Int32)) + (1 : Int32)) + (0 : Int32)) + (1 : Int32)) else ((2 : Int32))) else (if (((((0 : Int32) + (0 : Int32)) + (1 : Int32)) + (0 : Int32)) + (0 : Int32)) ≤ (1 : Int32) then (((((0 : Int32) + (0 : Int32)) + (1 : Int32)) + (0 : Int32)) + (0 : Int32)) else ((2 : Int32)))) else (if (((((0 : Int32) + (0 : Int32)) + (1 : Int32)) + (0 : Int32)) + (0 : Int32)) ≤ (1 : Int32) then (((((0 : Int32) + (0 : Int32)) + (1 : Int32)) + (0 : Int32)) + (0 : Int32)) else ((2 : Int32)))) else (if (((((0 : Int32) + (0 : Int32)) + (1 : Int32)) + (0 : Int32)) + (0 : Int32)) ≤ (1 : Int32) then (((((0 : Int32) + (0 : Int32)) + (1 : Int32)) + (0 : Int32)) + (0 : Int32)) else ((2 : Int32)))))) else (if (fX5_isOn xs ys ic id ib) = (0 : Int32) then (if (((((0 : Int32) + (0 : Int32)) + (1 : Int32)) + (0 : Int32)) + (0 : Int32)) ≤ (1 : Int32) then (((((0 : Int32) + (0 : Int32)) + (1 : Int32)) + (0 : Int32)) + (0 : Int32)) else ((2 : Int32))) else (if (fX5_areEqual xs ys ib ic) = (0 : Int32) then (if (fX5_areEqual xs ys ib id) = (0 : Int32) then (if (fX5_areEqual xs ys ia ib) = (0 : Int32) then (if (((((0 : Int32) + (0 : Int32)) + (1 : Int32)) + (0 : Int32)) + (1 : Int32)) ≤ (1 : Int32) then (((((0 : Int32) + (0 : Int32)) + (1 : Int32)) + (0 : Int32)) + (1 : Int32)) else ((2 : Int32))) else (if (((((0 : Int32) + (0 : Int32)) + (1 : Int32)) + (0 : Int32)) + (0 : Int32)) ≤ (1 : Int32) then (((((0 : Int32) + (0 : Int32)) + (1 : Int32)) + (0 : Int32)) + (0 : Int32)) else ((2 : Int32)))) else (if (((((0 : Int32) + (0 : Int32)) + (1 : Int32)) + (0 : Int32)) + (0 : Int32)) ≤ (1 : Int32) then (((((0 : Int32) + (0 : Int32)) + (1 : Int32)) + (0 : Int32)) + (0 : Int32)) else ((2 : Int32)))) else (if (((((0 : Int32) + (0 : Int32)) + (1 : Int32)) + (0 : Int32)) + (0 : Int32)) ≤ (1 : Int32) then (((((0 : Int32) + (0 : Int32)) + (1 : Int32)) + (0 : Int32)) + (0 : Int32)) else ((2 : Int32))))))) else (if (fX5_isOn xs ys ic id ia) = (0 : Int32) then (if (fX5_isOn xs ys ic id ib) = (0 : Int32) then (if (((((0 : Int32) + (0 : Int32)) + (0 : Int32)) + (0 : Int32)) + (0 : Int32)) ≤ (1 : Int32) then (((((0 : Int32) + (0 : Int32)) + (0 : Int32)) + (0 : Int32)) + (0 : Int32)) else ((2 : Int32))) else (if (fX5_areEqual xs ys ib ic) = (0 : Int32) then (if (fX5_areEqual xs ys ib id) = (0 : Int32) then (if (fX5_areEqual xs ys ia ib) = (0 : Int32) then (if (((((0 : Int32) + (0 : Int32)) + (0 : Int32)) + (0 : Int32)) + (1 : Int32)) ≤ (1 : Int32) then (((((0 : Int32) + (0 : Int32)) + (0 : Int32)) + (0 : Int32)) + (1 : Int32)) else ((2 : Int32))) else (if (((((0 : Int32) + (0 : Int32)) + (0 : Int32)) + (0 : Int32)) + (0 : Int32)) ≤ (1 : Int32) then (((((0 : Int32) + (0 : Int32)) + (0 : Int32)) + (0 : Int32)) + (0 : Int32)) else ((2 : Int32)))) else (if (((((0 : Int32) + (0 : Int32)) + (0 : Int32)) + (0 : Int32)) + (0 : Int32)) ≤ (1 : Int32) then (((((0 : Int32) + (0 : Int32)) + (0 : Int32)) + (0 : Int32)) + (0 : Int32)) else ((2 : Int32)))) else (if (((((0 : Int32) + (0 : Int32)) + (0 : Int32)) + (0 : Int32)) + (0 : Int32)) ≤ (1 : Int32) then (((((0 : Int32) + (0 : Int32)) + (0 : Int32)) + (0 : Int32)) + (0 : Int32)) else ((2 : Int32))))) else (if (fX5_areEqual xs ys ia ic) = (0 : Int32) then (if (fX5_areEqual xs ys ia id) = (0 : Int32) then (if (fX5_isOn xs ys ic id ib) = (0 : Int32) then (if (((((0 : Int32) + (0 : Int32)) + (0 : Int32)) + (1 : Int32)) + (0 : Int32)) ≤ (1 : Int32) then (((((0 : Int32) + (0 : Int32)) + (0 : Int32)) + (1 : Int32)) + (0 : Int32)) else ((2 : Int32))) else (if (fX5_areEqual xs ys ib ic) = (0 : Int32) then (if (fX5_areEqual xs ys ib id) = (0 : Int32) then (if (fX5_areEqual xs ys ia ib) = (0 : Int32) then (if (((((0 : Int32) + (0 : Int32)) + (0 : Int32)) + (1 : Int32)) + (1 : Int32)) ≤ (1 : Int32) then (((((0 : Int32) + (0 : Int32)) + (0 : Int32)) + (1 : Int32)) + (1 : Int32)) else ((2 : Int32))) else (if (((((0 : Int32) + (0 : Int32)) + (0 : Int32)) + (1 : Int32)) + (0 : Int32)) ≤ (1 : Int32) then (((((0 : Int32) + (0 : Int32)) + (0 : Int32)) + (1 : Int32)) + (0 : Int32)) else ((2 : Int32)))) else (if (((((0 : Int32) + (0 : Int32)) + (0 : Int32)) + (1 : Int32)) + (0 : Int32)) ≤ (1 : Int32) then (((((0 : Int32) + (0 : Int32)) + (0 : Int32)) + (1 : Int32)) + (0 : Int32)) else ((2 : Int32)))) else (if (((((0 : Int32) + (0 : Int32)) + (0 : Int32)) + (1 : Int32)) + (0 : Int32)) ≤ (1 : Int32) then (((((0 : Int32) + (0 : Int32)) + (0 : Int32)) + (1 : Int32)) + (0 : Int32)) else ((2 : Int32))))) else (if (fX5_isOn xs ys ic id ib) = (0 : Int32) then (if (((((0 : Int32) + (0 : Int32)) + (0 : Int32)) + (0 : Int32)) + (0 : Int32)) ≤ (1 : Int32) then (((((0 : Int32) + (0 : Int32)) + (0 : Int32)) + (0 : Int32)) + (0 : Int32)) else ((2 : Int32))) else (if (fX5_areEqual xs ys ib ic) = (0 : Int32) then (if (fX5_areEqual xs ys ib id) = (0 : Int32) then (if (fX5_areEqual xs ys ia ib) = (0 : Int32) then (if (((((0 : Int32) + (0 : Int32)) + (0 : Int32)) + (0 : Int32)) + (1 : Int32)) ≤ (1 : Int32) then (((((0 : Int32) + (0 : Int32)) + (0 : Int32)) + (0 : Int32)) + (1 : Int32)) else ((2 : Int32))) else (if (((((0 : Int32) + (0 : Int32)) + (0 : Int32)) + (0 : Int32)) + (0 : Int32)) ≤ (1 : Int32) then (((((0 : Int32) + (0 : Int32)) + (0 : Int32)) + (0 : Int32)) + (0 : Int32)) else ((2 : Int32)))) else (if (((((0 : Int32) + (0 : Int32)) + (0 : Int32)) + (0 : Int32)) + (0 : Int32)) ≤ (1 : Int32) then (((((0 : Int32) + (0 : Int32)) + (0 : Int32)) + (0 : Int32)) + (0 : Int32)) else ((2 : Int32)))) else (if (((((0 : Int32) + (0 : Int32)) + (0 : Int32)) + (0 : Int32)) + (0 : Int32)) ≤ (1 : Int32) then (((((0 : Int32) + (0 : Int32)) + (0 : Int32)) + (0 : Int32)) + (0 : Int32)) else ((2 : Int32)))))) else (if (fX5_isOn xs ys ic id ib) = (0 : Int32) then (if (((((0 : Int32) + (0 : Int32)) + (0 : Int32)) + (0 : Int32)) + (0 : Int32)) ≤ (1 : Int32) then (((((0 : Int32) + (0 : Int32)) + (0 : Int32)) + (0 : Int32)) + (0 : Int32)) else ((2 : Int32))) else (if (fX5_areEqual xs ys ib ic) = (0 : Int32) then (if (fX5_areEqual xs ys ib id) = (0 : Int32) then (if (fX5_areEqual xs ys ia ib) = (0 : Int32) then (if (((((0 : Int32) + (0 : Int32)) + (0 : Int32)) + (0 : Int32)) + (1 : Int32)) ≤ (1 : Int32) then (((((0 : Int32) + (0 : Int32)) + (0 : Int32)) + (0 : Int32)) + (1 : Int32)) else ((2 : Int32))) else (if (((((0 : Int32) + (0 : Int32)) + (0 : Int32)) + (0 : Int32)) + (0 : Int32)) ≤ (1 : Int32) then (((((0 : Int32) + (0 : Int32)) + (0 : Int32)) + (0 : Int32)) + (0 : Int32)) else ((2 : Int32)))) else (if (((((0 : Int32) + (0 : Int32)) + (0 : Int32)) + (0 : Int32)) + (0 : Int32)) ≤ (1 : Int32) then (((((0 : Int32) + (0 : Int32)) + (0 : Int32)) + (0 : Int32)) + (0 : Int32)) else ((2 : Int32)))) else (if (((((0 : Int32) + (0 : Int32)) + (0 : Int32)) + (0 : Int32)) + (0 : Int32)) ≤ (1 : Int32) then (((((0 : Int32) + (0 : Int32)) + (0 : Int32)) + (0 : Int32)) + (0 : Int32)) else ((2 : Int32))))))))) else (if (fX5_isOn xs ys ia ib id) = (0 : Int32) then (if (fX5_isOn xs ys ic id ia) = (0 : Int32) then (if (fX5_isOn xs ys ic id ib) = (0 : Int32) then (if (((((0 : Int32) + (1 : Int32)) + (0 : Int32)) + (0 : Int32)) + (0 : Int32)) ≤ (1 : Int32) then (((((0 : Int32) + (1 : Int32)) + (0 : Int32)) + (0 : Int32)) + (0 : Int32)) else ((2 : Int32))) else (if (fX5_areEqual xs ys ib ic) = (0 : Int32) then (if (fX5_areEqual xs ys ib id) = (0 : Int32) then (if (fX5_areEqual xs ys ia ib) = (0 : Int32) then (if (((((0 : Int32) + (1 : Int32)) + (0 : Int32)) + (0 : Int32)) + (1 : Int32)) ≤ (1 : Int32) then (((((0 : Int32) + (1 : Int32)) + (0 : Int32)) + (0 : Int32)) + (1 : Int32)) else ((2 : Int32))) else (if (((((0 : Int32) + (1 : Int32)) + (0 : Int32)) + (0 : Int32)) + (0 : Int32)) ≤ (1 : Int32) then (((((0 : Int32) + (1 : Int32)) + (0 : Int32)) + (0 : Int32)) + (0 : Int32)) else ((2 : Int32)))) else (if (((((0 : Int32) + (1 : Int32)) + (0 : Int32)) + (0 : Int32)) + (0 : Int32)) ≤ (1 : Int32) then (((((0 : Int32) + (1 : Int32)) + (0 : Int32)) + (0 : Int32)) + (0 : Int32)) else ((2 : Int32)))) else (if (((((0 : Int32) + (1 : Int32)) + (0 : Int32)) + (0 : Int32)) + (0 : Int32)) ≤ (1 : Int32) then (((((0 : Int32) + (1 : Int32)) + (0 : Int32)) + (0 : Int32)) + (0 : Int32)) else ((2 : Int32))))) else (if (fX5_areEqual xs ys ia ic) = (0 : Int32) then (if (fX5_areEqual xs ys ia id) = (0 : Int32) then (if (fX5_isOn xs ys ic id ib) = (0 : Int32) then (if (((((0 : Int32) + (1 : Int32)) + (0 : Int32)) + (1 : Int32)) + (0 : Int32)) ≤ (1 : Int32) then (((((0 : Int32) + (1 : Int32)) + (0 : Int32)) + (1 : Int32)) + (0 : Int32)) else ((2 : Int32))) else (if (fX5_areEqual xs ys ib ic) = (0 : Int32) then (if (fX5_areEqual xs ys ib id) = (0 : Int32) then (if (fX5_areEqual xs ys ia ib) = (0 : Int32) then (if (((((0 : Int32) + (1 : Int32)) + (0 : Int32)) + (1 : Int32)) + (1 : Int32)) ≤ (1 : Int32) then (((((0 : Int32) + (1 : Int32)) + (0 : Int32)) + (1 : Int32)) + (1 : Int32)) else ((2 : Int32))) else (if (((((0 : Int32) + (1 : Int32)) + (0 : Int32)) + (1 : Int32)) + (0 : Int32)) ≤ (1 : Int32) then (((((0 : Int32) + (1 : Int32)) + (0 : Int32)) + (1 : Int32)) + (0 : Int32)) else ((2 : Int32)))) else (if (((((0 : Int32) + (1 : Int32)) + (0 : Int32)) + (1 : Int32)) + (0 : Int32)) ≤ (1 : Int32) then (((((0 : Int32) + (1 : Int32)) + (0 : Int32)) + (1 : Int32)) + (0 : Int32)) else ((2 : Int32)))) else (if (((((0 : Int32) + (1 : Int32)) + (0 : Int32)) + (1 : Int32)) + (0 : Int32)) ≤ (1 : Int32) then (((((0 : Int32) + (1 : Int32)) + (0 : Int32)) + (1 : Int32)) + (0 : Int32)) else ((2 : Int32))))) else (if (fX5_isOn xs ys ic id ib) = (0 : Int32) then (if (((((0 : Int32) + (1 : Int32)) + (0 : Int32)) + (0 : Int32)) + (0 : Int32)) ≤ (1 : Int32) then (((((0 : Int32) + (1 : Int32)) + (0 : Int32)) + (0 : Int32)) + (0 : Int32)) else ((2 : Int32))) else (if (fX5_areEqual xs ys ib ic) = (0 : Int32) then (if (fX5_areEqual xs ys ib id) = (0 : Int32) then (if (fX5_areEqual xs ys ia ib) = (0 : Int32) then (if (((((0 : Int32) + (1 : Int32)) + (0 : Int32)) + (0 : Int32)) + (1 : Int32)) ≤ (1 : Int32) then (((((0 : Int32) + (1 : Int32)) + (0 : Int32)) + (0 : Int32)) + (1 : Int32)) else ((2 : Int32))) else (if (((((0 : Int32) + (1 : Int32)) + (0 : Int32)) + (0 : Int32)) + (0 : Int32)) ≤ (1 : Int32) then (((((0 : Int32) + (1 : Int32)) + (0 : Int32)) + (0 : Int32)) + (0 : Int32)) else ((2 : Int32)))) else (if (((((0 : Int32) + (1 : Int32)) + (0 : Int32)) + (0 : Int32)) + (0 : Int32)) ≤ (1 : Int32) then (((((0 : Int32) + (1 : Int32)) + (0 : Int32)) + (0 : Int32)) + (0 : Int32)) else ((2 : Int32)))) else (if (((((0 : Int32) + (1 : Int32)) + (0 : Int32)) + (0 : Int32)) + (0 : Int32)) ≤ (1 : Int32) then (((((0 : Int32) + (1 : Int32)) + (0 : Int32)) + (0 : Int32)) + (0 : Int32)) else ((2 : Int32)))))) else (if (fX5_isOn xs ys ic id ib) = (0 : Int32) then (if (((((0 : Int32) + (1 : Int32)) + (0 : Int32)) + (0 : Int32)) + (0 : Int32)) ≤ (1 : Int32) then (((((0 : Int32) + (1 : Int32)) + (0 : Int32)) + (0 : Int32)) + (0 : Int32)) else ((2 : Int32))) else (if (fX5_areEqual xs ys ib ic) = (0 : Int32) then (if (fX5_areEqual xs ys ib id) = (0 : Int32) then (if (fX5_areEqual xs ys ia ib) = (0 : Int32) then (if (((((0 : Int32) + (1 : Int32)) + (0 : Int32)) + (0 : Int32)) + (1 : Int32)) ≤ (1 : Int32) then (((((0 : Int32) + (1 : Int32)) + (0 : Int32)) + (0 : Int32)) + (1 : Int32)) else ((2 : Int32))) else (if (((((0 : Int32) + (1 : Int32)) + (0 : Int32)) + (0 : Int32)) + (0 : Int32)) ≤ (1 : Int32) then (((((0 : Int32) + (1 : Int32)) + (0 : Int32)) + (0 : Int32)) + (0 : Int32)) else ((2 : Int32)))) else (if (((((0 : Int32) + (1 : Int32)) + (0 : Int32)) + (0 : Int32)) + (0 : Int32)) ≤ (1 : Int32) then (((((0 : Int32) + (1 : Int32)) + (0 : Int32)) + (0 : Int32)) + (0 : Int32)) else ((2 : Int32)))) else (if (((((0 : Int32) + (1 : Int32)) + (0 : Int32)) + (0 : Int32)) + (0 : Int32)) ≤ (1 : Int32) then (((((0 : Int32) + (1 : Int32)) + (0 : Int32)) + (0 : Int32)) + (0 : Int32)) else ((2 : Int32))))))) else (if (fX5_areEqual xs ys ic id) = (0 : Int32) then (if (fX5_isOn xs ys ic id ia) = (0 : Int32) then (if (fX5_isOn xs ys ic id ib) = (0 : Int32) then (if (((((0 : Int32) + (1 : Int32)) + (1 : Int32)) + (0 : Int32)) + (0 : Int32)) ≤ (1 : Int32) then (((((0 : Int32) + (1 : Int32)) + (1 : Int32)) + (0 : Int32)) + (0 : Int32)) else ((2 : Int32))) else (if (fX5_areEqual xs ys ib ic) = (0 : Int32) then (if (fX5_areEqual xs ys ib id) = (0 : Int32) then (if (fX5_areEqual xs ys ia ib) = (0 : Int32) then (if (((((0 : Int32) + (1 : Int32)) + (1 : Int32)) + (0 : Int32)) + (1 : Int32)) ≤ (1 : Int32) then (((((0 : Int32) + (1 : Int32)) + (1 : Int32)) + (0 : Int32)) + (1 : Int32)) else ((2 : Int32))) else (if (((((0 : Int32) + (1 : Int32)) + (1 : Int32)) + (0 : Int32)) + (0 : Int32)) ≤ (1 : Int32) then (((((0 : Int32) + (1 : Int32)) + (1 : Int32)) + (0 : Int32)) + (0 : Int32)) else ((2 : Int32)))) else (if (((((0 : Int32) + (1 : Int32)) + (1 : Int32)) + (0 : Int32)) + (0 : Int32)) ≤ (1 : Int32) then (((((0 : Int32) + (1 : Int32)) + (1 : Int32)) + (0 : Int32)) + (0 : Int32)) else ((2 : Int32)))) else (if (((((0 : Int32) + (1 : Int32)) + (1 : Int32)) + (0 : Int32)) + (0 : Int32)) ≤ (1 : Int32) then (((((0 : Int32) + (1 : Int32)) + (1 : Int32)) + (0 : Int32)) + (0 : Int32)) else ((2 : Int32))))) else (if (fX5_areEqual xs ys ia ic) = (0 : Int32) then (if (fX5_areEqual xs ys ia id) = (0 : Int32) then (if (fX5_isOn xs ys ic id ib) = (0 : Int32) then (if (((((0 : Int32) + (1 : Int32)) + (1 : Int32)) + (1 : Int32)) + (0 : Int32)) ≤ (1 : Int32) then (((((0 : Int32) + (1 : Int32)) + (1 : Int32)) + (1 : Int32)) + (0 : Int32)) else ((2 : Int32))) else (if (fX5_areEqual xs ys ib ic) = (0 : Int32) then (if (fX5_areEqual xs ys ib id) = (0 : Int32) then (if (fX5_areEqual xs ys ia ib) = (0 : Int32) then (if (((((0 : Int32) + (1 : Int32)) + (1 : Int32)) + (1 : Int32)) + (1 : Int32)) ≤ (1 : Int32) then (((((0 : Int32) + (1 : Int32)) + (1 : Int32)) + (1 : Int32)) + (1 : Int32)) else ((2 : Int32))) else (if (((((0 : Int32) + (1 : Int32)) + (1 : Int32)) + (1 : Int32)) + (0 : Int32)) ≤ (1 : Int32) then (((((0 : Int32) + (1 : Int32)) + (1 : Int32)) + (1 : Int32)) + (0 : Int32)) else ((2 : Int32)))) else (if (((((0 : Int32) + (1 : Int32)) + (1 : Int32)) + (1 : Int32)) + (0 : Int32)) ≤ (1 : Int32) then (((((0 : Int32) + (1 : Int32)) + (1 : Int32)) + (1 : Int32)) + (0 : Int32)) else ((2 : Int32)))) else (if (((((0 : Int32) + (1 : Int32)) + (1 : Int32)) + (1 : Int32)) + (0 : Int32)) ≤ (1 : Int32) then (((((0 : Int32) + (1 : Int32)) + (1 : Int32)) + (1 : Int32)) + (0 : Int32)) else ((2 : Int32))))) else (if (fX5_isOn xs ys ic id ib) = (0 : Int32) then (if (((((0 : Int32) + (1 : Int32)) + (1 : Int32)) + (0 : Int32)) + (0 : Int32)) ≤ (1 : Int32) then (((((0 : Int32) + (1 : Int32)) + (1 : Int32)) + (0 : Int32)) + (0 : Int32)) else ((2 : Int32))) else (if (fX5_areEqual xs ys ib ic) = (0 : Int32) then (if (fX5_areEqual xs ys ib id) = (0 : Int32) then (if (fX5_areEqual xs ys ia ib) = (0 : Int32) then (if (((((0 : Int32) + (1 : Int32)) + (1 : Int32)) + (0 : Int32)) + (1 : Int32)) ≤ (1 : Int32) then (((((0 : Int32) + (1 : Int32)) + (1 : Int32)) + (0 : Int32)) + (1 : Int32)) else ((2 : Int32))) else (if (((((0 : Int32) + (1 : Int32)) + (1 : Int32)) + (0 : Int32)) + (0 : Int32)) ≤ (1 : Int32) then (((((0 : Int32) + (1 : Int32)) + (1 : Int32)) + (0 : Int32)) + (0 : Int32)) else ((2 : Int32)))) else (if (((((0 : Int32) + (1 : Int32)) + (1 : Int32)) + (0 : Int32)) + (0 : Int32)) ≤ (1 : Int32) then (((((0 : Int32) + (1 : Int32)) + (1 : Int32)) + (0 : Int32)) + (0 : Int32)) else ((2 : Int32)))) else (if (((((0 : Int32) + (1 : Int32)) + (1 : Int32)) + (0 : Int32)) + (0 : Int32)) ≤ (1 : Int32) then (((((0 : Int32) + (1 : Int32)) + (1 : Int32)) + (0 : Int32)) + (0 : Int32)) else ((2 : Int32)))))) else (if (fX5_isOn xs ys ic id ib) = (0 : Int32) then (if (((((0 : Int32) + (1 : Int32)) + (1 : Int32)) + (0 : Int32)) + (0 : Int32)) ≤ (1 : Int32) then (((((0 : Int32) + (1 : Int32)) + (1 : Int32)) + (0 : Int32)) + (0 : Int32)) else ((2 : Int32))) else (if (fX5_areEqual xs ys ib ic) = (0 : Int32) then (if (fX5_areEqual xs ys ib id) = (0 : Int32) then (if (fX5_areEqual xs ys ia ib) = (0 : Int32) then (if (((((0 : Int32) + (1 : Int32)) + (1 : Int32)) + (0 : Int32)) + (1 : Int32)) ≤ (1 : Int32) then (((((0 : Int32) + (1 : Int32)) + (1 : Int32)) + (0 : Int32)) + (1 : Int32)) else ((2 : Int32))) else (if (((((0 : Int32) + (1 : Int32)) + (1 : Int32)) + (0 : Int32)) + (0 : Int32)) ≤ (1 : Int32) then (((((0 : Int32) + (1 : Int32)) + (1 : Int32)) + (0 : Int32)) + (0 : Int32)) else ((2 : Int32)))) else (if (((((0 : Int32) + (1 : Int32)) + (1 : Int32)) + (0 : Int32)) + (0 : Int32)) ≤ (1 : Int32) then (((((0 : Int32) + (1 : Int32)) + (1 : Int32)) + (0 : Int32)) + (0 : Int32)) else ((2 : Int32)))) else (if (((((0 : Int32) + (1 : Int32)) + (1 : Int32)) + (0 : Int32)) + (0 : Int32)) ≤ (1 : Int32) then (((((0 : Int32) + (1 : Int32)) + (1 : Int32)) + (0 : Int32)) + (0 : Int32)) else ((2 : Int32))))))) else (if (fX5_isOn xs ys ic id ia) = (0 : Int32) then (if (fX5_isOn xs ys ic id ib) = (0 : Int32) then (if (((((0 : Int32) + (1 : Int32)) + (0 : Int32)) + (0 : Int32)) + (0 : Int32)) ≤ (1 : Int32) then (((((0 : Int32) + (1 : Int32)) + (0 : Int32)) + (0 : Int32)) + (0 : Int32)) else ((2 : Int32))) else (if (fX5_areEqual xs ys ib ic) = (0 : Int32) then (if (fX5_areEqual xs ys ib id) = (0 : Int32) then (if (fX5_areEqual xs ys ia ib) = (0 : Int32) then (if (((((0 : Int32) + (1 : Int32)) + (0 : Int32)) + (0 : Int32)) + (1 : Int32)) ≤ (1 : Int32) then (((((0 : Int32) + (1 : Int32)) + (0 : Int32)) + (0 : Int32)) + (1 : Int32)) else ((2 : Int32))) else (if (((((0 : Int32) + (1 : Int32)) + (0 : Int32)) + (0 : Int32)) + (0 : Int32)) ≤ (1 : Int32) then (((((0 : Int32) + (1 : Int32)) + (0 : Int32)) + (0 : Int32)) + (0 : Int32)) else ((2 : Int32)))) else (if (((((0 : Int32) + (1 : Int32)) + (0 : Int32)) + (0 : Int32)) + (0 : Int32)) ≤ (1 : Int32) then (((((0 : Int32) + (1 : Int32)) + (0 : Int32)) + (0 : Int32)) + (0 : Int32)) else ((2 : Int32)))) else (if (((((0 : Int32) + (1 : Int32)) + (0 : Int32)) + (0 : Int32)) + (0 : Int32)) ≤ (1 : Int32) then (((((0 : Int32) + (1 : Int32)) + (0 : Int32)) + (0 : Int32)) + (0 : Int32)) else ((2 : Int32))))) else (if (fX5_areEqual xs ys ia ic) = (0 : Int32) then (if (fX5_areEqual xs ys ia id) = (0 : Int32) then (if (fX5_isOn xs ys ic id ib) = (0 : Int32) then (if (((((0 : Int32) + (1 : Int32)) + (0 : Int32)) + (1 : Int32)) + (0 : Int32)) ≤ (1 : Int32) then (((((0 : Int32) + (1 : Int32)) + (0 : Int32)) + (1 : Int32)) + (0 : Int32)) else ((2 : Int32))) else (if (fX5_areEqual xs ys ib ic) = (0 : Int32) then (if (fX5_areEqual xs ys ib id) = (0 : Int32) then (if (fX5_areEqual xs ys ia ib) = (0 : Int32) then (if (((((0 : Int32) + (1 : Int32)) + (0 : Int32)) + (1 : Int32)) + (1 : Int32)) ≤ (1 : Int32) then (((((0 : Int32) + (1 : Int32)) + (0 : Int32)) + (1 : Int32)) + (1 : Int32)) else ((2 : Int32))) else (if (((((0 : Int32) + (1 : Int32)) + (0 : Int32)) + (1 : Int32)) + (0 : Int32)) ≤ (1 : Int32) then (((((0 : Int32) + (1 : Int32)) + (0 : Int32)) + (1 : Int32)) + (0 : Int32)) else ((2 : Int32)))) else (if (((((0 : Int32) + (1 : Int32)) + (0 : Int32)) + (1 : Int32)) + (0 : Int32)) ≤ (1 : Int32) then (((((0 : Int32) + (1 : Int32)) + (0 : Int32)) + (1 : Int32)) + (0 : Int32)) else ((2 : Int32)))) else (if (((((0 : Int32) + (1 : Int32)) + (0 : Int32)) + (1 : Int32)) + (0 : Int32)) ≤ (1 : Int32) then (((((0 : Int32) + (1 : Int32)) + (0 : Int32)) + (1 : Int32)) + (0 : Int32)) else ((2 : Int32))))) else (if (fX5_isOn xs ys ic id ib) = (0 : Int32) then (if (((((0 : Int32) + (1 : Int32)) + (0 : Int32)) + (0 : Int32)) + (0 : Int32)) ≤ (1 : Int32) then (((((0 : Int32) + (1 : Int32)) + (0 : Int32)) + (0 : Int32)) + (0 : Int32)) else ((2 : Int32))) else (if (fX5_areEqual xs ys ib ic) = (0 : Int32) then (if (fX5_areEqual xs ys ib id) = (0 : Int32) then (if (fX5_areEqual xs ys ia ib) = (0 : Int32) then (if (((((0 : Int32) + (1 : Int32)) + (0 : Int32)) + (0 : Int32)) + (1 : Int32)) ≤ (1 : Int32) then (((((0 : Int32) + (1 : Int32)) + (0 : Int32)) + (0 : Int32)) + (1 : Int32)) else ((2 : Int32))) else (if (((((0 : Int32) + (1 : Int32)) + (0 : Int32)) + (0 : Int32)) + (0 : Int32)) ≤ (1 : Int32) then (((((0 : Int32) + (1 : Int32)) + (0 : Int32)) + (0 : Int32)) + (0 : Int32)) else ((2 : Int32)))) else (if (((((0 : Int32) + (1 : Int32)) + (0 : Int32)) + (0 : Int32)) + (0 : Int32)) ≤ (1 : Int32) then (((((0 : Int32) + (1 : Int32)) + (0 : Int32)) + (0 : Int32)) + (0 : Int32)) else ((2 : Int32)))) else (if (((((0 : Int32) + (1 : Int32)) + (0 : Int32)) + (0 : Int32)) + (0 : Int32)) ≤ (1 : Int32) then (((((0 : Int32) + (1 : Int32)) + (0 : Int32)) + (0 : Int32)) + (0 : Int32)) else ((2 : Int32)))))) else (if (fX5_isOn xs ys ic id ib) = (0 : Int32) then (if (((((0 : Int32) + (1 : Int32)) + (0 : Int32)) + (0 : Int32)) + (0 : Int32)) ≤ (1 : Int32) then (((((0 : Int32) + (1 : Int32)) + (0 : Int32)) + (0 : Int32)) + (0 : Int32)) else ((2 : Int32))) else (if (fX5_areEqual xs ys ib ic) = (0 : Int32) then (if (fX5_areEqual xs ys ib id) = (0 : Int32) then (if (fX5_areEqual xs ys ia ib) = (0 : Int32) then (if (((((0 : Int32) + (1 : Int32)) + (0 : Int32)) + (0 : Int32)) + (1 : Int32)) ≤ (1 : Int32) then (((((0 : Int32) + (1 : Int32)) + (0 : Int32)) + (0 : Int32)) + (1 : Int32)) else ((2 : Int32))) else (if (((((0 : Int32) + (1 : Int32)) + (0 : Int32)) + (0 : Int32)) + (0 : Int32)) ≤ (1 : Int32) then (((((0 : Int32) + (1 : Int32)) + (0 : Int32)) + (0 : Int32)) + (0 : Int32)) else ((2 : Int32)))) else (if (((((0 : Int32) + (1 : Int32)) + (0 : Int32)) + (0 : Int32)) + (0 : Int32)) ≤ (1 : Int32) then (((((0 : Int32) + (1 : Int32)) + (0 : Int32)) + (0 : Int32)) + (0 : Int32)) else ((2 : Int32)))) else (if (((((0 : Int32) + (1 : Int32)) + (0 : Int32)) + (0 : Int32)) + (0 : Int32)) ≤ (1 : Int32) then (((((0 : Int32) + (1 : Int32)) + (0 : Int32)) + (0 : Int32)) + (0 : Int32)) else ((2 : Int32)))))))))
set_option maxHeartbeats 4000000 in
set_option maxRecDepth 100000 in
theorem ct5_common (l : Launch) (D : va_G) (m1 m2 m3 m4 m5 m6 m7 : Nat) (kI kJ : ClassId) (xs ys held : Nat → Int32) (la lb lc : Nat → Int64) (th pm rm on cl un ze lm : Int32) (ia : Int32) (ib : Int32) (ic : Int32) (id : Int32) (oia : vp_in ia 60) (oib : vp_in ib 60) (oic : vp_in ic 60) (oid : vp_in id 60) : Met l yX5_common (Cond.code yX5_common cX5_common 10 (some .int) :: BY) ({ frames := 3, cells := 0, slots := 0, locals := 180 }) (xr_P nN D vwCl [(kI, .int), (kJ, .long)] (wMo m1 m2 m3 m4 m5 m6 m7 kI kJ xs ys held la lb lc th pm rm on cl un ze lm) [.ref m1, .int ia, .int ib, .int ic, .int id]) (xr_Q (.int (fX5_common xs ys ia ib ic id))) 0 0 (fun _ => False) := by
  refine Met.ofW (cc := cX5_common) (maxL := 10) (ret := (some .int)) (by decide) rfl ?_
  intro p e s m args below meth c s₁ B hml hv
  obtain ⟨rfl, hP, hK, hN⟩ := hv
  have hx := B.exec
  have hb := B.bytes
  have hr := B.returns
  have hts0 := atoms_spec (ws := Cond.code yX5_common cX5_common 10 (some .int) :: BY) B.pre
  have hts : ∀ w ∈ BY, w.before _ s = true := fun w h => hts0 w (List.mem_cons_of_mem _ h)
  have hown : s.vm.findClass RX5 = some m.cls := findClass_of_methodNamed B.named
  have hlocks := B.notSynchronized
  have hl := lv_entry ([.ref m1, .int ia, .int ib, .int ic, .int id]) (n := 10) (Nat.le_of_ble_eq_true rfl)
  rw [lg_entry_eq]
  generalize (lg_sl ([.ref m1, .int ia, .int ib, .int ic, .int id]) ++ List.replicate (10 - (lg_sl ([.ref m1, .int ia, .int ib, .int ic, .int id])).length) Slot.unset).toArray = ls at hl ⊢
  have hl : lv_has ls 10 [(0, .ref m1), (1, .int ia), (2, .int ib), (3, .int ic), (4, .int id)] := hl
  refine lv_iconst (v := 0) hx hb dX5_common_0 (by decide) ?_
  refine lv_istore (lv' := [(5, .int (0 : Int32)), (0, .ref m1), (1, .int ia), (2, .int ib), (3, .int ic), (4, .int id)]) hx hb dX5_common_1 hl (by decide) rfl (fun ls hl => ?_)
  refine lv_aload_n hx hb dX5_common_3 rfl (lv_at hl 1 rfl) ?_
  refine lv_iload_n hx hb dX5_common_4 rfl (lv_at hl 2 rfl) ?_
  refine lv_iload_n hx hb dX5_common_5 rfl (lv_at hl 3 rfl) ?_
  refine lv_iload_n hx hb dX5_common_6 rfl (lv_at hl 4 rfl) ?_
  refine xr_V (q := (RX5, TX5, 14)) (ci := 9) (q0 := 0) (rest := []) (As := [.int ia, .int ib, .int ic]) ⟨hx, hb, hml, hown, hts⟩ (ct5_isOn l D m1 m2 m3 m4 m5 m6 m7 kI kJ xs ys held la lb lc th pm rm on cl un ze lm ia ib ic oia oib oic) (cwV 3 hts gl_X5_131 rfl rfl rfl (by decide +kernel) ⟨Nat.le_of_ble_eq_true rfl, Nat.le_of_ble_eq_true rfl⟩) nN_mv hN hK hP [0, 1, 2, 3, 4, 5, 6] [0, 1] rfl rfl rfl rfl rfl hl.1 rfl (Nat.le_of_ble_eq_true rfl) dX5_common_7 ⟨Nat.le_of_ble_eq_true rfl, Nat.le_of_ble_eq_true rfl⟩ ?_
  refine lv_istore (lv' := [(6, .int (fX5_isOn xs ys ia ib ic)), (5, .int (0 : Int32)), (0, .ref m1), (1, .int ia), (2, .int ib), (3, .int ic), (4, .int id)]) hx hb dX5_common_10 hl (by decide) rfl (fun ls hl => ?_)
  refine lv_aload_n hx hb dX5_common_12 rfl (lv_at hl 2 rfl) ?_
  refine lv_iload_n hx hb dX5_common_13 rfl (lv_at hl 3 rfl) ?_
  refine lv_iload_n hx hb dX5_common_14 rfl (lv_at hl 4 rfl) ?_
  refine lv_iload hx hb dX5_common_15 (lv_at hl 6 rfl) ?_
  refine xr_V (q := (RX5, TX5, 14)) (ci := 9) (q0 := 0) (rest := []) (As := [.int ia, .int ib, .int id]) ⟨hx, hb, hml, hown, hts⟩ (ct5_isOn l D m1 m2 m3 m4 m5 m6 m7 kI kJ xs ys held la lb lc th pm rm on cl un ze lm ia ib id oia oib oid) (cwV 3 hts gl_X5_131 rfl rfl rfl (by decide +kernel) ⟨Nat.le_of_ble_eq_true rfl, Nat.le_of_ble_eq_true rfl⟩) nN_mv hN hK hP [0, 1, 2, 3, 4, 5, 6] [0, 1] rfl rfl rfl rfl rfl hl.1 rfl (Nat.le_of_ble_eq_true rfl) dX5_common_17 ⟨Nat.le_of_ble_eq_true rfl, Nat.le_of_ble_eq_true rfl⟩ ?_
  refine lv_istore (lv' := [(7, .int (fX5_isOn xs ys ia ib id)), (6, .int (fX5_isOn xs ys ia ib ic)), (5, .int (0 : Int32)), (0, .ref m1), (1, .int ia), (2, .int ib), (3, .int ic), (4, .int id)]) hx hb dX5_common_20 hl (by decide) rfl (fun ls hl => ?_)
  refine lv_aload_n hx hb dX5_common_22 rfl (lv_at hl 3 rfl) ?_
  refine lv_iload_n hx hb dX5_common_23 rfl (lv_at hl 6 rfl) ?_
  refine lv_iload hx hb dX5_common_24 (lv_at hl 7 rfl) ?_
  refine lv_iload_n hx hb dX5_common_26 rfl (lv_at hl 4 rfl) ?_
  refine xr_V (q := (RX5, TX5, 14)) (ci := 9) (q0 := 0) (rest := []) (As := [.int ic, .int id, .int ia]) ⟨hx, hb, hml, hown, hts⟩ (ct5_isOn l D m1 m2 m3 m4 m5 m6 m7 kI kJ xs ys held la lb lc th pm rm on cl un ze lm ic id ia oic oid oia) (cwV 3 hts gl_X5_131 rfl rfl rfl (by decide +kernel) ⟨Nat.le_of_ble_eq_true rfl, Nat.le_of_ble_eq_true rfl⟩) nN_mv hN hK hP [0, 1, 2, 3, 4, 5, 6] [0, 1] rfl rfl rfl rfl rfl hl.1 rfl (Nat.le_of_ble_eq_true rfl) dX5_common_27 ⟨Nat.le_of_ble_eq_true rfl, Nat.le_of_ble_eq_true rfl⟩ ?_
  refine lv_istore (lv' := [(8, .int (fX5_isOn xs ys ic id ia)), (7, .int (fX5_isOn xs ys ia ib id)), (6, .int (fX5_isOn xs ys ia ib ic)), (5, .int (0 : Int32)), (0, .ref m1), (1, .int ia), (2, .int ib), (3, .int ic), (4, .int id)]) hx hb dX5_common_30 hl (by decide) rfl (fun ls hl => ?_)
  refine lv_aload_n hx hb dX5_common_32 rfl (lv_at hl 4 rfl) ?_
  refine lv_iload_n hx hb dX5_common_33 rfl (lv_at hl 7 rfl) ?_
  refine lv_iload hx hb dX5_common_34 (lv_at hl 8 rfl) ?_
  refine lv_iload_n hx hb dX5_common_36 rfl (lv_at hl 6 rfl) ?_
  refine xr_V (q := (RX5, TX5, 14)) (ci := 9) (q0 := 0) (rest := []) (As := [.int ic, .int id, .int ib]) ⟨hx, hb, hml, hown, hts⟩ (ct5_isOn l D m1 m2 m3 m4 m5 m6 m7 kI kJ xs ys held la lb lc th pm rm on cl un ze lm ic id ib oic oid oib) (cwV 3 hts gl_X5_131 rfl rfl rfl (by decide +kernel) ⟨Nat.le_of_ble_eq_true rfl, Nat.le_of_ble_eq_true rfl⟩) nN_mv hN hK hP [0, 1, 2, 3, 4, 5, 6] [0, 1] rfl rfl rfl rfl rfl hl.1 rfl (Nat.le_of_ble_eq_true rfl) dX5_common_37 ⟨Nat.le_of_ble_eq_true rfl, Nat.le_of_ble_eq_true rfl⟩ ?_
  refine lv_istore (lv' := [(9, .int (fX5_isOn xs ys ic id ib)), (8, .int (fX5_isOn xs ys ic id ia)), (7, .int (fX5_isOn xs ys ia ib id)), (6, .int (fX5_isOn xs ys ia ib ic)), (5, .int (0 : Int32)), (0, .ref m1), (1, .int ia), (2, .int ib), (3, .int ic), (4, .int id)]) hx hb dX5_common_40 hl (by decide) rfl (fun ls hl => ?_)
  refine lv_iload hx hb dX5_common_42 (lv_at hl 4 rfl) ?_
  refine lv_iload hx hb dX5_common_44 (lv_at hl 3 rfl) ?_
  refine lv_if_eq (tgt := 53) hx hb dX5_common_46 (by decide) (fun c1 => ?_) (fun c1 => ?_)
  · refine lv_iconst (v := 0) hx hb dX5_common_53 (by decide) ?_
    refine lv_iadd hx hb dX5_common_54 ?_
    refine lv_topi (fun z2 ez2 => ?_)
    refine lv_istore (lv' := [(5, .int z2), (9, .int (fX5_isOn xs ys ic id ib)), (8, .int (fX5_isOn xs ys ic id ia)), (7, .int (fX5_isOn xs ys ia ib id)), (6, .int (fX5_isOn xs ys ia ib ic)), (0, .ref m1), (1, .int ia), (2, .int ib), (3, .int ic), (4, .int id)]) hx hb dX5_common_55 hl (by decide) rfl (fun ls hl => ?_)
    refine lv_iload hx hb dX5_common_57 (lv_at hl 0 rfl) ?_
    refine lv_iload hx hb dX5_common_59 (lv_at hl 3 rfl) ?_
    refine lv_if_eq (tgt := 78) hx hb dX5_common_61 (by decide) (fun c3 => ?_) (fun c3 => ?_)
    · refine lv_iconst (v := 0) hx hb dX5_common_78 (by decide) ?_
      refine lv_iadd hx hb dX5_common_79 ?_
      refine lv_istore (lv' := [(5, .int (z2 + (0 : Int32))), (9, .int (fX5_isOn xs ys ic id ib)), (8, .int (fX5_isOn xs ys ic id ia)), (7, .int (fX5_isOn xs ys ia ib id)), (6, .int (fX5_isOn xs ys ia ib ic)), (0, .ref m1), (1, .int ia), (2, .int ib), (3, .int ic), (4, .int id)]) hx hb dX5_common_80 hl (by decide) rfl (fun ls hl => ?_)
      refine lv_iload hx hb dX5_common_82 (lv_at hl 0 rfl) ?_
      refine lv_iload hx hb dX5_common_84 (lv_at hl 2 rfl) ?_
      refine lv_if_eq (tgt := 112) hx hb dX5_common_86 (by decide) (fun c4 => ?_) (fun c4 => ?_)
      · refine lv_iconst (v := 0) hx hb dX5_common_112 (by decide) ?_
        refine lv_iadd hx hb dX5_common_113 ?_
        refine lv_topi (fun z5 ez5 => ?_)
        refine lv_istore (lv' := [(5, .int z5), (9, .int (fX5_isOn xs ys ic id ib)), (8, .int (fX5_isOn xs ys ic id ia)), (7, .int (fX5_isOn xs ys ia ib id)), (6, .int (fX5_isOn xs ys ia ib ic)), (0, .ref m1), (1, .int ia), (2, .int ib), (3, .int ic), (4, .int id)]) hx hb dX5_common_114 hl (by decide) rfl (fun ls hl => ?_)
        refine lv_iload hx hb dX5_common_116 (lv_at hl 0 rfl) ?_
        refine lv_iload hx hb dX5_common_118 (lv_at hl 1 rfl) ?_
        refine lv_if_eq (tgt := 155) hx hb dX5_common_120 (by decide) (fun c6 => ?_) (fun c6 => ?_)
        · refine lv_iconst (v := 0) hx hb dX5_common_155 (by decide) ?_
          refine lv_iadd hx hb dX5_common_156 ?_
          refine lv_istore (lv' := [(5, .int (z5 + (0 : Int32))), (9, .int (fX5_isOn xs ys ic id ib)), (8, .int (fX5_isOn xs ys ic id ia)), (7, .int (fX5_isOn xs ys ia ib id)), (6, .int (fX5_isOn xs ys ia ib ic)), (0, .ref m1), (1, .int ia), (2, .int ib), (3, .int ic), (4, .int id)]) hx hb dX5_common_157 hl (by decide) rfl (fun ls hl => ?_)
          refine lv_iload hx hb dX5_common_159 (lv_at hl 0 rfl) ?_
          refine lv_iconst (v := 1) hx hb dX5_common_161 (by decide) ?_
          refine lv_icmp_le (tgt := 169) hx hb dX5_common_162 (by decide) (fun c7 => ?_) (fun c7 => ?_)
          · refine lv_iload hx hb dX5_common_169 (lv_at hl 0 rfl) ?_
            subst ez5 ez2
            exact W.iret (v := ((((0 : Int32) + (0 : Int32)) + (0 : Int32)) + (0 : Int32)) + (0 : Int32)) hx hb hr (fun t ht hW => ⟨by rw [show fX5_common xs ys ia ib ic id = ((((0 : Int32) + (0 : Int32)) + (0 : Int32)) + (0 : Int32)) + (0 : Int32) by unfold fX5_common; rw [if_pos c1, if_pos c3, if_pos c4, if_pos c6, if_pos c7]], ht⟩) (fun _ h => absurd h List.not_mem_nil) dX5_common_171
          · refine lv_iconst (v := 2) hx hb dX5_common_165 (by decide) ?_
            refine lv_goto (tgt := 171) hx hb dX5_common_166 (by decide) ?_
            subst ez5 ez2
            exact W.iret (v := (2 : Int32)) hx hb hr (fun t ht hW => ⟨by rw [show fX5_common xs ys ia ib ic id = (2 : Int32) by unfold fX5_common; rw [if_pos c1, if_pos c3, if_pos c4, if_pos c6, if_neg c7]], ht⟩) (fun _ h => absurd h List.not_mem_nil) dX5_common_171
        · refine lv_aload_n hx hb dX5_common_123 rfl (lv_at hl 5 rfl) ?_
          refine lv_iload_n hx hb dX5_common_124 rfl (lv_at hl 7 rfl) ?_
          refine lv_iload_n hx hb dX5_common_125 rfl (lv_at hl 8 rfl) ?_
          refine xr_V (q := (RX5, TX5, 14)) (ci := 9) (q0 := 0) (rest := [.int z5]) (As := [.int ib, .int ic]) ⟨hx, hb, hml, hown, hts⟩ (ct5_areEqual l D m1 m2 m3 m4 m5 m6 m7 kI kJ xs ys held la lb lc th pm rm on cl un ze lm ib ic oib oic) (cwV 2 hts gl_X5_107 rfl rfl rfl (by decide +kernel) ⟨Nat.le_of_ble_eq_true rfl, Nat.le_of_ble_eq_true rfl⟩) nN_mv hN hK hP [0, 1, 2, 3, 4, 5, 6] [0, 1] rfl rfl rfl rfl rfl hl.1 rfl (Nat.le_of_ble_eq_true rfl) dX5_common_126 ⟨Nat.le_of_ble_eq_true rfl, Nat.le_of_ble_eq_true rfl⟩ ?_
          refine lv_if_ne (tgt := 155) hx hb dX5_common_129 (by decide) (fun c8 => ?_) (fun c8 => ?_)
          · refine lv_iconst (v := 0) hx hb dX5_common_155 (by decide) ?_
            refine lv_iadd hx hb dX5_common_156 ?_
            refine lv_istore (lv' := [(5, .int (z5 + (0 : Int32))), (9, .int (fX5_isOn xs ys ic id ib)), (8, .int (fX5_isOn xs ys ic id ia)), (7, .int (fX5_isOn xs ys ia ib id)), (6, .int (fX5_isOn xs ys ia ib ic)), (0, .ref m1), (1, .int ia), (2, .int ib), (3, .int ic), (4, .int id)]) hx hb dX5_common_157 hl (by decide) rfl (fun ls hl => ?_)
            refine lv_iload hx hb dX5_common_159 (lv_at hl 0 rfl) ?_
            refine lv_iconst (v := 1) hx hb dX5_common_161 (by decide) ?_
            refine lv_icmp_le (tgt := 169) hx hb dX5_common_162 (by decide) (fun c9 => ?_) (fun c9 => ?_)
            · refine lv_iload hx hb dX5_common_169 (lv_at hl 0 rfl) ?_
              subst ez5 ez2
              exact W.iret (v := ((((0 : Int32) + (0 : Int32)) + (0 : Int32)) + (0 : Int32)) + (0 : Int32)) hx hb hr (fun t ht hW => ⟨by rw [show fX5_common xs ys ia ib ic id = ((((0 : Int32) + (0 : Int32)) + (0 : Int32)) + (0 : Int32)) + (0 : Int32) by unfold fX5_common; rw [if_pos c1, if_pos c3, if_pos c4, if_neg c6, if_neg c8, if_pos c9]], ht⟩) (fun _ h => absurd h List.not_mem_nil) dX5_common_171
            · refine lv_iconst (v := 2) hx hb dX5_common_165 (by decide) ?_
              refine lv_goto (tgt := 171) hx hb dX5_common_166 (by decide) ?_
              subst ez5 ez2
              exact W.iret (v := (2 : Int32)) hx hb hr (fun t ht hW => ⟨by rw [show fX5_common xs ys ia ib ic id = (2 : Int32) by unfold fX5_common; rw [if_pos c1, if_pos c3, if_pos c4, if_neg c6, if_neg c8, if_neg c9]], ht⟩) (fun _ h => absurd h List.not_mem_nil) dX5_common_171
          · refine lv_aload_n hx hb dX5_common_132 rfl (lv_at hl 5 rfl) ?_
            refine lv_iload_n hx hb dX5_common_133 rfl (lv_at hl 7 rfl) ?_
            refine lv_iload hx hb dX5_common_134 (lv_at hl 9 rfl) ?_
            refine xr_V (q := (RX5, TX5, 14)) (ci := 9) (q0 := 0) (rest := [.int z5]) (As := [.int ib, .int id]) ⟨hx, hb, hml, hown, hts⟩ (ct5_areEqual l D m1 m2 m3 m4 m5 m6 m7 kI kJ xs ys held la lb lc th pm rm on cl un ze lm ib id oib oid) (cwV 2 hts gl_X5_107 rfl rfl rfl (by decide +kernel) ⟨Nat.le_of_ble_eq_true rfl, Nat.le_of_ble_eq_true rfl⟩) nN_mv hN hK hP [0, 1, 2, 3, 4, 5, 6] [0, 1] rfl rfl rfl rfl rfl hl.1 rfl (Nat.le_of_ble_eq_true rfl) dX5_common_136 ⟨Nat.le_of_ble_eq_true rfl, Nat.le_of_ble_eq_true rfl⟩ ?_
            refine lv_if_ne (tgt := 155) hx hb dX5_common_139 (by decide) (fun c10 => ?_) (fun c10 => ?_)
            · refine lv_iconst (v := 0) hx hb dX5_common_155 (by decide) ?_
              refine lv_iadd hx hb dX5_common_156 ?_
              refine lv_istore (lv' := [(5, .int (z5 + (0 : Int32))), (9, .int (fX5_isOn xs ys ic id ib)), (8, .int (fX5_isOn xs ys ic id ia)), (7, .int (fX5_isOn xs ys ia ib id)), (6, .int (fX5_isOn xs ys ia ib ic)), (0, .ref m1), (1, .int ia), (2, .int ib), (3, .int ic), (4, .int id)]) hx hb dX5_common_157 hl (by decide) rfl (fun ls hl => ?_)
              refine lv_iload hx hb dX5_common_159 (lv_at hl 0 rfl) ?_
              refine lv_iconst (v := 1) hx hb dX5_common_161 (by decide) ?_
              refine lv_icmp_le (tgt := 169) hx hb dX5_common_162 (by decide) (fun c11 => ?_) (fun c11 => ?_)
              · refine lv_iload hx hb dX5_common_169 (lv_at hl 0 rfl) ?_
                subst ez5 ez2
                exact W.iret (v := ((((0 : Int32) + (0 : Int32)) + (0 : Int32)) + (0 : Int32)) + (0 : Int32)) hx hb hr (fun t ht hW => ⟨by rw [show fX5_common xs ys ia ib ic id = ((((0 : Int32) + (0 : Int32)) + (0 : Int32)) + (0 : Int32)) + (0 : Int32) by unfold fX5_common; rw [if_pos c1, if_pos c3, if_pos c4, if_neg c6, if_pos c8, if_neg c10, if_pos c11]], ht⟩) (fun _ h => absurd h List.not_mem_nil) dX5_common_171
              · refine lv_iconst (v := 2) hx hb dX5_common_165 (by decide) ?_
                refine lv_goto (tgt := 171) hx hb dX5_common_166 (by decide) ?_
                subst ez5 ez2
                exact W.iret (v := (2 : Int32)) hx hb hr (fun t ht hW => ⟨by rw [show fX5_common xs ys ia ib ic id = (2 : Int32) by unfold fX5_common; rw [if_pos c1, if_pos c3, if_pos c4, if_neg c6, if_pos c8, if_neg c10, if_neg c11]], ht⟩) (fun _ h => absurd h List.not_mem_nil) dX5_common_171
            · refine lv_aload_n hx hb dX5_common_142 rfl (lv_at hl 5 rfl) ?_
              refine lv_iload_n hx hb dX5_common_143 rfl (lv_at hl 6 rfl) ?_
              refine lv_iload_n hx hb dX5_common_144 rfl (lv_at hl 7 rfl) ?_
              refine xr_V (q := (RX5, TX5, 14)) (ci := 9) (q0 := 0) (rest := [.int z5]) (As := [.int ia, .int ib]) ⟨hx, hb, hml, hown, hts⟩ (ct5_areEqual l D m1 m2 m3 m4 m5 m6 m7 kI kJ xs ys held la lb lc th pm rm on cl un ze lm ia ib oia oib) (cwV 2 hts gl_X5_107 rfl rfl rfl (by decide +kernel) ⟨Nat.le_of_ble_eq_true rfl, Nat.le_of_ble_eq_true rfl⟩) nN_mv hN hK hP [0, 1, 2, 3, 4, 5, 6] [0, 1] rfl rfl rfl rfl rfl hl.1 rfl (Nat.le_of_ble_eq_true rfl) dX5_common_145 ⟨Nat.le_of_ble_eq_true rfl, Nat.le_of_ble_eq_true rfl⟩ ?_
              refine lv_if_ne (tgt := 155) hx hb dX5_common_148 (by decide) (fun c12 => ?_) (fun c12 => ?_)
              · refine lv_iconst (v := 0) hx hb dX5_common_155 (by decide) ?_
                refine lv_iadd hx hb dX5_common_156 ?_
                refine lv_istore (lv' := [(5, .int (z5 + (0 : Int32))), (9, .int (fX5_isOn xs ys ic id ib)), (8, .int (fX5_isOn xs ys ic id ia)), (7, .int (fX5_isOn xs ys ia ib id)), (6, .int (fX5_isOn xs ys ia ib ic)), (0, .ref m1), (1, .int ia), (2, .int ib), (3, .int ic), (4, .int id)]) hx hb dX5_common_157 hl (by decide) rfl (fun ls hl => ?_)
                refine lv_iload hx hb dX5_common_159 (lv_at hl 0 rfl) ?_
                refine lv_iconst (v := 1) hx hb dX5_common_161 (by decide) ?_
                refine lv_icmp_le (tgt := 169) hx hb dX5_common_162 (by decide) (fun c13 => ?_) (fun c13 => ?_)
                · refine lv_iload hx hb dX5_common_169 (lv_at hl 0 rfl) ?_
                  subst ez5 ez2
                  exact W.iret (v := ((((0 : Int32) + (0 : Int32)) + (0 : Int32)) + (0 : Int32)) + (0 : Int32)) hx hb hr (fun t ht hW => ⟨by rw [show fX5_common xs ys ia ib ic id = ((((0 : Int32) + (0 : Int32)) + (0 : Int32)) + (0 : Int32)) + (0 : Int32) by unfold fX5_common; rw [if_pos c1, if_pos c3, if_pos c4, if_neg c6, if_pos c8, if_pos c10, if_neg c12, if_pos c13]], ht⟩) (fun _ h => absurd h List.not_mem_nil) dX5_common_171
                · refine lv_iconst (v := 2) hx hb dX5_common_165 (by decide) ?_
                  refine lv_goto (tgt := 171) hx hb dX5_common_166 (by decide) ?_
                  subst ez5 ez2
                  exact W.iret (v := (2 : Int32)) hx hb hr (fun t ht hW => ⟨by rw [show fX5_common xs ys ia ib ic id = (2 : Int32) by unfold fX5_common; rw [if_pos c1, if_pos c3, if_pos c4, if_neg c6, if_pos c8, if_pos c10, if_neg c12, if_neg c13]], ht⟩) (fun _ h => absurd h List.not_mem_nil) dX5_common_171
              · refine lv_iconst (v := 1) hx hb dX5_common_151 (by decide) ?_
                refine lv_goto (tgt := 156) hx hb dX5_common_152 (by decide) ?_
                refine lv_iadd hx hb dX5_common_156 ?_
                refine lv_istore (lv' := [(5, .int (z5 + (1 : Int32))), (9, .int (fX5_isOn xs ys ic id ib)), (8, .int (fX5_isOn xs ys ic id ia)), (7, .int (fX5_isOn xs ys ia ib id)), (6, .int (fX5_isOn xs ys ia ib ic)), (0, .ref m1), (1, .int ia), (2, .int ib), (3, .int ic), (4, .int id)]) hx hb dX5_common_157 hl (by decide) rfl (fun ls hl => ?_)
                refine lv_iload hx hb dX5_common_159 (lv_at hl 0 rfl) ?_
                refine lv_iconst (v := 1) hx hb dX5_common_161 (by decide) ?_
                refine lv_icmp_le (tgt := 169) hx hb dX5_common_162 (by decide) (fun c14 => ?_) (fun c14 => ?_)
                · refine lv_iload hx hb dX5_common_169 (lv_at hl 0 rfl) ?_
                  subst ez5 ez2
                  exact W.iret (v := ((((0 : Int32) + (0 : Int32)) + (0 : Int32)) + (0 : Int32)) + (1 : Int32)) hx hb hr (fun t ht hW => ⟨by rw [show fX5_common xs ys ia ib ic id = ((((0 : Int32) + (0 : Int32)) + (0 : Int32)) + (0 : Int32)) + (1 : Int32) by unfold fX5_common; rw [if_pos c1, if_pos c3, if_pos c4, if_neg c6, if_pos c8, if_pos c10, if_pos c12, if_pos c14]], ht⟩) (fun _ h => absurd h List.not_mem_nil) dX5_common_171
                · refine lv_iconst (v := 2) hx hb dX5_common_165 (by decide) ?_
                  refine lv_goto (tgt := 171) hx hb dX5_common_166 (by decide) ?_
                  subst ez5 ez2
                  exact W.iret (v := (2 : Int32)) hx hb hr (fun t ht hW => ⟨by rw [show fX5_common xs ys ia ib ic id = (2 : Int32) by unfold fX5_common; rw [if_pos c1, if_pos c3, if_pos c4, if_neg c6, if_pos c8, if_pos c10, if_pos c12, if_neg c14]], ht⟩) (fun _ h => absurd h List.not_mem_nil) dX5_common_171
      · refine lv_aload_n hx hb dX5_common_89 rfl (lv_at hl 5 rfl) ?_
        refine lv_iload_n hx hb dX5_common_90 rfl (lv_at hl 6 rfl) ?_
        refine lv_iload_n hx hb dX5_common_91 rfl (lv_at hl 8 rfl) ?_
        refine xr_V (q := (RX5, TX5, 14)) (ci := 9) (q0 := 0) (rest := [.int (z2 + (0 : Int32))]) (As := [.int ia, .int ic]) ⟨hx, hb, hml, hown, hts⟩ (ct5_areEqual l D m1 m2 m3 m4 m5 m6 m7 kI kJ xs ys held la lb lc th pm rm on cl un ze lm ia ic oia oic) (cwV 2 hts gl_X5_107 rfl rfl rfl (by decide +kernel) ⟨Nat.le_of_ble_eq_true rfl, Nat.le_of_ble_eq_true rfl⟩) nN_mv hN hK hP [0, 1, 2, 3, 4, 5, 6] [0, 1] rfl rfl rfl rfl rfl hl.1 rfl (Nat.le_of_ble_eq_true rfl) dX5_common_92 ⟨Nat.le_of_ble_eq_true rfl, Nat.le_of_ble_eq_true rfl⟩ ?_
        refine lv_if_ne (tgt := 112) hx hb dX5_common_95 (by decide) (fun c15 => ?_) (fun c15 => ?_)
        · refine lv_iconst (v := 0) hx hb dX5_common_112 (by decide) ?_
          refine lv_iadd hx hb dX5_common_113 ?_
          refine lv_topi (fun z16 ez16 => ?_)
          refine lv_istore (lv' := [(5, .int z16), (9, .int (fX5_isOn xs ys ic id ib)), (8, .int (fX5_isOn xs ys ic id ia)), (7, .int (fX5_isOn xs ys ia ib id)), (6, .int (fX5_isOn xs ys ia ib ic)), (0, .ref m1), (1, .int ia), (2, .int ib), (3, .int ic), (4, .int id)]) hx hb dX5_common_114 hl (by decide) rfl (fun ls hl => ?_)
          refine lv_iload hx hb dX5_common_116 (lv_at hl 0 rfl) ?_
          refine lv_iload hx hb dX5_common_118 (lv_at hl 1 rfl) ?_
          refine lv_if_eq (tgt := 155) hx hb dX5_common_120 (by decide) (fun c17 => ?_) (fun c17 => ?_)
          · refine lv_iconst (v := 0) hx hb dX5_common_155 (by decide) ?_
            refine lv_iadd hx hb dX5_common_156 ?_
            refine lv_istore (lv' := [(5, .int (z16 + (0 : Int32))), (9, .int (fX5_isOn xs ys ic id ib)), (8, .int (fX5_isOn xs ys ic id ia)), (7, .int (fX5_isOn xs ys ia ib id)), (6, .int (fX5_isOn xs ys ia ib ic)), (0, .ref m1), (1, .int ia), (2, .int ib), (3, .int ic), (4, .int id)]) hx hb dX5_common_157 hl (by decide) rfl (fun ls hl => ?_)
            refine lv_iload hx hb dX5_common_159 (lv_at hl 0 rfl) ?_
            refine lv_iconst (v := 1) hx hb dX5_common_161 (by decide) ?_
            refine lv_icmp_le (tgt := 169) hx hb dX5_common_162 (by decide) (fun c18 => ?_) (fun c18 => ?_)
            · refine lv_iload hx hb dX5_common_169 (lv_at hl 0 rfl) ?_
              subst ez16 ez2
              exact W.iret (v := ((((0 : Int32) + (0 : Int32)) + (0 : Int32)) + (0 : Int32)) + (0 : Int32)) hx hb hr (fun t ht hW => ⟨by rw [show fX5_common xs ys ia ib ic id = ((((0 : Int32) + (0 : Int32)) + (0 : Int32)) + (0 : Int32)) + (0 : Int32) by unfold fX5_common; rw [if_pos c1, if_pos c3, if_neg c4, if_neg c15, if_pos c17, if_pos c18]], ht⟩) (fun _ h => absurd h List.not_mem_nil) dX5_common_171
            · refine lv_iconst (v := 2) hx hb dX5_common_165 (by decide) ?_
              refine lv_goto (tgt := 171) hx hb dX5_common_166 (by decide) ?_
              subst ez16 ez2
              exact W.iret (v := (2 : Int32)) hx hb hr (fun t ht hW => ⟨by rw [show fX5_common xs ys ia ib ic id = (2 : Int32) by unfold fX5_common; rw [if_pos c1, if_pos c3, if_neg c4, if_neg c15, if_pos c17, if_neg c18]], ht⟩) (fun _ h => absurd h List.not_mem_nil) dX5_common_171
          · refine lv_aload_n hx hb dX5_common_123 rfl (lv_at hl 5 rfl) ?_
            refine lv_iload_n hx hb dX5_common_124 rfl (lv_at hl 7 rfl) ?_
            refine lv_iload_n hx hb dX5_common_125 rfl (lv_at hl 8 rfl) ?_
            refine xr_V (q := (RX5, TX5, 14)) (ci := 9) (q0 := 0) (rest := [.int z16]) (As := [.int ib, .int ic]) ⟨hx, hb, hml, hown, hts⟩ (ct5_areEqual l D m1 m2 m3 m4 m5 m6 m7 kI kJ xs ys held la lb lc th pm rm on cl un ze lm ib ic oib oic) (cwV 2 hts gl_X5_107 rfl rfl rfl (by decide +kernel) ⟨Nat.le_of_ble_eq_true rfl, Nat.le_of_ble_eq_true rfl⟩) nN_mv hN hK hP [0, 1, 2, 3, 4, 5, 6] [0, 1] rfl rfl rfl rfl rfl hl.1 rfl (Nat.le_of_ble_eq_true rfl) dX5_common_126 ⟨Nat.le_of_ble_eq_true rfl, Nat.le_of_ble_eq_true rfl⟩ ?_
            refine lv_if_ne (tgt := 155) hx hb dX5_common_129 (by decide) (fun c19 => ?_) (fun c19 => ?_)
            · refine lv_iconst (v := 0) hx hb dX5_common_155 (by decide) ?_
              refine lv_iadd hx hb dX5_common_156 ?_
              refine lv_istore (lv' := [(5, .int (z16 + (0 : Int32))), (9, .int (fX5_isOn xs ys ic id ib)), (8, .int (fX5_isOn xs ys ic id ia)), (7, .int (fX5_isOn xs ys ia ib id)), (6, .int (fX5_isOn xs ys ia ib ic)), (0, .ref m1), (1, .int ia), (2, .int ib), (3, .int ic), (4, .int id)]) hx hb dX5_common_157 hl (by decide) rfl (fun ls hl => ?_)
              refine lv_iload hx hb dX5_common_159 (lv_at hl 0 rfl) ?_
              refine lv_iconst (v := 1) hx hb dX5_common_161 (by decide) ?_
              refine lv_icmp_le (tgt := 169) hx hb dX5_common_162 (by decide) (fun c20 => ?_) (fun c20 => ?_)
              · refine lv_iload hx hb dX5_common_169 (lv_at hl 0 rfl) ?_
                subst ez16 ez2
                exact W.iret (v := ((((0 : Int32) + (0 : Int32)) + (0 : Int32)) + (0 : Int32)) + (0 : Int32)) hx hb hr (fun t ht hW => ⟨by rw [show fX5_common xs ys ia ib ic id = ((((0 : Int32) + (0 : Int32)) + (0 : Int32)) + (0 : Int32)) + (0 : Int32) by unfold fX5_common; rw [if_pos c1, if_pos c3, if_neg c4, if_neg c15, if_neg c17, if_neg c19, if_pos c20]], ht⟩) (fun _ h => absurd h List.not_mem_nil) dX5_common_171
              · refine lv_iconst (v := 2) hx hb dX5_common_165 (by decide) ?_
                refine lv_goto (tgt := 171) hx hb dX5_common_166 (by decide) ?_
                subst ez16 ez2
                exact W.iret (v := (2 : Int32)) hx hb hr (fun t ht hW => ⟨by rw [show fX5_common xs ys ia ib ic id = (2 : Int32) by unfold fX5_common; rw [if_pos c1, if_pos c3, if_neg c4, if_neg c15, if_neg c17, if_neg c19, if_neg c20]], ht⟩) (fun _ h => absurd h List.not_mem_nil) dX5_common_171
            · refine lv_aload_n hx hb dX5_common_132 rfl (lv_at hl 5 rfl) ?_
              refine lv_iload_n hx hb dX5_common_133 rfl (lv_at hl 7 rfl) ?_
              refine lv_iload hx hb dX5_common_134 (lv_at hl 9 rfl) ?_
              refine xr_V (q := (RX5, TX5, 14)) (ci := 9) (q0 := 0) (rest := [.int z16]) (As := [.int ib, .int id]) ⟨hx, hb, hml, hown, hts⟩ (ct5_areEqual l D m1 m2 m3 m4 m5 m6 m7 kI kJ xs ys held la lb lc th pm rm on cl un ze lm ib id oib oid) (cwV 2 hts gl_X5_107 rfl rfl rfl (by decide +kernel) ⟨Nat.le_of_ble_eq_true rfl, Nat.le_of_ble_eq_true rfl⟩) nN_mv hN hK hP [0, 1, 2, 3, 4, 5, 6] [0, 1] rfl rfl rfl rfl rfl hl.1 rfl (Nat.le_of_ble_eq_true rfl) dX5_common_136 ⟨Nat.le_of_ble_eq_true rfl, Nat.le_of_ble_eq_true rfl⟩ ?_
              refine lv_if_ne (tgt := 155) hx hb dX5_common_139 (by decide) (fun c21 => ?_) (fun c21 => ?_)
              · refine lv_iconst (v := 0) hx hb dX5_common_155 (by decide) ?_
                refine lv_iadd hx hb dX5_common_156 ?_
                refine lv_istore (lv' := [(5, .int (z16 + (0 : Int32))), (9, .int (fX5_isOn xs ys ic id ib)), (8, .int (fX5_isOn xs ys ic id ia)), (7, .int (fX5_isOn xs ys ia ib id)), (6, .int (fX5_isOn xs ys ia ib ic)), (0, .ref m1), (1, .int ia), (2, .int ib), (3, .int ic), (4, .int id)]) hx hb dX5_common_157 hl (by decide) rfl (fun ls hl => ?_)
                refine lv_iload hx hb dX5_common_159 (lv_at hl 0 rfl) ?_
                refine lv_iconst (v := 1) hx hb dX5_common_161 (by decide) ?_
                refine lv_icmp_le (tgt := 169) hx hb dX5_common_162 (by decide) (fun c22 => ?_) (fun c22 => ?_)
                · refine lv_iload hx hb dX5_common_169 (lv_at hl 0 rfl) ?_
                  subst ez16 ez2
                  exact W.iret (v := ((((0 : Int32) + (0 : Int32)) + (0 : Int32)) + (0 : Int32)) + (0 : Int32)) hx hb hr (fun t ht hW => ⟨by rw [show fX5_common xs ys ia ib ic id = ((((0 : Int32) + (0 : Int32)) + (0 : Int32)) + (0 : Int32)) + (0 : Int32) by unfold fX5_common; rw [if_pos c1, if_pos c3, if_neg c4, if_neg c15, if_neg c17, if_pos c19, if_neg c21, if_pos c22]], ht⟩) (fun _ h => absurd h List.not_mem_nil) dX5_common_171
                · refine lv_iconst (v := 2) hx hb dX5_common_165 (by decide) ?_
                  refine lv_goto (tgt := 171) hx hb dX5_common_166 (by decide) ?_
                  subst ez16 ez2
                  exact W.iret (v := (2 : Int32)) hx hb hr (fun t ht hW => ⟨by rw [show fX5_common xs ys ia ib ic id = (2 : Int32) by unfold fX5_common; rw [if_pos c1, if_pos c3, if_neg c4, if_neg c15, if_neg c17, if_pos c19, if_neg c21, if_neg c22]], ht⟩) (fun _ h => absurd h List.not_mem_nil) dX5_common_171
              · refine lv_aload_n hx hb dX5_common_142 rfl (lv_at hl 5 rfl) ?_
                refine lv_iload_n hx hb dX5_common_143 rfl (lv_at hl 6 rfl) ?_
                refine lv_iload_n hx hb dX5_common_144 rfl (lv_at hl 7 rfl) ?_
                refine xr_V (q := (RX5, TX5, 14)) (ci := 9) (q0 := 0) (rest := [.int z16]) (As := [.int ia, .int ib]) ⟨hx, hb, hml, hown, hts⟩ (ct5_areEqual l D m1 m2 m3 m4 m5 m6 m7 kI kJ xs ys held la lb lc th pm rm on cl un ze lm ia ib oia oib) (cwV 2 hts gl_X5_107 rfl rfl rfl (by decide +kernel) ⟨Nat.le_of_ble_eq_true rfl, Nat.le_of_ble_eq_true rfl⟩) nN_mv hN hK hP [0, 1, 2, 3, 4, 5, 6] [0, 1] rfl rfl rfl rfl rfl hl.1 rfl (Nat.le_of_ble_eq_true rfl) dX5_common_145 ⟨Nat.le_of_ble_eq_true rfl, Nat.le_of_ble_eq_true rfl⟩ ?_
                refine lv_if_ne (tgt := 155) hx hb dX5_common_148 (by decide) (fun c23 => ?_) (fun c23 => ?_)
                · refine lv_iconst (v := 0) hx hb dX5_common_155 (by decide) ?_
                  refine lv_iadd hx hb dX5_common_156 ?_
                  refine lv_istore (lv' := [(5, .int (z16 + (0 : Int32))), (9, .int (fX5_isOn xs ys ic id ib)), (8, .int (fX5_isOn xs ys ic id ia)), (7, .int (fX5_isOn xs ys ia ib id)), (6, .int (fX5_isOn xs ys ia ib ic)), (0, .ref m1), (1, .int ia), (2, .int ib), (3, .int ic), (4, .int id)]) hx hb dX5_common_157 hl (by decide) rfl (fun ls hl => ?_)
                  refine lv_iload hx hb dX5_common_159 (lv_at hl 0 rfl) ?_
                  refine lv_iconst (v := 1) hx hb dX5_common_161 (by decide) ?_
                  refine lv_icmp_le (tgt := 169) hx hb dX5_common_162 (by decide) (fun c24 => ?_) (fun c24 => ?_)
                  · refine lv_iload hx hb dX5_common_169 (lv_at hl 0 rfl) ?_
                    subst ez16 ez2
                    exact W.iret (v := ((((0 : Int32) + (0 : Int32)) + (0 : Int32)) + (0 : Int32)) + (0 : Int32)) hx hb hr (fun t ht hW => ⟨by rw [show fX5_common xs ys ia ib ic id = ((((0 : Int32) + (0 : Int32)) + (0 : Int32)) + (0 : Int32)) + (0 : Int32) by unfold fX5_common; rw [if_pos c1, if_pos c3, if_neg c4, if_neg c15, if_neg c17, if_pos c19, if_pos c21, if_neg c23, if_pos c24]], ht⟩) (fun _ h => absurd h List.not_mem_nil) dX5_common_171
                  · refine lv_iconst (v := 2) hx hb dX5_common_165 (by decide) ?_
                    refine lv_goto (tgt := 171) hx hb dX5_common_166 (by decide) ?_
                    subst ez16 ez2
                    exact W.iret (v := (2 : Int32)) hx hb hr (fun t ht hW => ⟨by rw [show fX5_common xs ys ia ib ic id = (2 : Int32) by unfold fX5_common; rw [if_pos c1, if_pos c3, if_neg c4, if_neg c15, if_neg c17, if_pos c19, if_pos c21, if_neg c23, if_neg c24]], ht⟩) (fun _ h => absurd h List.not_mem_nil) dX5_common_171
                · refine lv_iconst (v := 1) hx hb dX5_common_151 (by decide) ?_
                  refine lv_goto (tgt := 156) hx hb dX5_common_152 (by decide) ?_
                  refine lv_iadd hx hb dX5_common_156 ?_
                  refine lv_istore (lv' := [(5, .int (z16 + (1 : Int32))), (9, .int (fX5_isOn xs ys ic id ib)), (8, .int (fX5_isOn xs ys ic id ia)), (7, .int (fX5_isOn xs ys ia ib id)), (6, .int (fX5_isOn xs ys ia ib ic)), (0, .ref m1), (1, .int ia), (2, .int ib), (3, .int ic), (4, .int id)]) hx hb dX5_common_157 hl (by decide) rfl (fun ls hl => ?_)
                  refine lv_iload hx hb dX5_common_159 (lv_at hl 0 rfl) ?_
                  refine lv_iconst (v := 1) hx hb dX5_common_161 (by decide) ?_
                  refine lv_icmp_le (tgt := 169) hx hb dX5_common_162 (by decide) (fun c25 => ?_) (fun c25 => ?_)
                  · refine lv_iload hx hb dX5_common_169 (lv_at hl 0 rfl) ?_
                    subst ez16 ez2
                    exact W.iret (v := ((((0 : Int32) + (0 : Int32)) + (0 : Int32)) + (0 : Int32)) + (1 : Int32)) hx hb hr (fun t ht hW => ⟨by rw [show fX5_common xs ys ia ib ic id = ((((0 : Int32) + (0 : Int32)) + (0 : Int32)) + (0 : Int32)) + (1 : Int32) by unfold fX5_common; rw [if_pos c1, if_pos c3, if_neg c4, if_neg c15, if_neg c17, if_pos c19, if_pos c21, if_pos c23, if_pos c25]], ht⟩) (fun _ h => absurd h List.not_mem_nil) dX5_common_171
                  · refine lv_iconst (v := 2) hx hb dX5_common_165 (by decide) ?_
                    refine lv_goto (tgt := 171) hx hb dX5_common_166 (by decide) ?_
                    subst ez16 ez2
                    exact W.iret (v := (2 : Int32)) hx hb hr (fun t ht hW => ⟨by rw [show fX5_common xs ys ia ib ic id = (2 : Int32) by unfold fX5_common; rw [if_pos c1, if_pos c3, if_neg c4, if_neg c15, if_neg c17, if_pos c19, if_pos c21, if_pos c23, if_neg c25]], ht⟩) (fun _ h => absurd h List.not_mem_nil) dX5_common_171
        · refine lv_aload_n hx hb dX5_common_98 rfl (lv_at hl 5 rfl) ?_
          refine lv_iload_n hx hb dX5_common_99 rfl (lv_at hl 6 rfl) ?_
          refine lv_iload hx hb dX5_common_100 (lv_at hl 9 rfl) ?_
          refine xr_V (q := (RX5, TX5, 14)) (ci := 9) (q0 := 0) (rest := [.int (z2 + (0 : Int32))]) (As := [.int ia, .int id]) ⟨hx, hb, hml, hown, hts⟩ (ct5_areEqual l D m1 m2 m3 m4 m5 m6 m7 kI kJ xs ys held la lb lc th pm rm on cl un ze lm ia id oia oid) (cwV 2 hts gl_X5_107 rfl rfl rfl (by decide +kernel) ⟨Nat.le_of_ble_eq_true rfl, Nat.le_of_ble_eq_true rfl⟩) nN_mv hN hK hP [0, 1, 2, 3, 4, 5, 6] [0, 1] rfl rfl rfl rfl rfl hl.1 rfl (Nat.le_of_ble_eq_true rfl) dX5_common_102 ⟨Nat.le_of_ble_eq_true rfl, Nat.le_of_ble_eq_true rfl⟩ ?_
          refine lv_if_ne (tgt := 112) hx hb dX5_common_105 (by decide) (fun c26 => ?_) (fun c26 => ?_)
          · refine lv_iconst (v := 0) hx hb dX5_common_112 (by decide) ?_
            refine lv_iadd hx hb dX5_common_113 ?_
            refine lv_topi (fun z27 ez27 => ?_)
            refine lv_istore (lv' := [(5, .int z27), (9, .int (fX5_isOn xs ys ic id ib)), (8, .int (fX5_isOn xs ys ic id ia)), (7, .int (fX5_isOn xs ys ia ib id)), (6, .int (fX5_isOn xs ys ia ib ic)), (0, .ref m1), (1, .int ia), (2, .int ib), (3, .int ic), (4, .int id)]) hx hb dX5_common_114 hl (by decide) rfl (fun ls hl => ?_)
            refine lv_iload hx hb dX5_common_116 (lv_at hl 0 rfl) ?_
            refine lv_iload hx hb dX5_common_118 (lv_at hl 1 rfl) ?_
            refine lv_if_eq (tgt := 155) hx hb dX5_common_120 (by decide) (fun c28 => ?_) (fun c28 => ?_)
            · refine lv_iconst (v := 0) hx hb dX5_common_155 (by decide) ?_
              refine lv_iadd hx hb dX5_common_156 ?_
              refine lv_istore (lv' := [(5, .int (z27 + (0 : Int32))), (9, .int (fX5_isOn xs ys ic id ib)), (8, .int (fX5_isOn xs ys ic id ia)), (7, .int (fX5_isOn xs ys ia ib id)), (6, .int (fX5_isOn xs ys ia ib ic)), (0, .ref m1), (1, .int ia), (2, .int ib), (3, .int ic), (4, .int id)]) hx hb dX5_common_157 hl (by decide) rfl (fun ls hl => ?_)
              refine lv_iload hx hb dX5_common_159 (lv_at hl 0 rfl) ?_
              refine lv_iconst (v := 1) hx hb dX5_common_161 (by decide) ?_
              refine lv_icmp_le (tgt := 169) hx hb dX5_common_162 (by decide) (fun c29 => ?_) (fun c29 => ?_)
              · refine lv_iload hx hb dX5_common_169 (lv_at hl 0 rfl) ?_
                subst ez27 ez2
                exact W.iret (v := ((((0 : Int32) + (0 : Int32)) + (0 : Int32)) + (0 : Int32)) + (0 : Int32)) hx hb hr (fun t ht hW => ⟨by rw [show fX5_common xs ys ia ib ic id = ((((0 : Int32) + (0 : Int32)) + (0 : Int32)) + (0 : Int32)) + (0 : Int32) by unfold fX5_common; rw [if_pos c1, if_pos c3, if_neg c4, if_pos c15, if_neg c26, if_pos c28, if_pos c29]], ht⟩) (fun _ h => absurd h List.not_mem_nil) dX5_common_171
              · refine lv_iconst (v := 2) hx hb dX5_common_165 (by decide) ?_
                refine lv_goto (tgt := 171) hx hb dX5_common_166 (by decide) ?_
                subst ez27 ez2
                exact W.iret (v := (2 : Int32)) hx hb hr (fun t ht hW => ⟨by rw [show fX5_common xs ys ia ib ic id = (2 : Int32) by unfold fX5_common; rw [if_pos c1, if_pos c3, if_neg c4, if_pos c15, if_neg c26, if_pos c28, if_neg c29]], ht⟩) (fun _ h => absurd h List.not_mem_nil) dX5_common_171
            · refine lv_aload_n hx hb dX5_common_123 rfl (lv_at hl 5 rfl) ?_
              refine lv_iload_n hx hb dX5_common_124 rfl (lv_at hl 7 rfl) ?_
              refine lv_iload_n hx hb dX5_common_125 rfl (lv_at hl 8 rfl) ?_
              refine xr_V (q := (RX5, TX5, 14)) (ci := 9) (q0 := 0) (rest := [.int z27]) (As := [.int ib, .int ic]) ⟨hx, hb, hml, hown, hts⟩ (ct5_areEqual l D m1 m2 m3 m4 m5 m6 m7 kI kJ xs ys held la lb lc th pm rm on cl un ze lm ib ic oib oic) (cwV 2 hts gl_X5_107 rfl rfl rfl (by decide +kernel) ⟨Nat.le_of_ble_eq_true rfl, Nat.le_of_ble_eq_true rfl⟩) nN_mv hN hK hP [0, 1, 2, 3, 4, 5, 6] [0, 1] rfl rfl rfl rfl rfl hl.1 rfl (Nat.le_of_ble_eq_true rfl) dX5_common_126 ⟨Nat.le_of_ble_eq_true rfl, Nat.le_of_ble_eq_true rfl⟩ ?_
              refine lv_if_ne (tgt := 155) hx hb dX5_common_129 (by decide) (fun c30 => ?_) (fun c30 => ?_)
              · refine lv_iconst (v := 0) hx hb dX5_common_155 (by decide) ?_
                refine lv_iadd hx hb dX5_common_156 ?_
                refine lv_istore (lv' := [(5, .int (z27 + (0 : Int32))), (9, .int (fX5_isOn xs ys ic id ib)), (8, .int (fX5_isOn xs ys ic id ia)), (7, .int (fX5_isOn xs ys ia ib id)), (6, .int (fX5_isOn xs ys ia ib ic)), (0, .ref m1), (1, .int ia), (2, .int ib), (3, .int ic), (4, .int id)]) hx hb dX5_common_157 hl (by decide) rfl (fun ls hl => ?_)
                refine lv_iload hx hb dX5_common_159 (lv_at hl 0 rfl) ?_
                refine lv_iconst (v := 1) hx hb dX5_common_161 (by decide) ?_
                refine lv_icmp_le (tgt := 169) hx hb dX5_common_162 (by decide) (fun c31 => ?_) (fun c31 => ?_)
                · refine lv_iload hx hb dX5_common_169 (lv_at hl 0 rfl) ?_
                  subst ez27 ez2
                  exact W.iret (v := ((((0 : Int32) + (0 : Int32)) + (0 : Int32)) + (0 : Int32)) + (0 : Int32)) hx hb hr (fun t ht hW => ⟨by rw [show fX5_common xs ys ia ib ic id = ((((0 : Int32) + (0 : Int32)) + (0 : Int32)) + (0 : Int32)) + (0 : Int32) by unfold fX5_common; rw [if_pos c1, if_pos c3, if_neg c4, if_pos c15, if_neg c26, if_neg c28, if_neg c30, if_pos c31]], ht⟩) (fun _ h => absurd h List.not_mem_nil) dX5_common_171
                · refine lv_iconst (v := 2) hx hb dX5_common_165 (by decide) ?_
                  refine lv_goto (tgt := 171) hx hb dX5_common_166 (by decide) ?_
                  subst ez27 ez2
                  exact W.iret (v := (2 : Int32)) hx hb hr (fun t ht hW => ⟨by rw [show fX5_common xs ys ia ib ic id = (2 : Int32) by unfold fX5_common; rw [if_pos c1, if_pos c3, if_neg c4, if_pos c15, if_neg c26, if_neg c28, if_neg c30, if_neg c31]], ht⟩) (fun _ h => absurd h List.not_mem_nil) dX5_common_171
              · refine lv_aload_n hx hb dX5_common_132 rfl (lv_at hl 5 rfl) ?_
                refine lv_iload_n hx hb dX5_common_133 rfl (lv_at hl 7 rfl) ?_
                refine lv_iload hx hb dX5_common_134 (lv_at hl 9 rfl) ?_
                refine xr_V (q := (RX5, TX5, 14)) (ci := 9) (q0 := 0) (rest := [.int z27]) (As := [.int ib, .int id]) ⟨hx, hb, hml, hown, hts⟩ (ct5_areEqual l D m1 m2 m3 m4 m5 m6 m7 kI kJ xs ys held la lb lc th pm rm on cl un ze lm ib id oib oid) (cwV 2 hts gl_X5_107 rfl rfl rfl (by decide +kernel) ⟨Nat.le_of_ble_eq_true rfl, Nat.le_of_ble_eq_true rfl⟩) nN_mv hN hK hP [0, 1, 2, 3, 4, 5, 6] [0, 1] rfl rfl rfl rfl rfl hl.1 rfl (Nat.le_of_ble_eq_true rfl) dX5_common_136 ⟨Nat.le_of_ble_eq_true rfl, Nat.le_of_ble_eq_true rfl⟩ ?_
                refine lv_if_ne (tgt := 155) hx hb dX5_common_139 (by decide) (fun c32 => ?_) (fun c32 => ?_)
                · refine lv_iconst (v := 0) hx hb dX5_common_155 (by decide) ?_
                  refine lv_iadd hx hb dX5_common_156 ?_
                  refine lv_istore (lv' := [(5, .int (z27 + (0 : Int32))), (9, .int (fX5_isOn xs ys ic id ib)), (8, .int (fX5_isOn xs ys ic id ia)), (7, .int (fX5_isOn xs ys ia ib id)), (6, .int (fX5_isOn xs ys ia ib ic)), (0, .ref m1), (1, .int ia), (2, .int ib), (3, .int ic), (4, .int id)]) hx hb dX5_common_157 hl (by decide) rfl (fun ls hl => ?_)
                  refine lv_iload hx hb dX5_common_159 (lv_at hl 0 rfl) ?_
                  refine lv_iconst (v := 1) hx hb dX5_common_161 (by decide) ?_
                  refine lv_icmp_le (tgt := 169) hx hb dX5_common_162 (by decide) (fun c33 => ?_) (fun c33 => ?_)
                  · refine lv_iload hx hb dX5_common_169 (lv_at hl 0 rfl) ?_
                    subst ez27 ez2
                    exact W.iret (v := ((((0 : Int32) + (0 : Int32)) + (0 : Int32)) + (0 : Int32)) + (0 : Int32)) hx hb hr (fun t ht hW => ⟨by rw [show fX5_common xs ys ia ib ic id = ((((0 : Int32) + (0 : Int32)) + (0 : Int32)) + (0 : Int32)) + (0 : Int32) by unfold fX5_common; rw [if_pos c1, if_pos c3, if_neg c4, if_pos c15, if_neg c26, if_neg c28, if_pos c30, if_neg c32, if_pos c33]], ht⟩) (fun _ h => absurd h List.not_mem_nil) dX5_common_171
                  · refine lv_iconst (v := 2) hx hb dX5_common_165 (by decide) ?_
                    refine lv_goto (tgt := 171) hx hb dX5_common_166 (by decide) ?_
                    subst ez27 ez2
                    exact W.iret (v := (2 : Int32)) hx hb hr (fun t ht hW => ⟨by rw [show fX5_common xs ys ia ib ic id = (2 : Int32) by unfold fX5_common; rw [if_pos c1, if_pos c3, if_neg c4, if_pos c15, if_neg c26, if_neg c28, if_pos c30, if_neg c32, if_neg c33]], ht⟩) (fun _ h => absurd h List.not_mem_nil) dX5_common_171
                · refine lv_aload_n hx hb dX5_common_142 rfl (lv_at hl 5 rfl) ?_
                  refine lv_iload_n hx hb dX5_common_143 rfl (lv_at hl 6 rfl) ?_
                  refine lv_iload_n hx hb dX5_common_144 rfl (lv_at hl 7 rfl) ?_
                  refine xr_V (q := (RX5, TX5, 14)) (ci := 9) (q0 := 0) (rest := [.int z27]) (As := [.int ia, .int ib]) ⟨hx, hb, hml, hown, hts⟩ (ct5_areEqual l D m1 m2 m3 m4 m5 m6 m7 kI kJ xs ys held la lb lc th pm rm on cl un ze lm ia ib oia oib) (cwV 2 hts gl_X5_107 rfl rfl rfl (by decide +kernel) ⟨Nat.le_of_ble_eq_true rfl, Nat.le_of_ble_eq_true rfl⟩) nN_mv hN hK hP [0, 1, 2, 3, 4, 5, 6] [0, 1] rfl rfl rfl rfl rfl hl.1 rfl (Nat.le_of_ble_eq_true rfl) dX5_common_145 ⟨Nat.le_of_ble_eq_true rfl, Nat.le_of_ble_eq_true rfl⟩ ?_
                  refine lv_if_ne (tgt := 155) hx hb dX5_common_148 (by decide) (fun c34 => ?_) (fun c34 => ?_)
                  · refine lv_iconst (v := 0) hx hb dX5_common_155 (by decide) ?_
                    refine lv_iadd hx hb dX5_common_156 ?_
                    refine lv_istore (lv' := [(5, .int (z27 + (0 : Int32))), (9, .int (fX5_isOn xs ys ic id ib)), (8, .int (fX5_isOn xs ys ic id ia)), (7, .int (fX5_isOn xs ys ia ib id)), (6, .int (fX5_isOn xs ys ia ib ic)), (0, .ref m1), (1, .int ia), (2, .int ib), (3, .int ic), (4, .int id)]) hx hb dX5_common_157 hl (by decide) rfl (fun ls hl => ?_)
                    refine lv_iload hx hb dX5_common_159 (lv_at hl 0 rfl) ?_
                    refine lv_iconst (v := 1) hx hb dX5_common_161 (by decide) ?_
                    refine lv_icmp_le (tgt := 169) hx hb dX5_common_162 (by decide) (fun c35 => ?_) (fun c35 => ?_)
                    · refine lv_iload hx hb dX5_common_169 (lv_at hl 0 rfl) ?_
                      subst ez27 ez2
                      exact W.iret (v := ((((0 : Int32) + (0 : Int32)) + (0 : Int32)) + (0 : Int32)) + (0 : Int32)) hx hb hr (fun t ht hW => ⟨by rw [show fX5_common xs ys ia ib ic id = ((((0 : Int32) + (0 : Int32)) + (0 : Int32)) + (0 : Int32)) + (0 : Int32) by unfold fX5_common; rw [if_pos c1, if_pos c3, if_neg c4, if_pos c15, if_neg c26, if_neg c28, if_pos c30, if_pos c32, if_neg c34, if_pos c35]], ht⟩) (fun _ h => absurd h List.not_mem_nil) dX5_common_171
                    · refine lv_iconst (v := 2) hx hb dX5_common_165 (by decide) ?_
                      refine lv_goto (tgt := 171) hx hb dX5_common_166 (by decide) ?_
                      subst ez27 ez2
                      exact W.iret (v := (2 : Int32)) hx hb hr (fun t ht hW => ⟨by rw [show fX5_common xs ys ia ib ic id = (2 : Int32) by unfold fX5_common; rw [if_pos c1, if_pos c3, if_neg c4, if_pos c15, if_neg c26, if_neg c28, if_pos c30, if_pos c32, if_neg c34, if_neg c35]], ht⟩) (fun _ h => absurd h List.not_mem_nil) dX5_common_171
                  · refine lv_iconst (v := 1) hx hb dX5_common_151 (by decide) ?_
                    refine lv_goto (tgt := 156) hx hb dX5_common_152 (by decide) ?_
                    refine lv_iadd hx hb dX5_common_156 ?_
                    refine lv_istore (lv' := [(5, .int (z27 + (1 : Int32))), (9, .int (fX5_isOn xs ys ic id ib)), (8, .int (fX5_isOn xs ys ic id ia)), (7, .int (fX5_isOn xs ys ia ib id)), (6, .int (fX5_isOn xs ys ia ib ic)), (0, .ref m1), (1, .int ia), (2, .int ib), (3, .int ic), (4, .int id)]) hx hb dX5_common_157 hl (by decide) rfl (fun ls hl => ?_)
                    refine lv_iload hx hb dX5_common_159 (lv_at hl 0 rfl) ?_
                    refine lv_iconst (v := 1) hx hb dX5_common_161 (by decide) ?_
                    refine lv_icmp_le (tgt := 169) hx hb dX5_common_162 (by decide) (fun c36 => ?_) (fun c36 => ?_)
                    · refine lv_iload hx hb dX5_common_169 (lv_at hl 0 rfl) ?_
                      subst ez27 ez2
                      exact W.iret (v := ((((0 : Int32) + (0 : Int32)) + (0 : Int32)) + (0 : Int32)) + (1 : Int32)) hx hb hr (fun t ht hW => ⟨by rw [show fX5_common xs ys ia ib ic id = ((((0 : Int32) + (0 : Int32)) + (0 : Int32)) + (0 : Int32)) + (1 : Int32) by unfold fX5_common; rw [if_pos c1, if_pos c3, if_neg c4, if_pos c15, if_neg c26, if_neg c28, if_pos c30, if_pos c32, if_pos c34, if_pos c36]], ht⟩) (fun _ h => absurd h List.not_mem_nil) dX5_common_171
                    · refine lv_iconst (v := 2) hx hb dX5_common_165 (by decide) ?_
                      refine lv_goto (tgt := 171) hx hb dX5_common_166 (by decide) ?_
                      subst ez27 ez2
                      exact W.iret (v := (2 : Int32)) hx hb hr (fun t ht hW => ⟨by rw [show fX5_common xs ys ia ib ic id = (2 : Int32) by unfold fX5_common; rw [if_pos c1, if_pos c3, if_neg c4, if_pos c15, if_neg c26, if_neg c28, if_pos c30, if_pos c32, if_pos c34, if_neg c36]], ht⟩) (fun _ h => absurd h List.not_mem_nil) dX5_common_171
          · refine lv_iconst (v := 1) hx hb dX5_common_108 (by decide) ?_
            refine lv_goto (tgt := 113) hx hb dX5_common_109 (by decide) ?_
            refine lv_iadd hx hb dX5_common_113 ?_
            refine lv_topi (fun z37 ez37 => ?_)
            refine lv_istore (lv' := [(5, .int z37), (9, .int (fX5_isOn xs ys ic id ib)), (8, .int (fX5_isOn xs ys ic id ia)), (7, .int (fX5_isOn xs ys ia ib id)), (6, .int (fX5_isOn xs ys ia ib ic)), (0, .ref m1), (1, .int ia), (2, .int ib), (3, .int ic), (4, .int id)]) hx hb dX5_common_114 hl (by decide) rfl (fun ls hl => ?_)
            refine lv_iload hx hb dX5_common_116 (lv_at hl 0 rfl) ?_
            refine lv_iload hx hb dX5_common_118 (lv_at hl 1 rfl) ?_
            refine lv_if_eq (tgt := 155) hx hb dX5_common_120 (by decide) (fun c38 => ?_) (fun c38 => ?_)
            · refine lv_iconst (v := 0) hx hb dX5_common_155 (by decide) ?_
              refine lv_iadd hx hb dX5_common_156 ?_
              refine lv_istore (lv' := [(5, .int (z37 + (0 : Int32))), (9, .int (fX5_isOn xs ys ic id ib)), (8, .int (fX5_isOn xs ys ic id ia)), (7, .int (fX5_isOn xs ys ia ib id)), (6, .int (fX5_isOn xs ys ia ib ic)), (0, .ref m1), (1, .int ia), (2, .int ib), (3, .int ic), (4, .int id)]) hx hb dX5_common_157 hl (by decide) rfl (fun ls hl => ?_)
              refine lv_iload hx hb dX5_common_159 (lv_at hl 0 rfl) ?_
              refine lv_iconst (v := 1) hx hb dX5_common_161 (by decide) ?_
              refine lv_icmp_le (tgt := 169) hx hb dX5_common_162 (by decide) (fun c39 => ?_) (fun c39 => ?_)
              · refine lv_iload hx hb dX5_common_169 (lv_at hl 0 rfl) ?_
                subst ez37 ez2
                exact W.iret (v := ((((0 : Int32) + (0 : Int32)) + (0 : Int32)) + (1 : Int32)) + (0 : Int32)) hx hb hr (fun t ht hW => ⟨by rw [show fX5_common xs ys ia ib ic id = ((((0 : Int32) + (0 : Int32)) + (0 : Int32)) + (1 : Int32)) + (0 : Int32) by unfold fX5_common; rw [if_pos c1, if_pos c3, if_neg c4, if_pos c15, if_pos c26, if_pos c38, if_pos c39]], ht⟩) (fun _ h => absurd h List.not_mem_nil) dX5_common_171
              · refine lv_iconst (v := 2) hx hb dX5_common_165 (by decide) ?_
                refine lv_goto (tgt := 171) hx hb dX5_common_166 (by decide) ?_
                subst ez37 ez2
                exact W.iret (v := (2 : Int32)) hx hb hr (fun t ht hW => ⟨by rw [show fX5_common xs ys ia ib ic id = (2 : Int32) by unfold fX5_common; rw [if_pos c1, if_pos c3, if_neg c4, if_pos c15, if_pos c26, if_pos c38, if_neg c39]], ht⟩) (fun _ h => absurd h List.not_mem_nil) dX5_common_171
            · refine lv_aload_n hx hb dX5_common_123 rfl (lv_at hl 5 rfl) ?_
              refine lv_iload_n hx hb dX5_common_124 rfl (lv_at hl 7 rfl) ?_
              refine lv_iload_n hx hb dX5_common_125 rfl (lv_at hl 8 rfl) ?_
              refine xr_V (q := (RX5, TX5, 14)) (ci := 9) (q0 := 0) (rest := [.int z37]) (As := [.int ib, .int ic]) ⟨hx, hb, hml, hown, hts⟩ (ct5_areEqual l D m1 m2 m3 m4 m5 m6 m7 kI kJ xs ys held la lb lc th pm rm on cl un ze lm ib ic oib oic) (cwV 2 hts gl_X5_107 rfl rfl rfl (by decide +kernel) ⟨Nat.le_of_ble_eq_true rfl, Nat.le_of_ble_eq_true rfl⟩) nN_mv hN hK hP [0, 1, 2, 3, 4, 5, 6] [0, 1] rfl rfl rfl rfl rfl hl.1 rfl (Nat.le_of_ble_eq_true rfl) dX5_common_126 ⟨Nat.le_of_ble_eq_true rfl, Nat.le_of_ble_eq_true rfl⟩ ?_
              refine lv_if_ne (tgt := 155) hx hb dX5_common_129 (by decide) (fun c40 => ?_) (fun c40 => ?_)
              · refine lv_iconst (v := 0) hx hb dX5_common_155 (by decide) ?_
                refine lv_iadd hx hb dX5_common_156 ?_
                refine lv_istore (lv' := [(5, .int (z37 + (0 : Int32))), (9, .int (fX5_isOn xs ys ic id ib)), (8, .int (fX5_isOn xs ys ic id ia)), (7, .int (fX5_isOn xs ys ia ib id)), (6, .int (fX5_isOn xs ys ia ib ic)), (0, .ref m1), (1, .int ia), (2, .int ib), (3, .int ic), (4, .int id)]) hx hb dX5_common_157 hl (by decide) rfl (fun ls hl => ?_)
                refine lv_iload hx hb dX5_common_159 (lv_at hl 0 rfl) ?_
                refine lv_iconst (v := 1) hx hb dX5_common_161 (by decide) ?_
                refine lv_icmp_le (tgt := 169) hx hb dX5_common_162 (by decide) (fun c41 => ?_) (fun c41 => ?_)
                · refine lv_iload hx hb dX5_common_169 (lv_at hl 0 rfl) ?_
                  subst ez37 ez2
                  exact W.iret (v := ((((0 : Int32) + (0 : Int32)) + (0 : Int32)) + (1 : Int32)) + (0 : Int32)) hx hb hr (fun t ht hW => ⟨by rw [show fX5_common xs ys ia ib ic id = ((((0 : Int32) + (0 : Int32)) + (0 : Int32)) + (1 : Int32)) + (0 : Int32) by unfold fX5_common; rw [if_pos c1, if_pos c3, if_neg c4, if_pos c15, if_pos c26, if_neg c38, if_neg c40, if_pos c41]], ht⟩) (fun _ h => absurd h List.not_mem_nil) dX5_common_171
                · refine lv_iconst (v := 2) hx hb dX5_common_165 (by decide) ?_
                  refine lv_goto (tgt := 171) hx hb dX5_common_166 (by decide) ?_
                  subst ez37 ez2
                  exact W.iret (v := (2 : Int32)) hx hb hr (fun t ht hW => ⟨by rw [show fX5_common xs ys ia ib ic id = (2 : Int32) by unfold fX5_common; rw [if_pos c1, if_pos c3, if_neg c4, if_pos c15, if_pos c26, if_neg c38, if_neg c40, if_neg c41]], ht⟩) (fun _ h => absurd h List.not_mem_nil) dX5_common_171
              · refine lv_aload_n hx hb dX5_common_132 rfl (lv_at hl 5 rfl) ?_
                refine lv_iload_n hx hb dX5_common_133 rfl (lv_at hl 7 rfl) ?_
                refine lv_iload hx hb dX5_common_134 (lv_at hl 9 rfl) ?_
                refine xr_V (q := (RX5, TX5, 14)) (ci := 9) (q0 := 0) (rest := [.int z37]) (As := [.int ib, .int id]) ⟨hx, hb, hml, hown, hts⟩ (ct5_areEqual l D m1 m2 m3 m4 m5 m6 m7 kI kJ xs ys held la lb lc th pm rm on cl un ze lm ib id oib oid) (cwV 2 hts gl_X5_107 rfl rfl rfl (by decide +kernel) ⟨Nat.le_of_ble_eq_true rfl, Nat.le_of_ble_eq_true rfl⟩) nN_mv hN hK hP [0, 1, 2, 3, 4, 5, 6] [0, 1] rfl rfl rfl rfl rfl hl.1 rfl (Nat.le_of_ble_eq_true rfl) dX5_common_136 ⟨Nat.le_of_ble_eq_true rfl, Nat.le_of_ble_eq_true rfl⟩ ?_
                refine lv_if_ne (tgt := 155) hx hb dX5_common_139 (by decide) (fun c42 => ?_) (fun c42 => ?_)
                · refine lv_iconst (v := 0) hx hb dX5_common_155 (by decide) ?_
                  refine lv_iadd hx hb dX5_common_156 ?_
                  refine lv_istore (lv' := [(5, .int (z37 + (0 : Int32))), (9, .int (fX5_isOn xs ys ic id ib)), (8, .int (fX5_isOn xs ys ic id ia)), (7, .int (fX5_isOn xs ys ia ib id)), (6, .int (fX5_isOn xs ys ia ib ic)), (0, .ref m1), (1, .int ia), (2, .int ib), (3, .int ic), (4, .int id)]) hx hb dX5_common_157 hl (by decide) rfl (fun ls hl => ?_)
                  refine lv_iload hx hb dX5_common_159 (lv_at hl 0 rfl) ?_
                  refine lv_iconst (v := 1) hx hb dX5_common_161 (by decide) ?_
                  refine lv_icmp_le (tgt := 169) hx hb dX5_common_162 (by decide) (fun c43 => ?_) (fun c43 => ?_)
                  · refine lv_iload hx hb dX5_common_169 (lv_at hl 0 rfl) ?_
                    subst ez37 ez2
                    exact W.iret (v := ((((0 : Int32) + (0 : Int32)) + (0 : Int32)) + (1 : Int32)) + (0 : Int32)) hx hb hr (fun t ht hW => ⟨by rw [show fX5_common xs ys ia ib ic id = ((((0 : Int32) + (0 : Int32)) + (0 : Int32)) + (1 : Int32)) + (0 : Int32) by unfold fX5_common; rw [if_pos c1, if_pos c3, if_neg c4, if_pos c15, if_pos c26, if_neg c38, if_pos c40, if_neg c42, if_pos c43]], ht⟩) (fun _ h => absurd h List.not_mem_nil) dX5_common_171
                  · refine lv_iconst (v := 2) hx hb dX5_common_165 (by decide) ?_
                    refine lv_goto (tgt := 171) hx hb dX5_common_166 (by decide) ?_
                    subst ez37 ez2
                    exact W.iret (v := (2 : Int32)) hx hb hr (fun t ht hW => ⟨by rw [show fX5_common xs ys ia ib ic id = (2 : Int32) by unfold fX5_common; rw [if_pos c1, if_pos c3, if_neg c4, if_pos c15, if_pos c26, if_neg c38, if_pos c40, if_neg c42, if_neg c43]], ht⟩) (fun _ h => absurd h List.not_mem_nil) dX5_common_171
                · refine lv_aload_n hx hb dX5_common_142 rfl (lv_at hl 5 rfl) ?_
                  refine lv_iload_n hx hb dX5_common_143 rfl (lv_at hl 6 rfl) ?_
                  refine lv_iload_n hx hb dX5_common_144 rfl (lv_at hl 7 rfl) ?_
                  refine xr_V (q := (RX5, TX5, 14)) (ci := 9) (q0 := 0) (rest := [.int z37]) (As := [.int ia, .int ib]) ⟨hx, hb, hml, hown, hts⟩ (ct5_areEqual l D m1 m2 m3 m4 m5 m6 m7 kI kJ xs ys held la lb lc th pm rm on cl un ze lm ia ib oia oib) (cwV 2 hts gl_X5_107 rfl rfl rfl (by decide +kernel) ⟨Nat.le_of_ble_eq_true rfl, Nat.le_of_ble_eq_true rfl⟩) nN_mv hN hK hP [0, 1, 2, 3, 4, 5, 6] [0, 1] rfl rfl rfl rfl rfl hl.1 rfl (Nat.le_of_ble_eq_true rfl) dX5_common_145 ⟨Nat.le_of_ble_eq_true rfl, Nat.le_of_ble_eq_true rfl⟩ ?_
                  refine lv_if_ne (tgt := 155) hx hb dX5_common_148 (by decide) (fun c44 => ?_) (fun c44 => ?_)
                  · refine lv_iconst (v := 0) hx hb dX5_common_155 (by decide) ?_
                    refine lv_iadd hx hb dX5_common_156 ?_
                    refine lv_istore (lv' := [(5, .int (z37 + (0 : Int32))), (9, .int (fX5_isOn xs ys ic id ib)), (8, .int (fX5_isOn xs ys ic id ia)), (7, .int (fX5_isOn xs ys ia ib id)), (6, .int (fX5_isOn xs ys ia ib ic)), (0, .ref m1), (1, .int ia), (2, .int ib), (3, .int ic), (4, .int id)]) hx hb dX5_common_157 hl (by decide) rfl (fun ls hl => ?_)
                    refine lv_iload hx hb dX5_common_159 (lv_at hl 0 rfl) ?_
                    refine lv_iconst (v := 1) hx hb dX5_common_161 (by decide) ?_
                    refine lv_icmp_le (tgt := 169) hx hb dX5_common_162 (by decide) (fun c45 => ?_) (fun c45 => ?_)
                    · refine lv_iload hx hb dX5_common_169 (lv_at hl 0 rfl) ?_
                      subst ez37 ez2
                      exact W.iret (v := ((((0 : Int32) + (0 : Int32)) + (0 : Int32)) + (1 : Int32)) + (0 : Int32)) hx hb hr (fun t ht hW => ⟨by rw [show fX5_common xs ys ia ib ic id = ((((0 : Int32) + (0 : Int32)) + (0 : Int32)) + (1 : Int32)) + (0 : Int32) by unfold fX5_common; rw [if_pos c1, if_pos c3, if_neg c4, if_pos c15, if_pos c26, if_neg c38, if_pos c40, if_pos c42, if_neg c44, if_pos c45]], ht⟩) (fun _ h => absurd h List.not_mem_nil) dX5_common_171
                    · refine lv_iconst (v := 2) hx hb dX5_common_165 (by decide) ?_
                      refine lv_goto (tgt := 171) hx hb dX5_common_166 (by decide) ?_
                      subst ez37 ez2
                      exact W.iret (v := (2 : Int32)) hx hb hr (fun t ht hW => ⟨by rw [show fX5_common xs ys ia ib ic id = (2 : Int32) by unfold fX5_common; rw [if_pos c1, if_pos c3, if_neg c4, if_pos c15, if_pos c26, if_neg c38, if_pos c40, if_pos c42, if_neg c44, if_neg c45]], ht⟩) (fun _ h => absurd h List.not_mem_nil) dX5_common_171
                  · refine lv_iconst (v := 1) hx hb dX5_common_151 (by decide) ?_
                    refine lv_goto (tgt := 156) hx hb dX5_common_152 (by decide) ?_
                    refine lv_iadd hx hb dX5_common_156 ?_
                    refine lv_istore (lv' := [(5, .int (z37 + (1 : Int32))), (9, .int (fX5_isOn xs ys ic id ib)), (8, .int (fX5_isOn xs ys ic id ia)), (7, .int (fX5_isOn xs ys ia ib id)), (6, .int (fX5_isOn xs ys ia ib ic)), (0, .ref m1), (1, .int ia), (2, .int ib), (3, .int ic), (4, .int id)]) hx hb dX5_common_157 hl (by decide) rfl (fun ls hl => ?_)
                    refine lv_iload hx hb dX5_common_159 (lv_at hl 0 rfl) ?_
                    refine lv_iconst (v := 1) hx hb dX5_common_161 (by decide) ?_
                    refine lv_icmp_le (tgt := 169) hx hb dX5_common_162 (by decide) (fun c46 => ?_) (fun c46 => ?_)
                    · refine lv_iload hx hb dX5_common_169 (lv_at hl 0 rfl) ?_
                      subst ez37 ez2
                      exact W.iret (v := ((((0 : Int32) + (0 : Int32)) + (0 : Int32)) + (1 : Int32)) + (1 : Int32)) hx hb hr (fun t ht hW => ⟨by rw [show fX5_common xs ys ia ib ic id = ((((0 : Int32) + (0 : Int32)) + (0 : Int32)) + (1 : Int32)) + (1 : Int32) by unfold fX5_common; rw [if_pos c1, if_pos c3, if_neg c4, if_pos c15, if_pos c26, if_neg c38, if_pos c40, if_pos c42, if_pos c44, if_pos c46]], ht⟩) (fun _ h => absurd h List.not_mem_nil) dX5_common_171
                    · refine lv_iconst (v := 2) hx hb dX5_common_165 (by decide) ?_
                      refine lv_goto (tgt := 171) hx hb dX5_common_166 (by decide) ?_
                      subst ez37 ez2
                      exact W.iret (v := (2 : Int32)) hx hb hr (fun t ht hW => ⟨by rw [show fX5_common xs ys ia ib ic id = (2 : Int32) by unfold fX5_common; rw [if_pos c1, if_pos c3, if_neg c4, if_pos c15, if_pos c26, if_neg c38, if_pos c40, if_pos c42, if_pos c44, if_neg c46]], ht⟩) (fun _ h => absurd h List.not_mem_nil) dX5_common_171
    · refine lv_aload_n hx hb dX5_common_64 rfl (lv_at hl 5 rfl) ?_
      refine lv_iload_n hx hb dX5_common_65 rfl (lv_at hl 8 rfl) ?_
      refine lv_iload hx hb dX5_common_66 (lv_at hl 9 rfl) ?_
      refine xr_V (q := (RX5, TX5, 14)) (ci := 9) (q0 := 0) (rest := [.int z2]) (As := [.int ic, .int id]) ⟨hx, hb, hml, hown, hts⟩ (ct5_areEqual l D m1 m2 m3 m4 m5 m6 m7 kI kJ xs ys held la lb lc th pm rm on cl un ze lm ic id oic oid) (cwV 2 hts gl_X5_107 rfl rfl rfl (by decide +kernel) ⟨Nat.le_of_ble_eq_true rfl, Nat.le_of_ble_eq_true rfl⟩) nN_mv hN hK hP [0, 1, 2, 3, 4, 5, 6] [0, 1] rfl rfl rfl rfl rfl hl.1 rfl (Nat.le_of_ble_eq_true rfl) dX5_common_68 ⟨Nat.le_of_ble_eq_true rfl, Nat.le_of_ble_eq_true rfl⟩ ?_
      refine lv_if_ne (tgt := 78) hx hb dX5_common_71 (by decide) (fun c47 => ?_) (fun c47 => ?_)
      · refine lv_iconst (v := 0) hx hb dX5_common_78 (by decide) ?_
        refine lv_iadd hx hb dX5_common_79 ?_
        refine lv_istore (lv' := [(5, .int (z2 + (0 : Int32))), (9, .int (fX5_isOn xs ys ic id ib)), (8, .int (fX5_isOn xs ys ic id ia)), (7, .int (fX5_isOn xs ys ia ib id)), (6, .int (fX5_isOn xs ys ia ib ic)), (0, .ref m1), (1, .int ia), (2, .int ib), (3, .int ic), (4, .int id)]) hx hb dX5_common_80 hl (by decide) rfl (fun ls hl => ?_)
        refine lv_iload hx hb dX5_common_82 (lv_at hl 0 rfl) ?_
        refine lv_iload hx hb dX5_common_84 (lv_at hl 2 rfl) ?_
        refine lv_if_eq (tgt := 112) hx hb dX5_common_86 (by decide) (fun c48 => ?_) (fun c48 => ?_)
        · refine lv_iconst (v := 0) hx hb dX5_common_112 (by decide) ?_
          refine lv_iadd hx hb dX5_common_113 ?_
          refine lv_topi (fun z49 ez49 => ?_)
          refine lv_istore (lv' := [(5, .int z49), (9, .int (fX5_isOn xs ys ic id ib)), (8, .int (fX5_isOn xs ys ic id ia)), (7, .int (fX5_isOn xs ys ia ib id)), (6, .int (fX5_isOn xs ys ia ib ic)), (0, .ref m1), (1, .int ia), (2, .int ib), (3, .int ic), (4, .int id)]) hx hb dX5_common_114 hl (by decide) rfl (fun ls hl => ?_)
          refine lv_iload hx hb dX5_common_116 (lv_at hl 0 rfl) ?_
          refine lv_iload hx hb dX5_common_118 (lv_at hl 1 rfl) ?_
          refine lv_if_eq (tgt := 155) hx hb dX5_common_120 (by decide) (fun c50 => ?_) (fun c50 => ?_)
          · refine lv_iconst (v := 0) hx hb dX5_common_155 (by decide) ?_
            refine lv_iadd hx hb dX5_common_156 ?_
            refine lv_istore (lv' := [(5, .int (z49 + (0 : Int32))), (9, .int (fX5_isOn xs ys ic id ib)), (8, .int (fX5_isOn xs ys ic id ia)), (7, .int (fX5_isOn xs ys ia ib id)), (6, .int (fX5_isOn xs ys ia ib ic)), (0, .ref m1), (1, .int ia), (2, .int ib), (3, .int ic), (4, .int id)]) hx hb dX5_common_157 hl (by decide) rfl (fun ls hl => ?_)
            refine lv_iload hx hb dX5_common_159 (lv_at hl 0 rfl) ?_
            refine lv_iconst (v := 1) hx hb dX5_common_161 (by decide) ?_
            refine lv_icmp_le (tgt := 169) hx hb dX5_common_162 (by decide) (fun c51 => ?_) (fun c51 => ?_)
            · refine lv_iload hx hb dX5_common_169 (lv_at hl 0 rfl) ?_
              subst ez49 ez2
              exact W.iret (v := ((((0 : Int32) + (0 : Int32)) + (0 : Int32)) + (0 : Int32)) + (0 : Int32)) hx hb hr (fun t ht hW => ⟨by rw [show fX5_common xs ys ia ib ic id = ((((0 : Int32) + (0 : Int32)) + (0 : Int32)) + (0 : Int32)) + (0 : Int32) by unfold fX5_common; rw [if_pos c1, if_neg c3, if_neg c47, if_pos c48, if_pos c50, if_pos c51]], ht⟩) (fun _ h => absurd h List.not_mem_nil) dX5_common_171
            · refine lv_iconst (v := 2) hx hb dX5_common_165 (by decide) ?_
              refine lv_goto (tgt := 171) hx hb dX5_common_166 (by decide) ?_
              subst ez49 ez2
              exact W.iret (v := (2 : Int32)) hx hb hr (fun t ht hW => ⟨by rw [show fX5_common xs ys ia ib ic id = (2 : Int32) by unfold fX5_common; rw [if_pos c1, if_neg c3, if_neg c47, if_pos c48, if_pos c50, if_neg c51]], ht⟩) (fun _ h => absurd h List.not_mem_nil) dX5_common_171
          · refine lv_aload_n hx hb dX5_common_123 rfl (lv_at hl 5 rfl) ?_
            refine lv_iload_n hx hb dX5_common_124 rfl (lv_at hl 7 rfl) ?_
            refine lv_iload_n hx hb dX5_common_125 rfl (lv_at hl 8 rfl) ?_
            refine xr_V (q := (RX5, TX5, 14)) (ci := 9) (q0 := 0) (rest := [.int z49]) (As := [.int ib, .int ic]) ⟨hx, hb, hml, hown, hts⟩ (ct5_areEqual l D m1 m2 m3 m4 m5 m6 m7 kI kJ xs ys held la lb lc th pm rm on cl un ze lm ib ic oib oic) (cwV 2 hts gl_X5_107 rfl rfl rfl (by decide +kernel) ⟨Nat.le_of_ble_eq_true rfl, Nat.le_of_ble_eq_true rfl⟩) nN_mv hN hK hP [0, 1, 2, 3, 4, 5, 6] [0, 1] rfl rfl rfl rfl rfl hl.1 rfl (Nat.le_of_ble_eq_true rfl) dX5_common_126 ⟨Nat.le_of_ble_eq_true rfl, Nat.le_of_ble_eq_true rfl⟩ ?_
            refine lv_if_ne (tgt := 155) hx hb dX5_common_129 (by decide) (fun c52 => ?_) (fun c52 => ?_)
            · refine lv_iconst (v := 0) hx hb dX5_common_155 (by decide) ?_
              refine lv_iadd hx hb dX5_common_156 ?_
              refine lv_istore (lv' := [(5, .int (z49 + (0 : Int32))), (9, .int (fX5_isOn xs ys ic id ib)), (8, .int (fX5_isOn xs ys ic id ia)), (7, .int (fX5_isOn xs ys ia ib id)), (6, .int (fX5_isOn xs ys ia ib ic)), (0, .ref m1), (1, .int ia), (2, .int ib), (3, .int ic), (4, .int id)]) hx hb dX5_common_157 hl (by decide) rfl (fun ls hl => ?_)
              refine lv_iload hx hb dX5_common_159 (lv_at hl 0 rfl) ?_
              refine lv_iconst (v := 1) hx hb dX5_common_161 (by decide) ?_
              refine lv_icmp_le (tgt := 169) hx hb dX5_common_162 (by decide) (fun c53 => ?_) (fun c53 => ?_)
              · refine lv_iload hx hb dX5_common_169 (lv_at hl 0 rfl) ?_
                subst ez49 ez2
                exact W.iret (v := ((((0 : Int32) + (0 : Int32)) + (0 : Int32)) + (0 : Int32)) + (0 : Int32)) hx hb hr (fun t ht hW => ⟨by rw [show fX5_common xs ys ia ib ic id = ((((0 : Int32) + (0 : Int32)) + (0 : Int32)) + (0 : Int32)) + (0 : Int32) by unfold fX5_common; rw [if_pos c1, if_neg c3, if_neg c47, if_pos c48, if_neg c50, if_neg c52, if_pos c53]], ht⟩) (fun _ h => absurd h List.not_mem_nil) dX5_common_171
              · refine lv_iconst (v := 2) hx hb dX5_common_165 (by decide) ?_
                refine lv_goto (tgt := 171) hx hb dX5_common_166 (by decide) ?_
                subst ez49 ez2
                exact W.iret (v := (2 : Int32)) hx hb hr (fun t ht hW => ⟨by rw [show fX5_common xs ys ia ib ic id = (2 : Int32) by unfold fX5_common; rw [if_pos c1, if_neg c3, if_neg c47, if_pos c48, if_neg c50, if_neg c52, if_neg c53]], ht⟩) (fun _ h => absurd h List.not_mem_nil) dX5_common_171
            · refine lv_aload_n hx hb dX5_common_132 rfl (lv_at hl 5 rfl) ?_
              refine lv_iload_n hx hb dX5_common_133 rfl (lv_at hl 7 rfl) ?_
              refine lv_iload hx hb dX5_common_134 (lv_at hl 9 rfl) ?_
              refine xr_V (q := (RX5, TX5, 14)) (ci := 9) (q0 := 0) (rest := [.int z49]) (As := [.int ib, .int id]) ⟨hx, hb, hml, hown, hts⟩ (ct5_areEqual l D m1 m2 m3 m4 m5 m6 m7 kI kJ xs ys held la lb lc th pm rm on cl un ze lm ib id oib oid) (cwV 2 hts gl_X5_107 rfl rfl rfl (by decide +kernel) ⟨Nat.le_of_ble_eq_true rfl, Nat.le_of_ble_eq_true rfl⟩) nN_mv hN hK hP [0, 1, 2, 3, 4, 5, 6] [0, 1] rfl rfl rfl rfl rfl hl.1 rfl (Nat.le_of_ble_eq_true rfl) dX5_common_136 ⟨Nat.le_of_ble_eq_true rfl, Nat.le_of_ble_eq_true rfl⟩ ?_
              refine lv_if_ne (tgt := 155) hx hb dX5_common_139 (by decide) (fun c54 => ?_) (fun c54 => ?_)
              · refine lv_iconst (v := 0) hx hb dX5_common_155 (by decide) ?_
                refine lv_iadd hx hb dX5_common_156 ?_
                refine lv_istore (lv' := [(5, .int (z49 + (0 : Int32))), (9, .int (fX5_isOn xs ys ic id ib)), (8, .int (fX5_isOn xs ys ic id ia)), (7, .int (fX5_isOn xs ys ia ib id)), (6, .int (fX5_isOn xs ys ia ib ic)), (0, .ref m1), (1, .int ia), (2, .int ib), (3, .int ic), (4, .int id)]) hx hb dX5_common_157 hl (by decide) rfl (fun ls hl => ?_)
                refine lv_iload hx hb dX5_common_159 (lv_at hl 0 rfl) ?_
                refine lv_iconst (v := 1) hx hb dX5_common_161 (by decide) ?_
                refine lv_icmp_le (tgt := 169) hx hb dX5_common_162 (by decide) (fun c55 => ?_) (fun c55 => ?_)
                · refine lv_iload hx hb dX5_common_169 (lv_at hl 0 rfl) ?_
                  subst ez49 ez2
                  exact W.iret (v := ((((0 : Int32) + (0 : Int32)) + (0 : Int32)) + (0 : Int32)) + (0 : Int32)) hx hb hr (fun t ht hW => ⟨by rw [show fX5_common xs ys ia ib ic id = ((((0 : Int32) + (0 : Int32)) + (0 : Int32)) + (0 : Int32)) + (0 : Int32) by unfold fX5_common; rw [if_pos c1, if_neg c3, if_neg c47, if_pos c48, if_neg c50, if_pos c52, if_neg c54, if_pos c55]], ht⟩) (fun _ h => absurd h List.not_mem_nil) dX5_common_171
                · refine lv_iconst (v := 2) hx hb dX5_common_165 (by decide) ?_
                  refine lv_goto (tgt := 171) hx hb dX5_common_166 (by decide) ?_
                  subst ez49 ez2
                  exact W.iret (v := (2 : Int32)) hx hb hr (fun t ht hW => ⟨by rw [show fX5_common xs ys ia ib ic id = (2 : Int32) by unfold fX5_common; rw [if_pos c1, if_neg c3, if_neg c47, if_pos c48, if_neg c50, if_pos c52, if_neg c54, if_neg c55]], ht⟩) (fun _ h => absurd h List.not_mem_nil) dX5_common_171
              · refine lv_aload_n hx hb dX5_common_142 rfl (lv_at hl 5 rfl) ?_
                refine lv_iload_n hx hb dX5_common_143 rfl (lv_at hl 6 rfl) ?_
                refine lv_iload_n hx hb dX5_common_144 rfl (lv_at hl 7 rfl) ?_
                refine xr_V (q := (RX5, TX5, 14)) (ci := 9) (q0 := 0) (rest := [.int z49]) (As := [.int ia, .int ib]) ⟨hx, hb, hml, hown, hts⟩ (ct5_areEqual l D m1 m2 m3 m4 m5 m6 m7 kI kJ xs ys held la lb lc th pm rm on cl un ze lm ia ib oia oib) (cwV 2 hts gl_X5_107 rfl rfl rfl (by decide +kernel) ⟨Nat.le_of_ble_eq_true rfl, Nat.le_of_ble_eq_true rfl⟩) nN_mv hN hK hP [0, 1, 2, 3, 4, 5, 6] [0, 1] rfl rfl rfl rfl rfl hl.1 rfl (Nat.le_of_ble_eq_true rfl) dX5_common_145 ⟨Nat.le_of_ble_eq_true rfl, Nat.le_of_ble_eq_true rfl⟩ ?_
                refine lv_if_ne (tgt := 155) hx hb dX5_common_148 (by decide) (fun c56 => ?_) (fun c56 => ?_)
                · refine lv_iconst (v := 0) hx hb dX5_common_155 (by decide) ?_
                  refine lv_iadd hx hb dX5_common_156 ?_
                  refine lv_istore (lv' := [(5, .int (z49 + (0 : Int32))), (9, .int (fX5_isOn xs ys ic id ib)), (8, .int (fX5_isOn xs ys ic id ia)), (7, .int (fX5_isOn xs ys ia ib id)), (6, .int (fX5_isOn xs ys ia ib ic)), (0, .ref m1), (1, .int ia), (2, .int ib), (3, .int ic), (4, .int id)]) hx hb dX5_common_157 hl (by decide) rfl (fun ls hl => ?_)
                  refine lv_iload hx hb dX5_common_159 (lv_at hl 0 rfl) ?_
                  refine lv_iconst (v := 1) hx hb dX5_common_161 (by decide) ?_
                  refine lv_icmp_le (tgt := 169) hx hb dX5_common_162 (by decide) (fun c57 => ?_) (fun c57 => ?_)
                  · refine lv_iload hx hb dX5_common_169 (lv_at hl 0 rfl) ?_
                    subst ez49 ez2
                    exact W.iret (v := ((((0 : Int32) + (0 : Int32)) + (0 : Int32)) + (0 : Int32)) + (0 : Int32)) hx hb hr (fun t ht hW => ⟨by rw [show fX5_common xs ys ia ib ic id = ((((0 : Int32) + (0 : Int32)) + (0 : Int32)) + (0 : Int32)) + (0 : Int32) by unfold fX5_common; rw [if_pos c1, if_neg c3, if_neg c47, if_pos c48, if_neg c50, if_pos c52, if_pos c54, if_neg c56, if_pos c57]], ht⟩) (fun _ h => absurd h List.not_mem_nil) dX5_common_171
                  · refine lv_iconst (v := 2) hx hb dX5_common_165 (by decide) ?_
                    refine lv_goto (tgt := 171) hx hb dX5_common_166 (by decide) ?_
                    subst ez49 ez2
                    exact W.iret (v := (2 : Int32)) hx hb hr (fun t ht hW => ⟨by rw [show fX5_common xs ys ia ib ic id = (2 : Int32) by unfold fX5_common; rw [if_pos c1, if_neg c3, if_neg c47, if_pos c48, if_neg c50, if_pos c52, if_pos c54, if_neg c56, if_neg c57]], ht⟩) (fun _ h => absurd h List.not_mem_nil) dX5_common_171
                · refine lv_iconst (v := 1) hx hb dX5_common_151 (by decide) ?_
                  refine lv_goto (tgt := 156) hx hb dX5_common_152 (by decide) ?_
                  refine lv_iadd hx hb dX5_common_156 ?_
                  refine lv_istore (lv' := [(5, .int (z49 + (1 : Int32))), (9, .int (fX5_isOn xs ys ic id ib)), (8, .int (fX5_isOn xs ys ic id ia)), (7, .int (fX5_isOn xs ys ia ib id)), (6, .int (fX5_isOn xs ys ia ib ic)), (0, .ref m1), (1, .int ia), (2, .int ib), (3, .int ic), (4, .int id)]) hx hb dX5_common_157 hl (by decide) rfl (fun ls hl => ?_)
                  refine lv_iload hx hb dX5_common_159 (lv_at hl 0 rfl) ?_
                  refine lv_iconst (v := 1) hx hb dX5_common_161 (by decide) ?_
                  refine lv_icmp_le (tgt := 169) hx hb dX5_common_162 (by decide) (fun c58 => ?_) (fun c58 => ?_)
                  · refine lv_iload hx hb dX5_common_169 (lv_at hl 0 rfl) ?_
                    subst ez49 ez2
                    exact W.iret (v := ((((0 : Int32) + (0 : Int32)) + (0 : Int32)) + (0 : Int32)) + (1 : Int32)) hx hb hr (fun t ht hW => ⟨by rw [show fX5_common xs ys ia ib ic id = ((((0 : Int32) + (0 : Int32)) + (0 : Int32)) + (0 : Int32)) + (1 : Int32) by unfold fX5_common; rw [if_pos c1, if_neg c3, if_neg c47, if_pos c48, if_neg c50, if_pos c52, if_pos c54, if_pos c56, if_pos c58]], ht⟩) (fun _ h => absurd h List.not_mem_nil) dX5_common_171
                  · refine lv_iconst (v := 2) hx hb dX5_common_165 (by decide) ?_
                    refine lv_goto (tgt := 171) hx hb dX5_common_166 (by decide) ?_
                    subst ez49 ez2
                    exact W.iret (v := (2 : Int32)) hx hb hr (fun t ht hW => ⟨by rw [show fX5_common xs ys ia ib ic id = (2 : Int32) by unfold fX5_common; rw [if_pos c1, if_neg c3, if_neg c47, if_pos c48, if_neg c50, if_pos c52, if_pos c54, if_pos c56, if_neg c58]], ht⟩) (fun _ h => absurd h List.not_mem_nil) dX5_common_171
        · refine lv_aload_n hx hb dX5_common_89 rfl (lv_at hl 5 rfl) ?_
          refine lv_iload_n hx hb dX5_common_90 rfl (lv_at hl 6 rfl) ?_
          refine lv_iload_n hx hb dX5_common_91 rfl (lv_at hl 8 rfl) ?_
          refine xr_V (q := (RX5, TX5, 14)) (ci := 9) (q0 := 0) (rest := [.int (z2 + (0 : Int32))]) (As := [.int ia, .int ic]) ⟨hx, hb, hml, hown, hts⟩ (ct5_areEqual l D m1 m2 m3 m4 m5 m6 m7 kI kJ xs ys held la lb lc th pm rm on cl un ze lm ia ic oia oic) (cwV 2 hts gl_X5_107 rfl rfl rfl (by decide +kernel) ⟨Nat.le_of_ble_eq_true rfl, Nat.le_of_ble_eq_true rfl⟩) nN_mv hN hK hP [0, 1, 2, 3, 4, 5, 6] [0, 1] rfl rfl rfl rfl rfl hl.1 rfl (Nat.le_of_ble_eq_true rfl) dX5_common_92 ⟨Nat.le_of_ble_eq_true rfl, Nat.le_of_ble_eq_true rfl⟩ ?_
          refine lv_if_ne (tgt := 112) hx hb dX5_common_95 (by decide) (fun c59 => ?_) (fun c59 => ?_)
          · refine lv_iconst (v := 0) hx hb dX5_common_112 (by decide) ?_
            refine lv_iadd hx hb dX5_common_113 ?_
            refine lv_topi (fun z60 ez60 => ?_)
            refine lv_istore (lv' := [(5, .int z60), (9, .int (fX5_isOn xs ys ic id ib)), (8, .int (fX5_isOn xs ys ic id ia)), (7, .int (fX5_isOn xs ys ia ib id)), (6, .int (fX5_isOn xs ys ia ib ic)), (0, .ref m1), (1, .int ia), (2, .int ib), (3, .int ic), (4, .int id)]) hx hb dX5_common_114 hl (by decide) rfl (fun ls hl => ?_)
            refine lv_iload hx hb dX5_common_116 (lv_at hl 0 rfl) ?_
            refine lv_iload hx hb dX5_common_118 (lv_at hl 1 rfl) ?_
            refine lv_if_eq (tgt := 155) hx hb dX5_common_120 (by decide) (fun c61 => ?_) (fun c61 => ?_)
            · refine lv_iconst (v := 0) hx hb dX5_common_155 (by decide) ?_
              refine lv_iadd hx hb dX5_common_156 ?_
              refine lv_istore (lv' := [(5, .int (z60 + (0 : Int32))), (9, .int (fX5_isOn xs ys ic id ib)), (8, .int (fX5_isOn xs ys ic id ia)), (7, .int (fX5_isOn xs ys ia ib id)), (6, .int (fX5_isOn xs ys ia ib ic)), (0, .ref m1), (1, .int ia), (2, .int ib), (3, .int ic), (4, .int id)]) hx hb dX5_common_157 hl (by decide) rfl (fun ls hl => ?_)
              refine lv_iload hx hb dX5_common_159 (lv_at hl 0 rfl) ?_
              refine lv_iconst (v := 1) hx hb dX5_common_161 (by decide) ?_
              refine lv_icmp_le (tgt := 169) hx hb dX5_common_162 (by decide) (fun c62 => ?_) (fun c62 => ?_)
              · refine lv_iload hx hb dX5_common_169 (lv_at hl 0 rfl) ?_
                subst ez60 ez2
                exact W.iret (v := ((((0 : Int32) + (0 : Int32)) + (0 : Int32)) + (0 : Int32)) + (0 : Int32)) hx hb hr (fun t ht hW => ⟨by rw [show fX5_common xs ys ia ib ic id = ((((0 : Int32) + (0 : Int32)) + (0 : Int32)) + (0 : Int32)) + (0 : Int32) by unfold fX5_common; rw [if_pos c1, if_neg c3, if_neg c47, if_neg c48, if_neg c59, if_pos c61, if_pos c62]], ht⟩) (fun _ h => absurd h List.not_mem_nil) dX5_common_171
              · refine lv_iconst (v := 2) hx hb dX5_common_165 (by decide) ?_
                refine lv_goto (tgt := 171) hx hb dX5_common_166 (by decide) ?_
                subst ez60 ez2
                exact W.iret (v := (2 : Int32)) hx hb hr (fun t ht hW => ⟨by rw [show fX5_common xs ys ia ib ic id = (2 : Int32) by unfold fX5_common; rw [if_pos c1, if_neg c3, if_neg c47, if_neg c48, if_neg c59, if_pos c61, if_neg c62]], ht⟩) (fun _ h => absurd h List.not_mem_nil) dX5_common_171
            · refine lv_aload_n hx hb dX5_common_123 rfl (lv_at hl 5 rfl) ?_
              refine lv_iload_n hx hb dX5_common_124 rfl (lv_at hl 7 rfl) ?_
              refine lv_iload_n hx hb dX5_common_125 rfl (lv_at hl 8 rfl) ?_
              refine xr_V (q := (RX5, TX5, 14)) (ci := 9) (q0 := 0) (rest := [.int z60]) (As := [.int ib, .int ic]) ⟨hx, hb, hml, hown, hts⟩ (ct5_areEqual l D m1 m2 m3 m4 m5 m6 m7 kI kJ xs ys held la lb lc th pm rm on cl un ze lm ib ic oib oic) (cwV 2 hts gl_X5_107 rfl rfl rfl (by decide +kernel) ⟨Nat.le_of_ble_eq_true rfl, Nat.le_of_ble_eq_true rfl⟩) nN_mv hN hK hP [0, 1, 2, 3, 4, 5, 6] [0, 1] rfl rfl rfl rfl rfl hl.1 rfl (Nat.le_of_ble_eq_true rfl) dX5_common_126 ⟨Nat.le_of_ble_eq_true rfl, Nat.le_of_ble_eq_true rfl⟩ ?_
              refine lv_if_ne (tgt := 155) hx hb dX5_common_129 (by decide) (fun c63 => ?_) (fun c63 => ?_)
              · refine lv_iconst (v := 0) hx hb dX5_common_155 (by decide) ?_
                refine lv_iadd hx hb dX5_common_156 ?_
                refine lv_istore (lv' := [(5, .int (z60 + (0 : Int32))), (9, .int (fX5_isOn xs ys ic id ib)), (8, .int (fX5_isOn xs ys ic id ia)), (7, .int (fX5_isOn xs ys ia ib id)), (6, .int (fX5_isOn xs ys ia ib ic)), (0, .ref m1), (1, .int ia), (2, .int ib), (3, .int ic), (4, .int id)]) hx hb dX5_common_157 hl (by decide) rfl (fun ls hl => ?_)
                refine lv_iload hx hb dX5_common_159 (lv_at hl 0 rfl) ?_
                refine lv_iconst (v := 1) hx hb dX5_common_161 (by decide) ?_
                refine lv_icmp_le (tgt := 169) hx hb dX5_common_162 (by decide) (fun c64 => ?_) (fun c64 => ?_)
                · refine lv_iload hx hb dX5_common_169 (lv_at hl 0 rfl) ?_
                  subst ez60 ez2
                  exact W.iret (v := ((((0 : Int32) + (0 : Int32)) + (0 : Int32)) + (0 : Int32)) + (0 : Int32)) hx hb hr (fun t ht hW => ⟨by rw [show fX5_common xs ys ia ib ic id = ((((0 : Int32) + (0 : Int32)) + (0 : Int32)) + (0 : Int32)) + (0 : Int32) by unfold fX5_common; rw [if_pos c1, if_neg c3, if_neg c47, if_neg c48, if_neg c59, if_neg c61, if_neg c63, if_pos c64]], ht⟩) (fun _ h => absurd h List.not_mem_nil) dX5_common_171
                · refine lv_iconst (v := 2) hx hb dX5_common_165 (by decide) ?_
                  refine lv_goto (tgt := 171) hx hb dX5_common_166 (by decide) ?_
                  subst ez60 ez2
                  exact W.iret (v := (2 : Int32)) hx hb hr (fun t ht hW => ⟨by rw [show fX5_common xs ys ia ib ic id = (2 : Int32) by unfold fX5_common; rw [if_pos c1, if_neg c3, if_neg c47, if_neg c48, if_neg c59, if_neg c61, if_neg c63, if_neg c64]], ht⟩) (fun _ h => absurd h List.not_mem_nil) dX5_common_171
              · refine lv_aload_n hx hb dX5_common_132 rfl (lv_at hl 5 rfl) ?_
                refine lv_iload_n hx hb dX5_common_133 rfl (lv_at hl 7 rfl) ?_
                refine lv_iload hx hb dX5_common_134 (lv_at hl 9 rfl) ?_
                refine xr_V (q := (RX5, TX5, 14)) (ci := 9) (q0 := 0) (rest := [.int z60]) (As := [.int ib, .int id]) ⟨hx, hb, hml, hown, hts⟩ (ct5_areEqual l D m1 m2 m3 m4 m5 m6 m7 kI kJ xs ys held la lb lc th pm rm on cl un ze lm ib id oib oid) (cwV 2 hts gl_X5_107 rfl rfl rfl (by decide +kernel) ⟨Nat.le_of_ble_eq_true rfl, Nat.le_of_ble_eq_true rfl⟩) nN_mv hN hK hP [0, 1, 2, 3, 4, 5, 6] [0, 1] rfl rfl rfl rfl rfl hl.1 rfl (Nat.le_of_ble_eq_true rfl) dX5_common_136 ⟨Nat.le_of_ble_eq_true rfl, Nat.le_of_ble_eq_true rfl⟩ ?_
                refine lv_if_ne (tgt := 155) hx hb dX5_common_139 (by decide) (fun c65 => ?_) (fun c65 => ?_)
                · refine lv_iconst (v := 0) hx hb dX5_common_155 (by decide) ?_
                  refine lv_iadd hx hb dX5_common_156 ?_
                  refine lv_istore (lv' := [(5, .int (z60 + (0 : Int32))), (9, .int (fX5_isOn xs ys ic id ib)), (8, .int (fX5_isOn xs ys ic id ia)), (7, .int (fX5_isOn xs ys ia ib id)), (6, .int (fX5_isOn xs ys ia ib ic)), (0, .ref m1), (1, .int ia), (2, .int ib), (3, .int ic), (4, .int id)]) hx hb dX5_common_157 hl (by decide) rfl (fun ls hl => ?_)
                  refine lv_iload hx hb dX5_common_159 (lv_at hl 0 rfl) ?_
                  refine lv_iconst (v := 1) hx hb dX5_common_161 (by decide) ?_
                  refine lv_icmp_le (tgt := 169) hx hb dX5_common_162 (by decide) (fun c66 => ?_) (fun c66 => ?_)
                  · refine lv_iload hx hb dX5_common_169 (lv_at hl 0 rfl) ?_
                    subst ez60 ez2
                    exact W.iret (v := ((((0 : Int32) + (0 : Int32)) + (0 : Int32)) + (0 : Int32)) + (0 : Int32)) hx hb hr (fun t ht hW => ⟨by rw [show fX5_common xs ys ia ib ic id = ((((0 : Int32) + (0 : Int32)) + (0 : Int32)) + (0 : Int32)) + (0 : Int32) by unfold fX5_common; rw [if_pos c1, if_neg c3, if_neg c47, if_neg c48, if_neg c59, if_neg c61, if_pos c63, if_neg c65, if_pos c66]], ht⟩) (fun _ h => absurd h List.not_mem_nil) dX5_common_171
                  · refine lv_iconst (v := 2) hx hb dX5_common_165 (by decide) ?_
                    refine lv_goto (tgt := 171) hx hb dX5_common_166 (by decide) ?_
                    subst ez60 ez2
                    exact W.iret (v := (2 : Int32)) hx hb hr (fun t ht hW => ⟨by rw [show fX5_common xs ys ia ib ic id = (2 : Int32) by unfold fX5_common; rw [if_pos c1, if_neg c3, if_neg c47, if_neg c48, if_neg c59, if_neg c61, if_pos c63, if_neg c65, if_neg c66]], ht⟩) (fun _ h => absurd h List.not_mem_nil) dX5_common_171
                · refine lv_aload_n hx hb dX5_common_142 rfl (lv_at hl 5 rfl) ?_
                  refine lv_iload_n hx hb dX5_common_143 rfl (lv_at hl 6 rfl) ?_
                  refine lv_iload_n hx hb dX5_common_144 rfl (lv_at hl 7 rfl) ?_
                  refine xr_V (q := (RX5, TX5, 14)) (ci := 9) (q0 := 0) (rest := [.int z60]) (As := [.int ia, .int ib]) ⟨hx, hb, hml, hown, hts⟩ (ct5_areEqual l D m1 m2 m3 m4 m5 m6 m7 kI kJ xs ys held la lb lc th pm rm on cl un ze lm ia ib oia oib) (cwV 2 hts gl_X5_107 rfl rfl rfl (by decide +kernel) ⟨Nat.le_of_ble_eq_true rfl, Nat.le_of_ble_eq_true rfl⟩) nN_mv hN hK hP [0, 1, 2, 3, 4, 5, 6] [0, 1] rfl rfl rfl rfl rfl hl.1 rfl (Nat.le_of_ble_eq_true rfl) dX5_common_145 ⟨Nat.le_of_ble_eq_true rfl, Nat.le_of_ble_eq_true rfl⟩ ?_
                  refine lv_if_ne (tgt := 155) hx hb dX5_common_148 (by decide) (fun c67 => ?_) (fun c67 => ?_)
                  · refine lv_iconst (v := 0) hx hb dX5_common_155 (by decide) ?_
                    refine lv_iadd hx hb dX5_common_156 ?_
                    refine lv_istore (lv' := [(5, .int (z60 + (0 : Int32))), (9, .int (fX5_isOn xs ys ic id ib)), (8, .int (fX5_isOn xs ys ic id ia)), (7, .int (fX5_isOn xs ys ia ib id)), (6, .int (fX5_isOn xs ys ia ib ic)), (0, .ref m1), (1, .int ia), (2, .int ib), (3, .int ic), (4, .int id)]) hx hb dX5_common_157 hl (by decide) rfl (fun ls hl => ?_)
                    refine lv_iload hx hb dX5_common_159 (lv_at hl 0 rfl) ?_
                    refine lv_iconst (v := 1) hx hb dX5_common_161 (by decide) ?_
                    refine lv_icmp_le (tgt := 169) hx hb dX5_common_162 (by decide) (fun c68 => ?_) (fun c68 => ?_)
                    · refine lv_iload hx hb dX5_common_169 (lv_at hl 0 rfl) ?_
                      subst ez60 ez2
                      exact W.iret (v := ((((0 : Int32) + (0 : Int32)) + (0 : Int32)) + (0 : Int32)) + (0 : Int32)) hx hb hr (fun t ht hW => ⟨by rw [show fX5_common xs ys ia ib ic id = ((((0 : Int32) + (0 : Int32)) + (0 : Int32)) + (0 : Int32)) + (0 : Int32) by unfold fX5_common; rw [if_pos c1, if_neg c3, if_neg c47, if_neg c48, if_neg c59, if_neg c61, if_pos c63, if_pos c65, if_neg c67, if_pos c68]], ht⟩) (fun _ h => absurd h List.not_mem_nil) dX5_common_171
                    · refine lv_iconst (v := 2) hx hb dX5_common_165 (by decide) ?_
                      refine lv_goto (tgt := 171) hx hb dX5_common_166 (by decide) ?_
                      subst ez60 ez2
                      exact W.iret (v := (2 : Int32)) hx hb hr (fun t ht hW => ⟨by rw [show fX5_common xs ys ia ib ic id = (2 : Int32) by unfold fX5_common; rw [if_pos c1, if_neg c3, if_neg c47, if_neg c48, if_neg c59, if_neg c61, if_pos c63, if_pos c65, if_neg c67, if_neg c68]], ht⟩) (fun _ h => absurd h List.not_mem_nil) dX5_common_171
                  · refine lv_iconst (v := 1) hx hb dX5_common_151 (by decide) ?_
                    refine lv_goto (tgt := 156) hx hb dX5_common_152 (by decide) ?_
                    refine lv_iadd hx hb dX5_common_156 ?_
                    refine lv_istore (lv' := [(5, .int (z60 + (1 : Int32))), (9, .int (fX5_isOn xs ys ic id ib)), (8, .int (fX5_isOn xs ys ic id ia)), (7, .int (fX5_isOn xs ys ia ib id)), (6, .int (fX5_isOn xs ys ia ib ic)), (0, .ref m1), (1, .int ia), (2, .int ib), (3, .int ic), (4, .int id)]) hx hb dX5_common_157 hl (by decide) rfl (fun ls hl => ?_)
                    refine lv_iload hx hb dX5_common_159 (lv_at hl 0 rfl) ?_
                    refine lv_iconst (v := 1) hx hb dX5_common_161 (by decide) ?_
                    refine lv_icmp_le (tgt := 169) hx hb dX5_common_162 (by decide) (fun c69 => ?_) (fun c69 => ?_)
                    · refine lv_iload hx hb dX5_common_169 (lv_at hl 0 rfl) ?_
                      subst ez60 ez2
                      exact W.iret (v := ((((0 : Int32) + (0 : Int32)) + (0 : Int32)) + (0 : Int32)) + (1 : Int32)) hx hb hr (fun t ht hW => ⟨by rw [show fX5_common xs ys ia ib ic id = ((((0 : Int32) + (0 : Int32)) + (0 : Int32)) + (0 : Int32)) + (1 : Int32) by unfold fX5_common; rw [if_pos c1, if_neg c3, if_neg c47, if_neg c48, if_neg c59, if_neg c61, if_pos c63, if_pos c65, if_pos c67, if_pos c69]], ht⟩) (fun _ h => absurd h List.not_mem_nil) dX5_common_171
                    · refine lv_iconst (v := 2) hx hb dX5_common_165 (by decide) ?_
                      refine lv_goto (tgt := 171) hx hb dX5_common_166 (by decide) ?_
                      subst ez60 ez2
                      exact W.iret (v := (2 : Int32)) hx hb hr (fun t ht hW => ⟨by rw [show fX5_common xs ys ia ib ic id = (2 : Int32) by unfold fX5_common; rw [if_pos c1, if_neg c3, if_neg c47, if_neg c48, if_neg c59, if_neg c61, if_pos c63, if_pos c65, if_pos c67, if_neg c69]], ht⟩) (fun _ h => absurd h List.not_mem_nil) dX5_common_171
          · refine lv_aload_n hx hb dX5_common_98 rfl (lv_at hl 5 rfl) ?_
            refine lv_iload_n hx hb dX5_common_99 rfl (lv_at hl 6 rfl) ?_
            refine lv_iload hx hb dX5_common_100 (lv_at hl 9 rfl) ?_
            refine xr_V (q := (RX5, TX5, 14)) (ci := 9) (q0 := 0) (rest := [.int (z2 + (0 : Int32))]) (As := [.int ia, .int id]) ⟨hx, hb, hml, hown, hts⟩ (ct5_areEqual l D m1 m2 m3 m4 m5 m6 m7 kI kJ xs ys held la lb lc th pm rm on cl un ze lm ia id oia oid) (cwV 2 hts gl_X5_107 rfl rfl rfl (by decide +kernel) ⟨Nat.le_of_ble_eq_true rfl, Nat.le_of_ble_eq_true rfl⟩) nN_mv hN hK hP [0, 1, 2, 3, 4, 5, 6] [0, 1] rfl rfl rfl rfl rfl hl.1 rfl (Nat.le_of_ble_eq_true rfl) dX5_common_102 ⟨Nat.le_of_ble_eq_true rfl, Nat.le_of_ble_eq_true rfl⟩ ?_
            refine lv_if_ne (tgt := 112) hx hb dX5_common_105 (by decide) (fun c70 => ?_) (fun c70 => ?_)
            · refine lv_iconst (v := 0) hx hb dX5_common_112 (by decide) ?_
              refine lv_iadd hx hb dX5_common_113 ?_
              refine lv_topi (fun z71 ez71 => ?_)
              refine lv_istore (lv' := [(5, .int z71), (9, .int (fX5_isOn xs ys ic id ib)), (8, .int (fX5_isOn xs ys ic id ia)), (7, .int (fX5_isOn xs ys ia ib id)), (6, .int (fX5_isOn xs ys ia ib ic)), (0, .ref m1), (1, .int ia), (2, .int ib), (3, .int ic), (4, .int id)]) hx hb dX5_common_114 hl (by decide) rfl (fun ls hl => ?_)
              refine lv_iload hx hb dX5_common_116 (lv_at hl 0 rfl) ?_
              refine lv_iload hx hb dX5_common_118 (lv_at hl 1 rfl) ?_
              refine lv_if_eq (tgt := 155) hx hb dX5_common_120 (by decide) (fun c72 => ?_) (fun c72 => ?_)
              · refine lv_iconst (v := 0) hx hb dX5_common_155 (by decide) ?_
                refine lv_iadd hx hb dX5_common_156 ?_
                refine lv_istore (lv' := [(5, .int (z71 + (0 : Int32))), (9, .int (fX5_isOn xs ys ic id ib)), (8, .int (fX5_isOn xs ys ic id ia)), (7, .int (fX5_isOn xs ys ia ib id)), (6, .int (fX5_isOn xs ys ia ib ic)), (0, .ref m1), (1, .int ia), (2, .int ib), (3, .int ic), (4, .int id)]) hx hb dX5_common_157 hl (by decide) rfl (fun ls hl => ?_)
                refine lv_iload hx hb dX5_common_159 (lv_at hl 0 rfl) ?_
                refine lv_iconst (v := 1) hx hb dX5_common_161 (by decide) ?_
                refine lv_icmp_le (tgt := 169) hx hb dX5_common_162 (by decide) (fun c73 => ?_) (fun c73 => ?_)
                · refine lv_iload hx hb dX5_common_169 (lv_at hl 0 rfl) ?_
                  subst ez71 ez2
                  exact W.iret (v := ((((0 : Int32) + (0 : Int32)) + (0 : Int32)) + (0 : Int32)) + (0 : Int32)) hx hb hr (fun t ht hW => ⟨by rw [show fX5_common xs ys ia ib ic id = ((((0 : Int32) + (0 : Int32)) + (0 : Int32)) + (0 : Int32)) + (0 : Int32) by unfold fX5_common; rw [if_pos c1, if_neg c3, if_neg c47, if_neg c48, if_pos c59, if_neg c70, if_pos c72, if_pos c73]], ht⟩) (fun _ h => absurd h List.not_mem_nil) dX5_common_171
                · refine lv_iconst (v := 2) hx hb dX5_common_165 (by decide) ?_
                  refine lv_goto (tgt := 171) hx hb dX5_common_166 (by decide) ?_
                  subst ez71 ez2
                  exact W.iret (v := (2 : Int32)) hx hb hr (fun t ht hW => ⟨by rw [show fX5_common xs ys ia ib ic id = (2 : Int32) by unfold fX5_common; rw [if_pos c1, if_neg c3, if_neg c47, if_neg c48, if_pos c59, if_neg c70, if_pos c72, if_neg c73]], ht⟩) (fun _ h => absurd h List.not_mem_nil) dX5_common_171
              · refine lv_aload_n hx hb dX5_common_123 rfl (lv_at hl 5 rfl) ?_
                refine lv_iload_n hx hb dX5_common_124 rfl (lv_at hl 7 rfl) ?_
                refine lv_iload_n hx hb dX5_common_125 rfl (lv_at hl 8 rfl) ?_
                refine xr_V (q := (RX5, TX5, 14)) (ci := 9) (q0 := 0) (rest := [.int z71]) (As := [.int ib, .int ic]) ⟨hx, hb, hml, hown, hts⟩ (ct5_areEqual l D m1 m2 m3 m4 m5 m6 m7 kI kJ xs ys held la lb lc th pm rm on cl un ze lm ib ic oib oic) (cwV 2 hts gl_X5_107 rfl rfl rfl (by decide +kernel) ⟨Nat.le_of_ble_eq_true rfl, Nat.le_of_ble_eq_true rfl⟩) nN_mv hN hK hP [0, 1, 2, 3, 4, 5, 6] [0, 1] rfl rfl rfl rfl rfl hl.1 rfl (Nat.le_of_ble_eq_true rfl) dX5_common_126 ⟨Nat.le_of_ble_eq_true rfl, Nat.le_of_ble_eq_true rfl⟩ ?_
                refine lv_if_ne (tgt := 155) hx hb dX5_common_129 (by decide) (fun c74 => ?_) (fun c74 => ?_)
                · refine lv_iconst (v := 0) hx hb dX5_common_155 (by decide) ?_
                  refine lv_iadd hx hb dX5_common_156 ?_
                  refine lv_istore (lv' := [(5, .int (z71 + (0 : Int32))), (9, .int (fX5_isOn xs ys ic id ib)), (8, .int (fX5_isOn xs ys ic id ia)), (7, .int (fX5_isOn xs ys ia ib id)), (6, .int (fX5_isOn xs ys ia ib ic)), (0, .ref m1), (1, .int ia), (2, .int ib), (3, .int ic), (4, .int id)]) hx hb dX5_common_157 hl (by decide) rfl (fun ls hl => ?_)
                  refine lv_iload hx hb dX5_common_159 (lv_at hl 0 rfl) ?_
                  refine lv_iconst (v := 1) hx hb dX5_common_161 (by decide) ?_
                  refine lv_icmp_le (tgt := 169) hx hb dX5_common_162 (by decide) (fun c75 => ?_) (fun c75 => ?_)
                  · refine lv_iload hx hb dX5_common_169 (lv_at hl 0 rfl) ?_
                    subst ez71 ez2
                    exact W.iret (v := ((((0 : Int32) + (0 : Int32)) + (0 : Int32)) + (0 : Int32)) + (0 : Int32)) hx hb hr (fun t ht hW => ⟨by rw [show fX5_common xs ys ia ib ic id = ((((0 : Int32) + (0 : Int32)) + (0 : Int32)) + (0 : Int32)) + (0 : Int32) by unfold fX5_common; rw [if_pos c1, if_neg c3, if_neg c47, if_neg c48, if_pos c59, if_neg c70, if_neg c72, if_neg c74, if_pos c75]], ht⟩) (fun _ h => absurd h List.not_mem_nil) dX5_common_171
                  · refine lv_iconst (v := 2) hx hb dX5_common_165 (by decide) ?_
                    refine lv_goto (tgt := 171) hx hb dX5_common_166 (by decide) ?_
                    subst ez71 ez2
                    exact W.iret (v := (2 : Int32)) hx hb hr (fun t ht hW => ⟨by rw [show fX5_common xs ys ia ib ic id = (2 : Int32) by unfold fX5_common; rw [if_pos c1, if_neg c3, if_neg c47, if_neg c48, if_pos c59, if_neg c70, if_neg c72, if_neg c74, if_neg c75]], ht⟩) (fun _ h => absurd h List.not_mem_nil) dX5_common_171
                · refine lv_aload_n hx hb dX5_common_132 rfl (lv_at hl 5 rfl) ?_
                  refine lv_iload_n hx hb dX5_common_133 rfl (lv_at hl 7 rfl) ?_
                  refine lv_iload hx hb dX5_common_134 (lv_at hl 9 rfl) ?_
                  refine xr_V (q := (RX5, TX5, 14)) (ci := 9) (q0 := 0) (rest := [.int z71]) (As := [.int ib, .int id]) ⟨hx, hb, hml, hown, hts⟩ (ct5_areEqual l D m1 m2 m3 m4 m5 m6 m7 kI kJ xs ys held la lb lc th pm rm on cl un ze lm ib id oib oid) (cwV 2 hts gl_X5_107 rfl rfl rfl (by decide +kernel) ⟨Nat.le_of_ble_eq_true rfl, Nat.le_of_ble_eq_true rfl⟩) nN_mv hN hK hP [0, 1, 2, 3, 4, 5, 6] [0, 1] rfl rfl rfl rfl rfl hl.1 rfl (Nat.le_of_ble_eq_true rfl) dX5_common_136 ⟨Nat.le_of_ble_eq_true rfl, Nat.le_of_ble_eq_true rfl⟩ ?_
                  refine lv_if_ne (tgt := 155) hx hb dX5_common_139 (by decide) (fun c76 => ?_) (fun c76 => ?_)
                  · refine lv_iconst (v := 0) hx hb dX5_common_155 (by decide) ?_
                    refine lv_iadd hx hb dX5_common_156 ?_
                    refine lv_istore (lv' := [(5, .int (z71 + (0 : Int32))), (9, .int (fX5_isOn xs ys ic id ib)), (8, .int (fX5_isOn xs ys ic id ia)), (7, .int (fX5_isOn xs ys ia ib id)), (6, .int (fX5_isOn xs ys ia ib ic)), (0, .ref m1), (1, .int ia), (2, .int ib), (3, .int ic), (4, .int id)]) hx hb dX5_common_157 hl (by decide) rfl (fun ls hl => ?_)
                    refine lv_iload hx hb dX5_common_159 (lv_at hl 0 rfl) ?_
                    refine lv_iconst (v := 1) hx hb dX5_common_161 (by decide) ?_
                    refine lv_icmp_le (tgt := 169) hx hb dX5_common_162 (by decide) (fun c77 => ?_) (fun c77 => ?_)
                    · refine lv_iload hx hb dX5_common_169 (lv_at hl 0 rfl) ?_
                      subst ez71 ez2
                      exact W.iret (v := ((((0 : Int32) + (0 : Int32)) + (0 : Int32)) + (0 : Int32)) + (0 : Int32)) hx hb hr (fun t ht hW => ⟨by rw [show fX5_common xs ys ia ib ic id = ((((0 : Int32) + (0 : Int32)) + (0 : Int32)) + (0 : Int32)) + (0 : Int32) by unfold fX5_common; rw [if_pos c1, if_neg c3, if_neg c47, if_neg c48, if_pos c59, if_neg c70, if_neg c72, if_pos c74, if_neg c76, if_pos c77]], ht⟩) (fun _ h => absurd h List.not_mem_nil) dX5_common_171
                    · refine lv_iconst (v := 2) hx hb dX5_common_165 (by decide) ?_
                      refine lv_goto (tgt := 171) hx hb dX5_common_166 (by decide) ?_
                      subst ez71 ez2
                      exact W.iret (v := (2 : Int32)) hx hb hr (fun t ht hW => ⟨by rw [show fX5_common xs ys ia ib ic id = (2 : Int32) by unfold fX5_common; rw [if_pos c1, if_neg c3, if_neg c47, if_neg c48, if_pos c59, if_neg c70, if_neg c72, if_pos c74, if_neg c76, if_neg c77]], ht⟩) (fun _ h => absurd h List.not_mem_nil) dX5_common_171
                  · refine lv_aload_n hx hb dX5_common_142 rfl (lv_at hl 5 rfl) ?_
                    refine lv_iload_n hx hb dX5_common_143 rfl (lv_at hl 6 rfl) ?_
                    refine lv_iload_n hx hb dX5_common_144 rfl (lv_at hl 7 rfl) ?_
                    refine xr_V (q := (RX5, TX5, 14)) (ci := 9) (q0 := 0) (rest := [.int z71]) (As := [.int ia, .int ib]) ⟨hx, hb, hml, hown, hts⟩ (ct5_areEqual l D m1 m2 m3 m4 m5 m6 m7 kI kJ xs ys held la lb lc th pm rm on cl un ze lm ia ib oia oib) (cwV 2 hts gl_X5_107 rfl rfl rfl (by decide +kernel) ⟨Nat.le_of_ble_eq_true rfl, Nat.le_of_ble_eq_true rfl⟩) nN_mv hN hK hP [0, 1, 2, 3, 4, 5, 6] [0, 1] rfl rfl rfl rfl rfl hl.1 rfl (Nat.le_of_ble_eq_true rfl) dX5_common_145 ⟨Nat.le_of_ble_eq_true rfl, Nat.le_of_ble_eq_true rfl⟩ ?_
                    refine lv_if_ne (tgt := 155) hx hb dX5_common_148 (by decide) (fun c78 => ?_) (fun c78 => ?_)
                    · refine lv_iconst (v := 0) hx hb dX5_common_155 (by decide) ?_
                      refine lv_iadd hx hb dX5_common_156 ?_
                      refine lv_istore (lv' := [(5, .int (z71 + (0 : Int32))), (9, .int (fX5_isOn xs ys ic id ib)), (8, .int (fX5_isOn xs ys ic id ia)), (7, .int (fX5_isOn xs ys ia ib id)), (6, .int (fX5_isOn xs ys ia ib ic)), (0, .ref m1), (1, .int ia), (2, .int ib), (3, .int ic), (4, .int id)]) hx hb dX5_common_157 hl (by decide) rfl (fun ls hl => ?_)
                      refine lv_iload hx hb dX5_common_159 (lv_at hl 0 rfl) ?_
                      refine lv_iconst (v := 1) hx hb dX5_common_161 (by decide) ?_
                      refine lv_icmp_le (tgt := 169) hx hb dX5_common_162 (by decide) (fun c79 => ?_) (fun c79 => ?_)
                      · refine lv_iload hx hb dX5_common_169 (lv_at hl 0 rfl) ?_
                        subst ez71 ez2
                        exact W.iret (v := ((((0 : Int32) + (0 : Int32)) + (0 : Int32)) + (0 : Int32)) + (0 : Int32)) hx hb hr (fun t ht hW => ⟨by rw [show fX5_common xs ys ia ib ic id = ((((0 : Int32) + (0 : Int32)) + (0 : Int32)) + (0 : Int32)) + (0 : Int32) by unfold fX5_common; rw [if_pos c1, if_neg c3, if_neg c47, if_neg c48, if_pos c59, if_neg c70, if_neg c72, if_pos c74, if_pos c76, if_neg c78, if_pos c79]], ht⟩) (fun _ h => absurd h List.not_mem_nil) dX5_common_171
                      · refine lv_iconst (v := 2) hx hb dX5_common_165 (by decide) ?_
                        refine lv_goto (tgt := 171) hx hb dX5_common_166 (by decide) ?_
                        subst ez71 ez2
                        exact W.iret (v := (2 : Int32)) hx hb hr (fun t ht hW => ⟨by rw [show fX5_common xs ys ia ib ic id = (2 : Int32) by unfold fX5_common; rw [if_pos c1, if_neg c3, if_neg c47, if_neg c48, if_pos c59, if_neg c70, if_neg c72, if_pos c74, if_pos c76, if_neg c78, if_neg c79]], ht⟩) (fun _ h => absurd h List.not_mem_nil) dX5_common_171
                    · refine lv_iconst (v := 1) hx hb dX5_common_151 (by decide) ?_
                      refine lv_goto (tgt := 156) hx hb dX5_common_152 (by decide) ?_
                      refine lv_iadd hx hb dX5_common_156 ?_
                      refine lv_istore (lv' := [(5, .int (z71 + (1 : Int32))), (9, .int (fX5_isOn xs ys ic id ib)), (8, .int (fX5_isOn xs ys ic id ia)), (7, .int (fX5_isOn xs ys ia ib id)), (6, .int (fX5_isOn xs ys ia ib ic)), (0, .ref m1), (1, .int ia), (2, .int ib), (3, .int ic), (4, .int id)]) hx hb dX5_common_157 hl (by decide) rfl (fun ls hl => ?_)
                      refine lv_iload hx hb dX5_common_159 (lv_at hl 0 rfl) ?_
                      refine lv_iconst (v := 1) hx hb dX5_common_161 (by decide) ?_
                      refine lv_icmp_le (tgt := 169) hx hb dX5_common_162 (by decide) (fun c80 => ?_) (fun c80 => ?_)
                      · refine lv_iload hx hb dX5_common_169 (lv_at hl 0 rfl) ?_
                        subst ez71 ez2
                        exact W.iret (v := ((((0 : Int32) + (0 : Int32)) + (0 : Int32)) + (0 : Int32)) + (1 : Int32)) hx hb hr (fun t ht hW => ⟨by rw [show fX5_common xs ys ia ib ic id = ((((0 : Int32) + (0 : Int32)) + (0 : Int32)) + (0 : Int32)) + (1 : Int32) by unfold fX5_common; rw [if_pos c1, if_neg c3, if_neg c47, if_neg c48, if_pos c59, if_neg c70, if_neg c72, if_pos c74, if_pos c76, if_pos c78, if_pos c80]], ht⟩) (fun _ h => absurd h List.not_mem_nil) dX5_common_171
                      · refine lv_iconst (v := 2) hx hb dX5_common_165 (by decide) ?_
                        refine lv_goto (tgt := 171) hx hb dX5_common_166 (by decide) ?_
                        subst ez71 ez2
                        exact W.iret (v := (2 : Int32)) hx hb hr (fun t ht hW => ⟨by rw [show fX5_common xs ys ia ib ic id = (2 : Int32) by unfold fX5_common; rw [if_pos c1, if_neg c3, if_neg c47, if_neg c48, if_pos c59, if_neg c70, if_neg c72, if_pos c74, if_pos c76, if_pos c78, if_neg c80]], ht⟩) (fun _ h => absurd h List.not_mem_nil) dX5_common_171
            · refine lv_iconst (v := 1) hx hb dX5_common_108 (by decide) ?_
              refine lv_goto (tgt := 113) hx hb dX5_common_109 (by decide) ?_
              refine lv_iadd hx hb dX5_common_113 ?_
              refine lv_topi (fun z81 ez81 => ?_)
              refine lv_istore (lv' := [(5, .int z81), (9, .int (fX5_isOn xs ys ic id ib)), (8, .int (fX5_isOn xs ys ic id ia)), (7, .int (fX5_isOn xs ys ia ib id)), (6, .int (fX5_isOn xs ys ia ib ic)), (0, .ref m1), (1, .int ia), (2, .int ib), (3, .int ic), (4, .int id)]) hx hb dX5_common_114 hl (by decide) rfl (fun ls hl => ?_)
              refine lv_iload hx hb dX5_common_116 (lv_at hl 0 rfl) ?_
              refine lv_iload hx hb dX5_common_118 (lv_at hl 1 rfl) ?_
              refine lv_if_eq (tgt := 155) hx hb dX5_common_120 (by decide) (fun c82 => ?_) (fun c82 => ?_)
              · refine lv_iconst (v := 0) hx hb dX5_common_155 (by decide) ?_
                refine lv_iadd hx hb dX5_common_156 ?_
                refine lv_istore (lv' := [(5, .int (z81 + (0 : Int32))), (9, .int (fX5_isOn xs ys ic id ib)), (8, .int (fX5_isOn xs ys ic id ia)), (7, .int (fX5_isOn xs ys ia ib id)), (6, .int (fX5_isOn xs ys ia ib ic)), (0, .ref m1), (1, .int ia), (2, .int ib), (3, .int ic), (4, .int id)]) hx hb dX5_common_157 hl (by decide) rfl (fun ls hl => ?_)
                refine lv_iload hx hb dX5_common_159 (lv_at hl 0 rfl) ?_
                refine lv_iconst (v := 1) hx hb dX5_common_161 (by decide) ?_
                refine lv_icmp_le (tgt := 169) hx hb dX5_common_162 (by decide) (fun c83 => ?_) (fun c83 => ?_)
                · refine lv_iload hx hb dX5_common_169 (lv_at hl 0 rfl) ?_
                  subst ez81 ez2
                  exact W.iret (v := ((((0 : Int32) + (0 : Int32)) + (0 : Int32)) + (1 : Int32)) + (0 : Int32)) hx hb hr (fun t ht hW => ⟨by rw [show fX5_common xs ys ia ib ic id = ((((0 : Int32) + (0 : Int32)) + (0 : Int32)) + (1 : Int32)) + (0 : Int32) by unfold fX5_common; rw [if_pos c1, if_neg c3, if_neg c47, if_neg c48, if_pos c59, if_pos c70, if_pos c82, if_pos c83]], ht⟩) (fun _ h => absurd h List.not_mem_nil) dX5_common_171
                · refine lv_iconst (v := 2) hx hb dX5_common_165 (by decide) ?_
                  refine lv_goto (tgt := 171) hx hb dX5_common_166 (by decide) ?_
                  subst ez81 ez2
                  exact W.iret (v := (2 : Int32)) hx hb hr (fun t ht hW => ⟨by rw [show fX5_common xs ys ia ib ic id = (2 : Int32) by unfold fX5_common; rw [if_pos c1, if_neg c3, if_neg c47, if_neg c48, if_pos c59, if_pos c70, if_pos c82, if_neg c83]], ht⟩) (fun _ h => absurd h List.not_mem_nil) dX5_common_171
              · refine lv_aload_n hx hb dX5_common_123 rfl (lv_at hl 5 rfl) ?_
                refine lv_iload_n hx hb dX5_common_124 rfl (lv_at hl 7 rfl) ?_
                refine lv_iload_n hx hb dX5_common_125 rfl (lv_at hl 8 rfl) ?_
                refine xr_V (q := (RX5, TX5, 14)) (ci := 9) (q0 := 0) (rest := [.int z81]) (As := [.int ib, .int ic]) ⟨hx, hb, hml, hown, hts⟩ (ct5_areEqual l D m1 m2 m3 m4 m5 m6 m7 kI kJ xs ys held la lb lc th pm rm on cl un ze lm ib ic oib oic) (cwV 2 hts gl_X5_107 rfl rfl rfl (by decide +kernel) ⟨Nat.le_of_ble_eq_true rfl, Nat.le_of_ble_eq_true rfl⟩) nN_mv hN hK hP [0, 1, 2, 3, 4, 5, 6] [0, 1] rfl rfl rfl rfl rfl hl.1 rfl (Nat.le_of_ble_eq_true rfl) dX5_common_126 ⟨Nat.le_of_ble_eq_true rfl, Nat.le_of_ble_eq_true rfl⟩ ?_
                refine lv_if_ne (tgt := 155) hx hb dX5_common_129 (by decide) (fun c84 => ?_) (fun c84 => ?_)
                · refine lv_iconst (v := 0) hx hb dX5_common_155 (by decide) ?_
                  refine lv_iadd hx hb dX5_common_156 ?_
                  refine lv_istore (lv' := [(5, .int (z81 + (0 : Int32))), (9, .int (fX5_isOn xs ys ic id ib)), (8, .int (fX5_isOn xs ys ic id ia)), (7, .int (fX5_isOn xs ys ia ib id)), (6, .int (fX5_isOn xs ys ia ib ic)), (0, .ref m1), (1, .int ia), (2, .int ib), (3, .int ic), (4, .int id)]) hx hb dX5_common_157 hl (by decide) rfl (fun ls hl => ?_)
                  refine lv_iload hx hb dX5_common_159 (lv_at hl 0 rfl) ?_
                  refine lv_iconst (v := 1) hx hb dX5_common_161 (by decide) ?_
                  refine lv_icmp_le (tgt := 169) hx hb dX5_common_162 (by decide) (fun c85 => ?_) (fun c85 => ?_)
                  · refine lv_iload hx hb dX5_common_169 (lv_at hl 0 rfl) ?_
                    subst ez81 ez2
                    exact W.iret (v := ((((0 : Int32) + (0 : Int32)) + (0 : Int32)) + (1 : Int32)) + (0 : Int32)) hx hb hr (fun t ht hW => ⟨by rw [show fX5_common xs ys ia ib ic id = ((((0 : Int32) + (0 : Int32)) + (0 : Int32)) + (1 : Int32)) + (0 : Int32) by unfold fX5_common; rw [if_pos c1, if_neg c3, if_neg c47, if_neg c48, if_pos c59, if_pos c70, if_neg c82, if_neg c84, if_pos c85]], ht⟩) (fun _ h => absurd h List.not_mem_nil) dX5_common_171
                  · refine lv_iconst (v := 2) hx hb dX5_common_165 (by decide) ?_
                    refine lv_goto (tgt := 171) hx hb dX5_common_166 (by decide) ?_
                    subst ez81 ez2
                    exact W.iret (v := (2 : Int32)) hx hb hr (fun t ht hW => ⟨by rw [show fX5_common xs ys ia ib ic id = (2 : Int32) by unfold fX5_common; rw [if_pos c1, if_neg c3, if_neg c47, if_neg c48, if_pos c59, if_pos c70, if_neg c82, if_neg c84, if_neg c85]], ht⟩) (fun _ h => absurd h List.not_mem_nil) dX5_common_171
                · refine lv_aload_n hx hb dX5_common_132 rfl (lv_at hl 5 rfl) ?_
                  refine lv_iload_n hx hb dX5_common_133 rfl (lv_at hl 7 rfl) ?_
                  refine lv_iload hx hb dX5_common_134 (lv_at hl 9 rfl) ?_
                  refine xr_V (q := (RX5, TX5, 14)) (ci := 9) (q0 := 0) (rest := [.int z81]) (As := [.int ib, .int id]) ⟨hx, hb, hml, hown, hts⟩ (ct5_areEqual l D m1 m2 m3 m4 m5 m6 m7 kI kJ xs ys held la lb lc th pm rm on cl un ze lm ib id oib oid) (cwV 2 hts gl_X5_107 rfl rfl rfl (by decide +kernel) ⟨Nat.le_of_ble_eq_true rfl, Nat.le_of_ble_eq_true rfl⟩) nN_mv hN hK hP [0, 1, 2, 3, 4, 5, 6] [0, 1] rfl rfl rfl rfl rfl hl.1 rfl (Nat.le_of_ble_eq_true rfl) dX5_common_136 ⟨Nat.le_of_ble_eq_true rfl, Nat.le_of_ble_eq_true rfl⟩ ?_
                  refine lv_if_ne (tgt := 155) hx hb dX5_common_139 (by decide) (fun c86 => ?_) (fun c86 => ?_)
                  · refine lv_iconst (v := 0) hx hb dX5_common_155 (by decide) ?_
                    refine lv_iadd hx hb dX5_common_156 ?_
                    refine lv_istore (lv' := [(5, .int (z81 + (0 : Int32))), (9, .int (fX5_isOn xs ys ic id ib)), (8, .int (fX5_isOn xs ys ic id ia)), (7, .int (fX5_isOn xs ys ia ib id)), (6, .int (fX5_isOn xs ys ia ib ic)), (0, .ref m1), (1, .int ia), (2, .int ib), (3, .int ic), (4, .int id)]) hx hb dX5_common_157 hl (by decide) rfl (fun ls hl => ?_)
                    refine lv_iload hx hb dX5_common_159 (lv_at hl 0 rfl) ?_
                    refine lv_iconst (v := 1) hx hb dX5_common_161 (by decide) ?_
                    refine lv_icmp_le (tgt := 169) hx hb dX5_common_162 (by decide) (fun c87 => ?_) (fun c87 => ?_)
                    · refine lv_iload hx hb dX5_common_169 (lv_at hl 0 rfl) ?_
                      subst ez81 ez2
                      exact W.iret (v := ((((0 : Int32) + (0 : Int32)) + (0 : Int32)) + (1 : Int32)) + (0 : Int32)) hx hb hr (fun t ht hW => ⟨by rw [show fX5_common xs ys ia ib ic id = ((((0 : Int32) + (0 : Int32)) + (0 : Int32)) + (1 : Int32)) + (0 : Int32) by unfold fX5_common; rw [if_pos c1, if_neg c3, if_neg c47, if_neg c48, if_pos c59, if_pos c70, if_neg c82, if_pos c84, if_neg c86, if_pos c87]], ht⟩) (fun _ h => absurd h List.not_mem_nil) dX5_common_171
                    · refine lv_iconst (v := 2) hx hb dX5_common_165 (by decide) ?_
                      refine lv_goto (tgt := 171) hx hb dX5_common_166 (by decide) ?_
                      subst ez81 ez2
                      exact W.iret (v := (2 : Int32)) hx hb hr (fun t ht hW => ⟨by rw [show fX5_common xs ys ia ib ic id = (2 : Int32) by unfold fX5_common; rw [if_pos c1, if_neg c3, if_neg c47, if_neg c48, if_pos c59, if_pos c70, if_neg c82, if_pos c84, if_neg c86, if_neg c87]], ht⟩) (fun _ h => absurd h List.not_mem_nil) dX5_common_171
                  · refine lv_aload_n hx hb dX5_common_142 rfl (lv_at hl 5 rfl) ?_
                    refine lv_iload_n hx hb dX5_common_143 rfl (lv_at hl 6 rfl) ?_
                    refine lv_iload_n hx hb dX5_common_144 rfl (lv_at hl 7 rfl) ?_
                    refine xr_V (q := (RX5, TX5, 14)) (ci := 9) (q0 := 0) (rest := [.int z81]) (As := [.int ia, .int ib]) ⟨hx, hb, hml, hown, hts⟩ (ct5_areEqual l D m1 m2 m3 m4 m5 m6 m7 kI kJ xs ys held la lb lc th pm rm on cl un ze lm ia ib oia oib) (cwV 2 hts gl_X5_107 rfl rfl rfl (by decide +kernel) ⟨Nat.le_of_ble_eq_true rfl, Nat.le_of_ble_eq_true rfl⟩) nN_mv hN hK hP [0, 1, 2, 3, 4, 5, 6] [0, 1] rfl rfl rfl rfl rfl hl.1 rfl (Nat.le_of_ble_eq_true rfl) dX5_common_145 ⟨Nat.le_of_ble_eq_true rfl, Nat.le_of_ble_eq_true rfl⟩ ?_
                    refine lv_if_ne (tgt := 155) hx hb dX5_common_148 (by decide) (fun c88 => ?_) (fun c88 => ?_)
                    · refine lv_iconst (v := 0) hx hb dX5_common_155 (by decide) ?_
                      refine lv_iadd hx hb dX5_common_156 ?_
                      refine lv_istore (lv' := [(5, .int (z81 + (0 : Int32))), (9, .int (fX5_isOn xs ys ic id ib)), (8, .int (fX5_isOn xs ys ic id ia)), (7, .int (fX5_isOn xs ys ia ib id)), (6, .int (fX5_isOn xs ys ia ib ic)), (0, .ref m1), (1, .int ia), (2, .int ib), (3, .int ic), (4, .int id)]) hx hb dX5_common_157 hl (by decide) rfl (fun ls hl => ?_)
                      refine lv_iload hx hb dX5_common_159 (lv_at hl 0 rfl) ?_
                      refine lv_iconst (v := 1) hx hb dX5_common_161 (by decide) ?_
                      refine lv_icmp_le (tgt := 169) hx hb dX5_common_162 (by decide) (fun c89 => ?_) (fun c89 => ?_)
                      · refine lv_iload hx hb dX5_common_169 (lv_at hl 0 rfl) ?_
                        subst ez81 ez2
                        exact W.iret (v := ((((0 : Int32) + (0 : Int32)) + (0 : Int32)) + (1 : Int32)) + (0 : Int32)) hx hb hr (fun t ht hW => ⟨by rw [show fX5_common xs ys ia ib ic id = ((((0 : Int32) + (0 : Int32)) + (0 : Int32)) + (1 : Int32)) + (0 : Int32) by unfold fX5_common; rw [if_pos c1, if_neg c3, if_neg c47, if_neg c48, if_pos c59, if_pos c70, if_neg c82, if_pos c84, if_pos c86, if_neg c88, if_pos c89]], ht⟩) (fun _ h => absurd h List.not_mem_nil) dX5_common_171
                      · refine lv_iconst (v := 2) hx hb dX5_common_165 (by decide) ?_
                        refine lv_goto (tgt := 171) hx hb dX5_common_166 (by decide) ?_
                        subst ez81 ez2
                        exact W.iret (v := (2 : Int32)) hx hb hr (fun t ht hW => ⟨by rw [show fX5_common xs ys ia ib ic id = (2 : Int32) by unfold fX5_common; rw [if_pos c1, if_neg c3, if_neg c47, if_neg c48, if_pos c59, if_pos c70, if_neg c82, if_pos c84, if_pos c86, if_neg c88, if_neg c89]], ht⟩) (fun _ h => absurd h List.not_mem_nil) dX5_common_171
                    · refine lv_iconst (v := 1) hx hb dX5_common_151 (by decide) ?_
                      refine lv_goto (tgt := 156) hx hb dX5_common_152 (by decide) ?_
                      refine lv_iadd hx hb dX5_common_156 ?_
                      refine lv_istore (lv' := [(5, .int (z81 + (1 : Int32))), (9, .int (fX5_isOn xs ys ic id ib)), (8, .int (fX5_isOn xs ys ic id ia)), (7, .int (fX5_isOn xs ys ia ib id)), (6, .int (fX5_isOn xs ys ia ib ic)), (0, .ref m1), (1, .int ia), (2, .int ib), (3, .int ic), (4, .int id)]) hx hb dX5_common_157 hl (by decide) rfl (fun ls hl => ?_)
                      refine lv_iload hx hb dX5_common_159 (lv_at hl 0 rfl) ?_
                      refine lv_iconst (v := 1) hx hb dX5_common_161 (by decide) ?_
                      refine lv_icmp_le (tgt := 169) hx hb dX5_common_162 (by decide) (fun c90 => ?_) (fun c90 => ?_)
                      · refine lv_iload hx hb dX5_common_169 (lv_at hl 0 rfl) ?_
                        subst ez81 ez2
                        exact W.iret (v := ((((0 : Int32) + (0 : Int32)) + (0 : Int32)) + (1 : Int32)) + (1 : Int32)) hx hb hr (fun t ht hW => ⟨by rw [show fX5_common xs ys ia ib ic id = ((((0 : Int32) + (0 : Int32)) + (0 : Int32)) + (1 : Int32)) + (1 : Int32) by unfold fX5_common; rw [if_pos c1, if_neg c3, if_neg c47, if_neg c48, if_pos c59, if_pos c70, if_neg c82, if_pos c84, if_pos c86, if_pos c88, if_pos c90]], ht⟩) (fun _ h => absurd h List.not_mem_nil) dX5_common_171
                      · refine lv_iconst (v := 2) hx hb dX5_common_165 (by decide) ?_
                        refine lv_goto (tgt := 171) hx hb dX5_common_166 (by decide) ?_
                        subst ez81 ez2
                        exact W.iret (v := (2 : Int32)) hx hb hr (fun t ht hW => ⟨by rw [show fX5_common xs ys ia ib ic id = (2 : Int32) by unfold fX5_common; rw [if_pos c1, if_neg c3, if_neg c47, if_neg c48, if_pos c59, if_pos c70, if_neg c82, if_pos c84, if_pos c86, if_pos c88, if_neg c90]], ht⟩) (fun _ h => absurd h List.not_mem_nil) dX5_common_171
      · refine lv_iconst (v := 1) hx hb dX5_common_74 (by decide) ?_
        refine lv_goto (tgt := 79) hx hb dX5_common_75 (by decide) ?_
        refine lv_iadd hx hb dX5_common_79 ?_
        refine lv_istore (lv' := [(5, .int (z2 + (1 : Int32))), (9, .int (fX5_isOn xs ys ic id ib)), (8, .int (fX5_isOn xs ys ic id ia)), (7, .int (fX5_isOn xs ys ia ib id)), (6, .int (fX5_isOn xs ys ia ib ic)), (0, .ref m1), (1, .int ia), (2, .int ib), (3, .int ic), (4, .int id)]) hx hb dX5_common_80 hl (by decide) rfl (fun ls hl => ?_)
        refine lv_iload hx hb dX5_common_82 (lv_at hl 0 rfl) ?_
        refine lv_iload hx hb dX5_common_84 (lv_at hl 2 rfl) ?_
        refine lv_if_eq (tgt := 112) hx hb dX5_common_86 (by decide) (fun c91 => ?_) (fun c91 => ?_)
        · refine lv_iconst (v := 0) hx hb dX5_common_112 (by decide) ?_
          refine lv_iadd hx hb dX5_common_113 ?_
          refine lv_topi (fun z92 ez92 => ?_)
          refine lv_istore (lv' := [(5, .int z92), (9, .int (fX5_isOn xs ys ic id ib)), (8, .int (fX5_isOn xs ys ic id ia)), (7, .int (fX5_isOn xs ys ia ib id)), (6, .int (fX5_isOn xs ys ia ib ic)), (0, .ref m1), (1, .int ia), (2, .int ib), (3, .int ic), (4, .int id)]) hx hb dX5_common_114 hl (by decide) rfl (fun ls hl => ?_)
          refine lv_iload hx hb dX5_common_116 (lv_at hl 0 rfl) ?_
          refine lv_iload hx hb dX5_common_118 (lv_at hl 1 rfl) ?_
          refine lv_if_eq (tgt := 155) hx hb dX5_common_120 (by decide) (fun c93 => ?_) (fun c93 => ?_)
          · refine lv_iconst (v := 0) hx hb dX5_common_155 (by decide) ?_
            refine lv_iadd hx hb dX5_common_156 ?_
            refine lv_istore (lv' := [(5, .int (z92 + (0 : Int32))), (9, .int (fX5_isOn xs ys ic id ib)), (8, .int (fX5_isOn xs ys ic id ia)), (7, .int (fX5_isOn xs ys ia ib id)), (6, .int (fX5_isOn xs ys ia ib ic)), (0, .ref m1), (1, .int ia), (2, .int ib), (3, .int ic), (4, .int id)]) hx hb dX5_common_157 hl (by decide) rfl (fun ls hl => ?_)
            refine lv_iload hx hb dX5_common_159 (lv_at hl 0 rfl) ?_
            refine lv_iconst (v := 1) hx hb dX5_common_161 (by decide) ?_
            refine lv_icmp_le (tgt := 169) hx hb dX5_common_162 (by decide) (fun c94 => ?_) (fun c94 => ?_)
            · refine lv_iload hx hb dX5_common_169 (lv_at hl 0 rfl) ?_
              subst ez92 ez2
              exact W.iret (v := ((((0 : Int32) + (0 : Int32)) + (1 : Int32)) + (0 : Int32)) + (0 : Int32)) hx hb hr (fun t ht hW => ⟨by rw [show fX5_common xs ys ia ib ic id = ((((0 : Int32) + (0 : Int32)) + (1 : Int32)) + (0 : Int32)) + (0 : Int32) by unfold fX5_common; rw [if_pos c1, if_neg c3, if_pos c47, if_pos c91, if_pos c93, if_pos c94]], ht⟩) (fun _ h => absurd h List.not_mem_nil) dX5_common_171
            · refine lv_iconst (v := 2) hx hb dX5_common_165 (by decide) ?_
              refine lv_goto (tgt := 171) hx hb dX5_common_166 (by decide) ?_
              subst ez92 ez2
              exact W.iret (v := (2 : Int32)) hx hb hr (fun t ht hW => ⟨by rw [show fX5_common xs ys ia ib ic id = (2 : Int32) by unfold fX5_common; rw [if_pos c1, if_neg c3, if_pos c47, if_pos c91, if_pos c93, if_neg c94]], ht⟩) (fun _ h => absurd h List.not_mem_nil) dX5_common_171
          · refine lv_aload_n hx hb dX5_common_123 rfl (lv_at hl 5 rfl) ?_
            refine lv_iload_n hx hb dX5_common_124 rfl (lv_at hl 7 rfl) ?_
            refine lv_iload_n hx hb dX5_common_125 rfl (lv_at hl 8 rfl) ?_
            refine xr_V (q := (RX5, TX5, 14)) (ci := 9) (q0 := 0) (rest := [.int z92]) (As := [.int ib, .int ic]) ⟨hx, hb, hml, hown, hts⟩ (ct5_areEqual l D m1 m2 m3 m4 m5 m6 m7 kI kJ xs ys held la lb lc th pm rm on cl un ze lm ib ic oib oic) (cwV 2 hts gl_X5_107 rfl rfl rfl (by decide +kernel) ⟨Nat.le_of_ble_eq_true rfl, Nat.le_of_ble_eq_true rfl⟩) nN_mv hN hK hP [0, 1, 2, 3, 4, 5, 6] [0, 1] rfl rfl rfl rfl rfl hl.1 rfl (Nat.le_of_ble_eq_true rfl) dX5_common_126 ⟨Nat.le_of_ble_eq_true rfl, Nat.le_of_ble_eq_true rfl⟩ ?_
            refine lv_if_ne (tgt := 155) hx hb dX5_common_129 (by decide) (fun c95 => ?_) (fun c95 => ?_)
            · refine lv_iconst (v := 0) hx hb dX5_common_155 (by decide) ?_
              refine lv_iadd hx hb dX5_common_156 ?_
              refine lv_istore (lv' := [(5, .int (z92 + (0 : Int32))), (9, .int (fX5_isOn xs ys ic id ib)), (8, .int (fX5_isOn xs ys ic id ia)), (7, .int (fX5_isOn xs ys ia ib id)), (6, .int (fX5_isOn xs ys ia ib ic)), (0, .ref m1), (1, .int ia), (2, .int ib), (3, .int ic), (4, .int id)]) hx hb dX5_common_157 hl (by decide) rfl (fun ls hl => ?_)
              refine lv_iload hx hb dX5_common_159 (lv_at hl 0 rfl) ?_
              refine lv_iconst (v := 1) hx hb dX5_common_161 (by decide) ?_
              refine lv_icmp_le (tgt := 169) hx hb dX5_common_162 (by decide) (fun c96 => ?_) (fun c96 => ?_)
              · refine lv_iload hx hb dX5_common_169 (lv_at hl 0 rfl) ?_
                subst ez92 ez2
                exact W.iret (v := ((((0 : Int32) + (0 : Int32)) + (1 : Int32)) + (0 : Int32)) + (0 : Int32)) hx hb hr (fun t ht hW => ⟨by rw [show fX5_common xs ys ia ib ic id = ((((0 : Int32) + (0 : Int32)) + (1 : Int32)) + (0 : Int32)) + (0 : Int32) by unfold fX5_common; rw [if_pos c1, if_neg c3, if_pos c47, if_pos c91, if_neg c93, if_neg c95, if_pos c96]], ht⟩) (fun _ h => absurd h List.not_mem_nil) dX5_common_171
              · refine lv_iconst (v := 2) hx hb dX5_common_165 (by decide) ?_
                refine lv_goto (tgt := 171) hx hb dX5_common_166 (by decide) ?_
                subst ez92 ez2
                exact W.iret (v := (2 : Int32)) hx hb hr (fun t ht hW => ⟨by rw [show fX5_common xs ys ia ib ic id = (2 : Int32) by unfold fX5_common; rw [if_pos c1, if_neg c3, if_pos c47, if_pos c91, if_neg c93, if_neg c95, if_neg c96]], ht⟩) (fun _ h => absurd h List.not_mem_nil) dX5_common_171
            · refine lv_aload_n hx hb dX5_common_132 rfl (lv_at hl 5 rfl) ?_
              refine lv_iload_n hx hb dX5_common_133 rfl (lv_at hl 7 rfl) ?_
              refine lv_iload hx hb dX5_common_134 (lv_at hl 9 rfl) ?_
              refine xr_V (q := (RX5, TX5, 14)) (ci := 9) (q0 := 0) (rest := [.int z92]) (As := [.int ib, .int id]) ⟨hx, hb, hml, hown, hts⟩ (ct5_areEqual l D m1 m2 m3 m4 m5 m6 m7 kI kJ xs ys held la lb lc th pm rm on cl un ze lm ib id oib oid) (cwV 2 hts gl_X5_107 rfl rfl rfl (by decide +kernel) ⟨Nat.le_of_ble_eq_true rfl, Nat.le_of_ble_eq_true rfl⟩) nN_mv hN hK hP [0, 1, 2, 3, 4, 5, 6] [0, 1] rfl rfl rfl rfl rfl hl.1 rfl (Nat.le_of_ble_eq_true rfl) dX5_common_136 ⟨Nat.le_of_ble_eq_true rfl, Nat.le_of_ble_eq_true rfl⟩ ?_
              refine lv_if_ne (tgt := 155) hx hb dX5_common_139 (by decide) (fun c97 => ?_) (fun c97 => ?_)
              · refine lv_iconst (v := 0) hx hb dX5_common_155 (by decide) ?_
                refine lv_iadd hx hb dX5_common_156 ?_
                refine lv_istore (lv' := [(5, .int (z92 + (0 : Int32))), (9, .int (fX5_isOn xs ys ic id ib)), (8, .int (fX5_isOn xs ys ic id ia)), (7, .int (fX5_isOn xs ys ia ib id)), (6, .int (fX5_isOn xs ys ia ib ic)), (0, .ref m1), (1, .int ia), (2, .int ib), (3, .int ic), (4, .int id)]) hx hb dX5_common_157 hl (by decide) rfl (fun ls hl => ?_)
                refine lv_iload hx hb dX5_common_159 (lv_at hl 0 rfl) ?_
                refine lv_iconst (v := 1) hx hb dX5_common_161 (by decide) ?_
                refine lv_icmp_le (tgt := 169) hx hb dX5_common_162 (by decide) (fun c98 => ?_) (fun c98 => ?_)
                · refine lv_iload hx hb dX5_common_169 (lv_at hl 0 rfl) ?_
                  subst ez92 ez2
                  exact W.iret (v := ((((0 : Int32) + (0 : Int32)) + (1 : Int32)) + (0 : Int32)) + (0 : Int32)) hx hb hr (fun t ht hW => ⟨by rw [show fX5_common xs ys ia ib ic id = ((((0 : Int32) + (0 : Int32)) + (1 : Int32)) + (0 : Int32)) + (0 : Int32) by unfold fX5_common; rw [if_pos c1, if_neg c3, if_pos c47, if_pos c91, if_neg c93, if_pos c95, if_neg c97, if_pos c98]], ht⟩) (fun _ h => absurd h List.not_mem_nil) dX5_common_171
                · refine lv_iconst (v := 2) hx hb dX5_common_165 (by decide) ?_
                  refine lv_goto (tgt := 171) hx hb dX5_common_166 (by decide) ?_
                  subst ez92 ez2
                  exact W.iret (v := (2 : Int32)) hx hb hr (fun t ht hW => ⟨by rw [show fX5_common xs ys ia ib ic id = (2 : Int32) by unfold fX5_common; rw [if_pos c1, if_neg c3, if_pos c47, if_pos c91, if_neg c93, if_pos c95, if_neg c97, if_neg c98]], ht⟩) (fun _ h => absurd h List.not_mem_nil) dX5_common_171
              · refine lv_aload_n hx hb dX5_common_142 rfl (lv_at hl 5 rfl) ?_
                refine lv_iload_n hx hb dX5_common_143 rfl (lv_at hl 6 rfl) ?_
                refine lv_iload_n hx hb dX5_common_144 rfl (lv_at hl 7 rfl) ?_
                refine xr_V (q := (RX5, TX5, 14)) (ci := 9) (q0 := 0) (rest := [.int z92]) (As := [.int ia, .int ib]) ⟨hx, hb, hml, hown, hts⟩ (ct5_areEqual l D m1 m2 m3 m4 m5 m6 m7 kI kJ xs ys held la lb lc th pm rm on cl un ze lm ia ib oia oib) (cwV 2 hts gl_X5_107 rfl rfl rfl (by decide +kernel) ⟨Nat.le_of_ble_eq_true rfl, Nat.le_of_ble_eq_true rfl⟩) nN_mv hN hK hP [0, 1, 2, 3, 4, 5, 6] [0, 1] rfl rfl rfl rfl rfl hl.1 rfl (Nat.le_of_ble_eq_true rfl) dX5_common_145 ⟨Nat.le_of_ble_eq_true rfl, Nat.le_of_ble_eq_true rfl⟩ ?_
                refine lv_if_ne (tgt := 155) hx hb dX5_common_148 (by decide) (fun c99 => ?_) (fun c99 => ?_)
                · refine lv_iconst (v := 0) hx hb dX5_common_155 (by decide) ?_
                  refine lv_iadd hx hb dX5_common_156 ?_
                  refine lv_istore (lv' := [(5, .int (z92 + (0 : Int32))), (9, .int (fX5_isOn xs ys ic id ib)), (8, .int (fX5_isOn xs ys ic id ia)), (7, .int (fX5_isOn xs ys ia ib id)), (6, .int (fX5_isOn xs ys ia ib ic)), (0, .ref m1), (1, .int ia), (2, .int ib), (3, .int ic), (4, .int id)]) hx hb dX5_common_157 hl (by decide) rfl (fun ls hl => ?_)
                  refine lv_iload hx hb dX5_common_159 (lv_at hl 0 rfl) ?_
                  refine lv_iconst (v := 1) hx hb dX5_common_161 (by decide) ?_
                  refine lv_icmp_le (tgt := 169) hx hb dX5_common_162 (by decide) (fun c100 => ?_) (fun c100 => ?_)
                  · refine lv_iload hx hb dX5_common_169 (lv_at hl 0 rfl) ?_
                    subst ez92 ez2
                    exact W.iret (v := ((((0 : Int32) + (0 : Int32)) + (1 : Int32)) + (0 : Int32)) + (0 : Int32)) hx hb hr (fun t ht hW => ⟨by rw [show fX5_common xs ys ia ib ic id = ((((0 : Int32) + (0 : Int32)) + (1 : Int32)) + (0 : Int32)) + (0 : Int32) by unfold fX5_common; rw [if_pos c1, if_neg c3, if_pos c47, if_pos c91, if_neg c93, if_pos c95, if_pos c97, if_neg c99, if_pos c100]], ht⟩) (fun _ h => absurd h List.not_mem_nil) dX5_common_171
                  · refine lv_iconst (v := 2) hx hb dX5_common_165 (by decide) ?_
                    refine lv_goto (tgt := 171) hx hb dX5_common_166 (by decide) ?_
                    subst ez92 ez2
                    exact W.iret (v := (2 : Int32)) hx hb hr (fun t ht hW => ⟨by rw [show fX5_common xs ys ia ib ic id = (2 : Int32) by unfold fX5_common; rw [if_pos c1, if_neg c3, if_pos c47, if_pos c91, if_neg c93, if_pos c95, if_pos c97, if_neg c99, if_neg c100]], ht⟩) (fun _ h => absurd h List.not_mem_nil) dX5_common_171
                · refine lv_iconst (v := 1) hx hb dX5_common_151 (by decide) ?_
                  refine lv_goto (tgt := 156) hx hb dX5_common_152 (by decide) ?_
                  refine lv_iadd hx hb dX5_common_156 ?_
                  refine lv_istore (lv' := [(5, .int (z92 + (1 : Int32))), (9, .int (fX5_isOn xs ys ic id ib)), (8, .int (fX5_isOn xs ys ic id ia)), (7, .int (fX5_isOn xs ys ia ib id)), (6, .int (fX5_isOn xs ys ia ib ic)), (0, .ref m1), (1, .int ia), (2, .int ib), (3, .int ic), (4, .int id)]) hx hb dX5_common_157 hl (by decide) rfl (fun ls hl => ?_)
                  refine lv_iload hx hb dX5_common_159 (lv_at hl 0 rfl) ?_
                  refine lv_iconst (v := 1) hx hb dX5_common_161 (by decide) ?_
                  refine lv_icmp_le (tgt := 169) hx hb dX5_common_162 (by decide) (fun c101 => ?_) (fun c101 => ?_)
                  · refine lv_iload hx hb dX5_common_169 (lv_at hl 0 rfl) ?_
                    subst ez92 ez2
                    exact W.iret (v := ((((0 : Int32) + (0 : Int32)) + (1 : Int32)) + (0 : Int32)) + (1 : Int32)) hx hb hr (fun t ht hW => ⟨by rw [show fX5_common xs ys ia ib ic id = ((((0 : Int32) + (0 : Int32)) + (1 : Int32)) + (0 : Int32)) + (1 : Int32) by unfold fX5_common; rw [if_pos c1, if_neg c3, if_pos c47, if_pos c91, if_neg c93, if_pos c95, if_pos c97, if_pos c99, if_pos c101]], ht⟩) (fun _ h => absurd h List.not_mem_nil) dX5_common_171
                  · refine lv_iconst (v := 2) hx hb dX5_common_165 (by decide) ?_
                    refine lv_goto (tgt := 171) hx hb dX5_common_166 (by decide) ?_
                    subst ez92 ez2
                    exact W.iret (v := (2 : Int32)) hx hb hr (fun t ht hW => ⟨by rw [show fX5_common xs ys ia ib ic id = (2 : Int32) by unfold fX5_common; rw [if_pos c1, if_neg c3, if_pos c47, if_pos c91, if_neg c93, if_pos c95, if_pos c97, if_pos c99, if_neg c101]], ht⟩) (fun _ h => absurd h List.not_mem_nil) dX5_common_171
        · refine lv_aload_n hx hb dX5_common_89 rfl (lv_at hl 5 rfl) ?_
          refine lv_iload_n hx hb dX5_common_90 rfl (lv_at hl 6 rfl) ?_
          refine lv_iload_n hx hb dX5_common_91 rfl (lv_at hl 8 rfl) ?_
          refine xr_V (q := (RX5, TX5, 14)) (ci := 9) (q0 := 0) (rest := [.int (z2 + (1 : Int32))]) (As := [.int ia, .int ic]) ⟨hx, hb, hml, hown, hts⟩ (ct5_areEqual l D m1 m2 m3 m4 m5 m6 m7 kI kJ xs ys held la lb lc th pm rm on cl un ze lm ia ic oia oic) (cwV 2 hts gl_X5_107 rfl rfl rfl (by decide +kernel) ⟨Nat.le_of_ble_eq_true rfl, Nat.le_of_ble_eq_true rfl⟩) nN_mv hN hK hP [0, 1, 2, 3, 4, 5, 6] [0, 1] rfl rfl rfl rfl rfl hl.1 rfl (Nat.le_of_ble_eq_true rfl) dX5_common_92 ⟨Nat.le_of_ble_eq_true rfl, Nat.le_of_ble_eq_true rfl⟩ ?_
          refine lv_if_ne (tgt := 112) hx hb dX5_common_95 (by decide) (fun c102 => ?_) (fun c102 => ?_)
          · refine lv_iconst (v := 0) hx hb dX5_common_112 (by decide) ?_
            refine lv_iadd hx hb dX5_common_113 ?_
            refine lv_topi (fun z103 ez103 => ?_)
            refine lv_istore (lv' := [(5, .int z103), (9, .int (fX5_isOn xs ys ic id ib)), (8, .int (fX5_isOn xs ys ic id ia)), (7, .int (fX5_isOn xs ys ia ib id)), (6, .int (fX5_isOn xs ys ia ib ic)), (0, .ref m1), (1, .int ia), (2, .int ib), (3, .int ic), (4, .int id)]) hx hb dX5_common_114 hl (by decide) rfl (fun ls hl => ?_)
            refine lv_iload hx hb dX5_common_116 (lv_at hl 0 rfl) ?_
            refine lv_iload hx hb dX5_common_118 (lv_at hl 1 rfl) ?_
            refine lv_if_eq (tgt := 155) hx hb dX5_common_120 (by decide) (fun c104 => ?_) (fun c104 => ?_)
            · refine lv_iconst (v := 0) hx hb dX5_common_155 (by decide) ?_
              refine lv_iadd hx hb dX5_common_156 ?_
              refine lv_istore (lv' := [(5, .int (z103 + (0 : Int32))), (9, .int (fX5_isOn xs ys ic id ib)), (8, .int (fX5_isOn xs ys ic id ia)), (7, .int (fX5_isOn xs ys ia ib id)), (6, .int (fX5_isOn xs ys ia ib ic)), (0, .ref m1), (1, .int ia), (2, .int ib), (3, .int ic), (4, .int id)]) hx hb dX5_common_157 hl (by decide) rfl (fun ls hl => ?_)
              refine lv_iload hx hb dX5_common_159 (lv_at hl 0 rfl) ?_
              refine lv_iconst (v := 1) hx hb dX5_common_161 (by decide) ?_
              refine lv_icmp_le (tgt := 169) hx hb dX5_common_162 (by decide) (fun c105 => ?_) (fun c105 => ?_)
              · refine lv_iload hx hb dX5_common_169 (lv_at hl 0 rfl) ?_
                subst ez103 ez2
                exact W.iret (v := ((((0 : Int32) + (0 : Int32)) + (1 : Int32)) + (0 : Int32)) + (0 : Int32)) hx hb hr (fun t ht hW => ⟨by rw [show fX5_common xs ys ia ib ic id = ((((0 : Int32) + (0 : Int32)) + (1 : Int32)) + (0 : Int32)) + (0 : Int32) by unfold fX5_common; rw [if_pos c1, if_neg c3, if_pos c47, if_neg c91, if_neg c102, if_pos c104, if_pos c105]], ht⟩) (fun _ h => absurd h List.not_mem_nil) dX5_common_171
              · refine lv_iconst (v := 2) hx hb dX5_common_165 (by decide) ?_
                refine lv_goto (tgt := 171) hx hb dX5_common_166 (by decide) ?_
                subst ez103 ez2
                exact W.iret (v := (2 : Int32)) hx hb hr (fun t ht hW => ⟨by rw [show fX5_common xs ys ia ib ic id = (2 : Int32) by unfold fX5_common; rw [if_pos c1, if_neg c3, if_pos c47, if_neg c91, if_neg c102, if_pos c104, if_neg c105]], ht⟩) (fun _ h => absurd h List.not_mem_nil) dX5_common_171
            · refine lv_aload_n hx hb dX5_common_123 rfl (lv_at hl 5 rfl) ?_
              refine lv_iload_n hx hb dX5_common_124 rfl (lv_at hl 7 rfl) ?_
              refine lv_iload_n hx hb dX5_common_125 rfl (lv_at hl 8 rfl) ?_
              refine xr_V (q := (RX5, TX5, 14)) (ci := 9) (q0 := 0) (rest := [.int z103]) (As := [.int ib, .int ic]) ⟨hx, hb, hml, hown, hts⟩ (ct5_areEqual l D m1 m2 m3 m4 m5 m6 m7 kI kJ xs ys held la lb lc th pm rm on cl un ze lm ib ic oib oic) (cwV 2 hts gl_X5_107 rfl rfl rfl (by decide +kernel) ⟨Nat.le_of_ble_eq_true rfl, Nat.le_of_ble_eq_true rfl⟩) nN_mv hN hK hP [0, 1, 2, 3, 4, 5, 6] [0, 1] rfl rfl rfl rfl rfl hl.1 rfl (Nat.le_of_ble_eq_true rfl) dX5_common_126 ⟨Nat.le_of_ble_eq_true rfl, Nat.le_of_ble_eq_true rfl⟩ ?_
              refine lv_if_ne (tgt := 155) hx hb dX5_common_129 (by decide) (fun c106 => ?_) (fun c106 => ?_)
              · refine lv_iconst (v := 0) hx hb dX5_common_155 (by decide) ?_
                refine lv_iadd hx hb dX5_common_156 ?_
                refine lv_istore (lv' := [(5, .int (z103 + (0 : Int32))), (9, .int (fX5_isOn xs ys ic id ib)), (8, .int (fX5_isOn xs ys ic id ia)), (7, .int (fX5_isOn xs ys ia ib id)), (6, .int (fX5_isOn xs ys ia ib ic)), (0, .ref m1), (1, .int ia), (2, .int ib), (3, .int ic), (4, .int id)]) hx hb dX5_common_157 hl (by decide) rfl (fun ls hl => ?_)
                refine lv_iload hx hb dX5_common_159 (lv_at hl 0 rfl) ?_
                refine lv_iconst (v := 1) hx hb dX5_common_161 (by decide) ?_
                refine lv_icmp_le (tgt := 169) hx hb dX5_common_162 (by decide) (fun c107 => ?_) (fun c107 => ?_)
                · refine lv_iload hx hb dX5_common_169 (lv_at hl 0 rfl) ?_
                  subst ez103 ez2
                  exact W.iret (v := ((((0 : Int32) + (0 : Int32)) + (1 : Int32)) + (0 : Int32)) + (0 : Int32)) hx hb hr (fun t ht hW => ⟨by rw [show fX5_common xs ys ia ib ic id = ((((0 : Int32) + (0 : Int32)) + (1 : Int32)) + (0 : Int32)) + (0 : Int32) by unfold fX5_common; rw [if_pos c1, if_neg c3, if_pos c47, if_neg c91, if_neg c102, if_neg c104, if_neg c106, if_pos c107]], ht⟩) (fun _ h => absurd h List.not_mem_nil) dX5_common_171
                · refine lv_iconst (v := 2) hx hb dX5_common_165 (by decide) ?_
                  refine lv_goto (tgt := 171) hx hb dX5_common_166 (by decide) ?_
                  subst ez103 ez2
                  exact W.iret (v := (2 : Int32)) hx hb hr (fun t ht hW => ⟨by rw [show fX5_common xs ys ia ib ic id = (2 : Int32) by unfold fX5_common; rw [if_pos c1, if_neg c3, if_pos c47, if_neg c91, if_neg c102, if_neg c104, if_neg c106, if_neg c107]], ht⟩) (fun _ h => absurd h List.not_mem_nil) dX5_common_171
              · refine lv_aload_n hx hb dX5_common_132 rfl (lv_at hl 5 rfl) ?_
                refine lv_iload_n hx hb dX5_common_133 rfl (lv_at hl 7 rfl) ?_
                refine lv_iload hx hb dX5_common_134 (lv_at hl 9 rfl) ?_
                refine xr_V (q := (RX5, TX5, 14)) (ci := 9) (q0 := 0) (rest := [.int z103]) (As := [.int ib, .int id]) ⟨hx, hb, hml, hown, hts⟩ (ct5_areEqual l D m1 m2 m3 m4 m5 m6 m7 kI kJ xs ys held la lb lc th pm rm on cl un ze lm ib id oib oid) (cwV 2 hts gl_X5_107 rfl rfl rfl (by decide +kernel) ⟨Nat.le_of_ble_eq_true rfl, Nat.le_of_ble_eq_true rfl⟩) nN_mv hN hK hP [0, 1, 2, 3, 4, 5, 6] [0, 1] rfl rfl rfl rfl rfl hl.1 rfl (Nat.le_of_ble_eq_true rfl) dX5_common_136 ⟨Nat.le_of_ble_eq_true rfl, Nat.le_of_ble_eq_true rfl⟩ ?_
                refine lv_if_ne (tgt := 155) hx hb dX5_common_139 (by decide) (fun c108 => ?_) (fun c108 => ?_)
                · refine lv_iconst (v := 0) hx hb dX5_common_155 (by decide) ?_
                  refine lv_iadd hx hb dX5_common_156 ?_
                  refine lv_istore (lv' := [(5, .int (z103 + (0 : Int32))), (9, .int (fX5_isOn xs ys ic id ib)), (8, .int (fX5_isOn xs ys ic id ia)), (7, .int (fX5_isOn xs ys ia ib id)), (6, .int (fX5_isOn xs ys ia ib ic)), (0, .ref m1), (1, .int ia), (2, .int ib), (3, .int ic), (4, .int id)]) hx hb dX5_common_157 hl (by decide) rfl (fun ls hl => ?_)
                  refine lv_iload hx hb dX5_common_159 (lv_at hl 0 rfl) ?_
                  refine lv_iconst (v := 1) hx hb dX5_common_161 (by decide) ?_
                  refine lv_icmp_le (tgt := 169) hx hb dX5_common_162 (by decide) (fun c109 => ?_) (fun c109 => ?_)
                  · refine lv_iload hx hb dX5_common_169 (lv_at hl 0 rfl) ?_
                    subst ez103 ez2
                    exact W.iret (v := ((((0 : Int32) + (0 : Int32)) + (1 : Int32)) + (0 : Int32)) + (0 : Int32)) hx hb hr (fun t ht hW => ⟨by rw [show fX5_common xs ys ia ib ic id = ((((0 : Int32) + (0 : Int32)) + (1 : Int32)) + (0 : Int32)) + (0 : Int32) by unfold fX5_common; rw [if_pos c1, if_neg c3, if_pos c47, if_neg c91, if_neg c102, if_neg c104, if_pos c106, if_neg c108, if_pos c109]], ht⟩) (fun _ h => absurd h List.not_mem_nil) dX5_common_171
                  · refine lv_iconst (v := 2) hx hb dX5_common_165 (by decide) ?_
                    refine lv_goto (tgt := 171) hx hb dX5_common_166 (by decide) ?_
                    subst ez103 ez2
                    exact W.iret (v := (2 : Int32)) hx hb hr (fun t ht hW => ⟨by rw [show fX5_common xs ys ia ib ic id = (2 : Int32) by unfold fX5_common; rw [if_pos c1, if_neg c3, if_pos c47, if_neg c91, if_neg c102, if_neg c104, if_pos c106, if_neg c108, if_neg c109]], ht⟩) (fun _ h => absurd h List.not_mem_nil) dX5_common_171
                · refine lv_aload_n hx hb dX5_common_142 rfl (lv_at hl 5 rfl) ?_
                  refine lv_iload_n hx hb dX5_common_143 rfl (lv_at hl 6 rfl) ?_
                  refine lv_iload_n hx hb dX5_common_144 rfl (lv_at hl 7 rfl) ?_
                  refine xr_V (q := (RX5, TX5, 14)) (ci := 9) (q0 := 0) (rest := [.int z103]) (As := [.int ia, .int ib]) ⟨hx, hb, hml, hown, hts⟩ (ct5_areEqual l D m1 m2 m3 m4 m5 m6 m7 kI kJ xs ys held la lb lc th pm rm on cl un ze lm ia ib oia oib) (cwV 2 hts gl_X5_107 rfl rfl rfl (by decide +kernel) ⟨Nat.le_of_ble_eq_true rfl, Nat.le_of_ble_eq_true rfl⟩) nN_mv hN hK hP [0, 1, 2, 3, 4, 5, 6] [0, 1] rfl rfl rfl rfl rfl hl.1 rfl (Nat.le_of_ble_eq_true rfl) dX5_common_145 ⟨Nat.le_of_ble_eq_true rfl, Nat.le_of_ble_eq_true rfl⟩ ?_
                  refine lv_if_ne (tgt := 155) hx hb dX5_common_148 (by decide) (fun c110 => ?_) (fun c110 => ?_)
                  · refine lv_iconst (v := 0) hx hb dX5_common_155 (by decide) ?_
                    refine lv_iadd hx hb dX5_common_156 ?_
                    refine lv_istore (lv' := [(5, .int (z103 + (0 : Int32))), (9, .int (fX5_isOn xs ys ic id ib)), (8, .int (fX5_isOn xs ys ic id ia)), (7, .int (fX5_isOn xs ys ia ib id)), (6, .int (fX5_isOn xs ys ia ib ic)), (0, .ref m1), (1, .int ia), (2, .int ib), (3, .int ic), (4, .int id)]) hx hb dX5_common_157 hl (by decide) rfl (fun ls hl => ?_)
                    refine lv_iload hx hb dX5_common_159 (lv_at hl 0 rfl) ?_
                    refine lv_iconst (v := 1) hx hb dX5_common_161 (by decide) ?_
                    refine lv_icmp_le (tgt := 169) hx hb dX5_common_162 (by decide) (fun c111 => ?_) (fun c111 => ?_)
                    · refine lv_iload hx hb dX5_common_169 (lv_at hl 0 rfl) ?_
                      subst ez103 ez2
                      exact W.iret (v := ((((0 : Int32) + (0 : Int32)) + (1 : Int32)) + (0 : Int32)) + (0 : Int32)) hx hb hr (fun t ht hW => ⟨by rw [show fX5_common xs ys ia ib ic id = ((((0 : Int32) + (0 : Int32)) + (1 : Int32)) + (0 : Int32)) + (0 : Int32) by unfold fX5_common; rw [if_pos c1, if_neg c3, if_pos c47, if_neg c91, if_neg c102, if_neg c104, if_pos c106, if_pos c108, if_neg c110, if_pos c111]], ht⟩) (fun _ h => absurd h List.not_mem_nil) dX5_common_171
                    · refine lv_iconst (v := 2) hx hb dX5_common_165 (by decide) ?_
                      refine lv_goto (tgt := 171) hx hb dX5_common_166 (by decide) ?_
                      subst ez103 ez2
                      exact W.iret (v := (2 : Int32)) hx hb hr (fun t ht hW => ⟨by rw [show fX5_common xs ys ia ib ic id = (2 : Int32) by unfold fX5_common; rw [if_pos c1, if_neg c3, if_pos c47, if_neg c91, if_neg c102, if_neg c104, if_pos c106, if_pos c108, if_neg c110, if_neg c111]], ht⟩) (fun _ h => absurd h List.not_mem_nil) dX5_common_171
                  · refine lv_iconst (v := 1) hx hb dX5_common_151 (by decide) ?_
                    refine lv_goto (tgt := 156) hx hb dX5_common_152 (by decide) ?_
                    refine lv_iadd hx hb dX5_common_156 ?_
                    refine lv_istore (lv' := [(5, .int (z103 + (1 : Int32))), (9, .int (fX5_isOn xs ys ic id ib)), (8, .int (fX5_isOn xs ys ic id ia)), (7, .int (fX5_isOn xs ys ia ib id)), (6, .int (fX5_isOn xs ys ia ib ic)), (0, .ref m1), (1, .int ia), (2, .int ib), (3, .int ic), (4, .int id)]) hx hb dX5_common_157 hl (by decide) rfl (fun ls hl => ?_)
                    refine lv_iload hx hb dX5_common_159 (lv_at hl 0 rfl) ?_
                    refine lv_iconst (v := 1) hx hb dX5_common_161 (by decide) ?_
                    refine lv_icmp_le (tgt := 169) hx hb dX5_common_162 (by decide) (fun c112 => ?_) (fun c112 => ?_)
                    · refine lv_iload hx hb dX5_common_169 (lv_at hl 0 rfl) ?_
                      subst ez103 ez2
                      exact W.iret (v := ((((0 : Int32) + (0 : Int32)) + (1 : Int32)) + (0 : Int32)) + (1 : Int32)) hx hb hr (fun t ht hW => ⟨by rw [show fX5_common xs ys ia ib ic id = ((((0 : Int32) + (0 : Int32)) + (1 : Int32)) + (0 : Int32)) + (1 : Int32) by unfold fX5_common; rw [if_pos c1, if_neg c3, if_pos c47, if_neg c91, if_neg c102, if_neg c104, if_pos c106, if_pos c108, if_pos c110, if_pos c112]], ht⟩) (fun _ h => absurd h List.not_mem_nil) dX5_common_171
                    · refine lv_iconst (v := 2) hx hb dX5_common_165 (by decide) ?_
                      refine lv_goto (tgt := 171) hx hb dX5_common_166 (by decide) ?_
                      subst ez103 ez2
                      exact W.iret (v := (2 : Int32)) hx hb hr (fun t ht hW => ⟨by rw [show fX5_common xs ys ia ib ic id = (2 : Int32) by unfold fX5_common; rw [if_pos c1, if_neg c3, if_pos c47, if_neg c91, if_neg c102, if_neg c104, if_pos c106, if_pos c108, if_pos c110, if_neg c112]], ht⟩) (fun _ h => absurd h List.not_mem_nil) dX5_common_171
          · refine lv_aload_n hx hb dX5_common_98 rfl (lv_at hl 5 rfl) ?_
            refine lv_iload_n hx hb dX5_common_99 rfl (lv_at hl 6 rfl) ?_
            refine lv_iload hx hb dX5_common_100 (lv_at hl 9 rfl) ?_
            refine xr_V (q := (RX5, TX5, 14)) (ci := 9) (q0 := 0) (rest := [.int (z2 + (1 : Int32))]) (As := [.int ia, .int id]) ⟨hx, hb, hml, hown, hts⟩ (ct5_areEqual l D m1 m2 m3 m4 m5 m6 m7 kI kJ xs ys held la lb lc th pm rm on cl un ze lm ia id oia oid) (cwV 2 hts gl_X5_107 rfl rfl rfl (by decide +kernel) ⟨Nat.le_of_ble_eq_true rfl, Nat.le_of_ble_eq_true rfl⟩) nN_mv hN hK hP [0, 1, 2, 3, 4, 5, 6] [0, 1] rfl rfl rfl rfl rfl hl.1 rfl (Nat.le_of_ble_eq_true rfl) dX5_common_102 ⟨Nat.le_of_ble_eq_true rfl, Nat.le_of_ble_eq_true rfl⟩ ?_
            refine lv_if_ne (tgt := 112) hx hb dX5_common_105 (by decide) (fun c113 => ?_) (fun c113 => ?_)
            · refine lv_iconst (v := 0) hx hb dX5_common_112 (by decide) ?_
              refine lv_iadd hx hb dX5_common_113 ?_
              refine lv_topi (fun z114 ez114 => ?_)
              refine lv_istore (lv' := [(5, .int z114), (9, .int (fX5_isOn xs ys ic id ib)), (8, .int (fX5_isOn xs ys ic id ia)), (7, .int (fX5_isOn xs ys ia ib id)), (6, .int (fX5_isOn xs ys ia ib ic)), (0, .ref m1), (1, .int ia), (2, .int ib), (3, .int ic), (4, .int id)]) hx hb dX5_common_114 hl (by decide) rfl (fun ls hl => ?_)
              refine lv_iload hx hb dX5_common_116 (lv_at hl 0 rfl) ?_
              refine lv_iload hx hb dX5_common_118 (lv_at hl 1 rfl) ?_
              refine lv_if_eq (tgt := 155) hx hb dX5_common_120 (by decide) (fun c115 => ?_) (fun c115 => ?_)
              · refine lv_iconst (v := 0) hx hb dX5_common_155 (by decide) ?_
                refine lv_iadd hx hb dX5_common_156 ?_
                refine lv_istore (lv' := [(5, .int (z114 + (0 : Int32))), (9, .int (fX5_isOn xs ys ic id ib)), (8, .int (fX5_isOn xs ys ic id ia)), (7, .int (fX5_isOn xs ys ia ib id)), (6, .int (fX5_isOn xs ys ia ib ic)), (0, .ref m1), (1, .int ia), (2, .int ib), (3, .int ic), (4, .int id)]) hx hb dX5_common_157 hl (by decide) rfl (fun ls hl => ?_)
                refine lv_iload hx hb dX5_common_159 (lv_at hl 0 rfl) ?_
                refine lv_iconst (v := 1) hx hb dX5_common_161 (by decide) ?_
                refine lv_icmp_le (tgt := 169) hx hb dX5_common_162 (by decide) (fun c116 => ?_) (fun c116 => ?_)
                · refine lv_iload hx hb dX5_common_169 (lv_at hl 0 rfl) ?_
                  subst ez114 ez2
                  exact W.iret (v := ((((0 : Int32) + (0 : Int32)) + (1 : Int32)) + (0 : Int32)) + (0 : Int32)) hx hb hr (fun t ht hW => ⟨by rw [show fX5_common xs ys ia ib ic id = ((((0 : Int32) + (0 : Int32)) + (1 : Int32)) + (0 : Int32)) + (0 : Int32) by unfold fX5_common; rw [if_pos c1, if_neg c3, if_pos c47, if_neg c91, if_pos c102, if_neg c113, if_pos c115, if_pos c116]], ht⟩) (fun _ h => absurd h List.not_mem_nil) dX5_common_171
                · refine lv_iconst (v := 2) hx hb dX5_common_165 (by decide) ?_
                  refine lv_goto (tgt := 171) hx hb dX5_common_166 (by decide) ?_
                  subst ez114 ez2
                  exact W.iret (v := (2 : Int32)) hx hb hr (fun t ht hW => ⟨by rw [show fX5_common xs ys ia ib ic id = (2 : Int32) by unfold fX5_common; rw [if_pos c1, if_neg c3, if_pos c47, if_neg c91, if_pos c102, if_neg c113, if_pos c115, if_neg c116]], ht⟩) (fun _ h => absurd h List.not_mem_nil) dX5_common_171
              · refine lv_aload_n hx hb dX5_common_123 rfl (lv_at hl 5 rfl) ?_
                refine lv_iload_n hx hb dX5_common_124 rfl (lv_at hl 7 rfl) ?_
                refine lv_iload_n hx hb dX5_common_125 rfl (lv_at hl 8 rfl) ?_
                refine xr_V (q := (RX5, TX5, 14)) (ci := 9) (q0 := 0) (rest := [.int z114]) (As := [.int ib, .int ic]) ⟨hx, hb, hml, hown, hts⟩ (ct5_areEqual l D m1 m2 m3 m4 m5 m6 m7 kI kJ xs ys held la lb lc th pm rm on cl un ze lm ib ic oib oic) (cwV 2 hts gl_X5_107 rfl rfl rfl (by decide +kernel) ⟨Nat.le_of_ble_eq_true rfl, Nat.le_of_ble_eq_true rfl⟩) nN_mv hN hK hP [0, 1, 2, 3, 4, 5, 6] [0, 1] rfl rfl rfl rfl rfl hl.1 rfl (Nat.le_of_ble_eq_true rfl) dX5_common_126 ⟨Nat.le_of_ble_eq_true rfl, Nat.le_of_ble_eq_true rfl⟩ ?_
                refine lv_if_ne (tgt := 155) hx hb dX5_common_129 (by decide) (fun c117 => ?_) (fun c117 => ?_)
                · refine lv_iconst (v := 0) hx hb dX5_common_155 (by decide) ?_
                  refine lv_iadd hx hb dX5_common_156 ?_
                  refine lv_istore (lv' := [(5, .int (z114 + (0 : Int32))), (9, .int (fX5_isOn xs ys ic id ib)), (8, .int (fX5_isOn xs ys ic id ia)), (7, .int (fX5_isOn xs ys ia ib id)), (6, .int (fX5_isOn xs ys ia ib ic)), (0, .ref m1), (1, .int ia), (2, .int ib), (3, .int ic), (4, .int id)]) hx hb dX5_common_157 hl (by decide) rfl (fun ls hl => ?_)
                  refine lv_iload hx hb dX5_common_159 (lv_at hl 0 rfl) ?_
                  refine lv_iconst (v := 1) hx hb dX5_common_161 (by decide) ?_
                  refine lv_icmp_le (tgt := 169) hx hb dX5_common_162 (by decide) (fun c118 => ?_) (fun c118 => ?_)
                  · refine lv_iload hx hb dX5_common_169 (lv_at hl 0 rfl) ?_
                    subst ez114 ez2
                    exact W.iret (v := ((((0 : Int32) + (0 : Int32)) + (1 : Int32)) + (0 : Int32)) + (0 : Int32)) hx hb hr (fun t ht hW => ⟨by rw [show fX5_common xs ys ia ib ic id = ((((0 : Int32) + (0 : Int32)) + (1 : Int32)) + (0 : Int32)) + (0 : Int32) by unfold fX5_common; rw [if_pos c1, if_neg c3, if_pos c47, if_neg c91, if_pos c102, if_neg c113, if_neg c115, if_neg c117, if_pos c118]], ht⟩) (fun _ h => absurd h List.not_mem_nil) dX5_common_171
                  · refine lv_iconst (v := 2) hx hb dX5_common_165 (by decide) ?_
                    refine lv_goto (tgt := 171) hx hb dX5_common_166 (by decide) ?_
                    subst ez114 ez2
                    exact W.iret (v := (2 : Int32)) hx hb hr (fun t ht hW => ⟨by rw [show fX5_common xs ys ia ib ic id = (2 : Int32) by unfold fX5_common; rw [if_pos c1, if_neg c3, if_pos c47, if_neg c91, if_pos c102, if_neg c113, if_neg c115, if_neg c117, if_neg c118]], ht⟩) (fun _ h => absurd h List.not_mem_nil) dX5_common_171
                · refine lv_aload_n hx hb dX5_common_132 rfl (lv_at hl 5 rfl) ?_
                  refine lv_iload_n hx hb dX5_common_133 rfl (lv_at hl 7 rfl) ?_
                  refine lv_iload hx hb dX5_common_134 (lv_at hl 9 rfl) ?_
                  refine xr_V (q := (RX5, TX5, 14)) (ci := 9) (q0 := 0) (rest := [.int z114]) (As := [.int ib, .int id]) ⟨hx, hb, hml, hown, hts⟩ (ct5_areEqual l D m1 m2 m3 m4 m5 m6 m7 kI kJ xs ys held la lb lc th pm rm on cl un ze lm ib id oib oid) (cwV 2 hts gl_X5_107 rfl rfl rfl (by decide +kernel) ⟨Nat.le_of_ble_eq_true rfl, Nat.le_of_ble_eq_true rfl⟩) nN_mv hN hK hP [0, 1, 2, 3, 4, 5, 6] [0, 1] rfl rfl rfl rfl rfl hl.1 rfl (Nat.le_of_ble_eq_true rfl) dX5_common_136 ⟨Nat.le_of_ble_eq_true rfl, Nat.le_of_ble_eq_true rfl⟩ ?_
                  refine lv_if_ne (tgt := 155) hx hb dX5_common_139 (by decide) (fun c119 => ?_) (fun c119 => ?_)
                  · refine lv_iconst (v := 0) hx hb dX5_common_155 (by decide) ?_
                    refine lv_iadd hx hb dX5_common_156 ?_
                    refine lv_istore (lv' := [(5, .int (z114 + (0 : Int32))), (9, .int (fX5_isOn xs ys ic id ib)), (8, .int (fX5_isOn xs ys ic id ia)), (7, .int (fX5_isOn xs ys ia ib id)), (6, .int (fX5_isOn xs ys ia ib ic)), (0, .ref m1), (1, .int ia), (2, .int ib), (3, .int ic), (4, .int id)]) hx hb dX5_common_157 hl (by decide) rfl (fun ls hl => ?_)
                    refine lv_iload hx hb dX5_common_159 (lv_at hl 0 rfl) ?_
                    refine lv_iconst (v := 1) hx hb dX5_common_161 (by decide) ?_
                    refine lv_icmp_le (tgt := 169) hx hb dX5_common_162 (by decide) (fun c120 => ?_) (fun c120 => ?_)
                    · refine lv_iload hx hb dX5_common_169 (lv_at hl 0 rfl) ?_
                      subst ez114 ez2
                      exact W.iret (v := ((((0 : Int32) + (0 : Int32)) + (1 : Int32)) + (0 : Int32)) + (0 : Int32)) hx hb hr (fun t ht hW => ⟨by rw [show fX5_common xs ys ia ib ic id = ((((0 : Int32) + (0 : Int32)) + (1 : Int32)) + (0 : Int32)) + (0 : Int32) by unfold fX5_common; rw [if_pos c1, if_neg c3, if_pos c47, if_neg c91, if_pos c102, if_neg c113, if_neg c115, if_pos c117, if_neg c119, if_pos c120]], ht⟩) (fun _ h => absurd h List.not_mem_nil) dX5_common_171
                    · refine lv_iconst (v := 2) hx hb dX5_common_165 (by decide) ?_
                      refine lv_goto (tgt := 171) hx hb dX5_common_166 (by decide) ?_
                      subst ez114 ez2
                      exact W.iret (v := (2 : Int32)) hx hb hr (fun t ht hW => ⟨by rw [show fX5_common xs ys ia ib ic id = (2 : Int32) by unfold fX5_common; rw [if_pos c1, if_neg c3, if_pos c47, if_neg c91, if_pos c102, if_neg c113, if_neg c115, if_pos c117, if_neg c119, if_neg c120]], ht⟩) (fun _ h => absurd h List.not_mem_nil) dX5_common_171
                  · refine lv_aload_n hx hb dX5_common_142 rfl (lv_at hl 5 rfl) ?_
                    refine lv_iload_n hx hb dX5_common_143 rfl (lv_at hl 6 rfl) ?_
                    refine lv_iload_n hx hb dX5_common_144 rfl (lv_at hl 7 rfl) ?_
                    refine xr_V (q := (RX5, TX5, 14)) (ci := 9) (q0 := 0) (rest := [.int z114]) (As := [.int ia, .int ib]) ⟨hx, hb, hml, hown, hts⟩ (ct5_areEqual l D m1 m2 m3 m4 m5 m6 m7 kI kJ xs ys held la lb lc th pm rm on cl un ze lm ia ib oia oib) (cwV 2 hts gl_X5_107 rfl rfl rfl (by decide +kernel) ⟨Nat.le_of_ble_eq_true rfl, Nat.le_of_ble_eq_true rfl⟩) nN_mv hN hK hP [0, 1, 2, 3, 4, 5, 6] [0, 1] rfl rfl rfl rfl rfl hl.1 rfl (Nat.le_of_ble_eq_true rfl) dX5_common_145 ⟨Nat.le_of_ble_eq_true rfl, Nat.le_of_ble_eq_true rfl⟩ ?_
                    refine lv_if_ne (tgt := 155) hx hb dX5_common_148 (by decide) (fun c121 => ?_) (fun c121 => ?_)
                    · refine lv_iconst (v := 0) hx hb dX5_common_155 (by decide) ?_
                      refine lv_iadd hx hb dX5_common_156 ?_
                      refine lv_istore (lv' := [(5, .int (z114 + (0 : Int32))), (9, .int (fX5_isOn xs ys ic id ib)), (8, .int (fX5_isOn xs ys ic id ia)), (7, .int (fX5_isOn xs ys ia ib id)), (6, .int (fX5_isOn xs ys ia ib ic)), (0, .ref m1), (1, .int ia), (2, .int ib), (3, .int ic), (4, .int id)]) hx hb dX5_common_157 hl (by decide) rfl (fun ls hl => ?_)
                      refine lv_iload hx hb dX5_common_159 (lv_at hl 0 rfl) ?_
                      refine lv_iconst (v := 1) hx hb dX5_common_161 (by decide) ?_
                      refine lv_icmp_le (tgt := 169) hx hb dX5_common_162 (by decide) (fun c122 => ?_) (fun c122 => ?_)
                      · refine lv_iload hx hb dX5_common_169 (lv_at hl 0 rfl) ?_
                        subst ez114 ez2
                        exact W.iret (v := ((((0 : Int32) + (0 : Int32)) + (1 : Int32)) + (0 : Int32)) + (0 : Int32)) hx hb hr (fun t ht hW => ⟨by rw [show fX5_common xs ys ia ib ic id = ((((0 : Int32) + (0 : Int32)) + (1 : Int32)) + (0 : Int32)) + (0 : Int32) by unfold fX5_common; rw [if_pos c1, if_neg c3, if_pos c47, if_neg c91, if_pos c102, if_neg c113, if_neg c115, if_pos c117, if_pos c119, if_neg c121, if_pos c122]], ht⟩) (fun _ h => absurd h List.not_mem_nil) dX5_common_171
                      · refine lv_iconst (v := 2) hx hb dX5_common_165 (by decide) ?_
                        refine lv_goto (tgt := 171) hx hb dX5_common_166 (by decide) ?_
                        subst ez114 ez2
                        exact W.iret (v := (2 : Int32)) hx hb hr (fun t ht hW => ⟨by rw [show fX5_common xs ys ia ib ic id = (2 : Int32) by unfold fX5_common; rw [if_pos c1, if_neg c3, if_pos c47, if_neg c91, if_pos c102, if_neg c113, if_neg c115, if_pos c117, if_pos c119, if_neg c121, if_neg c122]], ht⟩) (fun _ h => absurd h List.not_mem_nil) dX5_common_171
                    · refine lv_iconst (v := 1) hx hb dX5_common_151 (by decide) ?_
                      refine lv_goto (tgt := 156) hx hb dX5_common_152 (by decide) ?_
                      refine lv_iadd hx hb dX5_common_156 ?_
                      refine lv_istore (lv' := [(5, .int (z114 + (1 : Int32))), (9, .int (fX5_isOn xs ys ic id ib)), (8, .int (fX5_isOn xs ys ic id ia)), (7, .int (fX5_isOn xs ys ia ib id)), (6, .int (fX5_isOn xs ys ia ib ic)), (0, .ref m1), (1, .int ia), (2, .int ib), (3, .int ic), (4, .int id)]) hx hb dX5_common_157 hl (by decide) rfl (fun ls hl => ?_)
                      refine lv_iload hx hb dX5_common_159 (lv_at hl 0 rfl) ?_
                      refine lv_iconst (v := 1) hx hb dX5_common_161 (by decide) ?_
                      refine lv_icmp_le (tgt := 169) hx hb dX5_common_162 (by decide) (fun c123 => ?_) (fun c123 => ?_)
                      · refine lv_iload hx hb dX5_common_169 (lv_at hl 0 rfl) ?_
                        subst ez114 ez2
                        exact W.iret (v := ((((0 : Int32) + (0 : Int32)) + (1 : Int32)) + (0 : Int32)) + (1 : Int32)) hx hb hr (fun t ht hW => ⟨by rw [show fX5_common xs ys ia ib ic id = ((((0 : Int32) + (0 : Int32)) + (1 : Int32)) + (0 : Int32)) + (1 : Int32) by unfold fX5_common; rw [if_pos c1, if_neg c3, if_pos c47, if_neg c91, if_pos c102, if_neg c113, if_neg c115, if_pos c117, if_pos c119, if_pos c121, if_pos c123]], ht⟩) (fun _ h => absurd h List.not_mem_nil) dX5_common_171
                      · refine lv_iconst (v := 2) hx hb dX5_common_165 (by decide) ?_
                        refine lv_goto (tgt := 171) hx hb dX5_common_166 (by decide) ?_
                        subst ez114 ez2
                        exact W.iret (v := (2 : Int32)) hx hb hr (fun t ht hW => ⟨by rw [show fX5_common xs ys ia ib ic id = (2 : Int32) by unfold fX5_common; rw [if_pos c1, if_neg c3, if_pos c47, if_neg c91, if_pos c102, if_neg c113, if_neg c115, if_pos c117, if_pos c119, if_pos c121, if_neg c123]], ht⟩) (fun _ h => absurd h List.not_mem_nil) dX5_common_171
            · refine lv_iconst (v := 1) hx hb dX5_common_108 (by decide) ?_
              refine lv_goto (tgt := 113) hx hb dX5_common_109 (by decide) ?_
              refine lv_iadd hx hb dX5_common_113 ?_
              refine lv_topi (fun z124 ez124 => ?_)
              refine lv_istore (lv' := [(5, .int z124), (9, .int (fX5_isOn xs ys ic id ib)), (8, .int (fX5_isOn xs ys ic id ia)), (7, .int (fX5_isOn xs ys ia ib id)), (6, .int (fX5_isOn xs ys ia ib ic)), (0, .ref m1), (1, .int ia), (2, .int ib), (3, .int ic), (4, .int id)]) hx hb dX5_common_114 hl (by decide) rfl (fun ls hl => ?_)
              refine lv_iload hx hb dX5_common_116 (lv_at hl 0 rfl) ?_
              refine lv_iload hx hb dX5_common_118 (lv_at hl 1 rfl) ?_
              refine lv_if_eq (tgt := 155) hx hb dX5_common_120 (by decide) (fun c125 => ?_) (fun c125 => ?_)
              · refine lv_iconst (v := 0) hx hb dX5_common_155 (by decide) ?_
                refine lv_iadd hx hb dX5_common_156 ?_
                refine lv_istore (lv' := [(5, .int (z124 + (0 : Int32))), (9, .int (fX5_isOn xs ys ic id ib)), (8, .int (fX5_isOn xs ys ic id ia)), (7, .int (fX5_isOn xs ys ia ib id)), (6, .int (fX5_isOn xs ys ia ib ic)), (0, .ref m1), (1, .int ia), (2, .int ib), (3, .int ic), (4, .int id)]) hx hb dX5_common_157 hl (by decide) rfl (fun ls hl => ?_)
                refine lv_iload hx hb dX5_common_159 (lv_at hl 0 rfl) ?_
                refine lv_iconst (v := 1) hx hb dX5_common_161 (by decide) ?_
                refine lv_icmp_le (tgt := 169) hx hb dX5_common_162 (by decide) (fun c126 => ?_) (fun c126 => ?_)
                · refine lv_iload hx hb dX5_common_169 (lv_at hl 0 rfl) ?_
                  subst ez124 ez2
                  exact W.iret (v := ((((0 : Int32) + (0 : Int32)) + (1 : Int32)) + (1 : Int32)) + (0 : Int32)) hx hb hr (fun t ht hW => ⟨by rw [show fX5_common xs ys ia ib ic id = ((((0 : Int32) + (0 : Int32)) + (1 : Int32)) + (1 : Int32)) + (0 : Int32) by unfold fX5_common; rw [if_pos c1, if_neg c3, if_pos c47, if_neg c91, if_pos c102, if_pos c113, if_pos c125, if_pos c126]], ht⟩) (fun _ h => absurd h List.not_mem_nil) dX5_common_171
                · refine lv_iconst (v := 2) hx hb dX5_common_165 (by decide) ?_
                  refine lv_goto (tgt := 171) hx hb dX5_common_166 (by decide) ?_
                  subst ez124 ez2
                  exact W.iret (v := (2 : Int32)) hx hb hr (fun t ht hW => ⟨by rw [show fX5_common xs ys ia ib ic id = (2 : Int32) by unfold fX5_common; rw [if_pos c1, if_neg c3, if_pos c47, if_neg c91, if_pos c102, if_pos c113, if_pos c125, if_neg c126]], ht⟩) (fun _ h => absurd h List.not_mem_nil) dX5_common_171
              · refine lv_aload_n hx hb dX5_common_123 rfl (lv_at hl 5 rfl) ?_
                refine lv_iload_n hx hb dX5_common_124 rfl (lv_at hl 7 rfl) ?_
                refine lv_iload_n hx hb dX5_common_125 rfl (lv_at hl 8 rfl) ?_
                refine xr_V (q := (RX5, TX5, 14)) (ci := 9) (q0 := 0) (rest := [.int z124]) (As := [.int ib, .int ic]) ⟨hx, hb, hml, hown, hts⟩ (ct5_areEqual l D m1 m2 m3 m4 m5 m6 m7 kI kJ xs ys held la lb lc th pm rm on cl un ze lm ib ic oib oic) (cwV 2 hts gl_X5_107 rfl rfl rfl (by decide +kernel) ⟨Nat.le_of_ble_eq_true rfl, Nat.le_of_ble_eq_true rfl⟩) nN_mv hN hK hP [0, 1, 2, 3, 4, 5, 6] [0, 1] rfl rfl rfl rfl rfl hl.1 rfl (Nat.le_of_ble_eq_true rfl) dX5_common_126 ⟨Nat.le_of_ble_eq_true rfl, Nat.le_of_ble_eq_true rfl⟩ ?_
                refine lv_if_ne (tgt := 155) hx hb dX5_common_129 (by decide) (fun c127 => ?_) (fun c127 => ?_)
                · refine lv_iconst (v := 0) hx hb dX5_common_155 (by decide) ?_
                  refine lv_iadd hx hb dX5_common_156 ?_
                  refine lv_istore (lv' := [(5, .int (z124 + (0 : Int32))), (9, .int (fX5_isOn xs ys ic id ib)), (8, .int (fX5_isOn xs ys ic id ia)), (7, .int (fX5_isOn xs ys ia ib id)), (6, .int (fX5_isOn xs ys ia ib ic)), (0, .ref m1), (1, .int ia), (2, .int ib), (3, .int ic), (4, .int id)]) hx hb dX5_common_157 hl (by decide) rfl (fun ls hl => ?_)
                  refine lv_iload hx hb dX5_common_159 (lv_at hl 0 rfl) ?_
                  refine lv_iconst (v := 1) hx hb dX5_common_161 (by decide) ?_
                  refine lv_icmp_le (tgt := 169) hx hb dX5_common_162 (by decide) (fun c128 => ?_) (fun c128 => ?_)
                  · refine lv_iload hx hb dX5_common_169 (lv_at hl 0 rfl) ?_
                    subst ez124 ez2
                    exact W.iret (v := ((((0 : Int32) + (0 : Int32)) + (1 : Int32)) + (1 : Int32)) + (0 : Int32)) hx hb hr (fun t ht hW => ⟨by rw [show fX5_common xs ys ia ib ic id = ((((0 : Int32) + (0 : Int32)) + (1 : Int32)) + (1 : Int32)) + (0 : Int32) by unfold fX5_common; rw [if_pos c1, if_neg c3, if_pos c47, if_neg c91, if_pos c102, if_pos c113, if_neg c125, if_neg c127, if_pos c128]], ht⟩) (fun _ h => absurd h List.not_mem_nil) dX5_common_171
                  · refine lv_iconst (v := 2) hx hb dX5_common_165 (by decide) ?_
                    refine lv_goto (tgt := 171) hx hb dX5_common_166 (by decide) ?_
                    subst ez124 ez2
                    exact W.iret (v := (2 : Int32)) hx hb hr (fun t ht hW => ⟨by rw [show fX5_common xs ys ia ib ic id = (2 : Int32) by unfold fX5_common; rw [if_pos c1, if_neg c3, if_pos c47, if_neg c91, if_pos c102, if_pos c113, if_neg c125, if_neg c127, if_neg c128]], ht⟩) (fun _ h => absurd h List.not_mem_nil) dX5_common_171
                · refine lv_aload_n hx hb dX5_common_132 rfl (lv_at hl 5 rfl) ?_
                  refine lv_iload_n hx hb dX5_common_133 rfl (lv_at hl 7 rfl) ?_
                  refine lv_iload hx hb dX5_common_134 (lv_at hl 9 rfl) ?_
                  refine xr_V (q := (RX5, TX5, 14)) (ci := 9) (q0 := 0) (rest := [.int z124]) (As := [.int ib, .int id]) ⟨hx, hb, hml, hown, hts⟩ (ct5_areEqual l D m1 m2 m3 m4 m5 m6 m7 kI kJ xs ys held la lb lc th pm rm on cl un ze lm ib id oib oid) (cwV 2 hts gl_X5_107 rfl rfl rfl (by decide +kernel) ⟨Nat.le_of_ble_eq_true rfl, Nat.le_of_ble_eq_true rfl⟩) nN_mv hN hK hP [0, 1, 2, 3, 4, 5, 6] [0, 1] rfl rfl rfl rfl rfl hl.1 rfl (Nat.le_of_ble_eq_true rfl) dX5_common_136 ⟨Nat.le_of_ble_eq_true rfl, Nat.le_of_ble_eq_true rfl⟩ ?_
                  refine lv_if_ne (tgt := 155) hx hb dX5_common_139 (by decide) (fun c129 => ?_) (fun c129 => ?_)
                  · refine lv_iconst (v := 0) hx hb dX5_common_155 (by decide) ?_
                    refine lv_iadd hx hb dX5_common_156 ?_
                    refine lv_istore (lv' := [(5, .int (z124 + (0 : Int32))), (9, .int (fX5_isOn xs ys ic id ib)), (8, .int (fX5_isOn xs ys ic id ia)), (7, .int (fX5_isOn xs ys ia ib id)), (6, .int (fX5_isOn xs ys ia ib ic)), (0, .ref m1), (1, .int ia), (2, .int ib), (3, .int ic), (4, .int id)]) hx hb dX5_common_157 hl (by decide) rfl (fun ls hl => ?_)
                    refine lv_iload hx hb dX5_common_159 (lv_at hl 0 rfl) ?_
                    refine lv_iconst (v := 1) hx hb dX5_common_161 (by decide) ?_
                    refine lv_icmp_le (tgt := 169) hx hb dX5_common_162 (by decide) (fun c130 => ?_) (fun c130 => ?_)
                    · refine lv_iload hx hb dX5_common_169 (lv_at hl 0 rfl) ?_
                      subst ez124 ez2
                      exact W.iret (v := ((((0 : Int32) + (0 : Int32)) + (1 : Int32)) + (1 : Int32)) + (0 : Int32)) hx hb hr (fun t ht hW => ⟨by rw [show fX5_common xs ys ia ib ic id = ((((0 : Int32) + (0 : Int32)) + (1 : Int32)) + (1 : Int32)) + (0 : Int32) by unfold fX5_common; rw [if_pos c1, if_neg c3, if_pos c47, if_neg c91, if_pos c102, if_pos c113, if_neg c125, if_pos c127, if_neg c129, if_pos c130]], ht⟩) (fun _ h => absurd h List.not_mem_nil) dX5_common_171
                    · refine lv_iconst (v := 2) hx hb dX5_common_165 (by decide) ?_
                      refine lv_goto (tgt := 171) hx hb dX5_common_166 (by decide) ?_
                      subst ez124 ez2
                      exact W.iret (v := (2 : Int32)) hx hb hr (fun t ht hW => ⟨by rw [show fX5_common xs ys ia ib ic id = (2 : Int32) by unfold fX5_common; rw [if_pos c1, if_neg c3, if_pos c47, if_neg c91, if_pos c102, if_pos c113, if_neg c125, if_pos c127, if_neg c129, if_neg c130]], ht⟩) (fun _ h => absurd h List.not_mem_nil) dX5_common_171
                  · refine lv_aload_n hx hb dX5_common_142 rfl (lv_at hl 5 rfl) ?_
                    refine lv_iload_n hx hb dX5_common_143 rfl (lv_at hl 6 rfl) ?_
                    refine lv_iload_n hx hb dX5_common_144 rfl (lv_at hl 7 rfl) ?_
                    refine xr_V (q := (RX5, TX5, 14)) (ci := 9) (q0 := 0) (rest := [.int z124]) (As := [.int ia, .int ib]) ⟨hx, hb, hml, hown, hts⟩ (ct5_areEqual l D m1 m2 m3 m4 m5 m6 m7 kI kJ xs ys held la lb lc th pm rm on cl un ze lm ia ib oia oib) (cwV 2 hts gl_X5_107 rfl rfl rfl (by decide +kernel) ⟨Nat.le_of_ble_eq_true rfl, Nat.le_of_ble_eq_true rfl⟩) nN_mv hN hK hP [0, 1, 2, 3, 4, 5, 6] [0, 1] rfl rfl rfl rfl rfl hl.1 rfl (Nat.le_of_ble_eq_true rfl) dX5_common_145 ⟨Nat.le_of_ble_eq_true rfl, Nat.le_of_ble_eq_true rfl⟩ ?_
                    refine lv_if_ne (tgt := 155) hx hb dX5_common_148 (by decide) (fun c131 => ?_) (fun c131 => ?_)
                    · refine lv_iconst (v := 0) hx hb dX5_common_155 (by decide) ?_
                      refine lv_iadd hx hb dX5_common_156 ?_
                      refine lv_istore (lv' := [(5, .int (z124 + (0 : Int32))), (9, .int (fX5_isOn xs ys ic id ib)), (8, .int (fX5_isOn xs ys ic id ia)), (7, .int (fX5_isOn xs ys ia ib id)), (6, .int (fX5_isOn xs ys ia ib ic)), (0, .ref m1), (1, .int ia), (2, .int ib), (3, .int ic), (4, .int id)]) hx hb dX5_common_157 hl (by decide) rfl (fun ls hl => ?_)
                      refine lv_iload hx hb dX5_common_159 (lv_at hl 0 rfl) ?_
                      refine lv_iconst (v := 1) hx hb dX5_common_161 (by decide) ?_
                      refine lv_icmp_le (tgt := 169) hx hb dX5_common_162 (by decide) (fun c132 => ?_) (fun c132 => ?_)
                      · refine lv_iload hx hb dX5_common_169 (lv_at hl 0 rfl) ?_
                        subst ez124 ez2
                        exact W.iret (v := ((((0 : Int32) + (0 : Int32)) + (1 : Int32)) + (1 : Int32)) + (0 : Int32)) hx hb hr (fun t ht hW => ⟨by rw [show fX5_common xs ys ia ib ic id = ((((0 : Int32) + (0 : Int32)) + (1 : Int32)) + (1 : Int32)) + (0 : Int32) by unfold fX5_common; rw [if_pos c1, if_neg c3, if_pos c47, if_neg c91, if_pos c102, if_pos c113, if_neg c125, if_pos c127, if_pos c129, if_neg c131, if_pos c132]], ht⟩) (fun _ h => absurd h List.not_mem_nil) dX5_common_171
                      · refine lv_iconst (v := 2) hx hb dX5_common_165 (by decide) ?_
                        refine lv_goto (tgt := 171) hx hb dX5_common_166 (by decide) ?_
                        subst ez124 ez2
                        exact W.iret (v := (2 : Int32)) hx hb hr (fun t ht hW => ⟨by rw [show fX5_common xs ys ia ib ic id = (2 : Int32) by unfold fX5_common; rw [if_pos c1, if_neg c3, if_pos c47, if_neg c91, if_pos c102, if_pos c113, if_neg c125, if_pos c127, if_pos c129, if_neg c131, if_neg c132]], ht⟩) (fun _ h => absurd h List.not_mem_nil) dX5_common_171
                    · refine lv_iconst (v := 1) hx hb dX5_common_151 (by decide) ?_
                      refine lv_goto (tgt := 156) hx hb dX5_common_152 (by decide) ?_
                      refine lv_iadd hx hb dX5_common_156 ?_
                      refine lv_istore (lv' := [(5, .int (z124 + (1 : Int32))), (9, .int (fX5_isOn xs ys ic id ib)), (8, .int (fX5_isOn xs ys ic id ia)), (7, .int (fX5_isOn xs ys ia ib id)), (6, .int (fX5_isOn xs ys ia ib ic)), (0, .ref m1), (1, .int ia), (2, .int ib), (3, .int ic), (4, .int id)]) hx hb dX5_common_157 hl (by decide) rfl (fun ls hl => ?_)
                      refine lv_iload hx hb dX5_common_159 (lv_at hl 0 rfl) ?_
                      refine lv_iconst (v := 1) hx hb dX5_common_161 (by decide) ?_
                      refine lv_icmp_le (tgt := 169) hx hb dX5_common_162 (by decide) (fun c133 => ?_) (fun c133 => ?_)
                      · refine lv_iload hx hb dX5_common_169 (lv_at hl 0 rfl) ?_
                        subst ez124 ez2
                        exact W.iret (v := ((((0 : Int32) + (0 : Int32)) + (1 : Int32)) + (1 : Int32)) + (1 : Int32)) hx hb hr (fun t ht hW => ⟨by rw [show fX5_common xs ys ia ib ic id = ((((0 : Int32) + (0 : Int32)) + (1 : Int32)) + (1 : Int32)) + (1 : Int32) by unfold fX5_common; rw [if_pos c1, if_neg c3, if_pos c47, if_neg c91, if_pos c102, if_pos c113, if_neg c125, if_pos c127, if_pos c129, if_pos c131, if_pos c133]], ht⟩) (fun _ h => absurd h List.not_mem_nil) dX5_common_171
                      · refine lv_iconst (v := 2) hx hb dX5_common_165 (by decide) ?_
                        refine lv_goto (tgt := 171) hx hb dX5_common_166 (by decide) ?_
                        subst ez124 ez2
                        exact W.iret (v := (2 : Int32)) hx hb hr (fun t ht hW => ⟨by rw [show fX5_common xs ys ia ib ic id = (2 : Int32) by unfold fX5_common; rw [if_pos c1, if_neg c3, if_pos c47, if_neg c91, if_pos c102, if_pos c113, if_neg c125, if_pos c127, if_pos c129, if_pos c131, if_neg c133]], ht⟩) (fun _ h => absurd h List.not_mem_nil) dX5_common_171
  · refine lv_iconst (v := 1) hx hb dX5_common_49 (by decide) ?_
    refine lv_goto (tgt := 54) hx hb dX5_common_50 (by decide) ?_
    refine lv_iadd hx hb dX5_common_54 ?_
    refine lv_topi (fun z134 ez134 => ?_)
    refine lv_istore (lv' := [(5, .int z134), (9, .int (fX5_isOn xs ys ic id ib)), (8, .int (fX5_isOn xs ys ic id ia)), (7, .int (fX5_isOn xs ys ia ib id)), (6, .int (fX5_isOn xs ys ia ib ic)), (0, .ref m1), (1, .int ia), (2, .int ib), (3, .int ic), (4, .int id)]) hx hb dX5_common_55 hl (by decide) rfl (fun ls hl => ?_)
    refine lv_iload hx hb dX5_common_57 (lv_at hl 0 rfl) ?_
    refine lv_iload hx hb dX5_common_59 (lv_at hl 3 rfl) ?_
    refine lv_if_eq (tgt := 78) hx hb dX5_common_61 (by decide) (fun c135 => ?_) (fun c135 => ?_)
    · refine lv_iconst (v := 0) hx hb dX5_common_78 (by decide) ?_
      refine lv_iadd hx hb dX5_common_79 ?_
      refine lv_istore (lv' := [(5, .int (z134 + (0 : Int32))), (9, .int (fX5_isOn xs ys ic id ib)), (8, .int (fX5_isOn xs ys ic id ia)), (7, .int (fX5_isOn xs ys ia ib id)), (6, .int (fX5_isOn xs ys ia ib ic)), (0, .ref m1), (1, .int ia), (2, .int ib), (3, .int ic), (4, .int id)]) hx hb dX5_common_80 hl (by decide) rfl (fun ls hl => ?_)
      refine lv_iload hx hb dX5_common_82 (lv_at hl 0 rfl) ?_
      refine lv_iload hx hb dX5_common_84 (lv_at hl 2 rfl) ?_
      refine lv_if_eq (tgt := 112) hx hb dX5_common_86 (by decide) (fun c136 => ?_) (fun c136 => ?_)
      · refine lv_iconst (v := 0) hx hb dX5_common_112 (by decide) ?_
        refine lv_iadd hx hb dX5_common_113 ?_
        refine lv_topi (fun z137 ez137 => ?_)
        refine lv_istore (lv' := [(5, .int z137), (9, .int (fX5_isOn xs ys ic id ib)), (8, .int (fX5_isOn xs ys ic id ia)), (7, .int (fX5_isOn xs ys ia ib id)), (6, .int (fX5_isOn xs ys ia ib ic)), (0, .ref m1), (1, .int ia), (2, .int ib), (3, .int ic), (4, .int id)]) hx hb dX5_common_114 hl (by decide) rfl (fun ls hl => ?_)
        refine lv_iload hx hb dX5_common_116 (lv_at hl 0 rfl) ?_
        refine lv_iload hx hb dX5_common_118 (lv_at hl 1 rfl) ?_
        refine lv_if_eq (tgt := 155) hx hb dX5_common_120 (by decide) (fun c138 => ?_) (fun c138 => ?_)
        · refine lv_iconst (v := 0) hx hb dX5_common_155 (by decide) ?_
          refine lv_iadd hx hb dX5_common_156 ?_
          refine lv_istore (lv' := [(5, .int (z137 + (0 : Int32))), (9, .int (fX5_isOn xs ys ic id ib)), (8, .int (fX5_isOn xs ys ic id ia)), (7, .int (fX5_isOn xs ys ia ib id)), (6, .int (fX5_isOn xs ys ia ib ic)), (0, .ref m1), (1, .int ia), (2, .int ib), (3, .int ic), (4, .int id)]) hx hb dX5_common_157 hl (by decide) rfl (fun ls hl => ?_)
          refine lv_iload hx hb dX5_common_159 (lv_at hl 0 rfl) ?_
          refine lv_iconst (v := 1) hx hb dX5_common_161 (by decide) ?_
          refine lv_icmp_le (tgt := 169) hx hb dX5_common_162 (by decide) (fun c139 => ?_) (fun c139 => ?_)
          · refine lv_iload hx hb dX5_common_169 (lv_at hl 0 rfl) ?_
            subst ez137 ez134
            exact W.iret (v := ((((0 : Int32) + (1 : Int32)) + (0 : Int32)) + (0 : Int32)) + (0 : Int32)) hx hb hr (fun t ht hW => ⟨by rw [show fX5_common xs ys ia ib ic id = ((((0 : Int32) + (1 : Int32)) + (0 : Int32)) + (0 : Int32)) + (0 : Int32) by unfold fX5_common; rw [if_neg c1, if_pos c135, if_pos c136, if_pos c138, if_pos c139]], ht⟩) (fun _ h => absurd h List.not_mem_nil) dX5_common_171
          · refine lv_iconst (v := 2) hx hb dX5_common_165 (by decide) ?_
            refine lv_goto (tgt := 171) hx hb dX5_common_166 (by decide) ?_
            subst ez137 ez134
            exact W.iret (v := (2 : Int32)) hx hb hr (fun t ht hW => ⟨by rw [show fX5_common xs ys ia ib ic id = (2 : Int32) by unfold fX5_common; rw [if_neg c1, if_pos c135, if_pos c136, if_pos c138, if_neg c139]], ht⟩) (fun _ h => absurd h List.not_mem_nil) dX5_common_171
        · refine lv_aload_n hx hb dX5_common_123 rfl (lv_at hl 5 rfl) ?_
          refine lv_iload_n hx hb dX5_common_124 rfl (lv_at hl 7 rfl) ?_
          refine lv_iload_n hx hb dX5_common_125 rfl (lv_at hl 8 rfl) ?_
          refine xr_V (q := (RX5, TX5, 14)) (ci := 9) (q0 := 0) (rest := [.int z137]) (As := [.int ib, .int ic]) ⟨hx, hb, hml, hown, hts⟩ (ct5_areEqual l D m1 m2 m3 m4 m5 m6 m7 kI kJ xs ys held la lb lc th pm rm on cl un ze lm ib ic oib oic) (cwV 2 hts gl_X5_107 rfl rfl rfl (by decide +kernel) ⟨Nat.le_of_ble_eq_true rfl, Nat.le_of_ble_eq_true rfl⟩) nN_mv hN hK hP [0, 1, 2, 3, 4, 5, 6] [0, 1] rfl rfl rfl rfl rfl hl.1 rfl (Nat.le_of_ble_eq_true rfl) dX5_common_126 ⟨Nat.le_of_ble_eq_true rfl, Nat.le_of_ble_eq_true rfl⟩ ?_
          refine lv_if_ne (tgt := 155) hx hb dX5_common_129 (by decide) (fun c140 => ?_) (fun c140 => ?_)
          · refine lv_iconst (v := 0) hx hb dX5_common_155 (by decide) ?_
            refine lv_iadd hx hb dX5_common_156 ?_
            refine lv_istore (lv' := [(5, .int (z137 + (0 : Int32))), (9, .int (fX5_isOn xs ys ic id ib)), (8, .int (fX5_isOn xs ys ic id ia)), (7, .int (fX5_isOn xs ys ia ib id)), (6, .int (fX5_isOn xs ys ia ib ic)), (0, .ref m1), (1, .int ia), (2, .int ib), (3, .int ic), (4, .int id)]) hx hb dX5_common_157 hl (by decide) rfl (fun ls hl => ?_)
            refine lv_iload hx hb dX5_common_159 (lv_at hl 0 rfl) ?_
            refine lv_iconst (v := 1) hx hb dX5_common_161 (by decide) ?_
            refine lv_icmp_le (tgt := 169) hx hb dX5_common_162 (by decide) (fun c141 => ?_) (fun c141 => ?_)
            · refine lv_iload hx hb dX5_common_169 (lv_at hl 0 rfl) ?_
              subst ez137 ez134
              exact W.iret (v := ((((0 : Int32) + (1 : Int32)) + (0 : Int32)) + (0 : Int32)) + (0 : Int32)) hx hb hr (fun t ht hW => ⟨by rw [show fX5_common xs ys ia ib ic id = ((((0 : Int32) + (1 : Int32)) + (0 : Int32)) + (0 : Int32)) + (0 : Int32) by unfold fX5_common; rw [if_neg c1, if_pos c135, if_pos c136, if_neg c138, if_neg c140, if_pos c141]], ht⟩) (fun _ h => absurd h List.not_mem_nil) dX5_common_171
            · refine lv_iconst (v := 2) hx hb dX5_common_165 (by decide) ?_
              refine lv_goto (tgt := 171) hx hb dX5_common_166 (by decide) ?_
              subst ez137 ez134
              exact W.iret (v := (2 : Int32)) hx hb hr (fun t ht hW => ⟨by rw [show fX5_common xs ys ia ib ic id = (2 : Int32) by unfold fX5_common; rw [if_neg c1, if_pos c135, if_pos c136, if_neg c138, if_neg c140, if_neg c141]], ht⟩) (fun _ h => absurd h List.not_mem_nil) dX5_common_171
          · refine lv_aload_n hx hb dX5_common_132 rfl (lv_at hl 5 rfl) ?_
            refine lv_iload_n hx hb dX5_common_133 rfl (lv_at hl 7 rfl) ?_
            refine lv_iload hx hb dX5_common_134 (lv_at hl 9 rfl) ?_
            refine xr_V (q := (RX5, TX5, 14)) (ci := 9) (q0 := 0) (rest := [.int z137]) (As := [.int ib, .int id]) ⟨hx, hb, hml, hown, hts⟩ (ct5_areEqual l D m1 m2 m3 m4 m5 m6 m7 kI kJ xs ys held la lb lc th pm rm on cl un ze lm ib id oib oid) (cwV 2 hts gl_X5_107 rfl rfl rfl (by decide +kernel) ⟨Nat.le_of_ble_eq_true rfl, Nat.le_of_ble_eq_true rfl⟩) nN_mv hN hK hP [0, 1, 2, 3, 4, 5, 6] [0, 1] rfl rfl rfl rfl rfl hl.1 rfl (Nat.le_of_ble_eq_true rfl) dX5_common_136 ⟨Nat.le_of_ble_eq_true rfl, Nat.le_of_ble_eq_true rfl⟩ ?_
            refine lv_if_ne (tgt := 155) hx hb dX5_common_139 (by decide) (fun c142 => ?_) (fun c142 => ?_)
            · refine lv_iconst (v := 0) hx hb dX5_common_155 (by decide) ?_
              refine lv_iadd hx hb dX5_common_156 ?_
              refine lv_istore (lv' := [(5, .int (z137 + (0 : Int32))), (9, .int (fX5_isOn xs ys ic id ib)), (8, .int (fX5_isOn xs ys ic id ia)), (7, .int (fX5_isOn xs ys ia ib id)), (6, .int (fX5_isOn xs ys ia ib ic)), (0, .ref m1), (1, .int ia), (2, .int ib), (3, .int ic), (4, .int id)]) hx hb dX5_common_157 hl (by decide) rfl (fun ls hl => ?_)
              refine lv_iload hx hb dX5_common_159 (lv_at hl 0 rfl) ?_
              refine lv_iconst (v := 1) hx hb dX5_common_161 (by decide) ?_
              refine lv_icmp_le (tgt := 169) hx hb dX5_common_162 (by decide) (fun c143 => ?_) (fun c143 => ?_)
              · refine lv_iload hx hb dX5_common_169 (lv_at hl 0 rfl) ?_
                subst ez137 ez134
                exact W.iret (v := ((((0 : Int32) + (1 : Int32)) + (0 : Int32)) + (0 : Int32)) + (0 : Int32)) hx hb hr (fun t ht hW => ⟨by rw [show fX5_common xs ys ia ib ic id = ((((0 : Int32) + (1 : Int32)) + (0 : Int32)) + (0 : Int32)) + (0 : Int32) by unfold fX5_common; rw [if_neg c1, if_pos c135, if_pos c136, if_neg c138, if_pos c140, if_neg c142, if_pos c143]], ht⟩) (fun _ h => absurd h List.not_mem_nil) dX5_common_171
              · refine lv_iconst (v := 2) hx hb dX5_common_165 (by decide) ?_
                refine lv_goto (tgt := 171) hx hb dX5_common_166 (by decide) ?_
                subst ez137 ez134
                exact W.iret (v := (2 : Int32)) hx hb hr (fun t ht hW => ⟨by rw [show fX5_common xs ys ia ib ic id = (2 : Int32) by unfold fX5_common; rw [if_neg c1, if_pos c135, if_pos c136, if_neg c138, if_pos c140, if_neg c142, if_neg c143]], ht⟩) (fun _ h => absurd h List.not_mem_nil) dX5_common_171
            · refine lv_aload_n hx hb dX5_common_142 rfl (lv_at hl 5 rfl) ?_
              refine lv_iload_n hx hb dX5_common_143 rfl (lv_at hl 6 rfl) ?_
              refine lv_iload_n hx hb dX5_common_144 rfl (lv_at hl 7 rfl) ?_
              refine xr_V (q := (RX5, TX5, 14)) (ci := 9) (q0 := 0) (rest := [.int z137]) (As := [.int ia, .int ib]) ⟨hx, hb, hml, hown, hts⟩ (ct5_areEqual l D m1 m2 m3 m4 m5 m6 m7 kI kJ xs ys held la lb lc th pm rm on cl un ze lm ia ib oia oib) (cwV 2 hts gl_X5_107 rfl rfl rfl (by decide +kernel) ⟨Nat.le_of_ble_eq_true rfl, Nat.le_of_ble_eq_true rfl⟩) nN_mv hN hK hP [0, 1, 2, 3, 4, 5, 6] [0, 1] rfl rfl rfl rfl rfl hl.1 rfl (Nat.le_of_ble_eq_true rfl) dX5_common_145 ⟨Nat.le_of_ble_eq_true rfl, Nat.le_of_ble_eq_true rfl⟩ ?_
              refine lv_if_ne (tgt := 155) hx hb dX5_common_148 (by decide) (fun c144 => ?_) (fun c144 => ?_)
              · refine lv_iconst (v := 0) hx hb dX5_common_155 (by decide) ?_
                refine lv_iadd hx hb dX5_common_156 ?_
                refine lv_istore (lv' := [(5, .int (z137 + (0 : Int32))), (9, .int (fX5_isOn xs ys ic id ib)), (8, .int (fX5_isOn xs ys ic id ia)), (7, .int (fX5_isOn xs ys ia ib id)), (6, .int (fX5_isOn xs ys ia ib ic)), (0, .ref m1), (1, .int ia), (2, .int ib), (3, .int ic), (4, .int id)]) hx hb dX5_common_157 hl (by decide) rfl (fun ls hl => ?_)
                refine lv_iload hx hb dX5_common_159 (lv_at hl 0 rfl) ?_
                refine lv_iconst (v := 1) hx hb dX5_common_161 (by decide) ?_
                refine lv_icmp_le (tgt := 169) hx hb dX5_common_162 (by decide) (fun c145 => ?_) (fun c145 => ?_)
                · refine lv_iload hx hb dX5_common_169 (lv_at hl 0 rfl) ?_
                  subst ez137 ez134
                  exact W.iret (v := ((((0 : Int32) + (1 : Int32)) + (0 : Int32)) + (0 : Int32)) + (0 : Int32)) hx hb hr (fun t ht hW => ⟨by rw [show fX5_common xs ys ia ib ic id = ((((0 : Int32) + (1 : Int32)) + (0 : Int32)) + (0 : Int32)) + (0 : Int32) by unfold fX5_common; rw [if_neg c1, if_pos c135, if_pos c136, if_neg c138, if_pos c140, if_pos c142, if_neg c144, if_pos c145]], ht⟩) (fun _ h => absurd h List.not_mem_nil) dX5_common_171
                · refine lv_iconst (v := 2) hx hb dX5_common_165 (by decide) ?_
                  refine lv_goto (tgt := 171) hx hb dX5_common_166 (by decide) ?_
                  subst ez137 ez134
                  exact W.iret (v := (2 : Int32)) hx hb hr (fun t ht hW => ⟨by rw [show fX5_common xs ys ia ib ic id = (2 : Int32) by unfold fX5_common; rw [if_neg c1, if_pos c135, if_pos c136, if_neg c138, if_pos c140, if_pos c142, if_neg c144, if_neg c145]], ht⟩) (fun _ h => absurd h List.not_mem_nil) dX5_common_171
              · refine lv_iconst (v := 1) hx hb dX5_common_151 (by decide) ?_
                refine lv_goto (tgt := 156) hx hb dX5_common_152 (by decide) ?_
                refine lv_iadd hx hb dX5_common_156 ?_
                refine lv_istore (lv' := [(5, .int (z137 + (1 : Int32))), (9, .int (fX5_isOn xs ys ic id ib)), (8, .int (fX5_isOn xs ys ic id ia)), (7, .int (fX5_isOn xs ys ia ib id)), (6, .int (fX5_isOn xs ys ia ib ic)), (0, .ref m1), (1, .int ia), (2, .int ib), (3, .int ic), (4, .int id)]) hx hb dX5_common_157 hl (by decide) rfl (fun ls hl => ?_)
                refine lv_iload hx hb dX5_common_159 (lv_at hl 0 rfl) ?_
                refine lv_iconst (v := 1) hx hb dX5_common_161 (by decide) ?_
                refine lv_icmp_le (tgt := 169) hx hb dX5_common_162 (by decide) (fun c146 => ?_) (fun c146 => ?_)
                · refine lv_iload hx hb dX5_common_169 (lv_at hl 0 rfl) ?_
                  subst ez137 ez134
                  exact W.iret (v := ((((0 : Int32) + (1 : Int32)) + (0 : Int32)) + (0 : Int32)) + (1 : Int32)) hx hb hr (fun t ht hW => ⟨by rw [show fX5_common xs ys ia ib ic id = ((((0 : Int32) + (1 : Int32)) + (0 : Int32)) + (0 : Int32)) + (1 : Int32) by unfold fX5_common; rw [if_neg c1, if_pos c135, if_pos c136, if_neg c138, if_pos c140, if_pos c142, if_pos c144, if_pos c146]], ht⟩) (fun _ h => absurd h List.not_mem_nil) dX5_common_171
                · refine lv_iconst (v := 2) hx hb dX5_common_165 (by decide) ?_
                  refine lv_goto (tgt := 171) hx hb dX5_common_166 (by decide) ?_
                  subst ez137 ez134
                  exact W.iret (v := (2 : Int32)) hx hb hr (fun t ht hW => ⟨by rw [show fX5_common xs ys ia ib ic id = (2 : Int32) by unfold fX5_common; rw [if_neg c1, if_pos c135, if_pos c136, if_neg c138, if_pos c140, if_pos c142, if_pos c144, if_neg c146]], ht⟩) (fun _ h => absurd h List.not_mem_nil) dX5_common_171
      · refine lv_aload_n hx hb dX5_common_89 rfl (lv_at hl 5 rfl) ?_
        refine lv_iload_n hx hb dX5_common_90 rfl (lv_at hl 6 rfl) ?_
        refine lv_iload_n hx hb dX5_common_91 rfl (lv_at hl 8 rfl) ?_
        refine xr_V (q := (RX5, TX5, 14)) (ci := 9) (q0 := 0) (rest := [.int (z134 + (0 : Int32))]) (As := [.int ia, .int ic]) ⟨hx, hb, hml, hown, hts⟩ (ct5_areEqual l D m1 m2 m3 m4 m5 m6 m7 kI kJ xs ys held la lb lc th pm rm on cl un ze lm ia ic oia oic) (cwV 2 hts gl_X5_107 rfl rfl rfl (by decide +kernel) ⟨Nat.le_of_ble_eq_true rfl, Nat.le_of_ble_eq_true rfl⟩) nN_mv hN hK hP [0, 1, 2, 3, 4, 5, 6] [0, 1] rfl rfl rfl rfl rfl hl.1 rfl (Nat.le_of_ble_eq_true rfl) dX5_common_92 ⟨Nat.le_of_ble_eq_true rfl, Nat.le_of_ble_eq_true rfl⟩ ?_
        refine lv_if_ne (tgt := 112) hx hb dX5_common_95 (by decide) (fun c147 => ?_) (fun c147 => ?_)
        · refine lv_iconst (v := 0) hx hb dX5_common_112 (by decide) ?_
          refine lv_iadd hx hb dX5_common_113 ?_
          refine lv_topi (fun z148 ez148 => ?_)
          refine lv_istore (lv' := [(5, .int z148), (9, .int (fX5_isOn xs ys ic id ib)), (8, .int (fX5_isOn xs ys ic id ia)), (7, .int (fX5_isOn xs ys ia ib id)), (6, .int (fX5_isOn xs ys ia ib ic)), (0, .ref m1), (1, .int ia), (2, .int ib), (3, .int ic), (4, .int id)]) hx hb dX5_common_114 hl (by decide) rfl (fun ls hl => ?_)
          refine lv_iload hx hb dX5_common_116 (lv_at hl 0 rfl) ?_
          refine lv_iload hx hb dX5_common_118 (lv_at hl 1 rfl) ?_
          refine lv_if_eq (tgt := 155) hx hb dX5_common_120 (by decide) (fun c149 => ?_) (fun c149 => ?_)
          · refine lv_iconst (v := 0) hx hb dX5_common_155 (by decide) ?_
            refine lv_iadd hx hb dX5_common_156 ?_
            refine lv_istore (lv' := [(5, .int (z148 + (0 : Int32))), (9, .int (fX5_isOn xs ys ic id ib)), (8, .int (fX5_isOn xs ys ic id ia)), (7, .int (fX5_isOn xs ys ia ib id)), (6, .int (fX5_isOn xs ys ia ib ic)), (0, .ref m1), (1, .int ia), (2, .int ib), (3, .int ic), (4, .int id)]) hx hb dX5_common_157 hl (by decide) rfl (fun ls hl => ?_)
            refine lv_iload hx hb dX5_common_159 (lv_at hl 0 rfl) ?_
            refine lv_iconst (v := 1) hx hb dX5_common_161 (by decide) ?_
            refine lv_icmp_le (tgt := 169) hx hb dX5_common_162 (by decide) (fun c150 => ?_) (fun c150 => ?_)
            · refine lv_iload hx hb dX5_common_169 (lv_at hl 0 rfl) ?_
              subst ez148 ez134
              exact W.iret (v := ((((0 : Int32) + (1 : Int32)) + (0 : Int32)) + (0 : Int32)) + (0 : Int32)) hx hb hr (fun t ht hW => ⟨by rw [show fX5_common xs ys ia ib ic id = ((((0 : Int32) + (1 : Int32)) + (0 : Int32)) + (0 : Int32)) + (0 : Int32) by unfold fX5_common; rw [if_neg c1, if_pos c135, if_neg c136, if_neg c147, if_pos c149, if_pos c150]], ht⟩) (fun _ h => absurd h List.not_mem_nil) dX5_common_171
            · refine lv_iconst (v := 2) hx hb dX5_common_165 (by decide) ?_
              refine lv_goto (tgt := 171) hx hb dX5_common_166 (by decide) ?_
              subst ez148 ez134
              exact W.iret (v := (2 : Int32)) hx hb hr (fun t ht hW => ⟨by rw [show fX5_common xs ys ia ib ic id = (2 : Int32) by unfold fX5_common; rw [if_neg c1, if_pos c135, if_neg c136, if_neg c147, if_pos c149, if_neg c150]], ht⟩) (fun _ h => absurd h List.not_mem_nil) dX5_common_171
          · refine lv_aload_n hx hb dX5_common_123 rfl (lv_at hl 5 rfl) ?_
            refine lv_iload_n hx hb dX5_common_124 rfl (lv_at hl 7 rfl) ?_
            refine lv_iload_n hx hb dX5_common_125 rfl (lv_at hl 8 rfl) ?_
            refine xr_V (q := (RX5, TX5, 14)) (ci := 9) (q0 := 0) (rest := [.int z148]) (As := [.int ib, .int ic]) ⟨hx, hb, hml, hown, hts⟩ (ct5_areEqual l D m1 m2 m3 m4 m5 m6 m7 kI kJ xs ys held la lb lc th pm rm on cl un ze lm ib ic oib oic) (cwV 2 hts gl_X5_107 rfl rfl rfl (by decide +kernel) ⟨Nat.le_of_ble_eq_true rfl, Nat.le_of_ble_eq_true rfl⟩) nN_mv hN hK hP [0, 1, 2, 3, 4, 5, 6] [0, 1] rfl rfl rfl rfl rfl hl.1 rfl (Nat.le_of_ble_eq_true rfl) dX5_common_126 ⟨Nat.le_of_ble_eq_true rfl, Nat.le_of_ble_eq_true rfl⟩ ?_
            refine lv_if_ne (tgt := 155) hx hb dX5_common_129 (by decide) (fun c151 => ?_) (fun c151 => ?_)
            · refine lv_iconst (v := 0) hx hb dX5_common_155 (by decide) ?_
              refine lv_iadd hx hb dX5_common_156 ?_
              refine lv_istore (lv' := [(5, .int (z148 + (0 : Int32))), (9, .int (fX5_isOn xs ys ic id ib)), (8, .int (fX5_isOn xs ys ic id ia)), (7, .int (fX5_isOn xs ys ia ib id)), (6, .int (fX5_isOn xs ys ia ib ic)), (0, .ref m1), (1, .int ia), (2, .int ib), (3, .int ic), (4, .int id)]) hx hb dX5_common_157 hl (by decide) rfl (fun ls hl => ?_)
              refine lv_iload hx hb dX5_common_159 (lv_at hl 0 rfl) ?_
              refine lv_iconst (v := 1) hx hb dX5_common_161 (by decide) ?_
              refine lv_icmp_le (tgt := 169) hx hb dX5_common_162 (by decide) (fun c152 => ?_) (fun c152 => ?_)
              · refine lv_iload hx hb dX5_common_169 (lv_at hl 0 rfl) ?_
                subst ez148 ez134
                exact W.iret (v := ((((0 : Int32) + (1 : Int32)) + (0 : Int32)) + (0 : Int32)) + (0 : Int32)) hx hb hr (fun t ht hW => ⟨by rw [show fX5_common xs ys ia ib ic id = ((((0 : Int32) + (1 : Int32)) + (0 : Int32)) + (0 : Int32)) + (0 : Int32) by unfold fX5_common; rw [if_neg c1, if_pos c135, if_neg c136, if_neg c147, if_neg c149, if_neg c151, if_pos c152]], ht⟩) (fun _ h => absurd h List.not_mem_nil) dX5_common_171
              · refine lv_iconst (v := 2) hx hb dX5_common_165 (by decide) ?_
                refine lv_goto (tgt := 171) hx hb dX5_common_166 (by decide) ?_
                subst ez148 ez134
                exact W.iret (v := (2 : Int32)) hx hb hr (fun t ht hW => ⟨by rw [show fX5_common xs ys ia ib ic id = (2 : Int32) by unfold fX5_common; rw [if_neg c1, if_pos c135, if_neg c136, if_neg c147, if_neg c149, if_neg c151, if_neg c152]], ht⟩) (fun _ h => absurd h List.not_mem_nil) dX5_common_171
            · refine lv_aload_n hx hb dX5_common_132 rfl (lv_at hl 5 rfl) ?_
              refine lv_iload_n hx hb dX5_common_133 rfl (lv_at hl 7 rfl) ?_
              refine lv_iload hx hb dX5_common_134 (lv_at hl 9 rfl) ?_
              refine xr_V (q := (RX5, TX5, 14)) (ci := 9) (q0 := 0) (rest := [.int z148]) (As := [.int ib, .int id]) ⟨hx, hb, hml, hown, hts⟩ (ct5_areEqual l D m1 m2 m3 m4 m5 m6 m7 kI kJ xs ys held la lb lc th pm rm on cl un ze lm ib id oib oid) (cwV 2 hts gl_X5_107 rfl rfl rfl (by decide +kernel) ⟨Nat.le_of_ble_eq_true rfl, Nat.le_of_ble_eq_true rfl⟩) nN_mv hN hK hP [0, 1, 2, 3, 4, 5, 6] [0, 1] rfl rfl rfl rfl rfl hl.1 rfl (Nat.le_of_ble_eq_true rfl) dX5_common_136 ⟨Nat.le_of_ble_eq_true rfl, Nat.le_of_ble_eq_true rfl⟩ ?_
              refine lv_if_ne (tgt := 155) hx hb dX5_common_139 (by decide) (fun c153 => ?_) (fun c153 => ?_)
              · refine lv_iconst (v := 0) hx hb dX5_common_155 (by decide) ?_
                refine lv_iadd hx hb dX5_common_156 ?_
                refine lv_istore (lv' := [(5, .int (z148 + (0 : Int32))), (9, .int (fX5_isOn xs ys ic id ib)), (8, .int (fX5_isOn xs ys ic id ia)), (7, .int (fX5_isOn xs ys ia ib id)), (6, .int (fX5_isOn xs ys ia ib ic)), (0, .ref m1), (1, .int ia), (2, .int ib), (3, .int ic), (4, .int id)]) hx hb dX5_common_157 hl (by decide) rfl (fun ls hl => ?_)
                refine lv_iload hx hb dX5_common_159 (lv_at hl 0 rfl) ?_
                refine lv_iconst (v := 1) hx hb dX5_common_161 (by decide) ?_
                refine lv_icmp_le (tgt := 169) hx hb dX5_common_162 (by decide) (fun c154 => ?_) (fun c154 => ?_)
                · refine lv_iload hx hb dX5_common_169 (lv_at hl 0 rfl) ?_
                  subst ez148 ez134
                  exact W.iret (v := ((((0 : Int32) + (1 : Int32)) + (0 : Int32)) + (0 : Int32)) + (0 : Int32)) hx hb hr (fun t ht hW => ⟨by rw [show fX5_common xs ys ia ib ic id = ((((0 : Int32) + (1 : Int32)) + (0 : Int32)) + (0 : Int32)) + (0 : Int32) by unfold fX5_common; rw [if_neg c1, if_pos c135, if_neg c136, if_neg c147, if_neg c149, if_pos c151, if_neg c153, if_pos c154]], ht⟩) (fun _ h => absurd h List.not_mem_nil) dX5_common_171
                · refine lv_iconst (v := 2) hx hb dX5_common_165 (by decide) ?_
                  refine lv_goto (tgt := 171) hx hb dX5_common_166 (by decide) ?_
                  subst ez148 ez134
                  exact W.iret (v := (2 : Int32)) hx hb hr (fun t ht hW => ⟨by rw [show fX5_common xs ys ia ib ic id = (2 : Int32) by unfold fX5_common; rw [if_neg c1, if_pos c135, if_neg c136, if_neg c147, if_neg c149, if_pos c151, if_neg c153, if_neg c154]], ht⟩) (fun _ h => absurd h List.not_mem_nil) dX5_common_171
              · refine lv_aload_n hx hb dX5_common_142 rfl (lv_at hl 5 rfl) ?_
                refine lv_iload_n hx hb dX5_common_143 rfl (lv_at hl 6 rfl) ?_
                refine lv_iload_n hx hb dX5_common_144 rfl (lv_at hl 7 rfl) ?_
                refine xr_V (q := (RX5, TX5, 14)) (ci := 9) (q0 := 0) (rest := [.int z148]) (As := [.int ia, .int ib]) ⟨hx, hb, hml, hown, hts⟩ (ct5_areEqual l D m1 m2 m3 m4 m5 m6 m7 kI kJ xs ys held la lb lc th pm rm on cl un ze lm ia ib oia oib) (cwV 2 hts gl_X5_107 rfl rfl rfl (by decide +kernel) ⟨Nat.le_of_ble_eq_true rfl, Nat.le_of_ble_eq_true rfl⟩) nN_mv hN hK hP [0, 1, 2, 3, 4, 5, 6] [0, 1] rfl rfl rfl rfl rfl hl.1 rfl (Nat.le_of_ble_eq_true rfl) dX5_common_145 ⟨Nat.le_of_ble_eq_true rfl, Nat.le_of_ble_eq_true rfl⟩ ?_
                refine lv_if_ne (tgt := 155) hx hb dX5_common_148 (by decide) (fun c155 => ?_) (fun c155 => ?_)
                · refine lv_iconst (v := 0) hx hb dX5_common_155 (by decide) ?_
                  refine lv_iadd hx hb dX5_common_156 ?_
                  refine lv_istore (lv' := [(5, .int (z148 + (0 : Int32))), (9, .int (fX5_isOn xs ys ic id ib)), (8, .int (fX5_isOn xs ys ic id ia)), (7, .int (fX5_isOn xs ys ia ib id)), (6, .int (fX5_isOn xs ys ia ib ic)), (0, .ref m1), (1, .int ia), (2, .int ib), (3, .int ic), (4, .int id)]) hx hb dX5_common_157 hl (by decide) rfl (fun ls hl => ?_)
                  refine lv_iload hx hb dX5_common_159 (lv_at hl 0 rfl) ?_
                  refine lv_iconst (v := 1) hx hb dX5_common_161 (by decide) ?_
                  refine lv_icmp_le (tgt := 169) hx hb dX5_common_162 (by decide) (fun c156 => ?_) (fun c156 => ?_)
                  · refine lv_iload hx hb dX5_common_169 (lv_at hl 0 rfl) ?_
                    subst ez148 ez134
                    exact W.iret (v := ((((0 : Int32) + (1 : Int32)) + (0 : Int32)) + (0 : Int32)) + (0 : Int32)) hx hb hr (fun t ht hW => ⟨by rw [show fX5_common xs ys ia ib ic id = ((((0 : Int32) + (1 : Int32)) + (0 : Int32)) + (0 : Int32)) + (0 : Int32) by unfold fX5_common; rw [if_neg c1, if_pos c135, if_neg c136, if_neg c147, if_neg c149, if_pos c151, if_pos c153, if_neg c155, if_pos c156]], ht⟩) (fun _ h => absurd h List.not_mem_nil) dX5_common_171
                  · refine lv_iconst (v := 2) hx hb dX5_common_165 (by decide) ?_
                    refine lv_goto (tgt := 171) hx hb dX5_common_166 (by decide) ?_
                    subst ez148 ez134
                    exact W.iret (v := (2 : Int32)) hx hb hr (fun t ht hW => ⟨by rw [show fX5_common xs ys ia ib ic id = (2 : Int32) by unfold fX5_common; rw [if_neg c1, if_pos c135, if_neg c136, if_neg c147, if_neg c149, if_pos c151, if_pos c153, if_neg c155, if_neg c156]], ht⟩) (fun _ h => absurd h List.not_mem_nil) dX5_common_171
                · refine lv_iconst (v := 1) hx hb dX5_common_151 (by decide) ?_
                  refine lv_goto (tgt := 156) hx hb dX5_common_152 (by decide) ?_
                  refine lv_iadd hx hb dX5_common_156 ?_
                  refine lv_istore (lv' := [(5, .int (z148 + (1 : Int32))), (9, .int (fX5_isOn xs ys ic id ib)), (8, .int (fX5_isOn xs ys ic id ia)), (7, .int (fX5_isOn xs ys ia ib id)), (6, .int (fX5_isOn xs ys ia ib ic)), (0, .ref m1), (1, .int ia), (2, .int ib), (3, .int ic), (4, .int id)]) hx hb dX5_common_157 hl (by decide) rfl (fun ls hl => ?_)
                  refine lv_iload hx hb dX5_common_159 (lv_at hl 0 rfl) ?_
                  refine lv_iconst (v := 1) hx hb dX5_common_161 (by decide) ?_
                  refine lv_icmp_le (tgt := 169) hx hb dX5_common_162 (by decide) (fun c157 => ?_) (fun c157 => ?_)
                  · refine lv_iload hx hb dX5_common_169 (lv_at hl 0 rfl) ?_
                    subst ez148 ez134
                    exact W.iret (v := ((((0 : Int32) + (1 : Int32)) + (0 : Int32)) + (0 : Int32)) + (1 : Int32)) hx hb hr (fun t ht hW => ⟨by rw [show fX5_common xs ys ia ib ic id = ((((0 : Int32) + (1 : Int32)) + (0 : Int32)) + (0 : Int32)) + (1 : Int32) by unfold fX5_common; rw [if_neg c1, if_pos c135, if_neg c136, if_neg c147, if_neg c149, if_pos c151, if_pos c153, if_pos c155, if_pos c157]], ht⟩) (fun _ h => absurd h List.not_mem_nil) dX5_common_171
                  · refine lv_iconst (v := 2) hx hb dX5_common_165 (by decide) ?_
                    refine lv_goto (tgt := 171) hx hb dX5_common_166 (by decide) ?_
                    subst ez148 ez134
                    exact W.iret (v := (2 : Int32)) hx hb hr (fun t ht hW => ⟨by rw [show fX5_common xs ys ia ib ic id = (2 : Int32) by unfold fX5_common; rw [if_neg c1, if_pos c135, if_neg c136, if_neg c147, if_neg c149, if_pos c151, if_pos c153, if_pos c155, if_neg c157]], ht⟩) (fun _ h => absurd h List.not_mem_nil) dX5_common_171
        · refine lv_aload_n hx hb dX5_common_98 rfl (lv_at hl 5 rfl) ?_
          refine lv_iload_n hx hb dX5_common_99 rfl (lv_at hl 6 rfl) ?_
          refine lv_iload hx hb dX5_common_100 (lv_at hl 9 rfl) ?_
          refine xr_V (q := (RX5, TX5, 14)) (ci := 9) (q0 := 0) (rest := [.int (z134 + (0 : Int32))]) (As := [.int ia, .int id]) ⟨hx, hb, hml, hown, hts⟩ (ct5_areEqual l D m1 m2 m3 m4 m5 m6 m7 kI kJ xs ys held la lb lc th pm rm on cl un ze lm ia id oia oid) (cwV 2 hts gl_X5_107 rfl rfl rfl (by decide +kernel) ⟨Nat.le_of_ble_eq_true rfl, Nat.le_of_ble_eq_true rfl⟩) nN_mv hN hK hP [0, 1, 2, 3, 4, 5, 6] [0, 1] rfl rfl rfl rfl rfl hl.1 rfl (Nat.le_of_ble_eq_true rfl) dX5_common_102 ⟨Nat.le_of_ble_eq_true rfl, Nat.le_of_ble_eq_true rfl⟩ ?_
          refine lv_if_ne (tgt := 112) hx hb dX5_common_105 (by decide) (fun c158 => ?_) (fun c158 => ?_)
          · refine lv_iconst (v := 0) hx hb dX5_common_112 (by decide) ?_
            refine lv_iadd hx hb dX5_common_113 ?_
            refine lv_topi (fun z159 ez159 => ?_)
            refine lv_istore (lv' := [(5, .int z159), (9, .int (fX5_isOn xs ys ic id ib)), (8, .int (fX5_isOn xs ys ic id ia)), (7, .int (fX5_isOn xs ys ia ib id)), (6, .int (fX5_isOn xs ys ia ib ic)), (0, .ref m1), (1, .int ia), (2, .int ib), (3, .int ic), (4, .int id)]) hx hb dX5_common_114 hl (by decide) rfl (fun ls hl => ?_)
            refine lv_iload hx hb dX5_common_116 (lv_at hl 0 rfl) ?_
            refine lv_iload hx hb dX5_common_118 (lv_at hl 1 rfl) ?_
            refine lv_if_eq (tgt := 155) hx hb dX5_common_120 (by decide) (fun c160 => ?_) (fun c160 => ?_)
            · refine lv_iconst (v := 0) hx hb dX5_common_155 (by decide) ?_
              refine lv_iadd hx hb dX5_common_156 ?_
              refine lv_istore (lv' := [(5, .int (z159 + (0 : Int32))), (9, .int (fX5_isOn xs ys ic id ib)), (8, .int (fX5_isOn xs ys ic id ia)), (7, .int (fX5_isOn xs ys ia ib id)), (6, .int (fX5_isOn xs ys ia ib ic)), (0, .ref m1), (1, .int ia), (2, .int ib), (3, .int ic), (4, .int id)]) hx hb dX5_common_157 hl (by decide) rfl (fun ls hl => ?_)
              refine lv_iload hx hb dX5_common_159 (lv_at hl 0 rfl) ?_
              refine lv_iconst (v := 1) hx hb dX5_common_161 (by decide) ?_
              refine lv_icmp_le (tgt := 169) hx hb dX5_common_162 (by decide) (fun c161 => ?_) (fun c161 => ?_)
              · refine lv_iload hx hb dX5_common_169 (lv_at hl 0 rfl) ?_
                subst ez159 ez134
                exact W.iret (v := ((((0 : Int32) + (1 : Int32)) + (0 : Int32)) + (0 : Int32)) + (0 : Int32)) hx hb hr (fun t ht hW => ⟨by rw [show fX5_common xs ys ia ib ic id = ((((0 : Int32) + (1 : Int32)) + (0 : Int32)) + (0 : Int32)) + (0 : Int32) by unfold fX5_common; rw [if_neg c1, if_pos c135, if_neg c136, if_pos c147, if_neg c158, if_pos c160, if_pos c161]], ht⟩) (fun _ h => absurd h List.not_mem_nil) dX5_common_171
              · refine lv_iconst (v := 2) hx hb dX5_common_165 (by decide) ?_
                refine lv_goto (tgt := 171) hx hb dX5_common_166 (by decide) ?_
                subst ez159 ez134
                exact W.iret (v := (2 : Int32)) hx hb hr (fun t ht hW => ⟨by rw [show fX5_common xs ys ia ib ic id = (2 : Int32) by unfold fX5_common; rw [if_neg c1, if_pos c135, if_neg c136, if_pos c147, if_neg c158, if_pos c160, if_neg c161]], ht⟩) (fun _ h => absurd h List.not_mem_nil) dX5_common_171
            · refine lv_aload_n hx hb dX5_common_123 rfl (lv_at hl 5 rfl) ?_
              refine lv_iload_n hx hb dX5_common_124 rfl (lv_at hl 7 rfl) ?_
              refine lv_iload_n hx hb dX5_common_125 rfl (lv_at hl 8 rfl) ?_
              refine xr_V (q := (RX5, TX5, 14)) (ci := 9) (q0 := 0) (rest := [.int z159]) (As := [.int ib, .int ic]) ⟨hx, hb, hml, hown, hts⟩ (ct5_areEqual l D m1 m2 m3 m4 m5 m6 m7 kI kJ xs ys held la lb lc th pm rm on cl un ze lm ib ic oib oic) (cwV 2 hts gl_X5_107 rfl rfl rfl (by decide +kernel) ⟨Nat.le_of_ble_eq_true rfl, Nat.le_of_ble_eq_true rfl⟩) nN_mv hN hK hP [0, 1, 2, 3, 4, 5, 6] [0, 1] rfl rfl rfl rfl rfl hl.1 rfl (Nat.le_of_ble_eq_true rfl) dX5_common_126 ⟨Nat.le_of_ble_eq_true rfl, Nat.le_of_ble_eq_true rfl⟩ ?_
              refine lv_if_ne (tgt := 155) hx hb dX5_common_129 (by decide) (fun c162 => ?_) (fun c162 => ?_)
              · refine lv_iconst (v := 0) hx hb dX5_common_155 (by decide) ?_
                refine lv_iadd hx hb dX5_common_156 ?_
                refine lv_istore (lv' := [(5, .int (z159 + (0 : Int32))), (9, .int (fX5_isOn xs ys ic id ib)), (8, .int (fX5_isOn xs ys ic id ia)), (7, .int (fX5_isOn xs ys ia ib id)), (6, .int (fX5_isOn xs ys ia ib ic)), (0, .ref m1), (1, .int ia), (2, .int ib), (3, .int ic), (4, .int id)]) hx hb dX5_common_157 hl (by decide) rfl (fun ls hl => ?_)
                refine lv_iload hx hb dX5_common_159 (lv_at hl 0 rfl) ?_
                refine lv_iconst (v := 1) hx hb dX5_common_161 (by decide) ?_
                refine lv_icmp_le (tgt := 169) hx hb dX5_common_162 (by decide) (fun c163 => ?_) (fun c163 => ?_)
                · refine lv_iload hx hb dX5_common_169 (lv_at hl 0 rfl) ?_
                  subst ez159 ez134
                  exact W.iret (v := ((((0 : Int32) + (1 : Int32)) + (0 : Int32)) + (0 : Int32)) + (0 : Int32)) hx hb hr (fun t ht hW => ⟨by rw [show fX5_common xs ys ia ib ic id = ((((0 : Int32) + (1 : Int32)) + (0 : Int32)) + (0 : Int32)) + (0 : Int32) by unfold fX5_common; rw [if_neg c1, if_pos c135, if_neg c136, if_pos c147, if_neg c158, if_neg c160, if_neg c162, if_pos c163]], ht⟩) (fun _ h => absurd h List.not_mem_nil) dX5_common_171
                · refine lv_iconst (v := 2) hx hb dX5_common_165 (by decide) ?_
                  refine lv_goto (tgt := 171) hx hb dX5_common_166 (by decide) ?_
                  subst ez159 ez134
                  exact W.iret (v := (2 : Int32)) hx hb hr (fun t ht hW => ⟨by rw [show fX5_common xs ys ia ib ic id = (2 : Int32) by unfold fX5_common; rw [if_neg c1, if_pos c135, if_neg c136, if_pos c147, if_neg c158, if_neg c160, if_neg c162, if_neg c163]], ht⟩) (fun _ h => absurd h List.not_mem_nil) dX5_common_171
              · refine lv_aload_n hx hb dX5_common_132 rfl (lv_at hl 5 rfl) ?_
                refine lv_iload_n hx hb dX5_common_133 rfl (lv_at hl 7 rfl) ?_
                refine lv_iload hx hb dX5_common_134 (lv_at hl 9 rfl) ?_
                refine xr_V (q := (RX5, TX5, 14)) (ci := 9) (q0 := 0) (rest := [.int z159]) (As := [.int ib, .int id]) ⟨hx, hb, hml, hown, hts⟩ (ct5_areEqual l D m1 m2 m3 m4 m5 m6 m7 kI kJ xs ys held la lb lc th pm rm on cl un ze lm ib id oib oid) (cwV 2 hts gl_X5_107 rfl rfl rfl (by decide +kernel) ⟨Nat.le_of_ble_eq_true rfl, Nat.le_of_ble_eq_true rfl⟩) nN_mv hN hK hP [0, 1, 2, 3, 4, 5, 6] [0, 1] rfl rfl rfl rfl rfl hl.1 rfl (Nat.le_of_ble_eq_true rfl) dX5_common_136 ⟨Nat.le_of_ble_eq_true rfl, Nat.le_of_ble_eq_true rfl⟩ ?_
                refine lv_if_ne (tgt := 155) hx hb dX5_common_139 (by decide) (fun c164 => ?_) (fun c164 => ?_)
                · refine lv_iconst (v := 0) hx hb dX5_common_155 (by decide) ?_
                  refine lv_iadd hx hb dX5_common_156 ?_
                  refine lv_istore (lv' := [(5, .int (z159 + (0 : Int32))), (9, .int (fX5_isOn xs ys ic id ib)), (8, .int (fX5_isOn xs ys ic id ia)), (7, .int (fX5_isOn xs ys ia ib id)), (6, .int (fX5_isOn xs ys ia ib ic)), (0, .ref m1), (1, .int ia), (2, .int ib), (3, .int ic), (4, .int id)]) hx hb dX5_common_157 hl (by decide) rfl (fun ls hl => ?_)
                  refine lv_iload hx hb dX5_common_159 (lv_at hl 0 rfl) ?_
                  refine lv_iconst (v := 1) hx hb dX5_common_161 (by decide) ?_
                  refine lv_icmp_le (tgt := 169) hx hb dX5_common_162 (by decide) (fun c165 => ?_) (fun c165 => ?_)
                  · refine lv_iload hx hb dX5_common_169 (lv_at hl 0 rfl) ?_
                    subst ez159 ez134
                    exact W.iret (v := ((((0 : Int32) + (1 : Int32)) + (0 : Int32)) + (0 : Int32)) + (0 : Int32)) hx hb hr (fun t ht hW => ⟨by rw [show fX5_common xs ys ia ib ic id = ((((0 : Int32) + (1 : Int32)) + (0 : Int32)) + (0 : Int32)) + (0 : Int32) by unfold fX5_common; rw [if_neg c1, if_pos c135, if_neg c136, if_pos c147, if_neg c158, if_neg c160, if_pos c162, if_neg c164, if_pos c165]], ht⟩) (fun _ h => absurd h List.not_mem_nil) dX5_common_171
                  · refine lv_iconst (v := 2) hx hb dX5_common_165 (by decide) ?_
                    refine lv_goto (tgt := 171) hx hb dX5_common_166 (by decide) ?_
                    subst ez159 ez134
                    exact W.iret (v := (2 : Int32)) hx hb hr (fun t ht hW => ⟨by rw [show fX5_common xs ys ia ib ic id = (2 : Int32) by unfold fX5_common; rw [if_neg c1, if_pos c135, if_neg c136, if_pos c147, if_neg c158, if_neg c160, if_pos c162, if_neg c164, if_neg c165]], ht⟩) (fun _ h => absurd h List.not_mem_nil) dX5_common_171
                · refine lv_aload_n hx hb dX5_common_142 rfl (lv_at hl 5 rfl) ?_
                  refine lv_iload_n hx hb dX5_common_143 rfl (lv_at hl 6 rfl) ?_
                  refine lv_iload_n hx hb dX5_common_144 rfl (lv_at hl 7 rfl) ?_
                  refine xr_V (q := (RX5, TX5, 14)) (ci := 9) (q0 := 0) (rest := [.int z159]) (As := [.int ia, .int ib]) ⟨hx, hb, hml, hown, hts⟩ (ct5_areEqual l D m1 m2 m3 m4 m5 m6 m7 kI kJ xs ys held la lb lc th pm rm on cl un ze lm ia ib oia oib) (cwV 2 hts gl_X5_107 rfl rfl rfl (by decide +kernel) ⟨Nat.le_of_ble_eq_true rfl, Nat.le_of_ble_eq_true rfl⟩) nN_mv hN hK hP [0, 1, 2, 3, 4, 5, 6] [0, 1] rfl rfl rfl rfl rfl hl.1 rfl (Nat.le_of_ble_eq_true rfl) dX5_common_145 ⟨Nat.le_of_ble_eq_true rfl, Nat.le_of_ble_eq_true rfl⟩ ?_
                  refine lv_if_ne (tgt := 155) hx hb dX5_common_148 (by decide) (fun c166 => ?_) (fun c166 => ?_)
                  · refine lv_iconst (v := 0) hx hb dX5_common_155 (by decide) ?_
                    refine lv_iadd hx hb dX5_common_156 ?_
                    refine lv_istore (lv' := [(5, .int (z159 + (0 : Int32))), (9, .int (fX5_isOn xs ys ic id ib)), (8, .int (fX5_isOn xs ys ic id ia)), (7, .int (fX5_isOn xs ys ia ib id)), (6, .int (fX5_isOn xs ys ia ib ic)), (0, .ref m1), (1, .int ia), (2, .int ib), (3, .int ic), (4, .int id)]) hx hb dX5_common_157 hl (by decide) rfl (fun ls hl => ?_)
                    refine lv_iload hx hb dX5_common_159 (lv_at hl 0 rfl) ?_
                    refine lv_iconst (v := 1) hx hb dX5_common_161 (by decide) ?_
                    refine lv_icmp_le (tgt := 169) hx hb dX5_common_162 (by decide) (fun c167 => ?_) (fun c167 => ?_)
                    · refine lv_iload hx hb dX5_common_169 (lv_at hl 0 rfl) ?_
                      subst ez159 ez134
                      exact W.iret (v := ((((0 : Int32) + (1 : Int32)) + (0 : Int32)) + (0 : Int32)) + (0 : Int32)) hx hb hr (fun t ht hW => ⟨by rw [show fX5_common xs ys ia ib ic id = ((((0 : Int32) + (1 : Int32)) + (0 : Int32)) + (0 : Int32)) + (0 : Int32) by unfold fX5_common; rw [if_neg c1, if_pos c135, if_neg c136, if_pos c147, if_neg c158, if_neg c160, if_pos c162, if_pos c164, if_neg c166, if_pos c167]], ht⟩) (fun _ h => absurd h List.not_mem_nil) dX5_common_171
                    · refine lv_iconst (v := 2) hx hb dX5_common_165 (by decide) ?_
                      refine lv_goto (tgt := 171) hx hb dX5_common_166 (by decide) ?_
                      subst ez159 ez134
                      exact W.iret (v := (2 : Int32)) hx hb hr (fun t ht hW => ⟨by rw [show fX5_common xs ys ia ib ic id = (2 : Int32) by unfold fX5_common; rw [if_neg c1, if_pos c135, if_neg c136, if_pos c147, if_neg c158, if_neg c160, if_pos c162, if_pos c164, if_neg c166, if_neg c167]], ht⟩) (fun _ h => absurd h List.not_mem_nil) dX5_common_171
                  · refine lv_iconst (v := 1) hx hb dX5_common_151 (by decide) ?_
                    refine lv_goto (tgt := 156) hx hb dX5_common_152 (by decide) ?_
                    refine lv_iadd hx hb dX5_common_156 ?_
                    refine lv_istore (lv' := [(5, .int (z159 + (1 : Int32))), (9, .int (fX5_isOn xs ys ic id ib)), (8, .int (fX5_isOn xs ys ic id ia)), (7, .int (fX5_isOn xs ys ia ib id)), (6, .int (fX5_isOn xs ys ia ib ic)), (0, .ref m1), (1, .int ia), (2, .int ib), (3, .int ic), (4, .int id)]) hx hb dX5_common_157 hl (by decide) rfl (fun ls hl => ?_)
                    refine lv_iload hx hb dX5_common_159 (lv_at hl 0 rfl) ?_
                    refine lv_iconst (v := 1) hx hb dX5_common_161 (by decide) ?_
                    refine lv_icmp_le (tgt := 169) hx hb dX5_common_162 (by decide) (fun c168 => ?_) (fun c168 => ?_)
                    · refine lv_iload hx hb dX5_common_169 (lv_at hl 0 rfl) ?_
                      subst ez159 ez134
                      exact W.iret (v := ((((0 : Int32) + (1 : Int32)) + (0 : Int32)) + (0 : Int32)) + (1 : Int32)) hx hb hr (fun t ht hW => ⟨by rw [show fX5_common xs ys ia ib ic id = ((((0 : Int32) + (1 : Int32)) + (0 : Int32)) + (0 : Int32)) + (1 : Int32) by unfold fX5_common; rw [if_neg c1, if_pos c135, if_neg c136, if_pos c147, if_neg c158, if_neg c160, if_pos c162, if_pos c164, if_pos c166, if_pos c168]], ht⟩) (fun _ h => absurd h List.not_mem_nil) dX5_common_171
                    · refine lv_iconst (v := 2) hx hb dX5_common_165 (by decide) ?_
                      refine lv_goto (tgt := 171) hx hb dX5_common_166 (by decide) ?_
                      subst ez159 ez134
                      exact W.iret (v := (2 : Int32)) hx hb hr (fun t ht hW => ⟨by rw [show fX5_common xs ys ia ib ic id = (2 : Int32) by unfold fX5_common; rw [if_neg c1, if_pos c135, if_neg c136, if_pos c147, if_neg c158, if_neg c160, if_pos c162, if_pos c164, if_pos c166, if_neg c168]], ht⟩) (fun _ h => absurd h List.not_mem_nil) dX5_common_171
          · refine lv_iconst (v := 1) hx hb dX5_common_108 (by decide) ?_
            refine lv_goto (tgt := 113) hx hb dX5_common_109 (by decide) ?_
            refine lv_iadd hx hb dX5_common_113 ?_
            refine lv_topi (fun z169 ez169 => ?_)
            refine lv_istore (lv' := [(5, .int z169), (9, .int (fX5_isOn xs ys ic id ib)), (8, .int (fX5_isOn xs ys ic id ia)), (7, .int (fX5_isOn xs ys ia ib id)), (6, .int (fX5_isOn xs ys ia ib ic)), (0, .ref m1), (1, .int ia), (2, .int ib), (3, .int ic), (4, .int id)]) hx hb dX5_common_114 hl (by decide) rfl (fun ls hl => ?_)
            refine lv_iload hx hb dX5_common_116 (lv_at hl 0 rfl) ?_
            refine lv_iload hx hb dX5_common_118 (lv_at hl 1 rfl) ?_
            refine lv_if_eq (tgt := 155) hx hb dX5_common_120 (by decide) (fun c170 => ?_) (fun c170 => ?_)
            · refine lv_iconst (v := 0) hx hb dX5_common_155 (by decide) ?_
              refine lv_iadd hx hb dX5_common_156 ?_
              refine lv_istore (lv' := [(5, .int (z169 + (0 : Int32))), (9, .int (fX5_isOn xs ys ic id ib)), (8, .int (fX5_isOn xs ys ic id ia)), (7, .int (fX5_isOn xs ys ia ib id)), (6, .int (fX5_isOn xs ys ia ib ic)), (0, .ref m1), (1, .int ia), (2, .int ib), (3, .int ic), (4, .int id)]) hx hb dX5_common_157 hl (by decide) rfl (fun ls hl => ?_)
              refine lv_iload hx hb dX5_common_159 (lv_at hl 0 rfl) ?_
              refine lv_iconst (v := 1) hx hb dX5_common_161 (by decide) ?_
              refine lv_icmp_le (tgt := 169) hx hb dX5_common_162 (by decide) (fun c171 => ?_) (fun c171 => ?_)
              · refine lv_iload hx hb dX5_common_169 (lv_at hl 0 rfl) ?_
                subst ez169 ez134
                exact W.iret (v := ((((0 : Int32) + (1 : Int32)) + (0 : Int32)) + (1 : Int32)) + (0 : Int32)) hx hb hr (fun t ht hW => ⟨by rw [show fX5_common xs ys ia ib ic id = ((((0 : Int32) + (1 : Int32)) + (0 : Int32)) + (1 : Int32)) + (0 : Int32) by unfold fX5_common; rw [if_neg c1, if_pos c135, if_neg c136, if_pos c147, if_pos c158, if_pos c170, if_pos c171]], ht⟩) (fun _ h => absurd h List.not_mem_nil) dX5_common_171
              · refine lv_iconst (v := 2) hx hb dX5_common_165 (by decide) ?_
                refine lv_goto (tgt := 171) hx hb dX5_common_166 (by decide) ?_
                subst ez169 ez134
                exact W.iret (v := (2 : Int32)) hx hb hr (fun t ht hW => ⟨by rw [show fX5_common xs ys ia ib ic id = (2 : Int32) by unfold fX5_common; rw [if_neg c1, if_pos c135, if_neg c136, if_pos c147, if_pos c158, if_pos c170, if_neg c171]], ht⟩) (fun _ h => absurd h List.not_mem_nil) dX5_common_171
            · refine lv_aload_n hx hb dX5_common_123 rfl (lv_at hl 5 rfl) ?_
              refine lv_iload_n hx hb dX5_common_124 rfl (lv_at hl 7 rfl) ?_
              refine lv_iload_n hx hb dX5_common_125 rfl (lv_at hl 8 rfl) ?_
              refine xr_V (q := (RX5, TX5, 14)) (ci := 9) (q0 := 0) (rest := [.int z169]) (As := [.int ib, .int ic]) ⟨hx, hb, hml, hown, hts⟩ (ct5_areEqual l D m1 m2 m3 m4 m5 m6 m7 kI kJ xs ys held la lb lc th pm rm on cl un ze lm ib ic oib oic) (cwV 2 hts gl_X5_107 rfl rfl rfl (by decide +kernel) ⟨Nat.le_of_ble_eq_true rfl, Nat.le_of_ble_eq_true rfl⟩) nN_mv hN hK hP [0, 1, 2, 3, 4, 5, 6] [0, 1] rfl rfl rfl rfl rfl hl.1 rfl (Nat.le_of_ble_eq_true rfl) dX5_common_126 ⟨Nat.le_of_ble_eq_true rfl, Nat.le_of_ble_eq_true rfl⟩ ?_
              refine lv_if_ne (tgt := 155) hx hb dX5_common_129 (by decide) (fun c172 => ?_) (fun c172 => ?_)
              · refine lv_iconst (v := 0) hx hb dX5_common_155 (by decide) ?_
                refine lv_iadd hx hb dX5_common_156 ?_
                refine lv_istore (lv' := [(5, .int (z169 + (0 : Int32))), (9, .int (fX5_isOn xs ys ic id ib)), (8, .int (fX5_isOn xs ys ic id ia)), (7, .int (fX5_isOn xs ys ia ib id)), (6, .int (fX5_isOn xs ys ia ib ic)), (0, .ref m1), (1, .int ia), (2, .int ib), (3, .int ic), (4, .int id)]) hx hb dX5_common_157 hl (by decide) rfl (fun ls hl => ?_)
                refine lv_iload hx hb dX5_common_159 (lv_at hl 0 rfl) ?_
                refine lv_iconst (v := 1) hx hb dX5_common_161 (by decide) ?_
                refine lv_icmp_le (tgt := 169) hx hb dX5_common_162 (by decide) (fun c173 => ?_) (fun c173 => ?_)
                · refine lv_iload hx hb dX5_common_169 (lv_at hl 0 rfl) ?_
                  subst ez169 ez134
                  exact W.iret (v := ((((0 : Int32) + (1 : Int32)) + (0 : Int32)) + (1 : Int32)) + (0 : Int32)) hx hb hr (fun t ht hW => ⟨by rw [show fX5_common xs ys ia ib ic id = ((((0 : Int32) + (1 : Int32)) + (0 : Int32)) + (1 : Int32)) + (0 : Int32) by unfold fX5_common; rw [if_neg c1, if_pos c135, if_neg c136, if_pos c147, if_pos c158, if_neg c170, if_neg c172, if_pos c173]], ht⟩) (fun _ h => absurd h List.not_mem_nil) dX5_common_171
                · refine lv_iconst (v := 2) hx hb dX5_common_165 (by decide) ?_
                  refine lv_goto (tgt := 171) hx hb dX5_common_166 (by decide) ?_
                  subst ez169 ez134
                  exact W.iret (v := (2 : Int32)) hx hb hr (fun t ht hW => ⟨by rw [show fX5_common xs ys ia ib ic id = (2 : Int32) by unfold fX5_common; rw [if_neg c1, if_pos c135, if_neg c136, if_pos c147, if_pos c158, if_neg c170, if_neg c172, if_neg c173]], ht⟩) (fun _ h => absurd h List.not_mem_nil) dX5_common_171
              · refine lv_aload_n hx hb dX5_common_132 rfl (lv_at hl 5 rfl) ?_
                refine lv_iload_n hx hb dX5_common_133 rfl (lv_at hl 7 rfl) ?_
                refine lv_iload hx hb dX5_common_134 (lv_at hl 9 rfl) ?_
                refine xr_V (q := (RX5, TX5, 14)) (ci := 9) (q0 := 0) (rest := [.int z169]) (As := [.int ib, .int id]) ⟨hx, hb, hml, hown, hts⟩ (ct5_areEqual l D m1 m2 m3 m4 m5 m6 m7 kI kJ xs ys held la lb lc th pm rm on cl un ze lm ib id oib oid) (cwV 2 hts gl_X5_107 rfl rfl rfl (by decide +kernel) ⟨Nat.le_of_ble_eq_true rfl, Nat.le_of_ble_eq_true rfl⟩) nN_mv hN hK hP [0, 1, 2, 3, 4, 5, 6] [0, 1] rfl rfl rfl rfl rfl hl.1 rfl (Nat.le_of_ble_eq_true rfl) dX5_common_136 ⟨Nat.le_of_ble_eq_true rfl, Nat.le_of_ble_eq_true rfl⟩ ?_
                refine lv_if_ne (tgt := 155) hx hb dX5_common_139 (by decide) (fun c174 => ?_) (fun c174 => ?_)
                · refine lv_iconst (v := 0) hx hb dX5_common_155 (by decide) ?_
                  refine lv_iadd hx hb dX5_common_156 ?_
                  refine lv_istore (lv' := [(5, .int (z169 + (0 : Int32))), (9, .int (fX5_isOn xs ys ic id ib)), (8, .int (fX5_isOn xs ys ic id ia)), (7, .int (fX5_isOn xs ys ia ib id)), (6, .int (fX5_isOn xs ys ia ib ic)), (0, .ref m1), (1, .int ia), (2, .int ib), (3, .int ic), (4, .int id)]) hx hb dX5_common_157 hl (by decide) rfl (fun ls hl => ?_)
                  refine lv_iload hx hb dX5_common_159 (lv_at hl 0 rfl) ?_
                  refine lv_iconst (v := 1) hx hb dX5_common_161 (by decide) ?_
                  refine lv_icmp_le (tgt := 169) hx hb dX5_common_162 (by decide) (fun c175 => ?_) (fun c175 => ?_)
                  · refine lv_iload hx hb dX5_common_169 (lv_at hl 0 rfl) ?_
                    subst ez169 ez134
                    exact W.iret (v := ((((0 : Int32) + (1 : Int32)) + (0 : Int32)) + (1 : Int32)) + (0 : Int32)) hx hb hr (fun t ht hW => ⟨by rw [show fX5_common xs ys ia ib ic id = ((((0 : Int32) + (1 : Int32)) + (0 : Int32)) + (1 : Int32)) + (0 : Int32) by unfold fX5_common; rw [if_neg c1, if_pos c135, if_neg c136, if_pos c147, if_pos c158, if_neg c170, if_pos c172, if_neg c174, if_pos c175]], ht⟩) (fun _ h => absurd h List.not_mem_nil) dX5_common_171
                  · refine lv_iconst (v := 2) hx hb dX5_common_165 (by decide) ?_
                    refine lv_goto (tgt := 171) hx hb dX5_common_166 (by decide) ?_
                    subst ez169 ez134
                    exact W.iret (v := (2 : Int32)) hx hb hr (fun t ht hW => ⟨by rw [show fX5_common xs ys ia ib ic id = (2 : Int32) by unfold fX5_common; rw [if_neg c1, if_pos c135, if_neg c136, if_pos c147, if_pos c158, if_neg c170, if_pos c172, if_neg c174, if_neg c175]], ht⟩) (fun _ h => absurd h List.not_mem_nil) dX5_common_171
                · refine lv_aload_n hx hb dX5_common_142 rfl (lv_at hl 5 rfl) ?_
                  refine lv_iload_n hx hb dX5_common_143 rfl (lv_at hl 6 rfl) ?_
                  refine lv_iload_n hx hb dX5_common_144 rfl (lv_at hl 7 rfl) ?_
                  refine xr_V (q := (RX5, TX5, 14)) (ci := 9) (q0 := 0) (rest := [.int z169]) (As := [.int ia, .int ib]) ⟨hx, hb, hml, hown, hts⟩ (ct5_areEqual l D m1 m2 m3 m4 m5 m6 m7 kI kJ xs ys held la lb lc th pm rm on cl un ze lm ia ib oia oib) (cwV 2 hts gl_X5_107 rfl rfl rfl (by decide +kernel) ⟨Nat.le_of_ble_eq_true rfl, Nat.le_of_ble_eq_true rfl⟩) nN_mv hN hK hP [0, 1, 2, 3, 4, 5, 6] [0, 1] rfl rfl rfl rfl rfl hl.1 rfl (Nat.le_of_ble_eq_true rfl) dX5_common_145 ⟨Nat.le_of_ble_eq_true rfl, Nat.le_of_ble_eq_true rfl⟩ ?_
                  refine lv_if_ne (tgt := 155) hx hb dX5_common_148 (by decide) (fun c176 => ?_) (fun c176 => ?_)
                  · refine lv_iconst (v := 0) hx hb dX5_common_155 (by decide) ?_
                    refine lv_iadd hx hb dX5_common_156 ?_
                    refine lv_istore (lv' := [(5, .int (z169 + (0 : Int32))), (9, .int (fX5_isOn xs ys ic id ib)), (8, .int (fX5_isOn xs ys ic id ia)), (7, .int (fX5_isOn xs ys ia ib id)), (6, .int (fX5_isOn xs ys ia ib ic)), (0, .ref m1), (1, .int ia), (2, .int ib), (3, .int ic), (4, .int id)]) hx hb dX5_common_157 hl (by decide) rfl (fun ls hl => ?_)
                    refine lv_iload hx hb dX5_common_159 (lv_at hl 0 rfl) ?_
                    refine lv_iconst (v := 1) hx hb dX5_common_161 (by decide) ?_
                    refine lv_icmp_le (tgt := 169) hx hb dX5_common_162 (by decide) (fun c177 => ?_) (fun c177 => ?_)
                    · refine lv_iload hx hb dX5_common_169 (lv_at hl 0 rfl) ?_
                      subst ez169 ez134
                      exact W.iret (v := ((((0 : Int32) + (1 : Int32)) + (0 : Int32)) + (1 : Int32)) + (0 : Int32)) hx hb hr (fun t ht hW => ⟨by rw [show fX5_common xs ys ia ib ic id = ((((0 : Int32) + (1 : Int32)) + (0 : Int32)) + (1 : Int32)) + (0 : Int32) by unfold fX5_common; rw [if_neg c1, if_pos c135, if_neg c136, if_pos c147, if_pos c158, if_neg c170, if_pos c172, if_pos c174, if_neg c176, if_pos c177]], ht⟩) (fun _ h => absurd h List.not_mem_nil) dX5_common_171
                    · refine lv_iconst (v := 2) hx hb dX5_common_165 (by decide) ?_
                      refine lv_goto (tgt := 171) hx hb dX5_common_166 (by decide) ?_
                      subst ez169 ez134
                      exact W.iret (v := (2 : Int32)) hx hb hr (fun t ht hW => ⟨by rw [show fX5_common xs ys ia ib ic id = (2 : Int32) by unfold fX5_common; rw [if_neg c1, if_pos c135, if_neg c136, if_pos c147, if_pos c158, if_neg c170, if_pos c172, if_pos c174, if_neg c176, if_neg c177]], ht⟩) (fun _ h => absurd h List.not_mem_nil) dX5_common_171
                  · refine lv_iconst (v := 1) hx hb dX5_common_151 (by decide) ?_
                    refine lv_goto (tgt := 156) hx hb dX5_common_152 (by decide) ?_
                    refine lv_iadd hx hb dX5_common_156 ?_
                    refine lv_istore (lv' := [(5, .int (z169 + (1 : Int32))), (9, .int (fX5_isOn xs ys ic id ib)), (8, .int (fX5_isOn xs ys ic id ia)), (7, .int (fX5_isOn xs ys ia ib id)), (6, .int (fX5_isOn xs ys ia ib ic)), (0, .ref m1), (1, .int ia), (2, .int ib), (3, .int ic), (4, .int id)]) hx hb dX5_common_157 hl (by decide) rfl (fun ls hl => ?_)
                    refine lv_iload hx hb dX5_common_159 (lv_at hl 0 rfl) ?_
                    refine lv_iconst (v := 1) hx hb dX5_common_161 (by decide) ?_
                    refine lv_icmp_le (tgt := 169) hx hb dX5_common_162 (by decide) (fun c178 => ?_) (fun c178 => ?_)
                    · refine lv_iload hx hb dX5_common_169 (lv_at hl 0 rfl) ?_
                      subst ez169 ez134
                      exact W.iret (v := ((((0 : Int32) + (1 : Int32)) + (0 : Int32)) + (1 : Int32)) + (1 : Int32)) hx hb hr (fun t ht hW => ⟨by rw [show fX5_common xs ys ia ib ic id = ((((0 : Int32) + (1 : Int32)) + (0 : Int32)) + (1 : Int32)) + (1 : Int32) by unfold fX5_common; rw [if_neg c1, if_pos c135, if_neg c136, if_pos c147, if_pos c158, if_neg c170, if_pos c172, if_pos c174, if_pos c176, if_pos c178]], ht⟩) (fun _ h => absurd h List.not_mem_nil) dX5_common_171
                    · refine lv_iconst (v := 2) hx hb dX5_common_165 (by decide) ?_
                      refine lv_goto (tgt := 171) hx hb dX5_common_166 (by decide) ?_
                      subst ez169 ez134
                      exact W.iret (v := (2 : Int32)) hx hb hr (fun t ht hW => ⟨by rw [show fX5_common xs ys ia ib ic id = (2 : Int32) by unfold fX5_common; rw [if_neg c1, if_pos c135, if_neg c136, if_pos c147, if_pos c158, if_neg c170, if_pos c172, if_pos c174, if_pos c176, if_neg c178]], ht⟩) (fun _ h => absurd h List.not_mem_nil) dX5_common_171
    · refine lv_aload_n hx hb dX5_common_64 rfl (lv_at hl 5 rfl) ?_
      refine lv_iload_n hx hb dX5_common_65 rfl (lv_at hl 8 rfl) ?_
      refine lv_iload hx hb dX5_common_66 (lv_at hl 9 rfl) ?_
      refine xr_V (q := (RX5, TX5, 14)) (ci := 9) (q0 := 0) (rest := [.int z134]) (As := [.int ic, .int id]) ⟨hx, hb, hml, hown, hts⟩ (ct5_areEqual l D m1 m2 m3 m4 m5 m6 m7 kI kJ xs ys held la lb lc th pm rm on cl un ze lm ic id oic oid) (cwV 2 hts gl_X5_107 rfl rfl rfl (by decide +kernel) ⟨Nat.le_of_ble_eq_true rfl, Nat.le_of_ble_eq_true rfl⟩) nN_mv hN hK hP [0, 1, 2, 3, 4, 5, 6] [0, 1] rfl rfl rfl rfl rfl hl.1 rfl (Nat.le_of_ble_eq_true rfl) dX5_common_68 ⟨Nat.le_of_ble_eq_true rfl, Nat.le_of_ble_eq_true rfl⟩ ?_
      refine lv_if_ne (tgt := 78) hx hb dX5_common_71 (by decide) (fun c179 => ?_) (fun c179 => ?_)
      · refine lv_iconst (v := 0) hx hb dX5_common_78 (by decide) ?_
        refine lv_iadd hx hb dX5_common_79 ?_
        refine lv_istore (lv' := [(5, .int (z134 + (0 : Int32))), (9, .int (fX5_isOn xs ys ic id ib)), (8, .int (fX5_isOn xs ys ic id ia)), (7, .int (fX5_isOn xs ys ia ib id)), (6, .int (fX5_isOn xs ys ia ib ic)), (0, .ref m1), (1, .int ia), (2, .int ib), (3, .int ic), (4, .int id)]) hx hb dX5_common_80 hl (by decide) rfl (fun ls hl => ?_)
        refine lv_iload hx hb dX5_common_82 (lv_at hl 0 rfl) ?_
        refine lv_iload hx hb dX5_common_84 (lv_at hl 2 rfl) ?_
        refine lv_if_eq (tgt := 112) hx hb dX5_common_86 (by decide) (fun c180 => ?_) (fun c180 => ?_)
        · refine lv_iconst (v := 0) hx hb dX5_common_112 (by decide) ?_
          refine lv_iadd hx hb dX5_common_113 ?_
          refine lv_topi (fun z181 ez181 => ?_)
          refine lv_istore (lv' := [(5, .int z181), (9, .int (fX5_isOn xs ys ic id ib)), (8, .int (fX5_isOn xs ys ic id ia)), (7, .int (fX5_isOn xs ys ia ib id)), (6, .int (fX5_isOn xs ys ia ib ic)), (0, .ref m1), (1, .int ia), (2, .int ib), (3, .int ic), (4, .int id)]) hx hb dX5_common_114 hl (by decide) rfl (fun ls hl => ?_)
          refine lv_iload hx hb dX5_common_116 (lv_at hl 0 rfl) ?_
          refine lv_iload hx hb dX5_common_118 (lv_at hl 1 rfl) ?_
          refine lv_if_eq (tgt := 155) hx hb dX5_common_120 (by decide) (fun c182 => ?_) (fun c182 => ?_)
          · refine lv_iconst (v := 0) hx hb dX5_common_155 (by decide) ?_
            refine lv_iadd hx hb dX5_common_156 ?_
            refine lv_istore (lv' := [(5, .int (z181 + (0 : Int32))), (9, .int (fX5_isOn xs ys ic id ib)), (8, .int (fX5_isOn xs ys ic id ia)), (7, .int (fX5_isOn xs ys ia ib id)), (6, .int (fX5_isOn xs ys ia ib ic)), (0, .ref m1), (1, .int ia), (2, .int ib), (3, .int ic), (4, .int id)]) hx hb dX5_common_157 hl (by decide) rfl (fun ls hl => ?_)
            refine lv_iload hx hb dX5_common_159 (lv_at hl 0 rfl) ?_
            refine lv_iconst (v := 1) hx hb dX5_common_161 (by decide) ?_
            refine lv_icmp_le (tgt := 169) hx hb dX5_common_162 (by decide) (fun c183 => ?_) (fun c183 => ?_)
            · refine lv_iload hx hb dX5_common_169 (lv_at hl 0 rfl) ?_
              subst ez181 ez134
              exact W.iret (v := ((((0 : Int32) + (1 : Int32)) + (0 : Int32)) + (0 : Int32)) + (0 : Int32)) hx hb hr (fun t ht hW => ⟨by rw [show fX5_common xs ys ia ib ic id = ((((0 : Int32) + (1 : Int32)) + (0 : Int32)) + (0 : Int32)) + (0 : Int32) by unfold fX5_common; rw [if_neg c1, if_neg c135, if_neg c179, if_pos c180, if_pos c182, if_pos c183]], ht⟩) (fun _ h => absurd h List.not_mem_nil) dX5_common_171
            · refine lv_iconst (v := 2) hx hb dX5_common_165 (by decide) ?_
              refine lv_goto (tgt := 171) hx hb dX5_common_166 (by decide) ?_
              subst ez181 ez134
              exact W.iret (v := (2 : Int32)) hx hb hr (fun t ht hW => ⟨by rw [show fX5_common xs ys ia ib ic id = (2 : Int32) by unfold fX5_common; rw [if_neg c1, if_neg c135, if_neg c179, if_pos c180, if_pos c182, if_neg c183]], ht⟩) (fun _ h => absurd h List.not_mem_nil) dX5_common_171
          · refine lv_aload_n hx hb dX5_common_123 rfl (lv_at hl 5 rfl) ?_
            refine lv_iload_n hx hb dX5_common_124 rfl (lv_at hl 7 rfl) ?_
            refine lv_iload_n hx hb dX5_common_125 rfl (lv_at hl 8 rfl) ?_
            refine xr_V (q := (RX5, TX5, 14)) (ci := 9) (q0 := 0) (rest := [.int z181]) (As := [.int ib, .int ic]) ⟨hx, hb, hml, hown, hts⟩ (ct5_areEqual l D m1 m2 m3 m4 m5 m6 m7 kI kJ xs ys held la lb lc th pm rm on cl un ze lm ib ic oib oic) (cwV 2 hts gl_X5_107 rfl rfl rfl (by decide +kernel) ⟨Nat.le_of_ble_eq_true rfl, Nat.le_of_ble_eq_true rfl⟩) nN_mv hN hK hP [0, 1, 2, 3, 4, 5, 6] [0, 1] rfl rfl rfl rfl rfl hl.1 rfl (Nat.le_of_ble_eq_true rfl) dX5_common_126 ⟨Nat.le_of_ble_eq_true rfl, Nat.le_of_ble_eq_true rfl⟩ ?_
            refine lv_if_ne (tgt := 155) hx hb dX5_common_129 (by decide) (fun c184 => ?_) (fun c184 => ?_)
            · refine lv_iconst (v := 0) hx hb dX5_common_155 (by decide) ?_
              refine lv_iadd hx hb dX5_common_156 ?_
              refine lv_istore (lv' := [(5, .int (z181 + (0 : Int32))), (9, .int (fX5_isOn xs ys ic id ib)), (8, .int (fX5_isOn xs ys ic id ia)), (7, .int (fX5_isOn xs ys ia ib id)), (6, .int (fX5_isOn xs ys ia ib ic)), (0, .ref m1), (1, .int ia), (2, .int ib), (3, .int ic), (4, .int id)]) hx hb dX5_common_157 hl (by decide) rfl (fun ls hl => ?_)
              refine lv_iload hx hb dX5_common_159 (lv_at hl 0 rfl) ?_
              refine lv_iconst (v := 1) hx hb dX5_common_161 (by decide) ?_
              refine lv_icmp_le (tgt := 169) hx hb dX5_common_162 (by decide) (fun c185 => ?_) (fun c185 => ?_)
              · refine lv_iload hx hb dX5_common_169 (lv_at hl 0 rfl) ?_
                subst ez181 ez134
                exact W.iret (v := ((((0 : Int32) + (1 : Int32)) + (0 : Int32)) + (0 : Int32)) + (0 : Int32)) hx hb hr (fun t ht hW => ⟨by rw [show fX5_common xs ys ia ib ic id = ((((0 : Int32) + (1 : Int32)) + (0 : Int32)) + (0 : Int32)) + (0 : Int32) by unfold fX5_common; rw [if_neg c1, if_neg c135, if_neg c179, if_pos c180, if_neg c182, if_neg c184, if_pos c185]], ht⟩) (fun _ h => absurd h List.not_mem_nil) dX5_common_171
              · refine lv_iconst (v := 2) hx hb dX5_common_165 (by decide) ?_
                refine lv_goto (tgt := 171) hx hb dX5_common_166 (by decide) ?_
                subst ez181 ez134
                exact W.iret (v := (2 : Int32)) hx hb hr (fun t ht hW => ⟨by rw [show fX5_common xs ys ia ib ic id = (2 : Int32) by unfold fX5_common; rw [if_neg c1, if_neg c135, if_neg c179, if_pos c180, if_neg c182, if_neg c184, if_neg c185]], ht⟩) (fun _ h => absurd h List.not_mem_nil) dX5_common_171
            · refine lv_aload_n hx hb dX5_common_132 rfl (lv_at hl 5 rfl) ?_
              refine lv_iload_n hx hb dX5_common_133 rfl (lv_at hl 7 rfl) ?_
              refine lv_iload hx hb dX5_common_134 (lv_at hl 9 rfl) ?_
              refine xr_V (q := (RX5, TX5, 14)) (ci := 9) (q0 := 0) (rest := [.int z181]) (As := [.int ib, .int id]) ⟨hx, hb, hml, hown, hts⟩ (ct5_areEqual l D m1 m2 m3 m4 m5 m6 m7 kI kJ xs ys held la lb lc th pm rm on cl un ze lm ib id oib oid) (cwV 2 hts gl_X5_107 rfl rfl rfl (by decide +kernel) ⟨Nat.le_of_ble_eq_true rfl, Nat.le_of_ble_eq_true rfl⟩) nN_mv hN hK hP [0, 1, 2, 3, 4, 5, 6] [0, 1] rfl rfl rfl rfl rfl hl.1 rfl (Nat.le_of_ble_eq_true rfl) dX5_common_136 ⟨Nat.le_of_ble_eq_true rfl, Nat.le_of_ble_eq_true rfl⟩ ?_
              refine lv_if_ne (tgt := 155) hx hb dX5_common_139 (by decide) (fun c186 => ?_) (fun c186 => ?_)
              · refine lv_iconst (v := 0) hx hb dX5_common_155 (by decide) ?_
                refine lv_iadd hx hb dX5_common_156 ?_
                refine lv_istore (lv' := [(5, .int (z181 + (0 : Int32))), (9, .int (fX5_isOn xs ys ic id ib)), (8, .int (fX5_isOn xs ys ic id ia)), (7, .int (fX5_isOn xs ys ia ib id)), (6, .int (fX5_isOn xs ys ia ib ic)), (0, .ref m1), (1, .int ia), (2, .int ib), (3, .int ic), (4, .int id)]) hx hb dX5_common_157 hl (by decide) rfl (fun ls hl => ?_)
                refine lv_iload hx hb dX5_common_159 (lv_at hl 0 rfl) ?_
                refine lv_iconst (v := 1) hx hb dX5_common_161 (by decide) ?_
                refine lv_icmp_le (tgt := 169) hx hb dX5_common_162 (by decide) (fun c187 => ?_) (fun c187 => ?_)
                · refine lv_iload hx hb dX5_common_169 (lv_at hl 0 rfl) ?_
                  subst ez181 ez134
                  exact W.iret (v := ((((0 : Int32) + (1 : Int32)) + (0 : Int32)) + (0 : Int32)) + (0 : Int32)) hx hb hr (fun t ht hW => ⟨by rw [show fX5_common xs ys ia ib ic id = ((((0 : Int32) + (1 : Int32)) + (0 : Int32)) + (0 : Int32)) + (0 : Int32) by unfold fX5_common; rw [if_neg c1, if_neg c135, if_neg c179, if_pos c180, if_neg c182, if_pos c184, if_neg c186, if_pos c187]], ht⟩) (fun _ h => absurd h List.not_mem_nil) dX5_common_171
                · refine lv_iconst (v := 2) hx hb dX5_common_165 (by decide) ?_
                  refine lv_goto (tgt := 171) hx hb dX5_common_166 (by decide) ?_
                  subst ez181 ez134
                  exact W.iret (v := (2 : Int32)) hx hb hr (fun t ht hW => ⟨by rw [show fX5_common xs ys ia ib ic id = (2 : Int32) by unfold fX5_common; rw [if_neg c1, if_neg c135, if_neg c179, if_pos c180, if_neg c182, if_pos c184, if_neg c186, if_neg c187]], ht⟩) (fun _ h => absurd h List.not_mem_nil) dX5_common_171
              · refine lv_aload_n hx hb dX5_common_142 rfl (lv_at hl 5 rfl) ?_
                refine lv_iload_n hx hb dX5_common_143 rfl (lv_at hl 6 rfl) ?_
                refine lv_iload_n hx hb dX5_common_144 rfl (lv_at hl 7 rfl) ?_
                refine xr_V (q := (RX5, TX5, 14)) (ci := 9) (q0 := 0) (rest := [.int z181]) (As := [.int ia, .int ib]) ⟨hx, hb, hml, hown, hts⟩ (ct5_areEqual l D m1 m2 m3 m4 m5 m6 m7 kI kJ xs ys held la lb lc th pm rm on cl un ze lm ia ib oia oib) (cwV 2 hts gl_X5_107 rfl rfl rfl (by decide +kernel) ⟨Nat.le_of_ble_eq_true rfl, Nat.le_of_ble_eq_true rfl⟩) nN_mv hN hK hP [0, 1, 2, 3, 4, 5, 6] [0, 1] rfl rfl rfl rfl rfl hl.1 rfl (Nat.le_of_ble_eq_true rfl) dX5_common_145 ⟨Nat.le_of_ble_eq_true rfl, Nat.le_of_ble_eq_true rfl⟩ ?_
                refine lv_if_ne (tgt := 155) hx hb dX5_common_148 (by decide) (fun c188 => ?_) (fun c188 => ?_)
                · refine lv_iconst (v := 0) hx hb dX5_common_155 (by decide) ?_
                  refine lv_iadd hx hb dX5_common_156 ?_
                  refine lv_istore (lv' := [(5, .int (z181 + (0 : Int32))), (9, .int (fX5_isOn xs ys ic id ib)), (8, .int (fX5_isOn xs ys ic id ia)), (7, .int (fX5_isOn xs ys ia ib id)), (6, .int (fX5_isOn xs ys ia ib ic)), (0, .ref m1), (1, .int ia), (2, .int ib), (3, .int ic), (4, .int id)]) hx hb dX5_common_157 hl (by decide) rfl (fun ls hl => ?_)
                  refine lv_iload hx hb dX5_common_159 (lv_at hl 0 rfl) ?_
                  refine lv_iconst (v := 1) hx hb dX5_common_161 (by decide) ?_
                  refine lv_icmp_le (tgt := 169) hx hb dX5_common_162 (by decide) (fun c189 => ?_) (fun c189 => ?_)
                  · refine lv_iload hx hb dX5_common_169 (lv_at hl 0 rfl) ?_
                    subst ez181 ez134
                    exact W.iret (v := ((((0 : Int32) + (1 : Int32)) + (0 : Int32)) + (0 : Int32)) + (0 : Int32)) hx hb hr (fun t ht hW => ⟨by rw [show fX5_common xs ys ia ib ic id = ((((0 : Int32) + (1 : Int32)) + (0 : Int32)) + (0 : Int32)) + (0 : Int32) by unfold fX5_common; rw [if_neg c1, if_neg c135, if_neg c179, if_pos c180, if_neg c182, if_pos c184, if_pos c186, if_neg c188, if_pos c189]], ht⟩) (fun _ h => absurd h List.not_mem_nil) dX5_common_171
                  · refine lv_iconst (v := 2) hx hb dX5_common_165 (by decide) ?_
                    refine lv_goto (tgt := 171) hx hb dX5_common_166 (by decide) ?_
                    subst ez181 ez134
                    exact W.iret (v := (2 : Int32)) hx hb hr (fun t ht hW => ⟨by rw [show fX5_common xs ys ia ib ic id = (2 : Int32) by unfold fX5_common; rw [if_neg c1, if_neg c135, if_neg c179, if_pos c180, if_neg c182, if_pos c184, if_pos c186, if_neg c188, if_neg c189]], ht⟩) (fun _ h => absurd h List.not_mem_nil) dX5_common_171
                · refine lv_iconst (v := 1) hx hb dX5_common_151 (by decide) ?_
                  refine lv_goto (tgt := 156) hx hb dX5_common_152 (by decide) ?_
                  refine lv_iadd hx hb dX5_common_156 ?_
                  refine lv_istore (lv' := [(5, .int (z181 + (1 : Int32))), (9, .int (fX5_isOn xs ys ic id ib)), (8, .int (fX5_isOn xs ys ic id ia)), (7, .int (fX5_isOn xs ys ia ib id)), (6, .int (fX5_isOn xs ys ia ib ic)), (0, .ref m1), (1, .int ia), (2, .int ib), (3, .int ic), (4, .int id)]) hx hb dX5_common_157 hl (by decide) rfl (fun ls hl => ?_)
                  refine lv_iload hx hb dX5_common_159 (lv_at hl 0 rfl) ?_
                  refine lv_iconst (v := 1) hx hb dX5_common_161 (by decide) ?_
                  refine lv_icmp_le (tgt := 169) hx hb dX5_common_162 (by decide) (fun c190 => ?_) (fun c190 => ?_)
                  · refine lv_iload hx hb dX5_common_169 (lv_at hl 0 rfl) ?_
                    subst ez181 ez134
                    exact W.iret (v := ((((0 : Int32) + (1 : Int32)) + (0 : Int32)) + (0 : Int32)) + (1 : Int32)) hx hb hr (fun t ht hW => ⟨by rw [show fX5_common xs ys ia ib ic id = ((((0 : Int32) + (1 : Int32)) + (0 : Int32)) + (0 : Int32)) + (1 : Int32) by unfold fX5_common; rw [if_neg c1, if_neg c135, if_neg c179, if_pos c180, if_neg c182, if_pos c184, if_pos c186, if_pos c188, if_pos c190]], ht⟩) (fun _ h => absurd h List.not_mem_nil) dX5_common_171
                  · refine lv_iconst (v := 2) hx hb dX5_common_165 (by decide) ?_
                    refine lv_goto (tgt := 171) hx hb dX5_common_166 (by decide) ?_
                    subst ez181 ez134
                    exact W.iret (v := (2 : Int32)) hx hb hr (fun t ht hW => ⟨by rw [show fX5_common xs ys ia ib ic id = (2 : Int32) by unfold fX5_common; rw [if_neg c1, if_neg c135, if_neg c179, if_pos c180, if_neg c182, if_pos c184, if_pos c186, if_pos c188, if_neg c190]], ht⟩) (fun _ h => absurd h List.not_mem_nil) dX5_common_171
        · refine lv_aload_n hx hb dX5_common_89 rfl (lv_at hl 5 rfl) ?_
          refine lv_iload_n hx hb dX5_common_90 rfl (lv_at hl 6 rfl) ?_
          refine lv_iload_n hx hb dX5_common_91 rfl (lv_at hl 8 rfl) ?_
          refine xr_V (q := (RX5, TX5, 14)) (ci := 9) (q0 := 0) (rest := [.int (z134 + (0 : Int32))]) (As := [.int ia, .int ic]) ⟨hx, hb, hml, hown, hts⟩ (ct5_areEqual l D m1 m2 m3 m4 m5 m6 m7 kI kJ xs ys held la lb lc th pm rm on cl un ze lm ia ic oia oic) (cwV 2 hts gl_X5_107 rfl rfl rfl (by decide +kernel) ⟨Nat.le_of_ble_eq_true rfl, Nat.le_of_ble_eq_true rfl⟩) nN_mv hN hK hP [0, 1, 2, 3, 4, 5, 6] [0, 1] rfl rfl rfl rfl rfl hl.1 rfl (Nat.le_of_ble_eq_true rfl) dX5_common_92 ⟨Nat.le_of_ble_eq_true rfl, Nat.le_of_ble_eq_true rfl⟩ ?_
          refine lv_if_ne (tgt := 112) hx hb dX5_common_95 (by decide) (fun c191 => ?_) (fun c191 => ?_)
          · refine lv_iconst (v := 0) hx hb dX5_common_112 (by decide) ?_
            refine lv_iadd hx hb dX5_common_113 ?_
            refine lv_topi (fun z192 ez192 => ?_)
            refine lv_istore (lv' := [(5, .int z192), (9, .int (fX5_isOn xs ys ic id ib)), (8, .int (fX5_isOn xs ys ic id ia)), (7, .int (fX5_isOn xs ys ia ib id)), (6, .int (fX5_isOn xs ys ia ib ic)), (0, .ref m1), (1, .int ia), (2, .int ib), (3, .int ic), (4, .int id)]) hx hb dX5_common_114 hl (by decide) rfl (fun ls hl => ?_)
            refine lv_iload hx hb dX5_common_116 (lv_at hl 0 rfl) ?_
            refine lv_iload hx hb dX5_common_118 (lv_at hl 1 rfl) ?_
            refine lv_if_eq (tgt := 155) hx hb dX5_common_120 (by decide) (fun c193 => ?_) (fun c193 => ?_)
            · refine lv_iconst (v := 0) hx hb dX5_common_155 (by decide) ?_
              refine lv_iadd hx hb dX5_common_156 ?_
              refine lv_istore (lv' := [(5, .int (z192 + (0 : Int32))), (9, .int (fX5_isOn xs ys ic id ib)), (8, .int (fX5_isOn xs ys ic id ia)), (7, .int (fX5_isOn xs ys ia ib id)), (6, .int (fX5_isOn xs ys ia ib ic)), (0, .ref m1), (1, .int ia), (2, .int ib), (3, .int ic), (4, .int id)]) hx hb dX5_common_157 hl (by decide) rfl (fun ls hl => ?_)
              refine lv_iload hx hb dX5_common_159 (lv_at hl 0 rfl) ?_
              refine lv_iconst (v := 1) hx hb dX5_common_161 (by decide) ?_
              refine lv_icmp_le (tgt := 169) hx hb dX5_common_162 (by decide) (fun c194 => ?_) (fun c194 => ?_)
              · refine lv_iload hx hb dX5_common_169 (lv_at hl 0 rfl) ?_
                subst ez192 ez134
                exact W.iret (v := ((((0 : Int32) + (1 : Int32)) + (0 : Int32)) + (0 : Int32)) + (0 : Int32)) hx hb hr (fun t ht hW => ⟨by rw [show fX5_common xs ys ia ib ic id = ((((0 : Int32) + (1 : Int32)) + (0 : Int32)) + (0 : Int32)) + (0 : Int32) by unfold fX5_common; rw [if_neg c1, if_neg c135, if_neg c179, if_neg c180, if_neg c191, if_pos c193, if_pos c194]], ht⟩) (fun _ h => absurd h List.not_mem_nil) dX5_common_171
              · refine lv_iconst (v := 2) hx hb dX5_common_165 (by decide) ?_
                refine lv_goto (tgt := 171) hx hb dX5_common_166 (by decide) ?_
                subst ez192 ez134
                exact W.iret (v := (2 : Int32)) hx hb hr (fun t ht hW => ⟨by rw [show fX5_common xs ys ia ib ic id = (2 : Int32) by unfold fX5_common; rw [if_neg c1, if_neg c135, if_neg c179, if_neg c180, if_neg c191, if_pos c193, if_neg c194]], ht⟩) (fun _ h => absurd h List.not_mem_nil) dX5_common_171
            · refine lv_aload_n hx hb dX5_common_123 rfl (lv_at hl 5 rfl) ?_
              refine lv_iload_n hx hb dX5_common_124 rfl (lv_at hl 7 rfl) ?_
              refine lv_iload_n hx hb dX5_common_125 rfl (lv_at hl 8 rfl) ?_
              refine xr_V (q := (RX5, TX5, 14)) (ci := 9) (q0 := 0) (rest := [.int z192]) (As := [.int ib, .int ic]) ⟨hx, hb, hml, hown, hts⟩ (ct5_areEqual l D m1 m2 m3 m4 m5 m6 m7 kI kJ xs ys held la lb lc th pm rm on cl un ze lm ib ic oib oic) (cwV 2 hts gl_X5_107 rfl rfl rfl (by decide +kernel) ⟨Nat.le_of_ble_eq_true rfl, Nat.le_of_ble_eq_true rfl⟩) nN_mv hN hK hP [0, 1, 2, 3, 4, 5, 6] [0, 1] rfl rfl rfl rfl rfl hl.1 rfl (Nat.le_of_ble_eq_true rfl) dX5_common_126 ⟨Nat.le_of_ble_eq_true rfl, Nat.le_of_ble_eq_true rfl⟩ ?_
              refine lv_if_ne (tgt := 155) hx hb dX5_common_129 (by decide) (fun c195 => ?_) (fun c195 => ?_)
              · refine lv_iconst (v := 0) hx hb dX5_common_155 (by decide) ?_
                refine lv_iadd hx hb dX5_common_156 ?_
                refine lv_istore (lv' := [(5, .int (z192 + (0 : Int32))), (9, .int (fX5_isOn xs ys ic id ib)), (8, .int (fX5_isOn xs ys ic id ia)), (7, .int (fX5_isOn xs ys ia ib id)), (6, .int (fX5_isOn xs ys ia ib ic)), (0, .ref m1), (1, .int ia), (2, .int ib), (3, .int ic), (4, .int id)]) hx hb dX5_common_157 hl (by decide) rfl (fun ls hl => ?_)
                refine lv_iload hx hb dX5_common_159 (lv_at hl 0 rfl) ?_
                refine lv_iconst (v := 1) hx hb dX5_common_161 (by decide) ?_
                refine lv_icmp_le (tgt := 169) hx hb dX5_common_162 (by decide) (fun c196 => ?_) (fun c196 => ?_)
                · refine lv_iload hx hb dX5_common_169 (lv_at hl 0 rfl) ?_
                  subst ez192 ez134
                  exact W.iret (v := ((((0 : Int32) + (1 : Int32)) + (0 : Int32)) + (0 : Int32)) + (0 : Int32)) hx hb hr (fun t ht hW => ⟨by rw [show fX5_common xs ys ia ib ic id = ((((0 : Int32) + (1 : Int32)) + (0 : Int32)) + (0 : Int32)) + (0 : Int32) by unfold fX5_common; rw [if_neg c1, if_neg c135, if_neg c179, if_neg c180, if_neg c191, if_neg c193, if_neg c195, if_pos c196]], ht⟩) (fun _ h => absurd h List.not_mem_nil) dX5_common_171
                · refine lv_iconst (v := 2) hx hb dX5_common_165 (by decide) ?_
                  refine lv_goto (tgt := 171) hx hb dX5_common_166 (by decide) ?_
                  subst ez192 ez134
                  exact W.iret (v := (2 : Int32)) hx hb hr (fun t ht hW => ⟨by rw [show fX5_common xs ys ia ib ic id = (2 : Int32) by unfold fX5_common; rw [if_neg c1, if_neg c135, if_neg c179, if_neg c180, if_neg c191, if_neg c193, if_neg c195, if_neg c196]], ht⟩) (fun _ h => absurd h List.not_mem_nil) dX5_common_171
              · refine lv_aload_n hx hb dX5_common_132 rfl (lv_at hl 5 rfl) ?_
                refine lv_iload_n hx hb dX5_common_133 rfl (lv_at hl 7 rfl) ?_
                refine lv_iload hx hb dX5_common_134 (lv_at hl 9 rfl) ?_
                refine xr_V (q := (RX5, TX5, 14)) (ci := 9) (q0 := 0) (rest := [.int z192]) (As := [.int ib, .int id]) ⟨hx, hb, hml, hown, hts⟩ (ct5_areEqual l D m1 m2 m3 m4 m5 m6 m7 kI kJ xs ys held la lb lc th pm rm on cl un ze lm ib id oib oid) (cwV 2 hts gl_X5_107 rfl rfl rfl (by decide +kernel) ⟨Nat.le_of_ble_eq_true rfl, Nat.le_of_ble_eq_true rfl⟩) nN_mv hN hK hP [0, 1, 2, 3, 4, 5, 6] [0, 1] rfl rfl rfl rfl rfl hl.1 rfl (Nat.le_of_ble_eq_true rfl) dX5_common_136 ⟨Nat.le_of_ble_eq_true rfl, Nat.le_of_ble_eq_true rfl⟩ ?_
                refine lv_if_ne (tgt := 155) hx hb dX5_common_139 (by decide) (fun c197 => ?_) (fun c197 => ?_)
                · refine lv_iconst (v := 0) hx hb dX5_common_155 (by decide) ?_
                  refine lv_iadd hx hb dX5_common_156 ?_
                  refine lv_istore (lv' := [(5, .int (z192 + (0 : Int32))), (9, .int (fX5_isOn xs ys ic id ib)), (8, .int (fX5_isOn xs ys ic id ia)), (7, .int (fX5_isOn xs ys ia ib id)), (6, .int (fX5_isOn xs ys ia ib ic)), (0, .ref m1), (1, .int ia), (2, .int ib), (3, .int ic), (4, .int id)]) hx hb dX5_common_157 hl (by decide) rfl (fun ls hl => ?_)
                  refine lv_iload hx hb dX5_common_159 (lv_at hl 0 rfl) ?_
                  refine lv_iconst (v := 1) hx hb dX5_common_161 (by decide) ?_
                  refine lv_icmp_le (tgt := 169) hx hb dX5_common_162 (by decide) (fun c198 => ?_) (fun c198 => ?_)
                  · refine lv_iload hx hb dX5_common_169 (lv_at hl 0 rfl) ?_
                    subst ez192 ez134
                    exact W.iret (v := ((((0 : Int32) + (1 : Int32)) + (0 : Int32)) + (0 : Int32)) + (0 : Int32)) hx hb hr (fun t ht hW => ⟨by rw [show fX5_common xs ys ia ib ic id = ((((0 : Int32) + (1 : Int32)) + (0 : Int32)) + (0 : Int32)) + (0 : Int32) by unfold fX5_common; rw [if_neg c1, if_neg c135, if_neg c179, if_neg c180, if_neg c191, if_neg c193, if_pos c195, if_neg c197, if_pos c198]], ht⟩) (fun _ h => absurd h List.not_mem_nil) dX5_common_171
                  · refine lv_iconst (v := 2) hx hb dX5_common_165 (by decide) ?_
                    refine lv_goto (tgt := 171) hx hb dX5_common_166 (by decide) ?_
                    subst ez192 ez134
                    exact W.iret (v := (2 : Int32)) hx hb hr (fun t ht hW => ⟨by rw [show fX5_common xs ys ia ib ic id = (2 : Int32) by unfold fX5_common; rw [if_neg c1, if_neg c135, if_neg c179, if_neg c180, if_neg c191, if_neg c193, if_pos c195, if_neg c197, if_neg c198]], ht⟩) (fun _ h => absurd h List.not_mem_nil) dX5_common_171
                · refine lv_aload_n hx hb dX5_common_142 rfl (lv_at hl 5 rfl) ?_
                  refine lv_iload_n hx hb dX5_common_143 rfl (lv_at hl 6 rfl) ?_
                  refine lv_iload_n hx hb dX5_common_144 rfl (lv_at hl 7 rfl) ?_
                  refine xr_V (q := (RX5, TX5, 14)) (ci := 9) (q0 := 0) (rest := [.int z192]) (As := [.int ia, .int ib]) ⟨hx, hb, hml, hown, hts⟩ (ct5_areEqual l D m1 m2 m3 m4 m5 m6 m7 kI kJ xs ys held la lb lc th pm rm on cl un ze lm ia ib oia oib) (cwV 2 hts gl_X5_107 rfl rfl rfl (by decide +kernel) ⟨Nat.le_of_ble_eq_true rfl, Nat.le_of_ble_eq_true rfl⟩) nN_mv hN hK hP [0, 1, 2, 3, 4, 5, 6] [0, 1] rfl rfl rfl rfl rfl hl.1 rfl (Nat.le_of_ble_eq_true rfl) dX5_common_145 ⟨Nat.le_of_ble_eq_true rfl, Nat.le_of_ble_eq_true rfl⟩ ?_
                  refine lv_if_ne (tgt := 155) hx hb dX5_common_148 (by decide) (fun c199 => ?_) (fun c199 => ?_)
                  · refine lv_iconst (v := 0) hx hb dX5_common_155 (by decide) ?_
                    refine lv_iadd hx hb dX5_common_156 ?_
                    refine lv_istore (lv' := [(5, .int (z192 + (0 : Int32))), (9, .int (fX5_isOn xs ys ic id ib)), (8, .int (fX5_isOn xs ys ic id ia)), (7, .int (fX5_isOn xs ys ia ib id)), (6, .int (fX5_isOn xs ys ia ib ic)), (0, .ref m1), (1, .int ia), (2, .int ib), (3, .int ic), (4, .int id)]) hx hb dX5_common_157 hl (by decide) rfl (fun ls hl => ?_)
                    refine lv_iload hx hb dX5_common_159 (lv_at hl 0 rfl) ?_
                    refine lv_iconst (v := 1) hx hb dX5_common_161 (by decide) ?_
                    refine lv_icmp_le (tgt := 169) hx hb dX5_common_162 (by decide) (fun c200 => ?_) (fun c200 => ?_)
                    · refine lv_iload hx hb dX5_common_169 (lv_at hl 0 rfl) ?_
                      subst ez192 ez134
                      exact W.iret (v := ((((0 : Int32) + (1 : Int32)) + (0 : Int32)) + (0 : Int32)) + (0 : Int32)) hx hb hr (fun t ht hW => ⟨by rw [show fX5_common xs ys ia ib ic id = ((((0 : Int32) + (1 : Int32)) + (0 : Int32)) + (0 : Int32)) + (0 : Int32) by unfold fX5_common; rw [if_neg c1, if_neg c135, if_neg c179, if_neg c180, if_neg c191, if_neg c193, if_pos c195, if_pos c197, if_neg c199, if_pos c200]], ht⟩) (fun _ h => absurd h List.not_mem_nil) dX5_common_171
                    · refine lv_iconst (v := 2) hx hb dX5_common_165 (by decide) ?_
                      refine lv_goto (tgt := 171) hx hb dX5_common_166 (by decide) ?_
                      subst ez192 ez134
                      exact W.iret (v := (2 : Int32)) hx hb hr (fun t ht hW => ⟨by rw [show fX5_common xs ys ia ib ic id = (2 : Int32) by unfold fX5_common; rw [if_neg c1, if_neg c135, if_neg c179, if_neg c180, if_neg c191, if_neg c193, if_pos c195, if_pos c197, if_neg c199, if_neg c200]], ht⟩) (fun _ h => absurd h List.not_mem_nil) dX5_common_171
                  · refine lv_iconst (v := 1) hx hb dX5_common_151 (by decide) ?_
                    refine lv_goto (tgt := 156) hx hb dX5_common_152 (by decide) ?_
                    refine lv_iadd hx hb dX5_common_156 ?_
                    refine lv_istore (lv' := [(5, .int (z192 + (1 : Int32))), (9, .int (fX5_isOn xs ys ic id ib)), (8, .int (fX5_isOn xs ys ic id ia)), (7, .int (fX5_isOn xs ys ia ib id)), (6, .int (fX5_isOn xs ys ia ib ic)), (0, .ref m1), (1, .int ia), (2, .int ib), (3, .int ic), (4, .int id)]) hx hb dX5_common_157 hl (by decide) rfl (fun ls hl => ?_)
                    refine lv_iload hx hb dX5_common_159 (lv_at hl 0 rfl) ?_
                    refine lv_iconst (v := 1) hx hb dX5_common_161 (by decide) ?_
                    refine lv_icmp_le (tgt := 169) hx hb dX5_common_162 (by decide) (fun c201 => ?_) (fun c201 => ?_)
                    · refine lv_iload hx hb dX5_common_169 (lv_at hl 0 rfl) ?_
                      subst ez192 ez134
                      exact W.iret (v := ((((0 : Int32) + (1 : Int32)) + (0 : Int32)) + (0 : Int32)) + (1 : Int32)) hx hb hr (fun t ht hW => ⟨by rw [show fX5_common xs ys ia ib ic id = ((((0 : Int32) + (1 : Int32)) + (0 : Int32)) + (0 : Int32)) + (1 : Int32) by unfold fX5_common; rw [if_neg c1, if_neg c135, if_neg c179, if_neg c180, if_neg c191, if_neg c193, if_pos c195, if_pos c197, if_pos c199, if_pos c201]], ht⟩) (fun _ h => absurd h List.not_mem_nil) dX5_common_171
                    · refine lv_iconst (v := 2) hx hb dX5_common_165 (by decide) ?_
                      refine lv_goto (tgt := 171) hx hb dX5_common_166 (by decide) ?_
                      subst ez192 ez134
                      exact W.iret (v := (2 : Int32)) hx hb hr (fun t ht hW => ⟨by rw [show fX5_common xs ys ia ib ic id = (2 : Int32) by unfold fX5_common; rw [if_neg c1, if_neg c135, if_neg c179, if_neg c180, if_neg c191, if_neg c193, if_pos c195, if_pos c197, if_pos c199, if_neg c201]], ht⟩) (fun _ h => absurd h List.not_mem_nil) dX5_common_171
          · refine lv_aload_n hx hb dX5_common_98 rfl (lv_at hl 5 rfl) ?_
            refine lv_iload_n hx hb dX5_common_99 rfl (lv_at hl 6 rfl) ?_
            refine lv_iload hx hb dX5_common_100 (lv_at hl 9 rfl) ?_
            refine xr_V (q := (RX5, TX5, 14)) (ci := 9) (q0 := 0) (rest := [.int (z134 + (0 : Int32))]) (As := [.int ia, .int id]) ⟨hx, hb, hml, hown, hts⟩ (ct5_areEqual l D m1 m2 m3 m4 m5 m6 m7 kI kJ xs ys held la lb lc th pm rm on cl un ze lm ia id oia oid) (cwV 2 hts gl_X5_107 rfl rfl rfl (by decide +kernel) ⟨Nat.le_of_ble_eq_true rfl, Nat.le_of_ble_eq_true rfl⟩) nN_mv hN hK hP [0, 1, 2, 3, 4, 5, 6] [0, 1] rfl rfl rfl rfl rfl hl.1 rfl (Nat.le_of_ble_eq_true rfl) dX5_common_102 ⟨Nat.le_of_ble_eq_true rfl, Nat.le_of_ble_eq_true rfl⟩ ?_
            refine lv_if_ne (tgt := 112) hx hb dX5_common_105 (by decide) (fun c202 => ?_) (fun c202 => ?_)
            · refine lv_iconst (v := 0) hx hb dX5_common_112 (by decide) ?_
              refine lv_iadd hx hb dX5_common_113 ?_
              refine lv_topi (fun z203 ez203 => ?_)
              refine lv_istore (lv' := [(5, .int z203), (9, .int (fX5_isOn xs ys ic id ib)), (8, .int (fX5_isOn xs ys ic id ia)), (7, .int (fX5_isOn xs ys ia ib id)), (6, .int (fX5_isOn xs ys ia ib ic)), (0, .ref m1), (1, .int ia), (2, .int ib), (3, .int ic), (4, .int id)]) hx hb dX5_common_114 hl (by decide) rfl (fun ls hl => ?_)
              refine lv_iload hx hb dX5_common_116 (lv_at hl 0 rfl) ?_
              refine lv_iload hx hb dX5_common_118 (lv_at hl 1 rfl) ?_
              refine lv_if_eq (tgt := 155) hx hb dX5_common_120 (by decide) (fun c204 => ?_) (fun c204 => ?_)
              · refine lv_iconst (v := 0) hx hb dX5_common_155 (by decide) ?_
                refine lv_iadd hx hb dX5_common_156 ?_
                refine lv_istore (lv' := [(5, .int (z203 + (0 : Int32))), (9, .int (fX5_isOn xs ys ic id ib)), (8, .int (fX5_isOn xs ys ic id ia)), (7, .int (fX5_isOn xs ys ia ib id)), (6, .int (fX5_isOn xs ys ia ib ic)), (0, .ref m1), (1, .int ia), (2, .int ib), (3, .int ic), (4, .int id)]) hx hb dX5_common_157 hl (by decide) rfl (fun ls hl => ?_)
                refine lv_iload hx hb dX5_common_159 (lv_at hl 0 rfl) ?_
                refine lv_iconst (v := 1) hx hb dX5_common_161 (by decide) ?_
                refine lv_icmp_le (tgt := 169) hx hb dX5_common_162 (by decide) (fun c205 => ?_) (fun c205 => ?_)
                · refine lv_iload hx hb dX5_common_169 (lv_at hl 0 rfl) ?_
                  subst ez203 ez134
                  exact W.iret (v := ((((0 : Int32) + (1 : Int32)) + (0 : Int32)) + (0 : Int32)) + (0 : Int32)) hx hb hr (fun t ht hW => ⟨by rw [show fX5_common xs ys ia ib ic id = ((((0 : Int32) + (1 : Int32)) + (0 : Int32)) + (0 : Int32)) + (0 : Int32) by unfold fX5_common; rw [if_neg c1, if_neg c135, if_neg c179, if_neg c180, if_pos c191, if_neg c202, if_pos c204, if_pos c205]], ht⟩) (fun _ h => absurd h List.not_mem_nil) dX5_common_171
                · refine lv_iconst (v := 2) hx hb dX5_common_165 (by decide) ?_
                  refine lv_goto (tgt := 171) hx hb dX5_common_166 (by decide) ?_
                  subst ez203 ez134
                  exact W.iret (v := (2 : Int32)) hx hb hr (fun t ht hW => ⟨by rw [show fX5_common xs ys ia ib ic id = (2 : Int32) by unfold fX5_common; rw [if_neg c1, if_neg c135, if_neg c179, if_neg c180, if_pos c191, if_neg c202, if_pos c204, if_neg c205]], ht⟩) (fun _ h => absurd h List.not_mem_nil) dX5_common_171
              · refine lv_aload_n hx hb dX5_common_123 rfl (lv_at hl 5 rfl) ?_
                refine lv_iload_n hx hb dX5_common_124 rfl (lv_at hl 7 rfl) ?_
                refine lv_iload_n hx hb dX5_common_125 rfl (lv_at hl 8 rfl) ?_
                refine xr_V (q := (RX5, TX5, 14)) (ci := 9) (q0 := 0) (rest := [.int z203]) (As := [.int ib, .int ic]) ⟨hx, hb, hml, hown, hts⟩ (ct5_areEqual l D m1 m2 m3 m4 m5 m6 m7 kI kJ xs ys held la lb lc th pm rm on cl un ze lm ib ic oib oic) (cwV 2 hts gl_X5_107 rfl rfl rfl (by decide +kernel) ⟨Nat.le_of_ble_eq_true rfl, Nat.le_of_ble_eq_true rfl⟩) nN_mv hN hK hP [0, 1, 2, 3, 4, 5, 6] [0, 1] rfl rfl rfl rfl rfl hl.1 rfl (Nat.le_of_ble_eq_true rfl) dX5_common_126 ⟨Nat.le_of_ble_eq_true rfl, Nat.le_of_ble_eq_true rfl⟩ ?_
                refine lv_if_ne (tgt := 155) hx hb dX5_common_129 (by decide) (fun c206 => ?_) (fun c206 => ?_)
                · refine lv_iconst (v := 0) hx hb dX5_common_155 (by decide) ?_
                  refine lv_iadd hx hb dX5_common_156 ?_
                  refine lv_istore (lv' := [(5, .int (z203 + (0 : Int32))), (9, .int (fX5_isOn xs ys ic id ib)), (8, .int (fX5_isOn xs ys ic id ia)), (7, .int (fX5_isOn xs ys ia ib id)), (6, .int (fX5_isOn xs ys ia ib ic)), (0, .ref m1), (1, .int ia), (2, .int ib), (3, .int ic), (4, .int id)]) hx hb dX5_common_157 hl (by decide) rfl (fun ls hl => ?_)
                  refine lv_iload hx hb dX5_common_159 (lv_at hl 0 rfl) ?_
                  refine lv_iconst (v := 1) hx hb dX5_common_161 (by decide) ?_
                  refine lv_icmp_le (tgt := 169) hx hb dX5_common_162 (by decide) (fun c207 => ?_) (fun c207 => ?_)
                  · refine lv_iload hx hb dX5_common_169 (lv_at hl 0 rfl) ?_
                    subst ez203 ez134
                    exact W.iret (v := ((((0 : Int32) + (1 : Int32)) + (0 : Int32)) + (0 : Int32)) + (0 : Int32)) hx hb hr (fun t ht hW => ⟨by rw [show fX5_common xs ys ia ib ic id = ((((0 : Int32) + (1 : Int32)) + (0 : Int32)) + (0 : Int32)) + (0 : Int32) by unfold fX5_common; rw [if_neg c1, if_neg c135, if_neg c179, if_neg c180, if_pos c191, if_neg c202, if_neg c204, if_neg c206, if_pos c207]], ht⟩) (fun _ h => absurd h List.not_mem_nil) dX5_common_171
                  · refine lv_iconst (v := 2) hx hb dX5_common_165 (by decide) ?_
                    refine lv_goto (tgt := 171) hx hb dX5_common_166 (by decide) ?_
                    subst ez203 ez134
                    exact W.iret (v := (2 : Int32)) hx hb hr (fun t ht hW => ⟨by rw [show fX5_common xs ys ia ib ic id = (2 : Int32) by unfold fX5_common; rw [if_neg c1, if_neg c135, if_neg c179, if_neg c180, if_pos c191, if_neg c202, if_neg c204, if_neg c206, if_neg c207]], ht⟩) (fun _ h => absurd h List.not_mem_nil) dX5_common_171
                · refine lv_aload_n hx hb dX5_common_132 rfl (lv_at hl 5 rfl) ?_
                  refine lv_iload_n hx hb dX5_common_133 rfl (lv_at hl 7 rfl) ?_
                  refine lv_iload hx hb dX5_common_134 (lv_at hl 9 rfl) ?_
                  refine xr_V (q := (RX5, TX5, 14)) (ci := 9) (q0 := 0) (rest := [.int z203]) (As := [.int ib, .int id]) ⟨hx, hb, hml, hown, hts⟩ (ct5_areEqual l D m1 m2 m3 m4 m5 m6 m7 kI kJ xs ys held la lb lc th pm rm on cl un ze lm ib id oib oid) (cwV 2 hts gl_X5_107 rfl rfl rfl (by decide +kernel) ⟨Nat.le_of_ble_eq_true rfl, Nat.le_of_ble_eq_true rfl⟩) nN_mv hN hK hP [0, 1, 2, 3, 4, 5, 6] [0, 1] rfl rfl rfl rfl rfl hl.1 rfl (Nat.le_of_ble_eq_true rfl) dX5_common_136 ⟨Nat.le_of_ble_eq_true rfl, Nat.le_of_ble_eq_true rfl⟩ ?_
                  refine lv_if_ne (tgt := 155) hx hb dX5_common_139 (by decide) (fun c208 => ?_) (fun c208 => ?_)
                  · refine lv_iconst (v := 0) hx hb dX5_common_155 (by decide) ?_
                    refine lv_iadd hx hb dX5_common_156 ?_
                    refine lv_istore (lv' := [(5, .int (z203 + (0 : Int32))), (9, .int (fX5_isOn xs ys ic id ib)), (8, .int (fX5_isOn xs ys ic id ia)), (7, .int (fX5_isOn xs ys ia ib id)), (6, .int (fX5_isOn xs ys ia ib ic)), (0, .ref m1), (1, .int ia), (2, .int ib), (3, .int ic), (4, .int id)]) hx hb dX5_common_157 hl (by decide) rfl (fun ls hl => ?_)
                    refine lv_iload hx hb dX5_common_159 (lv_at hl 0 rfl) ?_
                    refine lv_iconst (v := 1) hx hb dX5_common_161 (by decide) ?_
                    refine lv_icmp_le (tgt := 169) hx hb dX5_common_162 (by decide) (fun c209 => ?_) (fun c209 => ?_)
                    · refine lv_iload hx hb dX5_common_169 (lv_at hl 0 rfl) ?_
                      subst ez203 ez134
                      exact W.iret (v := ((((0 : Int32) + (1 : Int32)) + (0 : Int32)) + (0 : Int32)) + (0 : Int32)) hx hb hr (fun t ht hW => ⟨by rw [show fX5_common xs ys ia ib ic id = ((((0 : Int32) + (1 : Int32)) + (0 : Int32)) + (0 : Int32)) + (0 : Int32) by unfold fX5_common; rw [if_neg c1, if_neg c135, if_neg c179, if_neg c180, if_pos c191, if_neg c202, if_neg c204, if_pos c206, if_neg c208, if_pos c209]], ht⟩) (fun _ h => absurd h List.not_mem_nil) dX5_common_171
                    · refine lv_iconst (v := 2) hx hb dX5_common_165 (by decide) ?_
                      refine lv_goto (tgt := 171) hx hb dX5_common_166 (by decide) ?_
                      subst ez203 ez134
                      exact W.iret (v := (2 : Int32)) hx hb hr (fun t ht hW => ⟨by rw [show fX5_common xs ys ia ib ic id = (2 : Int32) by unfold fX5_common; rw [if_neg c1, if_neg c135, if_neg c179, if_neg c180, if_pos c191, if_neg c202, if_neg c204, if_pos c206, if_neg c208, if_neg c209]], ht⟩) (fun _ h => absurd h List.not_mem_nil) dX5_common_171
                  · refine lv_aload_n hx hb dX5_common_142 rfl (lv_at hl 5 rfl) ?_
                    refine lv_iload_n hx hb dX5_common_143 rfl (lv_at hl 6 rfl) ?_
                    refine lv_iload_n hx hb dX5_common_144 rfl (lv_at hl 7 rfl) ?_
                    refine xr_V (q := (RX5, TX5, 14)) (ci := 9) (q0 := 0) (rest := [.int z203]) (As := [.int ia, .int ib]) ⟨hx, hb, hml, hown, hts⟩ (ct5_areEqual l D m1 m2 m3 m4 m5 m6 m7 kI kJ xs ys held la lb lc th pm rm on cl un ze lm ia ib oia oib) (cwV 2 hts gl_X5_107 rfl rfl rfl (by decide +kernel) ⟨Nat.le_of_ble_eq_true rfl, Nat.le_of_ble_eq_true rfl⟩) nN_mv hN hK hP [0, 1, 2, 3, 4, 5, 6] [0, 1] rfl rfl rfl rfl rfl hl.1 rfl (Nat.le_of_ble_eq_true rfl) dX5_common_145 ⟨Nat.le_of_ble_eq_true rfl, Nat.le_of_ble_eq_true rfl⟩ ?_
                    refine lv_if_ne (tgt := 155) hx hb dX5_common_148 (by decide) (fun c210 => ?_) (fun c210 => ?_)
                    · refine lv_iconst (v := 0) hx hb dX5_common_155 (by decide) ?_
                      refine lv_iadd hx hb dX5_common_156 ?_
                      refine lv_istore (lv' := [(5, .int (z203 + (0 : Int32))), (9, .int (fX5_isOn xs ys ic id ib)), (8, .int (fX5_isOn xs ys ic id ia)), (7, .int (fX5_isOn xs ys ia ib id)), (6, .int (fX5_isOn xs ys ia ib ic)), (0, .ref m1), (1, .int ia), (2, .int ib), (3, .int ic), (4, .int id)]) hx hb dX5_common_157 hl (by decide) rfl (fun ls hl => ?_)
                      refine lv_iload hx hb dX5_common_159 (lv_at hl 0 rfl) ?_
                      refine lv_iconst (v := 1) hx hb dX5_common_161 (by decide) ?_
                      refine lv_icmp_le (tgt := 169) hx hb dX5_common_162 (by decide) (fun c211 => ?_) (fun c211 => ?_)
                      · refine lv_iload hx hb dX5_common_169 (lv_at hl 0 rfl) ?_
                        subst ez203 ez134
                        exact W.iret (v := ((((0 : Int32) + (1 : Int32)) + (0 : Int32)) + (0 : Int32)) + (0 : Int32)) hx hb hr (fun t ht hW => ⟨by rw [show fX5_common xs ys ia ib ic id = ((((0 : Int32) + (1 : Int32)) + (0 : Int32)) + (0 : Int32)) + (0 : Int32) by unfold fX5_common; rw [if_neg c1, if_neg c135, if_neg c179, if_neg c180, if_pos c191, if_neg c202, if_neg c204, if_pos c206, if_pos c208, if_neg c210, if_pos c211]], ht⟩) (fun _ h => absurd h List.not_mem_nil) dX5_common_171
                      · refine lv_iconst (v := 2) hx hb dX5_common_165 (by decide) ?_
                        refine lv_goto (tgt := 171) hx hb dX5_common_166 (by decide) ?_
                        subst ez203 ez134
                        exact W.iret (v := (2 : Int32)) hx hb hr (fun t ht hW => ⟨by rw [show fX5_common xs ys ia ib ic id = (2 : Int32) by unfold fX5_common; rw [if_neg c1, if_neg c135, if_neg c179, if_neg c180, if_pos c191, if_neg c202, if_neg c204, if_pos c206, if_pos c208, if_neg c210, if_neg c211]], ht⟩) (fun _ h => absurd h List.not_mem_nil) dX5_common_171
                    · refine lv_iconst (v := 1) hx hb dX5_common_151 (by decide) ?_
                      refine lv_goto (tgt := 156) hx hb dX5_common_152 (by decide) ?_
                      refine lv_iadd hx hb dX5_common_156 ?_
                      refine lv_istore (lv' := [(5, .int (z203 + (1 : Int32))), (9, .int (fX5_isOn xs ys ic id ib)), (8, .int (fX5_isOn xs ys ic id ia)), (7, .int (fX5_isOn xs ys ia ib id)), (6, .int (fX5_isOn xs ys ia ib ic)), (0, .ref m1), (1, .int ia), (2, .int ib), (3, .int ic), (4, .int id)]) hx hb dX5_common_157 hl (by decide) rfl (fun ls hl => ?_)
                      refine lv_iload hx hb dX5_common_159 (lv_at hl 0 rfl) ?_
                      refine lv_iconst (v := 1) hx hb dX5_common_161 (by decide) ?_
                      refine lv_icmp_le (tgt := 169) hx hb dX5_common_162 (by decide) (fun c212 => ?_) (fun c212 => ?_)
                      · refine lv_iload hx hb dX5_common_169 (lv_at hl 0 rfl) ?_
                        subst ez203 ez134
                        exact W.iret (v := ((((0 : Int32) + (1 : Int32)) + (0 : Int32)) + (0 : Int32)) + (1 : Int32)) hx hb hr (fun t ht hW => ⟨by rw [show fX5_common xs ys ia ib ic id = ((((0 : Int32) + (1 : Int32)) + (0 : Int32)) + (0 : Int32)) + (1 : Int32) by unfold fX5_common; rw [if_neg c1, if_neg c135, if_neg c179, if_neg c180, if_pos c191, if_neg c202, if_neg c204, if_pos c206, if_pos c208, if_pos c210, if_pos c212]], ht⟩) (fun _ h => absurd h List.not_mem_nil) dX5_common_171
                      · refine lv_iconst (v := 2) hx hb dX5_common_165 (by decide) ?_
                        refine lv_goto (tgt := 171) hx hb dX5_common_166 (by decide) ?_
                        subst ez203 ez134
                        exact W.iret (v := (2 : Int32)) hx hb hr (fun t ht hW => ⟨by rw [show fX5_common xs ys ia ib ic id = (2 : Int32) by unfold fX5_common; rw [if_neg c1, if_neg c135, if_neg c179, if_neg c180, if_pos c191, if_neg c202, if_neg c204, if_pos c206, if_pos c208, if_pos c210, if_neg c212]], ht⟩) (fun _ h => absurd h List.not_mem_nil) dX5_common_171
            · refine lv_iconst (v := 1) hx hb dX5_common_108 (by decide) ?_
              refine lv_goto (tgt := 113) hx hb dX5_common_109 (by decide) ?_
              refine lv_iadd hx hb dX5_common_113 ?_
              refine lv_topi (fun z213 ez213 => ?_)
              refine lv_istore (lv' := [(5, .int z213), (9, .int (fX5_isOn xs ys ic id ib)), (8, .int (fX5_isOn xs ys ic id ia)), (7, .int (fX5_isOn xs ys ia ib id)), (6, .int (fX5_isOn xs ys ia ib ic)), (0, .ref m1), (1, .int ia), (2, .int ib), (3, .int ic), (4, .int id)]) hx hb dX5_common_114 hl (by decide) rfl (fun ls hl => ?_)
              refine lv_iload hx hb dX5_common_116 (lv_at hl 0 rfl) ?_
              refine lv_iload hx hb dX5_common_118 (lv_at hl 1 rfl) ?_
              refine lv_if_eq (tgt := 155) hx hb dX5_common_120 (by decide) (fun c214 => ?_) (fun c214 => ?_)
              · refine lv_iconst (v := 0) hx hb dX5_common_155 (by decide) ?_
                refine lv_iadd hx hb dX5_common_156 ?_
                refine lv_istore (lv' := [(5, .int (z213 + (0 : Int32))), (9, .int (fX5_isOn xs ys ic id ib)), (8, .int (fX5_isOn xs ys ic id ia)), (7, .int (fX5_isOn xs ys ia ib id)), (6, .int (fX5_isOn xs ys ia ib ic)), (0, .ref m1), (1, .int ia), (2, .int ib), (3, .int ic), (4, .int id)]) hx hb dX5_common_157 hl (by decide) rfl (fun ls hl => ?_)
                refine lv_iload hx hb dX5_common_159 (lv_at hl 0 rfl) ?_
                refine lv_iconst (v := 1) hx hb dX5_common_161 (by decide) ?_
                refine lv_icmp_le (tgt := 169) hx hb dX5_common_162 (by decide) (fun c215 => ?_) (fun c215 => ?_)
                · refine lv_iload hx hb dX5_common_169 (lv_at hl 0 rfl) ?_
                  subst ez213 ez134
                  exact W.iret (v := ((((0 : Int32) + (1 : Int32)) + (0 : Int32)) + (1 : Int32)) + (0 : Int32)) hx hb hr (fun t ht hW => ⟨by rw [show fX5_common xs ys ia ib ic id = ((((0 : Int32) + (1 : Int32)) + (0 : Int32)) + (1 : Int32)) + (0 : Int32) by unfold fX5_common; rw [if_neg c1, if_neg c135, if_neg c179, if_neg c180, if_pos c191, if_pos c202, if_pos c214, if_pos c215]], ht⟩) (fun _ h => absurd h List.not_mem_nil) dX5_common_171
                · refine lv_iconst (v := 2) hx hb dX5_common_165 (by decide) ?_
                  refine lv_goto (tgt := 171) hx hb dX5_common_166 (by decide) ?_
                  subst ez213 ez134
                  exact W.iret (v := (2 : Int32)) hx hb hr (fun t ht hW => ⟨by rw [show fX5_common xs ys ia ib ic id = (2 : Int32) by unfold fX5_common; rw [if_neg c1, if_neg c135, if_neg c179, if_neg c180, if_pos c191, if_pos c202, if_pos c214, if_neg c215]], ht⟩) (fun _ h => absurd h List.not_mem_nil) dX5_common_171
              · refine lv_aload_n hx hb dX5_common_123 rfl (lv_at hl 5 rfl) ?_
                refine lv_iload_n hx hb dX5_common_124 rfl (lv_at hl 7 rfl) ?_
                refine lv_iload_n hx hb dX5_common_125 rfl (lv_at hl 8 rfl) ?_
                refine xr_V (q := (RX5, TX5, 14)) (ci := 9) (q0 := 0) (rest := [.int z213]) (As := [.int ib, .int ic]) ⟨hx, hb, hml, hown, hts⟩ (ct5_areEqual l D m1 m2 m3 m4 m5 m6 m7 kI kJ xs ys held la lb lc th pm rm on cl un ze lm ib ic oib oic) (cwV 2 hts gl_X5_107 rfl rfl rfl (by decide +kernel) ⟨Nat.le_of_ble_eq_true rfl, Nat.le_of_ble_eq_true rfl⟩) nN_mv hN hK hP [0, 1, 2, 3, 4, 5, 6] [0, 1] rfl rfl rfl rfl rfl hl.1 rfl (Nat.le_of_ble_eq_true rfl) dX5_common_126 ⟨Nat.le_of_ble_eq_true rfl, Nat.le_of_ble_eq_true rfl⟩ ?_
                refine lv_if_ne (tgt := 155) hx hb dX5_common_129 (by decide) (fun c216 => ?_) (fun c216 => ?_)
                · refine lv_iconst (v := 0) hx hb dX5_common_155 (by decide) ?_
                  refine lv_iadd hx hb dX5_common_156 ?_
                  refine lv_istore (lv' := [(5, .int (z213 + (0 : Int32))), (9, .int (fX5_isOn xs ys ic id ib)), (8, .int (fX5_isOn xs ys ic id ia)), (7, .int (fX5_isOn xs ys ia ib id)), (6, .int (fX5_isOn xs ys ia ib ic)), (0, .ref m1), (1, .int ia), (2, .int ib), (3, .int ic), (4, .int id)]) hx hb dX5_common_157 hl (by decide) rfl (fun ls hl => ?_)
                  refine lv_iload hx hb dX5_common_159 (lv_at hl 0 rfl) ?_
                  refine lv_iconst (v := 1) hx hb dX5_common_161 (by decide) ?_
                  refine lv_icmp_le (tgt := 169) hx hb dX5_common_162 (by decide) (fun c217 => ?_) (fun c217 => ?_)
                  · refine lv_iload hx hb dX5_common_169 (lv_at hl 0 rfl) ?_
                    subst ez213 ez134
                    exact W.iret (v := ((((0 : Int32) + (1 : Int32)) + (0 : Int32)) + (1 : Int32)) + (0 : Int32)) hx hb hr (fun t ht hW => ⟨by rw [show fX5_common xs ys ia ib ic id = ((((0 : Int32) + (1 : Int32)) + (0 : Int32)) + (1 : Int32)) + (0 : Int32) by unfold fX5_common; rw [if_neg c1, if_neg c135, if_neg c179, if_neg c180, if_pos c191, if_pos c202, if_neg c214, if_neg c216, if_pos c217]], ht⟩) (fun _ h => absurd h List.not_mem_nil) dX5_common_171
                  · refine lv_iconst (v := 2) hx hb dX5_common_165 (by decide) ?_
                    refine lv_goto (tgt := 171) hx hb dX5_common_166 (by decide) ?_
                    subst ez213 ez134
                    exact W.iret (v := (2 : Int32)) hx hb hr (fun t ht hW => ⟨by rw [show fX5_common xs ys ia ib ic id = (2 : Int32) by unfold fX5_common; rw [if_neg c1, if_neg c135, if_neg c179, if_neg c180, if_pos c191, if_pos c202, if_neg c214, if_neg c216, if_neg c217]], ht⟩) (fun _ h => absurd h List.not_mem_nil) dX5_common_171
                · refine lv_aload_n hx hb dX5_common_132 rfl (lv_at hl 5 rfl) ?_
                  refine lv_iload_n hx hb dX5_common_133 rfl (lv_at hl 7 rfl) ?_
                  refine lv_iload hx hb dX5_common_134 (lv_at hl 9 rfl) ?_
                  refine xr_V (q := (RX5, TX5, 14)) (ci := 9) (q0 := 0) (rest := [.int z213]) (As := [.int ib, .int id]) ⟨hx, hb, hml, hown, hts⟩ (ct5_areEqual l D m1 m2 m3 m4 m5 m6 m7 kI kJ xs ys held la lb lc th pm rm on cl un ze lm ib id oib oid) (cwV 2 hts gl_X5_107 rfl rfl rfl (by decide +kernel) ⟨Nat.le_of_ble_eq_true rfl, Nat.le_of_ble_eq_true rfl⟩) nN_mv hN hK hP [0, 1, 2, 3, 4, 5, 6] [0, 1] rfl rfl rfl rfl rfl hl.1 rfl (Nat.le_of_ble_eq_true rfl) dX5_common_136 ⟨Nat.le_of_ble_eq_true rfl, Nat.le_of_ble_eq_true rfl⟩ ?_
                  refine lv_if_ne (tgt := 155) hx hb dX5_common_139 (by decide) (fun c218 => ?_) (fun c218 => ?_)
                  · refine lv_iconst (v := 0) hx hb dX5_common_155 (by decide) ?_
                    refine lv_iadd hx hb dX5_common_156 ?_
                    refine lv_istore (lv' := [(5, .int (z213 + (0 : Int32))), (9, .int (fX5_isOn xs ys ic id ib)), (8, .int (fX5_isOn xs ys ic id ia)), (7, .int (fX5_isOn xs ys ia ib id)), (6, .int (fX5_isOn xs ys ia ib ic)), (0, .ref m1), (1, .int ia), (2, .int ib), (3, .int ic), (4, .int id)]) hx hb dX5_common_157 hl (by decide) rfl (fun ls hl => ?_)
                    refine lv_iload hx hb dX5_common_159 (lv_at hl 0 rfl) ?_
                    refine lv_iconst (v := 1) hx hb dX5_common_161 (by decide) ?_
                    refine lv_icmp_le (tgt := 169) hx hb dX5_common_162 (by decide) (fun c219 => ?_) (fun c219 => ?_)
                    · refine lv_iload hx hb dX5_common_169 (lv_at hl 0 rfl) ?_
                      subst ez213 ez134
                      exact W.iret (v := ((((0 : Int32) + (1 : Int32)) + (0 : Int32)) + (1 : Int32)) + (0 : Int32)) hx hb hr (fun t ht hW => ⟨by rw [show fX5_common xs ys ia ib ic id = ((((0 : Int32) + (1 : Int32)) + (0 : Int32)) + (1 : Int32)) + (0 : Int32) by unfold fX5_common; rw [if_neg c1, if_neg c135, if_neg c179, if_neg c180, if_pos c191, if_pos c202, if_neg c214, if_pos c216, if_neg c218, if_pos c219]], ht⟩) (fun _ h => absurd h List.not_mem_nil) dX5_common_171
                    · refine lv_iconst (v := 2) hx hb dX5_common_165 (by decide) ?_
                      refine lv_goto (tgt := 171) hx hb dX5_common_166 (by decide) ?_
                      subst ez213 ez134
                      exact W.iret (v := (2 : Int32)) hx hb hr (fun t ht hW => ⟨by rw [show fX5_common xs ys ia ib ic id = (2 : Int32) by unfold fX5_common; rw [if_neg c1, if_neg c135, if_neg c179, if_neg c180, if_pos c191, if_pos c202, if_neg c214, if_pos c216, if_neg c218, if_neg c219]], ht⟩) (fun _ h => absurd h List.not_mem_nil) dX5_common_171
                  · refine lv_aload_n hx hb dX5_common_142 rfl (lv_at hl 5 rfl) ?_
                    refine lv_iload_n hx hb dX5_common_143 rfl (lv_at hl 6 rfl) ?_
                    refine lv_iload_n hx hb dX5_common_144 rfl (lv_at hl 7 rfl) ?_
                    refine xr_V (q := (RX5, TX5, 14)) (ci := 9) (q0 := 0) (rest := [.int z213]) (As := [.int ia, .int ib]) ⟨hx, hb, hml, hown, hts⟩ (ct5_areEqual l D m1 m2 m3 m4 m5 m6 m7 kI kJ xs ys held la lb lc th pm rm on cl un ze lm ia ib oia oib) (cwV 2 hts gl_X5_107 rfl rfl rfl (by decide +kernel) ⟨Nat.le_of_ble_eq_true rfl, Nat.le_of_ble_eq_true rfl⟩) nN_mv hN hK hP [0, 1, 2, 3, 4, 5, 6] [0, 1] rfl rfl rfl rfl rfl hl.1 rfl (Nat.le_of_ble_eq_true rfl) dX5_common_145 ⟨Nat.le_of_ble_eq_true rfl, Nat.le_of_ble_eq_true rfl⟩ ?_
                    refine lv_if_ne (tgt := 155) hx hb dX5_common_148 (by decide) (fun c220 => ?_) (fun c220 => ?_)
                    · refine lv_iconst (v := 0) hx hb dX5_common_155 (by decide) ?_
                      refine lv_iadd hx hb dX5_common_156 ?_
                      refine lv_istore (lv' := [(5, .int (z213 + (0 : Int32))), (9, .int (fX5_isOn xs ys ic id ib)), (8, .int (fX5_isOn xs ys ic id ia)), (7, .int (fX5_isOn xs ys ia ib id)), (6, .int (fX5_isOn xs ys ia ib ic)), (0, .ref m1), (1, .int ia), (2, .int ib), (3, .int ic), (4, .int id)]) hx hb dX5_common_157 hl (by decide) rfl (fun ls hl => ?_)
                      refine lv_iload hx hb dX5_common_159 (lv_at hl 0 rfl) ?_
                      refine lv_iconst (v := 1) hx hb dX5_common_161 (by decide) ?_
                      refine lv_icmp_le (tgt := 169) hx hb dX5_common_162 (by decide) (fun c221 => ?_) (fun c221 => ?_)
                      · refine lv_iload hx hb dX5_common_169 (lv_at hl 0 rfl) ?_
                        subst ez213 ez134
                        exact W.iret (v := ((((0 : Int32) + (1 : Int32)) + (0 : Int32)) + (1 : Int32)) + (0 : Int32)) hx hb hr (fun t ht hW => ⟨by rw [show fX5_common xs ys ia ib ic id = ((((0 : Int32) + (1 : Int32)) + (0 : Int32)) + (1 : Int32)) + (0 : Int32) by unfold fX5_common; rw [if_neg c1, if_neg c135, if_neg c179, if_neg c180, if_pos c191, if_pos c202, if_neg c214, if_pos c216, if_pos c218, if_neg c220, if_pos c221]], ht⟩) (fun _ h => absurd h List.not_mem_nil) dX5_common_171
                      · refine lv_iconst (v := 2) hx hb dX5_common_165 (by decide) ?_
                        refine lv_goto (tgt := 171) hx hb dX5_common_166 (by decide) ?_
                        subst ez213 ez134
                        exact W.iret (v := (2 : Int32)) hx hb hr (fun t ht hW => ⟨by rw [show fX5_common xs ys ia ib ic id = (2 : Int32) by unfold fX5_common; rw [if_neg c1, if_neg c135, if_neg c179, if_neg c180, if_pos c191, if_pos c202, if_neg c214, if_pos c216, if_pos c218, if_neg c220, if_neg c221]], ht⟩) (fun _ h => absurd h List.not_mem_nil) dX5_common_171
                    · refine lv_iconst (v := 1) hx hb dX5_common_151 (by decide) ?_
                      refine lv_goto (tgt := 156) hx hb dX5_common_152 (by decide) ?_
                      refine lv_iadd hx hb dX5_common_156 ?_
                      refine lv_istore (lv' := [(5, .int (z213 + (1 : Int32))), (9, .int (fX5_isOn xs ys ic id ib)), (8, .int (fX5_isOn xs ys ic id ia)), (7, .int (fX5_isOn xs ys ia ib id)), (6, .int (fX5_isOn xs ys ia ib ic)), (0, .ref m1), (1, .int ia), (2, .int ib), (3, .int ic), (4, .int id)]) hx hb dX5_common_157 hl (by decide) rfl (fun ls hl => ?_)
                      refine lv_iload hx hb dX5_common_159 (lv_at hl 0 rfl) ?_
                      refine lv_iconst (v := 1) hx hb dX5_common_161 (by decide) ?_
                      refine lv_icmp_le (tgt := 169) hx hb dX5_common_162 (by decide) (fun c222 => ?_) (fun c222 => ?_)
                      · refine lv_iload hx hb dX5_common_169 (lv_at hl 0 rfl) ?_
                        subst ez213 ez134
                        exact W.iret (v := ((((0 : Int32) + (1 : Int32)) + (0 : Int32)) + (1 : Int32)) + (1 : Int32)) hx hb hr (fun t ht hW => ⟨by rw [show fX5_common xs ys ia ib ic id = ((((0 : Int32) + (1 : Int32)) + (0 : Int32)) + (1 : Int32)) + (1 : Int32) by unfold fX5_common; rw [if_neg c1, if_neg c135, if_neg c179, if_neg c180, if_pos c191, if_pos c202, if_neg c214, if_pos c216, if_pos c218, if_pos c220, if_pos c222]], ht⟩) (fun _ h => absurd h List.not_mem_nil) dX5_common_171
                      · refine lv_iconst (v := 2) hx hb dX5_common_165 (by decide) ?_
                        refine lv_goto (tgt := 171) hx hb dX5_common_166 (by decide) ?_
                        subst ez213 ez134
                        exact W.iret (v := (2 : Int32)) hx hb hr (fun t ht hW => ⟨by rw [show fX5_common xs ys ia ib ic id = (2 : Int32) by unfold fX5_common; rw [if_neg c1, if_neg c135, if_neg c179, if_neg c180, if_pos c191, if_pos c202, if_neg c214, if_pos c216, if_pos c218, if_pos c220, if_neg c222]], ht⟩) (fun _ h => absurd h List.not_mem_nil) dX5_common_171
      · refine lv_iconst (v := 1) hx hb dX5_common_74 (by decide) ?_
        refine lv_goto (tgt := 79) hx hb dX5_common_75 (by decide) ?_
        refine lv_iadd hx hb dX5_common_79 ?_
        refine lv_istore (lv' := [(5, .int (z134 + (1 : Int32))), (9, .int (fX5_isOn xs ys ic id ib)), (8, .int (fX5_isOn xs ys ic id ia)), (7, .int (fX5_isOn xs ys ia ib id)), (6, .int (fX5_isOn xs ys ia ib ic)), (0, .ref m1), (1, .int ia), (2, .int ib), (3, .int ic), (4, .int id)]) hx hb dX5_common_80 hl (by decide) rfl (fun ls hl => ?_)
        refine lv_iload hx hb dX5_common_82 (lv_at hl 0 rfl) ?_
        refine lv_iload hx hb dX5_common_84 (lv_at hl 2 rfl) ?_
        refine lv_if_eq (tgt := 112) hx hb dX5_common_86 (by decide) (fun c223 => ?_) (fun c223 => ?_)
        · refine lv_iconst (v := 0) hx hb dX5_common_112 (by decide) ?_
          refine lv_iadd hx hb dX5_common_113 ?_
          refine lv_topi (fun z224 ez224 => ?_)
          refine lv_istore (lv' := [(5, .int z224), (9, .int (fX5_isOn xs ys ic id ib)), (8, .int (fX5_isOn xs ys ic id ia)), (7, .int (fX5_isOn xs ys ia ib id)), (6, .int (fX5_isOn xs ys ia ib ic)), (0, .ref m1), (1, .int ia), (2, .int ib), (3, .int ic), (4, .int id)]) hx hb dX5_common_114 hl (by decide) rfl (fun ls hl => ?_)
          refine lv_iload hx hb dX5_common_116 (lv_at hl 0 rfl) ?_
          refine lv_iload hx hb dX5_common_118 (lv_at hl 1 rfl) ?_
          refine lv_if_eq (tgt := 155) hx hb dX5_common_120 (by decide) (fun c225 => ?_) (fun c225 => ?_)
          · refine lv_iconst (v := 0) hx hb dX5_common_155 (by decide) ?_
            refine lv_iadd hx hb dX5_common_156 ?_
            refine lv_istore (lv' := [(5, .int (z224 + (0 : Int32))), (9, .int (fX5_isOn xs ys ic id ib)), (8, .int (fX5_isOn xs ys ic id ia)), (7, .int (fX5_isOn xs ys ia ib id)), (6, .int (fX5_isOn xs ys ia ib ic)), (0, .ref m1), (1, .int ia), (2, .int ib), (3, .int ic), (4, .int id)]) hx hb dX5_common_157 hl (by decide) rfl (fun ls hl => ?_)
            refine lv_iload hx hb dX5_common_159 (lv_at hl 0 rfl) ?_
            refine lv_iconst (v := 1) hx hb dX5_common_161 (by decide) ?_
            refine lv_icmp_le (tgt := 169) hx hb dX5_common_162 (by decide) (fun c226 => ?_) (fun c226 => ?_)
            · refine lv_iload hx hb dX5_common_169 (lv_at hl 0 rfl) ?_
              subst ez224 ez134
              exact W.iret (v := ((((0 : Int32) + (1 : Int32)) + (1 : Int32)) + (0 : Int32)) + (0 : Int32)) hx hb hr (fun t ht hW => ⟨by rw [show fX5_common xs ys ia ib ic id = ((((0 : Int32) + (1 : Int32)) + (1 : Int32)) + (0 : Int32)) + (0 : Int32) by unfold fX5_common; rw [if_neg c1, if_neg c135, if_pos c179, if_pos c223, if_pos c225, if_pos c226]], ht⟩) (fun _ h => absurd h List.not_mem_nil) dX5_common_171
            · refine lv_iconst (v := 2) hx hb dX5_common_165 (by decide) ?_
              refine lv_goto (tgt := 171) hx hb dX5_common_166 (by decide) ?_
              subst ez224 ez134
              exact W.iret (v := (2 : Int32)) hx hb hr (fun t ht hW => ⟨by rw [show fX5_common xs ys ia ib ic id = (2 : Int32) by unfold fX5_common; rw [if_neg c1, if_neg c135, if_pos c179, if_pos c223, if_pos c225, if_neg c226]], ht⟩) (fun _ h => absurd h List.not_mem_nil) dX5_common_171
          · refine lv_aload_n hx hb dX5_common_123 rfl (lv_at hl 5 rfl) ?_
            refine lv_iload_n hx hb dX5_common_124 rfl (lv_at hl 7 rfl) ?_
            refine lv_iload_n hx hb dX5_common_125 rfl (lv_at hl 8 rfl) ?_
            refine xr_V (q := (RX5, TX5, 14)) (ci := 9) (q0 := 0) (rest := [.int z224]) (As := [.int ib, .int ic]) ⟨hx, hb, hml, hown, hts⟩ (ct5_areEqual l D m1 m2 m3 m4 m5 m6 m7 kI kJ xs ys held la lb lc th pm rm on cl un ze lm ib ic oib oic) (cwV 2 hts gl_X5_107 rfl rfl rfl (by decide +kernel) ⟨Nat.le_of_ble_eq_true rfl, Nat.le_of_ble_eq_true rfl⟩) nN_mv hN hK hP [0, 1, 2, 3, 4, 5, 6] [0, 1] rfl rfl rfl rfl rfl hl.1 rfl (Nat.le_of_ble_eq_true rfl) dX5_common_126 ⟨Nat.le_of_ble_eq_true rfl, Nat.le_of_ble_eq_true rfl⟩ ?_
            refine lv_if_ne (tgt := 155) hx hb dX5_common_129 (by decide) (fun c227 => ?_) (fun c227 => ?_)
            · refine lv_iconst (v := 0) hx hb dX5_common_155 (by decide) ?_
              refine lv_iadd hx hb dX5_common_156 ?_
              refine lv_istore (lv' := [(5, .int (z224 + (0 : Int32))), (9, .int (fX5_isOn xs ys ic id ib)), (8, .int (fX5_isOn xs ys ic id ia)), (7, .int (fX5_isOn xs ys ia ib id)), (6, .int (fX5_isOn xs ys ia ib ic)), (0, .ref m1), (1, .int ia), (2, .int ib), (3, .int ic), (4, .int id)]) hx hb dX5_common_157 hl (by decide) rfl (fun ls hl => ?_)
              refine lv_iload hx hb dX5_common_159 (lv_at hl 0 rfl) ?_
              refine lv_iconst (v := 1) hx hb dX5_common_161 (by decide) ?_
              refine lv_icmp_le (tgt := 169) hx hb dX5_common_162 (by decide) (fun c228 => ?_) (fun c228 => ?_)
              · refine lv_iload hx hb dX5_common_169 (lv_at hl 0 rfl) ?_
                subst ez224 ez134
                exact W.iret (v := ((((0 : Int32) + (1 : Int32)) + (1 : Int32)) + (0 : Int32)) + (0 : Int32)) hx hb hr (fun t ht hW => ⟨by rw [show fX5_common xs ys ia ib ic id = ((((0 : Int32) + (1 : Int32)) + (1 : Int32)) + (0 : Int32)) + (0 : Int32) by unfold fX5_common; rw [if_neg c1, if_neg c135, if_pos c179, if_pos c223, if_neg c225, if_neg c227, if_pos c228]], ht⟩) (fun _ h => absurd h List.not_mem_nil) dX5_common_171
              · refine lv_iconst (v := 2) hx hb dX5_common_165 (by decide) ?_
                refine lv_goto (tgt := 171) hx hb dX5_common_166 (by decide) ?_
                subst ez224 ez134
                exact W.iret (v := (2 : Int32)) hx hb hr (fun t ht hW => ⟨by rw [show fX5_common xs ys ia ib ic id = (2 : Int32) by unfold fX5_common; rw [if_neg c1, if_neg c135, if_pos c179, if_pos c223, if_neg c225, if_neg c227, if_neg c228]], ht⟩) (fun _ h => absurd h List.not_mem_nil) dX5_common_171
            · refine lv_aload_n hx hb dX5_common_132 rfl (lv_at hl 5 rfl) ?_
              refine lv_iload_n hx hb dX5_common_133 rfl (lv_at hl 7 rfl) ?_
              refine lv_iload hx hb dX5_common_134 (lv_at hl 9 rfl) ?_
              refine xr_V (q := (RX5, TX5, 14)) (ci := 9) (q0 := 0) (rest := [.int z224]) (As := [.int ib, .int id]) ⟨hx, hb, hml, hown, hts⟩ (ct5_areEqual l D m1 m2 m3 m4 m5 m6 m7 kI kJ xs ys held la lb lc th pm rm on cl un ze lm ib id oib oid) (cwV 2 hts gl_X5_107 rfl rfl rfl (by decide +kernel) ⟨Nat.le_of_ble_eq_true rfl, Nat.le_of_ble_eq_true rfl⟩) nN_mv hN hK hP [0, 1, 2, 3, 4, 5, 6] [0, 1] rfl rfl rfl rfl rfl hl.1 rfl (Nat.le_of_ble_eq_true rfl) dX5_common_136 ⟨Nat.le_of_ble_eq_true rfl, Nat.le_of_ble_eq_true rfl⟩ ?_
              refine lv_if_ne (tgt := 155) hx hb dX5_common_139 (by decide) (fun c229 => ?_) (fun c229 => ?_)
              · refine lv_iconst (v := 0) hx hb dX5_common_155 (by decide) ?_
                refine lv_iadd hx hb dX5_common_156 ?_
                refine lv_istore (lv' := [(5, .int (z224 + (0 : Int32))), (9, .int (fX5_isOn xs ys ic id ib)), (8, .int (fX5_isOn xs ys ic id ia)), (7, .int (fX5_isOn xs ys ia ib id)), (6, .int (fX5_isOn xs ys ia ib ic)), (0, .ref m1), (1, .int ia), (2, .int ib), (3, .int ic), (4, .int id)]) hx hb dX5_common_157 hl (by decide) rfl (fun ls hl => ?_)
                refine lv_iload hx hb dX5_common_159 (lv_at hl 0 rfl) ?_
                refine lv_iconst (v := 1) hx hb dX5_common_161 (by decide) ?_
                refine lv_icmp_le (tgt := 169) hx hb dX5_common_162 (by decide) (fun c230 => ?_) (fun c230 => ?_)
                · refine lv_iload hx hb dX5_common_169 (lv_at hl 0 rfl) ?_
                  subst ez224 ez134
                  exact W.iret (v := ((((0 : Int32) + (1 : Int32)) + (1 : Int32)) + (0 : Int32)) + (0 : Int32)) hx hb hr (fun t ht hW => ⟨by rw [show fX5_common xs ys ia ib ic id = ((((0 : Int32) + (1 : Int32)) + (1 : Int32)) + (0 : Int32)) + (0 : Int32) by unfold fX5_common; rw [if_neg c1, if_neg c135, if_pos c179, if_pos c223, if_neg c225, if_pos c227, if_neg c229, if_pos c230]], ht⟩) (fun _ h => absurd h List.not_mem_nil) dX5_common_171
                · refine lv_iconst (v := 2) hx hb dX5_common_165 (by decide) ?_
                  refine lv_goto (tgt := 171) hx hb dX5_common_166 (by decide) ?_
                  subst ez224 ez134
                  exact W.iret (v := (2 : Int32)) hx hb hr (fun t ht hW => ⟨by rw [show fX5_common xs ys ia ib ic id = (2 : Int32) by unfold fX5_common; rw [if_neg c1, if_neg c135, if_pos c179, if_pos c223, if_neg c225, if_pos c227, if_neg c229, if_neg c230]], ht⟩) (fun _ h => absurd h List.not_mem_nil) dX5_common_171
              · refine lv_aload_n hx hb dX5_common_142 rfl (lv_at hl 5 rfl) ?_
                refine lv_iload_n hx hb dX5_common_143 rfl (lv_at hl 6 rfl) ?_
                refine lv_iload_n hx hb dX5_common_144 rfl (lv_at hl 7 rfl) ?_
                refine xr_V (q := (RX5, TX5, 14)) (ci := 9) (q0 := 0) (rest := [.int z224]) (As := [.int ia, .int ib]) ⟨hx, hb, hml, hown, hts⟩ (ct5_areEqual l D m1 m2 m3 m4 m5 m6 m7 kI kJ xs ys held la lb lc th pm rm on cl un ze lm ia ib oia oib) (cwV 2 hts gl_X5_107 rfl rfl rfl (by decide +kernel) ⟨Nat.le_of_ble_eq_true rfl, Nat.le_of_ble_eq_true rfl⟩) nN_mv hN hK hP [0, 1, 2, 3, 4, 5, 6] [0, 1] rfl rfl rfl rfl rfl hl.1 rfl (Nat.le_of_ble_eq_true rfl) dX5_common_145 ⟨Nat.le_of_ble_eq_true rfl, Nat.le_of_ble_eq_true rfl⟩ ?_
                refine lv_if_ne (tgt := 155) hx hb dX5_common_148 (by decide) (fun c231 => ?_) (fun c231 => ?_)
                · refine lv_iconst (v := 0) hx hb dX5_common_155 (by decide) ?_
                  refine lv_iadd hx hb dX5_common_156 ?_
                  refine lv_istore (lv' := [(5, .int (z224 + (0 : Int32))), (9, .int (fX5_isOn xs ys ic id ib)), (8, .int (fX5_isOn xs ys ic id ia)), (7, .int (fX5_isOn xs ys ia ib id)), (6, .int (fX5_isOn xs ys ia ib ic)), (0, .ref m1), (1, .int ia), (2, .int ib), (3, .int ic), (4, .int id)]) hx hb dX5_common_157 hl (by decide) rfl (fun ls hl => ?_)
                  refine lv_iload hx hb dX5_common_159 (lv_at hl 0 rfl) ?_
                  refine lv_iconst (v := 1) hx hb dX5_common_161 (by decide) ?_
                  refine lv_icmp_le (tgt := 169) hx hb dX5_common_162 (by decide) (fun c232 => ?_) (fun c232 => ?_)
                  · refine lv_iload hx hb dX5_common_169 (lv_at hl 0 rfl) ?_
                    subst ez224 ez134
                    exact W.iret (v := ((((0 : Int32) + (1 : Int32)) + (1 : Int32)) + (0 : Int32)) + (0 : Int32)) hx hb hr (fun t ht hW => ⟨by rw [show fX5_common xs ys ia ib ic id = ((((0 : Int32) + (1 : Int32)) + (1 : Int32)) + (0 : Int32)) + (0 : Int32) by unfold fX5_common; rw [if_neg c1, if_neg c135, if_pos c179, if_pos c223, if_neg c225, if_pos c227, if_pos c229, if_neg c231, if_pos c232]], ht⟩) (fun _ h => absurd h List.not_mem_nil) dX5_common_171
                  · refine lv_iconst (v := 2) hx hb dX5_common_165 (by decide) ?_
                    refine lv_goto (tgt := 171) hx hb dX5_common_166 (by decide) ?_
                    subst ez224 ez134
                    exact W.iret (v := (2 : Int32)) hx hb hr (fun t ht hW => ⟨by rw [show fX5_common xs ys ia ib ic id = (2 : Int32) by unfold fX5_common; rw [if_neg c1, if_neg c135, if_pos c179, if_pos c223, if_neg c225, if_pos c227, if_pos c229, if_neg c231, if_neg c232]], ht⟩) (fun _ h => absurd h List.not_mem_nil) dX5_common_171
                · refine lv_iconst (v := 1) hx hb dX5_common_151 (by decide) ?_
                  refine lv_goto (tgt := 156) hx hb dX5_common_152 (by decide) ?_
                  refine lv_iadd hx hb dX5_common_156 ?_
                  refine lv_istore (lv' := [(5, .int (z224 + (1 : Int32))), (9, .int (fX5_isOn xs ys ic id ib)), (8, .int (fX5_isOn xs ys ic id ia)), (7, .int (fX5_isOn xs ys ia ib id)), (6, .int (fX5_isOn xs ys ia ib ic)), (0, .ref m1), (1, .int ia), (2, .int ib), (3, .int ic), (4, .int id)]) hx hb dX5_common_157 hl (by decide) rfl (fun ls hl => ?_)
                  refine lv_iload hx hb dX5_common_159 (lv_at hl 0 rfl) ?_
                  refine lv_iconst (v := 1) hx hb dX5_common_161 (by decide) ?_
                  refine lv_icmp_le (tgt := 169) hx hb dX5_common_162 (by decide) (fun c233 => ?_) (fun c233 => ?_)
                  · refine lv_iload hx hb dX5_common_169 (lv_at hl 0 rfl) ?_
                    subst ez224 ez134
                    exact W.iret (v := ((((0 : Int32) + (1 : Int32)) + (1 : Int32)) + (0 : Int32)) + (1 : Int32)) hx hb hr (fun t ht hW => ⟨by rw [show fX5_common xs ys ia ib ic id = ((((0 : Int32) + (1 : Int32)) + (1 : Int32)) + (0 : Int32)) + (1 : Int32) by unfold fX5_common; rw [if_neg c1, if_neg c135, if_pos c179, if_pos c223, if_neg c225, if_pos c227, if_pos c229, if_pos c231, if_pos c233]], ht⟩) (fun _ h => absurd h List.not_mem_nil) dX5_common_171
                  · refine lv_iconst (v := 2) hx hb dX5_common_165 (by decide) ?_
                    refine lv_goto (tgt := 171) hx hb dX5_common_166 (by decide) ?_
                    subst ez224 ez134
                    exact W.iret (v := (2 : Int32)) hx hb hr (fun t ht hW => ⟨by rw [show fX5_common xs ys ia ib ic id = (2 : Int32) by unfold fX5_common; rw [if_neg c1, if_neg c135, if_pos c179, if_pos c223, if_neg c225, if_pos c227, if_pos c229, if_pos c231, if_neg c233]], ht⟩) (fun _ h => absurd h List.not_mem_nil) dX5_common_171
        · refine lv_aload_n hx hb dX5_common_89 rfl (lv_at hl 5 rfl) ?_
          refine lv_iload_n hx hb dX5_common_90 rfl (lv_at hl 6 rfl) ?_
          refine lv_iload_n hx hb dX5_common_91 rfl (lv_at hl 8 rfl) ?_
          refine xr_V (q := (RX5, TX5, 14)) (ci := 9) (q0 := 0) (rest := [.int (z134 + (1 : Int32))]) (As := [.int ia, .int ic]) ⟨hx, hb, hml, hown, hts⟩ (ct5_areEqual l D m1 m2 m3 m4 m5 m6 m7 kI kJ xs ys held la lb lc th pm rm on cl un ze lm ia ic oia oic) (cwV 2 hts gl_X5_107 rfl rfl rfl (by decide +kernel) ⟨Nat.le_of_ble_eq_true rfl, Nat.le_of_ble_eq_true rfl⟩) nN_mv hN hK hP [0, 1, 2, 3, 4, 5, 6] [0, 1] rfl rfl rfl rfl rfl hl.1 rfl (Nat.le_of_ble_eq_true rfl) dX5_common_92 ⟨Nat.le_of_ble_eq_true rfl, Nat.le_of_ble_eq_true rfl⟩ ?_
          refine lv_if_ne (tgt := 112) hx hb dX5_common_95 (by decide) (fun c234 => ?_) (fun c234 => ?_)
          · refine lv_iconst (v := 0) hx hb dX5_common_112 (by decide) ?_
            refine lv_iadd hx hb dX5_common_113 ?_
            refine lv_topi (fun z235 ez235 => ?_)
            refine lv_istore (lv' := [(5, .int z235), (9, .int (fX5_isOn xs ys ic id ib)), (8, .int (fX5_isOn xs ys ic id ia)), (7, .int (fX5_isOn xs ys ia ib id)), (6, .int (fX5_isOn xs ys ia ib ic)), (0, .ref m1), (1, .int ia), (2, .int ib), (3, .int ic), (4, .int id)]) hx hb dX5_common_114 hl (by decide) rfl (fun ls hl => ?_)
            refine lv_iload hx hb dX5_common_116 (lv_at hl 0 rfl) ?_
            refine lv_iload hx hb dX5_common_118 (lv_at hl 1 rfl) ?_
            refine lv_if_eq (tgt := 155) hx hb dX5_common_120 (by decide) (fun c236 => ?_) (fun c236 => ?_)
            · refine lv_iconst (v := 0) hx hb dX5_common_155 (by decide) ?_
              refine lv_iadd hx hb dX5_common_156 ?_
              refine lv_istore (lv' := [(5, .int (z235 + (0 : Int32))), (9, .int (fX5_isOn xs ys ic id ib)), (8, .int (fX5_isOn xs ys ic id ia)), (7, .int (fX5_isOn xs ys ia ib id)), (6, .int (fX5_isOn xs ys ia ib ic)), (0, .ref m1), (1, .int ia), (2, .int ib), (3, .int ic), (4, .int id)]) hx hb dX5_common_157 hl (by decide) rfl (fun ls hl => ?_)
              refine lv_iload hx hb dX5_common_159 (lv_at hl 0 rfl) ?_
              refine lv_iconst (v := 1) hx hb dX5_common_161 (by decide) ?_
              refine lv_icmp_le (tgt := 169) hx hb dX5_common_162 (by decide) (fun c237 => ?_) (fun c237 => ?_)
              · refine lv_iload hx hb dX5_common_169 (lv_at hl 0 rfl) ?_
                subst ez235 ez134
                exact W.iret (v := ((((0 : Int32) + (1 : Int32)) + (1 : Int32)) + (0 : Int32)) + (0 : Int32)) hx hb hr (fun t ht hW => ⟨by rw [show fX5_common xs ys ia ib ic id = ((((0 : Int32) + (1 : Int32)) + (1 : Int32)) + (0 : Int32)) + (0 : Int32) by unfold fX5_common; rw [if_neg c1, if_neg c135, if_pos c179, if_neg c223, if_neg c234, if_pos c236, if_pos c237]], ht⟩) (fun _ h => absurd h List.not_mem_nil) dX5_common_171
              · refine lv_iconst (v := 2) hx hb dX5_common_165 (by decide) ?_
                refine lv_goto (tgt := 171) hx hb dX5_common_166 (by decide) ?_
                subst ez235 ez134
                exact W.iret (v := (2 : Int32)) hx hb hr (fun t ht hW => ⟨by rw [show fX5_common xs ys ia ib ic id = (2 : Int32) by unfold fX5_common; rw [if_neg c1, if_neg c135, if_pos c179, if_neg c223, if_neg c234, if_pos c236, if_neg c237]], ht⟩) (fun _ h => absurd h List.not_mem_nil) dX5_common_171
            · refine lv_aload_n hx hb dX5_common_123 rfl (lv_at hl 5 rfl) ?_
              refine lv_iload_n hx hb dX5_common_124 rfl (lv_at hl 7 rfl) ?_
              refine lv_iload_n hx hb dX5_common_125 rfl (lv_at hl 8 rfl) ?_
              refine xr_V (q := (RX5, TX5, 14)) (ci := 9) (q0 := 0) (rest := [.int z235]) (As := [.int ib, .int ic]) ⟨hx, hb, hml, hown, hts⟩ (ct5_areEqual l D m1 m2 m3 m4 m5 m6 m7 kI kJ xs ys held la lb lc th pm rm on cl un ze lm ib ic oib oic) (cwV 2 hts gl_X5_107 rfl rfl rfl (by decide +kernel) ⟨Nat.le_of_ble_eq_true rfl, Nat.le_of_ble_eq_true rfl⟩) nN_mv hN hK hP [0, 1, 2, 3, 4, 5, 6] [0, 1] rfl rfl rfl rfl rfl hl.1 rfl (Nat.le_of_ble_eq_true rfl) dX5_common_126 ⟨Nat.le_of_ble_eq_true rfl, Nat.le_of_ble_eq_true rfl⟩ ?_
              refine lv_if_ne (tgt := 155) hx hb dX5_common_129 (by decide) (fun c238 => ?_) (fun c238 => ?_)
              · refine lv_iconst (v := 0) hx hb dX5_common_155 (by decide) ?_
                refine lv_iadd hx hb dX5_common_156 ?_
                refine lv_istore (lv' := [(5, .int (z235 + (0 : Int32))), (9, .int (fX5_isOn xs ys ic id ib)), (8, .int (fX5_isOn xs ys ic id ia)), (7, .int (fX5_isOn xs ys ia ib id)), (6, .int (fX5_isOn xs ys ia ib ic)), (0, .ref m1), (1, .int ia), (2, .int ib), (3, .int ic), (4, .int id)]) hx hb dX5_common_157 hl (by decide) rfl (fun ls hl => ?_)
                refine lv_iload hx hb dX5_common_159 (lv_at hl 0 rfl) ?_
                refine lv_iconst (v := 1) hx hb dX5_common_161 (by decide) ?_
                refine lv_icmp_le (tgt := 169) hx hb dX5_common_162 (by decide) (fun c239 => ?_) (fun c239 => ?_)
                · refine lv_iload hx hb dX5_common_169 (lv_at hl 0 rfl) ?_
                  subst ez235 ez134
                  exact W.iret (v := ((((0 : Int32) + (1 : Int32)) + (1 : Int32)) + (0 : Int32)) + (0 : Int32)) hx hb hr (fun t ht hW => ⟨by rw [show fX5_common xs ys ia ib ic id = ((((0 : Int32) + (1 : Int32)) + (1 : Int32)) + (0 : Int32)) + (0 : Int32) by unfold fX5_common; rw [if_neg c1, if_neg c135, if_pos c179, if_neg c223, if_neg c234, if_neg c236, if_neg c238, if_pos c239]], ht⟩) (fun _ h => absurd h List.not_mem_nil) dX5_common_171
                · refine lv_iconst (v := 2) hx hb dX5_common_165 (by decide) ?_
                  refine lv_goto (tgt := 171) hx hb dX5_common_166 (by decide) ?_
                  subst ez235 ez134
                  exact W.iret (v := (2 : Int32)) hx hb hr (fun t ht hW => ⟨by rw [show fX5_common xs ys ia ib ic id = (2 : Int32) by unfold fX5_common; rw [if_neg c1, if_neg c135, if_pos c179, if_neg c223, if_neg c234, if_neg c236, if_neg c238, if_neg c239]], ht⟩) (fun _ h => absurd h List.not_mem_nil) dX5_common_171
              · refine lv_aload_n hx hb dX5_common_132 rfl (lv_at hl 5 rfl) ?_
                refine lv_iload_n hx hb dX5_common_133 rfl (lv_at hl 7 rfl) ?_
                refine lv_iload hx hb dX5_common_134 (lv_at hl 9 rfl) ?_
                refine xr_V (q := (RX5, TX5, 14)) (ci := 9) (q0 := 0) (rest := [.int z235]) (As := [.int ib, .int id]) ⟨hx, hb, hml, hown, hts⟩ (ct5_areEqual l D m1 m2 m3 m4 m5 m6 m7 kI kJ xs ys held la lb lc th pm rm on cl un ze lm ib id oib oid) (cwV 2 hts gl_X5_107 rfl rfl rfl (by decide +kernel) ⟨Nat.le_of_ble_eq_true rfl, Nat.le_of_ble_eq_true rfl⟩) nN_mv hN hK hP [0, 1, 2, 3, 4, 5, 6] [0, 1] rfl rfl rfl rfl rfl hl.1 rfl (Nat.le_of_ble_eq_true rfl) dX5_common_136 ⟨Nat.le_of_ble_eq_true rfl, Nat.le_of_ble_eq_true rfl⟩ ?_
                refine lv_if_ne (tgt := 155) hx hb dX5_common_139 (by decide) (fun c240 => ?_) (fun c240 => ?_)
                · refine lv_iconst (v := 0) hx hb dX5_common_155 (by decide) ?_
                  refine lv_iadd hx hb dX5_common_156 ?_
                  refine lv_istore (lv' := [(5, .int (z235 + (0 : Int32))), (9, .int (fX5_isOn xs ys ic id ib)), (8, .int (fX5_isOn xs ys ic id ia)), (7, .int (fX5_isOn xs ys ia ib id)), (6, .int (fX5_isOn xs ys ia ib ic)), (0, .ref m1), (1, .int ia), (2, .int ib), (3, .int ic), (4, .int id)]) hx hb dX5_common_157 hl (by decide) rfl (fun ls hl => ?_)
                  refine lv_iload hx hb dX5_common_159 (lv_at hl 0 rfl) ?_
                  refine lv_iconst (v := 1) hx hb dX5_common_161 (by decide) ?_
                  refine lv_icmp_le (tgt := 169) hx hb dX5_common_162 (by decide) (fun c241 => ?_) (fun c241 => ?_)
                  · refine lv_iload hx hb dX5_common_169 (lv_at hl 0 rfl) ?_
                    subst ez235 ez134
                    exact W.iret (v := ((((0 : Int32) + (1 : Int32)) + (1 : Int32)) + (0 : Int32)) + (0 : Int32)) hx hb hr (fun t ht hW => ⟨by rw [show fX5_common xs ys ia ib ic id = ((((0 : Int32) + (1 : Int32)) + (1 : Int32)) + (0 : Int32)) + (0 : Int32) by unfold fX5_common; rw [if_neg c1, if_neg c135, if_pos c179, if_neg c223, if_neg c234, if_neg c236, if_pos c238, if_neg c240, if_pos c241]], ht⟩) (fun _ h => absurd h List.not_mem_nil) dX5_common_171
                  · refine lv_iconst (v := 2) hx hb dX5_common_165 (by decide) ?_
                    refine lv_goto (tgt := 171) hx hb dX5_common_166 (by decide) ?_
                    subst ez235 ez134
                    exact W.iret (v := (2 : Int32)) hx hb hr (fun t ht hW => ⟨by rw [show fX5_common xs ys ia ib ic id = (2 : Int32) by unfold fX5_common; rw [if_neg c1, if_neg c135, if_pos c179, if_neg c223, if_neg c234, if_neg c236, if_pos c238, if_neg c240, if_neg c241]], ht⟩) (fun _ h => absurd h List.not_mem_nil) dX5_common_171
                · refine lv_aload_n hx hb dX5_common_142 rfl (lv_at hl 5 rfl) ?_
                  refine lv_iload_n hx hb dX5_common_143 rfl (lv_at hl 6 rfl) ?_
                  refine lv_iload_n hx hb dX5_common_144 rfl (lv_at hl 7 rfl) ?_
                  refine xr_V (q := (RX5, TX5, 14)) (ci := 9) (q0 := 0) (rest := [.int z235]) (As := [.int ia, .int ib]) ⟨hx, hb, hml, hown, hts⟩ (ct5_areEqual l D m1 m2 m3 m4 m5 m6 m7 kI kJ xs ys held la lb lc th pm rm on cl un ze lm ia ib oia oib) (cwV 2 hts gl_X5_107 rfl rfl rfl (by decide +kernel) ⟨Nat.le_of_ble_eq_true rfl, Nat.le_of_ble_eq_true rfl⟩) nN_mv hN hK hP [0, 1, 2, 3, 4, 5, 6] [0, 1] rfl rfl rfl rfl rfl hl.1 rfl (Nat.le_of_ble_eq_true rfl) dX5_common_145 ⟨Nat.le_of_ble_eq_true rfl, Nat.le_of_ble_eq_true rfl⟩ ?_
                  refine lv_if_ne (tgt := 155) hx hb dX5_common_148 (by decide) (fun c242 => ?_) (fun c242 => ?_)
                  · refine lv_iconst (v := 0) hx hb dX5_common_155 (by decide) ?_
                    refine lv_iadd hx hb dX5_common_156 ?_
                    refine lv_istore (lv' := [(5, .int (z235 + (0 : Int32))), (9, .int (fX5_isOn xs ys ic id ib)), (8, .int (fX5_isOn xs ys ic id ia)), (7, .int (fX5_isOn xs ys ia ib id)), (6, .int (fX5_isOn xs ys ia ib ic)), (0, .ref m1), (1, .int ia), (2, .int ib), (3, .int ic), (4, .int id)]) hx hb dX5_common_157 hl (by decide) rfl (fun ls hl => ?_)
                    refine lv_iload hx hb dX5_common_159 (lv_at hl 0 rfl) ?_
                    refine lv_iconst (v := 1) hx hb dX5_common_161 (by decide) ?_
                    refine lv_icmp_le (tgt := 169) hx hb dX5_common_162 (by decide) (fun c243 => ?_) (fun c243 => ?_)
                    · refine lv_iload hx hb dX5_common_169 (lv_at hl 0 rfl) ?_
                      subst ez235 ez134
                      exact W.iret (v := ((((0 : Int32) + (1 : Int32)) + (1 : Int32)) + (0 : Int32)) + (0 : Int32)) hx hb hr (fun t ht hW => ⟨by rw [show fX5_common xs ys ia ib ic id = ((((0 : Int32) + (1 : Int32)) + (1 : Int32)) + (0 : Int32)) + (0 : Int32) by unfold fX5_common; rw [if_neg c1, if_neg c135, if_pos c179, if_neg c223, if_neg c234, if_neg c236, if_pos c238, if_pos c240, if_neg c242, if_pos c243]], ht⟩) (fun _ h => absurd h List.not_mem_nil) dX5_common_171
                    · refine lv_iconst (v := 2) hx hb dX5_common_165 (by decide) ?_
                      refine lv_goto (tgt := 171) hx hb dX5_common_166 (by decide) ?_
                      subst ez235 ez134
                      exact W.iret (v := (2 : Int32)) hx hb hr (fun t ht hW => ⟨by rw [show fX5_common xs ys ia ib ic id = (2 : Int32) by unfold fX5_common; rw [if_neg c1, if_neg c135, if_pos c179, if_neg c223, if_neg c234, if_neg c236, if_pos c238, if_pos c240, if_neg c242, if_neg c243]], ht⟩) (fun _ h => absurd h List.not_mem_nil) dX5_common_171
                  · refine lv_iconst (v := 1) hx hb dX5_common_151 (by decide) ?_
                    refine lv_goto (tgt := 156) hx hb dX5_common_152 (by decide) ?_
                    refine lv_iadd hx hb dX5_common_156 ?_
                    refine lv_istore (lv' := [(5, .int (z235 + (1 : Int32))), (9, .int (fX5_isOn xs ys ic id ib)), (8, .int (fX5_isOn xs ys ic id ia)), (7, .int (fX5_isOn xs ys ia ib id)), (6, .int (fX5_isOn xs ys ia ib ic)), (0, .ref m1), (1, .int ia), (2, .int ib), (3, .int ic), (4, .int id)]) hx hb dX5_common_157 hl (by decide) rfl (fun ls hl => ?_)
                    refine lv_iload hx hb dX5_common_159 (lv_at hl 0 rfl) ?_
                    refine lv_iconst (v := 1) hx hb dX5_common_161 (by decide) ?_
                    refine lv_icmp_le (tgt := 169) hx hb dX5_common_162 (by decide) (fun c244 => ?_) (fun c244 => ?_)
                    · refine lv_iload hx hb dX5_common_169 (lv_at hl 0 rfl) ?_
                      subst ez235 ez134
                      exact W.iret (v := ((((0 : Int32) + (1 : Int32)) + (1 : Int32)) + (0 : Int32)) + (1 : Int32)) hx hb hr (fun t ht hW => ⟨by rw [show fX5_common xs ys ia ib ic id = ((((0 : Int32) + (1 : Int32)) + (1 : Int32)) + (0 : Int32)) + (1 : Int32) by unfold fX5_common; rw [if_neg c1, if_neg c135, if_pos c179, if_neg c223, if_neg c234, if_neg c236, if_pos c238, if_pos c240, if_pos c242, if_pos c244]], ht⟩) (fun _ h => absurd h List.not_mem_nil) dX5_common_171
                    · refine lv_iconst (v := 2) hx hb dX5_common_165 (by decide) ?_
                      refine lv_goto (tgt := 171) hx hb dX5_common_166 (by decide) ?_
                      subst ez235 ez134
                      exact W.iret (v := (2 : Int32)) hx hb hr (fun t ht hW => ⟨by rw [show fX5_common xs ys ia ib ic id = (2 : Int32) by unfold fX5_common; rw [if_neg c1, if_neg c135, if_pos c179, if_neg c223, if_neg c234, if_neg c236, if_pos c238, if_pos c240, if_pos c242, if_neg c244]], ht⟩) (fun _ h => absurd h List.not_mem_nil) dX5_common_171
          · refine lv_aload_n hx hb dX5_common_98 rfl (lv_at hl 5 rfl) ?_
            refine lv_iload_n hx hb dX5_common_99 rfl (lv_at hl 6 rfl) ?_
            refine lv_iload hx hb dX5_common_100 (lv_at hl 9 rfl) ?_
            refine xr_V (q := (RX5, TX5, 14)) (ci := 9) (q0 := 0) (rest := [.int (z134 + (1 : Int32))]) (As := [.int ia, .int id]) ⟨hx, hb, hml, hown, hts⟩ (ct5_areEqual l D m1 m2 m3 m4 m5 m6 m7 kI kJ xs ys held la lb lc th pm rm on cl un ze lm ia id oia oid) (cwV 2 hts gl_X5_107 rfl rfl rfl (by decide +kernel) ⟨Nat.le_of_ble_eq_true rfl, Nat.le_of_ble_eq_true rfl⟩) nN_mv hN hK hP [0, 1, 2, 3, 4, 5, 6] [0, 1] rfl rfl rfl rfl rfl hl.1 rfl (Nat.le_of_ble_eq_true rfl) dX5_common_102 ⟨Nat.le_of_ble_eq_true rfl, Nat.le_of_ble_eq_true rfl⟩ ?_
            refine lv_if_ne (tgt := 112) hx hb dX5_common_105 (by decide) (fun c245 => ?_) (fun c245 => ?_)
            · refine lv_iconst (v := 0) hx hb dX5_common_112 (by decide) ?_
              refine lv_iadd hx hb dX5_common_113 ?_
              refine lv_topi (fun z246 ez246 => ?_)
              refine lv_istore (lv' := [(5, .int z246), (9, .int (fX5_isOn xs ys ic id ib)), (8, .int (fX5_isOn xs ys ic id ia)), (7, .int (fX5_isOn xs ys ia ib id)), (6, .int (fX5_isOn xs ys ia ib ic)), (0, .ref m1), (1, .int ia), (2, .int ib), (3, .int ic), (4, .int id)]) hx hb dX5_common_114 hl (by decide) rfl (fun ls hl => ?_)
              refine lv_iload hx hb dX5_common_116 (lv_at hl 0 rfl) ?_
              refine lv_iload hx hb dX5_common_118 (lv_at hl 1 rfl) ?_
              refine lv_if_eq (tgt := 155) hx hb dX5_common_120 (by decide) (fun c247 => ?_) (fun c247 => ?_)
              · refine lv_iconst (v := 0) hx hb dX5_common_155 (by decide) ?_
                refine lv_iadd hx hb dX5_common_156 ?_
                refine lv_istore (lv' := [(5, .int (z246 + (0 : Int32))), (9, .int (fX5_isOn xs ys ic id ib)), (8, .int (fX5_isOn xs ys ic id ia)), (7, .int (fX5_isOn xs ys ia ib id)), (6, .int (fX5_isOn xs ys ia ib ic)), (0, .ref m1), (1, .int ia), (2, .int ib), (3, .int ic), (4, .int id)]) hx hb dX5_common_157 hl (by decide) rfl (fun ls hl => ?_)
                refine lv_iload hx hb dX5_common_159 (lv_at hl 0 rfl) ?_
                refine lv_iconst (v := 1) hx hb dX5_common_161 (by decide) ?_
                refine lv_icmp_le (tgt := 169) hx hb dX5_common_162 (by decide) (fun c248 => ?_) (fun c248 => ?_)
                · refine lv_iload hx hb dX5_common_169 (lv_at hl 0 rfl) ?_
                  subst ez246 ez134
                  exact W.iret (v := ((((0 : Int32) + (1 : Int32)) + (1 : Int32)) + (0 : Int32)) + (0 : Int32)) hx hb hr (fun t ht hW => ⟨by rw [show fX5_common xs ys ia ib ic id = ((((0 : Int32) + (1 : Int32)) + (1 : Int32)) + (0 : Int32)) + (0 : Int32) by unfold fX5_common; rw [if_neg c1, if_neg c135, if_pos c179, if_neg c223, if_pos c234, if_neg c245, if_pos c247, if_pos c248]], ht⟩) (fun _ h => absurd h List.not_mem_nil) dX5_common_171
                · refine lv_iconst (v := 2) hx hb dX5_common_165 (by decide) ?_
                  refine lv_goto (tgt := 171) hx hb dX5_common_166 (by decide) ?_
                  subst ez246 ez134
                  exact W.iret (v := (2 : Int32)) hx hb hr (fun t ht hW => ⟨by rw [show fX5_common xs ys ia ib ic id = (2 : Int32) by unfold fX5_common; rw [if_neg c1, if_neg c135, if_pos c179, if_neg c223, if_pos c234, if_neg c245, if_pos c247, if_neg c248]], ht⟩) (fun _ h => absurd h List.not_mem_nil) dX5_common_171
              · refine lv_aload_n hx hb dX5_common_123 rfl (lv_at hl 5 rfl) ?_
                refine lv_iload_n hx hb dX5_common_124 rfl (lv_at hl 7 rfl) ?_
                refine lv_iload_n hx hb dX5_common_125 rfl (lv_at hl 8 rfl) ?_
                refine xr_V (q := (RX5, TX5, 14)) (ci := 9) (q0 := 0) (rest := [.int z246]) (As := [.int ib, .int ic]) ⟨hx, hb, hml, hown, hts⟩ (ct5_areEqual l D m1 m2 m3 m4 m5 m6 m7 kI kJ xs ys held la lb lc th pm rm on cl un ze lm ib ic oib oic) (cwV 2 hts gl_X5_107 rfl rfl rfl (by decide +kernel) ⟨Nat.le_of_ble_eq_true rfl, Nat.le_of_ble_eq_true rfl⟩) nN_mv hN hK hP [0, 1, 2, 3, 4, 5, 6] [0, 1] rfl rfl rfl rfl rfl hl.1 rfl (Nat.le_of_ble_eq_true rfl) dX5_common_126 ⟨Nat.le_of_ble_eq_true rfl, Nat.le_of_ble_eq_true rfl⟩ ?_
                refine lv_if_ne (tgt := 155) hx hb dX5_common_129 (by decide) (fun c249 => ?_) (fun c249 => ?_)
                · refine lv_iconst (v := 0) hx hb dX5_common_155 (by decide) ?_
                  refine lv_iadd hx hb dX5_common_156 ?_
                  refine lv_istore (lv' := [(5, .int (z246 + (0 : Int32))), (9, .int (fX5_isOn xs ys ic id ib)), (8, .int (fX5_isOn xs ys ic id ia)), (7, .int (fX5_isOn xs ys ia ib id)), (6, .int (fX5_isOn xs ys ia ib ic)), (0, .ref m1), (1, .int ia), (2, .int ib), (3, .int ic), (4, .int id)]) hx hb dX5_common_157 hl (by decide) rfl (fun ls hl => ?_)
                  refine lv_iload hx hb dX5_common_159 (lv_at hl 0 rfl) ?_
                  refine lv_iconst (v := 1) hx hb dX5_common_161 (by decide) ?_
                  refine lv_icmp_le (tgt := 169) hx hb dX5_common_162 (by decide) (fun c250 => ?_) (fun c250 => ?_)
                  · refine lv_iload hx hb dX5_common_169 (lv_at hl 0 rfl) ?_
                    subst ez246 ez134
                    exact W.iret (v := ((((0 : Int32) + (1 : Int32)) + (1 : Int32)) + (0 : Int32)) + (0 : Int32)) hx hb hr (fun t ht hW => ⟨by rw [show fX5_common xs ys ia ib ic id = ((((0 : Int32) + (1 : Int32)) + (1 : Int32)) + (0 : Int32)) + (0 : Int32) by unfold fX5_common; rw [if_neg c1, if_neg c135, if_pos c179, if_neg c223, if_pos c234, if_neg c245, if_neg c247, if_neg c249, if_pos c250]], ht⟩) (fun _ h => absurd h List.not_mem_nil) dX5_common_171
                  · refine lv_iconst (v := 2) hx hb dX5_common_165 (by decide) ?_
                    refine lv_goto (tgt := 171) hx hb dX5_common_166 (by decide) ?_
                    subst ez246 ez134
                    exact W.iret (v := (2 : Int32)) hx hb hr (fun t ht hW => ⟨by rw [show fX5_common xs ys ia ib ic id = (2 : Int32) by unfold fX5_common; rw [if_neg c1, if_neg c135, if_pos c179, if_neg c223, if_pos c234, if_neg c245, if_neg c247, if_neg c249, if_neg c250]], ht⟩) (fun _ h => absurd h List.not_mem_nil) dX5_common_171
                · refine lv_aload_n hx hb dX5_common_132 rfl (lv_at hl 5 rfl) ?_
                  refine lv_iload_n hx hb dX5_common_133 rfl (lv_at hl 7 rfl) ?_
                  refine lv_iload hx hb dX5_common_134 (lv_at hl 9 rfl) ?_
                  refine xr_V (q := (RX5, TX5, 14)) (ci := 9) (q0 := 0) (rest := [.int z246]) (As := [.int ib, .int id]) ⟨hx, hb, hml, hown, hts⟩ (ct5_areEqual l D m1 m2 m3 m4 m5 m6 m7 kI kJ xs ys held la lb lc th pm rm on cl un ze lm ib id oib oid) (cwV 2 hts gl_X5_107 rfl rfl rfl (by decide +kernel) ⟨Nat.le_of_ble_eq_true rfl, Nat.le_of_ble_eq_true rfl⟩) nN_mv hN hK hP [0, 1, 2, 3, 4, 5, 6] [0, 1] rfl rfl rfl rfl rfl hl.1 rfl (Nat.le_of_ble_eq_true rfl) dX5_common_136 ⟨Nat.le_of_ble_eq_true rfl, Nat.le_of_ble_eq_true rfl⟩ ?_
                  refine lv_if_ne (tgt := 155) hx hb dX5_common_139 (by decide) (fun c251 => ?_) (fun c251 => ?_)
                  · refine lv_iconst (v := 0) hx hb dX5_common_155 (by decide) ?_
                    refine lv_iadd hx hb dX5_common_156 ?_
                    refine lv_istore (lv' := [(5, .int (z246 + (0 : Int32))), (9, .int (fX5_isOn xs ys ic id ib)), (8, .int (fX5_isOn xs ys ic id ia)), (7, .int (fX5_isOn xs ys ia ib id)), (6, .int (fX5_isOn xs ys ia ib ic)), (0, .ref m1), (1, .int ia), (2, .int ib), (3, .int ic), (4, .int id)]) hx hb dX5_common_157 hl (by decide) rfl (fun ls hl => ?_)
                    refine lv_iload hx hb dX5_common_159 (lv_at hl 0 rfl) ?_
                    refine lv_iconst (v := 1) hx hb dX5_common_161 (by decide) ?_
                    refine lv_icmp_le (tgt := 169) hx hb dX5_common_162 (by decide) (fun c252 => ?_) (fun c252 => ?_)
                    · refine lv_iload hx hb dX5_common_169 (lv_at hl 0 rfl) ?_
                      subst ez246 ez134
                      exact W.iret (v := ((((0 : Int32) + (1 : Int32)) + (1 : Int32)) + (0 : Int32)) + (0 : Int32)) hx hb hr (fun t ht hW => ⟨by rw [show fX5_common xs ys ia ib ic id = ((((0 : Int32) + (1 : Int32)) + (1 : Int32)) + (0 : Int32)) + (0 : Int32) by unfold fX5_common; rw [if_neg c1, if_neg c135, if_pos c179, if_neg c223, if_pos c234, if_neg c245, if_neg c247, if_pos c249, if_neg c251, if_pos c252]], ht⟩) (fun _ h => absurd h List.not_mem_nil) dX5_common_171
                    · refine lv_iconst (v := 2) hx hb dX5_common_165 (by decide) ?_
                      refine lv_goto (tgt := 171) hx hb dX5_common_166 (by decide) ?_
                      subst ez246 ez134
                      exact W.iret (v := (2 : Int32)) hx hb hr (fun t ht hW => ⟨by rw [show fX5_common xs ys ia ib ic id = (2 : Int32) by unfold fX5_common; rw [if_neg c1, if_neg c135, if_pos c179, if_neg c223, if_pos c234, if_neg c245, if_neg c247, if_pos c249, if_neg c251, if_neg c252]], ht⟩) (fun _ h => absurd h List.not_mem_nil) dX5_common_171
                  · refine lv_aload_n hx hb dX5_common_142 rfl (lv_at hl 5 rfl) ?_
                    refine lv_iload_n hx hb dX5_common_143 rfl (lv_at hl 6 rfl) ?_
                    refine lv_iload_n hx hb dX5_common_144 rfl (lv_at hl 7 rfl) ?_
                    refine xr_V (q := (RX5, TX5, 14)) (ci := 9) (q0 := 0) (rest := [.int z246]) (As := [.int ia, .int ib]) ⟨hx, hb, hml, hown, hts⟩ (ct5_areEqual l D m1 m2 m3 m4 m5 m6 m7 kI kJ xs ys held la lb lc th pm rm on cl un ze lm ia ib oia oib) (cwV 2 hts gl_X5_107 rfl rfl rfl (by decide +kernel) ⟨Nat.le_of_ble_eq_true rfl, Nat.le_of_ble_eq_true rfl⟩) nN_mv hN hK hP [0, 1, 2, 3, 4, 5, 6] [0, 1] rfl rfl rfl rfl rfl hl.1 rfl (Nat.le_of_ble_eq_true rfl) dX5_common_145 ⟨Nat.le_of_ble_eq_true rfl, Nat.le_of_ble_eq_true rfl⟩ ?_
                    refine lv_if_ne (tgt := 155) hx hb dX5_common_148 (by decide) (fun c253 => ?_) (fun c253 => ?_)
                    · refine lv_iconst (v := 0) hx hb dX5_common_155 (by decide) ?_
                      refine lv_iadd hx hb dX5_common_156 ?_
                      refine lv_istore (lv' := [(5, .int (z246 + (0 : Int32))), (9, .int (fX5_isOn xs ys ic id ib)), (8, .int (fX5_isOn xs ys ic id ia)), (7, .int (fX5_isOn xs ys ia ib id)), (6, .int (fX5_isOn xs ys ia ib ic)), (0, .ref m1), (1, .int ia), (2, .int ib), (3, .int ic), (4, .int id)]) hx hb dX5_common_157 hl (by decide) rfl (fun ls hl => ?_)
                      refine lv_iload hx hb dX5_common_159 (lv_at hl 0 rfl) ?_
                      refine lv_iconst (v := 1) hx hb dX5_common_161 (by decide) ?_
                      refine lv_icmp_le (tgt := 169) hx hb dX5_common_162 (by decide) (fun c254 => ?_) (fun c254 => ?_)
                      · refine lv_iload hx hb dX5_common_169 (lv_at hl 0 rfl) ?_
                        subst ez246 ez134
                        exact W.iret (v := ((((0 : Int32) + (1 : Int32)) + (1 : Int32)) + (0 : Int32)) + (0 : Int32)) hx hb hr (fun t ht hW => ⟨by rw [show fX5_common xs ys ia ib ic id = ((((0 : Int32) + (1 : Int32)) + (1 : Int32)) + (0 : Int32)) + (0 : Int32) by unfold fX5_common; rw [if_neg c1, if_neg c135, if_pos c179, if_neg c223, if_pos c234, if_neg c245, if_neg c247, if_pos c249, if_pos c251, if_neg c253, if_pos c254]], ht⟩) (fun _ h => absurd h List.not_mem_nil) dX5_common_171
                      · refine lv_iconst (v := 2) hx hb dX5_common_165 (by decide) ?_
                        refine lv_goto (tgt := 171) hx hb dX5_common_166 (by decide) ?_
                        subst ez246 ez134
                        exact W.iret (v := (2 : Int32)) hx hb hr (fun t ht hW => ⟨by rw [show fX5_common xs ys ia ib ic id = (2 : Int32) by unfold fX5_common; rw [if_neg c1, if_neg c135, if_pos c179, if_neg c223, if_pos c234, if_neg c245, if_neg c247, if_pos c249, if_pos c251, if_neg c253, if_neg c254]], ht⟩) (fun _ h => absurd h List.not_mem_nil) dX5_common_171
                    · refine lv_iconst (v := 1) hx hb dX5_common_151 (by decide) ?_
                      refine lv_goto (tgt := 156) hx hb dX5_common_152 (by decide) ?_
                      refine lv_iadd hx hb dX5_common_156 ?_
                      refine lv_istore (lv' := [(5, .int (z246 + (1 : Int32))), (9, .int (fX5_isOn xs ys ic id ib)), (8, .int (fX5_isOn xs ys ic id ia)), (7, .int (fX5_isOn xs ys ia ib id)), (6, .int (fX5_isOn xs ys ia ib ic)), (0, .ref m1), (1, .int ia), (2, .int ib), (3, .int ic), (4, .int id)]) hx hb dX5_common_157 hl (by decide) rfl (fun ls hl => ?_)
                      refine lv_iload hx hb dX5_common_159 (lv_at hl 0 rfl) ?_
                      refine lv_iconst (v := 1) hx hb dX5_common_161 (by decide) ?_
                      refine lv_icmp_le (tgt := 169) hx hb dX5_common_162 (by decide) (fun c255 => ?_) (fun c255 => ?_)
                      · refine lv_iload hx hb dX5_common_169 (lv_at hl 0 rfl) ?_
                        subst ez246 ez134
                        exact W.iret (v := ((((0 : Int32) + (1 : Int32)) + (1 : Int32)) + (0 : Int32)) + (1 : Int32)) hx hb hr (fun t ht hW => ⟨by rw [show fX5_common xs ys ia ib ic id = ((((0 : Int32) + (1 : Int32)) + (1 : Int32)) + (0 : Int32)) + (1 : Int32) by unfold fX5_common; rw [if_neg c1, if_neg c135, if_pos c179, if_neg c223, if_pos c234, if_neg c245, if_neg c247, if_pos c249, if_pos c251, if_pos c253, if_pos c255]], ht⟩) (fun _ h => absurd h List.not_mem_nil) dX5_common_171
                      · refine lv_iconst (v := 2) hx hb dX5_common_165 (by decide) ?_
                        refine lv_goto (tgt := 171) hx hb dX5_common_166 (by decide) ?_
                        subst ez246 ez134
                        exact W.iret (v := (2 : Int32)) hx hb hr (fun t ht hW => ⟨by rw [show fX5_common xs ys ia ib ic id = (2 : Int32) by unfold fX5_common; rw [if_neg c1, if_neg c135, if_pos c179, if_neg c223, if_pos c234, if_neg c245, if_neg c247, if_pos c249, if_pos c251, if_pos c253, if_neg c255]], ht⟩) (fun _ h => absurd h List.not_mem_nil) dX5_common_171
            · refine lv_iconst (v := 1) hx hb dX5_common_108 (by decide) ?_
              refine lv_goto (tgt := 113) hx hb dX5_common_109 (by decide) ?_
              refine lv_iadd hx hb dX5_common_113 ?_
              refine lv_topi (fun z256 ez256 => ?_)
              refine lv_istore (lv' := [(5, .int z256), (9, .int (fX5_isOn xs ys ic id ib)), (8, .int (fX5_isOn xs ys ic id ia)), (7, .int (fX5_isOn xs ys ia ib id)), (6, .int (fX5_isOn xs ys ia ib ic)), (0, .ref m1), (1, .int ia), (2, .int ib), (3, .int ic), (4, .int id)]) hx hb dX5_common_114 hl (by decide) rfl (fun ls hl => ?_)
              refine lv_iload hx hb dX5_common_116 (lv_at hl 0 rfl) ?_
              refine lv_iload hx hb dX5_common_118 (lv_at hl 1 rfl) ?_
              refine lv_if_eq (tgt := 155) hx hb dX5_common_120 (by decide) (fun c257 => ?_) (fun c257 => ?_)
              · refine lv_iconst (v := 0) hx hb dX5_common_155 (by decide) ?_
                refine lv_iadd hx hb dX5_common_156 ?_
                refine lv_istore (lv' := [(5, .int (z256 + (0 : Int32))), (9, .int (fX5_isOn xs ys ic id ib)), (8, .int (fX5_isOn xs ys ic id ia)), (7, .int (fX5_isOn xs ys ia ib id)), (6, .int (fX5_isOn xs ys ia ib ic)), (0, .ref m1), (1, .int ia), (2, .int ib), (3, .int ic), (4, .int id)]) hx hb dX5_common_157 hl (by decide) rfl (fun ls hl => ?_)
                refine lv_iload hx hb dX5_common_159 (lv_at hl 0 rfl) ?_
                refine lv_iconst (v := 1) hx hb dX5_common_161 (by decide) ?_
                refine lv_icmp_le (tgt := 169) hx hb dX5_common_162 (by decide) (fun c258 => ?_) (fun c258 => ?_)
                · refine lv_iload hx hb dX5_common_169 (lv_at hl 0 rfl) ?_
                  subst ez256 ez134
                  exact W.iret (v := ((((0 : Int32) + (1 : Int32)) + (1 : Int32)) + (1 : Int32)) + (0 : Int32)) hx hb hr (fun t ht hW => ⟨by rw [show fX5_common xs ys ia ib ic id = ((((0 : Int32) + (1 : Int32)) + (1 : Int32)) + (1 : Int32)) + (0 : Int32) by unfold fX5_common; rw [if_neg c1, if_neg c135, if_pos c179, if_neg c223, if_pos c234, if_pos c245, if_pos c257, if_pos c258]], ht⟩) (fun _ h => absurd h List.not_mem_nil) dX5_common_171
                · refine lv_iconst (v := 2) hx hb dX5_common_165 (by decide) ?_
                  refine lv_goto (tgt := 171) hx hb dX5_common_166 (by decide) ?_
                  subst ez256 ez134
                  exact W.iret (v := (2 : Int32)) hx hb hr (fun t ht hW => ⟨by rw [show fX5_common xs ys ia ib ic id = (2 : Int32) by unfold fX5_common; rw [if_neg c1, if_neg c135, if_pos c179, if_neg c223, if_pos c234, if_pos c245, if_pos c257, if_neg c258]], ht⟩) (fun _ h => absurd h List.not_mem_nil) dX5_common_171
              · refine lv_aload_n hx hb dX5_common_123 rfl (lv_at hl 5 rfl) ?_
                refine lv_iload_n hx hb dX5_common_124 rfl (lv_at hl 7 rfl) ?_
                refine lv_iload_n hx hb dX5_common_125 rfl (lv_at hl 8 rfl) ?_
                refine xr_V (q := (RX5, TX5, 14)) (ci := 9) (q0 := 0) (rest := [.int z256]) (As := [.int ib, .int ic]) ⟨hx, hb, hml, hown, hts⟩ (ct5_areEqual l D m1 m2 m3 m4 m5 m6 m7 kI kJ xs ys held la lb lc th pm rm on cl un ze lm ib ic oib oic) (cwV 2 hts gl_X5_107 rfl rfl rfl (by decide +kernel) ⟨Nat.le_of_ble_eq_true rfl, Nat.le_of_ble_eq_true rfl⟩) nN_mv hN hK hP [0, 1, 2, 3, 4, 5, 6] [0, 1] rfl rfl rfl rfl rfl hl.1 rfl (Nat.le_of_ble_eq_true rfl) dX5_common_126 ⟨Nat.le_of_ble_eq_true rfl, Nat.le_of_ble_eq_true rfl⟩ ?_
                refine lv_if_ne (tgt := 155) hx hb dX5_common_129 (by decide) (fun c259 => ?_) (fun c259 => ?_)
                · refine lv_iconst (v := 0) hx hb dX5_common_155 (by decide) ?_
                  refine lv_iadd hx hb dX5_common_156 ?_
                  refine lv_istore (lv' := [(5, .int (z256 + (0 : Int32))), (9, .int (fX5_isOn xs ys ic id ib)), (8, .int (fX5_isOn xs ys ic id ia)), (7, .int (fX5_isOn xs ys ia ib id)), (6, .int (fX5_isOn xs ys ia ib ic)), (0, .ref m1), (1, .int ia), (2, .int ib), (3, .int ic), (4, .int id)]) hx hb dX5_common_157 hl (by decide) rfl (fun ls hl => ?_)
                  refine lv_iload hx hb dX5_common_159 (lv_at hl 0 rfl) ?_
                  refine lv_iconst (v := 1) hx hb dX5_common_161 (by decide) ?_
                  refine lv_icmp_le (tgt := 169) hx hb dX5_common_162 (by decide) (fun c260 => ?_) (fun c260 => ?_)
                  · refine lv_iload hx hb dX5_common_169 (lv_at hl 0 rfl) ?_
                    subst ez256 ez134
                    exact W.iret (v := ((((0 : Int32) + (1 : Int32)) + (1 : Int32)) + (1 : Int32)) + (0 : Int32)) hx hb hr (fun t ht hW => ⟨by rw [show fX5_common xs ys ia ib ic id = ((((0 : Int32) + (1 : Int32)) + (1 : Int32)) + (1 : Int32)) + (0 : Int32) by unfold fX5_common; rw [if_neg c1, if_neg c135, if_pos c179, if_neg c223, if_pos c234, if_pos c245, if_neg c257, if_neg c259, if_pos c260]], ht⟩) (fun _ h => absurd h List.not_mem_nil) dX5_common_171
                  · refine lv_iconst (v := 2) hx hb dX5_common_165 (by decide) ?_
                    refine lv_goto (tgt := 171) hx hb dX5_common_166 (by decide) ?_
                    subst ez256 ez134
                    exact W.iret (v := (2 : Int32)) hx hb hr (fun t ht hW => ⟨by rw [show fX5_common xs ys ia ib ic id = (2 : Int32) by unfold fX5_common; rw [if_neg c1, if_neg c135, if_pos c179, if_neg c223, if_pos c234, if_pos c245, if_neg c257, if_neg c259, if_neg c260]], ht⟩) (fun _ h => absurd h List.not_mem_nil) dX5_common_171
                · refine lv_aload_n hx hb dX5_common_132 rfl (lv_at hl 5 rfl) ?_
                  refine lv_iload_n hx hb dX5_common_133 rfl (lv_at hl 7 rfl) ?_
                  refine lv_iload hx hb dX5_common_134 (lv_at hl 9 rfl) ?_
                  refine xr_V (q := (RX5, TX5, 14)) (ci := 9) (q0 := 0) (rest := [.int z256]) (As := [.int ib, .int id]) ⟨hx, hb, hml, hown, hts⟩ (ct5_areEqual l D m1 m2 m3 m4 m5 m6 m7 kI kJ xs ys held la lb lc th pm rm on cl un ze lm ib id oib oid) (cwV 2 hts gl_X5_107 rfl rfl rfl (by decide +kernel) ⟨Nat.le_of_ble_eq_true rfl, Nat.le_of_ble_eq_true rfl⟩) nN_mv hN hK hP [0, 1, 2, 3, 4, 5, 6] [0, 1] rfl rfl rfl rfl rfl hl.1 rfl (Nat.le_of_ble_eq_true rfl) dX5_common_136 ⟨Nat.le_of_ble_eq_true rfl, Nat.le_of_ble_eq_true rfl⟩ ?_
                  refine lv_if_ne (tgt := 155) hx hb dX5_common_139 (by decide) (fun c261 => ?_) (fun c261 => ?_)
                  · refine lv_iconst (v := 0) hx hb dX5_common_155 (by decide) ?_
                    refine lv_iadd hx hb dX5_common_156 ?_
                    refine lv_istore (lv' := [(5, .int (z256 + (0 : Int32))), (9, .int (fX5_isOn xs ys ic id ib)), (8, .int (fX5_isOn xs ys ic id ia)), (7, .int (fX5_isOn xs ys ia ib id)), (6, .int (fX5_isOn xs ys ia ib ic)), (0, .ref m1), (1, .int ia), (2, .int ib), (3, .int ic), (4, .int id)]) hx hb dX5_common_157 hl (by decide) rfl (fun ls hl => ?_)
                    refine lv_iload hx hb dX5_common_159 (lv_at hl 0 rfl) ?_
                    refine lv_iconst (v := 1) hx hb dX5_common_161 (by decide) ?_
                    refine lv_icmp_le (tgt := 169) hx hb dX5_common_162 (by decide) (fun c262 => ?_) (fun c262 => ?_)
                    · refine lv_iload hx hb dX5_common_169 (lv_at hl 0 rfl) ?_
                      subst ez256 ez134
                      exact W.iret (v := ((((0 : Int32) + (1 : Int32)) + (1 : Int32)) + (1 : Int32)) + (0 : Int32)) hx hb hr (fun t ht hW => ⟨by rw [show fX5_common xs ys ia ib ic id = ((((0 : Int32) + (1 : Int32)) + (1 : Int32)) + (1 : Int32)) + (0 : Int32) by unfold fX5_common; rw [if_neg c1, if_neg c135, if_pos c179, if_neg c223, if_pos c234, if_pos c245, if_neg c257, if_pos c259, if_neg c261, if_pos c262]], ht⟩) (fun _ h => absurd h List.not_mem_nil) dX5_common_171
                    · refine lv_iconst (v := 2) hx hb dX5_common_165 (by decide) ?_
                      refine lv_goto (tgt := 171) hx hb dX5_common_166 (by decide) ?_
                      subst ez256 ez134
                      exact W.iret (v := (2 : Int32)) hx hb hr (fun t ht hW => ⟨by rw [show fX5_common xs ys ia ib ic id = (2 : Int32) by unfold fX5_common; rw [if_neg c1, if_neg c135, if_pos c179, if_neg c223, if_pos c234, if_pos c245, if_neg c257, if_pos c259, if_neg c261, if_neg c262]], ht⟩) (fun _ h => absurd h List.not_mem_nil) dX5_common_171
                  · refine lv_aload_n hx hb dX5_common_142 rfl (lv_at hl 5 rfl) ?_
                    refine lv_iload_n hx hb dX5_common_143 rfl (lv_at hl 6 rfl) ?_
                    refine lv_iload_n hx hb dX5_common_144 rfl (lv_at hl 7 rfl) ?_
                    refine xr_V (q := (RX5, TX5, 14)) (ci := 9) (q0 := 0) (rest := [.int z256]) (As := [.int ia, .int ib]) ⟨hx, hb, hml, hown, hts⟩ (ct5_areEqual l D m1 m2 m3 m4 m5 m6 m7 kI kJ xs ys held la lb lc th pm rm on cl un ze lm ia ib oia oib) (cwV 2 hts gl_X5_107 rfl rfl rfl (by decide +kernel) ⟨Nat.le_of_ble_eq_true rfl, Nat.le_of_ble_eq_true rfl⟩) nN_mv hN hK hP [0, 1, 2, 3, 4, 5, 6] [0, 1] rfl rfl rfl rfl rfl hl.1 rfl (Nat.le_of_ble_eq_true rfl) dX5_common_145 ⟨Nat.le_of_ble_eq_true rfl, Nat.le_of_ble_eq_true rfl⟩ ?_
                    refine lv_if_ne (tgt := 155) hx hb dX5_common_148 (by decide) (fun c263 => ?_) (fun c263 => ?_)
                    · refine lv_iconst (v := 0) hx hb dX5_common_155 (by decide) ?_
                      refine lv_iadd hx hb dX5_common_156 ?_
                      refine lv_istore (lv' := [(5, .int (z256 + (0 : Int32))), (9, .int (fX5_isOn xs ys ic id ib)), (8, .int (fX5_isOn xs ys ic id ia)), (7, .int (fX5_isOn xs ys ia ib id)), (6, .int (fX5_isOn xs ys ia ib ic)), (0, .ref m1), (1, .int ia), (2, .int ib), (3, .int ic), (4, .int id)]) hx hb dX5_common_157 hl (by decide) rfl (fun ls hl => ?_)
                      refine lv_iload hx hb dX5_common_159 (lv_at hl 0 rfl) ?_
                      refine lv_iconst (v := 1) hx hb dX5_common_161 (by decide) ?_
                      refine lv_icmp_le (tgt := 169) hx hb dX5_common_162 (by decide) (fun c264 => ?_) (fun c264 => ?_)
                      · refine lv_iload hx hb dX5_common_169 (lv_at hl 0 rfl) ?_
                        subst ez256 ez134
                        exact W.iret (v := ((((0 : Int32) + (1 : Int32)) + (1 : Int32)) + (1 : Int32)) + (0 : Int32)) hx hb hr (fun t ht hW => ⟨by rw [show fX5_common xs ys ia ib ic id = ((((0 : Int32) + (1 : Int32)) + (1 : Int32)) + (1 : Int32)) + (0 : Int32) by unfold fX5_common; rw [if_neg c1, if_neg c135, if_pos c179, if_neg c223, if_pos c234, if_pos c245, if_neg c257, if_pos c259, if_pos c261, if_neg c263, if_pos c264]], ht⟩) (fun _ h => absurd h List.not_mem_nil) dX5_common_171
                      · refine lv_iconst (v := 2) hx hb dX5_common_165 (by decide) ?_
                        refine lv_goto (tgt := 171) hx hb dX5_common_166 (by decide) ?_
                        subst ez256 ez134
                        exact W.iret (v := (2 : Int32)) hx hb hr (fun t ht hW => ⟨by rw [show fX5_common xs ys ia ib ic id = (2 : Int32) by unfold fX5_common; rw [if_neg c1, if_neg c135, if_pos c179, if_neg c223, if_pos c234, if_pos c245, if_neg c257, if_pos c259, if_pos c261, if_neg c263, if_neg c264]], ht⟩) (fun _ h => absurd h List.not_mem_nil) dX5_common_171
                    · refine lv_iconst (v := 1) hx hb dX5_common_151 (by decide) ?_
                      refine lv_goto (tgt := 156) hx hb dX5_common_152 (by decide) ?_
                      refine lv_iadd hx hb dX5_common_156 ?_
                      refine lv_istore (lv' := [(5, .int (z256 + (1 : Int32))), (9, .int (fX5_isOn xs ys ic id ib)), (8, .int (fX5_isOn xs ys ic id ia)), (7, .int (fX5_isOn xs ys ia ib id)), (6, .int (fX5_isOn xs ys ia ib ic)), (0, .ref m1), (1, .int ia), (2, .int ib), (3, .int ic), (4, .int id)]) hx hb dX5_common_157 hl (by decide) rfl (fun ls hl => ?_)
                      refine lv_iload hx hb dX5_common_159 (lv_at hl 0 rfl) ?_
                      refine lv_iconst (v := 1) hx hb dX5_common_161 (by decide) ?_
                      refine lv_icmp_le (tgt := 169) hx hb dX5_common_162 (by decide) (fun c265 => ?_) (fun c265 => ?_)
                      · refine lv_iload hx hb dX5_common_169 (lv_at hl 0 rfl) ?_
                        subst ez256 ez134
                        exact W.iret (v := ((((0 : Int32) + (1 : Int32)) + (1 : Int32)) + (1 : Int32)) + (1 : Int32)) hx hb hr (fun t ht hW => ⟨by rw [show fX5_common xs ys ia ib ic id = ((((0 : Int32) + (1 : Int32)) + (1 : Int32)) + (1 : Int32)) + (1 : Int32) by unfold fX5_common; rw [if_neg c1, if_neg c135, if_pos c179, if_neg c223, if_pos c234, if_pos c245, if_neg c257, if_pos c259, if_pos c261, if_pos c263, if_pos c265]], ht⟩) (fun _ h => absurd h List.not_mem_nil) dX5_common_171
                      · refine lv_iconst (v := 2) hx hb dX5_common_165 (by decide) ?_
                        refine lv_goto (tgt := 171) hx hb dX5_common_166 (by decide) ?_
                        subst ez256 ez134
                        exact W.iret (v := (2 : Int32)) hx hb hr (fun t ht hW => ⟨by rw [show fX5_common xs ys ia ib ic id = (2 : Int32) by unfold fX5_common; rw [if_neg c1, if_neg c135, if_pos c179, if_neg c223, if_pos c234, if_pos c245, if_neg c257, if_pos c259, if_pos c261, if_pos c263, if_neg c265]], ht⟩) (fun _ h => absurd h List.not_mem_nil) dX5_common_171
def fX5_isMany (rm : Int32) (n : Int32) (le : Int32) : Int32 := if n < le then ((0 : Int32)) else (if rm < n then ((0 : Int32)) else ((1 : Int32)))
set_option maxHeartbeats 4000000 in
set_option maxRecDepth 100000 in
theorem ct5_isMany (l : Launch) (D : va_G) (m1 m2 m3 m4 m5 m6 m7 : Nat) (kI kJ : ClassId) (xs ys held : Nat → Int32) (la lb lc : Nat → Int64) (th pm rm on cl un ze lm : Int32) (n : Int32) (le : Int32) : Met l yX5_isMany (Cond.code yX5_isMany cX5_isMany 3 (some .boolean) :: BY) ({ frames := 0, cells := 0, slots := 0, locals := 0 }) (xr_P nN D vwCl [(kI, .int), (kJ, .long)] (wMo m1 m2 m3 m4 m5 m6 m7 kI kJ xs ys held la lb lc th pm rm on cl un ze lm) [.ref m1, .int n, .int le]) (xr_Q (.int (fX5_isMany rm n le))) 0 0 (fun _ => False) := by
  refine Met.ofW (cc := cX5_isMany) (maxL := 3) (ret := (some .boolean)) (by decide) rfl ?_
  intro p e s m args below meth c s₁ B hml hv
  obtain ⟨rfl, hP, hK, hN⟩ := hv
  have hx := B.exec
  have hb := B.bytes
  have hr := B.returns
  have hts0 := atoms_spec (ws := Cond.code yX5_isMany cX5_isMany 3 (some .boolean) :: BY) B.pre
  have hts : ∀ w ∈ BY, w.before _ s = true := fun w h => hts0 w (List.mem_cons_of_mem _ h)
  have hown : s.vm.findClass RX5 = some m.cls := findClass_of_methodNamed B.named
  have hlocks := B.notSynchronized
  have hl := lv_entry ([.ref m1, .int n, .int le]) (n := 3) (Nat.le_of_ble_eq_true rfl)
  rw [lg_entry_eq]
  generalize (lg_sl ([.ref m1, .int n, .int le]) ++ List.replicate (3 - (lg_sl ([.ref m1, .int n, .int le])).length) Slot.unset).toArray = ls at hl ⊢
  have hl : lv_has ls 3 [(0, .ref m1), (1, .int n), (2, .int le)] := hl
  refine lv_iload_n hx hb dX5_isMany_0 rfl (lv_at hl 1 rfl) ?_
  refine lv_iload_n hx hb dX5_isMany_1 rfl (lv_at hl 2 rfl) ?_
  refine lv_icmp_lt (tgt := 17) hx hb dX5_isMany_2 (by decide) (fun c1 => ?_) (fun c1 => ?_)
  · refine lv_iconst (v := 0) hx hb dX5_isMany_17 (by decide) ?_
    exact W.zret (v := (0 : Int32)) hx hb hr rfl (fun t ht hW => ⟨by rw [show fX5_isMany rm n le = (0 : Int32) by unfold fX5_isMany; rw [if_pos c1]], ht⟩) (fun _ h => absurd h List.not_mem_nil) dX5_isMany_18
  · refine lv_iload_n hx hb dX5_isMany_5 rfl (lv_at hl 1 rfl) ?_
    refine lv_aload_n hx hb dX5_isMany_6 rfl (lv_at hl 0 rfl) ?_
    refine va_get (D := D) (ci := 9) (v := .int rm) (C := RX5) (T := TX5) (N := 14) hx hb hts hinX5 hown hK hP 0 rfl rfl 4 (by decide) (hts _ fk_X5_66) (fun _ h9 => h9) rfl dX5_isMany_7 ?_
    refine lv_icmp_gt (tgt := 17) hx hb dX5_isMany_10 (by decide) (fun c2 => ?_) (fun c2 => ?_)
    · refine lv_iconst (v := 0) hx hb dX5_isMany_17 (by decide) ?_
      exact W.zret (v := (0 : Int32)) hx hb hr rfl (fun t ht hW => ⟨by rw [show fX5_isMany rm n le = (0 : Int32) by unfold fX5_isMany; rw [if_neg c1, if_pos c2]], ht⟩) (fun _ h => absurd h List.not_mem_nil) dX5_isMany_18
    · refine lv_iconst (v := 1) hx hb dX5_isMany_13 (by decide) ?_
      refine lv_goto (tgt := 18) hx hb dX5_isMany_14 (by decide) ?_
      exact W.zret (v := (1 : Int32)) hx hb hr rfl (fun t ht hW => ⟨by rw [show fX5_isMany rm n le = (1 : Int32) by unfold fX5_isMany; rw [if_neg c1, if_neg c2]], ht⟩) (fun _ h => absurd h List.not_mem_nil) dX5_isMany_18
def fX5_isWhole_A (held : Nat → Int32) (n : Int32) : Nat → Int32 → Int32 → Int32
  | 0, _, _ => 0
  | kA + 1, is, i => if n ≤ i then (is) else (if is = (0 : Int32) then (fX5_isWhole_A held n kA (0 : Int32) (i + 1)) else (if (held i.toNatClampNeg) = (-1 : Int32) then (fX5_isWhole_A held n kA (0 : Int32) (i + 1)) else (fX5_isWhole_A held n kA (1 : Int32) (i + 1))))
theorem fX5_isWhole_A_s (held : Nat → Int32) (n : Int32) (kA : Nat) (is : Int32) (i : Int32) : fX5_isWhole_A held n  (kA + 1) is i = (if n ≤ i then (is) else (if is = (0 : Int32) then (fX5_isWhole_A held n kA (0 : Int32) (i + 1)) else (if (held i.toNatClampNeg) = (-1 : Int32) then (fX5_isWhole_A held n kA (0 : Int32) (i + 1)) else (fX5_isWhole_A held n kA (1 : Int32) (i + 1))))) := rfl
def fX5_isWhole (held : Nat → Int32) (n : Int32) : Int32 := fX5_isWhole_A held n (n.toInt.toNat + 1) (1 : Int32) (0 : Int32)
set_option maxHeartbeats 4000000 in
set_option maxRecDepth 100000 in
theorem ct5_isWhole (l : Launch) (D : va_G) (m1 m2 m3 m4 m5 m6 m7 : Nat) (kI kJ : ClassId) (xs ys held : Nat → Int32) (la lb lc : Nat → Int64) (th pm rm on cl un ze lm : Int32) (n : Int32) (on_ : n.toInt ≤ (24 : Nat)) : Met l yX5_isWhole (Cond.code yX5_isWhole cX5_isWhole 4 (some .boolean) :: BY) ({ frames := 0, cells := 0, slots := 0, locals := 0 }) (xr_P nN D vwCl [(kI, .int), (kJ, .long)] (wMo m1 m2 m3 m4 m5 m6 m7 kI kJ xs ys held la lb lc th pm rm on cl un ze lm) [.ref m1, .int n]) (xr_Q (.int (fX5_isWhole held n))) 0 0 (fun _ => False) := by
  refine Met.ofW (cc := cX5_isWhole) (maxL := 4) (ret := (some .boolean)) (by decide) rfl ?_
  intro p e s m args below meth c s₁ B hml hv
  obtain ⟨rfl, hP, hK, hN⟩ := hv
  have hx := B.exec
  have hb := B.bytes
  have hr := B.returns
  have hts0 := atoms_spec (ws := Cond.code yX5_isWhole cX5_isWhole 4 (some .boolean) :: BY) B.pre
  have hts : ∀ w ∈ BY, w.before _ s = true := fun w h => hts0 w (List.mem_cons_of_mem _ h)
  have hown : s.vm.findClass RX5 = some m.cls := findClass_of_methodNamed B.named
  have hlocks := B.notSynchronized
  have hl := lv_entry ([.ref m1, .int n]) (n := 4) (Nat.le_of_ble_eq_true rfl)
  rw [lg_entry_eq]
  generalize (lg_sl ([.ref m1, .int n]) ++ List.replicate (4 - (lg_sl ([.ref m1, .int n])).length) Slot.unset).toArray = ls at hl ⊢
  have hl : lv_has ls 4 [(0, .ref m1), (1, .int n)] := hl
  refine lv_iconst (v := 1) hx hb dX5_isWhole_0 (by decide) ?_
  refine lv_istore_n (lv' := [(2, .int (1 : Int32)), (0, .ref m1), (1, .int n)]) hx hb dX5_isWhole_1 rfl hl (by decide) rfl (fun ls hl => ?_)
  refine lv_iconst (v := 0) hx hb dX5_isWhole_2 (by decide) ?_
  refine lv_istore_n (lv' := [(3, .int (0 : Int32)), (2, .int (1 : Int32)), (0, .ref m1), (1, .int n)]) hx hb dX5_isWhole_3 rfl hl (by decide) rfl (fun ls hl => ?_)
  refine xr_l2 (P := fun ls => W p l e _ s m _ below meth c _ _ _ _ _ (F0 m 4 ls [])) (nL := 4) (fun (is : Int32) (i : Int32) => [(3, .int i), (2, .int is), (0, .ref m1), (1, .int n)]) (fun kA (is : Int32) (i : Int32) => xr_u n i kA ∧ (is = 0 ∨ is = 1) ∧ fX5_isWhole_A held n kA is i = fX5_isWhole held n) (fun _ _ h => xr_u0 h.1) ?_ (n.toInt.toNat + 1) (1 : Int32) (0 : Int32) ls hl ⟨(xr_ub n), (Or.inr rfl), (by unfold fX5_isWhole; rfl)⟩
  clear hl
  intro kA is i ls hl hI ihA
  obtain ⟨huA, hbis, hLA⟩ := hI
  refine lv_iload_n hx hb dX5_isWhole_4 rfl (lv_at hl 0 rfl) ?_
  refine lv_iload_n hx hb dX5_isWhole_5 rfl (lv_at hl 3 rfl) ?_
  refine lv_icmp_ge (tgt := 35) hx hb dX5_isWhole_6 (by decide) (fun c1 => ?_) (fun c1 => ?_)
  · refine lv_iload_n hx hb dX5_isWhole_35 rfl (lv_at hl 1 rfl) ?_
    exact W.zret (v := is) hx hb hr (bz hbis) (fun t ht hW => ⟨by rw [← hLA, fX5_isWhole_A_s, if_pos c1], ht⟩) (fun _ h => absurd h List.not_mem_nil) dX5_isWhole_36
  · refine lv_iload_n hx hb dX5_isWhole_9 rfl (lv_at hl 1 rfl) ?_
    refine lv_if_eq (tgt := 27) hx hb dX5_isWhole_10 (by decide) (fun c2 => ?_) (fun c2 => ?_)
    · refine lv_iconst (v := 0) hx hb dX5_isWhole_27 (by decide) ?_
      refine lv_istore_n (lv' := [(2, .int (0 : Int32)), (3, .int i), (0, .ref m1), (1, .int n)]) hx hb dX5_isWhole_28 rfl hl (by decide) rfl (fun ls hl => ?_)
      obtain ⟨z3, ez3⟩ : ∃ y : Int32, y = i + 1 := ⟨_, rfl⟩
      refine lv_iinc (v := z3) (lv' := [(3, .int z3), (2, .int (0 : Int32)), (0, .ref m1), (1, .int n)]) hx hb dX5_isWhole_29 hl (k := 1) rfl (by rw [ez3]; rfl) (by decide) rfl (fun ls hl => ?_)
      refine lv_goto (tgt := 4) hx hb dX5_isWhole_32 (by decide) ?_
      have hl9 := hl
      subst ez3
      exact ihA (0 : Int32) (i + 1) _ (lv_sub hl9 [0, 1, 2, 3] rfl) ⟨xr_us huA c1, (Or.inl rfl), by rw [← hLA, fX5_isWhole_A_s, if_neg c1, if_pos c2]⟩
    · refine lv_aload_n hx hb dX5_isWhole_13 rfl (lv_at hl 2 rfl) ?_
      refine va_get (D := D) (ci := 9) (v := .ref m4) (C := RX5) (T := TX5) (N := 14) hx hb hts hinX5 hown hK hP 0 rfl rfl 5 (by decide) (hts _ fk_X5_20) (fun _ h9 => h9) rfl dX5_isWhole_14 ?_
      refine lv_iload_n hx hb dX5_isWhole_17 rfl (lv_at hl 0 rfl) ?_
      refine va_iald hx hb hK hP 3 0 rfl rfl (xr_in huA c1 on_) dX5_isWhole_18 ?_
      refine lv_iconst (v := (-1)) hx hb dX5_isWhole_19 (by decide) ?_
      refine lv_icmp_eq (tgt := 27) hx hb dX5_isWhole_20 (by decide) (fun c4 => ?_) (fun c4 => ?_)
      · refine lv_iconst (v := 0) hx hb dX5_isWhole_27 (by decide) ?_
        refine lv_istore_n (lv' := [(2, .int (0 : Int32)), (3, .int i), (0, .ref m1), (1, .int n)]) hx hb dX5_isWhole_28 rfl hl (by decide) rfl (fun ls hl => ?_)
        obtain ⟨z5, ez5⟩ : ∃ y : Int32, y = i + 1 := ⟨_, rfl⟩
        refine lv_iinc (v := z5) (lv' := [(3, .int z5), (2, .int (0 : Int32)), (0, .ref m1), (1, .int n)]) hx hb dX5_isWhole_29 hl (k := 1) rfl (by rw [ez5]; rfl) (by decide) rfl (fun ls hl => ?_)
        refine lv_goto (tgt := 4) hx hb dX5_isWhole_32 (by decide) ?_
        have hl9 := hl
        subst ez5
        exact ihA (0 : Int32) (i + 1) _ (lv_sub hl9 [0, 1, 2, 3] rfl) ⟨xr_us huA c1, (Or.inl rfl), by rw [← hLA, fX5_isWhole_A_s, if_neg c1, if_neg c2, if_pos c4]⟩
      · refine lv_iconst (v := 1) hx hb dX5_isWhole_23 (by decide) ?_
        refine lv_goto (tgt := 28) hx hb dX5_isWhole_24 (by decide) ?_
        refine lv_istore_n (lv' := [(2, .int (1 : Int32)), (3, .int i), (0, .ref m1), (1, .int n)]) hx hb dX5_isWhole_28 rfl hl (by decide) rfl (fun ls hl => ?_)
        obtain ⟨z6, ez6⟩ : ∃ y : Int32, y = i + 1 := ⟨_, rfl⟩
        refine lv_iinc (v := z6) (lv' := [(3, .int z6), (2, .int (1 : Int32)), (0, .ref m1), (1, .int n)]) hx hb dX5_isWhole_29 hl (k := 1) rfl (by rw [ez6]; rfl) (by decide) rfl (fun ls hl => ?_)
        refine lv_goto (tgt := 4) hx hb dX5_isWhole_32 (by decide) ?_
        have hl9 := hl
        subst ez6
        exact ihA (1 : Int32) (i + 1) _ (lv_sub hl9 [0, 1, 2, 3] rfl) ⟨xr_us huA c1, (Or.inr rfl), by rw [← hLA, fX5_isWhole_A_s, if_neg c1, if_neg c2, if_neg c4]⟩
def fX5_next (held : Nat → Int32) (ia : Int32) (n : Int32) : Int32 := if (ia + (1 : Int32)) = n then (held (0 : Int32).toNatClampNeg) else (held (ia + (1 : Int32)).toNatClampNeg)
set_option maxHeartbeats 4000000 in
set_option maxRecDepth 100000 in
theorem ct5_next (l : Launch) (D : va_G) (m1 m2 m3 m4 m5 m6 m7 : Nat) (kI kJ : ClassId) (xs ys held : Nat → Int32) (la lb lc : Nat → Int64) (th pm rm on cl un ze lm : Int32) (ia : Int32) (n : Int32) (oia : 0 ≤ ia.toInt ∧ ia.toInt < n.toInt) (on_ : n.toInt ≤ (24 : Nat)) : Met l yX5_next (Cond.code yX5_next cX5_next 3 (some .int) :: BY) ({ frames := 0, cells := 0, slots := 0, locals := 0 }) (xr_P nN D vwCl [(kI, .int), (kJ, .long)] (wMo m1 m2 m3 m4 m5 m6 m7 kI kJ xs ys held la lb lc th pm rm on cl un ze lm) [.ref m1, .int ia, .int n]) (xr_Q (.int (fX5_next held ia n))) 0 0 (fun _ => False) := by
  refine Met.ofW (cc := cX5_next) (maxL := 3) (ret := (some .int)) (by decide) rfl ?_
  intro p e s m args below meth c s₁ B hml hv
  obtain ⟨rfl, hP, hK, hN⟩ := hv
  have hx := B.exec
  have hb := B.bytes
  have hr := B.returns
  have hts0 := atoms_spec (ws := Cond.code yX5_next cX5_next 3 (some .int) :: BY) B.pre
  have hts : ∀ w ∈ BY, w.before _ s = true := fun w h => hts0 w (List.mem_cons_of_mem _ h)
  have hown : s.vm.findClass RX5 = some m.cls := findClass_of_methodNamed B.named
  have hlocks := B.notSynchronized
  have hl := lv_entry ([.ref m1, .int ia, .int n]) (n := 3) (Nat.le_of_ble_eq_true rfl)
  rw [lg_entry_eq]
  generalize (lg_sl ([.ref m1, .int ia, .int n]) ++ List.replicate (3 - (lg_sl ([.ref m1, .int ia, .int n])).length) Slot.unset).toArray = ls at hl ⊢
  have hl : lv_has ls 3 [(0, .ref m1), (1, .int ia), (2, .int n)] := hl
  refine lv_aload_n hx hb dX5_next_0 rfl (lv_at hl 0 rfl) ?_
  refine va_get (D := D) (ci := 9) (v := .ref m4) (C := RX5) (T := TX5) (N := 14) hx hb hts hinX5 hown hK hP 0 rfl rfl 5 (by decide) (hts _ fk_X5_20) (fun _ h9 => h9) rfl dX5_next_1 ?_
  refine lv_iload_n hx hb dX5_next_4 rfl (lv_at hl 1 rfl) ?_
  refine lv_iconst (v := 1) hx hb dX5_next_5 (by decide) ?_
  refine lv_iadd hx hb dX5_next_6 ?_
  refine lv_iload_n hx hb dX5_next_7 rfl (lv_at hl 2 rfl) ?_
  refine lv_icmp_ne (tgt := 15) hx hb dX5_next_8 (by decide) (fun c1 => ?_) (fun c1 => ?_)
  · refine lv_iload_n hx hb dX5_next_15 rfl (lv_at hl 1 rfl) ?_
    refine lv_iconst (v := 1) hx hb dX5_next_16 (by decide) ?_
    refine lv_iadd hx hb dX5_next_17 ?_
    refine va_iald hx hb hK hP 3 0 rfl rfl (o_nx oia on_ c1) dX5_next_18 ?_
    exact W.iret (v := held (ia + (1 : Int32)).toNatClampNeg) hx hb hr (fun t ht hW => ⟨by rw [show fX5_next held ia n = held (ia + (1 : Int32)).toNatClampNeg by unfold fX5_next; rw [if_neg c1]], ht⟩) (fun _ h => absurd h List.not_mem_nil) dX5_next_19
  · refine lv_iconst (v := 0) hx hb dX5_next_11 (by decide) ?_
    refine lv_goto (tgt := 18) hx hb dX5_next_12 (by decide) ?_
    refine va_iald hx hb hK hP 3 0 rfl rfl (by rw [vp_in_iff]; decide) dX5_next_18 ?_
    exact W.iret (v := held (0 : Int32).toNatClampNeg) hx hb hr (fun t ht hW => ⟨by rw [show fX5_next held ia n = held (0 : Int32).toNatClampNeg by unfold fX5_next; rw [if_pos c1]], ht⟩) (fun _ h => absurd h List.not_mem_nil) dX5_next_19
theorem o_next {held : Nat → Int32} {n i : Int32} (h : 0 ≤ i.toInt ∧ i.toInt < n.toInt) (oh : ∀ j : Nat, (j : Int) < n.toInt → vp_in (held j) 60) : vp_in (fX5_next held i n) 60 := by
  unfold fX5_next
  split
  · exact oh _ (by show ((0 : Nat) : Int) < _; omega)
  · rename_i h1
    have := nx_ne h h1
    exact oh _ (by rw [xr_cl0 (by omega)]; omega)
def fX5_isOnEdge_A (held xs ys : Nat → Int32) (n : Int32) (ip : Int32) : Nat → Int32 → Int32 → Int32
  | 0, _, _ => 0
  | kA + 1, is, i => if n ≤ i then (is) else (if is = (0 : Int32) then (if (fX5_isOn xs ys (held i.toNatClampNeg) (fX5_next held i n) ip) = (0 : Int32) then (fX5_isOnEdge_A held xs ys n ip kA (0 : Int32) (i + 1)) else (fX5_isOnEdge_A held xs ys n ip kA (1 : Int32) (i + 1))) else (fX5_isOnEdge_A held xs ys n ip kA (1 : Int32) (i + 1)))
theorem fX5_isOnEdge_A_s (held xs ys : Nat → Int32) (n : Int32) (ip : Int32) (kA : Nat) (is : Int32) (i : Int32) : fX5_isOnEdge_A held xs ys n ip  (kA + 1) is i = (if n ≤ i then (is) else (if is = (0 : Int32) then (if (fX5_isOn xs ys (held i.toNatClampNeg) (fX5_next held i n) ip) = (0 : Int32) then (fX5_isOnEdge_A held xs ys n ip kA (0 : Int32) (i + 1)) else (fX5_isOnEdge_A held xs ys n ip kA (1 : Int32) (i + 1))) else (fX5_isOnEdge_A held xs ys n ip kA (1 : Int32) (i + 1)))) := rfl
def fX5_isOnEdge (held xs ys : Nat → Int32) (n : Int32) (ip : Int32) : Int32 := fX5_isOnEdge_A held xs ys n ip (n.toInt.toNat + 1) (0 : Int32) (0 : Int32)
set_option maxHeartbeats 4000000 in
set_option maxRecDepth 100000 in
theorem ct5_isOnEdge (l : Launch) (D : va_G) (m1 m2 m3 m4 m5 m6 m7 : Nat) (kI kJ : ClassId) (xs ys held : Nat → Int32) (la lb lc : Nat → Int64) (th pm rm on cl un ze lm : Int32) (n : Int32) (ip : Int32) (on_ : n.toInt ≤ (24 : Nat)) (oh : ∀ j : Nat, (j : Int) < n.toInt → vp_in (held j) 60) (oip : vp_in ip 60) : Met l yX5_isOnEdge (Cond.code yX5_isOnEdge cX5_isOnEdge 5 (some .boolean) :: BY) ({ frames := 3, cells := 0, slots := 0, locals := 180 }) (xr_P nN D vwCl [(kI, .int), (kJ, .long)] (wMo m1 m2 m3 m4 m5 m6 m7 kI kJ xs ys held la lb lc th pm rm on cl un ze lm) [.ref m1, .int n, .int ip]) (xr_Q (.int (fX5_isOnEdge held xs ys n ip))) 0 0 (fun _ => False) := by
  refine Met.ofW (cc := cX5_isOnEdge) (maxL := 5) (ret := (some .boolean)) (by decide) rfl ?_
  intro p e s m args below meth c s₁ B hml hv
  obtain ⟨rfl, hP, hK, hN⟩ := hv
  have hx := B.exec
  have hb := B.bytes
  have hr := B.returns
  have hts0 := atoms_spec (ws := Cond.code yX5_isOnEdge cX5_isOnEdge 5 (some .boolean) :: BY) B.pre
  have hts : ∀ w ∈ BY, w.before _ s = true := fun w h => hts0 w (List.mem_cons_of_mem _ h)
  have hown : s.vm.findClass RX5 = some m.cls := findClass_of_methodNamed B.named
  have hlocks := B.notSynchronized
  have hl := lv_entry ([.ref m1, .int n, .int ip]) (n := 5) (Nat.le_of_ble_eq_true rfl)
  rw [lg_entry_eq]
  generalize (lg_sl ([.ref m1, .int n, .int ip]) ++ List.replicate (5 - (lg_sl ([.ref m1, .int n, .int ip])).length) Slot.unset).toArray = ls at hl ⊢
  have hl : lv_has ls 5 [(0, .ref m1), (1, .int n), (2, .int ip)] := hl
  refine lv_iconst (v := 0) hx hb dX5_isOnEdge_0 (by decide) ?_
  refine lv_istore_n (lv' := [(3, .int (0 : Int32)), (0, .ref m1), (1, .int n), (2, .int ip)]) hx hb dX5_isOnEdge_1 rfl hl (by decide) rfl (fun ls hl => ?_)
  refine lv_iconst (v := 0) hx hb dX5_isOnEdge_2 (by decide) ?_
  refine lv_istore (lv' := [(4, .int (0 : Int32)), (3, .int (0 : Int32)), (0, .ref m1), (1, .int n), (2, .int ip)]) hx hb dX5_isOnEdge_3 hl (by decide) rfl (fun ls hl => ?_)
  refine xr_l2 (P := fun ls => W p l e _ s m _ below meth c _ _ _ _ _ (F0 m 5 ls [])) (nL := 5) (fun (is : Int32) (i : Int32) => [(4, .int i), (3, .int is), (0, .ref m1), (1, .int n), (2, .int ip)]) (fun kA (is : Int32) (i : Int32) => xr_u n i kA ∧ (is = 0 ∨ is = 1) ∧ fX5_isOnEdge_A held xs ys n ip kA is i = fX5_isOnEdge held xs ys n ip) (fun _ _ h => xr_u0 h.1) ?_ (n.toInt.toNat + 1) (0 : Int32) (0 : Int32) ls hl ⟨(xr_ub n), (Or.inl rfl), (by unfold fX5_isOnEdge; rfl)⟩
  clear hl
  intro kA is i ls hl hI ihA
  obtain ⟨huA, hbis, hLA⟩ := hI
  refine lv_iload hx hb dX5_isOnEdge_5 (lv_at hl 0 rfl) ?_
  refine lv_iload_n hx hb dX5_isOnEdge_7 rfl (lv_at hl 3 rfl) ?_
  refine lv_icmp_ge (tgt := 49) hx hb dX5_isOnEdge_8 (by decide) (fun c1 => ?_) (fun c1 => ?_)
  · refine lv_iload_n hx hb dX5_isOnEdge_49 rfl (lv_at hl 1 rfl) ?_
    exact W.zret (v := is) hx hb hr (bz hbis) (fun t ht hW => ⟨by rw [← hLA, fX5_isOnEdge_A_s, if_pos c1], ht⟩) (fun _ h => absurd h List.not_mem_nil) dX5_isOnEdge_50
  · refine lv_iload_n hx hb dX5_isOnEdge_11 rfl (lv_at hl 1 rfl) ?_
    refine lv_if_ne (tgt := 37) hx hb dX5_isOnEdge_12 (by decide) (fun c2 => ?_) (fun c2 => ?_)
    · refine lv_iconst (v := 1) hx hb dX5_isOnEdge_37 (by decide) ?_
      refine lv_goto (tgt := 42) hx hb dX5_isOnEdge_38 (by decide) ?_
      refine lv_istore_n (lv' := [(3, .int (1 : Int32)), (4, .int i), (0, .ref m1), (1, .int n), (2, .int ip)]) hx hb dX5_isOnEdge_42 rfl hl (by decide) rfl (fun ls hl => ?_)
      obtain ⟨z3, ez3⟩ : ∃ y : Int32, y = i + 1 := ⟨_, rfl⟩
      refine lv_iinc (v := z3) (lv' := [(4, .int z3), (3, .int (1 : Int32)), (0, .ref m1), (1, .int n), (2, .int ip)]) hx hb dX5_isOnEdge_43 hl (k := 1) rfl (by rw [ez3]; rfl) (by decide) rfl (fun ls hl => ?_)
      refine lv_goto (tgt := 5) hx hb dX5_isOnEdge_46 (by decide) ?_
      have hl9 := hl
      subst ez3
      exact ihA (1 : Int32) (i + 1) _ (lv_sub hl9 [0, 1, 2, 3, 4] rfl) ⟨xr_us huA c1, (Or.inr rfl), by rw [← hLA, fX5_isOnEdge_A_s, if_neg c1, if_neg c2]⟩
    · refine lv_aload_n hx hb dX5_isOnEdge_15 rfl (lv_at hl 2 rfl) ?_
      refine lv_aload_n hx hb dX5_isOnEdge_16 rfl (lv_at hl 2 rfl) ?_
      refine va_get (D := D) (ci := 9) (v := .ref m4) (C := RX5) (T := TX5) (N := 14) hx hb hts hinX5 hown hK hP 0 rfl rfl 5 (by decide) (hts _ fk_X5_20) (fun _ h9 => h9) rfl dX5_isOnEdge_17 ?_
      refine lv_iload hx hb dX5_isOnEdge_20 (lv_at hl 0 rfl) ?_
      refine va_iald hx hb hK hP 3 0 rfl rfl (xr_in huA c1 on_) dX5_isOnEdge_22 ?_
      refine lv_aload_n hx hb dX5_isOnEdge_23 rfl (lv_at hl 2 rfl) ?_
      refine lv_iload hx hb dX5_isOnEdge_24 (lv_at hl 0 rfl) ?_
      refine lv_iload_n hx hb dX5_isOnEdge_26 rfl (lv_at hl 3 rfl) ?_
      refine xr_V (q := (RX5, TX5, 14)) (ci := 9) (q0 := 0) (rest := [.int (held i.toNatClampNeg), .ref m1]) (As := [.int i, .int n]) ⟨hx, hb, hml, hown, hts⟩ (ct5_next l D m1 m2 m3 m4 m5 m6 m7 kI kJ xs ys held la lb lc th pm rm on cl un ze lm i n (xr_rg huA c1) on_) (cwV 2 hts gl_X5_145 rfl rfl rfl (by decide +kernel) ⟨Nat.le_of_ble_eq_true rfl, Nat.le_of_ble_eq_true rfl⟩) nN_mv hN hK hP [0, 1, 2, 3, 4, 5, 6] [0, 1] rfl rfl rfl rfl rfl hl.1 rfl (Nat.le_of_ble_eq_true rfl) dX5_isOnEdge_27 ⟨Nat.le_of_ble_eq_true rfl, Nat.le_of_ble_eq_true rfl⟩ ?_
      refine lv_iload_n hx hb dX5_isOnEdge_30 rfl (lv_at hl 4 rfl) ?_
      refine xr_V (q := (RX5, TX5, 14)) (ci := 9) (q0 := 0) (rest := []) (As := [.int (held i.toNatClampNeg), .int (fX5_next held i n), .int ip]) ⟨hx, hb, hml, hown, hts⟩ (ct5_isOn l D m1 m2 m3 m4 m5 m6 m7 kI kJ xs ys held la lb lc th pm rm on cl un ze lm (held i.toNatClampNeg) (fX5_next held i n) ip (oh _ (xr_cl huA c1)) (o_next (xr_rg huA c1) oh) oip) (cwV 3 hts gl_X5_131 rfl rfl rfl (by decide +kernel) ⟨Nat.le_of_ble_eq_true rfl, Nat.le_of_ble_eq_true rfl⟩) nN_mv hN hK hP [0, 1, 2, 3, 4, 5, 6] [0, 1] rfl rfl rfl rfl rfl hl.1 rfl (Nat.le_of_ble_eq_true rfl) dX5_isOnEdge_31 ⟨Nat.le_of_ble_eq_true rfl, Nat.le_of_ble_eq_true rfl⟩ ?_
      refine lv_if_eq (tgt := 41) hx hb dX5_isOnEdge_34 (by decide) (fun c4 => ?_) (fun c4 => ?_)
      · refine lv_iconst (v := 0) hx hb dX5_isOnEdge_41 (by decide) ?_
        refine lv_istore_n (lv' := [(3, .int (0 : Int32)), (4, .int i), (0, .ref m1), (1, .int n), (2, .int ip)]) hx hb dX5_isOnEdge_42 rfl hl (by decide) rfl (fun ls hl => ?_)
        obtain ⟨z5, ez5⟩ : ∃ y : Int32, y = i + 1 := ⟨_, rfl⟩
        refine lv_iinc (v := z5) (lv' := [(4, .int z5), (3, .int (0 : Int32)), (0, .ref m1), (1, .int n), (2, .int ip)]) hx hb dX5_isOnEdge_43 hl (k := 1) rfl (by rw [ez5]; rfl) (by decide) rfl (fun ls hl => ?_)
        refine lv_goto (tgt := 5) hx hb dX5_isOnEdge_46 (by decide) ?_
        have hl9 := hl
        subst ez5
        exact ihA (0 : Int32) (i + 1) _ (lv_sub hl9 [0, 1, 2, 3, 4] rfl) ⟨xr_us huA c1, (Or.inl rfl), by rw [← hLA, fX5_isOnEdge_A_s, if_neg c1, if_pos c2, if_pos c4]⟩
      · refine lv_iconst (v := 1) hx hb dX5_isOnEdge_37 (by decide) ?_
        refine lv_goto (tgt := 42) hx hb dX5_isOnEdge_38 (by decide) ?_
        refine lv_istore_n (lv' := [(3, .int (1 : Int32)), (4, .int i), (0, .ref m1), (1, .int n), (2, .int ip)]) hx hb dX5_isOnEdge_42 rfl hl (by decide) rfl (fun ls hl => ?_)
        obtain ⟨z6, ez6⟩ : ∃ y : Int32, y = i + 1 := ⟨_, rfl⟩
        refine lv_iinc (v := z6) (lv' := [(4, .int z6), (3, .int (1 : Int32)), (0, .ref m1), (1, .int n), (2, .int ip)]) hx hb dX5_isOnEdge_43 hl (k := 1) rfl (by rw [ez6]; rfl) (by decide) rfl (fun ls hl => ?_)
        refine lv_goto (tgt := 5) hx hb dX5_isOnEdge_46 (by decide) ?_
        have hl9 := hl
        subst ez6
        exact ihA (1 : Int32) (i + 1) _ (lv_sub hl9 [0, 1, 2, 3, 4] rfl) ⟨xr_us huA c1, (Or.inr rfl), by rw [← hLA, fX5_isOnEdge_A_s, if_neg c1, if_pos c2, if_neg c4]⟩
def fX5_rises (held xs ys : Nat → Int32) (ia : Int32) (n : Int32) (ip : Int32) : Int32 := if (ys ip.toNatClampNeg) < (ys (held ia.toNatClampNeg).toNatClampNeg) then (if (ys ip.toNatClampNeg) < (ys (fX5_next held ia n).toNatClampNeg) then ((0 : Int32)) else (if (ys (held ia.toNatClampNeg).toNatClampNeg) ≤ (ys ip.toNatClampNeg) then ((0 : Int32)) else (if (fX5_turn xs ys (held ia.toNatClampNeg) (fX5_next held ia n) ip) = (-1 : Int32) then ((-1 : Int32)) else ((0 : Int32))))) else (if (ys (fX5_next held ia n).toNatClampNeg) ≤ (ys ip.toNatClampNeg) then (if (ys ip.toNatClampNeg) < (ys (fX5_next held ia n).toNatClampNeg) then ((0 : Int32)) else (if (ys (held ia.toNatClampNeg).toNatClampNeg) ≤ (ys ip.toNatClampNeg) then ((0 : Int32)) else (if (fX5_turn xs ys (held ia.toNatClampNeg) (fX5_next held ia n) ip) = (-1 : Int32) then ((-1 : Int32)) else ((0 : Int32))))) else (if (ys ip.toNatClampNeg) < (ys (fX5_next held ia n).toNatClampNeg) then (if (fX5_turn xs ys (held ia.toNatClampNeg) (fX5_next held ia n) ip) = (1 : Int32) then ((1 : Int32)) else ((0 : Int32))) else (if (ys (held ia.toNatClampNeg).toNatClampNeg) ≤ (ys ip.toNatClampNeg) then (if (fX5_turn xs ys (held ia.toNatClampNeg) (fX5_next held ia n) ip) = (1 : Int32) then ((1 : Int32)) else ((0 : Int32))) else (if (fX5_turn xs ys (held ia.toNatClampNeg) (fX5_next held ia n) ip) = (1 : Int32) then ((1 : Int32)) else (if (fX5_turn xs ys (held ia.toNatClampNeg) (fX5_next held ia n) ip) = (-1 : Int32) then ((-1 : Int32)) else ((0 : Int32)))))))
set_option maxHeartbeats 4000000 in
set_option maxRecDepth 100000 in
theorem ct5_rises (l : Launch) (D : va_G) (m1 m2 m3 m4 m5 m6 m7 : Nat) (kI kJ : ClassId) (xs ys held : Nat → Int32) (la lb lc : Nat → Int64) (th pm rm on cl un ze lm : Int32) (ia : Int32) (n : Int32) (ip : Int32) (oia : 0 ≤ ia.toInt ∧ ia.toInt < n.toInt) (on_ : n.toInt ≤ (24 : Nat)) (oh : ∀ j : Nat, (j : Int) < n.toInt → vp_in (held j) 60) (oip : vp_in ip 60) : Met l yX5_rises (Cond.code yX5_rises cX5_rises 8 (some .int) :: BY) ({ frames := 2, cells := 0, slots := 0, locals := 120 }) (xr_P nN D vwCl [(kI, .int), (kJ, .long)] (wMo m1 m2 m3 m4 m5 m6 m7 kI kJ xs ys held la lb lc th pm rm on cl un ze lm) [.ref m1, .int ia, .int n, .int ip]) (xr_Q (.int (fX5_rises held xs ys ia n ip))) 0 0 (fun _ => False) := by
  refine Met.ofW (cc := cX5_rises) (maxL := 8) (ret := (some .int)) (by decide) rfl ?_
  intro p e s m args below meth c s₁ B hml hv
  obtain ⟨rfl, hP, hK, hN⟩ := hv
  have hx := B.exec
  have hb := B.bytes
  have hr := B.returns
  have hts0 := atoms_spec (ws := Cond.code yX5_rises cX5_rises 8 (some .int) :: BY) B.pre
  have hts : ∀ w ∈ BY, w.before _ s = true := fun w h => hts0 w (List.mem_cons_of_mem _ h)
  have hown : s.vm.findClass RX5 = some m.cls := findClass_of_methodNamed B.named
  have hlocks := B.notSynchronized
  have hl := lv_entry ([.ref m1, .int ia, .int n, .int ip]) (n := 8) (Nat.le_of_ble_eq_true rfl)
  rw [lg_entry_eq]
  generalize (lg_sl ([.ref m1, .int ia, .int n, .int ip]) ++ List.replicate (8 - (lg_sl ([.ref m1, .int ia, .int n, .int ip])).length) Slot.unset).toArray = ls at hl ⊢
  have hl : lv_has ls 8 [(0, .ref m1), (1, .int ia), (2, .int n), (3, .int ip)] := hl
  refine lv_aload_n hx hb dX5_rises_0 rfl (lv_at hl 0 rfl) ?_
  refine va_get (D := D) (ci := 9) (v := .ref m4) (C := RX5) (T := TX5) (N := 14) hx hb hts hinX5 hown hK hP 0 rfl rfl 5 (by decide) (hts _ fk_X5_20) (fun _ h9 => h9) rfl dX5_rises_1 ?_
  refine lv_iload_n hx hb dX5_rises_4 rfl (lv_at hl 1 rfl) ?_
  refine va_iald hx hb hK hP 3 0 rfl rfl (rg_in oia on_) dX5_rises_5 ?_
  refine lv_istore (lv' := [(4, .int (held ia.toNatClampNeg)), (0, .ref m1), (1, .int ia), (2, .int n), (3, .int ip)]) hx hb dX5_rises_6 hl (by decide) rfl (fun ls hl => ?_)
  refine lv_aload_n hx hb dX5_rises_8 rfl (lv_at hl 1 rfl) ?_
  refine lv_iload_n hx hb dX5_rises_9 rfl (lv_at hl 2 rfl) ?_
  refine lv_iload_n hx hb dX5_rises_10 rfl (lv_at hl 3 rfl) ?_
  refine xr_V (q := (RX5, TX5, 14)) (ci := 9) (q0 := 0) (rest := []) (As := [.int ia, .int n]) ⟨hx, hb, hml, hown, hts⟩ (ct5_next l D m1 m2 m3 m4 m5 m6 m7 kI kJ xs ys held la lb lc th pm rm on cl un ze lm ia n oia on_) (cwV 2 hts gl_X5_145 rfl rfl rfl (by decide +kernel) ⟨Nat.le_of_ble_eq_true rfl, Nat.le_of_ble_eq_true rfl⟩) nN_mv hN hK hP [0, 1, 2, 3, 4, 5, 6] [0, 1] rfl rfl rfl rfl rfl hl.1 rfl (Nat.le_of_ble_eq_true rfl) dX5_rises_11 ⟨Nat.le_of_ble_eq_true rfl, Nat.le_of_ble_eq_true rfl⟩ ?_
  refine lv_istore (lv' := [(5, .int (fX5_next held ia n)), (4, .int (held ia.toNatClampNeg)), (0, .ref m1), (1, .int ia), (2, .int n), (3, .int ip)]) hx hb dX5_rises_14 hl (by decide) rfl (fun ls hl => ?_)
  refine lv_aload_n hx hb dX5_rises_16 rfl (lv_at hl 2 rfl) ?_
  refine va_get (D := D) (ci := 9) (v := .ref m3) (C := RX5) (T := TX5) (N := 14) hx hb hts hinX5 hown hK hP 0 rfl rfl 3 (by decide) (hts _ fk_X5_17) (fun _ h9 => h9) rfl dX5_rises_17 ?_
  refine lv_iload hx hb dX5_rises_20 (lv_at hl 1 rfl) ?_
  refine va_iald hx hb hK hP 2 0 rfl rfl (oh _ (rg_cl oia)) dX5_rises_22 ?_
  refine lv_aload_n hx hb dX5_rises_23 rfl (lv_at hl 2 rfl) ?_
  refine va_get (D := D) (ci := 9) (v := .ref m3) (C := RX5) (T := TX5) (N := 14) hx hb hts hinX5 hown hK hP 0 rfl rfl 3 (by decide) (hts _ fk_X5_17) (fun _ h9 => h9) rfl dX5_rises_24 ?_
  refine lv_iload_n hx hb dX5_rises_27 rfl (lv_at hl 5 rfl) ?_
  refine va_iald hx hb hK hP 2 0 rfl rfl oip dX5_rises_28 ?_
  refine lv_icmp_gt (tgt := 52) hx hb dX5_rises_29 (by decide) (fun c1 => ?_) (fun c1 => ?_)
  · refine lv_iconst (v := 0) hx hb dX5_rises_52 (by decide) ?_
    refine lv_istore (lv' := [(6, .int (0 : Int32)), (5, .int (fX5_next held ia n)), (4, .int (held ia.toNatClampNeg)), (0, .ref m1), (1, .int ia), (2, .int n), (3, .int ip)]) hx hb dX5_rises_53 hl (by decide) rfl (fun ls hl => ?_)
    refine lv_aload_n hx hb dX5_rises_55 rfl (lv_at hl 3 rfl) ?_
    refine va_get (D := D) (ci := 9) (v := .ref m3) (C := RX5) (T := TX5) (N := 14) hx hb hts hinX5 hown hK hP 0 rfl rfl 3 (by decide) (hts _ fk_X5_17) (fun _ h9 => h9) rfl dX5_rises_56 ?_
    refine lv_iload hx hb dX5_rises_59 (lv_at hl 1 rfl) ?_
    refine va_iald hx hb hK hP 2 0 rfl rfl (o_next oia oh) dX5_rises_61 ?_
    refine lv_aload_n hx hb dX5_rises_62 rfl (lv_at hl 3 rfl) ?_
    refine va_get (D := D) (ci := 9) (v := .ref m3) (C := RX5) (T := TX5) (N := 14) hx hb hts hinX5 hown hK hP 0 rfl rfl 3 (by decide) (hts _ fk_X5_17) (fun _ h9 => h9) rfl dX5_rises_63 ?_
    refine lv_iload_n hx hb dX5_rises_66 rfl (lv_at hl 6 rfl) ?_
    refine va_iald hx hb hK hP 2 0 rfl rfl oip dX5_rises_67 ?_
    refine lv_icmp_gt (tgt := 91) hx hb dX5_rises_68 (by decide) (fun c2 => ?_) (fun c2 => ?_)
    · refine lv_iconst (v := 0) hx hb dX5_rises_91 (by decide) ?_
      refine lv_istore (lv' := [(7, .int (0 : Int32)), (6, .int (0 : Int32)), (5, .int (fX5_next held ia n)), (4, .int (held ia.toNatClampNeg)), (0, .ref m1), (1, .int ia), (2, .int n), (3, .int ip)]) hx hb dX5_rises_92 hl (by decide) rfl (fun ls hl => ?_)
      refine lv_iload hx hb dX5_rises_94 (lv_at hl 1 rfl) ?_
      refine lv_if_eq (tgt := 116) hx hb dX5_rises_96 (by decide) (fun c3 => ?_) (fun c3 => ?_)
      · refine lv_iload hx hb dX5_rises_116 (lv_at hl 0 rfl) ?_
        refine lv_if_eq (tgt := 138) hx hb dX5_rises_118 (by decide) (fun c4 => ?_) (fun c4 => ?_)
        · refine lv_iconst (v := 0) hx hb dX5_rises_138 (by decide) ?_
          exact W.iret (v := (0 : Int32)) hx hb hr (fun t ht hW => ⟨by rw [show fX5_rises held xs ys ia n ip = (0 : Int32) by unfold fX5_rises; rw [if_pos c1, if_pos c2]], ht⟩) (fun _ h => absurd h List.not_mem_nil) dX5_rises_139
        · exact absurd (by decide) c4
      · exact absurd (by decide) c3
    · refine lv_aload_n hx hb dX5_rises_71 rfl (lv_at hl 3 rfl) ?_
      refine va_get (D := D) (ci := 9) (v := .ref m3) (C := RX5) (T := TX5) (N := 14) hx hb hts hinX5 hown hK hP 0 rfl rfl 3 (by decide) (hts _ fk_X5_17) (fun _ h9 => h9) rfl dX5_rises_72 ?_
      refine lv_iload hx hb dX5_rises_75 (lv_at hl 2 rfl) ?_
      refine va_iald hx hb hK hP 2 0 rfl rfl (oh _ (rg_cl oia)) dX5_rises_77 ?_
      refine lv_aload_n hx hb dX5_rises_78 rfl (lv_at hl 3 rfl) ?_
      refine va_get (D := D) (ci := 9) (v := .ref m3) (C := RX5) (T := TX5) (N := 14) hx hb hts hinX5 hown hK hP 0 rfl rfl 3 (by decide) (hts _ fk_X5_17) (fun _ h9 => h9) rfl dX5_rises_79 ?_
      refine lv_iload_n hx hb dX5_rises_82 rfl (lv_at hl 6 rfl) ?_
      refine va_iald hx hb hK hP 2 0 rfl rfl oip dX5_rises_83 ?_
      refine lv_icmp_le (tgt := 91) hx hb dX5_rises_84 (by decide) (fun c5 => ?_) (fun c5 => ?_)
      · refine lv_iconst (v := 0) hx hb dX5_rises_91 (by decide) ?_
        refine lv_istore (lv' := [(7, .int (0 : Int32)), (6, .int (0 : Int32)), (5, .int (fX5_next held ia n)), (4, .int (held ia.toNatClampNeg)), (0, .ref m1), (1, .int ia), (2, .int n), (3, .int ip)]) hx hb dX5_rises_92 hl (by decide) rfl (fun ls hl => ?_)
        refine lv_iload hx hb dX5_rises_94 (lv_at hl 1 rfl) ?_
        refine lv_if_eq (tgt := 116) hx hb dX5_rises_96 (by decide) (fun c6 => ?_) (fun c6 => ?_)
        · refine lv_iload hx hb dX5_rises_116 (lv_at hl 0 rfl) ?_
          refine lv_if_eq (tgt := 138) hx hb dX5_rises_118 (by decide) (fun c7 => ?_) (fun c7 => ?_)
          · refine lv_iconst (v := 0) hx hb dX5_rises_138 (by decide) ?_
            exact W.iret (v := (0 : Int32)) hx hb hr (fun t ht hW => ⟨by rw [show fX5_rises held xs ys ia n ip = (0 : Int32) by unfold fX5_rises; rw [if_pos c1, if_neg c2, if_pos c5]], ht⟩) (fun _ h => absurd h List.not_mem_nil) dX5_rises_139
          · exact absurd (by decide) c7
        · exact absurd (by decide) c6
      · refine lv_iconst (v := 1) hx hb dX5_rises_87 (by decide) ?_
        refine lv_goto (tgt := 92) hx hb dX5_rises_88 (by decide) ?_
        refine lv_istore (lv' := [(7, .int (1 : Int32)), (6, .int (0 : Int32)), (5, .int (fX5_next held ia n)), (4, .int (held ia.toNatClampNeg)), (0, .ref m1), (1, .int ia), (2, .int n), (3, .int ip)]) hx hb dX5_rises_92 hl (by decide) rfl (fun ls hl => ?_)
        refine lv_iload hx hb dX5_rises_94 (lv_at hl 1 rfl) ?_
        refine lv_if_eq (tgt := 116) hx hb dX5_rises_96 (by decide) (fun c8 => ?_) (fun c8 => ?_)
        · refine lv_iload hx hb dX5_rises_116 (lv_at hl 0 rfl) ?_
          refine lv_if_eq (tgt := 138) hx hb dX5_rises_118 (by decide) (fun c9 => ?_) (fun c9 => ?_)
          · exact absurd c9 (by decide)
          · refine lv_aload_n hx hb dX5_rises_121 rfl (lv_at hl 4 rfl) ?_
            refine lv_iload hx hb dX5_rises_122 (lv_at hl 3 rfl) ?_
            refine lv_iload hx hb dX5_rises_124 (lv_at hl 2 rfl) ?_
            refine lv_iload_n hx hb dX5_rises_126 rfl (lv_at hl 7 rfl) ?_
            refine xr_V (q := (RX5, TX5, 14)) (ci := 9) (q0 := 0) (rest := []) (As := [.int (held ia.toNatClampNeg), .int (fX5_next held ia n), .int ip]) ⟨hx, hb, hml, hown, hts⟩ (ct5_turn l D m1 m2 m3 m4 m5 m6 m7 kI kJ xs ys held la lb lc th pm rm on cl un ze lm (held ia.toNatClampNeg) (fX5_next held ia n) ip (oh _ (rg_cl oia)) (o_next oia oh) oip) (cwV 3 hts gl_X5_58 rfl rfl rfl (by decide +kernel) ⟨Nat.le_of_ble_eq_true rfl, Nat.le_of_ble_eq_true rfl⟩) nN_mv hN hK hP [0, 1, 2, 3, 4, 5, 6] [0, 1] rfl rfl rfl rfl rfl hl.1 rfl (Nat.le_of_ble_eq_true rfl) dX5_rises_127 ⟨Nat.le_of_ble_eq_true rfl, Nat.le_of_ble_eq_true rfl⟩ ?_
            refine lv_iconst (v := (-1)) hx hb dX5_rises_130 (by decide) ?_
            refine lv_icmp_ne (tgt := 138) hx hb dX5_rises_131 (by decide) (fun c10 => ?_) (fun c10 => ?_)
            · refine lv_iconst (v := 0) hx hb dX5_rises_138 (by decide) ?_
              exact W.iret (v := (0 : Int32)) hx hb hr (fun t ht hW => ⟨by rw [show fX5_rises held xs ys ia n ip = (0 : Int32) by unfold fX5_rises; rw [if_pos c1, if_neg c2, if_neg c5, if_neg c10]], ht⟩) (fun _ h => absurd h List.not_mem_nil) dX5_rises_139
            · refine lv_iconst (v := (-1)) hx hb dX5_rises_134 (by decide) ?_
              refine lv_goto (tgt := 139) hx hb dX5_rises_135 (by decide) ?_
              exact W.iret (v := (-1 : Int32)) hx hb hr (fun t ht hW => ⟨by rw [show fX5_rises held xs ys ia n ip = (-1 : Int32) by unfold fX5_rises; rw [if_pos c1, if_neg c2, if_neg c5, if_pos c10]], ht⟩) (fun _ h => absurd h List.not_mem_nil) dX5_rises_139
        · exact absurd (by decide) c8
  · refine lv_aload_n hx hb dX5_rises_32 rfl (lv_at hl 2 rfl) ?_
    refine va_get (D := D) (ci := 9) (v := .ref m3) (C := RX5) (T := TX5) (N := 14) hx hb hts hinX5 hown hK hP 0 rfl rfl 3 (by decide) (hts _ fk_X5_17) (fun _ h9 => h9) rfl dX5_rises_33 ?_
    refine lv_iload hx hb dX5_rises_36 (lv_at hl 0 rfl) ?_
    refine va_iald hx hb hK hP 2 0 rfl rfl (o_next oia oh) dX5_rises_38 ?_
    refine lv_aload_n hx hb dX5_rises_39 rfl (lv_at hl 2 rfl) ?_
    refine va_get (D := D) (ci := 9) (v := .ref m3) (C := RX5) (T := TX5) (N := 14) hx hb hts hinX5 hown hK hP 0 rfl rfl 3 (by decide) (hts _ fk_X5_17) (fun _ h9 => h9) rfl dX5_rises_40 ?_
    refine lv_iload_n hx hb dX5_rises_43 rfl (lv_at hl 5 rfl) ?_
    refine va_iald hx hb hK hP 2 0 rfl rfl oip dX5_rises_44 ?_
    refine lv_icmp_le (tgt := 52) hx hb dX5_rises_45 (by decide) (fun c11 => ?_) (fun c11 => ?_)
    · refine lv_iconst (v := 0) hx hb dX5_rises_52 (by decide) ?_
      refine lv_istore (lv' := [(6, .int (0 : Int32)), (5, .int (fX5_next held ia n)), (4, .int (held ia.toNatClampNeg)), (0, .ref m1), (1, .int ia), (2, .int n), (3, .int ip)]) hx hb dX5_rises_53 hl (by decide) rfl (fun ls hl => ?_)
      refine lv_aload_n hx hb dX5_rises_55 rfl (lv_at hl 3 rfl) ?_
      refine va_get (D := D) (ci := 9) (v := .ref m3) (C := RX5) (T := TX5) (N := 14) hx hb hts hinX5 hown hK hP 0 rfl rfl 3 (by decide) (hts _ fk_X5_17) (fun _ h9 => h9) rfl dX5_rises_56 ?_
      refine lv_iload hx hb dX5_rises_59 (lv_at hl 1 rfl) ?_
      refine va_iald hx hb hK hP 2 0 rfl rfl (o_next oia oh) dX5_rises_61 ?_
      refine lv_aload_n hx hb dX5_rises_62 rfl (lv_at hl 3 rfl) ?_
      refine va_get (D := D) (ci := 9) (v := .ref m3) (C := RX5) (T := TX5) (N := 14) hx hb hts hinX5 hown hK hP 0 rfl rfl 3 (by decide) (hts _ fk_X5_17) (fun _ h9 => h9) rfl dX5_rises_63 ?_
      refine lv_iload_n hx hb dX5_rises_66 rfl (lv_at hl 6 rfl) ?_
      refine va_iald hx hb hK hP 2 0 rfl rfl oip dX5_rises_67 ?_
      refine lv_icmp_gt (tgt := 91) hx hb dX5_rises_68 (by decide) (fun c12 => ?_) (fun c12 => ?_)
      · refine lv_iconst (v := 0) hx hb dX5_rises_91 (by decide) ?_
        refine lv_istore (lv' := [(7, .int (0 : Int32)), (6, .int (0 : Int32)), (5, .int (fX5_next held ia n)), (4, .int (held ia.toNatClampNeg)), (0, .ref m1), (1, .int ia), (2, .int n), (3, .int ip)]) hx hb dX5_rises_92 hl (by decide) rfl (fun ls hl => ?_)
        refine lv_iload hx hb dX5_rises_94 (lv_at hl 1 rfl) ?_
        refine lv_if_eq (tgt := 116) hx hb dX5_rises_96 (by decide) (fun c13 => ?_) (fun c13 => ?_)
        · refine lv_iload hx hb dX5_rises_116 (lv_at hl 0 rfl) ?_
          refine lv_if_eq (tgt := 138) hx hb dX5_rises_118 (by decide) (fun c14 => ?_) (fun c14 => ?_)
          · refine lv_iconst (v := 0) hx hb dX5_rises_138 (by decide) ?_
            exact W.iret (v := (0 : Int32)) hx hb hr (fun t ht hW => ⟨by rw [show fX5_rises held xs ys ia n ip = (0 : Int32) by unfold fX5_rises; rw [if_neg c1, if_pos c11, if_pos c12]], ht⟩) (fun _ h => absurd h List.not_mem_nil) dX5_rises_139
          · exact absurd (by decide) c14
        · exact absurd (by decide) c13
      · refine lv_aload_n hx hb dX5_rises_71 rfl (lv_at hl 3 rfl) ?_
        refine va_get (D := D) (ci := 9) (v := .ref m3) (C := RX5) (T := TX5) (N := 14) hx hb hts hinX5 hown hK hP 0 rfl rfl 3 (by decide) (hts _ fk_X5_17) (fun _ h9 => h9) rfl dX5_rises_72 ?_
        refine lv_iload hx hb dX5_rises_75 (lv_at hl 2 rfl) ?_
        refine va_iald hx hb hK hP 2 0 rfl rfl (oh _ (rg_cl oia)) dX5_rises_77 ?_
        refine lv_aload_n hx hb dX5_rises_78 rfl (lv_at hl 3 rfl) ?_
        refine va_get (D := D) (ci := 9) (v := .ref m3) (C := RX5) (T := TX5) (N := 14) hx hb hts hinX5 hown hK hP 0 rfl rfl 3 (by decide) (hts _ fk_X5_17) (fun _ h9 => h9) rfl dX5_rises_79 ?_
        refine lv_iload_n hx hb dX5_rises_82 rfl (lv_at hl 6 rfl) ?_
        refine va_iald hx hb hK hP 2 0 rfl rfl oip dX5_rises_83 ?_
        refine lv_icmp_le (tgt := 91) hx hb dX5_rises_84 (by decide) (fun c15 => ?_) (fun c15 => ?_)
        · refine lv_iconst (v := 0) hx hb dX5_rises_91 (by decide) ?_
          refine lv_istore (lv' := [(7, .int (0 : Int32)), (6, .int (0 : Int32)), (5, .int (fX5_next held ia n)), (4, .int (held ia.toNatClampNeg)), (0, .ref m1), (1, .int ia), (2, .int n), (3, .int ip)]) hx hb dX5_rises_92 hl (by decide) rfl (fun ls hl => ?_)
          refine lv_iload hx hb dX5_rises_94 (lv_at hl 1 rfl) ?_
          refine lv_if_eq (tgt := 116) hx hb dX5_rises_96 (by decide) (fun c16 => ?_) (fun c16 => ?_)
          · refine lv_iload hx hb dX5_rises_116 (lv_at hl 0 rfl) ?_
            refine lv_if_eq (tgt := 138) hx hb dX5_rises_118 (by decide) (fun c17 => ?_) (fun c17 => ?_)
            · refine lv_iconst (v := 0) hx hb dX5_rises_138 (by decide) ?_
              exact W.iret (v := (0 : Int32)) hx hb hr (fun t ht hW => ⟨by rw [show fX5_rises held xs ys ia n ip = (0 : Int32) by unfold fX5_rises; rw [if_neg c1, if_pos c11, if_neg c12, if_pos c15]], ht⟩) (fun _ h => absurd h List.not_mem_nil) dX5_rises_139
            · exact absurd (by decide) c17
          · exact absurd (by decide) c16
        · refine lv_iconst (v := 1) hx hb dX5_rises_87 (by decide) ?_
          refine lv_goto (tgt := 92) hx hb dX5_rises_88 (by decide) ?_
          refine lv_istore (lv' := [(7, .int (1 : Int32)), (6, .int (0 : Int32)), (5, .int (fX5_next held ia n)), (4, .int (held ia.toNatClampNeg)), (0, .ref m1), (1, .int ia), (2, .int n), (3, .int ip)]) hx hb dX5_rises_92 hl (by decide) rfl (fun ls hl => ?_)
          refine lv_iload hx hb dX5_rises_94 (lv_at hl 1 rfl) ?_
          refine lv_if_eq (tgt := 116) hx hb dX5_rises_96 (by decide) (fun c18 => ?_) (fun c18 => ?_)
          · refine lv_iload hx hb dX5_rises_116 (lv_at hl 0 rfl) ?_
            refine lv_if_eq (tgt := 138) hx hb dX5_rises_118 (by decide) (fun c19 => ?_) (fun c19 => ?_)
            · exact absurd c19 (by decide)
            · refine lv_aload_n hx hb dX5_rises_121 rfl (lv_at hl 4 rfl) ?_
              refine lv_iload hx hb dX5_rises_122 (lv_at hl 3 rfl) ?_
              refine lv_iload hx hb dX5_rises_124 (lv_at hl 2 rfl) ?_
              refine lv_iload_n hx hb dX5_rises_126 rfl (lv_at hl 7 rfl) ?_
              refine xr_V (q := (RX5, TX5, 14)) (ci := 9) (q0 := 0) (rest := []) (As := [.int (held ia.toNatClampNeg), .int (fX5_next held ia n), .int ip]) ⟨hx, hb, hml, hown, hts⟩ (ct5_turn l D m1 m2 m3 m4 m5 m6 m7 kI kJ xs ys held la lb lc th pm rm on cl un ze lm (held ia.toNatClampNeg) (fX5_next held ia n) ip (oh _ (rg_cl oia)) (o_next oia oh) oip) (cwV 3 hts gl_X5_58 rfl rfl rfl (by decide +kernel) ⟨Nat.le_of_ble_eq_true rfl, Nat.le_of_ble_eq_true rfl⟩) nN_mv hN hK hP [0, 1, 2, 3, 4, 5, 6] [0, 1] rfl rfl rfl rfl rfl hl.1 rfl (Nat.le_of_ble_eq_true rfl) dX5_rises_127 ⟨Nat.le_of_ble_eq_true rfl, Nat.le_of_ble_eq_true rfl⟩ ?_
              refine lv_iconst (v := (-1)) hx hb dX5_rises_130 (by decide) ?_
              refine lv_icmp_ne (tgt := 138) hx hb dX5_rises_131 (by decide) (fun c20 => ?_) (fun c20 => ?_)
              · refine lv_iconst (v := 0) hx hb dX5_rises_138 (by decide) ?_
                exact W.iret (v := (0 : Int32)) hx hb hr (fun t ht hW => ⟨by rw [show fX5_rises held xs ys ia n ip = (0 : Int32) by unfold fX5_rises; rw [if_neg c1, if_pos c11, if_neg c12, if_neg c15, if_neg c20]], ht⟩) (fun _ h => absurd h List.not_mem_nil) dX5_rises_139
              · refine lv_iconst (v := (-1)) hx hb dX5_rises_134 (by decide) ?_
                refine lv_goto (tgt := 139) hx hb dX5_rises_135 (by decide) ?_
                exact W.iret (v := (-1 : Int32)) hx hb hr (fun t ht hW => ⟨by rw [show fX5_rises held xs ys ia n ip = (-1 : Int32) by unfold fX5_rises; rw [if_neg c1, if_pos c11, if_neg c12, if_neg c15, if_pos c20]], ht⟩) (fun _ h => absurd h List.not_mem_nil) dX5_rises_139
          · exact absurd (by decide) c18
    · refine lv_iconst (v := 1) hx hb dX5_rises_48 (by decide) ?_
      refine lv_goto (tgt := 53) hx hb dX5_rises_49 (by decide) ?_
      refine lv_istore (lv' := [(6, .int (1 : Int32)), (5, .int (fX5_next held ia n)), (4, .int (held ia.toNatClampNeg)), (0, .ref m1), (1, .int ia), (2, .int n), (3, .int ip)]) hx hb dX5_rises_53 hl (by decide) rfl (fun ls hl => ?_)
      refine lv_aload_n hx hb dX5_rises_55 rfl (lv_at hl 3 rfl) ?_
      refine va_get (D := D) (ci := 9) (v := .ref m3) (C := RX5) (T := TX5) (N := 14) hx hb hts hinX5 hown hK hP 0 rfl rfl 3 (by decide) (hts _ fk_X5_17) (fun _ h9 => h9) rfl dX5_rises_56 ?_
      refine lv_iload hx hb dX5_rises_59 (lv_at hl 1 rfl) ?_
      refine va_iald hx hb hK hP 2 0 rfl rfl (o_next oia oh) dX5_rises_61 ?_
      refine lv_aload_n hx hb dX5_rises_62 rfl (lv_at hl 3 rfl) ?_
      refine va_get (D := D) (ci := 9) (v := .ref m3) (C := RX5) (T := TX5) (N := 14) hx hb hts hinX5 hown hK hP 0 rfl rfl 3 (by decide) (hts _ fk_X5_17) (fun _ h9 => h9) rfl dX5_rises_63 ?_
      refine lv_iload_n hx hb dX5_rises_66 rfl (lv_at hl 6 rfl) ?_
      refine va_iald hx hb hK hP 2 0 rfl rfl oip dX5_rises_67 ?_
      refine lv_icmp_gt (tgt := 91) hx hb dX5_rises_68 (by decide) (fun c21 => ?_) (fun c21 => ?_)
      · refine lv_iconst (v := 0) hx hb dX5_rises_91 (by decide) ?_
        refine lv_istore (lv' := [(7, .int (0 : Int32)), (6, .int (1 : Int32)), (5, .int (fX5_next held ia n)), (4, .int (held ia.toNatClampNeg)), (0, .ref m1), (1, .int ia), (2, .int n), (3, .int ip)]) hx hb dX5_rises_92 hl (by decide) rfl (fun ls hl => ?_)
        refine lv_iload hx hb dX5_rises_94 (lv_at hl 1 rfl) ?_
        refine lv_if_eq (tgt := 116) hx hb dX5_rises_96 (by decide) (fun c22 => ?_) (fun c22 => ?_)
        · exact absurd c22 (by decide)
        · refine lv_aload_n hx hb dX5_rises_99 rfl (lv_at hl 4 rfl) ?_
          refine lv_iload hx hb dX5_rises_100 (lv_at hl 3 rfl) ?_
          refine lv_iload hx hb dX5_rises_102 (lv_at hl 2 rfl) ?_
          refine lv_iload_n hx hb dX5_rises_104 rfl (lv_at hl 7 rfl) ?_
          refine xr_V (q := (RX5, TX5, 14)) (ci := 9) (q0 := 0) (rest := []) (As := [.int (held ia.toNatClampNeg), .int (fX5_next held ia n), .int ip]) ⟨hx, hb, hml, hown, hts⟩ (ct5_turn l D m1 m2 m3 m4 m5 m6 m7 kI kJ xs ys held la lb lc th pm rm on cl un ze lm (held ia.toNatClampNeg) (fX5_next held ia n) ip (oh _ (rg_cl oia)) (o_next oia oh) oip) (cwV 3 hts gl_X5_58 rfl rfl rfl (by decide +kernel) ⟨Nat.le_of_ble_eq_true rfl, Nat.le_of_ble_eq_true rfl⟩) nN_mv hN hK hP [0, 1, 2, 3, 4, 5, 6] [0, 1] rfl rfl rfl rfl rfl hl.1 rfl (Nat.le_of_ble_eq_true rfl) dX5_rises_105 ⟨Nat.le_of_ble_eq_true rfl, Nat.le_of_ble_eq_true rfl⟩ ?_
          refine lv_iconst (v := 1) hx hb dX5_rises_108 (by decide) ?_
          refine lv_icmp_ne (tgt := 116) hx hb dX5_rises_109 (by decide) (fun c23 => ?_) (fun c23 => ?_)
          · refine lv_iload hx hb dX5_rises_116 (lv_at hl 0 rfl) ?_
            refine lv_if_eq (tgt := 138) hx hb dX5_rises_118 (by decide) (fun c24 => ?_) (fun c24 => ?_)
            · refine lv_iconst (v := 0) hx hb dX5_rises_138 (by decide) ?_
              exact W.iret (v := (0 : Int32)) hx hb hr (fun t ht hW => ⟨by rw [show fX5_rises held xs ys ia n ip = (0 : Int32) by unfold fX5_rises; rw [if_neg c1, if_neg c11, if_pos c21, if_neg c23]], ht⟩) (fun _ h => absurd h List.not_mem_nil) dX5_rises_139
            · exact absurd (by decide) c24
          · refine lv_iconst (v := 1) hx hb dX5_rises_112 (by decide) ?_
            refine lv_goto (tgt := 139) hx hb dX5_rises_113 (by decide) ?_
            exact W.iret (v := (1 : Int32)) hx hb hr (fun t ht hW => ⟨by rw [show fX5_rises held xs ys ia n ip = (1 : Int32) by unfold fX5_rises; rw [if_neg c1, if_neg c11, if_pos c21, if_pos c23]], ht⟩) (fun _ h => absurd h List.not_mem_nil) dX5_rises_139
      · refine lv_aload_n hx hb dX5_rises_71 rfl (lv_at hl 3 rfl) ?_
        refine va_get (D := D) (ci := 9) (v := .ref m3) (C := RX5) (T := TX5) (N := 14) hx hb hts hinX5 hown hK hP 0 rfl rfl 3 (by decide) (hts _ fk_X5_17) (fun _ h9 => h9) rfl dX5_rises_72 ?_
        refine lv_iload hx hb dX5_rises_75 (lv_at hl 2 rfl) ?_
        refine va_iald hx hb hK hP 2 0 rfl rfl (oh _ (rg_cl oia)) dX5_rises_77 ?_
        refine lv_aload_n hx hb dX5_rises_78 rfl (lv_at hl 3 rfl) ?_
        refine va_get (D := D) (ci := 9) (v := .ref m3) (C := RX5) (T := TX5) (N := 14) hx hb hts hinX5 hown hK hP 0 rfl rfl 3 (by decide) (hts _ fk_X5_17) (fun _ h9 => h9) rfl dX5_rises_79 ?_
        refine lv_iload_n hx hb dX5_rises_82 rfl (lv_at hl 6 rfl) ?_
        refine va_iald hx hb hK hP 2 0 rfl rfl oip dX5_rises_83 ?_
        refine lv_icmp_le (tgt := 91) hx hb dX5_rises_84 (by decide) (fun c25 => ?_) (fun c25 => ?_)
        · refine lv_iconst (v := 0) hx hb dX5_rises_91 (by decide) ?_
          refine lv_istore (lv' := [(7, .int (0 : Int32)), (6, .int (1 : Int32)), (5, .int (fX5_next held ia n)), (4, .int (held ia.toNatClampNeg)), (0, .ref m1), (1, .int ia), (2, .int n), (3, .int ip)]) hx hb dX5_rises_92 hl (by decide) rfl (fun ls hl => ?_)
          refine lv_iload hx hb dX5_rises_94 (lv_at hl 1 rfl) ?_
          refine lv_if_eq (tgt := 116) hx hb dX5_rises_96 (by decide) (fun c26 => ?_) (fun c26 => ?_)
          · exact absurd c26 (by decide)
          · refine lv_aload_n hx hb dX5_rises_99 rfl (lv_at hl 4 rfl) ?_
            refine lv_iload hx hb dX5_rises_100 (lv_at hl 3 rfl) ?_
            refine lv_iload hx hb dX5_rises_102 (lv_at hl 2 rfl) ?_
            refine lv_iload_n hx hb dX5_rises_104 rfl (lv_at hl 7 rfl) ?_
            refine xr_V (q := (RX5, TX5, 14)) (ci := 9) (q0 := 0) (rest := []) (As := [.int (held ia.toNatClampNeg), .int (fX5_next held ia n), .int ip]) ⟨hx, hb, hml, hown, hts⟩ (ct5_turn l D m1 m2 m3 m4 m5 m6 m7 kI kJ xs ys held la lb lc th pm rm on cl un ze lm (held ia.toNatClampNeg) (fX5_next held ia n) ip (oh _ (rg_cl oia)) (o_next oia oh) oip) (cwV 3 hts gl_X5_58 rfl rfl rfl (by decide +kernel) ⟨Nat.le_of_ble_eq_true rfl, Nat.le_of_ble_eq_true rfl⟩) nN_mv hN hK hP [0, 1, 2, 3, 4, 5, 6] [0, 1] rfl rfl rfl rfl rfl hl.1 rfl (Nat.le_of_ble_eq_true rfl) dX5_rises_105 ⟨Nat.le_of_ble_eq_true rfl, Nat.le_of_ble_eq_true rfl⟩ ?_
            refine lv_iconst (v := 1) hx hb dX5_rises_108 (by decide) ?_
            refine lv_icmp_ne (tgt := 116) hx hb dX5_rises_109 (by decide) (fun c27 => ?_) (fun c27 => ?_)
            · refine lv_iload hx hb dX5_rises_116 (lv_at hl 0 rfl) ?_
              refine lv_if_eq (tgt := 138) hx hb dX5_rises_118 (by decide) (fun c28 => ?_) (fun c28 => ?_)
              · refine lv_iconst (v := 0) hx hb dX5_rises_138 (by decide) ?_
                exact W.iret (v := (0 : Int32)) hx hb hr (fun t ht hW => ⟨by rw [show fX5_rises held xs ys ia n ip = (0 : Int32) by unfold fX5_rises; rw [if_neg c1, if_neg c11, if_neg c21, if_pos c25, if_neg c27]], ht⟩) (fun _ h => absurd h List.not_mem_nil) dX5_rises_139
              · exact absurd (by decide) c28
            · refine lv_iconst (v := 1) hx hb dX5_rises_112 (by decide) ?_
              refine lv_goto (tgt := 139) hx hb dX5_rises_113 (by decide) ?_
              exact W.iret (v := (1 : Int32)) hx hb hr (fun t ht hW => ⟨by rw [show fX5_rises held xs ys ia n ip = (1 : Int32) by unfold fX5_rises; rw [if_neg c1, if_neg c11, if_neg c21, if_pos c25, if_pos c27]], ht⟩) (fun _ h => absurd h List.not_mem_nil) dX5_rises_139
        · refine lv_iconst (v := 1) hx hb dX5_rises_87 (by decide) ?_
          refine lv_goto (tgt := 92) hx hb dX5_rises_88 (by decide) ?_
          refine lv_istore (lv' := [(7, .int (1 : Int32)), (6, .int (1 : Int32)), (5, .int (fX5_next held ia n)), (4, .int (held ia.toNatClampNeg)), (0, .ref m1), (1, .int ia), (2, .int n), (3, .int ip)]) hx hb dX5_rises_92 hl (by decide) rfl (fun ls hl => ?_)
          refine lv_iload hx hb dX5_rises_94 (lv_at hl 1 rfl) ?_
          refine lv_if_eq (tgt := 116) hx hb dX5_rises_96 (by decide) (fun c29 => ?_) (fun c29 => ?_)
          · exact absurd c29 (by decide)
          · refine lv_aload_n hx hb dX5_rises_99 rfl (lv_at hl 4 rfl) ?_
            refine lv_iload hx hb dX5_rises_100 (lv_at hl 3 rfl) ?_
            refine lv_iload hx hb dX5_rises_102 (lv_at hl 2 rfl) ?_
            refine lv_iload_n hx hb dX5_rises_104 rfl (lv_at hl 7 rfl) ?_
            refine xr_V (q := (RX5, TX5, 14)) (ci := 9) (q0 := 0) (rest := []) (As := [.int (held ia.toNatClampNeg), .int (fX5_next held ia n), .int ip]) ⟨hx, hb, hml, hown, hts⟩ (ct5_turn l D m1 m2 m3 m4 m5 m6 m7 kI kJ xs ys held la lb lc th pm rm on cl un ze lm (held ia.toNatClampNeg) (fX5_next held ia n) ip (oh _ (rg_cl oia)) (o_next oia oh) oip) (cwV 3 hts gl_X5_58 rfl rfl rfl (by decide +kernel) ⟨Nat.le_of_ble_eq_true rfl, Nat.le_of_ble_eq_true rfl⟩) nN_mv hN hK hP [0, 1, 2, 3, 4, 5, 6] [0, 1] rfl rfl rfl rfl rfl hl.1 rfl (Nat.le_of_ble_eq_true rfl) dX5_rises_105 ⟨Nat.le_of_ble_eq_true rfl, Nat.le_of_ble_eq_true rfl⟩ ?_
            refine lv_iconst (v := 1) hx hb dX5_rises_108 (by decide) ?_
            refine lv_icmp_ne (tgt := 116) hx hb dX5_rises_109 (by decide) (fun c30 => ?_) (fun c30 => ?_)
            · refine lv_iload hx hb dX5_rises_116 (lv_at hl 0 rfl) ?_
              refine lv_if_eq (tgt := 138) hx hb dX5_rises_118 (by decide) (fun c31 => ?_) (fun c31 => ?_)
              · exact absurd c31 (by decide)
              · refine lv_aload_n hx hb dX5_rises_121 rfl (lv_at hl 4 rfl) ?_
                refine lv_iload hx hb dX5_rises_122 (lv_at hl 3 rfl) ?_
                refine lv_iload hx hb dX5_rises_124 (lv_at hl 2 rfl) ?_
                refine lv_iload_n hx hb dX5_rises_126 rfl (lv_at hl 7 rfl) ?_
                refine xr_V (q := (RX5, TX5, 14)) (ci := 9) (q0 := 0) (rest := []) (As := [.int (held ia.toNatClampNeg), .int (fX5_next held ia n), .int ip]) ⟨hx, hb, hml, hown, hts⟩ (ct5_turn l D m1 m2 m3 m4 m5 m6 m7 kI kJ xs ys held la lb lc th pm rm on cl un ze lm (held ia.toNatClampNeg) (fX5_next held ia n) ip (oh _ (rg_cl oia)) (o_next oia oh) oip) (cwV 3 hts gl_X5_58 rfl rfl rfl (by decide +kernel) ⟨Nat.le_of_ble_eq_true rfl, Nat.le_of_ble_eq_true rfl⟩) nN_mv hN hK hP [0, 1, 2, 3, 4, 5, 6] [0, 1] rfl rfl rfl rfl rfl hl.1 rfl (Nat.le_of_ble_eq_true rfl) dX5_rises_127 ⟨Nat.le_of_ble_eq_true rfl, Nat.le_of_ble_eq_true rfl⟩ ?_
                refine lv_iconst (v := (-1)) hx hb dX5_rises_130 (by decide) ?_
                refine lv_icmp_ne (tgt := 138) hx hb dX5_rises_131 (by decide) (fun c32 => ?_) (fun c32 => ?_)
                · refine lv_iconst (v := 0) hx hb dX5_rises_138 (by decide) ?_
                  exact W.iret (v := (0 : Int32)) hx hb hr (fun t ht hW => ⟨by rw [show fX5_rises held xs ys ia n ip = (0 : Int32) by unfold fX5_rises; rw [if_neg c1, if_neg c11, if_neg c21, if_neg c25, if_neg c30, if_neg c32]], ht⟩) (fun _ h => absurd h List.not_mem_nil) dX5_rises_139
                · refine lv_iconst (v := (-1)) hx hb dX5_rises_134 (by decide) ?_
                  refine lv_goto (tgt := 139) hx hb dX5_rises_135 (by decide) ?_
                  exact W.iret (v := (-1 : Int32)) hx hb hr (fun t ht hW => ⟨by rw [show fX5_rises held xs ys ia n ip = (-1 : Int32) by unfold fX5_rises; rw [if_neg c1, if_neg c11, if_neg c21, if_neg c25, if_neg c30, if_pos c32]], ht⟩) (fun _ h => absurd h List.not_mem_nil) dX5_rises_139
            · refine lv_iconst (v := 1) hx hb dX5_rises_112 (by decide) ?_
              refine lv_goto (tgt := 139) hx hb dX5_rises_113 (by decide) ?_
              exact W.iret (v := (1 : Int32)) hx hb hr (fun t ht hW => ⟨by rw [show fX5_rises held xs ys ia n ip = (1 : Int32) by unfold fX5_rises; rw [if_neg c1, if_neg c11, if_neg c21, if_neg c25, if_pos c30]], ht⟩) (fun _ h => absurd h List.not_mem_nil) dX5_rises_139
def fX5_far (xs ys : Nat → Int32) (ia : Int32) (ib : Int32) : Int64 := fX5_along xs ys ia ib ib
set_option maxHeartbeats 4000000 in
set_option maxRecDepth 100000 in
theorem ct5_far (l : Launch) (D : va_G) (m1 m2 m3 m4 m5 m6 m7 : Nat) (kI kJ : ClassId) (xs ys held : Nat → Int32) (la lb lc : Nat → Int64) (th pm rm on cl un ze lm : Int32) (ia : Int32) (ib : Int32) (oia : vp_in ia 60) (oib : vp_in ib 60) : Met l yX5_far (Cond.code yX5_far cX5_far 3 (some .long) :: BY) ({ frames := 1, cells := 0, slots := 0, locals := 60 }) (xr_P nN D vwCl [(kI, .int), (kJ, .long)] (wMo m1 m2 m3 m4 m5 m6 m7 kI kJ xs ys held la lb lc th pm rm on cl un ze lm) [.ref m1, .int ia, .int ib]) (xr_Q (.long (fX5_far xs ys ia ib))) 0 0 (fun _ => False) := by
  refine Met.ofW (cc := cX5_far) (maxL := 3) (ret := (some .long)) (by decide) rfl ?_
  intro p e s m args below meth c s₁ B hml hv
  obtain ⟨rfl, hP, hK, hN⟩ := hv
  have hx := B.exec
  have hb := B.bytes
  have hr := B.returns
  have hts0 := atoms_spec (ws := Cond.code yX5_far cX5_far 3 (some .long) :: BY) B.pre
  have hts : ∀ w ∈ BY, w.before _ s = true := fun w h => hts0 w (List.mem_cons_of_mem _ h)
  have hown : s.vm.findClass RX5 = some m.cls := findClass_of_methodNamed B.named
  have hlocks := B.notSynchronized
  have hl := lv_entry ([.ref m1, .int ia, .int ib]) (n := 3) (Nat.le_of_ble_eq_true rfl)
  rw [lg_entry_eq]
  generalize (lg_sl ([.ref m1, .int ia, .int ib]) ++ List.replicate (3 - (lg_sl ([.ref m1, .int ia, .int ib])).length) Slot.unset).toArray = ls at hl ⊢
  have hl : lv_has ls 3 [(0, .ref m1), (1, .int ia), (2, .int ib)] := hl
  refine lv_aload_n hx hb dX5_far_0 rfl (lv_at hl 0 rfl) ?_
  refine lv_iload_n hx hb dX5_far_1 rfl (lv_at hl 1 rfl) ?_
  refine lv_iload_n hx hb dX5_far_2 rfl (lv_at hl 2 rfl) ?_
  refine lv_iload_n hx hb dX5_far_3 rfl (lv_at hl 2 rfl) ?_
  refine xr_V (q := (RX5, TX5, 14)) (ci := 9) (q0 := 0) (rest := []) (As := [.int ia, .int ib, .int ib]) ⟨hx, hb, hml, hown, hts⟩ (ct5_along l D m1 m2 m3 m4 m5 m6 m7 kI kJ xs ys held la lb lc th pm rm on cl un ze lm ia ib ib oia oib oib) (cwV 3 hts gl_X5_127 rfl rfl rfl (by decide +kernel) ⟨Nat.le_of_ble_eq_true rfl, Nat.le_of_ble_eq_true rfl⟩) nN_mv hN hK hP [0, 1, 2, 3, 4, 5, 6] [0, 1] rfl rfl rfl rfl rfl hl.1 rfl (Nat.le_of_ble_eq_true rfl) dX5_far_4 ⟨Nat.le_of_ble_eq_true rfl, Nat.le_of_ble_eq_true rfl⟩ ?_
  exact W.lret (v := fX5_along xs ys ia ib ib) hx hb hr (fun t ht hW => ⟨rfl, ht⟩) (fun _ h => absurd h List.not_mem_nil) dX5_far_7
def fX5_half (xs ys : Nat → Int32) (ia : Int32) (ib : Int32) : Int32 := if (ys ia.toNatClampNeg) < (ys ib.toNatClampNeg) then ((0 : Int32)) else (if (ys ib.toNatClampNeg) = (ys ia.toNatClampNeg) then (if (xs ib.toNatClampNeg) ≤ (xs ia.toNatClampNeg) then ((1 : Int32)) else ((0 : Int32))) else ((1 : Int32)))
set_option maxHeartbeats 4000000 in
set_option maxRecDepth 100000 in
theorem ct5_half (l : Launch) (D : va_G) (m1 m2 m3 m4 m5 m6 m7 : Nat) (kI kJ : ClassId) (xs ys held : Nat → Int32) (la lb lc : Nat → Int64) (th pm rm on cl un ze lm : Int32) (ia : Int32) (ib : Int32) (oia : vp_in ia 60) (oib : vp_in ib 60) : Met l yX5_half (Cond.code yX5_half cX5_half 3 (some .int) :: BY) ({ frames := 0, cells := 0, slots := 0, locals := 0 }) (xr_P nN D vwCl [(kI, .int), (kJ, .long)] (wMo m1 m2 m3 m4 m5 m6 m7 kI kJ xs ys held la lb lc th pm rm on cl un ze lm) [.ref m1, .int ia, .int ib]) (xr_Q (.int (fX5_half xs ys ia ib))) 0 0 (fun _ => False) := by
  refine Met.ofW (cc := cX5_half) (maxL := 3) (ret := (some .int)) (by decide) rfl ?_
  intro p e s m args below meth c s₁ B hml hv
  obtain ⟨rfl, hP, hK, hN⟩ := hv
  have hx := B.exec
  have hb := B.bytes
  have hr := B.returns
  have hts0 := atoms_spec (ws := Cond.code yX5_half cX5_half 3 (some .int) :: BY) B.pre
  have hts : ∀ w ∈ BY, w.before _ s = true := fun w h => hts0 w (List.mem_cons_of_mem _ h)
  have hown : s.vm.findClass RX5 = some m.cls := findClass_of_methodNamed B.named
  have hlocks := B.notSynchronized
  have hl := lv_entry ([.ref m1, .int ia, .int ib]) (n := 3) (Nat.le_of_ble_eq_true rfl)
  rw [lg_entry_eq]
  generalize (lg_sl ([.ref m1, .int ia, .int ib]) ++ List.replicate (3 - (lg_sl ([.ref m1, .int ia, .int ib])).length) Slot.unset).toArray = ls at hl ⊢
  have hl : lv_has ls 3 [(0, .ref m1), (1, .int ia), (2, .int ib)] := hl
  refine lv_aload_n hx hb dX5_half_0 rfl (lv_at hl 0 rfl) ?_
  refine va_get (D := D) (ci := 9) (v := .ref m3) (C := RX5) (T := TX5) (N := 14) hx hb hts hinX5 hown hK hP 0 rfl rfl 3 (by decide) (hts _ fk_X5_17) (fun _ h9 => h9) rfl dX5_half_1 ?_
  refine lv_iload_n hx hb dX5_half_4 rfl (lv_at hl 2 rfl) ?_
  refine va_iald hx hb hK hP 2 0 rfl rfl oib dX5_half_5 ?_
  refine lv_aload_n hx hb dX5_half_6 rfl (lv_at hl 0 rfl) ?_
  refine va_get (D := D) (ci := 9) (v := .ref m3) (C := RX5) (T := TX5) (N := 14) hx hb hts hinX5 hown hK hP 0 rfl rfl 3 (by decide) (hts _ fk_X5_17) (fun _ h9 => h9) rfl dX5_half_7 ?_
  refine lv_iload_n hx hb dX5_half_10 rfl (lv_at hl 1 rfl) ?_
  refine va_iald hx hb hK hP 2 0 rfl rfl oia dX5_half_11 ?_
  refine lv_icmp_gt (tgt := 45) hx hb dX5_half_12 (by decide) (fun c1 => ?_) (fun c1 => ?_)
  · refine lv_iconst (v := 0) hx hb dX5_half_45 (by decide) ?_
    refine lv_goto (tgt := 50) hx hb dX5_half_46 (by decide) ?_
    exact W.iret (v := (0 : Int32)) hx hb hr (fun t ht hW => ⟨by rw [show fX5_half xs ys ia ib = (0 : Int32) by unfold fX5_half; rw [if_pos c1]], ht⟩) (fun _ h => absurd h List.not_mem_nil) dX5_half_50
  · refine lv_aload_n hx hb dX5_half_15 rfl (lv_at hl 0 rfl) ?_
    refine va_get (D := D) (ci := 9) (v := .ref m3) (C := RX5) (T := TX5) (N := 14) hx hb hts hinX5 hown hK hP 0 rfl rfl 3 (by decide) (hts _ fk_X5_17) (fun _ h9 => h9) rfl dX5_half_16 ?_
    refine lv_iload_n hx hb dX5_half_19 rfl (lv_at hl 2 rfl) ?_
    refine va_iald hx hb hK hP 2 0 rfl rfl oib dX5_half_20 ?_
    refine lv_aload_n hx hb dX5_half_21 rfl (lv_at hl 0 rfl) ?_
    refine va_get (D := D) (ci := 9) (v := .ref m3) (C := RX5) (T := TX5) (N := 14) hx hb hts hinX5 hown hK hP 0 rfl rfl 3 (by decide) (hts _ fk_X5_17) (fun _ h9 => h9) rfl dX5_half_22 ?_
    refine lv_iload_n hx hb dX5_half_25 rfl (lv_at hl 1 rfl) ?_
    refine va_iald hx hb hK hP 2 0 rfl rfl oia dX5_half_26 ?_
    refine lv_icmp_ne (tgt := 49) hx hb dX5_half_27 (by decide) (fun c2 => ?_) (fun c2 => ?_)
    · refine lv_iconst (v := 1) hx hb dX5_half_49 (by decide) ?_
      exact W.iret (v := (1 : Int32)) hx hb hr (fun t ht hW => ⟨by rw [show fX5_half xs ys ia ib = (1 : Int32) by unfold fX5_half; rw [if_neg c1, if_neg c2]], ht⟩) (fun _ h => absurd h List.not_mem_nil) dX5_half_50
    · refine lv_aload_n hx hb dX5_half_30 rfl (lv_at hl 0 rfl) ?_
      refine va_get (D := D) (ci := 9) (v := .ref m2) (C := RX5) (T := TX5) (N := 14) hx hb hts hinX5 hown hK hP 0 rfl rfl 2 (by decide) (hts _ fk_X5_13) (fun _ h9 => h9) rfl dX5_half_31 ?_
      refine lv_iload_n hx hb dX5_half_34 rfl (lv_at hl 2 rfl) ?_
      refine va_iald hx hb hK hP 1 0 rfl rfl oib dX5_half_35 ?_
      refine lv_aload_n hx hb dX5_half_36 rfl (lv_at hl 0 rfl) ?_
      refine va_get (D := D) (ci := 9) (v := .ref m2) (C := RX5) (T := TX5) (N := 14) hx hb hts hinX5 hown hK hP 0 rfl rfl 2 (by decide) (hts _ fk_X5_13) (fun _ h9 => h9) rfl dX5_half_37 ?_
      refine lv_iload_n hx hb dX5_half_40 rfl (lv_at hl 1 rfl) ?_
      refine va_iald hx hb hK hP 1 0 rfl rfl oia dX5_half_41 ?_
      refine lv_icmp_le (tgt := 49) hx hb dX5_half_42 (by decide) (fun c3 => ?_) (fun c3 => ?_)
      · refine lv_iconst (v := 1) hx hb dX5_half_49 (by decide) ?_
        exact W.iret (v := (1 : Int32)) hx hb hr (fun t ht hW => ⟨by rw [show fX5_half xs ys ia ib = (1 : Int32) by unfold fX5_half; rw [if_neg c1, if_pos c2, if_pos c3]], ht⟩) (fun _ h => absurd h List.not_mem_nil) dX5_half_50
      · refine lv_iconst (v := 0) hx hb dX5_half_45 (by decide) ?_
        refine lv_goto (tgt := 50) hx hb dX5_half_46 (by decide) ?_
        exact W.iret (v := (0 : Int32)) hx hb hr (fun t ht hW => ⟨by rw [show fX5_half xs ys ia ib = (0 : Int32) by unfold fX5_half; rw [if_neg c1, if_pos c2, if_neg c3]], ht⟩) (fun _ h => absurd h List.not_mem_nil) dX5_half_50
def fX5_isAhead (held xs ys : Nat → Int32) (ic : Int32) (ia : Int32) (ib : Int32) : Int32 := if (fX5_areEqual xs ys ic (held ia.toNatClampNeg)) = (0 : Int32) then (if (fX5_areEqual xs ys ic (held ib.toNatClampNeg)) = (0 : Int32) then (if (fX5_half xs ys ic (held ia.toNatClampNeg)) = (fX5_half xs ys ic (held ib.toNatClampNeg)) then (if (fX5_turn xs ys ic (held ia.toNatClampNeg) (held ib.toNatClampNeg)) = (0 : Int32) then (if (lg_cmp (fX5_far xs ys ic (held ia.toNatClampNeg)) (fX5_far xs ys ic (held ib.toNatClampNeg))) = (0 : Int32) then (if ib ≤ ia then ((0 : Int32)) else ((1 : Int32))) else (if (0 : Int32) ≤ (lg_cmp (fX5_far xs ys ic (held ia.toNatClampNeg)) (fX5_far xs ys ic (held ib.toNatClampNeg))) then ((0 : Int32)) else ((1 : Int32)))) else (if (fX5_turn xs ys ic (held ia.toNatClampNeg) (held ib.toNatClampNeg)) ≤ (0 : Int32) then ((0 : Int32)) else ((1 : Int32)))) else (if (fX5_half xs ys ic (held ib.toNatClampNeg)) ≤ (fX5_half xs ys ic (held ia.toNatClampNeg)) then ((0 : Int32)) else ((1 : Int32)))) else (if (fX5_areEqual xs ys ic (held ia.toNatClampNeg)) = (0 : Int32) then ((0 : Int32)) else (if (fX5_areEqual xs ys ic (held ib.toNatClampNeg)) = (0 : Int32) then ((1 : Int32)) else (if ib ≤ ia then ((0 : Int32)) else ((1 : Int32)))))) else (if (fX5_areEqual xs ys ic (held ia.toNatClampNeg)) = (0 : Int32) then ((0 : Int32)) else (if (fX5_areEqual xs ys ic (held ib.toNatClampNeg)) = (0 : Int32) then ((1 : Int32)) else (if ib ≤ ia then ((0 : Int32)) else ((1 : Int32)))))
set_option maxHeartbeats 4000000 in
set_option maxRecDepth 100000 in
theorem ct5_isAhead (l : Launch) (D : va_G) (m1 m2 m3 m4 m5 m6 m7 : Nat) (kI kJ : ClassId) (xs ys held : Nat → Int32) (la lb lc : Nat → Int64) (th pm rm on cl un ze lm : Int32) (ic : Int32) (ia : Int32) (ib : Int32) (oic : vp_in ic 60) (oia : vp_in ia 24) (oib : vp_in ib 24) (opa : vp_in (held ia.toNatClampNeg) 60) (opb : vp_in (held ib.toNatClampNeg) 60) : Met l yX5_isAhead (Cond.code yX5_isAhead cX5_isAhead 9 (some .boolean) :: BY) ({ frames := 2, cells := 0, slots := 0, locals := 120 }) (xr_P nN D vwCl [(kI, .int), (kJ, .long)] (wMo m1 m2 m3 m4 m5 m6 m7 kI kJ xs ys held la lb lc th pm rm on cl un ze lm) [.ref m1, .int ic, .int ia, .int ib]) (xr_Q (.int (fX5_isAhead held xs ys ic ia ib))) 0 0 (fun _ => False) := by
  refine Met.ofW (cc := cX5_isAhead) (maxL := 9) (ret := (some .boolean)) (by decide) rfl ?_
  intro p e s m args below meth c s₁ B hml hv
  obtain ⟨rfl, hP, hK, hN⟩ := hv
  have hx := B.exec
  have hb := B.bytes
  have hr := B.returns
  have hts0 := atoms_spec (ws := Cond.code yX5_isAhead cX5_isAhead 9 (some .boolean) :: BY) B.pre
  have hts : ∀ w ∈ BY, w.before _ s = true := fun w h => hts0 w (List.mem_cons_of_mem _ h)
  have hown : s.vm.findClass RX5 = some m.cls := findClass_of_methodNamed B.named
  have hlocks := B.notSynchronized
  have hl := lv_entry ([.ref m1, .int ic, .int ia, .int ib]) (n := 9) (Nat.le_of_ble_eq_true rfl)
  rw [lg_entry_eq]
  generalize (lg_sl ([.ref m1, .int ic, .int ia, .int ib]) ++ List.replicate (9 - (lg_sl ([.ref m1, .int ic, .int ia, .int ib])).length) Slot.unset).toArray = ls at hl ⊢
  have hl : lv_has ls 9 [(0, .ref m1), (1, .int ic), (2, .int ia), (3, .int ib)] := hl
  refine lv_aload_n hx hb dX5_isAhead_0 rfl (lv_at hl 0 rfl) ?_
  refine va_get (D := D) (ci := 9) (v := .ref m4) (C := RX5) (T := TX5) (N := 14) hx hb hts hinX5 hown hK hP 0 rfl rfl 5 (by decide) (hts _ fk_X5_20) (fun _ h9 => h9) rfl dX5_isAhead_1 ?_
  refine lv_iload_n hx hb dX5_isAhead_4 rfl (lv_at hl 2 rfl) ?_
  refine va_iald hx hb hK hP 3 0 rfl rfl oia dX5_isAhead_5 ?_
  refine lv_istore (lv' := [(4, .int (held ia.toNatClampNeg)), (0, .ref m1), (1, .int ic), (2, .int ia), (3, .int ib)]) hx hb dX5_isAhead_6 hl (by decide) rfl (fun ls hl => ?_)
  refine lv_aload_n hx hb dX5_isAhead_8 rfl (lv_at hl 1 rfl) ?_
  refine va_get (D := D) (ci := 9) (v := .ref m4) (C := RX5) (T := TX5) (N := 14) hx hb hts hinX5 hown hK hP 0 rfl rfl 5 (by decide) (hts _ fk_X5_20) (fun _ h9 => h9) rfl dX5_isAhead_9 ?_
  refine lv_iload_n hx hb dX5_isAhead_12 rfl (lv_at hl 4 rfl) ?_
  refine va_iald hx hb hK hP 3 0 rfl rfl oib dX5_isAhead_13 ?_
  refine lv_istore (lv' := [(5, .int (held ib.toNatClampNeg)), (4, .int (held ia.toNatClampNeg)), (0, .ref m1), (1, .int ic), (2, .int ia), (3, .int ib)]) hx hb dX5_isAhead_14 hl (by decide) rfl (fun ls hl => ?_)
  refine lv_aload_n hx hb dX5_isAhead_16 rfl (lv_at hl 2 rfl) ?_
  refine lv_iload_n hx hb dX5_isAhead_17 rfl (lv_at hl 3 rfl) ?_
  refine lv_iload hx hb dX5_isAhead_18 (lv_at hl 1 rfl) ?_
  refine xr_V (q := (RX5, TX5, 14)) (ci := 9) (q0 := 0) (rest := []) (As := [.int ic, .int (held ia.toNatClampNeg)]) ⟨hx, hb, hml, hown, hts⟩ (ct5_areEqual l D m1 m2 m3 m4 m5 m6 m7 kI kJ xs ys held la lb lc th pm rm on cl un ze lm ic (held ia.toNatClampNeg) oic opa) (cwV 2 hts gl_X5_107 rfl rfl rfl (by decide +kernel) ⟨Nat.le_of_ble_eq_true rfl, Nat.le_of_ble_eq_true rfl⟩) nN_mv hN hK hP [0, 1, 2, 3, 4, 5, 6] [0, 1] rfl rfl rfl rfl rfl hl.1 rfl (Nat.le_of_ble_eq_true rfl) dX5_isAhead_20 ⟨Nat.le_of_ble_eq_true rfl, Nat.le_of_ble_eq_true rfl⟩ ?_
  refine lv_topi (fun z1 ez1 => ?_)
  refine lv_istore (lv' := [(6, .int z1), (5, .int (held ib.toNatClampNeg)), (4, .int (held ia.toNatClampNeg)), (0, .ref m1), (1, .int ic), (2, .int ia), (3, .int ib)]) hx hb dX5_isAhead_23 hl (by decide) rfl (fun ls hl => ?_)
  refine lv_aload_n hx hb dX5_isAhead_25 rfl (lv_at hl 3 rfl) ?_
  refine lv_iload_n hx hb dX5_isAhead_26 rfl (lv_at hl 4 rfl) ?_
  refine lv_iload hx hb dX5_isAhead_27 (lv_at hl 1 rfl) ?_
  refine xr_V (q := (RX5, TX5, 14)) (ci := 9) (q0 := 0) (rest := []) (As := [.int ic, .int (held ib.toNatClampNeg)]) ⟨hx, hb, hml, hown, hts⟩ (ct5_areEqual l D m1 m2 m3 m4 m5 m6 m7 kI kJ xs ys held la lb lc th pm rm on cl un ze lm ic (held ib.toNatClampNeg) oic opb) (cwV 2 hts gl_X5_107 rfl rfl rfl (by decide +kernel) ⟨Nat.le_of_ble_eq_true rfl, Nat.le_of_ble_eq_true rfl⟩) nN_mv hN hK hP [0, 1, 2, 3, 4, 5, 6] [0, 1] rfl rfl rfl rfl rfl hl.1 rfl (Nat.le_of_ble_eq_true rfl) dX5_isAhead_29 ⟨Nat.le_of_ble_eq_true rfl, Nat.le_of_ble_eq_true rfl⟩ ?_
  refine lv_topi (fun z2 ez2 => ?_)
  refine lv_istore (lv' := [(7, .int z2), (6, .int z1), (5, .int (held ib.toNatClampNeg)), (4, .int (held ia.toNatClampNeg)), (0, .ref m1), (1, .int ic), (2, .int ia), (3, .int ib)]) hx hb dX5_isAhead_32 hl (by decide) rfl (fun ls hl => ?_)
  refine lv_iload hx hb dX5_isAhead_34 (lv_at hl 1 rfl) ?_
  refine lv_if_ne (tgt := 44) hx hb dX5_isAhead_36 (by decide) (fun c3 => ?_) (fun c3 => ?_)
  · refine lv_iload hx hb dX5_isAhead_44 (lv_at hl 1 rfl) ?_
    refine lv_if_eq (tgt := 63) hx hb dX5_isAhead_46 (by decide) (fun c4 => ?_) (fun c4 => ?_)
    · refine lv_iconst (v := 0) hx hb dX5_isAhead_63 (by decide) ?_
      subst ez2 ez1
      exact W.zret (v := (0 : Int32)) hx hb hr rfl (fun t ht hW => ⟨by rw [show fX5_isAhead held xs ys ic ia ib = (0 : Int32) by unfold fX5_isAhead; rw [if_neg c3, if_pos c4]], ht⟩) (fun _ h => absurd h List.not_mem_nil) dX5_isAhead_64
    · refine lv_iload hx hb dX5_isAhead_49 (lv_at hl 0 rfl) ?_
      refine lv_if_eq (tgt := 59) hx hb dX5_isAhead_51 (by decide) (fun c5 => ?_) (fun c5 => ?_)
      · refine lv_iconst (v := 1) hx hb dX5_isAhead_59 (by decide) ?_
        refine lv_goto (tgt := 64) hx hb dX5_isAhead_60 (by decide) ?_
        subst ez2 ez1
        exact W.zret (v := (1 : Int32)) hx hb hr rfl (fun t ht hW => ⟨by rw [show fX5_isAhead held xs ys ic ia ib = (1 : Int32) by unfold fX5_isAhead; rw [if_neg c3, if_neg c4, if_pos c5]], ht⟩) (fun _ h => absurd h List.not_mem_nil) dX5_isAhead_64
      · refine lv_iload_n hx hb dX5_isAhead_54 rfl (lv_at hl 6 rfl) ?_
        refine lv_iload_n hx hb dX5_isAhead_55 rfl (lv_at hl 7 rfl) ?_
        refine lv_icmp_ge (tgt := 63) hx hb dX5_isAhead_56 (by decide) (fun c6 => ?_) (fun c6 => ?_)
        · refine lv_iconst (v := 0) hx hb dX5_isAhead_63 (by decide) ?_
          subst ez2 ez1
          exact W.zret (v := (0 : Int32)) hx hb hr rfl (fun t ht hW => ⟨by rw [show fX5_isAhead held xs ys ic ia ib = (0 : Int32) by unfold fX5_isAhead; rw [if_neg c3, if_neg c4, if_neg c5, if_pos c6]], ht⟩) (fun _ h => absurd h List.not_mem_nil) dX5_isAhead_64
        · refine lv_iconst (v := 1) hx hb dX5_isAhead_59 (by decide) ?_
          refine lv_goto (tgt := 64) hx hb dX5_isAhead_60 (by decide) ?_
          subst ez2 ez1
          exact W.zret (v := (1 : Int32)) hx hb hr rfl (fun t ht hW => ⟨by rw [show fX5_isAhead held xs ys ic ia ib = (1 : Int32) by unfold fX5_isAhead; rw [if_neg c3, if_neg c4, if_neg c5, if_neg c6]], ht⟩) (fun _ h => absurd h List.not_mem_nil) dX5_isAhead_64
  · refine lv_iload hx hb dX5_isAhead_39 (lv_at hl 0 rfl) ?_
    refine lv_if_eq (tgt := 65) hx hb dX5_isAhead_41 (by decide) (fun c7 => ?_) (fun c7 => ?_)
    · refine lv_aload_n hx hb dX5_isAhead_65 rfl (lv_at hl 4 rfl) ?_
      refine lv_iload_n hx hb dX5_isAhead_66 rfl (lv_at hl 5 rfl) ?_
      refine lv_iload hx hb dX5_isAhead_67 (lv_at hl 3 rfl) ?_
      refine xr_V (q := (RX5, TX5, 14)) (ci := 9) (q0 := 0) (rest := []) (As := [.int ic, .int (held ia.toNatClampNeg)]) ⟨hx, hb, hml, hown, hts⟩ (ct5_half l D m1 m2 m3 m4 m5 m6 m7 kI kJ xs ys held la lb lc th pm rm on cl un ze lm ic (held ia.toNatClampNeg) oic opa) (cwV 2 hts gl_X5_159 rfl rfl rfl (by decide +kernel) ⟨Nat.le_of_ble_eq_true rfl, Nat.le_of_ble_eq_true rfl⟩) nN_mv hN hK hP [0, 1, 2, 3, 4, 5, 6] [0, 1] rfl rfl rfl rfl rfl hl.1 rfl (Nat.le_of_ble_eq_true rfl) dX5_isAhead_69 ⟨Nat.le_of_ble_eq_true rfl, Nat.le_of_ble_eq_true rfl⟩ ?_
      refine lv_aload_n hx hb dX5_isAhead_72 rfl (lv_at hl 4 rfl) ?_
      refine lv_iload_n hx hb dX5_isAhead_73 rfl (lv_at hl 5 rfl) ?_
      refine lv_iload hx hb dX5_isAhead_74 (lv_at hl 2 rfl) ?_
      refine xr_V (q := (RX5, TX5, 14)) (ci := 9) (q0 := 0) (rest := [.int (fX5_half xs ys ic (held ia.toNatClampNeg))]) (As := [.int ic, .int (held ib.toNatClampNeg)]) ⟨hx, hb, hml, hown, hts⟩ (ct5_half l D m1 m2 m3 m4 m5 m6 m7 kI kJ xs ys held la lb lc th pm rm on cl un ze lm ic (held ib.toNatClampNeg) oic opb) (cwV 2 hts gl_X5_159 rfl rfl rfl (by decide +kernel) ⟨Nat.le_of_ble_eq_true rfl, Nat.le_of_ble_eq_true rfl⟩) nN_mv hN hK hP [0, 1, 2, 3, 4, 5, 6] [0, 1] rfl rfl rfl rfl rfl hl.1 rfl (Nat.le_of_ble_eq_true rfl) dX5_isAhead_76 ⟨Nat.le_of_ble_eq_true rfl, Nat.le_of_ble_eq_true rfl⟩ ?_
      refine lv_icmp_eq (tgt := 105) hx hb dX5_isAhead_79 (by decide) (fun c8 => ?_) (fun c8 => ?_)
      · refine lv_aload_n hx hb dX5_isAhead_105 rfl (lv_at hl 4 rfl) ?_
        refine lv_iload_n hx hb dX5_isAhead_106 rfl (lv_at hl 5 rfl) ?_
        refine lv_iload hx hb dX5_isAhead_107 (lv_at hl 3 rfl) ?_
        refine lv_iload hx hb dX5_isAhead_109 (lv_at hl 2 rfl) ?_
        refine xr_V (q := (RX5, TX5, 14)) (ci := 9) (q0 := 0) (rest := []) (As := [.int ic, .int (held ia.toNatClampNeg), .int (held ib.toNatClampNeg)]) ⟨hx, hb, hml, hown, hts⟩ (ct5_turn l D m1 m2 m3 m4 m5 m6 m7 kI kJ xs ys held la lb lc th pm rm on cl un ze lm ic (held ia.toNatClampNeg) (held ib.toNatClampNeg) oic opa opb) (cwV 3 hts gl_X5_58 rfl rfl rfl (by decide +kernel) ⟨Nat.le_of_ble_eq_true rfl, Nat.le_of_ble_eq_true rfl⟩) nN_mv hN hK hP [0, 1, 2, 3, 4, 5, 6] [0, 1] rfl rfl rfl rfl rfl hl.1 rfl (Nat.le_of_ble_eq_true rfl) dX5_isAhead_111 ⟨Nat.le_of_ble_eq_true rfl, Nat.le_of_ble_eq_true rfl⟩ ?_
        refine lv_topi (fun z9 ez9 => ?_)
        refine lv_istore (lv' := [(8, .int z9), (7, .int z2), (6, .int z1), (5, .int (held ib.toNatClampNeg)), (4, .int (held ia.toNatClampNeg)), (0, .ref m1), (1, .int ic), (2, .int ia), (3, .int ib)]) hx hb dX5_isAhead_114 hl (by decide) rfl (fun ls hl => ?_)
        refine lv_iload hx hb dX5_isAhead_116 (lv_at hl 0 rfl) ?_
        refine lv_if_eq (tgt := 132) hx hb dX5_isAhead_118 (by decide) (fun c10 => ?_) (fun c10 => ?_)
        · refine lv_aload_n hx hb dX5_isAhead_132 rfl (lv_at hl 5 rfl) ?_
          refine lv_iload_n hx hb dX5_isAhead_133 rfl (lv_at hl 6 rfl) ?_
          refine lv_iload hx hb dX5_isAhead_134 (lv_at hl 4 rfl) ?_
          refine xr_V (q := (RX5, TX5, 14)) (ci := 9) (q0 := 0) (rest := []) (As := [.int ic, .int (held ia.toNatClampNeg)]) ⟨hx, hb, hml, hown, hts⟩ (ct5_far l D m1 m2 m3 m4 m5 m6 m7 kI kJ xs ys held la lb lc th pm rm on cl un ze lm ic (held ia.toNatClampNeg) oic opa) (cwV 2 hts gl_X5_155 rfl rfl rfl (by decide +kernel) ⟨Nat.le_of_ble_eq_true rfl, Nat.le_of_ble_eq_true rfl⟩) nN_mv hN hK hP [0, 1, 2, 3, 4, 5, 6] [0, 1] rfl rfl rfl rfl rfl hl.1 rfl (Nat.le_of_ble_eq_true rfl) dX5_isAhead_136 ⟨Nat.le_of_ble_eq_true rfl, Nat.le_of_ble_eq_true rfl⟩ ?_
          refine lv_aload_n hx hb dX5_isAhead_139 rfl (lv_at hl 5 rfl) ?_
          refine lv_iload_n hx hb dX5_isAhead_140 rfl (lv_at hl 6 rfl) ?_
          refine lv_iload hx hb dX5_isAhead_141 (lv_at hl 3 rfl) ?_
          refine xr_V (q := (RX5, TX5, 14)) (ci := 9) (q0 := 0) (rest := [.long (fX5_far xs ys ic (held ia.toNatClampNeg))]) (As := [.int ic, .int (held ib.toNatClampNeg)]) ⟨hx, hb, hml, hown, hts⟩ (ct5_far l D m1 m2 m3 m4 m5 m6 m7 kI kJ xs ys held la lb lc th pm rm on cl un ze lm ic (held ib.toNatClampNeg) oic opb) (cwV 2 hts gl_X5_155 rfl rfl rfl (by decide +kernel) ⟨Nat.le_of_ble_eq_true rfl, Nat.le_of_ble_eq_true rfl⟩) nN_mv hN hK hP [0, 1, 2, 3, 4, 5, 6] [0, 1] rfl rfl rfl rfl rfl hl.1 rfl (Nat.le_of_ble_eq_true rfl) dX5_isAhead_143 ⟨Nat.le_of_ble_eq_true rfl, Nat.le_of_ble_eq_true rfl⟩ ?_
          refine W.lcmp hx hb dX5_isAhead_146 ?_
          refine lv_if_eq (tgt := 176) hx hb dX5_isAhead_147 (by decide) (fun c11 => ?_) (fun c11 => ?_)
          · refine lv_iload_n hx hb dX5_isAhead_176 rfl (lv_at hl 7 rfl) ?_
            refine lv_iload_n hx hb dX5_isAhead_177 rfl (lv_at hl 8 rfl) ?_
            refine lv_icmp_ge (tgt := 185) hx hb dX5_isAhead_178 (by decide) (fun c12 => ?_) (fun c12 => ?_)
            · refine lv_iconst (v := 0) hx hb dX5_isAhead_185 (by decide) ?_
              subst ez9 ez2 ez1
              exact W.zret (v := (0 : Int32)) hx hb hr rfl (fun t ht hW => ⟨by rw [show fX5_isAhead held xs ys ic ia ib = (0 : Int32) by unfold fX5_isAhead; rw [if_pos c3, if_pos c7, if_pos c8, if_pos c10, if_pos c11, if_pos c12]], ht⟩) (fun _ h => absurd h List.not_mem_nil) dX5_isAhead_186
            · refine lv_iconst (v := 1) hx hb dX5_isAhead_181 (by decide) ?_
              refine lv_goto (tgt := 186) hx hb dX5_isAhead_182 (by decide) ?_
              subst ez9 ez2 ez1
              exact W.zret (v := (1 : Int32)) hx hb hr rfl (fun t ht hW => ⟨by rw [show fX5_isAhead held xs ys ic ia ib = (1 : Int32) by unfold fX5_isAhead; rw [if_pos c3, if_pos c7, if_pos c8, if_pos c10, if_pos c11, if_neg c12]], ht⟩) (fun _ h => absurd h List.not_mem_nil) dX5_isAhead_186
          · refine lv_aload_n hx hb dX5_isAhead_150 rfl (lv_at hl 5 rfl) ?_
            refine lv_iload_n hx hb dX5_isAhead_151 rfl (lv_at hl 6 rfl) ?_
            refine lv_iload hx hb dX5_isAhead_152 (lv_at hl 4 rfl) ?_
            refine xr_V (q := (RX5, TX5, 14)) (ci := 9) (q0 := 0) (rest := []) (As := [.int ic, .int (held ia.toNatClampNeg)]) ⟨hx, hb, hml, hown, hts⟩ (ct5_far l D m1 m2 m3 m4 m5 m6 m7 kI kJ xs ys held la lb lc th pm rm on cl un ze lm ic (held ia.toNatClampNeg) oic opa) (cwV 2 hts gl_X5_155 rfl rfl rfl (by decide +kernel) ⟨Nat.le_of_ble_eq_true rfl, Nat.le_of_ble_eq_true rfl⟩) nN_mv hN hK hP [0, 1, 2, 3, 4, 5, 6] [0, 1] rfl rfl rfl rfl rfl hl.1 rfl (Nat.le_of_ble_eq_true rfl) dX5_isAhead_154 ⟨Nat.le_of_ble_eq_true rfl, Nat.le_of_ble_eq_true rfl⟩ ?_
            refine lv_aload_n hx hb dX5_isAhead_157 rfl (lv_at hl 5 rfl) ?_
            refine lv_iload_n hx hb dX5_isAhead_158 rfl (lv_at hl 6 rfl) ?_
            refine lv_iload hx hb dX5_isAhead_159 (lv_at hl 3 rfl) ?_
            refine xr_V (q := (RX5, TX5, 14)) (ci := 9) (q0 := 0) (rest := [.long (fX5_far xs ys ic (held ia.toNatClampNeg))]) (As := [.int ic, .int (held ib.toNatClampNeg)]) ⟨hx, hb, hml, hown, hts⟩ (ct5_far l D m1 m2 m3 m4 m5 m6 m7 kI kJ xs ys held la lb lc th pm rm on cl un ze lm ic (held ib.toNatClampNeg) oic opb) (cwV 2 hts gl_X5_155 rfl rfl rfl (by decide +kernel) ⟨Nat.le_of_ble_eq_true rfl, Nat.le_of_ble_eq_true rfl⟩) nN_mv hN hK hP [0, 1, 2, 3, 4, 5, 6] [0, 1] rfl rfl rfl rfl rfl hl.1 rfl (Nat.le_of_ble_eq_true rfl) dX5_isAhead_161 ⟨Nat.le_of_ble_eq_true rfl, Nat.le_of_ble_eq_true rfl⟩ ?_
            refine W.lcmp hx hb dX5_isAhead_164 ?_
            refine lv_if_ge (tgt := 172) hx hb dX5_isAhead_165 (by decide) (fun c13 => ?_) (fun c13 => ?_)
            · refine lv_iconst (v := 0) hx hb dX5_isAhead_172 (by decide) ?_
              refine lv_goto (tgt := 186) hx hb dX5_isAhead_173 (by decide) ?_
              subst ez9 ez2 ez1
              exact W.zret (v := (0 : Int32)) hx hb hr rfl (fun t ht hW => ⟨by rw [show fX5_isAhead held xs ys ic ia ib = (0 : Int32) by unfold fX5_isAhead; rw [if_pos c3, if_pos c7, if_pos c8, if_pos c10, if_neg c11, if_pos c13]], ht⟩) (fun _ h => absurd h List.not_mem_nil) dX5_isAhead_186
            · refine lv_iconst (v := 1) hx hb dX5_isAhead_168 (by decide) ?_
              refine lv_goto (tgt := 186) hx hb dX5_isAhead_169 (by decide) ?_
              subst ez9 ez2 ez1
              exact W.zret (v := (1 : Int32)) hx hb hr rfl (fun t ht hW => ⟨by rw [show fX5_isAhead held xs ys ic ia ib = (1 : Int32) by unfold fX5_isAhead; rw [if_pos c3, if_pos c7, if_pos c8, if_pos c10, if_neg c11, if_neg c13]], ht⟩) (fun _ h => absurd h List.not_mem_nil) dX5_isAhead_186
        · refine lv_iload hx hb dX5_isAhead_121 (lv_at hl 0 rfl) ?_
          refine lv_if_le (tgt := 130) hx hb dX5_isAhead_123 (by decide) (fun c14 => ?_) (fun c14 => ?_)
          · refine lv_iconst (v := 0) hx hb dX5_isAhead_130 (by decide) ?_
            subst ez9 ez2 ez1
            exact W.zret (v := (0 : Int32)) hx hb hr rfl (fun t ht hW => ⟨by rw [show fX5_isAhead held xs ys ic ia ib = (0 : Int32) by unfold fX5_isAhead; rw [if_pos c3, if_pos c7, if_pos c8, if_neg c10, if_pos c14]], ht⟩) (fun _ h => absurd h List.not_mem_nil) dX5_isAhead_131
          · refine lv_iconst (v := 1) hx hb dX5_isAhead_126 (by decide) ?_
            refine lv_goto (tgt := 131) hx hb dX5_isAhead_127 (by decide) ?_
            subst ez9 ez2 ez1
            exact W.zret (v := (1 : Int32)) hx hb hr rfl (fun t ht hW => ⟨by rw [show fX5_isAhead held xs ys ic ia ib = (1 : Int32) by unfold fX5_isAhead; rw [if_pos c3, if_pos c7, if_pos c8, if_neg c10, if_neg c14]], ht⟩) (fun _ h => absurd h List.not_mem_nil) dX5_isAhead_131
      · refine lv_aload_n hx hb dX5_isAhead_82 rfl (lv_at hl 4 rfl) ?_
        refine lv_iload_n hx hb dX5_isAhead_83 rfl (lv_at hl 5 rfl) ?_
        refine lv_iload hx hb dX5_isAhead_84 (lv_at hl 3 rfl) ?_
        refine xr_V (q := (RX5, TX5, 14)) (ci := 9) (q0 := 0) (rest := []) (As := [.int ic, .int (held ia.toNatClampNeg)]) ⟨hx, hb, hml, hown, hts⟩ (ct5_half l D m1 m2 m3 m4 m5 m6 m7 kI kJ xs ys held la lb lc th pm rm on cl un ze lm ic (held ia.toNatClampNeg) oic opa) (cwV 2 hts gl_X5_159 rfl rfl rfl (by decide +kernel) ⟨Nat.le_of_ble_eq_true rfl, Nat.le_of_ble_eq_true rfl⟩) nN_mv hN hK hP [0, 1, 2, 3, 4, 5, 6] [0, 1] rfl rfl rfl rfl rfl hl.1 rfl (Nat.le_of_ble_eq_true rfl) dX5_isAhead_86 ⟨Nat.le_of_ble_eq_true rfl, Nat.le_of_ble_eq_true rfl⟩ ?_
        refine lv_aload_n hx hb dX5_isAhead_89 rfl (lv_at hl 4 rfl) ?_
        refine lv_iload_n hx hb dX5_isAhead_90 rfl (lv_at hl 5 rfl) ?_
        refine lv_iload hx hb dX5_isAhead_91 (lv_at hl 2 rfl) ?_
        refine xr_V (q := (RX5, TX5, 14)) (ci := 9) (q0 := 0) (rest := [.int (fX5_half xs ys ic (held ia.toNatClampNeg))]) (As := [.int ic, .int (held ib.toNatClampNeg)]) ⟨hx, hb, hml, hown, hts⟩ (ct5_half l D m1 m2 m3 m4 m5 m6 m7 kI kJ xs ys held la lb lc th pm rm on cl un ze lm ic (held ib.toNatClampNeg) oic opb) (cwV 2 hts gl_X5_159 rfl rfl rfl (by decide +kernel) ⟨Nat.le_of_ble_eq_true rfl, Nat.le_of_ble_eq_true rfl⟩) nN_mv hN hK hP [0, 1, 2, 3, 4, 5, 6] [0, 1] rfl rfl rfl rfl rfl hl.1 rfl (Nat.le_of_ble_eq_true rfl) dX5_isAhead_93 ⟨Nat.le_of_ble_eq_true rfl, Nat.le_of_ble_eq_true rfl⟩ ?_
        refine lv_icmp_ge (tgt := 103) hx hb dX5_isAhead_96 (by decide) (fun c15 => ?_) (fun c15 => ?_)
        · refine lv_iconst (v := 0) hx hb dX5_isAhead_103 (by decide) ?_
          subst ez2 ez1
          exact W.zret (v := (0 : Int32)) hx hb hr rfl (fun t ht hW => ⟨by rw [show fX5_isAhead held xs ys ic ia ib = (0 : Int32) by unfold fX5_isAhead; rw [if_pos c3, if_pos c7, if_neg c8, if_pos c15]], ht⟩) (fun _ h => absurd h List.not_mem_nil) dX5_isAhead_104
        · refine lv_iconst (v := 1) hx hb dX5_isAhead_99 (by decide) ?_
          refine lv_goto (tgt := 104) hx hb dX5_isAhead_100 (by decide) ?_
          subst ez2 ez1
          exact W.zret (v := (1 : Int32)) hx hb hr rfl (fun t ht hW => ⟨by rw [show fX5_isAhead held xs ys ic ia ib = (1 : Int32) by unfold fX5_isAhead; rw [if_pos c3, if_pos c7, if_neg c8, if_neg c15]], ht⟩) (fun _ h => absurd h List.not_mem_nil) dX5_isAhead_104
    · refine lv_iload hx hb dX5_isAhead_44 (lv_at hl 1 rfl) ?_
      refine lv_if_eq (tgt := 63) hx hb dX5_isAhead_46 (by decide) (fun c16 => ?_) (fun c16 => ?_)
      · refine lv_iconst (v := 0) hx hb dX5_isAhead_63 (by decide) ?_
        subst ez2 ez1
        exact W.zret (v := (0 : Int32)) hx hb hr rfl (fun t ht hW => ⟨by rw [show fX5_isAhead held xs ys ic ia ib = (0 : Int32) by unfold fX5_isAhead; rw [if_pos c3, if_neg c7, if_pos c16]], ht⟩) (fun _ h => absurd h List.not_mem_nil) dX5_isAhead_64
      · refine lv_iload hx hb dX5_isAhead_49 (lv_at hl 0 rfl) ?_
        refine lv_if_eq (tgt := 59) hx hb dX5_isAhead_51 (by decide) (fun c17 => ?_) (fun c17 => ?_)
        · refine lv_iconst (v := 1) hx hb dX5_isAhead_59 (by decide) ?_
          refine lv_goto (tgt := 64) hx hb dX5_isAhead_60 (by decide) ?_
          subst ez2 ez1
          exact W.zret (v := (1 : Int32)) hx hb hr rfl (fun t ht hW => ⟨by rw [show fX5_isAhead held xs ys ic ia ib = (1 : Int32) by unfold fX5_isAhead; rw [if_pos c3, if_neg c7, if_neg c16, if_pos c17]], ht⟩) (fun _ h => absurd h List.not_mem_nil) dX5_isAhead_64
        · refine lv_iload_n hx hb dX5_isAhead_54 rfl (lv_at hl 6 rfl) ?_
          refine lv_iload_n hx hb dX5_isAhead_55 rfl (lv_at hl 7 rfl) ?_
          refine lv_icmp_ge (tgt := 63) hx hb dX5_isAhead_56 (by decide) (fun c18 => ?_) (fun c18 => ?_)
          · refine lv_iconst (v := 0) hx hb dX5_isAhead_63 (by decide) ?_
            subst ez2 ez1
            exact W.zret (v := (0 : Int32)) hx hb hr rfl (fun t ht hW => ⟨by rw [show fX5_isAhead held xs ys ic ia ib = (0 : Int32) by unfold fX5_isAhead; rw [if_pos c3, if_neg c7, if_neg c16, if_neg c17, if_pos c18]], ht⟩) (fun _ h => absurd h List.not_mem_nil) dX5_isAhead_64
          · refine lv_iconst (v := 1) hx hb dX5_isAhead_59 (by decide) ?_
            refine lv_goto (tgt := 64) hx hb dX5_isAhead_60 (by decide) ?_
            subst ez2 ez1
            exact W.zret (v := (1 : Int32)) hx hb hr rfl (fun t ht hW => ⟨by rw [show fX5_isAhead held xs ys ic ia ib = (1 : Int32) by unfold fX5_isAhead; rw [if_pos c3, if_neg c7, if_neg c16, if_neg c17, if_neg c18]], ht⟩) (fun _ h => absurd h List.not_mem_nil) dX5_isAhead_64
def fX5_isLess (held xs ys : Nat → Int32) (ia : Int32) (ib : Int32) : Int32 := if (xs (held ia.toNatClampNeg).toNatClampNeg) = (xs (held ib.toNatClampNeg).toNatClampNeg) then (if (ys (held ia.toNatClampNeg).toNatClampNeg) = (ys (held ib.toNatClampNeg).toNatClampNeg) then (if ib ≤ ia then ((0 : Int32)) else ((1 : Int32))) else (if (ys (held ib.toNatClampNeg).toNatClampNeg) ≤ (ys (held ia.toNatClampNeg).toNatClampNeg) then ((0 : Int32)) else ((1 : Int32)))) else (if (xs (held ib.toNatClampNeg).toNatClampNeg) ≤ (xs (held ia.toNatClampNeg).toNatClampNeg) then ((0 : Int32)) else ((1 : Int32)))
set_option maxHeartbeats 4000000 in
set_option maxRecDepth 100000 in
theorem ct5_isLess (l : Launch) (D : va_G) (m1 m2 m3 m4 m5 m6 m7 : Nat) (kI kJ : ClassId) (xs ys held : Nat → Int32) (la lb lc : Nat → Int64) (th pm rm on cl un ze lm : Int32) (ia : Int32) (ib : Int32) (oia : vp_in ia 24) (oib : vp_in ib 24) (opa : vp_in (held ia.toNatClampNeg) 60) (opb : vp_in (held ib.toNatClampNeg) 60) : Met l yX5_isLess (Cond.code yX5_isLess cX5_isLess 5 (some .boolean) :: BY) ({ frames := 0, cells := 0, slots := 0, locals := 0 }) (xr_P nN D vwCl [(kI, .int), (kJ, .long)] (wMo m1 m2 m3 m4 m5 m6 m7 kI kJ xs ys held la lb lc th pm rm on cl un ze lm) [.ref m1, .int ia, .int ib]) (xr_Q (.int (fX5_isLess held xs ys ia ib))) 0 0 (fun _ => False) := by
  refine Met.ofW (cc := cX5_isLess) (maxL := 5) (ret := (some .boolean)) (by decide) rfl ?_
  intro p e s m args below meth c s₁ B hml hv
  obtain ⟨rfl, hP, hK, hN⟩ := hv
  have hx := B.exec
  have hb := B.bytes
  have hr := B.returns
  have hts0 := atoms_spec (ws := Cond.code yX5_isLess cX5_isLess 5 (some .boolean) :: BY) B.pre
  have hts : ∀ w ∈ BY, w.before _ s = true := fun w h => hts0 w (List.mem_cons_of_mem _ h)
  have hown : s.vm.findClass RX5 = some m.cls := findClass_of_methodNamed B.named
  have hlocks := B.notSynchronized
  have hl := lv_entry ([.ref m1, .int ia, .int ib]) (n := 5) (Nat.le_of_ble_eq_true rfl)
  rw [lg_entry_eq]
  generalize (lg_sl ([.ref m1, .int ia, .int ib]) ++ List.replicate (5 - (lg_sl ([.ref m1, .int ia, .int ib])).length) Slot.unset).toArray = ls at hl ⊢
  have hl : lv_has ls 5 [(0, .ref m1), (1, .int ia), (2, .int ib)] := hl
  refine lv_aload_n hx hb dX5_isLess_0 rfl (lv_at hl 0 rfl) ?_
  refine va_get (D := D) (ci := 9) (v := .ref m4) (C := RX5) (T := TX5) (N := 14) hx hb hts hinX5 hown hK hP 0 rfl rfl 5 (by decide) (hts _ fk_X5_20) (fun _ h9 => h9) rfl dX5_isLess_1 ?_
  refine lv_iload_n hx hb dX5_isLess_4 rfl (lv_at hl 1 rfl) ?_
  refine va_iald hx hb hK hP 3 0 rfl rfl oia dX5_isLess_5 ?_
  refine lv_istore_n (lv' := [(3, .int (held ia.toNatClampNeg)), (0, .ref m1), (1, .int ia), (2, .int ib)]) hx hb dX5_isLess_6 rfl hl (by decide) rfl (fun ls hl => ?_)
  refine lv_aload_n hx hb dX5_isLess_7 rfl (lv_at hl 1 rfl) ?_
  refine va_get (D := D) (ci := 9) (v := .ref m4) (C := RX5) (T := TX5) (N := 14) hx hb hts hinX5 hown hK hP 0 rfl rfl 5 (by decide) (hts _ fk_X5_20) (fun _ h9 => h9) rfl dX5_isLess_8 ?_
  refine lv_iload_n hx hb dX5_isLess_11 rfl (lv_at hl 3 rfl) ?_
  refine va_iald hx hb hK hP 3 0 rfl rfl oib dX5_isLess_12 ?_
  refine lv_istore (lv' := [(4, .int (held ib.toNatClampNeg)), (3, .int (held ia.toNatClampNeg)), (0, .ref m1), (1, .int ia), (2, .int ib)]) hx hb dX5_isLess_13 hl (by decide) rfl (fun ls hl => ?_)
  refine lv_aload_n hx hb dX5_isLess_15 rfl (lv_at hl 2 rfl) ?_
  refine va_get (D := D) (ci := 9) (v := .ref m2) (C := RX5) (T := TX5) (N := 14) hx hb hts hinX5 hown hK hP 0 rfl rfl 2 (by decide) (hts _ fk_X5_13) (fun _ h9 => h9) rfl dX5_isLess_16 ?_
  refine lv_iload_n hx hb dX5_isLess_19 rfl (lv_at hl 1 rfl) ?_
  refine va_iald hx hb hK hP 1 0 rfl rfl opa dX5_isLess_20 ?_
  refine lv_aload_n hx hb dX5_isLess_21 rfl (lv_at hl 2 rfl) ?_
  refine va_get (D := D) (ci := 9) (v := .ref m2) (C := RX5) (T := TX5) (N := 14) hx hb hts hinX5 hown hK hP 0 rfl rfl 2 (by decide) (hts _ fk_X5_13) (fun _ h9 => h9) rfl dX5_isLess_22 ?_
  refine lv_iload hx hb dX5_isLess_25 (lv_at hl 0 rfl) ?_
  refine va_iald hx hb hK hP 1 0 rfl rfl opb dX5_isLess_27 ?_
  refine lv_icmp_eq (tgt := 55) hx hb dX5_isLess_28 (by decide) (fun c1 => ?_) (fun c1 => ?_)
  · refine lv_aload_n hx hb dX5_isLess_55 rfl (lv_at hl 2 rfl) ?_
    refine va_get (D := D) (ci := 9) (v := .ref m3) (C := RX5) (T := TX5) (N := 14) hx hb hts hinX5 hown hK hP 0 rfl rfl 3 (by decide) (hts _ fk_X5_17) (fun _ h9 => h9) rfl dX5_isLess_56 ?_
    refine lv_iload_n hx hb dX5_isLess_59 rfl (lv_at hl 1 rfl) ?_
    refine va_iald hx hb hK hP 2 0 rfl rfl opa dX5_isLess_60 ?_
    refine lv_aload_n hx hb dX5_isLess_61 rfl (lv_at hl 2 rfl) ?_
    refine va_get (D := D) (ci := 9) (v := .ref m3) (C := RX5) (T := TX5) (N := 14) hx hb hts hinX5 hown hK hP 0 rfl rfl 3 (by decide) (hts _ fk_X5_17) (fun _ h9 => h9) rfl dX5_isLess_62 ?_
    refine lv_iload hx hb dX5_isLess_65 (lv_at hl 0 rfl) ?_
    refine va_iald hx hb hK hP 2 0 rfl rfl opb dX5_isLess_67 ?_
    refine lv_icmp_eq (tgt := 95) hx hb dX5_isLess_68 (by decide) (fun c2 => ?_) (fun c2 => ?_)
    · refine lv_iload_n hx hb dX5_isLess_95 rfl (lv_at hl 3 rfl) ?_
      refine lv_iload_n hx hb dX5_isLess_96 rfl (lv_at hl 4 rfl) ?_
      refine lv_icmp_ge (tgt := 104) hx hb dX5_isLess_97 (by decide) (fun c3 => ?_) (fun c3 => ?_)
      · refine lv_iconst (v := 0) hx hb dX5_isLess_104 (by decide) ?_
        exact W.zret (v := (0 : Int32)) hx hb hr rfl (fun t ht hW => ⟨by rw [show fX5_isLess held xs ys ia ib = (0 : Int32) by unfold fX5_isLess; rw [if_pos c1, if_pos c2, if_pos c3]], ht⟩) (fun _ h => absurd h List.not_mem_nil) dX5_isLess_105
      · refine lv_iconst (v := 1) hx hb dX5_isLess_100 (by decide) ?_
        refine lv_goto (tgt := 105) hx hb dX5_isLess_101 (by decide) ?_
        exact W.zret (v := (1 : Int32)) hx hb hr rfl (fun t ht hW => ⟨by rw [show fX5_isLess held xs ys ia ib = (1 : Int32) by unfold fX5_isLess; rw [if_pos c1, if_pos c2, if_neg c3]], ht⟩) (fun _ h => absurd h List.not_mem_nil) dX5_isLess_105
    · refine lv_aload_n hx hb dX5_isLess_71 rfl (lv_at hl 2 rfl) ?_
      refine va_get (D := D) (ci := 9) (v := .ref m3) (C := RX5) (T := TX5) (N := 14) hx hb hts hinX5 hown hK hP 0 rfl rfl 3 (by decide) (hts _ fk_X5_17) (fun _ h9 => h9) rfl dX5_isLess_72 ?_
      refine lv_iload_n hx hb dX5_isLess_75 rfl (lv_at hl 1 rfl) ?_
      refine va_iald hx hb hK hP 2 0 rfl rfl opa dX5_isLess_76 ?_
      refine lv_aload_n hx hb dX5_isLess_77 rfl (lv_at hl 2 rfl) ?_
      refine va_get (D := D) (ci := 9) (v := .ref m3) (C := RX5) (T := TX5) (N := 14) hx hb hts hinX5 hown hK hP 0 rfl rfl 3 (by decide) (hts _ fk_X5_17) (fun _ h9 => h9) rfl dX5_isLess_78 ?_
      refine lv_iload hx hb dX5_isLess_81 (lv_at hl 0 rfl) ?_
      refine va_iald hx hb hK hP 2 0 rfl rfl opb dX5_isLess_83 ?_
      refine lv_icmp_ge (tgt := 91) hx hb dX5_isLess_84 (by decide) (fun c4 => ?_) (fun c4 => ?_)
      · refine lv_iconst (v := 0) hx hb dX5_isLess_91 (by decide) ?_
        refine lv_goto (tgt := 105) hx hb dX5_isLess_92 (by decide) ?_
        exact W.zret (v := (0 : Int32)) hx hb hr rfl (fun t ht hW => ⟨by rw [show fX5_isLess held xs ys ia ib = (0 : Int32) by unfold fX5_isLess; rw [if_pos c1, if_neg c2, if_pos c4]], ht⟩) (fun _ h => absurd h List.not_mem_nil) dX5_isLess_105
      · refine lv_iconst (v := 1) hx hb dX5_isLess_87 (by decide) ?_
        refine lv_goto (tgt := 105) hx hb dX5_isLess_88 (by decide) ?_
        exact W.zret (v := (1 : Int32)) hx hb hr rfl (fun t ht hW => ⟨by rw [show fX5_isLess held xs ys ia ib = (1 : Int32) by unfold fX5_isLess; rw [if_pos c1, if_neg c2, if_neg c4]], ht⟩) (fun _ h => absurd h List.not_mem_nil) dX5_isLess_105
  · refine lv_aload_n hx hb dX5_isLess_31 rfl (lv_at hl 2 rfl) ?_
    refine va_get (D := D) (ci := 9) (v := .ref m2) (C := RX5) (T := TX5) (N := 14) hx hb hts hinX5 hown hK hP 0 rfl rfl 2 (by decide) (hts _ fk_X5_13) (fun _ h9 => h9) rfl dX5_isLess_32 ?_
    refine lv_iload_n hx hb dX5_isLess_35 rfl (lv_at hl 1 rfl) ?_
    refine va_iald hx hb hK hP 1 0 rfl rfl opa dX5_isLess_36 ?_
    refine lv_aload_n hx hb dX5_isLess_37 rfl (lv_at hl 2 rfl) ?_
    refine va_get (D := D) (ci := 9) (v := .ref m2) (C := RX5) (T := TX5) (N := 14) hx hb hts hinX5 hown hK hP 0 rfl rfl 2 (by decide) (hts _ fk_X5_13) (fun _ h9 => h9) rfl dX5_isLess_38 ?_
    refine lv_iload hx hb dX5_isLess_41 (lv_at hl 0 rfl) ?_
    refine va_iald hx hb hK hP 1 0 rfl rfl opb dX5_isLess_43 ?_
    refine lv_icmp_ge (tgt := 51) hx hb dX5_isLess_44 (by decide) (fun c5 => ?_) (fun c5 => ?_)
    · refine lv_iconst (v := 0) hx hb dX5_isLess_51 (by decide) ?_
      refine lv_goto (tgt := 105) hx hb dX5_isLess_52 (by decide) ?_
      exact W.zret (v := (0 : Int32)) hx hb hr rfl (fun t ht hW => ⟨by rw [show fX5_isLess held xs ys ia ib = (0 : Int32) by unfold fX5_isLess; rw [if_neg c1, if_pos c5]], ht⟩) (fun _ h => absurd h List.not_mem_nil) dX5_isLess_105
    · refine lv_iconst (v := 1) hx hb dX5_isLess_47 (by decide) ?_
      refine lv_goto (tgt := 105) hx hb dX5_isLess_48 (by decide) ?_
      exact W.zret (v := (1 : Int32)) hx hb hr rfl (fun t ht hW => ⟨by rw [show fX5_isLess held xs ys ia ib = (1 : Int32) by unfold fX5_isLess; rw [if_neg c1, if_neg c5]], ht⟩) (fun _ h => absurd h List.not_mem_nil) dX5_isLess_105
def fX5_both (la lb : Nat → Int64) (ia : Int32) (ib : Int32) : Int64 := ((la ia.toNatClampNeg) * (lb ib.toNatClampNeg)) - ((la ib.toNatClampNeg) * (lb ia.toNatClampNeg))
set_option maxHeartbeats 4000000 in
set_option maxRecDepth 100000 in
theorem ct5_both (l : Launch) (D : va_G) (m1 m2 m3 m4 m5 m6 m7 : Nat) (kI kJ : ClassId) (xs ys held : Nat → Int32) (la lb lc : Nat → Int64) (th pm rm on cl un ze lm : Int32) (ia : Int32) (ib : Int32) (oia : vp_in ia 12) (oib : vp_in ib 12) : Met l yX5_both (Cond.code yX5_both cX5_both 3 (some .long) :: BY) ({ frames := 0, cells := 0, slots := 0, locals := 0 }) (xr_P nN D vwCl [(kI, .int), (kJ, .long)] (wMo m1 m2 m3 m4 m5 m6 m7 kI kJ xs ys held la lb lc th pm rm on cl un ze lm) [.ref m1, .int ia, .int ib]) (xr_Q (.long (fX5_both la lb ia ib))) 0 0 (fun _ => False) := by
  refine Met.ofW (cc := cX5_both) (maxL := 3) (ret := (some .long)) (by decide) rfl ?_
  intro p e s m args below meth c s₁ B hml hv
  obtain ⟨rfl, hP, hK, hN⟩ := hv
  have hx := B.exec
  have hb := B.bytes
  have hr := B.returns
  have hts0 := atoms_spec (ws := Cond.code yX5_both cX5_both 3 (some .long) :: BY) B.pre
  have hts : ∀ w ∈ BY, w.before _ s = true := fun w h => hts0 w (List.mem_cons_of_mem _ h)
  have hown : s.vm.findClass RX5 = some m.cls := findClass_of_methodNamed B.named
  have hlocks := B.notSynchronized
  have hl := lv_entry ([.ref m1, .int ia, .int ib]) (n := 3) (Nat.le_of_ble_eq_true rfl)
  rw [lg_entry_eq]
  generalize (lg_sl ([.ref m1, .int ia, .int ib]) ++ List.replicate (3 - (lg_sl ([.ref m1, .int ia, .int ib])).length) Slot.unset).toArray = ls at hl ⊢
  have hl : lv_has ls 3 [(0, .ref m1), (1, .int ia), (2, .int ib)] := hl
  refine lv_aload_n hx hb dX5_both_0 rfl (lv_at hl 0 rfl) ?_
  refine va_get (D := D) (ci := 9) (v := .ref m5) (C := RX5) (T := TX5) (N := 14) hx hb hts hinX5 hown hK hP 0 rfl rfl 11 (by decide) (hts _ fk_X5_27) (fun _ h9 => h9) rfl dX5_both_1 ?_
  refine lv_iload_n hx hb dX5_both_4 rfl (lv_at hl 1 rfl) ?_
  refine va_lald hx hb hK hP 4 1 rfl rfl oia dX5_both_5 ?_
  refine lv_aload_n hx hb dX5_both_6 rfl (lv_at hl 0 rfl) ?_
  refine va_get (D := D) (ci := 9) (v := .ref m6) (C := RX5) (T := TX5) (N := 14) hx hb hts hinX5 hown hK hP 0 rfl rfl 12 (by decide) (hts _ fk_X5_31) (fun _ h9 => h9) rfl dX5_both_7 ?_
  refine lv_iload_n hx hb dX5_both_10 rfl (lv_at hl 2 rfl) ?_
  refine va_lald hx hb hK hP 5 1 rfl rfl oib dX5_both_11 ?_
  refine lv_lmul hx hb dX5_both_12 ?_
  refine lv_aload_n hx hb dX5_both_13 rfl (lv_at hl 0 rfl) ?_
  refine va_get (D := D) (ci := 9) (v := .ref m5) (C := RX5) (T := TX5) (N := 14) hx hb hts hinX5 hown hK hP 0 rfl rfl 11 (by decide) (hts _ fk_X5_27) (fun _ h9 => h9) rfl dX5_both_14 ?_
  refine lv_iload_n hx hb dX5_both_17 rfl (lv_at hl 2 rfl) ?_
  refine va_lald hx hb hK hP 4 1 rfl rfl oib dX5_both_18 ?_
  refine lv_aload_n hx hb dX5_both_19 rfl (lv_at hl 0 rfl) ?_
  refine va_get (D := D) (ci := 9) (v := .ref m6) (C := RX5) (T := TX5) (N := 14) hx hb hts hinX5 hown hK hP 0 rfl rfl 12 (by decide) (hts _ fk_X5_31) (fun _ h9 => h9) rfl dX5_both_20 ?_
  refine lv_iload_n hx hb dX5_both_23 rfl (lv_at hl 1 rfl) ?_
  refine va_lald hx hb hK hP 5 1 rfl rfl oia dX5_both_24 ?_
  refine lv_lmul hx hb dX5_both_25 ?_
  refine lv_lsub hx hb dX5_both_26 ?_
  exact W.lret (v := ((la ia.toNatClampNeg) * (lb ib.toNatClampNeg)) - ((la ib.toNatClampNeg) * (lb ia.toNatClampNeg))) hx hb hr (fun t ht hW => ⟨rfl, ht⟩) (fun _ h => absurd h List.not_mem_nil) dX5_both_27
def fX5_isOne (la lb lc : Nat → Int64) (ia : Int32) (ib : Int32) : Int32 := if (lg_cmp (fX5_both la lb ia ib) (0 : Int64)) = (0 : Int32) then (if (lg_cmp ((la ia.toNatClampNeg) * (lc ib.toNatClampNeg)) ((la ib.toNatClampNeg) * (lc ia.toNatClampNeg))) = (0 : Int32) then (if (lg_cmp ((lb ia.toNatClampNeg) * (lc ib.toNatClampNeg)) ((lb ib.toNatClampNeg) * (lc ia.toNatClampNeg))) = (0 : Int32) then ((1 : Int32)) else ((0 : Int32))) else ((0 : Int32))) else ((0 : Int32))
set_option maxHeartbeats 4000000 in
set_option maxRecDepth 100000 in
theorem ct5_isOne (l : Launch) (D : va_G) (m1 m2 m3 m4 m5 m6 m7 : Nat) (kI kJ : ClassId) (xs ys held : Nat → Int32) (la lb lc : Nat → Int64) (th pm rm on cl un ze lm : Int32) (ia : Int32) (ib : Int32) (oia : vp_in ia 12) (oib : vp_in ib 12) : Met l yX5_isOne (Cond.code yX5_isOne cX5_isOne 3 (some .boolean) :: BY) ({ frames := 1, cells := 0, slots := 0, locals := 60 }) (xr_P nN D vwCl [(kI, .int), (kJ, .long)] (wMo m1 m2 m3 m4 m5 m6 m7 kI kJ xs ys held la lb lc th pm rm on cl un ze lm) [.ref m1, .int ia, .int ib]) (xr_Q (.int (fX5_isOne la lb lc ia ib))) 0 0 (fun _ => False) := by
  refine Met.ofW (cc := cX5_isOne) (maxL := 3) (ret := (some .boolean)) (by decide) rfl ?_
  intro p e s m args below meth c s₁ B hml hv
  obtain ⟨rfl, hP, hK, hN⟩ := hv
  have hx := B.exec
  have hb := B.bytes
  have hr := B.returns
  have hts0 := atoms_spec (ws := Cond.code yX5_isOne cX5_isOne 3 (some .boolean) :: BY) B.pre
  have hts : ∀ w ∈ BY, w.before _ s = true := fun w h => hts0 w (List.mem_cons_of_mem _ h)
  have hown : s.vm.findClass RX5 = some m.cls := findClass_of_methodNamed B.named
  have hlocks := B.notSynchronized
  have hl := lv_entry ([.ref m1, .int ia, .int ib]) (n := 3) (Nat.le_of_ble_eq_true rfl)
  rw [lg_entry_eq]
  generalize (lg_sl ([.ref m1, .int ia, .int ib]) ++ List.replicate (3 - (lg_sl ([.ref m1, .int ia, .int ib])).length) Slot.unset).toArray = ls at hl ⊢
  have hl : lv_has ls 3 [(0, .ref m1), (1, .int ia), (2, .int ib)] := hl
  refine lv_aload_n hx hb dX5_isOne_0 rfl (lv_at hl 0 rfl) ?_
  refine lv_iload_n hx hb dX5_isOne_1 rfl (lv_at hl 1 rfl) ?_
  refine lv_iload_n hx hb dX5_isOne_2 rfl (lv_at hl 2 rfl) ?_
  refine xr_V (q := (RX5, TX5, 14)) (ci := 9) (q0 := 0) (rest := []) (As := [.int ia, .int ib]) ⟨hx, hb, hml, hown, hts⟩ (ct5_both l D m1 m2 m3 m4 m5 m6 m7 kI kJ xs ys held la lb lc th pm rm on cl un ze lm ia ib oia oib) (cwV 2 hts gl_X5_171 rfl rfl rfl (by decide +kernel) ⟨Nat.le_of_ble_eq_true rfl, Nat.le_of_ble_eq_true rfl⟩) nN_mv hN hK hP [0, 1, 2, 3, 4, 5, 6] [0, 1] rfl rfl rfl rfl rfl hl.1 rfl (Nat.le_of_ble_eq_true rfl) dX5_isOne_3 ⟨Nat.le_of_ble_eq_true rfl, Nat.le_of_ble_eq_true rfl⟩ ?_
  refine lv_lconst (v := 0) hx hb dX5_isOne_6 (by decide) ?_
  refine W.lcmp hx hb dX5_isOne_7 ?_
  refine lv_if_ne (tgt := 75) hx hb dX5_isOne_8 (by decide) (fun c1 => ?_) (fun c1 => ?_)
  · refine lv_iconst (v := 0) hx hb dX5_isOne_75 (by decide) ?_
    exact W.zret (v := (0 : Int32)) hx hb hr rfl (fun t ht hW => ⟨by rw [show fX5_isOne la lb lc ia ib = (0 : Int32) by unfold fX5_isOne; rw [if_neg c1]], ht⟩) (fun _ h => absurd h List.not_mem_nil) dX5_isOne_76
  · refine lv_aload_n hx hb dX5_isOne_11 rfl (lv_at hl 0 rfl) ?_
    refine va_get (D := D) (ci := 9) (v := .ref m5) (C := RX5) (T := TX5) (N := 14) hx hb hts hinX5 hown hK hP 0 rfl rfl 11 (by decide) (hts _ fk_X5_27) (fun _ h9 => h9) rfl dX5_isOne_12 ?_
    refine lv_iload_n hx hb dX5_isOne_15 rfl (lv_at hl 1 rfl) ?_
    refine va_lald hx hb hK hP 4 1 rfl rfl oia dX5_isOne_16 ?_
    refine lv_aload_n hx hb dX5_isOne_17 rfl (lv_at hl 0 rfl) ?_
    refine va_get (D := D) (ci := 9) (v := .ref m7) (C := RX5) (T := TX5) (N := 14) hx hb hts hinX5 hown hK hP 0 rfl rfl 13 (by decide) (hts _ fk_X5_34) (fun _ h9 => h9) rfl dX5_isOne_18 ?_
    refine lv_iload_n hx hb dX5_isOne_21 rfl (lv_at hl 2 rfl) ?_
    refine va_lald hx hb hK hP 6 1 rfl rfl oib dX5_isOne_22 ?_
    refine lv_lmul hx hb dX5_isOne_23 ?_
    refine lv_aload_n hx hb dX5_isOne_24 rfl (lv_at hl 0 rfl) ?_
    refine va_get (D := D) (ci := 9) (v := .ref m5) (C := RX5) (T := TX5) (N := 14) hx hb hts hinX5 hown hK hP 0 rfl rfl 11 (by decide) (hts _ fk_X5_27) (fun _ h9 => h9) rfl dX5_isOne_25 ?_
    refine lv_iload_n hx hb dX5_isOne_28 rfl (lv_at hl 2 rfl) ?_
    refine va_lald hx hb hK hP 4 1 rfl rfl oib dX5_isOne_29 ?_
    refine lv_aload_n hx hb dX5_isOne_30 rfl (lv_at hl 0 rfl) ?_
    refine va_get (D := D) (ci := 9) (v := .ref m7) (C := RX5) (T := TX5) (N := 14) hx hb hts hinX5 hown hK hP 0 rfl rfl 13 (by decide) (hts _ fk_X5_34) (fun _ h9 => h9) rfl dX5_isOne_31 ?_
    refine lv_iload_n hx hb dX5_isOne_34 rfl (lv_at hl 1 rfl) ?_
    refine va_lald hx hb hK hP 6 1 rfl rfl oia dX5_isOne_35 ?_
    refine lv_lmul hx hb dX5_isOne_36 ?_
    refine W.lcmp hx hb dX5_isOne_37 ?_
    refine lv_if_ne (tgt := 75) hx hb dX5_isOne_38 (by decide) (fun c2 => ?_) (fun c2 => ?_)
    · refine lv_iconst (v := 0) hx hb dX5_isOne_75 (by decide) ?_
      exact W.zret (v := (0 : Int32)) hx hb hr rfl (fun t ht hW => ⟨by rw [show fX5_isOne la lb lc ia ib = (0 : Int32) by unfold fX5_isOne; rw [if_pos c1, if_neg c2]], ht⟩) (fun _ h => absurd h List.not_mem_nil) dX5_isOne_76
    · refine lv_aload_n hx hb dX5_isOne_41 rfl (lv_at hl 0 rfl) ?_
      refine va_get (D := D) (ci := 9) (v := .ref m6) (C := RX5) (T := TX5) (N := 14) hx hb hts hinX5 hown hK hP 0 rfl rfl 12 (by decide) (hts _ fk_X5_31) (fun _ h9 => h9) rfl dX5_isOne_42 ?_
      refine lv_iload_n hx hb dX5_isOne_45 rfl (lv_at hl 1 rfl) ?_
      refine va_lald hx hb hK hP 5 1 rfl rfl oia dX5_isOne_46 ?_
      refine lv_aload_n hx hb dX5_isOne_47 rfl (lv_at hl 0 rfl) ?_
      refine va_get (D := D) (ci := 9) (v := .ref m7) (C := RX5) (T := TX5) (N := 14) hx hb hts hinX5 hown hK hP 0 rfl rfl 13 (by decide) (hts _ fk_X5_34) (fun _ h9 => h9) rfl dX5_isOne_48 ?_
      refine lv_iload_n hx hb dX5_isOne_51 rfl (lv_at hl 2 rfl) ?_
      refine va_lald hx hb hK hP 6 1 rfl rfl oib dX5_isOne_52 ?_
      refine lv_lmul hx hb dX5_isOne_53 ?_
      refine lv_aload_n hx hb dX5_isOne_54 rfl (lv_at hl 0 rfl) ?_
      refine va_get (D := D) (ci := 9) (v := .ref m6) (C := RX5) (T := TX5) (N := 14) hx hb hts hinX5 hown hK hP 0 rfl rfl 12 (by decide) (hts _ fk_X5_31) (fun _ h9 => h9) rfl dX5_isOne_55 ?_
      refine lv_iload_n hx hb dX5_isOne_58 rfl (lv_at hl 2 rfl) ?_
      refine va_lald hx hb hK hP 5 1 rfl rfl oib dX5_isOne_59 ?_
      refine lv_aload_n hx hb dX5_isOne_60 rfl (lv_at hl 0 rfl) ?_
      refine va_get (D := D) (ci := 9) (v := .ref m7) (C := RX5) (T := TX5) (N := 14) hx hb hts hinX5 hown hK hP 0 rfl rfl 13 (by decide) (hts _ fk_X5_34) (fun _ h9 => h9) rfl dX5_isOne_61 ?_
      refine lv_iload_n hx hb dX5_isOne_64 rfl (lv_at hl 1 rfl) ?_
      refine va_lald hx hb hK hP 6 1 rfl rfl oia dX5_isOne_65 ?_
      refine lv_lmul hx hb dX5_isOne_66 ?_
      refine W.lcmp hx hb dX5_isOne_67 ?_
      refine lv_if_ne (tgt := 75) hx hb dX5_isOne_68 (by decide) (fun c3 => ?_) (fun c3 => ?_)
      · refine lv_iconst (v := 0) hx hb dX5_isOne_75 (by decide) ?_
        exact W.zret (v := (0 : Int32)) hx hb hr rfl (fun t ht hW => ⟨by rw [show fX5_isOne la lb lc ia ib = (0 : Int32) by unfold fX5_isOne; rw [if_pos c1, if_pos c2, if_neg c3]], ht⟩) (fun _ h => absurd h List.not_mem_nil) dX5_isOne_76
      · refine lv_iconst (v := 1) hx hb dX5_isOne_71 (by decide) ?_
        refine lv_goto (tgt := 76) hx hb dX5_isOne_72 (by decide) ?_
        exact W.zret (v := (1 : Int32)) hx hb hr rfl (fun t ht hW => ⟨by rw [show fX5_isOne la lb lc ia ib = (1 : Int32) by unfold fX5_isOne; rw [if_pos c1, if_pos c2, if_pos c3]], ht⟩) (fun _ h => absurd h List.not_mem_nil) dX5_isOne_76
def fX5_isNew_A (la lb lc : Nat → Int64) (ia : Int32) : Nat → Int32 → Int32 → Int32
  | 0, _, _ => 0
  | kA + 1, is, j => if ia ≤ j then (is) else (if is = (0 : Int32) then (fX5_isNew_A la lb lc ia kA (0 : Int32) (j + 1)) else (if (fX5_isOne la lb lc ia j) = (0 : Int32) then (fX5_isNew_A la lb lc ia kA (1 : Int32) (j + 1)) else (fX5_isNew_A la lb lc ia kA (0 : Int32) (j + 1))))
theorem fX5_isNew_A_s (la lb lc : Nat → Int64) (ia : Int32) (kA : Nat) (is : Int32) (j : Int32) : fX5_isNew_A la lb lc ia  (kA + 1) is j = (if ia ≤ j then (is) else (if is = (0 : Int32) then (fX5_isNew_A la lb lc ia kA (0 : Int32) (j + 1)) else (if (fX5_isOne la lb lc ia j) = (0 : Int32) then (fX5_isNew_A la lb lc ia kA (1 : Int32) (j + 1)) else (fX5_isNew_A la lb lc ia kA (0 : Int32) (j + 1))))) := rfl
def fX5_isNew (la lb lc : Nat → Int64) (ia : Int32) : Int32 := fX5_isNew_A la lb lc ia (ia.toInt.toNat + 1) (1 : Int32) (0 : Int32)
set_option maxHeartbeats 4000000 in
set_option maxRecDepth 100000 in
theorem ct5_isNew (l : Launch) (D : va_G) (m1 m2 m3 m4 m5 m6 m7 : Nat) (kI kJ : ClassId) (xs ys held : Nat → Int32) (la lb lc : Nat → Int64) (th pm rm on cl un ze lm : Int32) (ia : Int32) (oia : vp_in ia 12) : Met l yX5_isNew (Cond.code yX5_isNew cX5_isNew 4 (some .boolean) :: BY) ({ frames := 2, cells := 0, slots := 0, locals := 120 }) (xr_P nN D vwCl [(kI, .int), (kJ, .long)] (wMo m1 m2 m3 m4 m5 m6 m7 kI kJ xs ys held la lb lc th pm rm on cl un ze lm) [.ref m1, .int ia]) (xr_Q (.int (fX5_isNew la lb lc ia))) 0 0 (fun _ => False) := by
  refine Met.ofW (cc := cX5_isNew) (maxL := 4) (ret := (some .boolean)) (by decide) rfl ?_
  intro p e s m args below meth c s₁ B hml hv
  obtain ⟨rfl, hP, hK, hN⟩ := hv
  have hx := B.exec
  have hb := B.bytes
  have hr := B.returns
  have hts0 := atoms_spec (ws := Cond.code yX5_isNew cX5_isNew 4 (some .boolean) :: BY) B.pre
  have hts : ∀ w ∈ BY, w.before _ s = true := fun w h => hts0 w (List.mem_cons_of_mem _ h)
  have hown : s.vm.findClass RX5 = some m.cls := findClass_of_methodNamed B.named
  have hlocks := B.notSynchronized
  have hl := lv_entry ([.ref m1, .int ia]) (n := 4) (Nat.le_of_ble_eq_true rfl)
  rw [lg_entry_eq]
  generalize (lg_sl ([.ref m1, .int ia]) ++ List.replicate (4 - (lg_sl ([.ref m1, .int ia])).length) Slot.unset).toArray = ls at hl ⊢
  have hl : lv_has ls 4 [(0, .ref m1), (1, .int ia)] := hl
  refine lv_iconst (v := 1) hx hb dX5_isNew_0 (by decide) ?_
  refine lv_istore_n (lv' := [(2, .int (1 : Int32)), (0, .ref m1), (1, .int ia)]) hx hb dX5_isNew_1 rfl hl (by decide) rfl (fun ls hl => ?_)
  refine lv_iconst (v := 0) hx hb dX5_isNew_2 (by decide) ?_
  refine lv_istore_n (lv' := [(3, .int (0 : Int32)), (2, .int (1 : Int32)), (0, .ref m1), (1, .int ia)]) hx hb dX5_isNew_3 rfl hl (by decide) rfl (fun ls hl => ?_)
  refine xr_l2 (P := fun ls => W p l e _ s m _ below meth c _ _ _ _ _ (F0 m 4 ls [])) (nL := 4) (fun (is : Int32) (j : Int32) => [(3, .int j), (2, .int is), (0, .ref m1), (1, .int ia)]) (fun kA (is : Int32) (j : Int32) => xr_u ia j kA ∧ (is = 0 ∨ is = 1) ∧ fX5_isNew_A la lb lc ia kA is j = fX5_isNew la lb lc ia) (fun _ _ h => xr_u0 h.1) ?_ (ia.toInt.toNat + 1) (1 : Int32) (0 : Int32) ls hl ⟨(xr_ub ia), (Or.inr rfl), (by unfold fX5_isNew; rfl)⟩
  clear hl
  intro kA is j ls hl hI ihA
  obtain ⟨huA, hbis, hLA⟩ := hI
  refine lv_iload_n hx hb dX5_isNew_4 rfl (lv_at hl 0 rfl) ?_
  refine lv_iload_n hx hb dX5_isNew_5 rfl (lv_at hl 3 rfl) ?_
  refine lv_icmp_ge (tgt := 34) hx hb dX5_isNew_6 (by decide) (fun c1 => ?_) (fun c1 => ?_)
  · refine lv_iload_n hx hb dX5_isNew_34 rfl (lv_at hl 1 rfl) ?_
    exact W.zret (v := is) hx hb hr (bz hbis) (fun t ht hW => ⟨by rw [← hLA, fX5_isNew_A_s, if_pos c1], ht⟩) (fun _ h => absurd h List.not_mem_nil) dX5_isNew_35
  · refine lv_iload_n hx hb dX5_isNew_9 rfl (lv_at hl 1 rfl) ?_
    refine lv_if_eq (tgt := 26) hx hb dX5_isNew_10 (by decide) (fun c2 => ?_) (fun c2 => ?_)
    · refine lv_iconst (v := 0) hx hb dX5_isNew_26 (by decide) ?_
      refine lv_istore_n (lv' := [(2, .int (0 : Int32)), (3, .int j), (0, .ref m1), (1, .int ia)]) hx hb dX5_isNew_27 rfl hl (by decide) rfl (fun ls hl => ?_)
      obtain ⟨z3, ez3⟩ : ∃ y : Int32, y = j + 1 := ⟨_, rfl⟩
      refine lv_iinc (v := z3) (lv' := [(3, .int z3), (2, .int (0 : Int32)), (0, .ref m1), (1, .int ia)]) hx hb dX5_isNew_28 hl (k := 1) rfl (by rw [ez3]; rfl) (by decide) rfl (fun ls hl => ?_)
      refine lv_goto (tgt := 4) hx hb dX5_isNew_31 (by decide) ?_
      have hl9 := hl
      subst ez3
      exact ihA (0 : Int32) (j + 1) _ (lv_sub hl9 [0, 1, 2, 3] rfl) ⟨xr_us huA c1, (Or.inl rfl), by rw [← hLA, fX5_isNew_A_s, if_neg c1, if_pos c2]⟩
    · refine lv_aload_n hx hb dX5_isNew_13 rfl (lv_at hl 2 rfl) ?_
      refine lv_iload_n hx hb dX5_isNew_14 rfl (lv_at hl 3 rfl) ?_
      refine lv_iload_n hx hb dX5_isNew_15 rfl (lv_at hl 0 rfl) ?_
      refine xr_V (q := (RX5, TX5, 14)) (ci := 9) (q0 := 0) (rest := []) (As := [.int ia, .int j]) ⟨hx, hb, hml, hown, hts⟩ (ct5_isOne l D m1 m2 m3 m4 m5 m6 m7 kI kJ xs ys held la lb lc th pm rm on cl un ze lm ia j oia (xr_in huA c1 (Int.le_of_lt (vp_in_iff.mp oia).2))) (cwV 2 hts gl_X5_174 rfl rfl rfl (by decide +kernel) ⟨Nat.le_of_ble_eq_true rfl, Nat.le_of_ble_eq_true rfl⟩) nN_mv hN hK hP [0, 1, 2, 3, 4, 5, 6] [0, 1] rfl rfl rfl rfl rfl hl.1 rfl (Nat.le_of_ble_eq_true rfl) dX5_isNew_16 ⟨Nat.le_of_ble_eq_true rfl, Nat.le_of_ble_eq_true rfl⟩ ?_
      refine lv_if_ne (tgt := 26) hx hb dX5_isNew_19 (by decide) (fun c4 => ?_) (fun c4 => ?_)
      · refine lv_iconst (v := 0) hx hb dX5_isNew_26 (by decide) ?_
        refine lv_istore_n (lv' := [(2, .int (0 : Int32)), (3, .int j), (0, .ref m1), (1, .int ia)]) hx hb dX5_isNew_27 rfl hl (by decide) rfl (fun ls hl => ?_)
        obtain ⟨z5, ez5⟩ : ∃ y : Int32, y = j + 1 := ⟨_, rfl⟩
        refine lv_iinc (v := z5) (lv' := [(3, .int z5), (2, .int (0 : Int32)), (0, .ref m1), (1, .int ia)]) hx hb dX5_isNew_28 hl (k := 1) rfl (by rw [ez5]; rfl) (by decide) rfl (fun ls hl => ?_)
        refine lv_goto (tgt := 4) hx hb dX5_isNew_31 (by decide) ?_
        have hl9 := hl
        subst ez5
        exact ihA (0 : Int32) (j + 1) _ (lv_sub hl9 [0, 1, 2, 3] rfl) ⟨xr_us huA c1, (Or.inl rfl), by rw [← hLA, fX5_isNew_A_s, if_neg c1, if_neg c2, if_neg c4]⟩
      · refine lv_iconst (v := 1) hx hb dX5_isNew_22 (by decide) ?_
        refine lv_goto (tgt := 27) hx hb dX5_isNew_23 (by decide) ?_
        refine lv_istore_n (lv' := [(2, .int (1 : Int32)), (3, .int j), (0, .ref m1), (1, .int ia)]) hx hb dX5_isNew_27 rfl hl (by decide) rfl (fun ls hl => ?_)
        obtain ⟨z6, ez6⟩ : ∃ y : Int32, y = j + 1 := ⟨_, rfl⟩
        refine lv_iinc (v := z6) (lv' := [(3, .int z6), (2, .int (1 : Int32)), (0, .ref m1), (1, .int ia)]) hx hb dX5_isNew_28 hl (k := 1) rfl (by rw [ez6]; rfl) (by decide) rfl (fun ls hl => ?_)
        refine lv_goto (tgt := 4) hx hb dX5_isNew_31 (by decide) ?_
        have hl9 := hl
        subst ez6
        exact ihA (1 : Int32) (j + 1) _ (lv_sub hl9 [0, 1, 2, 3] rfl) ⟨xr_us huA c1, (Or.inr rfl), by rw [← hLA, fX5_isNew_A_s, if_neg c1, if_neg c2, if_pos c4]⟩
def fX5_isThrough (la lb lc : Nat → Int64) (ia : Int32) (ib : Int32) (ic : Int32) : Int32 := if (lg_cmp (((la ic.toNatClampNeg) * (((lc ia.toNatClampNeg) * (lb ib.toNatClampNeg)) - ((lc ib.toNatClampNeg) * (lb ia.toNatClampNeg)))) + ((lb ic.toNatClampNeg) * (((la ia.toNatClampNeg) * (lc ib.toNatClampNeg)) - ((la ib.toNatClampNeg) * (lc ia.toNatClampNeg))))) ((lc ic.toNatClampNeg) * (fX5_both la lb ia ib))) = (0 : Int32) then ((1 : Int32)) else ((0 : Int32))
set_option maxHeartbeats 4000000 in
set_option maxRecDepth 100000 in
theorem ct5_isThrough (l : Launch) (D : va_G) (m1 m2 m3 m4 m5 m6 m7 : Nat) (kI kJ : ClassId) (xs ys held : Nat → Int32) (la lb lc : Nat → Int64) (th pm rm on cl un ze lm : Int32) (ia : Int32) (ib : Int32) (ic : Int32) (oia : vp_in ia 12) (oib : vp_in ib 12) (oic : vp_in ic 12) : Met l yX5_isThrough (Cond.code yX5_isThrough cX5_isThrough 8 (some .boolean) :: BY) ({ frames := 1, cells := 0, slots := 0, locals := 60 }) (xr_P nN D vwCl [(kI, .int), (kJ, .long)] (wMo m1 m2 m3 m4 m5 m6 m7 kI kJ xs ys held la lb lc th pm rm on cl un ze lm) [.ref m1, .int ia, .int ib, .int ic]) (xr_Q (.int (fX5_isThrough la lb lc ia ib ic))) 0 0 (fun _ => False) := by
  refine Met.ofW (cc := cX5_isThrough) (maxL := 8) (ret := (some .boolean)) (by decide) rfl ?_
  intro p e s m args below meth c s₁ B hml hv
  obtain ⟨rfl, hP, hK, hN⟩ := hv
  have hx := B.exec
  have hb := B.bytes
  have hr := B.returns
  have hts0 := atoms_spec (ws := Cond.code yX5_isThrough cX5_isThrough 8 (some .boolean) :: BY) B.pre
  have hts : ∀ w ∈ BY, w.before _ s = true := fun w h => hts0 w (List.mem_cons_of_mem _ h)
  have hown : s.vm.findClass RX5 = some m.cls := findClass_of_methodNamed B.named
  have hlocks := B.notSynchronized
  have hl := lv_entry ([.ref m1, .int ia, .int ib, .int ic]) (n := 8) (Nat.le_of_ble_eq_true rfl)
  rw [lg_entry_eq]
  generalize (lg_sl ([.ref m1, .int ia, .int ib, .int ic]) ++ List.replicate (8 - (lg_sl ([.ref m1, .int ia, .int ib, .int ic])).length) Slot.unset).toArray = ls at hl ⊢
  have hl : lv_has ls 8 [(0, .ref m1), (1, .int ia), (2, .int ib), (3, .int ic)] := hl
  refine lv_aload_n hx hb dX5_isThrough_0 rfl (lv_at hl 0 rfl) ?_
  refine va_get (D := D) (ci := 9) (v := .ref m7) (C := RX5) (T := TX5) (N := 14) hx hb hts hinX5 hown hK hP 0 rfl rfl 13 (by decide) (hts _ fk_X5_34) (fun _ h9 => h9) rfl dX5_isThrough_1 ?_
  refine lv_iload_n hx hb dX5_isThrough_4 rfl (lv_at hl 1 rfl) ?_
  refine va_lald hx hb hK hP 6 1 rfl rfl oia dX5_isThrough_5 ?_
  refine lv_aload_n hx hb dX5_isThrough_6 rfl (lv_at hl 0 rfl) ?_
  refine va_get (D := D) (ci := 9) (v := .ref m6) (C := RX5) (T := TX5) (N := 14) hx hb hts hinX5 hown hK hP 0 rfl rfl 12 (by decide) (hts _ fk_X5_31) (fun _ h9 => h9) rfl dX5_isThrough_7 ?_
  refine lv_iload_n hx hb dX5_isThrough_10 rfl (lv_at hl 2 rfl) ?_
  refine va_lald hx hb hK hP 5 1 rfl rfl oib dX5_isThrough_11 ?_
  refine lv_lmul hx hb dX5_isThrough_12 ?_
  refine lv_aload_n hx hb dX5_isThrough_13 rfl (lv_at hl 0 rfl) ?_
  refine va_get (D := D) (ci := 9) (v := .ref m7) (C := RX5) (T := TX5) (N := 14) hx hb hts hinX5 hown hK hP 0 rfl rfl 13 (by decide) (hts _ fk_X5_34) (fun _ h9 => h9) rfl dX5_isThrough_14 ?_
  refine lv_iload_n hx hb dX5_isThrough_17 rfl (lv_at hl 2 rfl) ?_
  refine va_lald hx hb hK hP 6 1 rfl rfl oib dX5_isThrough_18 ?_
  refine lv_aload_n hx hb dX5_isThrough_19 rfl (lv_at hl 0 rfl) ?_
  refine va_get (D := D) (ci := 9) (v := .ref m6) (C := RX5) (T := TX5) (N := 14) hx hb hts hinX5 hown hK hP 0 rfl rfl 12 (by decide) (hts _ fk_X5_31) (fun _ h9 => h9) rfl dX5_isThrough_20 ?_
  refine lv_iload_n hx hb dX5_isThrough_23 rfl (lv_at hl 1 rfl) ?_
  refine va_lald hx hb hK hP 5 1 rfl rfl oia dX5_isThrough_24 ?_
  refine lv_lmul hx hb dX5_isThrough_25 ?_
  refine lv_lsub hx hb dX5_isThrough_26 ?_
  refine lv_topl (fun z1 ez1 => ?_)
  refine lv_lstore (lv' := [(4, .long z1), (0, .ref m1), (1, .int ia), (2, .int ib), (3, .int ic)]) hx hb dX5_isThrough_27 hl (by decide) rfl (fun ls hl => ?_)
  refine lv_aload_n hx hb dX5_isThrough_29 rfl (lv_at hl 1 rfl) ?_
  refine va_get (D := D) (ci := 9) (v := .ref m5) (C := RX5) (T := TX5) (N := 14) hx hb hts hinX5 hown hK hP 0 rfl rfl 11 (by decide) (hts _ fk_X5_27) (fun _ h9 => h9) rfl dX5_isThrough_30 ?_
  refine lv_iload_n hx hb dX5_isThrough_33 rfl (lv_at hl 2 rfl) ?_
  refine va_lald hx hb hK hP 4 1 rfl rfl oia dX5_isThrough_34 ?_
  refine lv_aload_n hx hb dX5_isThrough_35 rfl (lv_at hl 1 rfl) ?_
  refine va_get (D := D) (ci := 9) (v := .ref m7) (C := RX5) (T := TX5) (N := 14) hx hb hts hinX5 hown hK hP 0 rfl rfl 13 (by decide) (hts _ fk_X5_34) (fun _ h9 => h9) rfl dX5_isThrough_36 ?_
  refine lv_iload_n hx hb dX5_isThrough_39 rfl (lv_at hl 3 rfl) ?_
  refine va_lald hx hb hK hP 6 1 rfl rfl oib dX5_isThrough_40 ?_
  refine lv_lmul hx hb dX5_isThrough_41 ?_
  refine lv_aload_n hx hb dX5_isThrough_42 rfl (lv_at hl 1 rfl) ?_
  refine va_get (D := D) (ci := 9) (v := .ref m5) (C := RX5) (T := TX5) (N := 14) hx hb hts hinX5 hown hK hP 0 rfl rfl 11 (by decide) (hts _ fk_X5_27) (fun _ h9 => h9) rfl dX5_isThrough_43 ?_
  refine lv_iload_n hx hb dX5_isThrough_46 rfl (lv_at hl 3 rfl) ?_
  refine va_lald hx hb hK hP 4 1 rfl rfl oib dX5_isThrough_47 ?_
  refine lv_aload_n hx hb dX5_isThrough_48 rfl (lv_at hl 1 rfl) ?_
  refine va_get (D := D) (ci := 9) (v := .ref m7) (C := RX5) (T := TX5) (N := 14) hx hb hts hinX5 hown hK hP 0 rfl rfl 13 (by decide) (hts _ fk_X5_34) (fun _ h9 => h9) rfl dX5_isThrough_49 ?_
  refine lv_iload_n hx hb dX5_isThrough_52 rfl (lv_at hl 2 rfl) ?_
  refine va_lald hx hb hK hP 6 1 rfl rfl oia dX5_isThrough_53 ?_
  refine lv_lmul hx hb dX5_isThrough_54 ?_
  refine lv_lsub hx hb dX5_isThrough_55 ?_
  refine lv_topl (fun z2 ez2 => ?_)
  refine lv_lstore (lv' := [(6, .long z2), (4, .long z1), (0, .ref m1), (1, .int ia), (2, .int ib), (3, .int ic)]) hx hb dX5_isThrough_56 hl (by decide) rfl (fun ls hl => ?_)
  refine lv_aload_n hx hb dX5_isThrough_58 rfl (lv_at hl 2 rfl) ?_
  refine va_get (D := D) (ci := 9) (v := .ref m5) (C := RX5) (T := TX5) (N := 14) hx hb hts hinX5 hown hK hP 0 rfl rfl 11 (by decide) (hts _ fk_X5_27) (fun _ h9 => h9) rfl dX5_isThrough_59 ?_
  refine lv_iload_n hx hb dX5_isThrough_62 rfl (lv_at hl 5 rfl) ?_
  refine va_lald hx hb hK hP 4 1 rfl rfl oic dX5_isThrough_63 ?_
  refine lv_lload hx hb dX5_isThrough_64 (lv_at hl 1 rfl) ?_
  refine lv_lmul hx hb dX5_isThrough_66 ?_
  refine lv_aload_n hx hb dX5_isThrough_67 rfl (lv_at hl 2 rfl) ?_
  refine va_get (D := D) (ci := 9) (v := .ref m6) (C := RX5) (T := TX5) (N := 14) hx hb hts hinX5 hown hK hP 0 rfl rfl 12 (by decide) (hts _ fk_X5_31) (fun _ h9 => h9) rfl dX5_isThrough_68 ?_
  refine lv_iload_n hx hb dX5_isThrough_71 rfl (lv_at hl 5 rfl) ?_
  refine va_lald hx hb hK hP 5 1 rfl rfl oic dX5_isThrough_72 ?_
  refine lv_lload hx hb dX5_isThrough_73 (lv_at hl 0 rfl) ?_
  refine lv_lmul hx hb dX5_isThrough_75 ?_
  refine lv_ladd hx hb dX5_isThrough_76 ?_
  refine lv_aload_n hx hb dX5_isThrough_77 rfl (lv_at hl 2 rfl) ?_
  refine va_get (D := D) (ci := 9) (v := .ref m7) (C := RX5) (T := TX5) (N := 14) hx hb hts hinX5 hown hK hP 0 rfl rfl 13 (by decide) (hts _ fk_X5_34) (fun _ h9 => h9) rfl dX5_isThrough_78 ?_
  refine lv_iload_n hx hb dX5_isThrough_81 rfl (lv_at hl 5 rfl) ?_
  refine va_lald hx hb hK hP 6 1 rfl rfl oic dX5_isThrough_82 ?_
  refine lv_aload_n hx hb dX5_isThrough_83 rfl (lv_at hl 2 rfl) ?_
  refine lv_iload_n hx hb dX5_isThrough_84 rfl (lv_at hl 3 rfl) ?_
  refine lv_iload_n hx hb dX5_isThrough_85 rfl (lv_at hl 4 rfl) ?_
  refine xr_V (q := (RX5, TX5, 14)) (ci := 9) (q0 := 0) (rest := [.long (lc ic.toNatClampNeg), .long (((la ic.toNatClampNeg) * z1) + ((lb ic.toNatClampNeg) * z2))]) (As := [.int ia, .int ib]) ⟨hx, hb, hml, hown, hts⟩ (ct5_both l D m1 m2 m3 m4 m5 m6 m7 kI kJ xs ys held la lb lc th pm rm on cl un ze lm ia ib oia oib) (cwV 2 hts gl_X5_171 rfl rfl rfl (by decide +kernel) ⟨Nat.le_of_ble_eq_true rfl, Nat.le_of_ble_eq_true rfl⟩) nN_mv hN hK hP [0, 1, 2, 3, 4, 5, 6] [0, 1] rfl rfl rfl rfl rfl hl.1 rfl (Nat.le_of_ble_eq_true rfl) dX5_isThrough_86 ⟨Nat.le_of_ble_eq_true rfl, Nat.le_of_ble_eq_true rfl⟩ ?_
  refine lv_lmul hx hb dX5_isThrough_89 ?_
  refine W.lcmp hx hb dX5_isThrough_90 ?_
  refine lv_if_ne (tgt := 98) hx hb dX5_isThrough_91 (by decide) (fun c3 => ?_) (fun c3 => ?_)
  · refine lv_iconst (v := 0) hx hb dX5_isThrough_98 (by decide) ?_
    subst ez2 ez1
    exact W.zret (v := (0 : Int32)) hx hb hr rfl (fun t ht hW => ⟨by rw [show fX5_isThrough la lb lc ia ib ic = (0 : Int32) by unfold fX5_isThrough; rw [if_neg c3]], ht⟩) (fun _ h => absurd h List.not_mem_nil) dX5_isThrough_99
  · refine lv_iconst (v := 1) hx hb dX5_isThrough_94 (by decide) ?_
    refine lv_goto (tgt := 99) hx hb dX5_isThrough_95 (by decide) ?_
    subst ez2 ez1
    exact W.zret (v := (1 : Int32)) hx hb hr rfl (fun t ht hW => ⟨by rw [show fX5_isThrough la lb lc ia ib ic = (1 : Int32) by unfold fX5_isThrough; rw [if_pos c3]], ht⟩) (fun _ h => absurd h List.not_mem_nil) dX5_isThrough_99
