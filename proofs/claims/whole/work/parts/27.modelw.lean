/-! The reference: its public methods. -/
theorem o_pt {pm a : Int32} (h : ¬ fX5_isPoint pm a = 0) (hp : pm.toInt ≤ (60 : Nat)) : vp_in a 60 := o_has (pm := pm) (a := a) h hp
theorem o_pl {rm a : Int32} (h : ¬ fX5_isPlace rm a = 0) (hp : rm.toInt ≤ (24 : Nat)) : vp_in a 24 := by
  unfold fX5_isPlace at h
  split at h
  · exact absurd rfl h
  · rename_i h1
    split at h
    · exact absurd rfl h
    · rename_i h2
      rw [Int32.lt_iff_toInt_lt, show (0 : Int32).toInt = 0 from rfl] at h1
      rw [Int32.le_iff_toInt_le] at h2
      rw [vp_in_iff]; omega
theorem o_mn {rm n le : Int32} (h : ¬ fX5_isMany rm n le = 0) (hp : rm.toInt ≤ (24 : Nat)) : le.toInt ≤ n.toInt ∧ n.toInt ≤ (24 : Nat) := by
  unfold fX5_isMany at h
  split at h
  · exact absurd rfl h
  · rename_i h1
    split at h
    · exact absurd rfl h
    · rename_i h2
      rw [Int32.lt_iff_toInt_lt] at h1 h2
      omega
theorem o_whA {held : Nat → Int32} {n : Int32} (k : Nat) : ∀ is i : Int32, xr_u n i k → ¬ fX5_isWhole_A held n k is i = 0 → ¬ is = 0 ∧ ∀ j : Nat, i.toInt ≤ (j : Int) → (j : Int) < n.toInt → ¬ held j = -1 := by
  induction k with
  | zero => exact fun _ i h => absurd h xr_u0
  | succ k ih =>
    intro is i h e
    rw [fX5_isWhole_A_s] at e
    split at e
    · rename_i h3
      rw [Int32.le_iff_toInt_le] at h3
      exact ⟨e, fun j h1 h2 => by omega⟩
    · rename_i h3
      split at e
      · exact absurd rfl (ih _ _ (xr_us h h3) e).1
      · rename_i h5
        split at e
        · exact absurd rfl (ih _ _ (xr_us h h3) e).1
        · rename_i h4
          refine ⟨h5, fun j h1 h2 => ?_⟩
          by_cases h6 : i.toInt = (j : Int)
          · have : i.toNatClampNeg = j := by have := xr_cl0 h.1; omega
            rw [this] at h4; exact h4
          · exact (ih _ _ (xr_us h h3) e).2 j (by rw [xr_s1 h3]; omega) h2
theorem o_wh {held : Nat → Int32} {n : Int32} (h : ¬ fX5_isWhole held n = 0) (hh : hok held) : ∀ j : Nat, (j : Int) < n.toInt → vp_in (held j) 60 :=
  fun j hj => (hh j).resolve_left ((o_whA _ 1 0 (xr_ub n) h).2 j (by show (0 : Int) ≤ _; omega) hj)
theorem o_pme {pm : Int32} (h : pm.toInt ≤ (60 : Nat)) (h0 : 0 ≤ pm.toInt) (hc : ¬ pm = (60 : Int32)) : vp_in pm 60 := by
  have : ¬ pm.toInt = (60 : Int32).toInt := fun e => hc (Int32.toInt_inj.mp e)
  rw [show (60 : Int32).toInt = 60 from rfl] at this
  rw [vp_in_iff]; omega
theorem o_lm {lm : Int32} (h : lm.toInt ≤ (12 : Nat)) (h0 : 0 ≤ lm.toInt) (hc : ¬ lm = (12 : Int32)) : vp_in lm 12 := by
  have : ¬ lm.toInt = (12 : Int32).toInt := fun e => hc (Int32.toInt_inj.mp e)
  rw [show (12 : Int32).toInt = 12 from rfl] at this
  rw [vp_in_iff]; omega
theorem o_dk {v k : Int64} (h : lg_cmp v k = 0) (hk : ¬ k = 0) : ¬ v = 0 := by
  rw [lg_cmp_eq] at h; rw [h]; exact hk
theorem o_by {v : Int64} (h : ¬ lg_cmp v 0 = 0) : ¬ v = 0 := by
  rw [lg_cmp_eq] at h; exact h
theorem o_n0 {rm n le : Int32} (h : ¬ fX5_isMany rm n le = 0) (hp : rm.toInt ≤ (24 : Nat)) (hl : 0 < le.toInt := by decide) : ¬ n = 0 := by
  intro e
  have := (o_mn h hp).1
  rw [e, show (0 : Int32).toInt = 0 from rfl] at this
  omega
theorem o_nl {n lm : Int32} (h : lm.toInt ≤ (12 : Nat)) (h2 : ¬ lm < n) : n.toInt ≤ (12 : Nat) := by
  rw [Int32.lt_iff_toInt_lt] at h2; omega
theorem xr_ub1 {n i : Int32} {k : Nat} (h : xr_u n i k) (hc : ¬ n ≤ i) : xr_u n (i + 1) (n.toInt.toNat + 1) := by
  have h1 := h.1
  refine ⟨?_, ?_⟩ <;> rw [xr_s1 hc] <;> omega
def fX5_fail  (wh : Int32) : Int32 := (0 : Int32)
def gX5_fail_th  (wh : Int32) : Int32 := wh
set_option maxHeartbeats 4000000 in
set_option maxRecDepth 100000 in
theorem ct5_fail (l : Launch) (D : va_G) (sz : Nat) (m1 m2 m3 m4 m5 m6 m7 : Nat) (kI kJ : ClassId) (xs ys held : Nat → Int32) (la lb lc : Nat → Int64) (th pm rm on cl un ze lm : Int32) (wh : Int32) : Met l yX5_fail (Cond.code yX5_fail cX5_fail 2 (some .int) :: BY) ({ frames := 0, cells := 0, slots := 0, locals := 0 }) (xw_P nN D vwCl [(kI, .int), (kJ, .long)] (wMo m1 m2 m3 m4 m5 m6 m7 kI kJ xs ys held la lb lc th pm rm on cl un ze lm) sz [.ref m1, .int wh]) (xw_Q D vwCl (some (.int (fX5_fail wh))) (wMo m1 m2 m3 m4 m5 m6 m7 kI kJ xs ys held la lb lc th pm rm on cl un ze lm) (wMo m1 m2 m3 m4 m5 m6 m7 kI kJ xs ys held la lb lc (gX5_fail_th wh) pm rm on cl un ze lm) sz) 0 0 (va_A (wMo m1 m2 m3 m4 m5 m6 m7 kI kJ xs ys held la lb lc th pm rm on cl un ze lm) sz) := by
  refine Met.ofW (cc := cX5_fail) (maxL := 2) (ret := (some .int)) (by decide) rfl ?_
  intro p e s m args below meth c s₁ B hml hv
  obtain ⟨rfl, hsz, hP, hK, hN, hD0⟩ := hv
  have hx := B.exec
  have hb := B.bytes
  have hr := B.returns
  have hts0 := atoms_spec (ws := Cond.code yX5_fail cX5_fail 2 (some .int) :: BY) B.pre
  have hts : ∀ w ∈ BY, w.before _ s = true := fun w h => hts0 w (List.mem_cons_of_mem _ h)
  have hown : s.vm.findClass RX5 = some m.cls := findClass_of_methodNamed B.named
  have hlocks := B.notSynchronized
  subst hsz
  have hD := hD0.self (sz := s.heap.size)
  generalize hAe : va_A (wMo m1 m2 m3 m4 m5 m6 m7 kI kJ xs ys held la lb lc th pm rm on cl un ze lm) s.heap.size = A at hD ⊢
  have hA : ∀ q : Nat, s.heap.size ≤ q → A q := fun q h => by rw [← hAe]; exact Or.inr h
  have hS : va_S A s.heap s.heap [] := va_S.rf
  have hP : va_P D vwCl [(m1, .inr (9, [.int th, .int pm, .ref m2, .ref m3, .int rm, .ref m4, .int on, .int cl, .int un, .int ze, .int lm, .ref m5, .ref m6, .ref m7])), (m2, .inl (kI, 60, .inl xs)), (m3, .inl (kI, 60, .inl ys)), (m4, .inl (kI, 24, .inl held)), (m5, .inl (kJ, 12, .inr (.inl la))), (m6, .inl (kJ, 12, .inr (.inl lb))), (m7, .inl (kJ, 12, .inr (.inl lc)))] s.heap := hP
  have hD : va_D A [(m1, .inr (9, [.int th, .int pm, .ref m2, .ref m3, .int rm, .ref m4, .int on, .int cl, .int un, .int ze, .int lm, .ref m5, .ref m6, .ref m7])), (m2, .inl (kI, 60, .inl xs)), (m3, .inl (kI, 60, .inl ys)), (m4, .inl (kI, 24, .inl held)), (m5, .inl (kJ, 12, .inr (.inl la))), (m6, .inl (kJ, 12, .inr (.inl lb))), (m7, .inl (kJ, 12, .inr (.inl lc)))] := hD
  have hl := lv_entry ([.ref m1, .int wh]) (n := 2) (Nat.le_of_ble_eq_true rfl)
  rw [lg_entry_eq]
  generalize (lg_sl ([.ref m1, .int wh]) ++ List.replicate (2 - (lg_sl ([.ref m1, .int wh])).length) Slot.unset).toArray = ls at hl ⊢
  have hl : lv_has ls 2 [(0, .ref m1), (1, .int wh)] := hl
  refine lv_aload_n hx hb dX5_fail_0 rfl (lv_at hl 0 rfl) ?_
  refine lv_iload_n hx hb dX5_fail_1 rfl (lv_at hl 1 rfl) ?_
  refine va_put (D := D) (ci := 9) (v := .int wh) (ty := .int) (C := RX5) (T := TX5) (N := 14) hx hb hts hinX5 tyX5 tyX5_ok nmX5 hown hK hP hD hS 0 rfl rfl 0 (by decide) (hts _ fk_X5_1) (fun _ h9 => h9) rfl (by decide +kernel) rfl rfl (Nat.le_of_ble_eq_true rfl) dX5_fail_2 (fun H locs hP hD hS => ?_)
  have hP : va_P D vwCl [(m1, .inr (9, [.int wh, .int pm, .ref m2, .ref m3, .int rm, .ref m4, .int on, .int cl, .int un, .int ze, .int lm, .ref m5, .ref m6, .ref m7])), (m2, .inl (kI, 60, .inl xs)), (m3, .inl (kI, 60, .inl ys)), (m4, .inl (kI, 24, .inl held)), (m5, .inl (kJ, 12, .inr (.inl la))), (m6, .inl (kJ, 12, .inr (.inl lb))), (m7, .inl (kJ, 12, .inr (.inl lc)))] H := hP
  have hD : va_D A [(m1, .inr (9, [.int wh, .int pm, .ref m2, .ref m3, .int rm, .ref m4, .int on, .int cl, .int un, .int ze, .int lm, .ref m5, .ref m6, .ref m7])), (m2, .inl (kI, 60, .inl xs)), (m3, .inl (kI, 60, .inl ys)), (m4, .inl (kI, 24, .inl held)), (m5, .inl (kJ, 12, .inr (.inl la))), (m6, .inl (kJ, 12, .inr (.inl lb))), (m7, .inl (kJ, 12, .inr (.inl lc)))] := hD
  refine lv_iconst (v := 0) hx hb dX5_fail_5 (by decide) ?_
  have hP9 := hP
  have hD9 := hD
  have hS9 := hS
  have qv : fX5_fail wh = (0 : Int32) := by unfold fX5_fail; rfl
  have q_th : gX5_fail_th wh = wh := by unfold gX5_fail_th; rfl
  rw [qv, q_th]
  exact W.iret (v := (0 : Int32)) hx hb hr (fun t ht hW => ⟨⟨rfl, by rw [ht]; exact hP9, by rw [hAe]; exact hD9⟩, by rw [hAe]; exact hS9.F ht⟩) hS9.2.2 dX5_fail_6
def fX5_counted (on cl un ze : Int32) (bc : Int32) (sg_ : Int32) : Int32 := if on = (0 : Int32) then (if sg_ = (0 : Int32) then (sg_) else (sg_)) else (if bc = (0 : Int32) then (if sg_ = (0 : Int32) then (sg_) else (sg_)) else (if sg_ = (0 : Int32) then (sg_) else (sg_)))
def gX5_counted_cl (on cl un ze : Int32) (bc : Int32) (sg_ : Int32) : Int32 := if on = (0 : Int32) then (if sg_ = (0 : Int32) then (cl + (0 : Int32)) else (cl + (0 : Int32))) else (if bc = (0 : Int32) then (if sg_ = (0 : Int32) then (cl + (0 : Int32)) else (cl + (0 : Int32))) else (if sg_ = (0 : Int32) then (cl + (1 : Int32)) else (cl + (1 : Int32))))
def gX5_counted_un (on cl un ze : Int32) (bc : Int32) (sg_ : Int32) : Int32 := if on = (0 : Int32) then (if sg_ = (0 : Int32) then (un + (1 : Int32)) else (un + (1 : Int32))) else (if bc = (0 : Int32) then (if sg_ = (0 : Int32) then (un + (1 : Int32)) else (un + (1 : Int32))) else (if sg_ = (0 : Int32) then (un + (0 : Int32)) else (un + (0 : Int32))))
def gX5_counted_ze (on cl un ze : Int32) (bc : Int32) (sg_ : Int32) : Int32 := if on = (0 : Int32) then (if sg_ = (0 : Int32) then (ze + (1 : Int32)) else (ze + (0 : Int32))) else (if bc = (0 : Int32) then (if sg_ = (0 : Int32) then (ze + (1 : Int32)) else (ze + (0 : Int32))) else (if sg_ = (0 : Int32) then (ze + (1 : Int32)) else (ze + (0 : Int32))))
set_option maxHeartbeats 4000000 in
set_option maxRecDepth 100000 in
theorem ct5_counted (l : Launch) (D : va_G) (sz : Nat) (m1 m2 m3 m4 m5 m6 m7 : Nat) (kI kJ : ClassId) (xs ys held : Nat → Int32) (la lb lc : Nat → Int64) (th pm rm on cl un ze lm : Int32) (bc : Int32) (sg_ : Int32) : Met l yX5_counted (Cond.code yX5_counted cX5_counted 3 (some .int) :: BY) ({ frames := 0, cells := 0, slots := 0, locals := 0 }) (xw_P nN D vwCl [(kI, .int), (kJ, .long)] (wMo m1 m2 m3 m4 m5 m6 m7 kI kJ xs ys held la lb lc th pm rm on cl un ze lm) sz [.ref m1, .int bc, .int sg_]) (xw_Q D vwCl (some (.int (fX5_counted on cl un ze bc sg_))) (wMo m1 m2 m3 m4 m5 m6 m7 kI kJ xs ys held la lb lc th pm rm on cl un ze lm) (wMo m1 m2 m3 m4 m5 m6 m7 kI kJ xs ys held la lb lc th pm rm on (gX5_counted_cl on cl un ze bc sg_) (gX5_counted_un on cl un ze bc sg_) (gX5_counted_ze on cl un ze bc sg_) lm) sz) 0 0 (va_A (wMo m1 m2 m3 m4 m5 m6 m7 kI kJ xs ys held la lb lc th pm rm on cl un ze lm) sz) := by
  refine Met.ofW (cc := cX5_counted) (maxL := 3) (ret := (some .int)) (by decide) rfl ?_
  intro p e s m args below meth c s₁ B hml hv
  obtain ⟨rfl, hsz, hP, hK, hN, hD0⟩ := hv
  have hx := B.exec
  have hb := B.bytes
  have hr := B.returns
  have hts0 := atoms_spec (ws := Cond.code yX5_counted cX5_counted 3 (some .int) :: BY) B.pre
  have hts : ∀ w ∈ BY, w.before _ s = true := fun w h => hts0 w (List.mem_cons_of_mem _ h)
  have hown : s.vm.findClass RX5 = some m.cls := findClass_of_methodNamed B.named
  have hlocks := B.notSynchronized
  subst hsz
  have hD := hD0.self (sz := s.heap.size)
  generalize hAe : va_A (wMo m1 m2 m3 m4 m5 m6 m7 kI kJ xs ys held la lb lc th pm rm on cl un ze lm) s.heap.size = A at hD ⊢
  have hA : ∀ q : Nat, s.heap.size ≤ q → A q := fun q h => by rw [← hAe]; exact Or.inr h
  have hS : va_S A s.heap s.heap [] := va_S.rf
  have hP : va_P D vwCl [(m1, .inr (9, [.int th, .int pm, .ref m2, .ref m3, .int rm, .ref m4, .int on, .int cl, .int un, .int ze, .int lm, .ref m5, .ref m6, .ref m7])), (m2, .inl (kI, 60, .inl xs)), (m3, .inl (kI, 60, .inl ys)), (m4, .inl (kI, 24, .inl held)), (m5, .inl (kJ, 12, .inr (.inl la))), (m6, .inl (kJ, 12, .inr (.inl lb))), (m7, .inl (kJ, 12, .inr (.inl lc)))] s.heap := hP
  have hD : va_D A [(m1, .inr (9, [.int th, .int pm, .ref m2, .ref m3, .int rm, .ref m4, .int on, .int cl, .int un, .int ze, .int lm, .ref m5, .ref m6, .ref m7])), (m2, .inl (kI, 60, .inl xs)), (m3, .inl (kI, 60, .inl ys)), (m4, .inl (kI, 24, .inl held)), (m5, .inl (kJ, 12, .inr (.inl la))), (m6, .inl (kJ, 12, .inr (.inl lb))), (m7, .inl (kJ, 12, .inr (.inl lc)))] := hD
  have hl := lv_entry ([.ref m1, .int bc, .int sg_]) (n := 3) (Nat.le_of_ble_eq_true rfl)
  rw [lg_entry_eq]
  generalize (lg_sl ([.ref m1, .int bc, .int sg_]) ++ List.replicate (3 - (lg_sl ([.ref m1, .int bc, .int sg_])).length) Slot.unset).toArray = ls at hl ⊢
  have hl : lv_has ls 3 [(0, .ref m1), (1, .int bc), (2, .int sg_)] := hl
  refine lv_aload_n hx hb dX5_counted_0 rfl (lv_at hl 0 rfl) ?_
  refine lv_dup hx hb dX5_counted_1 rfl ?_
  refine va_get (D := D) (ci := 9) (v := .int cl) (C := RX5) (T := TX5) (N := 14) hx hb hts hinX5 hown hK hP 0 rfl rfl 7 (by decide) (hts _ fk_X5_98) (fun _ h9 => h9) rfl dX5_counted_2 ?_
  refine lv_aload_n hx hb dX5_counted_5 rfl (lv_at hl 0 rfl) ?_
  refine va_get (D := D) (ci := 9) (v := .int on) (C := RX5) (T := TX5) (N := 14) hx hb hts hinX5 hown hK hP 0 rfl rfl 6 (by decide) (hts _ fk_X5_23) (fun _ h9 => h9) rfl dX5_counted_6 ?_
  refine lv_if_eq (tgt := 20) hx hb dX5_counted_9 (by decide) (fun c1 => ?_) (fun c1 => ?_)
  · refine lv_iconst (v := 0) hx hb dX5_counted_20 (by decide) ?_
    refine lv_iadd hx hb dX5_counted_21 ?_
    refine va_put (D := D) (ci := 9) (v := .int (cl + (0 : Int32))) (ty := .int) (C := RX5) (T := TX5) (N := 14) hx hb hts hinX5 tyX5 tyX5_ok nmX5 hown hK hP hD hS 0 rfl rfl 7 (by decide) (hts _ fk_X5_98) (fun _ h9 => h9) rfl (by decide +kernel) rfl rfl (Nat.le_of_ble_eq_true rfl) dX5_counted_22 (fun H locs hP hD hS => ?_)
    have hP : va_P D vwCl [(m1, .inr (9, [.int th, .int pm, .ref m2, .ref m3, .int rm, .ref m4, .int on, .int (cl + (0 : Int32)), .int un, .int ze, .int lm, .ref m5, .ref m6, .ref m7])), (m2, .inl (kI, 60, .inl xs)), (m3, .inl (kI, 60, .inl ys)), (m4, .inl (kI, 24, .inl held)), (m5, .inl (kJ, 12, .inr (.inl la))), (m6, .inl (kJ, 12, .inr (.inl lb))), (m7, .inl (kJ, 12, .inr (.inl lc)))] H := hP
    have hD : va_D A [(m1, .inr (9, [.int th, .int pm, .ref m2, .ref m3, .int rm, .ref m4, .int on, .int (cl + (0 : Int32)), .int un, .int ze, .int lm, .ref m5, .ref m6, .ref m7])), (m2, .inl (kI, 60, .inl xs)), (m3, .inl (kI, 60, .inl ys)), (m4, .inl (kI, 24, .inl held)), (m5, .inl (kJ, 12, .inr (.inl la))), (m6, .inl (kJ, 12, .inr (.inl lb))), (m7, .inl (kJ, 12, .inr (.inl lc)))] := hD
    refine lv_aload_n hx hb dX5_counted_25 rfl (lv_at hl 0 rfl) ?_
    refine lv_dup hx hb dX5_counted_26 rfl ?_
    refine va_get (D := D) (ci := 9) (v := .int un) (C := RX5) (T := TX5) (N := 14) hx hb hts hinX5 hown hK hP 0 rfl rfl 8 (by decide) (hts _ fk_X5_101) (fun _ h9 => h9) rfl dX5_counted_27 ?_
    refine lv_aload_n hx hb dX5_counted_30 rfl (lv_at hl 0 rfl) ?_
    refine va_get (D := D) (ci := 9) (v := .int on) (C := RX5) (T := TX5) (N := 14) hx hb hts hinX5 hown hK hP 0 rfl rfl 6 (by decide) (hts _ fk_X5_23) (fun _ h9 => h9) rfl dX5_counted_31 ?_
    refine lv_if_eq (tgt := 45) hx hb dX5_counted_34 (by decide) (fun c2 => ?_) (fun c2 => ?_)
    · refine lv_iconst (v := 1) hx hb dX5_counted_45 (by decide) ?_
      refine lv_iadd hx hb dX5_counted_46 ?_
      refine va_put (D := D) (ci := 9) (v := .int (un + (1 : Int32))) (ty := .int) (C := RX5) (T := TX5) (N := 14) hx hb hts hinX5 tyX5 tyX5_ok nmX5 hown hK hP hD hS 0 rfl rfl 8 (by decide) (hts _ fk_X5_101) (fun _ h9 => h9) rfl (by decide +kernel) rfl rfl (Nat.le_of_ble_eq_true rfl) dX5_counted_47 (fun H locs hP hD hS => ?_)
      have hP : va_P D vwCl [(m1, .inr (9, [.int th, .int pm, .ref m2, .ref m3, .int rm, .ref m4, .int on, .int (cl + (0 : Int32)), .int (un + (1 : Int32)), .int ze, .int lm, .ref m5, .ref m6, .ref m7])), (m2, .inl (kI, 60, .inl xs)), (m3, .inl (kI, 60, .inl ys)), (m4, .inl (kI, 24, .inl held)), (m5, .inl (kJ, 12, .inr (.inl la))), (m6, .inl (kJ, 12, .inr (.inl lb))), (m7, .inl (kJ, 12, .inr (.inl lc)))] H := hP
      have hD : va_D A [(m1, .inr (9, [.int th, .int pm, .ref m2, .ref m3, .int rm, .ref m4, .int on, .int (cl + (0 : Int32)), .int (un + (1 : Int32)), .int ze, .int lm, .ref m5, .ref m6, .ref m7])), (m2, .inl (kI, 60, .inl xs)), (m3, .inl (kI, 60, .inl ys)), (m4, .inl (kI, 24, .inl held)), (m5, .inl (kJ, 12, .inr (.inl la))), (m6, .inl (kJ, 12, .inr (.inl lb))), (m7, .inl (kJ, 12, .inr (.inl lc)))] := hD
      refine lv_aload_n hx hb dX5_counted_50 rfl (lv_at hl 0 rfl) ?_
      refine lv_dup hx hb dX5_counted_51 rfl ?_
      refine va_get (D := D) (ci := 9) (v := .int ze) (C := RX5) (T := TX5) (N := 14) hx hb hts hinX5 hown hK hP 0 rfl rfl 9 (by decide) (hts _ fk_X5_104) (fun _ h9 => h9) rfl dX5_counted_52 ?_
      refine lv_iload_n hx hb dX5_counted_55 rfl (lv_at hl 2 rfl) ?_
      refine lv_if_ne (tgt := 63) hx hb dX5_counted_56 (by decide) (fun c3 => ?_) (fun c3 => ?_)
      · refine lv_iconst (v := 0) hx hb dX5_counted_63 (by decide) ?_
        refine lv_iadd hx hb dX5_counted_64 ?_
        refine va_put (D := D) (ci := 9) (v := .int (ze + (0 : Int32))) (ty := .int) (C := RX5) (T := TX5) (N := 14) hx hb hts hinX5 tyX5 tyX5_ok nmX5 hown hK hP hD hS 0 rfl rfl 9 (by decide) (hts _ fk_X5_104) (fun _ h9 => h9) rfl (by decide +kernel) rfl rfl (Nat.le_of_ble_eq_true rfl) dX5_counted_65 (fun H locs hP hD hS => ?_)
        have hP : va_P D vwCl [(m1, .inr (9, [.int th, .int pm, .ref m2, .ref m3, .int rm, .ref m4, .int on, .int (cl + (0 : Int32)), .int (un + (1 : Int32)), .int (ze + (0 : Int32)), .int lm, .ref m5, .ref m6, .ref m7])), (m2, .inl (kI, 60, .inl xs)), (m3, .inl (kI, 60, .inl ys)), (m4, .inl (kI, 24, .inl held)), (m5, .inl (kJ, 12, .inr (.inl la))), (m6, .inl (kJ, 12, .inr (.inl lb))), (m7, .inl (kJ, 12, .inr (.inl lc)))] H := hP
        have hD : va_D A [(m1, .inr (9, [.int th, .int pm, .ref m2, .ref m3, .int rm, .ref m4, .int on, .int (cl + (0 : Int32)), .int (un + (1 : Int32)), .int (ze + (0 : Int32)), .int lm, .ref m5, .ref m6, .ref m7])), (m2, .inl (kI, 60, .inl xs)), (m3, .inl (kI, 60, .inl ys)), (m4, .inl (kI, 24, .inl held)), (m5, .inl (kJ, 12, .inr (.inl la))), (m6, .inl (kJ, 12, .inr (.inl lb))), (m7, .inl (kJ, 12, .inr (.inl lc)))] := hD
        refine lv_iload_n hx hb dX5_counted_68 rfl (lv_at hl 2 rfl) ?_
        have hP9 := hP
        have hD9 := hD
        have hS9 := hS
        have qv : fX5_counted on cl un ze bc sg_ = sg_ := by unfold fX5_counted; rw [if_pos c1, if_neg c3]
        have q_cl : gX5_counted_cl on cl un ze bc sg_ = cl + (0 : Int32) := by unfold gX5_counted_cl; rw [if_pos c1, if_neg c3]
        have q_un : gX5_counted_un on cl un ze bc sg_ = un + (1 : Int32) := by unfold gX5_counted_un; rw [if_pos c1, if_neg c3]
        have q_ze : gX5_counted_ze on cl un ze bc sg_ = ze + (0 : Int32) := by unfold gX5_counted_ze; rw [if_pos c1, if_neg c3]
        rw [qv, q_cl, q_un, q_ze]
        exact W.iret (v := sg_) hx hb hr (fun t ht hW => ⟨⟨rfl, by rw [ht]; exact hP9, by rw [hAe]; exact hD9⟩, by rw [hAe]; exact hS9.F ht⟩) hS9.2.2 dX5_counted_69
      · refine lv_iconst (v := 1) hx hb dX5_counted_59 (by decide) ?_
        refine lv_goto (tgt := 64) hx hb dX5_counted_60 (by decide) ?_
        refine lv_iadd hx hb dX5_counted_64 ?_
        refine va_put (D := D) (ci := 9) (v := .int (ze + (1 : Int32))) (ty := .int) (C := RX5) (T := TX5) (N := 14) hx hb hts hinX5 tyX5 tyX5_ok nmX5 hown hK hP hD hS 0 rfl rfl 9 (by decide) (hts _ fk_X5_104) (fun _ h9 => h9) rfl (by decide +kernel) rfl rfl (Nat.le_of_ble_eq_true rfl) dX5_counted_65 (fun H locs hP hD hS => ?_)
        have hP : va_P D vwCl [(m1, .inr (9, [.int th, .int pm, .ref m2, .ref m3, .int rm, .ref m4, .int on, .int (cl + (0 : Int32)), .int (un + (1 : Int32)), .int (ze + (1 : Int32)), .int lm, .ref m5, .ref m6, .ref m7])), (m2, .inl (kI, 60, .inl xs)), (m3, .inl (kI, 60, .inl ys)), (m4, .inl (kI, 24, .inl held)), (m5, .inl (kJ, 12, .inr (.inl la))), (m6, .inl (kJ, 12, .inr (.inl lb))), (m7, .inl (kJ, 12, .inr (.inl lc)))] H := hP
        have hD : va_D A [(m1, .inr (9, [.int th, .int pm, .ref m2, .ref m3, .int rm, .ref m4, .int on, .int (cl + (0 : Int32)), .int (un + (1 : Int32)), .int (ze + (1 : Int32)), .int lm, .ref m5, .ref m6, .ref m7])), (m2, .inl (kI, 60, .inl xs)), (m3, .inl (kI, 60, .inl ys)), (m4, .inl (kI, 24, .inl held)), (m5, .inl (kJ, 12, .inr (.inl la))), (m6, .inl (kJ, 12, .inr (.inl lb))), (m7, .inl (kJ, 12, .inr (.inl lc)))] := hD
        refine lv_iload_n hx hb dX5_counted_68 rfl (lv_at hl 2 rfl) ?_
        have hP9 := hP
        have hD9 := hD
        have hS9 := hS
        have qv : fX5_counted on cl un ze bc sg_ = sg_ := by unfold fX5_counted; rw [if_pos c1, if_pos c3]
        have q_cl : gX5_counted_cl on cl un ze bc sg_ = cl + (0 : Int32) := by unfold gX5_counted_cl; rw [if_pos c1, if_pos c3]
        have q_un : gX5_counted_un on cl un ze bc sg_ = un + (1 : Int32) := by unfold gX5_counted_un; rw [if_pos c1, if_pos c3]
        have q_ze : gX5_counted_ze on cl un ze bc sg_ = ze + (1 : Int32) := by unfold gX5_counted_ze; rw [if_pos c1, if_pos c3]
        rw [qv, q_cl, q_un, q_ze]
        exact W.iret (v := sg_) hx hb hr (fun t ht hW => ⟨⟨rfl, by rw [ht]; exact hP9, by rw [hAe]; exact hD9⟩, by rw [hAe]; exact hS9.F ht⟩) hS9.2.2 dX5_counted_69
    · exact absurd c1 c2
  · refine lv_iload_n hx hb dX5_counted_12 rfl (lv_at hl 1 rfl) ?_
    refine lv_if_eq (tgt := 20) hx hb dX5_counted_13 (by decide) (fun c4 => ?_) (fun c4 => ?_)
    · refine lv_iconst (v := 0) hx hb dX5_counted_20 (by decide) ?_
      refine lv_iadd hx hb dX5_counted_21 ?_
      refine va_put (D := D) (ci := 9) (v := .int (cl + (0 : Int32))) (ty := .int) (C := RX5) (T := TX5) (N := 14) hx hb hts hinX5 tyX5 tyX5_ok nmX5 hown hK hP hD hS 0 rfl rfl 7 (by decide) (hts _ fk_X5_98) (fun _ h9 => h9) rfl (by decide +kernel) rfl rfl (Nat.le_of_ble_eq_true rfl) dX5_counted_22 (fun H locs hP hD hS => ?_)
      have hP : va_P D vwCl [(m1, .inr (9, [.int th, .int pm, .ref m2, .ref m3, .int rm, .ref m4, .int on, .int (cl + (0 : Int32)), .int un, .int ze, .int lm, .ref m5, .ref m6, .ref m7])), (m2, .inl (kI, 60, .inl xs)), (m3, .inl (kI, 60, .inl ys)), (m4, .inl (kI, 24, .inl held)), (m5, .inl (kJ, 12, .inr (.inl la))), (m6, .inl (kJ, 12, .inr (.inl lb))), (m7, .inl (kJ, 12, .inr (.inl lc)))] H := hP
      have hD : va_D A [(m1, .inr (9, [.int th, .int pm, .ref m2, .ref m3, .int rm, .ref m4, .int on, .int (cl + (0 : Int32)), .int un, .int ze, .int lm, .ref m5, .ref m6, .ref m7])), (m2, .inl (kI, 60, .inl xs)), (m3, .inl (kI, 60, .inl ys)), (m4, .inl (kI, 24, .inl held)), (m5, .inl (kJ, 12, .inr (.inl la))), (m6, .inl (kJ, 12, .inr (.inl lb))), (m7, .inl (kJ, 12, .inr (.inl lc)))] := hD
      refine lv_aload_n hx hb dX5_counted_25 rfl (lv_at hl 0 rfl) ?_
      refine lv_dup hx hb dX5_counted_26 rfl ?_
      refine va_get (D := D) (ci := 9) (v := .int un) (C := RX5) (T := TX5) (N := 14) hx hb hts hinX5 hown hK hP 0 rfl rfl 8 (by decide) (hts _ fk_X5_101) (fun _ h9 => h9) rfl dX5_counted_27 ?_
      refine lv_aload_n hx hb dX5_counted_30 rfl (lv_at hl 0 rfl) ?_
      refine va_get (D := D) (ci := 9) (v := .int on) (C := RX5) (T := TX5) (N := 14) hx hb hts hinX5 hown hK hP 0 rfl rfl 6 (by decide) (hts _ fk_X5_23) (fun _ h9 => h9) rfl dX5_counted_31 ?_
      refine lv_if_eq (tgt := 45) hx hb dX5_counted_34 (by decide) (fun c5 => ?_) (fun c5 => ?_)
      · exact absurd c5 c1
      · refine lv_iload_n hx hb dX5_counted_37 rfl (lv_at hl 1 rfl) ?_
        refine lv_if_eq (tgt := 45) hx hb dX5_counted_38 (by decide) (fun c6 => ?_) (fun c6 => ?_)
        · refine lv_iconst (v := 1) hx hb dX5_counted_45 (by decide) ?_
          refine lv_iadd hx hb dX5_counted_46 ?_
          refine va_put (D := D) (ci := 9) (v := .int (un + (1 : Int32))) (ty := .int) (C := RX5) (T := TX5) (N := 14) hx hb hts hinX5 tyX5 tyX5_ok nmX5 hown hK hP hD hS 0 rfl rfl 8 (by decide) (hts _ fk_X5_101) (fun _ h9 => h9) rfl (by decide +kernel) rfl rfl (Nat.le_of_ble_eq_true rfl) dX5_counted_47 (fun H locs hP hD hS => ?_)
          have hP : va_P D vwCl [(m1, .inr (9, [.int th, .int pm, .ref m2, .ref m3, .int rm, .ref m4, .int on, .int (cl + (0 : Int32)), .int (un + (1 : Int32)), .int ze, .int lm, .ref m5, .ref m6, .ref m7])), (m2, .inl (kI, 60, .inl xs)), (m3, .inl (kI, 60, .inl ys)), (m4, .inl (kI, 24, .inl held)), (m5, .inl (kJ, 12, .inr (.inl la))), (m6, .inl (kJ, 12, .inr (.inl lb))), (m7, .inl (kJ, 12, .inr (.inl lc)))] H := hP
          have hD : va_D A [(m1, .inr (9, [.int th, .int pm, .ref m2, .ref m3, .int rm, .ref m4, .int on, .int (cl + (0 : Int32)), .int (un + (1 : Int32)), .int ze, .int lm, .ref m5, .ref m6, .ref m7])), (m2, .inl (kI, 60, .inl xs)), (m3, .inl (kI, 60, .inl ys)), (m4, .inl (kI, 24, .inl held)), (m5, .inl (kJ, 12, .inr (.inl la))), (m6, .inl (kJ, 12, .inr (.inl lb))), (m7, .inl (kJ, 12, .inr (.inl lc)))] := hD
          refine lv_aload_n hx hb dX5_counted_50 rfl (lv_at hl 0 rfl) ?_
          refine lv_dup hx hb dX5_counted_51 rfl ?_
          refine va_get (D := D) (ci := 9) (v := .int ze) (C := RX5) (T := TX5) (N := 14) hx hb hts hinX5 hown hK hP 0 rfl rfl 9 (by decide) (hts _ fk_X5_104) (fun _ h9 => h9) rfl dX5_counted_52 ?_
          refine lv_iload_n hx hb dX5_counted_55 rfl (lv_at hl 2 rfl) ?_
          refine lv_if_ne (tgt := 63) hx hb dX5_counted_56 (by decide) (fun c7 => ?_) (fun c7 => ?_)
          · refine lv_iconst (v := 0) hx hb dX5_counted_63 (by decide) ?_
            refine lv_iadd hx hb dX5_counted_64 ?_
            refine va_put (D := D) (ci := 9) (v := .int (ze + (0 : Int32))) (ty := .int) (C := RX5) (T := TX5) (N := 14) hx hb hts hinX5 tyX5 tyX5_ok nmX5 hown hK hP hD hS 0 rfl rfl 9 (by decide) (hts _ fk_X5_104) (fun _ h9 => h9) rfl (by decide +kernel) rfl rfl (Nat.le_of_ble_eq_true rfl) dX5_counted_65 (fun H locs hP hD hS => ?_)
            have hP : va_P D vwCl [(m1, .inr (9, [.int th, .int pm, .ref m2, .ref m3, .int rm, .ref m4, .int on, .int (cl + (0 : Int32)), .int (un + (1 : Int32)), .int (ze + (0 : Int32)), .int lm, .ref m5, .ref m6, .ref m7])), (m2, .inl (kI, 60, .inl xs)), (m3, .inl (kI, 60, .inl ys)), (m4, .inl (kI, 24, .inl held)), (m5, .inl (kJ, 12, .inr (.inl la))), (m6, .inl (kJ, 12, .inr (.inl lb))), (m7, .inl (kJ, 12, .inr (.inl lc)))] H := hP
            have hD : va_D A [(m1, .inr (9, [.int th, .int pm, .ref m2, .ref m3, .int rm, .ref m4, .int on, .int (cl + (0 : Int32)), .int (un + (1 : Int32)), .int (ze + (0 : Int32)), .int lm, .ref m5, .ref m6, .ref m7])), (m2, .inl (kI, 60, .inl xs)), (m3, .inl (kI, 60, .inl ys)), (m4, .inl (kI, 24, .inl held)), (m5, .inl (kJ, 12, .inr (.inl la))), (m6, .inl (kJ, 12, .inr (.inl lb))), (m7, .inl (kJ, 12, .inr (.inl lc)))] := hD
            refine lv_iload_n hx hb dX5_counted_68 rfl (lv_at hl 2 rfl) ?_
            have hP9 := hP
            have hD9 := hD
            have hS9 := hS
            have qv : fX5_counted on cl un ze bc sg_ = sg_ := by unfold fX5_counted; rw [if_neg c1, if_pos c4, if_neg c7]
            have q_cl : gX5_counted_cl on cl un ze bc sg_ = cl + (0 : Int32) := by unfold gX5_counted_cl; rw [if_neg c1, if_pos c4, if_neg c7]
            have q_un : gX5_counted_un on cl un ze bc sg_ = un + (1 : Int32) := by unfold gX5_counted_un; rw [if_neg c1, if_pos c4, if_neg c7]
            have q_ze : gX5_counted_ze on cl un ze bc sg_ = ze + (0 : Int32) := by unfold gX5_counted_ze; rw [if_neg c1, if_pos c4, if_neg c7]
            rw [qv, q_cl, q_un, q_ze]
            exact W.iret (v := sg_) hx hb hr (fun t ht hW => ⟨⟨rfl, by rw [ht]; exact hP9, by rw [hAe]; exact hD9⟩, by rw [hAe]; exact hS9.F ht⟩) hS9.2.2 dX5_counted_69
          · refine lv_iconst (v := 1) hx hb dX5_counted_59 (by decide) ?_
            refine lv_goto (tgt := 64) hx hb dX5_counted_60 (by decide) ?_
            refine lv_iadd hx hb dX5_counted_64 ?_
            refine va_put (D := D) (ci := 9) (v := .int (ze + (1 : Int32))) (ty := .int) (C := RX5) (T := TX5) (N := 14) hx hb hts hinX5 tyX5 tyX5_ok nmX5 hown hK hP hD hS 0 rfl rfl 9 (by decide) (hts _ fk_X5_104) (fun _ h9 => h9) rfl (by decide +kernel) rfl rfl (Nat.le_of_ble_eq_true rfl) dX5_counted_65 (fun H locs hP hD hS => ?_)
            have hP : va_P D vwCl [(m1, .inr (9, [.int th, .int pm, .ref m2, .ref m3, .int rm, .ref m4, .int on, .int (cl + (0 : Int32)), .int (un + (1 : Int32)), .int (ze + (1 : Int32)), .int lm, .ref m5, .ref m6, .ref m7])), (m2, .inl (kI, 60, .inl xs)), (m3, .inl (kI, 60, .inl ys)), (m4, .inl (kI, 24, .inl held)), (m5, .inl (kJ, 12, .inr (.inl la))), (m6, .inl (kJ, 12, .inr (.inl lb))), (m7, .inl (kJ, 12, .inr (.inl lc)))] H := hP
            have hD : va_D A [(m1, .inr (9, [.int th, .int pm, .ref m2, .ref m3, .int rm, .ref m4, .int on, .int (cl + (0 : Int32)), .int (un + (1 : Int32)), .int (ze + (1 : Int32)), .int lm, .ref m5, .ref m6, .ref m7])), (m2, .inl (kI, 60, .inl xs)), (m3, .inl (kI, 60, .inl ys)), (m4, .inl (kI, 24, .inl held)), (m5, .inl (kJ, 12, .inr (.inl la))), (m6, .inl (kJ, 12, .inr (.inl lb))), (m7, .inl (kJ, 12, .inr (.inl lc)))] := hD
            refine lv_iload_n hx hb dX5_counted_68 rfl (lv_at hl 2 rfl) ?_
            have hP9 := hP
            have hD9 := hD
            have hS9 := hS
            have qv : fX5_counted on cl un ze bc sg_ = sg_ := by unfold fX5_counted; rw [if_neg c1, if_pos c4, if_pos c7]
            have q_cl : gX5_counted_cl on cl un ze bc sg_ = cl + (0 : Int32) := by unfold gX5_counted_cl; rw [if_neg c1, if_pos c4, if_pos c7]
            have q_un : gX5_counted_un on cl un ze bc sg_ = un + (1 : Int32) := by unfold gX5_counted_un; rw [if_neg c1, if_pos c4, if_pos c7]
            have q_ze : gX5_counted_ze on cl un ze bc sg_ = ze + (1 : Int32) := by unfold gX5_counted_ze; rw [if_neg c1, if_pos c4, if_pos c7]
            rw [qv, q_cl, q_un, q_ze]
            exact W.iret (v := sg_) hx hb hr (fun t ht hW => ⟨⟨rfl, by rw [ht]; exact hP9, by rw [hAe]; exact hD9⟩, by rw [hAe]; exact hS9.F ht⟩) hS9.2.2 dX5_counted_69
        · exact absurd c4 c6
    · refine lv_iconst (v := 1) hx hb dX5_counted_16 (by decide) ?_
      refine lv_goto (tgt := 21) hx hb dX5_counted_17 (by decide) ?_
      refine lv_iadd hx hb dX5_counted_21 ?_
      refine va_put (D := D) (ci := 9) (v := .int (cl + (1 : Int32))) (ty := .int) (C := RX5) (T := TX5) (N := 14) hx hb hts hinX5 tyX5 tyX5_ok nmX5 hown hK hP hD hS 0 rfl rfl 7 (by decide) (hts _ fk_X5_98) (fun _ h9 => h9) rfl (by decide +kernel) rfl rfl (Nat.le_of_ble_eq_true rfl) dX5_counted_22 (fun H locs hP hD hS => ?_)
      have hP : va_P D vwCl [(m1, .inr (9, [.int th, .int pm, .ref m2, .ref m3, .int rm, .ref m4, .int on, .int (cl + (1 : Int32)), .int un, .int ze, .int lm, .ref m5, .ref m6, .ref m7])), (m2, .inl (kI, 60, .inl xs)), (m3, .inl (kI, 60, .inl ys)), (m4, .inl (kI, 24, .inl held)), (m5, .inl (kJ, 12, .inr (.inl la))), (m6, .inl (kJ, 12, .inr (.inl lb))), (m7, .inl (kJ, 12, .inr (.inl lc)))] H := hP
      have hD : va_D A [(m1, .inr (9, [.int th, .int pm, .ref m2, .ref m3, .int rm, .ref m4, .int on, .int (cl + (1 : Int32)), .int un, .int ze, .int lm, .ref m5, .ref m6, .ref m7])), (m2, .inl (kI, 60, .inl xs)), (m3, .inl (kI, 60, .inl ys)), (m4, .inl (kI, 24, .inl held)), (m5, .inl (kJ, 12, .inr (.inl la))), (m6, .inl (kJ, 12, .inr (.inl lb))), (m7, .inl (kJ, 12, .inr (.inl lc)))] := hD
      refine lv_aload_n hx hb dX5_counted_25 rfl (lv_at hl 0 rfl) ?_
      refine lv_dup hx hb dX5_counted_26 rfl ?_
      refine va_get (D := D) (ci := 9) (v := .int un) (C := RX5) (T := TX5) (N := 14) hx hb hts hinX5 hown hK hP 0 rfl rfl 8 (by decide) (hts _ fk_X5_101) (fun _ h9 => h9) rfl dX5_counted_27 ?_
      refine lv_aload_n hx hb dX5_counted_30 rfl (lv_at hl 0 rfl) ?_
      refine va_get (D := D) (ci := 9) (v := .int on) (C := RX5) (T := TX5) (N := 14) hx hb hts hinX5 hown hK hP 0 rfl rfl 6 (by decide) (hts _ fk_X5_23) (fun _ h9 => h9) rfl dX5_counted_31 ?_
      refine lv_if_eq (tgt := 45) hx hb dX5_counted_34 (by decide) (fun c8 => ?_) (fun c8 => ?_)
      · exact absurd c8 c1
      · refine lv_iload_n hx hb dX5_counted_37 rfl (lv_at hl 1 rfl) ?_
        refine lv_if_eq (tgt := 45) hx hb dX5_counted_38 (by decide) (fun c9 => ?_) (fun c9 => ?_)
        · exact absurd c9 c4
        · refine lv_iconst (v := 0) hx hb dX5_counted_41 (by decide) ?_
          refine lv_goto (tgt := 46) hx hb dX5_counted_42 (by decide) ?_
          refine lv_iadd hx hb dX5_counted_46 ?_
          refine va_put (D := D) (ci := 9) (v := .int (un + (0 : Int32))) (ty := .int) (C := RX5) (T := TX5) (N := 14) hx hb hts hinX5 tyX5 tyX5_ok nmX5 hown hK hP hD hS 0 rfl rfl 8 (by decide) (hts _ fk_X5_101) (fun _ h9 => h9) rfl (by decide +kernel) rfl rfl (Nat.le_of_ble_eq_true rfl) dX5_counted_47 (fun H locs hP hD hS => ?_)
          have hP : va_P D vwCl [(m1, .inr (9, [.int th, .int pm, .ref m2, .ref m3, .int rm, .ref m4, .int on, .int (cl + (1 : Int32)), .int (un + (0 : Int32)), .int ze, .int lm, .ref m5, .ref m6, .ref m7])), (m2, .inl (kI, 60, .inl xs)), (m3, .inl (kI, 60, .inl ys)), (m4, .inl (kI, 24, .inl held)), (m5, .inl (kJ, 12, .inr (.inl la))), (m6, .inl (kJ, 12, .inr (.inl lb))), (m7, .inl (kJ, 12, .inr (.inl lc)))] H := hP
          have hD : va_D A [(m1, .inr (9, [.int th, .int pm, .ref m2, .ref m3, .int rm, .ref m4, .int on, .int (cl + (1 : Int32)), .int (un + (0 : Int32)), .int ze, .int lm, .ref m5, .ref m6, .ref m7])), (m2, .inl (kI, 60, .inl xs)), (m3, .inl (kI, 60, .inl ys)), (m4, .inl (kI, 24, .inl held)), (m5, .inl (kJ, 12, .inr (.inl la))), (m6, .inl (kJ, 12, .inr (.inl lb))), (m7, .inl (kJ, 12, .inr (.inl lc)))] := hD
          refine lv_aload_n hx hb dX5_counted_50 rfl (lv_at hl 0 rfl) ?_
          refine lv_dup hx hb dX5_counted_51 rfl ?_
          refine va_get (D := D) (ci := 9) (v := .int ze) (C := RX5) (T := TX5) (N := 14) hx hb hts hinX5 hown hK hP 0 rfl rfl 9 (by decide) (hts _ fk_X5_104) (fun _ h9 => h9) rfl dX5_counted_52 ?_
          refine lv_iload_n hx hb dX5_counted_55 rfl (lv_at hl 2 rfl) ?_
          refine lv_if_ne (tgt := 63) hx hb dX5_counted_56 (by decide) (fun c10 => ?_) (fun c10 => ?_)
          · refine lv_iconst (v := 0) hx hb dX5_counted_63 (by decide) ?_
            refine lv_iadd hx hb dX5_counted_64 ?_
            refine va_put (D := D) (ci := 9) (v := .int (ze + (0 : Int32))) (ty := .int) (C := RX5) (T := TX5) (N := 14) hx hb hts hinX5 tyX5 tyX5_ok nmX5 hown hK hP hD hS 0 rfl rfl 9 (by decide) (hts _ fk_X5_104) (fun _ h9 => h9) rfl (by decide +kernel) rfl rfl (Nat.le_of_ble_eq_true rfl) dX5_counted_65 (fun H locs hP hD hS => ?_)
            have hP : va_P D vwCl [(m1, .inr (9, [.int th, .int pm, .ref m2, .ref m3, .int rm, .ref m4, .int on, .int (cl + (1 : Int32)), .int (un + (0 : Int32)), .int (ze + (0 : Int32)), .int lm, .ref m5, .ref m6, .ref m7])), (m2, .inl (kI, 60, .inl xs)), (m3, .inl (kI, 60, .inl ys)), (m4, .inl (kI, 24, .inl held)), (m5, .inl (kJ, 12, .inr (.inl la))), (m6, .inl (kJ, 12, .inr (.inl lb))), (m7, .inl (kJ, 12, .inr (.inl lc)))] H := hP
            have hD : va_D A [(m1, .inr (9, [.int th, .int pm, .ref m2, .ref m3, .int rm, .ref m4, .int on, .int (cl + (1 : Int32)), .int (un + (0 : Int32)), .int (ze + (0 : Int32)), .int lm, .ref m5, .ref m6, .ref m7])), (m2, .inl (kI, 60, .inl xs)), (m3, .inl (kI, 60, .inl ys)), (m4, .inl (kI, 24, .inl held)), (m5, .inl (kJ, 12, .inr (.inl la))), (m6, .inl (kJ, 12, .inr (.inl lb))), (m7, .inl (kJ, 12, .inr (.inl lc)))] := hD
            refine lv_iload_n hx hb dX5_counted_68 rfl (lv_at hl 2 rfl) ?_
            have hP9 := hP
            have hD9 := hD
            have hS9 := hS
            have qv : fX5_counted on cl un ze bc sg_ = sg_ := by unfold fX5_counted; rw [if_neg c1, if_neg c4, if_neg c10]
            have q_cl : gX5_counted_cl on cl un ze bc sg_ = cl + (1 : Int32) := by unfold gX5_counted_cl; rw [if_neg c1, if_neg c4, if_neg c10]
            have q_un : gX5_counted_un on cl un ze bc sg_ = un + (0 : Int32) := by unfold gX5_counted_un; rw [if_neg c1, if_neg c4, if_neg c10]
            have q_ze : gX5_counted_ze on cl un ze bc sg_ = ze + (0 : Int32) := by unfold gX5_counted_ze; rw [if_neg c1, if_neg c4, if_neg c10]
            rw [qv, q_cl, q_un, q_ze]
            exact W.iret (v := sg_) hx hb hr (fun t ht hW => ⟨⟨rfl, by rw [ht]; exact hP9, by rw [hAe]; exact hD9⟩, by rw [hAe]; exact hS9.F ht⟩) hS9.2.2 dX5_counted_69
          · refine lv_iconst (v := 1) hx hb dX5_counted_59 (by decide) ?_
            refine lv_goto (tgt := 64) hx hb dX5_counted_60 (by decide) ?_
            refine lv_iadd hx hb dX5_counted_64 ?_
            refine va_put (D := D) (ci := 9) (v := .int (ze + (1 : Int32))) (ty := .int) (C := RX5) (T := TX5) (N := 14) hx hb hts hinX5 tyX5 tyX5_ok nmX5 hown hK hP hD hS 0 rfl rfl 9 (by decide) (hts _ fk_X5_104) (fun _ h9 => h9) rfl (by decide +kernel) rfl rfl (Nat.le_of_ble_eq_true rfl) dX5_counted_65 (fun H locs hP hD hS => ?_)
            have hP : va_P D vwCl [(m1, .inr (9, [.int th, .int pm, .ref m2, .ref m3, .int rm, .ref m4, .int on, .int (cl + (1 : Int32)), .int (un + (0 : Int32)), .int (ze + (1 : Int32)), .int lm, .ref m5, .ref m6, .ref m7])), (m2, .inl (kI, 60, .inl xs)), (m3, .inl (kI, 60, .inl ys)), (m4, .inl (kI, 24, .inl held)), (m5, .inl (kJ, 12, .inr (.inl la))), (m6, .inl (kJ, 12, .inr (.inl lb))), (m7, .inl (kJ, 12, .inr (.inl lc)))] H := hP
            have hD : va_D A [(m1, .inr (9, [.int th, .int pm, .ref m2, .ref m3, .int rm, .ref m4, .int on, .int (cl + (1 : Int32)), .int (un + (0 : Int32)), .int (ze + (1 : Int32)), .int lm, .ref m5, .ref m6, .ref m7])), (m2, .inl (kI, 60, .inl xs)), (m3, .inl (kI, 60, .inl ys)), (m4, .inl (kI, 24, .inl held)), (m5, .inl (kJ, 12, .inr (.inl la))), (m6, .inl (kJ, 12, .inr (.inl lb))), (m7, .inl (kJ, 12, .inr (.inl lc)))] := hD
            refine lv_iload_n hx hb dX5_counted_68 rfl (lv_at hl 2 rfl) ?_
            have hP9 := hP
            have hD9 := hD
            have hS9 := hS
            have qv : fX5_counted on cl un ze bc sg_ = sg_ := by unfold fX5_counted; rw [if_neg c1, if_neg c4, if_pos c10]
            have q_cl : gX5_counted_cl on cl un ze bc sg_ = cl + (1 : Int32) := by unfold gX5_counted_cl; rw [if_neg c1, if_neg c4, if_pos c10]
            have q_un : gX5_counted_un on cl un ze bc sg_ = un + (0 : Int32) := by unfold gX5_counted_un; rw [if_neg c1, if_neg c4, if_pos c10]
            have q_ze : gX5_counted_ze on cl un ze bc sg_ = ze + (1 : Int32) := by unfold gX5_counted_ze; rw [if_neg c1, if_neg c4, if_pos c10]
            rw [qv, q_cl, q_un, q_ze]
            exact W.iret (v := sg_) hx hb hr (fun t ht hW => ⟨⟨rfl, by rw [ht]; exact hP9, by rw [hAe]; exact hD9⟩, by rw [hAe]; exact hS9.F ht⟩) hS9.2.2 dX5_counted_69
def fX5_side (xs ys : Nat → Int32) (pm on cl un ze : Int32) (ia : Int32) (ib : Int32) (ic : Int32) : Int32 := if (fX5_isPoint pm ia) = (0 : Int32) then ((-2 : Int32)) else (if (fX5_isPoint pm ib) = (0 : Int32) then ((-2 : Int32)) else (if (fX5_isPoint pm ic) = (0 : Int32) then ((-2 : Int32)) else (if (fX5_areEqual xs ys ia ib) = (0 : Int32) then (fX5_counted on cl un ze (fX5_decidesTurn xs ys ia ib ic) (fX5_turn xs ys ia ib ic)) else ((-4 : Int32)))))
def gX5_side_cl (xs ys : Nat → Int32) (pm on cl un ze : Int32) (ia : Int32) (ib : Int32) (ic : Int32) : Int32 := if (fX5_isPoint pm ia) = (0 : Int32) then (cl) else (if (fX5_isPoint pm ib) = (0 : Int32) then (cl) else (if (fX5_isPoint pm ic) = (0 : Int32) then (cl) else (if (fX5_areEqual xs ys ia ib) = (0 : Int32) then (gX5_counted_cl on cl un ze (fX5_decidesTurn xs ys ia ib ic) (fX5_turn xs ys ia ib ic)) else (cl))))
def gX5_side_un (xs ys : Nat → Int32) (pm on cl un ze : Int32) (ia : Int32) (ib : Int32) (ic : Int32) : Int32 := if (fX5_isPoint pm ia) = (0 : Int32) then (un) else (if (fX5_isPoint pm ib) = (0 : Int32) then (un) else (if (fX5_isPoint pm ic) = (0 : Int32) then (un) else (if (fX5_areEqual xs ys ia ib) = (0 : Int32) then (gX5_counted_un on cl un ze (fX5_decidesTurn xs ys ia ib ic) (fX5_turn xs ys ia ib ic)) else (un))))
def gX5_side_ze (xs ys : Nat → Int32) (pm on cl un ze : Int32) (ia : Int32) (ib : Int32) (ic : Int32) : Int32 := if (fX5_isPoint pm ia) = (0 : Int32) then (ze) else (if (fX5_isPoint pm ib) = (0 : Int32) then (ze) else (if (fX5_isPoint pm ic) = (0 : Int32) then (ze) else (if (fX5_areEqual xs ys ia ib) = (0 : Int32) then (gX5_counted_ze on cl un ze (fX5_decidesTurn xs ys ia ib ic) (fX5_turn xs ys ia ib ic)) else (ze))))
set_option maxHeartbeats 4000000 in
set_option maxRecDepth 100000 in
theorem ct5_side (l : Launch) (D : va_G) (sz : Nat) (m1 m2 m3 m4 m5 m6 m7 : Nat) (kI kJ : ClassId) (xs ys held : Nat → Int32) (la lb lc : Nat → Int64) (th pm rm on cl un ze lm : Int32) (ia : Int32) (ib : Int32) (ic : Int32) (opm : pm.toInt ≤ (60 : Nat)) (bx : bd xs) (by_ : bd ys) : Met l yX5_side (Cond.code yX5_side cX5_side 4 (some .int) :: BY) ({ frames := 4, cells := 0, slots := 0, locals := 240 }) (xw_P nN D vwCl [(kI, .int), (kJ, .long)] (wMo m1 m2 m3 m4 m5 m6 m7 kI kJ xs ys held la lb lc th pm rm on cl un ze lm) sz [.ref m1, .int ia, .int ib, .int ic]) (xw_Q D vwCl (some (.int (fX5_side xs ys pm on cl un ze ia ib ic))) (wMo m1 m2 m3 m4 m5 m6 m7 kI kJ xs ys held la lb lc th pm rm on cl un ze lm) (wMo m1 m2 m3 m4 m5 m6 m7 kI kJ xs ys held la lb lc (0 : Int32) pm rm on (gX5_side_cl xs ys pm on cl un ze ia ib ic) (gX5_side_un xs ys pm on cl un ze ia ib ic) (gX5_side_ze xs ys pm on cl un ze ia ib ic) lm) sz) 0 0 (va_A (wMo m1 m2 m3 m4 m5 m6 m7 kI kJ xs ys held la lb lc th pm rm on cl un ze lm) sz) := by
  refine Met.ofW (cc := cX5_side) (maxL := 4) (ret := (some .int)) (by decide) rfl ?_
  intro p e s m args below meth c s₁ B hml hv
  obtain ⟨rfl, hsz, hP, hK, hN, hD0⟩ := hv
  have hx := B.exec
  have hb := B.bytes
  have hr := B.returns
  have hts0 := atoms_spec (ws := Cond.code yX5_side cX5_side 4 (some .int) :: BY) B.pre
  have hts : ∀ w ∈ BY, w.before _ s = true := fun w h => hts0 w (List.mem_cons_of_mem _ h)
  have hown : s.vm.findClass RX5 = some m.cls := findClass_of_methodNamed B.named
  have hlocks := B.notSynchronized
  subst hsz
  have hD := hD0.self (sz := s.heap.size)
  generalize hAe : va_A (wMo m1 m2 m3 m4 m5 m6 m7 kI kJ xs ys held la lb lc th pm rm on cl un ze lm) s.heap.size = A at hD ⊢
  have hA : ∀ q : Nat, s.heap.size ≤ q → A q := fun q h => by rw [← hAe]; exact Or.inr h
  have hS : va_S A s.heap s.heap [] := va_S.rf
  have hP : va_P D vwCl [(m1, .inr (9, [.int th, .int pm, .ref m2, .ref m3, .int rm, .ref m4, .int on, .int cl, .int un, .int ze, .int lm, .ref m5, .ref m6, .ref m7])), (m2, .inl (kI, 60, .inl xs)), (m3, .inl (kI, 60, .inl ys)), (m4, .inl (kI, 24, .inl held)), (m5, .inl (kJ, 12, .inr (.inl la))), (m6, .inl (kJ, 12, .inr (.inl lb))), (m7, .inl (kJ, 12, .inr (.inl lc)))] s.heap := hP
  have hD : va_D A [(m1, .inr (9, [.int th, .int pm, .ref m2, .ref m3, .int rm, .ref m4, .int on, .int cl, .int un, .int ze, .int lm, .ref m5, .ref m6, .ref m7])), (m2, .inl (kI, 60, .inl xs)), (m3, .inl (kI, 60, .inl ys)), (m4, .inl (kI, 24, .inl held)), (m5, .inl (kJ, 12, .inr (.inl la))), (m6, .inl (kJ, 12, .inr (.inl lb))), (m7, .inl (kJ, 12, .inr (.inl lc)))] := hD
  have hl := lv_entry ([.ref m1, .int ia, .int ib, .int ic]) (n := 4) (Nat.le_of_ble_eq_true rfl)
  rw [lg_entry_eq]
  generalize (lg_sl ([.ref m1, .int ia, .int ib, .int ic]) ++ List.replicate (4 - (lg_sl ([.ref m1, .int ia, .int ib, .int ic])).length) Slot.unset).toArray = ls at hl ⊢
  have hl : lv_has ls 4 [(0, .ref m1), (1, .int ia), (2, .int ib), (3, .int ic)] := hl
  refine lv_aload_n hx hb dX5_side_0 rfl (lv_at hl 0 rfl) ?_
  refine lv_iconst (v := 0) hx hb dX5_side_1 (by decide) ?_
  refine va_put (D := D) (ci := 9) (v := .int (0 : Int32)) (ty := .int) (C := RX5) (T := TX5) (N := 14) hx hb hts hinX5 tyX5 tyX5_ok nmX5 hown hK hP hD hS 0 rfl rfl 0 (by decide) (hts _ fk_X5_1) (fun _ h9 => h9) rfl (by decide +kernel) rfl rfl (Nat.le_of_ble_eq_true rfl) dX5_side_2 (fun H locs hP hD hS => ?_)
  have hP : va_P D vwCl [(m1, .inr (9, [.int (0 : Int32), .int pm, .ref m2, .ref m3, .int rm, .ref m4, .int on, .int cl, .int un, .int ze, .int lm, .ref m5, .ref m6, .ref m7])), (m2, .inl (kI, 60, .inl xs)), (m3, .inl (kI, 60, .inl ys)), (m4, .inl (kI, 24, .inl held)), (m5, .inl (kJ, 12, .inr (.inl la))), (m6, .inl (kJ, 12, .inr (.inl lb))), (m7, .inl (kJ, 12, .inr (.inl lc)))] H := hP
  have hD : va_D A [(m1, .inr (9, [.int (0 : Int32), .int pm, .ref m2, .ref m3, .int rm, .ref m4, .int on, .int cl, .int un, .int ze, .int lm, .ref m5, .ref m6, .ref m7])), (m2, .inl (kI, 60, .inl xs)), (m3, .inl (kI, 60, .inl ys)), (m4, .inl (kI, 24, .inl held)), (m5, .inl (kJ, 12, .inr (.inl la))), (m6, .inl (kJ, 12, .inr (.inl lb))), (m7, .inl (kJ, 12, .inr (.inl lc)))] := hD
  refine lv_aload_n hx hb dX5_side_5 rfl (lv_at hl 0 rfl) ?_
  refine lv_iload_n hx hb dX5_side_6 rfl (lv_at hl 1 rfl) ?_
  refine xr_V (q := (RX5, TX5, 14)) (ci := 9) (q0 := 0) (rest := []) (As := [.int ia]) ⟨hx, hb, hml, hown, hts⟩ (ct5_isPoint l D m1 m2 m3 m4 m5 m6 m7 kI kJ xs ys held la lb lc (0 : Int32) pm rm on cl un ze lm ia ) (cwV 1 hts gl_X5_69 rfl rfl rfl (by decide +kernel) ⟨Nat.le_of_ble_eq_true rfl, Nat.le_of_ble_eq_true rfl⟩) nN_mv hN hK hP [0, 1, 2, 3, 4, 5, 6] [0, 1] rfl rfl rfl rfl rfl hl.1 rfl (Nat.le_of_ble_eq_true rfl) dX5_side_7 ⟨Nat.le_of_ble_eq_true rfl, Nat.le_of_ble_eq_true rfl⟩ ?_
  refine lv_if_eq (tgt := 29) hx hb dX5_side_10 (by decide) (fun c1 => ?_) (fun c1 => ?_)
  · refine lv_bipush (v := (-2)) hx hb dX5_side_29 (by decide) ?_
    have hP9 := hP
    have hD9 := hD
    have hS9 := hS
    have qv : fX5_side xs ys pm on cl un ze ia ib ic = (-2 : Int32) := by unfold fX5_side; rw [if_pos c1]
    have q_cl : gX5_side_cl xs ys pm on cl un ze ia ib ic = cl := by unfold gX5_side_cl; rw [if_pos c1]
    have q_un : gX5_side_un xs ys pm on cl un ze ia ib ic = un := by unfold gX5_side_un; rw [if_pos c1]
    have q_ze : gX5_side_ze xs ys pm on cl un ze ia ib ic = ze := by unfold gX5_side_ze; rw [if_pos c1]
    rw [qv, q_cl, q_un, q_ze]
    exact W.iret (v := (-2 : Int32)) hx hb hr (fun t ht hW => ⟨⟨rfl, by rw [ht]; exact hP9, by rw [hAe]; exact hD9⟩, by rw [hAe]; exact hS9.F ht⟩) hS9.2.2 dX5_side_31
  · refine lv_aload_n hx hb dX5_side_13 rfl (lv_at hl 0 rfl) ?_
    refine lv_iload_n hx hb dX5_side_14 rfl (lv_at hl 2 rfl) ?_
    refine xr_V (q := (RX5, TX5, 14)) (ci := 9) (q0 := 0) (rest := []) (As := [.int ib]) ⟨hx, hb, hml, hown, hts⟩ (ct5_isPoint l D m1 m2 m3 m4 m5 m6 m7 kI kJ xs ys held la lb lc (0 : Int32) pm rm on cl un ze lm ib ) (cwV 1 hts gl_X5_69 rfl rfl rfl (by decide +kernel) ⟨Nat.le_of_ble_eq_true rfl, Nat.le_of_ble_eq_true rfl⟩) nN_mv hN hK hP [0, 1, 2, 3, 4, 5, 6] [0, 1] rfl rfl rfl rfl rfl hl.1 rfl (Nat.le_of_ble_eq_true rfl) dX5_side_15 ⟨Nat.le_of_ble_eq_true rfl, Nat.le_of_ble_eq_true rfl⟩ ?_
    refine lv_if_eq (tgt := 29) hx hb dX5_side_18 (by decide) (fun c2 => ?_) (fun c2 => ?_)
    · refine lv_bipush (v := (-2)) hx hb dX5_side_29 (by decide) ?_
      have hP9 := hP
      have hD9 := hD
      have hS9 := hS
      have qv : fX5_side xs ys pm on cl un ze ia ib ic = (-2 : Int32) := by unfold fX5_side; rw [if_neg c1, if_pos c2]
      have q_cl : gX5_side_cl xs ys pm on cl un ze ia ib ic = cl := by unfold gX5_side_cl; rw [if_neg c1, if_pos c2]
      have q_un : gX5_side_un xs ys pm on cl un ze ia ib ic = un := by unfold gX5_side_un; rw [if_neg c1, if_pos c2]
      have q_ze : gX5_side_ze xs ys pm on cl un ze ia ib ic = ze := by unfold gX5_side_ze; rw [if_neg c1, if_pos c2]
      rw [qv, q_cl, q_un, q_ze]
      exact W.iret (v := (-2 : Int32)) hx hb hr (fun t ht hW => ⟨⟨rfl, by rw [ht]; exact hP9, by rw [hAe]; exact hD9⟩, by rw [hAe]; exact hS9.F ht⟩) hS9.2.2 dX5_side_31
    · refine lv_aload_n hx hb dX5_side_21 rfl (lv_at hl 0 rfl) ?_
      refine lv_iload_n hx hb dX5_side_22 rfl (lv_at hl 3 rfl) ?_
      refine xr_V (q := (RX5, TX5, 14)) (ci := 9) (q0 := 0) (rest := []) (As := [.int ic]) ⟨hx, hb, hml, hown, hts⟩ (ct5_isPoint l D m1 m2 m3 m4 m5 m6 m7 kI kJ xs ys held la lb lc (0 : Int32) pm rm on cl un ze lm ic ) (cwV 1 hts gl_X5_69 rfl rfl rfl (by decide +kernel) ⟨Nat.le_of_ble_eq_true rfl, Nat.le_of_ble_eq_true rfl⟩) nN_mv hN hK hP [0, 1, 2, 3, 4, 5, 6] [0, 1] rfl rfl rfl rfl rfl hl.1 rfl (Nat.le_of_ble_eq_true rfl) dX5_side_23 ⟨Nat.le_of_ble_eq_true rfl, Nat.le_of_ble_eq_true rfl⟩ ?_
      refine lv_if_ne (tgt := 32) hx hb dX5_side_26 (by decide) (fun c3 => ?_) (fun c3 => ?_)
      · refine lv_aload_n hx hb dX5_side_32 rfl (lv_at hl 0 rfl) ?_
        refine lv_iload_n hx hb dX5_side_33 rfl (lv_at hl 1 rfl) ?_
        refine lv_iload_n hx hb dX5_side_34 rfl (lv_at hl 2 rfl) ?_
        refine xr_V (q := (RX5, TX5, 14)) (ci := 9) (q0 := 0) (rest := []) (As := [.int ia, .int ib]) ⟨hx, hb, hml, hown, hts⟩ (ct5_areEqual l D m1 m2 m3 m4 m5 m6 m7 kI kJ xs ys held la lb lc (0 : Int32) pm rm on cl un ze lm ia ib (o_pt c1 opm) (o_pt c2 opm)) (cwV 2 hts gl_X5_107 rfl rfl rfl (by decide +kernel) ⟨Nat.le_of_ble_eq_true rfl, Nat.le_of_ble_eq_true rfl⟩) nN_mv hN hK hP [0, 1, 2, 3, 4, 5, 6] [0, 1] rfl rfl rfl rfl rfl hl.1 rfl (Nat.le_of_ble_eq_true rfl) dX5_side_35 ⟨Nat.le_of_ble_eq_true rfl, Nat.le_of_ble_eq_true rfl⟩ ?_
        refine lv_if_eq (tgt := 46) hx hb dX5_side_38 (by decide) (fun c4 => ?_) (fun c4 => ?_)
        · refine lv_aload_n hx hb dX5_side_46 rfl (lv_at hl 0 rfl) ?_
          refine lv_aload_n hx hb dX5_side_47 rfl (lv_at hl 0 rfl) ?_
          refine lv_iload_n hx hb dX5_side_48 rfl (lv_at hl 1 rfl) ?_
          refine lv_iload_n hx hb dX5_side_49 rfl (lv_at hl 2 rfl) ?_
          refine lv_iload_n hx hb dX5_side_50 rfl (lv_at hl 3 rfl) ?_
          refine xr_V (q := (RX5, TX5, 14)) (ci := 9) (q0 := 0) (rest := [.ref m1]) (As := [.int ia, .int ib, .int ic]) ⟨hx, hb, hml, hown, hts⟩ (ct5_decidesTurn l D m1 m2 m3 m4 m5 m6 m7 kI kJ xs ys held la lb lc (0 : Int32) pm rm on cl un ze lm ia ib ic (o_pt c1 opm) (o_pt c2 opm) (o_pt c3 opm) bx by_) (cwV 3 hts gl_X5_111 rfl rfl rfl (by decide +kernel) ⟨Nat.le_of_ble_eq_true rfl, Nat.le_of_ble_eq_true rfl⟩) nN_mv hN hK hP [0, 1, 2, 3, 4, 5, 6] [0, 1] rfl rfl rfl rfl rfl hl.1 rfl (Nat.le_of_ble_eq_true rfl) dX5_side_51 ⟨Nat.le_of_ble_eq_true rfl, Nat.le_of_ble_eq_true rfl⟩ ?_
          refine lv_aload_n hx hb dX5_side_54 rfl (lv_at hl 0 rfl) ?_
          refine lv_iload_n hx hb dX5_side_55 rfl (lv_at hl 1 rfl) ?_
          refine lv_iload_n hx hb dX5_side_56 rfl (lv_at hl 2 rfl) ?_
          refine lv_iload_n hx hb dX5_side_57 rfl (lv_at hl 3 rfl) ?_
          refine xr_V (q := (RX5, TX5, 14)) (ci := 9) (q0 := 0) (rest := [.int (fX5_decidesTurn xs ys ia ib ic), .ref m1]) (As := [.int ia, .int ib, .int ic]) ⟨hx, hb, hml, hown, hts⟩ (ct5_turn l D m1 m2 m3 m4 m5 m6 m7 kI kJ xs ys held la lb lc (0 : Int32) pm rm on cl un ze lm ia ib ic (o_pt c1 opm) (o_pt c2 opm) (o_pt c3 opm)) (cwV 3 hts gl_X5_58 rfl rfl rfl (by decide +kernel) ⟨Nat.le_of_ble_eq_true rfl, Nat.le_of_ble_eq_true rfl⟩) nN_mv hN hK hP [0, 1, 2, 3, 4, 5, 6] [0, 1] rfl rfl rfl rfl rfl hl.1 rfl (Nat.le_of_ble_eq_true rfl) dX5_side_58 ⟨Nat.le_of_ble_eq_true rfl, Nat.le_of_ble_eq_true rfl⟩ ?_
          refine xw_V (q := (RX5, TX5, 14)) (ci := 9) (q0 := 0) (rest := []) (As := [.int (fX5_decidesTurn xs ys ia ib ic), .int (fX5_turn xs ys ia ib ic)]) (wr := []) (w1 := (wMo m1 m2 m3 m4 m5 m6 m7 kI kJ xs ys held la lb lc (0 : Int32) pm rm on (gX5_counted_cl on cl un ze (fX5_decidesTurn xs ys ia ib ic) (fX5_turn xs ys ia ib ic)) (gX5_counted_un on cl un ze (fX5_decidesTurn xs ys ia ib ic) (fX5_turn xs ys ia ib ic)) (gX5_counted_ze on cl un ze (fX5_decidesTurn xs ys ia ib ic) (fX5_turn xs ys ia ib ic)) lm)) (ws' := [(m1, .inr (9, [.int (0 : Int32), .int pm, .ref m2, .ref m3, .int rm, .ref m4, .int on, .int (gX5_counted_cl on cl un ze (fX5_decidesTurn xs ys ia ib ic) (fX5_turn xs ys ia ib ic)), .int (gX5_counted_un on cl un ze (fX5_decidesTurn xs ys ia ib ic) (fX5_turn xs ys ia ib ic)), .int (gX5_counted_ze on cl un ze (fX5_decidesTurn xs ys ia ib ic) (fX5_turn xs ys ia ib ic)), .int lm, .ref m5, .ref m6, .ref m7])), (m2, .inl (kI, 60, .inl xs)), (m3, .inl (kI, 60, .inl ys)), (m4, .inl (kI, 24, .inl held)), (m5, .inl (kJ, 12, .inr (.inl la))), (m6, .inl (kJ, 12, .inr (.inl lb))), (m7, .inl (kJ, 12, .inr (.inl lc)))]) ⟨hx, hb, hml, hown, hts⟩ (ct5_counted l D _ m1 m2 m3 m4 m5 m6 m7 kI kJ xs ys held la lb lc (0 : Int32) pm rm on cl un ze lm (fX5_decidesTurn xs ys ia ib ic) (fX5_turn xs ys ia ib ic) ) (cwV 2 hts gl_X5_115 rfl rfl rfl (by decide +kernel) ⟨Nat.le_of_ble_eq_true rfl, Nat.le_of_ble_eq_true rfl⟩) nN_mv hN hK hP hD hS hA [0, 1, 2, 3, 4, 5, 6] [] [0, 1, 2, 3, 4, 5, 6] [0, 1] rfl (by decide) rfl rfl rfl (by decide) (by decide) rfl (by decide) rfl rfl rfl rfl hl.1 rfl (Nat.le_of_ble_eq_true rfl) dX5_side_61 ⟨Nat.le_of_ble_eq_true rfl, Nat.le_of_ble_eq_true rfl⟩ (fun H locs hP hD hS => ?_)
          have hP : va_P D vwCl [(m1, .inr (9, [.int (0 : Int32), .int pm, .ref m2, .ref m3, .int rm, .ref m4, .int on, .int (gX5_counted_cl on cl un ze (fX5_decidesTurn xs ys ia ib ic) (fX5_turn xs ys ia ib ic)), .int (gX5_counted_un on cl un ze (fX5_decidesTurn xs ys ia ib ic) (fX5_turn xs ys ia ib ic)), .int (gX5_counted_ze on cl un ze (fX5_decidesTurn xs ys ia ib ic) (fX5_turn xs ys ia ib ic)), .int lm, .ref m5, .ref m6, .ref m7])), (m2, .inl (kI, 60, .inl xs)), (m3, .inl (kI, 60, .inl ys)), (m4, .inl (kI, 24, .inl held)), (m5, .inl (kJ, 12, .inr (.inl la))), (m6, .inl (kJ, 12, .inr (.inl lb))), (m7, .inl (kJ, 12, .inr (.inl lc)))] H := hP
          have hD : va_D A [(m1, .inr (9, [.int (0 : Int32), .int pm, .ref m2, .ref m3, .int rm, .ref m4, .int on, .int (gX5_counted_cl on cl un ze (fX5_decidesTurn xs ys ia ib ic) (fX5_turn xs ys ia ib ic)), .int (gX5_counted_un on cl un ze (fX5_decidesTurn xs ys ia ib ic) (fX5_turn xs ys ia ib ic)), .int (gX5_counted_ze on cl un ze (fX5_decidesTurn xs ys ia ib ic) (fX5_turn xs ys ia ib ic)), .int lm, .ref m5, .ref m6, .ref m7])), (m2, .inl (kI, 60, .inl xs)), (m3, .inl (kI, 60, .inl ys)), (m4, .inl (kI, 24, .inl held)), (m5, .inl (kJ, 12, .inr (.inl la))), (m6, .inl (kJ, 12, .inr (.inl lb))), (m7, .inl (kJ, 12, .inr (.inl lc)))] := hD
          have hP9 := hP
          have hD9 := hD
          have hS9 := hS
          have qv : fX5_side xs ys pm on cl un ze ia ib ic = fX5_counted on cl un ze (fX5_decidesTurn xs ys ia ib ic) (fX5_turn xs ys ia ib ic) := by unfold fX5_side; rw [if_neg c1, if_neg c2, if_neg c3, if_pos c4]
          have q_cl : gX5_side_cl xs ys pm on cl un ze ia ib ic = gX5_counted_cl on cl un ze (fX5_decidesTurn xs ys ia ib ic) (fX5_turn xs ys ia ib ic) := by unfold gX5_side_cl; rw [if_neg c1, if_neg c2, if_neg c3, if_pos c4]
          have q_un : gX5_side_un xs ys pm on cl un ze ia ib ic = gX5_counted_un on cl un ze (fX5_decidesTurn xs ys ia ib ic) (fX5_turn xs ys ia ib ic) := by unfold gX5_side_un; rw [if_neg c1, if_neg c2, if_neg c3, if_pos c4]
          have q_ze : gX5_side_ze xs ys pm on cl un ze ia ib ic = gX5_counted_ze on cl un ze (fX5_decidesTurn xs ys ia ib ic) (fX5_turn xs ys ia ib ic) := by unfold gX5_side_ze; rw [if_neg c1, if_neg c2, if_neg c3, if_pos c4]
          rw [qv, q_cl, q_un, q_ze]
          exact W.iret (v := fX5_counted on cl un ze (fX5_decidesTurn xs ys ia ib ic) (fX5_turn xs ys ia ib ic)) hx hb hr (fun t ht hW => ⟨⟨rfl, by rw [ht]; exact hP9, by rw [hAe]; exact hD9⟩, by rw [hAe]; exact hS9.F ht⟩) hS9.2.2 dX5_side_64
        · refine lv_bipush (v := (-4)) hx hb dX5_side_41 (by decide) ?_
          refine lv_goto (tgt := 64) hx hb dX5_side_43 (by decide) ?_
          have hP9 := hP
          have hD9 := hD
          have hS9 := hS
          have qv : fX5_side xs ys pm on cl un ze ia ib ic = (-4 : Int32) := by unfold fX5_side; rw [if_neg c1, if_neg c2, if_neg c3, if_neg c4]
          have q_cl : gX5_side_cl xs ys pm on cl un ze ia ib ic = cl := by unfold gX5_side_cl; rw [if_neg c1, if_neg c2, if_neg c3, if_neg c4]
          have q_un : gX5_side_un xs ys pm on cl un ze ia ib ic = un := by unfold gX5_side_un; rw [if_neg c1, if_neg c2, if_neg c3, if_neg c4]
          have q_ze : gX5_side_ze xs ys pm on cl un ze ia ib ic = ze := by unfold gX5_side_ze; rw [if_neg c1, if_neg c2, if_neg c3, if_neg c4]
          rw [qv, q_cl, q_un, q_ze]
          exact W.iret (v := (-4 : Int32)) hx hb hr (fun t ht hW => ⟨⟨rfl, by rw [ht]; exact hP9, by rw [hAe]; exact hD9⟩, by rw [hAe]; exact hS9.F ht⟩) hS9.2.2 dX5_side_64
      · refine lv_bipush (v := (-2)) hx hb dX5_side_29 (by decide) ?_
        have hP9 := hP
        have hD9 := hD
        have hS9 := hS
        have qv : fX5_side xs ys pm on cl un ze ia ib ic = (-2 : Int32) := by unfold fX5_side; rw [if_neg c1, if_neg c2, if_pos c3]
        have q_cl : gX5_side_cl xs ys pm on cl un ze ia ib ic = cl := by unfold gX5_side_cl; rw [if_neg c1, if_neg c2, if_pos c3]
        have q_un : gX5_side_un xs ys pm on cl un ze ia ib ic = un := by unfold gX5_side_un; rw [if_neg c1, if_neg c2, if_pos c3]
        have q_ze : gX5_side_ze xs ys pm on cl un ze ia ib ic = ze := by unfold gX5_side_ze; rw [if_neg c1, if_neg c2, if_pos c3]
        rw [qv, q_cl, q_un, q_ze]
        exact W.iret (v := (-2 : Int32)) hx hb hr (fun t ht hW => ⟨⟨rfl, by rw [ht]; exact hP9, by rw [hAe]; exact hD9⟩, by rw [hAe]; exact hS9.F ht⟩) hS9.2.2 dX5_side_31
def fX5_circle (xs ys : Nat → Int32) (pm on cl un ze : Int32) (ia : Int32) (ib : Int32) (ic : Int32) (id : Int32) : Int32 := if (fX5_isPoint pm ia) = (0 : Int32) then ((-2 : Int32)) else (if (fX5_isPoint pm ib) = (0 : Int32) then ((-2 : Int32)) else (if (fX5_isPoint pm ic) = (0 : Int32) then ((-2 : Int32)) else (if (fX5_isPoint pm id) = (0 : Int32) then ((-2 : Int32)) else (if (fX5_turn xs ys ia ib ic) = (0 : Int32) then ((-4 : Int32)) else (fX5_counted on cl un ze (fX5_decidesRing xs ys ia ib ic id) (fX5_ring xs ys ia ib ic id))))))
def gX5_circle_cl (xs ys : Nat → Int32) (pm on cl un ze : Int32) (ia : Int32) (ib : Int32) (ic : Int32) (id : Int32) : Int32 := if (fX5_isPoint pm ia) = (0 : Int32) then (cl) else (if (fX5_isPoint pm ib) = (0 : Int32) then (cl) else (if (fX5_isPoint pm ic) = (0 : Int32) then (cl) else (if (fX5_isPoint pm id) = (0 : Int32) then (cl) else (if (fX5_turn xs ys ia ib ic) = (0 : Int32) then (cl) else (gX5_counted_cl on cl un ze (fX5_decidesRing xs ys ia ib ic id) (fX5_ring xs ys ia ib ic id))))))
def gX5_circle_un (xs ys : Nat → Int32) (pm on cl un ze : Int32) (ia : Int32) (ib : Int32) (ic : Int32) (id : Int32) : Int32 := if (fX5_isPoint pm ia) = (0 : Int32) then (un) else (if (fX5_isPoint pm ib) = (0 : Int32) then (un) else (if (fX5_isPoint pm ic) = (0 : Int32) then (un) else (if (fX5_isPoint pm id) = (0 : Int32) then (un) else (if (fX5_turn xs ys ia ib ic) = (0 : Int32) then (un) else (gX5_counted_un on cl un ze (fX5_decidesRing xs ys ia ib ic id) (fX5_ring xs ys ia ib ic id))))))
def gX5_circle_ze (xs ys : Nat → Int32) (pm on cl un ze : Int32) (ia : Int32) (ib : Int32) (ic : Int32) (id : Int32) : Int32 := if (fX5_isPoint pm ia) = (0 : Int32) then (ze) else (if (fX5_isPoint pm ib) = (0 : Int32) then (ze) else (if (fX5_isPoint pm ic) = (0 : Int32) then (ze) else (if (fX5_isPoint pm id) = (0 : Int32) then (ze) else (if (fX5_turn xs ys ia ib ic) = (0 : Int32) then (ze) else (gX5_counted_ze on cl un ze (fX5_decidesRing xs ys ia ib ic id) (fX5_ring xs ys ia ib ic id))))))
set_option maxHeartbeats 4000000 in
set_option maxRecDepth 100000 in
theorem ct5_circle (l : Launch) (D : va_G) (sz : Nat) (m1 m2 m3 m4 m5 m6 m7 : Nat) (kI kJ : ClassId) (xs ys held : Nat → Int32) (la lb lc : Nat → Int64) (th pm rm on cl un ze lm : Int32) (ia : Int32) (ib : Int32) (ic : Int32) (id : Int32) (opm : pm.toInt ≤ (60 : Nat)) (bx : bd xs) (by_ : bd ys) : Met l yX5_circle (Cond.code yX5_circle cX5_circle 5 (some .int) :: BY) ({ frames := 4, cells := 0, slots := 0, locals := 240 }) (xw_P nN D vwCl [(kI, .int), (kJ, .long)] (wMo m1 m2 m3 m4 m5 m6 m7 kI kJ xs ys held la lb lc th pm rm on cl un ze lm) sz [.ref m1, .int ia, .int ib, .int ic, .int id]) (xw_Q D vwCl (some (.int (fX5_circle xs ys pm on cl un ze ia ib ic id))) (wMo m1 m2 m3 m4 m5 m6 m7 kI kJ xs ys held la lb lc th pm rm on cl un ze lm) (wMo m1 m2 m3 m4 m5 m6 m7 kI kJ xs ys held la lb lc (0 : Int32) pm rm on (gX5_circle_cl xs ys pm on cl un ze ia ib ic id) (gX5_circle_un xs ys pm on cl un ze ia ib ic id) (gX5_circle_ze xs ys pm on cl un ze ia ib ic id) lm) sz) 0 0 (va_A (wMo m1 m2 m3 m4 m5 m6 m7 kI kJ xs ys held la lb lc th pm rm on cl un ze lm) sz) := by
  refine Met.ofW (cc := cX5_circle) (maxL := 5) (ret := (some .int)) (by decide) rfl ?_
  intro p e s m args below meth c s₁ B hml hv
  obtain ⟨rfl, hsz, hP, hK, hN, hD0⟩ := hv
  have hx := B.exec
  have hb := B.bytes
  have hr := B.returns
  have hts0 := atoms_spec (ws := Cond.code yX5_circle cX5_circle 5 (some .int) :: BY) B.pre
  have hts : ∀ w ∈ BY, w.before _ s = true := fun w h => hts0 w (List.mem_cons_of_mem _ h)
  have hown : s.vm.findClass RX5 = some m.cls := findClass_of_methodNamed B.named
  have hlocks := B.notSynchronized
  subst hsz
  have hD := hD0.self (sz := s.heap.size)
  generalize hAe : va_A (wMo m1 m2 m3 m4 m5 m6 m7 kI kJ xs ys held la lb lc th pm rm on cl un ze lm) s.heap.size = A at hD ⊢
  have hA : ∀ q : Nat, s.heap.size ≤ q → A q := fun q h => by rw [← hAe]; exact Or.inr h
  have hS : va_S A s.heap s.heap [] := va_S.rf
  have hP : va_P D vwCl [(m1, .inr (9, [.int th, .int pm, .ref m2, .ref m3, .int rm, .ref m4, .int on, .int cl, .int un, .int ze, .int lm, .ref m5, .ref m6, .ref m7])), (m2, .inl (kI, 60, .inl xs)), (m3, .inl (kI, 60, .inl ys)), (m4, .inl (kI, 24, .inl held)), (m5, .inl (kJ, 12, .inr (.inl la))), (m6, .inl (kJ, 12, .inr (.inl lb))), (m7, .inl (kJ, 12, .inr (.inl lc)))] s.heap := hP
  have hD : va_D A [(m1, .inr (9, [.int th, .int pm, .ref m2, .ref m3, .int rm, .ref m4, .int on, .int cl, .int un, .int ze, .int lm, .ref m5, .ref m6, .ref m7])), (m2, .inl (kI, 60, .inl xs)), (m3, .inl (kI, 60, .inl ys)), (m4, .inl (kI, 24, .inl held)), (m5, .inl (kJ, 12, .inr (.inl la))), (m6, .inl (kJ, 12, .inr (.inl lb))), (m7, .inl (kJ, 12, .inr (.inl lc)))] := hD
  have hl := lv_entry ([.ref m1, .int ia, .int ib, .int ic, .int id]) (n := 5) (Nat.le_of_ble_eq_true rfl)
  rw [lg_entry_eq]
  generalize (lg_sl ([.ref m1, .int ia, .int ib, .int ic, .int id]) ++ List.replicate (5 - (lg_sl ([.ref m1, .int ia, .int ib, .int ic, .int id])).length) Slot.unset).toArray = ls at hl ⊢
  have hl : lv_has ls 5 [(0, .ref m1), (1, .int ia), (2, .int ib), (3, .int ic), (4, .int id)] := hl
  refine lv_aload_n hx hb dX5_circle_0 rfl (lv_at hl 0 rfl) ?_
  refine lv_iconst (v := 0) hx hb dX5_circle_1 (by decide) ?_
  refine va_put (D := D) (ci := 9) (v := .int (0 : Int32)) (ty := .int) (C := RX5) (T := TX5) (N := 14) hx hb hts hinX5 tyX5 tyX5_ok nmX5 hown hK hP hD hS 0 rfl rfl 0 (by decide) (hts _ fk_X5_1) (fun _ h9 => h9) rfl (by decide +kernel) rfl rfl (Nat.le_of_ble_eq_true rfl) dX5_circle_2 (fun H locs hP hD hS => ?_)
  have hP : va_P D vwCl [(m1, .inr (9, [.int (0 : Int32), .int pm, .ref m2, .ref m3, .int rm, .ref m4, .int on, .int cl, .int un, .int ze, .int lm, .ref m5, .ref m6, .ref m7])), (m2, .inl (kI, 60, .inl xs)), (m3, .inl (kI, 60, .inl ys)), (m4, .inl (kI, 24, .inl held)), (m5, .inl (kJ, 12, .inr (.inl la))), (m6, .inl (kJ, 12, .inr (.inl lb))), (m7, .inl (kJ, 12, .inr (.inl lc)))] H := hP
  have hD : va_D A [(m1, .inr (9, [.int (0 : Int32), .int pm, .ref m2, .ref m3, .int rm, .ref m4, .int on, .int cl, .int un, .int ze, .int lm, .ref m5, .ref m6, .ref m7])), (m2, .inl (kI, 60, .inl xs)), (m3, .inl (kI, 60, .inl ys)), (m4, .inl (kI, 24, .inl held)), (m5, .inl (kJ, 12, .inr (.inl la))), (m6, .inl (kJ, 12, .inr (.inl lb))), (m7, .inl (kJ, 12, .inr (.inl lc)))] := hD
  refine lv_aload_n hx hb dX5_circle_5 rfl (lv_at hl 0 rfl) ?_
  refine lv_iload_n hx hb dX5_circle_6 rfl (lv_at hl 1 rfl) ?_
  refine xr_V (q := (RX5, TX5, 14)) (ci := 9) (q0 := 0) (rest := []) (As := [.int ia]) ⟨hx, hb, hml, hown, hts⟩ (ct5_isPoint l D m1 m2 m3 m4 m5 m6 m7 kI kJ xs ys held la lb lc (0 : Int32) pm rm on cl un ze lm ia ) (cwV 1 hts gl_X5_69 rfl rfl rfl (by decide +kernel) ⟨Nat.le_of_ble_eq_true rfl, Nat.le_of_ble_eq_true rfl⟩) nN_mv hN hK hP [0, 1, 2, 3, 4, 5, 6] [0, 1] rfl rfl rfl rfl rfl hl.1 rfl (Nat.le_of_ble_eq_true rfl) dX5_circle_7 ⟨Nat.le_of_ble_eq_true rfl, Nat.le_of_ble_eq_true rfl⟩ ?_
  refine lv_if_eq (tgt := 38) hx hb dX5_circle_10 (by decide) (fun c1 => ?_) (fun c1 => ?_)
  · refine lv_bipush (v := (-2)) hx hb dX5_circle_38 (by decide) ?_
    have hP9 := hP
    have hD9 := hD
    have hS9 := hS
    have qv : fX5_circle xs ys pm on cl un ze ia ib ic id = (-2 : Int32) := by unfold fX5_circle; rw [if_pos c1]
    have q_cl : gX5_circle_cl xs ys pm on cl un ze ia ib ic id = cl := by unfold gX5_circle_cl; rw [if_pos c1]
    have q_un : gX5_circle_un xs ys pm on cl un ze ia ib ic id = un := by unfold gX5_circle_un; rw [if_pos c1]
    have q_ze : gX5_circle_ze xs ys pm on cl un ze ia ib ic id = ze := by unfold gX5_circle_ze; rw [if_pos c1]
    rw [qv, q_cl, q_un, q_ze]
    exact W.iret (v := (-2 : Int32)) hx hb hr (fun t ht hW => ⟨⟨rfl, by rw [ht]; exact hP9, by rw [hAe]; exact hD9⟩, by rw [hAe]; exact hS9.F ht⟩) hS9.2.2 dX5_circle_40
  · refine lv_aload_n hx hb dX5_circle_13 rfl (lv_at hl 0 rfl) ?_
    refine lv_iload_n hx hb dX5_circle_14 rfl (lv_at hl 2 rfl) ?_
    refine xr_V (q := (RX5, TX5, 14)) (ci := 9) (q0 := 0) (rest := []) (As := [.int ib]) ⟨hx, hb, hml, hown, hts⟩ (ct5_isPoint l D m1 m2 m3 m4 m5 m6 m7 kI kJ xs ys held la lb lc (0 : Int32) pm rm on cl un ze lm ib ) (cwV 1 hts gl_X5_69 rfl rfl rfl (by decide +kernel) ⟨Nat.le_of_ble_eq_true rfl, Nat.le_of_ble_eq_true rfl⟩) nN_mv hN hK hP [0, 1, 2, 3, 4, 5, 6] [0, 1] rfl rfl rfl rfl rfl hl.1 rfl (Nat.le_of_ble_eq_true rfl) dX5_circle_15 ⟨Nat.le_of_ble_eq_true rfl, Nat.le_of_ble_eq_true rfl⟩ ?_
    refine lv_if_eq (tgt := 38) hx hb dX5_circle_18 (by decide) (fun c2 => ?_) (fun c2 => ?_)
    · refine lv_bipush (v := (-2)) hx hb dX5_circle_38 (by decide) ?_
      have hP9 := hP
      have hD9 := hD
      have hS9 := hS
      have qv : fX5_circle xs ys pm on cl un ze ia ib ic id = (-2 : Int32) := by unfold fX5_circle; rw [if_neg c1, if_pos c2]
      have q_cl : gX5_circle_cl xs ys pm on cl un ze ia ib ic id = cl := by unfold gX5_circle_cl; rw [if_neg c1, if_pos c2]
      have q_un : gX5_circle_un xs ys pm on cl un ze ia ib ic id = un := by unfold gX5_circle_un; rw [if_neg c1, if_pos c2]
      have q_ze : gX5_circle_ze xs ys pm on cl un ze ia ib ic id = ze := by unfold gX5_circle_ze; rw [if_neg c1, if_pos c2]
      rw [qv, q_cl, q_un, q_ze]
      exact W.iret (v := (-2 : Int32)) hx hb hr (fun t ht hW => ⟨⟨rfl, by rw [ht]; exact hP9, by rw [hAe]; exact hD9⟩, by rw [hAe]; exact hS9.F ht⟩) hS9.2.2 dX5_circle_40
    · refine lv_aload_n hx hb dX5_circle_21 rfl (lv_at hl 0 rfl) ?_
      refine lv_iload_n hx hb dX5_circle_22 rfl (lv_at hl 3 rfl) ?_
      refine xr_V (q := (RX5, TX5, 14)) (ci := 9) (q0 := 0) (rest := []) (As := [.int ic]) ⟨hx, hb, hml, hown, hts⟩ (ct5_isPoint l D m1 m2 m3 m4 m5 m6 m7 kI kJ xs ys held la lb lc (0 : Int32) pm rm on cl un ze lm ic ) (cwV 1 hts gl_X5_69 rfl rfl rfl (by decide +kernel) ⟨Nat.le_of_ble_eq_true rfl, Nat.le_of_ble_eq_true rfl⟩) nN_mv hN hK hP [0, 1, 2, 3, 4, 5, 6] [0, 1] rfl rfl rfl rfl rfl hl.1 rfl (Nat.le_of_ble_eq_true rfl) dX5_circle_23 ⟨Nat.le_of_ble_eq_true rfl, Nat.le_of_ble_eq_true rfl⟩ ?_
      refine lv_if_eq (tgt := 38) hx hb dX5_circle_26 (by decide) (fun c3 => ?_) (fun c3 => ?_)
      · refine lv_bipush (v := (-2)) hx hb dX5_circle_38 (by decide) ?_
        have hP9 := hP
        have hD9 := hD
        have hS9 := hS
        have qv : fX5_circle xs ys pm on cl un ze ia ib ic id = (-2 : Int32) := by unfold fX5_circle; rw [if_neg c1, if_neg c2, if_pos c3]
        have q_cl : gX5_circle_cl xs ys pm on cl un ze ia ib ic id = cl := by unfold gX5_circle_cl; rw [if_neg c1, if_neg c2, if_pos c3]
        have q_un : gX5_circle_un xs ys pm on cl un ze ia ib ic id = un := by unfold gX5_circle_un; rw [if_neg c1, if_neg c2, if_pos c3]
        have q_ze : gX5_circle_ze xs ys pm on cl un ze ia ib ic id = ze := by unfold gX5_circle_ze; rw [if_neg c1, if_neg c2, if_pos c3]
        rw [qv, q_cl, q_un, q_ze]
        exact W.iret (v := (-2 : Int32)) hx hb hr (fun t ht hW => ⟨⟨rfl, by rw [ht]; exact hP9, by rw [hAe]; exact hD9⟩, by rw [hAe]; exact hS9.F ht⟩) hS9.2.2 dX5_circle_40
      · refine lv_aload_n hx hb dX5_circle_29 rfl (lv_at hl 0 rfl) ?_
        refine lv_iload hx hb dX5_circle_30 (lv_at hl 4 rfl) ?_
        refine xr_V (q := (RX5, TX5, 14)) (ci := 9) (q0 := 0) (rest := []) (As := [.int id]) ⟨hx, hb, hml, hown, hts⟩ (ct5_isPoint l D m1 m2 m3 m4 m5 m6 m7 kI kJ xs ys held la lb lc (0 : Int32) pm rm on cl un ze lm id ) (cwV 1 hts gl_X5_69 rfl rfl rfl (by decide +kernel) ⟨Nat.le_of_ble_eq_true rfl, Nat.le_of_ble_eq_true rfl⟩) nN_mv hN hK hP [0, 1, 2, 3, 4, 5, 6] [0, 1] rfl rfl rfl rfl rfl hl.1 rfl (Nat.le_of_ble_eq_true rfl) dX5_circle_32 ⟨Nat.le_of_ble_eq_true rfl, Nat.le_of_ble_eq_true rfl⟩ ?_
        refine lv_if_ne (tgt := 41) hx hb dX5_circle_35 (by decide) (fun c4 => ?_) (fun c4 => ?_)
        · refine lv_aload_n hx hb dX5_circle_41 rfl (lv_at hl 0 rfl) ?_
          refine lv_iload_n hx hb dX5_circle_42 rfl (lv_at hl 1 rfl) ?_
          refine lv_iload_n hx hb dX5_circle_43 rfl (lv_at hl 2 rfl) ?_
          refine lv_iload_n hx hb dX5_circle_44 rfl (lv_at hl 3 rfl) ?_
          refine xr_V (q := (RX5, TX5, 14)) (ci := 9) (q0 := 0) (rest := []) (As := [.int ia, .int ib, .int ic]) ⟨hx, hb, hml, hown, hts⟩ (ct5_turn l D m1 m2 m3 m4 m5 m6 m7 kI kJ xs ys held la lb lc (0 : Int32) pm rm on cl un ze lm ia ib ic (o_pt c1 opm) (o_pt c2 opm) (o_pt c3 opm)) (cwV 3 hts gl_X5_58 rfl rfl rfl (by decide +kernel) ⟨Nat.le_of_ble_eq_true rfl, Nat.le_of_ble_eq_true rfl⟩) nN_mv hN hK hP [0, 1, 2, 3, 4, 5, 6] [0, 1] rfl rfl rfl rfl rfl hl.1 rfl (Nat.le_of_ble_eq_true rfl) dX5_circle_45 ⟨Nat.le_of_ble_eq_true rfl, Nat.le_of_ble_eq_true rfl⟩ ?_
          refine lv_if_ne (tgt := 56) hx hb dX5_circle_48 (by decide) (fun c5 => ?_) (fun c5 => ?_)
          · refine lv_aload_n hx hb dX5_circle_56 rfl (lv_at hl 0 rfl) ?_
            refine lv_aload_n hx hb dX5_circle_57 rfl (lv_at hl 0 rfl) ?_
            refine lv_iload_n hx hb dX5_circle_58 rfl (lv_at hl 1 rfl) ?_
            refine lv_iload_n hx hb dX5_circle_59 rfl (lv_at hl 2 rfl) ?_
            refine lv_iload_n hx hb dX5_circle_60 rfl (lv_at hl 3 rfl) ?_
            refine lv_iload hx hb dX5_circle_61 (lv_at hl 4 rfl) ?_
            refine xr_V (q := (RX5, TX5, 14)) (ci := 9) (q0 := 0) (rest := [.ref m1]) (As := [.int ia, .int ib, .int ic, .int id]) ⟨hx, hb, hml, hown, hts⟩ (ct5_decidesRing l D m1 m2 m3 m4 m5 m6 m7 kI kJ xs ys held la lb lc (0 : Int32) pm rm on cl un ze lm ia ib ic id (o_pt c1 opm) (o_pt c2 opm) (o_pt c3 opm) (o_pt c4 opm) bx by_) (cwV 4 hts gl_X5_119 rfl rfl rfl (by decide +kernel) ⟨Nat.le_of_ble_eq_true rfl, Nat.le_of_ble_eq_true rfl⟩) nN_mv hN hK hP [0, 1, 2, 3, 4, 5, 6] [0, 1] rfl rfl rfl rfl rfl hl.1 rfl (Nat.le_of_ble_eq_true rfl) dX5_circle_63 ⟨Nat.le_of_ble_eq_true rfl, Nat.le_of_ble_eq_true rfl⟩ ?_
            refine lv_aload_n hx hb dX5_circle_66 rfl (lv_at hl 0 rfl) ?_
            refine lv_iload_n hx hb dX5_circle_67 rfl (lv_at hl 1 rfl) ?_
            refine lv_iload_n hx hb dX5_circle_68 rfl (lv_at hl 2 rfl) ?_
            refine lv_iload_n hx hb dX5_circle_69 rfl (lv_at hl 3 rfl) ?_
            refine lv_iload hx hb dX5_circle_70 (lv_at hl 4 rfl) ?_
            refine xr_V (q := (RX5, TX5, 14)) (ci := 9) (q0 := 0) (rest := [.int (fX5_decidesRing xs ys ia ib ic id), .ref m1]) (As := [.int ia, .int ib, .int ic, .int id]) ⟨hx, hb, hml, hown, hts⟩ (ct5_ring l D m1 m2 m3 m4 m5 m6 m7 kI kJ xs ys held la lb lc (0 : Int32) pm rm on cl un ze lm ia ib ic id (o_pt c1 opm) (o_pt c2 opm) (o_pt c3 opm) (o_pt c4 opm)) (cwV 4 hts gl_X5_123 rfl rfl rfl (by decide +kernel) ⟨Nat.le_of_ble_eq_true rfl, Nat.le_of_ble_eq_true rfl⟩) nN_mv hN hK hP [0, 1, 2, 3, 4, 5, 6] [0, 1] rfl rfl rfl rfl rfl hl.1 rfl (Nat.le_of_ble_eq_true rfl) dX5_circle_72 ⟨Nat.le_of_ble_eq_true rfl, Nat.le_of_ble_eq_true rfl⟩ ?_
            refine xw_V (q := (RX5, TX5, 14)) (ci := 9) (q0 := 0) (rest := []) (As := [.int (fX5_decidesRing xs ys ia ib ic id), .int (fX5_ring xs ys ia ib ic id)]) (wr := []) (w1 := (wMo m1 m2 m3 m4 m5 m6 m7 kI kJ xs ys held la lb lc (0 : Int32) pm rm on (gX5_counted_cl on cl un ze (fX5_decidesRing xs ys ia ib ic id) (fX5_ring xs ys ia ib ic id)) (gX5_counted_un on cl un ze (fX5_decidesRing xs ys ia ib ic id) (fX5_ring xs ys ia ib ic id)) (gX5_counted_ze on cl un ze (fX5_decidesRing xs ys ia ib ic id) (fX5_ring xs ys ia ib ic id)) lm)) (ws' := [(m1, .inr (9, [.int (0 : Int32), .int pm, .ref m2, .ref m3, .int rm, .ref m4, .int on, .int (gX5_counted_cl on cl un ze (fX5_decidesRing xs ys ia ib ic id) (fX5_ring xs ys ia ib ic id)), .int (gX5_counted_un on cl un ze (fX5_decidesRing xs ys ia ib ic id) (fX5_ring xs ys ia ib ic id)), .int (gX5_counted_ze on cl un ze (fX5_decidesRing xs ys ia ib ic id) (fX5_ring xs ys ia ib ic id)), .int lm, .ref m5, .ref m6, .ref m7])), (m2, .inl (kI, 60, .inl xs)), (m3, .inl (kI, 60, .inl ys)), (m4, .inl (kI, 24, .inl held)), (m5, .inl (kJ, 12, .inr (.inl la))), (m6, .inl (kJ, 12, .inr (.inl lb))), (m7, .inl (kJ, 12, .inr (.inl lc)))]) ⟨hx, hb, hml, hown, hts⟩ (ct5_counted l D _ m1 m2 m3 m4 m5 m6 m7 kI kJ xs ys held la lb lc (0 : Int32) pm rm on cl un ze lm (fX5_decidesRing xs ys ia ib ic id) (fX5_ring xs ys ia ib ic id) ) (cwV 2 hts gl_X5_115 rfl rfl rfl (by decide +kernel) ⟨Nat.le_of_ble_eq_true rfl, Nat.le_of_ble_eq_true rfl⟩) nN_mv hN hK hP hD hS hA [0, 1, 2, 3, 4, 5, 6] [] [0, 1, 2, 3, 4, 5, 6] [0, 1] rfl (by decide) rfl rfl rfl (by decide) (by decide) rfl (by decide) rfl rfl rfl rfl hl.1 rfl (Nat.le_of_ble_eq_true rfl) dX5_circle_75 ⟨Nat.le_of_ble_eq_true rfl, Nat.le_of_ble_eq_true rfl⟩ (fun H locs hP hD hS => ?_)
            have hP : va_P D vwCl [(m1, .inr (9, [.int (0 : Int32), .int pm, .ref m2, .ref m3, .int rm, .ref m4, .int on, .int (gX5_counted_cl on cl un ze (fX5_decidesRing xs ys ia ib ic id) (fX5_ring xs ys ia ib ic id)), .int (gX5_counted_un on cl un ze (fX5_decidesRing xs ys ia ib ic id) (fX5_ring xs ys ia ib ic id)), .int (gX5_counted_ze on cl un ze (fX5_decidesRing xs ys ia ib ic id) (fX5_ring xs ys ia ib ic id)), .int lm, .ref m5, .ref m6, .ref m7])), (m2, .inl (kI, 60, .inl xs)), (m3, .inl (kI, 60, .inl ys)), (m4, .inl (kI, 24, .inl held)), (m5, .inl (kJ, 12, .inr (.inl la))), (m6, .inl (kJ, 12, .inr (.inl lb))), (m7, .inl (kJ, 12, .inr (.inl lc)))] H := hP
            have hD : va_D A [(m1, .inr (9, [.int (0 : Int32), .int pm, .ref m2, .ref m3, .int rm, .ref m4, .int on, .int (gX5_counted_cl on cl un ze (fX5_decidesRing xs ys ia ib ic id) (fX5_ring xs ys ia ib ic id)), .int (gX5_counted_un on cl un ze (fX5_decidesRing xs ys ia ib ic id) (fX5_ring xs ys ia ib ic id)), .int (gX5_counted_ze on cl un ze (fX5_decidesRing xs ys ia ib ic id) (fX5_ring xs ys ia ib ic id)), .int lm, .ref m5, .ref m6, .ref m7])), (m2, .inl (kI, 60, .inl xs)), (m3, .inl (kI, 60, .inl ys)), (m4, .inl (kI, 24, .inl held)), (m5, .inl (kJ, 12, .inr (.inl la))), (m6, .inl (kJ, 12, .inr (.inl lb))), (m7, .inl (kJ, 12, .inr (.inl lc)))] := hD
            have hP9 := hP
            have hD9 := hD
            have hS9 := hS
            have qv : fX5_circle xs ys pm on cl un ze ia ib ic id = fX5_counted on cl un ze (fX5_decidesRing xs ys ia ib ic id) (fX5_ring xs ys ia ib ic id) := by unfold fX5_circle; rw [if_neg c1, if_neg c2, if_neg c3, if_neg c4, if_neg c5]
            have q_cl : gX5_circle_cl xs ys pm on cl un ze ia ib ic id = gX5_counted_cl on cl un ze (fX5_decidesRing xs ys ia ib ic id) (fX5_ring xs ys ia ib ic id) := by unfold gX5_circle_cl; rw [if_neg c1, if_neg c2, if_neg c3, if_neg c4, if_neg c5]
            have q_un : gX5_circle_un xs ys pm on cl un ze ia ib ic id = gX5_counted_un on cl un ze (fX5_decidesRing xs ys ia ib ic id) (fX5_ring xs ys ia ib ic id) := by unfold gX5_circle_un; rw [if_neg c1, if_neg c2, if_neg c3, if_neg c4, if_neg c5]
            have q_ze : gX5_circle_ze xs ys pm on cl un ze ia ib ic id = gX5_counted_ze on cl un ze (fX5_decidesRing xs ys ia ib ic id) (fX5_ring xs ys ia ib ic id) := by unfold gX5_circle_ze; rw [if_neg c1, if_neg c2, if_neg c3, if_neg c4, if_neg c5]
            rw [qv, q_cl, q_un, q_ze]
            exact W.iret (v := fX5_counted on cl un ze (fX5_decidesRing xs ys ia ib ic id) (fX5_ring xs ys ia ib ic id)) hx hb hr (fun t ht hW => ⟨⟨rfl, by rw [ht]; exact hP9, by rw [hAe]; exact hD9⟩, by rw [hAe]; exact hS9.F ht⟩) hS9.2.2 dX5_circle_78
          · refine lv_bipush (v := (-4)) hx hb dX5_circle_51 (by decide) ?_
            refine lv_goto (tgt := 78) hx hb dX5_circle_53 (by decide) ?_
            have hP9 := hP
            have hD9 := hD
            have hS9 := hS
            have qv : fX5_circle xs ys pm on cl un ze ia ib ic id = (-4 : Int32) := by unfold fX5_circle; rw [if_neg c1, if_neg c2, if_neg c3, if_neg c4, if_pos c5]
            have q_cl : gX5_circle_cl xs ys pm on cl un ze ia ib ic id = cl := by unfold gX5_circle_cl; rw [if_neg c1, if_neg c2, if_neg c3, if_neg c4, if_pos c5]
            have q_un : gX5_circle_un xs ys pm on cl un ze ia ib ic id = un := by unfold gX5_circle_un; rw [if_neg c1, if_neg c2, if_neg c3, if_neg c4, if_pos c5]
            have q_ze : gX5_circle_ze xs ys pm on cl un ze ia ib ic id = ze := by unfold gX5_circle_ze; rw [if_neg c1, if_neg c2, if_neg c3, if_neg c4, if_pos c5]
            rw [qv, q_cl, q_un, q_ze]
            exact W.iret (v := (-4 : Int32)) hx hb hr (fun t ht hW => ⟨⟨rfl, by rw [ht]; exact hP9, by rw [hAe]; exact hD9⟩, by rw [hAe]; exact hS9.F ht⟩) hS9.2.2 dX5_circle_78
        · refine lv_bipush (v := (-2)) hx hb dX5_circle_38 (by decide) ?_
          have hP9 := hP
          have hD9 := hD
          have hS9 := hS
          have qv : fX5_circle xs ys pm on cl un ze ia ib ic id = (-2 : Int32) := by unfold fX5_circle; rw [if_neg c1, if_neg c2, if_neg c3, if_pos c4]
          have q_cl : gX5_circle_cl xs ys pm on cl un ze ia ib ic id = cl := by unfold gX5_circle_cl; rw [if_neg c1, if_neg c2, if_neg c3, if_pos c4]
          have q_un : gX5_circle_un xs ys pm on cl un ze ia ib ic id = un := by unfold gX5_circle_un; rw [if_neg c1, if_neg c2, if_neg c3, if_pos c4]
          have q_ze : gX5_circle_ze xs ys pm on cl un ze ia ib ic id = ze := by unfold gX5_circle_ze; rw [if_neg c1, if_neg c2, if_neg c3, if_pos c4]
          rw [qv, q_cl, q_un, q_ze]
          exact W.iret (v := (-2 : Int32)) hx hb hr (fun t ht hW => ⟨⟨rfl, by rw [ht]; exact hP9, by rw [hAe]; exact hD9⟩, by rw [hAe]; exact hS9.F ht⟩) hS9.2.2 dX5_circle_40
def fX5_filter (on : Int32) (bn : Int32) : Int32 := if on = (0 : Int32) then ((0 : Int32)) else ((1 : Int32))
def gX5_filter_on (on : Int32) (bn : Int32) : Int32 := if on = (0 : Int32) then (bn) else (bn)
set_option maxHeartbeats 4000000 in
set_option maxRecDepth 100000 in
theorem ct5_filter (l : Launch) (D : va_G) (sz : Nat) (m1 m2 m3 m4 m5 m6 m7 : Nat) (kI kJ : ClassId) (xs ys held : Nat → Int32) (la lb lc : Nat → Int64) (th pm rm on cl un ze lm : Int32) (bn : Int32) (hbn : bn = 0 ∨ bn = 1) : Met l yX5_filter (Cond.code yX5_filter cX5_filter 3 (some .int) :: BY) ({ frames := 0, cells := 0, slots := 0, locals := 0 }) (xw_P nN D vwCl [(kI, .int), (kJ, .long)] (wMo m1 m2 m3 m4 m5 m6 m7 kI kJ xs ys held la lb lc th pm rm on cl un ze lm) sz [.ref m1, .int bn]) (xw_Q D vwCl (some (.int (fX5_filter on bn))) (wMo m1 m2 m3 m4 m5 m6 m7 kI kJ xs ys held la lb lc th pm rm on cl un ze lm) (wMo m1 m2 m3 m4 m5 m6 m7 kI kJ xs ys held la lb lc (0 : Int32) pm rm (gX5_filter_on on bn) cl un ze lm) sz) 0 0 (va_A (wMo m1 m2 m3 m4 m5 m6 m7 kI kJ xs ys held la lb lc th pm rm on cl un ze lm) sz) := by
  refine Met.ofW (cc := cX5_filter) (maxL := 3) (ret := (some .int)) (by decide) rfl ?_
  intro p e s m args below meth c s₁ B hml hv
  obtain ⟨rfl, hsz, hP, hK, hN, hD0⟩ := hv
  have hx := B.exec
  have hb := B.bytes
  have hr := B.returns
  have hts0 := atoms_spec (ws := Cond.code yX5_filter cX5_filter 3 (some .int) :: BY) B.pre
  have hts : ∀ w ∈ BY, w.before _ s = true := fun w h => hts0 w (List.mem_cons_of_mem _ h)
  have hown : s.vm.findClass RX5 = some m.cls := findClass_of_methodNamed B.named
  have hlocks := B.notSynchronized
  subst hsz
  have hD := hD0.self (sz := s.heap.size)
  generalize hAe : va_A (wMo m1 m2 m3 m4 m5 m6 m7 kI kJ xs ys held la lb lc th pm rm on cl un ze lm) s.heap.size = A at hD ⊢
  have hA : ∀ q : Nat, s.heap.size ≤ q → A q := fun q h => by rw [← hAe]; exact Or.inr h
  have hS : va_S A s.heap s.heap [] := va_S.rf
  have hP : va_P D vwCl [(m1, .inr (9, [.int th, .int pm, .ref m2, .ref m3, .int rm, .ref m4, .int on, .int cl, .int un, .int ze, .int lm, .ref m5, .ref m6, .ref m7])), (m2, .inl (kI, 60, .inl xs)), (m3, .inl (kI, 60, .inl ys)), (m4, .inl (kI, 24, .inl held)), (m5, .inl (kJ, 12, .inr (.inl la))), (m6, .inl (kJ, 12, .inr (.inl lb))), (m7, .inl (kJ, 12, .inr (.inl lc)))] s.heap := hP
  have hD : va_D A [(m1, .inr (9, [.int th, .int pm, .ref m2, .ref m3, .int rm, .ref m4, .int on, .int cl, .int un, .int ze, .int lm, .ref m5, .ref m6, .ref m7])), (m2, .inl (kI, 60, .inl xs)), (m3, .inl (kI, 60, .inl ys)), (m4, .inl (kI, 24, .inl held)), (m5, .inl (kJ, 12, .inr (.inl la))), (m6, .inl (kJ, 12, .inr (.inl lb))), (m7, .inl (kJ, 12, .inr (.inl lc)))] := hD
  have hl := lv_entry ([.ref m1, .int bn]) (n := 3) (Nat.le_of_ble_eq_true rfl)
  rw [lg_entry_eq]
  generalize (lg_sl ([.ref m1, .int bn]) ++ List.replicate (3 - (lg_sl ([.ref m1, .int bn])).length) Slot.unset).toArray = ls at hl ⊢
  have hl : lv_has ls 3 [(0, .ref m1), (1, .int bn)] := hl
  refine lv_aload_n hx hb dX5_filter_0 rfl (lv_at hl 0 rfl) ?_
  refine lv_iconst (v := 0) hx hb dX5_filter_1 (by decide) ?_
  refine va_put (D := D) (ci := 9) (v := .int (0 : Int32)) (ty := .int) (C := RX5) (T := TX5) (N := 14) hx hb hts hinX5 tyX5 tyX5_ok nmX5 hown hK hP hD hS 0 rfl rfl 0 (by decide) (hts _ fk_X5_1) (fun _ h9 => h9) rfl (by decide +kernel) rfl rfl (Nat.le_of_ble_eq_true rfl) dX5_filter_2 (fun H locs hP hD hS => ?_)
  have hP : va_P D vwCl [(m1, .inr (9, [.int (0 : Int32), .int pm, .ref m2, .ref m3, .int rm, .ref m4, .int on, .int cl, .int un, .int ze, .int lm, .ref m5, .ref m6, .ref m7])), (m2, .inl (kI, 60, .inl xs)), (m3, .inl (kI, 60, .inl ys)), (m4, .inl (kI, 24, .inl held)), (m5, .inl (kJ, 12, .inr (.inl la))), (m6, .inl (kJ, 12, .inr (.inl lb))), (m7, .inl (kJ, 12, .inr (.inl lc)))] H := hP
  have hD : va_D A [(m1, .inr (9, [.int (0 : Int32), .int pm, .ref m2, .ref m3, .int rm, .ref m4, .int on, .int cl, .int un, .int ze, .int lm, .ref m5, .ref m6, .ref m7])), (m2, .inl (kI, 60, .inl xs)), (m3, .inl (kI, 60, .inl ys)), (m4, .inl (kI, 24, .inl held)), (m5, .inl (kJ, 12, .inr (.inl la))), (m6, .inl (kJ, 12, .inr (.inl lb))), (m7, .inl (kJ, 12, .inr (.inl lc)))] := hD
  refine lv_aload_n hx hb dX5_filter_5 rfl (lv_at hl 0 rfl) ?_
  refine va_get (D := D) (ci := 9) (v := .int on) (C := RX5) (T := TX5) (N := 14) hx hb hts hinX5 hown hK hP 0 rfl rfl 6 (by decide) (hts _ fk_X5_23) (fun _ h9 => h9) rfl dX5_filter_6 ?_
  refine lv_if_eq (tgt := 16) hx hb dX5_filter_9 (by decide) (fun c1 => ?_) (fun c1 => ?_)
  · refine lv_iconst (v := 0) hx hb dX5_filter_16 (by decide) ?_
    refine lv_istore_n (lv' := [(2, .int (0 : Int32)), (0, .ref m1), (1, .int bn)]) hx hb dX5_filter_17 rfl hl (by decide) rfl (fun ls hl => ?_)
    refine lv_aload_n hx hb dX5_filter_18 rfl (lv_at hl 1 rfl) ?_
    refine lv_iload_n hx hb dX5_filter_19 rfl (lv_at hl 2 rfl) ?_
    refine va_put (D := D) (ci := 9) (v := .int bn) (ty := .boolean) (C := RX5) (T := TX5) (N := 14) hx hb hts hinX5 tyX5 tyX5_ok nmX5 hown hK hP hD hS 0 rfl rfl 6 (by decide) (hts _ fk_X5_23) (fun _ h9 => h9) rfl (by decide +kernel) (bz hbn) (bf hbn) (Nat.le_of_ble_eq_true rfl) dX5_filter_20 (fun H locs hP hD hS => ?_)
    have hP : va_P D vwCl [(m1, .inr (9, [.int (0 : Int32), .int pm, .ref m2, .ref m3, .int rm, .ref m4, .int bn, .int cl, .int un, .int ze, .int lm, .ref m5, .ref m6, .ref m7])), (m2, .inl (kI, 60, .inl xs)), (m3, .inl (kI, 60, .inl ys)), (m4, .inl (kI, 24, .inl held)), (m5, .inl (kJ, 12, .inr (.inl la))), (m6, .inl (kJ, 12, .inr (.inl lb))), (m7, .inl (kJ, 12, .inr (.inl lc)))] H := hP
    have hD : va_D A [(m1, .inr (9, [.int (0 : Int32), .int pm, .ref m2, .ref m3, .int rm, .ref m4, .int bn, .int cl, .int un, .int ze, .int lm, .ref m5, .ref m6, .ref m7])), (m2, .inl (kI, 60, .inl xs)), (m3, .inl (kI, 60, .inl ys)), (m4, .inl (kI, 24, .inl held)), (m5, .inl (kJ, 12, .inr (.inl la))), (m6, .inl (kJ, 12, .inr (.inl lb))), (m7, .inl (kJ, 12, .inr (.inl lc)))] := hD
    refine lv_iload_n hx hb dX5_filter_23 rfl (lv_at hl 0 rfl) ?_
    have hP9 := hP
    have hD9 := hD
    have hS9 := hS
    have qv : fX5_filter on bn = (0 : Int32) := by unfold fX5_filter; rw [if_pos c1]
    have q_on : gX5_filter_on on bn = bn := by unfold gX5_filter_on; rw [if_pos c1]
    rw [qv, q_on]
    exact W.iret (v := (0 : Int32)) hx hb hr (fun t ht hW => ⟨⟨rfl, by rw [ht]; exact hP9, by rw [hAe]; exact hD9⟩, by rw [hAe]; exact hS9.F ht⟩) hS9.2.2 dX5_filter_24
  · refine lv_iconst (v := 1) hx hb dX5_filter_12 (by decide) ?_
    refine lv_goto (tgt := 17) hx hb dX5_filter_13 (by decide) ?_
    refine lv_istore_n (lv' := [(2, .int (1 : Int32)), (0, .ref m1), (1, .int bn)]) hx hb dX5_filter_17 rfl hl (by decide) rfl (fun ls hl => ?_)
    refine lv_aload_n hx hb dX5_filter_18 rfl (lv_at hl 1 rfl) ?_
    refine lv_iload_n hx hb dX5_filter_19 rfl (lv_at hl 2 rfl) ?_
    refine va_put (D := D) (ci := 9) (v := .int bn) (ty := .boolean) (C := RX5) (T := TX5) (N := 14) hx hb hts hinX5 tyX5 tyX5_ok nmX5 hown hK hP hD hS 0 rfl rfl 6 (by decide) (hts _ fk_X5_23) (fun _ h9 => h9) rfl (by decide +kernel) (bz hbn) (bf hbn) (Nat.le_of_ble_eq_true rfl) dX5_filter_20 (fun H locs hP hD hS => ?_)
    have hP : va_P D vwCl [(m1, .inr (9, [.int (0 : Int32), .int pm, .ref m2, .ref m3, .int rm, .ref m4, .int bn, .int cl, .int un, .int ze, .int lm, .ref m5, .ref m6, .ref m7])), (m2, .inl (kI, 60, .inl xs)), (m3, .inl (kI, 60, .inl ys)), (m4, .inl (kI, 24, .inl held)), (m5, .inl (kJ, 12, .inr (.inl la))), (m6, .inl (kJ, 12, .inr (.inl lb))), (m7, .inl (kJ, 12, .inr (.inl lc)))] H := hP
    have hD : va_D A [(m1, .inr (9, [.int (0 : Int32), .int pm, .ref m2, .ref m3, .int rm, .ref m4, .int bn, .int cl, .int un, .int ze, .int lm, .ref m5, .ref m6, .ref m7])), (m2, .inl (kI, 60, .inl xs)), (m3, .inl (kI, 60, .inl ys)), (m4, .inl (kI, 24, .inl held)), (m5, .inl (kJ, 12, .inr (.inl la))), (m6, .inl (kJ, 12, .inr (.inl lb))), (m7, .inl (kJ, 12, .inr (.inl lc)))] := hD
    refine lv_iload_n hx hb dX5_filter_23 rfl (lv_at hl 0 rfl) ?_
    have hP9 := hP
    have hD9 := hD
    have hS9 := hS
    have qv : fX5_filter on bn = (1 : Int32) := by unfold fX5_filter; rw [if_neg c1]
    have q_on : gX5_filter_on on bn = bn := by unfold gX5_filter_on; rw [if_neg c1]
    rw [qv, q_on]
    exact W.iret (v := (1 : Int32)) hx hb hr (fun t ht hW => ⟨⟨rfl, by rw [ht]; exact hP9, by rw [hAe]; exact hD9⟩, by rw [hAe]; exact hS9.F ht⟩) hS9.2.2 dX5_filter_24
def fX5_decided (cl un ze : Int32) (wh : Int32) : Int32 := if wh = (0 : Int32) then (cl) else (if wh = (1 : Int32) then (un) else (if wh = (2 : Int32) then (ze) else ((-2 : Int32))))
set_option maxHeartbeats 4000000 in
set_option maxRecDepth 100000 in
theorem ct5_decided (l : Launch) (D : va_G) (sz : Nat) (m1 m2 m3 m4 m5 m6 m7 : Nat) (kI kJ : ClassId) (xs ys held : Nat → Int32) (la lb lc : Nat → Int64) (th pm rm on cl un ze lm : Int32) (wh : Int32) : Met l yX5_decided (Cond.code yX5_decided cX5_decided 2 (some .int) :: BY) ({ frames := 0, cells := 0, slots := 0, locals := 0 }) (xw_P nN D vwCl [(kI, .int), (kJ, .long)] (wMo m1 m2 m3 m4 m5 m6 m7 kI kJ xs ys held la lb lc th pm rm on cl un ze lm) sz [.ref m1, .int wh]) (xw_Q D vwCl (some (.int (fX5_decided cl un ze wh))) (wMo m1 m2 m3 m4 m5 m6 m7 kI kJ xs ys held la lb lc th pm rm on cl un ze lm) (wMo m1 m2 m3 m4 m5 m6 m7 kI kJ xs ys held la lb lc (0 : Int32) pm rm on cl un ze lm) sz) 0 0 (va_A (wMo m1 m2 m3 m4 m5 m6 m7 kI kJ xs ys held la lb lc th pm rm on cl un ze lm) sz) := by
  refine Met.ofW (cc := cX5_decided) (maxL := 2) (ret := (some .int)) (by decide) rfl ?_
  intro p e s m args below meth c s₁ B hml hv
  obtain ⟨rfl, hsz, hP, hK, hN, hD0⟩ := hv
  have hx := B.exec
  have hb := B.bytes
  have hr := B.returns
  have hts0 := atoms_spec (ws := Cond.code yX5_decided cX5_decided 2 (some .int) :: BY) B.pre
  have hts : ∀ w ∈ BY, w.before _ s = true := fun w h => hts0 w (List.mem_cons_of_mem _ h)
  have hown : s.vm.findClass RX5 = some m.cls := findClass_of_methodNamed B.named
  have hlocks := B.notSynchronized
  subst hsz
  have hD := hD0.self (sz := s.heap.size)
  generalize hAe : va_A (wMo m1 m2 m3 m4 m5 m6 m7 kI kJ xs ys held la lb lc th pm rm on cl un ze lm) s.heap.size = A at hD ⊢
  have hA : ∀ q : Nat, s.heap.size ≤ q → A q := fun q h => by rw [← hAe]; exact Or.inr h
  have hS : va_S A s.heap s.heap [] := va_S.rf
  have hP : va_P D vwCl [(m1, .inr (9, [.int th, .int pm, .ref m2, .ref m3, .int rm, .ref m4, .int on, .int cl, .int un, .int ze, .int lm, .ref m5, .ref m6, .ref m7])), (m2, .inl (kI, 60, .inl xs)), (m3, .inl (kI, 60, .inl ys)), (m4, .inl (kI, 24, .inl held)), (m5, .inl (kJ, 12, .inr (.inl la))), (m6, .inl (kJ, 12, .inr (.inl lb))), (m7, .inl (kJ, 12, .inr (.inl lc)))] s.heap := hP
  have hD : va_D A [(m1, .inr (9, [.int th, .int pm, .ref m2, .ref m3, .int rm, .ref m4, .int on, .int cl, .int un, .int ze, .int lm, .ref m5, .ref m6, .ref m7])), (m2, .inl (kI, 60, .inl xs)), (m3, .inl (kI, 60, .inl ys)), (m4, .inl (kI, 24, .inl held)), (m5, .inl (kJ, 12, .inr (.inl la))), (m6, .inl (kJ, 12, .inr (.inl lb))), (m7, .inl (kJ, 12, .inr (.inl lc)))] := hD
  have hl := lv_entry ([.ref m1, .int wh]) (n := 2) (Nat.le_of_ble_eq_true rfl)
  rw [lg_entry_eq]
  generalize (lg_sl ([.ref m1, .int wh]) ++ List.replicate (2 - (lg_sl ([.ref m1, .int wh])).length) Slot.unset).toArray = ls at hl ⊢
  have hl : lv_has ls 2 [(0, .ref m1), (1, .int wh)] := hl
  refine lv_aload_n hx hb dX5_decided_0 rfl (lv_at hl 0 rfl) ?_
  refine lv_iconst (v := 0) hx hb dX5_decided_1 (by decide) ?_
  refine va_put (D := D) (ci := 9) (v := .int (0 : Int32)) (ty := .int) (C := RX5) (T := TX5) (N := 14) hx hb hts hinX5 tyX5 tyX5_ok nmX5 hown hK hP hD hS 0 rfl rfl 0 (by decide) (hts _ fk_X5_1) (fun _ h9 => h9) rfl (by decide +kernel) rfl rfl (Nat.le_of_ble_eq_true rfl) dX5_decided_2 (fun H locs hP hD hS => ?_)
  have hP : va_P D vwCl [(m1, .inr (9, [.int (0 : Int32), .int pm, .ref m2, .ref m3, .int rm, .ref m4, .int on, .int cl, .int un, .int ze, .int lm, .ref m5, .ref m6, .ref m7])), (m2, .inl (kI, 60, .inl xs)), (m3, .inl (kI, 60, .inl ys)), (m4, .inl (kI, 24, .inl held)), (m5, .inl (kJ, 12, .inr (.inl la))), (m6, .inl (kJ, 12, .inr (.inl lb))), (m7, .inl (kJ, 12, .inr (.inl lc)))] H := hP
  have hD : va_D A [(m1, .inr (9, [.int (0 : Int32), .int pm, .ref m2, .ref m3, .int rm, .ref m4, .int on, .int cl, .int un, .int ze, .int lm, .ref m5, .ref m6, .ref m7])), (m2, .inl (kI, 60, .inl xs)), (m3, .inl (kI, 60, .inl ys)), (m4, .inl (kI, 24, .inl held)), (m5, .inl (kJ, 12, .inr (.inl la))), (m6, .inl (kJ, 12, .inr (.inl lb))), (m7, .inl (kJ, 12, .inr (.inl lc)))] := hD
  refine lv_iload_n hx hb dX5_decided_5 rfl (lv_at hl 1 rfl) ?_
  refine lv_if_ne (tgt := 16) hx hb dX5_decided_6 (by decide) (fun c1 => ?_) (fun c1 => ?_)
  · refine lv_iload_n hx hb dX5_decided_16 rfl (lv_at hl 1 rfl) ?_
    refine lv_iconst (v := 1) hx hb dX5_decided_17 (by decide) ?_
    refine lv_icmp_ne (tgt := 28) hx hb dX5_decided_18 (by decide) (fun c2 => ?_) (fun c2 => ?_)
    · refine lv_iload_n hx hb dX5_decided_28 rfl (lv_at hl 1 rfl) ?_
      refine lv_iconst (v := 2) hx hb dX5_decided_29 (by decide) ?_
      refine lv_icmp_ne (tgt := 40) hx hb dX5_decided_30 (by decide) (fun c3 => ?_) (fun c3 => ?_)
      · refine lv_bipush (v := (-2)) hx hb dX5_decided_40 (by decide) ?_
        have hP9 := hP
        have hD9 := hD
        have hS9 := hS
        have qv : fX5_decided cl un ze wh = (-2 : Int32) := by unfold fX5_decided; rw [if_neg c1, if_neg c2, if_neg c3]
        rw [qv]
        exact W.iret (v := (-2 : Int32)) hx hb hr (fun t ht hW => ⟨⟨rfl, by rw [ht]; exact hP9, by rw [hAe]; exact hD9⟩, by rw [hAe]; exact hS9.F ht⟩) hS9.2.2 dX5_decided_42
      · refine lv_aload_n hx hb dX5_decided_33 rfl (lv_at hl 0 rfl) ?_
        refine va_get (D := D) (ci := 9) (v := .int ze) (C := RX5) (T := TX5) (N := 14) hx hb hts hinX5 hown hK hP 0 rfl rfl 9 (by decide) (hts _ fk_X5_104) (fun _ h9 => h9) rfl dX5_decided_34 ?_
        refine lv_goto (tgt := 42) hx hb dX5_decided_37 (by decide) ?_
        have hP9 := hP
        have hD9 := hD
        have hS9 := hS
        have qv : fX5_decided cl un ze wh = ze := by unfold fX5_decided; rw [if_neg c1, if_neg c2, if_pos c3]
        rw [qv]
        exact W.iret (v := ze) hx hb hr (fun t ht hW => ⟨⟨rfl, by rw [ht]; exact hP9, by rw [hAe]; exact hD9⟩, by rw [hAe]; exact hS9.F ht⟩) hS9.2.2 dX5_decided_42
    · refine lv_aload_n hx hb dX5_decided_21 rfl (lv_at hl 0 rfl) ?_
      refine va_get (D := D) (ci := 9) (v := .int un) (C := RX5) (T := TX5) (N := 14) hx hb hts hinX5 hown hK hP 0 rfl rfl 8 (by decide) (hts _ fk_X5_101) (fun _ h9 => h9) rfl dX5_decided_22 ?_
      refine lv_goto (tgt := 42) hx hb dX5_decided_25 (by decide) ?_
      have hP9 := hP
      have hD9 := hD
      have hS9 := hS
      have qv : fX5_decided cl un ze wh = un := by unfold fX5_decided; rw [if_neg c1, if_pos c2]
      rw [qv]
      exact W.iret (v := un) hx hb hr (fun t ht hW => ⟨⟨rfl, by rw [ht]; exact hP9, by rw [hAe]; exact hD9⟩, by rw [hAe]; exact hS9.F ht⟩) hS9.2.2 dX5_decided_42
  · refine lv_aload_n hx hb dX5_decided_9 rfl (lv_at hl 0 rfl) ?_
    refine va_get (D := D) (ci := 9) (v := .int cl) (C := RX5) (T := TX5) (N := 14) hx hb hts hinX5 hown hK hP 0 rfl rfl 7 (by decide) (hts _ fk_X5_98) (fun _ h9 => h9) rfl dX5_decided_10 ?_
    refine lv_goto (tgt := 42) hx hb dX5_decided_13 (by decide) ?_
    have hP9 := hP
    have hD9 := hD
    have hS9 := hS
    have qv : fX5_decided cl un ze wh = cl := by unfold fX5_decided; rw [if_pos c1]
    rw [qv]
    exact W.iret (v := cl) hx hb hr (fun t ht hW => ⟨⟨rfl, by rw [ht]; exact hP9, by rw [hAe]; exact hD9⟩, by rw [hAe]; exact hS9.F ht⟩) hS9.2.2 dX5_decided_42
def fX5_count (pm rm lm on : Int32) (wh : Int32) : Int32 := if wh = (0 : Int32) then (pm) else (if wh = (1 : Int32) then (rm) else (if wh = (2 : Int32) then (lm) else (if wh = (3 : Int32) then (if on = (0 : Int32) then ((0 : Int32)) else ((1 : Int32))) else ((-2 : Int32)))))
set_option maxHeartbeats 4000000 in
set_option maxRecDepth 100000 in
theorem ct5_count (l : Launch) (D : va_G) (sz : Nat) (m1 m2 m3 m4 m5 m6 m7 : Nat) (kI kJ : ClassId) (xs ys held : Nat → Int32) (la lb lc : Nat → Int64) (th pm rm on cl un ze lm : Int32) (wh : Int32) : Met l yX5_count (Cond.code yX5_count cX5_count 2 (some .int) :: BY) ({ frames := 0, cells := 0, slots := 0, locals := 0 }) (xw_P nN D vwCl [(kI, .int), (kJ, .long)] (wMo m1 m2 m3 m4 m5 m6 m7 kI kJ xs ys held la lb lc th pm rm on cl un ze lm) sz [.ref m1, .int wh]) (xw_Q D vwCl (some (.int (fX5_count pm rm lm on wh))) (wMo m1 m2 m3 m4 m5 m6 m7 kI kJ xs ys held la lb lc th pm rm on cl un ze lm) (wMo m1 m2 m3 m4 m5 m6 m7 kI kJ xs ys held la lb lc (0 : Int32) pm rm on cl un ze lm) sz) 0 0 (va_A (wMo m1 m2 m3 m4 m5 m6 m7 kI kJ xs ys held la lb lc th pm rm on cl un ze lm) sz) := by
  refine Met.ofW (cc := cX5_count) (maxL := 2) (ret := (some .int)) (by decide) rfl ?_
  intro p e s m args below meth c s₁ B hml hv
  obtain ⟨rfl, hsz, hP, hK, hN, hD0⟩ := hv
  have hx := B.exec
  have hb := B.bytes
  have hr := B.returns
  have hts0 := atoms_spec (ws := Cond.code yX5_count cX5_count 2 (some .int) :: BY) B.pre
  have hts : ∀ w ∈ BY, w.before _ s = true := fun w h => hts0 w (List.mem_cons_of_mem _ h)
  have hown : s.vm.findClass RX5 = some m.cls := findClass_of_methodNamed B.named
  have hlocks := B.notSynchronized
  subst hsz
  have hD := hD0.self (sz := s.heap.size)
  generalize hAe : va_A (wMo m1 m2 m3 m4 m5 m6 m7 kI kJ xs ys held la lb lc th pm rm on cl un ze lm) s.heap.size = A at hD ⊢
  have hA : ∀ q : Nat, s.heap.size ≤ q → A q := fun q h => by rw [← hAe]; exact Or.inr h
  have hS : va_S A s.heap s.heap [] := va_S.rf
  have hP : va_P D vwCl [(m1, .inr (9, [.int th, .int pm, .ref m2, .ref m3, .int rm, .ref m4, .int on, .int cl, .int un, .int ze, .int lm, .ref m5, .ref m6, .ref m7])), (m2, .inl (kI, 60, .inl xs)), (m3, .inl (kI, 60, .inl ys)), (m4, .inl (kI, 24, .inl held)), (m5, .inl (kJ, 12, .inr (.inl la))), (m6, .inl (kJ, 12, .inr (.inl lb))), (m7, .inl (kJ, 12, .inr (.inl lc)))] s.heap := hP
  have hD : va_D A [(m1, .inr (9, [.int th, .int pm, .ref m2, .ref m3, .int rm, .ref m4, .int on, .int cl, .int un, .int ze, .int lm, .ref m5, .ref m6, .ref m7])), (m2, .inl (kI, 60, .inl xs)), (m3, .inl (kI, 60, .inl ys)), (m4, .inl (kI, 24, .inl held)), (m5, .inl (kJ, 12, .inr (.inl la))), (m6, .inl (kJ, 12, .inr (.inl lb))), (m7, .inl (kJ, 12, .inr (.inl lc)))] := hD
  have hl := lv_entry ([.ref m1, .int wh]) (n := 2) (Nat.le_of_ble_eq_true rfl)
  rw [lg_entry_eq]
  generalize (lg_sl ([.ref m1, .int wh]) ++ List.replicate (2 - (lg_sl ([.ref m1, .int wh])).length) Slot.unset).toArray = ls at hl ⊢
  have hl : lv_has ls 2 [(0, .ref m1), (1, .int wh)] := hl
  refine lv_aload_n hx hb dX5_count_0 rfl (lv_at hl 0 rfl) ?_
  refine lv_iconst (v := 0) hx hb dX5_count_1 (by decide) ?_
  refine va_put (D := D) (ci := 9) (v := .int (0 : Int32)) (ty := .int) (C := RX5) (T := TX5) (N := 14) hx hb hts hinX5 tyX5 tyX5_ok nmX5 hown hK hP hD hS 0 rfl rfl 0 (by decide) (hts _ fk_X5_1) (fun _ h9 => h9) rfl (by decide +kernel) rfl rfl (Nat.le_of_ble_eq_true rfl) dX5_count_2 (fun H locs hP hD hS => ?_)
  have hP : va_P D vwCl [(m1, .inr (9, [.int (0 : Int32), .int pm, .ref m2, .ref m3, .int rm, .ref m4, .int on, .int cl, .int un, .int ze, .int lm, .ref m5, .ref m6, .ref m7])), (m2, .inl (kI, 60, .inl xs)), (m3, .inl (kI, 60, .inl ys)), (m4, .inl (kI, 24, .inl held)), (m5, .inl (kJ, 12, .inr (.inl la))), (m6, .inl (kJ, 12, .inr (.inl lb))), (m7, .inl (kJ, 12, .inr (.inl lc)))] H := hP
  have hD : va_D A [(m1, .inr (9, [.int (0 : Int32), .int pm, .ref m2, .ref m3, .int rm, .ref m4, .int on, .int cl, .int un, .int ze, .int lm, .ref m5, .ref m6, .ref m7])), (m2, .inl (kI, 60, .inl xs)), (m3, .inl (kI, 60, .inl ys)), (m4, .inl (kI, 24, .inl held)), (m5, .inl (kJ, 12, .inr (.inl la))), (m6, .inl (kJ, 12, .inr (.inl lb))), (m7, .inl (kJ, 12, .inr (.inl lc)))] := hD
  refine lv_iload_n hx hb dX5_count_5 rfl (lv_at hl 1 rfl) ?_
  refine lv_if_ne (tgt := 16) hx hb dX5_count_6 (by decide) (fun c1 => ?_) (fun c1 => ?_)
  · refine lv_iload_n hx hb dX5_count_16 rfl (lv_at hl 1 rfl) ?_
    refine lv_iconst (v := 1) hx hb dX5_count_17 (by decide) ?_
    refine lv_icmp_ne (tgt := 28) hx hb dX5_count_18 (by decide) (fun c2 => ?_) (fun c2 => ?_)
    · refine lv_iload_n hx hb dX5_count_28 rfl (lv_at hl 1 rfl) ?_
      refine lv_iconst (v := 2) hx hb dX5_count_29 (by decide) ?_
      refine lv_icmp_ne (tgt := 40) hx hb dX5_count_30 (by decide) (fun c3 => ?_) (fun c3 => ?_)
      · refine lv_iload_n hx hb dX5_count_40 rfl (lv_at hl 1 rfl) ?_
        refine lv_iconst (v := 3) hx hb dX5_count_41 (by decide) ?_
        refine lv_icmp_ne (tgt := 60) hx hb dX5_count_42 (by decide) (fun c4 => ?_) (fun c4 => ?_)
        · refine lv_bipush (v := (-2)) hx hb dX5_count_60 (by decide) ?_
          have hP9 := hP
          have hD9 := hD
          have hS9 := hS
          have qv : fX5_count pm rm lm on wh = (-2 : Int32) := by unfold fX5_count; rw [if_neg c1, if_neg c2, if_neg c3, if_neg c4]
          rw [qv]
          exact W.iret (v := (-2 : Int32)) hx hb hr (fun t ht hW => ⟨⟨rfl, by rw [ht]; exact hP9, by rw [hAe]; exact hD9⟩, by rw [hAe]; exact hS9.F ht⟩) hS9.2.2 dX5_count_62
        · refine lv_aload_n hx hb dX5_count_45 rfl (lv_at hl 0 rfl) ?_
          refine va_get (D := D) (ci := 9) (v := .int on) (C := RX5) (T := TX5) (N := 14) hx hb hts hinX5 hown hK hP 0 rfl rfl 6 (by decide) (hts _ fk_X5_23) (fun _ h9 => h9) rfl dX5_count_46 ?_
          refine lv_if_eq (tgt := 56) hx hb dX5_count_49 (by decide) (fun c5 => ?_) (fun c5 => ?_)
          · refine lv_iconst (v := 0) hx hb dX5_count_56 (by decide) ?_
            refine lv_goto (tgt := 62) hx hb dX5_count_57 (by decide) ?_
            have hP9 := hP
            have hD9 := hD
            have hS9 := hS
            have qv : fX5_count pm rm lm on wh = (0 : Int32) := by unfold fX5_count; rw [if_neg c1, if_neg c2, if_neg c3, if_pos c4, if_pos c5]
            rw [qv]
            exact W.iret (v := (0 : Int32)) hx hb hr (fun t ht hW => ⟨⟨rfl, by rw [ht]; exact hP9, by rw [hAe]; exact hD9⟩, by rw [hAe]; exact hS9.F ht⟩) hS9.2.2 dX5_count_62
          · refine lv_iconst (v := 1) hx hb dX5_count_52 (by decide) ?_
            refine lv_goto (tgt := 62) hx hb dX5_count_53 (by decide) ?_
            have hP9 := hP
            have hD9 := hD
            have hS9 := hS
            have qv : fX5_count pm rm lm on wh = (1 : Int32) := by unfold fX5_count; rw [if_neg c1, if_neg c2, if_neg c3, if_pos c4, if_neg c5]
            rw [qv]
            exact W.iret (v := (1 : Int32)) hx hb hr (fun t ht hW => ⟨⟨rfl, by rw [ht]; exact hP9, by rw [hAe]; exact hD9⟩, by rw [hAe]; exact hS9.F ht⟩) hS9.2.2 dX5_count_62
      · refine lv_aload_n hx hb dX5_count_33 rfl (lv_at hl 0 rfl) ?_
        refine va_get (D := D) (ci := 9) (v := .int lm) (C := RX5) (T := TX5) (N := 14) hx hb hts hinX5 hown hK hP 0 rfl rfl 10 (by decide) (hts _ fk_X5_168) (fun _ h9 => h9) rfl dX5_count_34 ?_
        refine lv_goto (tgt := 62) hx hb dX5_count_37 (by decide) ?_
        have hP9 := hP
        have hD9 := hD
        have hS9 := hS
        have qv : fX5_count pm rm lm on wh = lm := by unfold fX5_count; rw [if_neg c1, if_neg c2, if_pos c3]
        rw [qv]
        exact W.iret (v := lm) hx hb hr (fun t ht hW => ⟨⟨rfl, by rw [ht]; exact hP9, by rw [hAe]; exact hD9⟩, by rw [hAe]; exact hS9.F ht⟩) hS9.2.2 dX5_count_62
    · refine lv_aload_n hx hb dX5_count_21 rfl (lv_at hl 0 rfl) ?_
      refine va_get (D := D) (ci := 9) (v := .int rm) (C := RX5) (T := TX5) (N := 14) hx hb hts hinX5 hown hK hP 0 rfl rfl 4 (by decide) (hts _ fk_X5_66) (fun _ h9 => h9) rfl dX5_count_22 ?_
      refine lv_goto (tgt := 62) hx hb dX5_count_25 (by decide) ?_
      have hP9 := hP
      have hD9 := hD
      have hS9 := hS
      have qv : fX5_count pm rm lm on wh = rm := by unfold fX5_count; rw [if_neg c1, if_pos c2]
      rw [qv]
      exact W.iret (v := rm) hx hb hr (fun t ht hW => ⟨⟨rfl, by rw [ht]; exact hP9, by rw [hAe]; exact hD9⟩, by rw [hAe]; exact hS9.F ht⟩) hS9.2.2 dX5_count_62
  · refine lv_aload_n hx hb dX5_count_9 rfl (lv_at hl 0 rfl) ?_
    refine va_get (D := D) (ci := 9) (v := .int pm) (C := RX5) (T := TX5) (N := 14) hx hb hts hinX5 hown hK hP 0 rfl rfl 1 (by decide) (hts _ fk_X5_51) (fun _ h9 => h9) rfl dX5_count_10 ?_
    refine lv_goto (tgt := 62) hx hb dX5_count_13 (by decide) ?_
    have hP9 := hP
    have hD9 := hD
    have hS9 := hS
    have qv : fX5_count pm rm lm on wh = pm := by unfold fX5_count; rw [if_pos c1]
    rw [qv]
    exact W.iret (v := pm) hx hb hr (fun t ht hW => ⟨⟨rfl, by rw [ht]; exact hP9, by rw [hAe]; exact hD9⟩, by rw [hAe]; exact hS9.F ht⟩) hS9.2.2 dX5_count_62
def fX5_between (xs ys : Nat → Int32) (pm : Int32) (ia : Int32) (ib : Int32) (ic : Int32) : Int32 := if (fX5_isPoint pm ia) = (0 : Int32) then ((-2 : Int32)) else (if (fX5_isPoint pm ib) = (0 : Int32) then ((-2 : Int32)) else (if (fX5_isPoint pm ic) = (0 : Int32) then ((-2 : Int32)) else (if (fX5_areEqual xs ys ia ib) = (0 : Int32) then (if (fX5_areEqual xs ys ib ic) = (0 : Int32) then (if (fX5_isOn xs ys ia ic ib) = (0 : Int32) then ((0 : Int32)) else ((1 : Int32))) else ((2 : Int32))) else ((2 : Int32)))))
set_option maxHeartbeats 4000000 in
set_option maxRecDepth 100000 in
theorem ct5_between (l : Launch) (D : va_G) (sz : Nat) (m1 m2 m3 m4 m5 m6 m7 : Nat) (kI kJ : ClassId) (xs ys held : Nat → Int32) (la lb lc : Nat → Int64) (th pm rm on cl un ze lm : Int32) (ia : Int32) (ib : Int32) (ic : Int32) (opm : pm.toInt ≤ (60 : Nat)) : Met l yX5_between (Cond.code yX5_between cX5_between 4 (some .int) :: BY) ({ frames := 4, cells := 0, slots := 0, locals := 240 }) (xw_P nN D vwCl [(kI, .int), (kJ, .long)] (wMo m1 m2 m3 m4 m5 m6 m7 kI kJ xs ys held la lb lc th pm rm on cl un ze lm) sz [.ref m1, .int ia, .int ib, .int ic]) (xw_Q D vwCl (some (.int (fX5_between xs ys pm ia ib ic))) (wMo m1 m2 m3 m4 m5 m6 m7 kI kJ xs ys held la lb lc th pm rm on cl un ze lm) (wMo m1 m2 m3 m4 m5 m6 m7 kI kJ xs ys held la lb lc (0 : Int32) pm rm on cl un ze lm) sz) 0 0 (va_A (wMo m1 m2 m3 m4 m5 m6 m7 kI kJ xs ys held la lb lc th pm rm on cl un ze lm) sz) := by
  refine Met.ofW (cc := cX5_between) (maxL := 4) (ret := (some .int)) (by decide) rfl ?_
  intro p e s m args below meth c s₁ B hml hv
  obtain ⟨rfl, hsz, hP, hK, hN, hD0⟩ := hv
  have hx := B.exec
  have hb := B.bytes
  have hr := B.returns
  have hts0 := atoms_spec (ws := Cond.code yX5_between cX5_between 4 (some .int) :: BY) B.pre
  have hts : ∀ w ∈ BY, w.before _ s = true := fun w h => hts0 w (List.mem_cons_of_mem _ h)
  have hown : s.vm.findClass RX5 = some m.cls := findClass_of_methodNamed B.named
  have hlocks := B.notSynchronized
  subst hsz
  have hD := hD0.self (sz := s.heap.size)
  generalize hAe : va_A (wMo m1 m2 m3 m4 m5 m6 m7 kI kJ xs ys held la lb lc th pm rm on cl un ze lm) s.heap.size = A at hD ⊢
  have hA : ∀ q : Nat, s.heap.size ≤ q → A q := fun q h => by rw [← hAe]; exact Or.inr h
  have hS : va_S A s.heap s.heap [] := va_S.rf
  have hP : va_P D vwCl [(m1, .inr (9, [.int th, .int pm, .ref m2, .ref m3, .int rm, .ref m4, .int on, .int cl, .int un, .int ze, .int lm, .ref m5, .ref m6, .ref m7])), (m2, .inl (kI, 60, .inl xs)), (m3, .inl (kI, 60, .inl ys)), (m4, .inl (kI, 24, .inl held)), (m5, .inl (kJ, 12, .inr (.inl la))), (m6, .inl (kJ, 12, .inr (.inl lb))), (m7, .inl (kJ, 12, .inr (.inl lc)))] s.heap := hP
  have hD : va_D A [(m1, .inr (9, [.int th, .int pm, .ref m2, .ref m3, .int rm, .ref m4, .int on, .int cl, .int un, .int ze, .int lm, .ref m5, .ref m6, .ref m7])), (m2, .inl (kI, 60, .inl xs)), (m3, .inl (kI, 60, .inl ys)), (m4, .inl (kI, 24, .inl held)), (m5, .inl (kJ, 12, .inr (.inl la))), (m6, .inl (kJ, 12, .inr (.inl lb))), (m7, .inl (kJ, 12, .inr (.inl lc)))] := hD
  have hl := lv_entry ([.ref m1, .int ia, .int ib, .int ic]) (n := 4) (Nat.le_of_ble_eq_true rfl)
  rw [lg_entry_eq]
  generalize (lg_sl ([.ref m1, .int ia, .int ib, .int ic]) ++ List.replicate (4 - (lg_sl ([.ref m1, .int ia, .int ib, .int ic])).length) Slot.unset).toArray = ls at hl ⊢
  have hl : lv_has ls 4 [(0, .ref m1), (1, .int ia), (2, .int ib), (3, .int ic)] := hl
  refine lv_aload_n hx hb dX5_between_0 rfl (lv_at hl 0 rfl) ?_
  refine lv_iconst (v := 0) hx hb dX5_between_1 (by decide) ?_
  refine va_put (D := D) (ci := 9) (v := .int (0 : Int32)) (ty := .int) (C := RX5) (T := TX5) (N := 14) hx hb hts hinX5 tyX5 tyX5_ok nmX5 hown hK hP hD hS 0 rfl rfl 0 (by decide) (hts _ fk_X5_1) (fun _ h9 => h9) rfl (by decide +kernel) rfl rfl (Nat.le_of_ble_eq_true rfl) dX5_between_2 (fun H locs hP hD hS => ?_)
  have hP : va_P D vwCl [(m1, .inr (9, [.int (0 : Int32), .int pm, .ref m2, .ref m3, .int rm, .ref m4, .int on, .int cl, .int un, .int ze, .int lm, .ref m5, .ref m6, .ref m7])), (m2, .inl (kI, 60, .inl xs)), (m3, .inl (kI, 60, .inl ys)), (m4, .inl (kI, 24, .inl held)), (m5, .inl (kJ, 12, .inr (.inl la))), (m6, .inl (kJ, 12, .inr (.inl lb))), (m7, .inl (kJ, 12, .inr (.inl lc)))] H := hP
  have hD : va_D A [(m1, .inr (9, [.int (0 : Int32), .int pm, .ref m2, .ref m3, .int rm, .ref m4, .int on, .int cl, .int un, .int ze, .int lm, .ref m5, .ref m6, .ref m7])), (m2, .inl (kI, 60, .inl xs)), (m3, .inl (kI, 60, .inl ys)), (m4, .inl (kI, 24, .inl held)), (m5, .inl (kJ, 12, .inr (.inl la))), (m6, .inl (kJ, 12, .inr (.inl lb))), (m7, .inl (kJ, 12, .inr (.inl lc)))] := hD
  refine lv_aload_n hx hb dX5_between_5 rfl (lv_at hl 0 rfl) ?_
  refine lv_iload_n hx hb dX5_between_6 rfl (lv_at hl 1 rfl) ?_
  refine xr_V (q := (RX5, TX5, 14)) (ci := 9) (q0 := 0) (rest := []) (As := [.int ia]) ⟨hx, hb, hml, hown, hts⟩ (ct5_isPoint l D m1 m2 m3 m4 m5 m6 m7 kI kJ xs ys held la lb lc (0 : Int32) pm rm on cl un ze lm ia ) (cwV 1 hts gl_X5_69 rfl rfl rfl (by decide +kernel) ⟨Nat.le_of_ble_eq_true rfl, Nat.le_of_ble_eq_true rfl⟩) nN_mv hN hK hP [0, 1, 2, 3, 4, 5, 6] [0, 1] rfl rfl rfl rfl rfl hl.1 rfl (Nat.le_of_ble_eq_true rfl) dX5_between_7 ⟨Nat.le_of_ble_eq_true rfl, Nat.le_of_ble_eq_true rfl⟩ ?_
  refine lv_if_eq (tgt := 29) hx hb dX5_between_10 (by decide) (fun c1 => ?_) (fun c1 => ?_)
  · refine lv_bipush (v := (-2)) hx hb dX5_between_29 (by decide) ?_
    have hP9 := hP
    have hD9 := hD
    have hS9 := hS
    have qv : fX5_between xs ys pm ia ib ic = (-2 : Int32) := by unfold fX5_between; rw [if_pos c1]
    rw [qv]
    exact W.iret (v := (-2 : Int32)) hx hb hr (fun t ht hW => ⟨⟨rfl, by rw [ht]; exact hP9, by rw [hAe]; exact hD9⟩, by rw [hAe]; exact hS9.F ht⟩) hS9.2.2 dX5_between_31
  · refine lv_aload_n hx hb dX5_between_13 rfl (lv_at hl 0 rfl) ?_
    refine lv_iload_n hx hb dX5_between_14 rfl (lv_at hl 2 rfl) ?_
    refine xr_V (q := (RX5, TX5, 14)) (ci := 9) (q0 := 0) (rest := []) (As := [.int ib]) ⟨hx, hb, hml, hown, hts⟩ (ct5_isPoint l D m1 m2 m3 m4 m5 m6 m7 kI kJ xs ys held la lb lc (0 : Int32) pm rm on cl un ze lm ib ) (cwV 1 hts gl_X5_69 rfl rfl rfl (by decide +kernel) ⟨Nat.le_of_ble_eq_true rfl, Nat.le_of_ble_eq_true rfl⟩) nN_mv hN hK hP [0, 1, 2, 3, 4, 5, 6] [0, 1] rfl rfl rfl rfl rfl hl.1 rfl (Nat.le_of_ble_eq_true rfl) dX5_between_15 ⟨Nat.le_of_ble_eq_true rfl, Nat.le_of_ble_eq_true rfl⟩ ?_
    refine lv_if_eq (tgt := 29) hx hb dX5_between_18 (by decide) (fun c2 => ?_) (fun c2 => ?_)
    · refine lv_bipush (v := (-2)) hx hb dX5_between_29 (by decide) ?_
      have hP9 := hP
      have hD9 := hD
      have hS9 := hS
      have qv : fX5_between xs ys pm ia ib ic = (-2 : Int32) := by unfold fX5_between; rw [if_neg c1, if_pos c2]
      rw [qv]
      exact W.iret (v := (-2 : Int32)) hx hb hr (fun t ht hW => ⟨⟨rfl, by rw [ht]; exact hP9, by rw [hAe]; exact hD9⟩, by rw [hAe]; exact hS9.F ht⟩) hS9.2.2 dX5_between_31
    · refine lv_aload_n hx hb dX5_between_21 rfl (lv_at hl 0 rfl) ?_
      refine lv_iload_n hx hb dX5_between_22 rfl (lv_at hl 3 rfl) ?_
      refine xr_V (q := (RX5, TX5, 14)) (ci := 9) (q0 := 0) (rest := []) (As := [.int ic]) ⟨hx, hb, hml, hown, hts⟩ (ct5_isPoint l D m1 m2 m3 m4 m5 m6 m7 kI kJ xs ys held la lb lc (0 : Int32) pm rm on cl un ze lm ic ) (cwV 1 hts gl_X5_69 rfl rfl rfl (by decide +kernel) ⟨Nat.le_of_ble_eq_true rfl, Nat.le_of_ble_eq_true rfl⟩) nN_mv hN hK hP [0, 1, 2, 3, 4, 5, 6] [0, 1] rfl rfl rfl rfl rfl hl.1 rfl (Nat.le_of_ble_eq_true rfl) dX5_between_23 ⟨Nat.le_of_ble_eq_true rfl, Nat.le_of_ble_eq_true rfl⟩ ?_
      refine lv_if_ne (tgt := 32) hx hb dX5_between_26 (by decide) (fun c3 => ?_) (fun c3 => ?_)
      · refine lv_aload_n hx hb dX5_between_32 rfl (lv_at hl 0 rfl) ?_
        refine lv_iload_n hx hb dX5_between_33 rfl (lv_at hl 1 rfl) ?_
        refine lv_iload_n hx hb dX5_between_34 rfl (lv_at hl 2 rfl) ?_
        refine xr_V (q := (RX5, TX5, 14)) (ci := 9) (q0 := 0) (rest := []) (As := [.int ia, .int ib]) ⟨hx, hb, hml, hown, hts⟩ (ct5_areEqual l D m1 m2 m3 m4 m5 m6 m7 kI kJ xs ys held la lb lc (0 : Int32) pm rm on cl un ze lm ia ib (o_pt c1 opm) (o_pt c2 opm)) (cwV 2 hts gl_X5_107 rfl rfl rfl (by decide +kernel) ⟨Nat.le_of_ble_eq_true rfl, Nat.le_of_ble_eq_true rfl⟩) nN_mv hN hK hP [0, 1, 2, 3, 4, 5, 6] [0, 1] rfl rfl rfl rfl rfl hl.1 rfl (Nat.le_of_ble_eq_true rfl) dX5_between_35 ⟨Nat.le_of_ble_eq_true rfl, Nat.le_of_ble_eq_true rfl⟩ ?_
        refine lv_if_ne (tgt := 50) hx hb dX5_between_38 (by decide) (fun c4 => ?_) (fun c4 => ?_)
        · refine lv_iconst (v := 2) hx hb dX5_between_50 (by decide) ?_
          refine lv_goto (tgt := 69) hx hb dX5_between_51 (by decide) ?_
          have hP9 := hP
          have hD9 := hD
          have hS9 := hS
          have qv : fX5_between xs ys pm ia ib ic = (2 : Int32) := by unfold fX5_between; rw [if_neg c1, if_neg c2, if_neg c3, if_neg c4]
          rw [qv]
          exact W.iret (v := (2 : Int32)) hx hb hr (fun t ht hW => ⟨⟨rfl, by rw [ht]; exact hP9, by rw [hAe]; exact hD9⟩, by rw [hAe]; exact hS9.F ht⟩) hS9.2.2 dX5_between_69
        · refine lv_aload_n hx hb dX5_between_41 rfl (lv_at hl 0 rfl) ?_
          refine lv_iload_n hx hb dX5_between_42 rfl (lv_at hl 2 rfl) ?_
          refine lv_iload_n hx hb dX5_between_43 rfl (lv_at hl 3 rfl) ?_
          refine xr_V (q := (RX5, TX5, 14)) (ci := 9) (q0 := 0) (rest := []) (As := [.int ib, .int ic]) ⟨hx, hb, hml, hown, hts⟩ (ct5_areEqual l D m1 m2 m3 m4 m5 m6 m7 kI kJ xs ys held la lb lc (0 : Int32) pm rm on cl un ze lm ib ic (o_pt c2 opm) (o_pt c3 opm)) (cwV 2 hts gl_X5_107 rfl rfl rfl (by decide +kernel) ⟨Nat.le_of_ble_eq_true rfl, Nat.le_of_ble_eq_true rfl⟩) nN_mv hN hK hP [0, 1, 2, 3, 4, 5, 6] [0, 1] rfl rfl rfl rfl rfl hl.1 rfl (Nat.le_of_ble_eq_true rfl) dX5_between_44 ⟨Nat.le_of_ble_eq_true rfl, Nat.le_of_ble_eq_true rfl⟩ ?_
          refine lv_if_eq (tgt := 54) hx hb dX5_between_47 (by decide) (fun c5 => ?_) (fun c5 => ?_)
          · refine lv_aload_n hx hb dX5_between_54 rfl (lv_at hl 0 rfl) ?_
            refine lv_iload_n hx hb dX5_between_55 rfl (lv_at hl 1 rfl) ?_
            refine lv_iload_n hx hb dX5_between_56 rfl (lv_at hl 3 rfl) ?_
            refine lv_iload_n hx hb dX5_between_57 rfl (lv_at hl 2 rfl) ?_
            refine xr_V (q := (RX5, TX5, 14)) (ci := 9) (q0 := 0) (rest := []) (As := [.int ia, .int ic, .int ib]) ⟨hx, hb, hml, hown, hts⟩ (ct5_isOn l D m1 m2 m3 m4 m5 m6 m7 kI kJ xs ys held la lb lc (0 : Int32) pm rm on cl un ze lm ia ic ib (o_pt c1 opm) (o_pt c3 opm) (o_pt c2 opm)) (cwV 3 hts gl_X5_131 rfl rfl rfl (by decide +kernel) ⟨Nat.le_of_ble_eq_true rfl, Nat.le_of_ble_eq_true rfl⟩) nN_mv hN hK hP [0, 1, 2, 3, 4, 5, 6] [0, 1] rfl rfl rfl rfl rfl hl.1 rfl (Nat.le_of_ble_eq_true rfl) dX5_between_58 ⟨Nat.le_of_ble_eq_true rfl, Nat.le_of_ble_eq_true rfl⟩ ?_
            refine lv_if_eq (tgt := 68) hx hb dX5_between_61 (by decide) (fun c6 => ?_) (fun c6 => ?_)
            · refine lv_iconst (v := 0) hx hb dX5_between_68 (by decide) ?_
              have hP9 := hP
              have hD9 := hD
              have hS9 := hS
              have qv : fX5_between xs ys pm ia ib ic = (0 : Int32) := by unfold fX5_between; rw [if_neg c1, if_neg c2, if_neg c3, if_pos c4, if_pos c5, if_pos c6]
              rw [qv]
              exact W.iret (v := (0 : Int32)) hx hb hr (fun t ht hW => ⟨⟨rfl, by rw [ht]; exact hP9, by rw [hAe]; exact hD9⟩, by rw [hAe]; exact hS9.F ht⟩) hS9.2.2 dX5_between_69
            · refine lv_iconst (v := 1) hx hb dX5_between_64 (by decide) ?_
              refine lv_goto (tgt := 69) hx hb dX5_between_65 (by decide) ?_
              have hP9 := hP
              have hD9 := hD
              have hS9 := hS
              have qv : fX5_between xs ys pm ia ib ic = (1 : Int32) := by unfold fX5_between; rw [if_neg c1, if_neg c2, if_neg c3, if_pos c4, if_pos c5, if_neg c6]
              rw [qv]
              exact W.iret (v := (1 : Int32)) hx hb hr (fun t ht hW => ⟨⟨rfl, by rw [ht]; exact hP9, by rw [hAe]; exact hD9⟩, by rw [hAe]; exact hS9.F ht⟩) hS9.2.2 dX5_between_69
          · refine lv_iconst (v := 2) hx hb dX5_between_50 (by decide) ?_
            refine lv_goto (tgt := 69) hx hb dX5_between_51 (by decide) ?_
            have hP9 := hP
            have hD9 := hD
            have hS9 := hS
            have qv : fX5_between xs ys pm ia ib ic = (2 : Int32) := by unfold fX5_between; rw [if_neg c1, if_neg c2, if_neg c3, if_pos c4, if_neg c5]
            rw [qv]
            exact W.iret (v := (2 : Int32)) hx hb hr (fun t ht hW => ⟨⟨rfl, by rw [ht]; exact hP9, by rw [hAe]; exact hD9⟩, by rw [hAe]; exact hS9.F ht⟩) hS9.2.2 dX5_between_69
      · refine lv_bipush (v := (-2)) hx hb dX5_between_29 (by decide) ?_
        have hP9 := hP
        have hD9 := hD
        have hS9 := hS
        have qv : fX5_between xs ys pm ia ib ic = (-2 : Int32) := by unfold fX5_between; rw [if_neg c1, if_neg c2, if_pos c3]
        rw [qv]
        exact W.iret (v := (-2 : Int32)) hx hb hr (fun t ht hW => ⟨⟨rfl, by rw [ht]; exact hP9, by rw [hAe]; exact hD9⟩, by rw [hAe]; exact hS9.F ht⟩) hS9.2.2 dX5_between_31
def fX5_inside (xs ys : Nat → Int32) (pm : Int32) (ia : Int32) (ib : Int32) (ic : Int32) (id : Int32) : Int32 := if (fX5_isPoint pm ia) = (0 : Int32) then ((-2 : Int32)) else (if (fX5_isPoint pm ib) = (0 : Int32) then ((-2 : Int32)) else (if (fX5_isPoint pm ic) = (0 : Int32) then ((-2 : Int32)) else (if (fX5_isPoint pm id) = (0 : Int32) then ((-2 : Int32)) else (if (fX5_areEqual xs ys ia ib) = (0 : Int32) then (if (fX5_areEqual xs ys ia ic) = (0 : Int32) then (if (fX5_areEqual xs ys ia id) = (0 : Int32) then (if (fX5_isOneWay xs ys ia ib id) = (0 : Int32) then (if (fX5_isOneWay xs ys ia ic id) = (0 : Int32) then (if (fX5_isOneWay xs ys ia ib ic) = (0 : Int32) then (if (fX5_turn xs ys ia ib ic) = (0 : Int32) then (if (fX5_turn xs ys ia ib id) ≤ (0 : Int32) then ((0 : Int32)) else ((1 : Int32))) else (if (fX5_turn xs ys ia ib ic) ≤ (0 : Int32) then (if (fX5_turn xs ys ia ic id) ≤ (0 : Int32) then ((1 : Int32)) else (if (fX5_turn xs ys ia id ib) ≤ (0 : Int32) then ((1 : Int32)) else ((0 : Int32)))) else (if (fX5_turn xs ys ia ib id) ≤ (0 : Int32) then ((0 : Int32)) else (if (fX5_turn xs ys ia id ic) ≤ (0 : Int32) then ((0 : Int32)) else ((1 : Int32)))))) else ((0 : Int32))) else ((2 : Int32))) else ((2 : Int32))) else ((2 : Int32))) else ((-4 : Int32))) else ((-4 : Int32))))))
set_option maxHeartbeats 4000000 in
set_option maxRecDepth 100000 in
theorem ct5_inside (l : Launch) (D : va_G) (sz : Nat) (m1 m2 m3 m4 m5 m6 m7 : Nat) (kI kJ : ClassId) (xs ys held : Nat → Int32) (la lb lc : Nat → Int64) (th pm rm on cl un ze lm : Int32) (ia : Int32) (ib : Int32) (ic : Int32) (id : Int32) (opm : pm.toInt ≤ (60 : Nat)) : Met l yX5_inside (Cond.code yX5_inside cX5_inside 6 (some .int) :: BY) ({ frames := 4, cells := 0, slots := 0, locals := 240 }) (xw_P nN D vwCl [(kI, .int), (kJ, .long)] (wMo m1 m2 m3 m4 m5 m6 m7 kI kJ xs ys held la lb lc th pm rm on cl un ze lm) sz [.ref m1, .int ia, .int ib, .int ic, .int id]) (xw_Q D vwCl (some (.int (fX5_inside xs ys pm ia ib ic id))) (wMo m1 m2 m3 m4 m5 m6 m7 kI kJ xs ys held la lb lc th pm rm on cl un ze lm) (wMo m1 m2 m3 m4 m5 m6 m7 kI kJ xs ys held la lb lc (0 : Int32) pm rm on cl un ze lm) sz) 0 0 (va_A (wMo m1 m2 m3 m4 m5 m6 m7 kI kJ xs ys held la lb lc th pm rm on cl un ze lm) sz) := by
  refine Met.ofW (cc := cX5_inside) (maxL := 6) (ret := (some .int)) (by decide) rfl ?_
  intro p e s m args below meth c s₁ B hml hv
  obtain ⟨rfl, hsz, hP, hK, hN, hD0⟩ := hv
  have hx := B.exec
  have hb := B.bytes
  have hr := B.returns
  have hts0 := atoms_spec (ws := Cond.code yX5_inside cX5_inside 6 (some .int) :: BY) B.pre
  have hts : ∀ w ∈ BY, w.before _ s = true := fun w h => hts0 w (List.mem_cons_of_mem _ h)
  have hown : s.vm.findClass RX5 = some m.cls := findClass_of_methodNamed B.named
  have hlocks := B.notSynchronized
  subst hsz
  have hD := hD0.self (sz := s.heap.size)
  generalize hAe : va_A (wMo m1 m2 m3 m4 m5 m6 m7 kI kJ xs ys held la lb lc th pm rm on cl un ze lm) s.heap.size = A at hD ⊢
  have hA : ∀ q : Nat, s.heap.size ≤ q → A q := fun q h => by rw [← hAe]; exact Or.inr h
  have hS : va_S A s.heap s.heap [] := va_S.rf
  have hP : va_P D vwCl [(m1, .inr (9, [.int th, .int pm, .ref m2, .ref m3, .int rm, .ref m4, .int on, .int cl, .int un, .int ze, .int lm, .ref m5, .ref m6, .ref m7])), (m2, .inl (kI, 60, .inl xs)), (m3, .inl (kI, 60, .inl ys)), (m4, .inl (kI, 24, .inl held)), (m5, .inl (kJ, 12, .inr (.inl la))), (m6, .inl (kJ, 12, .inr (.inl lb))), (m7, .inl (kJ, 12, .inr (.inl lc)))] s.heap := hP
  have hD : va_D A [(m1, .inr (9, [.int th, .int pm, .ref m2, .ref m3, .int rm, .ref m4, .int on, .int cl, .int un, .int ze, .int lm, .ref m5, .ref m6, .ref m7])), (m2, .inl (kI, 60, .inl xs)), (m3, .inl (kI, 60, .inl ys)), (m4, .inl (kI, 24, .inl held)), (m5, .inl (kJ, 12, .inr (.inl la))), (m6, .inl (kJ, 12, .inr (.inl lb))), (m7, .inl (kJ, 12, .inr (.inl lc)))] := hD
  have hl := lv_entry ([.ref m1, .int ia, .int ib, .int ic, .int id]) (n := 6) (Nat.le_of_ble_eq_true rfl)
  rw [lg_entry_eq]
  generalize (lg_sl ([.ref m1, .int ia, .int ib, .int ic, .int id]) ++ List.replicate (6 - (lg_sl ([.ref m1, .int ia, .int ib, .int ic, .int id])).length) Slot.unset).toArray = ls at hl ⊢
  have hl : lv_has ls 6 [(0, .ref m1), (1, .int ia), (2, .int ib), (3, .int ic), (4, .int id)] := hl
  refine lv_aload_n hx hb dX5_inside_0 rfl (lv_at hl 0 rfl) ?_
  refine lv_iconst (v := 0) hx hb dX5_inside_1 (by decide) ?_
  refine va_put (D := D) (ci := 9) (v := .int (0 : Int32)) (ty := .int) (C := RX5) (T := TX5) (N := 14) hx hb hts hinX5 tyX5 tyX5_ok nmX5 hown hK hP hD hS 0 rfl rfl 0 (by decide) (hts _ fk_X5_1) (fun _ h9 => h9) rfl (by decide +kernel) rfl rfl (Nat.le_of_ble_eq_true rfl) dX5_inside_2 (fun H locs hP hD hS => ?_)
  have hP : va_P D vwCl [(m1, .inr (9, [.int (0 : Int32), .int pm, .ref m2, .ref m3, .int rm, .ref m4, .int on, .int cl, .int un, .int ze, .int lm, .ref m5, .ref m6, .ref m7])), (m2, .inl (kI, 60, .inl xs)), (m3, .inl (kI, 60, .inl ys)), (m4, .inl (kI, 24, .inl held)), (m5, .inl (kJ, 12, .inr (.inl la))), (m6, .inl (kJ, 12, .inr (.inl lb))), (m7, .inl (kJ, 12, .inr (.inl lc)))] H := hP
  have hD : va_D A [(m1, .inr (9, [.int (0 : Int32), .int pm, .ref m2, .ref m3, .int rm, .ref m4, .int on, .int cl, .int un, .int ze, .int lm, .ref m5, .ref m6, .ref m7])), (m2, .inl (kI, 60, .inl xs)), (m3, .inl (kI, 60, .inl ys)), (m4, .inl (kI, 24, .inl held)), (m5, .inl (kJ, 12, .inr (.inl la))), (m6, .inl (kJ, 12, .inr (.inl lb))), (m7, .inl (kJ, 12, .inr (.inl lc)))] := hD
  refine lv_aload_n hx hb dX5_inside_5 rfl (lv_at hl 0 rfl) ?_
  refine lv_iload_n hx hb dX5_inside_6 rfl (lv_at hl 1 rfl) ?_
  refine xr_V (q := (RX5, TX5, 14)) (ci := 9) (q0 := 0) (rest := []) (As := [.int ia]) ⟨hx, hb, hml, hown, hts⟩ (ct5_isPoint l D m1 m2 m3 m4 m5 m6 m7 kI kJ xs ys held la lb lc (0 : Int32) pm rm on cl un ze lm ia ) (cwV 1 hts gl_X5_69 rfl rfl rfl (by decide +kernel) ⟨Nat.le_of_ble_eq_true rfl, Nat.le_of_ble_eq_true rfl⟩) nN_mv hN hK hP [0, 1, 2, 3, 4, 5, 6] [0, 1] rfl rfl rfl rfl rfl hl.1 rfl (Nat.le_of_ble_eq_true rfl) dX5_inside_7 ⟨Nat.le_of_ble_eq_true rfl, Nat.le_of_ble_eq_true rfl⟩ ?_
  refine lv_if_eq (tgt := 38) hx hb dX5_inside_10 (by decide) (fun c1 => ?_) (fun c1 => ?_)
  · refine lv_bipush (v := (-2)) hx hb dX5_inside_38 (by decide) ?_
    have hP9 := hP
    have hD9 := hD
    have hS9 := hS
    have qv : fX5_inside xs ys pm ia ib ic id = (-2 : Int32) := by unfold fX5_inside; rw [if_pos c1]
    rw [qv]
    exact W.iret (v := (-2 : Int32)) hx hb hr (fun t ht hW => ⟨⟨rfl, by rw [ht]; exact hP9, by rw [hAe]; exact hD9⟩, by rw [hAe]; exact hS9.F ht⟩) hS9.2.2 dX5_inside_40
  · refine lv_aload_n hx hb dX5_inside_13 rfl (lv_at hl 0 rfl) ?_
    refine lv_iload_n hx hb dX5_inside_14 rfl (lv_at hl 2 rfl) ?_
    refine xr_V (q := (RX5, TX5, 14)) (ci := 9) (q0 := 0) (rest := []) (As := [.int ib]) ⟨hx, hb, hml, hown, hts⟩ (ct5_isPoint l D m1 m2 m3 m4 m5 m6 m7 kI kJ xs ys held la lb lc (0 : Int32) pm rm on cl un ze lm ib ) (cwV 1 hts gl_X5_69 rfl rfl rfl (by decide +kernel) ⟨Nat.le_of_ble_eq_true rfl, Nat.le_of_ble_eq_true rfl⟩) nN_mv hN hK hP [0, 1, 2, 3, 4, 5, 6] [0, 1] rfl rfl rfl rfl rfl hl.1 rfl (Nat.le_of_ble_eq_true rfl) dX5_inside_15 ⟨Nat.le_of_ble_eq_true rfl, Nat.le_of_ble_eq_true rfl⟩ ?_
    refine lv_if_eq (tgt := 38) hx hb dX5_inside_18 (by decide) (fun c2 => ?_) (fun c2 => ?_)
    · refine lv_bipush (v := (-2)) hx hb dX5_inside_38 (by decide) ?_
      have hP9 := hP
      have hD9 := hD
      have hS9 := hS
      have qv : fX5_inside xs ys pm ia ib ic id = (-2 : Int32) := by unfold fX5_inside; rw [if_neg c1, if_pos c2]
      rw [qv]
      exact W.iret (v := (-2 : Int32)) hx hb hr (fun t ht hW => ⟨⟨rfl, by rw [ht]; exact hP9, by rw [hAe]; exact hD9⟩, by rw [hAe]; exact hS9.F ht⟩) hS9.2.2 dX5_inside_40
    · refine lv_aload_n hx hb dX5_inside_21 rfl (lv_at hl 0 rfl) ?_
      refine lv_iload_n hx hb dX5_inside_22 rfl (lv_at hl 3 rfl) ?_
      refine xr_V (q := (RX5, TX5, 14)) (ci := 9) (q0 := 0) (rest := []) (As := [.int ic]) ⟨hx, hb, hml, hown, hts⟩ (ct5_isPoint l D m1 m2 m3 m4 m5 m6 m7 kI kJ xs ys held la lb lc (0 : Int32) pm rm on cl un ze lm ic ) (cwV 1 hts gl_X5_69 rfl rfl rfl (by decide +kernel) ⟨Nat.le_of_ble_eq_true rfl, Nat.le_of_ble_eq_true rfl⟩) nN_mv hN hK hP [0, 1, 2, 3, 4, 5, 6] [0, 1] rfl rfl rfl rfl rfl hl.1 rfl (Nat.le_of_ble_eq_true rfl) dX5_inside_23 ⟨Nat.le_of_ble_eq_true rfl, Nat.le_of_ble_eq_true rfl⟩ ?_
      refine lv_if_eq (tgt := 38) hx hb dX5_inside_26 (by decide) (fun c3 => ?_) (fun c3 => ?_)
      · refine lv_bipush (v := (-2)) hx hb dX5_inside_38 (by decide) ?_
        have hP9 := hP
        have hD9 := hD
        have hS9 := hS
        have qv : fX5_inside xs ys pm ia ib ic id = (-2 : Int32) := by unfold fX5_inside; rw [if_neg c1, if_neg c2, if_pos c3]
        rw [qv]
        exact W.iret (v := (-2 : Int32)) hx hb hr (fun t ht hW => ⟨⟨rfl, by rw [ht]; exact hP9, by rw [hAe]; exact hD9⟩, by rw [hAe]; exact hS9.F ht⟩) hS9.2.2 dX5_inside_40
      · refine lv_aload_n hx hb dX5_inside_29 rfl (lv_at hl 0 rfl) ?_
        refine lv_iload hx hb dX5_inside_30 (lv_at hl 4 rfl) ?_
        refine xr_V (q := (RX5, TX5, 14)) (ci := 9) (q0 := 0) (rest := []) (As := [.int id]) ⟨hx, hb, hml, hown, hts⟩ (ct5_isPoint l D m1 m2 m3 m4 m5 m6 m7 kI kJ xs ys held la lb lc (0 : Int32) pm rm on cl un ze lm id ) (cwV 1 hts gl_X5_69 rfl rfl rfl (by decide +kernel) ⟨Nat.le_of_ble_eq_true rfl, Nat.le_of_ble_eq_true rfl⟩) nN_mv hN hK hP [0, 1, 2, 3, 4, 5, 6] [0, 1] rfl rfl rfl rfl rfl hl.1 rfl (Nat.le_of_ble_eq_true rfl) dX5_inside_32 ⟨Nat.le_of_ble_eq_true rfl, Nat.le_of_ble_eq_true rfl⟩ ?_
        refine lv_if_ne (tgt := 41) hx hb dX5_inside_35 (by decide) (fun c4 => ?_) (fun c4 => ?_)
        · refine lv_aload_n hx hb dX5_inside_41 rfl (lv_at hl 0 rfl) ?_
          refine lv_iload_n hx hb dX5_inside_42 rfl (lv_at hl 1 rfl) ?_
          refine lv_iload_n hx hb dX5_inside_43 rfl (lv_at hl 2 rfl) ?_
          refine xr_V (q := (RX5, TX5, 14)) (ci := 9) (q0 := 0) (rest := []) (As := [.int ia, .int ib]) ⟨hx, hb, hml, hown, hts⟩ (ct5_areEqual l D m1 m2 m3 m4 m5 m6 m7 kI kJ xs ys held la lb lc (0 : Int32) pm rm on cl un ze lm ia ib (o_pt c1 opm) (o_pt c2 opm)) (cwV 2 hts gl_X5_107 rfl rfl rfl (by decide +kernel) ⟨Nat.le_of_ble_eq_true rfl, Nat.le_of_ble_eq_true rfl⟩) nN_mv hN hK hP [0, 1, 2, 3, 4, 5, 6] [0, 1] rfl rfl rfl rfl rfl hl.1 rfl (Nat.le_of_ble_eq_true rfl) dX5_inside_44 ⟨Nat.le_of_ble_eq_true rfl, Nat.le_of_ble_eq_true rfl⟩ ?_
          refine lv_if_ne (tgt := 59) hx hb dX5_inside_47 (by decide) (fun c5 => ?_) (fun c5 => ?_)
          · refine lv_bipush (v := (-4)) hx hb dX5_inside_59 (by decide) ?_
            have hP9 := hP
            have hD9 := hD
            have hS9 := hS
            have qv : fX5_inside xs ys pm ia ib ic id = (-4 : Int32) := by unfold fX5_inside; rw [if_neg c1, if_neg c2, if_neg c3, if_neg c4, if_neg c5]
            rw [qv]
            exact W.iret (v := (-4 : Int32)) hx hb hr (fun t ht hW => ⟨⟨rfl, by rw [ht]; exact hP9, by rw [hAe]; exact hD9⟩, by rw [hAe]; exact hS9.F ht⟩) hS9.2.2 dX5_inside_61
          · refine lv_aload_n hx hb dX5_inside_50 rfl (lv_at hl 0 rfl) ?_
            refine lv_iload_n hx hb dX5_inside_51 rfl (lv_at hl 1 rfl) ?_
            refine lv_iload_n hx hb dX5_inside_52 rfl (lv_at hl 3 rfl) ?_
            refine xr_V (q := (RX5, TX5, 14)) (ci := 9) (q0 := 0) (rest := []) (As := [.int ia, .int ic]) ⟨hx, hb, hml, hown, hts⟩ (ct5_areEqual l D m1 m2 m3 m4 m5 m6 m7 kI kJ xs ys held la lb lc (0 : Int32) pm rm on cl un ze lm ia ic (o_pt c1 opm) (o_pt c3 opm)) (cwV 2 hts gl_X5_107 rfl rfl rfl (by decide +kernel) ⟨Nat.le_of_ble_eq_true rfl, Nat.le_of_ble_eq_true rfl⟩) nN_mv hN hK hP [0, 1, 2, 3, 4, 5, 6] [0, 1] rfl rfl rfl rfl rfl hl.1 rfl (Nat.le_of_ble_eq_true rfl) dX5_inside_53 ⟨Nat.le_of_ble_eq_true rfl, Nat.le_of_ble_eq_true rfl⟩ ?_
            refine lv_if_eq (tgt := 62) hx hb dX5_inside_56 (by decide) (fun c6 => ?_) (fun c6 => ?_)
            · refine lv_aload_n hx hb dX5_inside_62 rfl (lv_at hl 0 rfl) ?_
              refine lv_iload_n hx hb dX5_inside_63 rfl (lv_at hl 1 rfl) ?_
              refine lv_iload hx hb dX5_inside_64 (lv_at hl 4 rfl) ?_
              refine xr_V (q := (RX5, TX5, 14)) (ci := 9) (q0 := 0) (rest := []) (As := [.int ia, .int id]) ⟨hx, hb, hml, hown, hts⟩ (ct5_areEqual l D m1 m2 m3 m4 m5 m6 m7 kI kJ xs ys held la lb lc (0 : Int32) pm rm on cl un ze lm ia id (o_pt c1 opm) (o_pt c4 opm)) (cwV 2 hts gl_X5_107 rfl rfl rfl (by decide +kernel) ⟨Nat.le_of_ble_eq_true rfl, Nat.le_of_ble_eq_true rfl⟩) nN_mv hN hK hP [0, 1, 2, 3, 4, 5, 6] [0, 1] rfl rfl rfl rfl rfl hl.1 rfl (Nat.le_of_ble_eq_true rfl) dX5_inside_66 ⟨Nat.le_of_ble_eq_true rfl, Nat.le_of_ble_eq_true rfl⟩ ?_
              refine lv_if_ne (tgt := 94) hx hb dX5_inside_69 (by decide) (fun c7 => ?_) (fun c7 => ?_)
              · refine lv_iconst (v := 2) hx hb dX5_inside_94 (by decide) ?_
                have hP9 := hP
                have hD9 := hD
                have hS9 := hS
                have qv : fX5_inside xs ys pm ia ib ic id = (2 : Int32) := by unfold fX5_inside; rw [if_neg c1, if_neg c2, if_neg c3, if_neg c4, if_pos c5, if_pos c6, if_neg c7]
                rw [qv]
                exact W.iret (v := (2 : Int32)) hx hb hr (fun t ht hW => ⟨⟨rfl, by rw [ht]; exact hP9, by rw [hAe]; exact hD9⟩, by rw [hAe]; exact hS9.F ht⟩) hS9.2.2 dX5_inside_95
              · refine lv_aload_n hx hb dX5_inside_72 rfl (lv_at hl 0 rfl) ?_
                refine lv_iload_n hx hb dX5_inside_73 rfl (lv_at hl 1 rfl) ?_
                refine lv_iload_n hx hb dX5_inside_74 rfl (lv_at hl 2 rfl) ?_
                refine lv_iload hx hb dX5_inside_75 (lv_at hl 4 rfl) ?_
                refine xr_V (q := (RX5, TX5, 14)) (ci := 9) (q0 := 0) (rest := []) (As := [.int ia, .int ib, .int id]) ⟨hx, hb, hml, hown, hts⟩ (ct5_isOneWay l D m1 m2 m3 m4 m5 m6 m7 kI kJ xs ys held la lb lc (0 : Int32) pm rm on cl un ze lm ia ib id (o_pt c1 opm) (o_pt c2 opm) (o_pt c4 opm)) (cwV 3 hts gl_X5_133 rfl rfl rfl (by decide +kernel) ⟨Nat.le_of_ble_eq_true rfl, Nat.le_of_ble_eq_true rfl⟩) nN_mv hN hK hP [0, 1, 2, 3, 4, 5, 6] [0, 1] rfl rfl rfl rfl rfl hl.1 rfl (Nat.le_of_ble_eq_true rfl) dX5_inside_77 ⟨Nat.le_of_ble_eq_true rfl, Nat.le_of_ble_eq_true rfl⟩ ?_
                refine lv_if_ne (tgt := 94) hx hb dX5_inside_80 (by decide) (fun c8 => ?_) (fun c8 => ?_)
                · refine lv_iconst (v := 2) hx hb dX5_inside_94 (by decide) ?_
                  have hP9 := hP
                  have hD9 := hD
                  have hS9 := hS
                  have qv : fX5_inside xs ys pm ia ib ic id = (2 : Int32) := by unfold fX5_inside; rw [if_neg c1, if_neg c2, if_neg c3, if_neg c4, if_pos c5, if_pos c6, if_pos c7, if_neg c8]
                  rw [qv]
                  exact W.iret (v := (2 : Int32)) hx hb hr (fun t ht hW => ⟨⟨rfl, by rw [ht]; exact hP9, by rw [hAe]; exact hD9⟩, by rw [hAe]; exact hS9.F ht⟩) hS9.2.2 dX5_inside_95
                · refine lv_aload_n hx hb dX5_inside_83 rfl (lv_at hl 0 rfl) ?_
                  refine lv_iload_n hx hb dX5_inside_84 rfl (lv_at hl 1 rfl) ?_
                  refine lv_iload_n hx hb dX5_inside_85 rfl (lv_at hl 3 rfl) ?_
                  refine lv_iload hx hb dX5_inside_86 (lv_at hl 4 rfl) ?_
                  refine xr_V (q := (RX5, TX5, 14)) (ci := 9) (q0 := 0) (rest := []) (As := [.int ia, .int ic, .int id]) ⟨hx, hb, hml, hown, hts⟩ (ct5_isOneWay l D m1 m2 m3 m4 m5 m6 m7 kI kJ xs ys held la lb lc (0 : Int32) pm rm on cl un ze lm ia ic id (o_pt c1 opm) (o_pt c3 opm) (o_pt c4 opm)) (cwV 3 hts gl_X5_133 rfl rfl rfl (by decide +kernel) ⟨Nat.le_of_ble_eq_true rfl, Nat.le_of_ble_eq_true rfl⟩) nN_mv hN hK hP [0, 1, 2, 3, 4, 5, 6] [0, 1] rfl rfl rfl rfl rfl hl.1 rfl (Nat.le_of_ble_eq_true rfl) dX5_inside_88 ⟨Nat.le_of_ble_eq_true rfl, Nat.le_of_ble_eq_true rfl⟩ ?_
                  refine lv_if_eq (tgt := 96) hx hb dX5_inside_91 (by decide) (fun c9 => ?_) (fun c9 => ?_)
                  · refine lv_aload_n hx hb dX5_inside_96 rfl (lv_at hl 0 rfl) ?_
                    refine lv_iload_n hx hb dX5_inside_97 rfl (lv_at hl 1 rfl) ?_
                    refine lv_iload_n hx hb dX5_inside_98 rfl (lv_at hl 2 rfl) ?_
                    refine lv_iload_n hx hb dX5_inside_99 rfl (lv_at hl 3 rfl) ?_
                    refine xr_V (q := (RX5, TX5, 14)) (ci := 9) (q0 := 0) (rest := []) (As := [.int ia, .int ib, .int ic]) ⟨hx, hb, hml, hown, hts⟩ (ct5_isOneWay l D m1 m2 m3 m4 m5 m6 m7 kI kJ xs ys held la lb lc (0 : Int32) pm rm on cl un ze lm ia ib ic (o_pt c1 opm) (o_pt c2 opm) (o_pt c3 opm)) (cwV 3 hts gl_X5_133 rfl rfl rfl (by decide +kernel) ⟨Nat.le_of_ble_eq_true rfl, Nat.le_of_ble_eq_true rfl⟩) nN_mv hN hK hP [0, 1, 2, 3, 4, 5, 6] [0, 1] rfl rfl rfl rfl rfl hl.1 rfl (Nat.le_of_ble_eq_true rfl) dX5_inside_100 ⟨Nat.le_of_ble_eq_true rfl, Nat.le_of_ble_eq_true rfl⟩ ?_
                    refine lv_if_eq (tgt := 108) hx hb dX5_inside_103 (by decide) (fun c10 => ?_) (fun c10 => ?_)
                    · refine lv_aload_n hx hb dX5_inside_108 rfl (lv_at hl 0 rfl) ?_
                      refine lv_iload_n hx hb dX5_inside_109 rfl (lv_at hl 1 rfl) ?_
                      refine lv_iload_n hx hb dX5_inside_110 rfl (lv_at hl 2 rfl) ?_
                      refine lv_iload_n hx hb dX5_inside_111 rfl (lv_at hl 3 rfl) ?_
                      refine xr_V (q := (RX5, TX5, 14)) (ci := 9) (q0 := 0) (rest := []) (As := [.int ia, .int ib, .int ic]) ⟨hx, hb, hml, hown, hts⟩ (ct5_turn l D m1 m2 m3 m4 m5 m6 m7 kI kJ xs ys held la lb lc (0 : Int32) pm rm on cl un ze lm ia ib ic (o_pt c1 opm) (o_pt c2 opm) (o_pt c3 opm)) (cwV 3 hts gl_X5_58 rfl rfl rfl (by decide +kernel) ⟨Nat.le_of_ble_eq_true rfl, Nat.le_of_ble_eq_true rfl⟩) nN_mv hN hK hP [0, 1, 2, 3, 4, 5, 6] [0, 1] rfl rfl rfl rfl rfl hl.1 rfl (Nat.le_of_ble_eq_true rfl) dX5_inside_112 ⟨Nat.le_of_ble_eq_true rfl, Nat.le_of_ble_eq_true rfl⟩ ?_
                      refine lv_istore (lv' := [(5, .int (fX5_turn xs ys ia ib ic)), (0, .ref m1), (1, .int ia), (2, .int ib), (3, .int ic), (4, .int id)]) hx hb dX5_inside_115 hl (by decide) rfl (fun ls hl => ?_)
                      refine lv_iload hx hb dX5_inside_117 (lv_at hl 0 rfl) ?_
                      refine lv_if_ne (tgt := 139) hx hb dX5_inside_119 (by decide) (fun c11 => ?_) (fun c11 => ?_)
                      · refine lv_iload hx hb dX5_inside_139 (lv_at hl 0 rfl) ?_
                        refine lv_if_le (tgt := 172) hx hb dX5_inside_141 (by decide) (fun c12 => ?_) (fun c12 => ?_)
                        · refine lv_aload_n hx hb dX5_inside_172 rfl (lv_at hl 1 rfl) ?_
                          refine lv_iload_n hx hb dX5_inside_173 rfl (lv_at hl 2 rfl) ?_
                          refine lv_iload_n hx hb dX5_inside_174 rfl (lv_at hl 4 rfl) ?_
                          refine lv_iload hx hb dX5_inside_175 (lv_at hl 5 rfl) ?_
                          refine xr_V (q := (RX5, TX5, 14)) (ci := 9) (q0 := 0) (rest := []) (As := [.int ia, .int ic, .int id]) ⟨hx, hb, hml, hown, hts⟩ (ct5_turn l D m1 m2 m3 m4 m5 m6 m7 kI kJ xs ys held la lb lc (0 : Int32) pm rm on cl un ze lm ia ic id (o_pt c1 opm) (o_pt c3 opm) (o_pt c4 opm)) (cwV 3 hts gl_X5_58 rfl rfl rfl (by decide +kernel) ⟨Nat.le_of_ble_eq_true rfl, Nat.le_of_ble_eq_true rfl⟩) nN_mv hN hK hP [0, 1, 2, 3, 4, 5, 6] [0, 1] rfl rfl rfl rfl rfl hl.1 rfl (Nat.le_of_ble_eq_true rfl) dX5_inside_177 ⟨Nat.le_of_ble_eq_true rfl, Nat.le_of_ble_eq_true rfl⟩ ?_
                          refine lv_if_le (tgt := 198) hx hb dX5_inside_180 (by decide) (fun c13 => ?_) (fun c13 => ?_)
                          · refine lv_iconst (v := 1) hx hb dX5_inside_198 (by decide) ?_
                            have hP9 := hP
                            have hD9 := hD
                            have hS9 := hS
                            have qv : fX5_inside xs ys pm ia ib ic id = (1 : Int32) := by unfold fX5_inside; rw [if_neg c1, if_neg c2, if_neg c3, if_neg c4, if_pos c5, if_pos c6, if_pos c7, if_pos c8, if_pos c9, if_pos c10, if_neg c11, if_pos c12, if_pos c13]
                            rw [qv]
                            exact W.iret (v := (1 : Int32)) hx hb hr (fun t ht hW => ⟨⟨rfl, by rw [ht]; exact hP9, by rw [hAe]; exact hD9⟩, by rw [hAe]; exact hS9.F ht⟩) hS9.2.2 dX5_inside_199
                          · refine lv_aload_n hx hb dX5_inside_183 rfl (lv_at hl 1 rfl) ?_
                            refine lv_iload_n hx hb dX5_inside_184 rfl (lv_at hl 2 rfl) ?_
                            refine lv_iload hx hb dX5_inside_185 (lv_at hl 5 rfl) ?_
                            refine lv_iload_n hx hb dX5_inside_187 rfl (lv_at hl 3 rfl) ?_
                            refine xr_V (q := (RX5, TX5, 14)) (ci := 9) (q0 := 0) (rest := []) (As := [.int ia, .int id, .int ib]) ⟨hx, hb, hml, hown, hts⟩ (ct5_turn l D m1 m2 m3 m4 m5 m6 m7 kI kJ xs ys held la lb lc (0 : Int32) pm rm on cl un ze lm ia id ib (o_pt c1 opm) (o_pt c4 opm) (o_pt c2 opm)) (cwV 3 hts gl_X5_58 rfl rfl rfl (by decide +kernel) ⟨Nat.le_of_ble_eq_true rfl, Nat.le_of_ble_eq_true rfl⟩) nN_mv hN hK hP [0, 1, 2, 3, 4, 5, 6] [0, 1] rfl rfl rfl rfl rfl hl.1 rfl (Nat.le_of_ble_eq_true rfl) dX5_inside_188 ⟨Nat.le_of_ble_eq_true rfl, Nat.le_of_ble_eq_true rfl⟩ ?_
                            refine lv_if_le (tgt := 198) hx hb dX5_inside_191 (by decide) (fun c14 => ?_) (fun c14 => ?_)
                            · refine lv_iconst (v := 1) hx hb dX5_inside_198 (by decide) ?_
                              have hP9 := hP
                              have hD9 := hD
                              have hS9 := hS
                              have qv : fX5_inside xs ys pm ia ib ic id = (1 : Int32) := by unfold fX5_inside; rw [if_neg c1, if_neg c2, if_neg c3, if_neg c4, if_pos c5, if_pos c6, if_pos c7, if_pos c8, if_pos c9, if_pos c10, if_neg c11, if_pos c12, if_neg c13, if_pos c14]
                              rw [qv]
                              exact W.iret (v := (1 : Int32)) hx hb hr (fun t ht hW => ⟨⟨rfl, by rw [ht]; exact hP9, by rw [hAe]; exact hD9⟩, by rw [hAe]; exact hS9.F ht⟩) hS9.2.2 dX5_inside_199
                            · refine lv_iconst (v := 0) hx hb dX5_inside_194 (by decide) ?_
                              refine lv_goto (tgt := 199) hx hb dX5_inside_195 (by decide) ?_
                              have hP9 := hP
                              have hD9 := hD
                              have hS9 := hS
                              have qv : fX5_inside xs ys pm ia ib ic id = (0 : Int32) := by unfold fX5_inside; rw [if_neg c1, if_neg c2, if_neg c3, if_neg c4, if_pos c5, if_pos c6, if_pos c7, if_pos c8, if_pos c9, if_pos c10, if_neg c11, if_pos c12, if_neg c13, if_neg c14]
                              rw [qv]
                              exact W.iret (v := (0 : Int32)) hx hb hr (fun t ht hW => ⟨⟨rfl, by rw [ht]; exact hP9, by rw [hAe]; exact hD9⟩, by rw [hAe]; exact hS9.F ht⟩) hS9.2.2 dX5_inside_199
                        · refine lv_aload_n hx hb dX5_inside_144 rfl (lv_at hl 1 rfl) ?_
                          refine lv_iload_n hx hb dX5_inside_145 rfl (lv_at hl 2 rfl) ?_
                          refine lv_iload_n hx hb dX5_inside_146 rfl (lv_at hl 3 rfl) ?_
                          refine lv_iload hx hb dX5_inside_147 (lv_at hl 5 rfl) ?_
                          refine xr_V (q := (RX5, TX5, 14)) (ci := 9) (q0 := 0) (rest := []) (As := [.int ia, .int ib, .int id]) ⟨hx, hb, hml, hown, hts⟩ (ct5_turn l D m1 m2 m3 m4 m5 m6 m7 kI kJ xs ys held la lb lc (0 : Int32) pm rm on cl un ze lm ia ib id (o_pt c1 opm) (o_pt c2 opm) (o_pt c4 opm)) (cwV 3 hts gl_X5_58 rfl rfl rfl (by decide +kernel) ⟨Nat.le_of_ble_eq_true rfl, Nat.le_of_ble_eq_true rfl⟩) nN_mv hN hK hP [0, 1, 2, 3, 4, 5, 6] [0, 1] rfl rfl rfl rfl rfl hl.1 rfl (Nat.le_of_ble_eq_true rfl) dX5_inside_149 ⟨Nat.le_of_ble_eq_true rfl, Nat.le_of_ble_eq_true rfl⟩ ?_
                          refine lv_if_le (tgt := 170) hx hb dX5_inside_152 (by decide) (fun c15 => ?_) (fun c15 => ?_)
                          · refine lv_iconst (v := 0) hx hb dX5_inside_170 (by decide) ?_
                            have hP9 := hP
                            have hD9 := hD
                            have hS9 := hS
                            have qv : fX5_inside xs ys pm ia ib ic id = (0 : Int32) := by unfold fX5_inside; rw [if_neg c1, if_neg c2, if_neg c3, if_neg c4, if_pos c5, if_pos c6, if_pos c7, if_pos c8, if_pos c9, if_pos c10, if_neg c11, if_neg c12, if_pos c15]
                            rw [qv]
                            exact W.iret (v := (0 : Int32)) hx hb hr (fun t ht hW => ⟨⟨rfl, by rw [ht]; exact hP9, by rw [hAe]; exact hD9⟩, by rw [hAe]; exact hS9.F ht⟩) hS9.2.2 dX5_inside_171
                          · refine lv_aload_n hx hb dX5_inside_155 rfl (lv_at hl 1 rfl) ?_
                            refine lv_iload_n hx hb dX5_inside_156 rfl (lv_at hl 2 rfl) ?_
                            refine lv_iload hx hb dX5_inside_157 (lv_at hl 5 rfl) ?_
                            refine lv_iload_n hx hb dX5_inside_159 rfl (lv_at hl 4 rfl) ?_
                            refine xr_V (q := (RX5, TX5, 14)) (ci := 9) (q0 := 0) (rest := []) (As := [.int ia, .int id, .int ic]) ⟨hx, hb, hml, hown, hts⟩ (ct5_turn l D m1 m2 m3 m4 m5 m6 m7 kI kJ xs ys held la lb lc (0 : Int32) pm rm on cl un ze lm ia id ic (o_pt c1 opm) (o_pt c4 opm) (o_pt c3 opm)) (cwV 3 hts gl_X5_58 rfl rfl rfl (by decide +kernel) ⟨Nat.le_of_ble_eq_true rfl, Nat.le_of_ble_eq_true rfl⟩) nN_mv hN hK hP [0, 1, 2, 3, 4, 5, 6] [0, 1] rfl rfl rfl rfl rfl hl.1 rfl (Nat.le_of_ble_eq_true rfl) dX5_inside_160 ⟨Nat.le_of_ble_eq_true rfl, Nat.le_of_ble_eq_true rfl⟩ ?_
                            refine lv_if_le (tgt := 170) hx hb dX5_inside_163 (by decide) (fun c16 => ?_) (fun c16 => ?_)
                            · refine lv_iconst (v := 0) hx hb dX5_inside_170 (by decide) ?_
                              have hP9 := hP
                              have hD9 := hD
                              have hS9 := hS
                              have qv : fX5_inside xs ys pm ia ib ic id = (0 : Int32) := by unfold fX5_inside; rw [if_neg c1, if_neg c2, if_neg c3, if_neg c4, if_pos c5, if_pos c6, if_pos c7, if_pos c8, if_pos c9, if_pos c10, if_neg c11, if_neg c12, if_neg c15, if_pos c16]
                              rw [qv]
                              exact W.iret (v := (0 : Int32)) hx hb hr (fun t ht hW => ⟨⟨rfl, by rw [ht]; exact hP9, by rw [hAe]; exact hD9⟩, by rw [hAe]; exact hS9.F ht⟩) hS9.2.2 dX5_inside_171
                            · refine lv_iconst (v := 1) hx hb dX5_inside_166 (by decide) ?_
                              refine lv_goto (tgt := 171) hx hb dX5_inside_167 (by decide) ?_
                              have hP9 := hP
                              have hD9 := hD
                              have hS9 := hS
                              have qv : fX5_inside xs ys pm ia ib ic id = (1 : Int32) := by unfold fX5_inside; rw [if_neg c1, if_neg c2, if_neg c3, if_neg c4, if_pos c5, if_pos c6, if_pos c7, if_pos c8, if_pos c9, if_pos c10, if_neg c11, if_neg c12, if_neg c15, if_neg c16]
                              rw [qv]
                              exact W.iret (v := (1 : Int32)) hx hb hr (fun t ht hW => ⟨⟨rfl, by rw [ht]; exact hP9, by rw [hAe]; exact hD9⟩, by rw [hAe]; exact hS9.F ht⟩) hS9.2.2 dX5_inside_171
                      · refine lv_aload_n hx hb dX5_inside_122 rfl (lv_at hl 1 rfl) ?_
                        refine lv_iload_n hx hb dX5_inside_123 rfl (lv_at hl 2 rfl) ?_
                        refine lv_iload_n hx hb dX5_inside_124 rfl (lv_at hl 3 rfl) ?_
                        refine lv_iload hx hb dX5_inside_125 (lv_at hl 5 rfl) ?_
                        refine xr_V (q := (RX5, TX5, 14)) (ci := 9) (q0 := 0) (rest := []) (As := [.int ia, .int ib, .int id]) ⟨hx, hb, hml, hown, hts⟩ (ct5_turn l D m1 m2 m3 m4 m5 m6 m7 kI kJ xs ys held la lb lc (0 : Int32) pm rm on cl un ze lm ia ib id (o_pt c1 opm) (o_pt c2 opm) (o_pt c4 opm)) (cwV 3 hts gl_X5_58 rfl rfl rfl (by decide +kernel) ⟨Nat.le_of_ble_eq_true rfl, Nat.le_of_ble_eq_true rfl⟩) nN_mv hN hK hP [0, 1, 2, 3, 4, 5, 6] [0, 1] rfl rfl rfl rfl rfl hl.1 rfl (Nat.le_of_ble_eq_true rfl) dX5_inside_127 ⟨Nat.le_of_ble_eq_true rfl, Nat.le_of_ble_eq_true rfl⟩ ?_
                        refine lv_if_le (tgt := 137) hx hb dX5_inside_130 (by decide) (fun c17 => ?_) (fun c17 => ?_)
                        · refine lv_iconst (v := 0) hx hb dX5_inside_137 (by decide) ?_
                          have hP9 := hP
                          have hD9 := hD
                          have hS9 := hS
                          have qv : fX5_inside xs ys pm ia ib ic id = (0 : Int32) := by unfold fX5_inside; rw [if_neg c1, if_neg c2, if_neg c3, if_neg c4, if_pos c5, if_pos c6, if_pos c7, if_pos c8, if_pos c9, if_pos c10, if_pos c11, if_pos c17]
                          rw [qv]
                          exact W.iret (v := (0 : Int32)) hx hb hr (fun t ht hW => ⟨⟨rfl, by rw [ht]; exact hP9, by rw [hAe]; exact hD9⟩, by rw [hAe]; exact hS9.F ht⟩) hS9.2.2 dX5_inside_138
                        · refine lv_iconst (v := 1) hx hb dX5_inside_133 (by decide) ?_
                          refine lv_goto (tgt := 138) hx hb dX5_inside_134 (by decide) ?_
                          have hP9 := hP
                          have hD9 := hD
                          have hS9 := hS
                          have qv : fX5_inside xs ys pm ia ib ic id = (1 : Int32) := by unfold fX5_inside; rw [if_neg c1, if_neg c2, if_neg c3, if_neg c4, if_pos c5, if_pos c6, if_pos c7, if_pos c8, if_pos c9, if_pos c10, if_pos c11, if_neg c17]
                          rw [qv]
                          exact W.iret (v := (1 : Int32)) hx hb hr (fun t ht hW => ⟨⟨rfl, by rw [ht]; exact hP9, by rw [hAe]; exact hD9⟩, by rw [hAe]; exact hS9.F ht⟩) hS9.2.2 dX5_inside_138
                    · refine lv_iconst (v := 0) hx hb dX5_inside_106 (by decide) ?_
                      have hP9 := hP
                      have hD9 := hD
                      have hS9 := hS
                      have qv : fX5_inside xs ys pm ia ib ic id = (0 : Int32) := by unfold fX5_inside; rw [if_neg c1, if_neg c2, if_neg c3, if_neg c4, if_pos c5, if_pos c6, if_pos c7, if_pos c8, if_pos c9, if_neg c10]
                      rw [qv]
                      exact W.iret (v := (0 : Int32)) hx hb hr (fun t ht hW => ⟨⟨rfl, by rw [ht]; exact hP9, by rw [hAe]; exact hD9⟩, by rw [hAe]; exact hS9.F ht⟩) hS9.2.2 dX5_inside_107
                  · refine lv_iconst (v := 2) hx hb dX5_inside_94 (by decide) ?_
                    have hP9 := hP
                    have hD9 := hD
                    have hS9 := hS
                    have qv : fX5_inside xs ys pm ia ib ic id = (2 : Int32) := by unfold fX5_inside; rw [if_neg c1, if_neg c2, if_neg c3, if_neg c4, if_pos c5, if_pos c6, if_pos c7, if_pos c8, if_neg c9]
                    rw [qv]
                    exact W.iret (v := (2 : Int32)) hx hb hr (fun t ht hW => ⟨⟨rfl, by rw [ht]; exact hP9, by rw [hAe]; exact hD9⟩, by rw [hAe]; exact hS9.F ht⟩) hS9.2.2 dX5_inside_95
            · refine lv_bipush (v := (-4)) hx hb dX5_inside_59 (by decide) ?_
              have hP9 := hP
              have hD9 := hD
              have hS9 := hS
              have qv : fX5_inside xs ys pm ia ib ic id = (-4 : Int32) := by unfold fX5_inside; rw [if_neg c1, if_neg c2, if_neg c3, if_neg c4, if_pos c5, if_neg c6]
              rw [qv]
              exact W.iret (v := (-4 : Int32)) hx hb hr (fun t ht hW => ⟨⟨rfl, by rw [ht]; exact hP9, by rw [hAe]; exact hD9⟩, by rw [hAe]; exact hS9.F ht⟩) hS9.2.2 dX5_inside_61
        · refine lv_bipush (v := (-2)) hx hb dX5_inside_38 (by decide) ?_
          have hP9 := hP
          have hD9 := hD
          have hS9 := hS
          have qv : fX5_inside xs ys pm ia ib ic id = (-2 : Int32) := by unfold fX5_inside; rw [if_neg c1, if_neg c2, if_neg c3, if_pos c4]
          rw [qv]
          exact W.iret (v := (-2 : Int32)) hx hb hr (fun t ht hW => ⟨⟨rfl, by rw [ht]; exact hP9, by rw [hAe]; exact hD9⟩, by rw [hAe]; exact hS9.F ht⟩) hS9.2.2 dX5_inside_40
def fX5_cross (xs ys : Nat → Int32) (pm : Int32) (ia : Int32) (ib : Int32) (ic : Int32) (id : Int32) : Int32 := if (fX5_isPoint pm ia) = (0 : Int32) then ((-2 : Int32)) else (if (fX5_isPoint pm ib) = (0 : Int32) then ((-2 : Int32)) else (if (fX5_isPoint pm ic) = (0 : Int32) then ((-2 : Int32)) else (if (fX5_isPoint pm id) = (0 : Int32) then ((-2 : Int32)) else (if (fX5_turn xs ys ia ib ic) = (0 : Int32) then (if (fX5_turn xs ys ia ib id) = (0 : Int32) then (if (fX5_turn xs ys ic id ia) = (0 : Int32) then (if (fX5_turn xs ys ic id ib) = (0 : Int32) then (if (fX5_common xs ys ia ib ic id) = (2 : Int32) then ((3 : Int32)) else (if (fX5_common xs ys ia ib ic id) = (1 : Int32) then ((2 : Int32)) else ((0 : Int32)))) else (if (0 : Int32) ≤ ((fX5_turn xs ys ia ib ic) * (fX5_turn xs ys ia ib id)) then (if (fX5_isOn xs ys ia ib ic) = (0 : Int32) then (if (fX5_isOn xs ys ia ib id) = (0 : Int32) then (if (fX5_isOn xs ys ic id ia) = (0 : Int32) then (if (fX5_isOn xs ys ic id ib) = (0 : Int32) then ((0 : Int32)) else ((2 : Int32))) else ((2 : Int32))) else ((2 : Int32))) else ((2 : Int32))) else (if (0 : Int32) ≤ ((fX5_turn xs ys ic id ia) * (fX5_turn xs ys ic id ib)) then (if (fX5_isOn xs ys ia ib ic) = (0 : Int32) then (if (fX5_isOn xs ys ia ib id) = (0 : Int32) then (if (fX5_isOn xs ys ic id ia) = (0 : Int32) then (if (fX5_isOn xs ys ic id ib) = (0 : Int32) then ((0 : Int32)) else ((2 : Int32))) else ((2 : Int32))) else ((2 : Int32))) else ((2 : Int32))) else ((1 : Int32))))) else (if (0 : Int32) ≤ ((fX5_turn xs ys ia ib ic) * (fX5_turn xs ys ia ib id)) then (if (fX5_isOn xs ys ia ib ic) = (0 : Int32) then (if (fX5_isOn xs ys ia ib id) = (0 : Int32) then (if (fX5_isOn xs ys ic id ia) = (0 : Int32) then (if (fX5_isOn xs ys ic id ib) = (0 : Int32) then ((0 : Int32)) else ((2 : Int32))) else ((2 : Int32))) else ((2 : Int32))) else ((2 : Int32))) else (if (0 : Int32) ≤ ((fX5_turn xs ys ic id ia) * (fX5_turn xs ys ic id ib)) then (if (fX5_isOn xs ys ia ib ic) = (0 : Int32) then (if (fX5_isOn xs ys ia ib id) = (0 : Int32) then (if (fX5_isOn xs ys ic id ia) = (0 : Int32) then (if (fX5_isOn xs ys ic id ib) = (0 : Int32) then ((0 : Int32)) else ((2 : Int32))) else ((2 : Int32))) else ((2 : Int32))) else ((2 : Int32))) else ((1 : Int32))))) else (if (0 : Int32) ≤ ((fX5_turn xs ys ia ib ic) * (fX5_turn xs ys ia ib id)) then (if (fX5_isOn xs ys ia ib ic) = (0 : Int32) then (if (fX5_isOn xs ys ia ib id) = (0 : Int32) then (if (fX5_isOn xs ys ic id ia) = (0 : Int32) then (if (fX5_isOn xs ys ic id ib) = (0 : Int32) then ((0 : Int32)) else ((2 : Int32))) else ((2 : Int32))) else ((2 : Int32))) else ((2 : Int32))) else (if (0 : Int32) ≤ ((fX5_turn xs ys ic id ia) * (fX5_turn xs ys ic id ib)) then (if (fX5_isOn xs ys ia ib ic) = (0 : Int32) then (if (fX5_isOn xs ys ia ib id) = (0 : Int32) then (if (fX5_isOn xs ys ic id ia) = (0 : Int32) then (if (fX5_isOn xs ys ic id ib) = (0 : Int32) then ((0 : Int32)) else ((2 : Int32))) else ((2 : Int32))) else ((2 : Int32))) else ((2 : Int32))) else ((1 : Int32))))) else (if (0 : Int32) ≤ ((fX5_turn xs ys ia ib ic) * (fX5_turn xs ys ia ib id)) then (if (fX5_isOn xs ys ia ib ic) = (0 : Int32) then (if (fX5_isOn xs ys ia ib id) = (0 : Int32) then (if (fX5_isOn xs ys ic id ia) = (0 : Int32) then (if (fX5_isOn xs ys ic id ib) = (0 : Int32) then ((0 : Int32)) else ((2 : Int32))) else ((2 : Int32))) else ((2 : Int32))) else ((2 : Int32))) else (if (0 : Int32) ≤ ((fX5_turn xs ys ic id ia) * (fX5_turn xs ys ic id ib)) then (if (fX5_isOn xs ys ia ib ic) = (0 : Int32) then (if (fX5_isOn xs ys ia ib id) = (0 : Int32) then (if (fX5_isOn xs ys ic id ia) = (0 : Int32) then (if (fX5_isOn xs ys ic id ib) = (0 : Int32) then ((0 : Int32)) else ((2 : Int32))) else ((2 : Int32))) else ((2 : Int32))) else ((2 : Int32))) else ((1 : Int32))))))))
set_option maxHeartbeats 4000000 in
set_option maxRecDepth 100000 in
theorem ct5_cross (l : Launch) (D : va_G) (sz : Nat) (m1 m2 m3 m4 m5 m6 m7 : Nat) (kI kJ : ClassId) (xs ys held : Nat → Int32) (la lb lc : Nat → Int64) (th pm rm on cl un ze lm : Int32) (ia : Int32) (ib : Int32) (ic : Int32) (id : Int32) (opm : pm.toInt ≤ (60 : Nat)) : Met l yX5_cross (Cond.code yX5_cross cX5_cross 11 (some .int) :: BY) ({ frames := 5, cells := 0, slots := 0, locals := 300 }) (xw_P nN D vwCl [(kI, .int), (kJ, .long)] (wMo m1 m2 m3 m4 m5 m6 m7 kI kJ xs ys held la lb lc th pm rm on cl un ze lm) sz [.ref m1, .int ia, .int ib, .int ic, .int id]) (xw_Q D vwCl (some (.int (fX5_cross xs ys pm ia ib ic id))) (wMo m1 m2 m3 m4 m5 m6 m7 kI kJ xs ys held la lb lc th pm rm on cl un ze lm) (wMo m1 m2 m3 m4 m5 m6 m7 kI kJ xs ys held la lb lc (0 : Int32) pm rm on cl un ze lm) sz) 0 0 (va_A (wMo m1 m2 m3 m4 m5 m6 m7 kI kJ xs ys held la lb lc th pm rm on cl un ze lm) sz) := by
  refine Met.ofW (cc := cX5_cross) (maxL := 11) (ret := (some .int)) (by decide) rfl ?_
  intro p e s m args below meth c s₁ B hml hv
  obtain ⟨rfl, hsz, hP, hK, hN, hD0⟩ := hv
  have hx := B.exec
  have hb := B.bytes
  have hr := B.returns
  have hts0 := atoms_spec (ws := Cond.code yX5_cross cX5_cross 11 (some .int) :: BY) B.pre
  have hts : ∀ w ∈ BY, w.before _ s = true := fun w h => hts0 w (List.mem_cons_of_mem _ h)
  have hown : s.vm.findClass RX5 = some m.cls := findClass_of_methodNamed B.named
  have hlocks := B.notSynchronized
  subst hsz
  have hD := hD0.self (sz := s.heap.size)
  generalize hAe : va_A (wMo m1 m2 m3 m4 m5 m6 m7 kI kJ xs ys held la lb lc th pm rm on cl un ze lm) s.heap.size = A at hD ⊢
  have hA : ∀ q : Nat, s.heap.size ≤ q → A q := fun q h => by rw [← hAe]; exact Or.inr h
  have hS : va_S A s.heap s.heap [] := va_S.rf
  have hP : va_P D vwCl [(m1, .inr (9, [.int th, .int pm, .ref m2, .ref m3, .int rm, .ref m4, .int on, .int cl, .int un, .int ze, .int lm, .ref m5, .ref m6, .ref m7])), (m2, .inl (kI, 60, .inl xs)), (m3, .inl (kI, 60, .inl ys)), (m4, .inl (kI, 24, .inl held)), (m5, .inl (kJ, 12, .inr (.inl la))), (m6, .inl (kJ, 12, .inr (.inl lb))), (m7, .inl (kJ, 12, .inr (.inl lc)))] s.heap := hP
  have hD : va_D A [(m1, .inr (9, [.int th, .int pm, .ref m2, .ref m3, .int rm, .ref m4, .int on, .int cl, .int un, .int ze, .int lm, .ref m5, .ref m6, .ref m7])), (m2, .inl (kI, 60, .inl xs)), (m3, .inl (kI, 60, .inl ys)), (m4, .inl (kI, 24, .inl held)), (m5, .inl (kJ, 12, .inr (.inl la))), (m6, .inl (kJ, 12, .inr (.inl lb))), (m7, .inl (kJ, 12, .inr (.inl lc)))] := hD
  have hl := lv_entry ([.ref m1, .int ia, .int ib, .int ic, .int id]) (n := 11) (Nat.le_of_ble_eq_true rfl)
  rw [lg_entry_eq]
  generalize (lg_sl ([.ref m1, .int ia, .int ib, .int ic, .int id]) ++ List.replicate (11 - (lg_sl ([.ref m1, .int ia, .int ib, .int ic, .int id])).length) Slot.unset).toArray = ls at hl ⊢
  have hl : lv_has ls 11 [(0, .ref m1), (1, .int ia), (2, .int ib), (3, .int ic), (4, .int id)] := hl
  refine lv_aload_n hx hb dX5_cross_0 rfl (lv_at hl 0 rfl) ?_
  refine lv_iconst (v := 0) hx hb dX5_cross_1 (by decide) ?_
  refine va_put (D := D) (ci := 9) (v := .int (0 : Int32)) (ty := .int) (C := RX5) (T := TX5) (N := 14) hx hb hts hinX5 tyX5 tyX5_ok nmX5 hown hK hP hD hS 0 rfl rfl 0 (by decide) (hts _ fk_X5_1) (fun _ h9 => h9) rfl (by decide +kernel) rfl rfl (Nat.le_of_ble_eq_true rfl) dX5_cross_2 (fun H locs hP hD hS => ?_)
  have hP : va_P D vwCl [(m1, .inr (9, [.int (0 : Int32), .int pm, .ref m2, .ref m3, .int rm, .ref m4, .int on, .int cl, .int un, .int ze, .int lm, .ref m5, .ref m6, .ref m7])), (m2, .inl (kI, 60, .inl xs)), (m3, .inl (kI, 60, .inl ys)), (m4, .inl (kI, 24, .inl held)), (m5, .inl (kJ, 12, .inr (.inl la))), (m6, .inl (kJ, 12, .inr (.inl lb))), (m7, .inl (kJ, 12, .inr (.inl lc)))] H := hP
  have hD : va_D A [(m1, .inr (9, [.int (0 : Int32), .int pm, .ref m2, .ref m3, .int rm, .ref m4, .int on, .int cl, .int un, .int ze, .int lm, .ref m5, .ref m6, .ref m7])), (m2, .inl (kI, 60, .inl xs)), (m3, .inl (kI, 60, .inl ys)), (m4, .inl (kI, 24, .inl held)), (m5, .inl (kJ, 12, .inr (.inl la))), (m6, .inl (kJ, 12, .inr (.inl lb))), (m7, .inl (kJ, 12, .inr (.inl lc)))] := hD
  refine lv_aload_n hx hb dX5_cross_5 rfl (lv_at hl 0 rfl) ?_
  refine lv_iload_n hx hb dX5_cross_6 rfl (lv_at hl 1 rfl) ?_
  refine xr_V (q := (RX5, TX5, 14)) (ci := 9) (q0 := 0) (rest := []) (As := [.int ia]) ⟨hx, hb, hml, hown, hts⟩ (ct5_isPoint l D m1 m2 m3 m4 m5 m6 m7 kI kJ xs ys held la lb lc (0 : Int32) pm rm on cl un ze lm ia ) (cwV 1 hts gl_X5_69 rfl rfl rfl (by decide +kernel) ⟨Nat.le_of_ble_eq_true rfl, Nat.le_of_ble_eq_true rfl⟩) nN_mv hN hK hP [0, 1, 2, 3, 4, 5, 6] [0, 1] rfl rfl rfl rfl rfl hl.1 rfl (Nat.le_of_ble_eq_true rfl) dX5_cross_7 ⟨Nat.le_of_ble_eq_true rfl, Nat.le_of_ble_eq_true rfl⟩ ?_
  refine lv_if_eq (tgt := 38) hx hb dX5_cross_10 (by decide) (fun c1 => ?_) (fun c1 => ?_)
  · refine lv_bipush (v := (-2)) hx hb dX5_cross_38 (by decide) ?_
    have hP9 := hP
    have hD9 := hD
    have hS9 := hS
    have qv : fX5_cross xs ys pm ia ib ic id = (-2 : Int32) := by unfold fX5_cross; rw [if_pos c1]
    rw [qv]
    exact W.iret (v := (-2 : Int32)) hx hb hr (fun t ht hW => ⟨⟨rfl, by rw [ht]; exact hP9, by rw [hAe]; exact hD9⟩, by rw [hAe]; exact hS9.F ht⟩) hS9.2.2 dX5_cross_40
  · refine lv_aload_n hx hb dX5_cross_13 rfl (lv_at hl 0 rfl) ?_
    refine lv_iload_n hx hb dX5_cross_14 rfl (lv_at hl 2 rfl) ?_
    refine xr_V (q := (RX5, TX5, 14)) (ci := 9) (q0 := 0) (rest := []) (As := [.int ib]) ⟨hx, hb, hml, hown, hts⟩ (ct5_isPoint l D m1 m2 m3 m4 m5 m6 m7 kI kJ xs ys held la lb lc (0 : Int32) pm rm on cl un ze lm ib ) (cwV 1 hts gl_X5_69 rfl rfl rfl (by decide +kernel) ⟨Nat.le_of_ble_eq_true rfl, Nat.le_of_ble_eq_true rfl⟩) nN_mv hN hK hP [0, 1, 2, 3, 4, 5, 6] [0, 1] rfl rfl rfl rfl rfl hl.1 rfl (Nat.le_of_ble_eq_true rfl) dX5_cross_15 ⟨Nat.le_of_ble_eq_true rfl, Nat.le_of_ble_eq_true rfl⟩ ?_
    refine lv_if_eq (tgt := 38) hx hb dX5_cross_18 (by decide) (fun c2 => ?_) (fun c2 => ?_)
    · refine lv_bipush (v := (-2)) hx hb dX5_cross_38 (by decide) ?_
      have hP9 := hP
      have hD9 := hD
      have hS9 := hS
      have qv : fX5_cross xs ys pm ia ib ic id = (-2 : Int32) := by unfold fX5_cross; rw [if_neg c1, if_pos c2]
      rw [qv]
      exact W.iret (v := (-2 : Int32)) hx hb hr (fun t ht hW => ⟨⟨rfl, by rw [ht]; exact hP9, by rw [hAe]; exact hD9⟩, by rw [hAe]; exact hS9.F ht⟩) hS9.2.2 dX5_cross_40
    · refine lv_aload_n hx hb dX5_cross_21 rfl (lv_at hl 0 rfl) ?_
      refine lv_iload_n hx hb dX5_cross_22 rfl (lv_at hl 3 rfl) ?_
      refine xr_V (q := (RX5, TX5, 14)) (ci := 9) (q0 := 0) (rest := []) (As := [.int ic]) ⟨hx, hb, hml, hown, hts⟩ (ct5_isPoint l D m1 m2 m3 m4 m5 m6 m7 kI kJ xs ys held la lb lc (0 : Int32) pm rm on cl un ze lm ic ) (cwV 1 hts gl_X5_69 rfl rfl rfl (by decide +kernel) ⟨Nat.le_of_ble_eq_true rfl, Nat.le_of_ble_eq_true rfl⟩) nN_mv hN hK hP [0, 1, 2, 3, 4, 5, 6] [0, 1] rfl rfl rfl rfl rfl hl.1 rfl (Nat.le_of_ble_eq_true rfl) dX5_cross_23 ⟨Nat.le_of_ble_eq_true rfl, Nat.le_of_ble_eq_true rfl⟩ ?_
      refine lv_if_eq (tgt := 38) hx hb dX5_cross_26 (by decide) (fun c3 => ?_) (fun c3 => ?_)
      · refine lv_bipush (v := (-2)) hx hb dX5_cross_38 (by decide) ?_
        have hP9 := hP
        have hD9 := hD
        have hS9 := hS
        have qv : fX5_cross xs ys pm ia ib ic id = (-2 : Int32) := by unfold fX5_cross; rw [if_neg c1, if_neg c2, if_pos c3]
        rw [qv]
        exact W.iret (v := (-2 : Int32)) hx hb hr (fun t ht hW => ⟨⟨rfl, by rw [ht]; exact hP9, by rw [hAe]; exact hD9⟩, by rw [hAe]; exact hS9.F ht⟩) hS9.2.2 dX5_cross_40
      · refine lv_aload_n hx hb dX5_cross_29 rfl (lv_at hl 0 rfl) ?_
        refine lv_iload hx hb dX5_cross_30 (lv_at hl 4 rfl) ?_
        refine xr_V (q := (RX5, TX5, 14)) (ci := 9) (q0 := 0) (rest := []) (As := [.int id]) ⟨hx, hb, hml, hown, hts⟩ (ct5_isPoint l D m1 m2 m3 m4 m5 m6 m7 kI kJ xs ys held la lb lc (0 : Int32) pm rm on cl un ze lm id ) (cwV 1 hts gl_X5_69 rfl rfl rfl (by decide +kernel) ⟨Nat.le_of_ble_eq_true rfl, Nat.le_of_ble_eq_true rfl⟩) nN_mv hN hK hP [0, 1, 2, 3, 4, 5, 6] [0, 1] rfl rfl rfl rfl rfl hl.1 rfl (Nat.le_of_ble_eq_true rfl) dX5_cross_32 ⟨Nat.le_of_ble_eq_true rfl, Nat.le_of_ble_eq_true rfl⟩ ?_
        refine lv_if_ne (tgt := 41) hx hb dX5_cross_35 (by decide) (fun c4 => ?_) (fun c4 => ?_)
        · refine lv_aload_n hx hb dX5_cross_41 rfl (lv_at hl 0 rfl) ?_
          refine lv_iload_n hx hb dX5_cross_42 rfl (lv_at hl 1 rfl) ?_
          refine lv_iload_n hx hb dX5_cross_43 rfl (lv_at hl 2 rfl) ?_
          refine lv_iload_n hx hb dX5_cross_44 rfl (lv_at hl 3 rfl) ?_
          refine xr_V (q := (RX5, TX5, 14)) (ci := 9) (q0 := 0) (rest := []) (As := [.int ia, .int ib, .int ic]) ⟨hx, hb, hml, hown, hts⟩ (ct5_turn l D m1 m2 m3 m4 m5 m6 m7 kI kJ xs ys held la lb lc (0 : Int32) pm rm on cl un ze lm ia ib ic (o_pt c1 opm) (o_pt c2 opm) (o_pt c3 opm)) (cwV 3 hts gl_X5_58 rfl rfl rfl (by decide +kernel) ⟨Nat.le_of_ble_eq_true rfl, Nat.le_of_ble_eq_true rfl⟩) nN_mv hN hK hP [0, 1, 2, 3, 4, 5, 6] [0, 1] rfl rfl rfl rfl rfl hl.1 rfl (Nat.le_of_ble_eq_true rfl) dX5_cross_45 ⟨Nat.le_of_ble_eq_true rfl, Nat.le_of_ble_eq_true rfl⟩ ?_
          refine lv_istore (lv' := [(5, .int (fX5_turn xs ys ia ib ic)), (0, .ref m1), (1, .int ia), (2, .int ib), (3, .int ic), (4, .int id)]) hx hb dX5_cross_48 hl (by decide) rfl (fun ls hl => ?_)
          refine lv_aload_n hx hb dX5_cross_50 rfl (lv_at hl 1 rfl) ?_
          refine lv_iload_n hx hb dX5_cross_51 rfl (lv_at hl 2 rfl) ?_
          refine lv_iload_n hx hb dX5_cross_52 rfl (lv_at hl 3 rfl) ?_
          refine lv_iload hx hb dX5_cross_53 (lv_at hl 5 rfl) ?_
          refine xr_V (q := (RX5, TX5, 14)) (ci := 9) (q0 := 0) (rest := []) (As := [.int ia, .int ib, .int id]) ⟨hx, hb, hml, hown, hts⟩ (ct5_turn l D m1 m2 m3 m4 m5 m6 m7 kI kJ xs ys held la lb lc (0 : Int32) pm rm on cl un ze lm ia ib id (o_pt c1 opm) (o_pt c2 opm) (o_pt c4 opm)) (cwV 3 hts gl_X5_58 rfl rfl rfl (by decide +kernel) ⟨Nat.le_of_ble_eq_true rfl, Nat.le_of_ble_eq_true rfl⟩) nN_mv hN hK hP [0, 1, 2, 3, 4, 5, 6] [0, 1] rfl rfl rfl rfl rfl hl.1 rfl (Nat.le_of_ble_eq_true rfl) dX5_cross_55 ⟨Nat.le_of_ble_eq_true rfl, Nat.le_of_ble_eq_true rfl⟩ ?_
          refine lv_istore (lv' := [(6, .int (fX5_turn xs ys ia ib id)), (5, .int (fX5_turn xs ys ia ib ic)), (0, .ref m1), (1, .int ia), (2, .int ib), (3, .int ic), (4, .int id)]) hx hb dX5_cross_58 hl (by decide) rfl (fun ls hl => ?_)
          refine lv_aload_n hx hb dX5_cross_60 rfl (lv_at hl 2 rfl) ?_
          refine lv_iload_n hx hb dX5_cross_61 rfl (lv_at hl 5 rfl) ?_
          refine lv_iload hx hb dX5_cross_62 (lv_at hl 6 rfl) ?_
          refine lv_iload_n hx hb dX5_cross_64 rfl (lv_at hl 3 rfl) ?_
          refine xr_V (q := (RX5, TX5, 14)) (ci := 9) (q0 := 0) (rest := []) (As := [.int ic, .int id, .int ia]) ⟨hx, hb, hml, hown, hts⟩ (ct5_turn l D m1 m2 m3 m4 m5 m6 m7 kI kJ xs ys held la lb lc (0 : Int32) pm rm on cl un ze lm ic id ia (o_pt c3 opm) (o_pt c4 opm) (o_pt c1 opm)) (cwV 3 hts gl_X5_58 rfl rfl rfl (by decide +kernel) ⟨Nat.le_of_ble_eq_true rfl, Nat.le_of_ble_eq_true rfl⟩) nN_mv hN hK hP [0, 1, 2, 3, 4, 5, 6] [0, 1] rfl rfl rfl rfl rfl hl.1 rfl (Nat.le_of_ble_eq_true rfl) dX5_cross_65 ⟨Nat.le_of_ble_eq_true rfl, Nat.le_of_ble_eq_true rfl⟩ ?_
          refine lv_istore (lv' := [(7, .int (fX5_turn xs ys ic id ia)), (6, .int (fX5_turn xs ys ia ib id)), (5, .int (fX5_turn xs ys ia ib ic)), (0, .ref m1), (1, .int ia), (2, .int ib), (3, .int ic), (4, .int id)]) hx hb dX5_cross_68 hl (by decide) rfl (fun ls hl => ?_)
          refine lv_aload_n hx hb dX5_cross_70 rfl (lv_at hl 3 rfl) ?_
          refine lv_iload_n hx hb dX5_cross_71 rfl (lv_at hl 6 rfl) ?_
          refine lv_iload hx hb dX5_cross_72 (lv_at hl 7 rfl) ?_
          refine lv_iload_n hx hb dX5_cross_74 rfl (lv_at hl 5 rfl) ?_
          refine xr_V (q := (RX5, TX5, 14)) (ci := 9) (q0 := 0) (rest := []) (As := [.int ic, .int id, .int ib]) ⟨hx, hb, hml, hown, hts⟩ (ct5_turn l D m1 m2 m3 m4 m5 m6 m7 kI kJ xs ys held la lb lc (0 : Int32) pm rm on cl un ze lm ic id ib (o_pt c3 opm) (o_pt c4 opm) (o_pt c2 opm)) (cwV 3 hts gl_X5_58 rfl rfl rfl (by decide +kernel) ⟨Nat.le_of_ble_eq_true rfl, Nat.le_of_ble_eq_true rfl⟩) nN_mv hN hK hP [0, 1, 2, 3, 4, 5, 6] [0, 1] rfl rfl rfl rfl rfl hl.1 rfl (Nat.le_of_ble_eq_true rfl) dX5_cross_75 ⟨Nat.le_of_ble_eq_true rfl, Nat.le_of_ble_eq_true rfl⟩ ?_
          refine lv_istore (lv' := [(8, .int (fX5_turn xs ys ic id ib)), (7, .int (fX5_turn xs ys ic id ia)), (6, .int (fX5_turn xs ys ia ib id)), (5, .int (fX5_turn xs ys ia ib ic)), (0, .ref m1), (1, .int ia), (2, .int ib), (3, .int ic), (4, .int id)]) hx hb dX5_cross_78 hl (by decide) rfl (fun ls hl => ?_)
          refine lv_iload hx hb dX5_cross_80 (lv_at hl 3 rfl) ?_
          refine lv_if_ne (tgt := 104) hx hb dX5_cross_82 (by decide) (fun c5 => ?_) (fun c5 => ?_)
          · refine lv_iconst (v := 0) hx hb dX5_cross_104 (by decide) ?_
            refine lv_istore (lv' := [(9, .int (0 : Int32)), (8, .int (fX5_turn xs ys ic id ib)), (7, .int (fX5_turn xs ys ic id ia)), (6, .int (fX5_turn xs ys ia ib id)), (5, .int (fX5_turn xs ys ia ib ic)), (0, .ref m1), (1, .int ia), (2, .int ib), (3, .int ic), (4, .int id)]) hx hb dX5_cross_105 hl (by decide) rfl (fun ls hl => ?_)
            refine lv_iload hx hb dX5_cross_107 (lv_at hl 0 rfl) ?_
            refine lv_if_eq (tgt := 145) hx hb dX5_cross_109 (by decide) (fun c6 => ?_) (fun c6 => ?_)
            · refine lv_iload hx hb dX5_cross_145 (lv_at hl 4 rfl) ?_
              refine lv_iload hx hb dX5_cross_147 (lv_at hl 3 rfl) ?_
              refine lv_imul hx hb dX5_cross_149 ?_
              refine lv_if_ge (tgt := 163) hx hb dX5_cross_150 (by decide) (fun c7 => ?_) (fun c7 => ?_)
              · refine lv_aload_n hx hb dX5_cross_163 rfl (lv_at hl 5 rfl) ?_
                refine lv_iload_n hx hb dX5_cross_164 rfl (lv_at hl 6 rfl) ?_
                refine lv_iload_n hx hb dX5_cross_165 rfl (lv_at hl 7 rfl) ?_
                refine lv_iload_n hx hb dX5_cross_166 rfl (lv_at hl 8 rfl) ?_
                refine xr_V (q := (RX5, TX5, 14)) (ci := 9) (q0 := 0) (rest := []) (As := [.int ia, .int ib, .int ic]) ⟨hx, hb, hml, hown, hts⟩ (ct5_isOn l D m1 m2 m3 m4 m5 m6 m7 kI kJ xs ys held la lb lc (0 : Int32) pm rm on cl un ze lm ia ib ic (o_pt c1 opm) (o_pt c2 opm) (o_pt c3 opm)) (cwV 3 hts gl_X5_131 rfl rfl rfl (by decide +kernel) ⟨Nat.le_of_ble_eq_true rfl, Nat.le_of_ble_eq_true rfl⟩) nN_mv hN hK hP [0, 1, 2, 3, 4, 5, 6] [0, 1] rfl rfl rfl rfl rfl hl.1 rfl (Nat.le_of_ble_eq_true rfl) dX5_cross_167 ⟨Nat.le_of_ble_eq_true rfl, Nat.le_of_ble_eq_true rfl⟩ ?_
                refine lv_if_ne (tgt := 206) hx hb dX5_cross_170 (by decide) (fun c8 => ?_) (fun c8 => ?_)
                · refine lv_iconst (v := 2) hx hb dX5_cross_206 (by decide) ?_
                  refine lv_goto (tgt := 211) hx hb dX5_cross_207 (by decide) ?_
                  have hP9 := hP
                  have hD9 := hD
                  have hS9 := hS
                  have qv : fX5_cross xs ys pm ia ib ic id = (2 : Int32) := by unfold fX5_cross; rw [if_neg c1, if_neg c2, if_neg c3, if_neg c4, if_neg c5, if_pos c7, if_neg c8]
                  rw [qv]
                  exact W.iret (v := (2 : Int32)) hx hb hr (fun t ht hW => ⟨⟨rfl, by rw [ht]; exact hP9, by rw [hAe]; exact hD9⟩, by rw [hAe]; exact hS9.F ht⟩) hS9.2.2 dX5_cross_211
                · refine lv_aload_n hx hb dX5_cross_173 rfl (lv_at hl 5 rfl) ?_
                  refine lv_iload_n hx hb dX5_cross_174 rfl (lv_at hl 6 rfl) ?_
                  refine lv_iload_n hx hb dX5_cross_175 rfl (lv_at hl 7 rfl) ?_
                  refine lv_iload hx hb dX5_cross_176 (lv_at hl 9 rfl) ?_
                  refine xr_V (q := (RX5, TX5, 14)) (ci := 9) (q0 := 0) (rest := []) (As := [.int ia, .int ib, .int id]) ⟨hx, hb, hml, hown, hts⟩ (ct5_isOn l D m1 m2 m3 m4 m5 m6 m7 kI kJ xs ys held la lb lc (0 : Int32) pm rm on cl un ze lm ia ib id (o_pt c1 opm) (o_pt c2 opm) (o_pt c4 opm)) (cwV 3 hts gl_X5_131 rfl rfl rfl (by decide +kernel) ⟨Nat.le_of_ble_eq_true rfl, Nat.le_of_ble_eq_true rfl⟩) nN_mv hN hK hP [0, 1, 2, 3, 4, 5, 6] [0, 1] rfl rfl rfl rfl rfl hl.1 rfl (Nat.le_of_ble_eq_true rfl) dX5_cross_178 ⟨Nat.le_of_ble_eq_true rfl, Nat.le_of_ble_eq_true rfl⟩ ?_
                  refine lv_if_ne (tgt := 206) hx hb dX5_cross_181 (by decide) (fun c9 => ?_) (fun c9 => ?_)
                  · refine lv_iconst (v := 2) hx hb dX5_cross_206 (by decide) ?_
                    refine lv_goto (tgt := 211) hx hb dX5_cross_207 (by decide) ?_
                    have hP9 := hP
                    have hD9 := hD
                    have hS9 := hS
                    have qv : fX5_cross xs ys pm ia ib ic id = (2 : Int32) := by unfold fX5_cross; rw [if_neg c1, if_neg c2, if_neg c3, if_neg c4, if_neg c5, if_pos c7, if_pos c8, if_neg c9]
                    rw [qv]
                    exact W.iret (v := (2 : Int32)) hx hb hr (fun t ht hW => ⟨⟨rfl, by rw [ht]; exact hP9, by rw [hAe]; exact hD9⟩, by rw [hAe]; exact hS9.F ht⟩) hS9.2.2 dX5_cross_211
                  · refine lv_aload_n hx hb dX5_cross_184 rfl (lv_at hl 5 rfl) ?_
                    refine lv_iload_n hx hb dX5_cross_185 rfl (lv_at hl 8 rfl) ?_
                    refine lv_iload hx hb dX5_cross_186 (lv_at hl 9 rfl) ?_
                    refine lv_iload_n hx hb dX5_cross_188 rfl (lv_at hl 6 rfl) ?_
                    refine xr_V (q := (RX5, TX5, 14)) (ci := 9) (q0 := 0) (rest := []) (As := [.int ic, .int id, .int ia]) ⟨hx, hb, hml, hown, hts⟩ (ct5_isOn l D m1 m2 m3 m4 m5 m6 m7 kI kJ xs ys held la lb lc (0 : Int32) pm rm on cl un ze lm ic id ia (o_pt c3 opm) (o_pt c4 opm) (o_pt c1 opm)) (cwV 3 hts gl_X5_131 rfl rfl rfl (by decide +kernel) ⟨Nat.le_of_ble_eq_true rfl, Nat.le_of_ble_eq_true rfl⟩) nN_mv hN hK hP [0, 1, 2, 3, 4, 5, 6] [0, 1] rfl rfl rfl rfl rfl hl.1 rfl (Nat.le_of_ble_eq_true rfl) dX5_cross_189 ⟨Nat.le_of_ble_eq_true rfl, Nat.le_of_ble_eq_true rfl⟩ ?_
                    refine lv_if_ne (tgt := 206) hx hb dX5_cross_192 (by decide) (fun c10 => ?_) (fun c10 => ?_)
                    · refine lv_iconst (v := 2) hx hb dX5_cross_206 (by decide) ?_
                      refine lv_goto (tgt := 211) hx hb dX5_cross_207 (by decide) ?_
                      have hP9 := hP
                      have hD9 := hD
                      have hS9 := hS
                      have qv : fX5_cross xs ys pm ia ib ic id = (2 : Int32) := by unfold fX5_cross; rw [if_neg c1, if_neg c2, if_neg c3, if_neg c4, if_neg c5, if_pos c7, if_pos c8, if_pos c9, if_neg c10]
                      rw [qv]
                      exact W.iret (v := (2 : Int32)) hx hb hr (fun t ht hW => ⟨⟨rfl, by rw [ht]; exact hP9, by rw [hAe]; exact hD9⟩, by rw [hAe]; exact hS9.F ht⟩) hS9.2.2 dX5_cross_211
                    · refine lv_aload_n hx hb dX5_cross_195 rfl (lv_at hl 5 rfl) ?_
                      refine lv_iload_n hx hb dX5_cross_196 rfl (lv_at hl 8 rfl) ?_
                      refine lv_iload hx hb dX5_cross_197 (lv_at hl 9 rfl) ?_
                      refine lv_iload_n hx hb dX5_cross_199 rfl (lv_at hl 7 rfl) ?_
                      refine xr_V (q := (RX5, TX5, 14)) (ci := 9) (q0 := 0) (rest := []) (As := [.int ic, .int id, .int ib]) ⟨hx, hb, hml, hown, hts⟩ (ct5_isOn l D m1 m2 m3 m4 m5 m6 m7 kI kJ xs ys held la lb lc (0 : Int32) pm rm on cl un ze lm ic id ib (o_pt c3 opm) (o_pt c4 opm) (o_pt c2 opm)) (cwV 3 hts gl_X5_131 rfl rfl rfl (by decide +kernel) ⟨Nat.le_of_ble_eq_true rfl, Nat.le_of_ble_eq_true rfl⟩) nN_mv hN hK hP [0, 1, 2, 3, 4, 5, 6] [0, 1] rfl rfl rfl rfl rfl hl.1 rfl (Nat.le_of_ble_eq_true rfl) dX5_cross_200 ⟨Nat.le_of_ble_eq_true rfl, Nat.le_of_ble_eq_true rfl⟩ ?_
                      refine lv_if_eq (tgt := 210) hx hb dX5_cross_203 (by decide) (fun c11 => ?_) (fun c11 => ?_)
                      · refine lv_iconst (v := 0) hx hb dX5_cross_210 (by decide) ?_
                        have hP9 := hP
                        have hD9 := hD
                        have hS9 := hS
                        have qv : fX5_cross xs ys pm ia ib ic id = (0 : Int32) := by unfold fX5_cross; rw [if_neg c1, if_neg c2, if_neg c3, if_neg c4, if_neg c5, if_pos c7, if_pos c8, if_pos c9, if_pos c10, if_pos c11]
                        rw [qv]
                        exact W.iret (v := (0 : Int32)) hx hb hr (fun t ht hW => ⟨⟨rfl, by rw [ht]; exact hP9, by rw [hAe]; exact hD9⟩, by rw [hAe]; exact hS9.F ht⟩) hS9.2.2 dX5_cross_211
                      · refine lv_iconst (v := 2) hx hb dX5_cross_206 (by decide) ?_
                        refine lv_goto (tgt := 211) hx hb dX5_cross_207 (by decide) ?_
                        have hP9 := hP
                        have hD9 := hD
                        have hS9 := hS
                        have qv : fX5_cross xs ys pm ia ib ic id = (2 : Int32) := by unfold fX5_cross; rw [if_neg c1, if_neg c2, if_neg c3, if_neg c4, if_neg c5, if_pos c7, if_pos c8, if_pos c9, if_pos c10, if_neg c11]
                        rw [qv]
                        exact W.iret (v := (2 : Int32)) hx hb hr (fun t ht hW => ⟨⟨rfl, by rw [ht]; exact hP9, by rw [hAe]; exact hD9⟩, by rw [hAe]; exact hS9.F ht⟩) hS9.2.2 dX5_cross_211
              · refine lv_iload hx hb dX5_cross_153 (lv_at hl 2 rfl) ?_
                refine lv_iload hx hb dX5_cross_155 (lv_at hl 1 rfl) ?_
                refine lv_imul hx hb dX5_cross_157 ?_
                refine lv_if_ge (tgt := 163) hx hb dX5_cross_158 (by decide) (fun c12 => ?_) (fun c12 => ?_)
                · refine lv_aload_n hx hb dX5_cross_163 rfl (lv_at hl 5 rfl) ?_
                  refine lv_iload_n hx hb dX5_cross_164 rfl (lv_at hl 6 rfl) ?_
                  refine lv_iload_n hx hb dX5_cross_165 rfl (lv_at hl 7 rfl) ?_
                  refine lv_iload_n hx hb dX5_cross_166 rfl (lv_at hl 8 rfl) ?_
                  refine xr_V (q := (RX5, TX5, 14)) (ci := 9) (q0 := 0) (rest := []) (As := [.int ia, .int ib, .int ic]) ⟨hx, hb, hml, hown, hts⟩ (ct5_isOn l D m1 m2 m3 m4 m5 m6 m7 kI kJ xs ys held la lb lc (0 : Int32) pm rm on cl un ze lm ia ib ic (o_pt c1 opm) (o_pt c2 opm) (o_pt c3 opm)) (cwV 3 hts gl_X5_131 rfl rfl rfl (by decide +kernel) ⟨Nat.le_of_ble_eq_true rfl, Nat.le_of_ble_eq_true rfl⟩) nN_mv hN hK hP [0, 1, 2, 3, 4, 5, 6] [0, 1] rfl rfl rfl rfl rfl hl.1 rfl (Nat.le_of_ble_eq_true rfl) dX5_cross_167 ⟨Nat.le_of_ble_eq_true rfl, Nat.le_of_ble_eq_true rfl⟩ ?_
                  refine lv_if_ne (tgt := 206) hx hb dX5_cross_170 (by decide) (fun c13 => ?_) (fun c13 => ?_)
                  · refine lv_iconst (v := 2) hx hb dX5_cross_206 (by decide) ?_
                    refine lv_goto (tgt := 211) hx hb dX5_cross_207 (by decide) ?_
                    have hP9 := hP
                    have hD9 := hD
                    have hS9 := hS
                    have qv : fX5_cross xs ys pm ia ib ic id = (2 : Int32) := by unfold fX5_cross; rw [if_neg c1, if_neg c2, if_neg c3, if_neg c4, if_neg c5, if_neg c7, if_pos c12, if_neg c13]
                    rw [qv]
                    exact W.iret (v := (2 : Int32)) hx hb hr (fun t ht hW => ⟨⟨rfl, by rw [ht]; exact hP9, by rw [hAe]; exact hD9⟩, by rw [hAe]; exact hS9.F ht⟩) hS9.2.2 dX5_cross_211
                  · refine lv_aload_n hx hb dX5_cross_173 rfl (lv_at hl 5 rfl) ?_
                    refine lv_iload_n hx hb dX5_cross_174 rfl (lv_at hl 6 rfl) ?_
                    refine lv_iload_n hx hb dX5_cross_175 rfl (lv_at hl 7 rfl) ?_
                    refine lv_iload hx hb dX5_cross_176 (lv_at hl 9 rfl) ?_
                    refine xr_V (q := (RX5, TX5, 14)) (ci := 9) (q0 := 0) (rest := []) (As := [.int ia, .int ib, .int id]) ⟨hx, hb, hml, hown, hts⟩ (ct5_isOn l D m1 m2 m3 m4 m5 m6 m7 kI kJ xs ys held la lb lc (0 : Int32) pm rm on cl un ze lm ia ib id (o_pt c1 opm) (o_pt c2 opm) (o_pt c4 opm)) (cwV 3 hts gl_X5_131 rfl rfl rfl (by decide +kernel) ⟨Nat.le_of_ble_eq_true rfl, Nat.le_of_ble_eq_true rfl⟩) nN_mv hN hK hP [0, 1, 2, 3, 4, 5, 6] [0, 1] rfl rfl rfl rfl rfl hl.1 rfl (Nat.le_of_ble_eq_true rfl) dX5_cross_178 ⟨Nat.le_of_ble_eq_true rfl, Nat.le_of_ble_eq_true rfl⟩ ?_
                    refine lv_if_ne (tgt := 206) hx hb dX5_cross_181 (by decide) (fun c14 => ?_) (fun c14 => ?_)
                    · refine lv_iconst (v := 2) hx hb dX5_cross_206 (by decide) ?_
                      refine lv_goto (tgt := 211) hx hb dX5_cross_207 (by decide) ?_
                      have hP9 := hP
                      have hD9 := hD
                      have hS9 := hS
                      have qv : fX5_cross xs ys pm ia ib ic id = (2 : Int32) := by unfold fX5_cross; rw [if_neg c1, if_neg c2, if_neg c3, if_neg c4, if_neg c5, if_neg c7, if_pos c12, if_pos c13, if_neg c14]
                      rw [qv]
                      exact W.iret (v := (2 : Int32)) hx hb hr (fun t ht hW => ⟨⟨rfl, by rw [ht]; exact hP9, by rw [hAe]; exact hD9⟩, by rw [hAe]; exact hS9.F ht⟩) hS9.2.2 dX5_cross_211
                    · refine lv_aload_n hx hb dX5_cross_184 rfl (lv_at hl 5 rfl) ?_
                      refine lv_iload_n hx hb dX5_cross_185 rfl (lv_at hl 8 rfl) ?_
                      refine lv_iload hx hb dX5_cross_186 (lv_at hl 9 rfl) ?_
                      refine lv_iload_n hx hb dX5_cross_188 rfl (lv_at hl 6 rfl) ?_
                      refine xr_V (q := (RX5, TX5, 14)) (ci := 9) (q0 := 0) (rest := []) (As := [.int ic, .int id, .int ia]) ⟨hx, hb, hml, hown, hts⟩ (ct5_isOn l D m1 m2 m3 m4 m5 m6 m7 kI kJ xs ys held la lb lc (0 : Int32) pm rm on cl un ze lm ic id ia (o_pt c3 opm) (o_pt c4 opm) (o_pt c1 opm)) (cwV 3 hts gl_X5_131 rfl rfl rfl (by decide +kernel) ⟨Nat.le_of_ble_eq_true rfl, Nat.le_of_ble_eq_true rfl⟩) nN_mv hN hK hP [0, 1, 2, 3, 4, 5, 6] [0, 1] rfl rfl rfl rfl rfl hl.1 rfl (Nat.le_of_ble_eq_true rfl) dX5_cross_189 ⟨Nat.le_of_ble_eq_true rfl, Nat.le_of_ble_eq_true rfl⟩ ?_
                      refine lv_if_ne (tgt := 206) hx hb dX5_cross_192 (by decide) (fun c15 => ?_) (fun c15 => ?_)
                      · refine lv_iconst (v := 2) hx hb dX5_cross_206 (by decide) ?_
                        refine lv_goto (tgt := 211) hx hb dX5_cross_207 (by decide) ?_
                        have hP9 := hP
                        have hD9 := hD
                        have hS9 := hS
                        have qv : fX5_cross xs ys pm ia ib ic id = (2 : Int32) := by unfold fX5_cross; rw [if_neg c1, if_neg c2, if_neg c3, if_neg c4, if_neg c5, if_neg c7, if_pos c12, if_pos c13, if_pos c14, if_neg c15]
                        rw [qv]
                        exact W.iret (v := (2 : Int32)) hx hb hr (fun t ht hW => ⟨⟨rfl, by rw [ht]; exact hP9, by rw [hAe]; exact hD9⟩, by rw [hAe]; exact hS9.F ht⟩) hS9.2.2 dX5_cross_211
                      · refine lv_aload_n hx hb dX5_cross_195 rfl (lv_at hl 5 rfl) ?_
                        refine lv_iload_n hx hb dX5_cross_196 rfl (lv_at hl 8 rfl) ?_
                        refine lv_iload hx hb dX5_cross_197 (lv_at hl 9 rfl) ?_
                        refine lv_iload_n hx hb dX5_cross_199 rfl (lv_at hl 7 rfl) ?_
                        refine xr_V (q := (RX5, TX5, 14)) (ci := 9) (q0 := 0) (rest := []) (As := [.int ic, .int id, .int ib]) ⟨hx, hb, hml, hown, hts⟩ (ct5_isOn l D m1 m2 m3 m4 m5 m6 m7 kI kJ xs ys held la lb lc (0 : Int32) pm rm on cl un ze lm ic id ib (o_pt c3 opm) (o_pt c4 opm) (o_pt c2 opm)) (cwV 3 hts gl_X5_131 rfl rfl rfl (by decide +kernel) ⟨Nat.le_of_ble_eq_true rfl, Nat.le_of_ble_eq_true rfl⟩) nN_mv hN hK hP [0, 1, 2, 3, 4, 5, 6] [0, 1] rfl rfl rfl rfl rfl hl.1 rfl (Nat.le_of_ble_eq_true rfl) dX5_cross_200 ⟨Nat.le_of_ble_eq_true rfl, Nat.le_of_ble_eq_true rfl⟩ ?_
                        refine lv_if_eq (tgt := 210) hx hb dX5_cross_203 (by decide) (fun c16 => ?_) (fun c16 => ?_)
                        · refine lv_iconst (v := 0) hx hb dX5_cross_210 (by decide) ?_
                          have hP9 := hP
                          have hD9 := hD
                          have hS9 := hS
                          have qv : fX5_cross xs ys pm ia ib ic id = (0 : Int32) := by unfold fX5_cross; rw [if_neg c1, if_neg c2, if_neg c3, if_neg c4, if_neg c5, if_neg c7, if_pos c12, if_pos c13, if_pos c14, if_pos c15, if_pos c16]
                          rw [qv]
                          exact W.iret (v := (0 : Int32)) hx hb hr (fun t ht hW => ⟨⟨rfl, by rw [ht]; exact hP9, by rw [hAe]; exact hD9⟩, by rw [hAe]; exact hS9.F ht⟩) hS9.2.2 dX5_cross_211
                        · refine lv_iconst (v := 2) hx hb dX5_cross_206 (by decide) ?_
                          refine lv_goto (tgt := 211) hx hb dX5_cross_207 (by decide) ?_
                          have hP9 := hP
                          have hD9 := hD
                          have hS9 := hS
                          have qv : fX5_cross xs ys pm ia ib ic id = (2 : Int32) := by unfold fX5_cross; rw [if_neg c1, if_neg c2, if_neg c3, if_neg c4, if_neg c5, if_neg c7, if_pos c12, if_pos c13, if_pos c14, if_pos c15, if_neg c16]
                          rw [qv]
                          exact W.iret (v := (2 : Int32)) hx hb hr (fun t ht hW => ⟨⟨rfl, by rw [ht]; exact hP9, by rw [hAe]; exact hD9⟩, by rw [hAe]; exact hS9.F ht⟩) hS9.2.2 dX5_cross_211
                · refine lv_iconst (v := 1) hx hb dX5_cross_161 (by decide) ?_
                  have hP9 := hP
                  have hD9 := hD
                  have hS9 := hS
                  have qv : fX5_cross xs ys pm ia ib ic id = (1 : Int32) := by unfold fX5_cross; rw [if_neg c1, if_neg c2, if_neg c3, if_neg c4, if_neg c5, if_neg c7, if_neg c12]
                  rw [qv]
                  exact W.iret (v := (1 : Int32)) hx hb hr (fun t ht hW => ⟨⟨rfl, by rw [ht]; exact hP9, by rw [hAe]; exact hD9⟩, by rw [hAe]; exact hS9.F ht⟩) hS9.2.2 dX5_cross_162
            · exact absurd (by decide) c6
          · refine lv_iload hx hb dX5_cross_85 (lv_at hl 2 rfl) ?_
            refine lv_if_ne (tgt := 104) hx hb dX5_cross_87 (by decide) (fun c17 => ?_) (fun c17 => ?_)
            · refine lv_iconst (v := 0) hx hb dX5_cross_104 (by decide) ?_
              refine lv_istore (lv' := [(9, .int (0 : Int32)), (8, .int (fX5_turn xs ys ic id ib)), (7, .int (fX5_turn xs ys ic id ia)), (6, .int (fX5_turn xs ys ia ib id)), (5, .int (fX5_turn xs ys ia ib ic)), (0, .ref m1), (1, .int ia), (2, .int ib), (3, .int ic), (4, .int id)]) hx hb dX5_cross_105 hl (by decide) rfl (fun ls hl => ?_)
              refine lv_iload hx hb dX5_cross_107 (lv_at hl 0 rfl) ?_
              refine lv_if_eq (tgt := 145) hx hb dX5_cross_109 (by decide) (fun c18 => ?_) (fun c18 => ?_)
              · refine lv_iload hx hb dX5_cross_145 (lv_at hl 4 rfl) ?_
                refine lv_iload hx hb dX5_cross_147 (lv_at hl 3 rfl) ?_
                refine lv_imul hx hb dX5_cross_149 ?_
                refine lv_if_ge (tgt := 163) hx hb dX5_cross_150 (by decide) (fun c19 => ?_) (fun c19 => ?_)
                · refine lv_aload_n hx hb dX5_cross_163 rfl (lv_at hl 5 rfl) ?_
                  refine lv_iload_n hx hb dX5_cross_164 rfl (lv_at hl 6 rfl) ?_
                  refine lv_iload_n hx hb dX5_cross_165 rfl (lv_at hl 7 rfl) ?_
                  refine lv_iload_n hx hb dX5_cross_166 rfl (lv_at hl 8 rfl) ?_
                  refine xr_V (q := (RX5, TX5, 14)) (ci := 9) (q0 := 0) (rest := []) (As := [.int ia, .int ib, .int ic]) ⟨hx, hb, hml, hown, hts⟩ (ct5_isOn l D m1 m2 m3 m4 m5 m6 m7 kI kJ xs ys held la lb lc (0 : Int32) pm rm on cl un ze lm ia ib ic (o_pt c1 opm) (o_pt c2 opm) (o_pt c3 opm)) (cwV 3 hts gl_X5_131 rfl rfl rfl (by decide +kernel) ⟨Nat.le_of_ble_eq_true rfl, Nat.le_of_ble_eq_true rfl⟩) nN_mv hN hK hP [0, 1, 2, 3, 4, 5, 6] [0, 1] rfl rfl rfl rfl rfl hl.1 rfl (Nat.le_of_ble_eq_true rfl) dX5_cross_167 ⟨Nat.le_of_ble_eq_true rfl, Nat.le_of_ble_eq_true rfl⟩ ?_
                  refine lv_if_ne (tgt := 206) hx hb dX5_cross_170 (by decide) (fun c20 => ?_) (fun c20 => ?_)
                  · refine lv_iconst (v := 2) hx hb dX5_cross_206 (by decide) ?_
                    refine lv_goto (tgt := 211) hx hb dX5_cross_207 (by decide) ?_
                    have hP9 := hP
                    have hD9 := hD
                    have hS9 := hS
                    have qv : fX5_cross xs ys pm ia ib ic id = (2 : Int32) := by unfold fX5_cross; rw [if_neg c1, if_neg c2, if_neg c3, if_neg c4, if_pos c5, if_neg c17, if_pos c19, if_neg c20]
                    rw [qv]
                    exact W.iret (v := (2 : Int32)) hx hb hr (fun t ht hW => ⟨⟨rfl, by rw [ht]; exact hP9, by rw [hAe]; exact hD9⟩, by rw [hAe]; exact hS9.F ht⟩) hS9.2.2 dX5_cross_211
                  · refine lv_aload_n hx hb dX5_cross_173 rfl (lv_at hl 5 rfl) ?_
                    refine lv_iload_n hx hb dX5_cross_174 rfl (lv_at hl 6 rfl) ?_
                    refine lv_iload_n hx hb dX5_cross_175 rfl (lv_at hl 7 rfl) ?_
                    refine lv_iload hx hb dX5_cross_176 (lv_at hl 9 rfl) ?_
                    refine xr_V (q := (RX5, TX5, 14)) (ci := 9) (q0 := 0) (rest := []) (As := [.int ia, .int ib, .int id]) ⟨hx, hb, hml, hown, hts⟩ (ct5_isOn l D m1 m2 m3 m4 m5 m6 m7 kI kJ xs ys held la lb lc (0 : Int32) pm rm on cl un ze lm ia ib id (o_pt c1 opm) (o_pt c2 opm) (o_pt c4 opm)) (cwV 3 hts gl_X5_131 rfl rfl rfl (by decide +kernel) ⟨Nat.le_of_ble_eq_true rfl, Nat.le_of_ble_eq_true rfl⟩) nN_mv hN hK hP [0, 1, 2, 3, 4, 5, 6] [0, 1] rfl rfl rfl rfl rfl hl.1 rfl (Nat.le_of_ble_eq_true rfl) dX5_cross_178 ⟨Nat.le_of_ble_eq_true rfl, Nat.le_of_ble_eq_true rfl⟩ ?_
                    refine lv_if_ne (tgt := 206) hx hb dX5_cross_181 (by decide) (fun c21 => ?_) (fun c21 => ?_)
                    · refine lv_iconst (v := 2) hx hb dX5_cross_206 (by decide) ?_
                      refine lv_goto (tgt := 211) hx hb dX5_cross_207 (by decide) ?_
                      have hP9 := hP
                      have hD9 := hD
                      have hS9 := hS
                      have qv : fX5_cross xs ys pm ia ib ic id = (2 : Int32) := by unfold fX5_cross; rw [if_neg c1, if_neg c2, if_neg c3, if_neg c4, if_pos c5, if_neg c17, if_pos c19, if_pos c20, if_neg c21]
                      rw [qv]
                      exact W.iret (v := (2 : Int32)) hx hb hr (fun t ht hW => ⟨⟨rfl, by rw [ht]; exact hP9, by rw [hAe]; exact hD9⟩, by rw [hAe]; exact hS9.F ht⟩) hS9.2.2 dX5_cross_211
                    · refine lv_aload_n hx hb dX5_cross_184 rfl (lv_at hl 5 rfl) ?_
                      refine lv_iload_n hx hb dX5_cross_185 rfl (lv_at hl 8 rfl) ?_
                      refine lv_iload hx hb dX5_cross_186 (lv_at hl 9 rfl) ?_
                      refine lv_iload_n hx hb dX5_cross_188 rfl (lv_at hl 6 rfl) ?_
                      refine xr_V (q := (RX5, TX5, 14)) (ci := 9) (q0 := 0) (rest := []) (As := [.int ic, .int id, .int ia]) ⟨hx, hb, hml, hown, hts⟩ (ct5_isOn l D m1 m2 m3 m4 m5 m6 m7 kI kJ xs ys held la lb lc (0 : Int32) pm rm on cl un ze lm ic id ia (o_pt c3 opm) (o_pt c4 opm) (o_pt c1 opm)) (cwV 3 hts gl_X5_131 rfl rfl rfl (by decide +kernel) ⟨Nat.le_of_ble_eq_true rfl, Nat.le_of_ble_eq_true rfl⟩) nN_mv hN hK hP [0, 1, 2, 3, 4, 5, 6] [0, 1] rfl rfl rfl rfl rfl hl.1 rfl (Nat.le_of_ble_eq_true rfl) dX5_cross_189 ⟨Nat.le_of_ble_eq_true rfl, Nat.le_of_ble_eq_true rfl⟩ ?_
                      refine lv_if_ne (tgt := 206) hx hb dX5_cross_192 (by decide) (fun c22 => ?_) (fun c22 => ?_)
                      · refine lv_iconst (v := 2) hx hb dX5_cross_206 (by decide) ?_
                        refine lv_goto (tgt := 211) hx hb dX5_cross_207 (by decide) ?_
                        have hP9 := hP
                        have hD9 := hD
                        have hS9 := hS
                        have qv : fX5_cross xs ys pm ia ib ic id = (2 : Int32) := by unfold fX5_cross; rw [if_neg c1, if_neg c2, if_neg c3, if_neg c4, if_pos c5, if_neg c17, if_pos c19, if_pos c20, if_pos c21, if_neg c22]
                        rw [qv]
                        exact W.iret (v := (2 : Int32)) hx hb hr (fun t ht hW => ⟨⟨rfl, by rw [ht]; exact hP9, by rw [hAe]; exact hD9⟩, by rw [hAe]; exact hS9.F ht⟩) hS9.2.2 dX5_cross_211
                      · refine lv_aload_n hx hb dX5_cross_195 rfl (lv_at hl 5 rfl) ?_
                        refine lv_iload_n hx hb dX5_cross_196 rfl (lv_at hl 8 rfl) ?_
                        refine lv_iload hx hb dX5_cross_197 (lv_at hl 9 rfl) ?_
                        refine lv_iload_n hx hb dX5_cross_199 rfl (lv_at hl 7 rfl) ?_
                        refine xr_V (q := (RX5, TX5, 14)) (ci := 9) (q0 := 0) (rest := []) (As := [.int ic, .int id, .int ib]) ⟨hx, hb, hml, hown, hts⟩ (ct5_isOn l D m1 m2 m3 m4 m5 m6 m7 kI kJ xs ys held la lb lc (0 : Int32) pm rm on cl un ze lm ic id ib (o_pt c3 opm) (o_pt c4 opm) (o_pt c2 opm)) (cwV 3 hts gl_X5_131 rfl rfl rfl (by decide +kernel) ⟨Nat.le_of_ble_eq_true rfl, Nat.le_of_ble_eq_true rfl⟩) nN_mv hN hK hP [0, 1, 2, 3, 4, 5, 6] [0, 1] rfl rfl rfl rfl rfl hl.1 rfl (Nat.le_of_ble_eq_true rfl) dX5_cross_200 ⟨Nat.le_of_ble_eq_true rfl, Nat.le_of_ble_eq_true rfl⟩ ?_
                        refine lv_if_eq (tgt := 210) hx hb dX5_cross_203 (by decide) (fun c23 => ?_) (fun c23 => ?_)
                        · refine lv_iconst (v := 0) hx hb dX5_cross_210 (by decide) ?_
                          have hP9 := hP
                          have hD9 := hD
                          have hS9 := hS
                          have qv : fX5_cross xs ys pm ia ib ic id = (0 : Int32) := by unfold fX5_cross; rw [if_neg c1, if_neg c2, if_neg c3, if_neg c4, if_pos c5, if_neg c17, if_pos c19, if_pos c20, if_pos c21, if_pos c22, if_pos c23]
                          rw [qv]
                          exact W.iret (v := (0 : Int32)) hx hb hr (fun t ht hW => ⟨⟨rfl, by rw [ht]; exact hP9, by rw [hAe]; exact hD9⟩, by rw [hAe]; exact hS9.F ht⟩) hS9.2.2 dX5_cross_211
                        · refine lv_iconst (v := 2) hx hb dX5_cross_206 (by decide) ?_
                          refine lv_goto (tgt := 211) hx hb dX5_cross_207 (by decide) ?_
                          have hP9 := hP
                          have hD9 := hD
                          have hS9 := hS
                          have qv : fX5_cross xs ys pm ia ib ic id = (2 : Int32) := by unfold fX5_cross; rw [if_neg c1, if_neg c2, if_neg c3, if_neg c4, if_pos c5, if_neg c17, if_pos c19, if_pos c20, if_pos c21, if_pos c22, if_neg c23]
                          rw [qv]
                          exact W.iret (v := (2 : Int32)) hx hb hr (fun t ht hW => ⟨⟨rfl, by rw [ht]; exact hP9, by rw [hAe]; exact hD9⟩, by rw [hAe]; exact hS9.F ht⟩) hS9.2.2 dX5_cross_211
                · refine lv_iload hx hb dX5_cross_153 (lv_at hl 2 rfl) ?_
                  refine lv_iload hx hb dX5_cross_155 (lv_at hl 1 rfl) ?_
                  refine lv_imul hx hb dX5_cross_157 ?_
                  refine lv_if_ge (tgt := 163) hx hb dX5_cross_158 (by decide) (fun c24 => ?_) (fun c24 => ?_)
                  · refine lv_aload_n hx hb dX5_cross_163 rfl (lv_at hl 5 rfl) ?_
                    refine lv_iload_n hx hb dX5_cross_164 rfl (lv_at hl 6 rfl) ?_
                    refine lv_iload_n hx hb dX5_cross_165 rfl (lv_at hl 7 rfl) ?_
                    refine lv_iload_n hx hb dX5_cross_166 rfl (lv_at hl 8 rfl) ?_
                    refine xr_V (q := (RX5, TX5, 14)) (ci := 9) (q0 := 0) (rest := []) (As := [.int ia, .int ib, .int ic]) ⟨hx, hb, hml, hown, hts⟩ (ct5_isOn l D m1 m2 m3 m4 m5 m6 m7 kI kJ xs ys held la lb lc (0 : Int32) pm rm on cl un ze lm ia ib ic (o_pt c1 opm) (o_pt c2 opm) (o_pt c3 opm)) (cwV 3 hts gl_X5_131 rfl rfl rfl (by decide +kernel) ⟨Nat.le_of_ble_eq_true rfl, Nat.le_of_ble_eq_true rfl⟩) nN_mv hN hK hP [0, 1, 2, 3, 4, 5, 6] [0, 1] rfl rfl rfl rfl rfl hl.1 rfl (Nat.le_of_ble_eq_true rfl) dX5_cross_167 ⟨Nat.le_of_ble_eq_true rfl, Nat.le_of_ble_eq_true rfl⟩ ?_
                    refine lv_if_ne (tgt := 206) hx hb dX5_cross_170 (by decide) (fun c25 => ?_) (fun c25 => ?_)
                    · refine lv_iconst (v := 2) hx hb dX5_cross_206 (by decide) ?_
                      refine lv_goto (tgt := 211) hx hb dX5_cross_207 (by decide) ?_
                      have hP9 := hP
                      have hD9 := hD
                      have hS9 := hS
                      have qv : fX5_cross xs ys pm ia ib ic id = (2 : Int32) := by unfold fX5_cross; rw [if_neg c1, if_neg c2, if_neg c3, if_neg c4, if_pos c5, if_neg c17, if_neg c19, if_pos c24, if_neg c25]
                      rw [qv]
                      exact W.iret (v := (2 : Int32)) hx hb hr (fun t ht hW => ⟨⟨rfl, by rw [ht]; exact hP9, by rw [hAe]; exact hD9⟩, by rw [hAe]; exact hS9.F ht⟩) hS9.2.2 dX5_cross_211
                    · refine lv_aload_n hx hb dX5_cross_173 rfl (lv_at hl 5 rfl) ?_
                      refine lv_iload_n hx hb dX5_cross_174 rfl (lv_at hl 6 rfl) ?_
                      refine lv_iload_n hx hb dX5_cross_175 rfl (lv_at hl 7 rfl) ?_
                      refine lv_iload hx hb dX5_cross_176 (lv_at hl 9 rfl) ?_
                      refine xr_V (q := (RX5, TX5, 14)) (ci := 9) (q0 := 0) (rest := []) (As := [.int ia, .int ib, .int id]) ⟨hx, hb, hml, hown, hts⟩ (ct5_isOn l D m1 m2 m3 m4 m5 m6 m7 kI kJ xs ys held la lb lc (0 : Int32) pm rm on cl un ze lm ia ib id (o_pt c1 opm) (o_pt c2 opm) (o_pt c4 opm)) (cwV 3 hts gl_X5_131 rfl rfl rfl (by decide +kernel) ⟨Nat.le_of_ble_eq_true rfl, Nat.le_of_ble_eq_true rfl⟩) nN_mv hN hK hP [0, 1, 2, 3, 4, 5, 6] [0, 1] rfl rfl rfl rfl rfl hl.1 rfl (Nat.le_of_ble_eq_true rfl) dX5_cross_178 ⟨Nat.le_of_ble_eq_true rfl, Nat.le_of_ble_eq_true rfl⟩ ?_
                      refine lv_if_ne (tgt := 206) hx hb dX5_cross_181 (by decide) (fun c26 => ?_) (fun c26 => ?_)
                      · refine lv_iconst (v := 2) hx hb dX5_cross_206 (by decide) ?_
                        refine lv_goto (tgt := 211) hx hb dX5_cross_207 (by decide) ?_
                        have hP9 := hP
                        have hD9 := hD
                        have hS9 := hS
                        have qv : fX5_cross xs ys pm ia ib ic id = (2 : Int32) := by unfold fX5_cross; rw [if_neg c1, if_neg c2, if_neg c3, if_neg c4, if_pos c5, if_neg c17, if_neg c19, if_pos c24, if_pos c25, if_neg c26]
                        rw [qv]
                        exact W.iret (v := (2 : Int32)) hx hb hr (fun t ht hW => ⟨⟨rfl, by rw [ht]; exact hP9, by rw [hAe]; exact hD9⟩, by rw [hAe]; exact hS9.F ht⟩) hS9.2.2 dX5_cross_211
                      · refine lv_aload_n hx hb dX5_cross_184 rfl (lv_at hl 5 rfl) ?_
                        refine lv_iload_n hx hb dX5_cross_185 rfl (lv_at hl 8 rfl) ?_
                        refine lv_iload hx hb dX5_cross_186 (lv_at hl 9 rfl) ?_
                        refine lv_iload_n hx hb dX5_cross_188 rfl (lv_at hl 6 rfl) ?_
                        refine xr_V (q := (RX5, TX5, 14)) (ci := 9) (q0 := 0) (rest := []) (As := [.int ic, .int id, .int ia]) ⟨hx, hb, hml, hown, hts⟩ (ct5_isOn l D m1 m2 m3 m4 m5 m6 m7 kI kJ xs ys held la lb lc (0 : Int32) pm rm on cl un ze lm ic id ia (o_pt c3 opm) (o_pt c4 opm) (o_pt c1 opm)) (cwV 3 hts gl_X5_131 rfl rfl rfl (by decide +kernel) ⟨Nat.le_of_ble_eq_true rfl, Nat.le_of_ble_eq_true rfl⟩) nN_mv hN hK hP [0, 1, 2, 3, 4, 5, 6] [0, 1] rfl rfl rfl rfl rfl hl.1 rfl (Nat.le_of_ble_eq_true rfl) dX5_cross_189 ⟨Nat.le_of_ble_eq_true rfl, Nat.le_of_ble_eq_true rfl⟩ ?_
                        refine lv_if_ne (tgt := 206) hx hb dX5_cross_192 (by decide) (fun c27 => ?_) (fun c27 => ?_)
                        · refine lv_iconst (v := 2) hx hb dX5_cross_206 (by decide) ?_
                          refine lv_goto (tgt := 211) hx hb dX5_cross_207 (by decide) ?_
                          have hP9 := hP
                          have hD9 := hD
                          have hS9 := hS
                          have qv : fX5_cross xs ys pm ia ib ic id = (2 : Int32) := by unfold fX5_cross; rw [if_neg c1, if_neg c2, if_neg c3, if_neg c4, if_pos c5, if_neg c17, if_neg c19, if_pos c24, if_pos c25, if_pos c26, if_neg c27]
                          rw [qv]
                          exact W.iret (v := (2 : Int32)) hx hb hr (fun t ht hW => ⟨⟨rfl, by rw [ht]; exact hP9, by rw [hAe]; exact hD9⟩, by rw [hAe]; exact hS9.F ht⟩) hS9.2.2 dX5_cross_211
                        · refine lv_aload_n hx hb dX5_cross_195 rfl (lv_at hl 5 rfl) ?_
                          refine lv_iload_n hx hb dX5_cross_196 rfl (lv_at hl 8 rfl) ?_
                          refine lv_iload hx hb dX5_cross_197 (lv_at hl 9 rfl) ?_
                          refine lv_iload_n hx hb dX5_cross_199 rfl (lv_at hl 7 rfl) ?_
                          refine xr_V (q := (RX5, TX5, 14)) (ci := 9) (q0 := 0) (rest := []) (As := [.int ic, .int id, .int ib]) ⟨hx, hb, hml, hown, hts⟩ (ct5_isOn l D m1 m2 m3 m4 m5 m6 m7 kI kJ xs ys held la lb lc (0 : Int32) pm rm on cl un ze lm ic id ib (o_pt c3 opm) (o_pt c4 opm) (o_pt c2 opm)) (cwV 3 hts gl_X5_131 rfl rfl rfl (by decide +kernel) ⟨Nat.le_of_ble_eq_true rfl, Nat.le_of_ble_eq_true rfl⟩) nN_mv hN hK hP [0, 1, 2, 3, 4, 5, 6] [0, 1] rfl rfl rfl rfl rfl hl.1 rfl (Nat.le_of_ble_eq_true rfl) dX5_cross_200 ⟨Nat.le_of_ble_eq_true rfl, Nat.le_of_ble_eq_true rfl⟩ ?_
                          refine lv_if_eq (tgt := 210) hx hb dX5_cross_203 (by decide) (fun c28 => ?_) (fun c28 => ?_)
                          · refine lv_iconst (v := 0) hx hb dX5_cross_210 (by decide) ?_
                            have hP9 := hP
                            have hD9 := hD
                            have hS9 := hS
                            have qv : fX5_cross xs ys pm ia ib ic id = (0 : Int32) := by unfold fX5_cross; rw [if_neg c1, if_neg c2, if_neg c3, if_neg c4, if_pos c5, if_neg c17, if_neg c19, if_pos c24, if_pos c25, if_pos c26, if_pos c27, if_pos c28]
                            rw [qv]
                            exact W.iret (v := (0 : Int32)) hx hb hr (fun t ht hW => ⟨⟨rfl, by rw [ht]; exact hP9, by rw [hAe]; exact hD9⟩, by rw [hAe]; exact hS9.F ht⟩) hS9.2.2 dX5_cross_211
                          · refine lv_iconst (v := 2) hx hb dX5_cross_206 (by decide) ?_
                            refine lv_goto (tgt := 211) hx hb dX5_cross_207 (by decide) ?_
                            have hP9 := hP
                            have hD9 := hD
                            have hS9 := hS
                            have qv : fX5_cross xs ys pm ia ib ic id = (2 : Int32) := by unfold fX5_cross; rw [if_neg c1, if_neg c2, if_neg c3, if_neg c4, if_pos c5, if_neg c17, if_neg c19, if_pos c24, if_pos c25, if_pos c26, if_pos c27, if_neg c28]
                            rw [qv]
                            exact W.iret (v := (2 : Int32)) hx hb hr (fun t ht hW => ⟨⟨rfl, by rw [ht]; exact hP9, by rw [hAe]; exact hD9⟩, by rw [hAe]; exact hS9.F ht⟩) hS9.2.2 dX5_cross_211
                  · refine lv_iconst (v := 1) hx hb dX5_cross_161 (by decide) ?_
                    have hP9 := hP
                    have hD9 := hD
                    have hS9 := hS
                    have qv : fX5_cross xs ys pm ia ib ic id = (1 : Int32) := by unfold fX5_cross; rw [if_neg c1, if_neg c2, if_neg c3, if_neg c4, if_pos c5, if_neg c17, if_neg c19, if_neg c24]
                    rw [qv]
                    exact W.iret (v := (1 : Int32)) hx hb hr (fun t ht hW => ⟨⟨rfl, by rw [ht]; exact hP9, by rw [hAe]; exact hD9⟩, by rw [hAe]; exact hS9.F ht⟩) hS9.2.2 dX5_cross_162
              · exact absurd (by decide) c18
            · refine lv_iload hx hb dX5_cross_90 (lv_at hl 1 rfl) ?_
              refine lv_if_ne (tgt := 104) hx hb dX5_cross_92 (by decide) (fun c29 => ?_) (fun c29 => ?_)
              · refine lv_iconst (v := 0) hx hb dX5_cross_104 (by decide) ?_
                refine lv_istore (lv' := [(9, .int (0 : Int32)), (8, .int (fX5_turn xs ys ic id ib)), (7, .int (fX5_turn xs ys ic id ia)), (6, .int (fX5_turn xs ys ia ib id)), (5, .int (fX5_turn xs ys ia ib ic)), (0, .ref m1), (1, .int ia), (2, .int ib), (3, .int ic), (4, .int id)]) hx hb dX5_cross_105 hl (by decide) rfl (fun ls hl => ?_)
                refine lv_iload hx hb dX5_cross_107 (lv_at hl 0 rfl) ?_
                refine lv_if_eq (tgt := 145) hx hb dX5_cross_109 (by decide) (fun c30 => ?_) (fun c30 => ?_)
                · refine lv_iload hx hb dX5_cross_145 (lv_at hl 4 rfl) ?_
                  refine lv_iload hx hb dX5_cross_147 (lv_at hl 3 rfl) ?_
                  refine lv_imul hx hb dX5_cross_149 ?_
                  refine lv_if_ge (tgt := 163) hx hb dX5_cross_150 (by decide) (fun c31 => ?_) (fun c31 => ?_)
                  · refine lv_aload_n hx hb dX5_cross_163 rfl (lv_at hl 5 rfl) ?_
                    refine lv_iload_n hx hb dX5_cross_164 rfl (lv_at hl 6 rfl) ?_
                    refine lv_iload_n hx hb dX5_cross_165 rfl (lv_at hl 7 rfl) ?_
                    refine lv_iload_n hx hb dX5_cross_166 rfl (lv_at hl 8 rfl) ?_
                    refine xr_V (q := (RX5, TX5, 14)) (ci := 9) (q0 := 0) (rest := []) (As := [.int ia, .int ib, .int ic]) ⟨hx, hb, hml, hown, hts⟩ (ct5_isOn l D m1 m2 m3 m4 m5 m6 m7 kI kJ xs ys held la lb lc (0 : Int32) pm rm on cl un ze lm ia ib ic (o_pt c1 opm) (o_pt c2 opm) (o_pt c3 opm)) (cwV 3 hts gl_X5_131 rfl rfl rfl (by decide +kernel) ⟨Nat.le_of_ble_eq_true rfl, Nat.le_of_ble_eq_true rfl⟩) nN_mv hN hK hP [0, 1, 2, 3, 4, 5, 6] [0, 1] rfl rfl rfl rfl rfl hl.1 rfl (Nat.le_of_ble_eq_true rfl) dX5_cross_167 ⟨Nat.le_of_ble_eq_true rfl, Nat.le_of_ble_eq_true rfl⟩ ?_
                    refine lv_if_ne (tgt := 206) hx hb dX5_cross_170 (by decide) (fun c32 => ?_) (fun c32 => ?_)
                    · refine lv_iconst (v := 2) hx hb dX5_cross_206 (by decide) ?_
                      refine lv_goto (tgt := 211) hx hb dX5_cross_207 (by decide) ?_
                      have hP9 := hP
                      have hD9 := hD
                      have hS9 := hS
                      have qv : fX5_cross xs ys pm ia ib ic id = (2 : Int32) := by unfold fX5_cross; rw [if_neg c1, if_neg c2, if_neg c3, if_neg c4, if_pos c5, if_pos c17, if_neg c29, if_pos c31, if_neg c32]
                      rw [qv]
                      exact W.iret (v := (2 : Int32)) hx hb hr (fun t ht hW => ⟨⟨rfl, by rw [ht]; exact hP9, by rw [hAe]; exact hD9⟩, by rw [hAe]; exact hS9.F ht⟩) hS9.2.2 dX5_cross_211
                    · refine lv_aload_n hx hb dX5_cross_173 rfl (lv_at hl 5 rfl) ?_
                      refine lv_iload_n hx hb dX5_cross_174 rfl (lv_at hl 6 rfl) ?_
                      refine lv_iload_n hx hb dX5_cross_175 rfl (lv_at hl 7 rfl) ?_
                      refine lv_iload hx hb dX5_cross_176 (lv_at hl 9 rfl) ?_
                      refine xr_V (q := (RX5, TX5, 14)) (ci := 9) (q0 := 0) (rest := []) (As := [.int ia, .int ib, .int id]) ⟨hx, hb, hml, hown, hts⟩ (ct5_isOn l D m1 m2 m3 m4 m5 m6 m7 kI kJ xs ys held la lb lc (0 : Int32) pm rm on cl un ze lm ia ib id (o_pt c1 opm) (o_pt c2 opm) (o_pt c4 opm)) (cwV 3 hts gl_X5_131 rfl rfl rfl (by decide +kernel) ⟨Nat.le_of_ble_eq_true rfl, Nat.le_of_ble_eq_true rfl⟩) nN_mv hN hK hP [0, 1, 2, 3, 4, 5, 6] [0, 1] rfl rfl rfl rfl rfl hl.1 rfl (Nat.le_of_ble_eq_true rfl) dX5_cross_178 ⟨Nat.le_of_ble_eq_true rfl, Nat.le_of_ble_eq_true rfl⟩ ?_
                      refine lv_if_ne (tgt := 206) hx hb dX5_cross_181 (by decide) (fun c33 => ?_) (fun c33 => ?_)
                      · refine lv_iconst (v := 2) hx hb dX5_cross_206 (by decide) ?_
                        refine lv_goto (tgt := 211) hx hb dX5_cross_207 (by decide) ?_
                        have hP9 := hP
                        have hD9 := hD
                        have hS9 := hS
                        have qv : fX5_cross xs ys pm ia ib ic id = (2 : Int32) := by unfold fX5_cross; rw [if_neg c1, if_neg c2, if_neg c3, if_neg c4, if_pos c5, if_pos c17, if_neg c29, if_pos c31, if_pos c32, if_neg c33]
                        rw [qv]
                        exact W.iret (v := (2 : Int32)) hx hb hr (fun t ht hW => ⟨⟨rfl, by rw [ht]; exact hP9, by rw [hAe]; exact hD9⟩, by rw [hAe]; exact hS9.F ht⟩) hS9.2.2 dX5_cross_211
                      · refine lv_aload_n hx hb dX5_cross_184 rfl (lv_at hl 5 rfl) ?_
                        refine lv_iload_n hx hb dX5_cross_185 rfl (lv_at hl 8 rfl) ?_
                        refine lv_iload hx hb dX5_cross_186 (lv_at hl 9 rfl) ?_
                        refine lv_iload_n hx hb dX5_cross_188 rfl (lv_at hl 6 rfl) ?_
                        refine xr_V (q := (RX5, TX5, 14)) (ci := 9) (q0 := 0) (rest := []) (As := [.int ic, .int id, .int ia]) ⟨hx, hb, hml, hown, hts⟩ (ct5_isOn l D m1 m2 m3 m4 m5 m6 m7 kI kJ xs ys held la lb lc (0 : Int32) pm rm on cl un ze lm ic id ia (o_pt c3 opm) (o_pt c4 opm) (o_pt c1 opm)) (cwV 3 hts gl_X5_131 rfl rfl rfl (by decide +kernel) ⟨Nat.le_of_ble_eq_true rfl, Nat.le_of_ble_eq_true rfl⟩) nN_mv hN hK hP [0, 1, 2, 3, 4, 5, 6] [0, 1] rfl rfl rfl rfl rfl hl.1 rfl (Nat.le_of_ble_eq_true rfl) dX5_cross_189 ⟨Nat.le_of_ble_eq_true rfl, Nat.le_of_ble_eq_true rfl⟩ ?_
                        refine lv_if_ne (tgt := 206) hx hb dX5_cross_192 (by decide) (fun c34 => ?_) (fun c34 => ?_)
                        · refine lv_iconst (v := 2) hx hb dX5_cross_206 (by decide) ?_
                          refine lv_goto (tgt := 211) hx hb dX5_cross_207 (by decide) ?_
                          have hP9 := hP
                          have hD9 := hD
                          have hS9 := hS
                          have qv : fX5_cross xs ys pm ia ib ic id = (2 : Int32) := by unfold fX5_cross; rw [if_neg c1, if_neg c2, if_neg c3, if_neg c4, if_pos c5, if_pos c17, if_neg c29, if_pos c31, if_pos c32, if_pos c33, if_neg c34]
                          rw [qv]
                          exact W.iret (v := (2 : Int32)) hx hb hr (fun t ht hW => ⟨⟨rfl, by rw [ht]; exact hP9, by rw [hAe]; exact hD9⟩, by rw [hAe]; exact hS9.F ht⟩) hS9.2.2 dX5_cross_211
                        · refine lv_aload_n hx hb dX5_cross_195 rfl (lv_at hl 5 rfl) ?_
                          refine lv_iload_n hx hb dX5_cross_196 rfl (lv_at hl 8 rfl) ?_
                          refine lv_iload hx hb dX5_cross_197 (lv_at hl 9 rfl) ?_
                          refine lv_iload_n hx hb dX5_cross_199 rfl (lv_at hl 7 rfl) ?_
                          refine xr_V (q := (RX5, TX5, 14)) (ci := 9) (q0 := 0) (rest := []) (As := [.int ic, .int id, .int ib]) ⟨hx, hb, hml, hown, hts⟩ (ct5_isOn l D m1 m2 m3 m4 m5 m6 m7 kI kJ xs ys held la lb lc (0 : Int32) pm rm on cl un ze lm ic id ib (o_pt c3 opm) (o_pt c4 opm) (o_pt c2 opm)) (cwV 3 hts gl_X5_131 rfl rfl rfl (by decide +kernel) ⟨Nat.le_of_ble_eq_true rfl, Nat.le_of_ble_eq_true rfl⟩) nN_mv hN hK hP [0, 1, 2, 3, 4, 5, 6] [0, 1] rfl rfl rfl rfl rfl hl.1 rfl (Nat.le_of_ble_eq_true rfl) dX5_cross_200 ⟨Nat.le_of_ble_eq_true rfl, Nat.le_of_ble_eq_true rfl⟩ ?_
                          refine lv_if_eq (tgt := 210) hx hb dX5_cross_203 (by decide) (fun c35 => ?_) (fun c35 => ?_)
                          · refine lv_iconst (v := 0) hx hb dX5_cross_210 (by decide) ?_
                            have hP9 := hP
                            have hD9 := hD
                            have hS9 := hS
                            have qv : fX5_cross xs ys pm ia ib ic id = (0 : Int32) := by unfold fX5_cross; rw [if_neg c1, if_neg c2, if_neg c3, if_neg c4, if_pos c5, if_pos c17, if_neg c29, if_pos c31, if_pos c32, if_pos c33, if_pos c34, if_pos c35]
                            rw [qv]
                            exact W.iret (v := (0 : Int32)) hx hb hr (fun t ht hW => ⟨⟨rfl, by rw [ht]; exact hP9, by rw [hAe]; exact hD9⟩, by rw [hAe]; exact hS9.F ht⟩) hS9.2.2 dX5_cross_211
                          · refine lv_iconst (v := 2) hx hb dX5_cross_206 (by decide) ?_
                            refine lv_goto (tgt := 211) hx hb dX5_cross_207 (by decide) ?_
                            have hP9 := hP
                            have hD9 := hD
                            have hS9 := hS
                            have qv : fX5_cross xs ys pm ia ib ic id = (2 : Int32) := by unfold fX5_cross; rw [if_neg c1, if_neg c2, if_neg c3, if_neg c4, if_pos c5, if_pos c17, if_neg c29, if_pos c31, if_pos c32, if_pos c33, if_pos c34, if_neg c35]
                            rw [qv]
                            exact W.iret (v := (2 : Int32)) hx hb hr (fun t ht hW => ⟨⟨rfl, by rw [ht]; exact hP9, by rw [hAe]; exact hD9⟩, by rw [hAe]; exact hS9.F ht⟩) hS9.2.2 dX5_cross_211
                  · refine lv_iload hx hb dX5_cross_153 (lv_at hl 2 rfl) ?_
                    refine lv_iload hx hb dX5_cross_155 (lv_at hl 1 rfl) ?_
                    refine lv_imul hx hb dX5_cross_157 ?_
                    refine lv_if_ge (tgt := 163) hx hb dX5_cross_158 (by decide) (fun c36 => ?_) (fun c36 => ?_)
                    · refine lv_aload_n hx hb dX5_cross_163 rfl (lv_at hl 5 rfl) ?_
                      refine lv_iload_n hx hb dX5_cross_164 rfl (lv_at hl 6 rfl) ?_
                      refine lv_iload_n hx hb dX5_cross_165 rfl (lv_at hl 7 rfl) ?_
                      refine lv_iload_n hx hb dX5_cross_166 rfl (lv_at hl 8 rfl) ?_
                      refine xr_V (q := (RX5, TX5, 14)) (ci := 9) (q0 := 0) (rest := []) (As := [.int ia, .int ib, .int ic]) ⟨hx, hb, hml, hown, hts⟩ (ct5_isOn l D m1 m2 m3 m4 m5 m6 m7 kI kJ xs ys held la lb lc (0 : Int32) pm rm on cl un ze lm ia ib ic (o_pt c1 opm) (o_pt c2 opm) (o_pt c3 opm)) (cwV 3 hts gl_X5_131 rfl rfl rfl (by decide +kernel) ⟨Nat.le_of_ble_eq_true rfl, Nat.le_of_ble_eq_true rfl⟩) nN_mv hN hK hP [0, 1, 2, 3, 4, 5, 6] [0, 1] rfl rfl rfl rfl rfl hl.1 rfl (Nat.le_of_ble_eq_true rfl) dX5_cross_167 ⟨Nat.le_of_ble_eq_true rfl, Nat.le_of_ble_eq_true rfl⟩ ?_
                      refine lv_if_ne (tgt := 206) hx hb dX5_cross_170 (by decide) (fun c37 => ?_) (fun c37 => ?_)
                      · refine lv_iconst (v := 2) hx hb dX5_cross_206 (by decide) ?_
                        refine lv_goto (tgt := 211) hx hb dX5_cross_207 (by decide) ?_
                        have hP9 := hP
                        have hD9 := hD
                        have hS9 := hS
                        have qv : fX5_cross xs ys pm ia ib ic id = (2 : Int32) := by unfold fX5_cross; rw [if_neg c1, if_neg c2, if_neg c3, if_neg c4, if_pos c5, if_pos c17, if_neg c29, if_neg c31, if_pos c36, if_neg c37]
                        rw [qv]
                        exact W.iret (v := (2 : Int32)) hx hb hr (fun t ht hW => ⟨⟨rfl, by rw [ht]; exact hP9, by rw [hAe]; exact hD9⟩, by rw [hAe]; exact hS9.F ht⟩) hS9.2.2 dX5_cross_211
                      · refine lv_aload_n hx hb dX5_cross_173 rfl (lv_at hl 5 rfl) ?_
                        refine lv_iload_n hx hb dX5_cross_174 rfl (lv_at hl 6 rfl) ?_
                        refine lv_iload_n hx hb dX5_cross_175 rfl (lv_at hl 7 rfl) ?_
                        refine lv_iload hx hb dX5_cross_176 (lv_at hl 9 rfl) ?_
                        refine xr_V (q := (RX5, TX5, 14)) (ci := 9) (q0 := 0) (rest := []) (As := [.int ia, .int ib, .int id]) ⟨hx, hb, hml, hown, hts⟩ (ct5_isOn l D m1 m2 m3 m4 m5 m6 m7 kI kJ xs ys held la lb lc (0 : Int32) pm rm on cl un ze lm ia ib id (o_pt c1 opm) (o_pt c2 opm) (o_pt c4 opm)) (cwV 3 hts gl_X5_131 rfl rfl rfl (by decide +kernel) ⟨Nat.le_of_ble_eq_true rfl, Nat.le_of_ble_eq_true rfl⟩) nN_mv hN hK hP [0, 1, 2, 3, 4, 5, 6] [0, 1] rfl rfl rfl rfl rfl hl.1 rfl (Nat.le_of_ble_eq_true rfl) dX5_cross_178 ⟨Nat.le_of_ble_eq_true rfl, Nat.le_of_ble_eq_true rfl⟩ ?_
                        refine lv_if_ne (tgt := 206) hx hb dX5_cross_181 (by decide) (fun c38 => ?_) (fun c38 => ?_)
                        · refine lv_iconst (v := 2) hx hb dX5_cross_206 (by decide) ?_
                          refine lv_goto (tgt := 211) hx hb dX5_cross_207 (by decide) ?_
                          have hP9 := hP
                          have hD9 := hD
                          have hS9 := hS
                          have qv : fX5_cross xs ys pm ia ib ic id = (2 : Int32) := by unfold fX5_cross; rw [if_neg c1, if_neg c2, if_neg c3, if_neg c4, if_pos c5, if_pos c17, if_neg c29, if_neg c31, if_pos c36, if_pos c37, if_neg c38]
                          rw [qv]
                          exact W.iret (v := (2 : Int32)) hx hb hr (fun t ht hW => ⟨⟨rfl, by rw [ht]; exact hP9, by rw [hAe]; exact hD9⟩, by rw [hAe]; exact hS9.F ht⟩) hS9.2.2 dX5_cross_211
                        · refine lv_aload_n hx hb dX5_cross_184 rfl (lv_at hl 5 rfl) ?_
                          refine lv_iload_n hx hb dX5_cross_185 rfl (lv_at hl 8 rfl) ?_
                          refine lv_iload hx hb dX5_cross_186 (lv_at hl 9 rfl) ?_
                          refine lv_iload_n hx hb dX5_cross_188 rfl (lv_at hl 6 rfl) ?_
                          refine xr_V (q := (RX5, TX5, 14)) (ci := 9) (q0 := 0) (rest := []) (As := [.int ic, .int id, .int ia]) ⟨hx, hb, hml, hown, hts⟩ (ct5_isOn l D m1 m2 m3 m4 m5 m6 m7 kI kJ xs ys held la lb lc (0 : Int32) pm rm on cl un ze lm ic id ia (o_pt c3 opm) (o_pt c4 opm) (o_pt c1 opm)) (cwV 3 hts gl_X5_131 rfl rfl rfl (by decide +kernel) ⟨Nat.le_of_ble_eq_true rfl, Nat.le_of_ble_eq_true rfl⟩) nN_mv hN hK hP [0, 1, 2, 3, 4, 5, 6] [0, 1] rfl rfl rfl rfl rfl hl.1 rfl (Nat.le_of_ble_eq_true rfl) dX5_cross_189 ⟨Nat.le_of_ble_eq_true rfl, Nat.le_of_ble_eq_true rfl⟩ ?_
                          refine lv_if_ne (tgt := 206) hx hb dX5_cross_192 (by decide) (fun c39 => ?_) (fun c39 => ?_)
                          · refine lv_iconst (v := 2) hx hb dX5_cross_206 (by decide) ?_
                            refine lv_goto (tgt := 211) hx hb dX5_cross_207 (by decide) ?_
                            have hP9 := hP
                            have hD9 := hD
                            have hS9 := hS
                            have qv : fX5_cross xs ys pm ia ib ic id = (2 : Int32) := by unfold fX5_cross; rw [if_neg c1, if_neg c2, if_neg c3, if_neg c4, if_pos c5, if_pos c17, if_neg c29, if_neg c31, if_pos c36, if_pos c37, if_pos c38, if_neg c39]
                            rw [qv]
                            exact W.iret (v := (2 : Int32)) hx hb hr (fun t ht hW => ⟨⟨rfl, by rw [ht]; exact hP9, by rw [hAe]; exact hD9⟩, by rw [hAe]; exact hS9.F ht⟩) hS9.2.2 dX5_cross_211
                          · refine lv_aload_n hx hb dX5_cross_195 rfl (lv_at hl 5 rfl) ?_
                            refine lv_iload_n hx hb dX5_cross_196 rfl (lv_at hl 8 rfl) ?_
                            refine lv_iload hx hb dX5_cross_197 (lv_at hl 9 rfl) ?_
                            refine lv_iload_n hx hb dX5_cross_199 rfl (lv_at hl 7 rfl) ?_
                            refine xr_V (q := (RX5, TX5, 14)) (ci := 9) (q0 := 0) (rest := []) (As := [.int ic, .int id, .int ib]) ⟨hx, hb, hml, hown, hts⟩ (ct5_isOn l D m1 m2 m3 m4 m5 m6 m7 kI kJ xs ys held la lb lc (0 : Int32) pm rm on cl un ze lm ic id ib (o_pt c3 opm) (o_pt c4 opm) (o_pt c2 opm)) (cwV 3 hts gl_X5_131 rfl rfl rfl (by decide +kernel) ⟨Nat.le_of_ble_eq_true rfl, Nat.le_of_ble_eq_true rfl⟩) nN_mv hN hK hP [0, 1, 2, 3, 4, 5, 6] [0, 1] rfl rfl rfl rfl rfl hl.1 rfl (Nat.le_of_ble_eq_true rfl) dX5_cross_200 ⟨Nat.le_of_ble_eq_true rfl, Nat.le_of_ble_eq_true rfl⟩ ?_
                            refine lv_if_eq (tgt := 210) hx hb dX5_cross_203 (by decide) (fun c40 => ?_) (fun c40 => ?_)
                            · refine lv_iconst (v := 0) hx hb dX5_cross_210 (by decide) ?_
                              have hP9 := hP
                              have hD9 := hD
                              have hS9 := hS
                              have qv : fX5_cross xs ys pm ia ib ic id = (0 : Int32) := by unfold fX5_cross; rw [if_neg c1, if_neg c2, if_neg c3, if_neg c4, if_pos c5, if_pos c17, if_neg c29, if_neg c31, if_pos c36, if_pos c37, if_pos c38, if_pos c39, if_pos c40]
                              rw [qv]
                              exact W.iret (v := (0 : Int32)) hx hb hr (fun t ht hW => ⟨⟨rfl, by rw [ht]; exact hP9, by rw [hAe]; exact hD9⟩, by rw [hAe]; exact hS9.F ht⟩) hS9.2.2 dX5_cross_211
                            · refine lv_iconst (v := 2) hx hb dX5_cross_206 (by decide) ?_
                              refine lv_goto (tgt := 211) hx hb dX5_cross_207 (by decide) ?_
                              have hP9 := hP
                              have hD9 := hD
                              have hS9 := hS
                              have qv : fX5_cross xs ys pm ia ib ic id = (2 : Int32) := by unfold fX5_cross; rw [if_neg c1, if_neg c2, if_neg c3, if_neg c4, if_pos c5, if_pos c17, if_neg c29, if_neg c31, if_pos c36, if_pos c37, if_pos c38, if_pos c39, if_neg c40]
                              rw [qv]
                              exact W.iret (v := (2 : Int32)) hx hb hr (fun t ht hW => ⟨⟨rfl, by rw [ht]; exact hP9, by rw [hAe]; exact hD9⟩, by rw [hAe]; exact hS9.F ht⟩) hS9.2.2 dX5_cross_211
                    · refine lv_iconst (v := 1) hx hb dX5_cross_161 (by decide) ?_
                      have hP9 := hP
                      have hD9 := hD
                      have hS9 := hS
                      have qv : fX5_cross xs ys pm ia ib ic id = (1 : Int32) := by unfold fX5_cross; rw [if_neg c1, if_neg c2, if_neg c3, if_neg c4, if_pos c5, if_pos c17, if_neg c29, if_neg c31, if_neg c36]
                      rw [qv]
                      exact W.iret (v := (1 : Int32)) hx hb hr (fun t ht hW => ⟨⟨rfl, by rw [ht]; exact hP9, by rw [hAe]; exact hD9⟩, by rw [hAe]; exact hS9.F ht⟩) hS9.2.2 dX5_cross_162
                · exact absurd (by decide) c30
              · refine lv_iload hx hb dX5_cross_95 (lv_at hl 0 rfl) ?_
                refine lv_if_ne (tgt := 104) hx hb dX5_cross_97 (by decide) (fun c41 => ?_) (fun c41 => ?_)
                · refine lv_iconst (v := 0) hx hb dX5_cross_104 (by decide) ?_
                  refine lv_istore (lv' := [(9, .int (0 : Int32)), (8, .int (fX5_turn xs ys ic id ib)), (7, .int (fX5_turn xs ys ic id ia)), (6, .int (fX5_turn xs ys ia ib id)), (5, .int (fX5_turn xs ys ia ib ic)), (0, .ref m1), (1, .int ia), (2, .int ib), (3, .int ic), (4, .int id)]) hx hb dX5_cross_105 hl (by decide) rfl (fun ls hl => ?_)
                  refine lv_iload hx hb dX5_cross_107 (lv_at hl 0 rfl) ?_
                  refine lv_if_eq (tgt := 145) hx hb dX5_cross_109 (by decide) (fun c42 => ?_) (fun c42 => ?_)
                  · refine lv_iload hx hb dX5_cross_145 (lv_at hl 4 rfl) ?_
                    refine lv_iload hx hb dX5_cross_147 (lv_at hl 3 rfl) ?_
                    refine lv_imul hx hb dX5_cross_149 ?_
                    refine lv_if_ge (tgt := 163) hx hb dX5_cross_150 (by decide) (fun c43 => ?_) (fun c43 => ?_)
                    · refine lv_aload_n hx hb dX5_cross_163 rfl (lv_at hl 5 rfl) ?_
                      refine lv_iload_n hx hb dX5_cross_164 rfl (lv_at hl 6 rfl) ?_
                      refine lv_iload_n hx hb dX5_cross_165 rfl (lv_at hl 7 rfl) ?_
                      refine lv_iload_n hx hb dX5_cross_166 rfl (lv_at hl 8 rfl) ?_
                      refine xr_V (q := (RX5, TX5, 14)) (ci := 9) (q0 := 0) (rest := []) (As := [.int ia, .int ib, .int ic]) ⟨hx, hb, hml, hown, hts⟩ (ct5_isOn l D m1 m2 m3 m4 m5 m6 m7 kI kJ xs ys held la lb lc (0 : Int32) pm rm on cl un ze lm ia ib ic (o_pt c1 opm) (o_pt c2 opm) (o_pt c3 opm)) (cwV 3 hts gl_X5_131 rfl rfl rfl (by decide +kernel) ⟨Nat.le_of_ble_eq_true rfl, Nat.le_of_ble_eq_true rfl⟩) nN_mv hN hK hP [0, 1, 2, 3, 4, 5, 6] [0, 1] rfl rfl rfl rfl rfl hl.1 rfl (Nat.le_of_ble_eq_true rfl) dX5_cross_167 ⟨Nat.le_of_ble_eq_true rfl, Nat.le_of_ble_eq_true rfl⟩ ?_
                      refine lv_if_ne (tgt := 206) hx hb dX5_cross_170 (by decide) (fun c44 => ?_) (fun c44 => ?_)
                      · refine lv_iconst (v := 2) hx hb dX5_cross_206 (by decide) ?_
                        refine lv_goto (tgt := 211) hx hb dX5_cross_207 (by decide) ?_
                        have hP9 := hP
                        have hD9 := hD
                        have hS9 := hS
                        have qv : fX5_cross xs ys pm ia ib ic id = (2 : Int32) := by unfold fX5_cross; rw [if_neg c1, if_neg c2, if_neg c3, if_neg c4, if_pos c5, if_pos c17, if_pos c29, if_neg c41, if_pos c43, if_neg c44]
                        rw [qv]
                        exact W.iret (v := (2 : Int32)) hx hb hr (fun t ht hW => ⟨⟨rfl, by rw [ht]; exact hP9, by rw [hAe]; exact hD9⟩, by rw [hAe]; exact hS9.F ht⟩) hS9.2.2 dX5_cross_211
                      · refine lv_aload_n hx hb dX5_cross_173 rfl (lv_at hl 5 rfl) ?_
                        refine lv_iload_n hx hb dX5_cross_174 rfl (lv_at hl 6 rfl) ?_
                        refine lv_iload_n hx hb dX5_cross_175 rfl (lv_at hl 7 rfl) ?_
                        refine lv_iload hx hb dX5_cross_176 (lv_at hl 9 rfl) ?_
                        refine xr_V (q := (RX5, TX5, 14)) (ci := 9) (q0 := 0) (rest := []) (As := [.int ia, .int ib, .int id]) ⟨hx, hb, hml, hown, hts⟩ (ct5_isOn l D m1 m2 m3 m4 m5 m6 m7 kI kJ xs ys held la lb lc (0 : Int32) pm rm on cl un ze lm ia ib id (o_pt c1 opm) (o_pt c2 opm) (o_pt c4 opm)) (cwV 3 hts gl_X5_131 rfl rfl rfl (by decide +kernel) ⟨Nat.le_of_ble_eq_true rfl, Nat.le_of_ble_eq_true rfl⟩) nN_mv hN hK hP [0, 1, 2, 3, 4, 5, 6] [0, 1] rfl rfl rfl rfl rfl hl.1 rfl (Nat.le_of_ble_eq_true rfl) dX5_cross_178 ⟨Nat.le_of_ble_eq_true rfl, Nat.le_of_ble_eq_true rfl⟩ ?_
                        refine lv_if_ne (tgt := 206) hx hb dX5_cross_181 (by decide) (fun c45 => ?_) (fun c45 => ?_)
                        · refine lv_iconst (v := 2) hx hb dX5_cross_206 (by decide) ?_
                          refine lv_goto (tgt := 211) hx hb dX5_cross_207 (by decide) ?_
                          have hP9 := hP
                          have hD9 := hD
                          have hS9 := hS
                          have qv : fX5_cross xs ys pm ia ib ic id = (2 : Int32) := by unfold fX5_cross; rw [if_neg c1, if_neg c2, if_neg c3, if_neg c4, if_pos c5, if_pos c17, if_pos c29, if_neg c41, if_pos c43, if_pos c44, if_neg c45]
                          rw [qv]
                          exact W.iret (v := (2 : Int32)) hx hb hr (fun t ht hW => ⟨⟨rfl, by rw [ht]; exact hP9, by rw [hAe]; exact hD9⟩, by rw [hAe]; exact hS9.F ht⟩) hS9.2.2 dX5_cross_211
                        · refine lv_aload_n hx hb dX5_cross_184 rfl (lv_at hl 5 rfl) ?_
                          refine lv_iload_n hx hb dX5_cross_185 rfl (lv_at hl 8 rfl) ?_
                          refine lv_iload hx hb dX5_cross_186 (lv_at hl 9 rfl) ?_
                          refine lv_iload_n hx hb dX5_cross_188 rfl (lv_at hl 6 rfl) ?_
                          refine xr_V (q := (RX5, TX5, 14)) (ci := 9) (q0 := 0) (rest := []) (As := [.int ic, .int id, .int ia]) ⟨hx, hb, hml, hown, hts⟩ (ct5_isOn l D m1 m2 m3 m4 m5 m6 m7 kI kJ xs ys held la lb lc (0 : Int32) pm rm on cl un ze lm ic id ia (o_pt c3 opm) (o_pt c4 opm) (o_pt c1 opm)) (cwV 3 hts gl_X5_131 rfl rfl rfl (by decide +kernel) ⟨Nat.le_of_ble_eq_true rfl, Nat.le_of_ble_eq_true rfl⟩) nN_mv hN hK hP [0, 1, 2, 3, 4, 5, 6] [0, 1] rfl rfl rfl rfl rfl hl.1 rfl (Nat.le_of_ble_eq_true rfl) dX5_cross_189 ⟨Nat.le_of_ble_eq_true rfl, Nat.le_of_ble_eq_true rfl⟩ ?_
                          refine lv_if_ne (tgt := 206) hx hb dX5_cross_192 (by decide) (fun c46 => ?_) (fun c46 => ?_)
                          · refine lv_iconst (v := 2) hx hb dX5_cross_206 (by decide) ?_
                            refine lv_goto (tgt := 211) hx hb dX5_cross_207 (by decide) ?_
                            have hP9 := hP
                            have hD9 := hD
                            have hS9 := hS
                            have qv : fX5_cross xs ys pm ia ib ic id = (2 : Int32) := by unfold fX5_cross; rw [if_neg c1, if_neg c2, if_neg c3, if_neg c4, if_pos c5, if_pos c17, if_pos c29, if_neg c41, if_pos c43, if_pos c44, if_pos c45, if_neg c46]
                            rw [qv]
                            exact W.iret (v := (2 : Int32)) hx hb hr (fun t ht hW => ⟨⟨rfl, by rw [ht]; exact hP9, by rw [hAe]; exact hD9⟩, by rw [hAe]; exact hS9.F ht⟩) hS9.2.2 dX5_cross_211
                          · refine lv_aload_n hx hb dX5_cross_195 rfl (lv_at hl 5 rfl) ?_
                            refine lv_iload_n hx hb dX5_cross_196 rfl (lv_at hl 8 rfl) ?_
                            refine lv_iload hx hb dX5_cross_197 (lv_at hl 9 rfl) ?_
                            refine lv_iload_n hx hb dX5_cross_199 rfl (lv_at hl 7 rfl) ?_
                            refine xr_V (q := (RX5, TX5, 14)) (ci := 9) (q0 := 0) (rest := []) (As := [.int ic, .int id, .int ib]) ⟨hx, hb, hml, hown, hts⟩ (ct5_isOn l D m1 m2 m3 m4 m5 m6 m7 kI kJ xs ys held la lb lc (0 : Int32) pm rm on cl un ze lm ic id ib (o_pt c3 opm) (o_pt c4 opm) (o_pt c2 opm)) (cwV 3 hts gl_X5_131 rfl rfl rfl (by decide +kernel) ⟨Nat.le_of_ble_eq_true rfl, Nat.le_of_ble_eq_true rfl⟩) nN_mv hN hK hP [0, 1, 2, 3, 4, 5, 6] [0, 1] rfl rfl rfl rfl rfl hl.1 rfl (Nat.le_of_ble_eq_true rfl) dX5_cross_200 ⟨Nat.le_of_ble_eq_true rfl, Nat.le_of_ble_eq_true rfl⟩ ?_
                            refine lv_if_eq (tgt := 210) hx hb dX5_cross_203 (by decide) (fun c47 => ?_) (fun c47 => ?_)
                            · refine lv_iconst (v := 0) hx hb dX5_cross_210 (by decide) ?_
                              have hP9 := hP
                              have hD9 := hD
                              have hS9 := hS
                              have qv : fX5_cross xs ys pm ia ib ic id = (0 : Int32) := by unfold fX5_cross; rw [if_neg c1, if_neg c2, if_neg c3, if_neg c4, if_pos c5, if_pos c17, if_pos c29, if_neg c41, if_pos c43, if_pos c44, if_pos c45, if_pos c46, if_pos c47]
                              rw [qv]
                              exact W.iret (v := (0 : Int32)) hx hb hr (fun t ht hW => ⟨⟨rfl, by rw [ht]; exact hP9, by rw [hAe]; exact hD9⟩, by rw [hAe]; exact hS9.F ht⟩) hS9.2.2 dX5_cross_211
                            · refine lv_iconst (v := 2) hx hb dX5_cross_206 (by decide) ?_
                              refine lv_goto (tgt := 211) hx hb dX5_cross_207 (by decide) ?_
                              have hP9 := hP
                              have hD9 := hD
                              have hS9 := hS
                              have qv : fX5_cross xs ys pm ia ib ic id = (2 : Int32) := by unfold fX5_cross; rw [if_neg c1, if_neg c2, if_neg c3, if_neg c4, if_pos c5, if_pos c17, if_pos c29, if_neg c41, if_pos c43, if_pos c44, if_pos c45, if_pos c46, if_neg c47]
                              rw [qv]
                              exact W.iret (v := (2 : Int32)) hx hb hr (fun t ht hW => ⟨⟨rfl, by rw [ht]; exact hP9, by rw [hAe]; exact hD9⟩, by rw [hAe]; exact hS9.F ht⟩) hS9.2.2 dX5_cross_211
                    · refine lv_iload hx hb dX5_cross_153 (lv_at hl 2 rfl) ?_
                      refine lv_iload hx hb dX5_cross_155 (lv_at hl 1 rfl) ?_
                      refine lv_imul hx hb dX5_cross_157 ?_
                      refine lv_if_ge (tgt := 163) hx hb dX5_cross_158 (by decide) (fun c48 => ?_) (fun c48 => ?_)
                      · refine lv_aload_n hx hb dX5_cross_163 rfl (lv_at hl 5 rfl) ?_
                        refine lv_iload_n hx hb dX5_cross_164 rfl (lv_at hl 6 rfl) ?_
                        refine lv_iload_n hx hb dX5_cross_165 rfl (lv_at hl 7 rfl) ?_
                        refine lv_iload_n hx hb dX5_cross_166 rfl (lv_at hl 8 rfl) ?_
                        refine xr_V (q := (RX5, TX5, 14)) (ci := 9) (q0 := 0) (rest := []) (As := [.int ia, .int ib, .int ic]) ⟨hx, hb, hml, hown, hts⟩ (ct5_isOn l D m1 m2 m3 m4 m5 m6 m7 kI kJ xs ys held la lb lc (0 : Int32) pm rm on cl un ze lm ia ib ic (o_pt c1 opm) (o_pt c2 opm) (o_pt c3 opm)) (cwV 3 hts gl_X5_131 rfl rfl rfl (by decide +kernel) ⟨Nat.le_of_ble_eq_true rfl, Nat.le_of_ble_eq_true rfl⟩) nN_mv hN hK hP [0, 1, 2, 3, 4, 5, 6] [0, 1] rfl rfl rfl rfl rfl hl.1 rfl (Nat.le_of_ble_eq_true rfl) dX5_cross_167 ⟨Nat.le_of_ble_eq_true rfl, Nat.le_of_ble_eq_true rfl⟩ ?_
                        refine lv_if_ne (tgt := 206) hx hb dX5_cross_170 (by decide) (fun c49 => ?_) (fun c49 => ?_)
                        · refine lv_iconst (v := 2) hx hb dX5_cross_206 (by decide) ?_
                          refine lv_goto (tgt := 211) hx hb dX5_cross_207 (by decide) ?_
                          have hP9 := hP
                          have hD9 := hD
                          have hS9 := hS
                          have qv : fX5_cross xs ys pm ia ib ic id = (2 : Int32) := by unfold fX5_cross; rw [if_neg c1, if_neg c2, if_neg c3, if_neg c4, if_pos c5, if_pos c17, if_pos c29, if_neg c41, if_neg c43, if_pos c48, if_neg c49]
                          rw [qv]
                          exact W.iret (v := (2 : Int32)) hx hb hr (fun t ht hW => ⟨⟨rfl, by rw [ht]; exact hP9, by rw [hAe]; exact hD9⟩, by rw [hAe]; exact hS9.F ht⟩) hS9.2.2 dX5_cross_211
                        · refine lv_aload_n hx hb dX5_cross_173 rfl (lv_at hl 5 rfl) ?_
                          refine lv_iload_n hx hb dX5_cross_174 rfl (lv_at hl 6 rfl) ?_
                          refine lv_iload_n hx hb dX5_cross_175 rfl (lv_at hl 7 rfl) ?_
                          refine lv_iload hx hb dX5_cross_176 (lv_at hl 9 rfl) ?_
                          refine xr_V (q := (RX5, TX5, 14)) (ci := 9) (q0 := 0) (rest := []) (As := [.int ia, .int ib, .int id]) ⟨hx, hb, hml, hown, hts⟩ (ct5_isOn l D m1 m2 m3 m4 m5 m6 m7 kI kJ xs ys held la lb lc (0 : Int32) pm rm on cl un ze lm ia ib id (o_pt c1 opm) (o_pt c2 opm) (o_pt c4 opm)) (cwV 3 hts gl_X5_131 rfl rfl rfl (by decide +kernel) ⟨Nat.le_of_ble_eq_true rfl, Nat.le_of_ble_eq_true rfl⟩) nN_mv hN hK hP [0, 1, 2, 3, 4, 5, 6] [0, 1] rfl rfl rfl rfl rfl hl.1 rfl (Nat.le_of_ble_eq_true rfl) dX5_cross_178 ⟨Nat.le_of_ble_eq_true rfl, Nat.le_of_ble_eq_true rfl⟩ ?_
                          refine lv_if_ne (tgt := 206) hx hb dX5_cross_181 (by decide) (fun c50 => ?_) (fun c50 => ?_)
                          · refine lv_iconst (v := 2) hx hb dX5_cross_206 (by decide) ?_
                            refine lv_goto (tgt := 211) hx hb dX5_cross_207 (by decide) ?_
                            have hP9 := hP
                            have hD9 := hD
                            have hS9 := hS
                            have qv : fX5_cross xs ys pm ia ib ic id = (2 : Int32) := by unfold fX5_cross; rw [if_neg c1, if_neg c2, if_neg c3, if_neg c4, if_pos c5, if_pos c17, if_pos c29, if_neg c41, if_neg c43, if_pos c48, if_pos c49, if_neg c50]
                            rw [qv]
                            exact W.iret (v := (2 : Int32)) hx hb hr (fun t ht hW => ⟨⟨rfl, by rw [ht]; exact hP9, by rw [hAe]; exact hD9⟩, by rw [hAe]; exact hS9.F ht⟩) hS9.2.2 dX5_cross_211
                          · refine lv_aload_n hx hb dX5_cross_184 rfl (lv_at hl 5 rfl) ?_
                            refine lv_iload_n hx hb dX5_cross_185 rfl (lv_at hl 8 rfl) ?_
                            refine lv_iload hx hb dX5_cross_186 (lv_at hl 9 rfl) ?_
                            refine lv_iload_n hx hb dX5_cross_188 rfl (lv_at hl 6 rfl) ?_
                            refine xr_V (q := (RX5, TX5, 14)) (ci := 9) (q0 := 0) (rest := []) (As := [.int ic, .int id, .int ia]) ⟨hx, hb, hml, hown, hts⟩ (ct5_isOn l D m1 m2 m3 m4 m5 m6 m7 kI kJ xs ys held la lb lc (0 : Int32) pm rm on cl un ze lm ic id ia (o_pt c3 opm) (o_pt c4 opm) (o_pt c1 opm)) (cwV 3 hts gl_X5_131 rfl rfl rfl (by decide +kernel) ⟨Nat.le_of_ble_eq_true rfl, Nat.le_of_ble_eq_true rfl⟩) nN_mv hN hK hP [0, 1, 2, 3, 4, 5, 6] [0, 1] rfl rfl rfl rfl rfl hl.1 rfl (Nat.le_of_ble_eq_true rfl) dX5_cross_189 ⟨Nat.le_of_ble_eq_true rfl, Nat.le_of_ble_eq_true rfl⟩ ?_
                            refine lv_if_ne (tgt := 206) hx hb dX5_cross_192 (by decide) (fun c51 => ?_) (fun c51 => ?_)
                            · refine lv_iconst (v := 2) hx hb dX5_cross_206 (by decide) ?_
                              refine lv_goto (tgt := 211) hx hb dX5_cross_207 (by decide) ?_
                              have hP9 := hP
                              have hD9 := hD
                              have hS9 := hS
                              have qv : fX5_cross xs ys pm ia ib ic id = (2 : Int32) := by unfold fX5_cross; rw [if_neg c1, if_neg c2, if_neg c3, if_neg c4, if_pos c5, if_pos c17, if_pos c29, if_neg c41, if_neg c43, if_pos c48, if_pos c49, if_pos c50, if_neg c51]
                              rw [qv]
                              exact W.iret (v := (2 : Int32)) hx hb hr (fun t ht hW => ⟨⟨rfl, by rw [ht]; exact hP9, by rw [hAe]; exact hD9⟩, by rw [hAe]; exact hS9.F ht⟩) hS9.2.2 dX5_cross_211
                            · refine lv_aload_n hx hb dX5_cross_195 rfl (lv_at hl 5 rfl) ?_
                              refine lv_iload_n hx hb dX5_cross_196 rfl (lv_at hl 8 rfl) ?_
                              refine lv_iload hx hb dX5_cross_197 (lv_at hl 9 rfl) ?_
                              refine lv_iload_n hx hb dX5_cross_199 rfl (lv_at hl 7 rfl) ?_
                              refine xr_V (q := (RX5, TX5, 14)) (ci := 9) (q0 := 0) (rest := []) (As := [.int ic, .int id, .int ib]) ⟨hx, hb, hml, hown, hts⟩ (ct5_isOn l D m1 m2 m3 m4 m5 m6 m7 kI kJ xs ys held la lb lc (0 : Int32) pm rm on cl un ze lm ic id ib (o_pt c3 opm) (o_pt c4 opm) (o_pt c2 opm)) (cwV 3 hts gl_X5_131 rfl rfl rfl (by decide +kernel) ⟨Nat.le_of_ble_eq_true rfl, Nat.le_of_ble_eq_true rfl⟩) nN_mv hN hK hP [0, 1, 2, 3, 4, 5, 6] [0, 1] rfl rfl rfl rfl rfl hl.1 rfl (Nat.le_of_ble_eq_true rfl) dX5_cross_200 ⟨Nat.le_of_ble_eq_true rfl, Nat.le_of_ble_eq_true rfl⟩ ?_
                              refine lv_if_eq (tgt := 210) hx hb dX5_cross_203 (by decide) (fun c52 => ?_) (fun c52 => ?_)
                              · refine lv_iconst (v := 0) hx hb dX5_cross_210 (by decide) ?_
                                have hP9 := hP
                                have hD9 := hD
                                have hS9 := hS
                                have qv : fX5_cross xs ys pm ia ib ic id = (0 : Int32) := by unfold fX5_cross; rw [if_neg c1, if_neg c2, if_neg c3, if_neg c4, if_pos c5, if_pos c17, if_pos c29, if_neg c41, if_neg c43, if_pos c48, if_pos c49, if_pos c50, if_pos c51, if_pos c52]
                                rw [qv]
                                exact W.iret (v := (0 : Int32)) hx hb hr (fun t ht hW => ⟨⟨rfl, by rw [ht]; exact hP9, by rw [hAe]; exact hD9⟩, by rw [hAe]; exact hS9.F ht⟩) hS9.2.2 dX5_cross_211
                              · refine lv_iconst (v := 2) hx hb dX5_cross_206 (by decide) ?_
                                refine lv_goto (tgt := 211) hx hb dX5_cross_207 (by decide) ?_
                                have hP9 := hP
                                have hD9 := hD
                                have hS9 := hS
                                have qv : fX5_cross xs ys pm ia ib ic id = (2 : Int32) := by unfold fX5_cross; rw [if_neg c1, if_neg c2, if_neg c3, if_neg c4, if_pos c5, if_pos c17, if_pos c29, if_neg c41, if_neg c43, if_pos c48, if_pos c49, if_pos c50, if_pos c51, if_neg c52]
                                rw [qv]
                                exact W.iret (v := (2 : Int32)) hx hb hr (fun t ht hW => ⟨⟨rfl, by rw [ht]; exact hP9, by rw [hAe]; exact hD9⟩, by rw [hAe]; exact hS9.F ht⟩) hS9.2.2 dX5_cross_211
                      · refine lv_iconst (v := 1) hx hb dX5_cross_161 (by decide) ?_
                        have hP9 := hP
                        have hD9 := hD
                        have hS9 := hS
                        have qv : fX5_cross xs ys pm ia ib ic id = (1 : Int32) := by unfold fX5_cross; rw [if_neg c1, if_neg c2, if_neg c3, if_neg c4, if_pos c5, if_pos c17, if_pos c29, if_neg c41, if_neg c43, if_neg c48]
                        rw [qv]
                        exact W.iret (v := (1 : Int32)) hx hb hr (fun t ht hW => ⟨⟨rfl, by rw [ht]; exact hP9, by rw [hAe]; exact hD9⟩, by rw [hAe]; exact hS9.F ht⟩) hS9.2.2 dX5_cross_162
                  · exact absurd (by decide) c42
                · refine lv_iconst (v := 1) hx hb dX5_cross_100 (by decide) ?_
                  refine lv_goto (tgt := 105) hx hb dX5_cross_101 (by decide) ?_
                  refine lv_istore (lv' := [(9, .int (1 : Int32)), (8, .int (fX5_turn xs ys ic id ib)), (7, .int (fX5_turn xs ys ic id ia)), (6, .int (fX5_turn xs ys ia ib id)), (5, .int (fX5_turn xs ys ia ib ic)), (0, .ref m1), (1, .int ia), (2, .int ib), (3, .int ic), (4, .int id)]) hx hb dX5_cross_105 hl (by decide) rfl (fun ls hl => ?_)
                  refine lv_iload hx hb dX5_cross_107 (lv_at hl 0 rfl) ?_
                  refine lv_if_eq (tgt := 145) hx hb dX5_cross_109 (by decide) (fun c53 => ?_) (fun c53 => ?_)
                  · exact absurd c53 (by decide)
                  · refine lv_aload_n hx hb dX5_cross_112 rfl (lv_at hl 5 rfl) ?_
                    refine lv_iload_n hx hb dX5_cross_113 rfl (lv_at hl 6 rfl) ?_
                    refine lv_iload_n hx hb dX5_cross_114 rfl (lv_at hl 7 rfl) ?_
                    refine lv_iload_n hx hb dX5_cross_115 rfl (lv_at hl 8 rfl) ?_
                    refine lv_iload hx hb dX5_cross_116 (lv_at hl 9 rfl) ?_
                    refine xr_V (q := (RX5, TX5, 14)) (ci := 9) (q0 := 0) (rest := []) (As := [.int ia, .int ib, .int ic, .int id]) ⟨hx, hb, hml, hown, hts⟩ (ct5_common l D m1 m2 m3 m4 m5 m6 m7 kI kJ xs ys held la lb lc (0 : Int32) pm rm on cl un ze lm ia ib ic id (o_pt c1 opm) (o_pt c2 opm) (o_pt c3 opm) (o_pt c4 opm)) (cwV 4 hts gl_X5_136 rfl rfl rfl (by decide +kernel) ⟨Nat.le_of_ble_eq_true rfl, Nat.le_of_ble_eq_true rfl⟩) nN_mv hN hK hP [0, 1, 2, 3, 4, 5, 6] [0, 1] rfl rfl rfl rfl rfl hl.1 rfl (Nat.le_of_ble_eq_true rfl) dX5_cross_118 ⟨Nat.le_of_ble_eq_true rfl, Nat.le_of_ble_eq_true rfl⟩ ?_
                    refine lv_topi (fun z54 ez54 => ?_)
                    refine lv_istore (lv' := [(10, .int z54), (9, .int (1 : Int32)), (8, .int (fX5_turn xs ys ic id ib)), (7, .int (fX5_turn xs ys ic id ia)), (6, .int (fX5_turn xs ys ia ib id)), (5, .int (fX5_turn xs ys ia ib ic)), (0, .ref m1), (1, .int ia), (2, .int ib), (3, .int ic), (4, .int id)]) hx hb dX5_cross_121 hl (by decide) rfl (fun ls hl => ?_)
                    refine lv_iload hx hb dX5_cross_123 (lv_at hl 0 rfl) ?_
                    refine lv_iconst (v := 2) hx hb dX5_cross_125 (by decide) ?_
                    refine lv_icmp_ne (tgt := 133) hx hb dX5_cross_126 (by decide) (fun c55 => ?_) (fun c55 => ?_)
                    · refine lv_iload hx hb dX5_cross_133 (lv_at hl 0 rfl) ?_
                      refine lv_iconst (v := 1) hx hb dX5_cross_135 (by decide) ?_
                      refine lv_icmp_ne (tgt := 143) hx hb dX5_cross_136 (by decide) (fun c56 => ?_) (fun c56 => ?_)
                      · refine lv_iconst (v := 0) hx hb dX5_cross_143 (by decide) ?_
                        have hP9 := hP
                        have hD9 := hD
                        have hS9 := hS
                        subst ez54
                        have qv : fX5_cross xs ys pm ia ib ic id = (0 : Int32) := by unfold fX5_cross; rw [if_neg c1, if_neg c2, if_neg c3, if_neg c4, if_pos c5, if_pos c17, if_pos c29, if_pos c41, if_neg c55, if_neg c56]
                        rw [qv]
                        exact W.iret (v := (0 : Int32)) hx hb hr (fun t ht hW => ⟨⟨rfl, by rw [ht]; exact hP9, by rw [hAe]; exact hD9⟩, by rw [hAe]; exact hS9.F ht⟩) hS9.2.2 dX5_cross_144
                      · refine lv_iconst (v := 2) hx hb dX5_cross_139 (by decide) ?_
                        refine lv_goto (tgt := 144) hx hb dX5_cross_140 (by decide) ?_
                        have hP9 := hP
                        have hD9 := hD
                        have hS9 := hS
                        subst ez54
                        have qv : fX5_cross xs ys pm ia ib ic id = (2 : Int32) := by unfold fX5_cross; rw [if_neg c1, if_neg c2, if_neg c3, if_neg c4, if_pos c5, if_pos c17, if_pos c29, if_pos c41, if_neg c55, if_pos c56]
                        rw [qv]
                        exact W.iret (v := (2 : Int32)) hx hb hr (fun t ht hW => ⟨⟨rfl, by rw [ht]; exact hP9, by rw [hAe]; exact hD9⟩, by rw [hAe]; exact hS9.F ht⟩) hS9.2.2 dX5_cross_144
                    · refine lv_iconst (v := 3) hx hb dX5_cross_129 (by decide) ?_
                      refine lv_goto (tgt := 144) hx hb dX5_cross_130 (by decide) ?_
                      have hP9 := hP
                      have hD9 := hD
                      have hS9 := hS
                      subst ez54
                      have qv : fX5_cross xs ys pm ia ib ic id = (3 : Int32) := by unfold fX5_cross; rw [if_neg c1, if_neg c2, if_neg c3, if_neg c4, if_pos c5, if_pos c17, if_pos c29, if_pos c41, if_pos c55]
                      rw [qv]
                      exact W.iret (v := (3 : Int32)) hx hb hr (fun t ht hW => ⟨⟨rfl, by rw [ht]; exact hP9, by rw [hAe]; exact hD9⟩, by rw [hAe]; exact hS9.F ht⟩) hS9.2.2 dX5_cross_144
        · refine lv_bipush (v := (-2)) hx hb dX5_cross_38 (by decide) ?_
          have hP9 := hP
          have hD9 := hD
          have hS9 := hS
          have qv : fX5_cross xs ys pm ia ib ic id = (-2 : Int32) := by unfold fX5_cross; rw [if_neg c1, if_neg c2, if_neg c3, if_pos c4]
          rw [qv]
          exact W.iret (v := (-2 : Int32)) hx hb hr (fun t ht hW => ⟨⟨rfl, by rw [ht]; exact hP9, by rw [hAe]; exact hD9⟩, by rw [hAe]; exact hS9.F ht⟩) hS9.2.2 dX5_cross_40
def fX5_separated (xs ys : Nat → Int32) (pm : Int32) (ia : Int32) (ib : Int32) (ic : Int32) (id : Int32) : Int32 := if (fX5_isPoint pm ia) = (0 : Int32) then ((-2 : Int32)) else (if (fX5_isPoint pm ib) = (0 : Int32) then ((-2 : Int32)) else (if (fX5_isPoint pm ic) = (0 : Int32) then ((-2 : Int32)) else (if (fX5_isPoint pm id) = (0 : Int32) then ((-2 : Int32)) else (if (fX5_areEqual xs ys ia ib) = (0 : Int32) then (if (fX5_areEqual xs ys ia ic) = (0 : Int32) then (if (fX5_areEqual xs ys ia id) = (0 : Int32) then (if (fX5_areEqual xs ys ib ic) = (0 : Int32) then (if (fX5_areEqual xs ys ib id) = (0 : Int32) then (if (fX5_areEqual xs ys ic id) = (0 : Int32) then (if (fX5_turn xs ys ia ib ic) = (0 : Int32) then (if (fX5_turn xs ys ia ib id) = (0 : Int32) then (if (fX5_isOn xs ys ia ib ic) = (fX5_isOn xs ys ia ib id) then ((0 : Int32)) else ((1 : Int32))) else ((-4 : Int32))) else (if (fX5_ring xs ys ia ib ic id) = (0 : Int32) then (if (0 : Int32) ≤ ((fX5_turn xs ys ia ib ic) * (fX5_turn xs ys ia ib id)) then ((0 : Int32)) else ((1 : Int32))) else ((-4 : Int32)))) else ((-4 : Int32))) else ((-4 : Int32))) else ((-4 : Int32))) else ((-4 : Int32))) else ((-4 : Int32))) else ((-4 : Int32))))))
set_option maxHeartbeats 4000000 in
set_option maxRecDepth 100000 in
theorem ct5_separated (l : Launch) (D : va_G) (sz : Nat) (m1 m2 m3 m4 m5 m6 m7 : Nat) (kI kJ : ClassId) (xs ys held : Nat → Int32) (la lb lc : Nat → Int64) (th pm rm on cl un ze lm : Int32) (ia : Int32) (ib : Int32) (ic : Int32) (id : Int32) (opm : pm.toInt ≤ (60 : Nat)) : Met l yX5_separated (Cond.code yX5_separated cX5_separated 7 (some .int) :: BY) ({ frames := 4, cells := 0, slots := 0, locals := 240 }) (xw_P nN D vwCl [(kI, .int), (kJ, .long)] (wMo m1 m2 m3 m4 m5 m6 m7 kI kJ xs ys held la lb lc th pm rm on cl un ze lm) sz [.ref m1, .int ia, .int ib, .int ic, .int id]) (xw_Q D vwCl (some (.int (fX5_separated xs ys pm ia ib ic id))) (wMo m1 m2 m3 m4 m5 m6 m7 kI kJ xs ys held la lb lc th pm rm on cl un ze lm) (wMo m1 m2 m3 m4 m5 m6 m7 kI kJ xs ys held la lb lc (0 : Int32) pm rm on cl un ze lm) sz) 0 0 (va_A (wMo m1 m2 m3 m4 m5 m6 m7 kI kJ xs ys held la lb lc th pm rm on cl un ze lm) sz) := by
  refine Met.ofW (cc := cX5_separated) (maxL := 7) (ret := (some .int)) (by decide) rfl ?_
  intro p e s m args below meth c s₁ B hml hv
  obtain ⟨rfl, hsz, hP, hK, hN, hD0⟩ := hv
  have hx := B.exec
  have hb := B.bytes
  have hr := B.returns
  have hts0 := atoms_spec (ws := Cond.code yX5_separated cX5_separated 7 (some .int) :: BY) B.pre
  have hts : ∀ w ∈ BY, w.before _ s = true := fun w h => hts0 w (List.mem_cons_of_mem _ h)
  have hown : s.vm.findClass RX5 = some m.cls := findClass_of_methodNamed B.named
  have hlocks := B.notSynchronized
  subst hsz
  have hD := hD0.self (sz := s.heap.size)
  generalize hAe : va_A (wMo m1 m2 m3 m4 m5 m6 m7 kI kJ xs ys held la lb lc th pm rm on cl un ze lm) s.heap.size = A at hD ⊢
  have hA : ∀ q : Nat, s.heap.size ≤ q → A q := fun q h => by rw [← hAe]; exact Or.inr h
  have hS : va_S A s.heap s.heap [] := va_S.rf
  have hP : va_P D vwCl [(m1, .inr (9, [.int th, .int pm, .ref m2, .ref m3, .int rm, .ref m4, .int on, .int cl, .int un, .int ze, .int lm, .ref m5, .ref m6, .ref m7])), (m2, .inl (kI, 60, .inl xs)), (m3, .inl (kI, 60, .inl ys)), (m4, .inl (kI, 24, .inl held)), (m5, .inl (kJ, 12, .inr (.inl la))), (m6, .inl (kJ, 12, .inr (.inl lb))), (m7, .inl (kJ, 12, .inr (.inl lc)))] s.heap := hP
  have hD : va_D A [(m1, .inr (9, [.int th, .int pm, .ref m2, .ref m3, .int rm, .ref m4, .int on, .int cl, .int un, .int ze, .int lm, .ref m5, .ref m6, .ref m7])), (m2, .inl (kI, 60, .inl xs)), (m3, .inl (kI, 60, .inl ys)), (m4, .inl (kI, 24, .inl held)), (m5, .inl (kJ, 12, .inr (.inl la))), (m6, .inl (kJ, 12, .inr (.inl lb))), (m7, .inl (kJ, 12, .inr (.inl lc)))] := hD
  have hl := lv_entry ([.ref m1, .int ia, .int ib, .int ic, .int id]) (n := 7) (Nat.le_of_ble_eq_true rfl)
  rw [lg_entry_eq]
  generalize (lg_sl ([.ref m1, .int ia, .int ib, .int ic, .int id]) ++ List.replicate (7 - (lg_sl ([.ref m1, .int ia, .int ib, .int ic, .int id])).length) Slot.unset).toArray = ls at hl ⊢
  have hl : lv_has ls 7 [(0, .ref m1), (1, .int ia), (2, .int ib), (3, .int ic), (4, .int id)] := hl
  refine lv_aload_n hx hb dX5_separated_0 rfl (lv_at hl 0 rfl) ?_
  refine lv_iconst (v := 0) hx hb dX5_separated_1 (by decide) ?_
  refine va_put (D := D) (ci := 9) (v := .int (0 : Int32)) (ty := .int) (C := RX5) (T := TX5) (N := 14) hx hb hts hinX5 tyX5 tyX5_ok nmX5 hown hK hP hD hS 0 rfl rfl 0 (by decide) (hts _ fk_X5_1) (fun _ h9 => h9) rfl (by decide +kernel) rfl rfl (Nat.le_of_ble_eq_true rfl) dX5_separated_2 (fun H locs hP hD hS => ?_)
  have hP : va_P D vwCl [(m1, .inr (9, [.int (0 : Int32), .int pm, .ref m2, .ref m3, .int rm, .ref m4, .int on, .int cl, .int un, .int ze, .int lm, .ref m5, .ref m6, .ref m7])), (m2, .inl (kI, 60, .inl xs)), (m3, .inl (kI, 60, .inl ys)), (m4, .inl (kI, 24, .inl held)), (m5, .inl (kJ, 12, .inr (.inl la))), (m6, .inl (kJ, 12, .inr (.inl lb))), (m7, .inl (kJ, 12, .inr (.inl lc)))] H := hP
  have hD : va_D A [(m1, .inr (9, [.int (0 : Int32), .int pm, .ref m2, .ref m3, .int rm, .ref m4, .int on, .int cl, .int un, .int ze, .int lm, .ref m5, .ref m6, .ref m7])), (m2, .inl (kI, 60, .inl xs)), (m3, .inl (kI, 60, .inl ys)), (m4, .inl (kI, 24, .inl held)), (m5, .inl (kJ, 12, .inr (.inl la))), (m6, .inl (kJ, 12, .inr (.inl lb))), (m7, .inl (kJ, 12, .inr (.inl lc)))] := hD
  refine lv_aload_n hx hb dX5_separated_5 rfl (lv_at hl 0 rfl) ?_
  refine lv_iload_n hx hb dX5_separated_6 rfl (lv_at hl 1 rfl) ?_
  refine xr_V (q := (RX5, TX5, 14)) (ci := 9) (q0 := 0) (rest := []) (As := [.int ia]) ⟨hx, hb, hml, hown, hts⟩ (ct5_isPoint l D m1 m2 m3 m4 m5 m6 m7 kI kJ xs ys held la lb lc (0 : Int32) pm rm on cl un ze lm ia ) (cwV 1 hts gl_X5_69 rfl rfl rfl (by decide +kernel) ⟨Nat.le_of_ble_eq_true rfl, Nat.le_of_ble_eq_true rfl⟩) nN_mv hN hK hP [0, 1, 2, 3, 4, 5, 6] [0, 1] rfl rfl rfl rfl rfl hl.1 rfl (Nat.le_of_ble_eq_true rfl) dX5_separated_7 ⟨Nat.le_of_ble_eq_true rfl, Nat.le_of_ble_eq_true rfl⟩ ?_
  refine lv_if_eq (tgt := 38) hx hb dX5_separated_10 (by decide) (fun c1 => ?_) (fun c1 => ?_)
  · refine lv_bipush (v := (-2)) hx hb dX5_separated_38 (by decide) ?_
    have hP9 := hP
    have hD9 := hD
    have hS9 := hS
    have qv : fX5_separated xs ys pm ia ib ic id = (-2 : Int32) := by unfold fX5_separated; rw [if_pos c1]
    rw [qv]
    exact W.iret (v := (-2 : Int32)) hx hb hr (fun t ht hW => ⟨⟨rfl, by rw [ht]; exact hP9, by rw [hAe]; exact hD9⟩, by rw [hAe]; exact hS9.F ht⟩) hS9.2.2 dX5_separated_40
  · refine lv_aload_n hx hb dX5_separated_13 rfl (lv_at hl 0 rfl) ?_
    refine lv_iload_n hx hb dX5_separated_14 rfl (lv_at hl 2 rfl) ?_
    refine xr_V (q := (RX5, TX5, 14)) (ci := 9) (q0 := 0) (rest := []) (As := [.int ib]) ⟨hx, hb, hml, hown, hts⟩ (ct5_isPoint l D m1 m2 m3 m4 m5 m6 m7 kI kJ xs ys held la lb lc (0 : Int32) pm rm on cl un ze lm ib ) (cwV 1 hts gl_X5_69 rfl rfl rfl (by decide +kernel) ⟨Nat.le_of_ble_eq_true rfl, Nat.le_of_ble_eq_true rfl⟩) nN_mv hN hK hP [0, 1, 2, 3, 4, 5, 6] [0, 1] rfl rfl rfl rfl rfl hl.1 rfl (Nat.le_of_ble_eq_true rfl) dX5_separated_15 ⟨Nat.le_of_ble_eq_true rfl, Nat.le_of_ble_eq_true rfl⟩ ?_
    refine lv_if_eq (tgt := 38) hx hb dX5_separated_18 (by decide) (fun c2 => ?_) (fun c2 => ?_)
    · refine lv_bipush (v := (-2)) hx hb dX5_separated_38 (by decide) ?_
      have hP9 := hP
      have hD9 := hD
      have hS9 := hS
      have qv : fX5_separated xs ys pm ia ib ic id = (-2 : Int32) := by unfold fX5_separated; rw [if_neg c1, if_pos c2]
      rw [qv]
      exact W.iret (v := (-2 : Int32)) hx hb hr (fun t ht hW => ⟨⟨rfl, by rw [ht]; exact hP9, by rw [hAe]; exact hD9⟩, by rw [hAe]; exact hS9.F ht⟩) hS9.2.2 dX5_separated_40
    · refine lv_aload_n hx hb dX5_separated_21 rfl (lv_at hl 0 rfl) ?_
      refine lv_iload_n hx hb dX5_separated_22 rfl (lv_at hl 3 rfl) ?_
      refine xr_V (q := (RX5, TX5, 14)) (ci := 9) (q0 := 0) (rest := []) (As := [.int ic]) ⟨hx, hb, hml, hown, hts⟩ (ct5_isPoint l D m1 m2 m3 m4 m5 m6 m7 kI kJ xs ys held la lb lc (0 : Int32) pm rm on cl un ze lm ic ) (cwV 1 hts gl_X5_69 rfl rfl rfl (by decide +kernel) ⟨Nat.le_of_ble_eq_true rfl, Nat.le_of_ble_eq_true rfl⟩) nN_mv hN hK hP [0, 1, 2, 3, 4, 5, 6] [0, 1] rfl rfl rfl rfl rfl hl.1 rfl (Nat.le_of_ble_eq_true rfl) dX5_separated_23 ⟨Nat.le_of_ble_eq_true rfl, Nat.le_of_ble_eq_true rfl⟩ ?_
      refine lv_if_eq (tgt := 38) hx hb dX5_separated_26 (by decide) (fun c3 => ?_) (fun c3 => ?_)
      · refine lv_bipush (v := (-2)) hx hb dX5_separated_38 (by decide) ?_
        have hP9 := hP
        have hD9 := hD
        have hS9 := hS
        have qv : fX5_separated xs ys pm ia ib ic id = (-2 : Int32) := by unfold fX5_separated; rw [if_neg c1, if_neg c2, if_pos c3]
        rw [qv]
        exact W.iret (v := (-2 : Int32)) hx hb hr (fun t ht hW => ⟨⟨rfl, by rw [ht]; exact hP9, by rw [hAe]; exact hD9⟩, by rw [hAe]; exact hS9.F ht⟩) hS9.2.2 dX5_separated_40
      · refine lv_aload_n hx hb dX5_separated_29 rfl (lv_at hl 0 rfl) ?_
        refine lv_iload hx hb dX5_separated_30 (lv_at hl 4 rfl) ?_
        refine xr_V (q := (RX5, TX5, 14)) (ci := 9) (q0 := 0) (rest := []) (As := [.int id]) ⟨hx, hb, hml, hown, hts⟩ (ct5_isPoint l D m1 m2 m3 m4 m5 m6 m7 kI kJ xs ys held la lb lc (0 : Int32) pm rm on cl un ze lm id ) (cwV 1 hts gl_X5_69 rfl rfl rfl (by decide +kernel) ⟨Nat.le_of_ble_eq_true rfl, Nat.le_of_ble_eq_true rfl⟩) nN_mv hN hK hP [0, 1, 2, 3, 4, 5, 6] [0, 1] rfl rfl rfl rfl rfl hl.1 rfl (Nat.le_of_ble_eq_true rfl) dX5_separated_32 ⟨Nat.le_of_ble_eq_true rfl, Nat.le_of_ble_eq_true rfl⟩ ?_
        refine lv_if_ne (tgt := 41) hx hb dX5_separated_35 (by decide) (fun c4 => ?_) (fun c4 => ?_)
        · refine lv_aload_n hx hb dX5_separated_41 rfl (lv_at hl 0 rfl) ?_
          refine lv_iload_n hx hb dX5_separated_42 rfl (lv_at hl 1 rfl) ?_
          refine lv_iload_n hx hb dX5_separated_43 rfl (lv_at hl 2 rfl) ?_
          refine xr_V (q := (RX5, TX5, 14)) (ci := 9) (q0 := 0) (rest := []) (As := [.int ia, .int ib]) ⟨hx, hb, hml, hown, hts⟩ (ct5_areEqual l D m1 m2 m3 m4 m5 m6 m7 kI kJ xs ys held la lb lc (0 : Int32) pm rm on cl un ze lm ia ib (o_pt c1 opm) (o_pt c2 opm)) (cwV 2 hts gl_X5_107 rfl rfl rfl (by decide +kernel) ⟨Nat.le_of_ble_eq_true rfl, Nat.le_of_ble_eq_true rfl⟩) nN_mv hN hK hP [0, 1, 2, 3, 4, 5, 6] [0, 1] rfl rfl rfl rfl rfl hl.1 rfl (Nat.le_of_ble_eq_true rfl) dX5_separated_44 ⟨Nat.le_of_ble_eq_true rfl, Nat.le_of_ble_eq_true rfl⟩ ?_
          refine lv_if_ne (tgt := 98) hx hb dX5_separated_47 (by decide) (fun c5 => ?_) (fun c5 => ?_)
          · refine lv_bipush (v := (-4)) hx hb dX5_separated_98 (by decide) ?_
            have hP9 := hP
            have hD9 := hD
            have hS9 := hS
            have qv : fX5_separated xs ys pm ia ib ic id = (-4 : Int32) := by unfold fX5_separated; rw [if_neg c1, if_neg c2, if_neg c3, if_neg c4, if_neg c5]
            rw [qv]
            exact W.iret (v := (-4 : Int32)) hx hb hr (fun t ht hW => ⟨⟨rfl, by rw [ht]; exact hP9, by rw [hAe]; exact hD9⟩, by rw [hAe]; exact hS9.F ht⟩) hS9.2.2 dX5_separated_100
          · refine lv_aload_n hx hb dX5_separated_50 rfl (lv_at hl 0 rfl) ?_
            refine lv_iload_n hx hb dX5_separated_51 rfl (lv_at hl 1 rfl) ?_
            refine lv_iload_n hx hb dX5_separated_52 rfl (lv_at hl 3 rfl) ?_
            refine xr_V (q := (RX5, TX5, 14)) (ci := 9) (q0 := 0) (rest := []) (As := [.int ia, .int ic]) ⟨hx, hb, hml, hown, hts⟩ (ct5_areEqual l D m1 m2 m3 m4 m5 m6 m7 kI kJ xs ys held la lb lc (0 : Int32) pm rm on cl un ze lm ia ic (o_pt c1 opm) (o_pt c3 opm)) (cwV 2 hts gl_X5_107 rfl rfl rfl (by decide +kernel) ⟨Nat.le_of_ble_eq_true rfl, Nat.le_of_ble_eq_true rfl⟩) nN_mv hN hK hP [0, 1, 2, 3, 4, 5, 6] [0, 1] rfl rfl rfl rfl rfl hl.1 rfl (Nat.le_of_ble_eq_true rfl) dX5_separated_53 ⟨Nat.le_of_ble_eq_true rfl, Nat.le_of_ble_eq_true rfl⟩ ?_
            refine lv_if_ne (tgt := 98) hx hb dX5_separated_56 (by decide) (fun c6 => ?_) (fun c6 => ?_)
            · refine lv_bipush (v := (-4)) hx hb dX5_separated_98 (by decide) ?_
              have hP9 := hP
              have hD9 := hD
              have hS9 := hS
              have qv : fX5_separated xs ys pm ia ib ic id = (-4 : Int32) := by unfold fX5_separated; rw [if_neg c1, if_neg c2, if_neg c3, if_neg c4, if_pos c5, if_neg c6]
              rw [qv]
              exact W.iret (v := (-4 : Int32)) hx hb hr (fun t ht hW => ⟨⟨rfl, by rw [ht]; exact hP9, by rw [hAe]; exact hD9⟩, by rw [hAe]; exact hS9.F ht⟩) hS9.2.2 dX5_separated_100
            · refine lv_aload_n hx hb dX5_separated_59 rfl (lv_at hl 0 rfl) ?_
              refine lv_iload_n hx hb dX5_separated_60 rfl (lv_at hl 1 rfl) ?_
              refine lv_iload hx hb dX5_separated_61 (lv_at hl 4 rfl) ?_
              refine xr_V (q := (RX5, TX5, 14)) (ci := 9) (q0 := 0) (rest := []) (As := [.int ia, .int id]) ⟨hx, hb, hml, hown, hts⟩ (ct5_areEqual l D m1 m2 m3 m4 m5 m6 m7 kI kJ xs ys held la lb lc (0 : Int32) pm rm on cl un ze lm ia id (o_pt c1 opm) (o_pt c4 opm)) (cwV 2 hts gl_X5_107 rfl rfl rfl (by decide +kernel) ⟨Nat.le_of_ble_eq_true rfl, Nat.le_of_ble_eq_true rfl⟩) nN_mv hN hK hP [0, 1, 2, 3, 4, 5, 6] [0, 1] rfl rfl rfl rfl rfl hl.1 rfl (Nat.le_of_ble_eq_true rfl) dX5_separated_63 ⟨Nat.le_of_ble_eq_true rfl, Nat.le_of_ble_eq_true rfl⟩ ?_
              refine lv_if_ne (tgt := 98) hx hb dX5_separated_66 (by decide) (fun c7 => ?_) (fun c7 => ?_)
              · refine lv_bipush (v := (-4)) hx hb dX5_separated_98 (by decide) ?_
                have hP9 := hP
                have hD9 := hD
                have hS9 := hS
                have qv : fX5_separated xs ys pm ia ib ic id = (-4 : Int32) := by unfold fX5_separated; rw [if_neg c1, if_neg c2, if_neg c3, if_neg c4, if_pos c5, if_pos c6, if_neg c7]
                rw [qv]
                exact W.iret (v := (-4 : Int32)) hx hb hr (fun t ht hW => ⟨⟨rfl, by rw [ht]; exact hP9, by rw [hAe]; exact hD9⟩, by rw [hAe]; exact hS9.F ht⟩) hS9.2.2 dX5_separated_100
              · refine lv_aload_n hx hb dX5_separated_69 rfl (lv_at hl 0 rfl) ?_
                refine lv_iload_n hx hb dX5_separated_70 rfl (lv_at hl 2 rfl) ?_
                refine lv_iload_n hx hb dX5_separated_71 rfl (lv_at hl 3 rfl) ?_
                refine xr_V (q := (RX5, TX5, 14)) (ci := 9) (q0 := 0) (rest := []) (As := [.int ib, .int ic]) ⟨hx, hb, hml, hown, hts⟩ (ct5_areEqual l D m1 m2 m3 m4 m5 m6 m7 kI kJ xs ys held la lb lc (0 : Int32) pm rm on cl un ze lm ib ic (o_pt c2 opm) (o_pt c3 opm)) (cwV 2 hts gl_X5_107 rfl rfl rfl (by decide +kernel) ⟨Nat.le_of_ble_eq_true rfl, Nat.le_of_ble_eq_true rfl⟩) nN_mv hN hK hP [0, 1, 2, 3, 4, 5, 6] [0, 1] rfl rfl rfl rfl rfl hl.1 rfl (Nat.le_of_ble_eq_true rfl) dX5_separated_72 ⟨Nat.le_of_ble_eq_true rfl, Nat.le_of_ble_eq_true rfl⟩ ?_
                refine lv_if_ne (tgt := 98) hx hb dX5_separated_75 (by decide) (fun c8 => ?_) (fun c8 => ?_)
                · refine lv_bipush (v := (-4)) hx hb dX5_separated_98 (by decide) ?_
                  have hP9 := hP
                  have hD9 := hD
                  have hS9 := hS
                  have qv : fX5_separated xs ys pm ia ib ic id = (-4 : Int32) := by unfold fX5_separated; rw [if_neg c1, if_neg c2, if_neg c3, if_neg c4, if_pos c5, if_pos c6, if_pos c7, if_neg c8]
                  rw [qv]
                  exact W.iret (v := (-4 : Int32)) hx hb hr (fun t ht hW => ⟨⟨rfl, by rw [ht]; exact hP9, by rw [hAe]; exact hD9⟩, by rw [hAe]; exact hS9.F ht⟩) hS9.2.2 dX5_separated_100
                · refine lv_aload_n hx hb dX5_separated_78 rfl (lv_at hl 0 rfl) ?_
                  refine lv_iload_n hx hb dX5_separated_79 rfl (lv_at hl 2 rfl) ?_
                  refine lv_iload hx hb dX5_separated_80 (lv_at hl 4 rfl) ?_
                  refine xr_V (q := (RX5, TX5, 14)) (ci := 9) (q0 := 0) (rest := []) (As := [.int ib, .int id]) ⟨hx, hb, hml, hown, hts⟩ (ct5_areEqual l D m1 m2 m3 m4 m5 m6 m7 kI kJ xs ys held la lb lc (0 : Int32) pm rm on cl un ze lm ib id (o_pt c2 opm) (o_pt c4 opm)) (cwV 2 hts gl_X5_107 rfl rfl rfl (by decide +kernel) ⟨Nat.le_of_ble_eq_true rfl, Nat.le_of_ble_eq_true rfl⟩) nN_mv hN hK hP [0, 1, 2, 3, 4, 5, 6] [0, 1] rfl rfl rfl rfl rfl hl.1 rfl (Nat.le_of_ble_eq_true rfl) dX5_separated_82 ⟨Nat.le_of_ble_eq_true rfl, Nat.le_of_ble_eq_true rfl⟩ ?_
                  refine lv_if_ne (tgt := 98) hx hb dX5_separated_85 (by decide) (fun c9 => ?_) (fun c9 => ?_)
                  · refine lv_bipush (v := (-4)) hx hb dX5_separated_98 (by decide) ?_
                    have hP9 := hP
                    have hD9 := hD
                    have hS9 := hS
                    have qv : fX5_separated xs ys pm ia ib ic id = (-4 : Int32) := by unfold fX5_separated; rw [if_neg c1, if_neg c2, if_neg c3, if_neg c4, if_pos c5, if_pos c6, if_pos c7, if_pos c8, if_neg c9]
                    rw [qv]
                    exact W.iret (v := (-4 : Int32)) hx hb hr (fun t ht hW => ⟨⟨rfl, by rw [ht]; exact hP9, by rw [hAe]; exact hD9⟩, by rw [hAe]; exact hS9.F ht⟩) hS9.2.2 dX5_separated_100
                  · refine lv_aload_n hx hb dX5_separated_88 rfl (lv_at hl 0 rfl) ?_
                    refine lv_iload_n hx hb dX5_separated_89 rfl (lv_at hl 3 rfl) ?_
                    refine lv_iload hx hb dX5_separated_90 (lv_at hl 4 rfl) ?_
                    refine xr_V (q := (RX5, TX5, 14)) (ci := 9) (q0 := 0) (rest := []) (As := [.int ic, .int id]) ⟨hx, hb, hml, hown, hts⟩ (ct5_areEqual l D m1 m2 m3 m4 m5 m6 m7 kI kJ xs ys held la lb lc (0 : Int32) pm rm on cl un ze lm ic id (o_pt c3 opm) (o_pt c4 opm)) (cwV 2 hts gl_X5_107 rfl rfl rfl (by decide +kernel) ⟨Nat.le_of_ble_eq_true rfl, Nat.le_of_ble_eq_true rfl⟩) nN_mv hN hK hP [0, 1, 2, 3, 4, 5, 6] [0, 1] rfl rfl rfl rfl rfl hl.1 rfl (Nat.le_of_ble_eq_true rfl) dX5_separated_92 ⟨Nat.le_of_ble_eq_true rfl, Nat.le_of_ble_eq_true rfl⟩ ?_
                    refine lv_if_eq (tgt := 101) hx hb dX5_separated_95 (by decide) (fun c10 => ?_) (fun c10 => ?_)
                    · refine lv_aload_n hx hb dX5_separated_101 rfl (lv_at hl 0 rfl) ?_
                      refine lv_iload_n hx hb dX5_separated_102 rfl (lv_at hl 1 rfl) ?_
                      refine lv_iload_n hx hb dX5_separated_103 rfl (lv_at hl 2 rfl) ?_
                      refine lv_iload_n hx hb dX5_separated_104 rfl (lv_at hl 3 rfl) ?_
                      refine xr_V (q := (RX5, TX5, 14)) (ci := 9) (q0 := 0) (rest := []) (As := [.int ia, .int ib, .int ic]) ⟨hx, hb, hml, hown, hts⟩ (ct5_turn l D m1 m2 m3 m4 m5 m6 m7 kI kJ xs ys held la lb lc (0 : Int32) pm rm on cl un ze lm ia ib ic (o_pt c1 opm) (o_pt c2 opm) (o_pt c3 opm)) (cwV 3 hts gl_X5_58 rfl rfl rfl (by decide +kernel) ⟨Nat.le_of_ble_eq_true rfl, Nat.le_of_ble_eq_true rfl⟩) nN_mv hN hK hP [0, 1, 2, 3, 4, 5, 6] [0, 1] rfl rfl rfl rfl rfl hl.1 rfl (Nat.le_of_ble_eq_true rfl) dX5_separated_105 ⟨Nat.le_of_ble_eq_true rfl, Nat.le_of_ble_eq_true rfl⟩ ?_
                      refine lv_istore (lv' := [(5, .int (fX5_turn xs ys ia ib ic)), (0, .ref m1), (1, .int ia), (2, .int ib), (3, .int ic), (4, .int id)]) hx hb dX5_separated_108 hl (by decide) rfl (fun ls hl => ?_)
                      refine lv_aload_n hx hb dX5_separated_110 rfl (lv_at hl 1 rfl) ?_
                      refine lv_iload_n hx hb dX5_separated_111 rfl (lv_at hl 2 rfl) ?_
                      refine lv_iload_n hx hb dX5_separated_112 rfl (lv_at hl 3 rfl) ?_
                      refine lv_iload hx hb dX5_separated_113 (lv_at hl 5 rfl) ?_
                      refine xr_V (q := (RX5, TX5, 14)) (ci := 9) (q0 := 0) (rest := []) (As := [.int ia, .int ib, .int id]) ⟨hx, hb, hml, hown, hts⟩ (ct5_turn l D m1 m2 m3 m4 m5 m6 m7 kI kJ xs ys held la lb lc (0 : Int32) pm rm on cl un ze lm ia ib id (o_pt c1 opm) (o_pt c2 opm) (o_pt c4 opm)) (cwV 3 hts gl_X5_58 rfl rfl rfl (by decide +kernel) ⟨Nat.le_of_ble_eq_true rfl, Nat.le_of_ble_eq_true rfl⟩) nN_mv hN hK hP [0, 1, 2, 3, 4, 5, 6] [0, 1] rfl rfl rfl rfl rfl hl.1 rfl (Nat.le_of_ble_eq_true rfl) dX5_separated_115 ⟨Nat.le_of_ble_eq_true rfl, Nat.le_of_ble_eq_true rfl⟩ ?_
                      refine lv_istore (lv' := [(6, .int (fX5_turn xs ys ia ib id)), (5, .int (fX5_turn xs ys ia ib ic)), (0, .ref m1), (1, .int ia), (2, .int ib), (3, .int ic), (4, .int id)]) hx hb dX5_separated_118 hl (by decide) rfl (fun ls hl => ?_)
                      refine lv_iload hx hb dX5_separated_120 (lv_at hl 1 rfl) ?_
                      refine lv_if_ne (tgt := 154) hx hb dX5_separated_122 (by decide) (fun c11 => ?_) (fun c11 => ?_)
                      · refine lv_iload hx hb dX5_separated_154 (lv_at hl 1 rfl) ?_
                        refine lv_if_eq (tgt := 171) hx hb dX5_separated_156 (by decide) (fun c12 => ?_) (fun c12 => ?_)
                        · exact absurd c12 c11
                        · refine lv_aload_n hx hb dX5_separated_159 rfl (lv_at hl 2 rfl) ?_
                          refine lv_iload_n hx hb dX5_separated_160 rfl (lv_at hl 3 rfl) ?_
                          refine lv_iload_n hx hb dX5_separated_161 rfl (lv_at hl 4 rfl) ?_
                          refine lv_iload_n hx hb dX5_separated_162 rfl (lv_at hl 5 rfl) ?_
                          refine lv_iload hx hb dX5_separated_163 (lv_at hl 6 rfl) ?_
                          refine xr_V (q := (RX5, TX5, 14)) (ci := 9) (q0 := 0) (rest := []) (As := [.int ia, .int ib, .int ic, .int id]) ⟨hx, hb, hml, hown, hts⟩ (ct5_ring l D m1 m2 m3 m4 m5 m6 m7 kI kJ xs ys held la lb lc (0 : Int32) pm rm on cl un ze lm ia ib ic id (o_pt c1 opm) (o_pt c2 opm) (o_pt c3 opm) (o_pt c4 opm)) (cwV 4 hts gl_X5_123 rfl rfl rfl (by decide +kernel) ⟨Nat.le_of_ble_eq_true rfl, Nat.le_of_ble_eq_true rfl⟩) nN_mv hN hK hP [0, 1, 2, 3, 4, 5, 6] [0, 1] rfl rfl rfl rfl rfl hl.1 rfl (Nat.le_of_ble_eq_true rfl) dX5_separated_165 ⟨Nat.le_of_ble_eq_true rfl, Nat.le_of_ble_eq_true rfl⟩ ?_
                          refine lv_if_eq (tgt := 174) hx hb dX5_separated_168 (by decide) (fun c13 => ?_) (fun c13 => ?_)
                          · refine lv_iload hx hb dX5_separated_174 (lv_at hl 1 rfl) ?_
                            refine lv_iload hx hb dX5_separated_176 (lv_at hl 0 rfl) ?_
                            refine lv_imul hx hb dX5_separated_178 ?_
                            refine lv_if_ge (tgt := 186) hx hb dX5_separated_179 (by decide) (fun c14 => ?_) (fun c14 => ?_)
                            · refine lv_iconst (v := 0) hx hb dX5_separated_186 (by decide) ?_
                              have hP9 := hP
                              have hD9 := hD
                              have hS9 := hS
                              have qv : fX5_separated xs ys pm ia ib ic id = (0 : Int32) := by unfold fX5_separated; rw [if_neg c1, if_neg c2, if_neg c3, if_neg c4, if_pos c5, if_pos c6, if_pos c7, if_pos c8, if_pos c9, if_pos c10, if_neg c11, if_pos c13, if_pos c14]
                              rw [qv]
                              exact W.iret (v := (0 : Int32)) hx hb hr (fun t ht hW => ⟨⟨rfl, by rw [ht]; exact hP9, by rw [hAe]; exact hD9⟩, by rw [hAe]; exact hS9.F ht⟩) hS9.2.2 dX5_separated_187
                            · refine lv_iconst (v := 1) hx hb dX5_separated_182 (by decide) ?_
                              refine lv_goto (tgt := 187) hx hb dX5_separated_183 (by decide) ?_
                              have hP9 := hP
                              have hD9 := hD
                              have hS9 := hS
                              have qv : fX5_separated xs ys pm ia ib ic id = (1 : Int32) := by unfold fX5_separated; rw [if_neg c1, if_neg c2, if_neg c3, if_neg c4, if_pos c5, if_pos c6, if_pos c7, if_pos c8, if_pos c9, if_pos c10, if_neg c11, if_pos c13, if_neg c14]
                              rw [qv]
                              exact W.iret (v := (1 : Int32)) hx hb hr (fun t ht hW => ⟨⟨rfl, by rw [ht]; exact hP9, by rw [hAe]; exact hD9⟩, by rw [hAe]; exact hS9.F ht⟩) hS9.2.2 dX5_separated_187
                          · refine lv_bipush (v := (-4)) hx hb dX5_separated_171 (by decide) ?_
                            have hP9 := hP
                            have hD9 := hD
                            have hS9 := hS
                            have qv : fX5_separated xs ys pm ia ib ic id = (-4 : Int32) := by unfold fX5_separated; rw [if_neg c1, if_neg c2, if_neg c3, if_neg c4, if_pos c5, if_pos c6, if_pos c7, if_pos c8, if_pos c9, if_pos c10, if_neg c11, if_neg c13]
                            rw [qv]
                            exact W.iret (v := (-4 : Int32)) hx hb hr (fun t ht hW => ⟨⟨rfl, by rw [ht]; exact hP9, by rw [hAe]; exact hD9⟩, by rw [hAe]; exact hS9.F ht⟩) hS9.2.2 dX5_separated_173
                      · refine lv_iload hx hb dX5_separated_125 (lv_at hl 0 rfl) ?_
                        refine lv_if_ne (tgt := 154) hx hb dX5_separated_127 (by decide) (fun c15 => ?_) (fun c15 => ?_)
                        · refine lv_iload hx hb dX5_separated_154 (lv_at hl 1 rfl) ?_
                          refine lv_if_eq (tgt := 171) hx hb dX5_separated_156 (by decide) (fun c16 => ?_) (fun c16 => ?_)
                          · refine lv_bipush (v := (-4)) hx hb dX5_separated_171 (by decide) ?_
                            have hP9 := hP
                            have hD9 := hD
                            have hS9 := hS
                            have qv : fX5_separated xs ys pm ia ib ic id = (-4 : Int32) := by unfold fX5_separated; rw [if_neg c1, if_neg c2, if_neg c3, if_neg c4, if_pos c5, if_pos c6, if_pos c7, if_pos c8, if_pos c9, if_pos c10, if_pos c11, if_neg c15]
                            rw [qv]
                            exact W.iret (v := (-4 : Int32)) hx hb hr (fun t ht hW => ⟨⟨rfl, by rw [ht]; exact hP9, by rw [hAe]; exact hD9⟩, by rw [hAe]; exact hS9.F ht⟩) hS9.2.2 dX5_separated_173
                          · exact absurd c11 c16
                        · refine lv_aload_n hx hb dX5_separated_130 rfl (lv_at hl 2 rfl) ?_
                          refine lv_iload_n hx hb dX5_separated_131 rfl (lv_at hl 3 rfl) ?_
                          refine lv_iload_n hx hb dX5_separated_132 rfl (lv_at hl 4 rfl) ?_
                          refine lv_iload_n hx hb dX5_separated_133 rfl (lv_at hl 5 rfl) ?_
                          refine xr_V (q := (RX5, TX5, 14)) (ci := 9) (q0 := 0) (rest := []) (As := [.int ia, .int ib, .int ic]) ⟨hx, hb, hml, hown, hts⟩ (ct5_isOn l D m1 m2 m3 m4 m5 m6 m7 kI kJ xs ys held la lb lc (0 : Int32) pm rm on cl un ze lm ia ib ic (o_pt c1 opm) (o_pt c2 opm) (o_pt c3 opm)) (cwV 3 hts gl_X5_131 rfl rfl rfl (by decide +kernel) ⟨Nat.le_of_ble_eq_true rfl, Nat.le_of_ble_eq_true rfl⟩) nN_mv hN hK hP [0, 1, 2, 3, 4, 5, 6] [0, 1] rfl rfl rfl rfl rfl hl.1 rfl (Nat.le_of_ble_eq_true rfl) dX5_separated_134 ⟨Nat.le_of_ble_eq_true rfl, Nat.le_of_ble_eq_true rfl⟩ ?_
                          refine lv_aload_n hx hb dX5_separated_137 rfl (lv_at hl 2 rfl) ?_
                          refine lv_iload_n hx hb dX5_separated_138 rfl (lv_at hl 3 rfl) ?_
                          refine lv_iload_n hx hb dX5_separated_139 rfl (lv_at hl 4 rfl) ?_
                          refine lv_iload hx hb dX5_separated_140 (lv_at hl 6 rfl) ?_
                          refine xr_V (q := (RX5, TX5, 14)) (ci := 9) (q0 := 0) (rest := [.int (fX5_isOn xs ys ia ib ic)]) (As := [.int ia, .int ib, .int id]) ⟨hx, hb, hml, hown, hts⟩ (ct5_isOn l D m1 m2 m3 m4 m5 m6 m7 kI kJ xs ys held la lb lc (0 : Int32) pm rm on cl un ze lm ia ib id (o_pt c1 opm) (o_pt c2 opm) (o_pt c4 opm)) (cwV 3 hts gl_X5_131 rfl rfl rfl (by decide +kernel) ⟨Nat.le_of_ble_eq_true rfl, Nat.le_of_ble_eq_true rfl⟩) nN_mv hN hK hP [0, 1, 2, 3, 4, 5, 6] [0, 1] rfl rfl rfl rfl rfl hl.1 rfl (Nat.le_of_ble_eq_true rfl) dX5_separated_142 ⟨Nat.le_of_ble_eq_true rfl, Nat.le_of_ble_eq_true rfl⟩ ?_
                          refine lv_icmp_eq (tgt := 152) hx hb dX5_separated_145 (by decide) (fun c17 => ?_) (fun c17 => ?_)
                          · refine lv_iconst (v := 0) hx hb dX5_separated_152 (by decide) ?_
                            have hP9 := hP
                            have hD9 := hD
                            have hS9 := hS
                            have qv : fX5_separated xs ys pm ia ib ic id = (0 : Int32) := by unfold fX5_separated; rw [if_neg c1, if_neg c2, if_neg c3, if_neg c4, if_pos c5, if_pos c6, if_pos c7, if_pos c8, if_pos c9, if_pos c10, if_pos c11, if_pos c15, if_pos c17]
                            rw [qv]
                            exact W.iret (v := (0 : Int32)) hx hb hr (fun t ht hW => ⟨⟨rfl, by rw [ht]; exact hP9, by rw [hAe]; exact hD9⟩, by rw [hAe]; exact hS9.F ht⟩) hS9.2.2 dX5_separated_153
                          · refine lv_iconst (v := 1) hx hb dX5_separated_148 (by decide) ?_
                            refine lv_goto (tgt := 153) hx hb dX5_separated_149 (by decide) ?_
                            have hP9 := hP
                            have hD9 := hD
                            have hS9 := hS
                            have qv : fX5_separated xs ys pm ia ib ic id = (1 : Int32) := by unfold fX5_separated; rw [if_neg c1, if_neg c2, if_neg c3, if_neg c4, if_pos c5, if_pos c6, if_pos c7, if_pos c8, if_pos c9, if_pos c10, if_pos c11, if_pos c15, if_neg c17]
                            rw [qv]
                            exact W.iret (v := (1 : Int32)) hx hb hr (fun t ht hW => ⟨⟨rfl, by rw [ht]; exact hP9, by rw [hAe]; exact hD9⟩, by rw [hAe]; exact hS9.F ht⟩) hS9.2.2 dX5_separated_153
                    · refine lv_bipush (v := (-4)) hx hb dX5_separated_98 (by decide) ?_
                      have hP9 := hP
                      have hD9 := hD
                      have hS9 := hS
                      have qv : fX5_separated xs ys pm ia ib ic id = (-4 : Int32) := by unfold fX5_separated; rw [if_neg c1, if_neg c2, if_neg c3, if_neg c4, if_pos c5, if_pos c6, if_pos c7, if_pos c8, if_pos c9, if_neg c10]
                      rw [qv]
                      exact W.iret (v := (-4 : Int32)) hx hb hr (fun t ht hW => ⟨⟨rfl, by rw [ht]; exact hP9, by rw [hAe]; exact hD9⟩, by rw [hAe]; exact hS9.F ht⟩) hS9.2.2 dX5_separated_100
        · refine lv_bipush (v := (-2)) hx hb dX5_separated_38 (by decide) ?_
          have hP9 := hP
          have hD9 := hD
          have hS9 := hS
          have qv : fX5_separated xs ys pm ia ib ic id = (-2 : Int32) := by unfold fX5_separated; rw [if_neg c1, if_neg c2, if_neg c3, if_pos c4]
          rw [qv]
          exact W.iret (v := (-2 : Int32)) hx hb hr (fun t ht hW => ⟨⟨rfl, by rw [ht]; exact hP9, by rw [hAe]; exact hD9⟩, by rw [hAe]; exact hS9.F ht⟩) hS9.2.2 dX5_separated_40
def fX5_point (xs ys : Nat → Int32) (pm : Int32) (vx : Int64) (vy : Int64) (vd : Int64) : Int32 := if (lg_cmp vd (1 : Int64)) = (0 : Int32) then (if (lg_cmp vx (-800 : Int64)) < (0 : Int32) then ((-2 : Int32)) else (if (0 : Int32) < (lg_cmp vx (800 : Int64)) then ((-2 : Int32)) else (if (lg_cmp vy (-800 : Int64)) < (0 : Int32) then ((-2 : Int32)) else (if (lg_cmp vy (800 : Int64)) ≤ (0 : Int32) then (if pm = (60 : Int32) then ((-3 : Int32)) else ((pm + (1 : Int32)) - (1 : Int32))) else ((-2 : Int32)))))) else (if (lg_cmp vd (2 : Int64)) = (0 : Int32) then (if (lg_cmp vx (-800 : Int64)) < (0 : Int32) then ((-2 : Int32)) else (if (0 : Int32) < (lg_cmp vx (800 : Int64)) then ((-2 : Int32)) else (if (lg_cmp vy (-800 : Int64)) < (0 : Int32) then ((-2 : Int32)) else (if (lg_cmp vy (800 : Int64)) ≤ (0 : Int32) then (if pm = (60 : Int32) then ((-3 : Int32)) else ((pm + (1 : Int32)) - (1 : Int32))) else ((-2 : Int32)))))) else (if (lg_cmp vd (3 : Int64)) = (0 : Int32) then (if (lg_cmp vx (-800 : Int64)) < (0 : Int32) then ((-2 : Int32)) else (if (0 : Int32) < (lg_cmp vx (800 : Int64)) then ((-2 : Int32)) else (if (lg_cmp vy (-800 : Int64)) < (0 : Int32) then ((-2 : Int32)) else (if (lg_cmp vy (800 : Int64)) ≤ (0 : Int32) then (if pm = (60 : Int32) then ((-3 : Int32)) else ((pm + (1 : Int32)) - (1 : Int32))) else ((-2 : Int32)))))) else (if (lg_cmp vd (4 : Int64)) = (0 : Int32) then (if (lg_cmp vx (-800 : Int64)) < (0 : Int32) then ((-2 : Int32)) else (if (0 : Int32) < (lg_cmp vx (800 : Int64)) then ((-2 : Int32)) else (if (lg_cmp vy (-800 : Int64)) < (0 : Int32) then ((-2 : Int32)) else (if (lg_cmp vy (800 : Int64)) ≤ (0 : Int32) then (if pm = (60 : Int32) then ((-3 : Int32)) else ((pm + (1 : Int32)) - (1 : Int32))) else ((-2 : Int32)))))) else (if (lg_cmp vd (6 : Int64)) = (0 : Int32) then (if (lg_cmp vx (-800 : Int64)) < (0 : Int32) then ((-2 : Int32)) else (if (0 : Int32) < (lg_cmp vx (800 : Int64)) then ((-2 : Int32)) else (if (lg_cmp vy (-800 : Int64)) < (0 : Int32) then ((-2 : Int32)) else (if (lg_cmp vy (800 : Int64)) ≤ (0 : Int32) then (if pm = (60 : Int32) then ((-3 : Int32)) else ((pm + (1 : Int32)) - (1 : Int32))) else ((-2 : Int32)))))) else (if (lg_cmp vd (12 : Int64)) = (0 : Int32) then (if (lg_cmp vx (-800 : Int64)) < (0 : Int32) then ((-2 : Int32)) else (if (0 : Int32) < (lg_cmp vx (800 : Int64)) then ((-2 : Int32)) else (if (lg_cmp vy (-800 : Int64)) < (0 : Int32) then ((-2 : Int32)) else (if (lg_cmp vy (800 : Int64)) ≤ (0 : Int32) then (if pm = (60 : Int32) then ((-3 : Int32)) else ((pm + (1 : Int32)) - (1 : Int32))) else ((-2 : Int32)))))) else ((-2 : Int32)))))))
def gX5_point_xs (xs ys : Nat → Int32) (pm : Int32) (vx : Int64) (vy : Int64) (vd : Int64) : Nat → Int32 := if (lg_cmp vd (1 : Int64)) = (0 : Int32) then (if (lg_cmp vx (-800 : Int64)) < (0 : Int32) then (xs) else (if (0 : Int32) < (lg_cmp vx (800 : Int64)) then (xs) else (if (lg_cmp vy (-800 : Int64)) < (0 : Int32) then (xs) else (if (lg_cmp vy (800 : Int64)) ≤ (0 : Int32) then (if pm = (60 : Int32) then (xs) else (upd xs pm.toNatClampNeg ((vx * ((12 : Int64) / vd)).toInt32))) else (xs))))) else (if (lg_cmp vd (2 : Int64)) = (0 : Int32) then (if (lg_cmp vx (-800 : Int64)) < (0 : Int32) then (xs) else (if (0 : Int32) < (lg_cmp vx (800 : Int64)) then (xs) else (if (lg_cmp vy (-800 : Int64)) < (0 : Int32) then (xs) else (if (lg_cmp vy (800 : Int64)) ≤ (0 : Int32) then (if pm = (60 : Int32) then (xs) else (upd xs pm.toNatClampNeg ((vx * ((12 : Int64) / vd)).toInt32))) else (xs))))) else (if (lg_cmp vd (3 : Int64)) = (0 : Int32) then (if (lg_cmp vx (-800 : Int64)) < (0 : Int32) then (xs) else (if (0 : Int32) < (lg_cmp vx (800 : Int64)) then (xs) else (if (lg_cmp vy (-800 : Int64)) < (0 : Int32) then (xs) else (if (lg_cmp vy (800 : Int64)) ≤ (0 : Int32) then (if pm = (60 : Int32) then (xs) else (upd xs pm.toNatClampNeg ((vx * ((12 : Int64) / vd)).toInt32))) else (xs))))) else (if (lg_cmp vd (4 : Int64)) = (0 : Int32) then (if (lg_cmp vx (-800 : Int64)) < (0 : Int32) then (xs) else (if (0 : Int32) < (lg_cmp vx (800 : Int64)) then (xs) else (if (lg_cmp vy (-800 : Int64)) < (0 : Int32) then (xs) else (if (lg_cmp vy (800 : Int64)) ≤ (0 : Int32) then (if pm = (60 : Int32) then (xs) else (upd xs pm.toNatClampNeg ((vx * ((12 : Int64) / vd)).toInt32))) else (xs))))) else (if (lg_cmp vd (6 : Int64)) = (0 : Int32) then (if (lg_cmp vx (-800 : Int64)) < (0 : Int32) then (xs) else (if (0 : Int32) < (lg_cmp vx (800 : Int64)) then (xs) else (if (lg_cmp vy (-800 : Int64)) < (0 : Int32) then (xs) else (if (lg_cmp vy (800 : Int64)) ≤ (0 : Int32) then (if pm = (60 : Int32) then (xs) else (upd xs pm.toNatClampNeg ((vx * ((12 : Int64) / vd)).toInt32))) else (xs))))) else (if (lg_cmp vd (12 : Int64)) = (0 : Int32) then (if (lg_cmp vx (-800 : Int64)) < (0 : Int32) then (xs) else (if (0 : Int32) < (lg_cmp vx (800 : Int64)) then (xs) else (if (lg_cmp vy (-800 : Int64)) < (0 : Int32) then (xs) else (if (lg_cmp vy (800 : Int64)) ≤ (0 : Int32) then (if pm = (60 : Int32) then (xs) else (upd xs pm.toNatClampNeg ((vx * ((12 : Int64) / vd)).toInt32))) else (xs))))) else (xs))))))
def gX5_point_ys (xs ys : Nat → Int32) (pm : Int32) (vx : Int64) (vy : Int64) (vd : Int64) : Nat → Int32 := if (lg_cmp vd (1 : Int64)) = (0 : Int32) then (if (lg_cmp vx (-800 : Int64)) < (0 : Int32) then (ys) else (if (0 : Int32) < (lg_cmp vx (800 : Int64)) then (ys) else (if (lg_cmp vy (-800 : Int64)) < (0 : Int32) then (ys) else (if (lg_cmp vy (800 : Int64)) ≤ (0 : Int32) then (if pm = (60 : Int32) then (ys) else (upd ys pm.toNatClampNeg ((vy * ((12 : Int64) / vd)).toInt32))) else (ys))))) else (if (lg_cmp vd (2 : Int64)) = (0 : Int32) then (if (lg_cmp vx (-800 : Int64)) < (0 : Int32) then (ys) else (if (0 : Int32) < (lg_cmp vx (800 : Int64)) then (ys) else (if (lg_cmp vy (-800 : Int64)) < (0 : Int32) then (ys) else (if (lg_cmp vy (800 : Int64)) ≤ (0 : Int32) then (if pm = (60 : Int32) then (ys) else (upd ys pm.toNatClampNeg ((vy * ((12 : Int64) / vd)).toInt32))) else (ys))))) else (if (lg_cmp vd (3 : Int64)) = (0 : Int32) then (if (lg_cmp vx (-800 : Int64)) < (0 : Int32) then (ys) else (if (0 : Int32) < (lg_cmp vx (800 : Int64)) then (ys) else (if (lg_cmp vy (-800 : Int64)) < (0 : Int32) then (ys) else (if (lg_cmp vy (800 : Int64)) ≤ (0 : Int32) then (if pm = (60 : Int32) then (ys) else (upd ys pm.toNatClampNeg ((vy * ((12 : Int64) / vd)).toInt32))) else (ys))))) else (if (lg_cmp vd (4 : Int64)) = (0 : Int32) then (if (lg_cmp vx (-800 : Int64)) < (0 : Int32) then (ys) else (if (0 : Int32) < (lg_cmp vx (800 : Int64)) then (ys) else (if (lg_cmp vy (-800 : Int64)) < (0 : Int32) then (ys) else (if (lg_cmp vy (800 : Int64)) ≤ (0 : Int32) then (if pm = (60 : Int32) then (ys) else (upd ys pm.toNatClampNeg ((vy * ((12 : Int64) / vd)).toInt32))) else (ys))))) else (if (lg_cmp vd (6 : Int64)) = (0 : Int32) then (if (lg_cmp vx (-800 : Int64)) < (0 : Int32) then (ys) else (if (0 : Int32) < (lg_cmp vx (800 : Int64)) then (ys) else (if (lg_cmp vy (-800 : Int64)) < (0 : Int32) then (ys) else (if (lg_cmp vy (800 : Int64)) ≤ (0 : Int32) then (if pm = (60 : Int32) then (ys) else (upd ys pm.toNatClampNeg ((vy * ((12 : Int64) / vd)).toInt32))) else (ys))))) else (if (lg_cmp vd (12 : Int64)) = (0 : Int32) then (if (lg_cmp vx (-800 : Int64)) < (0 : Int32) then (ys) else (if (0 : Int32) < (lg_cmp vx (800 : Int64)) then (ys) else (if (lg_cmp vy (-800 : Int64)) < (0 : Int32) then (ys) else (if (lg_cmp vy (800 : Int64)) ≤ (0 : Int32) then (if pm = (60 : Int32) then (ys) else (upd ys pm.toNatClampNeg ((vy * ((12 : Int64) / vd)).toInt32))) else (ys))))) else (ys))))))
def gX5_point_pm (xs ys : Nat → Int32) (pm : Int32) (vx : Int64) (vy : Int64) (vd : Int64) : Int32 := if (lg_cmp vd (1 : Int64)) = (0 : Int32) then (if (lg_cmp vx (-800 : Int64)) < (0 : Int32) then (pm) else (if (0 : Int32) < (lg_cmp vx (800 : Int64)) then (pm) else (if (lg_cmp vy (-800 : Int64)) < (0 : Int32) then (pm) else (if (lg_cmp vy (800 : Int64)) ≤ (0 : Int32) then (if pm = (60 : Int32) then (pm) else (pm + (1 : Int32))) else (pm))))) else (if (lg_cmp vd (2 : Int64)) = (0 : Int32) then (if (lg_cmp vx (-800 : Int64)) < (0 : Int32) then (pm) else (if (0 : Int32) < (lg_cmp vx (800 : Int64)) then (pm) else (if (lg_cmp vy (-800 : Int64)) < (0 : Int32) then (pm) else (if (lg_cmp vy (800 : Int64)) ≤ (0 : Int32) then (if pm = (60 : Int32) then (pm) else (pm + (1 : Int32))) else (pm))))) else (if (lg_cmp vd (3 : Int64)) = (0 : Int32) then (if (lg_cmp vx (-800 : Int64)) < (0 : Int32) then (pm) else (if (0 : Int32) < (lg_cmp vx (800 : Int64)) then (pm) else (if (lg_cmp vy (-800 : Int64)) < (0 : Int32) then (pm) else (if (lg_cmp vy (800 : Int64)) ≤ (0 : Int32) then (if pm = (60 : Int32) then (pm) else (pm + (1 : Int32))) else (pm))))) else (if (lg_cmp vd (4 : Int64)) = (0 : Int32) then (if (lg_cmp vx (-800 : Int64)) < (0 : Int32) then (pm) else (if (0 : Int32) < (lg_cmp vx (800 : Int64)) then (pm) else (if (lg_cmp vy (-800 : Int64)) < (0 : Int32) then (pm) else (if (lg_cmp vy (800 : Int64)) ≤ (0 : Int32) then (if pm = (60 : Int32) then (pm) else (pm + (1 : Int32))) else (pm))))) else (if (lg_cmp vd (6 : Int64)) = (0 : Int32) then (if (lg_cmp vx (-800 : Int64)) < (0 : Int32) then (pm) else (if (0 : Int32) < (lg_cmp vx (800 : Int64)) then (pm) else (if (lg_cmp vy (-800 : Int64)) < (0 : Int32) then (pm) else (if (lg_cmp vy (800 : Int64)) ≤ (0 : Int32) then (if pm = (60 : Int32) then (pm) else (pm + (1 : Int32))) else (pm))))) else (if (lg_cmp vd (12 : Int64)) = (0 : Int32) then (if (lg_cmp vx (-800 : Int64)) < (0 : Int32) then (pm) else (if (0 : Int32) < (lg_cmp vx (800 : Int64)) then (pm) else (if (lg_cmp vy (-800 : Int64)) < (0 : Int32) then (pm) else (if (lg_cmp vy (800 : Int64)) ≤ (0 : Int32) then (if pm = (60 : Int32) then (pm) else (pm + (1 : Int32))) else (pm))))) else (pm))))))
set_option maxHeartbeats 4000000 in
set_option maxRecDepth 100000 in
theorem ct5_point (l : Launch) (D : va_G) (sz : Nat) (m1 m2 m3 m4 m5 m6 m7 : Nat) (kI kJ : ClassId) (xs ys held : Nat → Int32) (la lb lc : Nat → Int64) (th pm rm on cl un ze lm : Int32) (vx : Int64) (vy : Int64) (vd : Int64) (opm : pm.toInt ≤ (60 : Nat)) (opn : 0 ≤ pm.toInt) : Met l yX5_point (Cond.code yX5_point cX5_point 8 (some .int) :: BY) ({ frames := 0, cells := 0, slots := 0, locals := 0 }) (xw_P nN D vwCl [(kI, .int), (kJ, .long)] (wMo m1 m2 m3 m4 m5 m6 m7 kI kJ xs ys held la lb lc th pm rm on cl un ze lm) sz [.ref m1, .long vx, .long vy, .long vd]) (xw_Q D vwCl (some (.int (fX5_point xs ys pm vx vy vd))) (wMo m1 m2 m3 m4 m5 m6 m7 kI kJ xs ys held la lb lc th pm rm on cl un ze lm) (wMo m1 m2 m3 m4 m5 m6 m7 kI kJ (gX5_point_xs xs ys pm vx vy vd) (gX5_point_ys xs ys pm vx vy vd) held la lb lc (0 : Int32) (gX5_point_pm xs ys pm vx vy vd) rm on cl un ze lm) sz) 0 0 (va_A (wMo m1 m2 m3 m4 m5 m6 m7 kI kJ xs ys held la lb lc th pm rm on cl un ze lm) sz) := by
  refine Met.ofW (cc := cX5_point) (maxL := 8) (ret := (some .int)) (by decide) rfl ?_
  intro p e s m args below meth c s₁ B hml hv
  obtain ⟨rfl, hsz, hP, hK, hN, hD0⟩ := hv
  have hx := B.exec
  have hb := B.bytes
  have hr := B.returns
  have hts0 := atoms_spec (ws := Cond.code yX5_point cX5_point 8 (some .int) :: BY) B.pre
  have hts : ∀ w ∈ BY, w.before _ s = true := fun w h => hts0 w (List.mem_cons_of_mem _ h)
  have hown : s.vm.findClass RX5 = some m.cls := findClass_of_methodNamed B.named
  have hlocks := B.notSynchronized
  subst hsz
  have hD := hD0.self (sz := s.heap.size)
  generalize hAe : va_A (wMo m1 m2 m3 m4 m5 m6 m7 kI kJ xs ys held la lb lc th pm rm on cl un ze lm) s.heap.size = A at hD ⊢
  have hA : ∀ q : Nat, s.heap.size ≤ q → A q := fun q h => by rw [← hAe]; exact Or.inr h
  have hS : va_S A s.heap s.heap [] := va_S.rf
  have hP : va_P D vwCl [(m1, .inr (9, [.int th, .int pm, .ref m2, .ref m3, .int rm, .ref m4, .int on, .int cl, .int un, .int ze, .int lm, .ref m5, .ref m6, .ref m7])), (m2, .inl (kI, 60, .inl xs)), (m3, .inl (kI, 60, .inl ys)), (m4, .inl (kI, 24, .inl held)), (m5, .inl (kJ, 12, .inr (.inl la))), (m6, .inl (kJ, 12, .inr (.inl lb))), (m7, .inl (kJ, 12, .inr (.inl lc)))] s.heap := hP
  have hD : va_D A [(m1, .inr (9, [.int th, .int pm, .ref m2, .ref m3, .int rm, .ref m4, .int on, .int cl, .int un, .int ze, .int lm, .ref m5, .ref m6, .ref m7])), (m2, .inl (kI, 60, .inl xs)), (m3, .inl (kI, 60, .inl ys)), (m4, .inl (kI, 24, .inl held)), (m5, .inl (kJ, 12, .inr (.inl la))), (m6, .inl (kJ, 12, .inr (.inl lb))), (m7, .inl (kJ, 12, .inr (.inl lc)))] := hD
  have hl := lv_entry ([.ref m1, .long vx, .long vy, .long vd]) (n := 8) (Nat.le_of_ble_eq_true rfl)
  rw [lg_entry_eq]
  generalize (lg_sl ([.ref m1, .long vx, .long vy, .long vd]) ++ List.replicate (8 - (lg_sl ([.ref m1, .long vx, .long vy, .long vd])).length) Slot.unset).toArray = ls at hl ⊢
  have hl : lv_has ls 8 [(0, .ref m1), (1, .long vx), (3, .long vy), (5, .long vd)] := hl
  refine lv_aload_n hx hb dX5_point_0 rfl (lv_at hl 0 rfl) ?_
  refine lv_iconst (v := 0) hx hb dX5_point_1 (by decide) ?_
  refine va_put (D := D) (ci := 9) (v := .int (0 : Int32)) (ty := .int) (C := RX5) (T := TX5) (N := 14) hx hb hts hinX5 tyX5 tyX5_ok nmX5 hown hK hP hD hS 0 rfl rfl 0 (by decide) (hts _ fk_X5_1) (fun _ h9 => h9) rfl (by decide +kernel) rfl rfl (Nat.le_of_ble_eq_true rfl) dX5_point_2 (fun H locs hP hD hS => ?_)
  have hP : va_P D vwCl [(m1, .inr (9, [.int (0 : Int32), .int pm, .ref m2, .ref m3, .int rm, .ref m4, .int on, .int cl, .int un, .int ze, .int lm, .ref m5, .ref m6, .ref m7])), (m2, .inl (kI, 60, .inl xs)), (m3, .inl (kI, 60, .inl ys)), (m4, .inl (kI, 24, .inl held)), (m5, .inl (kJ, 12, .inr (.inl la))), (m6, .inl (kJ, 12, .inr (.inl lb))), (m7, .inl (kJ, 12, .inr (.inl lc)))] H := hP
  have hD : va_D A [(m1, .inr (9, [.int (0 : Int32), .int pm, .ref m2, .ref m3, .int rm, .ref m4, .int on, .int cl, .int un, .int ze, .int lm, .ref m5, .ref m6, .ref m7])), (m2, .inl (kI, 60, .inl xs)), (m3, .inl (kI, 60, .inl ys)), (m4, .inl (kI, 24, .inl held)), (m5, .inl (kJ, 12, .inr (.inl la))), (m6, .inl (kJ, 12, .inr (.inl lb))), (m7, .inl (kJ, 12, .inr (.inl lc)))] := hD
  refine lv_lload hx hb dX5_point_5 (lv_at hl 3 rfl) ?_
  refine lv_lconst (v := 1) hx hb dX5_point_7 (by decide) ?_
  refine W.lcmp hx hb dX5_point_8 ?_
  refine lv_if_eq (tgt := 57) hx hb dX5_point_9 (by decide) (fun c1 => ?_) (fun c1 => ?_)
  · refine lv_iconst (v := 1) hx hb dX5_point_57 (by decide) ?_
    refine lv_goto (tgt := 62) hx hb dX5_point_58 (by decide) ?_
    refine lv_istore (lv' := [(7, .int (1 : Int32)), (0, .ref m1), (1, .long vx), (3, .long vy), (5, .long vd)]) hx hb dX5_point_62 hl (by decide) rfl (fun ls hl => ?_)
    refine lv_iload hx hb dX5_point_64 (lv_at hl 0 rfl) ?_
    refine lv_if_eq (tgt := 101) hx hb dX5_point_66 (by decide) (fun c2 => ?_) (fun c2 => ?_)
    · exact absurd c2 (by decide)
    · refine lv_lload_n hx hb dX5_point_69 rfl (lv_at hl 2 rfl) ?_
      refine lv_ldc2 (v := -800) hx hb hown (hts _ kl_X5_47) dX5_point_70 ?_
      refine W.lcmp hx hb dX5_point_73 ?_
      refine lv_if_lt (tgt := 101) hx hb dX5_point_74 (by decide) (fun c3 => ?_) (fun c3 => ?_)
      · refine lv_bipush (v := (-2)) hx hb dX5_point_101 (by decide) ?_
        have hP9 := hP
        have hD9 := hD
        have hS9 := hS
        have qv : fX5_point xs ys pm vx vy vd = (-2 : Int32) := by unfold fX5_point; rw [if_pos c1, if_pos c3]
        have q_xs : gX5_point_xs xs ys pm vx vy vd = xs := by unfold gX5_point_xs; rw [if_pos c1, if_pos c3]
        have q_ys : gX5_point_ys xs ys pm vx vy vd = ys := by unfold gX5_point_ys; rw [if_pos c1, if_pos c3]
        have q_pm : gX5_point_pm xs ys pm vx vy vd = pm := by unfold gX5_point_pm; rw [if_pos c1, if_pos c3]
        rw [qv, q_xs, q_ys, q_pm]
        exact W.iret (v := (-2 : Int32)) hx hb hr (fun t ht hW => ⟨⟨rfl, by rw [ht]; exact hP9, by rw [hAe]; exact hD9⟩, by rw [hAe]; exact hS9.F ht⟩) hS9.2.2 dX5_point_103
      · refine lv_lload_n hx hb dX5_point_77 rfl (lv_at hl 2 rfl) ?_
        refine lv_ldc2 (v := 800) hx hb hown (hts _ kl_X5_49) dX5_point_78 ?_
        refine W.lcmp hx hb dX5_point_81 ?_
        refine lv_if_gt (tgt := 101) hx hb dX5_point_82 (by decide) (fun c4 => ?_) (fun c4 => ?_)
        · refine lv_bipush (v := (-2)) hx hb dX5_point_101 (by decide) ?_
          have hP9 := hP
          have hD9 := hD
          have hS9 := hS
          have qv : fX5_point xs ys pm vx vy vd = (-2 : Int32) := by unfold fX5_point; rw [if_pos c1, if_neg c3, if_pos c4]
          have q_xs : gX5_point_xs xs ys pm vx vy vd = xs := by unfold gX5_point_xs; rw [if_pos c1, if_neg c3, if_pos c4]
          have q_ys : gX5_point_ys xs ys pm vx vy vd = ys := by unfold gX5_point_ys; rw [if_pos c1, if_neg c3, if_pos c4]
          have q_pm : gX5_point_pm xs ys pm vx vy vd = pm := by unfold gX5_point_pm; rw [if_pos c1, if_neg c3, if_pos c4]
          rw [qv, q_xs, q_ys, q_pm]
          exact W.iret (v := (-2 : Int32)) hx hb hr (fun t ht hW => ⟨⟨rfl, by rw [ht]; exact hP9, by rw [hAe]; exact hD9⟩, by rw [hAe]; exact hS9.F ht⟩) hS9.2.2 dX5_point_103
        · refine lv_lload_n hx hb dX5_point_85 rfl (lv_at hl 3 rfl) ?_
          refine lv_ldc2 (v := -800) hx hb hown (hts _ kl_X5_47) dX5_point_86 ?_
          refine W.lcmp hx hb dX5_point_89 ?_
          refine lv_if_lt (tgt := 101) hx hb dX5_point_90 (by decide) (fun c5 => ?_) (fun c5 => ?_)
          · refine lv_bipush (v := (-2)) hx hb dX5_point_101 (by decide) ?_
            have hP9 := hP
            have hD9 := hD
            have hS9 := hS
            have qv : fX5_point xs ys pm vx vy vd = (-2 : Int32) := by unfold fX5_point; rw [if_pos c1, if_neg c3, if_neg c4, if_pos c5]
            have q_xs : gX5_point_xs xs ys pm vx vy vd = xs := by unfold gX5_point_xs; rw [if_pos c1, if_neg c3, if_neg c4, if_pos c5]
            have q_ys : gX5_point_ys xs ys pm vx vy vd = ys := by unfold gX5_point_ys; rw [if_pos c1, if_neg c3, if_neg c4, if_pos c5]
            have q_pm : gX5_point_pm xs ys pm vx vy vd = pm := by unfold gX5_point_pm; rw [if_pos c1, if_neg c3, if_neg c4, if_pos c5]
            rw [qv, q_xs, q_ys, q_pm]
            exact W.iret (v := (-2 : Int32)) hx hb hr (fun t ht hW => ⟨⟨rfl, by rw [ht]; exact hP9, by rw [hAe]; exact hD9⟩, by rw [hAe]; exact hS9.F ht⟩) hS9.2.2 dX5_point_103
          · refine lv_lload_n hx hb dX5_point_93 rfl (lv_at hl 3 rfl) ?_
            refine lv_ldc2 (v := 800) hx hb hown (hts _ kl_X5_49) dX5_point_94 ?_
            refine W.lcmp hx hb dX5_point_97 ?_
            refine lv_if_le (tgt := 104) hx hb dX5_point_98 (by decide) (fun c6 => ?_) (fun c6 => ?_)
            · refine lv_aload_n hx hb dX5_point_104 rfl (lv_at hl 1 rfl) ?_
              refine va_get (D := D) (ci := 9) (v := .int pm) (C := RX5) (T := TX5) (N := 14) hx hb hts hinX5 hown hK hP 0 rfl rfl 1 (by decide) (hts _ fk_X5_51) (fun _ h9 => h9) rfl dX5_point_105 ?_
              refine lv_bipush (v := 60) hx hb dX5_point_108 (by decide) ?_
              refine lv_icmp_ne (tgt := 116) hx hb dX5_point_110 (by decide) (fun c7 => ?_) (fun c7 => ?_)
              · refine lv_aload_n hx hb dX5_point_116 rfl (lv_at hl 1 rfl) ?_
                refine va_get (D := D) (ci := 9) (v := .ref m2) (C := RX5) (T := TX5) (N := 14) hx hb hts hinX5 hown hK hP 0 rfl rfl 2 (by decide) (hts _ fk_X5_13) (fun _ h9 => h9) rfl dX5_point_117 ?_
                refine lv_aload_n hx hb dX5_point_120 rfl (lv_at hl 1 rfl) ?_
                refine va_get (D := D) (ci := 9) (v := .int pm) (C := RX5) (T := TX5) (N := 14) hx hb hts hinX5 hown hK hP 0 rfl rfl 1 (by decide) (hts _ fk_X5_51) (fun _ h9 => h9) rfl dX5_point_121 ?_
                refine lv_lload_n hx hb dX5_point_124 rfl (lv_at hl 2 rfl) ?_
                refine lv_ldc2 (v := 12) hx hb hown (hts _ kl_X5_45) dX5_point_125 ?_
                refine lv_lload hx hb dX5_point_128 (lv_at hl 4 rfl) ?_
                refine lv_ldiv hx hb dX5_point_130 (o_dk c1 (by decide)) ?_
                refine lv_lmul hx hb dX5_point_131 ?_
                refine lv_l2i hx hb dX5_point_132 rfl ?_
                refine lv_topi (fun z8 ez8 => ?_)
                refine va_iast hx hb hK hP hD hS 1 0 rfl rfl (o_pme opm opn c7) dX5_point_133 (fun H locs hP hD hS => ?_)
                have hP : va_P D vwCl [(m1, .inr (9, [.int (0 : Int32), .int pm, .ref m2, .ref m3, .int rm, .ref m4, .int on, .int cl, .int un, .int ze, .int lm, .ref m5, .ref m6, .ref m7])), (m2, .inl (kI, 60, .inl (upd xs pm.toNatClampNeg z8))), (m3, .inl (kI, 60, .inl ys)), (m4, .inl (kI, 24, .inl held)), (m5, .inl (kJ, 12, .inr (.inl la))), (m6, .inl (kJ, 12, .inr (.inl lb))), (m7, .inl (kJ, 12, .inr (.inl lc)))] H := hP
                have hD : va_D A [(m1, .inr (9, [.int (0 : Int32), .int pm, .ref m2, .ref m3, .int rm, .ref m4, .int on, .int cl, .int un, .int ze, .int lm, .ref m5, .ref m6, .ref m7])), (m2, .inl (kI, 60, .inl (upd xs pm.toNatClampNeg z8))), (m3, .inl (kI, 60, .inl ys)), (m4, .inl (kI, 24, .inl held)), (m5, .inl (kJ, 12, .inr (.inl la))), (m6, .inl (kJ, 12, .inr (.inl lb))), (m7, .inl (kJ, 12, .inr (.inl lc)))] := hD
                refine lv_aload_n hx hb dX5_point_134 rfl (lv_at hl 1 rfl) ?_
                refine va_get (D := D) (ci := 9) (v := .ref m3) (C := RX5) (T := TX5) (N := 14) hx hb hts hinX5 hown hK hP 0 rfl rfl 3 (by decide) (hts _ fk_X5_17) (fun _ h9 => h9) rfl dX5_point_135 ?_
                refine lv_aload_n hx hb dX5_point_138 rfl (lv_at hl 1 rfl) ?_
                refine va_get (D := D) (ci := 9) (v := .int pm) (C := RX5) (T := TX5) (N := 14) hx hb hts hinX5 hown hK hP 0 rfl rfl 1 (by decide) (hts _ fk_X5_51) (fun _ h9 => h9) rfl dX5_point_139 ?_
                refine lv_lload_n hx hb dX5_point_142 rfl (lv_at hl 3 rfl) ?_
                refine lv_ldc2 (v := 12) hx hb hown (hts _ kl_X5_45) dX5_point_143 ?_
                refine lv_lload hx hb dX5_point_146 (lv_at hl 4 rfl) ?_
                refine lv_ldiv hx hb dX5_point_148 (o_dk c1 (by decide)) ?_
                refine lv_lmul hx hb dX5_point_149 ?_
                refine lv_l2i hx hb dX5_point_150 rfl ?_
                refine lv_topi (fun z9 ez9 => ?_)
                refine va_iast hx hb hK hP hD hS 2 0 rfl rfl (o_pme opm opn c7) dX5_point_151 (fun H locs hP hD hS => ?_)
                have hP : va_P D vwCl [(m1, .inr (9, [.int (0 : Int32), .int pm, .ref m2, .ref m3, .int rm, .ref m4, .int on, .int cl, .int un, .int ze, .int lm, .ref m5, .ref m6, .ref m7])), (m2, .inl (kI, 60, .inl (upd xs pm.toNatClampNeg z8))), (m3, .inl (kI, 60, .inl (upd ys pm.toNatClampNeg z9))), (m4, .inl (kI, 24, .inl held)), (m5, .inl (kJ, 12, .inr (.inl la))), (m6, .inl (kJ, 12, .inr (.inl lb))), (m7, .inl (kJ, 12, .inr (.inl lc)))] H := hP
                have hD : va_D A [(m1, .inr (9, [.int (0 : Int32), .int pm, .ref m2, .ref m3, .int rm, .ref m4, .int on, .int cl, .int un, .int ze, .int lm, .ref m5, .ref m6, .ref m7])), (m2, .inl (kI, 60, .inl (upd xs pm.toNatClampNeg z8))), (m3, .inl (kI, 60, .inl (upd ys pm.toNatClampNeg z9))), (m4, .inl (kI, 24, .inl held)), (m5, .inl (kJ, 12, .inr (.inl la))), (m6, .inl (kJ, 12, .inr (.inl lb))), (m7, .inl (kJ, 12, .inr (.inl lc)))] := hD
                refine lv_aload_n hx hb dX5_point_152 rfl (lv_at hl 1 rfl) ?_
                refine lv_dup hx hb dX5_point_153 rfl ?_
                refine va_get (D := D) (ci := 9) (v := .int pm) (C := RX5) (T := TX5) (N := 14) hx hb hts hinX5 hown hK hP 0 rfl rfl 1 (by decide) (hts _ fk_X5_51) (fun _ h9 => h9) rfl dX5_point_154 ?_
                refine lv_iconst (v := 1) hx hb dX5_point_157 (by decide) ?_
                refine lv_iadd hx hb dX5_point_158 ?_
                refine va_put (D := D) (ci := 9) (v := .int (pm + (1 : Int32))) (ty := .int) (C := RX5) (T := TX5) (N := 14) hx hb hts hinX5 tyX5 tyX5_ok nmX5 hown hK hP hD hS 0 rfl rfl 1 (by decide) (hts _ fk_X5_51) (fun _ h9 => h9) rfl (by decide +kernel) rfl rfl (Nat.le_of_ble_eq_true rfl) dX5_point_159 (fun H locs hP hD hS => ?_)
                have hP : va_P D vwCl [(m1, .inr (9, [.int (0 : Int32), .int (pm + (1 : Int32)), .ref m2, .ref m3, .int rm, .ref m4, .int on, .int cl, .int un, .int ze, .int lm, .ref m5, .ref m6, .ref m7])), (m2, .inl (kI, 60, .inl (upd xs pm.toNatClampNeg z8))), (m3, .inl (kI, 60, .inl (upd ys pm.toNatClampNeg z9))), (m4, .inl (kI, 24, .inl held)), (m5, .inl (kJ, 12, .inr (.inl la))), (m6, .inl (kJ, 12, .inr (.inl lb))), (m7, .inl (kJ, 12, .inr (.inl lc)))] H := hP
                have hD : va_D A [(m1, .inr (9, [.int (0 : Int32), .int (pm + (1 : Int32)), .ref m2, .ref m3, .int rm, .ref m4, .int on, .int cl, .int un, .int ze, .int lm, .ref m5, .ref m6, .ref m7])), (m2, .inl (kI, 60, .inl (upd xs pm.toNatClampNeg z8))), (m3, .inl (kI, 60, .inl (upd ys pm.toNatClampNeg z9))), (m4, .inl (kI, 24, .inl held)), (m5, .inl (kJ, 12, .inr (.inl la))), (m6, .inl (kJ, 12, .inr (.inl lb))), (m7, .inl (kJ, 12, .inr (.inl lc)))] := hD
                refine lv_aload_n hx hb dX5_point_162 rfl (lv_at hl 1 rfl) ?_
                refine va_get (D := D) (ci := 9) (v := .int (pm + (1 : Int32))) (C := RX5) (T := TX5) (N := 14) hx hb hts hinX5 hown hK hP 0 rfl rfl 1 (by decide) (hts _ fk_X5_51) (fun _ h9 => h9) rfl dX5_point_163 ?_
                refine lv_iconst (v := 1) hx hb dX5_point_166 (by decide) ?_
                refine lv_isub hx hb dX5_point_167 ?_
                have hP9 := hP
                have hD9 := hD
                have hS9 := hS
                subst ez9 ez8
                have qv : fX5_point xs ys pm vx vy vd = (pm + (1 : Int32)) - (1 : Int32) := by unfold fX5_point; rw [if_pos c1, if_neg c3, if_neg c4, if_neg c5, if_pos c6, if_neg c7]
                have q_xs : gX5_point_xs xs ys pm vx vy vd = upd xs pm.toNatClampNeg ((vx * ((12 : Int64) / vd)).toInt32) := by unfold gX5_point_xs; rw [if_pos c1, if_neg c3, if_neg c4, if_neg c5, if_pos c6, if_neg c7]
                have q_ys : gX5_point_ys xs ys pm vx vy vd = upd ys pm.toNatClampNeg ((vy * ((12 : Int64) / vd)).toInt32) := by unfold gX5_point_ys; rw [if_pos c1, if_neg c3, if_neg c4, if_neg c5, if_pos c6, if_neg c7]
                have q_pm : gX5_point_pm xs ys pm vx vy vd = pm + (1 : Int32) := by unfold gX5_point_pm; rw [if_pos c1, if_neg c3, if_neg c4, if_neg c5, if_pos c6, if_neg c7]
                rw [qv, q_xs, q_ys, q_pm]
                exact W.iret (v := (pm + (1 : Int32)) - (1 : Int32)) hx hb hr (fun t ht hW => ⟨⟨rfl, by rw [ht]; exact hP9, by rw [hAe]; exact hD9⟩, by rw [hAe]; exact hS9.F ht⟩) hS9.2.2 dX5_point_168
              · refine lv_bipush (v := (-3)) hx hb dX5_point_113 (by decide) ?_
                have hP9 := hP
                have hD9 := hD
                have hS9 := hS
                have qv : fX5_point xs ys pm vx vy vd = (-3 : Int32) := by unfold fX5_point; rw [if_pos c1, if_neg c3, if_neg c4, if_neg c5, if_pos c6, if_pos c7]
                have q_xs : gX5_point_xs xs ys pm vx vy vd = xs := by unfold gX5_point_xs; rw [if_pos c1, if_neg c3, if_neg c4, if_neg c5, if_pos c6, if_pos c7]
                have q_ys : gX5_point_ys xs ys pm vx vy vd = ys := by unfold gX5_point_ys; rw [if_pos c1, if_neg c3, if_neg c4, if_neg c5, if_pos c6, if_pos c7]
                have q_pm : gX5_point_pm xs ys pm vx vy vd = pm := by unfold gX5_point_pm; rw [if_pos c1, if_neg c3, if_neg c4, if_neg c5, if_pos c6, if_pos c7]
                rw [qv, q_xs, q_ys, q_pm]
                exact W.iret (v := (-3 : Int32)) hx hb hr (fun t ht hW => ⟨⟨rfl, by rw [ht]; exact hP9, by rw [hAe]; exact hD9⟩, by rw [hAe]; exact hS9.F ht⟩) hS9.2.2 dX5_point_115
            · refine lv_bipush (v := (-2)) hx hb dX5_point_101 (by decide) ?_
              have hP9 := hP
              have hD9 := hD
              have hS9 := hS
              have qv : fX5_point xs ys pm vx vy vd = (-2 : Int32) := by unfold fX5_point; rw [if_pos c1, if_neg c3, if_neg c4, if_neg c5, if_neg c6]
              have q_xs : gX5_point_xs xs ys pm vx vy vd = xs := by unfold gX5_point_xs; rw [if_pos c1, if_neg c3, if_neg c4, if_neg c5, if_neg c6]
              have q_ys : gX5_point_ys xs ys pm vx vy vd = ys := by unfold gX5_point_ys; rw [if_pos c1, if_neg c3, if_neg c4, if_neg c5, if_neg c6]
              have q_pm : gX5_point_pm xs ys pm vx vy vd = pm := by unfold gX5_point_pm; rw [if_pos c1, if_neg c3, if_neg c4, if_neg c5, if_neg c6]
              rw [qv, q_xs, q_ys, q_pm]
              exact W.iret (v := (-2 : Int32)) hx hb hr (fun t ht hW => ⟨⟨rfl, by rw [ht]; exact hP9, by rw [hAe]; exact hD9⟩, by rw [hAe]; exact hS9.F ht⟩) hS9.2.2 dX5_point_103
  · refine lv_lload hx hb dX5_point_12 (lv_at hl 3 rfl) ?_
    refine lv_ldc2 (v := 2) hx hb hown (hts _ kl_X5_37) dX5_point_14 ?_
    refine W.lcmp hx hb dX5_point_17 ?_
    refine lv_if_eq (tgt := 57) hx hb dX5_point_18 (by decide) (fun c10 => ?_) (fun c10 => ?_)
    · refine lv_iconst (v := 1) hx hb dX5_point_57 (by decide) ?_
      refine lv_goto (tgt := 62) hx hb dX5_point_58 (by decide) ?_
      refine lv_istore (lv' := [(7, .int (1 : Int32)), (0, .ref m1), (1, .long vx), (3, .long vy), (5, .long vd)]) hx hb dX5_point_62 hl (by decide) rfl (fun ls hl => ?_)
      refine lv_iload hx hb dX5_point_64 (lv_at hl 0 rfl) ?_
      refine lv_if_eq (tgt := 101) hx hb dX5_point_66 (by decide) (fun c11 => ?_) (fun c11 => ?_)
      · exact absurd c11 (by decide)
      · refine lv_lload_n hx hb dX5_point_69 rfl (lv_at hl 2 rfl) ?_
        refine lv_ldc2 (v := -800) hx hb hown (hts _ kl_X5_47) dX5_point_70 ?_
        refine W.lcmp hx hb dX5_point_73 ?_
        refine lv_if_lt (tgt := 101) hx hb dX5_point_74 (by decide) (fun c12 => ?_) (fun c12 => ?_)
        · refine lv_bipush (v := (-2)) hx hb dX5_point_101 (by decide) ?_
          have hP9 := hP
          have hD9 := hD
          have hS9 := hS
          have qv : fX5_point xs ys pm vx vy vd = (-2 : Int32) := by unfold fX5_point; rw [if_neg c1, if_pos c10, if_pos c12]
          have q_xs : gX5_point_xs xs ys pm vx vy vd = xs := by unfold gX5_point_xs; rw [if_neg c1, if_pos c10, if_pos c12]
          have q_ys : gX5_point_ys xs ys pm vx vy vd = ys := by unfold gX5_point_ys; rw [if_neg c1, if_pos c10, if_pos c12]
          have q_pm : gX5_point_pm xs ys pm vx vy vd = pm := by unfold gX5_point_pm; rw [if_neg c1, if_pos c10, if_pos c12]
          rw [qv, q_xs, q_ys, q_pm]
          exact W.iret (v := (-2 : Int32)) hx hb hr (fun t ht hW => ⟨⟨rfl, by rw [ht]; exact hP9, by rw [hAe]; exact hD9⟩, by rw [hAe]; exact hS9.F ht⟩) hS9.2.2 dX5_point_103
        · refine lv_lload_n hx hb dX5_point_77 rfl (lv_at hl 2 rfl) ?_
          refine lv_ldc2 (v := 800) hx hb hown (hts _ kl_X5_49) dX5_point_78 ?_
          refine W.lcmp hx hb dX5_point_81 ?_
          refine lv_if_gt (tgt := 101) hx hb dX5_point_82 (by decide) (fun c13 => ?_) (fun c13 => ?_)
          · refine lv_bipush (v := (-2)) hx hb dX5_point_101 (by decide) ?_
            have hP9 := hP
            have hD9 := hD
            have hS9 := hS
            have qv : fX5_point xs ys pm vx vy vd = (-2 : Int32) := by unfold fX5_point; rw [if_neg c1, if_pos c10, if_neg c12, if_pos c13]
            have q_xs : gX5_point_xs xs ys pm vx vy vd = xs := by unfold gX5_point_xs; rw [if_neg c1, if_pos c10, if_neg c12, if_pos c13]
            have q_ys : gX5_point_ys xs ys pm vx vy vd = ys := by unfold gX5_point_ys; rw [if_neg c1, if_pos c10, if_neg c12, if_pos c13]
            have q_pm : gX5_point_pm xs ys pm vx vy vd = pm := by unfold gX5_point_pm; rw [if_neg c1, if_pos c10, if_neg c12, if_pos c13]
            rw [qv, q_xs, q_ys, q_pm]
            exact W.iret (v := (-2 : Int32)) hx hb hr (fun t ht hW => ⟨⟨rfl, by rw [ht]; exact hP9, by rw [hAe]; exact hD9⟩, by rw [hAe]; exact hS9.F ht⟩) hS9.2.2 dX5_point_103
          · refine lv_lload_n hx hb dX5_point_85 rfl (lv_at hl 3 rfl) ?_
            refine lv_ldc2 (v := -800) hx hb hown (hts _ kl_X5_47) dX5_point_86 ?_
            refine W.lcmp hx hb dX5_point_89 ?_
            refine lv_if_lt (tgt := 101) hx hb dX5_point_90 (by decide) (fun c14 => ?_) (fun c14 => ?_)
            · refine lv_bipush (v := (-2)) hx hb dX5_point_101 (by decide) ?_
              have hP9 := hP
              have hD9 := hD
              have hS9 := hS
              have qv : fX5_point xs ys pm vx vy vd = (-2 : Int32) := by unfold fX5_point; rw [if_neg c1, if_pos c10, if_neg c12, if_neg c13, if_pos c14]
              have q_xs : gX5_point_xs xs ys pm vx vy vd = xs := by unfold gX5_point_xs; rw [if_neg c1, if_pos c10, if_neg c12, if_neg c13, if_pos c14]
              have q_ys : gX5_point_ys xs ys pm vx vy vd = ys := by unfold gX5_point_ys; rw [if_neg c1, if_pos c10, if_neg c12, if_neg c13, if_pos c14]
              have q_pm : gX5_point_pm xs ys pm vx vy vd = pm := by unfold gX5_point_pm; rw [if_neg c1, if_pos c10, if_neg c12, if_neg c13, if_pos c14]
              rw [qv, q_xs, q_ys, q_pm]
              exact W.iret (v := (-2 : Int32)) hx hb hr (fun t ht hW => ⟨⟨rfl, by rw [ht]; exact hP9, by rw [hAe]; exact hD9⟩, by rw [hAe]; exact hS9.F ht⟩) hS9.2.2 dX5_point_103
            · refine lv_lload_n hx hb dX5_point_93 rfl (lv_at hl 3 rfl) ?_
              refine lv_ldc2 (v := 800) hx hb hown (hts _ kl_X5_49) dX5_point_94 ?_
              refine W.lcmp hx hb dX5_point_97 ?_
              refine lv_if_le (tgt := 104) hx hb dX5_point_98 (by decide) (fun c15 => ?_) (fun c15 => ?_)
              · refine lv_aload_n hx hb dX5_point_104 rfl (lv_at hl 1 rfl) ?_
                refine va_get (D := D) (ci := 9) (v := .int pm) (C := RX5) (T := TX5) (N := 14) hx hb hts hinX5 hown hK hP 0 rfl rfl 1 (by decide) (hts _ fk_X5_51) (fun _ h9 => h9) rfl dX5_point_105 ?_
                refine lv_bipush (v := 60) hx hb dX5_point_108 (by decide) ?_
                refine lv_icmp_ne (tgt := 116) hx hb dX5_point_110 (by decide) (fun c16 => ?_) (fun c16 => ?_)
                · refine lv_aload_n hx hb dX5_point_116 rfl (lv_at hl 1 rfl) ?_
                  refine va_get (D := D) (ci := 9) (v := .ref m2) (C := RX5) (T := TX5) (N := 14) hx hb hts hinX5 hown hK hP 0 rfl rfl 2 (by decide) (hts _ fk_X5_13) (fun _ h9 => h9) rfl dX5_point_117 ?_
                  refine lv_aload_n hx hb dX5_point_120 rfl (lv_at hl 1 rfl) ?_
                  refine va_get (D := D) (ci := 9) (v := .int pm) (C := RX5) (T := TX5) (N := 14) hx hb hts hinX5 hown hK hP 0 rfl rfl 1 (by decide) (hts _ fk_X5_51) (fun _ h9 => h9) rfl dX5_point_121 ?_
                  refine lv_lload_n hx hb dX5_point_124 rfl (lv_at hl 2 rfl) ?_
                  refine lv_ldc2 (v := 12) hx hb hown (hts _ kl_X5_45) dX5_point_125 ?_
                  refine lv_lload hx hb dX5_point_128 (lv_at hl 4 rfl) ?_
                  refine lv_ldiv hx hb dX5_point_130 (o_dk c10 (by decide)) ?_
                  refine lv_lmul hx hb dX5_point_131 ?_
                  refine lv_l2i hx hb dX5_point_132 rfl ?_
                  refine lv_topi (fun z17 ez17 => ?_)
                  refine va_iast hx hb hK hP hD hS 1 0 rfl rfl (o_pme opm opn c16) dX5_point_133 (fun H locs hP hD hS => ?_)
                  have hP : va_P D vwCl [(m1, .inr (9, [.int (0 : Int32), .int pm, .ref m2, .ref m3, .int rm, .ref m4, .int on, .int cl, .int un, .int ze, .int lm, .ref m5, .ref m6, .ref m7])), (m2, .inl (kI, 60, .inl (upd xs pm.toNatClampNeg z17))), (m3, .inl (kI, 60, .inl ys)), (m4, .inl (kI, 24, .inl held)), (m5, .inl (kJ, 12, .inr (.inl la))), (m6, .inl (kJ, 12, .inr (.inl lb))), (m7, .inl (kJ, 12, .inr (.inl lc)))] H := hP
                  have hD : va_D A [(m1, .inr (9, [.int (0 : Int32), .int pm, .ref m2, .ref m3, .int rm, .ref m4, .int on, .int cl, .int un, .int ze, .int lm, .ref m5, .ref m6, .ref m7])), (m2, .inl (kI, 60, .inl (upd xs pm.toNatClampNeg z17))), (m3, .inl (kI, 60, .inl ys)), (m4, .inl (kI, 24, .inl held)), (m5, .inl (kJ, 12, .inr (.inl la))), (m6, .inl (kJ, 12, .inr (.inl lb))), (m7, .inl (kJ, 12, .inr (.inl lc)))] := hD
                  refine lv_aload_n hx hb dX5_point_134 rfl (lv_at hl 1 rfl) ?_
                  refine va_get (D := D) (ci := 9) (v := .ref m3) (C := RX5) (T := TX5) (N := 14) hx hb hts hinX5 hown hK hP 0 rfl rfl 3 (by decide) (hts _ fk_X5_17) (fun _ h9 => h9) rfl dX5_point_135 ?_
                  refine lv_aload_n hx hb dX5_point_138 rfl (lv_at hl 1 rfl) ?_
                  refine va_get (D := D) (ci := 9) (v := .int pm) (C := RX5) (T := TX5) (N := 14) hx hb hts hinX5 hown hK hP 0 rfl rfl 1 (by decide) (hts _ fk_X5_51) (fun _ h9 => h9) rfl dX5_point_139 ?_
                  refine lv_lload_n hx hb dX5_point_142 rfl (lv_at hl 3 rfl) ?_
                  refine lv_ldc2 (v := 12) hx hb hown (hts _ kl_X5_45) dX5_point_143 ?_
                  refine lv_lload hx hb dX5_point_146 (lv_at hl 4 rfl) ?_
                  refine lv_ldiv hx hb dX5_point_148 (o_dk c10 (by decide)) ?_
                  refine lv_lmul hx hb dX5_point_149 ?_
                  refine lv_l2i hx hb dX5_point_150 rfl ?_
                  refine lv_topi (fun z18 ez18 => ?_)
                  refine va_iast hx hb hK hP hD hS 2 0 rfl rfl (o_pme opm opn c16) dX5_point_151 (fun H locs hP hD hS => ?_)
                  have hP : va_P D vwCl [(m1, .inr (9, [.int (0 : Int32), .int pm, .ref m2, .ref m3, .int rm, .ref m4, .int on, .int cl, .int un, .int ze, .int lm, .ref m5, .ref m6, .ref m7])), (m2, .inl (kI, 60, .inl (upd xs pm.toNatClampNeg z17))), (m3, .inl (kI, 60, .inl (upd ys pm.toNatClampNeg z18))), (m4, .inl (kI, 24, .inl held)), (m5, .inl (kJ, 12, .inr (.inl la))), (m6, .inl (kJ, 12, .inr (.inl lb))), (m7, .inl (kJ, 12, .inr (.inl lc)))] H := hP
                  have hD : va_D A [(m1, .inr (9, [.int (0 : Int32), .int pm, .ref m2, .ref m3, .int rm, .ref m4, .int on, .int cl, .int un, .int ze, .int lm, .ref m5, .ref m6, .ref m7])), (m2, .inl (kI, 60, .inl (upd xs pm.toNatClampNeg z17))), (m3, .inl (kI, 60, .inl (upd ys pm.toNatClampNeg z18))), (m4, .inl (kI, 24, .inl held)), (m5, .inl (kJ, 12, .inr (.inl la))), (m6, .inl (kJ, 12, .inr (.inl lb))), (m7, .inl (kJ, 12, .inr (.inl lc)))] := hD
                  refine lv_aload_n hx hb dX5_point_152 rfl (lv_at hl 1 rfl) ?_
                  refine lv_dup hx hb dX5_point_153 rfl ?_
                  refine va_get (D := D) (ci := 9) (v := .int pm) (C := RX5) (T := TX5) (N := 14) hx hb hts hinX5 hown hK hP 0 rfl rfl 1 (by decide) (hts _ fk_X5_51) (fun _ h9 => h9) rfl dX5_point_154 ?_
                  refine lv_iconst (v := 1) hx hb dX5_point_157 (by decide) ?_
                  refine lv_iadd hx hb dX5_point_158 ?_
                  refine va_put (D := D) (ci := 9) (v := .int (pm + (1 : Int32))) (ty := .int) (C := RX5) (T := TX5) (N := 14) hx hb hts hinX5 tyX5 tyX5_ok nmX5 hown hK hP hD hS 0 rfl rfl 1 (by decide) (hts _ fk_X5_51) (fun _ h9 => h9) rfl (by decide +kernel) rfl rfl (Nat.le_of_ble_eq_true rfl) dX5_point_159 (fun H locs hP hD hS => ?_)
                  have hP : va_P D vwCl [(m1, .inr (9, [.int (0 : Int32), .int (pm + (1 : Int32)), .ref m2, .ref m3, .int rm, .ref m4, .int on, .int cl, .int un, .int ze, .int lm, .ref m5, .ref m6, .ref m7])), (m2, .inl (kI, 60, .inl (upd xs pm.toNatClampNeg z17))), (m3, .inl (kI, 60, .inl (upd ys pm.toNatClampNeg z18))), (m4, .inl (kI, 24, .inl held)), (m5, .inl (kJ, 12, .inr (.inl la))), (m6, .inl (kJ, 12, .inr (.inl lb))), (m7, .inl (kJ, 12, .inr (.inl lc)))] H := hP
                  have hD : va_D A [(m1, .inr (9, [.int (0 : Int32), .int (pm + (1 : Int32)), .ref m2, .ref m3, .int rm, .ref m4, .int on, .int cl, .int un, .int ze, .int lm, .ref m5, .ref m6, .ref m7])), (m2, .inl (kI, 60, .inl (upd xs pm.toNatClampNeg z17))), (m3, .inl (kI, 60, .inl (upd ys pm.toNatClampNeg z18))), (m4, .inl (kI, 24, .inl held)), (m5, .inl (kJ, 12, .inr (.inl la))), (m6, .inl (kJ, 12, .inr (.inl lb))), (m7, .inl (kJ, 12, .inr (.inl lc)))] := hD
                  refine lv_aload_n hx hb dX5_point_162 rfl (lv_at hl 1 rfl) ?_
                  refine va_get (D := D) (ci := 9) (v := .int (pm + (1 : Int32))) (C := RX5) (T := TX5) (N := 14) hx hb hts hinX5 hown hK hP 0 rfl rfl 1 (by decide) (hts _ fk_X5_51) (fun _ h9 => h9) rfl dX5_point_163 ?_
                  refine lv_iconst (v := 1) hx hb dX5_point_166 (by decide) ?_
                  refine lv_isub hx hb dX5_point_167 ?_
                  have hP9 := hP
                  have hD9 := hD
                  have hS9 := hS
                  subst ez18 ez17
                  have qv : fX5_point xs ys pm vx vy vd = (pm + (1 : Int32)) - (1 : Int32) := by unfold fX5_point; rw [if_neg c1, if_pos c10, if_neg c12, if_neg c13, if_neg c14, if_pos c15, if_neg c16]
                  have q_xs : gX5_point_xs xs ys pm vx vy vd = upd xs pm.toNatClampNeg ((vx * ((12 : Int64) / vd)).toInt32) := by unfold gX5_point_xs; rw [if_neg c1, if_pos c10, if_neg c12, if_neg c13, if_neg c14, if_pos c15, if_neg c16]
                  have q_ys : gX5_point_ys xs ys pm vx vy vd = upd ys pm.toNatClampNeg ((vy * ((12 : Int64) / vd)).toInt32) := by unfold gX5_point_ys; rw [if_neg c1, if_pos c10, if_neg c12, if_neg c13, if_neg c14, if_pos c15, if_neg c16]
                  have q_pm : gX5_point_pm xs ys pm vx vy vd = pm + (1 : Int32) := by unfold gX5_point_pm; rw [if_neg c1, if_pos c10, if_neg c12, if_neg c13, if_neg c14, if_pos c15, if_neg c16]
                  rw [qv, q_xs, q_ys, q_pm]
                  exact W.iret (v := (pm + (1 : Int32)) - (1 : Int32)) hx hb hr (fun t ht hW => ⟨⟨rfl, by rw [ht]; exact hP9, by rw [hAe]; exact hD9⟩, by rw [hAe]; exact hS9.F ht⟩) hS9.2.2 dX5_point_168
                · refine lv_bipush (v := (-3)) hx hb dX5_point_113 (by decide) ?_
                  have hP9 := hP
                  have hD9 := hD
                  have hS9 := hS
                  have qv : fX5_point xs ys pm vx vy vd = (-3 : Int32) := by unfold fX5_point; rw [if_neg c1, if_pos c10, if_neg c12, if_neg c13, if_neg c14, if_pos c15, if_pos c16]
                  have q_xs : gX5_point_xs xs ys pm vx vy vd = xs := by unfold gX5_point_xs; rw [if_neg c1, if_pos c10, if_neg c12, if_neg c13, if_neg c14, if_pos c15, if_pos c16]
                  have q_ys : gX5_point_ys xs ys pm vx vy vd = ys := by unfold gX5_point_ys; rw [if_neg c1, if_pos c10, if_neg c12, if_neg c13, if_neg c14, if_pos c15, if_pos c16]
                  have q_pm : gX5_point_pm xs ys pm vx vy vd = pm := by unfold gX5_point_pm; rw [if_neg c1, if_pos c10, if_neg c12, if_neg c13, if_neg c14, if_pos c15, if_pos c16]
                  rw [qv, q_xs, q_ys, q_pm]
                  exact W.iret (v := (-3 : Int32)) hx hb hr (fun t ht hW => ⟨⟨rfl, by rw [ht]; exact hP9, by rw [hAe]; exact hD9⟩, by rw [hAe]; exact hS9.F ht⟩) hS9.2.2 dX5_point_115
              · refine lv_bipush (v := (-2)) hx hb dX5_point_101 (by decide) ?_
                have hP9 := hP
                have hD9 := hD
                have hS9 := hS
                have qv : fX5_point xs ys pm vx vy vd = (-2 : Int32) := by unfold fX5_point; rw [if_neg c1, if_pos c10, if_neg c12, if_neg c13, if_neg c14, if_neg c15]
                have q_xs : gX5_point_xs xs ys pm vx vy vd = xs := by unfold gX5_point_xs; rw [if_neg c1, if_pos c10, if_neg c12, if_neg c13, if_neg c14, if_neg c15]
                have q_ys : gX5_point_ys xs ys pm vx vy vd = ys := by unfold gX5_point_ys; rw [if_neg c1, if_pos c10, if_neg c12, if_neg c13, if_neg c14, if_neg c15]
                have q_pm : gX5_point_pm xs ys pm vx vy vd = pm := by unfold gX5_point_pm; rw [if_neg c1, if_pos c10, if_neg c12, if_neg c13, if_neg c14, if_neg c15]
                rw [qv, q_xs, q_ys, q_pm]
                exact W.iret (v := (-2 : Int32)) hx hb hr (fun t ht hW => ⟨⟨rfl, by rw [ht]; exact hP9, by rw [hAe]; exact hD9⟩, by rw [hAe]; exact hS9.F ht⟩) hS9.2.2 dX5_point_103
    · refine lv_lload hx hb dX5_point_21 (lv_at hl 3 rfl) ?_
      refine lv_ldc2 (v := 3) hx hb hown (hts _ kl_X5_39) dX5_point_23 ?_
      refine W.lcmp hx hb dX5_point_26 ?_
      refine lv_if_eq (tgt := 57) hx hb dX5_point_27 (by decide) (fun c19 => ?_) (fun c19 => ?_)
      · refine lv_iconst (v := 1) hx hb dX5_point_57 (by decide) ?_
        refine lv_goto (tgt := 62) hx hb dX5_point_58 (by decide) ?_
        refine lv_istore (lv' := [(7, .int (1 : Int32)), (0, .ref m1), (1, .long vx), (3, .long vy), (5, .long vd)]) hx hb dX5_point_62 hl (by decide) rfl (fun ls hl => ?_)
        refine lv_iload hx hb dX5_point_64 (lv_at hl 0 rfl) ?_
        refine lv_if_eq (tgt := 101) hx hb dX5_point_66 (by decide) (fun c20 => ?_) (fun c20 => ?_)
        · exact absurd c20 (by decide)
        · refine lv_lload_n hx hb dX5_point_69 rfl (lv_at hl 2 rfl) ?_
          refine lv_ldc2 (v := -800) hx hb hown (hts _ kl_X5_47) dX5_point_70 ?_
          refine W.lcmp hx hb dX5_point_73 ?_
          refine lv_if_lt (tgt := 101) hx hb dX5_point_74 (by decide) (fun c21 => ?_) (fun c21 => ?_)
          · refine lv_bipush (v := (-2)) hx hb dX5_point_101 (by decide) ?_
            have hP9 := hP
            have hD9 := hD
            have hS9 := hS
            have qv : fX5_point xs ys pm vx vy vd = (-2 : Int32) := by unfold fX5_point; rw [if_neg c1, if_neg c10, if_pos c19, if_pos c21]
            have q_xs : gX5_point_xs xs ys pm vx vy vd = xs := by unfold gX5_point_xs; rw [if_neg c1, if_neg c10, if_pos c19, if_pos c21]
            have q_ys : gX5_point_ys xs ys pm vx vy vd = ys := by unfold gX5_point_ys; rw [if_neg c1, if_neg c10, if_pos c19, if_pos c21]
            have q_pm : gX5_point_pm xs ys pm vx vy vd = pm := by unfold gX5_point_pm; rw [if_neg c1, if_neg c10, if_pos c19, if_pos c21]
            rw [qv, q_xs, q_ys, q_pm]
            exact W.iret (v := (-2 : Int32)) hx hb hr (fun t ht hW => ⟨⟨rfl, by rw [ht]; exact hP9, by rw [hAe]; exact hD9⟩, by rw [hAe]; exact hS9.F ht⟩) hS9.2.2 dX5_point_103
          · refine lv_lload_n hx hb dX5_point_77 rfl (lv_at hl 2 rfl) ?_
            refine lv_ldc2 (v := 800) hx hb hown (hts _ kl_X5_49) dX5_point_78 ?_
            refine W.lcmp hx hb dX5_point_81 ?_
            refine lv_if_gt (tgt := 101) hx hb dX5_point_82 (by decide) (fun c22 => ?_) (fun c22 => ?_)
            · refine lv_bipush (v := (-2)) hx hb dX5_point_101 (by decide) ?_
              have hP9 := hP
              have hD9 := hD
              have hS9 := hS
              have qv : fX5_point xs ys pm vx vy vd = (-2 : Int32) := by unfold fX5_point; rw [if_neg c1, if_neg c10, if_pos c19, if_neg c21, if_pos c22]
              have q_xs : gX5_point_xs xs ys pm vx vy vd = xs := by unfold gX5_point_xs; rw [if_neg c1, if_neg c10, if_pos c19, if_neg c21, if_pos c22]
              have q_ys : gX5_point_ys xs ys pm vx vy vd = ys := by unfold gX5_point_ys; rw [if_neg c1, if_neg c10, if_pos c19, if_neg c21, if_pos c22]
              have q_pm : gX5_point_pm xs ys pm vx vy vd = pm := by unfold gX5_point_pm; rw [if_neg c1, if_neg c10, if_pos c19, if_neg c21, if_pos c22]
              rw [qv, q_xs, q_ys, q_pm]
              exact W.iret (v := (-2 : Int32)) hx hb hr (fun t ht hW => ⟨⟨rfl, by rw [ht]; exact hP9, by rw [hAe]; exact hD9⟩, by rw [hAe]; exact hS9.F ht⟩) hS9.2.2 dX5_point_103
            · refine lv_lload_n hx hb dX5_point_85 rfl (lv_at hl 3 rfl) ?_
              refine lv_ldc2 (v := -800) hx hb hown (hts _ kl_X5_47) dX5_point_86 ?_
              refine W.lcmp hx hb dX5_point_89 ?_
              refine lv_if_lt (tgt := 101) hx hb dX5_point_90 (by decide) (fun c23 => ?_) (fun c23 => ?_)
              · refine lv_bipush (v := (-2)) hx hb dX5_point_101 (by decide) ?_
                have hP9 := hP
                have hD9 := hD
                have hS9 := hS
                have qv : fX5_point xs ys pm vx vy vd = (-2 : Int32) := by unfold fX5_point; rw [if_neg c1, if_neg c10, if_pos c19, if_neg c21, if_neg c22, if_pos c23]
                have q_xs : gX5_point_xs xs ys pm vx vy vd = xs := by unfold gX5_point_xs; rw [if_neg c1, if_neg c10, if_pos c19, if_neg c21, if_neg c22, if_pos c23]
                have q_ys : gX5_point_ys xs ys pm vx vy vd = ys := by unfold gX5_point_ys; rw [if_neg c1, if_neg c10, if_pos c19, if_neg c21, if_neg c22, if_pos c23]
                have q_pm : gX5_point_pm xs ys pm vx vy vd = pm := by unfold gX5_point_pm; rw [if_neg c1, if_neg c10, if_pos c19, if_neg c21, if_neg c22, if_pos c23]
                rw [qv, q_xs, q_ys, q_pm]
                exact W.iret (v := (-2 : Int32)) hx hb hr (fun t ht hW => ⟨⟨rfl, by rw [ht]; exact hP9, by rw [hAe]; exact hD9⟩, by rw [hAe]; exact hS9.F ht⟩) hS9.2.2 dX5_point_103
              · refine lv_lload_n hx hb dX5_point_93 rfl (lv_at hl 3 rfl) ?_
                refine lv_ldc2 (v := 800) hx hb hown (hts _ kl_X5_49) dX5_point_94 ?_
                refine W.lcmp hx hb dX5_point_97 ?_
                refine lv_if_le (tgt := 104) hx hb dX5_point_98 (by decide) (fun c24 => ?_) (fun c24 => ?_)
                · refine lv_aload_n hx hb dX5_point_104 rfl (lv_at hl 1 rfl) ?_
                  refine va_get (D := D) (ci := 9) (v := .int pm) (C := RX5) (T := TX5) (N := 14) hx hb hts hinX5 hown hK hP 0 rfl rfl 1 (by decide) (hts _ fk_X5_51) (fun _ h9 => h9) rfl dX5_point_105 ?_
                  refine lv_bipush (v := 60) hx hb dX5_point_108 (by decide) ?_
                  refine lv_icmp_ne (tgt := 116) hx hb dX5_point_110 (by decide) (fun c25 => ?_) (fun c25 => ?_)
                  · refine lv_aload_n hx hb dX5_point_116 rfl (lv_at hl 1 rfl) ?_
                    refine va_get (D := D) (ci := 9) (v := .ref m2) (C := RX5) (T := TX5) (N := 14) hx hb hts hinX5 hown hK hP 0 rfl rfl 2 (by decide) (hts _ fk_X5_13) (fun _ h9 => h9) rfl dX5_point_117 ?_
                    refine lv_aload_n hx hb dX5_point_120 rfl (lv_at hl 1 rfl) ?_
                    refine va_get (D := D) (ci := 9) (v := .int pm) (C := RX5) (T := TX5) (N := 14) hx hb hts hinX5 hown hK hP 0 rfl rfl 1 (by decide) (hts _ fk_X5_51) (fun _ h9 => h9) rfl dX5_point_121 ?_
                    refine lv_lload_n hx hb dX5_point_124 rfl (lv_at hl 2 rfl) ?_
                    refine lv_ldc2 (v := 12) hx hb hown (hts _ kl_X5_45) dX5_point_125 ?_
                    refine lv_lload hx hb dX5_point_128 (lv_at hl 4 rfl) ?_
                    refine lv_ldiv hx hb dX5_point_130 (o_dk c19 (by decide)) ?_
                    refine lv_lmul hx hb dX5_point_131 ?_
                    refine lv_l2i hx hb dX5_point_132 rfl ?_
                    refine lv_topi (fun z26 ez26 => ?_)
                    refine va_iast hx hb hK hP hD hS 1 0 rfl rfl (o_pme opm opn c25) dX5_point_133 (fun H locs hP hD hS => ?_)
                    have hP : va_P D vwCl [(m1, .inr (9, [.int (0 : Int32), .int pm, .ref m2, .ref m3, .int rm, .ref m4, .int on, .int cl, .int un, .int ze, .int lm, .ref m5, .ref m6, .ref m7])), (m2, .inl (kI, 60, .inl (upd xs pm.toNatClampNeg z26))), (m3, .inl (kI, 60, .inl ys)), (m4, .inl (kI, 24, .inl held)), (m5, .inl (kJ, 12, .inr (.inl la))), (m6, .inl (kJ, 12, .inr (.inl lb))), (m7, .inl (kJ, 12, .inr (.inl lc)))] H := hP
                    have hD : va_D A [(m1, .inr (9, [.int (0 : Int32), .int pm, .ref m2, .ref m3, .int rm, .ref m4, .int on, .int cl, .int un, .int ze, .int lm, .ref m5, .ref m6, .ref m7])), (m2, .inl (kI, 60, .inl (upd xs pm.toNatClampNeg z26))), (m3, .inl (kI, 60, .inl ys)), (m4, .inl (kI, 24, .inl held)), (m5, .inl (kJ, 12, .inr (.inl la))), (m6, .inl (kJ, 12, .inr (.inl lb))), (m7, .inl (kJ, 12, .inr (.inl lc)))] := hD
                    refine lv_aload_n hx hb dX5_point_134 rfl (lv_at hl 1 rfl) ?_
                    refine va_get (D := D) (ci := 9) (v := .ref m3) (C := RX5) (T := TX5) (N := 14) hx hb hts hinX5 hown hK hP 0 rfl rfl 3 (by decide) (hts _ fk_X5_17) (fun _ h9 => h9) rfl dX5_point_135 ?_
                    refine lv_aload_n hx hb dX5_point_138 rfl (lv_at hl 1 rfl) ?_
                    refine va_get (D := D) (ci := 9) (v := .int pm) (C := RX5) (T := TX5) (N := 14) hx hb hts hinX5 hown hK hP 0 rfl rfl 1 (by decide) (hts _ fk_X5_51) (fun _ h9 => h9) rfl dX5_point_139 ?_
                    refine lv_lload_n hx hb dX5_point_142 rfl (lv_at hl 3 rfl) ?_
                    refine lv_ldc2 (v := 12) hx hb hown (hts _ kl_X5_45) dX5_point_143 ?_
                    refine lv_lload hx hb dX5_point_146 (lv_at hl 4 rfl) ?_
                    refine lv_ldiv hx hb dX5_point_148 (o_dk c19 (by decide)) ?_
                    refine lv_lmul hx hb dX5_point_149 ?_
                    refine lv_l2i hx hb dX5_point_150 rfl ?_
                    refine lv_topi (fun z27 ez27 => ?_)
                    refine va_iast hx hb hK hP hD hS 2 0 rfl rfl (o_pme opm opn c25) dX5_point_151 (fun H locs hP hD hS => ?_)
                    have hP : va_P D vwCl [(m1, .inr (9, [.int (0 : Int32), .int pm, .ref m2, .ref m3, .int rm, .ref m4, .int on, .int cl, .int un, .int ze, .int lm, .ref m5, .ref m6, .ref m7])), (m2, .inl (kI, 60, .inl (upd xs pm.toNatClampNeg z26))), (m3, .inl (kI, 60, .inl (upd ys pm.toNatClampNeg z27))), (m4, .inl (kI, 24, .inl held)), (m5, .inl (kJ, 12, .inr (.inl la))), (m6, .inl (kJ, 12, .inr (.inl lb))), (m7, .inl (kJ, 12, .inr (.inl lc)))] H := hP
                    have hD : va_D A [(m1, .inr (9, [.int (0 : Int32), .int pm, .ref m2, .ref m3, .int rm, .ref m4, .int on, .int cl, .int un, .int ze, .int lm, .ref m5, .ref m6, .ref m7])), (m2, .inl (kI, 60, .inl (upd xs pm.toNatClampNeg z26))), (m3, .inl (kI, 60, .inl (upd ys pm.toNatClampNeg z27))), (m4, .inl (kI, 24, .inl held)), (m5, .inl (kJ, 12, .inr (.inl la))), (m6, .inl (kJ, 12, .inr (.inl lb))), (m7, .inl (kJ, 12, .inr (.inl lc)))] := hD
                    refine lv_aload_n hx hb dX5_point_152 rfl (lv_at hl 1 rfl) ?_
                    refine lv_dup hx hb dX5_point_153 rfl ?_
                    refine va_get (D := D) (ci := 9) (v := .int pm) (C := RX5) (T := TX5) (N := 14) hx hb hts hinX5 hown hK hP 0 rfl rfl 1 (by decide) (hts _ fk_X5_51) (fun _ h9 => h9) rfl dX5_point_154 ?_
                    refine lv_iconst (v := 1) hx hb dX5_point_157 (by decide) ?_
                    refine lv_iadd hx hb dX5_point_158 ?_
                    refine va_put (D := D) (ci := 9) (v := .int (pm + (1 : Int32))) (ty := .int) (C := RX5) (T := TX5) (N := 14) hx hb hts hinX5 tyX5 tyX5_ok nmX5 hown hK hP hD hS 0 rfl rfl 1 (by decide) (hts _ fk_X5_51) (fun _ h9 => h9) rfl (by decide +kernel) rfl rfl (Nat.le_of_ble_eq_true rfl) dX5_point_159 (fun H locs hP hD hS => ?_)
                    have hP : va_P D vwCl [(m1, .inr (9, [.int (0 : Int32), .int (pm + (1 : Int32)), .ref m2, .ref m3, .int rm, .ref m4, .int on, .int cl, .int un, .int ze, .int lm, .ref m5, .ref m6, .ref m7])), (m2, .inl (kI, 60, .inl (upd xs pm.toNatClampNeg z26))), (m3, .inl (kI, 60, .inl (upd ys pm.toNatClampNeg z27))), (m4, .inl (kI, 24, .inl held)), (m5, .inl (kJ, 12, .inr (.inl la))), (m6, .inl (kJ, 12, .inr (.inl lb))), (m7, .inl (kJ, 12, .inr (.inl lc)))] H := hP
                    have hD : va_D A [(m1, .inr (9, [.int (0 : Int32), .int (pm + (1 : Int32)), .ref m2, .ref m3, .int rm, .ref m4, .int on, .int cl, .int un, .int ze, .int lm, .ref m5, .ref m6, .ref m7])), (m2, .inl (kI, 60, .inl (upd xs pm.toNatClampNeg z26))), (m3, .inl (kI, 60, .inl (upd ys pm.toNatClampNeg z27))), (m4, .inl (kI, 24, .inl held)), (m5, .inl (kJ, 12, .inr (.inl la))), (m6, .inl (kJ, 12, .inr (.inl lb))), (m7, .inl (kJ, 12, .inr (.inl lc)))] := hD
                    refine lv_aload_n hx hb dX5_point_162 rfl (lv_at hl 1 rfl) ?_
                    refine va_get (D := D) (ci := 9) (v := .int (pm + (1 : Int32))) (C := RX5) (T := TX5) (N := 14) hx hb hts hinX5 hown hK hP 0 rfl rfl 1 (by decide) (hts _ fk_X5_51) (fun _ h9 => h9) rfl dX5_point_163 ?_
                    refine lv_iconst (v := 1) hx hb dX5_point_166 (by decide) ?_
                    refine lv_isub hx hb dX5_point_167 ?_
                    have hP9 := hP
                    have hD9 := hD
                    have hS9 := hS
                    subst ez27 ez26
                    have qv : fX5_point xs ys pm vx vy vd = (pm + (1 : Int32)) - (1 : Int32) := by unfold fX5_point; rw [if_neg c1, if_neg c10, if_pos c19, if_neg c21, if_neg c22, if_neg c23, if_pos c24, if_neg c25]
                    have q_xs : gX5_point_xs xs ys pm vx vy vd = upd xs pm.toNatClampNeg ((vx * ((12 : Int64) / vd)).toInt32) := by unfold gX5_point_xs; rw [if_neg c1, if_neg c10, if_pos c19, if_neg c21, if_neg c22, if_neg c23, if_pos c24, if_neg c25]
                    have q_ys : gX5_point_ys xs ys pm vx vy vd = upd ys pm.toNatClampNeg ((vy * ((12 : Int64) / vd)).toInt32) := by unfold gX5_point_ys; rw [if_neg c1, if_neg c10, if_pos c19, if_neg c21, if_neg c22, if_neg c23, if_pos c24, if_neg c25]
                    have q_pm : gX5_point_pm xs ys pm vx vy vd = pm + (1 : Int32) := by unfold gX5_point_pm; rw [if_neg c1, if_neg c10, if_pos c19, if_neg c21, if_neg c22, if_neg c23, if_pos c24, if_neg c25]
                    rw [qv, q_xs, q_ys, q_pm]
                    exact W.iret (v := (pm + (1 : Int32)) - (1 : Int32)) hx hb hr (fun t ht hW => ⟨⟨rfl, by rw [ht]; exact hP9, by rw [hAe]; exact hD9⟩, by rw [hAe]; exact hS9.F ht⟩) hS9.2.2 dX5_point_168
                  · refine lv_bipush (v := (-3)) hx hb dX5_point_113 (by decide) ?_
                    have hP9 := hP
                    have hD9 := hD
                    have hS9 := hS
                    have qv : fX5_point xs ys pm vx vy vd = (-3 : Int32) := by unfold fX5_point; rw [if_neg c1, if_neg c10, if_pos c19, if_neg c21, if_neg c22, if_neg c23, if_pos c24, if_pos c25]
                    have q_xs : gX5_point_xs xs ys pm vx vy vd = xs := by unfold gX5_point_xs; rw [if_neg c1, if_neg c10, if_pos c19, if_neg c21, if_neg c22, if_neg c23, if_pos c24, if_pos c25]
                    have q_ys : gX5_point_ys xs ys pm vx vy vd = ys := by unfold gX5_point_ys; rw [if_neg c1, if_neg c10, if_pos c19, if_neg c21, if_neg c22, if_neg c23, if_pos c24, if_pos c25]
                    have q_pm : gX5_point_pm xs ys pm vx vy vd = pm := by unfold gX5_point_pm; rw [if_neg c1, if_neg c10, if_pos c19, if_neg c21, if_neg c22, if_neg c23, if_pos c24, if_pos c25]
                    rw [qv, q_xs, q_ys, q_pm]
                    exact W.iret (v := (-3 : Int32)) hx hb hr (fun t ht hW => ⟨⟨rfl, by rw [ht]; exact hP9, by rw [hAe]; exact hD9⟩, by rw [hAe]; exact hS9.F ht⟩) hS9.2.2 dX5_point_115
                · refine lv_bipush (v := (-2)) hx hb dX5_point_101 (by decide) ?_
                  have hP9 := hP
                  have hD9 := hD
                  have hS9 := hS
                  have qv : fX5_point xs ys pm vx vy vd = (-2 : Int32) := by unfold fX5_point; rw [if_neg c1, if_neg c10, if_pos c19, if_neg c21, if_neg c22, if_neg c23, if_neg c24]
                  have q_xs : gX5_point_xs xs ys pm vx vy vd = xs := by unfold gX5_point_xs; rw [if_neg c1, if_neg c10, if_pos c19, if_neg c21, if_neg c22, if_neg c23, if_neg c24]
                  have q_ys : gX5_point_ys xs ys pm vx vy vd = ys := by unfold gX5_point_ys; rw [if_neg c1, if_neg c10, if_pos c19, if_neg c21, if_neg c22, if_neg c23, if_neg c24]
                  have q_pm : gX5_point_pm xs ys pm vx vy vd = pm := by unfold gX5_point_pm; rw [if_neg c1, if_neg c10, if_pos c19, if_neg c21, if_neg c22, if_neg c23, if_neg c24]
                  rw [qv, q_xs, q_ys, q_pm]
                  exact W.iret (v := (-2 : Int32)) hx hb hr (fun t ht hW => ⟨⟨rfl, by rw [ht]; exact hP9, by rw [hAe]; exact hD9⟩, by rw [hAe]; exact hS9.F ht⟩) hS9.2.2 dX5_point_103
      · refine lv_lload hx hb dX5_point_30 (lv_at hl 3 rfl) ?_
        refine lv_ldc2 (v := 4) hx hb hown (hts _ kl_X5_41) dX5_point_32 ?_
        refine W.lcmp hx hb dX5_point_35 ?_
        refine lv_if_eq (tgt := 57) hx hb dX5_point_36 (by decide) (fun c28 => ?_) (fun c28 => ?_)
        · refine lv_iconst (v := 1) hx hb dX5_point_57 (by decide) ?_
          refine lv_goto (tgt := 62) hx hb dX5_point_58 (by decide) ?_
          refine lv_istore (lv' := [(7, .int (1 : Int32)), (0, .ref m1), (1, .long vx), (3, .long vy), (5, .long vd)]) hx hb dX5_point_62 hl (by decide) rfl (fun ls hl => ?_)
          refine lv_iload hx hb dX5_point_64 (lv_at hl 0 rfl) ?_
          refine lv_if_eq (tgt := 101) hx hb dX5_point_66 (by decide) (fun c29 => ?_) (fun c29 => ?_)
          · exact absurd c29 (by decide)
          · refine lv_lload_n hx hb dX5_point_69 rfl (lv_at hl 2 rfl) ?_
            refine lv_ldc2 (v := -800) hx hb hown (hts _ kl_X5_47) dX5_point_70 ?_
            refine W.lcmp hx hb dX5_point_73 ?_
            refine lv_if_lt (tgt := 101) hx hb dX5_point_74 (by decide) (fun c30 => ?_) (fun c30 => ?_)
            · refine lv_bipush (v := (-2)) hx hb dX5_point_101 (by decide) ?_
              have hP9 := hP
              have hD9 := hD
              have hS9 := hS
              have qv : fX5_point xs ys pm vx vy vd = (-2 : Int32) := by unfold fX5_point; rw [if_neg c1, if_neg c10, if_neg c19, if_pos c28, if_pos c30]
              have q_xs : gX5_point_xs xs ys pm vx vy vd = xs := by unfold gX5_point_xs; rw [if_neg c1, if_neg c10, if_neg c19, if_pos c28, if_pos c30]
              have q_ys : gX5_point_ys xs ys pm vx vy vd = ys := by unfold gX5_point_ys; rw [if_neg c1, if_neg c10, if_neg c19, if_pos c28, if_pos c30]
              have q_pm : gX5_point_pm xs ys pm vx vy vd = pm := by unfold gX5_point_pm; rw [if_neg c1, if_neg c10, if_neg c19, if_pos c28, if_pos c30]
              rw [qv, q_xs, q_ys, q_pm]
              exact W.iret (v := (-2 : Int32)) hx hb hr (fun t ht hW => ⟨⟨rfl, by rw [ht]; exact hP9, by rw [hAe]; exact hD9⟩, by rw [hAe]; exact hS9.F ht⟩) hS9.2.2 dX5_point_103
            · refine lv_lload_n hx hb dX5_point_77 rfl (lv_at hl 2 rfl) ?_
              refine lv_ldc2 (v := 800) hx hb hown (hts _ kl_X5_49) dX5_point_78 ?_
              refine W.lcmp hx hb dX5_point_81 ?_
              refine lv_if_gt (tgt := 101) hx hb dX5_point_82 (by decide) (fun c31 => ?_) (fun c31 => ?_)
              · refine lv_bipush (v := (-2)) hx hb dX5_point_101 (by decide) ?_
                have hP9 := hP
                have hD9 := hD
                have hS9 := hS
                have qv : fX5_point xs ys pm vx vy vd = (-2 : Int32) := by unfold fX5_point; rw [if_neg c1, if_neg c10, if_neg c19, if_pos c28, if_neg c30, if_pos c31]
                have q_xs : gX5_point_xs xs ys pm vx vy vd = xs := by unfold gX5_point_xs; rw [if_neg c1, if_neg c10, if_neg c19, if_pos c28, if_neg c30, if_pos c31]
                have q_ys : gX5_point_ys xs ys pm vx vy vd = ys := by unfold gX5_point_ys; rw [if_neg c1, if_neg c10, if_neg c19, if_pos c28, if_neg c30, if_pos c31]
                have q_pm : gX5_point_pm xs ys pm vx vy vd = pm := by unfold gX5_point_pm; rw [if_neg c1, if_neg c10, if_neg c19, if_pos c28, if_neg c30, if_pos c31]
                rw [qv, q_xs, q_ys, q_pm]
                exact W.iret (v := (-2 : Int32)) hx hb hr (fun t ht hW => ⟨⟨rfl, by rw [ht]; exact hP9, by rw [hAe]; exact hD9⟩, by rw [hAe]; exact hS9.F ht⟩) hS9.2.2 dX5_point_103
              · refine lv_lload_n hx hb dX5_point_85 rfl (lv_at hl 3 rfl) ?_
                refine lv_ldc2 (v := -800) hx hb hown (hts _ kl_X5_47) dX5_point_86 ?_
                refine W.lcmp hx hb dX5_point_89 ?_
                refine lv_if_lt (tgt := 101) hx hb dX5_point_90 (by decide) (fun c32 => ?_) (fun c32 => ?_)
                · refine lv_bipush (v := (-2)) hx hb dX5_point_101 (by decide) ?_
                  have hP9 := hP
                  have hD9 := hD
                  have hS9 := hS
                  have qv : fX5_point xs ys pm vx vy vd = (-2 : Int32) := by unfold fX5_point; rw [if_neg c1, if_neg c10, if_neg c19, if_pos c28, if_neg c30, if_neg c31, if_pos c32]
                  have q_xs : gX5_point_xs xs ys pm vx vy vd = xs := by unfold gX5_point_xs; rw [if_neg c1, if_neg c10, if_neg c19, if_pos c28, if_neg c30, if_neg c31, if_pos c32]
                  have q_ys : gX5_point_ys xs ys pm vx vy vd = ys := by unfold gX5_point_ys; rw [if_neg c1, if_neg c10, if_neg c19, if_pos c28, if_neg c30, if_neg c31, if_pos c32]
                  have q_pm : gX5_point_pm xs ys pm vx vy vd = pm := by unfold gX5_point_pm; rw [if_neg c1, if_neg c10, if_neg c19, if_pos c28, if_neg c30, if_neg c31, if_pos c32]
                  rw [qv, q_xs, q_ys, q_pm]
                  exact W.iret (v := (-2 : Int32)) hx hb hr (fun t ht hW => ⟨⟨rfl, by rw [ht]; exact hP9, by rw [hAe]; exact hD9⟩, by rw [hAe]; exact hS9.F ht⟩) hS9.2.2 dX5_point_103
                · refine lv_lload_n hx hb dX5_point_93 rfl (lv_at hl 3 rfl) ?_
                  refine lv_ldc2 (v := 800) hx hb hown (hts _ kl_X5_49) dX5_point_94 ?_
                  refine W.lcmp hx hb dX5_point_97 ?_
                  refine lv_if_le (tgt := 104) hx hb dX5_point_98 (by decide) (fun c33 => ?_) (fun c33 => ?_)
                  · refine lv_aload_n hx hb dX5_point_104 rfl (lv_at hl 1 rfl) ?_
                    refine va_get (D := D) (ci := 9) (v := .int pm) (C := RX5) (T := TX5) (N := 14) hx hb hts hinX5 hown hK hP 0 rfl rfl 1 (by decide) (hts _ fk_X5_51) (fun _ h9 => h9) rfl dX5_point_105 ?_
                    refine lv_bipush (v := 60) hx hb dX5_point_108 (by decide) ?_
                    refine lv_icmp_ne (tgt := 116) hx hb dX5_point_110 (by decide) (fun c34 => ?_) (fun c34 => ?_)
                    · refine lv_aload_n hx hb dX5_point_116 rfl (lv_at hl 1 rfl) ?_
                      refine va_get (D := D) (ci := 9) (v := .ref m2) (C := RX5) (T := TX5) (N := 14) hx hb hts hinX5 hown hK hP 0 rfl rfl 2 (by decide) (hts _ fk_X5_13) (fun _ h9 => h9) rfl dX5_point_117 ?_
                      refine lv_aload_n hx hb dX5_point_120 rfl (lv_at hl 1 rfl) ?_
                      refine va_get (D := D) (ci := 9) (v := .int pm) (C := RX5) (T := TX5) (N := 14) hx hb hts hinX5 hown hK hP 0 rfl rfl 1 (by decide) (hts _ fk_X5_51) (fun _ h9 => h9) rfl dX5_point_121 ?_
                      refine lv_lload_n hx hb dX5_point_124 rfl (lv_at hl 2 rfl) ?_
                      refine lv_ldc2 (v := 12) hx hb hown (hts _ kl_X5_45) dX5_point_125 ?_
                      refine lv_lload hx hb dX5_point_128 (lv_at hl 4 rfl) ?_
                      refine lv_ldiv hx hb dX5_point_130 (o_dk c28 (by decide)) ?_
                      refine lv_lmul hx hb dX5_point_131 ?_
                      refine lv_l2i hx hb dX5_point_132 rfl ?_
                      refine lv_topi (fun z35 ez35 => ?_)
                      refine va_iast hx hb hK hP hD hS 1 0 rfl rfl (o_pme opm opn c34) dX5_point_133 (fun H locs hP hD hS => ?_)
                      have hP : va_P D vwCl [(m1, .inr (9, [.int (0 : Int32), .int pm, .ref m2, .ref m3, .int rm, .ref m4, .int on, .int cl, .int un, .int ze, .int lm, .ref m5, .ref m6, .ref m7])), (m2, .inl (kI, 60, .inl (upd xs pm.toNatClampNeg z35))), (m3, .inl (kI, 60, .inl ys)), (m4, .inl (kI, 24, .inl held)), (m5, .inl (kJ, 12, .inr (.inl la))), (m6, .inl (kJ, 12, .inr (.inl lb))), (m7, .inl (kJ, 12, .inr (.inl lc)))] H := hP
                      have hD : va_D A [(m1, .inr (9, [.int (0 : Int32), .int pm, .ref m2, .ref m3, .int rm, .ref m4, .int on, .int cl, .int un, .int ze, .int lm, .ref m5, .ref m6, .ref m7])), (m2, .inl (kI, 60, .inl (upd xs pm.toNatClampNeg z35))), (m3, .inl (kI, 60, .inl ys)), (m4, .inl (kI, 24, .inl held)), (m5, .inl (kJ, 12, .inr (.inl la))), (m6, .inl (kJ, 12, .inr (.inl lb))), (m7, .inl (kJ, 12, .inr (.inl lc)))] := hD
                      refine lv_aload_n hx hb dX5_point_134 rfl (lv_at hl 1 rfl) ?_
                      refine va_get (D := D) (ci := 9) (v := .ref m3) (C := RX5) (T := TX5) (N := 14) hx hb hts hinX5 hown hK hP 0 rfl rfl 3 (by decide) (hts _ fk_X5_17) (fun _ h9 => h9) rfl dX5_point_135 ?_
                      refine lv_aload_n hx hb dX5_point_138 rfl (lv_at hl 1 rfl) ?_
                      refine va_get (D := D) (ci := 9) (v := .int pm) (C := RX5) (T := TX5) (N := 14) hx hb hts hinX5 hown hK hP 0 rfl rfl 1 (by decide) (hts _ fk_X5_51) (fun _ h9 => h9) rfl dX5_point_139 ?_
                      refine lv_lload_n hx hb dX5_point_142 rfl (lv_at hl 3 rfl) ?_
                      refine lv_ldc2 (v := 12) hx hb hown (hts _ kl_X5_45) dX5_point_143 ?_
                      refine lv_lload hx hb dX5_point_146 (lv_at hl 4 rfl) ?_
                      refine lv_ldiv hx hb dX5_point_148 (o_dk c28 (by decide)) ?_
                      refine lv_lmul hx hb dX5_point_149 ?_
                      refine lv_l2i hx hb dX5_point_150 rfl ?_
                      refine lv_topi (fun z36 ez36 => ?_)
                      refine va_iast hx hb hK hP hD hS 2 0 rfl rfl (o_pme opm opn c34) dX5_point_151 (fun H locs hP hD hS => ?_)
                      have hP : va_P D vwCl [(m1, .inr (9, [.int (0 : Int32), .int pm, .ref m2, .ref m3, .int rm, .ref m4, .int on, .int cl, .int un, .int ze, .int lm, .ref m5, .ref m6, .ref m7])), (m2, .inl (kI, 60, .inl (upd xs pm.toNatClampNeg z35))), (m3, .inl (kI, 60, .inl (upd ys pm.toNatClampNeg z36))), (m4, .inl (kI, 24, .inl held)), (m5, .inl (kJ, 12, .inr (.inl la))), (m6, .inl (kJ, 12, .inr (.inl lb))), (m7, .inl (kJ, 12, .inr (.inl lc)))] H := hP
                      have hD : va_D A [(m1, .inr (9, [.int (0 : Int32), .int pm, .ref m2, .ref m3, .int rm, .ref m4, .int on, .int cl, .int un, .int ze, .int lm, .ref m5, .ref m6, .ref m7])), (m2, .inl (kI, 60, .inl (upd xs pm.toNatClampNeg z35))), (m3, .inl (kI, 60, .inl (upd ys pm.toNatClampNeg z36))), (m4, .inl (kI, 24, .inl held)), (m5, .inl (kJ, 12, .inr (.inl la))), (m6, .inl (kJ, 12, .inr (.inl lb))), (m7, .inl (kJ, 12, .inr (.inl lc)))] := hD
                      refine lv_aload_n hx hb dX5_point_152 rfl (lv_at hl 1 rfl) ?_
                      refine lv_dup hx hb dX5_point_153 rfl ?_
                      refine va_get (D := D) (ci := 9) (v := .int pm) (C := RX5) (T := TX5) (N := 14) hx hb hts hinX5 hown hK hP 0 rfl rfl 1 (by decide) (hts _ fk_X5_51) (fun _ h9 => h9) rfl dX5_point_154 ?_
                      refine lv_iconst (v := 1) hx hb dX5_point_157 (by decide) ?_
                      refine lv_iadd hx hb dX5_point_158 ?_
                      refine va_put (D := D) (ci := 9) (v := .int (pm + (1 : Int32))) (ty := .int) (C := RX5) (T := TX5) (N := 14) hx hb hts hinX5 tyX5 tyX5_ok nmX5 hown hK hP hD hS 0 rfl rfl 1 (by decide) (hts _ fk_X5_51) (fun _ h9 => h9) rfl (by decide +kernel) rfl rfl (Nat.le_of_ble_eq_true rfl) dX5_point_159 (fun H locs hP hD hS => ?_)
                      have hP : va_P D vwCl [(m1, .inr (9, [.int (0 : Int32), .int (pm + (1 : Int32)), .ref m2, .ref m3, .int rm, .ref m4, .int on, .int cl, .int un, .int ze, .int lm, .ref m5, .ref m6, .ref m7])), (m2, .inl (kI, 60, .inl (upd xs pm.toNatClampNeg z35))), (m3, .inl (kI, 60, .inl (upd ys pm.toNatClampNeg z36))), (m4, .inl (kI, 24, .inl held)), (m5, .inl (kJ, 12, .inr (.inl la))), (m6, .inl (kJ, 12, .inr (.inl lb))), (m7, .inl (kJ, 12, .inr (.inl lc)))] H := hP
                      have hD : va_D A [(m1, .inr (9, [.int (0 : Int32), .int (pm + (1 : Int32)), .ref m2, .ref m3, .int rm, .ref m4, .int on, .int cl, .int un, .int ze, .int lm, .ref m5, .ref m6, .ref m7])), (m2, .inl (kI, 60, .inl (upd xs pm.toNatClampNeg z35))), (m3, .inl (kI, 60, .inl (upd ys pm.toNatClampNeg z36))), (m4, .inl (kI, 24, .inl held)), (m5, .inl (kJ, 12, .inr (.inl la))), (m6, .inl (kJ, 12, .inr (.inl lb))), (m7, .inl (kJ, 12, .inr (.inl lc)))] := hD
                      refine lv_aload_n hx hb dX5_point_162 rfl (lv_at hl 1 rfl) ?_
                      refine va_get (D := D) (ci := 9) (v := .int (pm + (1 : Int32))) (C := RX5) (T := TX5) (N := 14) hx hb hts hinX5 hown hK hP 0 rfl rfl 1 (by decide) (hts _ fk_X5_51) (fun _ h9 => h9) rfl dX5_point_163 ?_
                      refine lv_iconst (v := 1) hx hb dX5_point_166 (by decide) ?_
                      refine lv_isub hx hb dX5_point_167 ?_
                      have hP9 := hP
                      have hD9 := hD
                      have hS9 := hS
                      subst ez36 ez35
                      have qv : fX5_point xs ys pm vx vy vd = (pm + (1 : Int32)) - (1 : Int32) := by unfold fX5_point; rw [if_neg c1, if_neg c10, if_neg c19, if_pos c28, if_neg c30, if_neg c31, if_neg c32, if_pos c33, if_neg c34]
                      have q_xs : gX5_point_xs xs ys pm vx vy vd = upd xs pm.toNatClampNeg ((vx * ((12 : Int64) / vd)).toInt32) := by unfold gX5_point_xs; rw [if_neg c1, if_neg c10, if_neg c19, if_pos c28, if_neg c30, if_neg c31, if_neg c32, if_pos c33, if_neg c34]
                      have q_ys : gX5_point_ys xs ys pm vx vy vd = upd ys pm.toNatClampNeg ((vy * ((12 : Int64) / vd)).toInt32) := by unfold gX5_point_ys; rw [if_neg c1, if_neg c10, if_neg c19, if_pos c28, if_neg c30, if_neg c31, if_neg c32, if_pos c33, if_neg c34]
                      have q_pm : gX5_point_pm xs ys pm vx vy vd = pm + (1 : Int32) := by unfold gX5_point_pm; rw [if_neg c1, if_neg c10, if_neg c19, if_pos c28, if_neg c30, if_neg c31, if_neg c32, if_pos c33, if_neg c34]
                      rw [qv, q_xs, q_ys, q_pm]
                      exact W.iret (v := (pm + (1 : Int32)) - (1 : Int32)) hx hb hr (fun t ht hW => ⟨⟨rfl, by rw [ht]; exact hP9, by rw [hAe]; exact hD9⟩, by rw [hAe]; exact hS9.F ht⟩) hS9.2.2 dX5_point_168
                    · refine lv_bipush (v := (-3)) hx hb dX5_point_113 (by decide) ?_
                      have hP9 := hP
                      have hD9 := hD
                      have hS9 := hS
                      have qv : fX5_point xs ys pm vx vy vd = (-3 : Int32) := by unfold fX5_point; rw [if_neg c1, if_neg c10, if_neg c19, if_pos c28, if_neg c30, if_neg c31, if_neg c32, if_pos c33, if_pos c34]
                      have q_xs : gX5_point_xs xs ys pm vx vy vd = xs := by unfold gX5_point_xs; rw [if_neg c1, if_neg c10, if_neg c19, if_pos c28, if_neg c30, if_neg c31, if_neg c32, if_pos c33, if_pos c34]
                      have q_ys : gX5_point_ys xs ys pm vx vy vd = ys := by unfold gX5_point_ys; rw [if_neg c1, if_neg c10, if_neg c19, if_pos c28, if_neg c30, if_neg c31, if_neg c32, if_pos c33, if_pos c34]
                      have q_pm : gX5_point_pm xs ys pm vx vy vd = pm := by unfold gX5_point_pm; rw [if_neg c1, if_neg c10, if_neg c19, if_pos c28, if_neg c30, if_neg c31, if_neg c32, if_pos c33, if_pos c34]
                      rw [qv, q_xs, q_ys, q_pm]
                      exact W.iret (v := (-3 : Int32)) hx hb hr (fun t ht hW => ⟨⟨rfl, by rw [ht]; exact hP9, by rw [hAe]; exact hD9⟩, by rw [hAe]; exact hS9.F ht⟩) hS9.2.2 dX5_point_115
                  · refine lv_bipush (v := (-2)) hx hb dX5_point_101 (by decide) ?_
                    have hP9 := hP
                    have hD9 := hD
                    have hS9 := hS
                    have qv : fX5_point xs ys pm vx vy vd = (-2 : Int32) := by unfold fX5_point; rw [if_neg c1, if_neg c10, if_neg c19, if_pos c28, if_neg c30, if_neg c31, if_neg c32, if_neg c33]
                    have q_xs : gX5_point_xs xs ys pm vx vy vd = xs := by unfold gX5_point_xs; rw [if_neg c1, if_neg c10, if_neg c19, if_pos c28, if_neg c30, if_neg c31, if_neg c32, if_neg c33]
                    have q_ys : gX5_point_ys xs ys pm vx vy vd = ys := by unfold gX5_point_ys; rw [if_neg c1, if_neg c10, if_neg c19, if_pos c28, if_neg c30, if_neg c31, if_neg c32, if_neg c33]
                    have q_pm : gX5_point_pm xs ys pm vx vy vd = pm := by unfold gX5_point_pm; rw [if_neg c1, if_neg c10, if_neg c19, if_pos c28, if_neg c30, if_neg c31, if_neg c32, if_neg c33]
                    rw [qv, q_xs, q_ys, q_pm]
                    exact W.iret (v := (-2 : Int32)) hx hb hr (fun t ht hW => ⟨⟨rfl, by rw [ht]; exact hP9, by rw [hAe]; exact hD9⟩, by rw [hAe]; exact hS9.F ht⟩) hS9.2.2 dX5_point_103
        · refine lv_lload hx hb dX5_point_39 (lv_at hl 3 rfl) ?_
          refine lv_ldc2 (v := 6) hx hb hown (hts _ kl_X5_43) dX5_point_41 ?_
          refine W.lcmp hx hb dX5_point_44 ?_
          refine lv_if_eq (tgt := 57) hx hb dX5_point_45 (by decide) (fun c37 => ?_) (fun c37 => ?_)
          · refine lv_iconst (v := 1) hx hb dX5_point_57 (by decide) ?_
            refine lv_goto (tgt := 62) hx hb dX5_point_58 (by decide) ?_
            refine lv_istore (lv' := [(7, .int (1 : Int32)), (0, .ref m1), (1, .long vx), (3, .long vy), (5, .long vd)]) hx hb dX5_point_62 hl (by decide) rfl (fun ls hl => ?_)
            refine lv_iload hx hb dX5_point_64 (lv_at hl 0 rfl) ?_
            refine lv_if_eq (tgt := 101) hx hb dX5_point_66 (by decide) (fun c38 => ?_) (fun c38 => ?_)
            · exact absurd c38 (by decide)
            · refine lv_lload_n hx hb dX5_point_69 rfl (lv_at hl 2 rfl) ?_
              refine lv_ldc2 (v := -800) hx hb hown (hts _ kl_X5_47) dX5_point_70 ?_
              refine W.lcmp hx hb dX5_point_73 ?_
              refine lv_if_lt (tgt := 101) hx hb dX5_point_74 (by decide) (fun c39 => ?_) (fun c39 => ?_)
              · refine lv_bipush (v := (-2)) hx hb dX5_point_101 (by decide) ?_
                have hP9 := hP
                have hD9 := hD
                have hS9 := hS
                have qv : fX5_point xs ys pm vx vy vd = (-2 : Int32) := by unfold fX5_point; rw [if_neg c1, if_neg c10, if_neg c19, if_neg c28, if_pos c37, if_pos c39]
                have q_xs : gX5_point_xs xs ys pm vx vy vd = xs := by unfold gX5_point_xs; rw [if_neg c1, if_neg c10, if_neg c19, if_neg c28, if_pos c37, if_pos c39]
                have q_ys : gX5_point_ys xs ys pm vx vy vd = ys := by unfold gX5_point_ys; rw [if_neg c1, if_neg c10, if_neg c19, if_neg c28, if_pos c37, if_pos c39]
                have q_pm : gX5_point_pm xs ys pm vx vy vd = pm := by unfold gX5_point_pm; rw [if_neg c1, if_neg c10, if_neg c19, if_neg c28, if_pos c37, if_pos c39]
                rw [qv, q_xs, q_ys, q_pm]
                exact W.iret (v := (-2 : Int32)) hx hb hr (fun t ht hW => ⟨⟨rfl, by rw [ht]; exact hP9, by rw [hAe]; exact hD9⟩, by rw [hAe]; exact hS9.F ht⟩) hS9.2.2 dX5_point_103
              · refine lv_lload_n hx hb dX5_point_77 rfl (lv_at hl 2 rfl) ?_
                refine lv_ldc2 (v := 800) hx hb hown (hts _ kl_X5_49) dX5_point_78 ?_
                refine W.lcmp hx hb dX5_point_81 ?_
                refine lv_if_gt (tgt := 101) hx hb dX5_point_82 (by decide) (fun c40 => ?_) (fun c40 => ?_)
                · refine lv_bipush (v := (-2)) hx hb dX5_point_101 (by decide) ?_
                  have hP9 := hP
                  have hD9 := hD
                  have hS9 := hS
                  have qv : fX5_point xs ys pm vx vy vd = (-2 : Int32) := by unfold fX5_point; rw [if_neg c1, if_neg c10, if_neg c19, if_neg c28, if_pos c37, if_neg c39, if_pos c40]
                  have q_xs : gX5_point_xs xs ys pm vx vy vd = xs := by unfold gX5_point_xs; rw [if_neg c1, if_neg c10, if_neg c19, if_neg c28, if_pos c37, if_neg c39, if_pos c40]
                  have q_ys : gX5_point_ys xs ys pm vx vy vd = ys := by unfold gX5_point_ys; rw [if_neg c1, if_neg c10, if_neg c19, if_neg c28, if_pos c37, if_neg c39, if_pos c40]
                  have q_pm : gX5_point_pm xs ys pm vx vy vd = pm := by unfold gX5_point_pm; rw [if_neg c1, if_neg c10, if_neg c19, if_neg c28, if_pos c37, if_neg c39, if_pos c40]
                  rw [qv, q_xs, q_ys, q_pm]
                  exact W.iret (v := (-2 : Int32)) hx hb hr (fun t ht hW => ⟨⟨rfl, by rw [ht]; exact hP9, by rw [hAe]; exact hD9⟩, by rw [hAe]; exact hS9.F ht⟩) hS9.2.2 dX5_point_103
                · refine lv_lload_n hx hb dX5_point_85 rfl (lv_at hl 3 rfl) ?_
                  refine lv_ldc2 (v := -800) hx hb hown (hts _ kl_X5_47) dX5_point_86 ?_
                  refine W.lcmp hx hb dX5_point_89 ?_
                  refine lv_if_lt (tgt := 101) hx hb dX5_point_90 (by decide) (fun c41 => ?_) (fun c41 => ?_)
                  · refine lv_bipush (v := (-2)) hx hb dX5_point_101 (by decide) ?_
                    have hP9 := hP
                    have hD9 := hD
                    have hS9 := hS
                    have qv : fX5_point xs ys pm vx vy vd = (-2 : Int32) := by unfold fX5_point; rw [if_neg c1, if_neg c10, if_neg c19, if_neg c28, if_pos c37, if_neg c39, if_neg c40, if_pos c41]
                    have q_xs : gX5_point_xs xs ys pm vx vy vd = xs := by unfold gX5_point_xs; rw [if_neg c1, if_neg c10, if_neg c19, if_neg c28, if_pos c37, if_neg c39, if_neg c40, if_pos c41]
                    have q_ys : gX5_point_ys xs ys pm vx vy vd = ys := by unfold gX5_point_ys; rw [if_neg c1, if_neg c10, if_neg c19, if_neg c28, if_pos c37, if_neg c39, if_neg c40, if_pos c41]
                    have q_pm : gX5_point_pm xs ys pm vx vy vd = pm := by unfold gX5_point_pm; rw [if_neg c1, if_neg c10, if_neg c19, if_neg c28, if_pos c37, if_neg c39, if_neg c40, if_pos c41]
                    rw [qv, q_xs, q_ys, q_pm]
                    exact W.iret (v := (-2 : Int32)) hx hb hr (fun t ht hW => ⟨⟨rfl, by rw [ht]; exact hP9, by rw [hAe]; exact hD9⟩, by rw [hAe]; exact hS9.F ht⟩) hS9.2.2 dX5_point_103
                  · refine lv_lload_n hx hb dX5_point_93 rfl (lv_at hl 3 rfl) ?_
                    refine lv_ldc2 (v := 800) hx hb hown (hts _ kl_X5_49) dX5_point_94 ?_
                    refine W.lcmp hx hb dX5_point_97 ?_
                    refine lv_if_le (tgt := 104) hx hb dX5_point_98 (by decide) (fun c42 => ?_) (fun c42 => ?_)
                    · refine lv_aload_n hx hb dX5_point_104 rfl (lv_at hl 1 rfl) ?_
                      refine va_get (D := D) (ci := 9) (v := .int pm) (C := RX5) (T := TX5) (N := 14) hx hb hts hinX5 hown hK hP 0 rfl rfl 1 (by decide) (hts _ fk_X5_51) (fun _ h9 => h9) rfl dX5_point_105 ?_
                      refine lv_bipush (v := 60) hx hb dX5_point_108 (by decide) ?_
                      refine lv_icmp_ne (tgt := 116) hx hb dX5_point_110 (by decide) (fun c43 => ?_) (fun c43 => ?_)
                      · refine lv_aload_n hx hb dX5_point_116 rfl (lv_at hl 1 rfl) ?_
                        refine va_get (D := D) (ci := 9) (v := .ref m2) (C := RX5) (T := TX5) (N := 14) hx hb hts hinX5 hown hK hP 0 rfl rfl 2 (by decide) (hts _ fk_X5_13) (fun _ h9 => h9) rfl dX5_point_117 ?_
                        refine lv_aload_n hx hb dX5_point_120 rfl (lv_at hl 1 rfl) ?_
                        refine va_get (D := D) (ci := 9) (v := .int pm) (C := RX5) (T := TX5) (N := 14) hx hb hts hinX5 hown hK hP 0 rfl rfl 1 (by decide) (hts _ fk_X5_51) (fun _ h9 => h9) rfl dX5_point_121 ?_
                        refine lv_lload_n hx hb dX5_point_124 rfl (lv_at hl 2 rfl) ?_
                        refine lv_ldc2 (v := 12) hx hb hown (hts _ kl_X5_45) dX5_point_125 ?_
                        refine lv_lload hx hb dX5_point_128 (lv_at hl 4 rfl) ?_
                        refine lv_ldiv hx hb dX5_point_130 (o_dk c37 (by decide)) ?_
                        refine lv_lmul hx hb dX5_point_131 ?_
                        refine lv_l2i hx hb dX5_point_132 rfl ?_
                        refine lv_topi (fun z44 ez44 => ?_)
                        refine va_iast hx hb hK hP hD hS 1 0 rfl rfl (o_pme opm opn c43) dX5_point_133 (fun H locs hP hD hS => ?_)
                        have hP : va_P D vwCl [(m1, .inr (9, [.int (0 : Int32), .int pm, .ref m2, .ref m3, .int rm, .ref m4, .int on, .int cl, .int un, .int ze, .int lm, .ref m5, .ref m6, .ref m7])), (m2, .inl (kI, 60, .inl (upd xs pm.toNatClampNeg z44))), (m3, .inl (kI, 60, .inl ys)), (m4, .inl (kI, 24, .inl held)), (m5, .inl (kJ, 12, .inr (.inl la))), (m6, .inl (kJ, 12, .inr (.inl lb))), (m7, .inl (kJ, 12, .inr (.inl lc)))] H := hP
                        have hD : va_D A [(m1, .inr (9, [.int (0 : Int32), .int pm, .ref m2, .ref m3, .int rm, .ref m4, .int on, .int cl, .int un, .int ze, .int lm, .ref m5, .ref m6, .ref m7])), (m2, .inl (kI, 60, .inl (upd xs pm.toNatClampNeg z44))), (m3, .inl (kI, 60, .inl ys)), (m4, .inl (kI, 24, .inl held)), (m5, .inl (kJ, 12, .inr (.inl la))), (m6, .inl (kJ, 12, .inr (.inl lb))), (m7, .inl (kJ, 12, .inr (.inl lc)))] := hD
                        refine lv_aload_n hx hb dX5_point_134 rfl (lv_at hl 1 rfl) ?_
                        refine va_get (D := D) (ci := 9) (v := .ref m3) (C := RX5) (T := TX5) (N := 14) hx hb hts hinX5 hown hK hP 0 rfl rfl 3 (by decide) (hts _ fk_X5_17) (fun _ h9 => h9) rfl dX5_point_135 ?_
                        refine lv_aload_n hx hb dX5_point_138 rfl (lv_at hl 1 rfl) ?_
                        refine va_get (D := D) (ci := 9) (v := .int pm) (C := RX5) (T := TX5) (N := 14) hx hb hts hinX5 hown hK hP 0 rfl rfl 1 (by decide) (hts _ fk_X5_51) (fun _ h9 => h9) rfl dX5_point_139 ?_
                        refine lv_lload_n hx hb dX5_point_142 rfl (lv_at hl 3 rfl) ?_
                        refine lv_ldc2 (v := 12) hx hb hown (hts _ kl_X5_45) dX5_point_143 ?_
                        refine lv_lload hx hb dX5_point_146 (lv_at hl 4 rfl) ?_
                        refine lv_ldiv hx hb dX5_point_148 (o_dk c37 (by decide)) ?_
                        refine lv_lmul hx hb dX5_point_149 ?_
                        refine lv_l2i hx hb dX5_point_150 rfl ?_
                        refine lv_topi (fun z45 ez45 => ?_)
                        refine va_iast hx hb hK hP hD hS 2 0 rfl rfl (o_pme opm opn c43) dX5_point_151 (fun H locs hP hD hS => ?_)
                        have hP : va_P D vwCl [(m1, .inr (9, [.int (0 : Int32), .int pm, .ref m2, .ref m3, .int rm, .ref m4, .int on, .int cl, .int un, .int ze, .int lm, .ref m5, .ref m6, .ref m7])), (m2, .inl (kI, 60, .inl (upd xs pm.toNatClampNeg z44))), (m3, .inl (kI, 60, .inl (upd ys pm.toNatClampNeg z45))), (m4, .inl (kI, 24, .inl held)), (m5, .inl (kJ, 12, .inr (.inl la))), (m6, .inl (kJ, 12, .inr (.inl lb))), (m7, .inl (kJ, 12, .inr (.inl lc)))] H := hP
                        have hD : va_D A [(m1, .inr (9, [.int (0 : Int32), .int pm, .ref m2, .ref m3, .int rm, .ref m4, .int on, .int cl, .int un, .int ze, .int lm, .ref m5, .ref m6, .ref m7])), (m2, .inl (kI, 60, .inl (upd xs pm.toNatClampNeg z44))), (m3, .inl (kI, 60, .inl (upd ys pm.toNatClampNeg z45))), (m4, .inl (kI, 24, .inl held)), (m5, .inl (kJ, 12, .inr (.inl la))), (m6, .inl (kJ, 12, .inr (.inl lb))), (m7, .inl (kJ, 12, .inr (.inl lc)))] := hD
                        refine lv_aload_n hx hb dX5_point_152 rfl (lv_at hl 1 rfl) ?_
                        refine lv_dup hx hb dX5_point_153 rfl ?_
                        refine va_get (D := D) (ci := 9) (v := .int pm) (C := RX5) (T := TX5) (N := 14) hx hb hts hinX5 hown hK hP 0 rfl rfl 1 (by decide) (hts _ fk_X5_51) (fun _ h9 => h9) rfl dX5_point_154 ?_
                        refine lv_iconst (v := 1) hx hb dX5_point_157 (by decide) ?_
                        refine lv_iadd hx hb dX5_point_158 ?_
                        refine va_put (D := D) (ci := 9) (v := .int (pm + (1 : Int32))) (ty := .int) (C := RX5) (T := TX5) (N := 14) hx hb hts hinX5 tyX5 tyX5_ok nmX5 hown hK hP hD hS 0 rfl rfl 1 (by decide) (hts _ fk_X5_51) (fun _ h9 => h9) rfl (by decide +kernel) rfl rfl (Nat.le_of_ble_eq_true rfl) dX5_point_159 (fun H locs hP hD hS => ?_)
                        have hP : va_P D vwCl [(m1, .inr (9, [.int (0 : Int32), .int (pm + (1 : Int32)), .ref m2, .ref m3, .int rm, .ref m4, .int on, .int cl, .int un, .int ze, .int lm, .ref m5, .ref m6, .ref m7])), (m2, .inl (kI, 60, .inl (upd xs pm.toNatClampNeg z44))), (m3, .inl (kI, 60, .inl (upd ys pm.toNatClampNeg z45))), (m4, .inl (kI, 24, .inl held)), (m5, .inl (kJ, 12, .inr (.inl la))), (m6, .inl (kJ, 12, .inr (.inl lb))), (m7, .inl (kJ, 12, .inr (.inl lc)))] H := hP
                        have hD : va_D A [(m1, .inr (9, [.int (0 : Int32), .int (pm + (1 : Int32)), .ref m2, .ref m3, .int rm, .ref m4, .int on, .int cl, .int un, .int ze, .int lm, .ref m5, .ref m6, .ref m7])), (m2, .inl (kI, 60, .inl (upd xs pm.toNatClampNeg z44))), (m3, .inl (kI, 60, .inl (upd ys pm.toNatClampNeg z45))), (m4, .inl (kI, 24, .inl held)), (m5, .inl (kJ, 12, .inr (.inl la))), (m6, .inl (kJ, 12, .inr (.inl lb))), (m7, .inl (kJ, 12, .inr (.inl lc)))] := hD
                        refine lv_aload_n hx hb dX5_point_162 rfl (lv_at hl 1 rfl) ?_
                        refine va_get (D := D) (ci := 9) (v := .int (pm + (1 : Int32))) (C := RX5) (T := TX5) (N := 14) hx hb hts hinX5 hown hK hP 0 rfl rfl 1 (by decide) (hts _ fk_X5_51) (fun _ h9 => h9) rfl dX5_point_163 ?_
                        refine lv_iconst (v := 1) hx hb dX5_point_166 (by decide) ?_
                        refine lv_isub hx hb dX5_point_167 ?_
                        have hP9 := hP
                        have hD9 := hD
                        have hS9 := hS
                        subst ez45 ez44
                        have qv : fX5_point xs ys pm vx vy vd = (pm + (1 : Int32)) - (1 : Int32) := by unfold fX5_point; rw [if_neg c1, if_neg c10, if_neg c19, if_neg c28, if_pos c37, if_neg c39, if_neg c40, if_neg c41, if_pos c42, if_neg c43]
                        have q_xs : gX5_point_xs xs ys pm vx vy vd = upd xs pm.toNatClampNeg ((vx * ((12 : Int64) / vd)).toInt32) := by unfold gX5_point_xs; rw [if_neg c1, if_neg c10, if_neg c19, if_neg c28, if_pos c37, if_neg c39, if_neg c40, if_neg c41, if_pos c42, if_neg c43]
                        have q_ys : gX5_point_ys xs ys pm vx vy vd = upd ys pm.toNatClampNeg ((vy * ((12 : Int64) / vd)).toInt32) := by unfold gX5_point_ys; rw [if_neg c1, if_neg c10, if_neg c19, if_neg c28, if_pos c37, if_neg c39, if_neg c40, if_neg c41, if_pos c42, if_neg c43]
                        have q_pm : gX5_point_pm xs ys pm vx vy vd = pm + (1 : Int32) := by unfold gX5_point_pm; rw [if_neg c1, if_neg c10, if_neg c19, if_neg c28, if_pos c37, if_neg c39, if_neg c40, if_neg c41, if_pos c42, if_neg c43]
                        rw [qv, q_xs, q_ys, q_pm]
                        exact W.iret (v := (pm + (1 : Int32)) - (1 : Int32)) hx hb hr (fun t ht hW => ⟨⟨rfl, by rw [ht]; exact hP9, by rw [hAe]; exact hD9⟩, by rw [hAe]; exact hS9.F ht⟩) hS9.2.2 dX5_point_168
                      · refine lv_bipush (v := (-3)) hx hb dX5_point_113 (by decide) ?_
                        have hP9 := hP
                        have hD9 := hD
                        have hS9 := hS
                        have qv : fX5_point xs ys pm vx vy vd = (-3 : Int32) := by unfold fX5_point; rw [if_neg c1, if_neg c10, if_neg c19, if_neg c28, if_pos c37, if_neg c39, if_neg c40, if_neg c41, if_pos c42, if_pos c43]
                        have q_xs : gX5_point_xs xs ys pm vx vy vd = xs := by unfold gX5_point_xs; rw [if_neg c1, if_neg c10, if_neg c19, if_neg c28, if_pos c37, if_neg c39, if_neg c40, if_neg c41, if_pos c42, if_pos c43]
                        have q_ys : gX5_point_ys xs ys pm vx vy vd = ys := by unfold gX5_point_ys; rw [if_neg c1, if_neg c10, if_neg c19, if_neg c28, if_pos c37, if_neg c39, if_neg c40, if_neg c41, if_pos c42, if_pos c43]
                        have q_pm : gX5_point_pm xs ys pm vx vy vd = pm := by unfold gX5_point_pm; rw [if_neg c1, if_neg c10, if_neg c19, if_neg c28, if_pos c37, if_neg c39, if_neg c40, if_neg c41, if_pos c42, if_pos c43]
                        rw [qv, q_xs, q_ys, q_pm]
                        exact W.iret (v := (-3 : Int32)) hx hb hr (fun t ht hW => ⟨⟨rfl, by rw [ht]; exact hP9, by rw [hAe]; exact hD9⟩, by rw [hAe]; exact hS9.F ht⟩) hS9.2.2 dX5_point_115
                    · refine lv_bipush (v := (-2)) hx hb dX5_point_101 (by decide) ?_
                      have hP9 := hP
                      have hD9 := hD
                      have hS9 := hS
                      have qv : fX5_point xs ys pm vx vy vd = (-2 : Int32) := by unfold fX5_point; rw [if_neg c1, if_neg c10, if_neg c19, if_neg c28, if_pos c37, if_neg c39, if_neg c40, if_neg c41, if_neg c42]
                      have q_xs : gX5_point_xs xs ys pm vx vy vd = xs := by unfold gX5_point_xs; rw [if_neg c1, if_neg c10, if_neg c19, if_neg c28, if_pos c37, if_neg c39, if_neg c40, if_neg c41, if_neg c42]
                      have q_ys : gX5_point_ys xs ys pm vx vy vd = ys := by unfold gX5_point_ys; rw [if_neg c1, if_neg c10, if_neg c19, if_neg c28, if_pos c37, if_neg c39, if_neg c40, if_neg c41, if_neg c42]
                      have q_pm : gX5_point_pm xs ys pm vx vy vd = pm := by unfold gX5_point_pm; rw [if_neg c1, if_neg c10, if_neg c19, if_neg c28, if_pos c37, if_neg c39, if_neg c40, if_neg c41, if_neg c42]
                      rw [qv, q_xs, q_ys, q_pm]
                      exact W.iret (v := (-2 : Int32)) hx hb hr (fun t ht hW => ⟨⟨rfl, by rw [ht]; exact hP9, by rw [hAe]; exact hD9⟩, by rw [hAe]; exact hS9.F ht⟩) hS9.2.2 dX5_point_103
          · refine lv_lload hx hb dX5_point_48 (lv_at hl 3 rfl) ?_
            refine lv_ldc2 (v := 12) hx hb hown (hts _ kl_X5_45) dX5_point_50 ?_
            refine W.lcmp hx hb dX5_point_53 ?_
            refine lv_if_ne (tgt := 61) hx hb dX5_point_54 (by decide) (fun c46 => ?_) (fun c46 => ?_)
            · refine lv_iconst (v := 0) hx hb dX5_point_61 (by decide) ?_
              refine lv_istore (lv' := [(7, .int (0 : Int32)), (0, .ref m1), (1, .long vx), (3, .long vy), (5, .long vd)]) hx hb dX5_point_62 hl (by decide) rfl (fun ls hl => ?_)
              refine lv_iload hx hb dX5_point_64 (lv_at hl 0 rfl) ?_
              refine lv_if_eq (tgt := 101) hx hb dX5_point_66 (by decide) (fun c47 => ?_) (fun c47 => ?_)
              · refine lv_bipush (v := (-2)) hx hb dX5_point_101 (by decide) ?_
                have hP9 := hP
                have hD9 := hD
                have hS9 := hS
                have qv : fX5_point xs ys pm vx vy vd = (-2 : Int32) := by unfold fX5_point; rw [if_neg c1, if_neg c10, if_neg c19, if_neg c28, if_neg c37, if_neg c46]
                have q_xs : gX5_point_xs xs ys pm vx vy vd = xs := by unfold gX5_point_xs; rw [if_neg c1, if_neg c10, if_neg c19, if_neg c28, if_neg c37, if_neg c46]
                have q_ys : gX5_point_ys xs ys pm vx vy vd = ys := by unfold gX5_point_ys; rw [if_neg c1, if_neg c10, if_neg c19, if_neg c28, if_neg c37, if_neg c46]
                have q_pm : gX5_point_pm xs ys pm vx vy vd = pm := by unfold gX5_point_pm; rw [if_neg c1, if_neg c10, if_neg c19, if_neg c28, if_neg c37, if_neg c46]
                rw [qv, q_xs, q_ys, q_pm]
                exact W.iret (v := (-2 : Int32)) hx hb hr (fun t ht hW => ⟨⟨rfl, by rw [ht]; exact hP9, by rw [hAe]; exact hD9⟩, by rw [hAe]; exact hS9.F ht⟩) hS9.2.2 dX5_point_103
              · exact absurd (by decide) c47
            · refine lv_iconst (v := 1) hx hb dX5_point_57 (by decide) ?_
              refine lv_goto (tgt := 62) hx hb dX5_point_58 (by decide) ?_
              refine lv_istore (lv' := [(7, .int (1 : Int32)), (0, .ref m1), (1, .long vx), (3, .long vy), (5, .long vd)]) hx hb dX5_point_62 hl (by decide) rfl (fun ls hl => ?_)
              refine lv_iload hx hb dX5_point_64 (lv_at hl 0 rfl) ?_
              refine lv_if_eq (tgt := 101) hx hb dX5_point_66 (by decide) (fun c48 => ?_) (fun c48 => ?_)
              · exact absurd c48 (by decide)
              · refine lv_lload_n hx hb dX5_point_69 rfl (lv_at hl 2 rfl) ?_
                refine lv_ldc2 (v := -800) hx hb hown (hts _ kl_X5_47) dX5_point_70 ?_
                refine W.lcmp hx hb dX5_point_73 ?_
                refine lv_if_lt (tgt := 101) hx hb dX5_point_74 (by decide) (fun c49 => ?_) (fun c49 => ?_)
                · refine lv_bipush (v := (-2)) hx hb dX5_point_101 (by decide) ?_
                  have hP9 := hP
                  have hD9 := hD
                  have hS9 := hS
                  have qv : fX5_point xs ys pm vx vy vd = (-2 : Int32) := by unfold fX5_point; rw [if_neg c1, if_neg c10, if_neg c19, if_neg c28, if_neg c37, if_pos c46, if_pos c49]
                  have q_xs : gX5_point_xs xs ys pm vx vy vd = xs := by unfold gX5_point_xs; rw [if_neg c1, if_neg c10, if_neg c19, if_neg c28, if_neg c37, if_pos c46, if_pos c49]
                  have q_ys : gX5_point_ys xs ys pm vx vy vd = ys := by unfold gX5_point_ys; rw [if_neg c1, if_neg c10, if_neg c19, if_neg c28, if_neg c37, if_pos c46, if_pos c49]
                  have q_pm : gX5_point_pm xs ys pm vx vy vd = pm := by unfold gX5_point_pm; rw [if_neg c1, if_neg c10, if_neg c19, if_neg c28, if_neg c37, if_pos c46, if_pos c49]
                  rw [qv, q_xs, q_ys, q_pm]
                  exact W.iret (v := (-2 : Int32)) hx hb hr (fun t ht hW => ⟨⟨rfl, by rw [ht]; exact hP9, by rw [hAe]; exact hD9⟩, by rw [hAe]; exact hS9.F ht⟩) hS9.2.2 dX5_point_103
                · refine lv_lload_n hx hb dX5_point_77 rfl (lv_at hl 2 rfl) ?_
                  refine lv_ldc2 (v := 800) hx hb hown (hts _ kl_X5_49) dX5_point_78 ?_
                  refine W.lcmp hx hb dX5_point_81 ?_
                  refine lv_if_gt (tgt := 101) hx hb dX5_point_82 (by decide) (fun c50 => ?_) (fun c50 => ?_)
                  · refine lv_bipush (v := (-2)) hx hb dX5_point_101 (by decide) ?_
                    have hP9 := hP
                    have hD9 := hD
                    have hS9 := hS
                    have qv : fX5_point xs ys pm vx vy vd = (-2 : Int32) := by unfold fX5_point; rw [if_neg c1, if_neg c10, if_neg c19, if_neg c28, if_neg c37, if_pos c46, if_neg c49, if_pos c50]
                    have q_xs : gX5_point_xs xs ys pm vx vy vd = xs := by unfold gX5_point_xs; rw [if_neg c1, if_neg c10, if_neg c19, if_neg c28, if_neg c37, if_pos c46, if_neg c49, if_pos c50]
                    have q_ys : gX5_point_ys xs ys pm vx vy vd = ys := by unfold gX5_point_ys; rw [if_neg c1, if_neg c10, if_neg c19, if_neg c28, if_neg c37, if_pos c46, if_neg c49, if_pos c50]
                    have q_pm : gX5_point_pm xs ys pm vx vy vd = pm := by unfold gX5_point_pm; rw [if_neg c1, if_neg c10, if_neg c19, if_neg c28, if_neg c37, if_pos c46, if_neg c49, if_pos c50]
                    rw [qv, q_xs, q_ys, q_pm]
                    exact W.iret (v := (-2 : Int32)) hx hb hr (fun t ht hW => ⟨⟨rfl, by rw [ht]; exact hP9, by rw [hAe]; exact hD9⟩, by rw [hAe]; exact hS9.F ht⟩) hS9.2.2 dX5_point_103
                  · refine lv_lload_n hx hb dX5_point_85 rfl (lv_at hl 3 rfl) ?_
                    refine lv_ldc2 (v := -800) hx hb hown (hts _ kl_X5_47) dX5_point_86 ?_
                    refine W.lcmp hx hb dX5_point_89 ?_
                    refine lv_if_lt (tgt := 101) hx hb dX5_point_90 (by decide) (fun c51 => ?_) (fun c51 => ?_)
                    · refine lv_bipush (v := (-2)) hx hb dX5_point_101 (by decide) ?_
                      have hP9 := hP
                      have hD9 := hD
                      have hS9 := hS
                      have qv : fX5_point xs ys pm vx vy vd = (-2 : Int32) := by unfold fX5_point; rw [if_neg c1, if_neg c10, if_neg c19, if_neg c28, if_neg c37, if_pos c46, if_neg c49, if_neg c50, if_pos c51]
                      have q_xs : gX5_point_xs xs ys pm vx vy vd = xs := by unfold gX5_point_xs; rw [if_neg c1, if_neg c10, if_neg c19, if_neg c28, if_neg c37, if_pos c46, if_neg c49, if_neg c50, if_pos c51]
                      have q_ys : gX5_point_ys xs ys pm vx vy vd = ys := by unfold gX5_point_ys; rw [if_neg c1, if_neg c10, if_neg c19, if_neg c28, if_neg c37, if_pos c46, if_neg c49, if_neg c50, if_pos c51]
                      have q_pm : gX5_point_pm xs ys pm vx vy vd = pm := by unfold gX5_point_pm; rw [if_neg c1, if_neg c10, if_neg c19, if_neg c28, if_neg c37, if_pos c46, if_neg c49, if_neg c50, if_pos c51]
                      rw [qv, q_xs, q_ys, q_pm]
                      exact W.iret (v := (-2 : Int32)) hx hb hr (fun t ht hW => ⟨⟨rfl, by rw [ht]; exact hP9, by rw [hAe]; exact hD9⟩, by rw [hAe]; exact hS9.F ht⟩) hS9.2.2 dX5_point_103
                    · refine lv_lload_n hx hb dX5_point_93 rfl (lv_at hl 3 rfl) ?_
                      refine lv_ldc2 (v := 800) hx hb hown (hts _ kl_X5_49) dX5_point_94 ?_
                      refine W.lcmp hx hb dX5_point_97 ?_
                      refine lv_if_le (tgt := 104) hx hb dX5_point_98 (by decide) (fun c52 => ?_) (fun c52 => ?_)
                      · refine lv_aload_n hx hb dX5_point_104 rfl (lv_at hl 1 rfl) ?_
                        refine va_get (D := D) (ci := 9) (v := .int pm) (C := RX5) (T := TX5) (N := 14) hx hb hts hinX5 hown hK hP 0 rfl rfl 1 (by decide) (hts _ fk_X5_51) (fun _ h9 => h9) rfl dX5_point_105 ?_
                        refine lv_bipush (v := 60) hx hb dX5_point_108 (by decide) ?_
                        refine lv_icmp_ne (tgt := 116) hx hb dX5_point_110 (by decide) (fun c53 => ?_) (fun c53 => ?_)
                        · refine lv_aload_n hx hb dX5_point_116 rfl (lv_at hl 1 rfl) ?_
                          refine va_get (D := D) (ci := 9) (v := .ref m2) (C := RX5) (T := TX5) (N := 14) hx hb hts hinX5 hown hK hP 0 rfl rfl 2 (by decide) (hts _ fk_X5_13) (fun _ h9 => h9) rfl dX5_point_117 ?_
                          refine lv_aload_n hx hb dX5_point_120 rfl (lv_at hl 1 rfl) ?_
                          refine va_get (D := D) (ci := 9) (v := .int pm) (C := RX5) (T := TX5) (N := 14) hx hb hts hinX5 hown hK hP 0 rfl rfl 1 (by decide) (hts _ fk_X5_51) (fun _ h9 => h9) rfl dX5_point_121 ?_
                          refine lv_lload_n hx hb dX5_point_124 rfl (lv_at hl 2 rfl) ?_
                          refine lv_ldc2 (v := 12) hx hb hown (hts _ kl_X5_45) dX5_point_125 ?_
                          refine lv_lload hx hb dX5_point_128 (lv_at hl 4 rfl) ?_
                          refine lv_ldiv hx hb dX5_point_130 (o_dk c46 (by decide)) ?_
                          refine lv_lmul hx hb dX5_point_131 ?_
                          refine lv_l2i hx hb dX5_point_132 rfl ?_
                          refine lv_topi (fun z54 ez54 => ?_)
                          refine va_iast hx hb hK hP hD hS 1 0 rfl rfl (o_pme opm opn c53) dX5_point_133 (fun H locs hP hD hS => ?_)
                          have hP : va_P D vwCl [(m1, .inr (9, [.int (0 : Int32), .int pm, .ref m2, .ref m3, .int rm, .ref m4, .int on, .int cl, .int un, .int ze, .int lm, .ref m5, .ref m6, .ref m7])), (m2, .inl (kI, 60, .inl (upd xs pm.toNatClampNeg z54))), (m3, .inl (kI, 60, .inl ys)), (m4, .inl (kI, 24, .inl held)), (m5, .inl (kJ, 12, .inr (.inl la))), (m6, .inl (kJ, 12, .inr (.inl lb))), (m7, .inl (kJ, 12, .inr (.inl lc)))] H := hP
                          have hD : va_D A [(m1, .inr (9, [.int (0 : Int32), .int pm, .ref m2, .ref m3, .int rm, .ref m4, .int on, .int cl, .int un, .int ze, .int lm, .ref m5, .ref m6, .ref m7])), (m2, .inl (kI, 60, .inl (upd xs pm.toNatClampNeg z54))), (m3, .inl (kI, 60, .inl ys)), (m4, .inl (kI, 24, .inl held)), (m5, .inl (kJ, 12, .inr (.inl la))), (m6, .inl (kJ, 12, .inr (.inl lb))), (m7, .inl (kJ, 12, .inr (.inl lc)))] := hD
                          refine lv_aload_n hx hb dX5_point_134 rfl (lv_at hl 1 rfl) ?_
                          refine va_get (D := D) (ci := 9) (v := .ref m3) (C := RX5) (T := TX5) (N := 14) hx hb hts hinX5 hown hK hP 0 rfl rfl 3 (by decide) (hts _ fk_X5_17) (fun _ h9 => h9) rfl dX5_point_135 ?_
                          refine lv_aload_n hx hb dX5_point_138 rfl (lv_at hl 1 rfl) ?_
                          refine va_get (D := D) (ci := 9) (v := .int pm) (C := RX5) (T := TX5) (N := 14) hx hb hts hinX5 hown hK hP 0 rfl rfl 1 (by decide) (hts _ fk_X5_51) (fun _ h9 => h9) rfl dX5_point_139 ?_
                          refine lv_lload_n hx hb dX5_point_142 rfl (lv_at hl 3 rfl) ?_
                          refine lv_ldc2 (v := 12) hx hb hown (hts _ kl_X5_45) dX5_point_143 ?_
                          refine lv_lload hx hb dX5_point_146 (lv_at hl 4 rfl) ?_
                          refine lv_ldiv hx hb dX5_point_148 (o_dk c46 (by decide)) ?_
                          refine lv_lmul hx hb dX5_point_149 ?_
                          refine lv_l2i hx hb dX5_point_150 rfl ?_
                          refine lv_topi (fun z55 ez55 => ?_)
                          refine va_iast hx hb hK hP hD hS 2 0 rfl rfl (o_pme opm opn c53) dX5_point_151 (fun H locs hP hD hS => ?_)
                          have hP : va_P D vwCl [(m1, .inr (9, [.int (0 : Int32), .int pm, .ref m2, .ref m3, .int rm, .ref m4, .int on, .int cl, .int un, .int ze, .int lm, .ref m5, .ref m6, .ref m7])), (m2, .inl (kI, 60, .inl (upd xs pm.toNatClampNeg z54))), (m3, .inl (kI, 60, .inl (upd ys pm.toNatClampNeg z55))), (m4, .inl (kI, 24, .inl held)), (m5, .inl (kJ, 12, .inr (.inl la))), (m6, .inl (kJ, 12, .inr (.inl lb))), (m7, .inl (kJ, 12, .inr (.inl lc)))] H := hP
                          have hD : va_D A [(m1, .inr (9, [.int (0 : Int32), .int pm, .ref m2, .ref m3, .int rm, .ref m4, .int on, .int cl, .int un, .int ze, .int lm, .ref m5, .ref m6, .ref m7])), (m2, .inl (kI, 60, .inl (upd xs pm.toNatClampNeg z54))), (m3, .inl (kI, 60, .inl (upd ys pm.toNatClampNeg z55))), (m4, .inl (kI, 24, .inl held)), (m5, .inl (kJ, 12, .inr (.inl la))), (m6, .inl (kJ, 12, .inr (.inl lb))), (m7, .inl (kJ, 12, .inr (.inl lc)))] := hD
                          refine lv_aload_n hx hb dX5_point_152 rfl (lv_at hl 1 rfl) ?_
                          refine lv_dup hx hb dX5_point_153 rfl ?_
                          refine va_get (D := D) (ci := 9) (v := .int pm) (C := RX5) (T := TX5) (N := 14) hx hb hts hinX5 hown hK hP 0 rfl rfl 1 (by decide) (hts _ fk_X5_51) (fun _ h9 => h9) rfl dX5_point_154 ?_
                          refine lv_iconst (v := 1) hx hb dX5_point_157 (by decide) ?_
                          refine lv_iadd hx hb dX5_point_158 ?_
                          refine va_put (D := D) (ci := 9) (v := .int (pm + (1 : Int32))) (ty := .int) (C := RX5) (T := TX5) (N := 14) hx hb hts hinX5 tyX5 tyX5_ok nmX5 hown hK hP hD hS 0 rfl rfl 1 (by decide) (hts _ fk_X5_51) (fun _ h9 => h9) rfl (by decide +kernel) rfl rfl (Nat.le_of_ble_eq_true rfl) dX5_point_159 (fun H locs hP hD hS => ?_)
                          have hP : va_P D vwCl [(m1, .inr (9, [.int (0 : Int32), .int (pm + (1 : Int32)), .ref m2, .ref m3, .int rm, .ref m4, .int on, .int cl, .int un, .int ze, .int lm, .ref m5, .ref m6, .ref m7])), (m2, .inl (kI, 60, .inl (upd xs pm.toNatClampNeg z54))), (m3, .inl (kI, 60, .inl (upd ys pm.toNatClampNeg z55))), (m4, .inl (kI, 24, .inl held)), (m5, .inl (kJ, 12, .inr (.inl la))), (m6, .inl (kJ, 12, .inr (.inl lb))), (m7, .inl (kJ, 12, .inr (.inl lc)))] H := hP
                          have hD : va_D A [(m1, .inr (9, [.int (0 : Int32), .int (pm + (1 : Int32)), .ref m2, .ref m3, .int rm, .ref m4, .int on, .int cl, .int un, .int ze, .int lm, .ref m5, .ref m6, .ref m7])), (m2, .inl (kI, 60, .inl (upd xs pm.toNatClampNeg z54))), (m3, .inl (kI, 60, .inl (upd ys pm.toNatClampNeg z55))), (m4, .inl (kI, 24, .inl held)), (m5, .inl (kJ, 12, .inr (.inl la))), (m6, .inl (kJ, 12, .inr (.inl lb))), (m7, .inl (kJ, 12, .inr (.inl lc)))] := hD
                          refine lv_aload_n hx hb dX5_point_162 rfl (lv_at hl 1 rfl) ?_
                          refine va_get (D := D) (ci := 9) (v := .int (pm + (1 : Int32))) (C := RX5) (T := TX5) (N := 14) hx hb hts hinX5 hown hK hP 0 rfl rfl 1 (by decide) (hts _ fk_X5_51) (fun _ h9 => h9) rfl dX5_point_163 ?_
                          refine lv_iconst (v := 1) hx hb dX5_point_166 (by decide) ?_
                          refine lv_isub hx hb dX5_point_167 ?_
                          have hP9 := hP
                          have hD9 := hD
                          have hS9 := hS
                          subst ez55 ez54
                          have qv : fX5_point xs ys pm vx vy vd = (pm + (1 : Int32)) - (1 : Int32) := by unfold fX5_point; rw [if_neg c1, if_neg c10, if_neg c19, if_neg c28, if_neg c37, if_pos c46, if_neg c49, if_neg c50, if_neg c51, if_pos c52, if_neg c53]
                          have q_xs : gX5_point_xs xs ys pm vx vy vd = upd xs pm.toNatClampNeg ((vx * ((12 : Int64) / vd)).toInt32) := by unfold gX5_point_xs; rw [if_neg c1, if_neg c10, if_neg c19, if_neg c28, if_neg c37, if_pos c46, if_neg c49, if_neg c50, if_neg c51, if_pos c52, if_neg c53]
                          have q_ys : gX5_point_ys xs ys pm vx vy vd = upd ys pm.toNatClampNeg ((vy * ((12 : Int64) / vd)).toInt32) := by unfold gX5_point_ys; rw [if_neg c1, if_neg c10, if_neg c19, if_neg c28, if_neg c37, if_pos c46, if_neg c49, if_neg c50, if_neg c51, if_pos c52, if_neg c53]
                          have q_pm : gX5_point_pm xs ys pm vx vy vd = pm + (1 : Int32) := by unfold gX5_point_pm; rw [if_neg c1, if_neg c10, if_neg c19, if_neg c28, if_neg c37, if_pos c46, if_neg c49, if_neg c50, if_neg c51, if_pos c52, if_neg c53]
                          rw [qv, q_xs, q_ys, q_pm]
                          exact W.iret (v := (pm + (1 : Int32)) - (1 : Int32)) hx hb hr (fun t ht hW => ⟨⟨rfl, by rw [ht]; exact hP9, by rw [hAe]; exact hD9⟩, by rw [hAe]; exact hS9.F ht⟩) hS9.2.2 dX5_point_168
                        · refine lv_bipush (v := (-3)) hx hb dX5_point_113 (by decide) ?_
                          have hP9 := hP
                          have hD9 := hD
                          have hS9 := hS
                          have qv : fX5_point xs ys pm vx vy vd = (-3 : Int32) := by unfold fX5_point; rw [if_neg c1, if_neg c10, if_neg c19, if_neg c28, if_neg c37, if_pos c46, if_neg c49, if_neg c50, if_neg c51, if_pos c52, if_pos c53]
                          have q_xs : gX5_point_xs xs ys pm vx vy vd = xs := by unfold gX5_point_xs; rw [if_neg c1, if_neg c10, if_neg c19, if_neg c28, if_neg c37, if_pos c46, if_neg c49, if_neg c50, if_neg c51, if_pos c52, if_pos c53]
                          have q_ys : gX5_point_ys xs ys pm vx vy vd = ys := by unfold gX5_point_ys; rw [if_neg c1, if_neg c10, if_neg c19, if_neg c28, if_neg c37, if_pos c46, if_neg c49, if_neg c50, if_neg c51, if_pos c52, if_pos c53]
                          have q_pm : gX5_point_pm xs ys pm vx vy vd = pm := by unfold gX5_point_pm; rw [if_neg c1, if_neg c10, if_neg c19, if_neg c28, if_neg c37, if_pos c46, if_neg c49, if_neg c50, if_neg c51, if_pos c52, if_pos c53]
                          rw [qv, q_xs, q_ys, q_pm]
                          exact W.iret (v := (-3 : Int32)) hx hb hr (fun t ht hW => ⟨⟨rfl, by rw [ht]; exact hP9, by rw [hAe]; exact hD9⟩, by rw [hAe]; exact hS9.F ht⟩) hS9.2.2 dX5_point_115
                      · refine lv_bipush (v := (-2)) hx hb dX5_point_101 (by decide) ?_
                        have hP9 := hP
                        have hD9 := hD
                        have hS9 := hS
                        have qv : fX5_point xs ys pm vx vy vd = (-2 : Int32) := by unfold fX5_point; rw [if_neg c1, if_neg c10, if_neg c19, if_neg c28, if_neg c37, if_pos c46, if_neg c49, if_neg c50, if_neg c51, if_neg c52]
                        have q_xs : gX5_point_xs xs ys pm vx vy vd = xs := by unfold gX5_point_xs; rw [if_neg c1, if_neg c10, if_neg c19, if_neg c28, if_neg c37, if_pos c46, if_neg c49, if_neg c50, if_neg c51, if_neg c52]
                        have q_ys : gX5_point_ys xs ys pm vx vy vd = ys := by unfold gX5_point_ys; rw [if_neg c1, if_neg c10, if_neg c19, if_neg c28, if_neg c37, if_pos c46, if_neg c49, if_neg c50, if_neg c51, if_neg c52]
                        have q_pm : gX5_point_pm xs ys pm vx vy vd = pm := by unfold gX5_point_pm; rw [if_neg c1, if_neg c10, if_neg c19, if_neg c28, if_neg c37, if_pos c46, if_neg c49, if_neg c50, if_neg c51, if_neg c52]
                        rw [qv, q_xs, q_ys, q_pm]
                        exact W.iret (v := (-2 : Int32)) hx hb hr (fun t ht hW => ⟨⟨rfl, by rw [ht]; exact hP9, by rw [hAe]; exact hD9⟩, by rw [hAe]; exact hS9.F ht⟩) hS9.2.2 dX5_point_103
def fX5_line (xs ys : Nat → Int32) (pm : Int32) (la lb lc : Nat → Int64) (lm : Int32) (ia : Int32) (ib : Int32) : Int32 := if (fX5_isPoint pm ia) = (0 : Int32) then ((-2 : Int32)) else (if (fX5_isPoint pm ib) = (0 : Int32) then ((-2 : Int32)) else (if (fX5_areEqual xs ys ia ib) = (0 : Int32) then (if lm = (12 : Int32) then ((-3 : Int32)) else ((lm + (1 : Int32)) - (1 : Int32))) else ((-4 : Int32))))
def gX5_line_la (xs ys : Nat → Int32) (pm : Int32) (la lb lc : Nat → Int64) (lm : Int32) (ia : Int32) (ib : Int32) : Nat → Int64 := if (fX5_isPoint pm ia) = (0 : Int32) then (la) else (if (fX5_isPoint pm ib) = (0 : Int32) then (la) else (if (fX5_areEqual xs ys ia ib) = (0 : Int32) then (if lm = (12 : Int32) then (la) else (vp_updL la lm.toNatClampNeg (((ys ib.toNatClampNeg) - (ys ia.toNatClampNeg)).toInt64))) else (la)))
def gX5_line_lb (xs ys : Nat → Int32) (pm : Int32) (la lb lc : Nat → Int64) (lm : Int32) (ia : Int32) (ib : Int32) : Nat → Int64 := if (fX5_isPoint pm ia) = (0 : Int32) then (lb) else (if (fX5_isPoint pm ib) = (0 : Int32) then (lb) else (if (fX5_areEqual xs ys ia ib) = (0 : Int32) then (if lm = (12 : Int32) then (lb) else (vp_updL lb lm.toNatClampNeg (((xs ia.toNatClampNeg) - (xs ib.toNatClampNeg)).toInt64))) else (lb)))
def gX5_line_lc (xs ys : Nat → Int32) (pm : Int32) (la lb lc : Nat → Int64) (lm : Int32) (ia : Int32) (ib : Int32) : Nat → Int64 := if (fX5_isPoint pm ia) = (0 : Int32) then (lc) else (if (fX5_isPoint pm ib) = (0 : Int32) then (lc) else (if (fX5_areEqual xs ys ia ib) = (0 : Int32) then (if lm = (12 : Int32) then (lc) else (vp_updL lc lm.toNatClampNeg ((((vp_updL la lm.toNatClampNeg (((ys ib.toNatClampNeg) - (ys ia.toNatClampNeg)).toInt64)) lm.toNatClampNeg) * ((xs ia.toNatClampNeg).toInt64)) + (((vp_updL lb lm.toNatClampNeg (((xs ia.toNatClampNeg) - (xs ib.toNatClampNeg)).toInt64)) lm.toNatClampNeg) * ((ys ia.toNatClampNeg).toInt64))))) else (lc)))
def gX5_line_lm (xs ys : Nat → Int32) (pm : Int32) (la lb lc : Nat → Int64) (lm : Int32) (ia : Int32) (ib : Int32) : Int32 := if (fX5_isPoint pm ia) = (0 : Int32) then (lm) else (if (fX5_isPoint pm ib) = (0 : Int32) then (lm) else (if (fX5_areEqual xs ys ia ib) = (0 : Int32) then (if lm = (12 : Int32) then (lm) else (lm + (1 : Int32))) else (lm)))
set_option maxHeartbeats 4000000 in
set_option maxRecDepth 100000 in
theorem ct5_line (l : Launch) (D : va_G) (sz : Nat) (m1 m2 m3 m4 m5 m6 m7 : Nat) (kI kJ : ClassId) (xs ys held : Nat → Int32) (la lb lc : Nat → Int64) (th pm rm on cl un ze lm : Int32) (ia : Int32) (ib : Int32) (opm : pm.toInt ≤ (60 : Nat)) (olm : lm.toInt ≤ (12 : Nat)) (oln : 0 ≤ lm.toInt) : Met l yX5_line (Cond.code yX5_line cX5_line 3 (some .int) :: BY) ({ frames := 2, cells := 0, slots := 0, locals := 120 }) (xw_P nN D vwCl [(kI, .int), (kJ, .long)] (wMo m1 m2 m3 m4 m5 m6 m7 kI kJ xs ys held la lb lc th pm rm on cl un ze lm) sz [.ref m1, .int ia, .int ib]) (xw_Q D vwCl (some (.int (fX5_line xs ys pm la lb lc lm ia ib))) (wMo m1 m2 m3 m4 m5 m6 m7 kI kJ xs ys held la lb lc th pm rm on cl un ze lm) (wMo m1 m2 m3 m4 m5 m6 m7 kI kJ xs ys held (gX5_line_la xs ys pm la lb lc lm ia ib) (gX5_line_lb xs ys pm la lb lc lm ia ib) (gX5_line_lc xs ys pm la lb lc lm ia ib) (0 : Int32) pm rm on cl un ze (gX5_line_lm xs ys pm la lb lc lm ia ib)) sz) 0 0 (va_A (wMo m1 m2 m3 m4 m5 m6 m7 kI kJ xs ys held la lb lc th pm rm on cl un ze lm) sz) := by
  refine Met.ofW (cc := cX5_line) (maxL := 3) (ret := (some .int)) (by decide) rfl ?_
  intro p e s m args below meth c s₁ B hml hv
  obtain ⟨rfl, hsz, hP, hK, hN, hD0⟩ := hv
  have hx := B.exec
  have hb := B.bytes
  have hr := B.returns
  have hts0 := atoms_spec (ws := Cond.code yX5_line cX5_line 3 (some .int) :: BY) B.pre
  have hts : ∀ w ∈ BY, w.before _ s = true := fun w h => hts0 w (List.mem_cons_of_mem _ h)
  have hown : s.vm.findClass RX5 = some m.cls := findClass_of_methodNamed B.named
  have hlocks := B.notSynchronized
  subst hsz
  have hD := hD0.self (sz := s.heap.size)
  generalize hAe : va_A (wMo m1 m2 m3 m4 m5 m6 m7 kI kJ xs ys held la lb lc th pm rm on cl un ze lm) s.heap.size = A at hD ⊢
  have hA : ∀ q : Nat, s.heap.size ≤ q → A q := fun q h => by rw [← hAe]; exact Or.inr h
  have hS : va_S A s.heap s.heap [] := va_S.rf
  have hP : va_P D vwCl [(m1, .inr (9, [.int th, .int pm, .ref m2, .ref m3, .int rm, .ref m4, .int on, .int cl, .int un, .int ze, .int lm, .ref m5, .ref m6, .ref m7])), (m2, .inl (kI, 60, .inl xs)), (m3, .inl (kI, 60, .inl ys)), (m4, .inl (kI, 24, .inl held)), (m5, .inl (kJ, 12, .inr (.inl la))), (m6, .inl (kJ, 12, .inr (.inl lb))), (m7, .inl (kJ, 12, .inr (.inl lc)))] s.heap := hP
  have hD : va_D A [(m1, .inr (9, [.int th, .int pm, .ref m2, .ref m3, .int rm, .ref m4, .int on, .int cl, .int un, .int ze, .int lm, .ref m5, .ref m6, .ref m7])), (m2, .inl (kI, 60, .inl xs)), (m3, .inl (kI, 60, .inl ys)), (m4, .inl (kI, 24, .inl held)), (m5, .inl (kJ, 12, .inr (.inl la))), (m6, .inl (kJ, 12, .inr (.inl lb))), (m7, .inl (kJ, 12, .inr (.inl lc)))] := hD
  have hl := lv_entry ([.ref m1, .int ia, .int ib]) (n := 3) (Nat.le_of_ble_eq_true rfl)
  rw [lg_entry_eq]
  generalize (lg_sl ([.ref m1, .int ia, .int ib]) ++ List.replicate (3 - (lg_sl ([.ref m1, .int ia, .int ib])).length) Slot.unset).toArray = ls at hl ⊢
  have hl : lv_has ls 3 [(0, .ref m1), (1, .int ia), (2, .int ib)] := hl
  refine lv_aload_n hx hb dX5_line_0 rfl (lv_at hl 0 rfl) ?_
  refine lv_iconst (v := 0) hx hb dX5_line_1 (by decide) ?_
  refine va_put (D := D) (ci := 9) (v := .int (0 : Int32)) (ty := .int) (C := RX5) (T := TX5) (N := 14) hx hb hts hinX5 tyX5 tyX5_ok nmX5 hown hK hP hD hS 0 rfl rfl 0 (by decide) (hts _ fk_X5_1) (fun _ h9 => h9) rfl (by decide +kernel) rfl rfl (Nat.le_of_ble_eq_true rfl) dX5_line_2 (fun H locs hP hD hS => ?_)
  have hP : va_P D vwCl [(m1, .inr (9, [.int (0 : Int32), .int pm, .ref m2, .ref m3, .int rm, .ref m4, .int on, .int cl, .int un, .int ze, .int lm, .ref m5, .ref m6, .ref m7])), (m2, .inl (kI, 60, .inl xs)), (m3, .inl (kI, 60, .inl ys)), (m4, .inl (kI, 24, .inl held)), (m5, .inl (kJ, 12, .inr (.inl la))), (m6, .inl (kJ, 12, .inr (.inl lb))), (m7, .inl (kJ, 12, .inr (.inl lc)))] H := hP
  have hD : va_D A [(m1, .inr (9, [.int (0 : Int32), .int pm, .ref m2, .ref m3, .int rm, .ref m4, .int on, .int cl, .int un, .int ze, .int lm, .ref m5, .ref m6, .ref m7])), (m2, .inl (kI, 60, .inl xs)), (m3, .inl (kI, 60, .inl ys)), (m4, .inl (kI, 24, .inl held)), (m5, .inl (kJ, 12, .inr (.inl la))), (m6, .inl (kJ, 12, .inr (.inl lb))), (m7, .inl (kJ, 12, .inr (.inl lc)))] := hD
  refine lv_aload_n hx hb dX5_line_5 rfl (lv_at hl 0 rfl) ?_
  refine lv_iload_n hx hb dX5_line_6 rfl (lv_at hl 1 rfl) ?_
  refine xr_V (q := (RX5, TX5, 14)) (ci := 9) (q0 := 0) (rest := []) (As := [.int ia]) ⟨hx, hb, hml, hown, hts⟩ (ct5_isPoint l D m1 m2 m3 m4 m5 m6 m7 kI kJ xs ys held la lb lc (0 : Int32) pm rm on cl un ze lm ia ) (cwV 1 hts gl_X5_69 rfl rfl rfl (by decide +kernel) ⟨Nat.le_of_ble_eq_true rfl, Nat.le_of_ble_eq_true rfl⟩) nN_mv hN hK hP [0, 1, 2, 3, 4, 5, 6] [0, 1] rfl rfl rfl rfl rfl hl.1 rfl (Nat.le_of_ble_eq_true rfl) dX5_line_7 ⟨Nat.le_of_ble_eq_true rfl, Nat.le_of_ble_eq_true rfl⟩ ?_
  refine lv_if_eq (tgt := 21) hx hb dX5_line_10 (by decide) (fun c1 => ?_) (fun c1 => ?_)
  · refine lv_bipush (v := (-2)) hx hb dX5_line_21 (by decide) ?_
    have hP9 := hP
    have hD9 := hD
    have hS9 := hS
    have qv : fX5_line xs ys pm la lb lc lm ia ib = (-2 : Int32) := by unfold fX5_line; rw [if_pos c1]
    have q_la : gX5_line_la xs ys pm la lb lc lm ia ib = la := by unfold gX5_line_la; rw [if_pos c1]
    have q_lb : gX5_line_lb xs ys pm la lb lc lm ia ib = lb := by unfold gX5_line_lb; rw [if_pos c1]
    have q_lc : gX5_line_lc xs ys pm la lb lc lm ia ib = lc := by unfold gX5_line_lc; rw [if_pos c1]
    have q_lm : gX5_line_lm xs ys pm la lb lc lm ia ib = lm := by unfold gX5_line_lm; rw [if_pos c1]
    rw [qv, q_la, q_lb, q_lc, q_lm]
    exact W.iret (v := (-2 : Int32)) hx hb hr (fun t ht hW => ⟨⟨rfl, by rw [ht]; exact hP9, by rw [hAe]; exact hD9⟩, by rw [hAe]; exact hS9.F ht⟩) hS9.2.2 dX5_line_23
  · refine lv_aload_n hx hb dX5_line_13 rfl (lv_at hl 0 rfl) ?_
    refine lv_iload_n hx hb dX5_line_14 rfl (lv_at hl 2 rfl) ?_
    refine xr_V (q := (RX5, TX5, 14)) (ci := 9) (q0 := 0) (rest := []) (As := [.int ib]) ⟨hx, hb, hml, hown, hts⟩ (ct5_isPoint l D m1 m2 m3 m4 m5 m6 m7 kI kJ xs ys held la lb lc (0 : Int32) pm rm on cl un ze lm ib ) (cwV 1 hts gl_X5_69 rfl rfl rfl (by decide +kernel) ⟨Nat.le_of_ble_eq_true rfl, Nat.le_of_ble_eq_true rfl⟩) nN_mv hN hK hP [0, 1, 2, 3, 4, 5, 6] [0, 1] rfl rfl rfl rfl rfl hl.1 rfl (Nat.le_of_ble_eq_true rfl) dX5_line_15 ⟨Nat.le_of_ble_eq_true rfl, Nat.le_of_ble_eq_true rfl⟩ ?_
    refine lv_if_ne (tgt := 24) hx hb dX5_line_18 (by decide) (fun c2 => ?_) (fun c2 => ?_)
    · refine lv_aload_n hx hb dX5_line_24 rfl (lv_at hl 0 rfl) ?_
      refine lv_iload_n hx hb dX5_line_25 rfl (lv_at hl 1 rfl) ?_
      refine lv_iload_n hx hb dX5_line_26 rfl (lv_at hl 2 rfl) ?_
      refine xr_V (q := (RX5, TX5, 14)) (ci := 9) (q0 := 0) (rest := []) (As := [.int ia, .int ib]) ⟨hx, hb, hml, hown, hts⟩ (ct5_areEqual l D m1 m2 m3 m4 m5 m6 m7 kI kJ xs ys held la lb lc (0 : Int32) pm rm on cl un ze lm ia ib (o_pt c1 opm) (o_pt c2 opm)) (cwV 2 hts gl_X5_107 rfl rfl rfl (by decide +kernel) ⟨Nat.le_of_ble_eq_true rfl, Nat.le_of_ble_eq_true rfl⟩) nN_mv hN hK hP [0, 1, 2, 3, 4, 5, 6] [0, 1] rfl rfl rfl rfl rfl hl.1 rfl (Nat.le_of_ble_eq_true rfl) dX5_line_27 ⟨Nat.le_of_ble_eq_true rfl, Nat.le_of_ble_eq_true rfl⟩ ?_
      refine lv_if_eq (tgt := 36) hx hb dX5_line_30 (by decide) (fun c3 => ?_) (fun c3 => ?_)
      · refine lv_aload_n hx hb dX5_line_36 rfl (lv_at hl 0 rfl) ?_
        refine va_get (D := D) (ci := 9) (v := .int lm) (C := RX5) (T := TX5) (N := 14) hx hb hts hinX5 hown hK hP 0 rfl rfl 10 (by decide) (hts _ fk_X5_168) (fun _ h9 => h9) rfl dX5_line_37 ?_
        refine lv_bipush (v := 12) hx hb dX5_line_40 (by decide) ?_
        refine lv_icmp_ne (tgt := 48) hx hb dX5_line_42 (by decide) (fun c4 => ?_) (fun c4 => ?_)
        · refine lv_aload_n hx hb dX5_line_48 rfl (lv_at hl 0 rfl) ?_
          refine va_get (D := D) (ci := 9) (v := .ref m5) (C := RX5) (T := TX5) (N := 14) hx hb hts hinX5 hown hK hP 0 rfl rfl 11 (by decide) (hts _ fk_X5_27) (fun _ h9 => h9) rfl dX5_line_49 ?_
          refine lv_aload_n hx hb dX5_line_52 rfl (lv_at hl 0 rfl) ?_
          refine va_get (D := D) (ci := 9) (v := .int lm) (C := RX5) (T := TX5) (N := 14) hx hb hts hinX5 hown hK hP 0 rfl rfl 10 (by decide) (hts _ fk_X5_168) (fun _ h9 => h9) rfl dX5_line_53 ?_
          refine lv_aload_n hx hb dX5_line_56 rfl (lv_at hl 0 rfl) ?_
          refine va_get (D := D) (ci := 9) (v := .ref m3) (C := RX5) (T := TX5) (N := 14) hx hb hts hinX5 hown hK hP 0 rfl rfl 3 (by decide) (hts _ fk_X5_17) (fun _ h9 => h9) rfl dX5_line_57 ?_
          refine lv_iload_n hx hb dX5_line_60 rfl (lv_at hl 2 rfl) ?_
          refine va_iald hx hb hK hP 2 0 rfl rfl (o_pt c2 opm) dX5_line_61 ?_
          refine lv_aload_n hx hb dX5_line_62 rfl (lv_at hl 0 rfl) ?_
          refine va_get (D := D) (ci := 9) (v := .ref m3) (C := RX5) (T := TX5) (N := 14) hx hb hts hinX5 hown hK hP 0 rfl rfl 3 (by decide) (hts _ fk_X5_17) (fun _ h9 => h9) rfl dX5_line_63 ?_
          refine lv_iload_n hx hb dX5_line_66 rfl (lv_at hl 1 rfl) ?_
          refine va_iald hx hb hK hP 2 0 rfl rfl (o_pt c1 opm) dX5_line_67 ?_
          refine lv_isub hx hb dX5_line_68 ?_
          refine lv_i2l hx hb dX5_line_69 rfl ?_
          refine lv_topl (fun z5 ez5 => ?_)
          refine va_last hx hb hK hP hD hS 4 1 rfl rfl (o_lm olm oln c4) dX5_line_70 (fun H locs hP hD hS => ?_)
          have hP : va_P D vwCl [(m1, .inr (9, [.int (0 : Int32), .int pm, .ref m2, .ref m3, .int rm, .ref m4, .int on, .int cl, .int un, .int ze, .int lm, .ref m5, .ref m6, .ref m7])), (m2, .inl (kI, 60, .inl xs)), (m3, .inl (kI, 60, .inl ys)), (m4, .inl (kI, 24, .inl held)), (m5, .inl (kJ, 12, .inr (.inl (vp_updL la lm.toNatClampNeg z5)))), (m6, .inl (kJ, 12, .inr (.inl lb))), (m7, .inl (kJ, 12, .inr (.inl lc)))] H := hP
          have hD : va_D A [(m1, .inr (9, [.int (0 : Int32), .int pm, .ref m2, .ref m3, .int rm, .ref m4, .int on, .int cl, .int un, .int ze, .int lm, .ref m5, .ref m6, .ref m7])), (m2, .inl (kI, 60, .inl xs)), (m3, .inl (kI, 60, .inl ys)), (m4, .inl (kI, 24, .inl held)), (m5, .inl (kJ, 12, .inr (.inl (vp_updL la lm.toNatClampNeg z5)))), (m6, .inl (kJ, 12, .inr (.inl lb))), (m7, .inl (kJ, 12, .inr (.inl lc)))] := hD
          refine lv_aload_n hx hb dX5_line_71 rfl (lv_at hl 0 rfl) ?_
          refine va_get (D := D) (ci := 9) (v := .ref m6) (C := RX5) (T := TX5) (N := 14) hx hb hts hinX5 hown hK hP 0 rfl rfl 12 (by decide) (hts _ fk_X5_31) (fun _ h9 => h9) rfl dX5_line_72 ?_
          refine lv_aload_n hx hb dX5_line_75 rfl (lv_at hl 0 rfl) ?_
          refine va_get (D := D) (ci := 9) (v := .int lm) (C := RX5) (T := TX5) (N := 14) hx hb hts hinX5 hown hK hP 0 rfl rfl 10 (by decide) (hts _ fk_X5_168) (fun _ h9 => h9) rfl dX5_line_76 ?_
          refine lv_aload_n hx hb dX5_line_79 rfl (lv_at hl 0 rfl) ?_
          refine va_get (D := D) (ci := 9) (v := .ref m2) (C := RX5) (T := TX5) (N := 14) hx hb hts hinX5 hown hK hP 0 rfl rfl 2 (by decide) (hts _ fk_X5_13) (fun _ h9 => h9) rfl dX5_line_80 ?_
          refine lv_iload_n hx hb dX5_line_83 rfl (lv_at hl 1 rfl) ?_
          refine va_iald hx hb hK hP 1 0 rfl rfl (o_pt c1 opm) dX5_line_84 ?_
          refine lv_aload_n hx hb dX5_line_85 rfl (lv_at hl 0 rfl) ?_
          refine va_get (D := D) (ci := 9) (v := .ref m2) (C := RX5) (T := TX5) (N := 14) hx hb hts hinX5 hown hK hP 0 rfl rfl 2 (by decide) (hts _ fk_X5_13) (fun _ h9 => h9) rfl dX5_line_86 ?_
          refine lv_iload_n hx hb dX5_line_89 rfl (lv_at hl 2 rfl) ?_
          refine va_iald hx hb hK hP 1 0 rfl rfl (o_pt c2 opm) dX5_line_90 ?_
          refine lv_isub hx hb dX5_line_91 ?_
          refine lv_i2l hx hb dX5_line_92 rfl ?_
          refine lv_topl (fun z6 ez6 => ?_)
          refine va_last hx hb hK hP hD hS 5 1 rfl rfl (o_lm olm oln c4) dX5_line_93 (fun H locs hP hD hS => ?_)
          have hP : va_P D vwCl [(m1, .inr (9, [.int (0 : Int32), .int pm, .ref m2, .ref m3, .int rm, .ref m4, .int on, .int cl, .int un, .int ze, .int lm, .ref m5, .ref m6, .ref m7])), (m2, .inl (kI, 60, .inl xs)), (m3, .inl (kI, 60, .inl ys)), (m4, .inl (kI, 24, .inl held)), (m5, .inl (kJ, 12, .inr (.inl (vp_updL la lm.toNatClampNeg z5)))), (m6, .inl (kJ, 12, .inr (.inl (vp_updL lb lm.toNatClampNeg z6)))), (m7, .inl (kJ, 12, .inr (.inl lc)))] H := hP
          have hD : va_D A [(m1, .inr (9, [.int (0 : Int32), .int pm, .ref m2, .ref m3, .int rm, .ref m4, .int on, .int cl, .int un, .int ze, .int lm, .ref m5, .ref m6, .ref m7])), (m2, .inl (kI, 60, .inl xs)), (m3, .inl (kI, 60, .inl ys)), (m4, .inl (kI, 24, .inl held)), (m5, .inl (kJ, 12, .inr (.inl (vp_updL la lm.toNatClampNeg z5)))), (m6, .inl (kJ, 12, .inr (.inl (vp_updL lb lm.toNatClampNeg z6)))), (m7, .inl (kJ, 12, .inr (.inl lc)))] := hD
          refine lv_aload_n hx hb dX5_line_94 rfl (lv_at hl 0 rfl) ?_
          refine va_get (D := D) (ci := 9) (v := .ref m7) (C := RX5) (T := TX5) (N := 14) hx hb hts hinX5 hown hK hP 0 rfl rfl 13 (by decide) (hts _ fk_X5_34) (fun _ h9 => h9) rfl dX5_line_95 ?_
          refine lv_aload_n hx hb dX5_line_98 rfl (lv_at hl 0 rfl) ?_
          refine va_get (D := D) (ci := 9) (v := .int lm) (C := RX5) (T := TX5) (N := 14) hx hb hts hinX5 hown hK hP 0 rfl rfl 10 (by decide) (hts _ fk_X5_168) (fun _ h9 => h9) rfl dX5_line_99 ?_
          refine lv_aload_n hx hb dX5_line_102 rfl (lv_at hl 0 rfl) ?_
          refine va_get (D := D) (ci := 9) (v := .ref m5) (C := RX5) (T := TX5) (N := 14) hx hb hts hinX5 hown hK hP 0 rfl rfl 11 (by decide) (hts _ fk_X5_27) (fun _ h9 => h9) rfl dX5_line_103 ?_
          refine lv_aload_n hx hb dX5_line_106 rfl (lv_at hl 0 rfl) ?_
          refine va_get (D := D) (ci := 9) (v := .int lm) (C := RX5) (T := TX5) (N := 14) hx hb hts hinX5 hown hK hP 0 rfl rfl 10 (by decide) (hts _ fk_X5_168) (fun _ h9 => h9) rfl dX5_line_107 ?_
          refine va_lald hx hb hK hP 4 1 rfl rfl (o_lm olm oln c4) dX5_line_110 ?_
          refine lv_aload_n hx hb dX5_line_111 rfl (lv_at hl 0 rfl) ?_
          refine va_get (D := D) (ci := 9) (v := .ref m2) (C := RX5) (T := TX5) (N := 14) hx hb hts hinX5 hown hK hP 0 rfl rfl 2 (by decide) (hts _ fk_X5_13) (fun _ h9 => h9) rfl dX5_line_112 ?_
          refine lv_iload_n hx hb dX5_line_115 rfl (lv_at hl 1 rfl) ?_
          refine va_iald hx hb hK hP 1 0 rfl rfl (o_pt c1 opm) dX5_line_116 ?_
          refine lv_i2l hx hb dX5_line_117 rfl ?_
          refine lv_lmul hx hb dX5_line_118 ?_
          refine lv_aload_n hx hb dX5_line_119 rfl (lv_at hl 0 rfl) ?_
          refine va_get (D := D) (ci := 9) (v := .ref m6) (C := RX5) (T := TX5) (N := 14) hx hb hts hinX5 hown hK hP 0 rfl rfl 12 (by decide) (hts _ fk_X5_31) (fun _ h9 => h9) rfl dX5_line_120 ?_
          refine lv_aload_n hx hb dX5_line_123 rfl (lv_at hl 0 rfl) ?_
          refine va_get (D := D) (ci := 9) (v := .int lm) (C := RX5) (T := TX5) (N := 14) hx hb hts hinX5 hown hK hP 0 rfl rfl 10 (by decide) (hts _ fk_X5_168) (fun _ h9 => h9) rfl dX5_line_124 ?_
          refine va_lald hx hb hK hP 5 1 rfl rfl (o_lm olm oln c4) dX5_line_127 ?_
          refine lv_aload_n hx hb dX5_line_128 rfl (lv_at hl 0 rfl) ?_
          refine va_get (D := D) (ci := 9) (v := .ref m3) (C := RX5) (T := TX5) (N := 14) hx hb hts hinX5 hown hK hP 0 rfl rfl 3 (by decide) (hts _ fk_X5_17) (fun _ h9 => h9) rfl dX5_line_129 ?_
          refine lv_iload_n hx hb dX5_line_132 rfl (lv_at hl 1 rfl) ?_
          refine va_iald hx hb hK hP 2 0 rfl rfl (o_pt c1 opm) dX5_line_133 ?_
          refine lv_i2l hx hb dX5_line_134 rfl ?_
          refine lv_lmul hx hb dX5_line_135 ?_
          refine lv_ladd hx hb dX5_line_136 ?_
          refine lv_topl (fun z7 ez7 => ?_)
          refine va_last hx hb hK hP hD hS 6 1 rfl rfl (o_lm olm oln c4) dX5_line_137 (fun H locs hP hD hS => ?_)
          have hP : va_P D vwCl [(m1, .inr (9, [.int (0 : Int32), .int pm, .ref m2, .ref m3, .int rm, .ref m4, .int on, .int cl, .int un, .int ze, .int lm, .ref m5, .ref m6, .ref m7])), (m2, .inl (kI, 60, .inl xs)), (m3, .inl (kI, 60, .inl ys)), (m4, .inl (kI, 24, .inl held)), (m5, .inl (kJ, 12, .inr (.inl (vp_updL la lm.toNatClampNeg z5)))), (m6, .inl (kJ, 12, .inr (.inl (vp_updL lb lm.toNatClampNeg z6)))), (m7, .inl (kJ, 12, .inr (.inl (vp_updL lc lm.toNatClampNeg z7))))] H := hP
          have hD : va_D A [(m1, .inr (9, [.int (0 : Int32), .int pm, .ref m2, .ref m3, .int rm, .ref m4, .int on, .int cl, .int un, .int ze, .int lm, .ref m5, .ref m6, .ref m7])), (m2, .inl (kI, 60, .inl xs)), (m3, .inl (kI, 60, .inl ys)), (m4, .inl (kI, 24, .inl held)), (m5, .inl (kJ, 12, .inr (.inl (vp_updL la lm.toNatClampNeg z5)))), (m6, .inl (kJ, 12, .inr (.inl (vp_updL lb lm.toNatClampNeg z6)))), (m7, .inl (kJ, 12, .inr (.inl (vp_updL lc lm.toNatClampNeg z7))))] := hD
          refine lv_aload_n hx hb dX5_line_138 rfl (lv_at hl 0 rfl) ?_
          refine lv_dup hx hb dX5_line_139 rfl ?_
          refine va_get (D := D) (ci := 9) (v := .int lm) (C := RX5) (T := TX5) (N := 14) hx hb hts hinX5 hown hK hP 0 rfl rfl 10 (by decide) (hts _ fk_X5_168) (fun _ h9 => h9) rfl dX5_line_140 ?_
          refine lv_iconst (v := 1) hx hb dX5_line_143 (by decide) ?_
          refine lv_iadd hx hb dX5_line_144 ?_
          refine va_put (D := D) (ci := 9) (v := .int (lm + (1 : Int32))) (ty := .int) (C := RX5) (T := TX5) (N := 14) hx hb hts hinX5 tyX5 tyX5_ok nmX5 hown hK hP hD hS 0 rfl rfl 10 (by decide) (hts _ fk_X5_168) (fun _ h9 => h9) rfl (by decide +kernel) rfl rfl (Nat.le_of_ble_eq_true rfl) dX5_line_145 (fun H locs hP hD hS => ?_)
          have hP : va_P D vwCl [(m1, .inr (9, [.int (0 : Int32), .int pm, .ref m2, .ref m3, .int rm, .ref m4, .int on, .int cl, .int un, .int ze, .int (lm + (1 : Int32)), .ref m5, .ref m6, .ref m7])), (m2, .inl (kI, 60, .inl xs)), (m3, .inl (kI, 60, .inl ys)), (m4, .inl (kI, 24, .inl held)), (m5, .inl (kJ, 12, .inr (.inl (vp_updL la lm.toNatClampNeg z5)))), (m6, .inl (kJ, 12, .inr (.inl (vp_updL lb lm.toNatClampNeg z6)))), (m7, .inl (kJ, 12, .inr (.inl (vp_updL lc lm.toNatClampNeg z7))))] H := hP
          have hD : va_D A [(m1, .inr (9, [.int (0 : Int32), .int pm, .ref m2, .ref m3, .int rm, .ref m4, .int on, .int cl, .int un, .int ze, .int (lm + (1 : Int32)), .ref m5, .ref m6, .ref m7])), (m2, .inl (kI, 60, .inl xs)), (m3, .inl (kI, 60, .inl ys)), (m4, .inl (kI, 24, .inl held)), (m5, .inl (kJ, 12, .inr (.inl (vp_updL la lm.toNatClampNeg z5)))), (m6, .inl (kJ, 12, .inr (.inl (vp_updL lb lm.toNatClampNeg z6)))), (m7, .inl (kJ, 12, .inr (.inl (vp_updL lc lm.toNatClampNeg z7))))] := hD
          refine lv_aload_n hx hb dX5_line_148 rfl (lv_at hl 0 rfl) ?_
          refine va_get (D := D) (ci := 9) (v := .int (lm + (1 : Int32))) (C := RX5) (T := TX5) (N := 14) hx hb hts hinX5 hown hK hP 0 rfl rfl 10 (by decide) (hts _ fk_X5_168) (fun _ h9 => h9) rfl dX5_line_149 ?_
          refine lv_iconst (v := 1) hx hb dX5_line_152 (by decide) ?_
          refine lv_isub hx hb dX5_line_153 ?_
          have hP9 := hP
          have hD9 := hD
          have hS9 := hS
          subst ez7 ez6 ez5
          have qv : fX5_line xs ys pm la lb lc lm ia ib = (lm + (1 : Int32)) - (1 : Int32) := by unfold fX5_line; rw [if_neg c1, if_neg c2, if_pos c3, if_neg c4]
          have q_la : gX5_line_la xs ys pm la lb lc lm ia ib = vp_updL la lm.toNatClampNeg (((ys ib.toNatClampNeg) - (ys ia.toNatClampNeg)).toInt64) := by unfold gX5_line_la; rw [if_neg c1, if_neg c2, if_pos c3, if_neg c4]
          have q_lb : gX5_line_lb xs ys pm la lb lc lm ia ib = vp_updL lb lm.toNatClampNeg (((xs ia.toNatClampNeg) - (xs ib.toNatClampNeg)).toInt64) := by unfold gX5_line_lb; rw [if_neg c1, if_neg c2, if_pos c3, if_neg c4]
          have q_lc : gX5_line_lc xs ys pm la lb lc lm ia ib = vp_updL lc lm.toNatClampNeg ((((vp_updL la lm.toNatClampNeg (((ys ib.toNatClampNeg) - (ys ia.toNatClampNeg)).toInt64)) lm.toNatClampNeg) * ((xs ia.toNatClampNeg).toInt64)) + (((vp_updL lb lm.toNatClampNeg (((xs ia.toNatClampNeg) - (xs ib.toNatClampNeg)).toInt64)) lm.toNatClampNeg) * ((ys ia.toNatClampNeg).toInt64))) := by unfold gX5_line_lc; rw [if_neg c1, if_neg c2, if_pos c3, if_neg c4]
          have q_lm : gX5_line_lm xs ys pm la lb lc lm ia ib = lm + (1 : Int32) := by unfold gX5_line_lm; rw [if_neg c1, if_neg c2, if_pos c3, if_neg c4]
          rw [qv, q_la, q_lb, q_lc, q_lm]
          exact W.iret (v := (lm + (1 : Int32)) - (1 : Int32)) hx hb hr (fun t ht hW => ⟨⟨rfl, by rw [ht]; exact hP9, by rw [hAe]; exact hD9⟩, by rw [hAe]; exact hS9.F ht⟩) hS9.2.2 dX5_line_154
        · refine lv_bipush (v := (-3)) hx hb dX5_line_45 (by decide) ?_
          have hP9 := hP
          have hD9 := hD
          have hS9 := hS
          have qv : fX5_line xs ys pm la lb lc lm ia ib = (-3 : Int32) := by unfold fX5_line; rw [if_neg c1, if_neg c2, if_pos c3, if_pos c4]
          have q_la : gX5_line_la xs ys pm la lb lc lm ia ib = la := by unfold gX5_line_la; rw [if_neg c1, if_neg c2, if_pos c3, if_pos c4]
          have q_lb : gX5_line_lb xs ys pm la lb lc lm ia ib = lb := by unfold gX5_line_lb; rw [if_neg c1, if_neg c2, if_pos c3, if_pos c4]
          have q_lc : gX5_line_lc xs ys pm la lb lc lm ia ib = lc := by unfold gX5_line_lc; rw [if_neg c1, if_neg c2, if_pos c3, if_pos c4]
          have q_lm : gX5_line_lm xs ys pm la lb lc lm ia ib = lm := by unfold gX5_line_lm; rw [if_neg c1, if_neg c2, if_pos c3, if_pos c4]
          rw [qv, q_la, q_lb, q_lc, q_lm]
          exact W.iret (v := (-3 : Int32)) hx hb hr (fun t ht hW => ⟨⟨rfl, by rw [ht]; exact hP9, by rw [hAe]; exact hD9⟩, by rw [hAe]; exact hS9.F ht⟩) hS9.2.2 dX5_line_47
      · refine lv_bipush (v := (-4)) hx hb dX5_line_33 (by decide) ?_
        have hP9 := hP
        have hD9 := hD
        have hS9 := hS
        have qv : fX5_line xs ys pm la lb lc lm ia ib = (-4 : Int32) := by unfold fX5_line; rw [if_neg c1, if_neg c2, if_neg c3]
        have q_la : gX5_line_la xs ys pm la lb lc lm ia ib = la := by unfold gX5_line_la; rw [if_neg c1, if_neg c2, if_neg c3]
        have q_lb : gX5_line_lb xs ys pm la lb lc lm ia ib = lb := by unfold gX5_line_lb; rw [if_neg c1, if_neg c2, if_neg c3]
        have q_lc : gX5_line_lc xs ys pm la lb lc lm ia ib = lc := by unfold gX5_line_lc; rw [if_neg c1, if_neg c2, if_neg c3]
        have q_lm : gX5_line_lm xs ys pm la lb lc lm ia ib = lm := by unfold gX5_line_lm; rw [if_neg c1, if_neg c2, if_neg c3]
        rw [qv, q_la, q_lb, q_lc, q_lm]
        exact W.iret (v := (-4 : Int32)) hx hb hr (fun t ht hW => ⟨⟨rfl, by rw [ht]; exact hP9, by rw [hAe]; exact hD9⟩, by rw [hAe]; exact hS9.F ht⟩) hS9.2.2 dX5_line_35
    · refine lv_bipush (v := (-2)) hx hb dX5_line_21 (by decide) ?_
      have hP9 := hP
      have hD9 := hD
      have hS9 := hS
      have qv : fX5_line xs ys pm la lb lc lm ia ib = (-2 : Int32) := by unfold fX5_line; rw [if_neg c1, if_pos c2]
      have q_la : gX5_line_la xs ys pm la lb lc lm ia ib = la := by unfold gX5_line_la; rw [if_neg c1, if_pos c2]
      have q_lb : gX5_line_lb xs ys pm la lb lc lm ia ib = lb := by unfold gX5_line_lb; rw [if_neg c1, if_pos c2]
      have q_lc : gX5_line_lc xs ys pm la lb lc lm ia ib = lc := by unfold gX5_line_lc; rw [if_neg c1, if_pos c2]
      have q_lm : gX5_line_lm xs ys pm la lb lc lm ia ib = lm := by unfold gX5_line_lm; rw [if_neg c1, if_pos c2]
      rw [qv, q_la, q_lb, q_lc, q_lm]
      exact W.iret (v := (-2 : Int32)) hx hb hr (fun t ht hW => ⟨⟨rfl, by rw [ht]; exact hP9, by rw [hAe]; exact hD9⟩, by rw [hAe]; exact hS9.F ht⟩) hS9.2.2 dX5_line_23
def fX5_of (held : Nat → Int32) (rm pm : Int32) (ia : Int32) (ip : Int32) : Int32 := if ip = (-1 : Int32) then (if (fX5_isPlace rm ia) = (0 : Int32) then (fX5_fail (1 : Int32)) else (held ia.toNatClampNeg)) else (if (fX5_isPoint pm ip) = (0 : Int32) then ((-2 : Int32)) else (if (fX5_isPlace rm ia) = (0 : Int32) then (fX5_fail (1 : Int32)) else (held ia.toNatClampNeg)))
def gX5_of_th (held : Nat → Int32) (rm pm : Int32) (ia : Int32) (ip : Int32) : Int32 := if ip = (-1 : Int32) then (if (fX5_isPlace rm ia) = (0 : Int32) then (gX5_fail_th (1 : Int32)) else ((0 : Int32))) else (if (fX5_isPoint pm ip) = (0 : Int32) then ((0 : Int32)) else (if (fX5_isPlace rm ia) = (0 : Int32) then (gX5_fail_th (1 : Int32)) else ((0 : Int32))))
def gX5_of_held (held : Nat → Int32) (rm pm : Int32) (ia : Int32) (ip : Int32) : Nat → Int32 := if ip = (-1 : Int32) then (if (fX5_isPlace rm ia) = (0 : Int32) then (held) else (upd held ia.toNatClampNeg ip)) else (if (fX5_isPoint pm ip) = (0 : Int32) then (held) else (if (fX5_isPlace rm ia) = (0 : Int32) then (held) else (upd held ia.toNatClampNeg ip)))
set_option maxHeartbeats 4000000 in
set_option maxRecDepth 100000 in
theorem ct5_of (l : Launch) (D : va_G) (sz : Nat) (m1 m2 m3 m4 m5 m6 m7 : Nat) (kI kJ : ClassId) (xs ys held : Nat → Int32) (la lb lc : Nat → Int64) (th pm rm on cl un ze lm : Int32) (ia : Int32) (ip : Int32) (orm : rm.toInt ≤ (24 : Nat)) : Met l yX5_of (Cond.code yX5_of cX5_of 4 (some .int) :: BY) ({ frames := 1, cells := 0, slots := 0, locals := 60 }) (xw_P nN D vwCl [(kI, .int), (kJ, .long)] (wMo m1 m2 m3 m4 m5 m6 m7 kI kJ xs ys held la lb lc th pm rm on cl un ze lm) sz [.ref m1, .int ia, .int ip]) (xw_Q D vwCl (some (.int (fX5_of held rm pm ia ip))) (wMo m1 m2 m3 m4 m5 m6 m7 kI kJ xs ys held la lb lc th pm rm on cl un ze lm) (wMo m1 m2 m3 m4 m5 m6 m7 kI kJ xs ys (gX5_of_held held rm pm ia ip) la lb lc (gX5_of_th held rm pm ia ip) pm rm on cl un ze lm) sz) 0 0 (va_A (wMo m1 m2 m3 m4 m5 m6 m7 kI kJ xs ys held la lb lc th pm rm on cl un ze lm) sz) := by
  refine Met.ofW (cc := cX5_of) (maxL := 4) (ret := (some .int)) (by decide) rfl ?_
  intro p e s m args below meth c s₁ B hml hv
  obtain ⟨rfl, hsz, hP, hK, hN, hD0⟩ := hv
  have hx := B.exec
  have hb := B.bytes
  have hr := B.returns
  have hts0 := atoms_spec (ws := Cond.code yX5_of cX5_of 4 (some .int) :: BY) B.pre
  have hts : ∀ w ∈ BY, w.before _ s = true := fun w h => hts0 w (List.mem_cons_of_mem _ h)
  have hown : s.vm.findClass RX5 = some m.cls := findClass_of_methodNamed B.named
  have hlocks := B.notSynchronized
  subst hsz
  have hD := hD0.self (sz := s.heap.size)
  generalize hAe : va_A (wMo m1 m2 m3 m4 m5 m6 m7 kI kJ xs ys held la lb lc th pm rm on cl un ze lm) s.heap.size = A at hD ⊢
  have hA : ∀ q : Nat, s.heap.size ≤ q → A q := fun q h => by rw [← hAe]; exact Or.inr h
  have hS : va_S A s.heap s.heap [] := va_S.rf
  have hP : va_P D vwCl [(m1, .inr (9, [.int th, .int pm, .ref m2, .ref m3, .int rm, .ref m4, .int on, .int cl, .int un, .int ze, .int lm, .ref m5, .ref m6, .ref m7])), (m2, .inl (kI, 60, .inl xs)), (m3, .inl (kI, 60, .inl ys)), (m4, .inl (kI, 24, .inl held)), (m5, .inl (kJ, 12, .inr (.inl la))), (m6, .inl (kJ, 12, .inr (.inl lb))), (m7, .inl (kJ, 12, .inr (.inl lc)))] s.heap := hP
  have hD : va_D A [(m1, .inr (9, [.int th, .int pm, .ref m2, .ref m3, .int rm, .ref m4, .int on, .int cl, .int un, .int ze, .int lm, .ref m5, .ref m6, .ref m7])), (m2, .inl (kI, 60, .inl xs)), (m3, .inl (kI, 60, .inl ys)), (m4, .inl (kI, 24, .inl held)), (m5, .inl (kJ, 12, .inr (.inl la))), (m6, .inl (kJ, 12, .inr (.inl lb))), (m7, .inl (kJ, 12, .inr (.inl lc)))] := hD
  have hl := lv_entry ([.ref m1, .int ia, .int ip]) (n := 4) (Nat.le_of_ble_eq_true rfl)
  rw [lg_entry_eq]
  generalize (lg_sl ([.ref m1, .int ia, .int ip]) ++ List.replicate (4 - (lg_sl ([.ref m1, .int ia, .int ip])).length) Slot.unset).toArray = ls at hl ⊢
  have hl : lv_has ls 4 [(0, .ref m1), (1, .int ia), (2, .int ip)] := hl
  refine lv_aload_n hx hb dX5_of_0 rfl (lv_at hl 0 rfl) ?_
  refine lv_iconst (v := 0) hx hb dX5_of_1 (by decide) ?_
  refine va_put (D := D) (ci := 9) (v := .int (0 : Int32)) (ty := .int) (C := RX5) (T := TX5) (N := 14) hx hb hts hinX5 tyX5 tyX5_ok nmX5 hown hK hP hD hS 0 rfl rfl 0 (by decide) (hts _ fk_X5_1) (fun _ h9 => h9) rfl (by decide +kernel) rfl rfl (Nat.le_of_ble_eq_true rfl) dX5_of_2 (fun H locs hP hD hS => ?_)
  have hP : va_P D vwCl [(m1, .inr (9, [.int (0 : Int32), .int pm, .ref m2, .ref m3, .int rm, .ref m4, .int on, .int cl, .int un, .int ze, .int lm, .ref m5, .ref m6, .ref m7])), (m2, .inl (kI, 60, .inl xs)), (m3, .inl (kI, 60, .inl ys)), (m4, .inl (kI, 24, .inl held)), (m5, .inl (kJ, 12, .inr (.inl la))), (m6, .inl (kJ, 12, .inr (.inl lb))), (m7, .inl (kJ, 12, .inr (.inl lc)))] H := hP
  have hD : va_D A [(m1, .inr (9, [.int (0 : Int32), .int pm, .ref m2, .ref m3, .int rm, .ref m4, .int on, .int cl, .int un, .int ze, .int lm, .ref m5, .ref m6, .ref m7])), (m2, .inl (kI, 60, .inl xs)), (m3, .inl (kI, 60, .inl ys)), (m4, .inl (kI, 24, .inl held)), (m5, .inl (kJ, 12, .inr (.inl la))), (m6, .inl (kJ, 12, .inr (.inl lb))), (m7, .inl (kJ, 12, .inr (.inl lc)))] := hD
  refine lv_iload_n hx hb dX5_of_5 rfl (lv_at hl 2 rfl) ?_
  refine lv_iconst (v := (-1)) hx hb dX5_of_6 (by decide) ?_
  refine lv_icmp_eq (tgt := 21) hx hb dX5_of_7 (by decide) (fun c1 => ?_) (fun c1 => ?_)
  · refine lv_aload_n hx hb dX5_of_21 rfl (lv_at hl 0 rfl) ?_
    refine lv_iload_n hx hb dX5_of_22 rfl (lv_at hl 1 rfl) ?_
    refine xr_V (q := (RX5, TX5, 14)) (ci := 9) (q0 := 0) (rest := []) (As := [.int ia]) ⟨hx, hb, hml, hown, hts⟩ (ct5_isPlace l D m1 m2 m3 m4 m5 m6 m7 kI kJ xs ys held la lb lc (0 : Int32) pm rm on cl un ze lm ia ) (cwV 1 hts gl_X5_73 rfl rfl rfl (by decide +kernel) ⟨Nat.le_of_ble_eq_true rfl, Nat.le_of_ble_eq_true rfl⟩) nN_mv hN hK hP [0, 1, 2, 3, 4, 5, 6] [0, 1] rfl rfl rfl rfl rfl hl.1 rfl (Nat.le_of_ble_eq_true rfl) dX5_of_23 ⟨Nat.le_of_ble_eq_true rfl, Nat.le_of_ble_eq_true rfl⟩ ?_
    refine lv_if_ne (tgt := 35) hx hb dX5_of_26 (by decide) (fun c2 => ?_) (fun c2 => ?_)
    · refine lv_aload_n hx hb dX5_of_35 rfl (lv_at hl 0 rfl) ?_
      refine va_get (D := D) (ci := 9) (v := .ref m4) (C := RX5) (T := TX5) (N := 14) hx hb hts hinX5 hown hK hP 0 rfl rfl 5 (by decide) (hts _ fk_X5_20) (fun _ h9 => h9) rfl dX5_of_36 ?_
      refine lv_iload_n hx hb dX5_of_39 rfl (lv_at hl 1 rfl) ?_
      refine va_iald hx hb hK hP 3 0 rfl rfl (o_pl c2 orm) dX5_of_40 ?_
      refine lv_istore_n (lv' := [(3, .int (held ia.toNatClampNeg)), (0, .ref m1), (1, .int ia), (2, .int ip)]) hx hb dX5_of_41 rfl hl (by decide) rfl (fun ls hl => ?_)
      refine lv_aload_n hx hb dX5_of_42 rfl (lv_at hl 1 rfl) ?_
      refine va_get (D := D) (ci := 9) (v := .ref m4) (C := RX5) (T := TX5) (N := 14) hx hb hts hinX5 hown hK hP 0 rfl rfl 5 (by decide) (hts _ fk_X5_20) (fun _ h9 => h9) rfl dX5_of_43 ?_
      refine lv_iload_n hx hb dX5_of_46 rfl (lv_at hl 2 rfl) ?_
      refine lv_iload_n hx hb dX5_of_47 rfl (lv_at hl 3 rfl) ?_
      refine va_iast hx hb hK hP hD hS 3 0 rfl rfl (o_pl c2 orm) dX5_of_48 (fun H locs hP hD hS => ?_)
      have hP : va_P D vwCl [(m1, .inr (9, [.int (0 : Int32), .int pm, .ref m2, .ref m3, .int rm, .ref m4, .int on, .int cl, .int un, .int ze, .int lm, .ref m5, .ref m6, .ref m7])), (m2, .inl (kI, 60, .inl xs)), (m3, .inl (kI, 60, .inl ys)), (m4, .inl (kI, 24, .inl (upd held ia.toNatClampNeg ip))), (m5, .inl (kJ, 12, .inr (.inl la))), (m6, .inl (kJ, 12, .inr (.inl lb))), (m7, .inl (kJ, 12, .inr (.inl lc)))] H := hP
      have hD : va_D A [(m1, .inr (9, [.int (0 : Int32), .int pm, .ref m2, .ref m3, .int rm, .ref m4, .int on, .int cl, .int un, .int ze, .int lm, .ref m5, .ref m6, .ref m7])), (m2, .inl (kI, 60, .inl xs)), (m3, .inl (kI, 60, .inl ys)), (m4, .inl (kI, 24, .inl (upd held ia.toNatClampNeg ip))), (m5, .inl (kJ, 12, .inr (.inl la))), (m6, .inl (kJ, 12, .inr (.inl lb))), (m7, .inl (kJ, 12, .inr (.inl lc)))] := hD
      refine lv_iload_n hx hb dX5_of_49 rfl (lv_at hl 0 rfl) ?_
      have hP9 := hP
      have hD9 := hD
      have hS9 := hS
      have qv : fX5_of held rm pm ia ip = held ia.toNatClampNeg := by unfold fX5_of; rw [if_pos c1, if_neg c2]
      have q_th : gX5_of_th held rm pm ia ip = (0 : Int32) := by unfold gX5_of_th; rw [if_pos c1, if_neg c2]
      have q_held : gX5_of_held held rm pm ia ip = upd held ia.toNatClampNeg ip := by unfold gX5_of_held; rw [if_pos c1, if_neg c2]
      rw [qv, q_th, q_held]
      exact W.iret (v := held ia.toNatClampNeg) hx hb hr (fun t ht hW => ⟨⟨rfl, by rw [ht]; exact hP9, by rw [hAe]; exact hD9⟩, by rw [hAe]; exact hS9.F ht⟩) hS9.2.2 dX5_of_50
    · refine lv_aload_n hx hb dX5_of_29 rfl (lv_at hl 0 rfl) ?_
      refine lv_iconst (v := 1) hx hb dX5_of_30 (by decide) ?_
      refine xw_V (q := (RX5, TX5, 14)) (ci := 9) (q0 := 0) (rest := []) (As := [.int (1 : Int32)]) (wr := []) (w1 := (wMo m1 m2 m3 m4 m5 m6 m7 kI kJ xs ys held la lb lc (gX5_fail_th (1 : Int32)) pm rm on cl un ze lm)) (ws' := [(m1, .inr (9, [.int (gX5_fail_th (1 : Int32)), .int pm, .ref m2, .ref m3, .int rm, .ref m4, .int on, .int cl, .int un, .int ze, .int lm, .ref m5, .ref m6, .ref m7])), (m2, .inl (kI, 60, .inl xs)), (m3, .inl (kI, 60, .inl ys)), (m4, .inl (kI, 24, .inl held)), (m5, .inl (kJ, 12, .inr (.inl la))), (m6, .inl (kJ, 12, .inr (.inl lb))), (m7, .inl (kJ, 12, .inr (.inl lc)))]) ⟨hx, hb, hml, hown, hts⟩ (ct5_fail l D _ m1 m2 m3 m4 m5 m6 m7 kI kJ xs ys held la lb lc (0 : Int32) pm rm on cl un ze lm (1 : Int32) ) (cwV 1 hts gl_X5_62 rfl rfl rfl (by decide +kernel) ⟨Nat.le_of_ble_eq_true rfl, Nat.le_of_ble_eq_true rfl⟩) nN_mv hN hK hP hD hS hA [0, 1, 2, 3, 4, 5, 6] [] [0, 1, 2, 3, 4, 5, 6] [0, 1] rfl (by decide) rfl rfl rfl (by decide) (by decide) rfl (by decide) rfl rfl rfl rfl hl.1 rfl (Nat.le_of_ble_eq_true rfl) dX5_of_31 ⟨Nat.le_of_ble_eq_true rfl, Nat.le_of_ble_eq_true rfl⟩ (fun H locs hP hD hS => ?_)
      have hP : va_P D vwCl [(m1, .inr (9, [.int (gX5_fail_th (1 : Int32)), .int pm, .ref m2, .ref m3, .int rm, .ref m4, .int on, .int cl, .int un, .int ze, .int lm, .ref m5, .ref m6, .ref m7])), (m2, .inl (kI, 60, .inl xs)), (m3, .inl (kI, 60, .inl ys)), (m4, .inl (kI, 24, .inl held)), (m5, .inl (kJ, 12, .inr (.inl la))), (m6, .inl (kJ, 12, .inr (.inl lb))), (m7, .inl (kJ, 12, .inr (.inl lc)))] H := hP
      have hD : va_D A [(m1, .inr (9, [.int (gX5_fail_th (1 : Int32)), .int pm, .ref m2, .ref m3, .int rm, .ref m4, .int on, .int cl, .int un, .int ze, .int lm, .ref m5, .ref m6, .ref m7])), (m2, .inl (kI, 60, .inl xs)), (m3, .inl (kI, 60, .inl ys)), (m4, .inl (kI, 24, .inl held)), (m5, .inl (kJ, 12, .inr (.inl la))), (m6, .inl (kJ, 12, .inr (.inl lb))), (m7, .inl (kJ, 12, .inr (.inl lc)))] := hD
      have hP9 := hP
      have hD9 := hD
      have hS9 := hS
      have qv : fX5_of held rm pm ia ip = fX5_fail (1 : Int32) := by unfold fX5_of; rw [if_pos c1, if_pos c2]
      have q_th : gX5_of_th held rm pm ia ip = gX5_fail_th (1 : Int32) := by unfold gX5_of_th; rw [if_pos c1, if_pos c2]
      have q_held : gX5_of_held held rm pm ia ip = held := by unfold gX5_of_held; rw [if_pos c1, if_pos c2]
      rw [qv, q_th, q_held]
      exact W.iret (v := fX5_fail (1 : Int32)) hx hb hr (fun t ht hW => ⟨⟨rfl, by rw [ht]; exact hP9, by rw [hAe]; exact hD9⟩, by rw [hAe]; exact hS9.F ht⟩) hS9.2.2 dX5_of_34
  · refine lv_aload_n hx hb dX5_of_10 rfl (lv_at hl 0 rfl) ?_
    refine lv_iload_n hx hb dX5_of_11 rfl (lv_at hl 2 rfl) ?_
    refine xr_V (q := (RX5, TX5, 14)) (ci := 9) (q0 := 0) (rest := []) (As := [.int ip]) ⟨hx, hb, hml, hown, hts⟩ (ct5_isPoint l D m1 m2 m3 m4 m5 m6 m7 kI kJ xs ys held la lb lc (0 : Int32) pm rm on cl un ze lm ip ) (cwV 1 hts gl_X5_69 rfl rfl rfl (by decide +kernel) ⟨Nat.le_of_ble_eq_true rfl, Nat.le_of_ble_eq_true rfl⟩) nN_mv hN hK hP [0, 1, 2, 3, 4, 5, 6] [0, 1] rfl rfl rfl rfl rfl hl.1 rfl (Nat.le_of_ble_eq_true rfl) dX5_of_12 ⟨Nat.le_of_ble_eq_true rfl, Nat.le_of_ble_eq_true rfl⟩ ?_
    refine lv_if_ne (tgt := 21) hx hb dX5_of_15 (by decide) (fun c3 => ?_) (fun c3 => ?_)
    · refine lv_aload_n hx hb dX5_of_21 rfl (lv_at hl 0 rfl) ?_
      refine lv_iload_n hx hb dX5_of_22 rfl (lv_at hl 1 rfl) ?_
      refine xr_V (q := (RX5, TX5, 14)) (ci := 9) (q0 := 0) (rest := []) (As := [.int ia]) ⟨hx, hb, hml, hown, hts⟩ (ct5_isPlace l D m1 m2 m3 m4 m5 m6 m7 kI kJ xs ys held la lb lc (0 : Int32) pm rm on cl un ze lm ia ) (cwV 1 hts gl_X5_73 rfl rfl rfl (by decide +kernel) ⟨Nat.le_of_ble_eq_true rfl, Nat.le_of_ble_eq_true rfl⟩) nN_mv hN hK hP [0, 1, 2, 3, 4, 5, 6] [0, 1] rfl rfl rfl rfl rfl hl.1 rfl (Nat.le_of_ble_eq_true rfl) dX5_of_23 ⟨Nat.le_of_ble_eq_true rfl, Nat.le_of_ble_eq_true rfl⟩ ?_
      refine lv_if_ne (tgt := 35) hx hb dX5_of_26 (by decide) (fun c4 => ?_) (fun c4 => ?_)
      · refine lv_aload_n hx hb dX5_of_35 rfl (lv_at hl 0 rfl) ?_
        refine va_get (D := D) (ci := 9) (v := .ref m4) (C := RX5) (T := TX5) (N := 14) hx hb hts hinX5 hown hK hP 0 rfl rfl 5 (by decide) (hts _ fk_X5_20) (fun _ h9 => h9) rfl dX5_of_36 ?_
        refine lv_iload_n hx hb dX5_of_39 rfl (lv_at hl 1 rfl) ?_
        refine va_iald hx hb hK hP 3 0 rfl rfl (o_pl c4 orm) dX5_of_40 ?_
        refine lv_istore_n (lv' := [(3, .int (held ia.toNatClampNeg)), (0, .ref m1), (1, .int ia), (2, .int ip)]) hx hb dX5_of_41 rfl hl (by decide) rfl (fun ls hl => ?_)
        refine lv_aload_n hx hb dX5_of_42 rfl (lv_at hl 1 rfl) ?_
        refine va_get (D := D) (ci := 9) (v := .ref m4) (C := RX5) (T := TX5) (N := 14) hx hb hts hinX5 hown hK hP 0 rfl rfl 5 (by decide) (hts _ fk_X5_20) (fun _ h9 => h9) rfl dX5_of_43 ?_
        refine lv_iload_n hx hb dX5_of_46 rfl (lv_at hl 2 rfl) ?_
        refine lv_iload_n hx hb dX5_of_47 rfl (lv_at hl 3 rfl) ?_
        refine va_iast hx hb hK hP hD hS 3 0 rfl rfl (o_pl c4 orm) dX5_of_48 (fun H locs hP hD hS => ?_)
        have hP : va_P D vwCl [(m1, .inr (9, [.int (0 : Int32), .int pm, .ref m2, .ref m3, .int rm, .ref m4, .int on, .int cl, .int un, .int ze, .int lm, .ref m5, .ref m6, .ref m7])), (m2, .inl (kI, 60, .inl xs)), (m3, .inl (kI, 60, .inl ys)), (m4, .inl (kI, 24, .inl (upd held ia.toNatClampNeg ip))), (m5, .inl (kJ, 12, .inr (.inl la))), (m6, .inl (kJ, 12, .inr (.inl lb))), (m7, .inl (kJ, 12, .inr (.inl lc)))] H := hP
        have hD : va_D A [(m1, .inr (9, [.int (0 : Int32), .int pm, .ref m2, .ref m3, .int rm, .ref m4, .int on, .int cl, .int un, .int ze, .int lm, .ref m5, .ref m6, .ref m7])), (m2, .inl (kI, 60, .inl xs)), (m3, .inl (kI, 60, .inl ys)), (m4, .inl (kI, 24, .inl (upd held ia.toNatClampNeg ip))), (m5, .inl (kJ, 12, .inr (.inl la))), (m6, .inl (kJ, 12, .inr (.inl lb))), (m7, .inl (kJ, 12, .inr (.inl lc)))] := hD
        refine lv_iload_n hx hb dX5_of_49 rfl (lv_at hl 0 rfl) ?_
        have hP9 := hP
        have hD9 := hD
        have hS9 := hS
        have qv : fX5_of held rm pm ia ip = held ia.toNatClampNeg := by unfold fX5_of; rw [if_neg c1, if_neg c3, if_neg c4]
        have q_th : gX5_of_th held rm pm ia ip = (0 : Int32) := by unfold gX5_of_th; rw [if_neg c1, if_neg c3, if_neg c4]
        have q_held : gX5_of_held held rm pm ia ip = upd held ia.toNatClampNeg ip := by unfold gX5_of_held; rw [if_neg c1, if_neg c3, if_neg c4]
        rw [qv, q_th, q_held]
        exact W.iret (v := held ia.toNatClampNeg) hx hb hr (fun t ht hW => ⟨⟨rfl, by rw [ht]; exact hP9, by rw [hAe]; exact hD9⟩, by rw [hAe]; exact hS9.F ht⟩) hS9.2.2 dX5_of_50
      · refine lv_aload_n hx hb dX5_of_29 rfl (lv_at hl 0 rfl) ?_
        refine lv_iconst (v := 1) hx hb dX5_of_30 (by decide) ?_
        refine xw_V (q := (RX5, TX5, 14)) (ci := 9) (q0 := 0) (rest := []) (As := [.int (1 : Int32)]) (wr := []) (w1 := (wMo m1 m2 m3 m4 m5 m6 m7 kI kJ xs ys held la lb lc (gX5_fail_th (1 : Int32)) pm rm on cl un ze lm)) (ws' := [(m1, .inr (9, [.int (gX5_fail_th (1 : Int32)), .int pm, .ref m2, .ref m3, .int rm, .ref m4, .int on, .int cl, .int un, .int ze, .int lm, .ref m5, .ref m6, .ref m7])), (m2, .inl (kI, 60, .inl xs)), (m3, .inl (kI, 60, .inl ys)), (m4, .inl (kI, 24, .inl held)), (m5, .inl (kJ, 12, .inr (.inl la))), (m6, .inl (kJ, 12, .inr (.inl lb))), (m7, .inl (kJ, 12, .inr (.inl lc)))]) ⟨hx, hb, hml, hown, hts⟩ (ct5_fail l D _ m1 m2 m3 m4 m5 m6 m7 kI kJ xs ys held la lb lc (0 : Int32) pm rm on cl un ze lm (1 : Int32) ) (cwV 1 hts gl_X5_62 rfl rfl rfl (by decide +kernel) ⟨Nat.le_of_ble_eq_true rfl, Nat.le_of_ble_eq_true rfl⟩) nN_mv hN hK hP hD hS hA [0, 1, 2, 3, 4, 5, 6] [] [0, 1, 2, 3, 4, 5, 6] [0, 1] rfl (by decide) rfl rfl rfl (by decide) (by decide) rfl (by decide) rfl rfl rfl rfl hl.1 rfl (Nat.le_of_ble_eq_true rfl) dX5_of_31 ⟨Nat.le_of_ble_eq_true rfl, Nat.le_of_ble_eq_true rfl⟩ (fun H locs hP hD hS => ?_)
        have hP : va_P D vwCl [(m1, .inr (9, [.int (gX5_fail_th (1 : Int32)), .int pm, .ref m2, .ref m3, .int rm, .ref m4, .int on, .int cl, .int un, .int ze, .int lm, .ref m5, .ref m6, .ref m7])), (m2, .inl (kI, 60, .inl xs)), (m3, .inl (kI, 60, .inl ys)), (m4, .inl (kI, 24, .inl held)), (m5, .inl (kJ, 12, .inr (.inl la))), (m6, .inl (kJ, 12, .inr (.inl lb))), (m7, .inl (kJ, 12, .inr (.inl lc)))] H := hP
        have hD : va_D A [(m1, .inr (9, [.int (gX5_fail_th (1 : Int32)), .int pm, .ref m2, .ref m3, .int rm, .ref m4, .int on, .int cl, .int un, .int ze, .int lm, .ref m5, .ref m6, .ref m7])), (m2, .inl (kI, 60, .inl xs)), (m3, .inl (kI, 60, .inl ys)), (m4, .inl (kI, 24, .inl held)), (m5, .inl (kJ, 12, .inr (.inl la))), (m6, .inl (kJ, 12, .inr (.inl lb))), (m7, .inl (kJ, 12, .inr (.inl lc)))] := hD
        have hP9 := hP
        have hD9 := hD
        have hS9 := hS
        have qv : fX5_of held rm pm ia ip = fX5_fail (1 : Int32) := by unfold fX5_of; rw [if_neg c1, if_neg c3, if_pos c4]
        have q_th : gX5_of_th held rm pm ia ip = gX5_fail_th (1 : Int32) := by unfold gX5_of_th; rw [if_neg c1, if_neg c3, if_pos c4]
        have q_held : gX5_of_held held rm pm ia ip = held := by unfold gX5_of_held; rw [if_neg c1, if_neg c3, if_pos c4]
        rw [qv, q_th, q_held]
        exact W.iret (v := fX5_fail (1 : Int32)) hx hb hr (fun t ht hW => ⟨⟨rfl, by rw [ht]; exact hP9, by rw [hAe]; exact hD9⟩, by rw [hAe]; exact hS9.F ht⟩) hS9.2.2 dX5_of_34
    · refine lv_bipush (v := (-2)) hx hb dX5_of_18 (by decide) ?_
      have hP9 := hP
      have hD9 := hD
      have hS9 := hS
      have qv : fX5_of held rm pm ia ip = (-2 : Int32) := by unfold fX5_of; rw [if_neg c1, if_pos c3]
      have q_th : gX5_of_th held rm pm ia ip = (0 : Int32) := by unfold gX5_of_th; rw [if_neg c1, if_pos c3]
      have q_held : gX5_of_held held rm pm ia ip = held := by unfold gX5_of_held; rw [if_neg c1, if_pos c3]
      rw [qv, q_th, q_held]
      exact W.iret (v := (-2 : Int32)) hx hb hr (fun t ht hW => ⟨⟨rfl, by rw [ht]; exact hP9, by rw [hAe]; exact hD9⟩, by rw [hAe]; exact hS9.F ht⟩) hS9.2.2 dX5_of_20
def fX5_at (held xs ys : Nat → Int32) (rm pm : Int32) (ia : Int32) (wh : Int32) : Int32 := if (fX5_isPlace rm ia) = (0 : Int32) then (fX5_fail (1 : Int32)) else (if (held ia.toNatClampNeg) = (-1 : Int32) then (fX5_fail (2 : Int32)) else (if wh = (0 : Int32) then (xs (held ia.toNatClampNeg).toNatClampNeg) else (if wh = (1 : Int32) then (ys (held ia.toNatClampNeg).toNatClampNeg) else (held ia.toNatClampNeg))))
def gX5_at_th (held xs ys : Nat → Int32) (rm pm : Int32) (ia : Int32) (wh : Int32) : Int32 := if (fX5_isPlace rm ia) = (0 : Int32) then (gX5_fail_th (1 : Int32)) else (if (held ia.toNatClampNeg) = (-1 : Int32) then (gX5_fail_th (2 : Int32)) else (if wh = (0 : Int32) then ((0 : Int32)) else (if wh = (1 : Int32) then ((0 : Int32)) else ((0 : Int32)))))
set_option maxHeartbeats 4000000 in
set_option maxRecDepth 100000 in
theorem ct5_at (l : Launch) (D : va_G) (sz : Nat) (m1 m2 m3 m4 m5 m6 m7 : Nat) (kI kJ : ClassId) (xs ys held : Nat → Int32) (la lb lc : Nat → Int64) (th pm rm on cl un ze lm : Int32) (ia : Int32) (wh : Int32) (orm : rm.toInt ≤ (24 : Nat)) (ohk : hok held) : Met l yX5_at (Cond.code yX5_at cX5_at 3 (some .int) :: BY) ({ frames := 1, cells := 0, slots := 0, locals := 60 }) (xw_P nN D vwCl [(kI, .int), (kJ, .long)] (wMo m1 m2 m3 m4 m5 m6 m7 kI kJ xs ys held la lb lc th pm rm on cl un ze lm) sz [.ref m1, .int ia, .int wh]) (xw_Q D vwCl (some (.int (fX5_at held xs ys rm pm ia wh))) (wMo m1 m2 m3 m4 m5 m6 m7 kI kJ xs ys held la lb lc th pm rm on cl un ze lm) (wMo m1 m2 m3 m4 m5 m6 m7 kI kJ xs ys held la lb lc (gX5_at_th held xs ys rm pm ia wh) pm rm on cl un ze lm) sz) 0 0 (va_A (wMo m1 m2 m3 m4 m5 m6 m7 kI kJ xs ys held la lb lc th pm rm on cl un ze lm) sz) := by
  refine Met.ofW (cc := cX5_at) (maxL := 3) (ret := (some .int)) (by decide) rfl ?_
  intro p e s m args below meth c s₁ B hml hv
  obtain ⟨rfl, hsz, hP, hK, hN, hD0⟩ := hv
  have hx := B.exec
  have hb := B.bytes
  have hr := B.returns
  have hts0 := atoms_spec (ws := Cond.code yX5_at cX5_at 3 (some .int) :: BY) B.pre
  have hts : ∀ w ∈ BY, w.before _ s = true := fun w h => hts0 w (List.mem_cons_of_mem _ h)
  have hown : s.vm.findClass RX5 = some m.cls := findClass_of_methodNamed B.named
  have hlocks := B.notSynchronized
  subst hsz
  have hD := hD0.self (sz := s.heap.size)
  generalize hAe : va_A (wMo m1 m2 m3 m4 m5 m6 m7 kI kJ xs ys held la lb lc th pm rm on cl un ze lm) s.heap.size = A at hD ⊢
  have hA : ∀ q : Nat, s.heap.size ≤ q → A q := fun q h => by rw [← hAe]; exact Or.inr h
  have hS : va_S A s.heap s.heap [] := va_S.rf
  have hP : va_P D vwCl [(m1, .inr (9, [.int th, .int pm, .ref m2, .ref m3, .int rm, .ref m4, .int on, .int cl, .int un, .int ze, .int lm, .ref m5, .ref m6, .ref m7])), (m2, .inl (kI, 60, .inl xs)), (m3, .inl (kI, 60, .inl ys)), (m4, .inl (kI, 24, .inl held)), (m5, .inl (kJ, 12, .inr (.inl la))), (m6, .inl (kJ, 12, .inr (.inl lb))), (m7, .inl (kJ, 12, .inr (.inl lc)))] s.heap := hP
  have hD : va_D A [(m1, .inr (9, [.int th, .int pm, .ref m2, .ref m3, .int rm, .ref m4, .int on, .int cl, .int un, .int ze, .int lm, .ref m5, .ref m6, .ref m7])), (m2, .inl (kI, 60, .inl xs)), (m3, .inl (kI, 60, .inl ys)), (m4, .inl (kI, 24, .inl held)), (m5, .inl (kJ, 12, .inr (.inl la))), (m6, .inl (kJ, 12, .inr (.inl lb))), (m7, .inl (kJ, 12, .inr (.inl lc)))] := hD
  have hl := lv_entry ([.ref m1, .int ia, .int wh]) (n := 3) (Nat.le_of_ble_eq_true rfl)
  rw [lg_entry_eq]
  generalize (lg_sl ([.ref m1, .int ia, .int wh]) ++ List.replicate (3 - (lg_sl ([.ref m1, .int ia, .int wh])).length) Slot.unset).toArray = ls at hl ⊢
  have hl : lv_has ls 3 [(0, .ref m1), (1, .int ia), (2, .int wh)] := hl
  refine lv_aload_n hx hb dX5_at_0 rfl (lv_at hl 0 rfl) ?_
  refine lv_iconst (v := 0) hx hb dX5_at_1 (by decide) ?_
  refine va_put (D := D) (ci := 9) (v := .int (0 : Int32)) (ty := .int) (C := RX5) (T := TX5) (N := 14) hx hb hts hinX5 tyX5 tyX5_ok nmX5 hown hK hP hD hS 0 rfl rfl 0 (by decide) (hts _ fk_X5_1) (fun _ h9 => h9) rfl (by decide +kernel) rfl rfl (Nat.le_of_ble_eq_true rfl) dX5_at_2 (fun H locs hP hD hS => ?_)
  have hP : va_P D vwCl [(m1, .inr (9, [.int (0 : Int32), .int pm, .ref m2, .ref m3, .int rm, .ref m4, .int on, .int cl, .int un, .int ze, .int lm, .ref m5, .ref m6, .ref m7])), (m2, .inl (kI, 60, .inl xs)), (m3, .inl (kI, 60, .inl ys)), (m4, .inl (kI, 24, .inl held)), (m5, .inl (kJ, 12, .inr (.inl la))), (m6, .inl (kJ, 12, .inr (.inl lb))), (m7, .inl (kJ, 12, .inr (.inl lc)))] H := hP
  have hD : va_D A [(m1, .inr (9, [.int (0 : Int32), .int pm, .ref m2, .ref m3, .int rm, .ref m4, .int on, .int cl, .int un, .int ze, .int lm, .ref m5, .ref m6, .ref m7])), (m2, .inl (kI, 60, .inl xs)), (m3, .inl (kI, 60, .inl ys)), (m4, .inl (kI, 24, .inl held)), (m5, .inl (kJ, 12, .inr (.inl la))), (m6, .inl (kJ, 12, .inr (.inl lb))), (m7, .inl (kJ, 12, .inr (.inl lc)))] := hD
  refine lv_aload_n hx hb dX5_at_5 rfl (lv_at hl 0 rfl) ?_
  refine lv_iload_n hx hb dX5_at_6 rfl (lv_at hl 1 rfl) ?_
  refine xr_V (q := (RX5, TX5, 14)) (ci := 9) (q0 := 0) (rest := []) (As := [.int ia]) ⟨hx, hb, hml, hown, hts⟩ (ct5_isPlace l D m1 m2 m3 m4 m5 m6 m7 kI kJ xs ys held la lb lc (0 : Int32) pm rm on cl un ze lm ia ) (cwV 1 hts gl_X5_73 rfl rfl rfl (by decide +kernel) ⟨Nat.le_of_ble_eq_true rfl, Nat.le_of_ble_eq_true rfl⟩) nN_mv hN hK hP [0, 1, 2, 3, 4, 5, 6] [0, 1] rfl rfl rfl rfl rfl hl.1 rfl (Nat.le_of_ble_eq_true rfl) dX5_at_7 ⟨Nat.le_of_ble_eq_true rfl, Nat.le_of_ble_eq_true rfl⟩ ?_
  refine lv_if_ne (tgt := 19) hx hb dX5_at_10 (by decide) (fun c1 => ?_) (fun c1 => ?_)
  · refine lv_aload_n hx hb dX5_at_19 rfl (lv_at hl 0 rfl) ?_
    refine va_get (D := D) (ci := 9) (v := .ref m4) (C := RX5) (T := TX5) (N := 14) hx hb hts hinX5 hown hK hP 0 rfl rfl 5 (by decide) (hts _ fk_X5_20) (fun _ h9 => h9) rfl dX5_at_20 ?_
    refine lv_iload_n hx hb dX5_at_23 rfl (lv_at hl 1 rfl) ?_
    refine va_iald hx hb hK hP 3 0 rfl rfl (o_pl c1 orm) dX5_at_24 ?_
    refine lv_iconst (v := (-1)) hx hb dX5_at_25 (by decide) ?_
    refine lv_icmp_ne (tgt := 35) hx hb dX5_at_26 (by decide) (fun c2 => ?_) (fun c2 => ?_)
    · refine lv_iload_n hx hb dX5_at_35 rfl (lv_at hl 2 rfl) ?_
      refine lv_if_ne (tgt := 53) hx hb dX5_at_36 (by decide) (fun c3 => ?_) (fun c3 => ?_)
      · refine lv_iload_n hx hb dX5_at_53 rfl (lv_at hl 2 rfl) ?_
        refine lv_iconst (v := 1) hx hb dX5_at_54 (by decide) ?_
        refine lv_icmp_ne (tgt := 72) hx hb dX5_at_55 (by decide) (fun c4 => ?_) (fun c4 => ?_)
        · refine lv_aload_n hx hb dX5_at_72 rfl (lv_at hl 0 rfl) ?_
          refine va_get (D := D) (ci := 9) (v := .ref m4) (C := RX5) (T := TX5) (N := 14) hx hb hts hinX5 hown hK hP 0 rfl rfl 5 (by decide) (hts _ fk_X5_20) (fun _ h9 => h9) rfl dX5_at_73 ?_
          refine lv_iload_n hx hb dX5_at_76 rfl (lv_at hl 1 rfl) ?_
          refine va_iald hx hb hK hP 3 0 rfl rfl (o_pl c1 orm) dX5_at_77 ?_
          have hP9 := hP
          have hD9 := hD
          have hS9 := hS
          have qv : fX5_at held xs ys rm pm ia wh = held ia.toNatClampNeg := by unfold fX5_at; rw [if_neg c1, if_neg c2, if_neg c3, if_neg c4]
          have q_th : gX5_at_th held xs ys rm pm ia wh = (0 : Int32) := by unfold gX5_at_th; rw [if_neg c1, if_neg c2, if_neg c3, if_neg c4]
          rw [qv, q_th]
          exact W.iret (v := held ia.toNatClampNeg) hx hb hr (fun t ht hW => ⟨⟨rfl, by rw [ht]; exact hP9, by rw [hAe]; exact hD9⟩, by rw [hAe]; exact hS9.F ht⟩) hS9.2.2 dX5_at_78
        · refine lv_aload_n hx hb dX5_at_58 rfl (lv_at hl 0 rfl) ?_
          refine va_get (D := D) (ci := 9) (v := .ref m3) (C := RX5) (T := TX5) (N := 14) hx hb hts hinX5 hown hK hP 0 rfl rfl 3 (by decide) (hts _ fk_X5_17) (fun _ h9 => h9) rfl dX5_at_59 ?_
          refine lv_aload_n hx hb dX5_at_62 rfl (lv_at hl 0 rfl) ?_
          refine va_get (D := D) (ci := 9) (v := .ref m4) (C := RX5) (T := TX5) (N := 14) hx hb hts hinX5 hown hK hP 0 rfl rfl 5 (by decide) (hts _ fk_X5_20) (fun _ h9 => h9) rfl dX5_at_63 ?_
          refine lv_iload_n hx hb dX5_at_66 rfl (lv_at hl 1 rfl) ?_
          refine va_iald hx hb hK hP 3 0 rfl rfl (o_pl c1 orm) dX5_at_67 ?_
          refine va_iald hx hb hK hP 2 0 rfl rfl ((ohk _).resolve_left c2) dX5_at_68 ?_
          refine lv_goto (tgt := 78) hx hb dX5_at_69 (by decide) ?_
          have hP9 := hP
          have hD9 := hD
          have hS9 := hS
          have qv : fX5_at held xs ys rm pm ia wh = ys (held ia.toNatClampNeg).toNatClampNeg := by unfold fX5_at; rw [if_neg c1, if_neg c2, if_neg c3, if_pos c4]
          have q_th : gX5_at_th held xs ys rm pm ia wh = (0 : Int32) := by unfold gX5_at_th; rw [if_neg c1, if_neg c2, if_neg c3, if_pos c4]
          rw [qv, q_th]
          exact W.iret (v := ys (held ia.toNatClampNeg).toNatClampNeg) hx hb hr (fun t ht hW => ⟨⟨rfl, by rw [ht]; exact hP9, by rw [hAe]; exact hD9⟩, by rw [hAe]; exact hS9.F ht⟩) hS9.2.2 dX5_at_78
      · refine lv_aload_n hx hb dX5_at_39 rfl (lv_at hl 0 rfl) ?_
        refine va_get (D := D) (ci := 9) (v := .ref m2) (C := RX5) (T := TX5) (N := 14) hx hb hts hinX5 hown hK hP 0 rfl rfl 2 (by decide) (hts _ fk_X5_13) (fun _ h9 => h9) rfl dX5_at_40 ?_
        refine lv_aload_n hx hb dX5_at_43 rfl (lv_at hl 0 rfl) ?_
        refine va_get (D := D) (ci := 9) (v := .ref m4) (C := RX5) (T := TX5) (N := 14) hx hb hts hinX5 hown hK hP 0 rfl rfl 5 (by decide) (hts _ fk_X5_20) (fun _ h9 => h9) rfl dX5_at_44 ?_
        refine lv_iload_n hx hb dX5_at_47 rfl (lv_at hl 1 rfl) ?_
        refine va_iald hx hb hK hP 3 0 rfl rfl (o_pl c1 orm) dX5_at_48 ?_
        refine va_iald hx hb hK hP 1 0 rfl rfl ((ohk _).resolve_left c2) dX5_at_49 ?_
        refine lv_goto (tgt := 78) hx hb dX5_at_50 (by decide) ?_
        have hP9 := hP
        have hD9 := hD
        have hS9 := hS
        have qv : fX5_at held xs ys rm pm ia wh = xs (held ia.toNatClampNeg).toNatClampNeg := by unfold fX5_at; rw [if_neg c1, if_neg c2, if_pos c3]
        have q_th : gX5_at_th held xs ys rm pm ia wh = (0 : Int32) := by unfold gX5_at_th; rw [if_neg c1, if_neg c2, if_pos c3]
        rw [qv, q_th]
        exact W.iret (v := xs (held ia.toNatClampNeg).toNatClampNeg) hx hb hr (fun t ht hW => ⟨⟨rfl, by rw [ht]; exact hP9, by rw [hAe]; exact hD9⟩, by rw [hAe]; exact hS9.F ht⟩) hS9.2.2 dX5_at_78
    · refine lv_aload_n hx hb dX5_at_29 rfl (lv_at hl 0 rfl) ?_
      refine lv_iconst (v := 2) hx hb dX5_at_30 (by decide) ?_
      refine xw_V (q := (RX5, TX5, 14)) (ci := 9) (q0 := 0) (rest := []) (As := [.int (2 : Int32)]) (wr := []) (w1 := (wMo m1 m2 m3 m4 m5 m6 m7 kI kJ xs ys held la lb lc (gX5_fail_th (2 : Int32)) pm rm on cl un ze lm)) (ws' := [(m1, .inr (9, [.int (gX5_fail_th (2 : Int32)), .int pm, .ref m2, .ref m3, .int rm, .ref m4, .int on, .int cl, .int un, .int ze, .int lm, .ref m5, .ref m6, .ref m7])), (m2, .inl (kI, 60, .inl xs)), (m3, .inl (kI, 60, .inl ys)), (m4, .inl (kI, 24, .inl held)), (m5, .inl (kJ, 12, .inr (.inl la))), (m6, .inl (kJ, 12, .inr (.inl lb))), (m7, .inl (kJ, 12, .inr (.inl lc)))]) ⟨hx, hb, hml, hown, hts⟩ (ct5_fail l D _ m1 m2 m3 m4 m5 m6 m7 kI kJ xs ys held la lb lc (0 : Int32) pm rm on cl un ze lm (2 : Int32) ) (cwV 1 hts gl_X5_62 rfl rfl rfl (by decide +kernel) ⟨Nat.le_of_ble_eq_true rfl, Nat.le_of_ble_eq_true rfl⟩) nN_mv hN hK hP hD hS hA [0, 1, 2, 3, 4, 5, 6] [] [0, 1, 2, 3, 4, 5, 6] [0, 1] rfl (by decide) rfl rfl rfl (by decide) (by decide) rfl (by decide) rfl rfl rfl rfl hl.1 rfl (Nat.le_of_ble_eq_true rfl) dX5_at_31 ⟨Nat.le_of_ble_eq_true rfl, Nat.le_of_ble_eq_true rfl⟩ (fun H locs hP hD hS => ?_)
      have hP : va_P D vwCl [(m1, .inr (9, [.int (gX5_fail_th (2 : Int32)), .int pm, .ref m2, .ref m3, .int rm, .ref m4, .int on, .int cl, .int un, .int ze, .int lm, .ref m5, .ref m6, .ref m7])), (m2, .inl (kI, 60, .inl xs)), (m3, .inl (kI, 60, .inl ys)), (m4, .inl (kI, 24, .inl held)), (m5, .inl (kJ, 12, .inr (.inl la))), (m6, .inl (kJ, 12, .inr (.inl lb))), (m7, .inl (kJ, 12, .inr (.inl lc)))] H := hP
      have hD : va_D A [(m1, .inr (9, [.int (gX5_fail_th (2 : Int32)), .int pm, .ref m2, .ref m3, .int rm, .ref m4, .int on, .int cl, .int un, .int ze, .int lm, .ref m5, .ref m6, .ref m7])), (m2, .inl (kI, 60, .inl xs)), (m3, .inl (kI, 60, .inl ys)), (m4, .inl (kI, 24, .inl held)), (m5, .inl (kJ, 12, .inr (.inl la))), (m6, .inl (kJ, 12, .inr (.inl lb))), (m7, .inl (kJ, 12, .inr (.inl lc)))] := hD
      have hP9 := hP
      have hD9 := hD
      have hS9 := hS
      have qv : fX5_at held xs ys rm pm ia wh = fX5_fail (2 : Int32) := by unfold fX5_at; rw [if_neg c1, if_pos c2]
      have q_th : gX5_at_th held xs ys rm pm ia wh = gX5_fail_th (2 : Int32) := by unfold gX5_at_th; rw [if_neg c1, if_pos c2]
      rw [qv, q_th]
      exact W.iret (v := fX5_fail (2 : Int32)) hx hb hr (fun t ht hW => ⟨⟨rfl, by rw [ht]; exact hP9, by rw [hAe]; exact hD9⟩, by rw [hAe]; exact hS9.F ht⟩) hS9.2.2 dX5_at_34
  · refine lv_aload_n hx hb dX5_at_13 rfl (lv_at hl 0 rfl) ?_
    refine lv_iconst (v := 1) hx hb dX5_at_14 (by decide) ?_
    refine xw_V (q := (RX5, TX5, 14)) (ci := 9) (q0 := 0) (rest := []) (As := [.int (1 : Int32)]) (wr := []) (w1 := (wMo m1 m2 m3 m4 m5 m6 m7 kI kJ xs ys held la lb lc (gX5_fail_th (1 : Int32)) pm rm on cl un ze lm)) (ws' := [(m1, .inr (9, [.int (gX5_fail_th (1 : Int32)), .int pm, .ref m2, .ref m3, .int rm, .ref m4, .int on, .int cl, .int un, .int ze, .int lm, .ref m5, .ref m6, .ref m7])), (m2, .inl (kI, 60, .inl xs)), (m3, .inl (kI, 60, .inl ys)), (m4, .inl (kI, 24, .inl held)), (m5, .inl (kJ, 12, .inr (.inl la))), (m6, .inl (kJ, 12, .inr (.inl lb))), (m7, .inl (kJ, 12, .inr (.inl lc)))]) ⟨hx, hb, hml, hown, hts⟩ (ct5_fail l D _ m1 m2 m3 m4 m5 m6 m7 kI kJ xs ys held la lb lc (0 : Int32) pm rm on cl un ze lm (1 : Int32) ) (cwV 1 hts gl_X5_62 rfl rfl rfl (by decide +kernel) ⟨Nat.le_of_ble_eq_true rfl, Nat.le_of_ble_eq_true rfl⟩) nN_mv hN hK hP hD hS hA [0, 1, 2, 3, 4, 5, 6] [] [0, 1, 2, 3, 4, 5, 6] [0, 1] rfl (by decide) rfl rfl rfl (by decide) (by decide) rfl (by decide) rfl rfl rfl rfl hl.1 rfl (Nat.le_of_ble_eq_true rfl) dX5_at_15 ⟨Nat.le_of_ble_eq_true rfl, Nat.le_of_ble_eq_true rfl⟩ (fun H locs hP hD hS => ?_)
    have hP : va_P D vwCl [(m1, .inr (9, [.int (gX5_fail_th (1 : Int32)), .int pm, .ref m2, .ref m3, .int rm, .ref m4, .int on, .int cl, .int un, .int ze, .int lm, .ref m5, .ref m6, .ref m7])), (m2, .inl (kI, 60, .inl xs)), (m3, .inl (kI, 60, .inl ys)), (m4, .inl (kI, 24, .inl held)), (m5, .inl (kJ, 12, .inr (.inl la))), (m6, .inl (kJ, 12, .inr (.inl lb))), (m7, .inl (kJ, 12, .inr (.inl lc)))] H := hP
    have hD : va_D A [(m1, .inr (9, [.int (gX5_fail_th (1 : Int32)), .int pm, .ref m2, .ref m3, .int rm, .ref m4, .int on, .int cl, .int un, .int ze, .int lm, .ref m5, .ref m6, .ref m7])), (m2, .inl (kI, 60, .inl xs)), (m3, .inl (kI, 60, .inl ys)), (m4, .inl (kI, 24, .inl held)), (m5, .inl (kJ, 12, .inr (.inl la))), (m6, .inl (kJ, 12, .inr (.inl lb))), (m7, .inl (kJ, 12, .inr (.inl lc)))] := hD
    have hP9 := hP
    have hD9 := hD
    have hS9 := hS
    have qv : fX5_at held xs ys rm pm ia wh = fX5_fail (1 : Int32) := by unfold fX5_at; rw [if_pos c1]
    have q_th : gX5_at_th held xs ys rm pm ia wh = gX5_fail_th (1 : Int32) := by unfold gX5_at_th; rw [if_pos c1]
    rw [qv, q_th]
    exact W.iret (v := fX5_fail (1 : Int32)) hx hb hr (fun t ht hW => ⟨⟨rfl, by rw [ht]; exact hP9, by rw [hAe]; exact hD9⟩, by rw [hAe]; exact hS9.F ht⟩) hS9.2.2 dX5_at_18
def tX5_size_A (held : Nat → Int32) (rm : Int32) (n : Int32) : Nat → Int32 → (Nat → Int32) → Int32 × Int32 × (Nat → Int32) × Int32
  | 0, _, _ => (0, 0, fun _ => 0, 0)
  | kA + 1, i, hv => if (24 : Int32) ≤ i then ((rm, (0 : Int32), hv, n)) else (tX5_size_A held rm n kA (i + 1) (upd hv i.toNatClampNeg (-1 : Int32)))
theorem tX5_size_A_s (held : Nat → Int32) (rm : Int32) (n : Int32) (kA : Nat) (i : Int32) (hv : (Nat → Int32)) : tX5_size_A held rm n  (kA + 1) i hv = (if (24 : Int32) ≤ i then ((rm, (0 : Int32), hv, n)) else (tX5_size_A held rm n kA (i + 1) (upd hv i.toNatClampNeg (-1 : Int32)))) := rfl
def tX5_size (held : Nat → Int32) (rm : Int32) (n : Int32) : Int32 × Int32 × (Nat → Int32) × Int32 := if n ≤ (24 : Int32) then (if (0 : Int32) ≤ n then (tX5_size_A held rm n ((24 : Int32).toInt.toNat + 1) (0 : Int32) held) else ((fX5_fail (1 : Int32), gX5_fail_th (1 : Int32), held, rm))) else (((-2 : Int32), (0 : Int32), held, rm))
def fX5_size (held : Nat → Int32) (rm : Int32) (n : Int32) : Int32 := (tX5_size held rm n).1
def gX5_size_th (held : Nat → Int32) (rm : Int32) (n : Int32) : Int32 := (tX5_size held rm n).2.1
def gX5_size_held (held : Nat → Int32) (rm : Int32) (n : Int32) : Nat → Int32 := (tX5_size held rm n).2.2.1
def gX5_size_rm (held : Nat → Int32) (rm : Int32) (n : Int32) : Int32 := (tX5_size held rm n).2.2.2
set_option maxHeartbeats 4000000 in
set_option maxRecDepth 100000 in
theorem ct5_size (l : Launch) (D : va_G) (sz : Nat) (m1 m2 m3 m4 m5 m6 m7 : Nat) (kI kJ : ClassId) (xs ys held : Nat → Int32) (la lb lc : Nat → Int64) (th pm rm on cl un ze lm : Int32) (n : Int32) : Met l yX5_size (Cond.code yX5_size cX5_size 4 (some .int) :: BY) ({ frames := 1, cells := 0, slots := 0, locals := 60 }) (xw_P nN D vwCl [(kI, .int), (kJ, .long)] (wMo m1 m2 m3 m4 m5 m6 m7 kI kJ xs ys held la lb lc th pm rm on cl un ze lm) sz [.ref m1, .int n]) (xw_Q D vwCl (some (.int (fX5_size held rm n))) (wMo m1 m2 m3 m4 m5 m6 m7 kI kJ xs ys held la lb lc th pm rm on cl un ze lm) (wMo m1 m2 m3 m4 m5 m6 m7 kI kJ xs ys (gX5_size_held held rm n) la lb lc (gX5_size_th held rm n) pm (gX5_size_rm held rm n) on cl un ze lm) sz) 0 0 (va_A (wMo m1 m2 m3 m4 m5 m6 m7 kI kJ xs ys held la lb lc th pm rm on cl un ze lm) sz) := by
  refine Met.ofW (cc := cX5_size) (maxL := 4) (ret := (some .int)) (by decide) rfl ?_
  intro p e s m args below meth c s₁ B hml hv
  obtain ⟨rfl, hsz, hP, hK, hN, hD0⟩ := hv
  have hx := B.exec
  have hb := B.bytes
  have hr := B.returns
  have hts0 := atoms_spec (ws := Cond.code yX5_size cX5_size 4 (some .int) :: BY) B.pre
  have hts : ∀ w ∈ BY, w.before _ s = true := fun w h => hts0 w (List.mem_cons_of_mem _ h)
  have hown : s.vm.findClass RX5 = some m.cls := findClass_of_methodNamed B.named
  have hlocks := B.notSynchronized
  subst hsz
  have hD := hD0.self (sz := s.heap.size)
  generalize hAe : va_A (wMo m1 m2 m3 m4 m5 m6 m7 kI kJ xs ys held la lb lc th pm rm on cl un ze lm) s.heap.size = A at hD ⊢
  have hA : ∀ q : Nat, s.heap.size ≤ q → A q := fun q h => by rw [← hAe]; exact Or.inr h
  have hS : va_S A s.heap s.heap [] := va_S.rf
  have hP : va_P D vwCl [(m1, .inr (9, [.int th, .int pm, .ref m2, .ref m3, .int rm, .ref m4, .int on, .int cl, .int un, .int ze, .int lm, .ref m5, .ref m6, .ref m7])), (m2, .inl (kI, 60, .inl xs)), (m3, .inl (kI, 60, .inl ys)), (m4, .inl (kI, 24, .inl held)), (m5, .inl (kJ, 12, .inr (.inl la))), (m6, .inl (kJ, 12, .inr (.inl lb))), (m7, .inl (kJ, 12, .inr (.inl lc)))] s.heap := hP
  have hD : va_D A [(m1, .inr (9, [.int th, .int pm, .ref m2, .ref m3, .int rm, .ref m4, .int on, .int cl, .int un, .int ze, .int lm, .ref m5, .ref m6, .ref m7])), (m2, .inl (kI, 60, .inl xs)), (m3, .inl (kI, 60, .inl ys)), (m4, .inl (kI, 24, .inl held)), (m5, .inl (kJ, 12, .inr (.inl la))), (m6, .inl (kJ, 12, .inr (.inl lb))), (m7, .inl (kJ, 12, .inr (.inl lc)))] := hD
  have hl := lv_entry ([.ref m1, .int n]) (n := 4) (Nat.le_of_ble_eq_true rfl)
  rw [lg_entry_eq]
  generalize (lg_sl ([.ref m1, .int n]) ++ List.replicate (4 - (lg_sl ([.ref m1, .int n])).length) Slot.unset).toArray = ls at hl ⊢
  have hl : lv_has ls 4 [(0, .ref m1), (1, .int n)] := hl
  refine lv_aload_n hx hb dX5_size_0 rfl (lv_at hl 0 rfl) ?_
  refine lv_iconst (v := 0) hx hb dX5_size_1 (by decide) ?_
  refine va_put (D := D) (ci := 9) (v := .int (0 : Int32)) (ty := .int) (C := RX5) (T := TX5) (N := 14) hx hb hts hinX5 tyX5 tyX5_ok nmX5 hown hK hP hD hS 0 rfl rfl 0 (by decide) (hts _ fk_X5_1) (fun _ h9 => h9) rfl (by decide +kernel) rfl rfl (Nat.le_of_ble_eq_true rfl) dX5_size_2 (fun H locs hP hD hS => ?_)
  have hP : va_P D vwCl [(m1, .inr (9, [.int (0 : Int32), .int pm, .ref m2, .ref m3, .int rm, .ref m4, .int on, .int cl, .int un, .int ze, .int lm, .ref m5, .ref m6, .ref m7])), (m2, .inl (kI, 60, .inl xs)), (m3, .inl (kI, 60, .inl ys)), (m4, .inl (kI, 24, .inl held)), (m5, .inl (kJ, 12, .inr (.inl la))), (m6, .inl (kJ, 12, .inr (.inl lb))), (m7, .inl (kJ, 12, .inr (.inl lc)))] H := hP
  have hD : va_D A [(m1, .inr (9, [.int (0 : Int32), .int pm, .ref m2, .ref m3, .int rm, .ref m4, .int on, .int cl, .int un, .int ze, .int lm, .ref m5, .ref m6, .ref m7])), (m2, .inl (kI, 60, .inl xs)), (m3, .inl (kI, 60, .inl ys)), (m4, .inl (kI, 24, .inl held)), (m5, .inl (kJ, 12, .inr (.inl la))), (m6, .inl (kJ, 12, .inr (.inl lb))), (m7, .inl (kJ, 12, .inr (.inl lc)))] := hD
  refine lv_iload_n hx hb dX5_size_5 rfl (lv_at hl 1 rfl) ?_
  refine lv_bipush (v := 24) hx hb dX5_size_6 (by decide) ?_
  refine lv_icmp_le (tgt := 14) hx hb dX5_size_8 (by decide) (fun c1 => ?_) (fun c1 => ?_)
  · refine lv_iload_n hx hb dX5_size_14 rfl (lv_at hl 1 rfl) ?_
    refine lv_if_ge (tgt := 24) hx hb dX5_size_15 (by decide) (fun c2 => ?_) (fun c2 => ?_)
    · refine lv_aload_n hx hb dX5_size_24 rfl (lv_at hl 0 rfl) ?_
      refine va_get (D := D) (ci := 9) (v := .int rm) (C := RX5) (T := TX5) (N := 14) hx hb hts hinX5 hown hK hP 0 rfl rfl 4 (by decide) (hts _ fk_X5_66) (fun _ h9 => h9) rfl dX5_size_25 ?_
      refine lv_istore_n (lv' := [(2, .int rm), (0, .ref m1), (1, .int n)]) hx hb dX5_size_28 rfl hl (by decide) rfl (fun ls hl => ?_)
      refine lv_aload_n hx hb dX5_size_29 rfl (lv_at hl 1 rfl) ?_
      refine lv_iload_n hx hb dX5_size_30 rfl (lv_at hl 2 rfl) ?_
      refine va_put (D := D) (ci := 9) (v := .int n) (ty := .int) (C := RX5) (T := TX5) (N := 14) hx hb hts hinX5 tyX5 tyX5_ok nmX5 hown hK hP hD hS 0 rfl rfl 4 (by decide) (hts _ fk_X5_66) (fun _ h9 => h9) rfl (by decide +kernel) rfl rfl (Nat.le_of_ble_eq_true rfl) dX5_size_31 (fun H locs hP hD hS => ?_)
      have hP : va_P D vwCl [(m1, .inr (9, [.int (0 : Int32), .int pm, .ref m2, .ref m3, .int n, .ref m4, .int on, .int cl, .int un, .int ze, .int lm, .ref m5, .ref m6, .ref m7])), (m2, .inl (kI, 60, .inl xs)), (m3, .inl (kI, 60, .inl ys)), (m4, .inl (kI, 24, .inl held)), (m5, .inl (kJ, 12, .inr (.inl la))), (m6, .inl (kJ, 12, .inr (.inl lb))), (m7, .inl (kJ, 12, .inr (.inl lc)))] H := hP
      have hD : va_D A [(m1, .inr (9, [.int (0 : Int32), .int pm, .ref m2, .ref m3, .int n, .ref m4, .int on, .int cl, .int un, .int ze, .int lm, .ref m5, .ref m6, .ref m7])), (m2, .inl (kI, 60, .inl xs)), (m3, .inl (kI, 60, .inl ys)), (m4, .inl (kI, 24, .inl held)), (m5, .inl (kJ, 12, .inr (.inl la))), (m6, .inl (kJ, 12, .inr (.inl lb))), (m7, .inl (kJ, 12, .inr (.inl lc)))] := hD
      refine lv_iconst (v := 0) hx hb dX5_size_34 (by decide) ?_
      refine lv_istore_n (lv' := [(3, .int (0 : Int32)), (2, .int rm), (0, .ref m1), (1, .int n)]) hx hb dX5_size_35 rfl hl (by decide) rfl (fun ls hl => ?_)
      refine xr_w2 (P := fun H L ls => W p l e _ s m _ below meth c H L _ _ _ (F0 m 36 ls [])) (nL := 4) (fun (i : Int32) (hv : (Nat → Int32)) => [(3, .int i), (2, .int rm), (0, .ref m1), (1, .int n)]) (fun kA (i : Int32) (hv : (Nat → Int32)) H L => xr_u (24 : Int32) i kA ∧ va_P D vwCl [(m1, .inr (9, [.int (0 : Int32), .int pm, .ref m2, .ref m3, .int n, .ref m4, .int on, .int cl, .int un, .int ze, .int lm, .ref m5, .ref m6, .ref m7])), (m2, .inl (kI, 60, .inl xs)), (m3, .inl (kI, 60, .inl ys)), (m4, .inl (kI, 24, .inl hv)), (m5, .inl (kJ, 12, .inr (.inl la))), (m6, .inl (kJ, 12, .inr (.inl lb))), (m7, .inl (kJ, 12, .inr (.inl lc)))] H ∧ va_D A [(m1, .inr (9, [.int (0 : Int32), .int pm, .ref m2, .ref m3, .int n, .ref m4, .int on, .int cl, .int un, .int ze, .int lm, .ref m5, .ref m6, .ref m7])), (m2, .inl (kI, 60, .inl xs)), (m3, .inl (kI, 60, .inl ys)), (m4, .inl (kI, 24, .inl hv)), (m5, .inl (kJ, 12, .inr (.inl la))), (m6, .inl (kJ, 12, .inr (.inl lb))), (m7, .inl (kJ, 12, .inr (.inl lc)))] ∧ va_S A s.heap H L ∧ tX5_size_A held rm n kA i hv = tX5_size held rm n) (fun _ _ _ _ h => xr_u0 h.1) ?_ ((24 : Int32).toInt.toNat + 1) (0 : Int32) held _ _ ls hl ⟨(xr_ub (24 : Int32)), hP, hD, hS, (by unfold tX5_size; rw [if_pos c1, if_pos c2])⟩
      clear hl
      intro kA i hv H locs ls hl hI ihA
      obtain ⟨huA, hP, hD, hS, hLA⟩ := hI
      refine lv_iload_n hx hb dX5_size_36 rfl (lv_at hl 0 rfl) ?_
      refine lv_bipush (v := 24) hx hb dX5_size_37 (by decide) ?_
      refine lv_icmp_ge (tgt := 55) hx hb dX5_size_39 (by decide) (fun c3 => ?_) (fun c3 => ?_)
      · refine lv_iload_n hx hb dX5_size_55 rfl (lv_at hl 1 rfl) ?_
        have hP9 := hP
        have hD9 := hD
        have hS9 := hS
        have qt : tX5_size held rm n = (rm, (0 : Int32), hv, n) := by rw [← hLA, tX5_size_A_s, if_pos c3]
        have qv : fX5_size held rm n = rm := by unfold fX5_size; rw [qt]
        have q_th : gX5_size_th held rm n = (0 : Int32) := by unfold gX5_size_th; rw [qt]
        have q_held : gX5_size_held held rm n = hv := by unfold gX5_size_held; rw [qt]
        have q_rm : gX5_size_rm held rm n = n := by unfold gX5_size_rm; rw [qt]
        rw [qv, q_th, q_held, q_rm]
        exact W.iret (v := rm) hx hb hr (fun t ht hW => ⟨⟨rfl, by rw [ht]; exact hP9, by rw [hAe]; exact hD9⟩, by rw [hAe]; exact hS9.F ht⟩) hS9.2.2 dX5_size_56
      · refine lv_aload_n hx hb dX5_size_42 rfl (lv_at hl 2 rfl) ?_
        refine va_get (D := D) (ci := 9) (v := .ref m4) (C := RX5) (T := TX5) (N := 14) hx hb hts hinX5 hown hK hP 0 rfl rfl 5 (by decide) (hts _ fk_X5_20) (fun _ h9 => h9) rfl dX5_size_43 ?_
        refine lv_iload_n hx hb dX5_size_46 rfl (lv_at hl 0 rfl) ?_
        refine lv_iconst (v := (-1)) hx hb dX5_size_47 (by decide) ?_
        refine va_iast hx hb hK hP hD hS 3 0 rfl rfl (xr_in huA c3 (by decide)) dX5_size_48 (fun H locs hP hD hS => ?_)
        have hP : va_P D vwCl [(m1, .inr (9, [.int (0 : Int32), .int pm, .ref m2, .ref m3, .int n, .ref m4, .int on, .int cl, .int un, .int ze, .int lm, .ref m5, .ref m6, .ref m7])), (m2, .inl (kI, 60, .inl xs)), (m3, .inl (kI, 60, .inl ys)), (m4, .inl (kI, 24, .inl (upd hv i.toNatClampNeg (-1 : Int32)))), (m5, .inl (kJ, 12, .inr (.inl la))), (m6, .inl (kJ, 12, .inr (.inl lb))), (m7, .inl (kJ, 12, .inr (.inl lc)))] H := hP
        have hD : va_D A [(m1, .inr (9, [.int (0 : Int32), .int pm, .ref m2, .ref m3, .int n, .ref m4, .int on, .int cl, .int un, .int ze, .int lm, .ref m5, .ref m6, .ref m7])), (m2, .inl (kI, 60, .inl xs)), (m3, .inl (kI, 60, .inl ys)), (m4, .inl (kI, 24, .inl (upd hv i.toNatClampNeg (-1 : Int32)))), (m5, .inl (kJ, 12, .inr (.inl la))), (m6, .inl (kJ, 12, .inr (.inl lb))), (m7, .inl (kJ, 12, .inr (.inl lc)))] := hD
        obtain ⟨z4, ez4⟩ : ∃ y : Int32, y = i + 1 := ⟨_, rfl⟩
        refine lv_iinc (v := z4) (lv' := [(3, .int z4), (2, .int rm), (0, .ref m1), (1, .int n)]) hx hb dX5_size_49 hl (k := 0) rfl (by rw [ez4]; rfl) (by decide) rfl (fun ls hl => ?_)
        refine lv_goto (tgt := 36) hx hb dX5_size_52 (by decide) ?_
        have hl9 := hl
        have hP9 := hP
        have hD9 := hD
        have hS9 := hS
        subst ez4
        exact ihA (i + 1) (upd hv i.toNatClampNeg (-1 : Int32)) _ _ _ (lv_sub hl9 [0, 1, 2, 3] rfl) ⟨xr_us huA c3, hP9, hD9, hS9, by rw [← hLA, tX5_size_A_s, if_neg c3]⟩
    · refine lv_aload_n hx hb dX5_size_18 rfl (lv_at hl 0 rfl) ?_
      refine lv_iconst (v := 1) hx hb dX5_size_19 (by decide) ?_
      refine xw_V (q := (RX5, TX5, 14)) (ci := 9) (q0 := 0) (rest := []) (As := [.int (1 : Int32)]) (wr := []) (w1 := (wMo m1 m2 m3 m4 m5 m6 m7 kI kJ xs ys held la lb lc (gX5_fail_th (1 : Int32)) pm rm on cl un ze lm)) (ws' := [(m1, .inr (9, [.int (gX5_fail_th (1 : Int32)), .int pm, .ref m2, .ref m3, .int rm, .ref m4, .int on, .int cl, .int un, .int ze, .int lm, .ref m5, .ref m6, .ref m7])), (m2, .inl (kI, 60, .inl xs)), (m3, .inl (kI, 60, .inl ys)), (m4, .inl (kI, 24, .inl held)), (m5, .inl (kJ, 12, .inr (.inl la))), (m6, .inl (kJ, 12, .inr (.inl lb))), (m7, .inl (kJ, 12, .inr (.inl lc)))]) ⟨hx, hb, hml, hown, hts⟩ (ct5_fail l D _ m1 m2 m3 m4 m5 m6 m7 kI kJ xs ys held la lb lc (0 : Int32) pm rm on cl un ze lm (1 : Int32) ) (cwV 1 hts gl_X5_62 rfl rfl rfl (by decide +kernel) ⟨Nat.le_of_ble_eq_true rfl, Nat.le_of_ble_eq_true rfl⟩) nN_mv hN hK hP hD hS hA [0, 1, 2, 3, 4, 5, 6] [] [0, 1, 2, 3, 4, 5, 6] [0, 1] rfl (by decide) rfl rfl rfl (by decide) (by decide) rfl (by decide) rfl rfl rfl rfl hl.1 rfl (Nat.le_of_ble_eq_true rfl) dX5_size_20 ⟨Nat.le_of_ble_eq_true rfl, Nat.le_of_ble_eq_true rfl⟩ (fun H locs hP hD hS => ?_)
      have hP : va_P D vwCl [(m1, .inr (9, [.int (gX5_fail_th (1 : Int32)), .int pm, .ref m2, .ref m3, .int rm, .ref m4, .int on, .int cl, .int un, .int ze, .int lm, .ref m5, .ref m6, .ref m7])), (m2, .inl (kI, 60, .inl xs)), (m3, .inl (kI, 60, .inl ys)), (m4, .inl (kI, 24, .inl held)), (m5, .inl (kJ, 12, .inr (.inl la))), (m6, .inl (kJ, 12, .inr (.inl lb))), (m7, .inl (kJ, 12, .inr (.inl lc)))] H := hP
      have hD : va_D A [(m1, .inr (9, [.int (gX5_fail_th (1 : Int32)), .int pm, .ref m2, .ref m3, .int rm, .ref m4, .int on, .int cl, .int un, .int ze, .int lm, .ref m5, .ref m6, .ref m7])), (m2, .inl (kI, 60, .inl xs)), (m3, .inl (kI, 60, .inl ys)), (m4, .inl (kI, 24, .inl held)), (m5, .inl (kJ, 12, .inr (.inl la))), (m6, .inl (kJ, 12, .inr (.inl lb))), (m7, .inl (kJ, 12, .inr (.inl lc)))] := hD
      have hP9 := hP
      have hD9 := hD
      have hS9 := hS
      have qt : tX5_size held rm n = (fX5_fail (1 : Int32), gX5_fail_th (1 : Int32), held, rm) := by unfold tX5_size; rw [if_pos c1, if_neg c2]
      have qv : fX5_size held rm n = fX5_fail (1 : Int32) := by unfold fX5_size; rw [qt]
      have q_th : gX5_size_th held rm n = gX5_fail_th (1 : Int32) := by unfold gX5_size_th; rw [qt]
      have q_held : gX5_size_held held rm n = held := by unfold gX5_size_held; rw [qt]
      have q_rm : gX5_size_rm held rm n = rm := by unfold gX5_size_rm; rw [qt]
      rw [qv, q_th, q_held, q_rm]
      exact W.iret (v := fX5_fail (1 : Int32)) hx hb hr (fun t ht hW => ⟨⟨rfl, by rw [ht]; exact hP9, by rw [hAe]; exact hD9⟩, by rw [hAe]; exact hS9.F ht⟩) hS9.2.2 dX5_size_23
  · refine lv_bipush (v := (-2)) hx hb dX5_size_11 (by decide) ?_
    have hP9 := hP
    have hD9 := hD
    have hS9 := hS
    have qt : tX5_size held rm n = ((-2 : Int32), (0 : Int32), held, rm) := by unfold tX5_size; rw [if_neg c1]
    have qv : fX5_size held rm n = (-2 : Int32) := by unfold fX5_size; rw [qt]
    have q_th : gX5_size_th held rm n = (0 : Int32) := by unfold gX5_size_th; rw [qt]
    have q_held : gX5_size_held held rm n = held := by unfold gX5_size_held; rw [qt]
    have q_rm : gX5_size_rm held rm n = rm := by unfold gX5_size_rm; rw [qt]
    rw [qv, q_th, q_held, q_rm]
    exact W.iret (v := (-2 : Int32)) hx hb hr (fun t ht hW => ⟨⟨rfl, by rw [ht]; exact hP9, by rw [hAe]; exact hD9⟩, by rw [hAe]; exact hS9.F ht⟩) hS9.2.2 dX5_size_13
def fX5_polygon_A (held xs ys : Nat → Int32) (rm pm : Int32) (n : Int32) (ip : Int32) : Nat → Int32 → Int32 → Int32
  | 0, _, _ => 0
  | kA + 1, so, i => if n ≤ i then (so - so / (2 : Int32) * (2 : Int32)) else (if (fX5_rises held xs ys i n ip) = (0 : Int32) then (fX5_polygon_A held xs ys rm pm n ip kA (so + (0 : Int32)) (i + 1)) else (fX5_polygon_A held xs ys rm pm n ip kA (so + (1 : Int32)) (i + 1)))
theorem fX5_polygon_A_s (held xs ys : Nat → Int32) (rm pm : Int32) (n : Int32) (ip : Int32) (kA : Nat) (so : Int32) (i : Int32) : fX5_polygon_A held xs ys rm pm n ip  (kA + 1) so i = (if n ≤ i then (so - so / (2 : Int32) * (2 : Int32)) else (if (fX5_rises held xs ys i n ip) = (0 : Int32) then (fX5_polygon_A held xs ys rm pm n ip kA (so + (0 : Int32)) (i + 1)) else (fX5_polygon_A held xs ys rm pm n ip kA (so + (1 : Int32)) (i + 1)))) := rfl
def fX5_polygon (held xs ys : Nat → Int32) (rm pm : Int32) (n : Int32) (ip : Int32) : Int32 := if (fX5_isMany rm n (1 : Int32)) = (0 : Int32) then ((-2 : Int32)) else (if (fX5_isPoint pm ip) = (0 : Int32) then ((-2 : Int32)) else (if (fX5_isWhole held n) = (0 : Int32) then ((-4 : Int32)) else (if (fX5_isOnEdge held xs ys n ip) = (0 : Int32) then (fX5_polygon_A held xs ys rm pm n ip (n.toInt.toNat + 1) (0 : Int32) (0 : Int32)) else ((2 : Int32)))))
set_option maxHeartbeats 4000000 in
set_option maxRecDepth 100000 in
theorem ct5_polygon (l : Launch) (D : va_G) (sz : Nat) (m1 m2 m3 m4 m5 m6 m7 : Nat) (kI kJ : ClassId) (xs ys held : Nat → Int32) (la lb lc : Nat → Int64) (th pm rm on cl un ze lm : Int32) (n : Int32) (ip : Int32) (opm : pm.toInt ≤ (60 : Nat)) (orm : rm.toInt ≤ (24 : Nat)) (ohk : hok held) : Met l yX5_polygon (Cond.code yX5_polygon cX5_polygon 5 (some .int) :: BY) ({ frames := 4, cells := 0, slots := 0, locals := 240 }) (xw_P nN D vwCl [(kI, .int), (kJ, .long)] (wMo m1 m2 m3 m4 m5 m6 m7 kI kJ xs ys held la lb lc th pm rm on cl un ze lm) sz [.ref m1, .int n, .int ip]) (xw_Q D vwCl (some (.int (fX5_polygon held xs ys rm pm n ip))) (wMo m1 m2 m3 m4 m5 m6 m7 kI kJ xs ys held la lb lc th pm rm on cl un ze lm) (wMo m1 m2 m3 m4 m5 m6 m7 kI kJ xs ys held la lb lc (0 : Int32) pm rm on cl un ze lm) sz) 0 0 (va_A (wMo m1 m2 m3 m4 m5 m6 m7 kI kJ xs ys held la lb lc th pm rm on cl un ze lm) sz) := by
  refine Met.ofW (cc := cX5_polygon) (maxL := 5) (ret := (some .int)) (by decide) rfl ?_
  intro p e s m args below meth c s₁ B hml hv
  obtain ⟨rfl, hsz, hP, hK, hN, hD0⟩ := hv
  have hx := B.exec
  have hb := B.bytes
  have hr := B.returns
  have hts0 := atoms_spec (ws := Cond.code yX5_polygon cX5_polygon 5 (some .int) :: BY) B.pre
  have hts : ∀ w ∈ BY, w.before _ s = true := fun w h => hts0 w (List.mem_cons_of_mem _ h)
  have hown : s.vm.findClass RX5 = some m.cls := findClass_of_methodNamed B.named
  have hlocks := B.notSynchronized
  subst hsz
  have hD := hD0.self (sz := s.heap.size)
  generalize hAe : va_A (wMo m1 m2 m3 m4 m5 m6 m7 kI kJ xs ys held la lb lc th pm rm on cl un ze lm) s.heap.size = A at hD ⊢
  have hA : ∀ q : Nat, s.heap.size ≤ q → A q := fun q h => by rw [← hAe]; exact Or.inr h
  have hS : va_S A s.heap s.heap [] := va_S.rf
  have hP : va_P D vwCl [(m1, .inr (9, [.int th, .int pm, .ref m2, .ref m3, .int rm, .ref m4, .int on, .int cl, .int un, .int ze, .int lm, .ref m5, .ref m6, .ref m7])), (m2, .inl (kI, 60, .inl xs)), (m3, .inl (kI, 60, .inl ys)), (m4, .inl (kI, 24, .inl held)), (m5, .inl (kJ, 12, .inr (.inl la))), (m6, .inl (kJ, 12, .inr (.inl lb))), (m7, .inl (kJ, 12, .inr (.inl lc)))] s.heap := hP
  have hD : va_D A [(m1, .inr (9, [.int th, .int pm, .ref m2, .ref m3, .int rm, .ref m4, .int on, .int cl, .int un, .int ze, .int lm, .ref m5, .ref m6, .ref m7])), (m2, .inl (kI, 60, .inl xs)), (m3, .inl (kI, 60, .inl ys)), (m4, .inl (kI, 24, .inl held)), (m5, .inl (kJ, 12, .inr (.inl la))), (m6, .inl (kJ, 12, .inr (.inl lb))), (m7, .inl (kJ, 12, .inr (.inl lc)))] := hD
  have hl := lv_entry ([.ref m1, .int n, .int ip]) (n := 5) (Nat.le_of_ble_eq_true rfl)
  rw [lg_entry_eq]
  generalize (lg_sl ([.ref m1, .int n, .int ip]) ++ List.replicate (5 - (lg_sl ([.ref m1, .int n, .int ip])).length) Slot.unset).toArray = ls at hl ⊢
  have hl : lv_has ls 5 [(0, .ref m1), (1, .int n), (2, .int ip)] := hl
  refine lv_aload_n hx hb dX5_polygon_0 rfl (lv_at hl 0 rfl) ?_
  refine lv_iconst (v := 0) hx hb dX5_polygon_1 (by decide) ?_
  refine va_put (D := D) (ci := 9) (v := .int (0 : Int32)) (ty := .int) (C := RX5) (T := TX5) (N := 14) hx hb hts hinX5 tyX5 tyX5_ok nmX5 hown hK hP hD hS 0 rfl rfl 0 (by decide) (hts _ fk_X5_1) (fun _ h9 => h9) rfl (by decide +kernel) rfl rfl (Nat.le_of_ble_eq_true rfl) dX5_polygon_2 (fun H locs hP hD hS => ?_)
  have hP : va_P D vwCl [(m1, .inr (9, [.int (0 : Int32), .int pm, .ref m2, .ref m3, .int rm, .ref m4, .int on, .int cl, .int un, .int ze, .int lm, .ref m5, .ref m6, .ref m7])), (m2, .inl (kI, 60, .inl xs)), (m3, .inl (kI, 60, .inl ys)), (m4, .inl (kI, 24, .inl held)), (m5, .inl (kJ, 12, .inr (.inl la))), (m6, .inl (kJ, 12, .inr (.inl lb))), (m7, .inl (kJ, 12, .inr (.inl lc)))] H := hP
  have hD : va_D A [(m1, .inr (9, [.int (0 : Int32), .int pm, .ref m2, .ref m3, .int rm, .ref m4, .int on, .int cl, .int un, .int ze, .int lm, .ref m5, .ref m6, .ref m7])), (m2, .inl (kI, 60, .inl xs)), (m3, .inl (kI, 60, .inl ys)), (m4, .inl (kI, 24, .inl held)), (m5, .inl (kJ, 12, .inr (.inl la))), (m6, .inl (kJ, 12, .inr (.inl lb))), (m7, .inl (kJ, 12, .inr (.inl lc)))] := hD
  refine lv_aload_n hx hb dX5_polygon_5 rfl (lv_at hl 0 rfl) ?_
  refine lv_iload_n hx hb dX5_polygon_6 rfl (lv_at hl 1 rfl) ?_
  refine lv_iconst (v := 1) hx hb dX5_polygon_7 (by decide) ?_
  refine xr_V (q := (RX5, TX5, 14)) (ci := 9) (q0 := 0) (rest := []) (As := [.int n, .int (1 : Int32)]) ⟨hx, hb, hml, hown, hts⟩ (ct5_isMany l D m1 m2 m3 m4 m5 m6 m7 kI kJ xs ys held la lb lc (0 : Int32) pm rm on cl un ze lm n (1 : Int32) ) (cwV 2 hts gl_X5_139 rfl rfl rfl (by decide +kernel) ⟨Nat.le_of_ble_eq_true rfl, Nat.le_of_ble_eq_true rfl⟩) nN_mv hN hK hP [0, 1, 2, 3, 4, 5, 6] [0, 1] rfl rfl rfl rfl rfl hl.1 rfl (Nat.le_of_ble_eq_true rfl) dX5_polygon_8 ⟨Nat.le_of_ble_eq_true rfl, Nat.le_of_ble_eq_true rfl⟩ ?_
  refine lv_if_eq (tgt := 22) hx hb dX5_polygon_11 (by decide) (fun c1 => ?_) (fun c1 => ?_)
  · refine lv_bipush (v := (-2)) hx hb dX5_polygon_22 (by decide) ?_
    have hP9 := hP
    have hD9 := hD
    have hS9 := hS
    have qv : fX5_polygon held xs ys rm pm n ip = (-2 : Int32) := by unfold fX5_polygon; rw [if_pos c1]
    rw [qv]
    exact W.iret (v := (-2 : Int32)) hx hb hr (fun t ht hW => ⟨⟨rfl, by rw [ht]; exact hP9, by rw [hAe]; exact hD9⟩, by rw [hAe]; exact hS9.F ht⟩) hS9.2.2 dX5_polygon_24
  · refine lv_aload_n hx hb dX5_polygon_14 rfl (lv_at hl 0 rfl) ?_
    refine lv_iload_n hx hb dX5_polygon_15 rfl (lv_at hl 2 rfl) ?_
    refine xr_V (q := (RX5, TX5, 14)) (ci := 9) (q0 := 0) (rest := []) (As := [.int ip]) ⟨hx, hb, hml, hown, hts⟩ (ct5_isPoint l D m1 m2 m3 m4 m5 m6 m7 kI kJ xs ys held la lb lc (0 : Int32) pm rm on cl un ze lm ip ) (cwV 1 hts gl_X5_69 rfl rfl rfl (by decide +kernel) ⟨Nat.le_of_ble_eq_true rfl, Nat.le_of_ble_eq_true rfl⟩) nN_mv hN hK hP [0, 1, 2, 3, 4, 5, 6] [0, 1] rfl rfl rfl rfl rfl hl.1 rfl (Nat.le_of_ble_eq_true rfl) dX5_polygon_16 ⟨Nat.le_of_ble_eq_true rfl, Nat.le_of_ble_eq_true rfl⟩ ?_
    refine lv_if_ne (tgt := 25) hx hb dX5_polygon_19 (by decide) (fun c2 => ?_) (fun c2 => ?_)
    · refine lv_aload_n hx hb dX5_polygon_25 rfl (lv_at hl 0 rfl) ?_
      refine lv_iload_n hx hb dX5_polygon_26 rfl (lv_at hl 1 rfl) ?_
      refine xr_V (q := (RX5, TX5, 14)) (ci := 9) (q0 := 0) (rest := []) (As := [.int n]) ⟨hx, hb, hml, hown, hts⟩ (ct5_isWhole l D m1 m2 m3 m4 m5 m6 m7 kI kJ xs ys held la lb lc (0 : Int32) pm rm on cl un ze lm n ((o_mn c1 orm).2)) (cwV 1 hts gl_X5_142 rfl rfl rfl (by decide +kernel) ⟨Nat.le_of_ble_eq_true rfl, Nat.le_of_ble_eq_true rfl⟩) nN_mv hN hK hP [0, 1, 2, 3, 4, 5, 6] [0, 1] rfl rfl rfl rfl rfl hl.1 rfl (Nat.le_of_ble_eq_true rfl) dX5_polygon_27 ⟨Nat.le_of_ble_eq_true rfl, Nat.le_of_ble_eq_true rfl⟩ ?_
      refine lv_if_ne (tgt := 36) hx hb dX5_polygon_30 (by decide) (fun c3 => ?_) (fun c3 => ?_)
      · refine lv_aload_n hx hb dX5_polygon_36 rfl (lv_at hl 0 rfl) ?_
        refine lv_iload_n hx hb dX5_polygon_37 rfl (lv_at hl 1 rfl) ?_
        refine lv_iload_n hx hb dX5_polygon_38 rfl (lv_at hl 2 rfl) ?_
        refine xr_V (q := (RX5, TX5, 14)) (ci := 9) (q0 := 0) (rest := []) (As := [.int n, .int ip]) ⟨hx, hb, hml, hown, hts⟩ (ct5_isOnEdge l D m1 m2 m3 m4 m5 m6 m7 kI kJ xs ys held la lb lc (0 : Int32) pm rm on cl un ze lm n ip ((o_mn c1 orm).2) (o_wh c3 ohk) (o_pt c2 opm)) (cwV 2 hts gl_X5_149 rfl rfl rfl (by decide +kernel) ⟨Nat.le_of_ble_eq_true rfl, Nat.le_of_ble_eq_true rfl⟩) nN_mv hN hK hP [0, 1, 2, 3, 4, 5, 6] [0, 1] rfl rfl rfl rfl rfl hl.1 rfl (Nat.le_of_ble_eq_true rfl) dX5_polygon_39 ⟨Nat.le_of_ble_eq_true rfl, Nat.le_of_ble_eq_true rfl⟩ ?_
        refine lv_if_eq (tgt := 47) hx hb dX5_polygon_42 (by decide) (fun c4 => ?_) (fun c4 => ?_)
        · refine lv_iconst (v := 0) hx hb dX5_polygon_47 (by decide) ?_
          refine lv_istore_n (lv' := [(3, .int (0 : Int32)), (0, .ref m1), (1, .int n), (2, .int ip)]) hx hb dX5_polygon_48 rfl hl (by decide) rfl (fun ls hl => ?_)
          refine lv_iconst (v := 0) hx hb dX5_polygon_49 (by decide) ?_
          refine lv_istore (lv' := [(4, .int (0 : Int32)), (3, .int (0 : Int32)), (0, .ref m1), (1, .int n), (2, .int ip)]) hx hb dX5_polygon_50 hl (by decide) rfl (fun ls hl => ?_)
          refine xr_l2 (P := fun ls => W p l e _ s m _ below meth c _ _ _ _ _ (F0 m 52 ls [])) (nL := 5) (fun (so : Int32) (i : Int32) => [(4, .int i), (3, .int so), (0, .ref m1), (1, .int n), (2, .int ip)]) (fun kA (so : Int32) (i : Int32) => xr_u n i kA ∧ fX5_polygon_A held xs ys rm pm n ip kA so i = fX5_polygon held xs ys rm pm n ip) (fun _ _ h => xr_u0 h.1) ?_ (n.toInt.toNat + 1) (0 : Int32) (0 : Int32) ls hl ⟨(xr_ub n), (by unfold fX5_polygon; rw [if_neg c1, if_neg c2, if_neg c3, if_pos c4])⟩
          clear hl
          intro kA so i ls hl hI ihA
          obtain ⟨huA, hLA⟩ := hI
          refine lv_iload hx hb dX5_polygon_52 (lv_at hl 0 rfl) ?_
          refine lv_iload_n hx hb dX5_polygon_54 rfl (lv_at hl 3 rfl) ?_
          refine lv_icmp_ge (tgt := 83) hx hb dX5_polygon_55 (by decide) (fun c5 => ?_) (fun c5 => ?_)
          · refine lv_iload_n hx hb dX5_polygon_83 rfl (lv_at hl 1 rfl) ?_
            refine lv_iconst (v := 2) hx hb dX5_polygon_84 (by decide) ?_
            refine lv_irem hx hb dX5_polygon_85 (by decide) ?_
            have hP9 := hP
            have hD9 := hD
            have hS9 := hS
            have qv : fX5_polygon held xs ys rm pm n ip = so - so / (2 : Int32) * (2 : Int32) := by rw [← hLA, fX5_polygon_A_s, if_pos c5]
            rw [qv]
            exact W.iret (v := so - so / (2 : Int32) * (2 : Int32)) hx hb hr (fun t ht hW => ⟨⟨rfl, by rw [ht]; exact hP9, by rw [hAe]; exact hD9⟩, by rw [hAe]; exact hS9.F ht⟩) hS9.2.2 dX5_polygon_86
          · refine lv_iload_n hx hb dX5_polygon_58 rfl (lv_at hl 1 rfl) ?_
            refine lv_aload_n hx hb dX5_polygon_59 rfl (lv_at hl 2 rfl) ?_
            refine lv_iload hx hb dX5_polygon_60 (lv_at hl 0 rfl) ?_
            refine lv_iload_n hx hb dX5_polygon_62 rfl (lv_at hl 3 rfl) ?_
            refine lv_iload_n hx hb dX5_polygon_63 rfl (lv_at hl 4 rfl) ?_
            refine xr_V (q := (RX5, TX5, 14)) (ci := 9) (q0 := 0) (rest := [.int so]) (As := [.int i, .int n, .int ip]) ⟨hx, hb, hml, hown, hts⟩ (ct5_rises l D m1 m2 m3 m4 m5 m6 m7 kI kJ xs ys held la lb lc (0 : Int32) pm rm on cl un ze lm i n ip (xr_rg huA c5) ((o_mn c1 orm).2) (o_wh c3 ohk) (o_pt c2 opm)) (cwV 3 hts gl_X5_152 rfl rfl rfl (by decide +kernel) ⟨Nat.le_of_ble_eq_true rfl, Nat.le_of_ble_eq_true rfl⟩) nN_mv hN hK hP [0, 1, 2, 3, 4, 5, 6] [0, 1] rfl rfl rfl rfl rfl hl.1 rfl (Nat.le_of_ble_eq_true rfl) dX5_polygon_64 ⟨Nat.le_of_ble_eq_true rfl, Nat.le_of_ble_eq_true rfl⟩ ?_
            refine lv_if_ne (tgt := 74) hx hb dX5_polygon_67 (by decide) (fun c6 => ?_) (fun c6 => ?_)
            · refine lv_iconst (v := 1) hx hb dX5_polygon_74 (by decide) ?_
              refine lv_iadd hx hb dX5_polygon_75 ?_
              refine lv_istore_n (lv' := [(3, .int (so + (1 : Int32))), (4, .int i), (0, .ref m1), (1, .int n), (2, .int ip)]) hx hb dX5_polygon_76 rfl hl (by decide) rfl (fun ls hl => ?_)
              obtain ⟨z7, ez7⟩ : ∃ y : Int32, y = i + 1 := ⟨_, rfl⟩
              refine lv_iinc (v := z7) (lv' := [(4, .int z7), (3, .int (so + (1 : Int32))), (0, .ref m1), (1, .int n), (2, .int ip)]) hx hb dX5_polygon_77 hl (k := 1) rfl (by rw [ez7]; rfl) (by decide) rfl (fun ls hl => ?_)
              refine lv_goto (tgt := 52) hx hb dX5_polygon_80 (by decide) ?_
              have hl9 := hl
              subst ez7
              exact ihA (so + (1 : Int32)) (i + 1) _ (lv_sub hl9 [0, 1, 2, 3, 4] rfl) ⟨xr_us huA c5, by rw [← hLA, fX5_polygon_A_s, if_neg c5, if_neg c6]⟩
            · refine lv_iconst (v := 0) hx hb dX5_polygon_70 (by decide) ?_
              refine lv_goto (tgt := 75) hx hb dX5_polygon_71 (by decide) ?_
              refine lv_iadd hx hb dX5_polygon_75 ?_
              refine lv_istore_n (lv' := [(3, .int (so + (0 : Int32))), (4, .int i), (0, .ref m1), (1, .int n), (2, .int ip)]) hx hb dX5_polygon_76 rfl hl (by decide) rfl (fun ls hl => ?_)
              obtain ⟨z8, ez8⟩ : ∃ y : Int32, y = i + 1 := ⟨_, rfl⟩
              refine lv_iinc (v := z8) (lv' := [(4, .int z8), (3, .int (so + (0 : Int32))), (0, .ref m1), (1, .int n), (2, .int ip)]) hx hb dX5_polygon_77 hl (k := 1) rfl (by rw [ez8]; rfl) (by decide) rfl (fun ls hl => ?_)
              refine lv_goto (tgt := 52) hx hb dX5_polygon_80 (by decide) ?_
              have hl9 := hl
              subst ez8
              exact ihA (so + (0 : Int32)) (i + 1) _ (lv_sub hl9 [0, 1, 2, 3, 4] rfl) ⟨xr_us huA c5, by rw [← hLA, fX5_polygon_A_s, if_neg c5, if_pos c6]⟩
        · refine lv_iconst (v := 2) hx hb dX5_polygon_45 (by decide) ?_
          have hP9 := hP
          have hD9 := hD
          have hS9 := hS
          have qv : fX5_polygon held xs ys rm pm n ip = (2 : Int32) := by unfold fX5_polygon; rw [if_neg c1, if_neg c2, if_neg c3, if_neg c4]
          rw [qv]
          exact W.iret (v := (2 : Int32)) hx hb hr (fun t ht hW => ⟨⟨rfl, by rw [ht]; exact hP9, by rw [hAe]; exact hD9⟩, by rw [hAe]; exact hS9.F ht⟩) hS9.2.2 dX5_polygon_46
      · refine lv_bipush (v := (-4)) hx hb dX5_polygon_33 (by decide) ?_
        have hP9 := hP
        have hD9 := hD
        have hS9 := hS
        have qv : fX5_polygon held xs ys rm pm n ip = (-4 : Int32) := by unfold fX5_polygon; rw [if_neg c1, if_neg c2, if_pos c3]
        rw [qv]
        exact W.iret (v := (-4 : Int32)) hx hb hr (fun t ht hW => ⟨⟨rfl, by rw [ht]; exact hP9, by rw [hAe]; exact hD9⟩, by rw [hAe]; exact hS9.F ht⟩) hS9.2.2 dX5_polygon_35
    · refine lv_bipush (v := (-2)) hx hb dX5_polygon_22 (by decide) ?_
      have hP9 := hP
      have hD9 := hD
      have hS9 := hS
      have qv : fX5_polygon held xs ys rm pm n ip = (-2 : Int32) := by unfold fX5_polygon; rw [if_neg c1, if_pos c2]
      rw [qv]
      exact W.iret (v := (-2 : Int32)) hx hb hr (fun t ht hW => ⟨⟨rfl, by rw [ht]; exact hP9, by rw [hAe]; exact hD9⟩, by rw [hAe]; exact hS9.F ht⟩) hS9.2.2 dX5_polygon_24
def fX5_winding_A (held xs ys : Nat → Int32) (rm pm : Int32) (n : Int32) (ip : Int32) : Nat → Int32 → Int32 → Int32
  | 0, _, _ => 0
  | kA + 1, su, i => if n ≤ i then (su) else (fX5_winding_A held xs ys rm pm n ip kA (su + (fX5_rises held xs ys i n ip)) (i + 1))
theorem fX5_winding_A_s (held xs ys : Nat → Int32) (rm pm : Int32) (n : Int32) (ip : Int32) (kA : Nat) (su : Int32) (i : Int32) : fX5_winding_A held xs ys rm pm n ip  (kA + 1) su i = (if n ≤ i then (su) else (fX5_winding_A held xs ys rm pm n ip kA (su + (fX5_rises held xs ys i n ip)) (i + 1))) := rfl
def fX5_winding (held xs ys : Nat → Int32) (rm pm : Int32) (n : Int32) (ip : Int32) : Int32 := if (fX5_isMany rm n (1 : Int32)) = (0 : Int32) then ((-100 : Int32)) else (if (fX5_isPoint pm ip) = (0 : Int32) then ((-100 : Int32)) else (if (fX5_isWhole held n) = (0 : Int32) then ((-100 : Int32)) else (if (fX5_isOnEdge held xs ys n ip) = (0 : Int32) then (fX5_winding_A held xs ys rm pm n ip (n.toInt.toNat + 1) (0 : Int32) (0 : Int32)) else ((100 : Int32)))))
set_option maxHeartbeats 4000000 in
set_option maxRecDepth 100000 in
theorem ct5_winding (l : Launch) (D : va_G) (sz : Nat) (m1 m2 m3 m4 m5 m6 m7 : Nat) (kI kJ : ClassId) (xs ys held : Nat → Int32) (la lb lc : Nat → Int64) (th pm rm on cl un ze lm : Int32) (n : Int32) (ip : Int32) (opm : pm.toInt ≤ (60 : Nat)) (orm : rm.toInt ≤ (24 : Nat)) (ohk : hok held) : Met l yX5_winding (Cond.code yX5_winding cX5_winding 5 (some .int) :: BY) ({ frames := 4, cells := 0, slots := 0, locals := 240 }) (xw_P nN D vwCl [(kI, .int), (kJ, .long)] (wMo m1 m2 m3 m4 m5 m6 m7 kI kJ xs ys held la lb lc th pm rm on cl un ze lm) sz [.ref m1, .int n, .int ip]) (xw_Q D vwCl (some (.int (fX5_winding held xs ys rm pm n ip))) (wMo m1 m2 m3 m4 m5 m6 m7 kI kJ xs ys held la lb lc th pm rm on cl un ze lm) (wMo m1 m2 m3 m4 m5 m6 m7 kI kJ xs ys held la lb lc (0 : Int32) pm rm on cl un ze lm) sz) 0 0 (va_A (wMo m1 m2 m3 m4 m5 m6 m7 kI kJ xs ys held la lb lc th pm rm on cl un ze lm) sz) := by
  refine Met.ofW (cc := cX5_winding) (maxL := 5) (ret := (some .int)) (by decide) rfl ?_
  intro p e s m args below meth c s₁ B hml hv
  obtain ⟨rfl, hsz, hP, hK, hN, hD0⟩ := hv
  have hx := B.exec
  have hb := B.bytes
  have hr := B.returns
  have hts0 := atoms_spec (ws := Cond.code yX5_winding cX5_winding 5 (some .int) :: BY) B.pre
  have hts : ∀ w ∈ BY, w.before _ s = true := fun w h => hts0 w (List.mem_cons_of_mem _ h)
  have hown : s.vm.findClass RX5 = some m.cls := findClass_of_methodNamed B.named
  have hlocks := B.notSynchronized
  subst hsz
  have hD := hD0.self (sz := s.heap.size)
  generalize hAe : va_A (wMo m1 m2 m3 m4 m5 m6 m7 kI kJ xs ys held la lb lc th pm rm on cl un ze lm) s.heap.size = A at hD ⊢
  have hA : ∀ q : Nat, s.heap.size ≤ q → A q := fun q h => by rw [← hAe]; exact Or.inr h
  have hS : va_S A s.heap s.heap [] := va_S.rf
  have hP : va_P D vwCl [(m1, .inr (9, [.int th, .int pm, .ref m2, .ref m3, .int rm, .ref m4, .int on, .int cl, .int un, .int ze, .int lm, .ref m5, .ref m6, .ref m7])), (m2, .inl (kI, 60, .inl xs)), (m3, .inl (kI, 60, .inl ys)), (m4, .inl (kI, 24, .inl held)), (m5, .inl (kJ, 12, .inr (.inl la))), (m6, .inl (kJ, 12, .inr (.inl lb))), (m7, .inl (kJ, 12, .inr (.inl lc)))] s.heap := hP
  have hD : va_D A [(m1, .inr (9, [.int th, .int pm, .ref m2, .ref m3, .int rm, .ref m4, .int on, .int cl, .int un, .int ze, .int lm, .ref m5, .ref m6, .ref m7])), (m2, .inl (kI, 60, .inl xs)), (m3, .inl (kI, 60, .inl ys)), (m4, .inl (kI, 24, .inl held)), (m5, .inl (kJ, 12, .inr (.inl la))), (m6, .inl (kJ, 12, .inr (.inl lb))), (m7, .inl (kJ, 12, .inr (.inl lc)))] := hD
  have hl := lv_entry ([.ref m1, .int n, .int ip]) (n := 5) (Nat.le_of_ble_eq_true rfl)
  rw [lg_entry_eq]
  generalize (lg_sl ([.ref m1, .int n, .int ip]) ++ List.replicate (5 - (lg_sl ([.ref m1, .int n, .int ip])).length) Slot.unset).toArray = ls at hl ⊢
  have hl : lv_has ls 5 [(0, .ref m1), (1, .int n), (2, .int ip)] := hl
  refine lv_aload_n hx hb dX5_winding_0 rfl (lv_at hl 0 rfl) ?_
  refine lv_iconst (v := 0) hx hb dX5_winding_1 (by decide) ?_
  refine va_put (D := D) (ci := 9) (v := .int (0 : Int32)) (ty := .int) (C := RX5) (T := TX5) (N := 14) hx hb hts hinX5 tyX5 tyX5_ok nmX5 hown hK hP hD hS 0 rfl rfl 0 (by decide) (hts _ fk_X5_1) (fun _ h9 => h9) rfl (by decide +kernel) rfl rfl (Nat.le_of_ble_eq_true rfl) dX5_winding_2 (fun H locs hP hD hS => ?_)
  have hP : va_P D vwCl [(m1, .inr (9, [.int (0 : Int32), .int pm, .ref m2, .ref m3, .int rm, .ref m4, .int on, .int cl, .int un, .int ze, .int lm, .ref m5, .ref m6, .ref m7])), (m2, .inl (kI, 60, .inl xs)), (m3, .inl (kI, 60, .inl ys)), (m4, .inl (kI, 24, .inl held)), (m5, .inl (kJ, 12, .inr (.inl la))), (m6, .inl (kJ, 12, .inr (.inl lb))), (m7, .inl (kJ, 12, .inr (.inl lc)))] H := hP
  have hD : va_D A [(m1, .inr (9, [.int (0 : Int32), .int pm, .ref m2, .ref m3, .int rm, .ref m4, .int on, .int cl, .int un, .int ze, .int lm, .ref m5, .ref m6, .ref m7])), (m2, .inl (kI, 60, .inl xs)), (m3, .inl (kI, 60, .inl ys)), (m4, .inl (kI, 24, .inl held)), (m5, .inl (kJ, 12, .inr (.inl la))), (m6, .inl (kJ, 12, .inr (.inl lb))), (m7, .inl (kJ, 12, .inr (.inl lc)))] := hD
  refine lv_aload_n hx hb dX5_winding_5 rfl (lv_at hl 0 rfl) ?_
  refine lv_iload_n hx hb dX5_winding_6 rfl (lv_at hl 1 rfl) ?_
  refine lv_iconst (v := 1) hx hb dX5_winding_7 (by decide) ?_
  refine xr_V (q := (RX5, TX5, 14)) (ci := 9) (q0 := 0) (rest := []) (As := [.int n, .int (1 : Int32)]) ⟨hx, hb, hml, hown, hts⟩ (ct5_isMany l D m1 m2 m3 m4 m5 m6 m7 kI kJ xs ys held la lb lc (0 : Int32) pm rm on cl un ze lm n (1 : Int32) ) (cwV 2 hts gl_X5_139 rfl rfl rfl (by decide +kernel) ⟨Nat.le_of_ble_eq_true rfl, Nat.le_of_ble_eq_true rfl⟩) nN_mv hN hK hP [0, 1, 2, 3, 4, 5, 6] [0, 1] rfl rfl rfl rfl rfl hl.1 rfl (Nat.le_of_ble_eq_true rfl) dX5_winding_8 ⟨Nat.le_of_ble_eq_true rfl, Nat.le_of_ble_eq_true rfl⟩ ?_
  refine lv_if_eq (tgt := 30) hx hb dX5_winding_11 (by decide) (fun c1 => ?_) (fun c1 => ?_)
  · refine lv_bipush (v := (-100)) hx hb dX5_winding_30 (by decide) ?_
    have hP9 := hP
    have hD9 := hD
    have hS9 := hS
    have qv : fX5_winding held xs ys rm pm n ip = (-100 : Int32) := by unfold fX5_winding; rw [if_pos c1]
    rw [qv]
    exact W.iret (v := (-100 : Int32)) hx hb hr (fun t ht hW => ⟨⟨rfl, by rw [ht]; exact hP9, by rw [hAe]; exact hD9⟩, by rw [hAe]; exact hS9.F ht⟩) hS9.2.2 dX5_winding_32
  · refine lv_aload_n hx hb dX5_winding_14 rfl (lv_at hl 0 rfl) ?_
    refine lv_iload_n hx hb dX5_winding_15 rfl (lv_at hl 2 rfl) ?_
    refine xr_V (q := (RX5, TX5, 14)) (ci := 9) (q0 := 0) (rest := []) (As := [.int ip]) ⟨hx, hb, hml, hown, hts⟩ (ct5_isPoint l D m1 m2 m3 m4 m5 m6 m7 kI kJ xs ys held la lb lc (0 : Int32) pm rm on cl un ze lm ip ) (cwV 1 hts gl_X5_69 rfl rfl rfl (by decide +kernel) ⟨Nat.le_of_ble_eq_true rfl, Nat.le_of_ble_eq_true rfl⟩) nN_mv hN hK hP [0, 1, 2, 3, 4, 5, 6] [0, 1] rfl rfl rfl rfl rfl hl.1 rfl (Nat.le_of_ble_eq_true rfl) dX5_winding_16 ⟨Nat.le_of_ble_eq_true rfl, Nat.le_of_ble_eq_true rfl⟩ ?_
    refine lv_if_eq (tgt := 30) hx hb dX5_winding_19 (by decide) (fun c2 => ?_) (fun c2 => ?_)
    · refine lv_bipush (v := (-100)) hx hb dX5_winding_30 (by decide) ?_
      have hP9 := hP
      have hD9 := hD
      have hS9 := hS
      have qv : fX5_winding held xs ys rm pm n ip = (-100 : Int32) := by unfold fX5_winding; rw [if_neg c1, if_pos c2]
      rw [qv]
      exact W.iret (v := (-100 : Int32)) hx hb hr (fun t ht hW => ⟨⟨rfl, by rw [ht]; exact hP9, by rw [hAe]; exact hD9⟩, by rw [hAe]; exact hS9.F ht⟩) hS9.2.2 dX5_winding_32
    · refine lv_aload_n hx hb dX5_winding_22 rfl (lv_at hl 0 rfl) ?_
      refine lv_iload_n hx hb dX5_winding_23 rfl (lv_at hl 1 rfl) ?_
      refine xr_V (q := (RX5, TX5, 14)) (ci := 9) (q0 := 0) (rest := []) (As := [.int n]) ⟨hx, hb, hml, hown, hts⟩ (ct5_isWhole l D m1 m2 m3 m4 m5 m6 m7 kI kJ xs ys held la lb lc (0 : Int32) pm rm on cl un ze lm n ((o_mn c1 orm).2)) (cwV 1 hts gl_X5_142 rfl rfl rfl (by decide +kernel) ⟨Nat.le_of_ble_eq_true rfl, Nat.le_of_ble_eq_true rfl⟩) nN_mv hN hK hP [0, 1, 2, 3, 4, 5, 6] [0, 1] rfl rfl rfl rfl rfl hl.1 rfl (Nat.le_of_ble_eq_true rfl) dX5_winding_24 ⟨Nat.le_of_ble_eq_true rfl, Nat.le_of_ble_eq_true rfl⟩ ?_
      refine lv_if_ne (tgt := 33) hx hb dX5_winding_27 (by decide) (fun c3 => ?_) (fun c3 => ?_)
      · refine lv_aload_n hx hb dX5_winding_33 rfl (lv_at hl 0 rfl) ?_
        refine lv_iload_n hx hb dX5_winding_34 rfl (lv_at hl 1 rfl) ?_
        refine lv_iload_n hx hb dX5_winding_35 rfl (lv_at hl 2 rfl) ?_
        refine xr_V (q := (RX5, TX5, 14)) (ci := 9) (q0 := 0) (rest := []) (As := [.int n, .int ip]) ⟨hx, hb, hml, hown, hts⟩ (ct5_isOnEdge l D m1 m2 m3 m4 m5 m6 m7 kI kJ xs ys held la lb lc (0 : Int32) pm rm on cl un ze lm n ip ((o_mn c1 orm).2) (o_wh c3 ohk) (o_pt c2 opm)) (cwV 2 hts gl_X5_149 rfl rfl rfl (by decide +kernel) ⟨Nat.le_of_ble_eq_true rfl, Nat.le_of_ble_eq_true rfl⟩) nN_mv hN hK hP [0, 1, 2, 3, 4, 5, 6] [0, 1] rfl rfl rfl rfl rfl hl.1 rfl (Nat.le_of_ble_eq_true rfl) dX5_winding_36 ⟨Nat.le_of_ble_eq_true rfl, Nat.le_of_ble_eq_true rfl⟩ ?_
        refine lv_if_eq (tgt := 45) hx hb dX5_winding_39 (by decide) (fun c4 => ?_) (fun c4 => ?_)
        · refine lv_iconst (v := 0) hx hb dX5_winding_45 (by decide) ?_
          refine lv_istore_n (lv' := [(3, .int (0 : Int32)), (0, .ref m1), (1, .int n), (2, .int ip)]) hx hb dX5_winding_46 rfl hl (by decide) rfl (fun ls hl => ?_)
          refine lv_iconst (v := 0) hx hb dX5_winding_47 (by decide) ?_
          refine lv_istore (lv' := [(4, .int (0 : Int32)), (3, .int (0 : Int32)), (0, .ref m1), (1, .int n), (2, .int ip)]) hx hb dX5_winding_48 hl (by decide) rfl (fun ls hl => ?_)
          refine xr_l2 (P := fun ls => W p l e _ s m _ below meth c _ _ _ _ _ (F0 m 50 ls [])) (nL := 5) (fun (su : Int32) (i : Int32) => [(4, .int i), (3, .int su), (0, .ref m1), (1, .int n), (2, .int ip)]) (fun kA (su : Int32) (i : Int32) => xr_u n i kA ∧ fX5_winding_A held xs ys rm pm n ip kA su i = fX5_winding held xs ys rm pm n ip) (fun _ _ h => xr_u0 h.1) ?_ (n.toInt.toNat + 1) (0 : Int32) (0 : Int32) ls hl ⟨(xr_ub n), (by unfold fX5_winding; rw [if_neg c1, if_neg c2, if_neg c3, if_pos c4])⟩
          clear hl
          intro kA su i ls hl hI ihA
          obtain ⟨huA, hLA⟩ := hI
          refine lv_iload hx hb dX5_winding_50 (lv_at hl 0 rfl) ?_
          refine lv_iload_n hx hb dX5_winding_52 rfl (lv_at hl 3 rfl) ?_
          refine lv_icmp_ge (tgt := 73) hx hb dX5_winding_53 (by decide) (fun c5 => ?_) (fun c5 => ?_)
          · refine lv_iload_n hx hb dX5_winding_73 rfl (lv_at hl 1 rfl) ?_
            have hP9 := hP
            have hD9 := hD
            have hS9 := hS
            have qv : fX5_winding held xs ys rm pm n ip = su := by rw [← hLA, fX5_winding_A_s, if_pos c5]
            rw [qv]
            exact W.iret (v := su) hx hb hr (fun t ht hW => ⟨⟨rfl, by rw [ht]; exact hP9, by rw [hAe]; exact hD9⟩, by rw [hAe]; exact hS9.F ht⟩) hS9.2.2 dX5_winding_74
          · refine lv_iload_n hx hb dX5_winding_56 rfl (lv_at hl 1 rfl) ?_
            refine lv_aload_n hx hb dX5_winding_57 rfl (lv_at hl 2 rfl) ?_
            refine lv_iload hx hb dX5_winding_58 (lv_at hl 0 rfl) ?_
            refine lv_iload_n hx hb dX5_winding_60 rfl (lv_at hl 3 rfl) ?_
            refine lv_iload_n hx hb dX5_winding_61 rfl (lv_at hl 4 rfl) ?_
            refine xr_V (q := (RX5, TX5, 14)) (ci := 9) (q0 := 0) (rest := [.int su]) (As := [.int i, .int n, .int ip]) ⟨hx, hb, hml, hown, hts⟩ (ct5_rises l D m1 m2 m3 m4 m5 m6 m7 kI kJ xs ys held la lb lc (0 : Int32) pm rm on cl un ze lm i n ip (xr_rg huA c5) ((o_mn c1 orm).2) (o_wh c3 ohk) (o_pt c2 opm)) (cwV 3 hts gl_X5_152 rfl rfl rfl (by decide +kernel) ⟨Nat.le_of_ble_eq_true rfl, Nat.le_of_ble_eq_true rfl⟩) nN_mv hN hK hP [0, 1, 2, 3, 4, 5, 6] [0, 1] rfl rfl rfl rfl rfl hl.1 rfl (Nat.le_of_ble_eq_true rfl) dX5_winding_62 ⟨Nat.le_of_ble_eq_true rfl, Nat.le_of_ble_eq_true rfl⟩ ?_
            refine lv_iadd hx hb dX5_winding_65 ?_
            refine lv_topi (fun z6 ez6 => ?_)
            refine lv_istore_n (lv' := [(3, .int z6), (4, .int i), (0, .ref m1), (1, .int n), (2, .int ip)]) hx hb dX5_winding_66 rfl hl (by decide) rfl (fun ls hl => ?_)
            obtain ⟨z7, ez7⟩ : ∃ y : Int32, y = i + 1 := ⟨_, rfl⟩
            refine lv_iinc (v := z7) (lv' := [(4, .int z7), (3, .int z6), (0, .ref m1), (1, .int n), (2, .int ip)]) hx hb dX5_winding_67 hl (k := 1) rfl (by rw [ez7]; rfl) (by decide) rfl (fun ls hl => ?_)
            refine lv_goto (tgt := 50) hx hb dX5_winding_70 (by decide) ?_
            have hl9 := hl
            subst ez7
            subst ez6
            exact ihA (su + (fX5_rises held xs ys i n ip)) (i + 1) _ (lv_sub hl9 [0, 1, 2, 3, 4] rfl) ⟨xr_us huA c5, by rw [← hLA, fX5_winding_A_s, if_neg c5]⟩
        · refine lv_bipush (v := 100) hx hb dX5_winding_42 (by decide) ?_
          have hP9 := hP
          have hD9 := hD
          have hS9 := hS
          have qv : fX5_winding held xs ys rm pm n ip = (100 : Int32) := by unfold fX5_winding; rw [if_neg c1, if_neg c2, if_neg c3, if_neg c4]
          rw [qv]
          exact W.iret (v := (100 : Int32)) hx hb hr (fun t ht hW => ⟨⟨rfl, by rw [ht]; exact hP9, by rw [hAe]; exact hD9⟩, by rw [hAe]; exact hS9.F ht⟩) hS9.2.2 dX5_winding_44
      · refine lv_bipush (v := (-100)) hx hb dX5_winding_30 (by decide) ?_
        have hP9 := hP
        have hD9 := hD
        have hS9 := hS
        have qv : fX5_winding held xs ys rm pm n ip = (-100 : Int32) := by unfold fX5_winding; rw [if_neg c1, if_neg c2, if_pos c3]
        rw [qv]
        exact W.iret (v := (-100 : Int32)) hx hb hr (fun t ht hW => ⟨⟨rfl, by rw [ht]; exact hP9, by rw [hAe]; exact hD9⟩, by rw [hAe]; exact hS9.F ht⟩) hS9.2.2 dX5_winding_32
def fX5_nearest_A (held xs ys : Nat → Int32) (rm pm : Int32) (ia : Int32) (n : Int32) : Nat → Int32 → Int64 → Int32 → Int32
  | 0, _, _, _ => 0
  | kA + 1, bi, le, i => if n ≤ i then (bi) else (if (0 : Int32) ≤ (lg_cmp (fX5_far xs ys ia (held i.toNatClampNeg)) le) then (if (lg_cmp (fX5_far xs ys ia (held i.toNatClampNeg)) le) = (0 : Int32) then (fX5_nearest_A held xs ys rm pm ia n kA (bi ||| ((1 : Int32) <<< (i &&& 31))) le (i + 1)) else (fX5_nearest_A held xs ys rm pm ia n kA bi le (i + 1))) else (fX5_nearest_A held xs ys rm pm ia n kA ((1 : Int32) <<< (i &&& 31)) (fX5_far xs ys ia (held i.toNatClampNeg)) (i + 1)))
theorem fX5_nearest_A_s (held xs ys : Nat → Int32) (rm pm : Int32) (ia : Int32) (n : Int32) (kA : Nat) (bi : Int32) (le : Int64) (i : Int32) : fX5_nearest_A held xs ys rm pm ia n  (kA + 1) bi le i = (if n ≤ i then (bi) else (if (0 : Int32) ≤ (lg_cmp (fX5_far xs ys ia (held i.toNatClampNeg)) le) then (if (lg_cmp (fX5_far xs ys ia (held i.toNatClampNeg)) le) = (0 : Int32) then (fX5_nearest_A held xs ys rm pm ia n kA (bi ||| ((1 : Int32) <<< (i &&& 31))) le (i + 1)) else (fX5_nearest_A held xs ys rm pm ia n kA bi le (i + 1))) else (fX5_nearest_A held xs ys rm pm ia n kA ((1 : Int32) <<< (i &&& 31)) (fX5_far xs ys ia (held i.toNatClampNeg)) (i + 1)))) := rfl
def fX5_nearest (held xs ys : Nat → Int32) (rm pm : Int32) (ia : Int32) (n : Int32) : Int32 := if (fX5_isPoint pm ia) = (0 : Int32) then ((-2 : Int32)) else (if (fX5_isMany rm n (1 : Int32)) = (0 : Int32) then ((-2 : Int32)) else (if (fX5_isWhole held n) = (0 : Int32) then ((-4 : Int32)) else (fX5_nearest_A held xs ys rm pm ia n (n.toInt.toNat + 1) (0 : Int32) (fX5_far xs ys ia (held (0 : Int32).toNatClampNeg)) (0 : Int32))))
set_option maxHeartbeats 4000000 in
set_option maxRecDepth 100000 in
theorem ct5_nearest (l : Launch) (D : va_G) (sz : Nat) (m1 m2 m3 m4 m5 m6 m7 : Nat) (kI kJ : ClassId) (xs ys held : Nat → Int32) (la lb lc : Nat → Int64) (th pm rm on cl un ze lm : Int32) (ia : Int32) (n : Int32) (opm : pm.toInt ≤ (60 : Nat)) (orm : rm.toInt ≤ (24 : Nat)) (ohk : hok held) : Met l yX5_nearest (Cond.code yX5_nearest cX5_nearest 9 (some .int) :: BY) ({ frames := 3, cells := 0, slots := 0, locals := 180 }) (xw_P nN D vwCl [(kI, .int), (kJ, .long)] (wMo m1 m2 m3 m4 m5 m6 m7 kI kJ xs ys held la lb lc th pm rm on cl un ze lm) sz [.ref m1, .int ia, .int n]) (xw_Q D vwCl (some (.int (fX5_nearest held xs ys rm pm ia n))) (wMo m1 m2 m3 m4 m5 m6 m7 kI kJ xs ys held la lb lc th pm rm on cl un ze lm) (wMo m1 m2 m3 m4 m5 m6 m7 kI kJ xs ys held la lb lc (0 : Int32) pm rm on cl un ze lm) sz) 0 0 (va_A (wMo m1 m2 m3 m4 m5 m6 m7 kI kJ xs ys held la lb lc th pm rm on cl un ze lm) sz) := by
  refine Met.ofW (cc := cX5_nearest) (maxL := 9) (ret := (some .int)) (by decide) rfl ?_
  intro p e s m args below meth c s₁ B hml hv
  obtain ⟨rfl, hsz, hP, hK, hN, hD0⟩ := hv
  have hx := B.exec
  have hb := B.bytes
  have hr := B.returns
  have hts0 := atoms_spec (ws := Cond.code yX5_nearest cX5_nearest 9 (some .int) :: BY) B.pre
  have hts : ∀ w ∈ BY, w.before _ s = true := fun w h => hts0 w (List.mem_cons_of_mem _ h)
  have hown : s.vm.findClass RX5 = some m.cls := findClass_of_methodNamed B.named
  have hlocks := B.notSynchronized
  subst hsz
  have hD := hD0.self (sz := s.heap.size)
  generalize hAe : va_A (wMo m1 m2 m3 m4 m5 m6 m7 kI kJ xs ys held la lb lc th pm rm on cl un ze lm) s.heap.size = A at hD ⊢
  have hA : ∀ q : Nat, s.heap.size ≤ q → A q := fun q h => by rw [← hAe]; exact Or.inr h
  have hS : va_S A s.heap s.heap [] := va_S.rf
  have hP : va_P D vwCl [(m1, .inr (9, [.int th, .int pm, .ref m2, .ref m3, .int rm, .ref m4, .int on, .int cl, .int un, .int ze, .int lm, .ref m5, .ref m6, .ref m7])), (m2, .inl (kI, 60, .inl xs)), (m3, .inl (kI, 60, .inl ys)), (m4, .inl (kI, 24, .inl held)), (m5, .inl (kJ, 12, .inr (.inl la))), (m6, .inl (kJ, 12, .inr (.inl lb))), (m7, .inl (kJ, 12, .inr (.inl lc)))] s.heap := hP
  have hD : va_D A [(m1, .inr (9, [.int th, .int pm, .ref m2, .ref m3, .int rm, .ref m4, .int on, .int cl, .int un, .int ze, .int lm, .ref m5, .ref m6, .ref m7])), (m2, .inl (kI, 60, .inl xs)), (m3, .inl (kI, 60, .inl ys)), (m4, .inl (kI, 24, .inl held)), (m5, .inl (kJ, 12, .inr (.inl la))), (m6, .inl (kJ, 12, .inr (.inl lb))), (m7, .inl (kJ, 12, .inr (.inl lc)))] := hD
  have hl := lv_entry ([.ref m1, .int ia, .int n]) (n := 9) (Nat.le_of_ble_eq_true rfl)
  rw [lg_entry_eq]
  generalize (lg_sl ([.ref m1, .int ia, .int n]) ++ List.replicate (9 - (lg_sl ([.ref m1, .int ia, .int n])).length) Slot.unset).toArray = ls at hl ⊢
  have hl : lv_has ls 9 [(0, .ref m1), (1, .int ia), (2, .int n)] := hl
  refine lv_aload_n hx hb dX5_nearest_0 rfl (lv_at hl 0 rfl) ?_
  refine lv_iconst (v := 0) hx hb dX5_nearest_1 (by decide) ?_
  refine va_put (D := D) (ci := 9) (v := .int (0 : Int32)) (ty := .int) (C := RX5) (T := TX5) (N := 14) hx hb hts hinX5 tyX5 tyX5_ok nmX5 hown hK hP hD hS 0 rfl rfl 0 (by decide) (hts _ fk_X5_1) (fun _ h9 => h9) rfl (by decide +kernel) rfl rfl (Nat.le_of_ble_eq_true rfl) dX5_nearest_2 (fun H locs hP hD hS => ?_)
  have hP : va_P D vwCl [(m1, .inr (9, [.int (0 : Int32), .int pm, .ref m2, .ref m3, .int rm, .ref m4, .int on, .int cl, .int un, .int ze, .int lm, .ref m5, .ref m6, .ref m7])), (m2, .inl (kI, 60, .inl xs)), (m3, .inl (kI, 60, .inl ys)), (m4, .inl (kI, 24, .inl held)), (m5, .inl (kJ, 12, .inr (.inl la))), (m6, .inl (kJ, 12, .inr (.inl lb))), (m7, .inl (kJ, 12, .inr (.inl lc)))] H := hP
  have hD : va_D A [(m1, .inr (9, [.int (0 : Int32), .int pm, .ref m2, .ref m3, .int rm, .ref m4, .int on, .int cl, .int un, .int ze, .int lm, .ref m5, .ref m6, .ref m7])), (m2, .inl (kI, 60, .inl xs)), (m3, .inl (kI, 60, .inl ys)), (m4, .inl (kI, 24, .inl held)), (m5, .inl (kJ, 12, .inr (.inl la))), (m6, .inl (kJ, 12, .inr (.inl lb))), (m7, .inl (kJ, 12, .inr (.inl lc)))] := hD
  refine lv_aload_n hx hb dX5_nearest_5 rfl (lv_at hl 0 rfl) ?_
  refine lv_iload_n hx hb dX5_nearest_6 rfl (lv_at hl 1 rfl) ?_
  refine xr_V (q := (RX5, TX5, 14)) (ci := 9) (q0 := 0) (rest := []) (As := [.int ia]) ⟨hx, hb, hml, hown, hts⟩ (ct5_isPoint l D m1 m2 m3 m4 m5 m6 m7 kI kJ xs ys held la lb lc (0 : Int32) pm rm on cl un ze lm ia ) (cwV 1 hts gl_X5_69 rfl rfl rfl (by decide +kernel) ⟨Nat.le_of_ble_eq_true rfl, Nat.le_of_ble_eq_true rfl⟩) nN_mv hN hK hP [0, 1, 2, 3, 4, 5, 6] [0, 1] rfl rfl rfl rfl rfl hl.1 rfl (Nat.le_of_ble_eq_true rfl) dX5_nearest_7 ⟨Nat.le_of_ble_eq_true rfl, Nat.le_of_ble_eq_true rfl⟩ ?_
  refine lv_if_eq (tgt := 22) hx hb dX5_nearest_10 (by decide) (fun c1 => ?_) (fun c1 => ?_)
  · refine lv_bipush (v := (-2)) hx hb dX5_nearest_22 (by decide) ?_
    have hP9 := hP
    have hD9 := hD
    have hS9 := hS
    have qv : fX5_nearest held xs ys rm pm ia n = (-2 : Int32) := by unfold fX5_nearest; rw [if_pos c1]
    rw [qv]
    exact W.iret (v := (-2 : Int32)) hx hb hr (fun t ht hW => ⟨⟨rfl, by rw [ht]; exact hP9, by rw [hAe]; exact hD9⟩, by rw [hAe]; exact hS9.F ht⟩) hS9.2.2 dX5_nearest_24
  · refine lv_aload_n hx hb dX5_nearest_13 rfl (lv_at hl 0 rfl) ?_
    refine lv_iload_n hx hb dX5_nearest_14 rfl (lv_at hl 2 rfl) ?_
    refine lv_iconst (v := 1) hx hb dX5_nearest_15 (by decide) ?_
    refine xr_V (q := (RX5, TX5, 14)) (ci := 9) (q0 := 0) (rest := []) (As := [.int n, .int (1 : Int32)]) ⟨hx, hb, hml, hown, hts⟩ (ct5_isMany l D m1 m2 m3 m4 m5 m6 m7 kI kJ xs ys held la lb lc (0 : Int32) pm rm on cl un ze lm n (1 : Int32) ) (cwV 2 hts gl_X5_139 rfl rfl rfl (by decide +kernel) ⟨Nat.le_of_ble_eq_true rfl, Nat.le_of_ble_eq_true rfl⟩) nN_mv hN hK hP [0, 1, 2, 3, 4, 5, 6] [0, 1] rfl rfl rfl rfl rfl hl.1 rfl (Nat.le_of_ble_eq_true rfl) dX5_nearest_16 ⟨Nat.le_of_ble_eq_true rfl, Nat.le_of_ble_eq_true rfl⟩ ?_
    refine lv_if_ne (tgt := 25) hx hb dX5_nearest_19 (by decide) (fun c2 => ?_) (fun c2 => ?_)
    · refine lv_aload_n hx hb dX5_nearest_25 rfl (lv_at hl 0 rfl) ?_
      refine lv_iload_n hx hb dX5_nearest_26 rfl (lv_at hl 2 rfl) ?_
      refine xr_V (q := (RX5, TX5, 14)) (ci := 9) (q0 := 0) (rest := []) (As := [.int n]) ⟨hx, hb, hml, hown, hts⟩ (ct5_isWhole l D m1 m2 m3 m4 m5 m6 m7 kI kJ xs ys held la lb lc (0 : Int32) pm rm on cl un ze lm n ((o_mn c2 orm).2)) (cwV 1 hts gl_X5_142 rfl rfl rfl (by decide +kernel) ⟨Nat.le_of_ble_eq_true rfl, Nat.le_of_ble_eq_true rfl⟩) nN_mv hN hK hP [0, 1, 2, 3, 4, 5, 6] [0, 1] rfl rfl rfl rfl rfl hl.1 rfl (Nat.le_of_ble_eq_true rfl) dX5_nearest_27 ⟨Nat.le_of_ble_eq_true rfl, Nat.le_of_ble_eq_true rfl⟩ ?_
      refine lv_if_ne (tgt := 36) hx hb dX5_nearest_30 (by decide) (fun c3 => ?_) (fun c3 => ?_)
      · refine lv_iconst (v := 0) hx hb dX5_nearest_36 (by decide) ?_
        refine lv_istore_n (lv' := [(3, .int (0 : Int32)), (0, .ref m1), (1, .int ia), (2, .int n)]) hx hb dX5_nearest_37 rfl hl (by decide) rfl (fun ls hl => ?_)
        refine lv_aload_n hx hb dX5_nearest_38 rfl (lv_at hl 1 rfl) ?_
        refine lv_iload_n hx hb dX5_nearest_39 rfl (lv_at hl 2 rfl) ?_
        refine lv_aload_n hx hb dX5_nearest_40 rfl (lv_at hl 1 rfl) ?_
        refine va_get (D := D) (ci := 9) (v := .ref m4) (C := RX5) (T := TX5) (N := 14) hx hb hts hinX5 hown hK hP 0 rfl rfl 5 (by decide) (hts _ fk_X5_20) (fun _ h9 => h9) rfl dX5_nearest_41 ?_
        refine lv_iconst (v := 0) hx hb dX5_nearest_44 (by decide) ?_
        refine va_iald hx hb hK hP 3 0 rfl rfl (by rw [vp_in_iff]; decide) dX5_nearest_45 ?_
        refine xr_V (q := (RX5, TX5, 14)) (ci := 9) (q0 := 0) (rest := []) (As := [.int ia, .int (held (0 : Int32).toNatClampNeg)]) ⟨hx, hb, hml, hown, hts⟩ (ct5_far l D m1 m2 m3 m4 m5 m6 m7 kI kJ xs ys held la lb lc (0 : Int32) pm rm on cl un ze lm ia (held (0 : Int32).toNatClampNeg) (o_pt c1 opm) ((o_wh c3 ohk) _ (by have := (o_mn c2 orm).1; show ((0 : Nat) : Int) < n.toInt; have : (1 : Int32).toInt = 1 := rfl; omega))) (cwV 2 hts gl_X5_155 rfl rfl rfl (by decide +kernel) ⟨Nat.le_of_ble_eq_true rfl, Nat.le_of_ble_eq_true rfl⟩) nN_mv hN hK hP [0, 1, 2, 3, 4, 5, 6] [0, 1] rfl rfl rfl rfl rfl hl.1 rfl (Nat.le_of_ble_eq_true rfl) dX5_nearest_46 ⟨Nat.le_of_ble_eq_true rfl, Nat.le_of_ble_eq_true rfl⟩ ?_
        refine lv_topl (fun z4 ez4 => ?_)
        refine lv_lstore (lv' := [(4, .long z4), (3, .int (0 : Int32)), (0, .ref m1), (1, .int ia), (2, .int n)]) hx hb dX5_nearest_49 hl (by decide) rfl (fun ls hl => ?_)
        refine lv_iconst (v := 0) hx hb dX5_nearest_51 (by decide) ?_
        refine lv_istore (lv' := [(6, .int (0 : Int32)), (4, .long z4), (3, .int (0 : Int32)), (0, .ref m1), (1, .int ia), (2, .int n)]) hx hb dX5_nearest_52 hl (by decide) rfl (fun ls hl => ?_)
        refine xr_l3 (P := fun ls => W p l e _ s m _ below meth c _ _ _ _ _ (F0 m 54 ls [])) (nL := 9) (fun (bi : Int32) (le : Int64) (i : Int32) => [(6, .int i), (4, .long le), (3, .int bi), (0, .ref m1), (1, .int ia), (2, .int n)]) (fun kA (bi : Int32) (le : Int64) (i : Int32) => xr_u n i kA ∧ fX5_nearest_A held xs ys rm pm ia n kA bi le i = fX5_nearest held xs ys rm pm ia n) (fun _ _ _ h => xr_u0 h.1) ?_ (n.toInt.toNat + 1) (0 : Int32) z4 (0 : Int32) ls hl ⟨(xr_ub n), (by subst ez4; unfold fX5_nearest; rw [if_neg c1, if_neg c2, if_neg c3])⟩
        clear hl
        intro kA bi le i ls hl hI ihA
        obtain ⟨huA, hLA⟩ := hI
        refine lv_iload hx hb dX5_nearest_54 (lv_at hl 0 rfl) ?_
        refine lv_iload_n hx hb dX5_nearest_56 rfl (lv_at hl 5 rfl) ?_
        refine lv_icmp_ge (tgt := 131) hx hb dX5_nearest_57 (by decide) (fun c5 => ?_) (fun c5 => ?_)
        · refine lv_iload_n hx hb dX5_nearest_131 rfl (lv_at hl 2 rfl) ?_
          have hP9 := hP
          have hD9 := hD
          have hS9 := hS
          subst ez4
          have qv : fX5_nearest held xs ys rm pm ia n = bi := by rw [← hLA, fX5_nearest_A_s, if_pos c5]
          rw [qv]
          exact W.iret (v := bi) hx hb hr (fun t ht hW => ⟨⟨rfl, by rw [ht]; exact hP9, by rw [hAe]; exact hD9⟩, by rw [hAe]; exact hS9.F ht⟩) hS9.2.2 dX5_nearest_132
        · refine lv_aload_n hx hb dX5_nearest_60 rfl (lv_at hl 3 rfl) ?_
          refine lv_iload_n hx hb dX5_nearest_61 rfl (lv_at hl 4 rfl) ?_
          refine lv_aload_n hx hb dX5_nearest_62 rfl (lv_at hl 3 rfl) ?_
          refine va_get (D := D) (ci := 9) (v := .ref m4) (C := RX5) (T := TX5) (N := 14) hx hb hts hinX5 hown hK hP 0 rfl rfl 5 (by decide) (hts _ fk_X5_20) (fun _ h9 => h9) rfl dX5_nearest_63 ?_
          refine lv_iload hx hb dX5_nearest_66 (lv_at hl 0 rfl) ?_
          refine va_iald hx hb hK hP 3 0 rfl rfl (xr_in huA c5 (o_mn c2 orm).2) dX5_nearest_68 ?_
          refine xr_V (q := (RX5, TX5, 14)) (ci := 9) (q0 := 0) (rest := []) (As := [.int ia, .int (held i.toNatClampNeg)]) ⟨hx, hb, hml, hown, hts⟩ (ct5_far l D m1 m2 m3 m4 m5 m6 m7 kI kJ xs ys held la lb lc (0 : Int32) pm rm on cl un ze lm ia (held i.toNatClampNeg) (o_pt c1 opm) ((o_wh c3 ohk) _ (xr_cl huA c5))) (cwV 2 hts gl_X5_155 rfl rfl rfl (by decide +kernel) ⟨Nat.le_of_ble_eq_true rfl, Nat.le_of_ble_eq_true rfl⟩) nN_mv hN hK hP [0, 1, 2, 3, 4, 5, 6] [0, 1] rfl rfl rfl rfl rfl hl.1 rfl (Nat.le_of_ble_eq_true rfl) dX5_nearest_69 ⟨Nat.le_of_ble_eq_true rfl, Nat.le_of_ble_eq_true rfl⟩ ?_
          refine lv_topl (fun z6 ez6 => ?_)
          refine lv_lstore (lv' := [(7, .long z6), (6, .int i), (4, .long le), (3, .int bi), (0, .ref m1), (1, .int ia), (2, .int n)]) hx hb dX5_nearest_72 hl (by decide) rfl (fun ls hl => ?_)
          refine lv_lload hx hb dX5_nearest_74 (lv_at hl 0 rfl) ?_
          refine lv_lload hx hb dX5_nearest_76 (lv_at hl 2 rfl) ?_
          refine W.lcmp hx hb dX5_nearest_78 ?_
          refine lv_if_ge (tgt := 89) hx hb dX5_nearest_79 (by decide) (fun c7 => ?_) (fun c7 => ?_)
          · refine lv_lload hx hb dX5_nearest_89 (lv_at hl 0 rfl) ?_
            refine lv_lload hx hb dX5_nearest_91 (lv_at hl 2 rfl) ?_
            refine W.lcmp hx hb dX5_nearest_93 ?_
            refine lv_if_ne (tgt := 106) hx hb dX5_nearest_94 (by decide) (fun c8 => ?_) (fun c8 => ?_)
            · refine lv_iload_n hx hb dX5_nearest_106 rfl (lv_at hl 3 rfl) ?_
              refine lv_istore_n (lv' := [(3, .int bi), (7, .long z6), (6, .int i), (4, .long le), (0, .ref m1), (1, .int ia), (2, .int n)]) hx hb dX5_nearest_107 rfl hl (by decide) rfl (fun ls hl => ?_)
              refine lv_lload hx hb dX5_nearest_108 (lv_at hl 1 rfl) ?_
              refine lv_lload hx hb dX5_nearest_110 (lv_at hl 3 rfl) ?_
              refine W.lcmp hx hb dX5_nearest_112 ?_
              refine lv_if_ge (tgt := 121) hx hb dX5_nearest_113 (by decide) (fun c9 => ?_) (fun c9 => ?_)
              · refine lv_lload hx hb dX5_nearest_121 (lv_at hl 3 rfl) ?_
                refine lv_lstore (lv' := [(4, .long le), (3, .int bi), (7, .long z6), (6, .int i), (0, .ref m1), (1, .int ia), (2, .int n)]) hx hb dX5_nearest_123 hl (by decide) rfl (fun ls hl => ?_)
                obtain ⟨z10, ez10⟩ : ∃ y : Int32, y = i + 1 := ⟨_, rfl⟩
                refine lv_iinc (v := z10) (lv' := [(6, .int z10), (4, .long le), (3, .int bi), (7, .long z6), (0, .ref m1), (1, .int ia), (2, .int n)]) hx hb dX5_nearest_125 hl (k := 3) rfl (by rw [ez10]; rfl) (by decide) rfl (fun ls hl => ?_)
                refine lv_goto (tgt := 54) hx hb dX5_nearest_128 (by decide) ?_
                have hl9 := hl
                subst ez10
                subst ez6
                subst ez4
                exact ihA bi le (i + 1) _ (lv_sub hl9 [0, 1, 2, 4, 5, 6] rfl) ⟨xr_us huA c5, by rw [← hLA, fX5_nearest_A_s, if_neg c5, if_pos c7, if_neg c8]⟩
              · exact absurd c7 c9
            · refine lv_iload_n hx hb dX5_nearest_97 rfl (lv_at hl 3 rfl) ?_
              refine lv_iconst (v := 1) hx hb dX5_nearest_98 (by decide) ?_
              refine lv_iload hx hb dX5_nearest_99 (lv_at hl 1 rfl) ?_
              refine lv_ishl hx hb dX5_nearest_101 ?_
              refine lv_ior hx hb dX5_nearest_102 ?_
              refine lv_goto (tgt := 107) hx hb dX5_nearest_103 (by decide) ?_
              refine lv_topi (fun z11 ez11 => ?_)
              refine lv_istore_n (lv' := [(3, .int z11), (7, .long z6), (6, .int i), (4, .long le), (0, .ref m1), (1, .int ia), (2, .int n)]) hx hb dX5_nearest_107 rfl hl (by decide) rfl (fun ls hl => ?_)
              refine lv_lload hx hb dX5_nearest_108 (lv_at hl 1 rfl) ?_
              refine lv_lload hx hb dX5_nearest_110 (lv_at hl 3 rfl) ?_
              refine W.lcmp hx hb dX5_nearest_112 ?_
              refine lv_if_ge (tgt := 121) hx hb dX5_nearest_113 (by decide) (fun c12 => ?_) (fun c12 => ?_)
              · refine lv_lload hx hb dX5_nearest_121 (lv_at hl 3 rfl) ?_
                refine lv_lstore (lv' := [(4, .long le), (3, .int z11), (7, .long z6), (6, .int i), (0, .ref m1), (1, .int ia), (2, .int n)]) hx hb dX5_nearest_123 hl (by decide) rfl (fun ls hl => ?_)
                obtain ⟨z13, ez13⟩ : ∃ y : Int32, y = i + 1 := ⟨_, rfl⟩
                refine lv_iinc (v := z13) (lv' := [(6, .int z13), (4, .long le), (3, .int z11), (7, .long z6), (0, .ref m1), (1, .int ia), (2, .int n)]) hx hb dX5_nearest_125 hl (k := 3) rfl (by rw [ez13]; rfl) (by decide) rfl (fun ls hl => ?_)
                refine lv_goto (tgt := 54) hx hb dX5_nearest_128 (by decide) ?_
                have hl9 := hl
                subst ez13
                subst ez11
                subst ez6
                subst ez4
                exact ihA (bi ||| ((1 : Int32) <<< (i &&& 31))) le (i + 1) _ (lv_sub hl9 [0, 1, 2, 4, 5, 6] rfl) ⟨xr_us huA c5, by rw [← hLA, fX5_nearest_A_s, if_neg c5, if_pos c7, if_pos c8]⟩
              · exact absurd c7 c12
          · refine lv_iconst (v := 1) hx hb dX5_nearest_82 (by decide) ?_
            refine lv_iload hx hb dX5_nearest_83 (lv_at hl 1 rfl) ?_
            refine lv_ishl hx hb dX5_nearest_85 ?_
            refine lv_goto (tgt := 107) hx hb dX5_nearest_86 (by decide) ?_
            refine lv_topi (fun z14 ez14 => ?_)
            refine lv_istore_n (lv' := [(3, .int z14), (7, .long z6), (6, .int i), (4, .long le), (0, .ref m1), (1, .int ia), (2, .int n)]) hx hb dX5_nearest_107 rfl hl (by decide) rfl (fun ls hl => ?_)
            refine lv_lload hx hb dX5_nearest_108 (lv_at hl 1 rfl) ?_
            refine lv_lload hx hb dX5_nearest_110 (lv_at hl 3 rfl) ?_
            refine W.lcmp hx hb dX5_nearest_112 ?_
            refine lv_if_ge (tgt := 121) hx hb dX5_nearest_113 (by decide) (fun c15 => ?_) (fun c15 => ?_)
            · exact absurd c15 c7
            · refine lv_lload hx hb dX5_nearest_116 (lv_at hl 1 rfl) ?_
              refine lv_goto (tgt := 123) hx hb dX5_nearest_118 (by decide) ?_
              refine lv_lstore (lv' := [(4, .long z6), (3, .int z14), (7, .long z6), (6, .int i), (0, .ref m1), (1, .int ia), (2, .int n)]) hx hb dX5_nearest_123 hl (by decide) rfl (fun ls hl => ?_)
              obtain ⟨z16, ez16⟩ : ∃ y : Int32, y = i + 1 := ⟨_, rfl⟩
              refine lv_iinc (v := z16) (lv' := [(6, .int z16), (4, .long z6), (3, .int z14), (7, .long z6), (0, .ref m1), (1, .int ia), (2, .int n)]) hx hb dX5_nearest_125 hl (k := 3) rfl (by rw [ez16]; rfl) (by decide) rfl (fun ls hl => ?_)
              refine lv_goto (tgt := 54) hx hb dX5_nearest_128 (by decide) ?_
              have hl9 := hl
              subst ez16
              subst ez14
              subst ez6
              subst ez4
              exact ihA ((1 : Int32) <<< (i &&& 31)) (fX5_far xs ys ia (held i.toNatClampNeg)) (i + 1) _ (lv_sub hl9 [0, 1, 2, 4, 5, 6] rfl) ⟨xr_us huA c5, by rw [← hLA, fX5_nearest_A_s, if_neg c5, if_neg c7]⟩
      · refine lv_bipush (v := (-4)) hx hb dX5_nearest_33 (by decide) ?_
        have hP9 := hP
        have hD9 := hD
        have hS9 := hS
        have qv : fX5_nearest held xs ys rm pm ia n = (-4 : Int32) := by unfold fX5_nearest; rw [if_neg c1, if_neg c2, if_pos c3]
        rw [qv]
        exact W.iret (v := (-4 : Int32)) hx hb hr (fun t ht hW => ⟨⟨rfl, by rw [ht]; exact hP9, by rw [hAe]; exact hD9⟩, by rw [hAe]; exact hS9.F ht⟩) hS9.2.2 dX5_nearest_35
    · refine lv_bipush (v := (-2)) hx hb dX5_nearest_22 (by decide) ?_
      have hP9 := hP
      have hD9 := hD
      have hS9 := hS
      have qv : fX5_nearest held xs ys rm pm ia n = (-2 : Int32) := by unfold fX5_nearest; rw [if_neg c1, if_pos c2]
      rw [qv]
      exact W.iret (v := (-2 : Int32)) hx hb hr (fun t ht hW => ⟨⟨rfl, by rw [ht]; exact hP9, by rw [hAe]; exact hD9⟩, by rw [hAe]; exact hS9.F ht⟩) hS9.2.2 dX5_nearest_24
def fX5_around_B (held xs ys : Nat → Int32) (rm pm : Int32) (ic : Int32) (n : Int32) (ia : Int32) (is_ : Int32) (k_ : Int32) (K : Int32 → Int32 → Int32) : Nat → Int32 → Int32 → Int32
  | 0, _, _ => 0
  | kB + 1, ah, j => if n ≤ j then (K ah j) else (if j = k_ then (fX5_around_B held xs ys rm pm ic n ia is_ k_ K kB (ah + (0 : Int32)) (j + 1)) else (if (fX5_isAhead held xs ys ic j k_) = (0 : Int32) then (fX5_around_B held xs ys rm pm ic n ia is_ k_ K kB (ah + (0 : Int32)) (j + 1)) else (fX5_around_B held xs ys rm pm ic n ia is_ k_ K kB (ah + (1 : Int32)) (j + 1))))
theorem fX5_around_B_s (held xs ys : Nat → Int32) (rm pm : Int32) (ic : Int32) (n : Int32) (ia : Int32) (is_ : Int32) (k_ : Int32) (K : Int32 → Int32 → Int32) (kB : Nat) (ah : Int32) (j : Int32) : fX5_around_B held xs ys rm pm ic n ia is_ k_ K (kB + 1) ah j = (if n ≤ j then (K ah j) else (if j = k_ then (fX5_around_B held xs ys rm pm ic n ia is_ k_ K kB (ah + (0 : Int32)) (j + 1)) else (if (fX5_isAhead held xs ys ic j k_) = (0 : Int32) then (fX5_around_B held xs ys rm pm ic n ia is_ k_ K kB (ah + (0 : Int32)) (j + 1)) else (fX5_around_B held xs ys rm pm ic n ia is_ k_ K kB (ah + (1 : Int32)) (j + 1))))) := rfl
def fX5_around_A (held xs ys : Nat → Int32) (rm pm : Int32) (ic : Int32) (n : Int32) (ia : Int32) : Nat → Int32 → Int32 → Int32
  | 0, _, _ => 0
  | kA + 1, is_, k_ => if n ≤ k_ then (is_) else (fX5_around_B held xs ys rm pm ic n ia is_ k_ (fun ah j => if ah = ia then (fX5_around_A held xs ys rm pm ic n ia kA k_ (k_ + 1)) else (fX5_around_A held xs ys rm pm ic n ia kA is_ (k_ + 1))) (n.toInt.toNat + 1) (0 : Int32) (0 : Int32))
theorem fX5_around_A_s (held xs ys : Nat → Int32) (rm pm : Int32) (ic : Int32) (n : Int32) (ia : Int32) (kA : Nat) (is_ : Int32) (k_ : Int32) : fX5_around_A held xs ys rm pm ic n ia  (kA + 1) is_ k_ = (if n ≤ k_ then (is_) else (fX5_around_B held xs ys rm pm ic n ia is_ k_ (fun ah j => if ah = ia then (fX5_around_A held xs ys rm pm ic n ia kA k_ (k_ + 1)) else (fX5_around_A held xs ys rm pm ic n ia kA is_ (k_ + 1))) (n.toInt.toNat + 1) (0 : Int32) (0 : Int32))) := rfl
def fX5_around (held xs ys : Nat → Int32) (rm pm : Int32) (ic : Int32) (n : Int32) (ia : Int32) : Int32 := if (fX5_isPoint pm ic) = (0 : Int32) then ((-2 : Int32)) else (if (fX5_isMany rm n (1 : Int32)) = (0 : Int32) then ((-2 : Int32)) else (if ia < (0 : Int32) then ((-2 : Int32)) else (if ia < n then (if (fX5_isWhole held n) = (0 : Int32) then ((-4 : Int32)) else (fX5_around_A held xs ys rm pm ic n ia (n.toInt.toNat + 1) (-1 : Int32) (0 : Int32))) else ((-2 : Int32)))))
set_option maxHeartbeats 4000000 in
set_option maxRecDepth 100000 in
theorem ct5_around (l : Launch) (D : va_G) (sz : Nat) (m1 m2 m3 m4 m5 m6 m7 : Nat) (kI kJ : ClassId) (xs ys held : Nat → Int32) (la lb lc : Nat → Int64) (th pm rm on cl un ze lm : Int32) (ic : Int32) (n : Int32) (ia : Int32) (opm : pm.toInt ≤ (60 : Nat)) (orm : rm.toInt ≤ (24 : Nat)) (ohk : hok held) : Met l yX5_around (Cond.code yX5_around cX5_around 8 (some .int) :: BY) ({ frames := 4, cells := 0, slots := 0, locals := 240 }) (xw_P nN D vwCl [(kI, .int), (kJ, .long)] (wMo m1 m2 m3 m4 m5 m6 m7 kI kJ xs ys held la lb lc th pm rm on cl un ze lm) sz [.ref m1, .int ic, .int n, .int ia]) (xw_Q D vwCl (some (.int (fX5_around held xs ys rm pm ic n ia))) (wMo m1 m2 m3 m4 m5 m6 m7 kI kJ xs ys held la lb lc th pm rm on cl un ze lm) (wMo m1 m2 m3 m4 m5 m6 m7 kI kJ xs ys held la lb lc (0 : Int32) pm rm on cl un ze lm) sz) 0 0 (va_A (wMo m1 m2 m3 m4 m5 m6 m7 kI kJ xs ys held la lb lc th pm rm on cl un ze lm) sz) := by
  refine Met.ofW (cc := cX5_around) (maxL := 8) (ret := (some .int)) (by decide) rfl ?_
  intro p e s m args below meth c s₁ B hml hv
  obtain ⟨rfl, hsz, hP, hK, hN, hD0⟩ := hv
  have hx := B.exec
  have hb := B.bytes
  have hr := B.returns
  have hts0 := atoms_spec (ws := Cond.code yX5_around cX5_around 8 (some .int) :: BY) B.pre
  have hts : ∀ w ∈ BY, w.before _ s = true := fun w h => hts0 w (List.mem_cons_of_mem _ h)
  have hown : s.vm.findClass RX5 = some m.cls := findClass_of_methodNamed B.named
  have hlocks := B.notSynchronized
  subst hsz
  have hD := hD0.self (sz := s.heap.size)
  generalize hAe : va_A (wMo m1 m2 m3 m4 m5 m6 m7 kI kJ xs ys held la lb lc th pm rm on cl un ze lm) s.heap.size = A at hD ⊢
  have hA : ∀ q : Nat, s.heap.size ≤ q → A q := fun q h => by rw [← hAe]; exact Or.inr h
  have hS : va_S A s.heap s.heap [] := va_S.rf
  have hP : va_P D vwCl [(m1, .inr (9, [.int th, .int pm, .ref m2, .ref m3, .int rm, .ref m4, .int on, .int cl, .int un, .int ze, .int lm, .ref m5, .ref m6, .ref m7])), (m2, .inl (kI, 60, .inl xs)), (m3, .inl (kI, 60, .inl ys)), (m4, .inl (kI, 24, .inl held)), (m5, .inl (kJ, 12, .inr (.inl la))), (m6, .inl (kJ, 12, .inr (.inl lb))), (m7, .inl (kJ, 12, .inr (.inl lc)))] s.heap := hP
  have hD : va_D A [(m1, .inr (9, [.int th, .int pm, .ref m2, .ref m3, .int rm, .ref m4, .int on, .int cl, .int un, .int ze, .int lm, .ref m5, .ref m6, .ref m7])), (m2, .inl (kI, 60, .inl xs)), (m3, .inl (kI, 60, .inl ys)), (m4, .inl (kI, 24, .inl held)), (m5, .inl (kJ, 12, .inr (.inl la))), (m6, .inl (kJ, 12, .inr (.inl lb))), (m7, .inl (kJ, 12, .inr (.inl lc)))] := hD
  have hl := lv_entry ([.ref m1, .int ic, .int n, .int ia]) (n := 8) (Nat.le_of_ble_eq_true rfl)
  rw [lg_entry_eq]
  generalize (lg_sl ([.ref m1, .int ic, .int n, .int ia]) ++ List.replicate (8 - (lg_sl ([.ref m1, .int ic, .int n, .int ia])).length) Slot.unset).toArray = ls at hl ⊢
  have hl : lv_has ls 8 [(0, .ref m1), (1, .int ic), (2, .int n), (3, .int ia)] := hl
  refine lv_aload_n hx hb dX5_around_0 rfl (lv_at hl 0 rfl) ?_
  refine lv_iconst (v := 0) hx hb dX5_around_1 (by decide) ?_
  refine va_put (D := D) (ci := 9) (v := .int (0 : Int32)) (ty := .int) (C := RX5) (T := TX5) (N := 14) hx hb hts hinX5 tyX5 tyX5_ok nmX5 hown hK hP hD hS 0 rfl rfl 0 (by decide) (hts _ fk_X5_1) (fun _ h9 => h9) rfl (by decide +kernel) rfl rfl (Nat.le_of_ble_eq_true rfl) dX5_around_2 (fun H locs hP hD hS => ?_)
  have hP : va_P D vwCl [(m1, .inr (9, [.int (0 : Int32), .int pm, .ref m2, .ref m3, .int rm, .ref m4, .int on, .int cl, .int un, .int ze, .int lm, .ref m5, .ref m6, .ref m7])), (m2, .inl (kI, 60, .inl xs)), (m3, .inl (kI, 60, .inl ys)), (m4, .inl (kI, 24, .inl held)), (m5, .inl (kJ, 12, .inr (.inl la))), (m6, .inl (kJ, 12, .inr (.inl lb))), (m7, .inl (kJ, 12, .inr (.inl lc)))] H := hP
  have hD : va_D A [(m1, .inr (9, [.int (0 : Int32), .int pm, .ref m2, .ref m3, .int rm, .ref m4, .int on, .int cl, .int un, .int ze, .int lm, .ref m5, .ref m6, .ref m7])), (m2, .inl (kI, 60, .inl xs)), (m3, .inl (kI, 60, .inl ys)), (m4, .inl (kI, 24, .inl held)), (m5, .inl (kJ, 12, .inr (.inl la))), (m6, .inl (kJ, 12, .inr (.inl lb))), (m7, .inl (kJ, 12, .inr (.inl lc)))] := hD
  refine lv_aload_n hx hb dX5_around_5 rfl (lv_at hl 0 rfl) ?_
  refine lv_iload_n hx hb dX5_around_6 rfl (lv_at hl 1 rfl) ?_
  refine xr_V (q := (RX5, TX5, 14)) (ci := 9) (q0 := 0) (rest := []) (As := [.int ic]) ⟨hx, hb, hml, hown, hts⟩ (ct5_isPoint l D m1 m2 m3 m4 m5 m6 m7 kI kJ xs ys held la lb lc (0 : Int32) pm rm on cl un ze lm ic ) (cwV 1 hts gl_X5_69 rfl rfl rfl (by decide +kernel) ⟨Nat.le_of_ble_eq_true rfl, Nat.le_of_ble_eq_true rfl⟩) nN_mv hN hK hP [0, 1, 2, 3, 4, 5, 6] [0, 1] rfl rfl rfl rfl rfl hl.1 rfl (Nat.le_of_ble_eq_true rfl) dX5_around_7 ⟨Nat.le_of_ble_eq_true rfl, Nat.le_of_ble_eq_true rfl⟩ ?_
  refine lv_if_eq (tgt := 31) hx hb dX5_around_10 (by decide) (fun c1 => ?_) (fun c1 => ?_)
  · refine lv_bipush (v := (-2)) hx hb dX5_around_31 (by decide) ?_
    have hP9 := hP
    have hD9 := hD
    have hS9 := hS
    have qv : fX5_around held xs ys rm pm ic n ia = (-2 : Int32) := by unfold fX5_around; rw [if_pos c1]
    rw [qv]
    exact W.iret (v := (-2 : Int32)) hx hb hr (fun t ht hW => ⟨⟨rfl, by rw [ht]; exact hP9, by rw [hAe]; exact hD9⟩, by rw [hAe]; exact hS9.F ht⟩) hS9.2.2 dX5_around_33
  · refine lv_aload_n hx hb dX5_around_13 rfl (lv_at hl 0 rfl) ?_
    refine lv_iload_n hx hb dX5_around_14 rfl (lv_at hl 2 rfl) ?_
    refine lv_iconst (v := 1) hx hb dX5_around_15 (by decide) ?_
    refine xr_V (q := (RX5, TX5, 14)) (ci := 9) (q0 := 0) (rest := []) (As := [.int n, .int (1 : Int32)]) ⟨hx, hb, hml, hown, hts⟩ (ct5_isMany l D m1 m2 m3 m4 m5 m6 m7 kI kJ xs ys held la lb lc (0 : Int32) pm rm on cl un ze lm n (1 : Int32) ) (cwV 2 hts gl_X5_139 rfl rfl rfl (by decide +kernel) ⟨Nat.le_of_ble_eq_true rfl, Nat.le_of_ble_eq_true rfl⟩) nN_mv hN hK hP [0, 1, 2, 3, 4, 5, 6] [0, 1] rfl rfl rfl rfl rfl hl.1 rfl (Nat.le_of_ble_eq_true rfl) dX5_around_16 ⟨Nat.le_of_ble_eq_true rfl, Nat.le_of_ble_eq_true rfl⟩ ?_
    refine lv_if_eq (tgt := 31) hx hb dX5_around_19 (by decide) (fun c2 => ?_) (fun c2 => ?_)
    · refine lv_bipush (v := (-2)) hx hb dX5_around_31 (by decide) ?_
      have hP9 := hP
      have hD9 := hD
      have hS9 := hS
      have qv : fX5_around held xs ys rm pm ic n ia = (-2 : Int32) := by unfold fX5_around; rw [if_neg c1, if_pos c2]
      rw [qv]
      exact W.iret (v := (-2 : Int32)) hx hb hr (fun t ht hW => ⟨⟨rfl, by rw [ht]; exact hP9, by rw [hAe]; exact hD9⟩, by rw [hAe]; exact hS9.F ht⟩) hS9.2.2 dX5_around_33
    · refine lv_iload_n hx hb dX5_around_22 rfl (lv_at hl 3 rfl) ?_
      refine lv_if_lt (tgt := 31) hx hb dX5_around_23 (by decide) (fun c3 => ?_) (fun c3 => ?_)
      · refine lv_bipush (v := (-2)) hx hb dX5_around_31 (by decide) ?_
        have hP9 := hP
        have hD9 := hD
        have hS9 := hS
        have qv : fX5_around held xs ys rm pm ic n ia = (-2 : Int32) := by unfold fX5_around; rw [if_neg c1, if_neg c2, if_pos c3]
        rw [qv]
        exact W.iret (v := (-2 : Int32)) hx hb hr (fun t ht hW => ⟨⟨rfl, by rw [ht]; exact hP9, by rw [hAe]; exact hD9⟩, by rw [hAe]; exact hS9.F ht⟩) hS9.2.2 dX5_around_33
      · refine lv_iload_n hx hb dX5_around_26 rfl (lv_at hl 3 rfl) ?_
        refine lv_iload_n hx hb dX5_around_27 rfl (lv_at hl 2 rfl) ?_
        refine lv_icmp_lt (tgt := 34) hx hb dX5_around_28 (by decide) (fun c4 => ?_) (fun c4 => ?_)
        · refine lv_aload_n hx hb dX5_around_34 rfl (lv_at hl 0 rfl) ?_
          refine lv_iload_n hx hb dX5_around_35 rfl (lv_at hl 2 rfl) ?_
          refine xr_V (q := (RX5, TX5, 14)) (ci := 9) (q0 := 0) (rest := []) (As := [.int n]) ⟨hx, hb, hml, hown, hts⟩ (ct5_isWhole l D m1 m2 m3 m4 m5 m6 m7 kI kJ xs ys held la lb lc (0 : Int32) pm rm on cl un ze lm n ((o_mn c2 orm).2)) (cwV 1 hts gl_X5_142 rfl rfl rfl (by decide +kernel) ⟨Nat.le_of_ble_eq_true rfl, Nat.le_of_ble_eq_true rfl⟩) nN_mv hN hK hP [0, 1, 2, 3, 4, 5, 6] [0, 1] rfl rfl rfl rfl rfl hl.1 rfl (Nat.le_of_ble_eq_true rfl) dX5_around_36 ⟨Nat.le_of_ble_eq_true rfl, Nat.le_of_ble_eq_true rfl⟩ ?_
          refine lv_if_ne (tgt := 45) hx hb dX5_around_39 (by decide) (fun c5 => ?_) (fun c5 => ?_)
          · refine lv_iconst (v := (-1)) hx hb dX5_around_45 (by decide) ?_
            refine lv_istore (lv' := [(4, .int (-1 : Int32)), (0, .ref m1), (1, .int ic), (2, .int n), (3, .int ia)]) hx hb dX5_around_46 hl (by decide) rfl (fun ls hl => ?_)
            refine lv_iconst (v := 0) hx hb dX5_around_48 (by decide) ?_
            refine lv_istore (lv' := [(5, .int (0 : Int32)), (4, .int (-1 : Int32)), (0, .ref m1), (1, .int ic), (2, .int n), (3, .int ia)]) hx hb dX5_around_49 hl (by decide) rfl (fun ls hl => ?_)
            refine xr_l2 (P := fun ls => W p l e _ s m _ below meth c _ _ _ _ _ (F0 m 51 ls [])) (nL := 8) (fun (is_ : Int32) (k_ : Int32) => [(5, .int k_), (4, .int is_), (0, .ref m1), (1, .int ic), (2, .int n), (3, .int ia)]) (fun kA (is_ : Int32) (k_ : Int32) => xr_u n k_ kA ∧ fX5_around_A held xs ys rm pm ic n ia kA is_ k_ = fX5_around held xs ys rm pm ic n ia) (fun _ _ h => xr_u0 h.1) ?_ (n.toInt.toNat + 1) (-1 : Int32) (0 : Int32) ls hl ⟨(xr_ub n), (by unfold fX5_around; rw [if_neg c1, if_neg c2, if_neg c3, if_pos c4, if_neg c5])⟩
            clear hl
            intro kA is_ k_ ls hl hI ihA
            obtain ⟨huA, hLA⟩ := hI
            refine lv_iload hx hb dX5_around_51 (lv_at hl 0 rfl) ?_
            refine lv_iload_n hx hb dX5_around_53 rfl (lv_at hl 4 rfl) ?_
            refine lv_icmp_ge (tgt := 125) hx hb dX5_around_54 (by decide) (fun c6 => ?_) (fun c6 => ?_)
            · refine lv_iload hx hb dX5_around_125 (lv_at hl 1 rfl) ?_
              have hP9 := hP
              have hD9 := hD
              have hS9 := hS
              have qv : fX5_around held xs ys rm pm ic n ia = is_ := by rw [← hLA, fX5_around_A_s, if_pos c6]
              rw [qv]
              exact W.iret (v := is_) hx hb hr (fun t ht hW => ⟨⟨rfl, by rw [ht]; exact hP9, by rw [hAe]; exact hD9⟩, by rw [hAe]; exact hS9.F ht⟩) hS9.2.2 dX5_around_127
            · refine lv_iconst (v := 0) hx hb dX5_around_57 (by decide) ?_
              refine lv_istore (lv' := [(6, .int (0 : Int32)), (5, .int k_), (4, .int is_), (0, .ref m1), (1, .int ic), (2, .int n), (3, .int ia)]) hx hb dX5_around_58 hl (by decide) rfl (fun ls hl => ?_)
              refine lv_iconst (v := 0) hx hb dX5_around_60 (by decide) ?_
              refine lv_istore (lv' := [(7, .int (0 : Int32)), (6, .int (0 : Int32)), (5, .int k_), (4, .int is_), (0, .ref m1), (1, .int ic), (2, .int n), (3, .int ia)]) hx hb dX5_around_61 hl (by decide) rfl (fun ls hl => ?_)
              refine xr_l2 (P := fun ls => W p l e _ s m _ below meth c _ _ _ _ _ (F0 m 63 ls [])) (nL := 8) (fun (ah : Int32) (j : Int32) => [(7, .int j), (6, .int ah), (5, .int k_), (4, .int is_), (0, .ref m1), (1, .int ic), (2, .int n), (3, .int ia)]) (fun kB (ah : Int32) (j : Int32) => xr_u n j kB ∧ fX5_around_B held xs ys rm pm ic n ia is_ k_ (fun ah j => if ah = ia then (fX5_around_A held xs ys rm pm ic n ia kA k_ (k_ + 1)) else (fX5_around_A held xs ys rm pm ic n ia kA is_ (k_ + 1))) kB ah j = fX5_around held xs ys rm pm ic n ia) (fun _ _ h => xr_u0 h.1) ?_ (n.toInt.toNat + 1) (0 : Int32) (0 : Int32) ls hl ⟨(xr_ub n), (by rw [← hLA, fX5_around_A_s, if_neg c6])⟩
              clear hl
              intro kB ah j ls hl hI ihB
              obtain ⟨huB, hLB⟩ := hI
              refine lv_iload hx hb dX5_around_63 (lv_at hl 0 rfl) ?_
              refine lv_iload_n hx hb dX5_around_65 rfl (lv_at hl 6 rfl) ?_
              refine lv_icmp_ge (tgt := 104) hx hb dX5_around_66 (by decide) (fun c7 => ?_) (fun c7 => ?_)
              · refine lv_iload hx hb dX5_around_104 (lv_at hl 1 rfl) ?_
                refine lv_iload_n hx hb dX5_around_106 rfl (lv_at hl 7 rfl) ?_
                refine lv_icmp_ne (tgt := 115) hx hb dX5_around_107 (by decide) (fun c8 => ?_) (fun c8 => ?_)
                · refine lv_iload hx hb dX5_around_115 (lv_at hl 3 rfl) ?_
                  refine lv_istore (lv' := [(4, .int is_), (7, .int j), (6, .int ah), (5, .int k_), (0, .ref m1), (1, .int ic), (2, .int n), (3, .int ia)]) hx hb dX5_around_117 hl (by decide) rfl (fun ls hl => ?_)
                  obtain ⟨z9, ez9⟩ : ∃ y : Int32, y = k_ + 1 := ⟨_, rfl⟩
                  refine lv_iinc (v := z9) (lv' := [(5, .int z9), (4, .int is_), (7, .int j), (6, .int ah), (0, .ref m1), (1, .int ic), (2, .int n), (3, .int ia)]) hx hb dX5_around_119 hl (k := 3) rfl (by rw [ez9]; rfl) (by decide) rfl (fun ls hl => ?_)
                  refine lv_goto (tgt := 51) hx hb dX5_around_122 (by decide) ?_
                  have hl9 := hl
                  subst ez9
                  exact ihA is_ (k_ + 1) _ (lv_sub hl9 [0, 1, 4, 5, 6, 7] rfl) ⟨xr_us huA c6, by rw [← hLB, fX5_around_B_s, if_pos c7, if_neg c8]⟩
                · refine lv_iload hx hb dX5_around_110 (lv_at hl 2 rfl) ?_
                  refine lv_goto (tgt := 117) hx hb dX5_around_112 (by decide) ?_
                  refine lv_istore (lv' := [(4, .int k_), (7, .int j), (6, .int ah), (5, .int k_), (0, .ref m1), (1, .int ic), (2, .int n), (3, .int ia)]) hx hb dX5_around_117 hl (by decide) rfl (fun ls hl => ?_)
                  obtain ⟨z10, ez10⟩ : ∃ y : Int32, y = k_ + 1 := ⟨_, rfl⟩
                  refine lv_iinc (v := z10) (lv' := [(5, .int z10), (4, .int k_), (7, .int j), (6, .int ah), (0, .ref m1), (1, .int ic), (2, .int n), (3, .int ia)]) hx hb dX5_around_119 hl (k := 3) rfl (by rw [ez10]; rfl) (by decide) rfl (fun ls hl => ?_)
                  refine lv_goto (tgt := 51) hx hb dX5_around_122 (by decide) ?_
                  have hl9 := hl
                  subst ez10
                  exact ihA k_ (k_ + 1) _ (lv_sub hl9 [0, 1, 4, 5, 6, 7] rfl) ⟨xr_us huA c6, by rw [← hLB, fX5_around_B_s, if_pos c7, if_pos c8]⟩
              · refine lv_iload hx hb dX5_around_69 (lv_at hl 1 rfl) ?_
                refine lv_iload hx hb dX5_around_71 (lv_at hl 0 rfl) ?_
                refine lv_iload hx hb dX5_around_73 (lv_at hl 2 rfl) ?_
                refine lv_icmp_eq (tgt := 94) hx hb dX5_around_75 (by decide) (fun c11 => ?_) (fun c11 => ?_)
                · refine lv_iconst (v := 0) hx hb dX5_around_94 (by decide) ?_
                  refine lv_iadd hx hb dX5_around_95 ?_
                  refine lv_istore (lv' := [(6, .int (ah + (0 : Int32))), (7, .int j), (5, .int k_), (4, .int is_), (0, .ref m1), (1, .int ic), (2, .int n), (3, .int ia)]) hx hb dX5_around_96 hl (by decide) rfl (fun ls hl => ?_)
                  obtain ⟨z12, ez12⟩ : ∃ y : Int32, y = j + 1 := ⟨_, rfl⟩
                  refine lv_iinc (v := z12) (lv' := [(7, .int z12), (6, .int (ah + (0 : Int32))), (5, .int k_), (4, .int is_), (0, .ref m1), (1, .int ic), (2, .int n), (3, .int ia)]) hx hb dX5_around_98 hl (k := 1) rfl (by rw [ez12]; rfl) (by decide) rfl (fun ls hl => ?_)
                  refine lv_goto (tgt := 63) hx hb dX5_around_101 (by decide) ?_
                  have hl9 := hl
                  subst ez12
                  exact ihB (ah + (0 : Int32)) (j + 1) _ (lv_sub hl9 [0, 1, 2, 3, 4, 5, 6, 7] rfl) ⟨xr_us huB c7, by rw [← hLB, fX5_around_B_s, if_neg c7, if_pos c11]⟩
                · refine lv_aload_n hx hb dX5_around_78 rfl (lv_at hl 4 rfl) ?_
                  refine lv_iload_n hx hb dX5_around_79 rfl (lv_at hl 5 rfl) ?_
                  refine lv_iload hx hb dX5_around_80 (lv_at hl 0 rfl) ?_
                  refine lv_iload hx hb dX5_around_82 (lv_at hl 2 rfl) ?_
                  refine xr_V (q := (RX5, TX5, 14)) (ci := 9) (q0 := 0) (rest := [.int ah]) (As := [.int ic, .int j, .int k_]) ⟨hx, hb, hml, hown, hts⟩ (ct5_isAhead l D m1 m2 m3 m4 m5 m6 m7 kI kJ xs ys held la lb lc (0 : Int32) pm rm on cl un ze lm ic j k_ (o_pt c1 opm) (xr_in huB c7 (o_mn c2 orm).2) (xr_in huA c6 (o_mn c2 orm).2) ((o_wh c5 ohk) _ (xr_cl huB c7)) ((o_wh c5 ohk) _ (xr_cl huA c6))) (cwV 3 hts gl_X5_162 rfl rfl rfl (by decide +kernel) ⟨Nat.le_of_ble_eq_true rfl, Nat.le_of_ble_eq_true rfl⟩) nN_mv hN hK hP [0, 1, 2, 3, 4, 5, 6] [0, 1] rfl rfl rfl rfl rfl hl.1 rfl (Nat.le_of_ble_eq_true rfl) dX5_around_84 ⟨Nat.le_of_ble_eq_true rfl, Nat.le_of_ble_eq_true rfl⟩ ?_
                  refine lv_if_eq (tgt := 94) hx hb dX5_around_87 (by decide) (fun c13 => ?_) (fun c13 => ?_)
                  · refine lv_iconst (v := 0) hx hb dX5_around_94 (by decide) ?_
                    refine lv_iadd hx hb dX5_around_95 ?_
                    refine lv_istore (lv' := [(6, .int (ah + (0 : Int32))), (7, .int j), (5, .int k_), (4, .int is_), (0, .ref m1), (1, .int ic), (2, .int n), (3, .int ia)]) hx hb dX5_around_96 hl (by decide) rfl (fun ls hl => ?_)
                    obtain ⟨z14, ez14⟩ : ∃ y : Int32, y = j + 1 := ⟨_, rfl⟩
                    refine lv_iinc (v := z14) (lv' := [(7, .int z14), (6, .int (ah + (0 : Int32))), (5, .int k_), (4, .int is_), (0, .ref m1), (1, .int ic), (2, .int n), (3, .int ia)]) hx hb dX5_around_98 hl (k := 1) rfl (by rw [ez14]; rfl) (by decide) rfl (fun ls hl => ?_)
                    refine lv_goto (tgt := 63) hx hb dX5_around_101 (by decide) ?_
                    have hl9 := hl
                    subst ez14
                    exact ihB (ah + (0 : Int32)) (j + 1) _ (lv_sub hl9 [0, 1, 2, 3, 4, 5, 6, 7] rfl) ⟨xr_us huB c7, by rw [← hLB, fX5_around_B_s, if_neg c7, if_neg c11, if_pos c13]⟩
                  · refine lv_iconst (v := 1) hx hb dX5_around_90 (by decide) ?_
                    refine lv_goto (tgt := 95) hx hb dX5_around_91 (by decide) ?_
                    refine lv_iadd hx hb dX5_around_95 ?_
                    refine lv_istore (lv' := [(6, .int (ah + (1 : Int32))), (7, .int j), (5, .int k_), (4, .int is_), (0, .ref m1), (1, .int ic), (2, .int n), (3, .int ia)]) hx hb dX5_around_96 hl (by decide) rfl (fun ls hl => ?_)
                    obtain ⟨z15, ez15⟩ : ∃ y : Int32, y = j + 1 := ⟨_, rfl⟩
                    refine lv_iinc (v := z15) (lv' := [(7, .int z15), (6, .int (ah + (1 : Int32))), (5, .int k_), (4, .int is_), (0, .ref m1), (1, .int ic), (2, .int n), (3, .int ia)]) hx hb dX5_around_98 hl (k := 1) rfl (by rw [ez15]; rfl) (by decide) rfl (fun ls hl => ?_)
                    refine lv_goto (tgt := 63) hx hb dX5_around_101 (by decide) ?_
                    have hl9 := hl
                    subst ez15
                    exact ihB (ah + (1 : Int32)) (j + 1) _ (lv_sub hl9 [0, 1, 2, 3, 4, 5, 6, 7] rfl) ⟨xr_us huB c7, by rw [← hLB, fX5_around_B_s, if_neg c7, if_neg c11, if_neg c13]⟩
          · refine lv_bipush (v := (-4)) hx hb dX5_around_42 (by decide) ?_
            have hP9 := hP
            have hD9 := hD
            have hS9 := hS
            have qv : fX5_around held xs ys rm pm ic n ia = (-4 : Int32) := by unfold fX5_around; rw [if_neg c1, if_neg c2, if_neg c3, if_pos c4, if_pos c5]
            rw [qv]
            exact W.iret (v := (-4 : Int32)) hx hb hr (fun t ht hW => ⟨⟨rfl, by rw [ht]; exact hP9, by rw [hAe]; exact hD9⟩, by rw [hAe]; exact hS9.F ht⟩) hS9.2.2 dX5_around_44
        · refine lv_bipush (v := (-2)) hx hb dX5_around_31 (by decide) ?_
          have hP9 := hP
          have hD9 := hD
          have hS9 := hS
          have qv : fX5_around held xs ys rm pm ic n ia = (-2 : Int32) := by unfold fX5_around; rw [if_neg c1, if_neg c2, if_neg c3, if_neg c4]
          rw [qv]
          exact W.iret (v := (-2 : Int32)) hx hb hr (fun t ht hW => ⟨⟨rfl, by rw [ht]; exact hP9, by rw [hAe]; exact hD9⟩, by rw [hAe]; exact hS9.F ht⟩) hS9.2.2 dX5_around_33
def fX5_order_B (held xs ys : Nat → Int32) (rm : Int32) (n : Int32) (ia : Int32) (is_ : Int32) (k_ : Int32) (K : Int32 → Int32 → Int32) : Nat → Int32 → Int32 → Int32
  | 0, _, _ => 0
  | kB + 1, ah, j => if n ≤ j then (K ah j) else (if j = k_ then (fX5_order_B held xs ys rm n ia is_ k_ K kB (ah + (0 : Int32)) (j + 1)) else (if (fX5_isLess held xs ys j k_) = (0 : Int32) then (fX5_order_B held xs ys rm n ia is_ k_ K kB (ah + (0 : Int32)) (j + 1)) else (fX5_order_B held xs ys rm n ia is_ k_ K kB (ah + (1 : Int32)) (j + 1))))
theorem fX5_order_B_s (held xs ys : Nat → Int32) (rm : Int32) (n : Int32) (ia : Int32) (is_ : Int32) (k_ : Int32) (K : Int32 → Int32 → Int32) (kB : Nat) (ah : Int32) (j : Int32) : fX5_order_B held xs ys rm n ia is_ k_ K (kB + 1) ah j = (if n ≤ j then (K ah j) else (if j = k_ then (fX5_order_B held xs ys rm n ia is_ k_ K kB (ah + (0 : Int32)) (j + 1)) else (if (fX5_isLess held xs ys j k_) = (0 : Int32) then (fX5_order_B held xs ys rm n ia is_ k_ K kB (ah + (0 : Int32)) (j + 1)) else (fX5_order_B held xs ys rm n ia is_ k_ K kB (ah + (1 : Int32)) (j + 1))))) := rfl
def fX5_order_A (held xs ys : Nat → Int32) (rm : Int32) (n : Int32) (ia : Int32) : Nat → Int32 → Int32 → Int32
  | 0, _, _ => 0
  | kA + 1, is_, k_ => if n ≤ k_ then (is_) else (fX5_order_B held xs ys rm n ia is_ k_ (fun ah j => if ah = ia then (fX5_order_A held xs ys rm n ia kA k_ (k_ + 1)) else (fX5_order_A held xs ys rm n ia kA is_ (k_ + 1))) (n.toInt.toNat + 1) (0 : Int32) (0 : Int32))
theorem fX5_order_A_s (held xs ys : Nat → Int32) (rm : Int32) (n : Int32) (ia : Int32) (kA : Nat) (is_ : Int32) (k_ : Int32) : fX5_order_A held xs ys rm n ia  (kA + 1) is_ k_ = (if n ≤ k_ then (is_) else (fX5_order_B held xs ys rm n ia is_ k_ (fun ah j => if ah = ia then (fX5_order_A held xs ys rm n ia kA k_ (k_ + 1)) else (fX5_order_A held xs ys rm n ia kA is_ (k_ + 1))) (n.toInt.toNat + 1) (0 : Int32) (0 : Int32))) := rfl
def fX5_order (held xs ys : Nat → Int32) (rm : Int32) (n : Int32) (ia : Int32) : Int32 := if (fX5_isMany rm n (1 : Int32)) = (0 : Int32) then ((-2 : Int32)) else (if ia < (0 : Int32) then ((-2 : Int32)) else (if ia < n then (if (fX5_isWhole held n) = (0 : Int32) then ((-4 : Int32)) else (fX5_order_A held xs ys rm n ia (n.toInt.toNat + 1) (-1 : Int32) (0 : Int32))) else ((-2 : Int32))))
set_option maxHeartbeats 4000000 in
set_option maxRecDepth 100000 in
theorem ct5_order (l : Launch) (D : va_G) (sz : Nat) (m1 m2 m3 m4 m5 m6 m7 : Nat) (kI kJ : ClassId) (xs ys held : Nat → Int32) (la lb lc : Nat → Int64) (th pm rm on cl un ze lm : Int32) (n : Int32) (ia : Int32) (orm : rm.toInt ≤ (24 : Nat)) (ohk : hok held) : Met l yX5_order (Cond.code yX5_order cX5_order 7 (some .int) :: BY) ({ frames := 2, cells := 0, slots := 0, locals := 120 }) (xw_P nN D vwCl [(kI, .int), (kJ, .long)] (wMo m1 m2 m3 m4 m5 m6 m7 kI kJ xs ys held la lb lc th pm rm on cl un ze lm) sz [.ref m1, .int n, .int ia]) (xw_Q D vwCl (some (.int (fX5_order held xs ys rm n ia))) (wMo m1 m2 m3 m4 m5 m6 m7 kI kJ xs ys held la lb lc th pm rm on cl un ze lm) (wMo m1 m2 m3 m4 m5 m6 m7 kI kJ xs ys held la lb lc (0 : Int32) pm rm on cl un ze lm) sz) 0 0 (va_A (wMo m1 m2 m3 m4 m5 m6 m7 kI kJ xs ys held la lb lc th pm rm on cl un ze lm) sz) := by
  refine Met.ofW (cc := cX5_order) (maxL := 7) (ret := (some .int)) (by decide) rfl ?_
  intro p e s m args below meth c s₁ B hml hv
  obtain ⟨rfl, hsz, hP, hK, hN, hD0⟩ := hv
  have hx := B.exec
  have hb := B.bytes
  have hr := B.returns
  have hts0 := atoms_spec (ws := Cond.code yX5_order cX5_order 7 (some .int) :: BY) B.pre
  have hts : ∀ w ∈ BY, w.before _ s = true := fun w h => hts0 w (List.mem_cons_of_mem _ h)
  have hown : s.vm.findClass RX5 = some m.cls := findClass_of_methodNamed B.named
  have hlocks := B.notSynchronized
  subst hsz
  have hD := hD0.self (sz := s.heap.size)
  generalize hAe : va_A (wMo m1 m2 m3 m4 m5 m6 m7 kI kJ xs ys held la lb lc th pm rm on cl un ze lm) s.heap.size = A at hD ⊢
  have hA : ∀ q : Nat, s.heap.size ≤ q → A q := fun q h => by rw [← hAe]; exact Or.inr h
  have hS : va_S A s.heap s.heap [] := va_S.rf
  have hP : va_P D vwCl [(m1, .inr (9, [.int th, .int pm, .ref m2, .ref m3, .int rm, .ref m4, .int on, .int cl, .int un, .int ze, .int lm, .ref m5, .ref m6, .ref m7])), (m2, .inl (kI, 60, .inl xs)), (m3, .inl (kI, 60, .inl ys)), (m4, .inl (kI, 24, .inl held)), (m5, .inl (kJ, 12, .inr (.inl la))), (m6, .inl (kJ, 12, .inr (.inl lb))), (m7, .inl (kJ, 12, .inr (.inl lc)))] s.heap := hP
  have hD : va_D A [(m1, .inr (9, [.int th, .int pm, .ref m2, .ref m3, .int rm, .ref m4, .int on, .int cl, .int un, .int ze, .int lm, .ref m5, .ref m6, .ref m7])), (m2, .inl (kI, 60, .inl xs)), (m3, .inl (kI, 60, .inl ys)), (m4, .inl (kI, 24, .inl held)), (m5, .inl (kJ, 12, .inr (.inl la))), (m6, .inl (kJ, 12, .inr (.inl lb))), (m7, .inl (kJ, 12, .inr (.inl lc)))] := hD
  have hl := lv_entry ([.ref m1, .int n, .int ia]) (n := 7) (Nat.le_of_ble_eq_true rfl)
  rw [lg_entry_eq]
  generalize (lg_sl ([.ref m1, .int n, .int ia]) ++ List.replicate (7 - (lg_sl ([.ref m1, .int n, .int ia])).length) Slot.unset).toArray = ls at hl ⊢
  have hl : lv_has ls 7 [(0, .ref m1), (1, .int n), (2, .int ia)] := hl
  refine lv_aload_n hx hb dX5_order_0 rfl (lv_at hl 0 rfl) ?_
  refine lv_iconst (v := 0) hx hb dX5_order_1 (by decide) ?_
  refine va_put (D := D) (ci := 9) (v := .int (0 : Int32)) (ty := .int) (C := RX5) (T := TX5) (N := 14) hx hb hts hinX5 tyX5 tyX5_ok nmX5 hown hK hP hD hS 0 rfl rfl 0 (by decide) (hts _ fk_X5_1) (fun _ h9 => h9) rfl (by decide +kernel) rfl rfl (Nat.le_of_ble_eq_true rfl) dX5_order_2 (fun H locs hP hD hS => ?_)
  have hP : va_P D vwCl [(m1, .inr (9, [.int (0 : Int32), .int pm, .ref m2, .ref m3, .int rm, .ref m4, .int on, .int cl, .int un, .int ze, .int lm, .ref m5, .ref m6, .ref m7])), (m2, .inl (kI, 60, .inl xs)), (m3, .inl (kI, 60, .inl ys)), (m4, .inl (kI, 24, .inl held)), (m5, .inl (kJ, 12, .inr (.inl la))), (m6, .inl (kJ, 12, .inr (.inl lb))), (m7, .inl (kJ, 12, .inr (.inl lc)))] H := hP
  have hD : va_D A [(m1, .inr (9, [.int (0 : Int32), .int pm, .ref m2, .ref m3, .int rm, .ref m4, .int on, .int cl, .int un, .int ze, .int lm, .ref m5, .ref m6, .ref m7])), (m2, .inl (kI, 60, .inl xs)), (m3, .inl (kI, 60, .inl ys)), (m4, .inl (kI, 24, .inl held)), (m5, .inl (kJ, 12, .inr (.inl la))), (m6, .inl (kJ, 12, .inr (.inl lb))), (m7, .inl (kJ, 12, .inr (.inl lc)))] := hD
  refine lv_aload_n hx hb dX5_order_5 rfl (lv_at hl 0 rfl) ?_
  refine lv_iload_n hx hb dX5_order_6 rfl (lv_at hl 1 rfl) ?_
  refine lv_iconst (v := 1) hx hb dX5_order_7 (by decide) ?_
  refine xr_V (q := (RX5, TX5, 14)) (ci := 9) (q0 := 0) (rest := []) (As := [.int n, .int (1 : Int32)]) ⟨hx, hb, hml, hown, hts⟩ (ct5_isMany l D m1 m2 m3 m4 m5 m6 m7 kI kJ xs ys held la lb lc (0 : Int32) pm rm on cl un ze lm n (1 : Int32) ) (cwV 2 hts gl_X5_139 rfl rfl rfl (by decide +kernel) ⟨Nat.le_of_ble_eq_true rfl, Nat.le_of_ble_eq_true rfl⟩) nN_mv hN hK hP [0, 1, 2, 3, 4, 5, 6] [0, 1] rfl rfl rfl rfl rfl hl.1 rfl (Nat.le_of_ble_eq_true rfl) dX5_order_8 ⟨Nat.le_of_ble_eq_true rfl, Nat.le_of_ble_eq_true rfl⟩ ?_
  refine lv_if_eq (tgt := 23) hx hb dX5_order_11 (by decide) (fun c1 => ?_) (fun c1 => ?_)
  · refine lv_bipush (v := (-2)) hx hb dX5_order_23 (by decide) ?_
    have hP9 := hP
    have hD9 := hD
    have hS9 := hS
    have qv : fX5_order held xs ys rm n ia = (-2 : Int32) := by unfold fX5_order; rw [if_pos c1]
    rw [qv]
    exact W.iret (v := (-2 : Int32)) hx hb hr (fun t ht hW => ⟨⟨rfl, by rw [ht]; exact hP9, by rw [hAe]; exact hD9⟩, by rw [hAe]; exact hS9.F ht⟩) hS9.2.2 dX5_order_25
  · refine lv_iload_n hx hb dX5_order_14 rfl (lv_at hl 2 rfl) ?_
    refine lv_if_lt (tgt := 23) hx hb dX5_order_15 (by decide) (fun c2 => ?_) (fun c2 => ?_)
    · refine lv_bipush (v := (-2)) hx hb dX5_order_23 (by decide) ?_
      have hP9 := hP
      have hD9 := hD
      have hS9 := hS
      have qv : fX5_order held xs ys rm n ia = (-2 : Int32) := by unfold fX5_order; rw [if_neg c1, if_pos c2]
      rw [qv]
      exact W.iret (v := (-2 : Int32)) hx hb hr (fun t ht hW => ⟨⟨rfl, by rw [ht]; exact hP9, by rw [hAe]; exact hD9⟩, by rw [hAe]; exact hS9.F ht⟩) hS9.2.2 dX5_order_25
    · refine lv_iload_n hx hb dX5_order_18 rfl (lv_at hl 2 rfl) ?_
      refine lv_iload_n hx hb dX5_order_19 rfl (lv_at hl 1 rfl) ?_
      refine lv_icmp_lt (tgt := 26) hx hb dX5_order_20 (by decide) (fun c3 => ?_) (fun c3 => ?_)
      · refine lv_aload_n hx hb dX5_order_26 rfl (lv_at hl 0 rfl) ?_
        refine lv_iload_n hx hb dX5_order_27 rfl (lv_at hl 1 rfl) ?_
        refine xr_V (q := (RX5, TX5, 14)) (ci := 9) (q0 := 0) (rest := []) (As := [.int n]) ⟨hx, hb, hml, hown, hts⟩ (ct5_isWhole l D m1 m2 m3 m4 m5 m6 m7 kI kJ xs ys held la lb lc (0 : Int32) pm rm on cl un ze lm n ((o_mn c1 orm).2)) (cwV 1 hts gl_X5_142 rfl rfl rfl (by decide +kernel) ⟨Nat.le_of_ble_eq_true rfl, Nat.le_of_ble_eq_true rfl⟩) nN_mv hN hK hP [0, 1, 2, 3, 4, 5, 6] [0, 1] rfl rfl rfl rfl rfl hl.1 rfl (Nat.le_of_ble_eq_true rfl) dX5_order_28 ⟨Nat.le_of_ble_eq_true rfl, Nat.le_of_ble_eq_true rfl⟩ ?_
        refine lv_if_ne (tgt := 37) hx hb dX5_order_31 (by decide) (fun c4 => ?_) (fun c4 => ?_)
        · refine lv_iconst (v := (-1)) hx hb dX5_order_37 (by decide) ?_
          refine lv_istore_n (lv' := [(3, .int (-1 : Int32)), (0, .ref m1), (1, .int n), (2, .int ia)]) hx hb dX5_order_38 rfl hl (by decide) rfl (fun ls hl => ?_)
          refine lv_iconst (v := 0) hx hb dX5_order_39 (by decide) ?_
          refine lv_istore (lv' := [(4, .int (0 : Int32)), (3, .int (-1 : Int32)), (0, .ref m1), (1, .int n), (2, .int ia)]) hx hb dX5_order_40 hl (by decide) rfl (fun ls hl => ?_)
          refine xr_l2 (P := fun ls => W p l e _ s m _ below meth c _ _ _ _ _ (F0 m 42 ls [])) (nL := 7) (fun (is_ : Int32) (k_ : Int32) => [(4, .int k_), (3, .int is_), (0, .ref m1), (1, .int n), (2, .int ia)]) (fun kA (is_ : Int32) (k_ : Int32) => xr_u n k_ kA ∧ fX5_order_A held xs ys rm n ia kA is_ k_ = fX5_order held xs ys rm n ia) (fun _ _ h => xr_u0 h.1) ?_ (n.toInt.toNat + 1) (-1 : Int32) (0 : Int32) ls hl ⟨(xr_ub n), (by unfold fX5_order; rw [if_neg c1, if_neg c2, if_pos c3, if_neg c4])⟩
          clear hl
          intro kA is_ k_ ls hl hI ihA
          obtain ⟨huA, hLA⟩ := hI
          refine lv_iload hx hb dX5_order_42 (lv_at hl 0 rfl) ?_
          refine lv_iload_n hx hb dX5_order_44 rfl (lv_at hl 3 rfl) ?_
          refine lv_icmp_ge (tgt := 113) hx hb dX5_order_45 (by decide) (fun c5 => ?_) (fun c5 => ?_)
          · refine lv_iload_n hx hb dX5_order_113 rfl (lv_at hl 1 rfl) ?_
            have hP9 := hP
            have hD9 := hD
            have hS9 := hS
            have qv : fX5_order held xs ys rm n ia = is_ := by rw [← hLA, fX5_order_A_s, if_pos c5]
            rw [qv]
            exact W.iret (v := is_) hx hb hr (fun t ht hW => ⟨⟨rfl, by rw [ht]; exact hP9, by rw [hAe]; exact hD9⟩, by rw [hAe]; exact hS9.F ht⟩) hS9.2.2 dX5_order_114
          · refine lv_iconst (v := 0) hx hb dX5_order_48 (by decide) ?_
            refine lv_istore (lv' := [(5, .int (0 : Int32)), (4, .int k_), (3, .int is_), (0, .ref m1), (1, .int n), (2, .int ia)]) hx hb dX5_order_49 hl (by decide) rfl (fun ls hl => ?_)
            refine lv_iconst (v := 0) hx hb dX5_order_51 (by decide) ?_
            refine lv_istore (lv' := [(6, .int (0 : Int32)), (5, .int (0 : Int32)), (4, .int k_), (3, .int is_), (0, .ref m1), (1, .int n), (2, .int ia)]) hx hb dX5_order_52 hl (by decide) rfl (fun ls hl => ?_)
            refine xr_l2 (P := fun ls => W p l e _ s m _ below meth c _ _ _ _ _ (F0 m 54 ls [])) (nL := 7) (fun (ah : Int32) (j : Int32) => [(6, .int j), (5, .int ah), (4, .int k_), (3, .int is_), (0, .ref m1), (1, .int n), (2, .int ia)]) (fun kB (ah : Int32) (j : Int32) => xr_u n j kB ∧ fX5_order_B held xs ys rm n ia is_ k_ (fun ah j => if ah = ia then (fX5_order_A held xs ys rm n ia kA k_ (k_ + 1)) else (fX5_order_A held xs ys rm n ia kA is_ (k_ + 1))) kB ah j = fX5_order held xs ys rm n ia) (fun _ _ h => xr_u0 h.1) ?_ (n.toInt.toNat + 1) (0 : Int32) (0 : Int32) ls hl ⟨(xr_ub n), (by rw [← hLA, fX5_order_A_s, if_neg c5])⟩
            clear hl
            intro kB ah j ls hl hI ihB
            obtain ⟨huB, hLB⟩ := hI
            refine lv_iload hx hb dX5_order_54 (lv_at hl 0 rfl) ?_
            refine lv_iload_n hx hb dX5_order_56 rfl (lv_at hl 5 rfl) ?_
            refine lv_icmp_ge (tgt := 94) hx hb dX5_order_57 (by decide) (fun c6 => ?_) (fun c6 => ?_)
            · refine lv_iload hx hb dX5_order_94 (lv_at hl 1 rfl) ?_
              refine lv_iload_n hx hb dX5_order_96 rfl (lv_at hl 6 rfl) ?_
              refine lv_icmp_ne (tgt := 105) hx hb dX5_order_97 (by decide) (fun c7 => ?_) (fun c7 => ?_)
              · refine lv_iload_n hx hb dX5_order_105 rfl (lv_at hl 3 rfl) ?_
                refine lv_istore_n (lv' := [(3, .int is_), (6, .int j), (5, .int ah), (4, .int k_), (0, .ref m1), (1, .int n), (2, .int ia)]) hx hb dX5_order_106 rfl hl (by decide) rfl (fun ls hl => ?_)
                obtain ⟨z8, ez8⟩ : ∃ y : Int32, y = k_ + 1 := ⟨_, rfl⟩
                refine lv_iinc (v := z8) (lv' := [(4, .int z8), (3, .int is_), (6, .int j), (5, .int ah), (0, .ref m1), (1, .int n), (2, .int ia)]) hx hb dX5_order_107 hl (k := 3) rfl (by rw [ez8]; rfl) (by decide) rfl (fun ls hl => ?_)
                refine lv_goto (tgt := 42) hx hb dX5_order_110 (by decide) ?_
                have hl9 := hl
                subst ez8
                exact ihA is_ (k_ + 1) _ (lv_sub hl9 [0, 1, 4, 5, 6] rfl) ⟨xr_us huA c5, by rw [← hLB, fX5_order_B_s, if_pos c6, if_neg c7]⟩
              · refine lv_iload hx hb dX5_order_100 (lv_at hl 2 rfl) ?_
                refine lv_goto (tgt := 106) hx hb dX5_order_102 (by decide) ?_
                refine lv_istore_n (lv' := [(3, .int k_), (6, .int j), (5, .int ah), (4, .int k_), (0, .ref m1), (1, .int n), (2, .int ia)]) hx hb dX5_order_106 rfl hl (by decide) rfl (fun ls hl => ?_)
                obtain ⟨z9, ez9⟩ : ∃ y : Int32, y = k_ + 1 := ⟨_, rfl⟩
                refine lv_iinc (v := z9) (lv' := [(4, .int z9), (3, .int k_), (6, .int j), (5, .int ah), (0, .ref m1), (1, .int n), (2, .int ia)]) hx hb dX5_order_107 hl (k := 3) rfl (by rw [ez9]; rfl) (by decide) rfl (fun ls hl => ?_)
                refine lv_goto (tgt := 42) hx hb dX5_order_110 (by decide) ?_
                have hl9 := hl
                subst ez9
                exact ihA k_ (k_ + 1) _ (lv_sub hl9 [0, 1, 4, 5, 6] rfl) ⟨xr_us huA c5, by rw [← hLB, fX5_order_B_s, if_pos c6, if_pos c7]⟩
            · refine lv_iload hx hb dX5_order_60 (lv_at hl 1 rfl) ?_
              refine lv_iload hx hb dX5_order_62 (lv_at hl 0 rfl) ?_
              refine lv_iload hx hb dX5_order_64 (lv_at hl 2 rfl) ?_
              refine lv_icmp_eq (tgt := 84) hx hb dX5_order_66 (by decide) (fun c10 => ?_) (fun c10 => ?_)
              · refine lv_iconst (v := 0) hx hb dX5_order_84 (by decide) ?_
                refine lv_iadd hx hb dX5_order_85 ?_
                refine lv_istore (lv' := [(5, .int (ah + (0 : Int32))), (6, .int j), (4, .int k_), (3, .int is_), (0, .ref m1), (1, .int n), (2, .int ia)]) hx hb dX5_order_86 hl (by decide) rfl (fun ls hl => ?_)
                obtain ⟨z11, ez11⟩ : ∃ y : Int32, y = j + 1 := ⟨_, rfl⟩
                refine lv_iinc (v := z11) (lv' := [(6, .int z11), (5, .int (ah + (0 : Int32))), (4, .int k_), (3, .int is_), (0, .ref m1), (1, .int n), (2, .int ia)]) hx hb dX5_order_88 hl (k := 1) rfl (by rw [ez11]; rfl) (by decide) rfl (fun ls hl => ?_)
                refine lv_goto (tgt := 54) hx hb dX5_order_91 (by decide) ?_
                have hl9 := hl
                subst ez11
                exact ihB (ah + (0 : Int32)) (j + 1) _ (lv_sub hl9 [0, 1, 2, 3, 4, 5, 6] rfl) ⟨xr_us huB c6, by rw [← hLB, fX5_order_B_s, if_neg c6, if_pos c10]⟩
              · refine lv_aload_n hx hb dX5_order_69 rfl (lv_at hl 4 rfl) ?_
                refine lv_iload hx hb dX5_order_70 (lv_at hl 0 rfl) ?_
                refine lv_iload hx hb dX5_order_72 (lv_at hl 2 rfl) ?_
                refine xr_V (q := (RX5, TX5, 14)) (ci := 9) (q0 := 0) (rest := [.int ah]) (As := [.int j, .int k_]) ⟨hx, hb, hml, hown, hts⟩ (ct5_isLess l D m1 m2 m3 m4 m5 m6 m7 kI kJ xs ys held la lb lc (0 : Int32) pm rm on cl un ze lm j k_ (xr_in huB c6 (o_mn c1 orm).2) (xr_in huA c5 (o_mn c1 orm).2) ((o_wh c4 ohk) _ (xr_cl huB c6)) ((o_wh c4 ohk) _ (xr_cl huA c5))) (cwV 2 hts gl_X5_165 rfl rfl rfl (by decide +kernel) ⟨Nat.le_of_ble_eq_true rfl, Nat.le_of_ble_eq_true rfl⟩) nN_mv hN hK hP [0, 1, 2, 3, 4, 5, 6] [0, 1] rfl rfl rfl rfl rfl hl.1 rfl (Nat.le_of_ble_eq_true rfl) dX5_order_74 ⟨Nat.le_of_ble_eq_true rfl, Nat.le_of_ble_eq_true rfl⟩ ?_
                refine lv_if_eq (tgt := 84) hx hb dX5_order_77 (by decide) (fun c12 => ?_) (fun c12 => ?_)
                · refine lv_iconst (v := 0) hx hb dX5_order_84 (by decide) ?_
                  refine lv_iadd hx hb dX5_order_85 ?_
                  refine lv_istore (lv' := [(5, .int (ah + (0 : Int32))), (6, .int j), (4, .int k_), (3, .int is_), (0, .ref m1), (1, .int n), (2, .int ia)]) hx hb dX5_order_86 hl (by decide) rfl (fun ls hl => ?_)
                  obtain ⟨z13, ez13⟩ : ∃ y : Int32, y = j + 1 := ⟨_, rfl⟩
                  refine lv_iinc (v := z13) (lv' := [(6, .int z13), (5, .int (ah + (0 : Int32))), (4, .int k_), (3, .int is_), (0, .ref m1), (1, .int n), (2, .int ia)]) hx hb dX5_order_88 hl (k := 1) rfl (by rw [ez13]; rfl) (by decide) rfl (fun ls hl => ?_)
                  refine lv_goto (tgt := 54) hx hb dX5_order_91 (by decide) ?_
                  have hl9 := hl
                  subst ez13
                  exact ihB (ah + (0 : Int32)) (j + 1) _ (lv_sub hl9 [0, 1, 2, 3, 4, 5, 6] rfl) ⟨xr_us huB c6, by rw [← hLB, fX5_order_B_s, if_neg c6, if_neg c10, if_pos c12]⟩
                · refine lv_iconst (v := 1) hx hb dX5_order_80 (by decide) ?_
                  refine lv_goto (tgt := 85) hx hb dX5_order_81 (by decide) ?_
                  refine lv_iadd hx hb dX5_order_85 ?_
                  refine lv_istore (lv' := [(5, .int (ah + (1 : Int32))), (6, .int j), (4, .int k_), (3, .int is_), (0, .ref m1), (1, .int n), (2, .int ia)]) hx hb dX5_order_86 hl (by decide) rfl (fun ls hl => ?_)
                  obtain ⟨z14, ez14⟩ : ∃ y : Int32, y = j + 1 := ⟨_, rfl⟩
                  refine lv_iinc (v := z14) (lv' := [(6, .int z14), (5, .int (ah + (1 : Int32))), (4, .int k_), (3, .int is_), (0, .ref m1), (1, .int n), (2, .int ia)]) hx hb dX5_order_88 hl (k := 1) rfl (by rw [ez14]; rfl) (by decide) rfl (fun ls hl => ?_)
                  refine lv_goto (tgt := 54) hx hb dX5_order_91 (by decide) ?_
                  have hl9 := hl
                  subst ez14
                  exact ihB (ah + (1 : Int32)) (j + 1) _ (lv_sub hl9 [0, 1, 2, 3, 4, 5, 6] rfl) ⟨xr_us huB c6, by rw [← hLB, fX5_order_B_s, if_neg c6, if_neg c10, if_neg c12]⟩
        · refine lv_bipush (v := (-4)) hx hb dX5_order_34 (by decide) ?_
          have hP9 := hP
          have hD9 := hD
          have hS9 := hS
          have qv : fX5_order held xs ys rm n ia = (-4 : Int32) := by unfold fX5_order; rw [if_neg c1, if_neg c2, if_pos c3, if_pos c4]
          rw [qv]
          exact W.iret (v := (-4 : Int32)) hx hb hr (fun t ht hW => ⟨⟨rfl, by rw [ht]; exact hP9, by rw [hAe]; exact hD9⟩, by rw [hAe]; exact hS9.F ht⟩) hS9.2.2 dX5_order_36
      · refine lv_bipush (v := (-2)) hx hb dX5_order_23 (by decide) ?_
        have hP9 := hP
        have hD9 := hD
        have hS9 := hS
        have qv : fX5_order held xs ys rm n ia = (-2 : Int32) := by unfold fX5_order; rw [if_neg c1, if_neg c2, if_neg c3]
        rw [qv]
        exact W.iret (v := (-2 : Int32)) hx hb hr (fun t ht hW => ⟨⟨rfl, by rw [ht]; exact hP9, by rw [hAe]; exact hD9⟩, by rw [hAe]; exact hS9.F ht⟩) hS9.2.2 dX5_order_25
def fX5_convex_B (held xs ys : Nat → Int32) (rm : Int32) (n : Int32) (le : Int32) (ri : Int32) (i : Int32) (K : Int32 → Int32 → Int32 → Int32) : Nat → Int32 → Int32 → Int32 → Int32
  | 0, _, _, _ => 0
  | kB + 1, le2, ri2, k_ => if n ≤ k_ then (K le2 ri2 k_) else (if k_ = i then (if le2 = (0 : Int32) then (if ri2 = (0 : Int32) then (fX5_convex_B held xs ys rm n le ri i K kB (0 : Int32) (0 : Int32) (k_ + 1)) else (fX5_convex_B held xs ys rm n le ri i K kB (0 : Int32) (1 : Int32) (k_ + 1))) else (if ri2 = (0 : Int32) then (fX5_convex_B held xs ys rm n le ri i K kB (1 : Int32) (0 : Int32) (k_ + 1)) else (fX5_convex_B held xs ys rm n le ri i K kB (1 : Int32) (1 : Int32) (k_ + 1)))) else (if k_ = ((i + (1 : Int32)) - (i + (1 : Int32)) / n * n) then (if le2 = (0 : Int32) then (if ri2 = (0 : Int32) then (fX5_convex_B held xs ys rm n le ri i K kB (0 : Int32) (0 : Int32) (k_ + 1)) else (fX5_convex_B held xs ys rm n le ri i K kB (0 : Int32) (1 : Int32) (k_ + 1))) else (if ri2 = (0 : Int32) then (fX5_convex_B held xs ys rm n le ri i K kB (1 : Int32) (0 : Int32) (k_ + 1)) else (fX5_convex_B held xs ys rm n le ri i K kB (1 : Int32) (1 : Int32) (k_ + 1)))) else (if le2 = (0 : Int32) then (if ri2 = (0 : Int32) then (fX5_convex_B held xs ys rm n le ri i K kB (0 : Int32) (0 : Int32) (k_ + 1)) else (if (fX5_turn xs ys (held i.toNatClampNeg) (fX5_next held i n) (held k_.toNatClampNeg)) = (-1 : Int32) then (fX5_convex_B held xs ys rm n le ri i K kB (0 : Int32) (1 : Int32) (k_ + 1)) else (fX5_convex_B held xs ys rm n le ri i K kB (0 : Int32) (0 : Int32) (k_ + 1)))) else (if (fX5_turn xs ys (held i.toNatClampNeg) (fX5_next held i n) (held k_.toNatClampNeg)) = (1 : Int32) then (if ri2 = (0 : Int32) then (fX5_convex_B held xs ys rm n le ri i K kB (1 : Int32) (0 : Int32) (k_ + 1)) else (if (fX5_turn xs ys (held i.toNatClampNeg) (fX5_next held i n) (held k_.toNatClampNeg)) = (-1 : Int32) then (fX5_convex_B held xs ys rm n le ri i K kB (1 : Int32) (1 : Int32) (k_ + 1)) else (fX5_convex_B held xs ys rm n le ri i K kB (1 : Int32) (0 : Int32) (k_ + 1)))) else (if ri2 = (0 : Int32) then (fX5_convex_B held xs ys rm n le ri i K kB (0 : Int32) (0 : Int32) (k_ + 1)) else (if (fX5_turn xs ys (held i.toNatClampNeg) (fX5_next held i n) (held k_.toNatClampNeg)) = (-1 : Int32) then (fX5_convex_B held xs ys rm n le ri i K kB (0 : Int32) (1 : Int32) (k_ + 1)) else (fX5_convex_B held xs ys rm n le ri i K kB (0 : Int32) (0 : Int32) (k_ + 1))))))))
theorem fX5_convex_B_s (held xs ys : Nat → Int32) (rm : Int32) (n : Int32) (le : Int32) (ri : Int32) (i : Int32) (K : Int32 → Int32 → Int32 → Int32) (kB : Nat) (le2 : Int32) (ri2 : Int32) (k_ : Int32) : fX5_convex_B held xs ys rm n le ri i K (kB + 1) le2 ri2 k_ = (if n ≤ k_ then (K le2 ri2 k_) else (if k_ = i then (if le2 = (0 : Int32) then (if ri2 = (0 : Int32) then (fX5_convex_B held xs ys rm n le ri i K kB (0 : Int32) (0 : Int32) (k_ + 1)) else (fX5_convex_B held xs ys rm n le ri i K kB (0 : Int32) (1 : Int32) (k_ + 1))) else (if ri2 = (0 : Int32) then (fX5_convex_B held xs ys rm n le ri i K kB (1 : Int32) (0 : Int32) (k_ + 1)) else (fX5_convex_B held xs ys rm n le ri i K kB (1 : Int32) (1 : Int32) (k_ + 1)))) else (if k_ = ((i + (1 : Int32)) - (i + (1 : Int32)) / n * n) then (if le2 = (0 : Int32) then (if ri2 = (0 : Int32) then (fX5_convex_B held xs ys rm n le ri i K kB (0 : Int32) (0 : Int32) (k_ + 1)) else (fX5_convex_B held xs ys rm n le ri i K kB (0 : Int32) (1 : Int32) (k_ + 1))) else (if ri2 = (0 : Int32) then (fX5_convex_B held xs ys rm n le ri i K kB (1 : Int32) (0 : Int32) (k_ + 1)) else (fX5_convex_B held xs ys rm n le ri i K kB (1 : Int32) (1 : Int32) (k_ + 1)))) else (if le2 = (0 : Int32) then (if ri2 = (0 : Int32) then (fX5_convex_B held xs ys rm n le ri i K kB (0 : Int32) (0 : Int32) (k_ + 1)) else (if (fX5_turn xs ys (held i.toNatClampNeg) (fX5_next held i n) (held k_.toNatClampNeg)) = (-1 : Int32) then (fX5_convex_B held xs ys rm n le ri i K kB (0 : Int32) (1 : Int32) (k_ + 1)) else (fX5_convex_B held xs ys rm n le ri i K kB (0 : Int32) (0 : Int32) (k_ + 1)))) else (if (fX5_turn xs ys (held i.toNatClampNeg) (fX5_next held i n) (held k_.toNatClampNeg)) = (1 : Int32) then (if ri2 = (0 : Int32) then (fX5_convex_B held xs ys rm n le ri i K kB (1 : Int32) (0 : Int32) (k_ + 1)) else (if (fX5_turn xs ys (held i.toNatClampNeg) (fX5_next held i n) (held k_.toNatClampNeg)) = (-1 : Int32) then (fX5_convex_B held xs ys rm n le ri i K kB (1 : Int32) (1 : Int32) (k_ + 1)) else (fX5_convex_B held xs ys rm n le ri i K kB (1 : Int32) (0 : Int32) (k_ + 1)))) else (if ri2 = (0 : Int32) then (fX5_convex_B held xs ys rm n le ri i K kB (0 : Int32) (0 : Int32) (k_ + 1)) else (if (fX5_turn xs ys (held i.toNatClampNeg) (fX5_next held i n) (held k_.toNatClampNeg)) = (-1 : Int32) then (fX5_convex_B held xs ys rm n le ri i K kB (0 : Int32) (1 : Int32) (k_ + 1)) else (fX5_convex_B held xs ys rm n le ri i K kB (0 : Int32) (0 : Int32) (k_ + 1))))))))) := rfl
def fX5_convex_A (held xs ys : Nat → Int32) (rm : Int32) (n : Int32) : Nat → Int32 → Int32 → Int32 → Int32
  | 0, _, _, _ => 0
  | kA + 1, le, ri, i => if n ≤ i then (if le = (0 : Int32) then (if ri = (0 : Int32) then ((0 : Int32)) else ((-1 : Int32))) else ((1 : Int32))) else (fX5_convex_B held xs ys rm n le ri i (fun le2 ri2 k_ => fX5_convex_A held xs ys rm n kA le2 ri2 (i + 1)) (n.toInt.toNat + 1) le ri (0 : Int32))
theorem fX5_convex_A_s (held xs ys : Nat → Int32) (rm : Int32) (n : Int32) (kA : Nat) (le : Int32) (ri : Int32) (i : Int32) : fX5_convex_A held xs ys rm n  (kA + 1) le ri i = (if n ≤ i then (if le = (0 : Int32) then (if ri = (0 : Int32) then ((0 : Int32)) else ((-1 : Int32))) else ((1 : Int32))) else (fX5_convex_B held xs ys rm n le ri i (fun le2 ri2 k_ => fX5_convex_A held xs ys rm n kA le2 ri2 (i + 1)) (n.toInt.toNat + 1) le ri (0 : Int32))) := rfl
def fX5_convex (held xs ys : Nat → Int32) (rm : Int32) (n : Int32) : Int32 := if (fX5_isMany rm n (3 : Int32)) = (0 : Int32) then ((-2 : Int32)) else (if (fX5_isWhole held n) = (0 : Int32) then ((-4 : Int32)) else (fX5_convex_A held xs ys rm n (n.toInt.toNat + 1) (1 : Int32) (1 : Int32) (0 : Int32)))
set_option maxHeartbeats 4000000 in
set_option maxRecDepth 100000 in
theorem ct5_convex (l : Launch) (D : va_G) (sz : Nat) (m1 m2 m3 m4 m5 m6 m7 : Nat) (kI kJ : ClassId) (xs ys held : Nat → Int32) (la lb lc : Nat → Int64) (th pm rm on cl un ze lm : Int32) (n : Int32) (orm : rm.toInt ≤ (24 : Nat)) (ohk : hok held) : Met l yX5_convex (Cond.code yX5_convex cX5_convex 8 (some .int) :: BY) ({ frames := 3, cells := 0, slots := 0, locals := 180 }) (xw_P nN D vwCl [(kI, .int), (kJ, .long)] (wMo m1 m2 m3 m4 m5 m6 m7 kI kJ xs ys held la lb lc th pm rm on cl un ze lm) sz [.ref m1, .int n]) (xw_Q D vwCl (some (.int (fX5_convex held xs ys rm n))) (wMo m1 m2 m3 m4 m5 m6 m7 kI kJ xs ys held la lb lc th pm rm on cl un ze lm) (wMo m1 m2 m3 m4 m5 m6 m7 kI kJ xs ys held la lb lc (0 : Int32) pm rm on cl un ze lm) sz) 0 0 (va_A (wMo m1 m2 m3 m4 m5 m6 m7 kI kJ xs ys held la lb lc th pm rm on cl un ze lm) sz) := by
  refine Met.ofW (cc := cX5_convex) (maxL := 8) (ret := (some .int)) (by decide) rfl ?_
  intro p e s m args below meth c s₁ B hml hv
  obtain ⟨rfl, hsz, hP, hK, hN, hD0⟩ := hv
  have hx := B.exec
  have hb := B.bytes
  have hr := B.returns
  have hts0 := atoms_spec (ws := Cond.code yX5_convex cX5_convex 8 (some .int) :: BY) B.pre
  have hts : ∀ w ∈ BY, w.before _ s = true := fun w h => hts0 w (List.mem_cons_of_mem _ h)
  have hown : s.vm.findClass RX5 = some m.cls := findClass_of_methodNamed B.named
  have hlocks := B.notSynchronized
  subst hsz
  have hD := hD0.self (sz := s.heap.size)
  generalize hAe : va_A (wMo m1 m2 m3 m4 m5 m6 m7 kI kJ xs ys held la lb lc th pm rm on cl un ze lm) s.heap.size = A at hD ⊢
  have hA : ∀ q : Nat, s.heap.size ≤ q → A q := fun q h => by rw [← hAe]; exact Or.inr h
  have hS : va_S A s.heap s.heap [] := va_S.rf
  have hP : va_P D vwCl [(m1, .inr (9, [.int th, .int pm, .ref m2, .ref m3, .int rm, .ref m4, .int on, .int cl, .int un, .int ze, .int lm, .ref m5, .ref m6, .ref m7])), (m2, .inl (kI, 60, .inl xs)), (m3, .inl (kI, 60, .inl ys)), (m4, .inl (kI, 24, .inl held)), (m5, .inl (kJ, 12, .inr (.inl la))), (m6, .inl (kJ, 12, .inr (.inl lb))), (m7, .inl (kJ, 12, .inr (.inl lc)))] s.heap := hP
  have hD : va_D A [(m1, .inr (9, [.int th, .int pm, .ref m2, .ref m3, .int rm, .ref m4, .int on, .int cl, .int un, .int ze, .int lm, .ref m5, .ref m6, .ref m7])), (m2, .inl (kI, 60, .inl xs)), (m3, .inl (kI, 60, .inl ys)), (m4, .inl (kI, 24, .inl held)), (m5, .inl (kJ, 12, .inr (.inl la))), (m6, .inl (kJ, 12, .inr (.inl lb))), (m7, .inl (kJ, 12, .inr (.inl lc)))] := hD
  have hl := lv_entry ([.ref m1, .int n]) (n := 8) (Nat.le_of_ble_eq_true rfl)
  rw [lg_entry_eq]
  generalize (lg_sl ([.ref m1, .int n]) ++ List.replicate (8 - (lg_sl ([.ref m1, .int n])).length) Slot.unset).toArray = ls at hl ⊢
  have hl : lv_has ls 8 [(0, .ref m1), (1, .int n)] := hl
  refine lv_aload_n hx hb dX5_convex_0 rfl (lv_at hl 0 rfl) ?_
  refine lv_iconst (v := 0) hx hb dX5_convex_1 (by decide) ?_
  refine va_put (D := D) (ci := 9) (v := .int (0 : Int32)) (ty := .int) (C := RX5) (T := TX5) (N := 14) hx hb hts hinX5 tyX5 tyX5_ok nmX5 hown hK hP hD hS 0 rfl rfl 0 (by decide) (hts _ fk_X5_1) (fun _ h9 => h9) rfl (by decide +kernel) rfl rfl (Nat.le_of_ble_eq_true rfl) dX5_convex_2 (fun H locs hP hD hS => ?_)
  have hP : va_P D vwCl [(m1, .inr (9, [.int (0 : Int32), .int pm, .ref m2, .ref m3, .int rm, .ref m4, .int on, .int cl, .int un, .int ze, .int lm, .ref m5, .ref m6, .ref m7])), (m2, .inl (kI, 60, .inl xs)), (m3, .inl (kI, 60, .inl ys)), (m4, .inl (kI, 24, .inl held)), (m5, .inl (kJ, 12, .inr (.inl la))), (m6, .inl (kJ, 12, .inr (.inl lb))), (m7, .inl (kJ, 12, .inr (.inl lc)))] H := hP
  have hD : va_D A [(m1, .inr (9, [.int (0 : Int32), .int pm, .ref m2, .ref m3, .int rm, .ref m4, .int on, .int cl, .int un, .int ze, .int lm, .ref m5, .ref m6, .ref m7])), (m2, .inl (kI, 60, .inl xs)), (m3, .inl (kI, 60, .inl ys)), (m4, .inl (kI, 24, .inl held)), (m5, .inl (kJ, 12, .inr (.inl la))), (m6, .inl (kJ, 12, .inr (.inl lb))), (m7, .inl (kJ, 12, .inr (.inl lc)))] := hD
  refine lv_aload_n hx hb dX5_convex_5 rfl (lv_at hl 0 rfl) ?_
  refine lv_iload_n hx hb dX5_convex_6 rfl (lv_at hl 1 rfl) ?_
  refine lv_iconst (v := 3) hx hb dX5_convex_7 (by decide) ?_
  refine xr_V (q := (RX5, TX5, 14)) (ci := 9) (q0 := 0) (rest := []) (As := [.int n, .int (3 : Int32)]) ⟨hx, hb, hml, hown, hts⟩ (ct5_isMany l D m1 m2 m3 m4 m5 m6 m7 kI kJ xs ys held la lb lc (0 : Int32) pm rm on cl un ze lm n (3 : Int32) ) (cwV 2 hts gl_X5_139 rfl rfl rfl (by decide +kernel) ⟨Nat.le_of_ble_eq_true rfl, Nat.le_of_ble_eq_true rfl⟩) nN_mv hN hK hP [0, 1, 2, 3, 4, 5, 6] [0, 1] rfl rfl rfl rfl rfl hl.1 rfl (Nat.le_of_ble_eq_true rfl) dX5_convex_8 ⟨Nat.le_of_ble_eq_true rfl, Nat.le_of_ble_eq_true rfl⟩ ?_
  refine lv_if_ne (tgt := 17) hx hb dX5_convex_11 (by decide) (fun c1 => ?_) (fun c1 => ?_)
  · refine lv_aload_n hx hb dX5_convex_17 rfl (lv_at hl 0 rfl) ?_
    refine lv_iload_n hx hb dX5_convex_18 rfl (lv_at hl 1 rfl) ?_
    refine xr_V (q := (RX5, TX5, 14)) (ci := 9) (q0 := 0) (rest := []) (As := [.int n]) ⟨hx, hb, hml, hown, hts⟩ (ct5_isWhole l D m1 m2 m3 m4 m5 m6 m7 kI kJ xs ys held la lb lc (0 : Int32) pm rm on cl un ze lm n ((o_mn c1 orm).2)) (cwV 1 hts gl_X5_142 rfl rfl rfl (by decide +kernel) ⟨Nat.le_of_ble_eq_true rfl, Nat.le_of_ble_eq_true rfl⟩) nN_mv hN hK hP [0, 1, 2, 3, 4, 5, 6] [0, 1] rfl rfl rfl rfl rfl hl.1 rfl (Nat.le_of_ble_eq_true rfl) dX5_convex_19 ⟨Nat.le_of_ble_eq_true rfl, Nat.le_of_ble_eq_true rfl⟩ ?_
    refine lv_if_ne (tgt := 28) hx hb dX5_convex_22 (by decide) (fun c2 => ?_) (fun c2 => ?_)
    · refine lv_iconst (v := 1) hx hb dX5_convex_28 (by decide) ?_
      refine lv_istore_n (lv' := [(2, .int (1 : Int32)), (0, .ref m1), (1, .int n)]) hx hb dX5_convex_29 rfl hl (by decide) rfl (fun ls hl => ?_)
      refine lv_iconst (v := 1) hx hb dX5_convex_30 (by decide) ?_
      refine lv_istore_n (lv' := [(3, .int (1 : Int32)), (2, .int (1 : Int32)), (0, .ref m1), (1, .int n)]) hx hb dX5_convex_31 rfl hl (by decide) rfl (fun ls hl => ?_)
      refine lv_iconst (v := 0) hx hb dX5_convex_32 (by decide) ?_
      refine lv_istore (lv' := [(4, .int (0 : Int32)), (3, .int (1 : Int32)), (2, .int (1 : Int32)), (0, .ref m1), (1, .int n)]) hx hb dX5_convex_33 hl (by decide) rfl (fun ls hl => ?_)
      refine xr_l3 (P := fun ls => W p l e _ s m _ below meth c _ _ _ _ _ (F0 m 35 ls [])) (nL := 8) (fun (le : Int32) (ri : Int32) (i : Int32) => [(4, .int i), (3, .int ri), (2, .int le), (0, .ref m1), (1, .int n)]) (fun kA (le : Int32) (ri : Int32) (i : Int32) => xr_u n i kA ∧ fX5_convex_A held xs ys rm n kA le ri i = fX5_convex held xs ys rm n) (fun _ _ _ h => xr_u0 h.1) ?_ (n.toInt.toNat + 1) (1 : Int32) (1 : Int32) (0 : Int32) ls hl ⟨(xr_ub n), (by unfold fX5_convex; rw [if_neg c1, if_neg c2])⟩
      clear hl
      intro kA le ri i ls hl hI ihA
      obtain ⟨huA, hLA⟩ := hI
      refine lv_iload hx hb dX5_convex_35 (lv_at hl 0 rfl) ?_
      refine lv_iload_n hx hb dX5_convex_37 rfl (lv_at hl 4 rfl) ?_
      refine lv_icmp_ge (tgt := 165) hx hb dX5_convex_38 (by decide) (fun c3 => ?_) (fun c3 => ?_)
      · refine lv_iload_n hx hb dX5_convex_165 rfl (lv_at hl 2 rfl) ?_
        refine lv_if_eq (tgt := 173) hx hb dX5_convex_166 (by decide) (fun c4 => ?_) (fun c4 => ?_)
        · refine lv_iload_n hx hb dX5_convex_173 rfl (lv_at hl 1 rfl) ?_
          refine lv_if_eq (tgt := 181) hx hb dX5_convex_174 (by decide) (fun c5 => ?_) (fun c5 => ?_)
          · refine lv_iconst (v := 0) hx hb dX5_convex_181 (by decide) ?_
            have hP9 := hP
            have hD9 := hD
            have hS9 := hS
            have qv : fX5_convex held xs ys rm n = (0 : Int32) := by rw [← hLA, fX5_convex_A_s, if_pos c3, if_pos c4, if_pos c5]
            rw [qv]
            exact W.iret (v := (0 : Int32)) hx hb hr (fun t ht hW => ⟨⟨rfl, by rw [ht]; exact hP9, by rw [hAe]; exact hD9⟩, by rw [hAe]; exact hS9.F ht⟩) hS9.2.2 dX5_convex_182
          · refine lv_iconst (v := (-1)) hx hb dX5_convex_177 (by decide) ?_
            refine lv_goto (tgt := 182) hx hb dX5_convex_178 (by decide) ?_
            have hP9 := hP
            have hD9 := hD
            have hS9 := hS
            have qv : fX5_convex held xs ys rm n = (-1 : Int32) := by rw [← hLA, fX5_convex_A_s, if_pos c3, if_pos c4, if_neg c5]
            rw [qv]
            exact W.iret (v := (-1 : Int32)) hx hb hr (fun t ht hW => ⟨⟨rfl, by rw [ht]; exact hP9, by rw [hAe]; exact hD9⟩, by rw [hAe]; exact hS9.F ht⟩) hS9.2.2 dX5_convex_182
        · refine lv_iconst (v := 1) hx hb dX5_convex_169 (by decide) ?_
          refine lv_goto (tgt := 182) hx hb dX5_convex_170 (by decide) ?_
          have hP9 := hP
          have hD9 := hD
          have hS9 := hS
          have qv : fX5_convex held xs ys rm n = (1 : Int32) := by rw [← hLA, fX5_convex_A_s, if_pos c3, if_neg c4]
          rw [qv]
          exact W.iret (v := (1 : Int32)) hx hb hr (fun t ht hW => ⟨⟨rfl, by rw [ht]; exact hP9, by rw [hAe]; exact hD9⟩, by rw [hAe]; exact hS9.F ht⟩) hS9.2.2 dX5_convex_182
      · refine lv_iconst (v := 0) hx hb dX5_convex_41 (by decide) ?_
        refine lv_istore (lv' := [(5, .int (0 : Int32)), (4, .int i), (3, .int ri), (2, .int le), (0, .ref m1), (1, .int n)]) hx hb dX5_convex_42 hl (by decide) rfl (fun ls hl => ?_)
        refine xr_l3 (P := fun ls => W p l e _ s m _ below meth c _ _ _ _ _ (F0 m 44 ls [])) (nL := 8) (fun (le2 : Int32) (ri2 : Int32) (k_ : Int32) => [(5, .int k_), (4, .int i), (3, .int ri2), (2, .int le2), (0, .ref m1), (1, .int n)]) (fun kB (le2 : Int32) (ri2 : Int32) (k_ : Int32) => xr_u n k_ kB ∧ fX5_convex_B held xs ys rm n le ri i (fun le2 ri2 k_ => fX5_convex_A held xs ys rm n kA le2 ri2 (i + 1)) kB le2 ri2 k_ = fX5_convex held xs ys rm n) (fun _ _ _ h => xr_u0 h.1) ?_ (n.toInt.toNat + 1) le ri (0 : Int32) ls hl ⟨(xr_ub n), (by rw [← hLA, fX5_convex_A_s, if_neg c3])⟩
        clear hl
        intro kB le2 ri2 k_ ls hl hI ihB
        obtain ⟨huB, hLB⟩ := hI
        refine lv_iload hx hb dX5_convex_44 (lv_at hl 0 rfl) ?_
        refine lv_iload_n hx hb dX5_convex_46 rfl (lv_at hl 5 rfl) ?_
        refine lv_icmp_ge (tgt := 159) hx hb dX5_convex_47 (by decide) (fun c6 => ?_) (fun c6 => ?_)
        · obtain ⟨z7, ez7⟩ : ∃ y : Int32, y = i + 1 := ⟨_, rfl⟩
          refine lv_iinc (v := z7) (lv' := [(4, .int z7), (5, .int k_), (3, .int ri2), (2, .int le2), (0, .ref m1), (1, .int n)]) hx hb dX5_convex_159 hl (k := 1) rfl (by rw [ez7]; rfl) (by decide) rfl (fun ls hl => ?_)
          refine lv_goto (tgt := 35) hx hb dX5_convex_162 (by decide) ?_
          have hl9 := hl
          subst ez7
          exact ihA le2 ri2 (i + 1) _ (lv_sub hl9 [0, 2, 3, 4, 5] rfl) ⟨xr_us huA c3, by rw [← hLB, fX5_convex_B_s, if_pos c6]⟩
        · refine lv_iload hx hb dX5_convex_50 (lv_at hl 0 rfl) ?_
          refine lv_iload hx hb dX5_convex_52 (lv_at hl 1 rfl) ?_
          refine lv_icmp_eq (tgt := 68) hx hb dX5_convex_54 (by decide) (fun c8 => ?_) (fun c8 => ?_)
          · refine lv_iconst (v := 1) hx hb dX5_convex_68 (by decide) ?_
            refine lv_goto (tgt := 73) hx hb dX5_convex_69 (by decide) ?_
            refine lv_istore (lv' := [(6, .int (1 : Int32)), (5, .int k_), (4, .int i), (3, .int ri2), (2, .int le2), (0, .ref m1), (1, .int n)]) hx hb dX5_convex_73 hl (by decide) rfl (fun ls hl => ?_)
            refine lv_iload hx hb dX5_convex_75 (lv_at hl 0 rfl) ?_
            refine lv_if_eq (tgt := 84) hx hb dX5_convex_77 (by decide) (fun c9 => ?_) (fun c9 => ?_)
            · exact absurd c9 (by decide)
            · refine lv_iconst (v := 0) hx hb dX5_convex_80 (by decide) ?_
              refine lv_goto (tgt := 109) hx hb dX5_convex_81 (by decide) ?_
              refine lv_istore (lv' := [(7, .int (0 : Int32)), (6, .int (1 : Int32)), (5, .int k_), (4, .int i), (3, .int ri2), (2, .int le2), (0, .ref m1), (1, .int n)]) hx hb dX5_convex_109 hl (by decide) rfl (fun ls hl => ?_)
              refine lv_iload_n hx hb dX5_convex_111 rfl (lv_at hl 5 rfl) ?_
              refine lv_if_eq (tgt := 130) hx hb dX5_convex_112 (by decide) (fun c10 => ?_) (fun c10 => ?_)
              · refine lv_iconst (v := 0) hx hb dX5_convex_130 (by decide) ?_
                refine lv_istore_n (lv' := [(2, .int (0 : Int32)), (7, .int (0 : Int32)), (6, .int (1 : Int32)), (5, .int k_), (4, .int i), (3, .int ri2), (0, .ref m1), (1, .int n)]) hx hb dX5_convex_131 rfl hl (by decide) rfl (fun ls hl => ?_)
                refine lv_iload_n hx hb dX5_convex_132 rfl (lv_at hl 5 rfl) ?_
                refine lv_if_eq (tgt := 151) hx hb dX5_convex_133 (by decide) (fun c11 => ?_) (fun c11 => ?_)
                · refine lv_iconst (v := 0) hx hb dX5_convex_151 (by decide) ?_
                  refine lv_istore_n (lv' := [(3, .int (0 : Int32)), (2, .int (0 : Int32)), (7, .int (0 : Int32)), (6, .int (1 : Int32)), (5, .int k_), (4, .int i), (0, .ref m1), (1, .int n)]) hx hb dX5_convex_152 rfl hl (by decide) rfl (fun ls hl => ?_)
                  obtain ⟨z12, ez12⟩ : ∃ y : Int32, y = k_ + 1 := ⟨_, rfl⟩
                  refine lv_iinc (v := z12) (lv' := [(5, .int z12), (3, .int (0 : Int32)), (2, .int (0 : Int32)), (7, .int (0 : Int32)), (6, .int (1 : Int32)), (4, .int i), (0, .ref m1), (1, .int n)]) hx hb dX5_convex_153 hl (k := 4) rfl (by rw [ez12]; rfl) (by decide) rfl (fun ls hl => ?_)
                  refine lv_goto (tgt := 44) hx hb dX5_convex_156 (by decide) ?_
                  have hl9 := hl
                  subst ez12
                  exact ihB (0 : Int32) (0 : Int32) (k_ + 1) _ (lv_sub hl9 [0, 5, 1, 2, 6, 7] rfl) ⟨xr_us huB c6, by rw [← hLB, fX5_convex_B_s, if_neg c6, if_pos c8, if_pos c10, if_pos c11]⟩
                · refine lv_iload hx hb dX5_convex_136 (lv_at hl 2 rfl) ?_
                  refine lv_if_ne (tgt := 147) hx hb dX5_convex_138 (by decide) (fun c13 => ?_) (fun c13 => ?_)
                  · refine lv_iconst (v := 1) hx hb dX5_convex_147 (by decide) ?_
                    refine lv_goto (tgt := 152) hx hb dX5_convex_148 (by decide) ?_
                    refine lv_istore_n (lv' := [(3, .int (1 : Int32)), (2, .int (0 : Int32)), (7, .int (0 : Int32)), (6, .int (1 : Int32)), (5, .int k_), (4, .int i), (0, .ref m1), (1, .int n)]) hx hb dX5_convex_152 rfl hl (by decide) rfl (fun ls hl => ?_)
                    obtain ⟨z14, ez14⟩ : ∃ y : Int32, y = k_ + 1 := ⟨_, rfl⟩
                    refine lv_iinc (v := z14) (lv' := [(5, .int z14), (3, .int (1 : Int32)), (2, .int (0 : Int32)), (7, .int (0 : Int32)), (6, .int (1 : Int32)), (4, .int i), (0, .ref m1), (1, .int n)]) hx hb dX5_convex_153 hl (k := 4) rfl (by rw [ez14]; rfl) (by decide) rfl (fun ls hl => ?_)
                    refine lv_goto (tgt := 44) hx hb dX5_convex_156 (by decide) ?_
                    have hl9 := hl
                    subst ez14
                    exact ihB (0 : Int32) (1 : Int32) (k_ + 1) _ (lv_sub hl9 [0, 5, 1, 2, 6, 7] rfl) ⟨xr_us huB c6, by rw [← hLB, fX5_convex_B_s, if_neg c6, if_pos c8, if_pos c10, if_neg c11]⟩
                  · exact absurd c13 (by decide)
              · refine lv_iload hx hb dX5_convex_115 (lv_at hl 1 rfl) ?_
                refine lv_if_ne (tgt := 126) hx hb dX5_convex_117 (by decide) (fun c15 => ?_) (fun c15 => ?_)
                · refine lv_iconst (v := 1) hx hb dX5_convex_126 (by decide) ?_
                  refine lv_goto (tgt := 131) hx hb dX5_convex_127 (by decide) ?_
                  refine lv_istore_n (lv' := [(2, .int (1 : Int32)), (7, .int (0 : Int32)), (6, .int (1 : Int32)), (5, .int k_), (4, .int i), (3, .int ri2), (0, .ref m1), (1, .int n)]) hx hb dX5_convex_131 rfl hl (by decide) rfl (fun ls hl => ?_)
                  refine lv_iload_n hx hb dX5_convex_132 rfl (lv_at hl 5 rfl) ?_
                  refine lv_if_eq (tgt := 151) hx hb dX5_convex_133 (by decide) (fun c16 => ?_) (fun c16 => ?_)
                  · refine lv_iconst (v := 0) hx hb dX5_convex_151 (by decide) ?_
                    refine lv_istore_n (lv' := [(3, .int (0 : Int32)), (2, .int (1 : Int32)), (7, .int (0 : Int32)), (6, .int (1 : Int32)), (5, .int k_), (4, .int i), (0, .ref m1), (1, .int n)]) hx hb dX5_convex_152 rfl hl (by decide) rfl (fun ls hl => ?_)
                    obtain ⟨z17, ez17⟩ : ∃ y : Int32, y = k_ + 1 := ⟨_, rfl⟩
                    refine lv_iinc (v := z17) (lv' := [(5, .int z17), (3, .int (0 : Int32)), (2, .int (1 : Int32)), (7, .int (0 : Int32)), (6, .int (1 : Int32)), (4, .int i), (0, .ref m1), (1, .int n)]) hx hb dX5_convex_153 hl (k := 4) rfl (by rw [ez17]; rfl) (by decide) rfl (fun ls hl => ?_)
                    refine lv_goto (tgt := 44) hx hb dX5_convex_156 (by decide) ?_
                    have hl9 := hl
                    subst ez17
                    exact ihB (1 : Int32) (0 : Int32) (k_ + 1) _ (lv_sub hl9 [0, 5, 1, 2, 6, 7] rfl) ⟨xr_us huB c6, by rw [← hLB, fX5_convex_B_s, if_neg c6, if_pos c8, if_neg c10, if_pos c16]⟩
                  · refine lv_iload hx hb dX5_convex_136 (lv_at hl 2 rfl) ?_
                    refine lv_if_ne (tgt := 147) hx hb dX5_convex_138 (by decide) (fun c18 => ?_) (fun c18 => ?_)
                    · refine lv_iconst (v := 1) hx hb dX5_convex_147 (by decide) ?_
                      refine lv_goto (tgt := 152) hx hb dX5_convex_148 (by decide) ?_
                      refine lv_istore_n (lv' := [(3, .int (1 : Int32)), (2, .int (1 : Int32)), (7, .int (0 : Int32)), (6, .int (1 : Int32)), (5, .int k_), (4, .int i), (0, .ref m1), (1, .int n)]) hx hb dX5_convex_152 rfl hl (by decide) rfl (fun ls hl => ?_)
                      obtain ⟨z19, ez19⟩ : ∃ y : Int32, y = k_ + 1 := ⟨_, rfl⟩
                      refine lv_iinc (v := z19) (lv' := [(5, .int z19), (3, .int (1 : Int32)), (2, .int (1 : Int32)), (7, .int (0 : Int32)), (6, .int (1 : Int32)), (4, .int i), (0, .ref m1), (1, .int n)]) hx hb dX5_convex_153 hl (k := 4) rfl (by rw [ez19]; rfl) (by decide) rfl (fun ls hl => ?_)
                      refine lv_goto (tgt := 44) hx hb dX5_convex_156 (by decide) ?_
                      have hl9 := hl
                      subst ez19
                      exact ihB (1 : Int32) (1 : Int32) (k_ + 1) _ (lv_sub hl9 [0, 5, 1, 2, 6, 7] rfl) ⟨xr_us huB c6, by rw [← hLB, fX5_convex_B_s, if_neg c6, if_pos c8, if_neg c10, if_neg c16]⟩
                    · exact absurd c18 (by decide)
                · exact absurd c15 (by decide)
          · refine lv_iload hx hb dX5_convex_57 (lv_at hl 0 rfl) ?_
            refine lv_iload hx hb dX5_convex_59 (lv_at hl 1 rfl) ?_
            refine lv_iconst (v := 1) hx hb dX5_convex_61 (by decide) ?_
            refine lv_iadd hx hb dX5_convex_62 ?_
            refine lv_iload_n hx hb dX5_convex_63 rfl (lv_at hl 5 rfl) ?_
            refine lv_irem hx hb dX5_convex_64 (o_n0 c1 orm) ?_
            refine lv_icmp_ne (tgt := 72) hx hb dX5_convex_65 (by decide) (fun c20 => ?_) (fun c20 => ?_)
            · refine lv_iconst (v := 0) hx hb dX5_convex_72 (by decide) ?_
              refine lv_istore (lv' := [(6, .int (0 : Int32)), (5, .int k_), (4, .int i), (3, .int ri2), (2, .int le2), (0, .ref m1), (1, .int n)]) hx hb dX5_convex_73 hl (by decide) rfl (fun ls hl => ?_)
              refine lv_iload hx hb dX5_convex_75 (lv_at hl 0 rfl) ?_
              refine lv_if_eq (tgt := 84) hx hb dX5_convex_77 (by decide) (fun c21 => ?_) (fun c21 => ?_)
              · refine lv_aload_n hx hb dX5_convex_84 rfl (lv_at hl 5 rfl) ?_
                refine lv_aload_n hx hb dX5_convex_85 rfl (lv_at hl 5 rfl) ?_
                refine va_get (D := D) (ci := 9) (v := .ref m4) (C := RX5) (T := TX5) (N := 14) hx hb hts hinX5 hown hK hP 0 rfl rfl 5 (by decide) (hts _ fk_X5_20) (fun _ h9 => h9) rfl dX5_convex_86 ?_
                refine lv_iload hx hb dX5_convex_89 (lv_at hl 2 rfl) ?_
                refine va_iald hx hb hK hP 3 0 rfl rfl (xr_in huA c3 (o_mn c1 orm).2) dX5_convex_91 ?_
                refine lv_aload_n hx hb dX5_convex_92 rfl (lv_at hl 5 rfl) ?_
                refine lv_iload hx hb dX5_convex_93 (lv_at hl 2 rfl) ?_
                refine lv_iload_n hx hb dX5_convex_95 rfl (lv_at hl 6 rfl) ?_
                refine xr_V (q := (RX5, TX5, 14)) (ci := 9) (q0 := 0) (rest := [.int (held i.toNatClampNeg), .ref m1]) (As := [.int i, .int n]) ⟨hx, hb, hml, hown, hts⟩ (ct5_next l D m1 m2 m3 m4 m5 m6 m7 kI kJ xs ys held la lb lc (0 : Int32) pm rm on cl un ze lm i n (xr_rg huA c3) ((o_mn c1 orm).2)) (cwV 2 hts gl_X5_145 rfl rfl rfl (by decide +kernel) ⟨Nat.le_of_ble_eq_true rfl, Nat.le_of_ble_eq_true rfl⟩) nN_mv hN hK hP [0, 1, 2, 3, 4, 5, 6] [0, 1] rfl rfl rfl rfl rfl hl.1 rfl (Nat.le_of_ble_eq_true rfl) dX5_convex_96 ⟨Nat.le_of_ble_eq_true rfl, Nat.le_of_ble_eq_true rfl⟩ ?_
                refine lv_aload_n hx hb dX5_convex_99 rfl (lv_at hl 5 rfl) ?_
                refine va_get (D := D) (ci := 9) (v := .ref m4) (C := RX5) (T := TX5) (N := 14) hx hb hts hinX5 hown hK hP 0 rfl rfl 5 (by decide) (hts _ fk_X5_20) (fun _ h9 => h9) rfl dX5_convex_100 ?_
                refine lv_iload hx hb dX5_convex_103 (lv_at hl 1 rfl) ?_
                refine va_iald hx hb hK hP 3 0 rfl rfl (xr_in huB c6 (o_mn c1 orm).2) dX5_convex_105 ?_
                refine xr_V (q := (RX5, TX5, 14)) (ci := 9) (q0 := 0) (rest := []) (As := [.int (held i.toNatClampNeg), .int (fX5_next held i n), .int (held k_.toNatClampNeg)]) ⟨hx, hb, hml, hown, hts⟩ (ct5_turn l D m1 m2 m3 m4 m5 m6 m7 kI kJ xs ys held la lb lc (0 : Int32) pm rm on cl un ze lm (held i.toNatClampNeg) (fX5_next held i n) (held k_.toNatClampNeg) ((o_wh c2 ohk) _ (xr_cl huA c3)) (o_next (xr_rg huA c3) (o_wh c2 ohk)) ((o_wh c2 ohk) _ (xr_cl huB c6))) (cwV 3 hts gl_X5_58 rfl rfl rfl (by decide +kernel) ⟨Nat.le_of_ble_eq_true rfl, Nat.le_of_ble_eq_true rfl⟩) nN_mv hN hK hP [0, 1, 2, 3, 4, 5, 6] [0, 1] rfl rfl rfl rfl rfl hl.1 rfl (Nat.le_of_ble_eq_true rfl) dX5_convex_106 ⟨Nat.le_of_ble_eq_true rfl, Nat.le_of_ble_eq_true rfl⟩ ?_
                refine lv_topi (fun z22 ez22 => ?_)
                refine lv_istore (lv' := [(7, .int z22), (6, .int (0 : Int32)), (5, .int k_), (4, .int i), (3, .int ri2), (2, .int le2), (0, .ref m1), (1, .int n)]) hx hb dX5_convex_109 hl (by decide) rfl (fun ls hl => ?_)
                refine lv_iload_n hx hb dX5_convex_111 rfl (lv_at hl 5 rfl) ?_
                refine lv_if_eq (tgt := 130) hx hb dX5_convex_112 (by decide) (fun c23 => ?_) (fun c23 => ?_)
                · refine lv_iconst (v := 0) hx hb dX5_convex_130 (by decide) ?_
                  refine lv_istore_n (lv' := [(2, .int (0 : Int32)), (7, .int z22), (6, .int (0 : Int32)), (5, .int k_), (4, .int i), (3, .int ri2), (0, .ref m1), (1, .int n)]) hx hb dX5_convex_131 rfl hl (by decide) rfl (fun ls hl => ?_)
                  refine lv_iload_n hx hb dX5_convex_132 rfl (lv_at hl 5 rfl) ?_
                  refine lv_if_eq (tgt := 151) hx hb dX5_convex_133 (by decide) (fun c24 => ?_) (fun c24 => ?_)
                  · refine lv_iconst (v := 0) hx hb dX5_convex_151 (by decide) ?_
                    refine lv_istore_n (lv' := [(3, .int (0 : Int32)), (2, .int (0 : Int32)), (7, .int z22), (6, .int (0 : Int32)), (5, .int k_), (4, .int i), (0, .ref m1), (1, .int n)]) hx hb dX5_convex_152 rfl hl (by decide) rfl (fun ls hl => ?_)
                    obtain ⟨z25, ez25⟩ : ∃ y : Int32, y = k_ + 1 := ⟨_, rfl⟩
                    refine lv_iinc (v := z25) (lv' := [(5, .int z25), (3, .int (0 : Int32)), (2, .int (0 : Int32)), (7, .int z22), (6, .int (0 : Int32)), (4, .int i), (0, .ref m1), (1, .int n)]) hx hb dX5_convex_153 hl (k := 4) rfl (by rw [ez25]; rfl) (by decide) rfl (fun ls hl => ?_)
                    refine lv_goto (tgt := 44) hx hb dX5_convex_156 (by decide) ?_
                    have hl9 := hl
                    subst ez25
                    subst ez22
                    exact ihB (0 : Int32) (0 : Int32) (k_ + 1) _ (lv_sub hl9 [0, 5, 1, 2, 6, 7] rfl) ⟨xr_us huB c6, by rw [← hLB, fX5_convex_B_s, if_neg c6, if_neg c8, if_neg c20, if_pos c23, if_pos c24]⟩
                  · refine lv_iload hx hb dX5_convex_136 (lv_at hl 2 rfl) ?_
                    refine lv_if_ne (tgt := 147) hx hb dX5_convex_138 (by decide) (fun c26 => ?_) (fun c26 => ?_)
                    · exact absurd (by decide) c26
                    · refine lv_iload hx hb dX5_convex_141 (lv_at hl 1 rfl) ?_
                      refine lv_iconst (v := (-1)) hx hb dX5_convex_143 (by decide) ?_
                      refine lv_icmp_ne (tgt := 151) hx hb dX5_convex_144 (by decide) (fun c27 => ?_) (fun c27 => ?_)
                      · refine lv_iconst (v := 0) hx hb dX5_convex_151 (by decide) ?_
                        refine lv_istore_n (lv' := [(3, .int (0 : Int32)), (2, .int (0 : Int32)), (7, .int z22), (6, .int (0 : Int32)), (5, .int k_), (4, .int i), (0, .ref m1), (1, .int n)]) hx hb dX5_convex_152 rfl hl (by decide) rfl (fun ls hl => ?_)
                        obtain ⟨z28, ez28⟩ : ∃ y : Int32, y = k_ + 1 := ⟨_, rfl⟩
                        refine lv_iinc (v := z28) (lv' := [(5, .int z28), (3, .int (0 : Int32)), (2, .int (0 : Int32)), (7, .int z22), (6, .int (0 : Int32)), (4, .int i), (0, .ref m1), (1, .int n)]) hx hb dX5_convex_153 hl (k := 4) rfl (by rw [ez28]; rfl) (by decide) rfl (fun ls hl => ?_)
                        refine lv_goto (tgt := 44) hx hb dX5_convex_156 (by decide) ?_
                        have hl9 := hl
                        subst ez28
                        subst ez22
                        exact ihB (0 : Int32) (0 : Int32) (k_ + 1) _ (lv_sub hl9 [0, 5, 1, 2, 6, 7] rfl) ⟨xr_us huB c6, by rw [← hLB, fX5_convex_B_s, if_neg c6, if_neg c8, if_neg c20, if_pos c23, if_neg c24, if_neg c27]⟩
                      · refine lv_iconst (v := 1) hx hb dX5_convex_147 (by decide) ?_
                        refine lv_goto (tgt := 152) hx hb dX5_convex_148 (by decide) ?_
                        refine lv_istore_n (lv' := [(3, .int (1 : Int32)), (2, .int (0 : Int32)), (7, .int z22), (6, .int (0 : Int32)), (5, .int k_), (4, .int i), (0, .ref m1), (1, .int n)]) hx hb dX5_convex_152 rfl hl (by decide) rfl (fun ls hl => ?_)
                        obtain ⟨z29, ez29⟩ : ∃ y : Int32, y = k_ + 1 := ⟨_, rfl⟩
                        refine lv_iinc (v := z29) (lv' := [(5, .int z29), (3, .int (1 : Int32)), (2, .int (0 : Int32)), (7, .int z22), (6, .int (0 : Int32)), (4, .int i), (0, .ref m1), (1, .int n)]) hx hb dX5_convex_153 hl (k := 4) rfl (by rw [ez29]; rfl) (by decide) rfl (fun ls hl => ?_)
                        refine lv_goto (tgt := 44) hx hb dX5_convex_156 (by decide) ?_
                        have hl9 := hl
                        subst ez29
                        subst ez22
                        exact ihB (0 : Int32) (1 : Int32) (k_ + 1) _ (lv_sub hl9 [0, 5, 1, 2, 6, 7] rfl) ⟨xr_us huB c6, by rw [← hLB, fX5_convex_B_s, if_neg c6, if_neg c8, if_neg c20, if_pos c23, if_neg c24, if_pos c27]⟩
                · refine lv_iload hx hb dX5_convex_115 (lv_at hl 1 rfl) ?_
                  refine lv_if_ne (tgt := 126) hx hb dX5_convex_117 (by decide) (fun c30 => ?_) (fun c30 => ?_)
                  · exact absurd (by decide) c30
                  · refine lv_iload hx hb dX5_convex_120 (lv_at hl 0 rfl) ?_
                    refine lv_iconst (v := 1) hx hb dX5_convex_122 (by decide) ?_
                    refine lv_icmp_ne (tgt := 130) hx hb dX5_convex_123 (by decide) (fun c31 => ?_) (fun c31 => ?_)
                    · refine lv_iconst (v := 0) hx hb dX5_convex_130 (by decide) ?_
                      refine lv_istore_n (lv' := [(2, .int (0 : Int32)), (7, .int z22), (6, .int (0 : Int32)), (5, .int k_), (4, .int i), (3, .int ri2), (0, .ref m1), (1, .int n)]) hx hb dX5_convex_131 rfl hl (by decide) rfl (fun ls hl => ?_)
                      refine lv_iload_n hx hb dX5_convex_132 rfl (lv_at hl 5 rfl) ?_
                      refine lv_if_eq (tgt := 151) hx hb dX5_convex_133 (by decide) (fun c32 => ?_) (fun c32 => ?_)
                      · refine lv_iconst (v := 0) hx hb dX5_convex_151 (by decide) ?_
                        refine lv_istore_n (lv' := [(3, .int (0 : Int32)), (2, .int (0 : Int32)), (7, .int z22), (6, .int (0 : Int32)), (5, .int k_), (4, .int i), (0, .ref m1), (1, .int n)]) hx hb dX5_convex_152 rfl hl (by decide) rfl (fun ls hl => ?_)
                        obtain ⟨z33, ez33⟩ : ∃ y : Int32, y = k_ + 1 := ⟨_, rfl⟩
                        refine lv_iinc (v := z33) (lv' := [(5, .int z33), (3, .int (0 : Int32)), (2, .int (0 : Int32)), (7, .int z22), (6, .int (0 : Int32)), (4, .int i), (0, .ref m1), (1, .int n)]) hx hb dX5_convex_153 hl (k := 4) rfl (by rw [ez33]; rfl) (by decide) rfl (fun ls hl => ?_)
                        refine lv_goto (tgt := 44) hx hb dX5_convex_156 (by decide) ?_
                        have hl9 := hl
                        subst ez33
                        subst ez22
                        exact ihB (0 : Int32) (0 : Int32) (k_ + 1) _ (lv_sub hl9 [0, 5, 1, 2, 6, 7] rfl) ⟨xr_us huB c6, by rw [← hLB, fX5_convex_B_s, if_neg c6, if_neg c8, if_neg c20, if_neg c23, if_neg c31, if_pos c32]⟩
                      · refine lv_iload hx hb dX5_convex_136 (lv_at hl 2 rfl) ?_
                        refine lv_if_ne (tgt := 147) hx hb dX5_convex_138 (by decide) (fun c34 => ?_) (fun c34 => ?_)
                        · exact absurd (by decide) c34
                        · refine lv_iload hx hb dX5_convex_141 (lv_at hl 1 rfl) ?_
                          refine lv_iconst (v := (-1)) hx hb dX5_convex_143 (by decide) ?_
                          refine lv_icmp_ne (tgt := 151) hx hb dX5_convex_144 (by decide) (fun c35 => ?_) (fun c35 => ?_)
                          · refine lv_iconst (v := 0) hx hb dX5_convex_151 (by decide) ?_
                            refine lv_istore_n (lv' := [(3, .int (0 : Int32)), (2, .int (0 : Int32)), (7, .int z22), (6, .int (0 : Int32)), (5, .int k_), (4, .int i), (0, .ref m1), (1, .int n)]) hx hb dX5_convex_152 rfl hl (by decide) rfl (fun ls hl => ?_)
                            obtain ⟨z36, ez36⟩ : ∃ y : Int32, y = k_ + 1 := ⟨_, rfl⟩
                            refine lv_iinc (v := z36) (lv' := [(5, .int z36), (3, .int (0 : Int32)), (2, .int (0 : Int32)), (7, .int z22), (6, .int (0 : Int32)), (4, .int i), (0, .ref m1), (1, .int n)]) hx hb dX5_convex_153 hl (k := 4) rfl (by rw [ez36]; rfl) (by decide) rfl (fun ls hl => ?_)
                            refine lv_goto (tgt := 44) hx hb dX5_convex_156 (by decide) ?_
                            have hl9 := hl
                            subst ez36
                            subst ez22
                            exact ihB (0 : Int32) (0 : Int32) (k_ + 1) _ (lv_sub hl9 [0, 5, 1, 2, 6, 7] rfl) ⟨xr_us huB c6, by rw [← hLB, fX5_convex_B_s, if_neg c6, if_neg c8, if_neg c20, if_neg c23, if_neg c31, if_neg c32, if_neg c35]⟩
                          · refine lv_iconst (v := 1) hx hb dX5_convex_147 (by decide) ?_
                            refine lv_goto (tgt := 152) hx hb dX5_convex_148 (by decide) ?_
                            refine lv_istore_n (lv' := [(3, .int (1 : Int32)), (2, .int (0 : Int32)), (7, .int z22), (6, .int (0 : Int32)), (5, .int k_), (4, .int i), (0, .ref m1), (1, .int n)]) hx hb dX5_convex_152 rfl hl (by decide) rfl (fun ls hl => ?_)
                            obtain ⟨z37, ez37⟩ : ∃ y : Int32, y = k_ + 1 := ⟨_, rfl⟩
                            refine lv_iinc (v := z37) (lv' := [(5, .int z37), (3, .int (1 : Int32)), (2, .int (0 : Int32)), (7, .int z22), (6, .int (0 : Int32)), (4, .int i), (0, .ref m1), (1, .int n)]) hx hb dX5_convex_153 hl (k := 4) rfl (by rw [ez37]; rfl) (by decide) rfl (fun ls hl => ?_)
                            refine lv_goto (tgt := 44) hx hb dX5_convex_156 (by decide) ?_
                            have hl9 := hl
                            subst ez37
                            subst ez22
                            exact ihB (0 : Int32) (1 : Int32) (k_ + 1) _ (lv_sub hl9 [0, 5, 1, 2, 6, 7] rfl) ⟨xr_us huB c6, by rw [← hLB, fX5_convex_B_s, if_neg c6, if_neg c8, if_neg c20, if_neg c23, if_neg c31, if_neg c32, if_pos c35]⟩
                    · refine lv_iconst (v := 1) hx hb dX5_convex_126 (by decide) ?_
                      refine lv_goto (tgt := 131) hx hb dX5_convex_127 (by decide) ?_
                      refine lv_istore_n (lv' := [(2, .int (1 : Int32)), (7, .int z22), (6, .int (0 : Int32)), (5, .int k_), (4, .int i), (3, .int ri2), (0, .ref m1), (1, .int n)]) hx hb dX5_convex_131 rfl hl (by decide) rfl (fun ls hl => ?_)
                      refine lv_iload_n hx hb dX5_convex_132 rfl (lv_at hl 5 rfl) ?_
                      refine lv_if_eq (tgt := 151) hx hb dX5_convex_133 (by decide) (fun c38 => ?_) (fun c38 => ?_)
                      · refine lv_iconst (v := 0) hx hb dX5_convex_151 (by decide) ?_
                        refine lv_istore_n (lv' := [(3, .int (0 : Int32)), (2, .int (1 : Int32)), (7, .int z22), (6, .int (0 : Int32)), (5, .int k_), (4, .int i), (0, .ref m1), (1, .int n)]) hx hb dX5_convex_152 rfl hl (by decide) rfl (fun ls hl => ?_)
                        obtain ⟨z39, ez39⟩ : ∃ y : Int32, y = k_ + 1 := ⟨_, rfl⟩
                        refine lv_iinc (v := z39) (lv' := [(5, .int z39), (3, .int (0 : Int32)), (2, .int (1 : Int32)), (7, .int z22), (6, .int (0 : Int32)), (4, .int i), (0, .ref m1), (1, .int n)]) hx hb dX5_convex_153 hl (k := 4) rfl (by rw [ez39]; rfl) (by decide) rfl (fun ls hl => ?_)
                        refine lv_goto (tgt := 44) hx hb dX5_convex_156 (by decide) ?_
                        have hl9 := hl
                        subst ez39
                        subst ez22
                        exact ihB (1 : Int32) (0 : Int32) (k_ + 1) _ (lv_sub hl9 [0, 5, 1, 2, 6, 7] rfl) ⟨xr_us huB c6, by rw [← hLB, fX5_convex_B_s, if_neg c6, if_neg c8, if_neg c20, if_neg c23, if_pos c31, if_pos c38]⟩
                      · refine lv_iload hx hb dX5_convex_136 (lv_at hl 2 rfl) ?_
                        refine lv_if_ne (tgt := 147) hx hb dX5_convex_138 (by decide) (fun c40 => ?_) (fun c40 => ?_)
                        · exact absurd (by decide) c40
                        · refine lv_iload hx hb dX5_convex_141 (lv_at hl 1 rfl) ?_
                          refine lv_iconst (v := (-1)) hx hb dX5_convex_143 (by decide) ?_
                          refine lv_icmp_ne (tgt := 151) hx hb dX5_convex_144 (by decide) (fun c41 => ?_) (fun c41 => ?_)
                          · refine lv_iconst (v := 0) hx hb dX5_convex_151 (by decide) ?_
                            refine lv_istore_n (lv' := [(3, .int (0 : Int32)), (2, .int (1 : Int32)), (7, .int z22), (6, .int (0 : Int32)), (5, .int k_), (4, .int i), (0, .ref m1), (1, .int n)]) hx hb dX5_convex_152 rfl hl (by decide) rfl (fun ls hl => ?_)
                            obtain ⟨z42, ez42⟩ : ∃ y : Int32, y = k_ + 1 := ⟨_, rfl⟩
                            refine lv_iinc (v := z42) (lv' := [(5, .int z42), (3, .int (0 : Int32)), (2, .int (1 : Int32)), (7, .int z22), (6, .int (0 : Int32)), (4, .int i), (0, .ref m1), (1, .int n)]) hx hb dX5_convex_153 hl (k := 4) rfl (by rw [ez42]; rfl) (by decide) rfl (fun ls hl => ?_)
                            refine lv_goto (tgt := 44) hx hb dX5_convex_156 (by decide) ?_
                            have hl9 := hl
                            subst ez42
                            subst ez22
                            exact ihB (1 : Int32) (0 : Int32) (k_ + 1) _ (lv_sub hl9 [0, 5, 1, 2, 6, 7] rfl) ⟨xr_us huB c6, by rw [← hLB, fX5_convex_B_s, if_neg c6, if_neg c8, if_neg c20, if_neg c23, if_pos c31, if_neg c38, if_neg c41]⟩
                          · refine lv_iconst (v := 1) hx hb dX5_convex_147 (by decide) ?_
                            refine lv_goto (tgt := 152) hx hb dX5_convex_148 (by decide) ?_
                            refine lv_istore_n (lv' := [(3, .int (1 : Int32)), (2, .int (1 : Int32)), (7, .int z22), (6, .int (0 : Int32)), (5, .int k_), (4, .int i), (0, .ref m1), (1, .int n)]) hx hb dX5_convex_152 rfl hl (by decide) rfl (fun ls hl => ?_)
                            obtain ⟨z43, ez43⟩ : ∃ y : Int32, y = k_ + 1 := ⟨_, rfl⟩
                            refine lv_iinc (v := z43) (lv' := [(5, .int z43), (3, .int (1 : Int32)), (2, .int (1 : Int32)), (7, .int z22), (6, .int (0 : Int32)), (4, .int i), (0, .ref m1), (1, .int n)]) hx hb dX5_convex_153 hl (k := 4) rfl (by rw [ez43]; rfl) (by decide) rfl (fun ls hl => ?_)
                            refine lv_goto (tgt := 44) hx hb dX5_convex_156 (by decide) ?_
                            have hl9 := hl
                            subst ez43
                            subst ez22
                            exact ihB (1 : Int32) (1 : Int32) (k_ + 1) _ (lv_sub hl9 [0, 5, 1, 2, 6, 7] rfl) ⟨xr_us huB c6, by rw [← hLB, fX5_convex_B_s, if_neg c6, if_neg c8, if_neg c20, if_neg c23, if_pos c31, if_neg c38, if_pos c41]⟩
              · exact absurd (by decide) c21
            · refine lv_iconst (v := 1) hx hb dX5_convex_68 (by decide) ?_
              refine lv_goto (tgt := 73) hx hb dX5_convex_69 (by decide) ?_
              refine lv_istore (lv' := [(6, .int (1 : Int32)), (5, .int k_), (4, .int i), (3, .int ri2), (2, .int le2), (0, .ref m1), (1, .int n)]) hx hb dX5_convex_73 hl (by decide) rfl (fun ls hl => ?_)
              refine lv_iload hx hb dX5_convex_75 (lv_at hl 0 rfl) ?_
              refine lv_if_eq (tgt := 84) hx hb dX5_convex_77 (by decide) (fun c44 => ?_) (fun c44 => ?_)
              · exact absurd c44 (by decide)
              · refine lv_iconst (v := 0) hx hb dX5_convex_80 (by decide) ?_
                refine lv_goto (tgt := 109) hx hb dX5_convex_81 (by decide) ?_
                refine lv_istore (lv' := [(7, .int (0 : Int32)), (6, .int (1 : Int32)), (5, .int k_), (4, .int i), (3, .int ri2), (2, .int le2), (0, .ref m1), (1, .int n)]) hx hb dX5_convex_109 hl (by decide) rfl (fun ls hl => ?_)
                refine lv_iload_n hx hb dX5_convex_111 rfl (lv_at hl 5 rfl) ?_
                refine lv_if_eq (tgt := 130) hx hb dX5_convex_112 (by decide) (fun c45 => ?_) (fun c45 => ?_)
                · refine lv_iconst (v := 0) hx hb dX5_convex_130 (by decide) ?_
                  refine lv_istore_n (lv' := [(2, .int (0 : Int32)), (7, .int (0 : Int32)), (6, .int (1 : Int32)), (5, .int k_), (4, .int i), (3, .int ri2), (0, .ref m1), (1, .int n)]) hx hb dX5_convex_131 rfl hl (by decide) rfl (fun ls hl => ?_)
                  refine lv_iload_n hx hb dX5_convex_132 rfl (lv_at hl 5 rfl) ?_
                  refine lv_if_eq (tgt := 151) hx hb dX5_convex_133 (by decide) (fun c46 => ?_) (fun c46 => ?_)
                  · refine lv_iconst (v := 0) hx hb dX5_convex_151 (by decide) ?_
                    refine lv_istore_n (lv' := [(3, .int (0 : Int32)), (2, .int (0 : Int32)), (7, .int (0 : Int32)), (6, .int (1 : Int32)), (5, .int k_), (4, .int i), (0, .ref m1), (1, .int n)]) hx hb dX5_convex_152 rfl hl (by decide) rfl (fun ls hl => ?_)
                    obtain ⟨z47, ez47⟩ : ∃ y : Int32, y = k_ + 1 := ⟨_, rfl⟩
                    refine lv_iinc (v := z47) (lv' := [(5, .int z47), (3, .int (0 : Int32)), (2, .int (0 : Int32)), (7, .int (0 : Int32)), (6, .int (1 : Int32)), (4, .int i), (0, .ref m1), (1, .int n)]) hx hb dX5_convex_153 hl (k := 4) rfl (by rw [ez47]; rfl) (by decide) rfl (fun ls hl => ?_)
                    refine lv_goto (tgt := 44) hx hb dX5_convex_156 (by decide) ?_
                    have hl9 := hl
                    subst ez47
                    exact ihB (0 : Int32) (0 : Int32) (k_ + 1) _ (lv_sub hl9 [0, 5, 1, 2, 6, 7] rfl) ⟨xr_us huB c6, by rw [← hLB, fX5_convex_B_s, if_neg c6, if_neg c8, if_pos c20, if_pos c45, if_pos c46]⟩
                  · refine lv_iload hx hb dX5_convex_136 (lv_at hl 2 rfl) ?_
                    refine lv_if_ne (tgt := 147) hx hb dX5_convex_138 (by decide) (fun c48 => ?_) (fun c48 => ?_)
                    · refine lv_iconst (v := 1) hx hb dX5_convex_147 (by decide) ?_
                      refine lv_goto (tgt := 152) hx hb dX5_convex_148 (by decide) ?_
                      refine lv_istore_n (lv' := [(3, .int (1 : Int32)), (2, .int (0 : Int32)), (7, .int (0 : Int32)), (6, .int (1 : Int32)), (5, .int k_), (4, .int i), (0, .ref m1), (1, .int n)]) hx hb dX5_convex_152 rfl hl (by decide) rfl (fun ls hl => ?_)
                      obtain ⟨z49, ez49⟩ : ∃ y : Int32, y = k_ + 1 := ⟨_, rfl⟩
                      refine lv_iinc (v := z49) (lv' := [(5, .int z49), (3, .int (1 : Int32)), (2, .int (0 : Int32)), (7, .int (0 : Int32)), (6, .int (1 : Int32)), (4, .int i), (0, .ref m1), (1, .int n)]) hx hb dX5_convex_153 hl (k := 4) rfl (by rw [ez49]; rfl) (by decide) rfl (fun ls hl => ?_)
                      refine lv_goto (tgt := 44) hx hb dX5_convex_156 (by decide) ?_
                      have hl9 := hl
                      subst ez49
                      exact ihB (0 : Int32) (1 : Int32) (k_ + 1) _ (lv_sub hl9 [0, 5, 1, 2, 6, 7] rfl) ⟨xr_us huB c6, by rw [← hLB, fX5_convex_B_s, if_neg c6, if_neg c8, if_pos c20, if_pos c45, if_neg c46]⟩
                    · exact absurd c48 (by decide)
                · refine lv_iload hx hb dX5_convex_115 (lv_at hl 1 rfl) ?_
                  refine lv_if_ne (tgt := 126) hx hb dX5_convex_117 (by decide) (fun c50 => ?_) (fun c50 => ?_)
                  · refine lv_iconst (v := 1) hx hb dX5_convex_126 (by decide) ?_
                    refine lv_goto (tgt := 131) hx hb dX5_convex_127 (by decide) ?_
                    refine lv_istore_n (lv' := [(2, .int (1 : Int32)), (7, .int (0 : Int32)), (6, .int (1 : Int32)), (5, .int k_), (4, .int i), (3, .int ri2), (0, .ref m1), (1, .int n)]) hx hb dX5_convex_131 rfl hl (by decide) rfl (fun ls hl => ?_)
                    refine lv_iload_n hx hb dX5_convex_132 rfl (lv_at hl 5 rfl) ?_
                    refine lv_if_eq (tgt := 151) hx hb dX5_convex_133 (by decide) (fun c51 => ?_) (fun c51 => ?_)
                    · refine lv_iconst (v := 0) hx hb dX5_convex_151 (by decide) ?_
                      refine lv_istore_n (lv' := [(3, .int (0 : Int32)), (2, .int (1 : Int32)), (7, .int (0 : Int32)), (6, .int (1 : Int32)), (5, .int k_), (4, .int i), (0, .ref m1), (1, .int n)]) hx hb dX5_convex_152 rfl hl (by decide) rfl (fun ls hl => ?_)
                      obtain ⟨z52, ez52⟩ : ∃ y : Int32, y = k_ + 1 := ⟨_, rfl⟩
                      refine lv_iinc (v := z52) (lv' := [(5, .int z52), (3, .int (0 : Int32)), (2, .int (1 : Int32)), (7, .int (0 : Int32)), (6, .int (1 : Int32)), (4, .int i), (0, .ref m1), (1, .int n)]) hx hb dX5_convex_153 hl (k := 4) rfl (by rw [ez52]; rfl) (by decide) rfl (fun ls hl => ?_)
                      refine lv_goto (tgt := 44) hx hb dX5_convex_156 (by decide) ?_
                      have hl9 := hl
                      subst ez52
                      exact ihB (1 : Int32) (0 : Int32) (k_ + 1) _ (lv_sub hl9 [0, 5, 1, 2, 6, 7] rfl) ⟨xr_us huB c6, by rw [← hLB, fX5_convex_B_s, if_neg c6, if_neg c8, if_pos c20, if_neg c45, if_pos c51]⟩
                    · refine lv_iload hx hb dX5_convex_136 (lv_at hl 2 rfl) ?_
                      refine lv_if_ne (tgt := 147) hx hb dX5_convex_138 (by decide) (fun c53 => ?_) (fun c53 => ?_)
                      · refine lv_iconst (v := 1) hx hb dX5_convex_147 (by decide) ?_
                        refine lv_goto (tgt := 152) hx hb dX5_convex_148 (by decide) ?_
                        refine lv_istore_n (lv' := [(3, .int (1 : Int32)), (2, .int (1 : Int32)), (7, .int (0 : Int32)), (6, .int (1 : Int32)), (5, .int k_), (4, .int i), (0, .ref m1), (1, .int n)]) hx hb dX5_convex_152 rfl hl (by decide) rfl (fun ls hl => ?_)
                        obtain ⟨z54, ez54⟩ : ∃ y : Int32, y = k_ + 1 := ⟨_, rfl⟩
                        refine lv_iinc (v := z54) (lv' := [(5, .int z54), (3, .int (1 : Int32)), (2, .int (1 : Int32)), (7, .int (0 : Int32)), (6, .int (1 : Int32)), (4, .int i), (0, .ref m1), (1, .int n)]) hx hb dX5_convex_153 hl (k := 4) rfl (by rw [ez54]; rfl) (by decide) rfl (fun ls hl => ?_)
                        refine lv_goto (tgt := 44) hx hb dX5_convex_156 (by decide) ?_
                        have hl9 := hl
                        subst ez54
                        exact ihB (1 : Int32) (1 : Int32) (k_ + 1) _ (lv_sub hl9 [0, 5, 1, 2, 6, 7] rfl) ⟨xr_us huB c6, by rw [← hLB, fX5_convex_B_s, if_neg c6, if_neg c8, if_pos c20, if_neg c45, if_neg c51]⟩
                      · exact absurd c53 (by decide)
                  · exact absurd c50 (by decide)
    · refine lv_bipush (v := (-4)) hx hb dX5_convex_25 (by decide) ?_
      have hP9 := hP
      have hD9 := hD
      have hS9 := hS
      have qv : fX5_convex held xs ys rm n = (-4 : Int32) := by unfold fX5_convex; rw [if_neg c1, if_pos c2]
      rw [qv]
      exact W.iret (v := (-4 : Int32)) hx hb hr (fun t ht hW => ⟨⟨rfl, by rw [ht]; exact hP9, by rw [hAe]; exact hD9⟩, by rw [hAe]; exact hS9.F ht⟩) hS9.2.2 dX5_convex_27
  · refine lv_bipush (v := (-2)) hx hb dX5_convex_14 (by decide) ?_
    have hP9 := hP
    have hD9 := hD
    have hS9 := hS
    have qv : fX5_convex held xs ys rm n = (-2 : Int32) := by unfold fX5_convex; rw [if_pos c1]
    rw [qv]
    exact W.iret (v := (-2 : Int32)) hx hb hr (fun t ht hW => ⟨⟨rfl, by rw [ht]; exact hP9, by rw [hAe]; exact hD9⟩, by rw [hAe]; exact hS9.F ht⟩) hS9.2.2 dX5_convex_16
def tX5_area_A (held xs ys : Nat → Int32) (rm : Int32) (n : Int32) (vb : Int64) : Nat → Int64 → Int32 → Int64 × Int32
  | 0, _, _ => (0, 0)
  | kA + 1, su, i => if n ≤ i then ((su / vb, (0 : Int32))) else (tX5_area_A held xs ys rm n vb kA (su + ((((xs (held i.toNatClampNeg).toNatClampNeg).toInt64) * ((ys (fX5_next held i n).toNatClampNeg).toInt64)) - (((xs (fX5_next held i n).toNatClampNeg).toInt64) * ((ys (held i.toNatClampNeg).toNatClampNeg).toInt64)))) (i + 1))
theorem tX5_area_A_s (held xs ys : Nat → Int32) (rm : Int32) (n : Int32) (vb : Int64) (kA : Nat) (su : Int64) (i : Int32) : tX5_area_A held xs ys rm n vb  (kA + 1) su i = (if n ≤ i then ((su / vb, (0 : Int32))) else (tX5_area_A held xs ys rm n vb kA (su + ((((xs (held i.toNatClampNeg).toNatClampNeg).toInt64) * ((ys (fX5_next held i n).toNatClampNeg).toInt64)) - (((xs (fX5_next held i n).toNatClampNeg).toInt64) * ((ys (held i.toNatClampNeg).toNatClampNeg).toInt64)))) (i + 1))) := rfl
def tX5_area (held xs ys : Nat → Int32) (rm : Int32) (n : Int32) (vb : Int64) : Int64 × Int32 := if (fX5_isMany rm n (1 : Int32)) = (0 : Int32) then (((0 : Int64), (0 : Int32))) else (if (fX5_isWhole held n) = (0 : Int32) then (((0 : Int64), (0 : Int32))) else (if (lg_cmp vb (0 : Int64)) = (0 : Int32) then (((fX5_fail (1 : Int32)).toInt64, gX5_fail_th (1 : Int32))) else (tX5_area_A held xs ys rm n vb (n.toInt.toNat + 1) (0 : Int64) (0 : Int32))))
def fX5_area (held xs ys : Nat → Int32) (rm : Int32) (n : Int32) (vb : Int64) : Int64 := (tX5_area held xs ys rm n vb).1
def gX5_area_th (held xs ys : Nat → Int32) (rm : Int32) (n : Int32) (vb : Int64) : Int32 := (tX5_area held xs ys rm n vb).2
set_option maxHeartbeats 4000000 in
set_option maxRecDepth 100000 in
theorem ct5_area (l : Launch) (D : va_G) (sz : Nat) (m1 m2 m3 m4 m5 m6 m7 : Nat) (kI kJ : ClassId) (xs ys held : Nat → Int32) (la lb lc : Nat → Int64) (th pm rm on cl un ze lm : Int32) (n : Int32) (vb : Int64) (orm : rm.toInt ≤ (24 : Nat)) (ohk : hok held) : Met l yX5_area (Cond.code yX5_area cX5_area 9 (some .long) :: BY) ({ frames := 2, cells := 0, slots := 0, locals := 120 }) (xw_P nN D vwCl [(kI, .int), (kJ, .long)] (wMo m1 m2 m3 m4 m5 m6 m7 kI kJ xs ys held la lb lc th pm rm on cl un ze lm) sz [.ref m1, .int n, .long vb]) (xw_Q D vwCl (some (.long (fX5_area held xs ys rm n vb))) (wMo m1 m2 m3 m4 m5 m6 m7 kI kJ xs ys held la lb lc th pm rm on cl un ze lm) (wMo m1 m2 m3 m4 m5 m6 m7 kI kJ xs ys held la lb lc (gX5_area_th held xs ys rm n vb) pm rm on cl un ze lm) sz) 0 0 (va_A (wMo m1 m2 m3 m4 m5 m6 m7 kI kJ xs ys held la lb lc th pm rm on cl un ze lm) sz) := by
  refine Met.ofW (cc := cX5_area) (maxL := 9) (ret := (some .long)) (by decide) rfl ?_
  intro p e s m args below meth c s₁ B hml hv
  obtain ⟨rfl, hsz, hP, hK, hN, hD0⟩ := hv
  have hx := B.exec
  have hb := B.bytes
  have hr := B.returns
  have hts0 := atoms_spec (ws := Cond.code yX5_area cX5_area 9 (some .long) :: BY) B.pre
  have hts : ∀ w ∈ BY, w.before _ s = true := fun w h => hts0 w (List.mem_cons_of_mem _ h)
  have hown : s.vm.findClass RX5 = some m.cls := findClass_of_methodNamed B.named
  have hlocks := B.notSynchronized
  subst hsz
  have hD := hD0.self (sz := s.heap.size)
  generalize hAe : va_A (wMo m1 m2 m3 m4 m5 m6 m7 kI kJ xs ys held la lb lc th pm rm on cl un ze lm) s.heap.size = A at hD ⊢
  have hA : ∀ q : Nat, s.heap.size ≤ q → A q := fun q h => by rw [← hAe]; exact Or.inr h
  have hS : va_S A s.heap s.heap [] := va_S.rf
  have hP : va_P D vwCl [(m1, .inr (9, [.int th, .int pm, .ref m2, .ref m3, .int rm, .ref m4, .int on, .int cl, .int un, .int ze, .int lm, .ref m5, .ref m6, .ref m7])), (m2, .inl (kI, 60, .inl xs)), (m3, .inl (kI, 60, .inl ys)), (m4, .inl (kI, 24, .inl held)), (m5, .inl (kJ, 12, .inr (.inl la))), (m6, .inl (kJ, 12, .inr (.inl lb))), (m7, .inl (kJ, 12, .inr (.inl lc)))] s.heap := hP
  have hD : va_D A [(m1, .inr (9, [.int th, .int pm, .ref m2, .ref m3, .int rm, .ref m4, .int on, .int cl, .int un, .int ze, .int lm, .ref m5, .ref m6, .ref m7])), (m2, .inl (kI, 60, .inl xs)), (m3, .inl (kI, 60, .inl ys)), (m4, .inl (kI, 24, .inl held)), (m5, .inl (kJ, 12, .inr (.inl la))), (m6, .inl (kJ, 12, .inr (.inl lb))), (m7, .inl (kJ, 12, .inr (.inl lc)))] := hD
  have hl := lv_entry ([.ref m1, .int n, .long vb]) (n := 9) (Nat.le_of_ble_eq_true rfl)
  rw [lg_entry_eq]
  generalize (lg_sl ([.ref m1, .int n, .long vb]) ++ List.replicate (9 - (lg_sl ([.ref m1, .int n, .long vb])).length) Slot.unset).toArray = ls at hl ⊢
  have hl : lv_has ls 9 [(0, .ref m1), (1, .int n), (2, .long vb)] := hl
  refine lv_aload_n hx hb dX5_area_0 rfl (lv_at hl 0 rfl) ?_
  refine lv_iconst (v := 0) hx hb dX5_area_1 (by decide) ?_
  refine va_put (D := D) (ci := 9) (v := .int (0 : Int32)) (ty := .int) (C := RX5) (T := TX5) (N := 14) hx hb hts hinX5 tyX5 tyX5_ok nmX5 hown hK hP hD hS 0 rfl rfl 0 (by decide) (hts _ fk_X5_1) (fun _ h9 => h9) rfl (by decide +kernel) rfl rfl (Nat.le_of_ble_eq_true rfl) dX5_area_2 (fun H locs hP hD hS => ?_)
  have hP : va_P D vwCl [(m1, .inr (9, [.int (0 : Int32), .int pm, .ref m2, .ref m3, .int rm, .ref m4, .int on, .int cl, .int un, .int ze, .int lm, .ref m5, .ref m6, .ref m7])), (m2, .inl (kI, 60, .inl xs)), (m3, .inl (kI, 60, .inl ys)), (m4, .inl (kI, 24, .inl held)), (m5, .inl (kJ, 12, .inr (.inl la))), (m6, .inl (kJ, 12, .inr (.inl lb))), (m7, .inl (kJ, 12, .inr (.inl lc)))] H := hP
  have hD : va_D A [(m1, .inr (9, [.int (0 : Int32), .int pm, .ref m2, .ref m3, .int rm, .ref m4, .int on, .int cl, .int un, .int ze, .int lm, .ref m5, .ref m6, .ref m7])), (m2, .inl (kI, 60, .inl xs)), (m3, .inl (kI, 60, .inl ys)), (m4, .inl (kI, 24, .inl held)), (m5, .inl (kJ, 12, .inr (.inl la))), (m6, .inl (kJ, 12, .inr (.inl lb))), (m7, .inl (kJ, 12, .inr (.inl lc)))] := hD
  refine lv_aload_n hx hb dX5_area_5 rfl (lv_at hl 0 rfl) ?_
  refine lv_iload_n hx hb dX5_area_6 rfl (lv_at hl 1 rfl) ?_
  refine lv_iconst (v := 1) hx hb dX5_area_7 (by decide) ?_
  refine xr_V (q := (RX5, TX5, 14)) (ci := 9) (q0 := 0) (rest := []) (As := [.int n, .int (1 : Int32)]) ⟨hx, hb, hml, hown, hts⟩ (ct5_isMany l D m1 m2 m3 m4 m5 m6 m7 kI kJ xs ys held la lb lc (0 : Int32) pm rm on cl un ze lm n (1 : Int32) ) (cwV 2 hts gl_X5_139 rfl rfl rfl (by decide +kernel) ⟨Nat.le_of_ble_eq_true rfl, Nat.le_of_ble_eq_true rfl⟩) nN_mv hN hK hP [0, 1, 2, 3, 4, 5, 6] [0, 1] rfl rfl rfl rfl rfl hl.1 rfl (Nat.le_of_ble_eq_true rfl) dX5_area_8 ⟨Nat.le_of_ble_eq_true rfl, Nat.le_of_ble_eq_true rfl⟩ ?_
  refine lv_if_eq (tgt := 22) hx hb dX5_area_11 (by decide) (fun c1 => ?_) (fun c1 => ?_)
  · refine lv_lconst (v := 0) hx hb dX5_area_22 (by decide) ?_
    have hP9 := hP
    have hD9 := hD
    have hS9 := hS
    have qt : tX5_area held xs ys rm n vb = ((0 : Int64), (0 : Int32)) := by unfold tX5_area; rw [if_pos c1]
    have qv : fX5_area held xs ys rm n vb = (0 : Int64) := by unfold fX5_area; rw [qt]
    have q_th : gX5_area_th held xs ys rm n vb = (0 : Int32) := by unfold gX5_area_th; rw [qt]
    rw [qv, q_th]
    exact W.lret (v := (0 : Int64)) hx hb hr (fun t ht hW => ⟨⟨rfl, by rw [ht]; exact hP9, by rw [hAe]; exact hD9⟩, by rw [hAe]; exact hS9.F ht⟩) hS9.2.2 dX5_area_23
  · refine lv_aload_n hx hb dX5_area_14 rfl (lv_at hl 0 rfl) ?_
    refine lv_iload_n hx hb dX5_area_15 rfl (lv_at hl 1 rfl) ?_
    refine xr_V (q := (RX5, TX5, 14)) (ci := 9) (q0 := 0) (rest := []) (As := [.int n]) ⟨hx, hb, hml, hown, hts⟩ (ct5_isWhole l D m1 m2 m3 m4 m5 m6 m7 kI kJ xs ys held la lb lc (0 : Int32) pm rm on cl un ze lm n ((o_mn c1 orm).2)) (cwV 1 hts gl_X5_142 rfl rfl rfl (by decide +kernel) ⟨Nat.le_of_ble_eq_true rfl, Nat.le_of_ble_eq_true rfl⟩) nN_mv hN hK hP [0, 1, 2, 3, 4, 5, 6] [0, 1] rfl rfl rfl rfl rfl hl.1 rfl (Nat.le_of_ble_eq_true rfl) dX5_area_16 ⟨Nat.le_of_ble_eq_true rfl, Nat.le_of_ble_eq_true rfl⟩ ?_
    refine lv_if_ne (tgt := 24) hx hb dX5_area_19 (by decide) (fun c2 => ?_) (fun c2 => ?_)
    · refine lv_lload_n hx hb dX5_area_24 rfl (lv_at hl 2 rfl) ?_
      refine lv_lconst (v := 0) hx hb dX5_area_25 (by decide) ?_
      refine W.lcmp hx hb dX5_area_26 ?_
      refine lv_if_ne (tgt := 37) hx hb dX5_area_27 (by decide) (fun c3 => ?_) (fun c3 => ?_)
      · refine lv_lconst (v := 0) hx hb dX5_area_37 (by decide) ?_
        refine lv_lstore (lv' := [(4, .long (0 : Int64)), (0, .ref m1), (1, .int n), (2, .long vb)]) hx hb dX5_area_38 hl (by decide) rfl (fun ls hl => ?_)
        refine lv_iconst (v := 0) hx hb dX5_area_40 (by decide) ?_
        refine lv_istore (lv' := [(6, .int (0 : Int32)), (4, .long (0 : Int64)), (0, .ref m1), (1, .int n), (2, .long vb)]) hx hb dX5_area_41 hl (by decide) rfl (fun ls hl => ?_)
        refine xr_l2 (P := fun ls => W p l e _ s m _ below meth c _ _ _ _ _ (F0 m 43 ls [])) (nL := 9) (fun (su : Int64) (i : Int32) => [(6, .int i), (4, .long su), (0, .ref m1), (1, .int n), (2, .long vb)]) (fun kA (su : Int64) (i : Int32) => xr_u n i kA ∧ tX5_area_A held xs ys rm n vb kA su i = tX5_area held xs ys rm n vb) (fun _ _ h => xr_u0 h.1) ?_ (n.toInt.toNat + 1) (0 : Int64) (0 : Int32) ls hl ⟨(xr_ub n), (by unfold tX5_area; rw [if_neg c1, if_neg c2, if_neg c3])⟩
        clear hl
        intro kA su i ls hl hI ihA
        obtain ⟨huA, hLA⟩ := hI
        refine lv_iload hx hb dX5_area_43 (lv_at hl 0 rfl) ?_
        refine lv_iload_n hx hb dX5_area_45 rfl (lv_at hl 3 rfl) ?_
        refine lv_icmp_ge (tgt := 113) hx hb dX5_area_46 (by decide) (fun c4 => ?_) (fun c4 => ?_)
        · refine lv_lload hx hb dX5_area_113 (lv_at hl 1 rfl) ?_
          refine lv_lload_n hx hb dX5_area_115 rfl (lv_at hl 4 rfl) ?_
          refine lv_ldiv hx hb dX5_area_116 (o_by c3) ?_
          have hP9 := hP
          have hD9 := hD
          have hS9 := hS
          have qt : tX5_area held xs ys rm n vb = (su / vb, (0 : Int32)) := by rw [← hLA, tX5_area_A_s, if_pos c4]
          have qv : fX5_area held xs ys rm n vb = su / vb := by unfold fX5_area; rw [qt]
          have q_th : gX5_area_th held xs ys rm n vb = (0 : Int32) := by unfold gX5_area_th; rw [qt]
          rw [qv, q_th]
          exact W.lret (v := su / vb) hx hb hr (fun t ht hW => ⟨⟨rfl, by rw [ht]; exact hP9, by rw [hAe]; exact hD9⟩, by rw [hAe]; exact hS9.F ht⟩) hS9.2.2 dX5_area_117
        · refine lv_aload_n hx hb dX5_area_49 rfl (lv_at hl 2 rfl) ?_
          refine va_get (D := D) (ci := 9) (v := .ref m4) (C := RX5) (T := TX5) (N := 14) hx hb hts hinX5 hown hK hP 0 rfl rfl 5 (by decide) (hts _ fk_X5_20) (fun _ h9 => h9) rfl dX5_area_50 ?_
          refine lv_iload hx hb dX5_area_53 (lv_at hl 0 rfl) ?_
          refine va_iald hx hb hK hP 3 0 rfl rfl (xr_in huA c4 (o_mn c1 orm).2) dX5_area_55 ?_
          refine lv_istore (lv' := [(7, .int (held i.toNatClampNeg)), (6, .int i), (4, .long su), (0, .ref m1), (1, .int n), (2, .long vb)]) hx hb dX5_area_56 hl (by decide) rfl (fun ls hl => ?_)
          refine lv_aload_n hx hb dX5_area_58 rfl (lv_at hl 3 rfl) ?_
          refine lv_iload hx hb dX5_area_59 (lv_at hl 1 rfl) ?_
          refine lv_iload_n hx hb dX5_area_61 rfl (lv_at hl 4 rfl) ?_
          refine xr_V (q := (RX5, TX5, 14)) (ci := 9) (q0 := 0) (rest := []) (As := [.int i, .int n]) ⟨hx, hb, hml, hown, hts⟩ (ct5_next l D m1 m2 m3 m4 m5 m6 m7 kI kJ xs ys held la lb lc (0 : Int32) pm rm on cl un ze lm i n (xr_rg huA c4) ((o_mn c1 orm).2)) (cwV 2 hts gl_X5_145 rfl rfl rfl (by decide +kernel) ⟨Nat.le_of_ble_eq_true rfl, Nat.le_of_ble_eq_true rfl⟩) nN_mv hN hK hP [0, 1, 2, 3, 4, 5, 6] [0, 1] rfl rfl rfl rfl rfl hl.1 rfl (Nat.le_of_ble_eq_true rfl) dX5_area_62 ⟨Nat.le_of_ble_eq_true rfl, Nat.le_of_ble_eq_true rfl⟩ ?_
          refine lv_istore (lv' := [(8, .int (fX5_next held i n)), (7, .int (held i.toNatClampNeg)), (6, .int i), (4, .long su), (0, .ref m1), (1, .int n), (2, .long vb)]) hx hb dX5_area_65 hl (by decide) rfl (fun ls hl => ?_)
          refine lv_lload hx hb dX5_area_67 (lv_at hl 3 rfl) ?_
          refine lv_aload_n hx hb dX5_area_69 rfl (lv_at hl 4 rfl) ?_
          refine va_get (D := D) (ci := 9) (v := .ref m2) (C := RX5) (T := TX5) (N := 14) hx hb hts hinX5 hown hK hP 0 rfl rfl 2 (by decide) (hts _ fk_X5_13) (fun _ h9 => h9) rfl dX5_area_70 ?_
          refine lv_iload hx hb dX5_area_73 (lv_at hl 1 rfl) ?_
          refine va_iald hx hb hK hP 1 0 rfl rfl ((o_wh c2 ohk) _ (xr_cl huA c4)) dX5_area_75 ?_
          refine lv_i2l hx hb dX5_area_76 rfl ?_
          refine lv_aload_n hx hb dX5_area_77 rfl (lv_at hl 4 rfl) ?_
          refine va_get (D := D) (ci := 9) (v := .ref m3) (C := RX5) (T := TX5) (N := 14) hx hb hts hinX5 hown hK hP 0 rfl rfl 3 (by decide) (hts _ fk_X5_17) (fun _ h9 => h9) rfl dX5_area_78 ?_
          refine lv_iload hx hb dX5_area_81 (lv_at hl 0 rfl) ?_
          refine va_iald hx hb hK hP 2 0 rfl rfl (o_next (xr_rg huA c4) (o_wh c2 ohk)) dX5_area_83 ?_
          refine lv_i2l hx hb dX5_area_84 rfl ?_
          refine lv_lmul hx hb dX5_area_85 ?_
          refine lv_aload_n hx hb dX5_area_86 rfl (lv_at hl 4 rfl) ?_
          refine va_get (D := D) (ci := 9) (v := .ref m2) (C := RX5) (T := TX5) (N := 14) hx hb hts hinX5 hown hK hP 0 rfl rfl 2 (by decide) (hts _ fk_X5_13) (fun _ h9 => h9) rfl dX5_area_87 ?_
          refine lv_iload hx hb dX5_area_90 (lv_at hl 0 rfl) ?_
          refine va_iald hx hb hK hP 1 0 rfl rfl (o_next (xr_rg huA c4) (o_wh c2 ohk)) dX5_area_92 ?_
          refine lv_i2l hx hb dX5_area_93 rfl ?_
          refine lv_aload_n hx hb dX5_area_94 rfl (lv_at hl 4 rfl) ?_
          refine va_get (D := D) (ci := 9) (v := .ref m3) (C := RX5) (T := TX5) (N := 14) hx hb hts hinX5 hown hK hP 0 rfl rfl 3 (by decide) (hts _ fk_X5_17) (fun _ h9 => h9) rfl dX5_area_95 ?_
          refine lv_iload hx hb dX5_area_98 (lv_at hl 1 rfl) ?_
          refine va_iald hx hb hK hP 2 0 rfl rfl ((o_wh c2 ohk) _ (xr_cl huA c4)) dX5_area_100 ?_
          refine lv_i2l hx hb dX5_area_101 rfl ?_
          refine lv_lmul hx hb dX5_area_102 ?_
          refine lv_lsub hx hb dX5_area_103 ?_
          refine lv_ladd hx hb dX5_area_104 ?_
          refine lv_topl (fun z5 ez5 => ?_)
          refine lv_lstore (lv' := [(4, .long z5), (8, .int (fX5_next held i n)), (7, .int (held i.toNatClampNeg)), (6, .int i), (0, .ref m1), (1, .int n), (2, .long vb)]) hx hb dX5_area_105 hl (by decide) rfl (fun ls hl => ?_)
          obtain ⟨z6, ez6⟩ : ∃ y : Int32, y = i + 1 := ⟨_, rfl⟩
          refine lv_iinc (v := z6) (lv' := [(6, .int z6), (4, .long z5), (8, .int (fX5_next held i n)), (7, .int (held i.toNatClampNeg)), (0, .ref m1), (1, .int n), (2, .long vb)]) hx hb dX5_area_107 hl (k := 3) rfl (by rw [ez6]; rfl) (by decide) rfl (fun ls hl => ?_)
          refine lv_goto (tgt := 43) hx hb dX5_area_110 (by decide) ?_
          have hl9 := hl
          subst ez6
          subst ez5
          exact ihA (su + ((((xs (held i.toNatClampNeg).toNatClampNeg).toInt64) * ((ys (fX5_next held i n).toNatClampNeg).toInt64)) - (((xs (fX5_next held i n).toNatClampNeg).toInt64) * ((ys (held i.toNatClampNeg).toNatClampNeg).toInt64)))) (i + 1) _ (lv_sub hl9 [0, 1, 4, 5, 6] rfl) ⟨xr_us huA c4, by rw [← hLA, tX5_area_A_s, if_neg c4]⟩
      · refine lv_aload_n hx hb dX5_area_30 rfl (lv_at hl 0 rfl) ?_
        refine lv_iconst (v := 1) hx hb dX5_area_31 (by decide) ?_
        refine xw_V (q := (RX5, TX5, 14)) (ci := 9) (q0 := 0) (rest := []) (As := [.int (1 : Int32)]) (wr := []) (w1 := (wMo m1 m2 m3 m4 m5 m6 m7 kI kJ xs ys held la lb lc (gX5_fail_th (1 : Int32)) pm rm on cl un ze lm)) (ws' := [(m1, .inr (9, [.int (gX5_fail_th (1 : Int32)), .int pm, .ref m2, .ref m3, .int rm, .ref m4, .int on, .int cl, .int un, .int ze, .int lm, .ref m5, .ref m6, .ref m7])), (m2, .inl (kI, 60, .inl xs)), (m3, .inl (kI, 60, .inl ys)), (m4, .inl (kI, 24, .inl held)), (m5, .inl (kJ, 12, .inr (.inl la))), (m6, .inl (kJ, 12, .inr (.inl lb))), (m7, .inl (kJ, 12, .inr (.inl lc)))]) ⟨hx, hb, hml, hown, hts⟩ (ct5_fail l D _ m1 m2 m3 m4 m5 m6 m7 kI kJ xs ys held la lb lc (0 : Int32) pm rm on cl un ze lm (1 : Int32) ) (cwV 1 hts gl_X5_62 rfl rfl rfl (by decide +kernel) ⟨Nat.le_of_ble_eq_true rfl, Nat.le_of_ble_eq_true rfl⟩) nN_mv hN hK hP hD hS hA [0, 1, 2, 3, 4, 5, 6] [] [0, 1, 2, 3, 4, 5, 6] [0, 1] rfl (by decide) rfl rfl rfl (by decide) (by decide) rfl (by decide) rfl rfl rfl rfl hl.1 rfl (Nat.le_of_ble_eq_true rfl) dX5_area_32 ⟨Nat.le_of_ble_eq_true rfl, Nat.le_of_ble_eq_true rfl⟩ (fun H locs hP hD hS => ?_)
        have hP : va_P D vwCl [(m1, .inr (9, [.int (gX5_fail_th (1 : Int32)), .int pm, .ref m2, .ref m3, .int rm, .ref m4, .int on, .int cl, .int un, .int ze, .int lm, .ref m5, .ref m6, .ref m7])), (m2, .inl (kI, 60, .inl xs)), (m3, .inl (kI, 60, .inl ys)), (m4, .inl (kI, 24, .inl held)), (m5, .inl (kJ, 12, .inr (.inl la))), (m6, .inl (kJ, 12, .inr (.inl lb))), (m7, .inl (kJ, 12, .inr (.inl lc)))] H := hP
        have hD : va_D A [(m1, .inr (9, [.int (gX5_fail_th (1 : Int32)), .int pm, .ref m2, .ref m3, .int rm, .ref m4, .int on, .int cl, .int un, .int ze, .int lm, .ref m5, .ref m6, .ref m7])), (m2, .inl (kI, 60, .inl xs)), (m3, .inl (kI, 60, .inl ys)), (m4, .inl (kI, 24, .inl held)), (m5, .inl (kJ, 12, .inr (.inl la))), (m6, .inl (kJ, 12, .inr (.inl lb))), (m7, .inl (kJ, 12, .inr (.inl lc)))] := hD
        refine lv_i2l hx hb dX5_area_35 rfl ?_
        have hP9 := hP
        have hD9 := hD
        have hS9 := hS
        have qt : tX5_area held xs ys rm n vb = ((fX5_fail (1 : Int32)).toInt64, gX5_fail_th (1 : Int32)) := by unfold tX5_area; rw [if_neg c1, if_neg c2, if_pos c3]
        have qv : fX5_area held xs ys rm n vb = (fX5_fail (1 : Int32)).toInt64 := by unfold fX5_area; rw [qt]
        have q_th : gX5_area_th held xs ys rm n vb = gX5_fail_th (1 : Int32) := by unfold gX5_area_th; rw [qt]
        rw [qv, q_th]
        exact W.lret (v := (fX5_fail (1 : Int32)).toInt64) hx hb hr (fun t ht hW => ⟨⟨rfl, by rw [ht]; exact hP9, by rw [hAe]; exact hD9⟩, by rw [hAe]; exact hS9.F ht⟩) hS9.2.2 dX5_area_36
    · refine lv_lconst (v := 0) hx hb dX5_area_22 (by decide) ?_
      have hP9 := hP
      have hD9 := hD
      have hS9 := hS
      have qt : tX5_area held xs ys rm n vb = ((0 : Int64), (0 : Int32)) := by unfold tX5_area; rw [if_neg c1, if_pos c2]
      have qv : fX5_area held xs ys rm n vb = (0 : Int64) := by unfold fX5_area; rw [qt]
      have q_th : gX5_area_th held xs ys rm n vb = (0 : Int32) := by unfold gX5_area_th; rw [qt]
      rw [qv, q_th]
      exact W.lret (v := (0 : Int64)) hx hb hr (fun t ht hW => ⟨⟨rfl, by rw [ht]; exact hP9, by rw [hAe]; exact hD9⟩, by rw [hAe]; exact hS9.F ht⟩) hS9.2.2 dX5_area_23
