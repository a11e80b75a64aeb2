/-! Constructors. -/
/-- the row with NONE in each PLACE from i on -/
def hNone : Nat → Int32 → (Nat → Int32) → Nat → Int32
  | 0, _, h => h
  | k + 1, i, h => if (24 : Int32) ≤ i then h else hNone k (i + 1) (upd h i.toNatClampNeg (-1))
theorem hN_s (k : Nat) (i : Int32) (h : Nat → Int32) : hNone (k + 1) i h = (if (24 : Int32) ≤ i then h else hNone k (i + 1) (upd h i.toNatClampNeg (-1 : Int32))) := rfl
set_option maxHeartbeats 4000000 in
set_option maxRecDepth 100000 in
theorem ct_X2 (l : Launch) (D : va_G) (sz : Nat) (kI kJ : ClassId) (w1 : Nat) : Met l yX2_init (Cond.code yX2_init cX2_init 1 none :: BX) ({ frames := 1, cells := 2, slots := 120, locals := 60 }) (xw_P (nB kI kJ) D vwCl [] [(w1, .inr (6, [.null, .null, .int 0]))] sz [.ref w1]) (xc_Q D vwCl (fun u => [(w1, .inr (6, [.ref (u 0), .ref (u 1), .int 0])), ((u 0), .inl (kI, 60, .inl (fun _ => 0))), ((u 1), .inl (kI, 60, .inl (fun _ => 0)))]) [(w1, .inr (6, [.null, .null, .int 0]))] sz) 2 120 (va_A [(w1, .inr (6, [.null, .null, .int 0]))] sz) := by
  refine Met.ofW (cc := cX2_init) (maxL := 1) (ret := none) (by decide) rfl ?_
  intro p e s m args below meth c s₁ B hml hv
  obtain ⟨rfl, hsz, hP, hK, hN, hD0⟩ := hv
  have hx := B.exec
  have hb := B.bytes
  have hr := B.returns
  have hts0 := atoms_spec (ws := Cond.code yX2_init cX2_init 1 none :: BX) B.pre
  have hts : ∀ w ∈ BX, w.before _ s = true := fun w h => hts0 w (List.mem_cons_of_mem _ h)
  have hown : s.vm.findClass RX2 = some m.cls := findClass_of_methodNamed B.named
  have hlocks := B.notSynchronized
  have hin : meth.name = "<init>" := (name_of_methodNamed B.named B.method).1
  subst hsz
  have hD := hD0.self (sz := s.heap.size)
  generalize hAe : va_A [(w1, .inr (6, [.null, .null, .int 0]))] s.heap.size = A at hD ⊢
  have hA : ∀ q : Nat, s.heap.size ≤ q → A q := fun q h => by rw [← hAe]; exact Or.inr h
  have hS : va_S A s.heap s.heap [] := va_S.rf
  have hl := lv_entry ([.ref w1]) (n := 1) (Nat.le_of_ble_eq_true rfl)
  rw [lg_entry_eq]
  generalize (lg_sl ([.ref w1]) ++ List.replicate (1 - (lg_sl ([.ref w1])).length) Slot.unset).toArray = ls at hl ⊢
  have hl : lv_has ls 1 [(0, .ref w1)] := hl
  refine lv_aload_n hx hb dX2_init_0 rfl (lv_at hl 0 rfl) ?_
  refine W.objInit hx hb hown (hts (Cond.methodLink RX2 3 objectInit) (bx0 (by decide +kernel))) (hts (Cond.instanceMethod objectInit) (bx0 (by decide +kernel))) (hts _ (bx1 (List.mem_of_getElem? (i := 1) rfl))) rfl (by rw [hml]; exact hl.1) rfl dX2_init_1 (Nat.le_of_ble_eq_true rfl) (Nat.le_of_ble_eq_true rfl) ?_
  refine W.eq (g2 := F0 m 4 ls []) rfl ?_
  refine lv_aload_n hx hb dX2_init_4 rfl (lv_at hl 0 rfl) ?_
  refine lv_bipush (v := 60) hx hb dX2_init_5 (by decide) ?_
  refine xn_newa (atype := .int) (kA := kI) (n := 60) (N' := 60) (a0 := (60, .inl (fun _ => 0))) hx hb (hts (Cond.arrayClass .int) (bx0 (by decide +kernel))) hN.2.1 hP hD hS hA (fun _ => rfl) (by decide) rfl (by decide) (Nat.le_of_ble_eq_true rfl) (Nat.le_of_ble_eq_true rfl) dX2_init_7 (fun a1 H hP hD hS => ?_)
  have hP : va_P D vwCl [(w1, .inr (6, [.null, .null, .int 0])), (a1, .inl (kI, 60, .inl (fun _ => 0)))] H := hP
  have hD : va_D A [(w1, .inr (6, [.null, .null, .int 0])), (a1, .inl (kI, 60, .inl (fun _ => 0)))] := hD
  refine va_putF (D := D) (ci := 6) (v := .ref a1) (ty := tyX2 0) (C := RX2) (T := TX2) (N := 3) hx hb hts hinX2 tyX2 tyX2_ok nmX2 hown hK hP hD hS 0 rfl rfl 0 (by decide) (hts _ fk_X2_9) (fun _ h9 => h9) rfl hin rfl (by decide +kernel) rfl rfl (Nat.le_of_ble_eq_true rfl) dX2_init_9 (fun H locs hP hD hS => ?_)
  have hP : va_P D vwCl [(w1, .inr (6, [.ref a1, .null, .int 0])), (a1, .inl (kI, 60, .inl (fun _ => 0)))] H := hP
  have hD : va_D A [(w1, .inr (6, [.ref a1, .null, .int 0])), (a1, .inl (kI, 60, .inl (fun _ => 0)))] := hD
  refine lv_aload_n hx hb dX2_init_12 rfl (lv_at hl 0 rfl) ?_
  refine lv_bipush (v := 60) hx hb dX2_init_13 (by decide) ?_
  refine xn_newa (atype := .int) (kA := kI) (n := 60) (N' := 60) (a0 := (60, .inl (fun _ => 0))) hx hb (hts (Cond.arrayClass .int) (bx0 (by decide +kernel))) hN.2.1 hP hD hS hA (fun _ => rfl) (by decide) rfl (by decide) (Nat.le_of_ble_eq_true rfl) (Nat.le_of_ble_eq_true rfl) dX2_init_15 (fun a2 H hP hD hS => ?_)
  have hP : va_P D vwCl [(w1, .inr (6, [.ref a1, .null, .int 0])), (a1, .inl (kI, 60, .inl (fun _ => 0))), (a2, .inl (kI, 60, .inl (fun _ => 0)))] H := hP
  have hD : va_D A [(w1, .inr (6, [.ref a1, .null, .int 0])), (a1, .inl (kI, 60, .inl (fun _ => 0))), (a2, .inl (kI, 60, .inl (fun _ => 0)))] := hD
  refine va_putF (D := D) (ci := 6) (v := .ref a2) (ty := tyX2 1) (C := RX2) (T := TX2) (N := 3) hx hb hts hinX2 tyX2 tyX2_ok nmX2 hown hK hP hD hS 0 rfl rfl 1 (by decide) (hts _ fk_X2_15) (fun _ h9 => h9) rfl hin rfl (by decide +kernel) rfl rfl (Nat.le_of_ble_eq_true rfl) dX2_init_17 (fun H locs hP hD hS => ?_)
  have hP : va_P D vwCl [(w1, .inr (6, [.ref a1, .ref a2, .int 0])), (a1, .inl (kI, 60, .inl (fun _ => 0))), (a2, .inl (kI, 60, .inl (fun _ => 0)))] H := hP
  have hD : va_D A [(w1, .inr (6, [.ref a1, .ref a2, .int 0])), (a1, .inl (kI, 60, .inl (fun _ => 0))), (a2, .inl (kI, 60, .inl (fun _ => 0)))] := hD
  refine W.widen (k := 2) (n := 120) (Nat.le_of_ble_eq_true rfl) (Nat.le_of_ble_eq_true rfl) ?_
  exact W.vret hx hb hr (fun t ht hW => ⟨⟨rfl, fun k => match k with | 0 => a1 | 1 => a2 | _ => 0, by rw [ht]; exact hP, by rw [hAe]; exact hD⟩, by rw [hAe]; exact hS.F ht⟩) hS.2.2 dX2_init_20
set_option maxHeartbeats 4000000 in
set_option maxRecDepth 100000 in
theorem ct_X1 (l : Launch) (D : va_G) (sz : Nat) (kI kJ : ClassId) (w1 : Nat) (q9 : Nat) : Met l yX1_init (Cond.code yX1_init cX1_init 2 none :: BX) ({ frames := 1, cells := 0, slots := 0, locals := 60 }) (xw_P (nB kI kJ) D vwCl [] [(w1, .inr (5, [.null, .int 0, .int 0, .int 0, .int 0]))] sz [.ref w1, .ref q9]) (xc_Q D vwCl (fun u => [(w1, .inr (5, [.ref q9, .int (1 : Int32), .int 0, .int 0, .int 0]))]) [(w1, .inr (5, [.null, .int 0, .int 0, .int 0, .int 0]))] sz) 0 0 (va_A [(w1, .inr (5, [.null, .int 0, .int 0, .int 0, .int 0]))] sz) := by
  refine Met.ofW (cc := cX1_init) (maxL := 2) (ret := none) (by decide) rfl ?_
  intro p e s m args below meth c s₁ B hml hv
  obtain ⟨rfl, hsz, hP, hK, hN, hD0⟩ := hv
  have hx := B.exec
  have hb := B.bytes
  have hr := B.returns
  have hts0 := atoms_spec (ws := Cond.code yX1_init cX1_init 2 none :: BX) B.pre
  have hts : ∀ w ∈ BX, w.before _ s = true := fun w h => hts0 w (List.mem_cons_of_mem _ h)
  have hown : s.vm.findClass RX1 = some m.cls := findClass_of_methodNamed B.named
  have hlocks := B.notSynchronized
  have hin : meth.name = "<init>" := (name_of_methodNamed B.named B.method).1
  subst hsz
  have hD := hD0.self (sz := s.heap.size)
  generalize hAe : va_A [(w1, .inr (5, [.null, .int 0, .int 0, .int 0, .int 0]))] s.heap.size = A at hD ⊢
  have hA : ∀ q : Nat, s.heap.size ≤ q → A q := fun q h => by rw [← hAe]; exact Or.inr h
  have hS : va_S A s.heap s.heap [] := va_S.rf
  have hl := lv_entry ([.ref w1, .ref q9]) (n := 2) (Nat.le_of_ble_eq_true rfl)
  rw [lg_entry_eq]
  generalize (lg_sl ([.ref w1, .ref q9]) ++ List.replicate (2 - (lg_sl ([.ref w1, .ref q9])).length) Slot.unset).toArray = ls at hl ⊢
  have hl : lv_has ls 2 [(0, .ref w1), (1, .ref q9)] := hl
  refine lv_aload_n hx hb dX1_init_0 rfl (lv_at hl 0 rfl) ?_
  refine W.objInit hx hb hown (hts (Cond.methodLink RX1 1 objectInit) (bx0 (by decide +kernel))) (hts (Cond.instanceMethod objectInit) (bx0 (by decide +kernel))) (hts _ (bx1 (List.mem_of_getElem? (i := 1) rfl))) rfl (by rw [hml]; exact hl.1) rfl dX1_init_1 (Nat.le_of_ble_eq_true rfl) (Nat.le_of_ble_eq_true rfl) ?_
  refine W.eq (g2 := F0 m 4 ls []) rfl ?_
  refine lv_aload_n hx hb dX1_init_4 rfl (lv_at hl 0 rfl) ?_
  refine lv_iconst (v := 1) hx hb dX1_init_5 (by decide) ?_
  refine va_put (D := D) (ci := 5) (v := .int (1 : Int32)) (ty := tyX1 1) (C := RX1) (T := TX1) (N := 5) hx hb hts hinX1 tyX1 tyX1_ok nmX1 hown hK hP hD hS 0 rfl rfl 1 (by decide) (hts _ fk_X1_7) (fun _ h9 => h9) rfl (by decide +kernel) rfl rfl (Nat.le_of_ble_eq_true rfl) dX1_init_6 (fun H locs hP hD hS => ?_)
  have hP : va_P D vwCl [(w1, .inr (5, [.null, .int (1 : Int32), .int 0, .int 0, .int 0]))] H := hP
  have hD : va_D A [(w1, .inr (5, [.null, .int (1 : Int32), .int 0, .int 0, .int 0]))] := hD
  refine lv_aload_n hx hb dX1_init_9 rfl (lv_at hl 0 rfl) ?_
  refine lv_aload_n hx hb dX1_init_10 rfl (lv_at hl 1 rfl) ?_
  refine va_putF (D := D) (ci := 5) (v := .ref q9) (ty := tyX1 0) (C := RX1) (T := TX1) (N := 5) hx hb hts hinX1 tyX1 tyX1_ok nmX1 hown hK hP hD hS 0 rfl rfl 0 (by decide) (hts _ fk_X1_13) (fun _ h9 => h9) rfl hin rfl (by decide +kernel) rfl rfl (Nat.le_of_ble_eq_true rfl) dX1_init_11 (fun H locs hP hD hS => ?_)
  have hP : va_P D vwCl [(w1, .inr (5, [.ref q9, .int (1 : Int32), .int 0, .int 0, .int 0]))] H := hP
  have hD : va_D A [(w1, .inr (5, [.ref q9, .int (1 : Int32), .int 0, .int 0, .int 0]))] := hD
  refine W.widen (k := 0) (n := 0) (Nat.le_of_ble_eq_true rfl) (Nat.le_of_ble_eq_true rfl) ?_
  exact W.vret hx hb hr (fun t ht hW => ⟨⟨rfl, fun _ => 0, by rw [ht]; exact hP, by rw [hAe]; exact hD⟩, by rw [hAe]; exact hS.F ht⟩) hS.2.2 dX1_init_14
set_option maxHeartbeats 4000000 in
set_option maxRecDepth 100000 in
theorem ct_X3 (l : Launch) (D : va_G) (sz : Nat) (kI kJ : ClassId) (w1 : Nat) (q9 : Nat) : Met l yX3_init (Cond.code yX3_init cX3_init 2 none :: BX) ({ frames := 1, cells := 1, slots := 24, locals := 60 }) (xw_P (nB kI kJ) D vwCl [] [(w1, .inr (7, [.null, .null, .int 0]))] sz [.ref w1, .ref q9]) (xc_Q D vwCl (fun u => [(w1, .inr (7, [.ref q9, .ref (u 0), .int 0])), ((u 0), .inl (kI, 24, .inl (fun _ => 0)))]) [(w1, .inr (7, [.null, .null, .int 0]))] sz) 1 24 (va_A [(w1, .inr (7, [.null, .null, .int 0]))] sz) := by
  refine Met.ofW (cc := cX3_init) (maxL := 2) (ret := none) (by decide) rfl ?_
  intro p e s m args below meth c s₁ B hml hv
  obtain ⟨rfl, hsz, hP, hK, hN, hD0⟩ := hv
  have hx := B.exec
  have hb := B.bytes
  have hr := B.returns
  have hts0 := atoms_spec (ws := Cond.code yX3_init cX3_init 2 none :: BX) B.pre
  have hts : ∀ w ∈ BX, w.before _ s = true := fun w h => hts0 w (List.mem_cons_of_mem _ h)
  have hown : s.vm.findClass RX3 = some m.cls := findClass_of_methodNamed B.named
  have hlocks := B.notSynchronized
  have hin : meth.name = "<init>" := (name_of_methodNamed B.named B.method).1
  subst hsz
  have hD := hD0.self (sz := s.heap.size)
  generalize hAe : va_A [(w1, .inr (7, [.null, .null, .int 0]))] s.heap.size = A at hD ⊢
  have hA : ∀ q : Nat, s.heap.size ≤ q → A q := fun q h => by rw [← hAe]; exact Or.inr h
  have hS : va_S A s.heap s.heap [] := va_S.rf
  have hl := lv_entry ([.ref w1, .ref q9]) (n := 2) (Nat.le_of_ble_eq_true rfl)
  rw [lg_entry_eq]
  generalize (lg_sl ([.ref w1, .ref q9]) ++ List.replicate (2 - (lg_sl ([.ref w1, .ref q9])).length) Slot.unset).toArray = ls at hl ⊢
  have hl : lv_has ls 2 [(0, .ref w1), (1, .ref q9)] := hl
  refine lv_aload_n hx hb dX3_init_0 rfl (lv_at hl 0 rfl) ?_
  refine W.objInit hx hb hown (hts (Cond.methodLink RX3 3 objectInit) (bx0 (by decide +kernel))) (hts (Cond.instanceMethod objectInit) (bx0 (by decide +kernel))) (hts _ (bx1 (List.mem_of_getElem? (i := 1) rfl))) rfl (by rw [hml]; exact hl.1) rfl dX3_init_1 (Nat.le_of_ble_eq_true rfl) (Nat.le_of_ble_eq_true rfl) ?_
  refine W.eq (g2 := F0 m 4 ls []) rfl ?_
  refine lv_aload_n hx hb dX3_init_4 rfl (lv_at hl 0 rfl) ?_
  refine lv_bipush (v := 24) hx hb dX3_init_5 (by decide) ?_
  refine xn_newa (atype := .int) (kA := kI) (n := 24) (N' := 24) (a0 := (24, .inl (fun _ => 0))) hx hb (hts (Cond.arrayClass .int) (bx0 (by decide +kernel))) hN.2.1 hP hD hS hA (fun _ => rfl) (by decide) rfl (by decide) (Nat.le_of_ble_eq_true rfl) (Nat.le_of_ble_eq_true rfl) dX3_init_7 (fun a1 H hP hD hS => ?_)
  have hP : va_P D vwCl [(w1, .inr (7, [.null, .null, .int 0])), (a1, .inl (kI, 24, .inl (fun _ => 0)))] H := hP
  have hD : va_D A [(w1, .inr (7, [.null, .null, .int 0])), (a1, .inl (kI, 24, .inl (fun _ => 0)))] := hD
  refine va_putF (D := D) (ci := 7) (v := .ref a1) (ty := tyX3 1) (C := RX3) (T := TX3) (N := 3) hx hb hts hinX3 tyX3 tyX3_ok nmX3 hown hK hP hD hS 0 rfl rfl 1 (by decide) (hts _ fk_X3_9) (fun _ h9 => h9) rfl hin rfl (by decide +kernel) rfl rfl (Nat.le_of_ble_eq_true rfl) dX3_init_9 (fun H locs hP hD hS => ?_)
  have hP : va_P D vwCl [(w1, .inr (7, [.null, .ref a1, .int 0])), (a1, .inl (kI, 24, .inl (fun _ => 0)))] H := hP
  have hD : va_D A [(w1, .inr (7, [.null, .ref a1, .int 0])), (a1, .inl (kI, 24, .inl (fun _ => 0)))] := hD
  refine lv_aload_n hx hb dX3_init_12 rfl (lv_at hl 0 rfl) ?_
  refine lv_aload_n hx hb dX3_init_13 rfl (lv_at hl 1 rfl) ?_
  refine va_putF (D := D) (ci := 7) (v := .ref q9) (ty := tyX3 0) (C := RX3) (T := TX3) (N := 3) hx hb hts hinX3 tyX3 tyX3_ok nmX3 hown hK hP hD hS 0 rfl rfl 0 (by decide) (hts _ fk_X3_15) (fun _ h9 => h9) rfl hin rfl (by decide +kernel) rfl rfl (Nat.le_of_ble_eq_true rfl) dX3_init_14 (fun H locs hP hD hS => ?_)
  have hP : va_P D vwCl [(w1, .inr (7, [.ref q9, .ref a1, .int 0])), (a1, .inl (kI, 24, .inl (fun _ => 0)))] H := hP
  have hD : va_D A [(w1, .inr (7, [.ref q9, .ref a1, .int 0])), (a1, .inl (kI, 24, .inl (fun _ => 0)))] := hD
  refine W.widen (k := 1) (n := 24) (Nat.le_of_ble_eq_true rfl) (Nat.le_of_ble_eq_true rfl) ?_
  exact W.vret hx hb hr (fun t ht hW => ⟨⟨rfl, fun k => match k with | 0 => a1 | _ => 0, by rw [ht]; exact hP, by rw [hAe]; exact hD⟩, by rw [hAe]; exact hS.F ht⟩) hS.2.2 dX3_init_17
set_option maxHeartbeats 4000000 in
set_option maxRecDepth 100000 in
theorem ct_X0 (l : Launch) (D : va_G) (sz : Nat) (kI kJ : ClassId) (w1 : Nat) : Met l yX0_init (Cond.code yX0_init cX0_init 1 none :: BX) ({ frames := 1, cells := 4, slots := 48, locals := 60 }) (xw_P (nB kI kJ) D vwCl [] [(w1, .inr (4, [.null, .null, .null, .null, .int 0, .int 0, .int 0, .int 0, .int 0]))] sz [.ref w1]) (xc_Q D vwCl (fun u => [(w1, .inr (4, [.ref (u 0), .ref (u 1), .ref (u 2), .ref (u 3), .int 0, .int 0, .int 0, .int 0, .int 0])), ((u 0), .inl (kJ, 12, .inr (.inl (fun _ => 0)))), ((u 1), .inl (kJ, 12, .inr (.inl (fun _ => 0)))), ((u 2), .inl (kJ, 12, .inr (.inl (fun _ => 0)))), ((u 3), .inl (kI, 12, .inl (fun _ => 0)))]) [(w1, .inr (4, [.null, .null, .null, .null, .int 0, .int 0, .int 0, .int 0, .int 0]))] sz) 4 48 (va_A [(w1, .inr (4, [.null, .null, .null, .null, .int 0, .int 0, .int 0, .int 0, .int 0]))] sz) := by
  refine Met.ofW (cc := cX0_init) (maxL := 1) (ret := none) (by decide) rfl ?_
  intro p e s m args below meth c s₁ B hml hv
  obtain ⟨rfl, hsz, hP, hK, hN, hD0⟩ := hv
  have hx := B.exec
  have hb := B.bytes
  have hr := B.returns
  have hts0 := atoms_spec (ws := Cond.code yX0_init cX0_init 1 none :: BX) B.pre
  have hts : ∀ w ∈ BX, w.before _ s = true := fun w h => hts0 w (List.mem_cons_of_mem _ h)
  have hown : s.vm.findClass RX0 = some m.cls := findClass_of_methodNamed B.named
  have hlocks := B.notSynchronized
  have hin : meth.name = "<init>" := (name_of_methodNamed B.named B.method).1
  subst hsz
  have hD := hD0.self (sz := s.heap.size)
  generalize hAe : va_A [(w1, .inr (4, [.null, .null, .null, .null, .int 0, .int 0, .int 0, .int 0, .int 0]))] s.heap.size = A at hD ⊢
  have hA : ∀ q : Nat, s.heap.size ≤ q → A q := fun q h => by rw [← hAe]; exact Or.inr h
  have hS : va_S A s.heap s.heap [] := va_S.rf
  have hl := lv_entry ([.ref w1]) (n := 1) (Nat.le_of_ble_eq_true rfl)
  rw [lg_entry_eq]
  generalize (lg_sl ([.ref w1]) ++ List.replicate (1 - (lg_sl ([.ref w1])).length) Slot.unset).toArray = ls at hl ⊢
  have hl : lv_has ls 1 [(0, .ref w1)] := hl
  refine lv_aload_n hx hb dX0_init_0 rfl (lv_at hl 0 rfl) ?_
  refine W.objInit hx hb hown (hts (Cond.methodLink RX0 3 objectInit) (bx0 (by decide +kernel))) (hts (Cond.instanceMethod objectInit) (bx0 (by decide +kernel))) (hts _ (bx1 (List.mem_of_getElem? (i := 1) rfl))) rfl (by rw [hml]; exact hl.1) rfl dX0_init_1 (Nat.le_of_ble_eq_true rfl) (Nat.le_of_ble_eq_true rfl) ?_
  refine W.eq (g2 := F0 m 4 ls []) rfl ?_
  refine lv_aload_n hx hb dX0_init_4 rfl (lv_at hl 0 rfl) ?_
  refine lv_bipush (v := 12) hx hb dX0_init_5 (by decide) ?_
  refine xn_newa (atype := .long) (kA := kJ) (n := 12) (N' := 12) (a0 := (12, .inr (.inl (fun _ => 0)))) hx hb (hts (Cond.arrayClass .long) (bx0 (by decide +kernel))) hN.2.2 hP hD hS hA (fun _ => rfl) (by decide) rfl (by decide) (Nat.le_of_ble_eq_true rfl) (Nat.le_of_ble_eq_true rfl) dX0_init_7 (fun a1 H hP hD hS => ?_)
  have hP : va_P D vwCl [(w1, .inr (4, [.null, .null, .null, .null, .int 0, .int 0, .int 0, .int 0, .int 0])), (a1, .inl (kJ, 12, .inr (.inl (fun _ => 0))))] H := hP
  have hD : va_D A [(w1, .inr (4, [.null, .null, .null, .null, .int 0, .int 0, .int 0, .int 0, .int 0])), (a1, .inl (kJ, 12, .inr (.inl (fun _ => 0))))] := hD
  refine va_putF (D := D) (ci := 4) (v := .ref a1) (ty := tyX0 0) (C := RX0) (T := TX0) (N := 9) hx hb hts hinX0 tyX0 tyX0_ok nmX0 hown hK hP hD hS 0 rfl rfl 0 (by decide) (hts _ fk_X0_9) (fun _ h9 => h9) rfl hin rfl (by decide +kernel) rfl rfl (Nat.le_of_ble_eq_true rfl) dX0_init_9 (fun H locs hP hD hS => ?_)
  have hP : va_P D vwCl [(w1, .inr (4, [.ref a1, .null, .null, .null, .int 0, .int 0, .int 0, .int 0, .int 0])), (a1, .inl (kJ, 12, .inr (.inl (fun _ => 0))))] H := hP
  have hD : va_D A [(w1, .inr (4, [.ref a1, .null, .null, .null, .int 0, .int 0, .int 0, .int 0, .int 0])), (a1, .inl (kJ, 12, .inr (.inl (fun _ => 0))))] := hD
  refine lv_aload_n hx hb dX0_init_12 rfl (lv_at hl 0 rfl) ?_
  refine lv_bipush (v := 12) hx hb dX0_init_13 (by decide) ?_
  refine xn_newa (atype := .long) (kA := kJ) (n := 12) (N' := 12) (a0 := (12, .inr (.inl (fun _ => 0)))) hx hb (hts (Cond.arrayClass .long) (bx0 (by decide +kernel))) hN.2.2 hP hD hS hA (fun _ => rfl) (by decide) rfl (by decide) (Nat.le_of_ble_eq_true rfl) (Nat.le_of_ble_eq_true rfl) dX0_init_15 (fun a2 H hP hD hS => ?_)
  have hP : va_P D vwCl [(w1, .inr (4, [.ref a1, .null, .null, .null, .int 0, .int 0, .int 0, .int 0, .int 0])), (a1, .inl (kJ, 12, .inr (.inl (fun _ => 0)))), (a2, .inl (kJ, 12, .inr (.inl (fun _ => 0))))] H := hP
  have hD : va_D A [(w1, .inr (4, [.ref a1, .null, .null, .null, .int 0, .int 0, .int 0, .int 0, .int 0])), (a1, .inl (kJ, 12, .inr (.inl (fun _ => 0)))), (a2, .inl (kJ, 12, .inr (.inl (fun _ => 0))))] := hD
  refine va_putF (D := D) (ci := 4) (v := .ref a2) (ty := tyX0 1) (C := RX0) (T := TX0) (N := 9) hx hb hts hinX0 tyX0 tyX0_ok nmX0 hown hK hP hD hS 0 rfl rfl 1 (by decide) (hts _ fk_X0_15) (fun _ h9 => h9) rfl hin rfl (by decide +kernel) rfl rfl (Nat.le_of_ble_eq_true rfl) dX0_init_17 (fun H locs hP hD hS => ?_)
  have hP : va_P D vwCl [(w1, .inr (4, [.ref a1, .ref a2, .null, .null, .int 0, .int 0, .int 0, .int 0, .int 0])), (a1, .inl (kJ, 12, .inr (.inl (fun _ => 0)))), (a2, .inl (kJ, 12, .inr (.inl (fun _ => 0))))] H := hP
  have hD : va_D A [(w1, .inr (4, [.ref a1, .ref a2, .null, .null, .int 0, .int 0, .int 0, .int 0, .int 0])), (a1, .inl (kJ, 12, .inr (.inl (fun _ => 0)))), (a2, .inl (kJ, 12, .inr (.inl (fun _ => 0))))] := hD
  refine lv_aload_n hx hb dX0_init_20 rfl (lv_at hl 0 rfl) ?_
  refine lv_bipush (v := 12) hx hb dX0_init_21 (by decide) ?_
  refine xn_newa (atype := .long) (kA := kJ) (n := 12) (N' := 12) (a0 := (12, .inr (.inl (fun _ => 0)))) hx hb (hts (Cond.arrayClass .long) (bx0 (by decide +kernel))) hN.2.2 hP hD hS hA (fun _ => rfl) (by decide) rfl (by decide) (Nat.le_of_ble_eq_true rfl) (Nat.le_of_ble_eq_true rfl) dX0_init_23 (fun a3 H hP hD hS => ?_)
  have hP : va_P D vwCl [(w1, .inr (4, [.ref a1, .ref a2, .null, .null, .int 0, .int 0, .int 0, .int 0, .int 0])), (a1, .inl (kJ, 12, .inr (.inl (fun _ => 0)))), (a2, .inl (kJ, 12, .inr (.inl (fun _ => 0)))), (a3, .inl (kJ, 12, .inr (.inl (fun _ => 0))))] H := hP
  have hD : va_D A [(w1, .inr (4, [.ref a1, .ref a2, .null, .null, .int 0, .int 0, .int 0, .int 0, .int 0])), (a1, .inl (kJ, 12, .inr (.inl (fun _ => 0)))), (a2, .inl (kJ, 12, .inr (.inl (fun _ => 0)))), (a3, .inl (kJ, 12, .inr (.inl (fun _ => 0))))] := hD
  refine va_putF (D := D) (ci := 4) (v := .ref a3) (ty := tyX0 2) (C := RX0) (T := TX0) (N := 9) hx hb hts hinX0 tyX0 tyX0_ok nmX0 hown hK hP hD hS 0 rfl rfl 2 (by decide) (hts _ fk_X0_18) (fun _ h9 => h9) rfl hin rfl (by decide +kernel) rfl rfl (Nat.le_of_ble_eq_true rfl) dX0_init_25 (fun H locs hP hD hS => ?_)
  have hP : va_P D vwCl [(w1, .inr (4, [.ref a1, .ref a2, .ref a3, .null, .int 0, .int 0, .int 0, .int 0, .int 0])), (a1, .inl (kJ, 12, .inr (.inl (fun _ => 0)))), (a2, .inl (kJ, 12, .inr (.inl (fun _ => 0)))), (a3, .inl (kJ, 12, .inr (.inl (fun _ => 0))))] H := hP
  have hD : va_D A [(w1, .inr (4, [.ref a1, .ref a2, .ref a3, .null, .int 0, .int 0, .int 0, .int 0, .int 0])), (a1, .inl (kJ, 12, .inr (.inl (fun _ => 0)))), (a2, .inl (kJ, 12, .inr (.inl (fun _ => 0)))), (a3, .inl (kJ, 12, .inr (.inl (fun _ => 0))))] := hD
  refine lv_aload_n hx hb dX0_init_28 rfl (lv_at hl 0 rfl) ?_
  refine lv_bipush (v := 12) hx hb dX0_init_29 (by decide) ?_
  refine xn_newa (atype := .int) (kA := kI) (n := 12) (N' := 12) (a0 := (12, .inl (fun _ => 0))) hx hb (hts (Cond.arrayClass .int) (bx0 (by decide +kernel))) hN.2.1 hP hD hS hA (fun _ => rfl) (by decide) rfl (by decide) (Nat.le_of_ble_eq_true rfl) (Nat.le_of_ble_eq_true rfl) dX0_init_31 (fun a4 H hP hD hS => ?_)
  have hP : va_P D vwCl [(w1, .inr (4, [.ref a1, .ref a2, .ref a3, .null, .int 0, .int 0, .int 0, .int 0, .int 0])), (a1, .inl (kJ, 12, .inr (.inl (fun _ => 0)))), (a2, .inl (kJ, 12, .inr (.inl (fun _ => 0)))), (a3, .inl (kJ, 12, .inr (.inl (fun _ => 0)))), (a4, .inl (kI, 12, .inl (fun _ => 0)))] H := hP
  have hD : va_D A [(w1, .inr (4, [.ref a1, .ref a2, .ref a3, .null, .int 0, .int 0, .int 0, .int 0, .int 0])), (a1, .inl (kJ, 12, .inr (.inl (fun _ => 0)))), (a2, .inl (kJ, 12, .inr (.inl (fun _ => 0)))), (a3, .inl (kJ, 12, .inr (.inl (fun _ => 0)))), (a4, .inl (kI, 12, .inl (fun _ => 0)))] := hD
  refine va_putF (D := D) (ci := 4) (v := .ref a4) (ty := tyX0 3) (C := RX0) (T := TX0) (N := 9) hx hb hts hinX0 tyX0 tyX0_ok nmX0 hown hK hP hD hS 0 rfl rfl 3 (by decide) (hts _ fk_X0_21) (fun _ h9 => h9) rfl hin rfl (by decide +kernel) rfl rfl (Nat.le_of_ble_eq_true rfl) dX0_init_33 (fun H locs hP hD hS => ?_)
  have hP : va_P D vwCl [(w1, .inr (4, [.ref a1, .ref a2, .ref a3, .ref a4, .int 0, .int 0, .int 0, .int 0, .int 0])), (a1, .inl (kJ, 12, .inr (.inl (fun _ => 0)))), (a2, .inl (kJ, 12, .inr (.inl (fun _ => 0)))), (a3, .inl (kJ, 12, .inr (.inl (fun _ => 0)))), (a4, .inl (kI, 12, .inl (fun _ => 0)))] H := hP
  have hD : va_D A [(w1, .inr (4, [.ref a1, .ref a2, .ref a3, .ref a4, .int 0, .int 0, .int 0, .int 0, .int 0])), (a1, .inl (kJ, 12, .inr (.inl (fun _ => 0)))), (a2, .inl (kJ, 12, .inr (.inl (fun _ => 0)))), (a3, .inl (kJ, 12, .inr (.inl (fun _ => 0)))), (a4, .inl (kI, 12, .inl (fun _ => 0)))] := hD
  refine W.widen (k := 4) (n := 48) (Nat.le_of_ble_eq_true rfl) (Nat.le_of_ble_eq_true rfl) ?_
  exact W.vret hx hb hr (fun t ht hW => ⟨⟨rfl, fun k => match k with | 0 => a1 | 1 => a2 | 2 => a3 | 3 => a4 | _ => 0, by rw [ht]; exact hP, by rw [hAe]; exact hD⟩, by rw [hAe]; exact hS.F ht⟩) hS.2.2 dX0_init_36
set_option maxHeartbeats 4000000 in
set_option maxRecDepth 100000 in
theorem ct_X4 (l : Launch) (D : va_G) (sz : Nat) (kI kJ : ClassId) (w1 : Nat) : Met l yX4_init (Cond.code yX4_init cX4_init 1 none :: BX) ({ frames := 2, cells := 11, slots := 212, locals := 120 }) (xw_P (nB kI kJ) D vwCl [] [(w1, .inr (8, [.null, .null, .null, .null]))] sz [.ref w1]) (xc_Q D vwCl (fun u => [(w1, .inr (8, [.ref (u 0), .ref (u 3), .ref (u 4), .ref (u 6)])), ((u 0), .inr (6, [.ref (u 1), .ref (u 2), .int 0])), ((u 1), .inl (kI, 60, .inl (fun _ => 0))), ((u 2), .inl (kI, 60, .inl (fun _ => 0))), ((u 3), .inr (5, [.ref (u 0), .int (1 : Int32), .int 0, .int 0, .int 0])), ((u 4), .inr (7, [.ref (u 0), .ref (u 5), .int 0])), ((u 5), .inl (kI, 24, .inl (fun _ => 0))), ((u 6), .inr (4, [.ref (u 7), .ref (u 8), .ref (u 9), .ref (u 10), .int 0, .int 0, .int 0, .int 0, .int 0])), ((u 7), .inl (kJ, 12, .inr (.inl (fun _ => 0)))), ((u 8), .inl (kJ, 12, .inr (.inl (fun _ => 0)))), ((u 9), .inl (kJ, 12, .inr (.inl (fun _ => 0)))), ((u 10), .inl (kI, 12, .inl (fun _ => 0)))]) [(w1, .inr (8, [.null, .null, .null, .null]))] sz) 11 212 (va_A [(w1, .inr (8, [.null, .null, .null, .null]))] sz) := by
  refine Met.ofW (cc := cX4_init) (maxL := 1) (ret := none) (by decide) rfl ?_
  intro p e s m args below meth c s₁ B hml hv
  obtain ⟨rfl, hsz, hP, hK, hN, hD0⟩ := hv
  have hx := B.exec
  have hb := B.bytes
  have hr := B.returns
  have hts0 := atoms_spec (ws := Cond.code yX4_init cX4_init 1 none :: BX) B.pre
  have hts : ∀ w ∈ BX, w.before _ s = true := fun w h => hts0 w (List.mem_cons_of_mem _ h)
  have hown : s.vm.findClass RX4 = some m.cls := findClass_of_methodNamed B.named
  have hlocks := B.notSynchronized
  have hin : meth.name = "<init>" := (name_of_methodNamed B.named B.method).1
  subst hsz
  have hD := hD0.self (sz := s.heap.size)
  generalize hAe : va_A [(w1, .inr (8, [.null, .null, .null, .null]))] s.heap.size = A at hD ⊢
  have hA : ∀ q : Nat, s.heap.size ≤ q → A q := fun q h => by rw [← hAe]; exact Or.inr h
  have hS : va_S A s.heap s.heap [] := va_S.rf
  have hl := lv_entry ([.ref w1]) (n := 1) (Nat.le_of_ble_eq_true rfl)
  rw [lg_entry_eq]
  generalize (lg_sl ([.ref w1]) ++ List.replicate (1 - (lg_sl ([.ref w1])).length) Slot.unset).toArray = ls at hl ⊢
  have hl : lv_has ls 1 [(0, .ref w1)] := hl
  refine lv_aload_n hx hb dX4_init_0 rfl (lv_at hl 0 rfl) ?_
  refine W.objInit hx hb hown (hts (Cond.methodLink RX4 1 objectInit) (bx0 (by decide +kernel))) (hts (Cond.instanceMethod objectInit) (bx0 (by decide +kernel))) (hts _ (bx1 (List.mem_of_getElem? (i := 1) rfl))) rfl (by rw [hml]; exact hl.1) rfl dX4_init_1 (Nat.le_of_ble_eq_true rfl) (Nat.le_of_ble_eq_true rfl) ?_
  refine W.eq (g2 := F0 m 4 ls []) rfl ?_
  refine lv_aload_n hx hb dX4_init_4 rfl (lv_at hl 0 rfl) ?_
  refine va_new (ci := 6) (fs := [.null, .null, .int 0]) (C := RX2) (T := TX2) (N := 3) hx hb hts hinX2 tyX2 tyX2_ok hown (hts (Cond.classLink RX4 7 RX2) (bx0 (by decide +kernel))) (hts (Cond.instantiable RX2 3) (bx0 (by decide +kernel))) (hts (Cond.initialized RX2) (bx0 (by decide +kernel))) hK hP hD hS hA rfl (fun j hj => by rcases (show j = 0 ∨ j = 1 ∨ j = 2 by omega) with rfl | rfl | rfl <;> rfl) (Nat.le_of_ble_eq_true rfl) (Nat.le_of_ble_eq_true rfl) dX4_init_5 (fun a1 H hP hD hS => ?_)
  have hP : va_P D vwCl [(w1, .inr (8, [.null, .null, .null, .null])), (a1, .inr (6, [.null, .null, .int 0]))] H := hP
  have hD : va_D A [(w1, .inr (8, [.null, .null, .null, .null])), (a1, .inr (6, [.null, .null, .int 0]))] := hD
  refine lv_dup hx hb dX4_init_8 rfl ?_
  refine xc_call (wr := [(w1, .inr (8, [.null, .null, .null, .null]))]) (W1 := (fun u => [(a1, .inr (6, [.ref (u 0), .ref (u 1), .int 0])), ((u 0), .inl (kI, 60, .inl (fun _ => 0))), ((u 1), .inl (kI, 60, .inl (fun _ => 0)))])) (ws' := (fun u => [(w1, .inr (8, [.null, .null, .null, .null])), (a1, .inr (6, [.ref (u 0), .ref (u 1), .int 0])), ((u 0), .inl (kI, 60, .inl (fun _ => 0))), ((u 1), .inl (kI, 60, .inl (fun _ => 0)))])) (va_runIN (As := []) (rest := [.ref a1, .ref w1]) ⟨hx, hb, hml, hown, hts⟩ (ct_X2 l D _ kI kJ a1 ) ⟨va_cnB 0 hts (gdC (bx1 gc_X2_init)) rfl rfl rfl hN.1.2.1 (hts (Cond.initialized RX2) (bx0 (by decide +kernel))) (by decide +kernel) ⟨Nat.le_of_ble_eq_true rfl, Nat.le_of_ble_eq_true rfl⟩, rfl, hts _ im_X2_init⟩ (xw_preS nB_mv hN hK hP hD [1] [] rfl (by decide) rfl rfl) rfl rfl hl.1 rfl (lv_room (Nat.le_of_ble_eq_true rfl)) dX4_init_9 ⟨Nat.le_of_ble_eq_true rfl, Nat.le_of_ble_eq_true rfl⟩) hP hD hS hA [1] [0] rfl rfl (by decide) (by decide) [0, 1, 2, 3] (fun _ => rfl) (by decide) (fun _ => rfl) (fun u2 H locs hP hD hS => ?_)
  have hP : va_P D vwCl [(w1, .inr (8, [.null, .null, .null, .null])), (a1, .inr (6, [.ref (u2 0), .ref (u2 1), .int 0])), ((u2 0), .inl (kI, 60, .inl (fun _ => 0))), ((u2 1), .inl (kI, 60, .inl (fun _ => 0)))] H := hP
  have hD : va_D A [(w1, .inr (8, [.null, .null, .null, .null])), (a1, .inr (6, [.ref (u2 0), .ref (u2 1), .int 0])), ((u2 0), .inl (kI, 60, .inl (fun _ => 0))), ((u2 1), .inl (kI, 60, .inl (fun _ => 0)))] := hD
  refine va_putF (D := D) (ci := 8) (v := .ref a1) (ty := tyX4 0) (C := RX4) (T := TX4) (N := 4) hx hb hts hinX4 tyX4 tyX4_ok nmX4 hown hK hP hD hS 0 rfl rfl 0 (by decide) (hts _ fk_X4_10) (fun _ h9 => h9) rfl hin rfl (by decide +kernel) rfl rfl (Nat.le_of_ble_eq_true rfl) dX4_init_12 (fun H locs hP hD hS => ?_)
  have hP : va_P D vwCl [(w1, .inr (8, [.ref a1, .null, .null, .null])), (a1, .inr (6, [.ref (u2 0), .ref (u2 1), .int 0])), ((u2 0), .inl (kI, 60, .inl (fun _ => 0))), ((u2 1), .inl (kI, 60, .inl (fun _ => 0)))] H := hP
  have hD : va_D A [(w1, .inr (8, [.ref a1, .null, .null, .null])), (a1, .inr (6, [.ref (u2 0), .ref (u2 1), .int 0])), ((u2 0), .inl (kI, 60, .inl (fun _ => 0))), ((u2 1), .inl (kI, 60, .inl (fun _ => 0)))] := hD
  refine lv_aload_n hx hb dX4_init_15 rfl (lv_at hl 0 rfl) ?_
  refine va_new (ci := 5) (fs := [.null, .int 0, .int 0, .int 0, .int 0]) (C := RX1) (T := TX1) (N := 5) hx hb hts hinX1 tyX1 tyX1_ok hown (hts (Cond.classLink RX4 16 RX1) (bx0 (by decide +kernel))) (hts (Cond.instantiable RX1 5) (bx0 (by decide +kernel))) (hts (Cond.initialized RX1) (bx0 (by decide +kernel))) hK hP hD hS hA rfl (fun j hj => by rcases (show j = 0 ∨ j = 1 ∨ j = 2 ∨ j = 3 ∨ j = 4 by omega) with rfl | rfl | rfl | rfl | rfl <;> rfl) (Nat.le_of_ble_eq_true rfl) (Nat.le_of_ble_eq_true rfl) dX4_init_16 (fun a3 H hP hD hS => ?_)
  have hP : va_P D vwCl [(w1, .inr (8, [.ref a1, .null, .null, .null])), (a1, .inr (6, [.ref (u2 0), .ref (u2 1), .int 0])), ((u2 0), .inl (kI, 60, .inl (fun _ => 0))), ((u2 1), .inl (kI, 60, .inl (fun _ => 0))), (a3, .inr (5, [.null, .int 0, .int 0, .int 0, .int 0]))] H := hP
  have hD : va_D A [(w1, .inr (8, [.ref a1, .null, .null, .null])), (a1, .inr (6, [.ref (u2 0), .ref (u2 1), .int 0])), ((u2 0), .inl (kI, 60, .inl (fun _ => 0))), ((u2 1), .inl (kI, 60, .inl (fun _ => 0))), (a3, .inr (5, [.null, .int 0, .int 0, .int 0, .int 0]))] := hD
  refine lv_dup hx hb dX4_init_19 rfl ?_
  refine lv_aload_n hx hb dX4_init_20 rfl (lv_at hl 0 rfl) ?_
  refine va_get (D := D) (ci := 8) (v := .ref a1) (C := RX4) (T := TX4) (N := 4) hx hb hts hinX4 hown hK hP 0 rfl rfl 0 (by decide) (hts _ fk_X4_10) (fun _ h9 => h9) rfl dX4_init_21 ?_
  refine xc_call (wr := [(w1, .inr (8, [.ref a1, .null, .null, .null])), (a1, .inr (6, [.ref (u2 0), .ref (u2 1), .int 0])), ((u2 0), .inl (kI, 60, .inl (fun _ => 0))), ((u2 1), .inl (kI, 60, .inl (fun _ => 0)))]) (W1 := (fun u => [(a3, .inr (5, [.ref a1, .int (1 : Int32), .int 0, .int 0, .int 0]))])) (ws' := (fun u => [(w1, .inr (8, [.ref a1, .null, .null, .null])), (a1, .inr (6, [.ref (u2 0), .ref (u2 1), .int 0])), ((u2 0), .inl (kI, 60, .inl (fun _ => 0))), ((u2 1), .inl (kI, 60, .inl (fun _ => 0))), (a3, .inr (5, [.ref a1, .int (1 : Int32), .int 0, .int 0, .int 0]))])) (va_runI (As := [.ref a1]) (rest := [.ref a3, .ref w1]) ⟨hx, hb, hml, hown, hts⟩ (ct_X1 l D _ kI kJ a3 a1) (cwI 1 hts (gdC (bx1 gc_X1_init)) rfl rfl rfl (hts (Cond.initialized RX1) (bx0 (by decide +kernel))) (hts (Cond.methodLink RX4 18 yX1_init) (bx0 (by decide +kernel))) (hts _ im_X1_init) rfl (by decide +kernel) ⟨Nat.le_of_ble_eq_true rfl, Nat.le_of_ble_eq_true rfl⟩) (xw_preS nB_mv hN hK hP hD [4] [] rfl (by decide) rfl rfl) rfl rfl hl.1 rfl (lv_room (Nat.le_of_ble_eq_true rfl)) dX4_init_24 ⟨Nat.le_of_ble_eq_true rfl, Nat.le_of_ble_eq_true rfl⟩) hP hD hS hA [4] [0, 1, 2, 3] rfl rfl (by decide) (by decide) [0, 1, 2, 3, 4] (fun _ => rfl) (by decide) (fun _ => rfl) (fun u4 H locs hP hD hS => ?_)
  have hP : va_P D vwCl [(w1, .inr (8, [.ref a1, .null, .null, .null])), (a1, .inr (6, [.ref (u2 0), .ref (u2 1), .int 0])), ((u2 0), .inl (kI, 60, .inl (fun _ => 0))), ((u2 1), .inl (kI, 60, .inl (fun _ => 0))), (a3, .inr (5, [.ref a1, .int (1 : Int32), .int 0, .int 0, .int 0]))] H := hP
  have hD : va_D A [(w1, .inr (8, [.ref a1, .null, .null, .null])), (a1, .inr (6, [.ref (u2 0), .ref (u2 1), .int 0])), ((u2 0), .inl (kI, 60, .inl (fun _ => 0))), ((u2 1), .inl (kI, 60, .inl (fun _ => 0))), (a3, .inr (5, [.ref a1, .int (1 : Int32), .int 0, .int 0, .int 0]))] := hD
  refine va_putF (D := D) (ci := 8) (v := .ref a3) (ty := tyX4 1) (C := RX4) (T := TX4) (N := 4) hx hb hts hinX4 tyX4 tyX4_ok nmX4 hown hK hP hD hS 0 rfl rfl 1 (by decide) (hts _ fk_X4_21) (fun _ h9 => h9) rfl hin rfl (by decide +kernel) rfl rfl (Nat.le_of_ble_eq_true rfl) dX4_init_27 (fun H locs hP hD hS => ?_)
  have hP : va_P D vwCl [(w1, .inr (8, [.ref a1, .ref a3, .null, .null])), (a1, .inr (6, [.ref (u2 0), .ref (u2 1), .int 0])), ((u2 0), .inl (kI, 60, .inl (fun _ => 0))), ((u2 1), .inl (kI, 60, .inl (fun _ => 0))), (a3, .inr (5, [.ref a1, .int (1 : Int32), .int 0, .int 0, .int 0]))] H := hP
  have hD : va_D A [(w1, .inr (8, [.ref a1, .ref a3, .null, .null])), (a1, .inr (6, [.ref (u2 0), .ref (u2 1), .int 0])), ((u2 0), .inl (kI, 60, .inl (fun _ => 0))), ((u2 1), .inl (kI, 60, .inl (fun _ => 0))), (a3, .inr (5, [.ref a1, .int (1 : Int32), .int 0, .int 0, .int 0]))] := hD
  refine lv_aload_n hx hb dX4_init_30 rfl (lv_at hl 0 rfl) ?_
  refine va_new (ci := 7) (fs := [.null, .null, .int 0]) (C := RX3) (T := TX3) (N := 3) hx hb hts hinX3 tyX3 tyX3_ok hown (hts (Cond.classLink RX4 25 RX3) (bx0 (by decide +kernel))) (hts (Cond.instantiable RX3 3) (bx0 (by decide +kernel))) (hts (Cond.initialized RX3) (bx0 (by decide +kernel))) hK hP hD hS hA rfl (fun j hj => by rcases (show j = 0 ∨ j = 1 ∨ j = 2 by omega) with rfl | rfl | rfl <;> rfl) (Nat.le_of_ble_eq_true rfl) (Nat.le_of_ble_eq_true rfl) dX4_init_31 (fun a5 H hP hD hS => ?_)
  have hP : va_P D vwCl [(w1, .inr (8, [.ref a1, .ref a3, .null, .null])), (a1, .inr (6, [.ref (u2 0), .ref (u2 1), .int 0])), ((u2 0), .inl (kI, 60, .inl (fun _ => 0))), ((u2 1), .inl (kI, 60, .inl (fun _ => 0))), (a3, .inr (5, [.ref a1, .int (1 : Int32), .int 0, .int 0, .int 0])), (a5, .inr (7, [.null, .null, .int 0]))] H := hP
  have hD : va_D A [(w1, .inr (8, [.ref a1, .ref a3, .null, .null])), (a1, .inr (6, [.ref (u2 0), .ref (u2 1), .int 0])), ((u2 0), .inl (kI, 60, .inl (fun _ => 0))), ((u2 1), .inl (kI, 60, .inl (fun _ => 0))), (a3, .inr (5, [.ref a1, .int (1 : Int32), .int 0, .int 0, .int 0])), (a5, .inr (7, [.null, .null, .int 0]))] := hD
  refine lv_dup hx hb dX4_init_34 rfl ?_
  refine lv_aload_n hx hb dX4_init_35 rfl (lv_at hl 0 rfl) ?_
  refine va_get (D := D) (ci := 8) (v := .ref a1) (C := RX4) (T := TX4) (N := 4) hx hb hts hinX4 hown hK hP 0 rfl rfl 0 (by decide) (hts _ fk_X4_10) (fun _ h9 => h9) rfl dX4_init_36 ?_
  refine xc_call (wr := [(w1, .inr (8, [.ref a1, .ref a3, .null, .null])), (a1, .inr (6, [.ref (u2 0), .ref (u2 1), .int 0])), ((u2 0), .inl (kI, 60, .inl (fun _ => 0))), ((u2 1), .inl (kI, 60, .inl (fun _ => 0))), (a3, .inr (5, [.ref a1, .int (1 : Int32), .int 0, .int 0, .int 0]))]) (W1 := (fun u => [(a5, .inr (7, [.ref a1, .ref (u 0), .int 0])), ((u 0), .inl (kI, 24, .inl (fun _ => 0)))])) (ws' := (fun u => [(w1, .inr (8, [.ref a1, .ref a3, .null, .null])), (a1, .inr (6, [.ref (u2 0), .ref (u2 1), .int 0])), ((u2 0), .inl (kI, 60, .inl (fun _ => 0))), ((u2 1), .inl (kI, 60, .inl (fun _ => 0))), (a3, .inr (5, [.ref a1, .int (1 : Int32), .int 0, .int 0, .int 0])), (a5, .inr (7, [.ref a1, .ref (u 0), .int 0])), ((u 0), .inl (kI, 24, .inl (fun _ => 0)))])) (va_runI (As := [.ref a1]) (rest := [.ref a5, .ref w1]) ⟨hx, hb, hml, hown, hts⟩ (ct_X3 l D _ kI kJ a5 a1) (cwI 1 hts (gdC (bx1 gc_X3_init)) rfl rfl rfl (hts (Cond.initialized RX3) (bx0 (by decide +kernel))) (hts (Cond.methodLink RX4 27 yX3_init) (bx0 (by decide +kernel))) (hts _ im_X3_init) rfl (by decide +kernel) ⟨Nat.le_of_ble_eq_true rfl, Nat.le_of_ble_eq_true rfl⟩) (xw_preS nB_mv hN hK hP hD [5] [] rfl (by decide) rfl rfl) rfl rfl hl.1 rfl (lv_room (Nat.le_of_ble_eq_true rfl)) dX4_init_39 ⟨Nat.le_of_ble_eq_true rfl, Nat.le_of_ble_eq_true rfl⟩) hP hD hS hA [5] [0, 1, 2, 3, 4] rfl rfl (by decide) (by decide) [0, 1, 2, 3, 4, 5, 6] (fun _ => rfl) (by decide) (fun _ => rfl) (fun u6 H locs hP hD hS => ?_)
  have hP : va_P D vwCl [(w1, .inr (8, [.ref a1, .ref a3, .null, .null])), (a1, .inr (6, [.ref (u2 0), .ref (u2 1), .int 0])), ((u2 0), .inl (kI, 60, .inl (fun _ => 0))), ((u2 1), .inl (kI, 60, .inl (fun _ => 0))), (a3, .inr (5, [.ref a1, .int (1 : Int32), .int 0, .int 0, .int 0])), (a5, .inr (7, [.ref a1, .ref (u6 0), .int 0])), ((u6 0), .inl (kI, 24, .inl (fun _ => 0)))] H := hP
  have hD : va_D A [(w1, .inr (8, [.ref a1, .ref a3, .null, .null])), (a1, .inr (6, [.ref (u2 0), .ref (u2 1), .int 0])), ((u2 0), .inl (kI, 60, .inl (fun _ => 0))), ((u2 1), .inl (kI, 60, .inl (fun _ => 0))), (a3, .inr (5, [.ref a1, .int (1 : Int32), .int 0, .int 0, .int 0])), (a5, .inr (7, [.ref a1, .ref (u6 0), .int 0])), ((u6 0), .inl (kI, 24, .inl (fun _ => 0)))] := hD
  refine va_putF (D := D) (ci := 8) (v := .ref a5) (ty := tyX4 2) (C := RX4) (T := TX4) (N := 4) hx hb hts hinX4 tyX4 tyX4_ok nmX4 hown hK hP hD hS 0 rfl rfl 2 (by decide) (hts _ fk_X4_28) (fun _ h9 => h9) rfl hin rfl (by decide +kernel) rfl rfl (Nat.le_of_ble_eq_true rfl) dX4_init_42 (fun H locs hP hD hS => ?_)
  have hP : va_P D vwCl [(w1, .inr (8, [.ref a1, .ref a3, .ref a5, .null])), (a1, .inr (6, [.ref (u2 0), .ref (u2 1), .int 0])), ((u2 0), .inl (kI, 60, .inl (fun _ => 0))), ((u2 1), .inl (kI, 60, .inl (fun _ => 0))), (a3, .inr (5, [.ref a1, .int (1 : Int32), .int 0, .int 0, .int 0])), (a5, .inr (7, [.ref a1, .ref (u6 0), .int 0])), ((u6 0), .inl (kI, 24, .inl (fun _ => 0)))] H := hP
  have hD : va_D A [(w1, .inr (8, [.ref a1, .ref a3, .ref a5, .null])), (a1, .inr (6, [.ref (u2 0), .ref (u2 1), .int 0])), ((u2 0), .inl (kI, 60, .inl (fun _ => 0))), ((u2 1), .inl (kI, 60, .inl (fun _ => 0))), (a3, .inr (5, [.ref a1, .int (1 : Int32), .int 0, .int 0, .int 0])), (a5, .inr (7, [.ref a1, .ref (u6 0), .int 0])), ((u6 0), .inl (kI, 24, .inl (fun _ => 0)))] := hD
  refine lv_aload_n hx hb dX4_init_45 rfl (lv_at hl 0 rfl) ?_
  refine va_new (ci := 4) (fs := [.null, .null, .null, .null, .int 0, .int 0, .int 0, .int 0, .int 0]) (C := RX0) (T := TX0) (N := 9) hx hb hts hinX0 tyX0 tyX0_ok hown (hts (Cond.classLink RX4 32 RX0) (bx0 (by decide +kernel))) (hts (Cond.instantiable RX0 9) (bx0 (by decide +kernel))) (hts (Cond.initialized RX0) (bx0 (by decide +kernel))) hK hP hD hS hA rfl (fun j hj => by rcases (show j = 0 ∨ j = 1 ∨ j = 2 ∨ j = 3 ∨ j = 4 ∨ j = 5 ∨ j = 6 ∨ j = 7 ∨ j = 8 by omega) with rfl | rfl | rfl | rfl | rfl | rfl | rfl | rfl | rfl <;> rfl) (Nat.le_of_ble_eq_true rfl) (Nat.le_of_ble_eq_true rfl) dX4_init_46 (fun a7 H hP hD hS => ?_)
  have hP : va_P D vwCl [(w1, .inr (8, [.ref a1, .ref a3, .ref a5, .null])), (a1, .inr (6, [.ref (u2 0), .ref (u2 1), .int 0])), ((u2 0), .inl (kI, 60, .inl (fun _ => 0))), ((u2 1), .inl (kI, 60, .inl (fun _ => 0))), (a3, .inr (5, [.ref a1, .int (1 : Int32), .int 0, .int 0, .int 0])), (a5, .inr (7, [.ref a1, .ref (u6 0), .int 0])), ((u6 0), .inl (kI, 24, .inl (fun _ => 0))), (a7, .inr (4, [.null, .null, .null, .null, .int 0, .int 0, .int 0, .int 0, .int 0]))] H := hP
  have hD : va_D A [(w1, .inr (8, [.ref a1, .ref a3, .ref a5, .null])), (a1, .inr (6, [.ref (u2 0), .ref (u2 1), .int 0])), ((u2 0), .inl (kI, 60, .inl (fun _ => 0))), ((u2 1), .inl (kI, 60, .inl (fun _ => 0))), (a3, .inr (5, [.ref a1, .int (1 : Int32), .int 0, .int 0, .int 0])), (a5, .inr (7, [.ref a1, .ref (u6 0), .int 0])), ((u6 0), .inl (kI, 24, .inl (fun _ => 0))), (a7, .inr (4, [.null, .null, .null, .null, .int 0, .int 0, .int 0, .int 0, .int 0]))] := hD
  refine lv_dup hx hb dX4_init_49 rfl ?_
  refine xc_call (wr := [(w1, .inr (8, [.ref a1, .ref a3, .ref a5, .null])), (a1, .inr (6, [.ref (u2 0), .ref (u2 1), .int 0])), ((u2 0), .inl (kI, 60, .inl (fun _ => 0))), ((u2 1), .inl (kI, 60, .inl (fun _ => 0))), (a3, .inr (5, [.ref a1, .int (1 : Int32), .int 0, .int 0, .int 0])), (a5, .inr (7, [.ref a1, .ref (u6 0), .int 0])), ((u6 0), .inl (kI, 24, .inl (fun _ => 0)))]) (W1 := (fun u => [(a7, .inr (4, [.ref (u 0), .ref (u 1), .ref (u 2), .ref (u 3), .int 0, .int 0, .int 0, .int 0, .int 0])), ((u 0), .inl (kJ, 12, .inr (.inl (fun _ => 0)))), ((u 1), .inl (kJ, 12, .inr (.inl (fun _ => 0)))), ((u 2), .inl (kJ, 12, .inr (.inl (fun _ => 0)))), ((u 3), .inl (kI, 12, .inl (fun _ => 0)))])) (ws' := (fun u => [(w1, .inr (8, [.ref a1, .ref a3, .ref a5, .null])), (a1, .inr (6, [.ref (u2 0), .ref (u2 1), .int 0])), ((u2 0), .inl (kI, 60, .inl (fun _ => 0))), ((u2 1), .inl (kI, 60, .inl (fun _ => 0))), (a3, .inr (5, [.ref a1, .int (1 : Int32), .int 0, .int 0, .int 0])), (a5, .inr (7, [.ref a1, .ref (u6 0), .int 0])), ((u6 0), .inl (kI, 24, .inl (fun _ => 0))), (a7, .inr (4, [.ref (u 0), .ref (u 1), .ref (u 2), .ref (u 3), .int 0, .int 0, .int 0, .int 0, .int 0])), ((u 0), .inl (kJ, 12, .inr (.inl (fun _ => 0)))), ((u 1), .inl (kJ, 12, .inr (.inl (fun _ => 0)))), ((u 2), .inl (kJ, 12, .inr (.inl (fun _ => 0)))), ((u 3), .inl (kI, 12, .inl (fun _ => 0)))])) (va_runIN (As := []) (rest := [.ref a7, .ref w1]) ⟨hx, hb, hml, hown, hts⟩ (ct_X0 l D _ kI kJ a7 ) ⟨va_cnB 0 hts (gdC (bx1 gc_X0_init)) rfl rfl rfl hN.1.2.2 (hts (Cond.initialized RX0) (bx0 (by decide +kernel))) (by decide +kernel) ⟨Nat.le_of_ble_eq_true rfl, Nat.le_of_ble_eq_true rfl⟩, rfl, hts _ im_X0_init⟩ (xw_preS nB_mv hN hK hP hD [7] [] rfl (by decide) rfl rfl) rfl rfl hl.1 rfl (lv_room (Nat.le_of_ble_eq_true rfl)) dX4_init_50 ⟨Nat.le_of_ble_eq_true rfl, Nat.le_of_ble_eq_true rfl⟩) hP hD hS hA [7] [0, 1, 2, 3, 4, 5, 6] rfl rfl (by decide) (by decide) [0, 1, 2, 3, 4, 5, 6, 7, 8, 9, 10, 11] (fun _ => rfl) (by decide) (fun _ => rfl) (fun u8 H locs hP hD hS => ?_)
  have hP : va_P D vwCl [(w1, .inr (8, [.ref a1, .ref a3, .ref a5, .null])), (a1, .inr (6, [.ref (u2 0), .ref (u2 1), .int 0])), ((u2 0), .inl (kI, 60, .inl (fun _ => 0))), ((u2 1), .inl (kI, 60, .inl (fun _ => 0))), (a3, .inr (5, [.ref a1, .int (1 : Int32), .int 0, .int 0, .int 0])), (a5, .inr (7, [.ref a1, .ref (u6 0), .int 0])), ((u6 0), .inl (kI, 24, .inl (fun _ => 0))), (a7, .inr (4, [.ref (u8 0), .ref (u8 1), .ref (u8 2), .ref (u8 3), .int 0, .int 0, .int 0, .int 0, .int 0])), ((u8 0), .inl (kJ, 12, .inr (.inl (fun _ => 0)))), ((u8 1), .inl (kJ, 12, .inr (.inl (fun _ => 0)))), ((u8 2), .inl (kJ, 12, .inr (.inl (fun _ => 0)))), ((u8 3), .inl (kI, 12, .inl (fun _ => 0)))] H := hP
  have hD : va_D A [(w1, .inr (8, [.ref a1, .ref a3, .ref a5, .null])), (a1, .inr (6, [.ref (u2 0), .ref (u2 1), .int 0])), ((u2 0), .inl (kI, 60, .inl (fun _ => 0))), ((u2 1), .inl (kI, 60, .inl (fun _ => 0))), (a3, .inr (5, [.ref a1, .int (1 : Int32), .int 0, .int 0, .int 0])), (a5, .inr (7, [.ref a1, .ref (u6 0), .int 0])), ((u6 0), .inl (kI, 24, .inl (fun _ => 0))), (a7, .inr (4, [.ref (u8 0), .ref (u8 1), .ref (u8 2), .ref (u8 3), .int 0, .int 0, .int 0, .int 0, .int 0])), ((u8 0), .inl (kJ, 12, .inr (.inl (fun _ => 0)))), ((u8 1), .inl (kJ, 12, .inr (.inl (fun _ => 0)))), ((u8 2), .inl (kJ, 12, .inr (.inl (fun _ => 0)))), ((u8 3), .inl (kI, 12, .inl (fun _ => 0)))] := hD
  refine va_putF (D := D) (ci := 8) (v := .ref a7) (ty := tyX4 3) (C := RX4) (T := TX4) (N := 4) hx hb hts hinX4 tyX4 tyX4_ok nmX4 hown hK hP hD hS 0 rfl rfl 3 (by decide) (hts _ fk_X4_35) (fun _ h9 => h9) rfl hin rfl (by decide +kernel) rfl rfl (Nat.le_of_ble_eq_true rfl) dX4_init_53 (fun H locs hP hD hS => ?_)
  have hP : va_P D vwCl [(w1, .inr (8, [.ref a1, .ref a3, .ref a5, .ref a7])), (a1, .inr (6, [.ref (u2 0), .ref (u2 1), .int 0])), ((u2 0), .inl (kI, 60, .inl (fun _ => 0))), ((u2 1), .inl (kI, 60, .inl (fun _ => 0))), (a3, .inr (5, [.ref a1, .int (1 : Int32), .int 0, .int 0, .int 0])), (a5, .inr (7, [.ref a1, .ref (u6 0), .int 0])), ((u6 0), .inl (kI, 24, .inl (fun _ => 0))), (a7, .inr (4, [.ref (u8 0), .ref (u8 1), .ref (u8 2), .ref (u8 3), .int 0, .int 0, .int 0, .int 0, .int 0])), ((u8 0), .inl (kJ, 12, .inr (.inl (fun _ => 0)))), ((u8 1), .inl (kJ, 12, .inr (.inl (fun _ => 0)))), ((u8 2), .inl (kJ, 12, .inr (.inl (fun _ => 0)))), ((u8 3), .inl (kI, 12, .inl (fun _ => 0)))] H := hP
  have hD : va_D A [(w1, .inr (8, [.ref a1, .ref a3, .ref a5, .ref a7])), (a1, .inr (6, [.ref (u2 0), .ref (u2 1), .int 0])), ((u2 0), .inl (kI, 60, .inl (fun _ => 0))), ((u2 1), .inl (kI, 60, .inl (fun _ => 0))), (a3, .inr (5, [.ref a1, .int (1 : Int32), .int 0, .int 0, .int 0])), (a5, .inr (7, [.ref a1, .ref (u6 0), .int 0])), ((u6 0), .inl (kI, 24, .inl (fun _ => 0))), (a7, .inr (4, [.ref (u8 0), .ref (u8 1), .ref (u8 2), .ref (u8 3), .int 0, .int 0, .int 0, .int 0, .int 0])), ((u8 0), .inl (kJ, 12, .inr (.inl (fun _ => 0)))), ((u8 1), .inl (kJ, 12, .inr (.inl (fun _ => 0)))), ((u8 2), .inl (kJ, 12, .inr (.inl (fun _ => 0)))), ((u8 3), .inl (kI, 12, .inl (fun _ => 0)))] := hD
  refine W.widen (k := 11) (n := 212) (Nat.le_of_ble_eq_true rfl) (Nat.le_of_ble_eq_true rfl) ?_
  exact W.vret hx hb hr (fun t ht hW => ⟨⟨rfl, fun k => match k with | 0 => a1 | 1 => (u2 0) | 2 => (u2 1) | 3 => a3 | 4 => a5 | 5 => (u6 0) | 6 => a7 | 7 => (u8 0) | 8 => (u8 1) | 9 => (u8 2) | 10 => (u8 3) | _ => 0, by rw [ht]; exact hP, by rw [hAe]; exact hD⟩, by rw [hAe]; exact hS.F ht⟩) hS.2.2 dX4_init_56
set_option maxHeartbeats 4000000 in
set_option maxRecDepth 100000 in
theorem ct_X5 (l : Launch) (D : va_G) (sz : Nat) (kI kJ : ClassId) (w1 : Nat) : Met l yX5_init (Cond.code yX5_init cX5_init 2 none :: BY) ({ frames := 1, cells := 6, slots := 180, locals := 60 }) (xw_P (nB kI kJ) D vwCl [(kI, .int), (kJ, .long)] [(w1, .inr (9, [.int 0, .int 0, .null, .null, .int 0, .null, .int 0, .int 0, .int 0, .int 0, .int 0, .null, .null, .null]))] sz [.ref w1]) (xc_Q D vwCl (fun u => [(w1, .inr (9, [.int 0, .int 0, .ref (u 0), .ref (u 1), .int 0, .ref (u 2), .int (1 : Int32), .int 0, .int 0, .int 0, .int 0, .ref (u 3), .ref (u 4), .ref (u 5)])), ((u 0), .inl (kI, 60, .inl (fun _ => 0))), ((u 1), .inl (kI, 60, .inl (fun _ => 0))), ((u 2), .inl (kI, 24, .inl (hNone 25 0 (fun _ => 0)))), ((u 3), .inl (kJ, 12, .inr (.inl (fun _ => 0)))), ((u 4), .inl (kJ, 12, .inr (.inl (fun _ => 0)))), ((u 5), .inl (kJ, 12, .inr (.inl (fun _ => 0))))]) [(w1, .inr (9, [.int 0, .int 0, .null, .null, .int 0, .null, .int 0, .int 0, .int 0, .int 0, .int 0, .null, .null, .null]))] sz) 6 180 (va_A [(w1, .inr (9, [.int 0, .int 0, .null, .null, .int 0, .null, .int 0, .int 0, .int 0, .int 0, .int 0, .null, .null, .null]))] sz) := by
  refine Met.ofW (cc := cX5_init) (maxL := 2) (ret := none) (by decide) rfl ?_
  intro p e s m args below meth c s₁ B hml hv
  obtain ⟨rfl, hsz, hP, hK, hN, hD0⟩ := hv
  have hx := B.exec
  have hb := B.bytes
  have hr := B.returns
  have hts0 := atoms_spec (ws := Cond.code yX5_init cX5_init 2 none :: BY) B.pre
  have hts : ∀ w ∈ BY, w.before _ s = true := fun w h => hts0 w (List.mem_cons_of_mem _ h)
  have hown : s.vm.findClass RX5 = some m.cls := findClass_of_methodNamed B.named
  have hlocks := B.notSynchronized
  have hin : meth.name = "<init>" := (name_of_methodNamed B.named B.method).1
  subst hsz
  have hD := hD0.self (sz := s.heap.size)
  generalize hAe : va_A [(w1, .inr (9, [.int 0, .int 0, .null, .null, .int 0, .null, .int 0, .int 0, .int 0, .int 0, .int 0, .null, .null, .null]))] s.heap.size = A at hD ⊢
  have hA : ∀ q : Nat, s.heap.size ≤ q → A q := fun q h => by rw [← hAe]; exact Or.inr h
  have hS : va_S A s.heap s.heap [] := va_S.rf
  have hl := lv_entry ([.ref w1]) (n := 2) (Nat.le_of_ble_eq_true rfl)
  rw [lg_entry_eq]
  generalize (lg_sl ([.ref w1]) ++ List.replicate (2 - (lg_sl ([.ref w1])).length) Slot.unset).toArray = ls at hl ⊢
  have hl : lv_has ls 2 [(0, .ref w1)] := hl
  refine lv_aload_n hx hb dX5_init_0 rfl (lv_at hl 0 rfl) ?_
  refine W.objInit hx hb hown (hts (Cond.methodLink RX5 7 objectInit) (by0 (by decide +kernel))) (hts (Cond.instanceMethod objectInit) (by0 (by decide +kernel))) (hts _ (by1 (List.mem_of_getElem? (i := 3) rfl))) rfl (by rw [hml]; exact hl.1) rfl dX5_init_1 (Nat.le_of_ble_eq_true rfl) (Nat.le_of_ble_eq_true rfl) ?_
  refine W.eq (g2 := F0 m 4 ls []) rfl ?_
  refine lv_aload_n hx hb dX5_init_4 rfl (lv_at hl 0 rfl) ?_
  refine lv_bipush (v := 60) hx hb dX5_init_5 (by decide) ?_
  refine xn_newa (atype := .int) (kA := kI) (n := 60) (N' := 60) (a0 := (60, .inl (fun _ => 0))) hx hb (hts (Cond.arrayClass .int) (by0 (by decide +kernel))) hN.2.1 hP hD hS hA (fun _ => rfl) (by decide) rfl (by decide) (Nat.le_of_ble_eq_true rfl) (Nat.le_of_ble_eq_true rfl) dX5_init_7 (fun a1 H hP hD hS => ?_)
  have hP : va_P D vwCl [(w1, .inr (9, [.int 0, .int 0, .null, .null, .int 0, .null, .int 0, .int 0, .int 0, .int 0, .int 0, .null, .null, .null])), (a1, .inl (kI, 60, .inl (fun _ => 0)))] H := hP
  have hD : va_D A [(w1, .inr (9, [.int 0, .int 0, .null, .null, .int 0, .null, .int 0, .int 0, .int 0, .int 0, .int 0, .null, .null, .null])), (a1, .inl (kI, 60, .inl (fun _ => 0)))] := hD
  refine va_putF (D := D) (ci := 9) (v := .ref a1) (ty := tyX5 2) (C := RX5) (T := TX5) (N := 14) hx hb hts hinX5 tyX5 tyX5_ok nmX5 hown hK hP hD hS 0 rfl rfl 2 (by decide) (hts _ fk_X5_13) (fun _ h9 => h9) rfl hin rfl (by decide +kernel) rfl rfl (Nat.le_of_ble_eq_true rfl) dX5_init_9 (fun H locs hP hD hS => ?_)
  have hP : va_P D vwCl [(w1, .inr (9, [.int 0, .int 0, .ref a1, .null, .int 0, .null, .int 0, .int 0, .int 0, .int 0, .int 0, .null, .null, .null])), (a1, .inl (kI, 60, .inl (fun _ => 0)))] H := hP
  have hD : va_D A [(w1, .inr (9, [.int 0, .int 0, .ref a1, .null, .int 0, .null, .int 0, .int 0, .int 0, .int 0, .int 0, .null, .null, .null])), (a1, .inl (kI, 60, .inl (fun _ => 0)))] := hD
  refine lv_aload_n hx hb dX5_init_12 rfl (lv_at hl 0 rfl) ?_
  refine lv_bipush (v := 60) hx hb dX5_init_13 (by decide) ?_
  refine xn_newa (atype := .int) (kA := kI) (n := 60) (N' := 60) (a0 := (60, .inl (fun _ => 0))) hx hb (hts (Cond.arrayClass .int) (by0 (by decide +kernel))) hN.2.1 hP hD hS hA (fun _ => rfl) (by decide) rfl (by decide) (Nat.le_of_ble_eq_true rfl) (Nat.le_of_ble_eq_true rfl) dX5_init_15 (fun a2 H hP hD hS => ?_)
  have hP : va_P D vwCl [(w1, .inr (9, [.int 0, .int 0, .ref a1, .null, .int 0, .null, .int 0, .int 0, .int 0, .int 0, .int 0, .null, .null, .null])), (a1, .inl (kI, 60, .inl (fun _ => 0))), (a2, .inl (kI, 60, .inl (fun _ => 0)))] H := hP
  have hD : va_D A [(w1, .inr (9, [.int 0, .int 0, .ref a1, .null, .int 0, .null, .int 0, .int 0, .int 0, .int 0, .int 0, .null, .null, .null])), (a1, .inl (kI, 60, .inl (fun _ => 0))), (a2, .inl (kI, 60, .inl (fun _ => 0)))] := hD
  refine va_putF (D := D) (ci := 9) (v := .ref a2) (ty := tyX5 3) (C := RX5) (T := TX5) (N := 14) hx hb hts hinX5 tyX5 tyX5_ok nmX5 hown hK hP hD hS 0 rfl rfl 3 (by decide) (hts _ fk_X5_17) (fun _ h9 => h9) rfl hin rfl (by decide +kernel) rfl rfl (Nat.le_of_ble_eq_true rfl) dX5_init_17 (fun H locs hP hD hS => ?_)
  have hP : va_P D vwCl [(w1, .inr (9, [.int 0, .int 0, .ref a1, .ref a2, .int 0, .null, .int 0, .int 0, .int 0, .int 0, .int 0, .null, .null, .null])), (a1, .inl (kI, 60, .inl (fun _ => 0))), (a2, .inl (kI, 60, .inl (fun _ => 0)))] H := hP
  have hD : va_D A [(w1, .inr (9, [.int 0, .int 0, .ref a1, .ref a2, .int 0, .null, .int 0, .int 0, .int 0, .int 0, .int 0, .null, .null, .null])), (a1, .inl (kI, 60, .inl (fun _ => 0))), (a2, .inl (kI, 60, .inl (fun _ => 0)))] := hD
  refine lv_aload_n hx hb dX5_init_20 rfl (lv_at hl 0 rfl) ?_
  refine lv_bipush (v := 24) hx hb dX5_init_21 (by decide) ?_
  refine xn_newa (atype := .int) (kA := kI) (n := 24) (N' := 24) (a0 := (24, .inl (fun _ => 0))) hx hb (hts (Cond.arrayClass .int) (by0 (by decide +kernel))) hN.2.1 hP hD hS hA (fun _ => rfl) (by decide) rfl (by decide) (Nat.le_of_ble_eq_true rfl) (Nat.le_of_ble_eq_true rfl) dX5_init_23 (fun a3 H hP hD hS => ?_)
  have hP : va_P D vwCl [(w1, .inr (9, [.int 0, .int 0, .ref a1, .ref a2, .int 0, .null, .int 0, .int 0, .int 0, .int 0, .int 0, .null, .null, .null])), (a1, .inl (kI, 60, .inl (fun _ => 0))), (a2, .inl (kI, 60, .inl (fun _ => 0))), (a3, .inl (kI, 24, .inl (fun _ => 0)))] H := hP
  have hD : va_D A [(w1, .inr (9, [.int 0, .int 0, .ref a1, .ref a2, .int 0, .null, .int 0, .int 0, .int 0, .int 0, .int 0, .null, .null, .null])), (a1, .inl (kI, 60, .inl (fun _ => 0))), (a2, .inl (kI, 60, .inl (fun _ => 0))), (a3, .inl (kI, 24, .inl (fun _ => 0)))] := hD
  refine va_putF (D := D) (ci := 9) (v := .ref a3) (ty := tyX5 5) (C := RX5) (T := TX5) (N := 14) hx hb hts hinX5 tyX5 tyX5_ok nmX5 hown hK hP hD hS 0 rfl rfl 5 (by decide) (hts _ fk_X5_20) (fun _ h9 => h9) rfl hin rfl (by decide +kernel) rfl rfl (Nat.le_of_ble_eq_true rfl) dX5_init_25 (fun H locs hP hD hS => ?_)
  have hP : va_P D vwCl [(w1, .inr (9, [.int 0, .int 0, .ref a1, .ref a2, .int 0, .ref a3, .int 0, .int 0, .int 0, .int 0, .int 0, .null, .null, .null])), (a1, .inl (kI, 60, .inl (fun _ => 0))), (a2, .inl (kI, 60, .inl (fun _ => 0))), (a3, .inl (kI, 24, .inl (fun _ => 0)))] H := hP
  have hD : va_D A [(w1, .inr (9, [.int 0, .int 0, .ref a1, .ref a2, .int 0, .ref a3, .int 0, .int 0, .int 0, .int 0, .int 0, .null, .null, .null])), (a1, .inl (kI, 60, .inl (fun _ => 0))), (a2, .inl (kI, 60, .inl (fun _ => 0))), (a3, .inl (kI, 24, .inl (fun _ => 0)))] := hD
  refine lv_aload_n hx hb dX5_init_28 rfl (lv_at hl 0 rfl) ?_
  refine lv_iconst (v := 1) hx hb dX5_init_29 (by decide) ?_
  refine va_put (D := D) (ci := 9) (v := .int (1 : Int32)) (ty := tyX5 6) (C := RX5) (T := TX5) (N := 14) hx hb hts hinX5 tyX5 tyX5_ok nmX5 hown hK hP hD hS 0 rfl rfl 6 (by decide) (hts _ fk_X5_23) (fun _ h9 => h9) rfl (by decide +kernel) rfl rfl (Nat.le_of_ble_eq_true rfl) dX5_init_30 (fun H locs hP hD hS => ?_)
  have hP : va_P D vwCl [(w1, .inr (9, [.int 0, .int 0, .ref a1, .ref a2, .int 0, .ref a3, .int (1 : Int32), .int 0, .int 0, .int 0, .int 0, .null, .null, .null])), (a1, .inl (kI, 60, .inl (fun _ => 0))), (a2, .inl (kI, 60, .inl (fun _ => 0))), (a3, .inl (kI, 24, .inl (fun _ => 0)))] H := hP
  have hD : va_D A [(w1, .inr (9, [.int 0, .int 0, .ref a1, .ref a2, .int 0, .ref a3, .int (1 : Int32), .int 0, .int 0, .int 0, .int 0, .null, .null, .null])), (a1, .inl (kI, 60, .inl (fun _ => 0))), (a2, .inl (kI, 60, .inl (fun _ => 0))), (a3, .inl (kI, 24, .inl (fun _ => 0)))] := hD
  refine lv_aload_n hx hb dX5_init_33 rfl (lv_at hl 0 rfl) ?_
  refine lv_bipush (v := 12) hx hb dX5_init_34 (by decide) ?_
  refine xn_newa (atype := .long) (kA := kJ) (n := 12) (N' := 12) (a0 := (12, .inr (.inl (fun _ => 0)))) hx hb (hts (Cond.arrayClass .long) (by0 (by decide +kernel))) hN.2.2 hP hD hS hA (fun _ => rfl) (by decide) rfl (by decide) (Nat.le_of_ble_eq_true rfl) (Nat.le_of_ble_eq_true rfl) dX5_init_36 (fun a4 H hP hD hS => ?_)
  have hP : va_P D vwCl [(w1, .inr (9, [.int 0, .int 0, .ref a1, .ref a2, .int 0, .ref a3, .int (1 : Int32), .int 0, .int 0, .int 0, .int 0, .null, .null, .null])), (a1, .inl (kI, 60, .inl (fun _ => 0))), (a2, .inl (kI, 60, .inl (fun _ => 0))), (a3, .inl (kI, 24, .inl (fun _ => 0))), (a4, .inl (kJ, 12, .inr (.inl (fun _ => 0))))] H := hP
  have hD : va_D A [(w1, .inr (9, [.int 0, .int 0, .ref a1, .ref a2, .int 0, .ref a3, .int (1 : Int32), .int 0, .int 0, .int 0, .int 0, .null, .null, .null])), (a1, .inl (kI, 60, .inl (fun _ => 0))), (a2, .inl (kI, 60, .inl (fun _ => 0))), (a3, .inl (kI, 24, .inl (fun _ => 0))), (a4, .inl (kJ, 12, .inr (.inl (fun _ => 0))))] := hD
  refine va_putF (D := D) (ci := 9) (v := .ref a4) (ty := tyX5 11) (C := RX5) (T := TX5) (N := 14) hx hb hts hinX5 tyX5 tyX5_ok nmX5 hown hK hP hD hS 0 rfl rfl 11 (by decide) (hts _ fk_X5_27) (fun _ h9 => h9) rfl hin rfl (by decide +kernel) rfl rfl (Nat.le_of_ble_eq_true rfl) dX5_init_38 (fun H locs hP hD hS => ?_)
  have hP : va_P D vwCl [(w1, .inr (9, [.int 0, .int 0, .ref a1, .ref a2, .int 0, .ref a3, .int (1 : Int32), .int 0, .int 0, .int 0, .int 0, .ref a4, .null, .null])), (a1, .inl (kI, 60, .inl (fun _ => 0))), (a2, .inl (kI, 60, .inl (fun _ => 0))), (a3, .inl (kI, 24, .inl (fun _ => 0))), (a4, .inl (kJ, 12, .inr (.inl (fun _ => 0))))] H := hP
  have hD : va_D A [(w1, .inr (9, [.int 0, .int 0, .ref a1, .ref a2, .int 0, .ref a3, .int (1 : Int32), .int 0, .int 0, .int 0, .int 0, .ref a4, .null, .null])), (a1, .inl (kI, 60, .inl (fun _ => 0))), (a2, .inl (kI, 60, .inl (fun _ => 0))), (a3, .inl (kI, 24, .inl (fun _ => 0))), (a4, .inl (kJ, 12, .inr (.inl (fun _ => 0))))] := hD
  refine lv_aload_n hx hb dX5_init_41 rfl (lv_at hl 0 rfl) ?_
  refine lv_bipush (v := 12) hx hb dX5_init_42 (by decide) ?_
  refine xn_newa (atype := .long) (kA := kJ) (n := 12) (N' := 12) (a0 := (12, .inr (.inl (fun _ => 0)))) hx hb (hts (Cond.arrayClass .long) (by0 (by decide +kernel))) hN.2.2 hP hD hS hA (fun _ => rfl) (by decide) rfl (by decide) (Nat.le_of_ble_eq_true rfl) (Nat.le_of_ble_eq_true rfl) dX5_init_44 (fun a5 H hP hD hS => ?_)
  have hP : va_P D vwCl [(w1, .inr (9, [.int 0, .int 0, .ref a1, .ref a2, .int 0, .ref a3, .int (1 : Int32), .int 0, .int 0, .int 0, .int 0, .ref a4, .null, .null])), (a1, .inl (kI, 60, .inl (fun _ => 0))), (a2, .inl (kI, 60, .inl (fun _ => 0))), (a3, .inl (kI, 24, .inl (fun _ => 0))), (a4, .inl (kJ, 12, .inr (.inl (fun _ => 0)))), (a5, .inl (kJ, 12, .inr (.inl (fun _ => 0))))] H := hP
  have hD : va_D A [(w1, .inr (9, [.int 0, .int 0, .ref a1, .ref a2, .int 0, .ref a3, .int (1 : Int32), .int 0, .int 0, .int 0, .int 0, .ref a4, .null, .null])), (a1, .inl (kI, 60, .inl (fun _ => 0))), (a2, .inl (kI, 60, .inl (fun _ => 0))), (a3, .inl (kI, 24, .inl (fun _ => 0))), (a4, .inl (kJ, 12, .inr (.inl (fun _ => 0)))), (a5, .inl (kJ, 12, .inr (.inl (fun _ => 0))))] := hD
  refine va_putF (D := D) (ci := 9) (v := .ref a5) (ty := tyX5 12) (C := RX5) (T := TX5) (N := 14) hx hb hts hinX5 tyX5 tyX5_ok nmX5 hown hK hP hD hS 0 rfl rfl 12 (by decide) (hts _ fk_X5_31) (fun _ h9 => h9) rfl hin rfl (by decide +kernel) rfl rfl (Nat.le_of_ble_eq_true rfl) dX5_init_46 (fun H locs hP hD hS => ?_)
  have hP : va_P D vwCl [(w1, .inr (9, [.int 0, .int 0, .ref a1, .ref a2, .int 0, .ref a3, .int (1 : Int32), .int 0, .int 0, .int 0, .int 0, .ref a4, .ref a5, .null])), (a1, .inl (kI, 60, .inl (fun _ => 0))), (a2, .inl (kI, 60, .inl (fun _ => 0))), (a3, .inl (kI, 24, .inl (fun _ => 0))), (a4, .inl (kJ, 12, .inr (.inl (fun _ => 0)))), (a5, .inl (kJ, 12, .inr (.inl (fun _ => 0))))] H := hP
  have hD : va_D A [(w1, .inr (9, [.int 0, .int 0, .ref a1, .ref a2, .int 0, .ref a3, .int (1 : Int32), .int 0, .int 0, .int 0, .int 0, .ref a4, .ref a5, .null])), (a1, .inl (kI, 60, .inl (fun _ => 0))), (a2, .inl (kI, 60, .inl (fun _ => 0))), (a3, .inl (kI, 24, .inl (fun _ => 0))), (a4, .inl (kJ, 12, .inr (.inl (fun _ => 0)))), (a5, .inl (kJ, 12, .inr (.inl (fun _ => 0))))] := hD
  refine lv_aload_n hx hb dX5_init_49 rfl (lv_at hl 0 rfl) ?_
  refine lv_bipush (v := 12) hx hb dX5_init_50 (by decide) ?_
  refine xn_newa (atype := .long) (kA := kJ) (n := 12) (N' := 12) (a0 := (12, .inr (.inl (fun _ => 0)))) hx hb (hts (Cond.arrayClass .long) (by0 (by decide +kernel))) hN.2.2 hP hD hS hA (fun _ => rfl) (by decide) rfl (by decide) (Nat.le_of_ble_eq_true rfl) (Nat.le_of_ble_eq_true rfl) dX5_init_52 (fun a6 H hP hD hS => ?_)
  have hP : va_P D vwCl [(w1, .inr (9, [.int 0, .int 0, .ref a1, .ref a2, .int 0, .ref a3, .int (1 : Int32), .int 0, .int 0, .int 0, .int 0, .ref a4, .ref a5, .null])), (a1, .inl (kI, 60, .inl (fun _ => 0))), (a2, .inl (kI, 60, .inl (fun _ => 0))), (a3, .inl (kI, 24, .inl (fun _ => 0))), (a4, .inl (kJ, 12, .inr (.inl (fun _ => 0)))), (a5, .inl (kJ, 12, .inr (.inl (fun _ => 0)))), (a6, .inl (kJ, 12, .inr (.inl (fun _ => 0))))] H := hP
  have hD : va_D A [(w1, .inr (9, [.int 0, .int 0, .ref a1, .ref a2, .int 0, .ref a3, .int (1 : Int32), .int 0, .int 0, .int 0, .int 0, .ref a4, .ref a5, .null])), (a1, .inl (kI, 60, .inl (fun _ => 0))), (a2, .inl (kI, 60, .inl (fun _ => 0))), (a3, .inl (kI, 24, .inl (fun _ => 0))), (a4, .inl (kJ, 12, .inr (.inl (fun _ => 0)))), (a5, .inl (kJ, 12, .inr (.inl (fun _ => 0)))), (a6, .inl (kJ, 12, .inr (.inl (fun _ => 0))))] := hD
  refine va_putF (D := D) (ci := 9) (v := .ref a6) (ty := tyX5 13) (C := RX5) (T := TX5) (N := 14) hx hb hts hinX5 tyX5 tyX5_ok nmX5 hown hK hP hD hS 0 rfl rfl 13 (by decide) (hts _ fk_X5_34) (fun _ h9 => h9) rfl hin rfl (by decide +kernel) rfl rfl (Nat.le_of_ble_eq_true rfl) dX5_init_54 (fun H locs hP hD hS => ?_)
  have hP : va_P D vwCl [(w1, .inr (9, [.int 0, .int 0, .ref a1, .ref a2, .int 0, .ref a3, .int (1 : Int32), .int 0, .int 0, .int 0, .int 0, .ref a4, .ref a5, .ref a6])), (a1, .inl (kI, 60, .inl (fun _ => 0))), (a2, .inl (kI, 60, .inl (fun _ => 0))), (a3, .inl (kI, 24, .inl (fun _ => 0))), (a4, .inl (kJ, 12, .inr (.inl (fun _ => 0)))), (a5, .inl (kJ, 12, .inr (.inl (fun _ => 0)))), (a6, .inl (kJ, 12, .inr (.inl (fun _ => 0))))] H := hP
  have hD : va_D A [(w1, .inr (9, [.int 0, .int 0, .ref a1, .ref a2, .int 0, .ref a3, .int (1 : Int32), .int 0, .int 0, .int 0, .int 0, .ref a4, .ref a5, .ref a6])), (a1, .inl (kI, 60, .inl (fun _ => 0))), (a2, .inl (kI, 60, .inl (fun _ => 0))), (a3, .inl (kI, 24, .inl (fun _ => 0))), (a4, .inl (kJ, 12, .inr (.inl (fun _ => 0)))), (a5, .inl (kJ, 12, .inr (.inl (fun _ => 0)))), (a6, .inl (kJ, 12, .inr (.inl (fun _ => 0))))] := hD
  refine lv_iconst (v := 0) hx hb dX5_init_57 (by decide) ?_
  refine lv_istore_n (lv' := [(1, .int (0 : Int32)), (0, .ref w1)]) hx hb dX5_init_58 rfl hl (by decide) rfl (fun ls hl => ?_)
  refine xr_w2 (P := fun H L ls => W p l e _ s m _ below meth c H L _ _ _ (F0 m 59 ls [])) (nL := 2) (fun (i : Int32) (hv : Nat → Int32) => [(1, .int i), (0, .ref w1)]) (fun kA (i : Int32) (hv : Nat → Int32) H L => xr_u (24 : Int32) i kA ∧ va_P D vwCl [(w1, .inr (9, [.int 0, .int 0, .ref a1, .ref a2, .int 0, .ref a3, .int (1 : Int32), .int 0, .int 0, .int 0, .int 0, .ref a4, .ref a5, .ref a6])), (a1, .inl (kI, 60, .inl (fun _ => 0))), (a2, .inl (kI, 60, .inl (fun _ => 0))), (a3, .inl (kI, 24, .inl hv)), (a4, .inl (kJ, 12, .inr (.inl (fun _ => 0)))), (a5, .inl (kJ, 12, .inr (.inl (fun _ => 0)))), (a6, .inl (kJ, 12, .inr (.inl (fun _ => 0))))] H ∧ va_D A [(w1, .inr (9, [.int 0, .int 0, .ref a1, .ref a2, .int 0, .ref a3, .int (1 : Int32), .int 0, .int 0, .int 0, .int 0, .ref a4, .ref a5, .ref a6])), (a1, .inl (kI, 60, .inl (fun _ => 0))), (a2, .inl (kI, 60, .inl (fun _ => 0))), (a3, .inl (kI, 24, .inl hv)), (a4, .inl (kJ, 12, .inr (.inl (fun _ => 0)))), (a5, .inl (kJ, 12, .inr (.inl (fun _ => 0)))), (a6, .inl (kJ, 12, .inr (.inl (fun _ => 0))))] ∧ va_S A s.heap H L ∧ hNone kA i hv = hNone 25 0 (fun _ => 0)) (fun _ _ _ _ h => xr_u0 h.1) ?_ 25 0 (fun _ => 0) _ _ ls hl ⟨xr_ub 24, hP, hD, hS, rfl⟩
  clear hl
  intro kA i hv H locs ls hl hI ihA
  obtain ⟨huA, hP, hD, hS, hLA⟩ := hI
  refine lv_iload_n hx hb dX5_init_59 rfl (lv_at hl 0 rfl) ?_
  refine lv_bipush (v := 24) hx hb dX5_init_60 (by decide) ?_
  refine lv_icmp_ge (tgt := 78) hx hb dX5_init_62 (by decide) (fun c1 => ?_) (fun c1 => ?_)
  · have eh : hv = hNone 25 0 (fun _ => 0) := by rw [← hLA, hN_s, if_pos c1]
    subst eh
    refine W.widen (k := 6) (n := 180) (Nat.le_of_ble_eq_true rfl) (Nat.le_of_ble_eq_true rfl) ?_
    exact W.vret hx hb hr (fun t ht hW => ⟨⟨rfl, fun k => match k with | 0 => a1 | 1 => a2 | 2 => a3 | 3 => a4 | 4 => a5 | 5 => a6 | _ => 0, by rw [ht]; exact hP, by rw [hAe]; exact hD⟩, by rw [hAe]; exact hS.F ht⟩) hS.2.2 dX5_init_78
  · refine lv_aload_n hx hb dX5_init_65 rfl (lv_at hl 1 rfl) ?_
    refine va_get (D := D) (ci := 9) (v := .ref a3) (C := RX5) (T := TX5) (N := 14) hx hb hts hinX5 hown hK hP 0 rfl rfl 5 (by decide) (hts _ fk_X5_20) (fun _ h9 => h9) rfl dX5_init_66 ?_
    refine lv_iload_n hx hb dX5_init_69 rfl (lv_at hl 0 rfl) ?_
    refine lv_iconst (v := (-1)) hx hb dX5_init_70 (by decide) ?_
    refine va_iast hx hb hK hP hD hS 3 0 rfl rfl (xr_in huA c1 (by decide)) dX5_init_71 (fun H locs hP hD hS => ?_)
    have hP : va_P D vwCl [(w1, .inr (9, [.int 0, .int 0, .ref a1, .ref a2, .int 0, .ref a3, .int (1 : Int32), .int 0, .int 0, .int 0, .int 0, .ref a4, .ref a5, .ref a6])), (a1, .inl (kI, 60, .inl (fun _ => 0))), (a2, .inl (kI, 60, .inl (fun _ => 0))), (a3, .inl (kI, 24, .inl (upd hv i.toNatClampNeg (-1 : Int32)))), (a4, .inl (kJ, 12, .inr (.inl (fun _ => 0)))), (a5, .inl (kJ, 12, .inr (.inl (fun _ => 0)))), (a6, .inl (kJ, 12, .inr (.inl (fun _ => 0))))] H := hP
    have hD : va_D A [(w1, .inr (9, [.int 0, .int 0, .ref a1, .ref a2, .int 0, .ref a3, .int (1 : Int32), .int 0, .int 0, .int 0, .int 0, .ref a4, .ref a5, .ref a6])), (a1, .inl (kI, 60, .inl (fun _ => 0))), (a2, .inl (kI, 60, .inl (fun _ => 0))), (a3, .inl (kI, 24, .inl (upd hv i.toNatClampNeg (-1 : Int32)))), (a4, .inl (kJ, 12, .inr (.inl (fun _ => 0)))), (a5, .inl (kJ, 12, .inr (.inl (fun _ => 0)))), (a6, .inl (kJ, 12, .inr (.inl (fun _ => 0))))] := hD
    obtain ⟨z2, ez2⟩ : ∃ y : Int32, y = i + 1 := ⟨_, rfl⟩
    refine lv_iinc (v := z2) (lv' := [(1, .int z2), (0, .ref w1)]) hx hb dX5_init_72 hl (k := 0) rfl (by rw [ez2]; rfl) (by decide) rfl (fun ls hl => ?_)
    refine lv_goto (tgt := 59) hx hb dX5_init_75 (by decide) ?_
    have hl9 := hl
    have hP9 := hP
    have hD9 := hD
    have hS9 := hS
    subst ez2
    exact ihA (i + 1) (upd hv i.toNatClampNeg (-1 : Int32)) _ _ _ (lv_sub hl9 [0, 1] rfl) ⟨xr_us huA c1, hP9, hD9, hS9, by rw [← hLA, hN_s, if_neg c1]⟩
