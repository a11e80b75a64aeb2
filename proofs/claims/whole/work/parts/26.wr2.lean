/-! Writers with loops. -/
theorem gd_lt {n i : Int32} (hc : ¬ n ≤ i) : i.toInt < n.toInt := by
  rw [Int32.le_iff_toInt_le] at hc; omega
theorem gd_odd {n i dw : Int32} {k : Nat} (h : xr_u n i k) (hd : 0 ≤ dw.toInt ∧ dw.toInt ≤ i.toInt) (hc : ¬ n ≤ i) (hn : n.toInt ≤ (12 : Nat)) : dw.toInt ≤ (12 : Nat) := by
  have := gd_lt hc; omega
theorem gd_in {n i dw : Int32} {k : Nat} (h : xr_u n i k) (hd : 0 ≤ dw.toInt ∧ dw.toInt ≤ i.toInt) (hc : ¬ n ≤ i) (hn : n.toInt ≤ (12 : Nat)) : vp_in dw 12 := by
  have := gd_lt hc
  rw [vp_in_iff]; omega
theorem gd_w0 {n i dw : Int32} (hd : 0 ≤ dw.toInt ∧ dw.toInt ≤ i.toInt) (hc : ¬ n ≤ i) : 0 ≤ dw.toInt ∧ dw.toInt ≤ (i + 1).toInt := by
  rw [xr_s1 hc]; omega
theorem gd_s {n i dw : Int32} (hd : 0 ≤ dw.toInt ∧ dw.toInt ≤ i.toInt) (hc : ¬ n ≤ i) : (dw + 1).toInt = dw.toInt + 1 := by
  have := gd_lt hc
  exact xr_s1 (n := n) (by rw [Int32.le_iff_toInt_le]; omega)
theorem gd_w1 {n i dw : Int32} (hd : 0 ≤ dw.toInt ∧ dw.toInt ≤ i.toInt) (hc : ¬ n ≤ i) : 0 ≤ (dw + 1).toInt ∧ (dw + 1).toInt ≤ (i + 1).toInt := by
  rw [xr_s1 hc, gd_s hd hc]; omega
theorem gd_v1 {n i dw : Int32} {k : Nat} {dv : Nat → Int32} (h : xr_u n i k) (hd : 0 ≤ dw.toInt ∧ dw.toInt ≤ i.toInt) (hv : ∀ j : Nat, (j : Int) < dw.toInt → vp_in (dv j) 12) (hc : ¬ n ≤ i) (hn : n.toInt ≤ (12 : Nat)) : ∀ j : Nat, (j : Int) < (dw + 1).toInt → vp_in (upd dv dw.toNatClampNeg i j) 12 := by
  intro j hj
  rw [gd_s hd hc] at hj
  by_cases e : j = dw.toNatClampNeg
  · subst e; rw [pk_us]; exact xr_in h hc hn
  · rw [pk_un e]; exact hv j (by have := xr_cl0 hd.1; omega)
def tX3_resize_A (held : Nat → Int32) (rm : Int32) (n : Int32) : Nat → Int32 → (Nat → Int32) → Int32 × (Nat → Int32) × Int32
  | 0, _, _ => (0, fun _ => 0, 0)
  | kA + 1, i, hv => if n ≤ i then ((rm, hv, n)) else (tX3_resize_A held rm n kA (i + 1) (upd hv i.toNatClampNeg (-1 : Int32)))
theorem tX3_resize_A_s (held : Nat → Int32) (rm : Int32) (n : Int32) (kA : Nat) (i : Int32) (hv : (Nat → Int32)) : tX3_resize_A held rm n  (kA + 1) i hv = (if n ≤ i then ((rm, hv, n)) else (tX3_resize_A held rm n kA (i + 1) (upd hv i.toNatClampNeg (-1 : Int32)))) := rfl
def tX3_resize (held : Nat → Int32) (rm : Int32) (n : Int32) : Int32 × (Nat → Int32) × Int32 := tX3_resize_A held rm n (n.toInt.toNat + 1) (0 : Int32) held
def fX3_resize (held : Nat → Int32) (rm : Int32) (n : Int32) : Int32 := (tX3_resize held rm n).1
def gX3_resize_held (held : Nat → Int32) (rm : Int32) (n : Int32) : Nat → Int32 := (tX3_resize held rm n).2.1
def gX3_resize_rm (held : Nat → Int32) (rm : Int32) (n : Int32) : Int32 := (tX3_resize held rm n).2.2
set_option maxHeartbeats 4000000 in
set_option maxRecDepth 100000 in
theorem ct3_resize (l : Launch) (D : va_G) (sz : Nat) (r1 r2 q1 : Nat) (kI : ClassId) (held : Nat → Int32) (rm : Int32) (n : Int32) (on_ : n.toInt ≤ (24 : Nat)) : Met l yX3_resize (Cond.code yX3_resize cX3_resize 4 (some .int) :: BX) ({ frames := 0, cells := 0, slots := 0, locals := 0 }) (xw_P nN D vwCl [(kI, .int)] (wRp r1 r2 q1 kI held rm) sz [.ref r1, .int n]) (xw_Q D vwCl (some (.int (fX3_resize held rm n))) (wRp r1 r2 q1 kI held rm) (wRp r1 r2 q1 kI (gX3_resize_held held rm n) (gX3_resize_rm held rm n)) sz) 0 0 (va_A (wRp r1 r2 q1 kI held rm) sz) := by
  refine Met.ofW (cc := cX3_resize) (maxL := 4) (ret := (some .int)) (by decide) rfl ?_
  intro p e s m args below meth c s₁ B hml hv
  obtain ⟨rfl, hsz, hP, hK, hN, hD0⟩ := hv
  have hx := B.exec
  have hb := B.bytes
  have hr := B.returns
  have hts0 := atoms_spec (ws := Cond.code yX3_resize cX3_resize 4 (some .int) :: BX) B.pre
  have hts : ∀ w ∈ BX, w.before _ s = true := fun w h => hts0 w (List.mem_cons_of_mem _ h)
  have hown : s.vm.findClass RX3 = some m.cls := findClass_of_methodNamed B.named
  have hlocks := B.notSynchronized
  subst hsz
  have hD := hD0.self (sz := s.heap.size)
  generalize hAe : va_A (wRp r1 r2 q1 kI held rm) s.heap.size = A at hD ⊢
  have hA : ∀ q : Nat, s.heap.size ≤ q → A q := fun q h => by rw [← hAe]; exact Or.inr h
  have hS : va_S A s.heap s.heap [] := va_S.rf
  have hP : va_P D vwCl [(r1, .inr (7, [.ref q1, .ref r2, .int rm])), (r2, .inl (kI, 24, .inl held))] s.heap := hP
  have hD : va_D A [(r1, .inr (7, [.ref q1, .ref r2, .int rm])), (r2, .inl (kI, 24, .inl held))] := hD
  have hl := lv_entry ([.ref r1, .int n]) (n := 4) (Nat.le_of_ble_eq_true rfl)
  rw [lg_entry_eq]
  generalize (lg_sl ([.ref r1, .int n]) ++ List.replicate (4 - (lg_sl ([.ref r1, .int n])).length) Slot.unset).toArray = ls at hl ⊢
  have hl : lv_has ls 4 [(0, .ref r1), (1, .int n)] := hl
  refine lv_aload_n hx hb dX3_resize_0 rfl (lv_at hl 0 rfl) ?_
  refine va_get (D := D) (ci := 7) (v := .int rm) (C := RX3) (T := TX3) (N := 3) hx hb hts hinX3 hown hK hP 0 rfl rfl 2 (by decide) (hts _ fk_X3_19) (fun _ h9 => h9) rfl dX3_resize_1 ?_
  refine lv_istore_n (lv' := [(2, .int rm), (0, .ref r1), (1, .int n)]) hx hb dX3_resize_4 rfl hl (by decide) rfl (fun ls hl => ?_)
  refine lv_iconst (v := 0) hx hb dX3_resize_5 (by decide) ?_
  refine lv_istore_n (lv' := [(3, .int (0 : Int32)), (2, .int rm), (0, .ref r1), (1, .int n)]) hx hb dX3_resize_6 rfl hl (by decide) rfl (fun ls hl => ?_)
  refine xr_w2 (P := fun H L ls => W p l e _ s m _ below meth c H L _ _ _ (F0 m 7 ls [])) (nL := 4) (fun (i : Int32) (hv : (Nat → Int32)) => [(3, .int i), (2, .int rm), (0, .ref r1), (1, .int n)]) (fun kA (i : Int32) (hv : (Nat → Int32)) H L => xr_u n i kA ∧ va_P D vwCl [(r1, .inr (7, [.ref q1, .ref r2, .int rm])), (r2, .inl (kI, 24, .inl hv))] H ∧ va_D A [(r1, .inr (7, [.ref q1, .ref r2, .int rm])), (r2, .inl (kI, 24, .inl hv))] ∧ va_S A s.heap H L ∧ tX3_resize_A held rm n kA i hv = tX3_resize held rm n) (fun _ _ _ _ h => xr_u0 h.1) ?_ (n.toInt.toNat + 1) (0 : Int32) held _ _ ls hl ⟨(xr_ub n), hP, hD, hS, (by unfold tX3_resize; rfl)⟩
  clear hl
  intro kA i hv H locs ls hl hI ihA
  obtain ⟨huA, hP, hD, hS, hLA⟩ := hI
  refine lv_iload_n hx hb dX3_resize_7 rfl (lv_at hl 0 rfl) ?_
  refine lv_iload_n hx hb dX3_resize_8 rfl (lv_at hl 3 rfl) ?_
  refine lv_icmp_ge (tgt := 25) hx hb dX3_resize_9 (by decide) (fun c1 => ?_) (fun c1 => ?_)
  · refine lv_aload_n hx hb dX3_resize_25 rfl (lv_at hl 2 rfl) ?_
    refine lv_iload_n hx hb dX3_resize_26 rfl (lv_at hl 3 rfl) ?_
    refine va_put (D := D) (ci := 7) (v := .int n) (ty := .int) (C := RX3) (T := TX3) (N := 3) hx hb hts hinX3 tyX3 tyX3_ok nmX3 hown hK hP hD hS 0 rfl rfl 2 (by decide) (hts _ fk_X3_19) (fun _ h9 => h9) rfl (by decide +kernel) rfl rfl (Nat.le_of_ble_eq_true rfl) dX3_resize_27 (fun H locs hP hD hS => ?_)
    have hP : va_P D vwCl [(r1, .inr (7, [.ref q1, .ref r2, .int n])), (r2, .inl (kI, 24, .inl hv))] H := hP
    have hD : va_D A [(r1, .inr (7, [.ref q1, .ref r2, .int n])), (r2, .inl (kI, 24, .inl hv))] := hD
    refine lv_iload_n hx hb dX3_resize_30 rfl (lv_at hl 1 rfl) ?_
    have hP9 := hP
    have hD9 := hD
    have hS9 := hS
    have qt : tX3_resize held rm n = (rm, hv, n) := by rw [← hLA, tX3_resize_A_s, if_pos c1]
    have qv : fX3_resize held rm n = rm := by unfold fX3_resize; rw [qt]
    have q_held : gX3_resize_held held rm n = hv := by unfold gX3_resize_held; rw [qt]
    have q_rm : gX3_resize_rm held rm n = n := by unfold gX3_resize_rm; rw [qt]
    rw [qv, q_held, q_rm]
    exact W.iret (v := rm) hx hb hr (fun t ht hW => ⟨⟨rfl, by rw [ht]; exact hP9, by rw [hAe]; exact hD9⟩, by rw [hAe]; exact hS9.F ht⟩) hS9.2.2 dX3_resize_31
  · refine lv_aload_n hx hb dX3_resize_12 rfl (lv_at hl 2 rfl) ?_
    refine va_get (D := D) (ci := 7) (v := .ref r2) (C := RX3) (T := TX3) (N := 3) hx hb hts hinX3 hown hK hP 0 rfl rfl 1 (by decide) (hts _ fk_X3_9) (fun _ h9 => h9) rfl dX3_resize_13 ?_
    refine lv_iload_n hx hb dX3_resize_16 rfl (lv_at hl 0 rfl) ?_
    refine lv_iconst (v := (-1)) hx hb dX3_resize_17 (by decide) ?_
    refine va_iast hx hb hK hP hD hS 1 0 rfl rfl (xr_in huA c1 on_) dX3_resize_18 (fun H locs hP hD hS => ?_)
    have hP : va_P D vwCl [(r1, .inr (7, [.ref q1, .ref r2, .int rm])), (r2, .inl (kI, 24, .inl (upd hv i.toNatClampNeg (-1 : Int32))))] H := hP
    have hD : va_D A [(r1, .inr (7, [.ref q1, .ref r2, .int rm])), (r2, .inl (kI, 24, .inl (upd hv i.toNatClampNeg (-1 : Int32))))] := hD
    obtain ⟨z2, ez2⟩ : ∃ y : Int32, y = i + 1 := ⟨_, rfl⟩
    refine lv_iinc (v := z2) (lv' := [(3, .int z2), (2, .int rm), (0, .ref r1), (1, .int n)]) hx hb dX3_resize_19 hl (k := 0) rfl (by rw [ez2]; rfl) (by decide) rfl (fun ls hl => ?_)
    refine lv_goto (tgt := 7) hx hb dX3_resize_22 (by decide) ?_
    have hl9 := hl
    have hP9 := hP
    have hD9 := hD
    have hS9 := hS
    subst ez2
    exact ihA (i + 1) (upd hv i.toNatClampNeg (-1 : Int32)) _ _ _ (lv_sub hl9 [0, 1, 2, 3] rfl) ⟨xr_us huA c1, hP9, hD9, hS9, by rw [← hLA, tX3_resize_A_s, if_neg c1]⟩
def tX0_gatherDifferent_A (la lb lc : Nat → Int64) (di : Nat → Int32) (dd : Int32) (n : Int32) : Nat → Int32 → (Nat → Int32) → Int32 → (Nat → Int32) × Int32
  | 0, _, _, _ => (fun _ => 0, 0)
  | kA + 1, i, dv, dw => if n ≤ i then ((dv, dw)) else (if (fX0_isNew la lb lc dv dw i) = (0 : Int32) then (tX0_gatherDifferent_A la lb lc di dd n kA (i + 1) dv dw) else (tX0_gatherDifferent_A la lb lc di dd n kA (i + 1) (upd dv dw.toNatClampNeg i) (dw + (1 : Int32))))
theorem tX0_gatherDifferent_A_s (la lb lc : Nat → Int64) (di : Nat → Int32) (dd : Int32) (n : Int32) (kA : Nat) (i : Int32) (dv : (Nat → Int32)) (dw : Int32) : tX0_gatherDifferent_A la lb lc di dd n  (kA + 1) i dv dw = (if n ≤ i then ((dv, dw)) else (if (fX0_isNew la lb lc dv dw i) = (0 : Int32) then (tX0_gatherDifferent_A la lb lc di dd n kA (i + 1) dv dw) else (tX0_gatherDifferent_A la lb lc di dd n kA (i + 1) (upd dv dw.toNatClampNeg i) (dw + (1 : Int32))))) := rfl
def tX0_gatherDifferent (la lb lc : Nat → Int64) (di : Nat → Int32) (dd : Int32) (n : Int32) : (Nat → Int32) × Int32 := tX0_gatherDifferent_A la lb lc di dd n (n.toInt.toNat + 1) (0 : Int32) di (0 : Int32)
def gX0_gatherDifferent_di (la lb lc : Nat → Int64) (di : Nat → Int32) (dd : Int32) (n : Int32) : Nat → Int32 := (tX0_gatherDifferent la lb lc di dd n).1
def gX0_gatherDifferent_dd (la lb lc : Nat → Int64) (di : Nat → Int32) (dd : Int32) (n : Int32) : Int32 := (tX0_gatherDifferent la lb lc di dd n).2
set_option maxHeartbeats 4000000 in
set_option maxRecDepth 100000 in
theorem ct0_gatherDifferent (l : Launch) (D : va_G) (sz : Nat) (d1 d2 d3 d4 d5 : Nat) (kI kJ : ClassId) (la lb lc : Nat → Int64) (di : Nat → Int32) (dm dd de dp dq : Int32) (n : Int32) (on_ : n.toInt ≤ (12 : Nat)) : Met l yX0_gatherDifferent (Cond.code yX0_gatherDifferent cX0_gatherDifferent 3 none :: BX) ({ frames := 2, cells := 0, slots := 0, locals := 120 }) (xw_P nN D vwCl [(kI, .int), (kJ, .long)] (wDr d1 d2 d3 d4 d5 kI kJ la lb lc di dm dd de dp dq) sz [.ref d1, .int n]) (xw_Q D vwCl none (wDr d1 d2 d3 d4 d5 kI kJ la lb lc di dm dd de dp dq) (wDr d1 d2 d3 d4 d5 kI kJ la lb lc (gX0_gatherDifferent_di la lb lc di dd n) dm (gX0_gatherDifferent_dd la lb lc di dd n) de dp dq) sz) 0 0 (va_A (wDr d1 d2 d3 d4 d5 kI kJ la lb lc di dm dd de dp dq) sz) := by
  refine Met.ofW (cc := cX0_gatherDifferent) (maxL := 3) (ret := none) (by decide) rfl ?_
  intro p e s m args below meth c s₁ B hml hv
  obtain ⟨rfl, hsz, hP, hK, hN, hD0⟩ := hv
  have hx := B.exec
  have hb := B.bytes
  have hr := B.returns
  have hts0 := atoms_spec (ws := Cond.code yX0_gatherDifferent cX0_gatherDifferent 3 none :: BX) B.pre
  have hts : ∀ w ∈ BX, w.before _ s = true := fun w h => hts0 w (List.mem_cons_of_mem _ h)
  have hown : s.vm.findClass RX0 = some m.cls := findClass_of_methodNamed B.named
  have hlocks := B.notSynchronized
  subst hsz
  have hD := hD0.self (sz := s.heap.size)
  generalize hAe : va_A (wDr d1 d2 d3 d4 d5 kI kJ la lb lc di dm dd de dp dq) s.heap.size = A at hD ⊢
  have hA : ∀ q : Nat, s.heap.size ≤ q → A q := fun q h => by rw [← hAe]; exact Or.inr h
  have hS : va_S A s.heap s.heap [] := va_S.rf
  have hP : va_P D vwCl [(d1, .inr (4, [.ref d2, .ref d3, .ref d4, .ref d5, .int dm, .int dd, .int de, .int dp, .int dq])), (d2, .inl (kJ, 12, .inr (.inl la))), (d3, .inl (kJ, 12, .inr (.inl lb))), (d4, .inl (kJ, 12, .inr (.inl lc))), (d5, .inl (kI, 12, .inl di))] s.heap := hP
  have hD : va_D A [(d1, .inr (4, [.ref d2, .ref d3, .ref d4, .ref d5, .int dm, .int dd, .int de, .int dp, .int dq])), (d2, .inl (kJ, 12, .inr (.inl la))), (d3, .inl (kJ, 12, .inr (.inl lb))), (d4, .inl (kJ, 12, .inr (.inl lc))), (d5, .inl (kI, 12, .inl di))] := hD
  have hl := lv_entry ([.ref d1, .int n]) (n := 3) (Nat.le_of_ble_eq_true rfl)
  rw [lg_entry_eq]
  generalize (lg_sl ([.ref d1, .int n]) ++ List.replicate (3 - (lg_sl ([.ref d1, .int n])).length) Slot.unset).toArray = ls at hl ⊢
  have hl : lv_has ls 3 [(0, .ref d1), (1, .int n)] := hl
  refine lv_aload_n hx hb dX0_gatherDifferent_0 rfl (lv_at hl 0 rfl) ?_
  refine lv_iconst (v := 0) hx hb dX0_gatherDifferent_1 (by decide) ?_
  refine va_put (D := D) (ci := 4) (v := .int (0 : Int32)) (ty := .int) (C := RX0) (T := TX0) (N := 9) hx hb hts hinX0 tyX0 tyX0_ok nmX0 hown hK hP hD hS 0 rfl rfl 5 (by decide) (hts _ fk_X0_42) (fun _ h9 => h9) rfl (by decide +kernel) rfl rfl (Nat.le_of_ble_eq_true rfl) dX0_gatherDifferent_2 (fun H locs hP hD hS => ?_)
  have hP : va_P D vwCl [(d1, .inr (4, [.ref d2, .ref d3, .ref d4, .ref d5, .int dm, .int (0 : Int32), .int de, .int dp, .int dq])), (d2, .inl (kJ, 12, .inr (.inl la))), (d3, .inl (kJ, 12, .inr (.inl lb))), (d4, .inl (kJ, 12, .inr (.inl lc))), (d5, .inl (kI, 12, .inl di))] H := hP
  have hD : va_D A [(d1, .inr (4, [.ref d2, .ref d3, .ref d4, .ref d5, .int dm, .int (0 : Int32), .int de, .int dp, .int dq])), (d2, .inl (kJ, 12, .inr (.inl la))), (d3, .inl (kJ, 12, .inr (.inl lb))), (d4, .inl (kJ, 12, .inr (.inl lc))), (d5, .inl (kI, 12, .inl di))] := hD
  refine lv_iconst (v := 0) hx hb dX0_gatherDifferent_5 (by decide) ?_
  refine lv_istore_n (lv' := [(2, .int (0 : Int32)), (0, .ref d1), (1, .int n)]) hx hb dX0_gatherDifferent_6 rfl hl (by decide) rfl (fun ls hl => ?_)
  refine xr_w3 (P := fun H L ls => W p l e _ s m _ below meth c H L _ _ _ (F0 m 7 ls [])) (nL := 3) (fun (i : Int32) (dv : (Nat → Int32)) (dw : Int32) => [(2, .int i), (0, .ref d1), (1, .int n)]) (fun kA (i : Int32) (dv : (Nat → Int32)) (dw : Int32) H L => xr_u n i kA ∧ (0 ≤ dw.toInt ∧ dw.toInt ≤ i.toInt) ∧ (∀ j : Nat, (j : Int) < dw.toInt → vp_in (dv j) 12) ∧ va_P D vwCl [(d1, .inr (4, [.ref d2, .ref d3, .ref d4, .ref d5, .int dm, .int dw, .int de, .int dp, .int dq])), (d2, .inl (kJ, 12, .inr (.inl la))), (d3, .inl (kJ, 12, .inr (.inl lb))), (d4, .inl (kJ, 12, .inr (.inl lc))), (d5, .inl (kI, 12, .inl dv))] H ∧ va_D A [(d1, .inr (4, [.ref d2, .ref d3, .ref d4, .ref d5, .int dm, .int dw, .int de, .int dp, .int dq])), (d2, .inl (kJ, 12, .inr (.inl la))), (d3, .inl (kJ, 12, .inr (.inl lb))), (d4, .inl (kJ, 12, .inr (.inl lc))), (d5, .inl (kI, 12, .inl dv))] ∧ va_S A s.heap H L ∧ tX0_gatherDifferent_A la lb lc di dd n kA i dv dw = tX0_gatherDifferent la lb lc di dd n) (fun _ _ _ _ _ h => xr_u0 h.1) ?_ (n.toInt.toNat + 1) (0 : Int32) di (0 : Int32) _ _ ls hl ⟨(xr_ub n), ⟨by decide, by decide⟩, (fun j h => absurd h (by show ¬ ((j : Int) < 0); omega)), hP, hD, hS, (by unfold tX0_gatherDifferent; rfl)⟩
  clear hl
  intro kA i dv dw H locs ls hl hI ihA
  obtain ⟨huA, hdw, hdv, hP, hD, hS, hLA⟩ := hI
  refine lv_iload_n hx hb dX0_gatherDifferent_7 rfl (lv_at hl 0 rfl) ?_
  refine lv_iload_n hx hb dX0_gatherDifferent_8 rfl (lv_at hl 2 rfl) ?_
  refine lv_icmp_ge (tgt := 46) hx hb dX0_gatherDifferent_9 (by decide) (fun c1 => ?_) (fun c1 => ?_)
  · have hP9 := hP
    have hD9 := hD
    have hS9 := hS
    have qt : tX0_gatherDifferent la lb lc di dd n = (dv, dw) := by rw [← hLA, tX0_gatherDifferent_A_s, if_pos c1]
    have q_di : gX0_gatherDifferent_di la lb lc di dd n = dv := by unfold gX0_gatherDifferent_di; rw [qt]
    have q_dd : gX0_gatherDifferent_dd la lb lc di dd n = dw := by unfold gX0_gatherDifferent_dd; rw [qt]
    rw [q_di, q_dd]
    exact W.vret hx hb hr (fun t ht hW => ⟨⟨rfl, by rw [ht]; exact hP9, by rw [hAe]; exact hD9⟩, by rw [hAe]; exact hS9.F ht⟩) hS9.2.2 dX0_gatherDifferent_46
  · refine lv_aload_n hx hb dX0_gatherDifferent_12 rfl (lv_at hl 1 rfl) ?_
    refine lv_iload_n hx hb dX0_gatherDifferent_13 rfl (lv_at hl 0 rfl) ?_
    refine xr_V (q := (RX0, TX0, 9)) (ci := 4) (q0 := 0) (rest := []) (As := [.int i]) ⟨hx, hb, hml, hown, hts⟩ (ct0_isNew l D d1 d2 d3 d4 d5 kI kJ la lb lc dv dm dw de dp dq i (gd_odd huA hdw c1 on_) hdv (xr_in huA c1 on_)) (cwV 1 hts gl_X0_53 rfl rfl rfl (by decide +kernel) ⟨Nat.le_of_ble_eq_true rfl, Nat.le_of_ble_eq_true rfl⟩) nN_mv hN hK hP [0, 1, 2, 3, 4] [0, 1] rfl rfl rfl rfl rfl hl.1 rfl (Nat.le_of_ble_eq_true rfl) dX0_gatherDifferent_14 ⟨Nat.le_of_ble_eq_true rfl, Nat.le_of_ble_eq_true rfl⟩ ?_
    refine lv_if_eq (tgt := 40) hx hb dX0_gatherDifferent_17 (by decide) (fun c2 => ?_) (fun c2 => ?_)
    · obtain ⟨z3, ez3⟩ : ∃ y : Int32, y = i + 1 := ⟨_, rfl⟩
      refine lv_iinc (v := z3) (lv' := [(2, .int z3), (0, .ref d1), (1, .int n)]) hx hb dX0_gatherDifferent_40 hl (k := 0) rfl (by rw [ez3]; rfl) (by decide) rfl (fun ls hl => ?_)
      refine lv_goto (tgt := 7) hx hb dX0_gatherDifferent_43 (by decide) ?_
      have hl9 := hl
      have hP9 := hP
      have hD9 := hD
      have hS9 := hS
      subst ez3
      exact ihA (i + 1) dv dw _ _ _ (lv_sub hl9 [0, 1, 2] rfl) ⟨xr_us huA c1, (gd_w0 hdw c1), hdv, hP9, hD9, hS9, by rw [← hLA, tX0_gatherDifferent_A_s, if_neg c1, if_pos c2]⟩
    · refine lv_aload_n hx hb dX0_gatherDifferent_20 rfl (lv_at hl 1 rfl) ?_
      refine va_get (D := D) (ci := 4) (v := .ref d5) (C := RX0) (T := TX0) (N := 9) hx hb hts hinX0 hown hK hP 0 rfl rfl 3 (by decide) (hts _ fk_X0_21) (fun _ h9 => h9) rfl dX0_gatherDifferent_21 ?_
      refine lv_aload_n hx hb dX0_gatherDifferent_24 rfl (lv_at hl 1 rfl) ?_
      refine va_get (D := D) (ci := 4) (v := .int dw) (C := RX0) (T := TX0) (N := 9) hx hb hts hinX0 hown hK hP 0 rfl rfl 5 (by decide) (hts _ fk_X0_42) (fun _ h9 => h9) rfl dX0_gatherDifferent_25 ?_
      refine lv_iload_n hx hb dX0_gatherDifferent_28 rfl (lv_at hl 0 rfl) ?_
      refine va_iast hx hb hK hP hD hS 4 0 rfl rfl (gd_in huA hdw c1 on_) dX0_gatherDifferent_29 (fun H locs hP hD hS => ?_)
      have hP : va_P D vwCl [(d1, .inr (4, [.ref d2, .ref d3, .ref d4, .ref d5, .int dm, .int dw, .int de, .int dp, .int dq])), (d2, .inl (kJ, 12, .inr (.inl la))), (d3, .inl (kJ, 12, .inr (.inl lb))), (d4, .inl (kJ, 12, .inr (.inl lc))), (d5, .inl (kI, 12, .inl (upd dv dw.toNatClampNeg i)))] H := hP
      have hD : va_D A [(d1, .inr (4, [.ref d2, .ref d3, .ref d4, .ref d5, .int dm, .int dw, .int de, .int dp, .int dq])), (d2, .inl (kJ, 12, .inr (.inl la))), (d3, .inl (kJ, 12, .inr (.inl lb))), (d4, .inl (kJ, 12, .inr (.inl lc))), (d5, .inl (kI, 12, .inl (upd dv dw.toNatClampNeg i)))] := hD
      refine lv_aload_n hx hb dX0_gatherDifferent_30 rfl (lv_at hl 1 rfl) ?_
      refine lv_dup hx hb dX0_gatherDifferent_31 rfl ?_
      refine va_get (D := D) (ci := 4) (v := .int dw) (C := RX0) (T := TX0) (N := 9) hx hb hts hinX0 hown hK hP 0 rfl rfl 5 (by decide) (hts _ fk_X0_42) (fun _ h9 => h9) rfl dX0_gatherDifferent_32 ?_
      refine lv_iconst (v := 1) hx hb dX0_gatherDifferent_35 (by decide) ?_
      refine lv_iadd hx hb dX0_gatherDifferent_36 ?_
      refine va_put (D := D) (ci := 4) (v := .int (dw + (1 : Int32))) (ty := .int) (C := RX0) (T := TX0) (N := 9) hx hb hts hinX0 tyX0 tyX0_ok nmX0 hown hK hP hD hS 0 rfl rfl 5 (by decide) (hts _ fk_X0_42) (fun _ h9 => h9) rfl (by decide +kernel) rfl rfl (Nat.le_of_ble_eq_true rfl) dX0_gatherDifferent_37 (fun H locs hP hD hS => ?_)
      have hP : va_P D vwCl [(d1, .inr (4, [.ref d2, .ref d3, .ref d4, .ref d5, .int dm, .int (dw + (1 : Int32)), .int de, .int dp, .int dq])), (d2, .inl (kJ, 12, .inr (.inl la))), (d3, .inl (kJ, 12, .inr (.inl lb))), (d4, .inl (kJ, 12, .inr (.inl lc))), (d5, .inl (kI, 12, .inl (upd dv dw.toNatClampNeg i)))] H := hP
      have hD : va_D A [(d1, .inr (4, [.ref d2, .ref d3, .ref d4, .ref d5, .int dm, .int (dw + (1 : Int32)), .int de, .int dp, .int dq])), (d2, .inl (kJ, 12, .inr (.inl la))), (d3, .inl (kJ, 12, .inr (.inl lb))), (d4, .inl (kJ, 12, .inr (.inl lc))), (d5, .inl (kI, 12, .inl (upd dv dw.toNatClampNeg i)))] := hD
      obtain ⟨z4, ez4⟩ : ∃ y : Int32, y = i + 1 := ⟨_, rfl⟩
      refine lv_iinc (v := z4) (lv' := [(2, .int z4), (0, .ref d1), (1, .int n)]) hx hb dX0_gatherDifferent_40 hl (k := 0) rfl (by rw [ez4]; rfl) (by decide) rfl (fun ls hl => ?_)
      refine lv_goto (tgt := 7) hx hb dX0_gatherDifferent_43 (by decide) ?_
      have hl9 := hl
      have hP9 := hP
      have hD9 := hD
      have hS9 := hS
      subst ez4
      exact ihA (i + 1) (upd dv dw.toNatClampNeg i) (dw + (1 : Int32)) _ _ _ (lv_sub hl9 [0, 1, 2] rfl) ⟨xr_us huA c1, (gd_w1 hdw c1), (gd_v1 huA hdw hdv c1 on_), hP9, hD9, hS9, by rw [← hLA, tX0_gatherDifferent_A_s, if_neg c1, if_neg c2]⟩
theorem gd_in_ {n i dw : Int32} {k : Nat} (h : xr_u n i k) (hd : 0 ≤ dw.toInt ∧ dw.toInt ≤ i.toInt) : 0 ≤ dw.toInt := hd.1
theorem gd_ok_A {la lb lc : Nat → Int64} {di : Nat → Int32} {dd n : Int32} (hn : n.toInt ≤ (12 : Nat)) (k : Nat) : ∀ (i : Int32) (dv : Nat → Int32) (dw : Int32), xr_u n i k → (0 ≤ dw.toInt ∧ dw.toInt ≤ i.toInt) → i.toInt ≤ 12 → (∀ j : Nat, (j : Int) < dw.toInt → vp_in (dv j) 12) → (tX0_gatherDifferent_A la lb lc di dd n k i dv dw).2.toInt ≤ (12 : Nat) ∧ ∀ j : Nat, (j : Int) < (tX0_gatherDifferent_A la lb lc di dd n k i dv dw).2.toInt → vp_in ((tX0_gatherDifferent_A la lb lc di dd n k i dv dw).1 j) 12 := by
  induction k with
  | zero => exact fun i dv dw h => absurd h xr_u0
  | succ k ih =>
    intro i dv dw h hw hi hv
    rw [tX0_gatherDifferent_A_s]
    split
    · exact ⟨by show dw.toInt ≤ _; omega, hv⟩
    · rename_i h1
      have h2 : (i + 1).toInt ≤ 12 := by
        rw [xr_s1 h1]; rw [Int32.le_iff_toInt_le] at h1; omega
      split
      · exact ih _ _ _ (xr_us h h1) (gd_w0 hw h1) h2 hv
      · exact ih _ _ _ (xr_us h h1) (gd_w1 hw h1) h2 (gd_v1 h hw hv h1 hn)
theorem gd_ok {la lb lc : Nat → Int64} {di : Nat → Int32} {dd n : Int32} (hn : n.toInt ≤ (12 : Nat)) : (gX0_gatherDifferent_dd la lb lc di dd n).toInt ≤ (12 : Nat) ∧ ∀ j : Nat, (j : Int) < (gX0_gatherDifferent_dd la lb lc di dd n).toInt → vp_in (gX0_gatherDifferent_di la lb lc di dd n j) 12 := by
  unfold gX0_gatherDifferent_dd gX0_gatherDifferent_di tX0_gatherDifferent
  exact gd_ok_A hn _ 0 di 0 (xr_ub n) ⟨by decide, by decide⟩ (by decide) (fun j h => absurd h (by show ¬ ((j : Int) < 0); omega))
theorem rg12 {n i : Int32} (h : 0 ≤ i.toInt ∧ i.toInt < n.toInt) (hn : n.toInt ≤ (12 : Nat)) : vp_in i 12 := by
  rw [vp_in_iff]; omega
theorem rg_tr {n i j : Int32} (h : 0 ≤ i.toInt ∧ i.toInt < j.toInt) (h2 : 0 ≤ j.toInt ∧ j.toInt < n.toInt) : 0 ≤ i.toInt ∧ i.toInt < n.toInt := by omega
theorem o_nd {n dm : Int32} (h : dm.toInt ≤ (12 : Nat)) (h2 : ¬ dm < n) : n.toInt ≤ (12 : Nat) := by
  rw [Int32.lt_iff_toInt_lt] at h2; omega
def tX0_surveyMeet_A (la lb lc : Nat → Int64) (di : Nat → Int32) (dd de dp dq : Int32) (ia : Int32) (ib : Int32) : Nat → Int32 → Int32 → Int32 × Int32 × Int32
  | 0, _, _ => (0, 0, 0)
  | kA + 1, thr, kk => if dd ≤ kk then ((de + (1 : Int32), dp + thr, if dq < thr then thr else dq)) else (if (lg_cmp ((((la (di kk.toNatClampNeg).toNatClampNeg) * (fX0_momentX lb lc (di ia.toNatClampNeg) (di ib.toNatClampNeg))) + ((lb (di kk.toNatClampNeg).toNatClampNeg) * (fX0_momentY lc la (di ia.toNatClampNeg) (di ib.toNatClampNeg)))) + ((lc (di kk.toNatClampNeg).toNatClampNeg) * (fX0_weight la lb (di ia.toNatClampNeg) (di ib.toNatClampNeg)))) (0 : Int64)) = (0 : Int32) then (if ib ≤ kk then (tX0_surveyMeet_A la lb lc di dd de dp dq ia ib kA (thr + 1) (kk + 1)) else (if kk = ia then (tX0_surveyMeet_A la lb lc di dd de dp dq ia ib kA (thr + 1) (kk + 1)) else ((de, dp, dq)))) else (tX0_surveyMeet_A la lb lc di dd de dp dq ia ib kA thr (kk + 1)))
theorem tX0_surveyMeet_A_s (la lb lc : Nat → Int64) (di : Nat → Int32) (dd de dp dq : Int32) (ia : Int32) (ib : Int32) (kA : Nat) (thr : Int32) (kk : Int32) : tX0_surveyMeet_A la lb lc di dd de dp dq ia ib  (kA + 1) thr kk = (if dd ≤ kk then ((de + (1 : Int32), dp + thr, if dq < thr then thr else dq)) else (if (lg_cmp ((((la (di kk.toNatClampNeg).toNatClampNeg) * (fX0_momentX lb lc (di ia.toNatClampNeg) (di ib.toNatClampNeg))) + ((lb (di kk.toNatClampNeg).toNatClampNeg) * (fX0_momentY lc la (di ia.toNatClampNeg) (di ib.toNatClampNeg)))) + ((lc (di kk.toNatClampNeg).toNatClampNeg) * (fX0_weight la lb (di ia.toNatClampNeg) (di ib.toNatClampNeg)))) (0 : Int64)) = (0 : Int32) then (if ib ≤ kk then (tX0_surveyMeet_A la lb lc di dd de dp dq ia ib kA (thr + 1) (kk + 1)) else (if kk = ia then (tX0_surveyMeet_A la lb lc di dd de dp dq ia ib kA (thr + 1) (kk + 1)) else ((de, dp, dq)))) else (tX0_surveyMeet_A la lb lc di dd de dp dq ia ib kA thr (kk + 1)))) := rfl
def tX0_surveyMeet (la lb lc : Nat → Int64) (di : Nat → Int32) (dd de dp dq : Int32) (ia : Int32) (ib : Int32) : Int32 × Int32 × Int32 := if (lg_cmp (fX0_weight la lb (di ia.toNatClampNeg) (di ib.toNatClampNeg)) (0 : Int64)) = (0 : Int32) then ((de, dp, dq)) else (tX0_surveyMeet_A la lb lc di dd de dp dq ia ib (dd.toInt.toNat + 1) (0 : Int32) (0 : Int32))
def gX0_surveyMeet_de (la lb lc : Nat → Int64) (di : Nat → Int32) (dd de dp dq : Int32) (ia : Int32) (ib : Int32) : Int32 := (tX0_surveyMeet la lb lc di dd de dp dq ia ib).1
def gX0_surveyMeet_dp (la lb lc : Nat → Int64) (di : Nat → Int32) (dd de dp dq : Int32) (ia : Int32) (ib : Int32) : Int32 := (tX0_surveyMeet la lb lc di dd de dp dq ia ib).2.1
def gX0_surveyMeet_dq (la lb lc : Nat → Int64) (di : Nat → Int32) (dd de dp dq : Int32) (ia : Int32) (ib : Int32) : Int32 := (tX0_surveyMeet la lb lc di dd de dp dq ia ib).2.2
set_option maxHeartbeats 4000000 in
set_option maxRecDepth 100000 in
theorem ct0_surveyMeet (l : Launch) (D : va_G) (sz : Nat) (d1 d2 d3 d4 d5 : Nat) (kI kJ : ClassId) (la lb lc : Nat → Int64) (di : Nat → Int32) (dm dd de dp dq : Int32) (ia : Int32) (ib : Int32) (odd : dd.toInt ≤ (12 : Nat)) (odi : ∀ j : Nat, (j : Int) < dd.toInt → vp_in (di j) 12) (oia : 0 ≤ ia.toInt ∧ ia.toInt < dd.toInt) (oib : 0 ≤ ib.toInt ∧ ib.toInt < dd.toInt) : Met l yX0_surveyMeet (Cond.code yX0_surveyMeet cX0_surveyMeet 12 none :: BX) ({ frames := 2, cells := 0, slots := 0, locals := 120 }) (xw_P nN D vwCl [(kI, .int), (kJ, .long)] (wDr d1 d2 d3 d4 d5 kI kJ la lb lc di dm dd de dp dq) sz [.ref d1, .int ia, .int ib]) (xw_Q D vwCl none (wDr d1 d2 d3 d4 d5 kI kJ la lb lc di dm dd de dp dq) (wDr d1 d2 d3 d4 d5 kI kJ la lb lc di dm dd (gX0_surveyMeet_de la lb lc di dd de dp dq ia ib) (gX0_surveyMeet_dp la lb lc di dd de dp dq ia ib) (gX0_surveyMeet_dq la lb lc di dd de dp dq ia ib)) sz) 0 0 (va_A (wDr d1 d2 d3 d4 d5 kI kJ la lb lc di dm dd de dp dq) sz) := by
  refine Met.ofW (cc := cX0_surveyMeet) (maxL := 12) (ret := none) (by decide) rfl ?_
  intro p e s m args below meth c s₁ B hml hv
  obtain ⟨rfl, hsz, hP, hK, hN, hD0⟩ := hv
  have hx := B.exec
  have hb := B.bytes
  have hr := B.returns
  have hts0 := atoms_spec (ws := Cond.code yX0_surveyMeet cX0_surveyMeet 12 none :: BX) B.pre
  have hts : ∀ w ∈ BX, w.before _ s = true := fun w h => hts0 w (List.mem_cons_of_mem _ h)
  have hown : s.vm.findClass RX0 = some m.cls := findClass_of_methodNamed B.named
  have hlocks := B.notSynchronized
  subst hsz
  have hD := hD0.self (sz := s.heap.size)
  generalize hAe : va_A (wDr d1 d2 d3 d4 d5 kI kJ la lb lc di dm dd de dp dq) s.heap.size = A at hD ⊢
  have hA : ∀ q : Nat, s.heap.size ≤ q → A q := fun q h => by rw [← hAe]; exact Or.inr h
  have hS : va_S A s.heap s.heap [] := va_S.rf
  have hP : va_P D vwCl [(d1, .inr (4, [.ref d2, .ref d3, .ref d4, .ref d5, .int dm, .int dd, .int de, .int dp, .int dq])), (d2, .inl (kJ, 12, .inr (.inl la))), (d3, .inl (kJ, 12, .inr (.inl lb))), (d4, .inl (kJ, 12, .inr (.inl lc))), (d5, .inl (kI, 12, .inl di))] s.heap := hP
  have hD : va_D A [(d1, .inr (4, [.ref d2, .ref d3, .ref d4, .ref d5, .int dm, .int dd, .int de, .int dp, .int dq])), (d2, .inl (kJ, 12, .inr (.inl la))), (d3, .inl (kJ, 12, .inr (.inl lb))), (d4, .inl (kJ, 12, .inr (.inl lc))), (d5, .inl (kI, 12, .inl di))] := hD
  have hl := lv_entry ([.ref d1, .int ia, .int ib]) (n := 12) (Nat.le_of_ble_eq_true rfl)
  rw [lg_entry_eq]
  generalize (lg_sl ([.ref d1, .int ia, .int ib]) ++ List.replicate (12 - (lg_sl ([.ref d1, .int ia, .int ib])).length) Slot.unset).toArray = ls at hl ⊢
  have hl : lv_has ls 12 [(0, .ref d1), (1, .int ia), (2, .int ib)] := hl
  refine lv_aload_n hx hb dX0_surveyMeet_0 rfl (lv_at hl 0 rfl) ?_
  refine lv_aload_n hx hb dX0_surveyMeet_1 rfl (lv_at hl 0 rfl) ?_
  refine va_get (D := D) (ci := 4) (v := .ref d5) (C := RX0) (T := TX0) (N := 9) hx hb hts hinX0 hown hK hP 0 rfl rfl 3 (by decide) (hts _ fk_X0_21) (fun _ h9 => h9) rfl dX0_surveyMeet_2 ?_
  refine lv_iload_n hx hb dX0_surveyMeet_5 rfl (lv_at hl 1 rfl) ?_
  refine va_iald hx hb hK hP 4 0 rfl rfl (rg12 oia odd) dX0_surveyMeet_6 ?_
  refine lv_aload_n hx hb dX0_surveyMeet_7 rfl (lv_at hl 0 rfl) ?_
  refine va_get (D := D) (ci := 4) (v := .ref d5) (C := RX0) (T := TX0) (N := 9) hx hb hts hinX0 hown hK hP 0 rfl rfl 3 (by decide) (hts _ fk_X0_21) (fun _ h9 => h9) rfl dX0_surveyMeet_8 ?_
  refine lv_iload_n hx hb dX0_surveyMeet_11 rfl (lv_at hl 2 rfl) ?_
  refine va_iald hx hb hK hP 4 0 rfl rfl (rg12 oib odd) dX0_surveyMeet_12 ?_
  refine xr_V (q := (RX0, TX0, 9)) (ci := 4) (q0 := 0) (rest := []) (As := [.int (di ia.toNatClampNeg), .int (di ib.toNatClampNeg)]) ⟨hx, hb, hml, hown, hts⟩ (ct0_weight l D d1 d2 d3 d4 d5 kI kJ la lb lc di dm dd de dp dq (di ia.toNatClampNeg) (di ib.toNatClampNeg) (odi _ (rg_cl oia)) (odi _ (rg_cl oib))) (cwV 2 hts gl_X0_57 rfl rfl rfl (by decide +kernel) ⟨Nat.le_of_ble_eq_true rfl, Nat.le_of_ble_eq_true rfl⟩) nN_mv hN hK hP [0, 1, 2, 3, 4] [0, 1] rfl rfl rfl rfl rfl hl.1 rfl (Nat.le_of_ble_eq_true rfl) dX0_surveyMeet_13 ⟨Nat.le_of_ble_eq_true rfl, Nat.le_of_ble_eq_true rfl⟩ ?_
  refine lv_topl (fun z1 ez1 => ?_)
  refine lv_lstore_n (lv' := [(3, .long z1), (0, .ref d1), (1, .int ia), (2, .int ib)]) hx hb dX0_surveyMeet_16 rfl hl (by decide) rfl (fun ls hl => ?_)
  refine lv_lload_n hx hb dX0_surveyMeet_17 rfl (lv_at hl 0 rfl) ?_
  refine lv_lconst (v := 0) hx hb dX0_surveyMeet_18 (by decide) ?_
  refine W.lcmp hx hb dX0_surveyMeet_19 ?_
  refine lv_if_ne (tgt := 24) hx hb dX0_surveyMeet_20 (by decide) (fun c2 => ?_) (fun c2 => ?_)
  · refine lv_aload_n hx hb dX0_surveyMeet_24 rfl (lv_at hl 1 rfl) ?_
    refine lv_aload_n hx hb dX0_surveyMeet_25 rfl (lv_at hl 1 rfl) ?_
    refine va_get (D := D) (ci := 4) (v := .ref d5) (C := RX0) (T := TX0) (N := 9) hx hb hts hinX0 hown hK hP 0 rfl rfl 3 (by decide) (hts _ fk_X0_21) (fun _ h9 => h9) rfl dX0_surveyMeet_26 ?_
    refine lv_iload_n hx hb dX0_surveyMeet_29 rfl (lv_at hl 2 rfl) ?_
    refine va_iald hx hb hK hP 4 0 rfl rfl (rg12 oia odd) dX0_surveyMeet_30 ?_
    refine lv_aload_n hx hb dX0_surveyMeet_31 rfl (lv_at hl 1 rfl) ?_
    refine va_get (D := D) (ci := 4) (v := .ref d5) (C := RX0) (T := TX0) (N := 9) hx hb hts hinX0 hown hK hP 0 rfl rfl 3 (by decide) (hts _ fk_X0_21) (fun _ h9 => h9) rfl dX0_surveyMeet_32 ?_
    refine lv_iload_n hx hb dX0_surveyMeet_35 rfl (lv_at hl 3 rfl) ?_
    refine va_iald hx hb hK hP 4 0 rfl rfl (rg12 oib odd) dX0_surveyMeet_36 ?_
    refine xr_V (q := (RX0, TX0, 9)) (ci := 4) (q0 := 0) (rest := []) (As := [.int (di ia.toNatClampNeg), .int (di ib.toNatClampNeg)]) ⟨hx, hb, hml, hown, hts⟩ (ct0_momentX l D d1 d2 d3 d4 d5 kI kJ la lb lc di dm dd de dp dq (di ia.toNatClampNeg) (di ib.toNatClampNeg) (odi _ (rg_cl oia)) (odi _ (rg_cl oib))) (cwV 2 hts gl_X0_61 rfl rfl rfl (by decide +kernel) ⟨Nat.le_of_ble_eq_true rfl, Nat.le_of_ble_eq_true rfl⟩) nN_mv hN hK hP [0, 1, 2, 3, 4] [0, 1] rfl rfl rfl rfl rfl hl.1 rfl (Nat.le_of_ble_eq_true rfl) dX0_surveyMeet_37 ⟨Nat.le_of_ble_eq_true rfl, Nat.le_of_ble_eq_true rfl⟩ ?_
    refine lv_topl (fun z3 ez3 => ?_)
    refine lv_lstore (lv' := [(5, .long z3), (3, .long z1), (0, .ref d1), (1, .int ia), (2, .int ib)]) hx hb dX0_surveyMeet_40 hl (by decide) rfl (fun ls hl => ?_)
    refine lv_aload_n hx hb dX0_surveyMeet_42 rfl (lv_at hl 2 rfl) ?_
    refine lv_aload_n hx hb dX0_surveyMeet_43 rfl (lv_at hl 2 rfl) ?_
    refine va_get (D := D) (ci := 4) (v := .ref d5) (C := RX0) (T := TX0) (N := 9) hx hb hts hinX0 hown hK hP 0 rfl rfl 3 (by decide) (hts _ fk_X0_21) (fun _ h9 => h9) rfl dX0_surveyMeet_44 ?_
    refine lv_iload_n hx hb dX0_surveyMeet_47 rfl (lv_at hl 3 rfl) ?_
    refine va_iald hx hb hK hP 4 0 rfl rfl (rg12 oia odd) dX0_surveyMeet_48 ?_
    refine lv_aload_n hx hb dX0_surveyMeet_49 rfl (lv_at hl 2 rfl) ?_
    refine va_get (D := D) (ci := 4) (v := .ref d5) (C := RX0) (T := TX0) (N := 9) hx hb hts hinX0 hown hK hP 0 rfl rfl 3 (by decide) (hts _ fk_X0_21) (fun _ h9 => h9) rfl dX0_surveyMeet_50 ?_
    refine lv_iload_n hx hb dX0_surveyMeet_53 rfl (lv_at hl 4 rfl) ?_
    refine va_iald hx hb hK hP 4 0 rfl rfl (rg12 oib odd) dX0_surveyMeet_54 ?_
    refine xr_V (q := (RX0, TX0, 9)) (ci := 4) (q0 := 0) (rest := []) (As := [.int (di ia.toNatClampNeg), .int (di ib.toNatClampNeg)]) ⟨hx, hb, hml, hown, hts⟩ (ct0_momentY l D d1 d2 d3 d4 d5 kI kJ la lb lc di dm dd de dp dq (di ia.toNatClampNeg) (di ib.toNatClampNeg) (odi _ (rg_cl oia)) (odi _ (rg_cl oib))) (cwV 2 hts gl_X0_64 rfl rfl rfl (by decide +kernel) ⟨Nat.le_of_ble_eq_true rfl, Nat.le_of_ble_eq_true rfl⟩) nN_mv hN hK hP [0, 1, 2, 3, 4] [0, 1] rfl rfl rfl rfl rfl hl.1 rfl (Nat.le_of_ble_eq_true rfl) dX0_surveyMeet_55 ⟨Nat.le_of_ble_eq_true rfl, Nat.le_of_ble_eq_true rfl⟩ ?_
    refine lv_topl (fun z4 ez4 => ?_)
    refine lv_lstore (lv' := [(7, .long z4), (5, .long z3), (3, .long z1), (0, .ref d1), (1, .int ia), (2, .int ib)]) hx hb dX0_surveyMeet_58 hl (by decide) rfl (fun ls hl => ?_)
    refine lv_iconst (v := 0) hx hb dX0_surveyMeet_60 (by decide) ?_
    refine lv_istore (lv' := [(9, .int (0 : Int32)), (7, .long z4), (5, .long z3), (3, .long z1), (0, .ref d1), (1, .int ia), (2, .int ib)]) hx hb dX0_surveyMeet_61 hl (by decide) rfl (fun ls hl => ?_)
    refine lv_iconst (v := 0) hx hb dX0_surveyMeet_63 (by decide) ?_
    refine lv_istore (lv' := [(10, .int (0 : Int32)), (9, .int (0 : Int32)), (7, .long z4), (5, .long z3), (3, .long z1), (0, .ref d1), (1, .int ia), (2, .int ib)]) hx hb dX0_surveyMeet_64 hl (by decide) rfl (fun ls hl => ?_)
    refine xr_l2 (P := fun ls => W p l e _ s m _ below meth c _ _ _ _ _ (F0 m 66 ls [])) (nL := 12) (fun (thr : Int32) (kk : Int32) => [(10, .int kk), (9, .int thr), (7, .long z4), (5, .long z3), (3, .long z1), (0, .ref d1), (1, .int ia), (2, .int ib)]) (fun kA (thr : Int32) (kk : Int32) => xr_u dd kk kA ∧ tX0_surveyMeet_A la lb lc di dd de dp dq ia ib kA thr kk = tX0_surveyMeet la lb lc di dd de dp dq ia ib) (fun _ _ h => xr_u0 h.1) ?_ (dd.toInt.toNat + 1) (0 : Int32) (0 : Int32) ls hl ⟨(xr_ub dd), (by subst ez4; subst ez3; subst ez1; unfold tX0_surveyMeet; rw [if_neg c2])⟩
    clear hl
    intro kA thr kk ls hl hI ihA
    obtain ⟨huA, hLA⟩ := hI
    refine lv_iload hx hb dX0_surveyMeet_66 (lv_at hl 0 rfl) ?_
    refine lv_aload_n hx hb dX0_surveyMeet_68 rfl (lv_at hl 5 rfl) ?_
    refine va_get (D := D) (ci := 4) (v := .int dd) (C := RX0) (T := TX0) (N := 9) hx hb hts hinX0 hown hK hP 0 rfl rfl 5 (by decide) (hts _ fk_X0_42) (fun _ h9 => h9) rfl dX0_surveyMeet_69 ?_
    refine lv_icmp_ge (tgt := 142) hx hb dX0_surveyMeet_72 (by decide) (fun c5 => ?_) (fun c5 => ?_)
    · refine lv_aload_n hx hb dX0_surveyMeet_142 rfl (lv_at hl 5 rfl) ?_
      refine lv_dup hx hb dX0_surveyMeet_143 rfl ?_
      refine va_get (D := D) (ci := 4) (v := .int de) (C := RX0) (T := TX0) (N := 9) hx hb hts hinX0 hown hK hP 0 rfl rfl 6 (by decide) (hts _ fk_X0_33) (fun _ h9 => h9) rfl dX0_surveyMeet_144 ?_
      refine lv_iconst (v := 1) hx hb dX0_surveyMeet_147 (by decide) ?_
      refine lv_iadd hx hb dX0_surveyMeet_148 ?_
      refine va_put (D := D) (ci := 4) (v := .int (de + (1 : Int32))) (ty := .int) (C := RX0) (T := TX0) (N := 9) hx hb hts hinX0 tyX0 tyX0_ok nmX0 hown hK hP hD hS 0 rfl rfl 6 (by decide) (hts _ fk_X0_33) (fun _ h9 => h9) rfl (by decide +kernel) rfl rfl (Nat.le_of_ble_eq_true rfl) dX0_surveyMeet_149 (fun H locs hP hD hS => ?_)
      have hP : va_P D vwCl [(d1, .inr (4, [.ref d2, .ref d3, .ref d4, .ref d5, .int dm, .int dd, .int (de + (1 : Int32)), .int dp, .int dq])), (d2, .inl (kJ, 12, .inr (.inl la))), (d3, .inl (kJ, 12, .inr (.inl lb))), (d4, .inl (kJ, 12, .inr (.inl lc))), (d5, .inl (kI, 12, .inl di))] H := hP
      have hD : va_D A [(d1, .inr (4, [.ref d2, .ref d3, .ref d4, .ref d5, .int dm, .int dd, .int (de + (1 : Int32)), .int dp, .int dq])), (d2, .inl (kJ, 12, .inr (.inl la))), (d3, .inl (kJ, 12, .inr (.inl lb))), (d4, .inl (kJ, 12, .inr (.inl lc))), (d5, .inl (kI, 12, .inl di))] := hD
      refine lv_aload_n hx hb dX0_surveyMeet_152 rfl (lv_at hl 5 rfl) ?_
      refine lv_dup hx hb dX0_surveyMeet_153 rfl ?_
      refine va_get (D := D) (ci := 4) (v := .int dp) (C := RX0) (T := TX0) (N := 9) hx hb hts hinX0 hown hK hP 0 rfl rfl 7 (by decide) (hts _ fk_X0_36) (fun _ h9 => h9) rfl dX0_surveyMeet_154 ?_
      refine lv_iload hx hb dX0_surveyMeet_157 (lv_at hl 1 rfl) ?_
      refine lv_iadd hx hb dX0_surveyMeet_159 ?_
      refine va_put (D := D) (ci := 4) (v := .int (dp + thr)) (ty := .int) (C := RX0) (T := TX0) (N := 9) hx hb hts hinX0 tyX0 tyX0_ok nmX0 hown hK hP hD hS 0 rfl rfl 7 (by decide) (hts _ fk_X0_36) (fun _ h9 => h9) rfl (by decide +kernel) rfl rfl (Nat.le_of_ble_eq_true rfl) dX0_surveyMeet_160 (fun H locs hP hD hS => ?_)
      have hP : va_P D vwCl [(d1, .inr (4, [.ref d2, .ref d3, .ref d4, .ref d5, .int dm, .int dd, .int (de + (1 : Int32)), .int (dp + thr), .int dq])), (d2, .inl (kJ, 12, .inr (.inl la))), (d3, .inl (kJ, 12, .inr (.inl lb))), (d4, .inl (kJ, 12, .inr (.inl lc))), (d5, .inl (kI, 12, .inl di))] H := hP
      have hD : va_D A [(d1, .inr (4, [.ref d2, .ref d3, .ref d4, .ref d5, .int dm, .int dd, .int (de + (1 : Int32)), .int (dp + thr), .int dq])), (d2, .inl (kJ, 12, .inr (.inl la))), (d3, .inl (kJ, 12, .inr (.inl lb))), (d4, .inl (kJ, 12, .inr (.inl lc))), (d5, .inl (kI, 12, .inl di))] := hD
      refine lv_aload_n hx hb dX0_surveyMeet_163 rfl (lv_at hl 5 rfl) ?_
      refine lv_aload_n hx hb dX0_surveyMeet_164 rfl (lv_at hl 5 rfl) ?_
      refine va_get (D := D) (ci := 4) (v := .int dq) (C := RX0) (T := TX0) (N := 9) hx hb hts hinX0 hown hK hP 0 rfl rfl 8 (by decide) (hts _ fk_X0_39) (fun _ h9 => h9) rfl dX0_surveyMeet_165 ?_
      refine lv_iload hx hb dX0_surveyMeet_168 (lv_at hl 1 rfl) ?_
      refine va_mmax (own := RX0) (index := 67) hx hb (hml.trans hl.1.symm) hown (hts (.methodLink RX0 67 Lib.Math.max.name) (bx0 (by decide +kernel))) (hts (.static Lib.Math.max.name) (bx0 (by decide +kernel))) (hts (.initialized "java/lang/Math") (bx0 (by decide +kernel))) (hts _ (bx1 (List.mem_of_getElem? (i := 8) rfl))) (Nat.le_of_ble_eq_true rfl) (Nat.le_of_ble_eq_true rfl) (Nat.zero_le _) (Nat.zero_le _) dX0_surveyMeet_170 ?_
      refine lv_topi (fun z6 ez6 => ?_)
      refine va_put (D := D) (ci := 4) (v := .int z6) (ty := .int) (C := RX0) (T := TX0) (N := 9) hx hb hts hinX0 tyX0 tyX0_ok nmX0 hown hK hP hD hS 0 rfl rfl 8 (by decide) (hts _ fk_X0_39) (fun _ h9 => h9) rfl (by decide +kernel) rfl rfl (Nat.le_of_ble_eq_true rfl) dX0_surveyMeet_173 (fun H locs hP hD hS => ?_)
      have hP : va_P D vwCl [(d1, .inr (4, [.ref d2, .ref d3, .ref d4, .ref d5, .int dm, .int dd, .int (de + (1 : Int32)), .int (dp + thr), .int z6])), (d2, .inl (kJ, 12, .inr (.inl la))), (d3, .inl (kJ, 12, .inr (.inl lb))), (d4, .inl (kJ, 12, .inr (.inl lc))), (d5, .inl (kI, 12, .inl di))] H := hP
      have hD : va_D A [(d1, .inr (4, [.ref d2, .ref d3, .ref d4, .ref d5, .int dm, .int dd, .int (de + (1 : Int32)), .int (dp + thr), .int z6])), (d2, .inl (kJ, 12, .inr (.inl la))), (d3, .inl (kJ, 12, .inr (.inl lb))), (d4, .inl (kJ, 12, .inr (.inl lc))), (d5, .inl (kI, 12, .inl di))] := hD
      have hP9 := hP
      have hD9 := hD
      have hS9 := hS
      subst ez6 ez4 ez3 ez1
      have qt : tX0_surveyMeet la lb lc di dd de dp dq ia ib = (de + (1 : Int32), dp + thr, if dq < thr then thr else dq) := by rw [← hLA, tX0_surveyMeet_A_s, if_pos c5]
      have q_de : gX0_surveyMeet_de la lb lc di dd de dp dq ia ib = de + (1 : Int32) := by unfold gX0_surveyMeet_de; rw [qt]
      have q_dp : gX0_surveyMeet_dp la lb lc di dd de dp dq ia ib = dp + thr := by unfold gX0_surveyMeet_dp; rw [qt]
      have q_dq : gX0_surveyMeet_dq la lb lc di dd de dp dq ia ib = if dq < thr then thr else dq := by unfold gX0_surveyMeet_dq; rw [qt]
      rw [q_de, q_dp, q_dq]
      exact W.vret hx hb hr (fun t ht hW => ⟨⟨rfl, by rw [ht]; exact hP9, by rw [hAe]; exact hD9⟩, by rw [hAe]; exact hS9.F ht⟩) hS9.2.2 dX0_surveyMeet_176
    · refine lv_aload_n hx hb dX0_surveyMeet_75 rfl (lv_at hl 5 rfl) ?_
      refine va_get (D := D) (ci := 4) (v := .ref d5) (C := RX0) (T := TX0) (N := 9) hx hb hts hinX0 hown hK hP 0 rfl rfl 3 (by decide) (hts _ fk_X0_21) (fun _ h9 => h9) rfl dX0_surveyMeet_76 ?_
      refine lv_iload hx hb dX0_surveyMeet_79 (lv_at hl 0 rfl) ?_
      refine va_iald hx hb hK hP 4 0 rfl rfl (xr_in huA c5 odd) dX0_surveyMeet_81 ?_
      refine lv_istore (lv' := [(11, .int (di kk.toNatClampNeg)), (10, .int kk), (9, .int thr), (7, .long z4), (5, .long z3), (3, .long z1), (0, .ref d1), (1, .int ia), (2, .int ib)]) hx hb dX0_surveyMeet_82 hl (by decide) rfl (fun ls hl => ?_)
      refine lv_aload_n hx hb dX0_surveyMeet_84 rfl (lv_at hl 6 rfl) ?_
      refine va_get (D := D) (ci := 4) (v := .ref d2) (C := RX0) (T := TX0) (N := 9) hx hb hts hinX0 hown hK hP 0 rfl rfl 0 (by decide) (hts _ fk_X0_9) (fun _ h9 => h9) rfl dX0_surveyMeet_85 ?_
      refine lv_iload hx hb dX0_surveyMeet_88 (lv_at hl 0 rfl) ?_
      refine va_lald hx hb hK hP 1 1 rfl rfl (odi _ (xr_cl huA c5)) dX0_surveyMeet_90 ?_
      refine lv_lload hx hb dX0_surveyMeet_91 (lv_at hl 4 rfl) ?_
      refine lv_lmul hx hb dX0_surveyMeet_93 ?_
      refine lv_aload_n hx hb dX0_surveyMeet_94 rfl (lv_at hl 6 rfl) ?_
      refine va_get (D := D) (ci := 4) (v := .ref d3) (C := RX0) (T := TX0) (N := 9) hx hb hts hinX0 hown hK hP 0 rfl rfl 1 (by decide) (hts _ fk_X0_15) (fun _ h9 => h9) rfl dX0_surveyMeet_95 ?_
      refine lv_iload hx hb dX0_surveyMeet_98 (lv_at hl 0 rfl) ?_
      refine va_lald hx hb hK hP 2 1 rfl rfl (odi _ (xr_cl huA c5)) dX0_surveyMeet_100 ?_
      refine lv_lload hx hb dX0_surveyMeet_101 (lv_at hl 3 rfl) ?_
      refine lv_lmul hx hb dX0_surveyMeet_103 ?_
      refine lv_ladd hx hb dX0_surveyMeet_104 ?_
      refine lv_aload_n hx hb dX0_surveyMeet_105 rfl (lv_at hl 6 rfl) ?_
      refine va_get (D := D) (ci := 4) (v := .ref d4) (C := RX0) (T := TX0) (N := 9) hx hb hts hinX0 hown hK hP 0 rfl rfl 2 (by decide) (hts _ fk_X0_18) (fun _ h9 => h9) rfl dX0_surveyMeet_106 ?_
      refine lv_iload hx hb dX0_surveyMeet_109 (lv_at hl 0 rfl) ?_
      refine va_lald hx hb hK hP 3 1 rfl rfl (odi _ (xr_cl huA c5)) dX0_surveyMeet_111 ?_
      refine lv_lload_n hx hb dX0_surveyMeet_112 rfl (lv_at hl 5 rfl) ?_
      refine lv_lmul hx hb dX0_surveyMeet_113 ?_
      refine lv_ladd hx hb dX0_surveyMeet_114 ?_
      refine lv_lconst (v := 0) hx hb dX0_surveyMeet_115 (by decide) ?_
      refine W.lcmp hx hb dX0_surveyMeet_116 ?_
      refine lv_if_ne (tgt := 136) hx hb dX0_surveyMeet_117 (by decide) (fun c7 => ?_) (fun c7 => ?_)
      · obtain ⟨z8, ez8⟩ : ∃ y : Int32, y = kk + 1 := ⟨_, rfl⟩
        refine lv_iinc (v := z8) (lv' := [(10, .int z8), (11, .int (di kk.toNatClampNeg)), (9, .int thr), (7, .long z4), (5, .long z3), (3, .long z1), (0, .ref d1), (1, .int ia), (2, .int ib)]) hx hb dX0_surveyMeet_136 hl (k := 1) rfl (by rw [ez8]; rfl) (by decide) rfl (fun ls hl => ?_)
        refine lv_goto (tgt := 66) hx hb dX0_surveyMeet_139 (by decide) ?_
        have hl9 := hl
        subst ez8
        subst ez4
        subst ez3
        subst ez1
        exact ihA thr (kk + 1) _ (lv_sub hl9 [0, 2, 3, 4, 5, 6, 7, 8] rfl) ⟨xr_us huA c5, by rw [← hLA, tX0_surveyMeet_A_s, if_neg c5, if_neg c7]⟩
      · refine lv_iload hx hb dX0_surveyMeet_120 (lv_at hl 1 rfl) ?_
        refine lv_iload_n hx hb dX0_surveyMeet_122 rfl (lv_at hl 8 rfl) ?_
        refine lv_icmp_ge (tgt := 133) hx hb dX0_surveyMeet_123 (by decide) (fun c9 => ?_) (fun c9 => ?_)
        · obtain ⟨z10, ez10⟩ : ∃ y : Int32, y = thr + 1 := ⟨_, rfl⟩
          refine lv_iinc (v := z10) (lv' := [(9, .int z10), (11, .int (di kk.toNatClampNeg)), (10, .int kk), (7, .long z4), (5, .long z3), (3, .long z1), (0, .ref d1), (1, .int ia), (2, .int ib)]) hx hb dX0_surveyMeet_133 hl (k := 2) rfl (by rw [ez10]; rfl) (by decide) rfl (fun ls hl => ?_)
          obtain ⟨z11, ez11⟩ : ∃ y : Int32, y = kk + 1 := ⟨_, rfl⟩
          refine lv_iinc (v := z11) (lv' := [(10, .int z11), (9, .int z10), (11, .int (di kk.toNatClampNeg)), (7, .long z4), (5, .long z3), (3, .long z1), (0, .ref d1), (1, .int ia), (2, .int ib)]) hx hb dX0_surveyMeet_136 hl (k := 2) rfl (by rw [ez11]; rfl) (by decide) rfl (fun ls hl => ?_)
          refine lv_goto (tgt := 66) hx hb dX0_surveyMeet_139 (by decide) ?_
          have hl9 := hl
          subst ez11
          subst ez10
          subst ez4
          subst ez3
          subst ez1
          exact ihA (thr + 1) (kk + 1) _ (lv_sub hl9 [0, 1, 3, 4, 5, 6, 7, 8] rfl) ⟨xr_us huA c5, by rw [← hLA, tX0_surveyMeet_A_s, if_neg c5, if_pos c7, if_pos c9]⟩
        · refine lv_iload hx hb dX0_surveyMeet_126 (lv_at hl 1 rfl) ?_
          refine lv_iload_n hx hb dX0_surveyMeet_128 rfl (lv_at hl 7 rfl) ?_
          refine lv_icmp_eq (tgt := 133) hx hb dX0_surveyMeet_129 (by decide) (fun c12 => ?_) (fun c12 => ?_)
          · obtain ⟨z13, ez13⟩ : ∃ y : Int32, y = thr + 1 := ⟨_, rfl⟩
            refine lv_iinc (v := z13) (lv' := [(9, .int z13), (11, .int (di kk.toNatClampNeg)), (10, .int kk), (7, .long z4), (5, .long z3), (3, .long z1), (0, .ref d1), (1, .int ia), (2, .int ib)]) hx hb dX0_surveyMeet_133 hl (k := 2) rfl (by rw [ez13]; rfl) (by decide) rfl (fun ls hl => ?_)
            obtain ⟨z14, ez14⟩ : ∃ y : Int32, y = kk + 1 := ⟨_, rfl⟩
            refine lv_iinc (v := z14) (lv' := [(10, .int z14), (9, .int z13), (11, .int (di kk.toNatClampNeg)), (7, .long z4), (5, .long z3), (3, .long z1), (0, .ref d1), (1, .int ia), (2, .int ib)]) hx hb dX0_surveyMeet_136 hl (k := 2) rfl (by rw [ez14]; rfl) (by decide) rfl (fun ls hl => ?_)
            refine lv_goto (tgt := 66) hx hb dX0_surveyMeet_139 (by decide) ?_
            have hl9 := hl
            subst ez14
            subst ez13
            subst ez4
            subst ez3
            subst ez1
            exact ihA (thr + 1) (kk + 1) _ (lv_sub hl9 [0, 1, 3, 4, 5, 6, 7, 8] rfl) ⟨xr_us huA c5, by rw [← hLA, tX0_surveyMeet_A_s, if_neg c5, if_pos c7, if_neg c9, if_pos c12]⟩
          · have hP9 := hP
            have hD9 := hD
            have hS9 := hS
            subst ez4 ez3 ez1
            have qt : tX0_surveyMeet la lb lc di dd de dp dq ia ib = (de, dp, dq) := by rw [← hLA, tX0_surveyMeet_A_s, if_neg c5, if_pos c7, if_neg c9, if_neg c12]
            have q_de : gX0_surveyMeet_de la lb lc di dd de dp dq ia ib = de := by unfold gX0_surveyMeet_de; rw [qt]
            have q_dp : gX0_surveyMeet_dp la lb lc di dd de dp dq ia ib = dp := by unfold gX0_surveyMeet_dp; rw [qt]
            have q_dq : gX0_surveyMeet_dq la lb lc di dd de dp dq ia ib = dq := by unfold gX0_surveyMeet_dq; rw [qt]
            rw [q_de, q_dp, q_dq]
            exact W.vret hx hb hr (fun t ht hW => ⟨⟨rfl, by rw [ht]; exact hP9, by rw [hAe]; exact hD9⟩, by rw [hAe]; exact hS9.F ht⟩) hS9.2.2 dX0_surveyMeet_132
  · have hP9 := hP
    have hD9 := hD
    have hS9 := hS
    subst ez1
    have qt : tX0_surveyMeet la lb lc di dd de dp dq ia ib = (de, dp, dq) := by unfold tX0_surveyMeet; rw [if_pos c2]
    have q_de : gX0_surveyMeet_de la lb lc di dd de dp dq ia ib = de := by unfold gX0_surveyMeet_de; rw [qt]
    have q_dp : gX0_surveyMeet_dp la lb lc di dd de dp dq ia ib = dp := by unfold gX0_surveyMeet_dp; rw [qt]
    have q_dq : gX0_surveyMeet_dq la lb lc di dd de dp dq ia ib = dq := by unfold gX0_surveyMeet_dq; rw [qt]
    rw [q_de, q_dp, q_dq]
    exact W.vret hx hb hr (fun t ht hW => ⟨⟨rfl, by rw [ht]; exact hP9, by rw [hAe]; exact hD9⟩, by rw [hAe]; exact hS9.F ht⟩) hS9.2.2 dX0_surveyMeet_23
def tX0_survey_B (la lb lc : Nat → Int64) (di : Nat → Int32) (dd de dp dq : Int32) (n : Int32) (j : Int32) (ae : Int32) (ap : Int32) (aq : Int32) (K : Int32 → Int32 → Int32 → Int32 → (Nat → Int32) × Int32 × Int32 × Int32 × Int32) : Nat → Int32 → Int32 → Int32 → Int32 → (Nat → Int32) × Int32 × Int32 × Int32 × Int32
  | 0, _, _, _, _ => (fun _ => 0, 0, 0, 0, 0)
  | kB + 1, i, be, bp, bq => if j ≤ i then (K i be bp bq) else (tX0_survey_B la lb lc di dd de dp dq n j ae ap aq K kB (i + 1) (gX0_surveyMeet_de la lb lc (gX0_gatherDifferent_di la lb lc di dd n) (gX0_gatherDifferent_dd la lb lc di dd n) be bp bq i j) (gX0_surveyMeet_dp la lb lc (gX0_gatherDifferent_di la lb lc di dd n) (gX0_gatherDifferent_dd la lb lc di dd n) be bp bq i j) (gX0_surveyMeet_dq la lb lc (gX0_gatherDifferent_di la lb lc di dd n) (gX0_gatherDifferent_dd la lb lc di dd n) be bp bq i j))
theorem tX0_survey_B_s (la lb lc : Nat → Int64) (di : Nat → Int32) (dd de dp dq : Int32) (n : Int32) (j : Int32) (ae : Int32) (ap : Int32) (aq : Int32) (K : Int32 → Int32 → Int32 → Int32 → (Nat → Int32) × Int32 × Int32 × Int32 × Int32) (kB : Nat) (i : Int32) (be : Int32) (bp : Int32) (bq : Int32) : tX0_survey_B la lb lc di dd de dp dq n j ae ap aq K (kB + 1) i be bp bq = (if j ≤ i then (K i be bp bq) else (tX0_survey_B la lb lc di dd de dp dq n j ae ap aq K kB (i + 1) (gX0_surveyMeet_de la lb lc (gX0_gatherDifferent_di la lb lc di dd n) (gX0_gatherDifferent_dd la lb lc di dd n) be bp bq i j) (gX0_surveyMeet_dp la lb lc (gX0_gatherDifferent_di la lb lc di dd n) (gX0_gatherDifferent_dd la lb lc di dd n) be bp bq i j) (gX0_surveyMeet_dq la lb lc (gX0_gatherDifferent_di la lb lc di dd n) (gX0_gatherDifferent_dd la lb lc di dd n) be bp bq i j))) := rfl
def tX0_survey_A (la lb lc : Nat → Int64) (di : Nat → Int32) (dd de dp dq : Int32) (n : Int32) : Nat → Int32 → Int32 → Int32 → Int32 → (Nat → Int32) × Int32 × Int32 × Int32 × Int32
  | 0, _, _, _, _ => (fun _ => 0, 0, 0, 0, 0)
  | kA + 1, j, ae, ap, aq => if (gX0_gatherDifferent_dd la lb lc di dd n) ≤ j then ((gX0_gatherDifferent_di la lb lc di dd n, gX0_gatherDifferent_dd la lb lc di dd n, ae, ap, aq)) else (tX0_survey_B la lb lc di dd de dp dq n j ae ap aq (fun i be bp bq => tX0_survey_A la lb lc di dd de dp dq n kA (j + 1) be bp bq) (j.toInt.toNat + 1) (0 : Int32) ae ap aq)
theorem tX0_survey_A_s (la lb lc : Nat → Int64) (di : Nat → Int32) (dd de dp dq : Int32) (n : Int32) (kA : Nat) (j : Int32) (ae : Int32) (ap : Int32) (aq : Int32) : tX0_survey_A la lb lc di dd de dp dq n  (kA + 1) j ae ap aq = (if (gX0_gatherDifferent_dd la lb lc di dd n) ≤ j then ((gX0_gatherDifferent_di la lb lc di dd n, gX0_gatherDifferent_dd la lb lc di dd n, ae, ap, aq)) else (tX0_survey_B la lb lc di dd de dp dq n j ae ap aq (fun i be bp bq => tX0_survey_A la lb lc di dd de dp dq n kA (j + 1) be bp bq) (j.toInt.toNat + 1) (0 : Int32) ae ap aq)) := rfl
def tX0_survey (la lb lc : Nat → Int64) (di : Nat → Int32) (dd de dp dq : Int32) (n : Int32) : (Nat → Int32) × Int32 × Int32 × Int32 × Int32 := tX0_survey_A la lb lc di dd de dp dq n ((gX0_gatherDifferent_dd la lb lc di dd n).toInt.toNat + 1) (0 : Int32) (0 : Int32) (0 : Int32) (0 : Int32)
def gX0_survey_di (la lb lc : Nat → Int64) (di : Nat → Int32) (dd de dp dq : Int32) (n : Int32) : Nat → Int32 := (tX0_survey la lb lc di dd de dp dq n).1
def gX0_survey_dd (la lb lc : Nat → Int64) (di : Nat → Int32) (dd de dp dq : Int32) (n : Int32) : Int32 := (tX0_survey la lb lc di dd de dp dq n).2.1
def gX0_survey_de (la lb lc : Nat → Int64) (di : Nat → Int32) (dd de dp dq : Int32) (n : Int32) : Int32 := (tX0_survey la lb lc di dd de dp dq n).2.2.1
def gX0_survey_dp (la lb lc : Nat → Int64) (di : Nat → Int32) (dd de dp dq : Int32) (n : Int32) : Int32 := (tX0_survey la lb lc di dd de dp dq n).2.2.2.1
def gX0_survey_dq (la lb lc : Nat → Int64) (di : Nat → Int32) (dd de dp dq : Int32) (n : Int32) : Int32 := (tX0_survey la lb lc di dd de dp dq n).2.2.2.2
set_option maxHeartbeats 4000000 in
set_option maxRecDepth 100000 in
theorem ct0_survey (l : Launch) (D : va_G) (sz : Nat) (d1 d2 d3 d4 d5 : Nat) (kI kJ : ClassId) (la lb lc : Nat → Int64) (di : Nat → Int32) (dm dd de dp dq : Int32) (n : Int32) (on_ : n.toInt ≤ (12 : Nat)) : Met l yX0_survey (Cond.code yX0_survey cX0_survey 4 none :: BX) ({ frames := 3, cells := 0, slots := 0, locals := 180 }) (xw_P nN D vwCl [(kI, .int), (kJ, .long)] (wDr d1 d2 d3 d4 d5 kI kJ la lb lc di dm dd de dp dq) sz [.ref d1, .int n]) (xw_Q D vwCl none (wDr d1 d2 d3 d4 d5 kI kJ la lb lc di dm dd de dp dq) (wDr d1 d2 d3 d4 d5 kI kJ la lb lc (gX0_survey_di la lb lc di dd de dp dq n) dm (gX0_survey_dd la lb lc di dd de dp dq n) (gX0_survey_de la lb lc di dd de dp dq n) (gX0_survey_dp la lb lc di dd de dp dq n) (gX0_survey_dq la lb lc di dd de dp dq n)) sz) 0 0 (va_A (wDr d1 d2 d3 d4 d5 kI kJ la lb lc di dm dd de dp dq) sz) := by
  refine Met.ofW (cc := cX0_survey) (maxL := 4) (ret := none) (by decide) rfl ?_
  intro p e s m args below meth c s₁ B hml hv
  obtain ⟨rfl, hsz, hP, hK, hN, hD0⟩ := hv
  have hx := B.exec
  have hb := B.bytes
  have hr := B.returns
  have hts0 := atoms_spec (ws := Cond.code yX0_survey cX0_survey 4 none :: BX) B.pre
  have hts : ∀ w ∈ BX, w.before _ s = true := fun w h => hts0 w (List.mem_cons_of_mem _ h)
  have hown : s.vm.findClass RX0 = some m.cls := findClass_of_methodNamed B.named
  have hlocks := B.notSynchronized
  subst hsz
  have hD := hD0.self (sz := s.heap.size)
  generalize hAe : va_A (wDr d1 d2 d3 d4 d5 kI kJ la lb lc di dm dd de dp dq) s.heap.size = A at hD ⊢
  have hA : ∀ q : Nat, s.heap.size ≤ q → A q := fun q h => by rw [← hAe]; exact Or.inr h
  have hS : va_S A s.heap s.heap [] := va_S.rf
  have hP : va_P D vwCl [(d1, .inr (4, [.ref d2, .ref d3, .ref d4, .ref d5, .int dm, .int dd, .int de, .int dp, .int dq])), (d2, .inl (kJ, 12, .inr (.inl la))), (d3, .inl (kJ, 12, .inr (.inl lb))), (d4, .inl (kJ, 12, .inr (.inl lc))), (d5, .inl (kI, 12, .inl di))] s.heap := hP
  have hD : va_D A [(d1, .inr (4, [.ref d2, .ref d3, .ref d4, .ref d5, .int dm, .int dd, .int de, .int dp, .int dq])), (d2, .inl (kJ, 12, .inr (.inl la))), (d3, .inl (kJ, 12, .inr (.inl lb))), (d4, .inl (kJ, 12, .inr (.inl lc))), (d5, .inl (kI, 12, .inl di))] := hD
  have hl := lv_entry ([.ref d1, .int n]) (n := 4) (Nat.le_of_ble_eq_true rfl)
  rw [lg_entry_eq]
  generalize (lg_sl ([.ref d1, .int n]) ++ List.replicate (4 - (lg_sl ([.ref d1, .int n])).length) Slot.unset).toArray = ls at hl ⊢
  have hl : lv_has ls 4 [(0, .ref d1), (1, .int n)] := hl
  refine lv_aload_n hx hb dX0_survey_0 rfl (lv_at hl 0 rfl) ?_
  refine lv_iload_n hx hb dX0_survey_1 rfl (lv_at hl 1 rfl) ?_
  refine xw_Vv (q := (RX0, TX0, 9)) (ci := 4) (q0 := 0) (rest := []) (As := [.int n]) (wr := []) (w1 := (wDr d1 d2 d3 d4 d5 kI kJ la lb lc (gX0_gatherDifferent_di la lb lc di dd n) dm (gX0_gatherDifferent_dd la lb lc di dd n) de dp dq)) (ws' := [(d1, .inr (4, [.ref d2, .ref d3, .ref d4, .ref d5, .int dm, .int (gX0_gatherDifferent_dd la lb lc di dd n), .int de, .int dp, .int dq])), (d2, .inl (kJ, 12, .inr (.inl la))), (d3, .inl (kJ, 12, .inr (.inl lb))), (d4, .inl (kJ, 12, .inr (.inl lc))), (d5, .inl (kI, 12, .inl (gX0_gatherDifferent_di la lb lc di dd n)))]) ⟨hx, hb, hml, hown, hts⟩ (ct0_gatherDifferent l D _ d1 d2 d3 d4 d5 kI kJ la lb lc di dm dd de dp dq n on_) (cwV 1 hts gl_X0_29 rfl rfl rfl (by decide +kernel) ⟨Nat.le_of_ble_eq_true rfl, Nat.le_of_ble_eq_true rfl⟩) nN_mv hN hK hP hD hS hA [0, 1, 2, 3, 4] [] [0, 1, 2, 3, 4] [0, 1] rfl (by decide) rfl rfl rfl (by decide) (by decide) rfl (by decide) rfl rfl rfl rfl hl.1 rfl (Nat.le_of_ble_eq_true rfl) dX0_survey_2 ⟨Nat.le_of_ble_eq_true rfl, Nat.le_of_ble_eq_true rfl⟩ (fun H locs hP hD hS => ?_)
  have hP : va_P D vwCl [(d1, .inr (4, [.ref d2, .ref d3, .ref d4, .ref d5, .int dm, .int (gX0_gatherDifferent_dd la lb lc di dd n), .int de, .int dp, .int dq])), (d2, .inl (kJ, 12, .inr (.inl la))), (d3, .inl (kJ, 12, .inr (.inl lb))), (d4, .inl (kJ, 12, .inr (.inl lc))), (d5, .inl (kI, 12, .inl (gX0_gatherDifferent_di la lb lc di dd n)))] H := hP
  have hD : va_D A [(d1, .inr (4, [.ref d2, .ref d3, .ref d4, .ref d5, .int dm, .int (gX0_gatherDifferent_dd la lb lc di dd n), .int de, .int dp, .int dq])), (d2, .inl (kJ, 12, .inr (.inl la))), (d3, .inl (kJ, 12, .inr (.inl lb))), (d4, .inl (kJ, 12, .inr (.inl lc))), (d5, .inl (kI, 12, .inl (gX0_gatherDifferent_di la lb lc di dd n)))] := hD
  refine lv_aload_n hx hb dX0_survey_5 rfl (lv_at hl 0 rfl) ?_
  refine lv_iconst (v := 0) hx hb dX0_survey_6 (by decide) ?_
  refine va_put (D := D) (ci := 4) (v := .int (0 : Int32)) (ty := .int) (C := RX0) (T := TX0) (N := 9) hx hb hts hinX0 tyX0 tyX0_ok nmX0 hown hK hP hD hS 0 rfl rfl 6 (by decide) (hts _ fk_X0_33) (fun _ h9 => h9) rfl (by decide +kernel) rfl rfl (Nat.le_of_ble_eq_true rfl) dX0_survey_7 (fun H locs hP hD hS => ?_)
  have hP : va_P D vwCl [(d1, .inr (4, [.ref d2, .ref d3, .ref d4, .ref d5, .int dm, .int (gX0_gatherDifferent_dd la lb lc di dd n), .int (0 : Int32), .int dp, .int dq])), (d2, .inl (kJ, 12, .inr (.inl la))), (d3, .inl (kJ, 12, .inr (.inl lb))), (d4, .inl (kJ, 12, .inr (.inl lc))), (d5, .inl (kI, 12, .inl (gX0_gatherDifferent_di la lb lc di dd n)))] H := hP
  have hD : va_D A [(d1, .inr (4, [.ref d2, .ref d3, .ref d4, .ref d5, .int dm, .int (gX0_gatherDifferent_dd la lb lc di dd n), .int (0 : Int32), .int dp, .int dq])), (d2, .inl (kJ, 12, .inr (.inl la))), (d3, .inl (kJ, 12, .inr (.inl lb))), (d4, .inl (kJ, 12, .inr (.inl lc))), (d5, .inl (kI, 12, .inl (gX0_gatherDifferent_di la lb lc di dd n)))] := hD
  refine lv_aload_n hx hb dX0_survey_10 rfl (lv_at hl 0 rfl) ?_
  refine lv_iconst (v := 0) hx hb dX0_survey_11 (by decide) ?_
  refine va_put (D := D) (ci := 4) (v := .int (0 : Int32)) (ty := .int) (C := RX0) (T := TX0) (N := 9) hx hb hts hinX0 tyX0 tyX0_ok nmX0 hown hK hP hD hS 0 rfl rfl 7 (by decide) (hts _ fk_X0_36) (fun _ h9 => h9) rfl (by decide +kernel) rfl rfl (Nat.le_of_ble_eq_true rfl) dX0_survey_12 (fun H locs hP hD hS => ?_)
  have hP : va_P D vwCl [(d1, .inr (4, [.ref d2, .ref d3, .ref d4, .ref d5, .int dm, .int (gX0_gatherDifferent_dd la lb lc di dd n), .int (0 : Int32), .int (0 : Int32), .int dq])), (d2, .inl (kJ, 12, .inr (.inl la))), (d3, .inl (kJ, 12, .inr (.inl lb))), (d4, .inl (kJ, 12, .inr (.inl lc))), (d5, .inl (kI, 12, .inl (gX0_gatherDifferent_di la lb lc di dd n)))] H := hP
  have hD : va_D A [(d1, .inr (4, [.ref d2, .ref d3, .ref d4, .ref d5, .int dm, .int (gX0_gatherDifferent_dd la lb lc di dd n), .int (0 : Int32), .int (0 : Int32), .int dq])), (d2, .inl (kJ, 12, .inr (.inl la))), (d3, .inl (kJ, 12, .inr (.inl lb))), (d4, .inl (kJ, 12, .inr (.inl lc))), (d5, .inl (kI, 12, .inl (gX0_gatherDifferent_di la lb lc di dd n)))] := hD
  refine lv_aload_n hx hb dX0_survey_15 rfl (lv_at hl 0 rfl) ?_
  refine lv_iconst (v := 0) hx hb dX0_survey_16 (by decide) ?_
  refine va_put (D := D) (ci := 4) (v := .int (0 : Int32)) (ty := .int) (C := RX0) (T := TX0) (N := 9) hx hb hts hinX0 tyX0 tyX0_ok nmX0 hown hK hP hD hS 0 rfl rfl 8 (by decide) (hts _ fk_X0_39) (fun _ h9 => h9) rfl (by decide +kernel) rfl rfl (Nat.le_of_ble_eq_true rfl) dX0_survey_17 (fun H locs hP hD hS => ?_)
  have hP : va_P D vwCl [(d1, .inr (4, [.ref d2, .ref d3, .ref d4, .ref d5, .int dm, .int (gX0_gatherDifferent_dd la lb lc di dd n), .int (0 : Int32), .int (0 : Int32), .int (0 : Int32)])), (d2, .inl (kJ, 12, .inr (.inl la))), (d3, .inl (kJ, 12, .inr (.inl lb))), (d4, .inl (kJ, 12, .inr (.inl lc))), (d5, .inl (kI, 12, .inl (gX0_gatherDifferent_di la lb lc di dd n)))] H := hP
  have hD : va_D A [(d1, .inr (4, [.ref d2, .ref d3, .ref d4, .ref d5, .int dm, .int (gX0_gatherDifferent_dd la lb lc di dd n), .int (0 : Int32), .int (0 : Int32), .int (0 : Int32)])), (d2, .inl (kJ, 12, .inr (.inl la))), (d3, .inl (kJ, 12, .inr (.inl lb))), (d4, .inl (kJ, 12, .inr (.inl lc))), (d5, .inl (kI, 12, .inl (gX0_gatherDifferent_di la lb lc di dd n)))] := hD
  refine lv_iconst (v := 0) hx hb dX0_survey_20 (by decide) ?_
  refine lv_istore_n (lv' := [(2, .int (0 : Int32)), (0, .ref d1), (1, .int n)]) hx hb dX0_survey_21 rfl hl (by decide) rfl (fun ls hl => ?_)
  refine xr_w4 (P := fun H L ls => W p l e _ s m _ below meth c H L _ _ _ (F0 m 22 ls [])) (nL := 4) (fun (j : Int32) (ae : Int32) (ap : Int32) (aq : Int32) => [(2, .int j), (0, .ref d1), (1, .int n)]) (fun kA (j : Int32) (ae : Int32) (ap : Int32) (aq : Int32) H L => xr_u (gX0_gatherDifferent_dd la lb lc di dd n) j kA ∧ va_P D vwCl [(d1, .inr (4, [.ref d2, .ref d3, .ref d4, .ref d5, .int dm, .int (gX0_gatherDifferent_dd la lb lc di dd n), .int ae, .int ap, .int aq])), (d2, .inl (kJ, 12, .inr (.inl la))), (d3, .inl (kJ, 12, .inr (.inl lb))), (d4, .inl (kJ, 12, .inr (.inl lc))), (d5, .inl (kI, 12, .inl (gX0_gatherDifferent_di la lb lc di dd n)))] H ∧ va_D A [(d1, .inr (4, [.ref d2, .ref d3, .ref d4, .ref d5, .int dm, .int (gX0_gatherDifferent_dd la lb lc di dd n), .int ae, .int ap, .int aq])), (d2, .inl (kJ, 12, .inr (.inl la))), (d3, .inl (kJ, 12, .inr (.inl lb))), (d4, .inl (kJ, 12, .inr (.inl lc))), (d5, .inl (kI, 12, .inl (gX0_gatherDifferent_di la lb lc di dd n)))] ∧ va_S A s.heap H L ∧ tX0_survey_A la lb lc di dd de dp dq n kA j ae ap aq = tX0_survey la lb lc di dd de dp dq n) (fun _ _ _ _ _ _ h => xr_u0 h.1) ?_ ((gX0_gatherDifferent_dd la lb lc di dd n).toInt.toNat + 1) (0 : Int32) (0 : Int32) (0 : Int32) (0 : Int32) _ _ ls hl ⟨(xr_ub (gX0_gatherDifferent_dd la lb lc di dd n)), hP, hD, hS, (by unfold tX0_survey; rfl)⟩
  clear hl
  intro kA j ae ap aq H locs ls hl hI ihA
  obtain ⟨huA, hP, hD, hS, hLA⟩ := hI
  refine lv_iload_n hx hb dX0_survey_22 rfl (lv_at hl 0 rfl) ?_
  refine lv_aload_n hx hb dX0_survey_23 rfl (lv_at hl 1 rfl) ?_
  refine va_get (D := D) (ci := 4) (v := .int (gX0_gatherDifferent_dd la lb lc di dd n)) (C := RX0) (T := TX0) (N := 9) hx hb hts hinX0 hown hK hP 0 rfl rfl 5 (by decide) (hts _ fk_X0_42) (fun _ h9 => h9) rfl dX0_survey_24 ?_
  refine lv_icmp_ge (tgt := 55) hx hb dX0_survey_27 (by decide) (fun c1 => ?_) (fun c1 => ?_)
  · have hP9 := hP
    have hD9 := hD
    have hS9 := hS
    have qt : tX0_survey la lb lc di dd de dp dq n = (gX0_gatherDifferent_di la lb lc di dd n, gX0_gatherDifferent_dd la lb lc di dd n, ae, ap, aq) := by rw [← hLA, tX0_survey_A_s, if_pos c1]
    have q_di : gX0_survey_di la lb lc di dd de dp dq n = gX0_gatherDifferent_di la lb lc di dd n := by unfold gX0_survey_di; rw [qt]
    have q_dd : gX0_survey_dd la lb lc di dd de dp dq n = gX0_gatherDifferent_dd la lb lc di dd n := by unfold gX0_survey_dd; rw [qt]
    have q_de : gX0_survey_de la lb lc di dd de dp dq n = ae := by unfold gX0_survey_de; rw [qt]
    have q_dp : gX0_survey_dp la lb lc di dd de dp dq n = ap := by unfold gX0_survey_dp; rw [qt]
    have q_dq : gX0_survey_dq la lb lc di dd de dp dq n = aq := by unfold gX0_survey_dq; rw [qt]
    rw [q_di, q_dd, q_de, q_dp, q_dq]
    exact W.vret hx hb hr (fun t ht hW => ⟨⟨rfl, by rw [ht]; exact hP9, by rw [hAe]; exact hD9⟩, by rw [hAe]; exact hS9.F ht⟩) hS9.2.2 dX0_survey_55
  · refine lv_iconst (v := 0) hx hb dX0_survey_30 (by decide) ?_
    refine lv_istore_n (lv' := [(3, .int (0 : Int32)), (2, .int j), (0, .ref d1), (1, .int n)]) hx hb dX0_survey_31 rfl hl (by decide) rfl (fun ls hl => ?_)
    refine xr_w4 (P := fun H L ls => W p l e _ s m _ below meth c H L _ _ _ (F0 m 32 ls [])) (nL := 4) (fun (i : Int32) (be : Int32) (bp : Int32) (bq : Int32) => [(3, .int i), (2, .int j), (0, .ref d1), (1, .int n)]) (fun kB (i : Int32) (be : Int32) (bp : Int32) (bq : Int32) H L => xr_u j i kB ∧ va_P D vwCl [(d1, .inr (4, [.ref d2, .ref d3, .ref d4, .ref d5, .int dm, .int (gX0_gatherDifferent_dd la lb lc di dd n), .int be, .int bp, .int bq])), (d2, .inl (kJ, 12, .inr (.inl la))), (d3, .inl (kJ, 12, .inr (.inl lb))), (d4, .inl (kJ, 12, .inr (.inl lc))), (d5, .inl (kI, 12, .inl (gX0_gatherDifferent_di la lb lc di dd n)))] H ∧ va_D A [(d1, .inr (4, [.ref d2, .ref d3, .ref d4, .ref d5, .int dm, .int (gX0_gatherDifferent_dd la lb lc di dd n), .int be, .int bp, .int bq])), (d2, .inl (kJ, 12, .inr (.inl la))), (d3, .inl (kJ, 12, .inr (.inl lb))), (d4, .inl (kJ, 12, .inr (.inl lc))), (d5, .inl (kI, 12, .inl (gX0_gatherDifferent_di la lb lc di dd n)))] ∧ va_S A s.heap H L ∧ tX0_survey_B la lb lc di dd de dp dq n j ae ap aq (fun i be bp bq => tX0_survey_A la lb lc di dd de dp dq n kA (j + 1) be bp bq) kB i be bp bq = tX0_survey la lb lc di dd de dp dq n) (fun _ _ _ _ _ _ h => xr_u0 h.1) ?_ (j.toInt.toNat + 1) (0 : Int32) ae ap aq _ _ ls hl ⟨(xr_ub j), hP, hD, hS, (by rw [← hLA, tX0_survey_A_s, if_neg c1])⟩
    clear hl
    intro kB i be bp bq H locs ls hl hI ihB
    obtain ⟨huB, hP, hD, hS, hLB⟩ := hI
    refine lv_iload_n hx hb dX0_survey_32 rfl (lv_at hl 0 rfl) ?_
    refine lv_iload_n hx hb dX0_survey_33 rfl (lv_at hl 1 rfl) ?_
    refine lv_icmp_ge (tgt := 49) hx hb dX0_survey_34 (by decide) (fun c2 => ?_) (fun c2 => ?_)
    · obtain ⟨z3, ez3⟩ : ∃ y : Int32, y = j + 1 := ⟨_, rfl⟩
      refine lv_iinc (v := z3) (lv' := [(2, .int z3), (3, .int i), (0, .ref d1), (1, .int n)]) hx hb dX0_survey_49 hl (k := 1) rfl (by rw [ez3]; rfl) (by decide) rfl (fun ls hl => ?_)
      refine lv_goto (tgt := 22) hx hb dX0_survey_52 (by decide) ?_
      have hl9 := hl
      have hP9 := hP
      have hD9 := hD
      have hS9 := hS
      subst ez3
      exact ihA (j + 1) be bp bq _ _ _ (lv_sub hl9 [0, 2, 3] rfl) ⟨xr_us huA c1, hP9, hD9, hS9, by rw [← hLB, tX0_survey_B_s, if_pos c2]⟩
    · refine lv_aload_n hx hb dX0_survey_37 rfl (lv_at hl 2 rfl) ?_
      refine lv_iload_n hx hb dX0_survey_38 rfl (lv_at hl 0 rfl) ?_
      refine lv_iload_n hx hb dX0_survey_39 rfl (lv_at hl 1 rfl) ?_
      refine xw_Vv (q := (RX0, TX0, 9)) (ci := 4) (q0 := 0) (rest := []) (As := [.int i, .int j]) (wr := []) (w1 := (wDr d1 d2 d3 d4 d5 kI kJ la lb lc (gX0_gatherDifferent_di la lb lc di dd n) dm (gX0_gatherDifferent_dd la lb lc di dd n) (gX0_surveyMeet_de la lb lc (gX0_gatherDifferent_di la lb lc di dd n) (gX0_gatherDifferent_dd la lb lc di dd n) be bp bq i j) (gX0_surveyMeet_dp la lb lc (gX0_gatherDifferent_di la lb lc di dd n) (gX0_gatherDifferent_dd la lb lc di dd n) be bp bq i j) (gX0_surveyMeet_dq la lb lc (gX0_gatherDifferent_di la lb lc di dd n) (gX0_gatherDifferent_dd la lb lc di dd n) be bp bq i j))) (ws' := [(d1, .inr (4, [.ref d2, .ref d3, .ref d4, .ref d5, .int dm, .int (gX0_gatherDifferent_dd la lb lc di dd n), .int (gX0_surveyMeet_de la lb lc (gX0_gatherDifferent_di la lb lc di dd n) (gX0_gatherDifferent_dd la lb lc di dd n) be bp bq i j), .int (gX0_surveyMeet_dp la lb lc (gX0_gatherDifferent_di la lb lc di dd n) (gX0_gatherDifferent_dd la lb lc di dd n) be bp bq i j), .int (gX0_surveyMeet_dq la lb lc (gX0_gatherDifferent_di la lb lc di dd n) (gX0_gatherDifferent_dd la lb lc di dd n) be bp bq i j)])), (d2, .inl (kJ, 12, .inr (.inl la))), (d3, .inl (kJ, 12, .inr (.inl lb))), (d4, .inl (kJ, 12, .inr (.inl lc))), (d5, .inl (kI, 12, .inl (gX0_gatherDifferent_di la lb lc di dd n)))]) ⟨hx, hb, hml, hown, hts⟩ (ct0_surveyMeet l D _ d1 d2 d3 d4 d5 kI kJ la lb lc (gX0_gatherDifferent_di la lb lc di dd n) dm (gX0_gatherDifferent_dd la lb lc di dd n) be bp bq i j ((gd_ok on_).1) ((gd_ok on_).2) (rg_tr (xr_rg huB c2) (xr_rg huA c1)) (xr_rg huA c1)) (cwV 2 hts gl_X0_45 rfl rfl rfl (by decide +kernel) ⟨Nat.le_of_ble_eq_true rfl, Nat.le_of_ble_eq_true rfl⟩) nN_mv hN hK hP hD hS hA [0, 1, 2, 3, 4] [] [0, 1, 2, 3, 4] [0, 1] rfl (by decide) rfl rfl rfl (by decide) (by decide) rfl (by decide) rfl rfl rfl rfl hl.1 rfl (Nat.le_of_ble_eq_true rfl) dX0_survey_40 ⟨Nat.le_of_ble_eq_true rfl, Nat.le_of_ble_eq_true rfl⟩ (fun H locs hP hD hS => ?_)
      have hP : va_P D vwCl [(d1, .inr (4, [.ref d2, .ref d3, .ref d4, .ref d5, .int dm, .int (gX0_gatherDifferent_dd la lb lc di dd n), .int (gX0_surveyMeet_de la lb lc (gX0_gatherDifferent_di la lb lc di dd n) (gX0_gatherDifferent_dd la lb lc di dd n) be bp bq i j), .int (gX0_surveyMeet_dp la lb lc (gX0_gatherDifferent_di la lb lc di dd n) (gX0_gatherDifferent_dd la lb lc di dd n) be bp bq i j), .int (gX0_surveyMeet_dq la lb lc (gX0_gatherDifferent_di la lb lc di dd n) (gX0_gatherDifferent_dd la lb lc di dd n) be bp bq i j)])), (d2, .inl (kJ, 12, .inr (.inl la))), (d3, .inl (kJ, 12, .inr (.inl lb))), (d4, .inl (kJ, 12, .inr (.inl lc))), (d5, .inl (kI, 12, .inl (gX0_gatherDifferent_di la lb lc di dd n)))] H := hP
      have hD : va_D A [(d1, .inr (4, [.ref d2, .ref d3, .ref d4, .ref d5, .int dm, .int (gX0_gatherDifferent_dd la lb lc di dd n), .int (gX0_surveyMeet_de la lb lc (gX0_gatherDifferent_di la lb lc di dd n) (gX0_gatherDifferent_dd la lb lc di dd n) be bp bq i j), .int (gX0_surveyMeet_dp la lb lc (gX0_gatherDifferent_di la lb lc di dd n) (gX0_gatherDifferent_dd la lb lc di dd n) be bp bq i j), .int (gX0_surveyMeet_dq la lb lc (gX0_gatherDifferent_di la lb lc di dd n) (gX0_gatherDifferent_dd la lb lc di dd n) be bp bq i j)])), (d2, .inl (kJ, 12, .inr (.inl la))), (d3, .inl (kJ, 12, .inr (.inl lb))), (d4, .inl (kJ, 12, .inr (.inl lc))), (d5, .inl (kI, 12, .inl (gX0_gatherDifferent_di la lb lc di dd n)))] := hD
      obtain ⟨z4, ez4⟩ : ∃ y : Int32, y = i + 1 := ⟨_, rfl⟩
      refine lv_iinc (v := z4) (lv' := [(3, .int z4), (2, .int j), (0, .ref d1), (1, .int n)]) hx hb dX0_survey_43 hl (k := 0) rfl (by rw [ez4]; rfl) (by decide) rfl (fun ls hl => ?_)
      refine lv_goto (tgt := 32) hx hb dX0_survey_46 (by decide) ?_
      have hl9 := hl
      have hP9 := hP
      have hD9 := hD
      have hS9 := hS
      subst ez4
      exact ihB (i + 1) (gX0_surveyMeet_de la lb lc (gX0_gatherDifferent_di la lb lc di dd n) (gX0_gatherDifferent_dd la lb lc di dd n) be bp bq i j) (gX0_surveyMeet_dp la lb lc (gX0_gatherDifferent_di la lb lc di dd n) (gX0_gatherDifferent_dd la lb lc di dd n) be bp bq i j) (gX0_surveyMeet_dq la lb lc (gX0_gatherDifferent_di la lb lc di dd n) (gX0_gatherDifferent_dd la lb lc di dd n) be bp bq i j) _ _ _ (lv_sub hl9 [0, 1, 2, 3] rfl) ⟨xr_us huB c2, hP9, hD9, hS9, by rw [← hLB, tX0_survey_B_s, if_neg c2]⟩
abbrev wOd (o1 f1 r1 d1 q1 d2 d3 d4 d5 : Nat) (kI kJ : ClassId) (la lb lc : Nat → Int64) (di : Nat → Int32) (dm dd de dp dq : Int32) : va_W := [(o1, .inr (8, [.ref q1, .ref f1, .ref r1, .ref d1])), (d1, .inr (4, [.ref d2, .ref d3, .ref d4, .ref d5, .int dm, .int dd, .int de, .int dp, .int dq])), (d2, .inl (kJ, 12, .inr (.inl la))), (d3, .inl (kJ, 12, .inr (.inl lb))), (d4, .inl (kJ, 12, .inr (.inl lc))), (d5, .inl (kI, 12, .inl di))]
def fX4_lines (la lb lc : Nat → Int64) (di : Nat → Int32) (dm dd de dp dq : Int32) (n : Int32) (wh : Int32) : Int32 := if n < (0 : Int32) then ((-2 : Int32)) else (if dm < n then ((-2 : Int32)) else (if wh < (0 : Int32) then ((-2 : Int32)) else (if wh ≤ (5 : Int32) then (if wh = (0 : Int32) then (gX0_survey_dd la lb lc di dd de dp dq n) else (if wh = (1 : Int32) then (gX0_survey_de la lb lc di dd de dp dq n) else (if wh = (2 : Int32) then (fX0_cells (gX0_survey_dd la lb lc di dd de dp dq n) (gX0_survey_dp la lb lc di dd de dp dq n) (gX0_survey_de la lb lc di dd de dp dq n)) else (if wh = (3 : Int32) then ((gX0_survey_dd la lb lc di dd de dp dq n) + (gX0_survey_dp la lb lc di dd de dp dq n)) else (if wh = (4 : Int32) then (fX0_closedCells (gX0_survey_dd la lb lc di dd de dp dq n) (gX0_survey_dp la lb lc di dd de dp dq n) (gX0_survey_de la lb lc di dd de dp dq n)) else (gX0_survey_dq la lb lc di dd de dp dq n)))))) else ((-2 : Int32)))))
def gX4_lines_di (la lb lc : Nat → Int64) (di : Nat → Int32) (dm dd de dp dq : Int32) (n : Int32) (wh : Int32) : Nat → Int32 := if n < (0 : Int32) then (di) else (if dm < n then (di) else (if wh < (0 : Int32) then (di) else (if wh ≤ (5 : Int32) then (if wh = (0 : Int32) then (gX0_survey_di la lb lc di dd de dp dq n) else (if wh = (1 : Int32) then (gX0_survey_di la lb lc di dd de dp dq n) else (if wh = (2 : Int32) then (gX0_survey_di la lb lc di dd de dp dq n) else (if wh = (3 : Int32) then (gX0_survey_di la lb lc di dd de dp dq n) else (if wh = (4 : Int32) then (gX0_survey_di la lb lc di dd de dp dq n) else (gX0_survey_di la lb lc di dd de dp dq n)))))) else (di))))
def gX4_lines_dd (la lb lc : Nat → Int64) (di : Nat → Int32) (dm dd de dp dq : Int32) (n : Int32) (wh : Int32) : Int32 := if n < (0 : Int32) then (dd) else (if dm < n then (dd) else (if wh < (0 : Int32) then (dd) else (if wh ≤ (5 : Int32) then (if wh = (0 : Int32) then (gX0_survey_dd la lb lc di dd de dp dq n) else (if wh = (1 : Int32) then (gX0_survey_dd la lb lc di dd de dp dq n) else (if wh = (2 : Int32) then (gX0_survey_dd la lb lc di dd de dp dq n) else (if wh = (3 : Int32) then (gX0_survey_dd la lb lc di dd de dp dq n) else (if wh = (4 : Int32) then (gX0_survey_dd la lb lc di dd de dp dq n) else (gX0_survey_dd la lb lc di dd de dp dq n)))))) else (dd))))
def gX4_lines_de (la lb lc : Nat → Int64) (di : Nat → Int32) (dm dd de dp dq : Int32) (n : Int32) (wh : Int32) : Int32 := if n < (0 : Int32) then (de) else (if dm < n then (de) else (if wh < (0 : Int32) then (de) else (if wh ≤ (5 : Int32) then (if wh = (0 : Int32) then (gX0_survey_de la lb lc di dd de dp dq n) else (if wh = (1 : Int32) then (gX0_survey_de la lb lc di dd de dp dq n) else (if wh = (2 : Int32) then (gX0_survey_de la lb lc di dd de dp dq n) else (if wh = (3 : Int32) then (gX0_survey_de la lb lc di dd de dp dq n) else (if wh = (4 : Int32) then (gX0_survey_de la lb lc di dd de dp dq n) else (gX0_survey_de la lb lc di dd de dp dq n)))))) else (de))))
def gX4_lines_dp (la lb lc : Nat → Int64) (di : Nat → Int32) (dm dd de dp dq : Int32) (n : Int32) (wh : Int32) : Int32 := if n < (0 : Int32) then (dp) else (if dm < n then (dp) else (if wh < (0 : Int32) then (dp) else (if wh ≤ (5 : Int32) then (if wh = (0 : Int32) then (gX0_survey_dp la lb lc di dd de dp dq n) else (if wh = (1 : Int32) then (gX0_survey_dp la lb lc di dd de dp dq n) else (if wh = (2 : Int32) then (gX0_survey_dp la lb lc di dd de dp dq n) else (if wh = (3 : Int32) then (gX0_survey_dp la lb lc di dd de dp dq n) else (if wh = (4 : Int32) then (gX0_survey_dp la lb lc di dd de dp dq n) else (gX0_survey_dp la lb lc di dd de dp dq n)))))) else (dp))))
def gX4_lines_dq (la lb lc : Nat → Int64) (di : Nat → Int32) (dm dd de dp dq : Int32) (n : Int32) (wh : Int32) : Int32 := if n < (0 : Int32) then (dq) else (if dm < n then (dq) else (if wh < (0 : Int32) then (dq) else (if wh ≤ (5 : Int32) then (if wh = (0 : Int32) then (gX0_survey_dq la lb lc di dd de dp dq n) else (if wh = (1 : Int32) then (gX0_survey_dq la lb lc di dd de dp dq n) else (if wh = (2 : Int32) then (gX0_survey_dq la lb lc di dd de dp dq n) else (if wh = (3 : Int32) then (gX0_survey_dq la lb lc di dd de dp dq n) else (if wh = (4 : Int32) then (gX0_survey_dq la lb lc di dd de dp dq n) else (gX0_survey_dq la lb lc di dd de dp dq n)))))) else (dq))))
set_option maxHeartbeats 4000000 in
set_option maxRecDepth 100000 in
theorem ct4_lines (l : Launch) (D : va_G) (sz : Nat) (o1 f1 r1 d1 q1 d2 d3 d4 d5 : Nat) (kI kJ : ClassId) (la lb lc : Nat → Int64) (di : Nat → Int32) (dm dd de dp dq : Int32) (n : Int32) (wh : Int32) (odm : dm.toInt ≤ (12 : Nat)) : Met l yX4_lines (Cond.code yX4_lines cX4_lines 3 (some .int) :: BX) ({ frames := 4, cells := 0, slots := 0, locals := 240 }) (xw_P nN D vwCl [(kI, .int), (kJ, .long)] (wOd o1 f1 r1 d1 q1 d2 d3 d4 d5 kI kJ la lb lc di dm dd de dp dq) sz [.ref o1, .int n, .int wh]) (xw_Q D vwCl (some (.int (fX4_lines la lb lc di dm dd de dp dq n wh))) (wOd o1 f1 r1 d1 q1 d2 d3 d4 d5 kI kJ la lb lc di dm dd de dp dq) (wOd o1 f1 r1 d1 q1 d2 d3 d4 d5 kI kJ la lb lc (gX4_lines_di la lb lc di dm dd de dp dq n wh) dm (gX4_lines_dd la lb lc di dm dd de dp dq n wh) (gX4_lines_de la lb lc di dm dd de dp dq n wh) (gX4_lines_dp la lb lc di dm dd de dp dq n wh) (gX4_lines_dq la lb lc di dm dd de dp dq n wh)) sz) 0 0 (va_A (wOd o1 f1 r1 d1 q1 d2 d3 d4 d5 kI kJ la lb lc di dm dd de dp dq) sz) := by
  refine Met.ofW (cc := cX4_lines) (maxL := 3) (ret := (some .int)) (by decide) rfl ?_
  intro p e s m args below meth c s₁ B hml hv
  obtain ⟨rfl, hsz, hP, hK, hN, hD0⟩ := hv
  have hx := B.exec
  have hb := B.bytes
  have hr := B.returns
  have hts0 := atoms_spec (ws := Cond.code yX4_lines cX4_lines 3 (some .int) :: BX) B.pre
  have hts : ∀ w ∈ BX, w.before _ s = true := fun w h => hts0 w (List.mem_cons_of_mem _ h)
  have hown : s.vm.findClass RX4 = some m.cls := findClass_of_methodNamed B.named
  have hlocks := B.notSynchronized
  subst hsz
  have hD := hD0.self (sz := s.heap.size)
  generalize hAe : va_A (wOd o1 f1 r1 d1 q1 d2 d3 d4 d5 kI kJ la lb lc di dm dd de dp dq) s.heap.size = A at hD ⊢
  have hA : ∀ q : Nat, s.heap.size ≤ q → A q := fun q h => by rw [← hAe]; exact Or.inr h
  have hS : va_S A s.heap s.heap [] := va_S.rf
  have hP : va_P D vwCl [(o1, .inr (8, [.ref q1, .ref f1, .ref r1, .ref d1])), (d1, .inr (4, [.ref d2, .ref d3, .ref d4, .ref d5, .int dm, .int dd, .int de, .int dp, .int dq])), (d2, .inl (kJ, 12, .inr (.inl la))), (d3, .inl (kJ, 12, .inr (.inl lb))), (d4, .inl (kJ, 12, .inr (.inl lc))), (d5, .inl (kI, 12, .inl di))] s.heap := hP
  have hD : va_D A [(o1, .inr (8, [.ref q1, .ref f1, .ref r1, .ref d1])), (d1, .inr (4, [.ref d2, .ref d3, .ref d4, .ref d5, .int dm, .int dd, .int de, .int dp, .int dq])), (d2, .inl (kJ, 12, .inr (.inl la))), (d3, .inl (kJ, 12, .inr (.inl lb))), (d4, .inl (kJ, 12, .inr (.inl lc))), (d5, .inl (kI, 12, .inl di))] := hD
  have hl := lv_entry ([.ref o1, .int n, .int wh]) (n := 3) (Nat.le_of_ble_eq_true rfl)
  rw [lg_entry_eq]
  generalize (lg_sl ([.ref o1, .int n, .int wh]) ++ List.replicate (3 - (lg_sl ([.ref o1, .int n, .int wh])).length) Slot.unset).toArray = ls at hl ⊢
  have hl : lv_has ls 3 [(0, .ref o1), (1, .int n), (2, .int wh)] := hl
  refine lv_iload_n hx hb dX4_lines_0 rfl (lv_at hl 1 rfl) ?_
  refine lv_if_lt (tgt := 24) hx hb dX4_lines_1 (by decide) (fun c1 => ?_) (fun c1 => ?_)
  · refine lv_bipush (v := (-2)) hx hb dX4_lines_24 (by decide) ?_
    have hP9 := hP
    have hD9 := hD
    have hS9 := hS
    have qv : fX4_lines la lb lc di dm dd de dp dq n wh = (-2 : Int32) := by unfold fX4_lines; rw [if_pos c1]
    have q_di : gX4_lines_di la lb lc di dm dd de dp dq n wh = di := by unfold gX4_lines_di; rw [if_pos c1]
    have q_dd : gX4_lines_dd la lb lc di dm dd de dp dq n wh = dd := by unfold gX4_lines_dd; rw [if_pos c1]
    have q_de : gX4_lines_de la lb lc di dm dd de dp dq n wh = de := by unfold gX4_lines_de; rw [if_pos c1]
    have q_dp : gX4_lines_dp la lb lc di dm dd de dp dq n wh = dp := by unfold gX4_lines_dp; rw [if_pos c1]
    have q_dq : gX4_lines_dq la lb lc di dm dd de dp dq n wh = dq := by unfold gX4_lines_dq; rw [if_pos c1]
    rw [qv, q_di, q_dd, q_de, q_dp, q_dq]
    exact W.iret (v := (-2 : Int32)) hx hb hr (fun t ht hW => ⟨⟨rfl, by rw [ht]; exact hP9, by rw [hAe]; exact hD9⟩, by rw [hAe]; exact hS9.F ht⟩) hS9.2.2 dX4_lines_26
  · refine lv_iload_n hx hb dX4_lines_4 rfl (lv_at hl 1 rfl) ?_
    refine lv_aload_n hx hb dX4_lines_5 rfl (lv_at hl 0 rfl) ?_
    refine va_get (D := D) (ci := 8) (v := .ref d1) (C := RX4) (T := TX4) (N := 4) hx hb hts hinX4 hown hK hP 0 rfl rfl 3 (by decide) (hts _ fk_X4_35) (fun _ h9 => h9) rfl dX4_lines_6 ?_
    refine va_get (D := D) (ci := 4) (v := .int dm) (C := RX0) (T := TX0) (N := 9) hx hb hts hinX0 hown hK hP 1 rfl rfl 4 (by decide) (hts _ fk_X4_192) (fun _ h9 => h9) rfl dX4_lines_9 ?_
    refine lv_icmp_gt (tgt := 24) hx hb dX4_lines_12 (by decide) (fun c2 => ?_) (fun c2 => ?_)
    · refine lv_bipush (v := (-2)) hx hb dX4_lines_24 (by decide) ?_
      have hP9 := hP
      have hD9 := hD
      have hS9 := hS
      have qv : fX4_lines la lb lc di dm dd de dp dq n wh = (-2 : Int32) := by unfold fX4_lines; rw [if_neg c1, if_pos c2]
      have q_di : gX4_lines_di la lb lc di dm dd de dp dq n wh = di := by unfold gX4_lines_di; rw [if_neg c1, if_pos c2]
      have q_dd : gX4_lines_dd la lb lc di dm dd de dp dq n wh = dd := by unfold gX4_lines_dd; rw [if_neg c1, if_pos c2]
      have q_de : gX4_lines_de la lb lc di dm dd de dp dq n wh = de := by unfold gX4_lines_de; rw [if_neg c1, if_pos c2]
      have q_dp : gX4_lines_dp la lb lc di dm dd de dp dq n wh = dp := by unfold gX4_lines_dp; rw [if_neg c1, if_pos c2]
      have q_dq : gX4_lines_dq la lb lc di dm dd de dp dq n wh = dq := by unfold gX4_lines_dq; rw [if_neg c1, if_pos c2]
      rw [qv, q_di, q_dd, q_de, q_dp, q_dq]
      exact W.iret (v := (-2 : Int32)) hx hb hr (fun t ht hW => ⟨⟨rfl, by rw [ht]; exact hP9, by rw [hAe]; exact hD9⟩, by rw [hAe]; exact hS9.F ht⟩) hS9.2.2 dX4_lines_26
    · refine lv_iload_n hx hb dX4_lines_15 rfl (lv_at hl 2 rfl) ?_
      refine lv_if_lt (tgt := 24) hx hb dX4_lines_16 (by decide) (fun c3 => ?_) (fun c3 => ?_)
      · refine lv_bipush (v := (-2)) hx hb dX4_lines_24 (by decide) ?_
        have hP9 := hP
        have hD9 := hD
        have hS9 := hS
        have qv : fX4_lines la lb lc di dm dd de dp dq n wh = (-2 : Int32) := by unfold fX4_lines; rw [if_neg c1, if_neg c2, if_pos c3]
        have q_di : gX4_lines_di la lb lc di dm dd de dp dq n wh = di := by unfold gX4_lines_di; rw [if_neg c1, if_neg c2, if_pos c3]
        have q_dd : gX4_lines_dd la lb lc di dm dd de dp dq n wh = dd := by unfold gX4_lines_dd; rw [if_neg c1, if_neg c2, if_pos c3]
        have q_de : gX4_lines_de la lb lc di dm dd de dp dq n wh = de := by unfold gX4_lines_de; rw [if_neg c1, if_neg c2, if_pos c3]
        have q_dp : gX4_lines_dp la lb lc di dm dd de dp dq n wh = dp := by unfold gX4_lines_dp; rw [if_neg c1, if_neg c2, if_pos c3]
        have q_dq : gX4_lines_dq la lb lc di dm dd de dp dq n wh = dq := by unfold gX4_lines_dq; rw [if_neg c1, if_neg c2, if_pos c3]
        rw [qv, q_di, q_dd, q_de, q_dp, q_dq]
        exact W.iret (v := (-2 : Int32)) hx hb hr (fun t ht hW => ⟨⟨rfl, by rw [ht]; exact hP9, by rw [hAe]; exact hD9⟩, by rw [hAe]; exact hS9.F ht⟩) hS9.2.2 dX4_lines_26
      · refine lv_iload_n hx hb dX4_lines_19 rfl (lv_at hl 2 rfl) ?_
        refine lv_iconst (v := 5) hx hb dX4_lines_20 (by decide) ?_
        refine lv_icmp_le (tgt := 27) hx hb dX4_lines_21 (by decide) (fun c4 => ?_) (fun c4 => ?_)
        · refine lv_aload_n hx hb dX4_lines_27 rfl (lv_at hl 0 rfl) ?_
          refine va_get (D := D) (ci := 8) (v := .ref d1) (C := RX4) (T := TX4) (N := 4) hx hb hts hinX4 hown hK hP 0 rfl rfl 3 (by decide) (hts _ fk_X4_35) (fun _ h9 => h9) rfl dX4_lines_28 ?_
          refine lv_iload_n hx hb dX4_lines_31 rfl (lv_at hl 1 rfl) ?_
          refine xw_Vv (q := (RX0, TX0, 9)) (ci := 4) (q0 := 1) (rest := []) (As := [.int n]) (wr := [(o1, .inr (8, [.ref q1, .ref f1, .ref r1, .ref d1]))]) (w1 := (wDr d1 d2 d3 d4 d5 kI kJ la lb lc (gX0_survey_di la lb lc di dd de dp dq n) dm (gX0_survey_dd la lb lc di dd de dp dq n) (gX0_survey_de la lb lc di dd de dp dq n) (gX0_survey_dp la lb lc di dd de dp dq n) (gX0_survey_dq la lb lc di dd de dp dq n))) (ws' := [(o1, .inr (8, [.ref q1, .ref f1, .ref r1, .ref d1])), (d1, .inr (4, [.ref d2, .ref d3, .ref d4, .ref d5, .int dm, .int (gX0_survey_dd la lb lc di dd de dp dq n), .int (gX0_survey_de la lb lc di dd de dp dq n), .int (gX0_survey_dp la lb lc di dd de dp dq n), .int (gX0_survey_dq la lb lc di dd de dp dq n)])), (d2, .inl (kJ, 12, .inr (.inl la))), (d3, .inl (kJ, 12, .inr (.inl lb))), (d4, .inl (kJ, 12, .inr (.inl lc))), (d5, .inl (kI, 12, .inl (gX0_survey_di la lb lc di dd de dp dq n)))]) ⟨hx, hb, hml, hown, hts⟩ (ct0_survey l D _ d1 d2 d3 d4 d5 kI kJ la lb lc di dm dd de dp dq n (o_nd odm c2)) (cwV 1 hts gl_X4_195 rfl rfl rfl (by decide +kernel) ⟨Nat.le_of_ble_eq_true rfl, Nat.le_of_ble_eq_true rfl⟩) nN_mv hN hK hP hD hS hA [1, 2, 3, 4, 5] [0] [0, 1, 2, 3, 4, 5] [0, 1] rfl (by decide) rfl rfl rfl (by decide) (by decide) rfl (by decide) rfl rfl rfl rfl hl.1 rfl (Nat.le_of_ble_eq_true rfl) dX4_lines_32 ⟨Nat.le_of_ble_eq_true rfl, Nat.le_of_ble_eq_true rfl⟩ (fun H locs hP hD hS => ?_)
          have hP : va_P D vwCl [(o1, .inr (8, [.ref q1, .ref f1, .ref r1, .ref d1])), (d1, .inr (4, [.ref d2, .ref d3, .ref d4, .ref d5, .int dm, .int (gX0_survey_dd la lb lc di dd de dp dq n), .int (gX0_survey_de la lb lc di dd de dp dq n), .int (gX0_survey_dp la lb lc di dd de dp dq n), .int (gX0_survey_dq la lb lc di dd de dp dq n)])), (d2, .inl (kJ, 12, .inr (.inl la))), (d3, .inl (kJ, 12, .inr (.inl lb))), (d4, .inl (kJ, 12, .inr (.inl lc))), (d5, .inl (kI, 12, .inl (gX0_survey_di la lb lc di dd de dp dq n)))] H := hP
          have hD : va_D A [(o1, .inr (8, [.ref q1, .ref f1, .ref r1, .ref d1])), (d1, .inr (4, [.ref d2, .ref d3, .ref d4, .ref d5, .int dm, .int (gX0_survey_dd la lb lc di dd de dp dq n), .int (gX0_survey_de la lb lc di dd de dp dq n), .int (gX0_survey_dp la lb lc di dd de dp dq n), .int (gX0_survey_dq la lb lc di dd de dp dq n)])), (d2, .inl (kJ, 12, .inr (.inl la))), (d3, .inl (kJ, 12, .inr (.inl lb))), (d4, .inl (kJ, 12, .inr (.inl lc))), (d5, .inl (kI, 12, .inl (gX0_survey_di la lb lc di dd de dp dq n)))] := hD
          refine lv_iload_n hx hb dX4_lines_35 rfl (lv_at hl 2 rfl) ?_
          by_cases c5 : wh = (0 : Int32)
          · refine lv_tableIn (off := 36) (tgt := 72) hx hb dX4_lines_36 (by rw [c5]; decide) (by rw [c5]; decide) (by rw [c5]; rfl) rfl ?_
            refine lv_aload_n hx hb dX4_lines_72 rfl (lv_at hl 0 rfl) ?_
            refine va_get (D := D) (ci := 8) (v := .ref d1) (C := RX4) (T := TX4) (N := 4) hx hb hts hinX4 hown hK hP 0 rfl rfl 3 (by decide) (hts _ fk_X4_35) (fun _ h9 => h9) rfl dX4_lines_73 ?_
            refine va_get (D := D) (ci := 4) (v := .int (gX0_survey_dd la lb lc di dd de dp dq n)) (C := RX0) (T := TX0) (N := 9) hx hb hts hinX0 hown hK hP 1 rfl rfl 5 (by decide) (hts _ fk_X4_199) (fun _ h9 => h9) rfl dX4_lines_76 ?_
            have hP9 := hP
            have hD9 := hD
            have hS9 := hS
            have qv : fX4_lines la lb lc di dm dd de dp dq n wh = gX0_survey_dd la lb lc di dd de dp dq n := by unfold fX4_lines; rw [if_neg c1, if_neg c2, if_neg c3, if_pos c4, if_pos c5]
            have q_di : gX4_lines_di la lb lc di dm dd de dp dq n wh = gX0_survey_di la lb lc di dd de dp dq n := by unfold gX4_lines_di; rw [if_neg c1, if_neg c2, if_neg c3, if_pos c4, if_pos c5]
            have q_dd : gX4_lines_dd la lb lc di dm dd de dp dq n wh = gX0_survey_dd la lb lc di dd de dp dq n := by unfold gX4_lines_dd; rw [if_neg c1, if_neg c2, if_neg c3, if_pos c4, if_pos c5]
            have q_de : gX4_lines_de la lb lc di dm dd de dp dq n wh = gX0_survey_de la lb lc di dd de dp dq n := by unfold gX4_lines_de; rw [if_neg c1, if_neg c2, if_neg c3, if_pos c4, if_pos c5]
            have q_dp : gX4_lines_dp la lb lc di dm dd de dp dq n wh = gX0_survey_dp la lb lc di dd de dp dq n := by unfold gX4_lines_dp; rw [if_neg c1, if_neg c2, if_neg c3, if_pos c4, if_pos c5]
            have q_dq : gX4_lines_dq la lb lc di dm dd de dp dq n wh = gX0_survey_dq la lb lc di dd de dp dq n := by unfold gX4_lines_dq; rw [if_neg c1, if_neg c2, if_neg c3, if_pos c4, if_pos c5]
            rw [qv, q_di, q_dd, q_de, q_dp, q_dq]
            exact W.iret (v := gX0_survey_dd la lb lc di dd de dp dq n) hx hb hr (fun t ht hW => ⟨⟨rfl, by rw [ht]; exact hP9, by rw [hAe]; exact hD9⟩, by rw [hAe]; exact hS9.F ht⟩) hS9.2.2 dX4_lines_79
          · by_cases c6 : wh = (1 : Int32)
            · refine lv_tableIn (off := 44) (tgt := 80) hx hb dX4_lines_36 (by rw [c6]; decide) (by rw [c6]; decide) (by rw [c6]; rfl) rfl ?_
              refine lv_aload_n hx hb dX4_lines_80 rfl (lv_at hl 0 rfl) ?_
              refine va_get (D := D) (ci := 8) (v := .ref d1) (C := RX4) (T := TX4) (N := 4) hx hb hts hinX4 hown hK hP 0 rfl rfl 3 (by decide) (hts _ fk_X4_35) (fun _ h9 => h9) rfl dX4_lines_81 ?_
              refine va_get (D := D) (ci := 4) (v := .int (gX0_survey_de la lb lc di dd de dp dq n)) (C := RX0) (T := TX0) (N := 9) hx hb hts hinX0 hown hK hP 1 rfl rfl 6 (by decide) (hts _ fk_X4_202) (fun _ h9 => h9) rfl dX4_lines_84 ?_
              have hP9 := hP
              have hD9 := hD
              have hS9 := hS
              have qv : fX4_lines la lb lc di dm dd de dp dq n wh = gX0_survey_de la lb lc di dd de dp dq n := by unfold fX4_lines; rw [if_neg c1, if_neg c2, if_neg c3, if_pos c4, if_neg c5, if_pos c6]
              have q_di : gX4_lines_di la lb lc di dm dd de dp dq n wh = gX0_survey_di la lb lc di dd de dp dq n := by unfold gX4_lines_di; rw [if_neg c1, if_neg c2, if_neg c3, if_pos c4, if_neg c5, if_pos c6]
              have q_dd : gX4_lines_dd la lb lc di dm dd de dp dq n wh = gX0_survey_dd la lb lc di dd de dp dq n := by unfold gX4_lines_dd; rw [if_neg c1, if_neg c2, if_neg c3, if_pos c4, if_neg c5, if_pos c6]
              have q_de : gX4_lines_de la lb lc di dm dd de dp dq n wh = gX0_survey_de la lb lc di dd de dp dq n := by unfold gX4_lines_de; rw [if_neg c1, if_neg c2, if_neg c3, if_pos c4, if_neg c5, if_pos c6]
              have q_dp : gX4_lines_dp la lb lc di dm dd de dp dq n wh = gX0_survey_dp la lb lc di dd de dp dq n := by unfold gX4_lines_dp; rw [if_neg c1, if_neg c2, if_neg c3, if_pos c4, if_neg c5, if_pos c6]
              have q_dq : gX4_lines_dq la lb lc di dm dd de dp dq n wh = gX0_survey_dq la lb lc di dd de dp dq n := by unfold gX4_lines_dq; rw [if_neg c1, if_neg c2, if_neg c3, if_pos c4, if_neg c5, if_pos c6]
              rw [qv, q_di, q_dd, q_de, q_dp, q_dq]
              exact W.iret (v := gX0_survey_de la lb lc di dd de dp dq n) hx hb hr (fun t ht hW => ⟨⟨rfl, by rw [ht]; exact hP9, by rw [hAe]; exact hD9⟩, by rw [hAe]; exact hS9.F ht⟩) hS9.2.2 dX4_lines_87
            · by_cases c7 : wh = (2 : Int32)
              · refine lv_tableIn (off := 52) (tgt := 88) hx hb dX4_lines_36 (by rw [c7]; decide) (by rw [c7]; decide) (by rw [c7]; rfl) rfl ?_
                refine lv_aload_n hx hb dX4_lines_88 rfl (lv_at hl 0 rfl) ?_
                refine va_get (D := D) (ci := 8) (v := .ref d1) (C := RX4) (T := TX4) (N := 4) hx hb hts hinX4 hown hK hP 0 rfl rfl 3 (by decide) (hts _ fk_X4_35) (fun _ h9 => h9) rfl dX4_lines_89 ?_
                refine xr_V (q := (RX0, TX0, 9)) (ci := 4) (q0 := 1) (rest := []) (As := []) ⟨hx, hb, hml, hown, hts⟩ (ct0_cells l D d1 d2 d3 d4 d5 kI kJ la lb lc (gX0_survey_di la lb lc di dd de dp dq n) dm (gX0_survey_dd la lb lc di dd de dp dq n) (gX0_survey_de la lb lc di dd de dp dq n) (gX0_survey_dp la lb lc di dd de dp dq n) (gX0_survey_dq la lb lc di dd de dp dq n)  ) (cwV 0 hts gl_X4_205 rfl rfl rfl (by decide +kernel) ⟨Nat.le_of_ble_eq_true rfl, Nat.le_of_ble_eq_true rfl⟩) nN_mv hN hK hP [1, 2, 3, 4, 5] [0, 1] rfl rfl rfl rfl rfl hl.1 rfl (Nat.le_of_ble_eq_true rfl) dX4_lines_92 ⟨Nat.le_of_ble_eq_true rfl, Nat.le_of_ble_eq_true rfl⟩ ?_
                have hP9 := hP
                have hD9 := hD
                have hS9 := hS
                have qv : fX4_lines la lb lc di dm dd de dp dq n wh = fX0_cells (gX0_survey_dd la lb lc di dd de dp dq n) (gX0_survey_dp la lb lc di dd de dp dq n) (gX0_survey_de la lb lc di dd de dp dq n) := by unfold fX4_lines; rw [if_neg c1, if_neg c2, if_neg c3, if_pos c4, if_neg c5, if_neg c6, if_pos c7]
                have q_di : gX4_lines_di la lb lc di dm dd de dp dq n wh = gX0_survey_di la lb lc di dd de dp dq n := by unfold gX4_lines_di; rw [if_neg c1, if_neg c2, if_neg c3, if_pos c4, if_neg c5, if_neg c6, if_pos c7]
                have q_dd : gX4_lines_dd la lb lc di dm dd de dp dq n wh = gX0_survey_dd la lb lc di dd de dp dq n := by unfold gX4_lines_dd; rw [if_neg c1, if_neg c2, if_neg c3, if_pos c4, if_neg c5, if_neg c6, if_pos c7]
                have q_de : gX4_lines_de la lb lc di dm dd de dp dq n wh = gX0_survey_de la lb lc di dd de dp dq n := by unfold gX4_lines_de; rw [if_neg c1, if_neg c2, if_neg c3, if_pos c4, if_neg c5, if_neg c6, if_pos c7]
                have q_dp : gX4_lines_dp la lb lc di dm dd de dp dq n wh = gX0_survey_dp la lb lc di dd de dp dq n := by unfold gX4_lines_dp; rw [if_neg c1, if_neg c2, if_neg c3, if_pos c4, if_neg c5, if_neg c6, if_pos c7]
                have q_dq : gX4_lines_dq la lb lc di dm dd de dp dq n wh = gX0_survey_dq la lb lc di dd de dp dq n := by unfold gX4_lines_dq; rw [if_neg c1, if_neg c2, if_neg c3, if_pos c4, if_neg c5, if_neg c6, if_pos c7]
                rw [qv, q_di, q_dd, q_de, q_dp, q_dq]
                exact W.iret (v := fX0_cells (gX0_survey_dd la lb lc di dd de dp dq n) (gX0_survey_dp la lb lc di dd de dp dq n) (gX0_survey_de la lb lc di dd de dp dq n)) hx hb hr (fun t ht hW => ⟨⟨rfl, by rw [ht]; exact hP9, by rw [hAe]; exact hD9⟩, by rw [hAe]; exact hS9.F ht⟩) hS9.2.2 dX4_lines_95
              · by_cases c8 : wh = (3 : Int32)
                · refine lv_tableIn (off := 60) (tgt := 96) hx hb dX4_lines_36 (by rw [c8]; decide) (by rw [c8]; decide) (by rw [c8]; rfl) rfl ?_
                  refine lv_aload_n hx hb dX4_lines_96 rfl (lv_at hl 0 rfl) ?_
                  refine va_get (D := D) (ci := 8) (v := .ref d1) (C := RX4) (T := TX4) (N := 4) hx hb hts hinX4 hown hK hP 0 rfl rfl 3 (by decide) (hts _ fk_X4_35) (fun _ h9 => h9) rfl dX4_lines_97 ?_
                  refine va_get (D := D) (ci := 4) (v := .int (gX0_survey_dd la lb lc di dd de dp dq n)) (C := RX0) (T := TX0) (N := 9) hx hb hts hinX0 hown hK hP 1 rfl rfl 5 (by decide) (hts _ fk_X4_199) (fun _ h9 => h9) rfl dX4_lines_100 ?_
                  refine lv_aload_n hx hb dX4_lines_103 rfl (lv_at hl 0 rfl) ?_
                  refine va_get (D := D) (ci := 8) (v := .ref d1) (C := RX4) (T := TX4) (N := 4) hx hb hts hinX4 hown hK hP 0 rfl rfl 3 (by decide) (hts _ fk_X4_35) (fun _ h9 => h9) rfl dX4_lines_104 ?_
                  refine va_get (D := D) (ci := 4) (v := .int (gX0_survey_dp la lb lc di dd de dp dq n)) (C := RX0) (T := TX0) (N := 9) hx hb hts hinX0 hown hK hP 1 rfl rfl 7 (by decide) (hts _ fk_X4_209) (fun _ h9 => h9) rfl dX4_lines_107 ?_
                  refine lv_iadd hx hb dX4_lines_110 ?_
                  have hP9 := hP
                  have hD9 := hD
                  have hS9 := hS
                  have qv : fX4_lines la lb lc di dm dd de dp dq n wh = (gX0_survey_dd la lb lc di dd de dp dq n) + (gX0_survey_dp la lb lc di dd de dp dq n) := by unfold fX4_lines; rw [if_neg c1, if_neg c2, if_neg c3, if_pos c4, if_neg c5, if_neg c6, if_neg c7, if_pos c8]
                  have q_di : gX4_lines_di la lb lc di dm dd de dp dq n wh = gX0_survey_di la lb lc di dd de dp dq n := by unfold gX4_lines_di; rw [if_neg c1, if_neg c2, if_neg c3, if_pos c4, if_neg c5, if_neg c6, if_neg c7, if_pos c8]
                  have q_dd : gX4_lines_dd la lb lc di dm dd de dp dq n wh = gX0_survey_dd la lb lc di dd de dp dq n := by unfold gX4_lines_dd; rw [if_neg c1, if_neg c2, if_neg c3, if_pos c4, if_neg c5, if_neg c6, if_neg c7, if_pos c8]
                  have q_de : gX4_lines_de la lb lc di dm dd de dp dq n wh = gX0_survey_de la lb lc di dd de dp dq n := by unfold gX4_lines_de; rw [if_neg c1, if_neg c2, if_neg c3, if_pos c4, if_neg c5, if_neg c6, if_neg c7, if_pos c8]
                  have q_dp : gX4_lines_dp la lb lc di dm dd de dp dq n wh = gX0_survey_dp la lb lc di dd de dp dq n := by unfold gX4_lines_dp; rw [if_neg c1, if_neg c2, if_neg c3, if_pos c4, if_neg c5, if_neg c6, if_neg c7, if_pos c8]
                  have q_dq : gX4_lines_dq la lb lc di dm dd de dp dq n wh = gX0_survey_dq la lb lc di dd de dp dq n := by unfold gX4_lines_dq; rw [if_neg c1, if_neg c2, if_neg c3, if_pos c4, if_neg c5, if_neg c6, if_neg c7, if_pos c8]
                  rw [qv, q_di, q_dd, q_de, q_dp, q_dq]
                  exact W.iret (v := (gX0_survey_dd la lb lc di dd de dp dq n) + (gX0_survey_dp la lb lc di dd de dp dq n)) hx hb hr (fun t ht hW => ⟨⟨rfl, by rw [ht]; exact hP9, by rw [hAe]; exact hD9⟩, by rw [hAe]; exact hS9.F ht⟩) hS9.2.2 dX4_lines_111
                · by_cases c9 : wh = (4 : Int32)
                  · refine lv_tableIn (off := 76) (tgt := 112) hx hb dX4_lines_36 (by rw [c9]; decide) (by rw [c9]; decide) (by rw [c9]; rfl) rfl ?_
                    refine lv_aload_n hx hb dX4_lines_112 rfl (lv_at hl 0 rfl) ?_
                    refine va_get (D := D) (ci := 8) (v := .ref d1) (C := RX4) (T := TX4) (N := 4) hx hb hts hinX4 hown hK hP 0 rfl rfl 3 (by decide) (hts _ fk_X4_35) (fun _ h9 => h9) rfl dX4_lines_113 ?_
                    refine xr_V (q := (RX0, TX0, 9)) (ci := 4) (q0 := 1) (rest := []) (As := []) ⟨hx, hb, hml, hown, hts⟩ (ct0_closedCells l D d1 d2 d3 d4 d5 kI kJ la lb lc (gX0_survey_di la lb lc di dd de dp dq n) dm (gX0_survey_dd la lb lc di dd de dp dq n) (gX0_survey_de la lb lc di dd de dp dq n) (gX0_survey_dp la lb lc di dd de dp dq n) (gX0_survey_dq la lb lc di dd de dp dq n)  ) (cwV 0 hts gl_X4_212 rfl rfl rfl (by decide +kernel) ⟨Nat.le_of_ble_eq_true rfl, Nat.le_of_ble_eq_true rfl⟩) nN_mv hN hK hP [1, 2, 3, 4, 5] [0, 1] rfl rfl rfl rfl rfl hl.1 rfl (Nat.le_of_ble_eq_true rfl) dX4_lines_116 ⟨Nat.le_of_ble_eq_true rfl, Nat.le_of_ble_eq_true rfl⟩ ?_
                    have hP9 := hP
                    have hD9 := hD
                    have hS9 := hS
                    have qv : fX4_lines la lb lc di dm dd de dp dq n wh = fX0_closedCells (gX0_survey_dd la lb lc di dd de dp dq n) (gX0_survey_dp la lb lc di dd de dp dq n) (gX0_survey_de la lb lc di dd de dp dq n) := by unfold fX4_lines; rw [if_neg c1, if_neg c2, if_neg c3, if_pos c4, if_neg c5, if_neg c6, if_neg c7, if_neg c8, if_pos c9]
                    have q_di : gX4_lines_di la lb lc di dm dd de dp dq n wh = gX0_survey_di la lb lc di dd de dp dq n := by unfold gX4_lines_di; rw [if_neg c1, if_neg c2, if_neg c3, if_pos c4, if_neg c5, if_neg c6, if_neg c7, if_neg c8, if_pos c9]
                    have q_dd : gX4_lines_dd la lb lc di dm dd de dp dq n wh = gX0_survey_dd la lb lc di dd de dp dq n := by unfold gX4_lines_dd; rw [if_neg c1, if_neg c2, if_neg c3, if_pos c4, if_neg c5, if_neg c6, if_neg c7, if_neg c8, if_pos c9]
                    have q_de : gX4_lines_de la lb lc di dm dd de dp dq n wh = gX0_survey_de la lb lc di dd de dp dq n := by unfold gX4_lines_de; rw [if_neg c1, if_neg c2, if_neg c3, if_pos c4, if_neg c5, if_neg c6, if_neg c7, if_neg c8, if_pos c9]
                    have q_dp : gX4_lines_dp la lb lc di dm dd de dp dq n wh = gX0_survey_dp la lb lc di dd de dp dq n := by unfold gX4_lines_dp; rw [if_neg c1, if_neg c2, if_neg c3, if_pos c4, if_neg c5, if_neg c6, if_neg c7, if_neg c8, if_pos c9]
                    have q_dq : gX4_lines_dq la lb lc di dm dd de dp dq n wh = gX0_survey_dq la lb lc di dd de dp dq n := by unfold gX4_lines_dq; rw [if_neg c1, if_neg c2, if_neg c3, if_pos c4, if_neg c5, if_neg c6, if_neg c7, if_neg c8, if_pos c9]
                    rw [qv, q_di, q_dd, q_de, q_dp, q_dq]
                    exact W.iret (v := fX0_closedCells (gX0_survey_dd la lb lc di dd de dp dq n) (gX0_survey_dp la lb lc di dd de dp dq n) (gX0_survey_de la lb lc di dd de dp dq n)) hx hb hr (fun t ht hW => ⟨⟨rfl, by rw [ht]; exact hP9, by rw [hAe]; exact hD9⟩, by rw [hAe]; exact hS9.F ht⟩) hS9.2.2 dX4_lines_119
                  · refine lv_tableOut (tgt := 120) hx hb dX4_lines_36 (by have g0 : ¬ wh.toInt = 0 := fun h9 => c5 (Int32.toInt_inj.mp h9); have g1 : ¬ wh.toInt = 1 := fun h9 => c6 (Int32.toInt_inj.mp h9); have g2 : ¬ wh.toInt = 2 := fun h9 => c7 (Int32.toInt_inj.mp h9); have g3 : ¬ wh.toInt = 3 := fun h9 => c8 (Int32.toInt_inj.mp h9); have g4 : ¬ wh.toInt = 4 := fun h9 => c9 (Int32.toInt_inj.mp h9); omega) rfl ?_
                    refine lv_aload_n hx hb dX4_lines_120 rfl (lv_at hl 0 rfl) ?_
                    refine va_get (D := D) (ci := 8) (v := .ref d1) (C := RX4) (T := TX4) (N := 4) hx hb hts hinX4 hown hK hP 0 rfl rfl 3 (by decide) (hts _ fk_X4_35) (fun _ h9 => h9) rfl dX4_lines_121 ?_
                    refine va_get (D := D) (ci := 4) (v := .int (gX0_survey_dq la lb lc di dd de dp dq n)) (C := RX0) (T := TX0) (N := 9) hx hb hts hinX0 hown hK hP 1 rfl rfl 8 (by decide) (hts _ fk_X4_215) (fun _ h9 => h9) rfl dX4_lines_124 ?_
                    have hP9 := hP
                    have hD9 := hD
                    have hS9 := hS
                    have qv : fX4_lines la lb lc di dm dd de dp dq n wh = gX0_survey_dq la lb lc di dd de dp dq n := by unfold fX4_lines; rw [if_neg c1, if_neg c2, if_neg c3, if_pos c4, if_neg c5, if_neg c6, if_neg c7, if_neg c8, if_neg c9]
                    have q_di : gX4_lines_di la lb lc di dm dd de dp dq n wh = gX0_survey_di la lb lc di dd de dp dq n := by unfold gX4_lines_di; rw [if_neg c1, if_neg c2, if_neg c3, if_pos c4, if_neg c5, if_neg c6, if_neg c7, if_neg c8, if_neg c9]
                    have q_dd : gX4_lines_dd la lb lc di dm dd de dp dq n wh = gX0_survey_dd la lb lc di dd de dp dq n := by unfold gX4_lines_dd; rw [if_neg c1, if_neg c2, if_neg c3, if_pos c4, if_neg c5, if_neg c6, if_neg c7, if_neg c8, if_neg c9]
                    have q_de : gX4_lines_de la lb lc di dm dd de dp dq n wh = gX0_survey_de la lb lc di dd de dp dq n := by unfold gX4_lines_de; rw [if_neg c1, if_neg c2, if_neg c3, if_pos c4, if_neg c5, if_neg c6, if_neg c7, if_neg c8, if_neg c9]
                    have q_dp : gX4_lines_dp la lb lc di dm dd de dp dq n wh = gX0_survey_dp la lb lc di dd de dp dq n := by unfold gX4_lines_dp; rw [if_neg c1, if_neg c2, if_neg c3, if_pos c4, if_neg c5, if_neg c6, if_neg c7, if_neg c8, if_neg c9]
                    have q_dq : gX4_lines_dq la lb lc di dm dd de dp dq n wh = gX0_survey_dq la lb lc di dd de dp dq n := by unfold gX4_lines_dq; rw [if_neg c1, if_neg c2, if_neg c3, if_pos c4, if_neg c5, if_neg c6, if_neg c7, if_neg c8, if_neg c9]
                    rw [qv, q_di, q_dd, q_de, q_dp, q_dq]
                    exact W.iret (v := gX0_survey_dq la lb lc di dd de dp dq n) hx hb hr (fun t ht hW => ⟨⟨rfl, by rw [ht]; exact hP9, by rw [hAe]; exact hD9⟩, by rw [hAe]; exact hS9.F ht⟩) hS9.2.2 dX4_lines_127
        · refine lv_bipush (v := (-2)) hx hb dX4_lines_24 (by decide) ?_
          have hP9 := hP
          have hD9 := hD
          have hS9 := hS
          have qv : fX4_lines la lb lc di dm dd de dp dq n wh = (-2 : Int32) := by unfold fX4_lines; rw [if_neg c1, if_neg c2, if_neg c3, if_neg c4]
          have q_di : gX4_lines_di la lb lc di dm dd de dp dq n wh = di := by unfold gX4_lines_di; rw [if_neg c1, if_neg c2, if_neg c3, if_neg c4]
          have q_dd : gX4_lines_dd la lb lc di dm dd de dp dq n wh = dd := by unfold gX4_lines_dd; rw [if_neg c1, if_neg c2, if_neg c3, if_neg c4]
          have q_de : gX4_lines_de la lb lc di dm dd de dp dq n wh = de := by unfold gX4_lines_de; rw [if_neg c1, if_neg c2, if_neg c3, if_neg c4]
          have q_dp : gX4_lines_dp la lb lc di dm dd de dp dq n wh = dp := by unfold gX4_lines_dp; rw [if_neg c1, if_neg c2, if_neg c3, if_neg c4]
          have q_dq : gX4_lines_dq la lb lc di dm dd de dp dq n wh = dq := by unfold gX4_lines_dq; rw [if_neg c1, if_neg c2, if_neg c3, if_neg c4]
          rw [qv, q_di, q_dd, q_de, q_dp, q_dq]
          exact W.iret (v := (-2 : Int32)) hx hb hr (fun t ht hW => ⟨⟨rfl, by rw [ht]; exact hP9, by rw [hAe]; exact hD9⟩, by rw [hAe]; exact hS9.F ht⟩) hS9.2.2 dX4_lines_26
