/-! THE ROW: what is read of it. -/
abbrev wRw (r1 r2 q1 q2 q3 : Nat) (kI : ClassId) (held xs ys : Nat → Int32) (rm pm : Int32) : va_W := [(r1, .inr (7, [.ref q1, .ref r2, .int rm])), (r2, .inl (kI, 24, .inl held)), (q1, .inr (6, [.ref q2, .ref q3, .int pm])), (q2, .inl (kI, 60, .inl xs)), (q3, .inl (kI, 60, .inl ys))]
def fX3_following  (ia : Int32) (n : Int32) : Int32 := if n ≤ (ia + (1 : Int32)) then ((0 : Int32)) else (ia + (1 : Int32))
set_option maxHeartbeats 4000000 in
set_option maxRecDepth 100000 in
theorem ct3_following (l : Launch) (D : va_G)  (ia : Int32) (n : Int32) : Met l yX3_following (Cond.code yX3_following cX3_following 2 (some .int) :: BX) ({ frames := 0, cells := 0, slots := 0, locals := 0 }) (xr_P nN D vwCl [] ([] : va_W) [.int ia, .int n]) (xr_Q (.int (fX3_following ia n))) 0 0 (fun _ => False) := by
  refine Met.ofW (cc := cX3_following) (maxL := 2) (ret := (some .int)) (by decide) rfl ?_
  intro p e s m args below meth c s₁ B hml hv
  obtain ⟨rfl, hP, hK, hN⟩ := hv
  have hx := B.exec
  have hb := B.bytes
  have hr := B.returns
  have hts0 := atoms_spec (ws := Cond.code yX3_following cX3_following 2 (some .int) :: BX) B.pre
  have hts : ∀ w ∈ BX, w.before _ s = true := fun w h => hts0 w (List.mem_cons_of_mem _ h)
  have hown : s.vm.findClass RX3 = some m.cls := findClass_of_methodNamed B.named
  have hlocks := B.notSynchronized
  have hl := lv_entry ([.int ia, .int n]) (n := 2) (Nat.le_of_ble_eq_true rfl)
  rw [lg_entry_eq]
  generalize (lg_sl ([.int ia, .int n]) ++ List.replicate (2 - (lg_sl ([.int ia, .int n])).length) Slot.unset).toArray = ls at hl ⊢
  have hl : lv_has ls 2 [(0, .int ia), (1, .int n)] := hl
  refine lv_iload_n hx hb dX3_following_0 rfl (lv_at hl 0 rfl) ?_
  refine lv_iconst (v := 1) hx hb dX3_following_1 (by decide) ?_
  refine lv_iadd hx hb dX3_following_2 ?_
  refine lv_iload_n hx hb dX3_following_3 rfl (lv_at hl 1 rfl) ?_
  refine lv_icmp_ge (tgt := 13) hx hb dX3_following_4 (by decide) (fun c1 => ?_) (fun c1 => ?_)
  · refine lv_iconst (v := 0) hx hb dX3_following_13 (by decide) ?_
    exact W.iret (v := (0 : Int32)) hx hb hr (fun t ht hW => ⟨by rw [show fX3_following ia n = (0 : Int32) by unfold fX3_following; rw [if_pos c1]], ht⟩) (fun _ h => absurd h List.not_mem_nil) dX3_following_14
  · refine lv_iload_n hx hb dX3_following_7 rfl (lv_at hl 0 rfl) ?_
    refine lv_iconst (v := 1) hx hb dX3_following_8 (by decide) ?_
    refine lv_iadd hx hb dX3_following_9 ?_
    refine lv_goto (tgt := 14) hx hb dX3_following_10 (by decide) ?_
    exact W.iret (v := ia + (1 : Int32)) hx hb hr (fun t ht hW => ⟨by rw [show fX3_following ia n = ia + (1 : Int32) by unfold fX3_following; rw [if_neg c1]], ht⟩) (fun _ h => absurd h List.not_mem_nil) dX3_following_14
def fX3_hasPlace (rm : Int32) (ia : Int32) : Int32 := if ia < (0 : Int32) then ((0 : Int32)) else (if rm ≤ ia then ((0 : Int32)) else ((1 : Int32)))
set_option maxHeartbeats 4000000 in
set_option maxRecDepth 100000 in
theorem ct3_hasPlace (l : Launch) (D : va_G) (r1 r2 q1 q2 q3 : Nat) (kI : ClassId) (held xs ys : Nat → Int32) (rm pm : Int32) (ia : Int32) : Met l yX3_hasPlace (Cond.code yX3_hasPlace cX3_hasPlace 2 (some .boolean) :: BX) ({ frames := 0, cells := 0, slots := 0, locals := 0 }) (xr_P nN D vwCl [(kI, .int)] (wRw r1 r2 q1 q2 q3 kI held xs ys rm pm) [.ref r1, .int ia]) (xr_Q (.int (fX3_hasPlace rm ia))) 0 0 (fun _ => False) := by
  refine Met.ofW (cc := cX3_hasPlace) (maxL := 2) (ret := (some .boolean)) (by decide) rfl ?_
  intro p e s m args below meth c s₁ B hml hv
  obtain ⟨rfl, hP, hK, hN⟩ := hv
  have hx := B.exec
  have hb := B.bytes
  have hr := B.returns
  have hts0 := atoms_spec (ws := Cond.code yX3_hasPlace cX3_hasPlace 2 (some .boolean) :: BX) B.pre
  have hts : ∀ w ∈ BX, w.before _ s = true := fun w h => hts0 w (List.mem_cons_of_mem _ h)
  have hown : s.vm.findClass RX3 = some m.cls := findClass_of_methodNamed B.named
  have hlocks := B.notSynchronized
  have hl := lv_entry ([.ref r1, .int ia]) (n := 2) (Nat.le_of_ble_eq_true rfl)
  rw [lg_entry_eq]
  generalize (lg_sl ([.ref r1, .int ia]) ++ List.replicate (2 - (lg_sl ([.ref r1, .int ia])).length) Slot.unset).toArray = ls at hl ⊢
  have hl : lv_has ls 2 [(0, .ref r1), (1, .int ia)] := hl
  refine lv_iload_n hx hb dX3_hasPlace_0 rfl (lv_at hl 1 rfl) ?_
  refine lv_if_lt (tgt := 16) hx hb dX3_hasPlace_1 (by decide) (fun c1 => ?_) (fun c1 => ?_)
  · refine lv_iconst (v := 0) hx hb dX3_hasPlace_16 (by decide) ?_
    exact W.zret (v := (0 : Int32)) hx hb hr rfl (fun t ht hW => ⟨by rw [show fX3_hasPlace rm ia = (0 : Int32) by unfold fX3_hasPlace; rw [if_pos c1]], ht⟩) (fun _ h => absurd h List.not_mem_nil) dX3_hasPlace_17
  · refine lv_iload_n hx hb dX3_hasPlace_4 rfl (lv_at hl 1 rfl) ?_
    refine lv_aload_n hx hb dX3_hasPlace_5 rfl (lv_at hl 0 rfl) ?_
    refine va_get (D := D) (ci := 7) (v := .int rm) (C := RX3) (T := TX3) (N := 3) hx hb hts hinX3 hown hK hP 0 rfl rfl 2 (by decide) (hts _ fk_X3_19) (fun _ h9 => h9) rfl dX3_hasPlace_6 ?_
    refine lv_icmp_ge (tgt := 16) hx hb dX3_hasPlace_9 (by decide) (fun c2 => ?_) (fun c2 => ?_)
    · refine lv_iconst (v := 0) hx hb dX3_hasPlace_16 (by decide) ?_
      exact W.zret (v := (0 : Int32)) hx hb hr rfl (fun t ht hW => ⟨by rw [show fX3_hasPlace rm ia = (0 : Int32) by unfold fX3_hasPlace; rw [if_neg c1, if_pos c2]], ht⟩) (fun _ h => absurd h List.not_mem_nil) dX3_hasPlace_17
    · refine lv_iconst (v := 1) hx hb dX3_hasPlace_12 (by decide) ?_
      refine lv_goto (tgt := 17) hx hb dX3_hasPlace_13 (by decide) ?_
      exact W.zret (v := (1 : Int32)) hx hb hr rfl (fun t ht hW => ⟨by rw [show fX3_hasPlace rm ia = (1 : Int32) by unfold fX3_hasPlace; rw [if_neg c1, if_neg c2]], ht⟩) (fun _ h => absurd h List.not_mem_nil) dX3_hasPlace_17
theorem o_fol {n i : Int32} {k : Nat} (h : xr_u n i k) (hc : ¬ n ≤ i) : 0 ≤ (fX3_following i n).toInt ∧ (fX3_following i n).toInt < n.toInt := by
  have h1 := h.1
  have h2 : i.toInt < n.toInt := by rw [Int32.le_iff_toInt_le] at hc; omega
  unfold fX3_following
  split
  · exact ⟨by decide, by show (0 : Int) < _; omega⟩
  · rename_i h3
    rw [Int32.le_iff_toInt_le, xr_s1 hc] at h3
    rw [xr_s1 hc]; omega
theorem o_folp {n i : Int32} {k N : Nat} (h : xr_u n i k) (hc : ¬ n ≤ i) (hn : n.toInt ≤ N) : vp_in (fX3_following i n) N := by
  have := o_fol h hc
  rw [vp_in_iff]; omega
theorem o_folc {n i : Int32} {k : Nat} (h : xr_u n i k) (hc : ¬ n ≤ i) : ((fX3_following i n).toNatClampNeg : Int) < n.toInt := by
  have := o_fol h hc
  rw [xr_cl0 this.1]; omega
def fX3_refusal_A (held : Nat → Int32) (rm : Int32) (n : Int32) : Nat → Int32 → Int32
  | 0, _ => 0
  | kA + 1, i => if n ≤ i then ((0 : Int32)) else (if (held i.toNatClampNeg) = (-1 : Int32) then ((-4 : Int32)) else (fX3_refusal_A held rm n kA (i + 1)))
theorem fX3_refusal_A_s (held : Nat → Int32) (rm : Int32) (n : Int32) (kA : Nat) (i : Int32) : fX3_refusal_A held rm n  (kA + 1) i = (if n ≤ i then ((0 : Int32)) else (if (held i.toNatClampNeg) = (-1 : Int32) then ((-4 : Int32)) else (fX3_refusal_A held rm n kA (i + 1)))) := rfl
def fX3_refusal (held : Nat → Int32) (rm : Int32) (n : Int32) : Int32 := if n < (1 : Int32) then ((-2 : Int32)) else (if n ≤ rm then (fX3_refusal_A held rm n (n.toInt.toNat + 1) (0 : Int32)) else ((-2 : Int32)))
set_option maxHeartbeats 4000000 in
set_option maxRecDepth 100000 in
theorem ct3_refusal (l : Launch) (D : va_G) (r1 r2 q1 q2 q3 : Nat) (kI : ClassId) (held xs ys : Nat → Int32) (rm pm : Int32) (n : Int32) (orm : rm.toInt ≤ (24 : Nat)) : Met l yX3_refusal (Cond.code yX3_refusal cX3_refusal 3 (some .int) :: BX) ({ frames := 0, cells := 0, slots := 0, locals := 0 }) (xr_P nN D vwCl [(kI, .int)] (wRw r1 r2 q1 q2 q3 kI held xs ys rm pm) [.ref r1, .int n]) (xr_Q (.int (fX3_refusal held rm n))) 0 0 (fun _ => False) := by
  refine Met.ofW (cc := cX3_refusal) (maxL := 3) (ret := (some .int)) (by decide) rfl ?_
  intro p e s m args below meth c s₁ B hml hv
  obtain ⟨rfl, hP, hK, hN⟩ := hv
  have hx := B.exec
  have hb := B.bytes
  have hr := B.returns
  have hts0 := atoms_spec (ws := Cond.code yX3_refusal cX3_refusal 3 (some .int) :: BX) B.pre
  have hts : ∀ w ∈ BX, w.before _ s = true := fun w h => hts0 w (List.mem_cons_of_mem _ h)
  have hown : s.vm.findClass RX3 = some m.cls := findClass_of_methodNamed B.named
  have hlocks := B.notSynchronized
  have hl := lv_entry ([.ref r1, .int n]) (n := 3) (Nat.le_of_ble_eq_true rfl)
  rw [lg_entry_eq]
  generalize (lg_sl ([.ref r1, .int n]) ++ List.replicate (3 - (lg_sl ([.ref r1, .int n])).length) Slot.unset).toArray = ls at hl ⊢
  have hl : lv_has ls 3 [(0, .ref r1), (1, .int n)] := hl
  refine lv_iload_n hx hb dX3_refusal_0 rfl (lv_at hl 1 rfl) ?_
  refine lv_iconst (v := 1) hx hb dX3_refusal_1 (by decide) ?_
  refine lv_icmp_lt (tgt := 13) hx hb dX3_refusal_2 (by decide) (fun c1 => ?_) (fun c1 => ?_)
  · refine lv_bipush (v := (-2)) hx hb dX3_refusal_13 (by decide) ?_
    exact W.iret (v := (-2 : Int32)) hx hb hr (fun t ht hW => ⟨by rw [show fX3_refusal held rm n = (-2 : Int32) by unfold fX3_refusal; rw [if_pos c1]], ht⟩) (fun _ h => absurd h List.not_mem_nil) dX3_refusal_15
  · refine lv_iload_n hx hb dX3_refusal_5 rfl (lv_at hl 1 rfl) ?_
    refine lv_aload_n hx hb dX3_refusal_6 rfl (lv_at hl 0 rfl) ?_
    refine va_get (D := D) (ci := 7) (v := .int rm) (C := RX3) (T := TX3) (N := 3) hx hb hts hinX3 hown hK hP 0 rfl rfl 2 (by decide) (hts _ fk_X3_19) (fun _ h9 => h9) rfl dX3_refusal_7 ?_
    refine lv_icmp_le (tgt := 16) hx hb dX3_refusal_10 (by decide) (fun c2 => ?_) (fun c2 => ?_)
    · refine lv_iconst (v := 0) hx hb dX3_refusal_16 (by decide) ?_
      refine lv_istore_n (lv' := [(2, .int (0 : Int32)), (0, .ref r1), (1, .int n)]) hx hb dX3_refusal_17 rfl hl (by decide) rfl (fun ls hl => ?_)
      refine xr_l1 (P := fun ls => W p l e _ s m _ below meth c _ _ _ _ _ (F0 m 18 ls [])) (nL := 3) (fun (i : Int32) => [(2, .int i), (0, .ref r1), (1, .int n)]) (fun kA (i : Int32) => xr_u n i kA ∧ fX3_refusal_A held rm n kA i = fX3_refusal held rm n) (fun _ h => xr_u0 h.1) ?_ (n.toInt.toNat + 1) (0 : Int32) ls hl ⟨(xr_ub n), (by unfold fX3_refusal; rw [if_neg c1, if_pos c2])⟩
      clear hl
      intro kA i ls hl hI ihA
      obtain ⟨huA, hLA⟩ := hI
      refine lv_iload_n hx hb dX3_refusal_18 rfl (lv_at hl 0 rfl) ?_
      refine lv_iload_n hx hb dX3_refusal_19 rfl (lv_at hl 2 rfl) ?_
      refine lv_icmp_ge (tgt := 42) hx hb dX3_refusal_20 (by decide) (fun c3 => ?_) (fun c3 => ?_)
      · refine lv_iconst (v := 0) hx hb dX3_refusal_42 (by decide) ?_
        exact W.iret (v := (0 : Int32)) hx hb hr (fun t ht hW => ⟨by rw [← hLA, fX3_refusal_A_s, if_pos c3], ht⟩) (fun _ h => absurd h List.not_mem_nil) dX3_refusal_43
      · refine lv_aload_n hx hb dX3_refusal_23 rfl (lv_at hl 1 rfl) ?_
        refine va_get (D := D) (ci := 7) (v := .ref r2) (C := RX3) (T := TX3) (N := 3) hx hb hts hinX3 hown hK hP 0 rfl rfl 1 (by decide) (hts _ fk_X3_9) (fun _ h9 => h9) rfl dX3_refusal_24 ?_
        refine lv_iload_n hx hb dX3_refusal_27 rfl (lv_at hl 0 rfl) ?_
        refine va_iald hx hb hK hP 1 0 rfl rfl (xr_in huA c3 (Int.le_trans (by rw [← Int32.le_iff_toInt_le]; assumption) orm)) dX3_refusal_28 ?_
        refine lv_iconst (v := (-1)) hx hb dX3_refusal_29 (by decide) ?_
        refine lv_icmp_ne (tgt := 36) hx hb dX3_refusal_30 (by decide) (fun c4 => ?_) (fun c4 => ?_)
        · obtain ⟨z5, ez5⟩ : ∃ y : Int32, y = i + 1 := ⟨_, rfl⟩
          refine lv_iinc (v := z5) (lv' := [(2, .int z5), (0, .ref r1), (1, .int n)]) hx hb dX3_refusal_36 hl (k := 0) rfl (by rw [ez5]; rfl) (by decide) rfl (fun ls hl => ?_)
          refine lv_goto (tgt := 18) hx hb dX3_refusal_39 (by decide) ?_
          have hl9 := hl
          subst ez5
          exact ihA (i + 1) _ (lv_sub hl9 [0, 1, 2] rfl) ⟨xr_us huA c3, by rw [← hLA, fX3_refusal_A_s, if_neg c3, if_neg c4]⟩
        · refine lv_bipush (v := (-4)) hx hb dX3_refusal_33 (by decide) ?_
          exact W.iret (v := (-4 : Int32)) hx hb hr (fun t ht hW => ⟨by rw [← hLA, fX3_refusal_A_s, if_neg c3, if_pos c4], ht⟩) (fun _ h => absurd h List.not_mem_nil) dX3_refusal_35
    · refine lv_bipush (v := (-2)) hx hb dX3_refusal_13 (by decide) ?_
      exact W.iret (v := (-2 : Int32)) hx hb hr (fun t ht hW => ⟨by rw [show fX3_refusal held rm n = (-2 : Int32) by unfold fX3_refusal; rw [if_neg c1, if_neg c2]], ht⟩) (fun _ h => absurd h List.not_mem_nil) dX3_refusal_15
def fX3_climbsPast (xs ys : Nat → Int32) (ia : Int32) (ib : Int32) (ip : Int32) : Int32 := if (ys ip.toNatClampNeg) < (ys ia.toNatClampNeg) then ((0 : Int32)) else (if (ys ib.toNatClampNeg) ≤ (ys ip.toNatClampNeg) then ((0 : Int32)) else (if (fX2_turn xs ys ia ib ip) = (1 : Int32) then ((1 : Int32)) else ((0 : Int32))))
set_option maxHeartbeats 4000000 in
set_option maxRecDepth 100000 in
theorem ct3_climbsPast (l : Launch) (D : va_G) (r1 r2 q1 q2 q3 : Nat) (kI : ClassId) (held xs ys : Nat → Int32) (rm pm : Int32) (ia : Int32) (ib : Int32) (ip : Int32) (oia : vp_in ia 60) (oib : vp_in ib 60) (oip : vp_in ip 60) : Met l yX3_climbsPast (Cond.code yX3_climbsPast cX3_climbsPast 5 (some .boolean) :: BX) ({ frames := 2, cells := 0, slots := 0, locals := 120 }) (xr_P nN D vwCl [(kI, .int)] (wRw r1 r2 q1 q2 q3 kI held xs ys rm pm) [.ref r1, .int ia, .int ib, .int ip]) (xr_Q (.int (fX3_climbsPast xs ys ia ib ip))) 0 0 (fun _ => False) := by
  refine Met.ofW (cc := cX3_climbsPast) (maxL := 5) (ret := (some .boolean)) (by decide) rfl ?_
  intro p e s m args below meth c s₁ B hml hv
  obtain ⟨rfl, hP, hK, hN⟩ := hv
  have hx := B.exec
  have hb := B.bytes
  have hr := B.returns
  have hts0 := atoms_spec (ws := Cond.code yX3_climbsPast cX3_climbsPast 5 (some .boolean) :: BX) B.pre
  have hts : ∀ w ∈ BX, w.before _ s = true := fun w h => hts0 w (List.mem_cons_of_mem _ h)
  have hown : s.vm.findClass RX3 = some m.cls := findClass_of_methodNamed B.named
  have hlocks := B.notSynchronized
  have hl := lv_entry ([.ref r1, .int ia, .int ib, .int ip]) (n := 5) (Nat.le_of_ble_eq_true rfl)
  rw [lg_entry_eq]
  generalize (lg_sl ([.ref r1, .int ia, .int ib, .int ip]) ++ List.replicate (5 - (lg_sl ([.ref r1, .int ia, .int ib, .int ip])).length) Slot.unset).toArray = ls at hl ⊢
  have hl : lv_has ls 5 [(0, .ref r1), (1, .int ia), (2, .int ib), (3, .int ip)] := hl
  refine lv_aload_n hx hb dX3_climbsPast_0 rfl (lv_at hl 0 rfl) ?_
  refine va_get (D := D) (ci := 7) (v := .ref q1) (C := RX3) (T := TX3) (N := 3) hx hb hts hinX3 hown hK hP 0 rfl rfl 0 (by decide) (hts _ fk_X3_15) (fun _ h9 => h9) rfl dX3_climbsPast_1 ?_
  refine va_get (D := D) (ci := 6) (v := .ref q3) (C := RX2) (T := TX2) (N := 3) hx hb hts hinX2 hown hK hP 2 rfl rfl 1 (by decide) (hts _ fk_X3_40) (fun _ h9 => h9) rfl dX3_climbsPast_4 ?_
  refine lv_iload_n hx hb dX3_climbsPast_7 rfl (lv_at hl 1 rfl) ?_
  refine va_iald hx hb hK hP 4 0 rfl rfl oia dX3_climbsPast_8 ?_
  refine lv_aload_n hx hb dX3_climbsPast_9 rfl (lv_at hl 0 rfl) ?_
  refine va_get (D := D) (ci := 7) (v := .ref q1) (C := RX3) (T := TX3) (N := 3) hx hb hts hinX3 hown hK hP 0 rfl rfl 0 (by decide) (hts _ fk_X3_15) (fun _ h9 => h9) rfl dX3_climbsPast_10 ?_
  refine va_get (D := D) (ci := 6) (v := .ref q3) (C := RX2) (T := TX2) (N := 3) hx hb hts hinX2 hown hK hP 2 rfl rfl 1 (by decide) (hts _ fk_X3_40) (fun _ h9 => h9) rfl dX3_climbsPast_13 ?_
  refine lv_iload_n hx hb dX3_climbsPast_16 rfl (lv_at hl 3 rfl) ?_
  refine va_iald hx hb hK hP 4 0 rfl rfl oip dX3_climbsPast_17 ?_
  refine lv_icmp_gt (tgt := 46) hx hb dX3_climbsPast_18 (by decide) (fun c1 => ?_) (fun c1 => ?_)
  · refine lv_iconst (v := 0) hx hb dX3_climbsPast_46 (by decide) ?_
    refine lv_istore (lv' := [(4, .int (0 : Int32)), (0, .ref r1), (1, .int ia), (2, .int ib), (3, .int ip)]) hx hb dX3_climbsPast_47 hl (by decide) rfl (fun ls hl => ?_)
    refine lv_iload hx hb dX3_climbsPast_49 (lv_at hl 0 rfl) ?_
    refine lv_if_eq (tgt := 72) hx hb dX3_climbsPast_51 (by decide) (fun c2 => ?_) (fun c2 => ?_)
    · refine lv_iconst (v := 0) hx hb dX3_climbsPast_72 (by decide) ?_
      exact W.zret (v := (0 : Int32)) hx hb hr rfl (fun t ht hW => ⟨by rw [show fX3_climbsPast xs ys ia ib ip = (0 : Int32) by unfold fX3_climbsPast; rw [if_pos c1]], ht⟩) (fun _ h => absurd h List.not_mem_nil) dX3_climbsPast_73
    · exact absurd (by decide) c2
  · refine lv_aload_n hx hb dX3_climbsPast_21 rfl (lv_at hl 0 rfl) ?_
    refine va_get (D := D) (ci := 7) (v := .ref q1) (C := RX3) (T := TX3) (N := 3) hx hb hts hinX3 hown hK hP 0 rfl rfl 0 (by decide) (hts _ fk_X3_15) (fun _ h9 => h9) rfl dX3_climbsPast_22 ?_
    refine va_get (D := D) (ci := 6) (v := .ref q3) (C := RX2) (T := TX2) (N := 3) hx hb hts hinX2 hown hK hP 2 rfl rfl 1 (by decide) (hts _ fk_X3_40) (fun _ h9 => h9) rfl dX3_climbsPast_25 ?_
    refine lv_iload_n hx hb dX3_climbsPast_28 rfl (lv_at hl 2 rfl) ?_
    refine va_iald hx hb hK hP 4 0 rfl rfl oib dX3_climbsPast_29 ?_
    refine lv_aload_n hx hb dX3_climbsPast_30 rfl (lv_at hl 0 rfl) ?_
    refine va_get (D := D) (ci := 7) (v := .ref q1) (C := RX3) (T := TX3) (N := 3) hx hb hts hinX3 hown hK hP 0 rfl rfl 0 (by decide) (hts _ fk_X3_15) (fun _ h9 => h9) rfl dX3_climbsPast_31 ?_
    refine va_get (D := D) (ci := 6) (v := .ref q3) (C := RX2) (T := TX2) (N := 3) hx hb hts hinX2 hown hK hP 2 rfl rfl 1 (by decide) (hts _ fk_X3_40) (fun _ h9 => h9) rfl dX3_climbsPast_34 ?_
    refine lv_iload_n hx hb dX3_climbsPast_37 rfl (lv_at hl 3 rfl) ?_
    refine va_iald hx hb hK hP 4 0 rfl rfl oip dX3_climbsPast_38 ?_
    refine lv_icmp_le (tgt := 46) hx hb dX3_climbsPast_39 (by decide) (fun c3 => ?_) (fun c3 => ?_)
    · refine lv_iconst (v := 0) hx hb dX3_climbsPast_46 (by decide) ?_
      refine lv_istore (lv' := [(4, .int (0 : Int32)), (0, .ref r1), (1, .int ia), (2, .int ib), (3, .int ip)]) hx hb dX3_climbsPast_47 hl (by decide) rfl (fun ls hl => ?_)
      refine lv_iload hx hb dX3_climbsPast_49 (lv_at hl 0 rfl) ?_
      refine lv_if_eq (tgt := 72) hx hb dX3_climbsPast_51 (by decide) (fun c4 => ?_) (fun c4 => ?_)
      · refine lv_iconst (v := 0) hx hb dX3_climbsPast_72 (by decide) ?_
        exact W.zret (v := (0 : Int32)) hx hb hr rfl (fun t ht hW => ⟨by rw [show fX3_climbsPast xs ys ia ib ip = (0 : Int32) by unfold fX3_climbsPast; rw [if_neg c1, if_pos c3]], ht⟩) (fun _ h => absurd h List.not_mem_nil) dX3_climbsPast_73
      · exact absurd (by decide) c4
    · refine lv_iconst (v := 1) hx hb dX3_climbsPast_42 (by decide) ?_
      refine lv_goto (tgt := 47) hx hb dX3_climbsPast_43 (by decide) ?_
      refine lv_istore (lv' := [(4, .int (1 : Int32)), (0, .ref r1), (1, .int ia), (2, .int ib), (3, .int ip)]) hx hb dX3_climbsPast_47 hl (by decide) rfl (fun ls hl => ?_)
      refine lv_iload hx hb dX3_climbsPast_49 (lv_at hl 0 rfl) ?_
      refine lv_if_eq (tgt := 72) hx hb dX3_climbsPast_51 (by decide) (fun c5 => ?_) (fun c5 => ?_)
      · exact absurd c5 (by decide)
      · refine lv_aload_n hx hb dX3_climbsPast_54 rfl (lv_at hl 1 rfl) ?_
        refine va_get (D := D) (ci := 7) (v := .ref q1) (C := RX3) (T := TX3) (N := 3) hx hb hts hinX3 hown hK hP 0 rfl rfl 0 (by decide) (hts _ fk_X3_15) (fun _ h9 => h9) rfl dX3_climbsPast_55 ?_
        refine lv_iload_n hx hb dX3_climbsPast_58 rfl (lv_at hl 2 rfl) ?_
        refine lv_iload_n hx hb dX3_climbsPast_59 rfl (lv_at hl 3 rfl) ?_
        refine lv_iload_n hx hb dX3_climbsPast_60 rfl (lv_at hl 4 rfl) ?_
        refine xr_V (q := (RX2, TX2, 3)) (ci := 6) (q0 := 2) (rest := []) (As := [.int ia, .int ib, .int ip]) ⟨hx, hb, hml, hown, hts⟩ (ct2_turn l D q1 q2 q3 kI xs ys pm ia ib ip oia oib oip) (cwV 3 hts gl_X3_23 rfl rfl rfl (by decide +kernel) ⟨Nat.le_of_ble_eq_true rfl, Nat.le_of_ble_eq_true rfl⟩) nN_mv hN hK hP [2, 3, 4] [0] rfl rfl rfl rfl rfl hl.1 rfl (Nat.le_of_ble_eq_true rfl) dX3_climbsPast_61 ⟨Nat.le_of_ble_eq_true rfl, Nat.le_of_ble_eq_true rfl⟩ ?_
        refine lv_iconst (v := 1) hx hb dX3_climbsPast_64 (by decide) ?_
        refine lv_icmp_ne (tgt := 72) hx hb dX3_climbsPast_65 (by decide) (fun c6 => ?_) (fun c6 => ?_)
        · refine lv_iconst (v := 0) hx hb dX3_climbsPast_72 (by decide) ?_
          exact W.zret (v := (0 : Int32)) hx hb hr rfl (fun t ht hW => ⟨by rw [show fX3_climbsPast xs ys ia ib ip = (0 : Int32) by unfold fX3_climbsPast; rw [if_neg c1, if_neg c3, if_neg c6]], ht⟩) (fun _ h => absurd h List.not_mem_nil) dX3_climbsPast_73
        · refine lv_iconst (v := 1) hx hb dX3_climbsPast_68 (by decide) ?_
          refine lv_goto (tgt := 73) hx hb dX3_climbsPast_69 (by decide) ?_
          exact W.zret (v := (1 : Int32)) hx hb hr rfl (fun t ht hW => ⟨by rw [show fX3_climbsPast xs ys ia ib ip = (1 : Int32) by unfold fX3_climbsPast; rw [if_neg c1, if_neg c3, if_pos c6]], ht⟩) (fun _ h => absurd h List.not_mem_nil) dX3_climbsPast_73
def fX3_commonSide_B (held xs ys : Nat → Int32) (n : Int32) (ed : Int32) (K : Int32 → Int32) : Nat → Int32 → Int32
  | 0, _ => 0
  | kB + 1, i => if n ≤ i then (K i) else (if i = ed then (fX3_commonSide_B held xs ys n ed K kB (i + 1)) else (if i = (fX3_following ed n) then (fX3_commonSide_B held xs ys n ed K kB (i + 1)) else (if (fX2_turn xs ys (held ed.toNatClampNeg) (held (fX3_following ed n).toNatClampNeg) (held i.toNatClampNeg)) = (fX2_turn xs ys (held (0 : Int32).toNatClampNeg) (held (1 : Int32).toNatClampNeg) (held (2 : Int32).toNatClampNeg)) then (fX3_commonSide_B held xs ys n ed K kB (i + 1)) else ((0 : Int32)))))
theorem fX3_commonSide_B_s (held xs ys : Nat → Int32) (n : Int32) (ed : Int32) (K : Int32 → Int32) (kB : Nat) (i : Int32) : fX3_commonSide_B held xs ys n ed K (kB + 1) i = (if n ≤ i then (K i) else (if i = ed then (fX3_commonSide_B held xs ys n ed K kB (i + 1)) else (if i = (fX3_following ed n) then (fX3_commonSide_B held xs ys n ed K kB (i + 1)) else (if (fX2_turn xs ys (held ed.toNatClampNeg) (held (fX3_following ed n).toNatClampNeg) (held i.toNatClampNeg)) = (fX2_turn xs ys (held (0 : Int32).toNatClampNeg) (held (1 : Int32).toNatClampNeg) (held (2 : Int32).toNatClampNeg)) then (fX3_commonSide_B held xs ys n ed K kB (i + 1)) else ((0 : Int32)))))) := rfl
def fX3_commonSide_A (held xs ys : Nat → Int32) (n : Int32) : Nat → Int32 → Int32
  | 0, _ => 0
  | kA + 1, ed => if n ≤ ed then (fX2_turn xs ys (held (0 : Int32).toNatClampNeg) (held (1 : Int32).toNatClampNeg) (held (2 : Int32).toNatClampNeg)) else (fX3_commonSide_B held xs ys n ed (fun i => fX3_commonSide_A held xs ys n kA (ed + 1)) (n.toInt.toNat + 1) (0 : Int32))
theorem fX3_commonSide_A_s (held xs ys : Nat → Int32) (n : Int32) (kA : Nat) (ed : Int32) : fX3_commonSide_A held xs ys n  (kA + 1) ed = (if n ≤ ed then (fX2_turn xs ys (held (0 : Int32).toNatClampNeg) (held (1 : Int32).toNatClampNeg) (held (2 : Int32).toNatClampNeg)) else (fX3_commonSide_B held xs ys n ed (fun i => fX3_commonSide_A held xs ys n kA (ed + 1)) (n.toInt.toNat + 1) (0 : Int32))) := rfl
def fX3_commonSide (held xs ys : Nat → Int32) (n : Int32) : Int32 := fX3_commonSide_A held xs ys n (n.toInt.toNat + 1) (0 : Int32)
set_option maxHeartbeats 4000000 in
set_option maxRecDepth 100000 in
theorem ct3_commonSide (l : Launch) (D : va_G) (r1 r2 q1 q2 q3 : Nat) (kI : ClassId) (held xs ys : Nat → Int32) (rm pm : Int32) (n : Int32) (on : n.toInt ≤ (24 : Nat)) (o3 : 3 ≤ n.toInt) (oh : ∀ j : Nat, (j : Int) < n.toInt → vp_in (held j) 60) : Met l yX3_commonSide (Cond.code yX3_commonSide cX3_commonSide 7 (some .int) :: BX) ({ frames := 2, cells := 0, slots := 0, locals := 120 }) (xr_P nN D vwCl [(kI, .int)] (wRw r1 r2 q1 q2 q3 kI held xs ys rm pm) [.ref r1, .int n]) (xr_Q (.int (fX3_commonSide held xs ys n))) 0 0 (fun _ => False) := by
  refine Met.ofW (cc := cX3_commonSide) (maxL := 7) (ret := (some .int)) (by decide) rfl ?_
  intro p e s m args below meth c s₁ B hml hv
  obtain ⟨rfl, hP, hK, hN⟩ := hv
  have hx := B.exec
  have hb := B.bytes
  have hr := B.returns
  have hts0 := atoms_spec (ws := Cond.code yX3_commonSide cX3_commonSide 7 (some .int) :: BX) B.pre
  have hts : ∀ w ∈ BX, w.before _ s = true := fun w h => hts0 w (List.mem_cons_of_mem _ h)
  have hown : s.vm.findClass RX3 = some m.cls := findClass_of_methodNamed B.named
  have hlocks := B.notSynchronized
  have hl := lv_entry ([.ref r1, .int n]) (n := 7) (Nat.le_of_ble_eq_true rfl)
  rw [lg_entry_eq]
  generalize (lg_sl ([.ref r1, .int n]) ++ List.replicate (7 - (lg_sl ([.ref r1, .int n])).length) Slot.unset).toArray = ls at hl ⊢
  have hl : lv_has ls 7 [(0, .ref r1), (1, .int n)] := hl
  refine lv_aload_n hx hb dX3_commonSide_0 rfl (lv_at hl 0 rfl) ?_
  refine va_get (D := D) (ci := 7) (v := .ref q1) (C := RX3) (T := TX3) (N := 3) hx hb hts hinX3 hown hK hP 0 rfl rfl 0 (by decide) (hts _ fk_X3_15) (fun _ h9 => h9) rfl dX3_commonSide_1 ?_
  refine lv_aload_n hx hb dX3_commonSide_4 rfl (lv_at hl 0 rfl) ?_
  refine va_get (D := D) (ci := 7) (v := .ref r2) (C := RX3) (T := TX3) (N := 3) hx hb hts hinX3 hown hK hP 0 rfl rfl 1 (by decide) (hts _ fk_X3_9) (fun _ h9 => h9) rfl dX3_commonSide_5 ?_
  refine lv_iconst (v := 0) hx hb dX3_commonSide_8 (by decide) ?_
  refine va_iald hx hb hK hP 1 0 rfl rfl (by rw [vp_in_iff]; decide) dX3_commonSide_9 ?_
  refine lv_aload_n hx hb dX3_commonSide_10 rfl (lv_at hl 0 rfl) ?_
  refine va_get (D := D) (ci := 7) (v := .ref r2) (C := RX3) (T := TX3) (N := 3) hx hb hts hinX3 hown hK hP 0 rfl rfl 1 (by decide) (hts _ fk_X3_9) (fun _ h9 => h9) rfl dX3_commonSide_11 ?_
  refine lv_iconst (v := 1) hx hb dX3_commonSide_14 (by decide) ?_
  refine va_iald hx hb hK hP 1 0 rfl rfl (by rw [vp_in_iff]; decide) dX3_commonSide_15 ?_
  refine lv_aload_n hx hb dX3_commonSide_16 rfl (lv_at hl 0 rfl) ?_
  refine va_get (D := D) (ci := 7) (v := .ref r2) (C := RX3) (T := TX3) (N := 3) hx hb hts hinX3 hown hK hP 0 rfl rfl 1 (by decide) (hts _ fk_X3_9) (fun _ h9 => h9) rfl dX3_commonSide_17 ?_
  refine lv_iconst (v := 2) hx hb dX3_commonSide_20 (by decide) ?_
  refine va_iald hx hb hK hP 1 0 rfl rfl (by rw [vp_in_iff]; decide) dX3_commonSide_21 ?_
  refine xr_V (q := (RX2, TX2, 3)) (ci := 6) (q0 := 2) (rest := []) (As := [.int (held (0 : Int32).toNatClampNeg), .int (held (1 : Int32).toNatClampNeg), .int (held (2 : Int32).toNatClampNeg)]) ⟨hx, hb, hml, hown, hts⟩ (ct2_turn l D q1 q2 q3 kI xs ys pm (held (0 : Int32).toNatClampNeg) (held (1 : Int32).toNatClampNeg) (held (2 : Int32).toNatClampNeg) (oh _ (by show ((0 : Nat) : Int) < n.toInt; omega)) (oh _ (by show ((1 : Nat) : Int) < n.toInt; omega)) (oh _ (by show ((2 : Nat) : Int) < n.toInt; omega))) (cwV 3 hts gl_X3_23 rfl rfl rfl (by decide +kernel) ⟨Nat.le_of_ble_eq_true rfl, Nat.le_of_ble_eq_true rfl⟩) nN_mv hN hK hP [2, 3, 4] [0] rfl rfl rfl rfl rfl hl.1 rfl (Nat.le_of_ble_eq_true rfl) dX3_commonSide_22 ⟨Nat.le_of_ble_eq_true rfl, Nat.le_of_ble_eq_true rfl⟩ ?_
  refine lv_topi (fun z1 ez1 => ?_)
  refine lv_istore_n (lv' := [(2, .int z1), (0, .ref r1), (1, .int n)]) hx hb dX3_commonSide_25 rfl hl (by decide) rfl (fun ls hl => ?_)
  refine lv_iconst (v := 0) hx hb dX3_commonSide_26 (by decide) ?_
  refine lv_istore_n (lv' := [(3, .int (0 : Int32)), (2, .int z1), (0, .ref r1), (1, .int n)]) hx hb dX3_commonSide_27 rfl hl (by decide) rfl (fun ls hl => ?_)
  refine xr_l1 (P := fun ls => W p l e _ s m _ below meth c _ _ _ _ _ (F0 m 28 ls [])) (nL := 7) (fun (ed : Int32) => [(3, .int ed), (2, .int z1), (0, .ref r1), (1, .int n)]) (fun kA (ed : Int32) => xr_u n ed kA ∧ fX3_commonSide_A held xs ys n kA ed = fX3_commonSide held xs ys n) (fun _ h => xr_u0 h.1) ?_ (n.toInt.toNat + 1) (0 : Int32) ls hl ⟨(xr_ub n), (by subst ez1; unfold fX3_commonSide; rfl)⟩
  clear hl
  intro kA ed ls hl hI ihA
  obtain ⟨huA, hLA⟩ := hI
  refine lv_iload_n hx hb dX3_commonSide_28 rfl (lv_at hl 0 rfl) ?_
  refine lv_iload_n hx hb dX3_commonSide_29 rfl (lv_at hl 3 rfl) ?_
  refine lv_icmp_ge (tgt := 119) hx hb dX3_commonSide_30 (by decide) (fun c2 => ?_) (fun c2 => ?_)
  · refine lv_iload_n hx hb dX3_commonSide_119 rfl (lv_at hl 1 rfl) ?_
    subst ez1
    exact W.iret (v := fX2_turn xs ys (held (0 : Int32).toNatClampNeg) (held (1 : Int32).toNatClampNeg) (held (2 : Int32).toNatClampNeg)) hx hb hr (fun t ht hW => ⟨by rw [← hLA, fX3_commonSide_A_s, if_pos c2], ht⟩) (fun _ h => absurd h List.not_mem_nil) dX3_commonSide_120
  · refine lv_iload_n hx hb dX3_commonSide_33 rfl (lv_at hl 0 rfl) ?_
    refine lv_iload_n hx hb dX3_commonSide_34 rfl (lv_at hl 3 rfl) ?_
    refine xr_S (rest := []) (As := [.int ed, .int n]) ⟨hx, hb, hml, hown, hts⟩ (ct3_following l D  ed n ) (va_cwS 2 hts gl_X3_29 rfl rfl rfl (by decide +kernel) ⟨Nat.le_of_ble_eq_true rfl, Nat.le_of_ble_eq_true rfl⟩) nN_mv hN hK hP [] [] rfl rfl rfl hl.1 rfl (Nat.le_of_ble_eq_true rfl) dX3_commonSide_35 ⟨Nat.le_of_ble_eq_true rfl, Nat.le_of_ble_eq_true rfl⟩ ?_
    refine lv_istore (lv' := [(4, .int (fX3_following ed n)), (3, .int ed), (2, .int z1), (0, .ref r1), (1, .int n)]) hx hb dX3_commonSide_38 hl (by decide) rfl (fun ls hl => ?_)
    refine lv_iconst (v := 0) hx hb dX3_commonSide_40 (by decide) ?_
    refine lv_istore (lv' := [(5, .int (0 : Int32)), (4, .int (fX3_following ed n)), (3, .int ed), (2, .int z1), (0, .ref r1), (1, .int n)]) hx hb dX3_commonSide_41 hl (by decide) rfl (fun ls hl => ?_)
    refine xr_l1 (P := fun ls => W p l e _ s m _ below meth c _ _ _ _ _ (F0 m 43 ls [])) (nL := 7) (fun (i : Int32) => [(5, .int i), (4, .int (fX3_following ed n)), (3, .int ed), (2, .int z1), (0, .ref r1), (1, .int n)]) (fun kB (i : Int32) => xr_u n i kB ∧ fX3_commonSide_B held xs ys n ed (fun i => fX3_commonSide_A held xs ys n kA (ed + 1)) kB i = fX3_commonSide held xs ys n) (fun _ h => xr_u0 h.1) ?_ (n.toInt.toNat + 1) (0 : Int32) ls hl ⟨(xr_ub n), (by subst ez1; rw [← hLA, fX3_commonSide_A_s, if_neg c2])⟩
    clear hl
    intro kB i ls hl hI ihB
    obtain ⟨huB, hLB⟩ := hI
    refine lv_iload hx hb dX3_commonSide_43 (lv_at hl 0 rfl) ?_
    refine lv_iload_n hx hb dX3_commonSide_45 rfl (lv_at hl 5 rfl) ?_
    refine lv_icmp_ge (tgt := 113) hx hb dX3_commonSide_46 (by decide) (fun c3 => ?_) (fun c3 => ?_)
    · obtain ⟨z4, ez4⟩ : ∃ y : Int32, y = ed + 1 := ⟨_, rfl⟩
      refine lv_iinc (v := z4) (lv' := [(3, .int z4), (5, .int i), (4, .int (fX3_following ed n)), (2, .int z1), (0, .ref r1), (1, .int n)]) hx hb dX3_commonSide_113 hl (k := 2) rfl (by rw [ez4]; rfl) (by decide) rfl (fun ls hl => ?_)
      refine lv_goto (tgt := 28) hx hb dX3_commonSide_116 (by decide) ?_
      have hl9 := hl
      subst ez4
      subst ez1
      exact ihA (ed + 1) _ (lv_sub hl9 [0, 3, 4, 5] rfl) ⟨xr_us huA c2, by rw [← hLB, fX3_commonSide_B_s, if_pos c3]⟩
    · refine lv_iload hx hb dX3_commonSide_49 (lv_at hl 0 rfl) ?_
      refine lv_iload_n hx hb dX3_commonSide_51 rfl (lv_at hl 2 rfl) ?_
      refine lv_icmp_eq (tgt := 66) hx hb dX3_commonSide_52 (by decide) (fun c5 => ?_) (fun c5 => ?_)
      · refine lv_iconst (v := 0) hx hb dX3_commonSide_66 (by decide) ?_
        refine lv_istore (lv' := [(6, .int (0 : Int32)), (5, .int i), (4, .int (fX3_following ed n)), (3, .int ed), (2, .int z1), (0, .ref r1), (1, .int n)]) hx hb dX3_commonSide_67 hl (by decide) rfl (fun ls hl => ?_)
        refine lv_iload hx hb dX3_commonSide_69 (lv_at hl 0 rfl) ?_
        refine lv_if_eq (tgt := 107) hx hb dX3_commonSide_71 (by decide) (fun c6 => ?_) (fun c6 => ?_)
        · obtain ⟨z7, ez7⟩ : ∃ y : Int32, y = i + 1 := ⟨_, rfl⟩
          refine lv_iinc (v := z7) (lv' := [(5, .int z7), (6, .int (0 : Int32)), (4, .int (fX3_following ed n)), (3, .int ed), (2, .int z1), (0, .ref r1), (1, .int n)]) hx hb dX3_commonSide_107 hl (k := 1) rfl (by rw [ez7]; rfl) (by decide) rfl (fun ls hl => ?_)
          refine lv_goto (tgt := 43) hx hb dX3_commonSide_110 (by decide) ?_
          have hl9 := hl
          subst ez7
          subst ez1
          exact ihB (i + 1) _ (lv_sub hl9 [0, 2, 3, 4, 5, 6] rfl) ⟨xr_us huB c3, by rw [← hLB, fX3_commonSide_B_s, if_neg c3, if_pos c5]⟩
        · exact absurd (by decide) c6
      · refine lv_iload hx hb dX3_commonSide_55 (lv_at hl 0 rfl) ?_
        refine lv_iload hx hb dX3_commonSide_57 (lv_at hl 1 rfl) ?_
        refine lv_icmp_eq (tgt := 66) hx hb dX3_commonSide_59 (by decide) (fun c8 => ?_) (fun c8 => ?_)
        · refine lv_iconst (v := 0) hx hb dX3_commonSide_66 (by decide) ?_
          refine lv_istore (lv' := [(6, .int (0 : Int32)), (5, .int i), (4, .int (fX3_following ed n)), (3, .int ed), (2, .int z1), (0, .ref r1), (1, .int n)]) hx hb dX3_commonSide_67 hl (by decide) rfl (fun ls hl => ?_)
          refine lv_iload hx hb dX3_commonSide_69 (lv_at hl 0 rfl) ?_
          refine lv_if_eq (tgt := 107) hx hb dX3_commonSide_71 (by decide) (fun c9 => ?_) (fun c9 => ?_)
          · obtain ⟨z10, ez10⟩ : ∃ y : Int32, y = i + 1 := ⟨_, rfl⟩
            refine lv_iinc (v := z10) (lv' := [(5, .int z10), (6, .int (0 : Int32)), (4, .int (fX3_following ed n)), (3, .int ed), (2, .int z1), (0, .ref r1), (1, .int n)]) hx hb dX3_commonSide_107 hl (k := 1) rfl (by rw [ez10]; rfl) (by decide) rfl (fun ls hl => ?_)
            refine lv_goto (tgt := 43) hx hb dX3_commonSide_110 (by decide) ?_
            have hl9 := hl
            subst ez10
            subst ez1
            exact ihB (i + 1) _ (lv_sub hl9 [0, 2, 3, 4, 5, 6] rfl) ⟨xr_us huB c3, by rw [← hLB, fX3_commonSide_B_s, if_neg c3, if_neg c5, if_pos c8]⟩
          · exact absurd (by decide) c9
        · refine lv_iconst (v := 1) hx hb dX3_commonSide_62 (by decide) ?_
          refine lv_goto (tgt := 67) hx hb dX3_commonSide_63 (by decide) ?_
          refine lv_istore (lv' := [(6, .int (1 : Int32)), (5, .int i), (4, .int (fX3_following ed n)), (3, .int ed), (2, .int z1), (0, .ref r1), (1, .int n)]) hx hb dX3_commonSide_67 hl (by decide) rfl (fun ls hl => ?_)
          refine lv_iload hx hb dX3_commonSide_69 (lv_at hl 0 rfl) ?_
          refine lv_if_eq (tgt := 107) hx hb dX3_commonSide_71 (by decide) (fun c11 => ?_) (fun c11 => ?_)
          · exact absurd c11 (by decide)
          · refine lv_aload_n hx hb dX3_commonSide_74 rfl (lv_at hl 5 rfl) ?_
            refine va_get (D := D) (ci := 7) (v := .ref q1) (C := RX3) (T := TX3) (N := 3) hx hb hts hinX3 hown hK hP 0 rfl rfl 0 (by decide) (hts _ fk_X3_15) (fun _ h9 => h9) rfl dX3_commonSide_75 ?_
            refine lv_aload_n hx hb dX3_commonSide_78 rfl (lv_at hl 5 rfl) ?_
            refine va_get (D := D) (ci := 7) (v := .ref r2) (C := RX3) (T := TX3) (N := 3) hx hb hts hinX3 hown hK hP 0 rfl rfl 1 (by decide) (hts _ fk_X3_9) (fun _ h9 => h9) rfl dX3_commonSide_79 ?_
            refine lv_iload_n hx hb dX3_commonSide_82 rfl (lv_at hl 3 rfl) ?_
            refine va_iald hx hb hK hP 1 0 rfl rfl (xr_in huA c2 on) dX3_commonSide_83 ?_
            refine lv_aload_n hx hb dX3_commonSide_84 rfl (lv_at hl 5 rfl) ?_
            refine va_get (D := D) (ci := 7) (v := .ref r2) (C := RX3) (T := TX3) (N := 3) hx hb hts hinX3 hown hK hP 0 rfl rfl 1 (by decide) (hts _ fk_X3_9) (fun _ h9 => h9) rfl dX3_commonSide_85 ?_
            refine lv_iload hx hb dX3_commonSide_88 (lv_at hl 2 rfl) ?_
            refine va_iald hx hb hK hP 1 0 rfl rfl (o_folp huA c2 on) dX3_commonSide_90 ?_
            refine lv_aload_n hx hb dX3_commonSide_91 rfl (lv_at hl 5 rfl) ?_
            refine va_get (D := D) (ci := 7) (v := .ref r2) (C := RX3) (T := TX3) (N := 3) hx hb hts hinX3 hown hK hP 0 rfl rfl 1 (by decide) (hts _ fk_X3_9) (fun _ h9 => h9) rfl dX3_commonSide_92 ?_
            refine lv_iload hx hb dX3_commonSide_95 (lv_at hl 1 rfl) ?_
            refine va_iald hx hb hK hP 1 0 rfl rfl (xr_in huB c3 on) dX3_commonSide_97 ?_
            refine xr_V (q := (RX2, TX2, 3)) (ci := 6) (q0 := 2) (rest := []) (As := [.int (held ed.toNatClampNeg), .int (held (fX3_following ed n).toNatClampNeg), .int (held i.toNatClampNeg)]) ⟨hx, hb, hml, hown, hts⟩ (ct2_turn l D q1 q2 q3 kI xs ys pm (held ed.toNatClampNeg) (held (fX3_following ed n).toNatClampNeg) (held i.toNatClampNeg) (oh _ (xr_cl huA c2)) (oh _ (o_folc huA c2)) (oh _ (xr_cl huB c3))) (cwV 3 hts gl_X3_23 rfl rfl rfl (by decide +kernel) ⟨Nat.le_of_ble_eq_true rfl, Nat.le_of_ble_eq_true rfl⟩) nN_mv hN hK hP [2, 3, 4] [0] rfl rfl rfl rfl rfl hl.1 rfl (Nat.le_of_ble_eq_true rfl) dX3_commonSide_98 ⟨Nat.le_of_ble_eq_true rfl, Nat.le_of_ble_eq_true rfl⟩ ?_
            refine lv_iload_n hx hb dX3_commonSide_101 rfl (lv_at hl 4 rfl) ?_
            refine lv_icmp_eq (tgt := 107) hx hb dX3_commonSide_102 (by decide) (fun c12 => ?_) (fun c12 => ?_)
            · obtain ⟨z13, ez13⟩ : ∃ y : Int32, y = i + 1 := ⟨_, rfl⟩
              refine lv_iinc (v := z13) (lv' := [(5, .int z13), (6, .int (1 : Int32)), (4, .int (fX3_following ed n)), (3, .int ed), (2, .int z1), (0, .ref r1), (1, .int n)]) hx hb dX3_commonSide_107 hl (k := 1) rfl (by rw [ez13]; rfl) (by decide) rfl (fun ls hl => ?_)
              refine lv_goto (tgt := 43) hx hb dX3_commonSide_110 (by decide) ?_
              have hl9 := hl
              subst ez13
              subst ez1
              exact ihB (i + 1) _ (lv_sub hl9 [0, 2, 3, 4, 5, 6] rfl) ⟨xr_us huB c3, by rw [← hLB, fX3_commonSide_B_s, if_neg c3, if_neg c5, if_neg c8, if_pos c12]⟩
            · refine lv_iconst (v := 0) hx hb dX3_commonSide_105 (by decide) ?_
              subst ez1
              exact W.iret (v := (0 : Int32)) hx hb hr (fun t ht hW => ⟨by rw [← hLB, fX3_commonSide_B_s, if_neg c3, if_neg c5, if_neg c8, if_neg c12], ht⟩) (fun _ h => absurd h List.not_mem_nil) dX3_commonSide_106
def fX3_onAnyEdge_A (held xs ys : Nat → Int32) (n : Int32) (ip : Int32) : Nat → Int32 → Int32
  | 0, _ => 0
  | kA + 1, ed => if n ≤ ed then ((0 : Int32)) else (if (fX2_onWay xs ys (held ed.toNatClampNeg) (held (fX3_following ed n).toNatClampNeg) ip) = (0 : Int32) then (fX3_onAnyEdge_A held xs ys n ip kA (ed + 1)) else ((1 : Int32)))
theorem fX3_onAnyEdge_A_s (held xs ys : Nat → Int32) (n : Int32) (ip : Int32) (kA : Nat) (ed : Int32) : fX3_onAnyEdge_A held xs ys n ip  (kA + 1) ed = (if n ≤ ed then ((0 : Int32)) else (if (fX2_onWay xs ys (held ed.toNatClampNeg) (held (fX3_following ed n).toNatClampNeg) ip) = (0 : Int32) then (fX3_onAnyEdge_A held xs ys n ip kA (ed + 1)) else ((1 : Int32)))) := rfl
def fX3_onAnyEdge (held xs ys : Nat → Int32) (n : Int32) (ip : Int32) : Int32 := fX3_onAnyEdge_A held xs ys n ip (n.toInt.toNat + 1) (0 : Int32)
set_option maxHeartbeats 4000000 in
set_option maxRecDepth 100000 in
theorem ct3_onAnyEdge (l : Launch) (D : va_G) (r1 r2 q1 q2 q3 : Nat) (kI : ClassId) (held xs ys : Nat → Int32) (rm pm : Int32) (n : Int32) (ip : Int32) (on : n.toInt ≤ (24 : Nat)) (oh : ∀ j : Nat, (j : Int) < n.toInt → vp_in (held j) 60) (oip : vp_in ip 60) : Met l yX3_onAnyEdge (Cond.code yX3_onAnyEdge cX3_onAnyEdge 4 (some .boolean) :: BX) ({ frames := 3, cells := 0, slots := 0, locals := 180 }) (xr_P nN D vwCl [(kI, .int)] (wRw r1 r2 q1 q2 q3 kI held xs ys rm pm) [.ref r1, .int n, .int ip]) (xr_Q (.int (fX3_onAnyEdge held xs ys n ip))) 0 0 (fun _ => False) := by
  refine Met.ofW (cc := cX3_onAnyEdge) (maxL := 4) (ret := (some .boolean)) (by decide) rfl ?_
  intro p e s m args below meth c s₁ B hml hv
  obtain ⟨rfl, hP, hK, hN⟩ := hv
  have hx := B.exec
  have hb := B.bytes
  have hr := B.returns
  have hts0 := atoms_spec (ws := Cond.code yX3_onAnyEdge cX3_onAnyEdge 4 (some .boolean) :: BX) B.pre
  have hts : ∀ w ∈ BX, w.before _ s = true := fun w h => hts0 w (List.mem_cons_of_mem _ h)
  have hown : s.vm.findClass RX3 = some m.cls := findClass_of_methodNamed B.named
  have hlocks := B.notSynchronized
  have hl := lv_entry ([.ref r1, .int n, .int ip]) (n := 4) (Nat.le_of_ble_eq_true rfl)
  rw [lg_entry_eq]
  generalize (lg_sl ([.ref r1, .int n, .int ip]) ++ List.replicate (4 - (lg_sl ([.ref r1, .int n, .int ip])).length) Slot.unset).toArray = ls at hl ⊢
  have hl : lv_has ls 4 [(0, .ref r1), (1, .int n), (2, .int ip)] := hl
  refine lv_iconst (v := 0) hx hb dX3_onAnyEdge_0 (by decide) ?_
  refine lv_istore_n (lv' := [(3, .int (0 : Int32)), (0, .ref r1), (1, .int n), (2, .int ip)]) hx hb dX3_onAnyEdge_1 rfl hl (by decide) rfl (fun ls hl => ?_)
  refine xr_l1 (P := fun ls => W p l e _ s m _ below meth c _ _ _ _ _ (F0 m 2 ls [])) (nL := 4) (fun (ed : Int32) => [(3, .int ed), (0, .ref r1), (1, .int n), (2, .int ip)]) (fun kA (ed : Int32) => xr_u n ed kA ∧ fX3_onAnyEdge_A held xs ys n ip kA ed = fX3_onAnyEdge held xs ys n ip) (fun _ h => xr_u0 h.1) ?_ (n.toInt.toNat + 1) (0 : Int32) ls hl ⟨(xr_ub n), (by unfold fX3_onAnyEdge; rfl)⟩
  clear hl
  intro kA ed ls hl hI ihA
  obtain ⟨huA, hLA⟩ := hI
  refine lv_iload_n hx hb dX3_onAnyEdge_2 rfl (lv_at hl 0 rfl) ?_
  refine lv_iload_n hx hb dX3_onAnyEdge_3 rfl (lv_at hl 2 rfl) ?_
  refine lv_icmp_ge (tgt := 42) hx hb dX3_onAnyEdge_4 (by decide) (fun c1 => ?_) (fun c1 => ?_)
  · refine lv_iconst (v := 0) hx hb dX3_onAnyEdge_42 (by decide) ?_
    exact W.zret (v := (0 : Int32)) hx hb hr rfl (fun t ht hW => ⟨by rw [← hLA, fX3_onAnyEdge_A_s, if_pos c1], ht⟩) (fun _ h => absurd h List.not_mem_nil) dX3_onAnyEdge_43
  · refine lv_aload_n hx hb dX3_onAnyEdge_7 rfl (lv_at hl 1 rfl) ?_
    refine va_get (D := D) (ci := 7) (v := .ref q1) (C := RX3) (T := TX3) (N := 3) hx hb hts hinX3 hown hK hP 0 rfl rfl 0 (by decide) (hts _ fk_X3_15) (fun _ h9 => h9) rfl dX3_onAnyEdge_8 ?_
    refine lv_aload_n hx hb dX3_onAnyEdge_11 rfl (lv_at hl 1 rfl) ?_
    refine va_get (D := D) (ci := 7) (v := .ref r2) (C := RX3) (T := TX3) (N := 3) hx hb hts hinX3 hown hK hP 0 rfl rfl 1 (by decide) (hts _ fk_X3_9) (fun _ h9 => h9) rfl dX3_onAnyEdge_12 ?_
    refine lv_iload_n hx hb dX3_onAnyEdge_15 rfl (lv_at hl 0 rfl) ?_
    refine va_iald hx hb hK hP 1 0 rfl rfl (xr_in huA c1 on) dX3_onAnyEdge_16 ?_
    refine lv_aload_n hx hb dX3_onAnyEdge_17 rfl (lv_at hl 1 rfl) ?_
    refine va_get (D := D) (ci := 7) (v := .ref r2) (C := RX3) (T := TX3) (N := 3) hx hb hts hinX3 hown hK hP 0 rfl rfl 1 (by decide) (hts _ fk_X3_9) (fun _ h9 => h9) rfl dX3_onAnyEdge_18 ?_
    refine lv_iload_n hx hb dX3_onAnyEdge_21 rfl (lv_at hl 0 rfl) ?_
    refine lv_iload_n hx hb dX3_onAnyEdge_22 rfl (lv_at hl 2 rfl) ?_
    refine xr_S (rest := [.ref r2, .int (held ed.toNatClampNeg), .ref q1]) (As := [.int ed, .int n]) ⟨hx, hb, hml, hown, hts⟩ (ct3_following l D  ed n ) (va_cwS 2 hts gl_X3_29 rfl rfl rfl (by decide +kernel) ⟨Nat.le_of_ble_eq_true rfl, Nat.le_of_ble_eq_true rfl⟩) nN_mv hN hK hP [] [] rfl rfl rfl hl.1 rfl (Nat.le_of_ble_eq_true rfl) dX3_onAnyEdge_23 ⟨Nat.le_of_ble_eq_true rfl, Nat.le_of_ble_eq_true rfl⟩ ?_
    refine va_iald hx hb hK hP 1 0 rfl rfl (o_folp huA c1 on) dX3_onAnyEdge_26 ?_
    refine lv_iload_n hx hb dX3_onAnyEdge_27 rfl (lv_at hl 3 rfl) ?_
    refine xr_V (q := (RX2, TX2, 3)) (ci := 6) (q0 := 2) (rest := []) (As := [.int (held ed.toNatClampNeg), .int (held (fX3_following ed n).toNatClampNeg), .int ip]) ⟨hx, hb, hml, hown, hts⟩ (ct2_onWay l D q1 q2 q3 kI xs ys pm (held ed.toNatClampNeg) (held (fX3_following ed n).toNatClampNeg) ip (oh _ (xr_cl huA c1)) (oh _ (o_folc huA c1)) oip) (cwV 3 hts gl_X3_33 rfl rfl rfl (by decide +kernel) ⟨Nat.le_of_ble_eq_true rfl, Nat.le_of_ble_eq_true rfl⟩) nN_mv hN hK hP [2, 3, 4] [0] rfl rfl rfl rfl rfl hl.1 rfl (Nat.le_of_ble_eq_true rfl) dX3_onAnyEdge_28 ⟨Nat.le_of_ble_eq_true rfl, Nat.le_of_ble_eq_true rfl⟩ ?_
    refine lv_if_eq (tgt := 36) hx hb dX3_onAnyEdge_31 (by decide) (fun c2 => ?_) (fun c2 => ?_)
    · obtain ⟨z3, ez3⟩ : ∃ y : Int32, y = ed + 1 := ⟨_, rfl⟩
      refine lv_iinc (v := z3) (lv' := [(3, .int z3), (0, .ref r1), (1, .int n), (2, .int ip)]) hx hb dX3_onAnyEdge_36 hl (k := 0) rfl (by rw [ez3]; rfl) (by decide) rfl (fun ls hl => ?_)
      refine lv_goto (tgt := 2) hx hb dX3_onAnyEdge_39 (by decide) ?_
      have hl9 := hl
      subst ez3
      exact ihA (ed + 1) _ (lv_sub hl9 [0, 1, 2, 3] rfl) ⟨xr_us huA c1, by rw [← hLA, fX3_onAnyEdge_A_s, if_neg c1, if_pos c2]⟩
    · refine lv_iconst (v := 1) hx hb dX3_onAnyEdge_34 (by decide) ?_
      exact W.zret (v := (1 : Int32)) hx hb hr rfl (fun t ht hW => ⟨by rw [← hLA, fX3_onAnyEdge_A_s, if_neg c1, if_neg c2], ht⟩) (fun _ h => absurd h List.not_mem_nil) dX3_onAnyEdge_35
def fX3_rises_A (held xs ys : Nat → Int32) (n : Int32) (ip : Int32) : Nat → Int32 → Int32 → Int32
  | 0, _, _ => 0
  | kA + 1, fo, ed => if n ≤ ed then (fo) else (if (fX3_climbsPast xs ys (held ed.toNatClampNeg) (held (fX3_following ed n).toNatClampNeg) ip) = (0 : Int32) then (fX3_rises_A held xs ys n ip kA fo (ed + 1)) else (fX3_rises_A held xs ys n ip kA (fo + 1) (ed + 1)))
theorem fX3_rises_A_s (held xs ys : Nat → Int32) (n : Int32) (ip : Int32) (kA : Nat) (fo : Int32) (ed : Int32) : fX3_rises_A held xs ys n ip  (kA + 1) fo ed = (if n ≤ ed then (fo) else (if (fX3_climbsPast xs ys (held ed.toNatClampNeg) (held (fX3_following ed n).toNatClampNeg) ip) = (0 : Int32) then (fX3_rises_A held xs ys n ip kA fo (ed + 1)) else (fX3_rises_A held xs ys n ip kA (fo + 1) (ed + 1)))) := rfl
def fX3_rises (held xs ys : Nat → Int32) (n : Int32) (ip : Int32) : Int32 := fX3_rises_A held xs ys n ip (n.toInt.toNat + 1) (0 : Int32) (0 : Int32)
set_option maxHeartbeats 4000000 in
set_option maxRecDepth 100000 in
theorem ct3_rises (l : Launch) (D : va_G) (r1 r2 q1 q2 q3 : Nat) (kI : ClassId) (held xs ys : Nat → Int32) (rm pm : Int32) (n : Int32) (ip : Int32) (on : n.toInt ≤ (24 : Nat)) (oh : ∀ j : Nat, (j : Int) < n.toInt → vp_in (held j) 60) (oip : vp_in ip 60) : Met l yX3_rises (Cond.code yX3_rises cX3_rises 5 (some .int) :: BX) ({ frames := 3, cells := 0, slots := 0, locals := 180 }) (xr_P nN D vwCl [(kI, .int)] (wRw r1 r2 q1 q2 q3 kI held xs ys rm pm) [.ref r1, .int n, .int ip]) (xr_Q (.int (fX3_rises held xs ys n ip))) 0 0 (fun _ => False) := by
  refine Met.ofW (cc := cX3_rises) (maxL := 5) (ret := (some .int)) (by decide) rfl ?_
  intro p e s m args below meth c s₁ B hml hv
  obtain ⟨rfl, hP, hK, hN⟩ := hv
  have hx := B.exec
  have hb := B.bytes
  have hr := B.returns
  have hts0 := atoms_spec (ws := Cond.code yX3_rises cX3_rises 5 (some .int) :: BX) B.pre
  have hts : ∀ w ∈ BX, w.before _ s = true := fun w h => hts0 w (List.mem_cons_of_mem _ h)
  have hown : s.vm.findClass RX3 = some m.cls := findClass_of_methodNamed B.named
  have hlocks := B.notSynchronized
  have hl := lv_entry ([.ref r1, .int n, .int ip]) (n := 5) (Nat.le_of_ble_eq_true rfl)
  rw [lg_entry_eq]
  generalize (lg_sl ([.ref r1, .int n, .int ip]) ++ List.replicate (5 - (lg_sl ([.ref r1, .int n, .int ip])).length) Slot.unset).toArray = ls at hl ⊢
  have hl : lv_has ls 5 [(0, .ref r1), (1, .int n), (2, .int ip)] := hl
  refine lv_iconst (v := 0) hx hb dX3_rises_0 (by decide) ?_
  refine lv_istore_n (lv' := [(3, .int (0 : Int32)), (0, .ref r1), (1, .int n), (2, .int ip)]) hx hb dX3_rises_1 rfl hl (by decide) rfl (fun ls hl => ?_)
  refine lv_iconst (v := 0) hx hb dX3_rises_2 (by decide) ?_
  refine lv_istore (lv' := [(4, .int (0 : Int32)), (3, .int (0 : Int32)), (0, .ref r1), (1, .int n), (2, .int ip)]) hx hb dX3_rises_3 hl (by decide) rfl (fun ls hl => ?_)
  refine xr_l2 (P := fun ls => W p l e _ s m _ below meth c _ _ _ _ _ (F0 m 5 ls [])) (nL := 5) (fun (fo : Int32) (ed : Int32) => [(4, .int ed), (3, .int fo), (0, .ref r1), (1, .int n), (2, .int ip)]) (fun kA (fo : Int32) (ed : Int32) => xr_u n ed kA ∧ fX3_rises_A held xs ys n ip kA fo ed = fX3_rises held xs ys n ip) (fun _ _ h => xr_u0 h.1) ?_ (n.toInt.toNat + 1) (0 : Int32) (0 : Int32) ls hl ⟨(xr_ub n), (by unfold fX3_rises; rfl)⟩
  clear hl
  intro kA fo ed ls hl hI ihA
  obtain ⟨huA, hLA⟩ := hI
  refine lv_iload hx hb dX3_rises_5 (lv_at hl 0 rfl) ?_
  refine lv_iload_n hx hb dX3_rises_7 rfl (lv_at hl 3 rfl) ?_
  refine lv_icmp_ge (tgt := 46) hx hb dX3_rises_8 (by decide) (fun c1 => ?_) (fun c1 => ?_)
  · refine lv_iload_n hx hb dX3_rises_46 rfl (lv_at hl 1 rfl) ?_
    exact W.iret (v := fo) hx hb hr (fun t ht hW => ⟨by rw [← hLA, fX3_rises_A_s, if_pos c1], ht⟩) (fun _ h => absurd h List.not_mem_nil) dX3_rises_47
  · refine lv_aload_n hx hb dX3_rises_11 rfl (lv_at hl 2 rfl) ?_
    refine lv_aload_n hx hb dX3_rises_12 rfl (lv_at hl 2 rfl) ?_
    refine va_get (D := D) (ci := 7) (v := .ref r2) (C := RX3) (T := TX3) (N := 3) hx hb hts hinX3 hown hK hP 0 rfl rfl 1 (by decide) (hts _ fk_X3_9) (fun _ h9 => h9) rfl dX3_rises_13 ?_
    refine lv_iload hx hb dX3_rises_16 (lv_at hl 0 rfl) ?_
    refine va_iald hx hb hK hP 1 0 rfl rfl (xr_in huA c1 on) dX3_rises_18 ?_
    refine lv_aload_n hx hb dX3_rises_19 rfl (lv_at hl 2 rfl) ?_
    refine va_get (D := D) (ci := 7) (v := .ref r2) (C := RX3) (T := TX3) (N := 3) hx hb hts hinX3 hown hK hP 0 rfl rfl 1 (by decide) (hts _ fk_X3_9) (fun _ h9 => h9) rfl dX3_rises_20 ?_
    refine lv_iload hx hb dX3_rises_23 (lv_at hl 0 rfl) ?_
    refine lv_iload_n hx hb dX3_rises_25 rfl (lv_at hl 3 rfl) ?_
    refine xr_S (rest := [.ref r2, .int (held ed.toNatClampNeg), .ref r1]) (As := [.int ed, .int n]) ⟨hx, hb, hml, hown, hts⟩ (ct3_following l D  ed n ) (va_cwS 2 hts gl_X3_29 rfl rfl rfl (by decide +kernel) ⟨Nat.le_of_ble_eq_true rfl, Nat.le_of_ble_eq_true rfl⟩) nN_mv hN hK hP [] [] rfl rfl rfl hl.1 rfl (Nat.le_of_ble_eq_true rfl) dX3_rises_26 ⟨Nat.le_of_ble_eq_true rfl, Nat.le_of_ble_eq_true rfl⟩ ?_
    refine va_iald hx hb hK hP 1 0 rfl rfl (o_folp huA c1 on) dX3_rises_29 ?_
    refine lv_iload_n hx hb dX3_rises_30 rfl (lv_at hl 4 rfl) ?_
    refine xr_V (q := (RX3, TX3, 3)) (ci := 7) (q0 := 0) (rest := []) (As := [.int (held ed.toNatClampNeg), .int (held (fX3_following ed n).toNatClampNeg), .int ip]) ⟨hx, hb, hml, hown, hts⟩ (ct3_climbsPast l D r1 r2 q1 q2 q3 kI held xs ys rm pm (held ed.toNatClampNeg) (held (fX3_following ed n).toNatClampNeg) ip (oh _ (xr_cl huA c1)) (oh _ (o_folc huA c1)) oip) (cwV 3 hts gl_X3_37 rfl rfl rfl (by decide +kernel) ⟨Nat.le_of_ble_eq_true rfl, Nat.le_of_ble_eq_true rfl⟩) nN_mv hN hK hP [0, 1, 2, 3, 4] [0] rfl rfl rfl rfl rfl hl.1 rfl (Nat.le_of_ble_eq_true rfl) dX3_rises_31 ⟨Nat.le_of_ble_eq_true rfl, Nat.le_of_ble_eq_true rfl⟩ ?_
    refine lv_if_eq (tgt := 40) hx hb dX3_rises_34 (by decide) (fun c2 => ?_) (fun c2 => ?_)
    · obtain ⟨z3, ez3⟩ : ∃ y : Int32, y = ed + 1 := ⟨_, rfl⟩
      refine lv_iinc (v := z3) (lv' := [(4, .int z3), (3, .int fo), (0, .ref r1), (1, .int n), (2, .int ip)]) hx hb dX3_rises_40 hl (k := 0) rfl (by rw [ez3]; rfl) (by decide) rfl (fun ls hl => ?_)
      refine lv_goto (tgt := 5) hx hb dX3_rises_43 (by decide) ?_
      have hl9 := hl
      subst ez3
      exact ihA fo (ed + 1) _ (lv_sub hl9 [0, 1, 2, 3, 4] rfl) ⟨xr_us huA c1, by rw [← hLA, fX3_rises_A_s, if_neg c1, if_pos c2]⟩
    · obtain ⟨z4, ez4⟩ : ∃ y : Int32, y = fo + 1 := ⟨_, rfl⟩
      refine lv_iinc (v := z4) (lv' := [(3, .int z4), (4, .int ed), (0, .ref r1), (1, .int n), (2, .int ip)]) hx hb dX3_rises_37 hl (k := 1) rfl (by rw [ez4]; rfl) (by decide) rfl (fun ls hl => ?_)
      obtain ⟨z5, ez5⟩ : ∃ y : Int32, y = ed + 1 := ⟨_, rfl⟩
      refine lv_iinc (v := z5) (lv' := [(4, .int z5), (3, .int z4), (0, .ref r1), (1, .int n), (2, .int ip)]) hx hb dX3_rises_40 hl (k := 1) rfl (by rw [ez5]; rfl) (by decide) rfl (fun ls hl => ?_)
      refine lv_goto (tgt := 5) hx hb dX3_rises_43 (by decide) ?_
      have hl9 := hl
      subst ez5
      subst ez4
      exact ihA (fo + 1) (ed + 1) _ (lv_sub hl9 [0, 1, 2, 3, 4] rfl) ⟨xr_us huA c1, by rw [← hLA, fX3_rises_A_s, if_neg c1, if_neg c2]⟩
def fX3_falls_A (held xs ys : Nat → Int32) (n : Int32) (ip : Int32) : Nat → Int32 → Int32 → Int32
  | 0, _, _ => 0
  | kA + 1, fo, ed => if n ≤ ed then (fo) else (if (fX3_climbsPast xs ys (held (fX3_following ed n).toNatClampNeg) (held ed.toNatClampNeg) ip) = (0 : Int32) then (fX3_falls_A held xs ys n ip kA fo (ed + 1)) else (fX3_falls_A held xs ys n ip kA (fo + 1) (ed + 1)))
theorem fX3_falls_A_s (held xs ys : Nat → Int32) (n : Int32) (ip : Int32) (kA : Nat) (fo : Int32) (ed : Int32) : fX3_falls_A held xs ys n ip  (kA + 1) fo ed = (if n ≤ ed then (fo) else (if (fX3_climbsPast xs ys (held (fX3_following ed n).toNatClampNeg) (held ed.toNatClampNeg) ip) = (0 : Int32) then (fX3_falls_A held xs ys n ip kA fo (ed + 1)) else (fX3_falls_A held xs ys n ip kA (fo + 1) (ed + 1)))) := rfl
def fX3_falls (held xs ys : Nat → Int32) (n : Int32) (ip : Int32) : Int32 := fX3_falls_A held xs ys n ip (n.toInt.toNat + 1) (0 : Int32) (0 : Int32)
set_option maxHeartbeats 4000000 in
set_option maxRecDepth 100000 in
theorem ct3_falls (l : Launch) (D : va_G) (r1 r2 q1 q2 q3 : Nat) (kI : ClassId) (held xs ys : Nat → Int32) (rm pm : Int32) (n : Int32) (ip : Int32) (on : n.toInt ≤ (24 : Nat)) (oh : ∀ j : Nat, (j : Int) < n.toInt → vp_in (held j) 60) (oip : vp_in ip 60) : Met l yX3_falls (Cond.code yX3_falls cX3_falls 5 (some .int) :: BX) ({ frames := 3, cells := 0, slots := 0, locals := 180 }) (xr_P nN D vwCl [(kI, .int)] (wRw r1 r2 q1 q2 q3 kI held xs ys rm pm) [.ref r1, .int n, .int ip]) (xr_Q (.int (fX3_falls held xs ys n ip))) 0 0 (fun _ => False) := by
  refine Met.ofW (cc := cX3_falls) (maxL := 5) (ret := (some .int)) (by decide) rfl ?_
  intro p e s m args below meth c s₁ B hml hv
  obtain ⟨rfl, hP, hK, hN⟩ := hv
  have hx := B.exec
  have hb := B.bytes
  have hr := B.returns
  have hts0 := atoms_spec (ws := Cond.code yX3_falls cX3_falls 5 (some .int) :: BX) B.pre
  have hts : ∀ w ∈ BX, w.before _ s = true := fun w h => hts0 w (List.mem_cons_of_mem _ h)
  have hown : s.vm.findClass RX3 = some m.cls := findClass_of_methodNamed B.named
  have hlocks := B.notSynchronized
  have hl := lv_entry ([.ref r1, .int n, .int ip]) (n := 5) (Nat.le_of_ble_eq_true rfl)
  rw [lg_entry_eq]
  generalize (lg_sl ([.ref r1, .int n, .int ip]) ++ List.replicate (5 - (lg_sl ([.ref r1, .int n, .int ip])).length) Slot.unset).toArray = ls at hl ⊢
  have hl : lv_has ls 5 [(0, .ref r1), (1, .int n), (2, .int ip)] := hl
  refine lv_iconst (v := 0) hx hb dX3_falls_0 (by decide) ?_
  refine lv_istore_n (lv' := [(3, .int (0 : Int32)), (0, .ref r1), (1, .int n), (2, .int ip)]) hx hb dX3_falls_1 rfl hl (by decide) rfl (fun ls hl => ?_)
  refine lv_iconst (v := 0) hx hb dX3_falls_2 (by decide) ?_
  refine lv_istore (lv' := [(4, .int (0 : Int32)), (3, .int (0 : Int32)), (0, .ref r1), (1, .int n), (2, .int ip)]) hx hb dX3_falls_3 hl (by decide) rfl (fun ls hl => ?_)
  refine xr_l2 (P := fun ls => W p l e _ s m _ below meth c _ _ _ _ _ (F0 m 5 ls [])) (nL := 5) (fun (fo : Int32) (ed : Int32) => [(4, .int ed), (3, .int fo), (0, .ref r1), (1, .int n), (2, .int ip)]) (fun kA (fo : Int32) (ed : Int32) => xr_u n ed kA ∧ fX3_falls_A held xs ys n ip kA fo ed = fX3_falls held xs ys n ip) (fun _ _ h => xr_u0 h.1) ?_ (n.toInt.toNat + 1) (0 : Int32) (0 : Int32) ls hl ⟨(xr_ub n), (by unfold fX3_falls; rfl)⟩
  clear hl
  intro kA fo ed ls hl hI ihA
  obtain ⟨huA, hLA⟩ := hI
  refine lv_iload hx hb dX3_falls_5 (lv_at hl 0 rfl) ?_
  refine lv_iload_n hx hb dX3_falls_7 rfl (lv_at hl 3 rfl) ?_
  refine lv_icmp_ge (tgt := 46) hx hb dX3_falls_8 (by decide) (fun c1 => ?_) (fun c1 => ?_)
  · refine lv_iload_n hx hb dX3_falls_46 rfl (lv_at hl 1 rfl) ?_
    exact W.iret (v := fo) hx hb hr (fun t ht hW => ⟨by rw [← hLA, fX3_falls_A_s, if_pos c1], ht⟩) (fun _ h => absurd h List.not_mem_nil) dX3_falls_47
  · refine lv_aload_n hx hb dX3_falls_11 rfl (lv_at hl 2 rfl) ?_
    refine lv_aload_n hx hb dX3_falls_12 rfl (lv_at hl 2 rfl) ?_
    refine va_get (D := D) (ci := 7) (v := .ref r2) (C := RX3) (T := TX3) (N := 3) hx hb hts hinX3 hown hK hP 0 rfl rfl 1 (by decide) (hts _ fk_X3_9) (fun _ h9 => h9) rfl dX3_falls_13 ?_
    refine lv_iload hx hb dX3_falls_16 (lv_at hl 0 rfl) ?_
    refine lv_iload_n hx hb dX3_falls_18 rfl (lv_at hl 3 rfl) ?_
    refine xr_S (rest := [.ref r2, .ref r1]) (As := [.int ed, .int n]) ⟨hx, hb, hml, hown, hts⟩ (ct3_following l D  ed n ) (va_cwS 2 hts gl_X3_29 rfl rfl rfl (by decide +kernel) ⟨Nat.le_of_ble_eq_true rfl, Nat.le_of_ble_eq_true rfl⟩) nN_mv hN hK hP [] [] rfl rfl rfl hl.1 rfl (Nat.le_of_ble_eq_true rfl) dX3_falls_19 ⟨Nat.le_of_ble_eq_true rfl, Nat.le_of_ble_eq_true rfl⟩ ?_
    refine va_iald hx hb hK hP 1 0 rfl rfl (o_folp huA c1 on) dX3_falls_22 ?_
    refine lv_aload_n hx hb dX3_falls_23 rfl (lv_at hl 2 rfl) ?_
    refine va_get (D := D) (ci := 7) (v := .ref r2) (C := RX3) (T := TX3) (N := 3) hx hb hts hinX3 hown hK hP 0 rfl rfl 1 (by decide) (hts _ fk_X3_9) (fun _ h9 => h9) rfl dX3_falls_24 ?_
    refine lv_iload hx hb dX3_falls_27 (lv_at hl 0 rfl) ?_
    refine va_iald hx hb hK hP 1 0 rfl rfl (xr_in huA c1 on) dX3_falls_29 ?_
    refine lv_iload_n hx hb dX3_falls_30 rfl (lv_at hl 4 rfl) ?_
    refine xr_V (q := (RX3, TX3, 3)) (ci := 7) (q0 := 0) (rest := []) (As := [.int (held (fX3_following ed n).toNatClampNeg), .int (held ed.toNatClampNeg), .int ip]) ⟨hx, hb, hml, hown, hts⟩ (ct3_climbsPast l D r1 r2 q1 q2 q3 kI held xs ys rm pm (held (fX3_following ed n).toNatClampNeg) (held ed.toNatClampNeg) ip (oh _ (o_folc huA c1)) (oh _ (xr_cl huA c1)) oip) (cwV 3 hts gl_X3_37 rfl rfl rfl (by decide +kernel) ⟨Nat.le_of_ble_eq_true rfl, Nat.le_of_ble_eq_true rfl⟩) nN_mv hN hK hP [0, 1, 2, 3, 4] [0] rfl rfl rfl rfl rfl hl.1 rfl (Nat.le_of_ble_eq_true rfl) dX3_falls_31 ⟨Nat.le_of_ble_eq_true rfl, Nat.le_of_ble_eq_true rfl⟩ ?_
    refine lv_if_eq (tgt := 40) hx hb dX3_falls_34 (by decide) (fun c2 => ?_) (fun c2 => ?_)
    · obtain ⟨z3, ez3⟩ : ∃ y : Int32, y = ed + 1 := ⟨_, rfl⟩
      refine lv_iinc (v := z3) (lv' := [(4, .int z3), (3, .int fo), (0, .ref r1), (1, .int n), (2, .int ip)]) hx hb dX3_falls_40 hl (k := 0) rfl (by rw [ez3]; rfl) (by decide) rfl (fun ls hl => ?_)
      refine lv_goto (tgt := 5) hx hb dX3_falls_43 (by decide) ?_
      have hl9 := hl
      subst ez3
      exact ihA fo (ed + 1) _ (lv_sub hl9 [0, 1, 2, 3, 4] rfl) ⟨xr_us huA c1, by rw [← hLA, fX3_falls_A_s, if_neg c1, if_pos c2]⟩
    · obtain ⟨z4, ez4⟩ : ∃ y : Int32, y = fo + 1 := ⟨_, rfl⟩
      refine lv_iinc (v := z4) (lv' := [(3, .int z4), (4, .int ed), (0, .ref r1), (1, .int n), (2, .int ip)]) hx hb dX3_falls_37 hl (k := 1) rfl (by rw [ez4]; rfl) (by decide) rfl (fun ls hl => ?_)
      obtain ⟨z5, ez5⟩ : ∃ y : Int32, y = ed + 1 := ⟨_, rfl⟩
      refine lv_iinc (v := z5) (lv' := [(4, .int z5), (3, .int z4), (0, .ref r1), (1, .int n), (2, .int ip)]) hx hb dX3_falls_40 hl (k := 1) rfl (by rw [ez5]; rfl) (by decide) rfl (fun ls hl => ?_)
      refine lv_goto (tgt := 5) hx hb dX3_falls_43 (by decide) ?_
      have hl9 := hl
      subst ez5
      subst ez4
      exact ihA (fo + 1) (ed + 1) _ (lv_sub hl9 [0, 1, 2, 3, 4] rfl) ⟨xr_us huA c1, by rw [← hLA, fX3_falls_A_s, if_neg c1, if_neg c2]⟩
def fX3_nearestBits_A (held xs ys : Nat → Int32) (ia : Int32) (n : Int32) : Nat → Int64 → Int32 → Int32 → Int32
  | 0, _, _, _ => 0
  | kA + 1, le, bi, i => if n ≤ i then (bi) else (if (0 : Int32) ≤ (lg_cmp (fX2_distance xs ys ia (held i.toNatClampNeg)) le) then (if (lg_cmp (fX2_distance xs ys ia (held i.toNatClampNeg)) le) = (0 : Int32) then (fX3_nearestBits_A held xs ys ia n kA le (bi ||| ((1 : Int32) <<< (i &&& 31))) (i + 1)) else (fX3_nearestBits_A held xs ys ia n kA le bi (i + 1))) else (if (lg_cmp (fX2_distance xs ys ia (held i.toNatClampNeg)) (fX2_distance xs ys ia (held i.toNatClampNeg))) = (0 : Int32) then (fX3_nearestBits_A held xs ys ia n kA (fX2_distance xs ys ia (held i.toNatClampNeg)) ((0 : Int32) ||| ((1 : Int32) <<< (i &&& 31))) (i + 1)) else (fX3_nearestBits_A held xs ys ia n kA (fX2_distance xs ys ia (held i.toNatClampNeg)) (0 : Int32) (i + 1))))
theorem fX3_nearestBits_A_s (held xs ys : Nat → Int32) (ia : Int32) (n : Int32) (kA : Nat) (le : Int64) (bi : Int32) (i : Int32) : fX3_nearestBits_A held xs ys ia n  (kA + 1) le bi i = (if n ≤ i then (bi) else (if (0 : Int32) ≤ (lg_cmp (fX2_distance xs ys ia (held i.toNatClampNeg)) le) then (if (lg_cmp (fX2_distance xs ys ia (held i.toNatClampNeg)) le) = (0 : Int32) then (fX3_nearestBits_A held xs ys ia n kA le (bi ||| ((1 : Int32) <<< (i &&& 31))) (i + 1)) else (fX3_nearestBits_A held xs ys ia n kA le bi (i + 1))) else (if (lg_cmp (fX2_distance xs ys ia (held i.toNatClampNeg)) (fX2_distance xs ys ia (held i.toNatClampNeg))) = (0 : Int32) then (fX3_nearestBits_A held xs ys ia n kA (fX2_distance xs ys ia (held i.toNatClampNeg)) ((0 : Int32) ||| ((1 : Int32) <<< (i &&& 31))) (i + 1)) else (fX3_nearestBits_A held xs ys ia n kA (fX2_distance xs ys ia (held i.toNatClampNeg)) (0 : Int32) (i + 1))))) := rfl
def fX3_nearestBits (held xs ys : Nat → Int32) (ia : Int32) (n : Int32) : Int32 := fX3_nearestBits_A held xs ys ia n (n.toInt.toNat + 1) (fX2_distance xs ys ia (held (0 : Int32).toNatClampNeg)) (0 : Int32) (0 : Int32)
set_option maxHeartbeats 4000000 in
set_option maxRecDepth 100000 in
theorem ct3_nearestBits (l : Launch) (D : va_G) (r1 r2 q1 q2 q3 : Nat) (kI : ClassId) (held xs ys : Nat → Int32) (rm pm : Int32) (ia : Int32) (n : Int32) (on : n.toInt ≤ (24 : Nat)) (o1 : 1 ≤ n.toInt) (oh : ∀ j : Nat, (j : Int) < n.toInt → vp_in (held j) 60) (oia : vp_in ia 60) : Met l yX3_nearestBits (Cond.code yX3_nearestBits cX3_nearestBits 9 (some .int) :: BX) ({ frames := 2, cells := 0, slots := 0, locals := 120 }) (xr_P nN D vwCl [(kI, .int)] (wRw r1 r2 q1 q2 q3 kI held xs ys rm pm) [.ref r1, .int ia, .int n]) (xr_Q (.int (fX3_nearestBits held xs ys ia n))) 0 0 (fun _ => False) := by
  refine Met.ofW (cc := cX3_nearestBits) (maxL := 9) (ret := (some .int)) (by decide) rfl ?_
  intro p e s m args below meth c s₁ B hml hv
  obtain ⟨rfl, hP, hK, hN⟩ := hv
  have hx := B.exec
  have hb := B.bytes
  have hr := B.returns
  have hts0 := atoms_spec (ws := Cond.code yX3_nearestBits cX3_nearestBits 9 (some .int) :: BX) B.pre
  have hts : ∀ w ∈ BX, w.before _ s = true := fun w h => hts0 w (List.mem_cons_of_mem _ h)
  have hown : s.vm.findClass RX3 = some m.cls := findClass_of_methodNamed B.named
  have hlocks := B.notSynchronized
  have hl := lv_entry ([.ref r1, .int ia, .int n]) (n := 9) (Nat.le_of_ble_eq_true rfl)
  rw [lg_entry_eq]
  generalize (lg_sl ([.ref r1, .int ia, .int n]) ++ List.replicate (9 - (lg_sl ([.ref r1, .int ia, .int n])).length) Slot.unset).toArray = ls at hl ⊢
  have hl : lv_has ls 9 [(0, .ref r1), (1, .int ia), (2, .int n)] := hl
  refine lv_aload_n hx hb dX3_nearestBits_0 rfl (lv_at hl 0 rfl) ?_
  refine va_get (D := D) (ci := 7) (v := .ref q1) (C := RX3) (T := TX3) (N := 3) hx hb hts hinX3 hown hK hP 0 rfl rfl 0 (by decide) (hts _ fk_X3_15) (fun _ h9 => h9) rfl dX3_nearestBits_1 ?_
  refine lv_iload_n hx hb dX3_nearestBits_4 rfl (lv_at hl 1 rfl) ?_
  refine lv_aload_n hx hb dX3_nearestBits_5 rfl (lv_at hl 0 rfl) ?_
  refine va_get (D := D) (ci := 7) (v := .ref r2) (C := RX3) (T := TX3) (N := 3) hx hb hts hinX3 hown hK hP 0 rfl rfl 1 (by decide) (hts _ fk_X3_9) (fun _ h9 => h9) rfl dX3_nearestBits_6 ?_
  refine lv_iconst (v := 0) hx hb dX3_nearestBits_9 (by decide) ?_
  refine va_iald hx hb hK hP 1 0 rfl rfl (by rw [vp_in_iff]; decide) dX3_nearestBits_10 ?_
  refine xr_V (q := (RX2, TX2, 3)) (ci := 6) (q0 := 2) (rest := []) (As := [.int ia, .int (held (0 : Int32).toNatClampNeg)]) ⟨hx, hb, hml, hown, hts⟩ (ct2_distance l D q1 q2 q3 kI xs ys pm ia (held (0 : Int32).toNatClampNeg) oia (oh _ (by show ((0 : Nat) : Int) < n.toInt; omega))) (cwV 2 hts gl_X3_43 rfl rfl rfl (by decide +kernel) ⟨Nat.le_of_ble_eq_true rfl, Nat.le_of_ble_eq_true rfl⟩) nN_mv hN hK hP [2, 3, 4] [0] rfl rfl rfl rfl rfl hl.1 rfl (Nat.le_of_ble_eq_true rfl) dX3_nearestBits_11 ⟨Nat.le_of_ble_eq_true rfl, Nat.le_of_ble_eq_true rfl⟩ ?_
  refine lv_topl (fun z1 ez1 => ?_)
  refine lv_lstore_n (lv' := [(3, .long z1), (0, .ref r1), (1, .int ia), (2, .int n)]) hx hb dX3_nearestBits_14 rfl hl (by decide) rfl (fun ls hl => ?_)
  refine lv_iconst (v := 0) hx hb dX3_nearestBits_15 (by decide) ?_
  refine lv_istore (lv' := [(5, .int (0 : Int32)), (3, .long z1), (0, .ref r1), (1, .int ia), (2, .int n)]) hx hb dX3_nearestBits_16 hl (by decide) rfl (fun ls hl => ?_)
  refine lv_iconst (v := 0) hx hb dX3_nearestBits_18 (by decide) ?_
  refine lv_istore (lv' := [(6, .int (0 : Int32)), (5, .int (0 : Int32)), (3, .long z1), (0, .ref r1), (1, .int ia), (2, .int n)]) hx hb dX3_nearestBits_19 hl (by decide) rfl (fun ls hl => ?_)
  refine xr_l3 (P := fun ls => W p l e _ s m _ below meth c _ _ _ _ _ (F0 m 21 ls [])) (nL := 9) (fun (le : Int64) (bi : Int32) (i : Int32) => [(6, .int i), (5, .int bi), (3, .long le), (0, .ref r1), (1, .int ia), (2, .int n)]) (fun kA (le : Int64) (bi : Int32) (i : Int32) => xr_u n i kA ∧ fX3_nearestBits_A held xs ys ia n kA le bi i = fX3_nearestBits held xs ys ia n) (fun _ _ _ h => xr_u0 h.1) ?_ (n.toInt.toNat + 1) z1 (0 : Int32) (0 : Int32) ls hl ⟨(xr_ub n), (by subst ez1; unfold fX3_nearestBits; rfl)⟩
  clear hl
  intro kA le bi i ls hl hI ihA
  obtain ⟨huA, hLA⟩ := hI
  refine lv_iload hx hb dX3_nearestBits_21 (lv_at hl 0 rfl) ?_
  refine lv_iload_n hx hb dX3_nearestBits_23 rfl (lv_at hl 5 rfl) ?_
  refine lv_icmp_ge (tgt := 79) hx hb dX3_nearestBits_24 (by decide) (fun c2 => ?_) (fun c2 => ?_)
  · refine lv_iload hx hb dX3_nearestBits_79 (lv_at hl 1 rfl) ?_
    subst ez1
    exact W.iret (v := bi) hx hb hr (fun t ht hW => ⟨by rw [← hLA, fX3_nearestBits_A_s, if_pos c2], ht⟩) (fun _ h => absurd h List.not_mem_nil) dX3_nearestBits_81
  · refine lv_aload_n hx hb dX3_nearestBits_27 rfl (lv_at hl 3 rfl) ?_
    refine va_get (D := D) (ci := 7) (v := .ref q1) (C := RX3) (T := TX3) (N := 3) hx hb hts hinX3 hown hK hP 0 rfl rfl 0 (by decide) (hts _ fk_X3_15) (fun _ h9 => h9) rfl dX3_nearestBits_28 ?_
    refine lv_iload_n hx hb dX3_nearestBits_31 rfl (lv_at hl 4 rfl) ?_
    refine lv_aload_n hx hb dX3_nearestBits_32 rfl (lv_at hl 3 rfl) ?_
    refine va_get (D := D) (ci := 7) (v := .ref r2) (C := RX3) (T := TX3) (N := 3) hx hb hts hinX3 hown hK hP 0 rfl rfl 1 (by decide) (hts _ fk_X3_9) (fun _ h9 => h9) rfl dX3_nearestBits_33 ?_
    refine lv_iload hx hb dX3_nearestBits_36 (lv_at hl 0 rfl) ?_
    refine va_iald hx hb hK hP 1 0 rfl rfl (xr_in huA c2 on) dX3_nearestBits_38 ?_
    refine xr_V (q := (RX2, TX2, 3)) (ci := 6) (q0 := 2) (rest := []) (As := [.int ia, .int (held i.toNatClampNeg)]) ⟨hx, hb, hml, hown, hts⟩ (ct2_distance l D q1 q2 q3 kI xs ys pm ia (held i.toNatClampNeg) oia (oh _ (xr_cl huA c2))) (cwV 2 hts gl_X3_43 rfl rfl rfl (by decide +kernel) ⟨Nat.le_of_ble_eq_true rfl, Nat.le_of_ble_eq_true rfl⟩) nN_mv hN hK hP [2, 3, 4] [0] rfl rfl rfl rfl rfl hl.1 rfl (Nat.le_of_ble_eq_true rfl) dX3_nearestBits_39 ⟨Nat.le_of_ble_eq_true rfl, Nat.le_of_ble_eq_true rfl⟩ ?_
    refine lv_topl (fun z3 ez3 => ?_)
    refine lv_lstore (lv' := [(7, .long z3), (6, .int i), (5, .int bi), (3, .long le), (0, .ref r1), (1, .int ia), (2, .int n)]) hx hb dX3_nearestBits_42 hl (by decide) rfl (fun ls hl => ?_)
    refine lv_lload hx hb dX3_nearestBits_44 (lv_at hl 0 rfl) ?_
    refine lv_lload_n hx hb dX3_nearestBits_46 rfl (lv_at hl 3 rfl) ?_
    refine W.lcmp hx hb dX3_nearestBits_47 ?_
    refine lv_if_ge (tgt := 57) hx hb dX3_nearestBits_48 (by decide) (fun c4 => ?_) (fun c4 => ?_)
    · refine lv_lload hx hb dX3_nearestBits_57 (lv_at hl 0 rfl) ?_
      refine lv_lload_n hx hb dX3_nearestBits_59 rfl (lv_at hl 3 rfl) ?_
      refine W.lcmp hx hb dX3_nearestBits_60 ?_
      refine lv_if_ne (tgt := 73) hx hb dX3_nearestBits_61 (by decide) (fun c5 => ?_) (fun c5 => ?_)
      · obtain ⟨z6, ez6⟩ : ∃ y : Int32, y = i + 1 := ⟨_, rfl⟩
        refine lv_iinc (v := z6) (lv' := [(6, .int z6), (7, .long z3), (5, .int bi), (3, .long le), (0, .ref r1), (1, .int ia), (2, .int n)]) hx hb dX3_nearestBits_73 hl (k := 1) rfl (by rw [ez6]; rfl) (by decide) rfl (fun ls hl => ?_)
        refine lv_goto (tgt := 21) hx hb dX3_nearestBits_76 (by decide) ?_
        have hl9 := hl
        subst ez6
        subst ez3
        subst ez1
        exact ihA le bi (i + 1) _ (lv_sub hl9 [0, 2, 3, 4, 5, 6] rfl) ⟨xr_us huA c2, by rw [← hLA, fX3_nearestBits_A_s, if_neg c2, if_pos c4, if_neg c5]⟩
      · refine lv_iload hx hb dX3_nearestBits_64 (lv_at hl 2 rfl) ?_
        refine lv_iconst (v := 1) hx hb dX3_nearestBits_66 (by decide) ?_
        refine lv_iload hx hb dX3_nearestBits_67 (lv_at hl 1 rfl) ?_
        refine lv_ishl hx hb dX3_nearestBits_69 ?_
        refine lv_ior hx hb dX3_nearestBits_70 ?_
        refine lv_topi (fun z7 ez7 => ?_)
        refine lv_istore (lv' := [(5, .int z7), (7, .long z3), (6, .int i), (3, .long le), (0, .ref r1), (1, .int ia), (2, .int n)]) hx hb dX3_nearestBits_71 hl (by decide) rfl (fun ls hl => ?_)
        obtain ⟨z8, ez8⟩ : ∃ y : Int32, y = i + 1 := ⟨_, rfl⟩
        refine lv_iinc (v := z8) (lv' := [(6, .int z8), (5, .int z7), (7, .long z3), (3, .long le), (0, .ref r1), (1, .int ia), (2, .int n)]) hx hb dX3_nearestBits_73 hl (k := 2) rfl (by rw [ez8]; rfl) (by decide) rfl (fun ls hl => ?_)
        refine lv_goto (tgt := 21) hx hb dX3_nearestBits_76 (by decide) ?_
        have hl9 := hl
        subst ez8
        subst ez7
        subst ez3
        subst ez1
        exact ihA le (bi ||| ((1 : Int32) <<< (i &&& 31))) (i + 1) _ (lv_sub hl9 [0, 1, 3, 4, 5, 6] rfl) ⟨xr_us huA c2, by rw [← hLA, fX3_nearestBits_A_s, if_neg c2, if_pos c4, if_pos c5]⟩
    · refine lv_lload hx hb dX3_nearestBits_51 (lv_at hl 0 rfl) ?_
      refine lv_lstore_n (lv' := [(3, .long z3), (7, .long z3), (6, .int i), (5, .int bi), (0, .ref r1), (1, .int ia), (2, .int n)]) hx hb dX3_nearestBits_53 rfl hl (by decide) rfl (fun ls hl => ?_)
      refine lv_iconst (v := 0) hx hb dX3_nearestBits_54 (by decide) ?_
      refine lv_istore (lv' := [(5, .int (0 : Int32)), (3, .long z3), (7, .long z3), (6, .int i), (0, .ref r1), (1, .int ia), (2, .int n)]) hx hb dX3_nearestBits_55 hl (by decide) rfl (fun ls hl => ?_)
      refine lv_lload hx hb dX3_nearestBits_57 (lv_at hl 2 rfl) ?_
      refine lv_lload_n hx hb dX3_nearestBits_59 rfl (lv_at hl 1 rfl) ?_
      refine W.lcmp hx hb dX3_nearestBits_60 ?_
      refine lv_if_ne (tgt := 73) hx hb dX3_nearestBits_61 (by decide) (fun c9 => ?_) (fun c9 => ?_)
      · obtain ⟨z10, ez10⟩ : ∃ y : Int32, y = i + 1 := ⟨_, rfl⟩
        refine lv_iinc (v := z10) (lv' := [(6, .int z10), (5, .int (0 : Int32)), (3, .long z3), (7, .long z3), (0, .ref r1), (1, .int ia), (2, .int n)]) hx hb dX3_nearestBits_73 hl (k := 3) rfl (by rw [ez10]; rfl) (by decide) rfl (fun ls hl => ?_)
        refine lv_goto (tgt := 21) hx hb dX3_nearestBits_76 (by decide) ?_
        have hl9 := hl
        subst ez10
        subst ez3
        subst ez1
        exact ihA (fX2_distance xs ys ia (held i.toNatClampNeg)) (0 : Int32) (i + 1) _ (lv_sub hl9 [0, 1, 2, 4, 5, 6] rfl) ⟨xr_us huA c2, by rw [← hLA, fX3_nearestBits_A_s, if_neg c2, if_neg c4, if_neg c9]⟩
      · refine lv_iload hx hb dX3_nearestBits_64 (lv_at hl 0 rfl) ?_
        refine lv_iconst (v := 1) hx hb dX3_nearestBits_66 (by decide) ?_
        refine lv_iload hx hb dX3_nearestBits_67 (lv_at hl 3 rfl) ?_
        refine lv_ishl hx hb dX3_nearestBits_69 ?_
        refine lv_ior hx hb dX3_nearestBits_70 ?_
        refine lv_topi (fun z11 ez11 => ?_)
        refine lv_istore (lv' := [(5, .int z11), (3, .long z3), (7, .long z3), (6, .int i), (0, .ref r1), (1, .int ia), (2, .int n)]) hx hb dX3_nearestBits_71 hl (by decide) rfl (fun ls hl => ?_)
        obtain ⟨z12, ez12⟩ : ∃ y : Int32, y = i + 1 := ⟨_, rfl⟩
        refine lv_iinc (v := z12) (lv' := [(6, .int z12), (5, .int z11), (3, .long z3), (7, .long z3), (0, .ref r1), (1, .int ia), (2, .int n)]) hx hb dX3_nearestBits_73 hl (k := 3) rfl (by rw [ez12]; rfl) (by decide) rfl (fun ls hl => ?_)
        refine lv_goto (tgt := 21) hx hb dX3_nearestBits_76 (by decide) ?_
        have hl9 := hl
        subst ez12
        subst ez11
        subst ez3
        subst ez1
        exact ihA (fX2_distance xs ys ia (held i.toNatClampNeg)) ((0 : Int32) ||| ((1 : Int32) <<< (i &&& 31))) (i + 1) _ (lv_sub hl9 [0, 1, 2, 4, 5, 6] rfl) ⟨xr_us huA c2, by rw [← hLA, fX3_nearestBits_A_s, if_neg c2, if_neg c4, if_pos c9]⟩
def fX3_doubleArea_A (held xs ys : Nat → Int32) (n : Int32) : Nat → Int64 → Int32 → Int64
  | 0, _, _ => 0
  | kA + 1, su, ed => if n ≤ ed then (su) else (fX3_doubleArea_A held xs ys n kA (su + ((((xs (held ed.toNatClampNeg).toNatClampNeg).toInt64) * ((ys (held (fX3_following ed n).toNatClampNeg).toNatClampNeg).toInt64)) - (((xs (held (fX3_following ed n).toNatClampNeg).toNatClampNeg).toInt64) * ((ys (held ed.toNatClampNeg).toNatClampNeg).toInt64)))) (ed + 1))
theorem fX3_doubleArea_A_s (held xs ys : Nat → Int32) (n : Int32) (kA : Nat) (su : Int64) (ed : Int32) : fX3_doubleArea_A held xs ys n  (kA + 1) su ed = (if n ≤ ed then (su) else (fX3_doubleArea_A held xs ys n kA (su + ((((xs (held ed.toNatClampNeg).toNatClampNeg).toInt64) * ((ys (held (fX3_following ed n).toNatClampNeg).toNatClampNeg).toInt64)) - (((xs (held (fX3_following ed n).toNatClampNeg).toNatClampNeg).toInt64) * ((ys (held ed.toNatClampNeg).toNatClampNeg).toInt64)))) (ed + 1))) := rfl
def fX3_doubleArea (held xs ys : Nat → Int32) (n : Int32) : Int64 := fX3_doubleArea_A held xs ys n (n.toInt.toNat + 1) (0 : Int64) (0 : Int32)
set_option maxHeartbeats 4000000 in
set_option maxRecDepth 100000 in
theorem ct3_doubleArea (l : Launch) (D : va_G) (r1 r2 q1 q2 q3 : Nat) (kI : ClassId) (held xs ys : Nat → Int32) (rm pm : Int32) (n : Int32) (on : n.toInt ≤ (24 : Nat)) (oh : ∀ j : Nat, (j : Int) < n.toInt → vp_in (held j) 60) : Met l yX3_doubleArea (Cond.code yX3_doubleArea cX3_doubleArea 7 (some .long) :: BX) ({ frames := 1, cells := 0, slots := 0, locals := 60 }) (xr_P nN D vwCl [(kI, .int)] (wRw r1 r2 q1 q2 q3 kI held xs ys rm pm) [.ref r1, .int n]) (xr_Q (.long (fX3_doubleArea held xs ys n))) 0 0 (fun _ => False) := by
  refine Met.ofW (cc := cX3_doubleArea) (maxL := 7) (ret := (some .long)) (by decide) rfl ?_
  intro p e s m args below meth c s₁ B hml hv
  obtain ⟨rfl, hP, hK, hN⟩ := hv
  have hx := B.exec
  have hb := B.bytes
  have hr := B.returns
  have hts0 := atoms_spec (ws := Cond.code yX3_doubleArea cX3_doubleArea 7 (some .long) :: BX) B.pre
  have hts : ∀ w ∈ BX, w.before _ s = true := fun w h => hts0 w (List.mem_cons_of_mem _ h)
  have hown : s.vm.findClass RX3 = some m.cls := findClass_of_methodNamed B.named
  have hlocks := B.notSynchronized
  have hl := lv_entry ([.ref r1, .int n]) (n := 7) (Nat.le_of_ble_eq_true rfl)
  rw [lg_entry_eq]
  generalize (lg_sl ([.ref r1, .int n]) ++ List.replicate (7 - (lg_sl ([.ref r1, .int n])).length) Slot.unset).toArray = ls at hl ⊢
  have hl : lv_has ls 7 [(0, .ref r1), (1, .int n)] := hl
  refine lv_lconst (v := 0) hx hb dX3_doubleArea_0 (by decide) ?_
  refine lv_lstore_n (lv' := [(2, .long (0 : Int64)), (0, .ref r1), (1, .int n)]) hx hb dX3_doubleArea_1 rfl hl (by decide) rfl (fun ls hl => ?_)
  refine lv_iconst (v := 0) hx hb dX3_doubleArea_2 (by decide) ?_
  refine lv_istore (lv' := [(4, .int (0 : Int32)), (2, .long (0 : Int64)), (0, .ref r1), (1, .int n)]) hx hb dX3_doubleArea_3 hl (by decide) rfl (fun ls hl => ?_)
  refine xr_l2 (P := fun ls => W p l e _ s m _ below meth c _ _ _ _ _ (F0 m 5 ls [])) (nL := 7) (fun (su : Int64) (ed : Int32) => [(4, .int ed), (2, .long su), (0, .ref r1), (1, .int n)]) (fun kA (su : Int64) (ed : Int32) => xr_u n ed kA ∧ fX3_doubleArea_A held xs ys n kA su ed = fX3_doubleArea held xs ys n) (fun _ _ h => xr_u0 h.1) ?_ (n.toInt.toNat + 1) (0 : Int64) (0 : Int32) ls hl ⟨(xr_ub n), (by unfold fX3_doubleArea; rfl)⟩
  clear hl
  intro kA su ed ls hl hI ihA
  obtain ⟨huA, hLA⟩ := hI
  refine lv_iload hx hb dX3_doubleArea_5 (lv_at hl 0 rfl) ?_
  refine lv_iload_n hx hb dX3_doubleArea_7 rfl (lv_at hl 3 rfl) ?_
  refine lv_icmp_ge (tgt := 89) hx hb dX3_doubleArea_8 (by decide) (fun c1 => ?_) (fun c1 => ?_)
  · refine lv_lload_n hx hb dX3_doubleArea_89 rfl (lv_at hl 1 rfl) ?_
    exact W.lret (v := su) hx hb hr (fun t ht hW => ⟨by rw [← hLA, fX3_doubleArea_A_s, if_pos c1], ht⟩) (fun _ h => absurd h List.not_mem_nil) dX3_doubleArea_90
  · refine lv_aload_n hx hb dX3_doubleArea_11 rfl (lv_at hl 2 rfl) ?_
    refine va_get (D := D) (ci := 7) (v := .ref r2) (C := RX3) (T := TX3) (N := 3) hx hb hts hinX3 hown hK hP 0 rfl rfl 1 (by decide) (hts _ fk_X3_9) (fun _ h9 => h9) rfl dX3_doubleArea_12 ?_
    refine lv_iload hx hb dX3_doubleArea_15 (lv_at hl 0 rfl) ?_
    refine va_iald hx hb hK hP 1 0 rfl rfl (xr_in huA c1 on) dX3_doubleArea_17 ?_
    refine lv_istore (lv' := [(5, .int (held ed.toNatClampNeg)), (4, .int ed), (2, .long su), (0, .ref r1), (1, .int n)]) hx hb dX3_doubleArea_18 hl (by decide) rfl (fun ls hl => ?_)
    refine lv_aload_n hx hb dX3_doubleArea_20 rfl (lv_at hl 3 rfl) ?_
    refine va_get (D := D) (ci := 7) (v := .ref r2) (C := RX3) (T := TX3) (N := 3) hx hb hts hinX3 hown hK hP 0 rfl rfl 1 (by decide) (hts _ fk_X3_9) (fun _ h9 => h9) rfl dX3_doubleArea_21 ?_
    refine lv_iload hx hb dX3_doubleArea_24 (lv_at hl 1 rfl) ?_
    refine lv_iload_n hx hb dX3_doubleArea_26 rfl (lv_at hl 4 rfl) ?_
    refine xr_S (rest := [.ref r2]) (As := [.int ed, .int n]) ⟨hx, hb, hml, hown, hts⟩ (ct3_following l D  ed n ) (va_cwS 2 hts gl_X3_29 rfl rfl rfl (by decide +kernel) ⟨Nat.le_of_ble_eq_true rfl, Nat.le_of_ble_eq_true rfl⟩) nN_mv hN hK hP [] [] rfl rfl rfl hl.1 rfl (Nat.le_of_ble_eq_true rfl) dX3_doubleArea_27 ⟨Nat.le_of_ble_eq_true rfl, Nat.le_of_ble_eq_true rfl⟩ ?_
    refine va_iald hx hb hK hP 1 0 rfl rfl (o_folp huA c1 on) dX3_doubleArea_30 ?_
    refine lv_topi (fun z2 ez2 => ?_)
    refine lv_istore (lv' := [(6, .int z2), (5, .int (held ed.toNatClampNeg)), (4, .int ed), (2, .long su), (0, .ref r1), (1, .int n)]) hx hb dX3_doubleArea_31 hl (by decide) rfl (fun ls hl => ?_)
    refine lv_lload_n hx hb dX3_doubleArea_33 rfl (lv_at hl 3 rfl) ?_
    refine lv_aload_n hx hb dX3_doubleArea_34 rfl (lv_at hl 4 rfl) ?_
    refine va_get (D := D) (ci := 7) (v := .ref q1) (C := RX3) (T := TX3) (N := 3) hx hb hts hinX3 hown hK hP 0 rfl rfl 0 (by decide) (hts _ fk_X3_15) (fun _ h9 => h9) rfl dX3_doubleArea_35 ?_
    refine va_get (D := D) (ci := 6) (v := .ref q2) (C := RX2) (T := TX2) (N := 3) hx hb hts hinX2 hown hK hP 2 rfl rfl 0 (by decide) (hts _ fk_X3_59) (fun _ h9 => h9) rfl dX3_doubleArea_38 ?_
    refine lv_iload hx hb dX3_doubleArea_41 (lv_at hl 1 rfl) ?_
    refine va_iald hx hb hK hP 3 0 rfl rfl (oh _ (xr_cl huA c1)) dX3_doubleArea_43 ?_
    refine lv_i2l hx hb dX3_doubleArea_44 rfl ?_
    refine lv_aload_n hx hb dX3_doubleArea_45 rfl (lv_at hl 4 rfl) ?_
    refine va_get (D := D) (ci := 7) (v := .ref q1) (C := RX3) (T := TX3) (N := 3) hx hb hts hinX3 hown hK hP 0 rfl rfl 0 (by decide) (hts _ fk_X3_15) (fun _ h9 => h9) rfl dX3_doubleArea_46 ?_
    refine va_get (D := D) (ci := 6) (v := .ref q3) (C := RX2) (T := TX2) (N := 3) hx hb hts hinX2 hown hK hP 2 rfl rfl 1 (by decide) (hts _ fk_X3_40) (fun _ h9 => h9) rfl dX3_doubleArea_49 ?_
    refine lv_iload hx hb dX3_doubleArea_52 (lv_at hl 0 rfl) ?_
    refine va_iald hx hb hK hP 4 0 rfl rfl (by rw [ez2]; exact (oh _ (o_folc huA c1))) dX3_doubleArea_54 ?_
    refine lv_i2l hx hb dX3_doubleArea_55 rfl ?_
    refine lv_lmul hx hb dX3_doubleArea_56 ?_
    refine lv_aload_n hx hb dX3_doubleArea_57 rfl (lv_at hl 4 rfl) ?_
    refine va_get (D := D) (ci := 7) (v := .ref q1) (C := RX3) (T := TX3) (N := 3) hx hb hts hinX3 hown hK hP 0 rfl rfl 0 (by decide) (hts _ fk_X3_15) (fun _ h9 => h9) rfl dX3_doubleArea_58 ?_
    refine va_get (D := D) (ci := 6) (v := .ref q2) (C := RX2) (T := TX2) (N := 3) hx hb hts hinX2 hown hK hP 2 rfl rfl 0 (by decide) (hts _ fk_X3_59) (fun _ h9 => h9) rfl dX3_doubleArea_61 ?_
    refine lv_iload hx hb dX3_doubleArea_64 (lv_at hl 0 rfl) ?_
    refine va_iald hx hb hK hP 3 0 rfl rfl (by rw [ez2]; exact (oh _ (o_folc huA c1))) dX3_doubleArea_66 ?_
    refine lv_i2l hx hb dX3_doubleArea_67 rfl ?_
    refine lv_aload_n hx hb dX3_doubleArea_68 rfl (lv_at hl 4 rfl) ?_
    refine va_get (D := D) (ci := 7) (v := .ref q1) (C := RX3) (T := TX3) (N := 3) hx hb hts hinX3 hown hK hP 0 rfl rfl 0 (by decide) (hts _ fk_X3_15) (fun _ h9 => h9) rfl dX3_doubleArea_69 ?_
    refine va_get (D := D) (ci := 6) (v := .ref q3) (C := RX2) (T := TX2) (N := 3) hx hb hts hinX2 hown hK hP 2 rfl rfl 1 (by decide) (hts _ fk_X3_40) (fun _ h9 => h9) rfl dX3_doubleArea_72 ?_
    refine lv_iload hx hb dX3_doubleArea_75 (lv_at hl 1 rfl) ?_
    refine va_iald hx hb hK hP 4 0 rfl rfl (oh _ (xr_cl huA c1)) dX3_doubleArea_77 ?_
    refine lv_i2l hx hb dX3_doubleArea_78 rfl ?_
    refine lv_lmul hx hb dX3_doubleArea_79 ?_
    refine lv_lsub hx hb dX3_doubleArea_80 ?_
    refine lv_ladd hx hb dX3_doubleArea_81 ?_
    refine lv_topl (fun z3 ez3 => ?_)
    refine lv_lstore_n (lv' := [(2, .long z3), (6, .int z2), (5, .int (held ed.toNatClampNeg)), (4, .int ed), (0, .ref r1), (1, .int n)]) hx hb dX3_doubleArea_82 rfl hl (by decide) rfl (fun ls hl => ?_)
    obtain ⟨z4, ez4⟩ : ∃ y : Int32, y = ed + 1 := ⟨_, rfl⟩
    refine lv_iinc (v := z4) (lv' := [(4, .int z4), (2, .long z3), (6, .int z2), (5, .int (held ed.toNatClampNeg)), (0, .ref r1), (1, .int n)]) hx hb dX3_doubleArea_83 hl (k := 3) rfl (by rw [ez4]; rfl) (by decide) rfl (fun ls hl => ?_)
    refine lv_goto (tgt := 5) hx hb dX3_doubleArea_86 (by decide) ?_
    have hl9 := hl
    subst ez4
    subst ez3
    subst ez2
    exact ihA (su + ((((xs (held ed.toNatClampNeg).toNatClampNeg).toInt64) * ((ys (held (fX3_following ed n).toNatClampNeg).toNatClampNeg).toInt64)) - (((xs (held (fX3_following ed n).toNatClampNeg).toNatClampNeg).toInt64) * ((ys (held ed.toNatClampNeg).toNatClampNeg).toInt64)))) (ed + 1) _ (lv_sub hl9 [0, 1, 4, 5] rfl) ⟨xr_us huA c1, by rw [← hLA, fX3_doubleArea_A_s, if_neg c1]⟩
def fX3_compare (held xs ys : Nat → Int32) (ia : Int32) (ib : Int32) (ic : Int32) : Int32 := if ic = (-1 : Int32) then (fX2_compareAcross xs ys (held ia.toNatClampNeg) (held ib.toNatClampNeg)) else (fX2_compareRound xs ys ic (held ia.toNatClampNeg) (held ib.toNatClampNeg))
set_option maxHeartbeats 4000000 in
set_option maxRecDepth 100000 in
theorem ct3_compare (l : Launch) (D : va_G) (r1 r2 q1 q2 q3 : Nat) (kI : ClassId) (held xs ys : Nat → Int32) (rm pm : Int32) (ia : Int32) (ib : Int32) (ic : Int32) (oia : vp_in ia 24) (oib : vp_in ib 24) (opa : vp_in (held ia.toNatClampNeg) 60) (opb : vp_in (held ib.toNatClampNeg) 60) (oc : ¬ ic = (-1 : Int32) → vp_in ic 60) : Met l yX3_compare (Cond.code yX3_compare cX3_compare 4 (some .int) :: BX) ({ frames := 4, cells := 0, slots := 0, locals := 240 }) (xr_P nN D vwCl [(kI, .int)] (wRw r1 r2 q1 q2 q3 kI held xs ys rm pm) [.ref r1, .int ia, .int ib, .int ic]) (xr_Q (.int (fX3_compare held xs ys ia ib ic))) 0 0 (fun _ => False) := by
  refine Met.ofW (cc := cX3_compare) (maxL := 4) (ret := (some .int)) (by decide) rfl ?_
  intro p e s m args below meth c s₁ B hml hv
  obtain ⟨rfl, hP, hK, hN⟩ := hv
  have hx := B.exec
  have hb := B.bytes
  have hr := B.returns
  have hts0 := atoms_spec (ws := Cond.code yX3_compare cX3_compare 4 (some .int) :: BX) B.pre
  have hts : ∀ w ∈ BX, w.before _ s = true := fun w h => hts0 w (List.mem_cons_of_mem _ h)
  have hown : s.vm.findClass RX3 = some m.cls := findClass_of_methodNamed B.named
  have hlocks := B.notSynchronized
  have hl := lv_entry ([.ref r1, .int ia, .int ib, .int ic]) (n := 4) (Nat.le_of_ble_eq_true rfl)
  rw [lg_entry_eq]
  generalize (lg_sl ([.ref r1, .int ia, .int ib, .int ic]) ++ List.replicate (4 - (lg_sl ([.ref r1, .int ia, .int ib, .int ic])).length) Slot.unset).toArray = ls at hl ⊢
  have hl : lv_has ls 4 [(0, .ref r1), (1, .int ia), (2, .int ib), (3, .int ic)] := hl
  refine lv_iload_n hx hb dX3_compare_0 rfl (lv_at hl 3 rfl) ?_
  refine lv_iconst (v := (-1)) hx hb dX3_compare_1 (by decide) ?_
  refine lv_icmp_ne (tgt := 25) hx hb dX3_compare_2 (by decide) (fun c1 => ?_) (fun c1 => ?_)
  · refine lv_aload_n hx hb dX3_compare_25 rfl (lv_at hl 0 rfl) ?_
    refine va_get (D := D) (ci := 7) (v := .ref q1) (C := RX3) (T := TX3) (N := 3) hx hb hts hinX3 hown hK hP 0 rfl rfl 0 (by decide) (hts _ fk_X3_15) (fun _ h9 => h9) rfl dX3_compare_26 ?_
    refine lv_iload_n hx hb dX3_compare_29 rfl (lv_at hl 3 rfl) ?_
    refine lv_aload_n hx hb dX3_compare_30 rfl (lv_at hl 0 rfl) ?_
    refine va_get (D := D) (ci := 7) (v := .ref r2) (C := RX3) (T := TX3) (N := 3) hx hb hts hinX3 hown hK hP 0 rfl rfl 1 (by decide) (hts _ fk_X3_9) (fun _ h9 => h9) rfl dX3_compare_31 ?_
    refine lv_iload_n hx hb dX3_compare_34 rfl (lv_at hl 1 rfl) ?_
    refine va_iald hx hb hK hP 1 0 rfl rfl oia dX3_compare_35 ?_
    refine lv_aload_n hx hb dX3_compare_36 rfl (lv_at hl 0 rfl) ?_
    refine va_get (D := D) (ci := 7) (v := .ref r2) (C := RX3) (T := TX3) (N := 3) hx hb hts hinX3 hown hK hP 0 rfl rfl 1 (by decide) (hts _ fk_X3_9) (fun _ h9 => h9) rfl dX3_compare_37 ?_
    refine lv_iload_n hx hb dX3_compare_40 rfl (lv_at hl 2 rfl) ?_
    refine va_iald hx hb hK hP 1 0 rfl rfl oib dX3_compare_41 ?_
    refine xr_V (q := (RX2, TX2, 3)) (ci := 6) (q0 := 2) (rest := []) (As := [.int ic, .int (held ia.toNatClampNeg), .int (held ib.toNatClampNeg)]) ⟨hx, hb, hml, hown, hts⟩ (ct2_compareRound l D q1 q2 q3 kI xs ys pm ic (held ia.toNatClampNeg) (held ib.toNatClampNeg) (oc c1) opa opb) (cwV 3 hts gl_X3_56 rfl rfl rfl (by decide +kernel) ⟨Nat.le_of_ble_eq_true rfl, Nat.le_of_ble_eq_true rfl⟩) nN_mv hN hK hP [2, 3, 4] [0] rfl rfl rfl rfl rfl hl.1 rfl (Nat.le_of_ble_eq_true rfl) dX3_compare_42 ⟨Nat.le_of_ble_eq_true rfl, Nat.le_of_ble_eq_true rfl⟩ ?_
    exact W.iret (v := fX2_compareRound xs ys ic (held ia.toNatClampNeg) (held ib.toNatClampNeg)) hx hb hr (fun t ht hW => ⟨by rw [show fX3_compare held xs ys ia ib ic = fX2_compareRound xs ys ic (held ia.toNatClampNeg) (held ib.toNatClampNeg) by unfold fX3_compare; rw [if_neg c1]], ht⟩) (fun _ h => absurd h List.not_mem_nil) dX3_compare_45
  · refine lv_aload_n hx hb dX3_compare_5 rfl (lv_at hl 0 rfl) ?_
    refine va_get (D := D) (ci := 7) (v := .ref q1) (C := RX3) (T := TX3) (N := 3) hx hb hts hinX3 hown hK hP 0 rfl rfl 0 (by decide) (hts _ fk_X3_15) (fun _ h9 => h9) rfl dX3_compare_6 ?_
    refine lv_aload_n hx hb dX3_compare_9 rfl (lv_at hl 0 rfl) ?_
    refine va_get (D := D) (ci := 7) (v := .ref r2) (C := RX3) (T := TX3) (N := 3) hx hb hts hinX3 hown hK hP 0 rfl rfl 1 (by decide) (hts _ fk_X3_9) (fun _ h9 => h9) rfl dX3_compare_10 ?_
    refine lv_iload_n hx hb dX3_compare_13 rfl (lv_at hl 1 rfl) ?_
    refine va_iald hx hb hK hP 1 0 rfl rfl oia dX3_compare_14 ?_
    refine lv_aload_n hx hb dX3_compare_15 rfl (lv_at hl 0 rfl) ?_
    refine va_get (D := D) (ci := 7) (v := .ref r2) (C := RX3) (T := TX3) (N := 3) hx hb hts hinX3 hown hK hP 0 rfl rfl 1 (by decide) (hts _ fk_X3_9) (fun _ h9 => h9) rfl dX3_compare_16 ?_
    refine lv_iload_n hx hb dX3_compare_19 rfl (lv_at hl 2 rfl) ?_
    refine va_iald hx hb hK hP 1 0 rfl rfl oib dX3_compare_20 ?_
    refine xr_V (q := (RX2, TX2, 3)) (ci := 6) (q0 := 2) (rest := []) (As := [.int (held ia.toNatClampNeg), .int (held ib.toNatClampNeg)]) ⟨hx, hb, hml, hown, hts⟩ (ct2_compareAcross l D q1 q2 q3 kI xs ys pm (held ia.toNatClampNeg) (held ib.toNatClampNeg) opa opb) (cwV 2 hts gl_X3_53 rfl rfl rfl (by decide +kernel) ⟨Nat.le_of_ble_eq_true rfl, Nat.le_of_ble_eq_true rfl⟩) nN_mv hN hK hP [2, 3, 4] [0] rfl rfl rfl rfl rfl hl.1 rfl (Nat.le_of_ble_eq_true rfl) dX3_compare_21 ⟨Nat.le_of_ble_eq_true rfl, Nat.le_of_ble_eq_true rfl⟩ ?_
    exact W.iret (v := fX2_compareAcross xs ys (held ia.toNatClampNeg) (held ib.toNatClampNeg)) hx hb hr (fun t ht hW => ⟨by rw [show fX3_compare held xs ys ia ib ic = fX2_compareAcross xs ys (held ia.toNatClampNeg) (held ib.toNatClampNeg) by unfold fX3_compare; rw [if_pos c1]], ht⟩) (fun _ h => absurd h List.not_mem_nil) dX3_compare_24
def fX3_howManyBefore_A (held xs ys : Nat → Int32) (n : Int32) (ib : Int32) (ic : Int32) : Nat → Int32 → Int32 → Int32
  | 0, _, _ => 0
  | kA + 1, fo, ot => if n ≤ ot then (fo) else (if (fX3_compare held xs ys ot ib ic) < (0 : Int32) then (fX3_howManyBefore_A held xs ys n ib ic kA (fo + 1) (ot + 1)) else (if (fX3_compare held xs ys ot ib ic) = (0 : Int32) then (if ib ≤ ot then (fX3_howManyBefore_A held xs ys n ib ic kA fo (ot + 1)) else (fX3_howManyBefore_A held xs ys n ib ic kA (fo + 1) (ot + 1))) else (fX3_howManyBefore_A held xs ys n ib ic kA fo (ot + 1))))
theorem fX3_howManyBefore_A_s (held xs ys : Nat → Int32) (n : Int32) (ib : Int32) (ic : Int32) (kA : Nat) (fo : Int32) (ot : Int32) : fX3_howManyBefore_A held xs ys n ib ic  (kA + 1) fo ot = (if n ≤ ot then (fo) else (if (fX3_compare held xs ys ot ib ic) < (0 : Int32) then (fX3_howManyBefore_A held xs ys n ib ic kA (fo + 1) (ot + 1)) else (if (fX3_compare held xs ys ot ib ic) = (0 : Int32) then (if ib ≤ ot then (fX3_howManyBefore_A held xs ys n ib ic kA fo (ot + 1)) else (fX3_howManyBefore_A held xs ys n ib ic kA (fo + 1) (ot + 1))) else (fX3_howManyBefore_A held xs ys n ib ic kA fo (ot + 1))))) := rfl
def fX3_howManyBefore (held xs ys : Nat → Int32) (n : Int32) (ib : Int32) (ic : Int32) : Int32 := fX3_howManyBefore_A held xs ys n ib ic (n.toInt.toNat + 1) (0 : Int32) (0 : Int32)
set_option maxHeartbeats 4000000 in
set_option maxRecDepth 100000 in
theorem ct3_howManyBefore (l : Launch) (D : va_G) (r1 r2 q1 q2 q3 : Nat) (kI : ClassId) (held xs ys : Nat → Int32) (rm pm : Int32) (n : Int32) (ib : Int32) (ic : Int32) (on : n.toInt ≤ (24 : Nat)) (oh : ∀ j : Nat, (j : Int) < n.toInt → vp_in (held j) 60) (oib : vp_in ib 24 ∧ (ib.toNatClampNeg : Int) < n.toInt) (oc : ¬ ic = (-1 : Int32) → vp_in ic 60) : Met l yX3_howManyBefore (Cond.code yX3_howManyBefore cX3_howManyBefore 7 (some .int) :: BX) ({ frames := 5, cells := 0, slots := 0, locals := 300 }) (xr_P nN D vwCl [(kI, .int)] (wRw r1 r2 q1 q2 q3 kI held xs ys rm pm) [.ref r1, .int n, .int ib, .int ic]) (xr_Q (.int (fX3_howManyBefore held xs ys n ib ic))) 0 0 (fun _ => False) := by
  refine Met.ofW (cc := cX3_howManyBefore) (maxL := 7) (ret := (some .int)) (by decide) rfl ?_
  intro p e s m args below meth c s₁ B hml hv
  obtain ⟨rfl, hP, hK, hN⟩ := hv
  have hx := B.exec
  have hb := B.bytes
  have hr := B.returns
  have hts0 := atoms_spec (ws := Cond.code yX3_howManyBefore cX3_howManyBefore 7 (some .int) :: BX) B.pre
  have hts : ∀ w ∈ BX, w.before _ s = true := fun w h => hts0 w (List.mem_cons_of_mem _ h)
  have hown : s.vm.findClass RX3 = some m.cls := findClass_of_methodNamed B.named
  have hlocks := B.notSynchronized
  have hl := lv_entry ([.ref r1, .int n, .int ib, .int ic]) (n := 7) (Nat.le_of_ble_eq_true rfl)
  rw [lg_entry_eq]
  generalize (lg_sl ([.ref r1, .int n, .int ib, .int ic]) ++ List.replicate (7 - (lg_sl ([.ref r1, .int n, .int ib, .int ic])).length) Slot.unset).toArray = ls at hl ⊢
  have hl : lv_has ls 7 [(0, .ref r1), (1, .int n), (2, .int ib), (3, .int ic)] := hl
  refine lv_iconst (v := 0) hx hb dX3_howManyBefore_0 (by decide) ?_
  refine lv_istore (lv' := [(4, .int (0 : Int32)), (0, .ref r1), (1, .int n), (2, .int ib), (3, .int ic)]) hx hb dX3_howManyBefore_1 hl (by decide) rfl (fun ls hl => ?_)
  refine lv_iconst (v := 0) hx hb dX3_howManyBefore_3 (by decide) ?_
  refine lv_istore (lv' := [(5, .int (0 : Int32)), (4, .int (0 : Int32)), (0, .ref r1), (1, .int n), (2, .int ib), (3, .int ic)]) hx hb dX3_howManyBefore_4 hl (by decide) rfl (fun ls hl => ?_)
  refine xr_l2 (P := fun ls => W p l e _ s m _ below meth c _ _ _ _ _ (F0 m 6 ls [])) (nL := 7) (fun (fo : Int32) (ot : Int32) => [(5, .int ot), (4, .int fo), (0, .ref r1), (1, .int n), (2, .int ib), (3, .int ic)]) (fun kA (fo : Int32) (ot : Int32) => xr_u n ot kA ∧ fX3_howManyBefore_A held xs ys n ib ic kA fo ot = fX3_howManyBefore held xs ys n ib ic) (fun _ _ h => xr_u0 h.1) ?_ (n.toInt.toNat + 1) (0 : Int32) (0 : Int32) ls hl ⟨(xr_ub n), (by unfold fX3_howManyBefore; rfl)⟩
  clear hl
  intro kA fo ot ls hl hI ihA
  obtain ⟨huA, hLA⟩ := hI
  refine lv_iload hx hb dX3_howManyBefore_6 (lv_at hl 0 rfl) ?_
  refine lv_iload_n hx hb dX3_howManyBefore_8 rfl (lv_at hl 3 rfl) ?_
  refine lv_icmp_ge (tgt := 47) hx hb dX3_howManyBefore_9 (by decide) (fun c1 => ?_) (fun c1 => ?_)
  · refine lv_iload hx hb dX3_howManyBefore_47 (lv_at hl 1 rfl) ?_
    exact W.iret (v := fo) hx hb hr (fun t ht hW => ⟨by rw [← hLA, fX3_howManyBefore_A_s, if_pos c1], ht⟩) (fun _ h => absurd h List.not_mem_nil) dX3_howManyBefore_49
  · refine lv_aload_n hx hb dX3_howManyBefore_12 rfl (lv_at hl 2 rfl) ?_
    refine lv_iload hx hb dX3_howManyBefore_13 (lv_at hl 0 rfl) ?_
    refine lv_iload_n hx hb dX3_howManyBefore_15 rfl (lv_at hl 4 rfl) ?_
    refine lv_iload_n hx hb dX3_howManyBefore_16 rfl (lv_at hl 5 rfl) ?_
    refine xr_V (q := (RX3, TX3, 3)) (ci := 7) (q0 := 0) (rest := []) (As := [.int ot, .int ib, .int ic]) ⟨hx, hb, hml, hown, hts⟩ (ct3_compare l D r1 r2 q1 q2 q3 kI held xs ys rm pm ot ib ic (xr_in huA c1 on) oib.1 (oh _ (xr_cl huA c1)) (oh _ oib.2) oc) (cwV 3 hts gl_X3_50 rfl rfl rfl (by decide +kernel) ⟨Nat.le_of_ble_eq_true rfl, Nat.le_of_ble_eq_true rfl⟩) nN_mv hN hK hP [0, 1, 2, 3, 4] [0] rfl rfl rfl rfl rfl hl.1 rfl (Nat.le_of_ble_eq_true rfl) dX3_howManyBefore_17 ⟨Nat.le_of_ble_eq_true rfl, Nat.le_of_ble_eq_true rfl⟩ ?_
    refine lv_topi (fun z2 ez2 => ?_)
    refine lv_istore (lv' := [(6, .int z2), (5, .int ot), (4, .int fo), (0, .ref r1), (1, .int n), (2, .int ib), (3, .int ic)]) hx hb dX3_howManyBefore_20 hl (by decide) rfl (fun ls hl => ?_)
    refine lv_iload hx hb dX3_howManyBefore_22 (lv_at hl 0 rfl) ?_
    refine lv_if_lt (tgt := 38) hx hb dX3_howManyBefore_24 (by decide) (fun c3 => ?_) (fun c3 => ?_)
    · obtain ⟨z4, ez4⟩ : ∃ y : Int32, y = fo + 1 := ⟨_, rfl⟩
      refine lv_iinc (v := z4) (lv' := [(4, .int z4), (6, .int z2), (5, .int ot), (0, .ref r1), (1, .int n), (2, .int ib), (3, .int ic)]) hx hb dX3_howManyBefore_38 hl (k := 2) rfl (by rw [ez4]; rfl) (by decide) rfl (fun ls hl => ?_)
      obtain ⟨z5, ez5⟩ : ∃ y : Int32, y = ot + 1 := ⟨_, rfl⟩
      refine lv_iinc (v := z5) (lv' := [(5, .int z5), (4, .int z4), (6, .int z2), (0, .ref r1), (1, .int n), (2, .int ib), (3, .int ic)]) hx hb dX3_howManyBefore_41 hl (k := 2) rfl (by rw [ez5]; rfl) (by decide) rfl (fun ls hl => ?_)
      refine lv_goto (tgt := 6) hx hb dX3_howManyBefore_44 (by decide) ?_
      have hl9 := hl
      subst ez5
      subst ez4
      subst ez2
      exact ihA (fo + 1) (ot + 1) _ (lv_sub hl9 [0, 1, 3, 4, 5, 6] rfl) ⟨xr_us huA c1, by rw [← hLA, fX3_howManyBefore_A_s, if_neg c1, if_pos c3]⟩
    · refine lv_iload hx hb dX3_howManyBefore_27 (lv_at hl 0 rfl) ?_
      refine lv_if_ne (tgt := 41) hx hb dX3_howManyBefore_29 (by decide) (fun c6 => ?_) (fun c6 => ?_)
      · obtain ⟨z7, ez7⟩ : ∃ y : Int32, y = ot + 1 := ⟨_, rfl⟩
        refine lv_iinc (v := z7) (lv' := [(5, .int z7), (6, .int z2), (4, .int fo), (0, .ref r1), (1, .int n), (2, .int ib), (3, .int ic)]) hx hb dX3_howManyBefore_41 hl (k := 1) rfl (by rw [ez7]; rfl) (by decide) rfl (fun ls hl => ?_)
        refine lv_goto (tgt := 6) hx hb dX3_howManyBefore_44 (by decide) ?_
        have hl9 := hl
        subst ez7
        subst ez2
        exact ihA fo (ot + 1) _ (lv_sub hl9 [0, 2, 3, 4, 5, 6] rfl) ⟨xr_us huA c1, by rw [← hLA, fX3_howManyBefore_A_s, if_neg c1, if_neg c3, if_neg c6]⟩
      · refine lv_iload hx hb dX3_howManyBefore_32 (lv_at hl 1 rfl) ?_
        refine lv_iload_n hx hb dX3_howManyBefore_34 rfl (lv_at hl 5 rfl) ?_
        refine lv_icmp_ge (tgt := 41) hx hb dX3_howManyBefore_35 (by decide) (fun c8 => ?_) (fun c8 => ?_)
        · obtain ⟨z9, ez9⟩ : ∃ y : Int32, y = ot + 1 := ⟨_, rfl⟩
          refine lv_iinc (v := z9) (lv' := [(5, .int z9), (6, .int z2), (4, .int fo), (0, .ref r1), (1, .int n), (2, .int ib), (3, .int ic)]) hx hb dX3_howManyBefore_41 hl (k := 1) rfl (by rw [ez9]; rfl) (by decide) rfl (fun ls hl => ?_)
          refine lv_goto (tgt := 6) hx hb dX3_howManyBefore_44 (by decide) ?_
          have hl9 := hl
          subst ez9
          subst ez2
          exact ihA fo (ot + 1) _ (lv_sub hl9 [0, 2, 3, 4, 5, 6] rfl) ⟨xr_us huA c1, by rw [← hLA, fX3_howManyBefore_A_s, if_neg c1, if_neg c3, if_pos c6, if_pos c8]⟩
        · obtain ⟨z10, ez10⟩ : ∃ y : Int32, y = fo + 1 := ⟨_, rfl⟩
          refine lv_iinc (v := z10) (lv' := [(4, .int z10), (6, .int z2), (5, .int ot), (0, .ref r1), (1, .int n), (2, .int ib), (3, .int ic)]) hx hb dX3_howManyBefore_38 hl (k := 2) rfl (by rw [ez10]; rfl) (by decide) rfl (fun ls hl => ?_)
          obtain ⟨z11, ez11⟩ : ∃ y : Int32, y = ot + 1 := ⟨_, rfl⟩
          refine lv_iinc (v := z11) (lv' := [(5, .int z11), (4, .int z10), (6, .int z2), (0, .ref r1), (1, .int n), (2, .int ib), (3, .int ic)]) hx hb dX3_howManyBefore_41 hl (k := 2) rfl (by rw [ez11]; rfl) (by decide) rfl (fun ls hl => ?_)
          refine lv_goto (tgt := 6) hx hb dX3_howManyBefore_44 (by decide) ?_
          have hl9 := hl
          subst ez11
          subst ez10
          subst ez2
          exact ihA (fo + 1) (ot + 1) _ (lv_sub hl9 [0, 1, 3, 4, 5, 6] rfl) ⟨xr_us huA c1, by rw [← hLA, fX3_howManyBefore_A_s, if_neg c1, if_neg c3, if_pos c6, if_neg c8]⟩
def fX3_placeOfRank_A (held xs ys : Nat → Int32) (n : Int32) (ra : Int32) (ic : Int32) : Nat → Int32 → Int32
  | 0, _ => 0
  | kA + 1, i => if n ≤ i then ((-2 : Int32)) else (if (fX3_howManyBefore held xs ys n i ic) = ra then (i) else (fX3_placeOfRank_A held xs ys n ra ic kA (i + 1)))
theorem fX3_placeOfRank_A_s (held xs ys : Nat → Int32) (n : Int32) (ra : Int32) (ic : Int32) (kA : Nat) (i : Int32) : fX3_placeOfRank_A held xs ys n ra ic  (kA + 1) i = (if n ≤ i then ((-2 : Int32)) else (if (fX3_howManyBefore held xs ys n i ic) = ra then (i) else (fX3_placeOfRank_A held xs ys n ra ic kA (i + 1)))) := rfl
def fX3_placeOfRank (held xs ys : Nat → Int32) (n : Int32) (ra : Int32) (ic : Int32) : Int32 := fX3_placeOfRank_A held xs ys n ra ic (n.toInt.toNat + 1) (0 : Int32)
set_option maxHeartbeats 4000000 in
set_option maxRecDepth 100000 in
theorem ct3_placeOfRank (l : Launch) (D : va_G) (r1 r2 q1 q2 q3 : Nat) (kI : ClassId) (held xs ys : Nat → Int32) (rm pm : Int32) (n : Int32) (ra : Int32) (ic : Int32) (on : n.toInt ≤ (24 : Nat)) (oh : ∀ j : Nat, (j : Int) < n.toInt → vp_in (held j) 60) (oc : ¬ ic = (-1 : Int32) → vp_in ic 60) : Met l yX3_placeOfRank (Cond.code yX3_placeOfRank cX3_placeOfRank 5 (some .int) :: BX) ({ frames := 6, cells := 0, slots := 0, locals := 360 }) (xr_P nN D vwCl [(kI, .int)] (wRw r1 r2 q1 q2 q3 kI held xs ys rm pm) [.ref r1, .int n, .int ra, .int ic]) (xr_Q (.int (fX3_placeOfRank held xs ys n ra ic))) 0 0 (fun _ => False) := by
  refine Met.ofW (cc := cX3_placeOfRank) (maxL := 5) (ret := (some .int)) (by decide) rfl ?_
  intro p e s m args below meth c s₁ B hml hv
  obtain ⟨rfl, hP, hK, hN⟩ := hv
  have hx := B.exec
  have hb := B.bytes
  have hr := B.returns
  have hts0 := atoms_spec (ws := Cond.code yX3_placeOfRank cX3_placeOfRank 5 (some .int) :: BX) B.pre
  have hts : ∀ w ∈ BX, w.before _ s = true := fun w h => hts0 w (List.mem_cons_of_mem _ h)
  have hown : s.vm.findClass RX3 = some m.cls := findClass_of_methodNamed B.named
  have hlocks := B.notSynchronized
  have hl := lv_entry ([.ref r1, .int n, .int ra, .int ic]) (n := 5) (Nat.le_of_ble_eq_true rfl)
  rw [lg_entry_eq]
  generalize (lg_sl ([.ref r1, .int n, .int ra, .int ic]) ++ List.replicate (5 - (lg_sl ([.ref r1, .int n, .int ra, .int ic])).length) Slot.unset).toArray = ls at hl ⊢
  have hl : lv_has ls 5 [(0, .ref r1), (1, .int n), (2, .int ra), (3, .int ic)] := hl
  refine lv_iconst (v := 0) hx hb dX3_placeOfRank_0 (by decide) ?_
  refine lv_istore (lv' := [(4, .int (0 : Int32)), (0, .ref r1), (1, .int n), (2, .int ra), (3, .int ic)]) hx hb dX3_placeOfRank_1 hl (by decide) rfl (fun ls hl => ?_)
  refine xr_l1 (P := fun ls => W p l e _ s m _ below meth c _ _ _ _ _ (F0 m 3 ls [])) (nL := 5) (fun (i : Int32) => [(4, .int i), (0, .ref r1), (1, .int n), (2, .int ra), (3, .int ic)]) (fun kA (i : Int32) => xr_u n i kA ∧ fX3_placeOfRank_A held xs ys n ra ic kA i = fX3_placeOfRank held xs ys n ra ic) (fun _ h => xr_u0 h.1) ?_ (n.toInt.toNat + 1) (0 : Int32) ls hl ⟨(xr_ub n), (by unfold fX3_placeOfRank; rfl)⟩
  clear hl
  intro kA i ls hl hI ihA
  obtain ⟨huA, hLA⟩ := hI
  refine lv_iload hx hb dX3_placeOfRank_3 (lv_at hl 0 rfl) ?_
  refine lv_iload_n hx hb dX3_placeOfRank_5 rfl (lv_at hl 2 rfl) ?_
  refine lv_icmp_ge (tgt := 30) hx hb dX3_placeOfRank_6 (by decide) (fun c1 => ?_) (fun c1 => ?_)
  · refine lv_bipush (v := (-2)) hx hb dX3_placeOfRank_30 (by decide) ?_
    exact W.iret (v := (-2 : Int32)) hx hb hr (fun t ht hW => ⟨by rw [← hLA, fX3_placeOfRank_A_s, if_pos c1], ht⟩) (fun _ h => absurd h List.not_mem_nil) dX3_placeOfRank_32
  · refine lv_aload_n hx hb dX3_placeOfRank_9 rfl (lv_at hl 1 rfl) ?_
    refine lv_iload_n hx hb dX3_placeOfRank_10 rfl (lv_at hl 2 rfl) ?_
    refine lv_iload hx hb dX3_placeOfRank_11 (lv_at hl 0 rfl) ?_
    refine lv_iload_n hx hb dX3_placeOfRank_13 rfl (lv_at hl 4 rfl) ?_
    refine xr_V (q := (RX3, TX3, 3)) (ci := 7) (q0 := 0) (rest := []) (As := [.int n, .int i, .int ic]) ⟨hx, hb, hml, hown, hts⟩ (ct3_howManyBefore l D r1 r2 q1 q2 q3 kI held xs ys rm pm n i ic on oh (⟨(xr_in huA c1 on), (xr_cl huA c1)⟩) oc) (cwV 3 hts gl_X3_47 rfl rfl rfl (by decide +kernel) ⟨Nat.le_of_ble_eq_true rfl, Nat.le_of_ble_eq_true rfl⟩) nN_mv hN hK hP [0, 1, 2, 3, 4] [0] rfl rfl rfl rfl rfl hl.1 rfl (Nat.le_of_ble_eq_true rfl) dX3_placeOfRank_14 ⟨Nat.le_of_ble_eq_true rfl, Nat.le_of_ble_eq_true rfl⟩ ?_
    refine lv_iload_n hx hb dX3_placeOfRank_17 rfl (lv_at hl 3 rfl) ?_
    refine lv_icmp_ne (tgt := 24) hx hb dX3_placeOfRank_18 (by decide) (fun c2 => ?_) (fun c2 => ?_)
    · obtain ⟨z3, ez3⟩ : ∃ y : Int32, y = i + 1 := ⟨_, rfl⟩
      refine lv_iinc (v := z3) (lv' := [(4, .int z3), (0, .ref r1), (1, .int n), (2, .int ra), (3, .int ic)]) hx hb dX3_placeOfRank_24 hl (k := 0) rfl (by rw [ez3]; rfl) (by decide) rfl (fun ls hl => ?_)
      refine lv_goto (tgt := 3) hx hb dX3_placeOfRank_27 (by decide) ?_
      have hl9 := hl
      subst ez3
      exact ihA (i + 1) _ (lv_sub hl9 [0, 1, 2, 3, 4] rfl) ⟨xr_us huA c1, by rw [← hLA, fX3_placeOfRank_A_s, if_neg c1, if_neg c2]⟩
    · refine lv_iload hx hb dX3_placeOfRank_21 (lv_at hl 0 rfl) ?_
      exact W.iret (v := i) hx hb hr (fun t ht hW => ⟨by rw [← hLA, fX3_placeOfRank_A_s, if_neg c1, if_pos c2], ht⟩) (fun _ h => absurd h List.not_mem_nil) dX3_placeOfRank_23
