noncomputable def tl_c_find_0 : List Cond := wsX100
noncomputable def v_c_find_0 : List Cond := .code yX10_find cX10_find 2 (some (.object "ClaimBus$Node")) :: ([.fieldLink RX10 29 "ClaimBus" "nodeCount" "I", .fieldLink RX10 11 "ClaimBus" "nodes" "[LClaimBus$Node;"] ++ tl_c_find_0)
theorem it_c_find_0 : ∀ w ∈ tl_c_find_0, w ∈ v_c_find_0 := fun w h => List.mem_cons_of_mem _ (List.mem_append_right _ h)
theorem in_c_find_0_X10 : ∀ w ∈ wsX100, w ∈ v_c_find_0 := fun w h => it_c_find_0 w (h)
theorem gt_c_find_0 : ∀ w ∈ tl_c_find_0, goodWord w = true := gw_wsX100
theorem gw_c_find_0 : ∀ w ∈ v_c_find_0, goodWord w = true := List.forall_mem_cons.mpr ⟨by decide +kernel, List.forall_mem_append.mpr ⟨List.all_eq_true.mp (by decide +kernel), gt_c_find_0⟩⟩
set_option maxHeartbeats 4000000 in
set_option maxRecDepth 100000 in
theorem c_find_0 (l : Launch) (dC : Nat → ClassId) (dI : Nat → Nat → Nat) (x : Nat) (nr : Nat) (st : Nat) (lf : Nat) (tm : Nat) (fcn : Nat) (xl : Int32) (cN : ClassId) (fn : Nat → Option Nat) (an : Nat) (sz : Nat) (n0 : fn 0 = some an) : Met l yX10_find v_c_find_0 ({ frames := 0, cells := 0, slots := 0, locals := 0 }) (va_Pc [.ref x, .int 0] (fun U => U.heap.size = sz ∧ va_P (dC, dI) vwCl [(x, .inr (11, [.ref nr, .ref st, .ref lf, .int 2, .int (nI tm), .int (nI fcn), .int xl, .int 0])), (nr, .inl (cN, 8, .inr (.inr (.inr (.inr fn)))))] U.heap ∧ va_K (dC, dI) vwCl [(cN, (.object RX4))] U ∧ va_D (fun _ => True) [(x, .inr (11, [.ref nr, .ref st, .ref lf, .int 2, .int (nI tm), .int (nI fcn), .int xl, .int 0])), (nr, .inl (cN, 8, .inr (.inr (.inr (.inr fn)))))] ∧ ev U)) (va_Qq (fun (r : Option Nat) (_ : Unit) => r = some an) (fun (_ : Unit) (_ : State) => True) (va_A [] sz)) 0 0 (va_A [] sz) := by
  refine Met.ofW (cc := cX10_find) (maxL := 2) (ret := (some (.object "ClaimBus$Node"))) (by decide) rfl ?_
  intro p e s m args below meth c s₁ B hml hv
  obtain ⟨rfl, hsz, hP, hK, hD0, hE⟩ := hv
  have hx := B.exec
  have hb := B.bytes
  have hr := B.returns
  have hts := atoms_spec (ws := v_c_find_0) B.pre
  have hown : s.vm.findClass RX10 = some m.cls := findClass_of_methodNamed B.named
  have hlocks := B.notSynchronized
  subst hsz
  have hD := hD0
  generalize hAe : va_A [] s.heap.size = A
  have hA : ∀ q : Nat, s.heap.size ≤ q → A q := fun q h => by rw [← hAe]; exact Or.inr h
  have hS : va_S A s.heap s.heap [] := va_S.rf
  replace hP : va_P (dC, dI) vwCl [(x, .inr (11, [.ref nr, .ref st, .ref lf, .int 2, .int (nI tm), .int (nI fcn), .int xl, .int 0])), (nr, .inl (cN, 8, .inr (.inr (.inr (.inr fn)))))] s.heap := hP
  have hl := lv_entry ([.ref x, .int 0]) (n := 2) (Nat.le_of_ble_eq_true rfl)
  rw [lg_entry_eq]
  generalize (lg_sl ([.ref x, .int 0]) ++ List.replicate (2 - (lg_sl ([.ref x, .int 0])).length) Slot.unset).toArray = ls at hl ⊢
  replace hl : lv_has ls 2 [(0, .ref x), (1, .int 0)] := hl
  obtain ⟨H, hH⟩ : ∃ z : Heap, z = s.heap := ⟨_, rfl⟩
  rw [← hH]
  replace hS : va_S A s.heap H [] := by rw [hH]; exact va_S.rf
  replace hP : va_P (dC, dI) vwCl [(x, .inr (11, [.ref nr, .ref st, .ref lf, .int 2, .int (nI tm), .int (nI fcn), .int xl, .int 0])), (nr, .inl (cN, 8, .inr (.inr (.inr (.inr fn)))))] H := by rw [hH]; exact hP
  clear hH
  refine lv_iload_n hx hb dX10_find_0 rfl (lv_at hl 1 rfl) ?_
  refine lv_if_lt (tgt := 27) hx hb dX10_find_1 (by decide) (fun c_1 => ?_) (fun c_1 => ?_)
  · exact absurd c_1 (by decide)
  refine lv_iload_n hx hb dX10_find_4 rfl (lv_at hl 1 rfl) ?_
  refine lv_aload_n hx hb dX10_find_5 rfl (lv_at hl 0 rfl) ?_
  refine va_get (D := (dC, dI)) (ci := 11) (v := .int 2) (C := RX10) (T := TX10) (N := 8) hx hb hts in_c_find_0_X10 hown hK hP 0 rfl rfl 3 (by decide) (hts (.fieldLink RX10 29 "ClaimBus" "nodeCount" "I") (List.mem_of_getElem? (i := 1) rfl)) (fun _ h9 => h9) rfl dX10_find_6 ?_
  refine lv_icmp_ge (tgt := 27) hx hb dX10_find_9 (by decide) (fun c_2 => ?_) (fun c_2 => ?_)
  · exact absurd c_2 (by decide)
  refine lv_iload_n hx hb dX10_find_12 rfl (lv_at hl 1 rfl) ?_
  refine lv_bipush (v := 8) hx hb dX10_find_13 (by decide) ?_
  refine lv_icmp_ge (tgt := 27) hx hb dX10_find_15 (by decide) (fun c_3 => ?_) (fun c_3 => ?_)
  · exact absurd c_3 (by decide)
  refine lv_aload_n hx hb dX10_find_18 rfl (lv_at hl 0 rfl) ?_
  refine va_get (D := (dC, dI)) (ci := 11) (v := .ref nr) (C := RX10) (T := TX10) (N := 8) hx hb hts in_c_find_0_X10 hown hK hP 0 rfl rfl 0 (by decide) (hts (.fieldLink RX10 11 "ClaimBus" "nodes" "[LClaimBus$Node;") (List.mem_of_getElem? (i := 2) rfl)) (fun _ h9 => h9) rfl dX10_find_19 ?_
  refine lv_iload_n hx hb dX10_find_22 rfl (lv_at hl 1 rfl) ?_
  refine va_aldq hx hb hK hP 1 0 rfl rfl (vp_in_nI (n := 0) (by omega) (by omega)) dX10_find_23 ?_
  refine W.eq (g2 := F0 m 24 ls [.ref an]) (by rw [(show Int32.toNatClampNeg (0 : Int32) = 0 by decide), n0]; rfl) ?_
  refine lv_goto (tgt := 28) hx hb dX10_find_24 (by decide) ?_
  exact W.aret (v := .ref an) hx hb hr (Or.inl ⟨_, rfl⟩) (Or.inr ⟨_, rfl⟩) (fun t ht hW => ⟨⟨some an, (), rfl, rfl, trivial⟩, hS.F ht⟩) hS.2.2 dX10_find_28

noncomputable def tl_c_find_1 : List Cond := wsX100
noncomputable def v_c_find_1 : List Cond := .code yX10_find cX10_find 2 (some (.object "ClaimBus$Node")) :: ([.fieldLink RX10 29 "ClaimBus" "nodeCount" "I", .fieldLink RX10 11 "ClaimBus" "nodes" "[LClaimBus$Node;"] ++ tl_c_find_1)
theorem it_c_find_1 : ∀ w ∈ tl_c_find_1, w ∈ v_c_find_1 := fun w h => List.mem_cons_of_mem _ (List.mem_append_right _ h)
theorem in_c_find_1_X10 : ∀ w ∈ wsX100, w ∈ v_c_find_1 := fun w h => it_c_find_1 w (h)
theorem gt_c_find_1 : ∀ w ∈ tl_c_find_1, goodWord w = true := gw_wsX100
theorem gw_c_find_1 : ∀ w ∈ v_c_find_1, goodWord w = true := List.forall_mem_cons.mpr ⟨by decide +kernel, List.forall_mem_append.mpr ⟨List.all_eq_true.mp (by decide +kernel), gt_c_find_1⟩⟩
set_option maxHeartbeats 4000000 in
set_option maxRecDepth 100000 in
theorem c_find_1 (l : Launch) (dC : Nat → ClassId) (dI : Nat → Nat → Nat) (x : Nat) (nr : Nat) (st : Nat) (lf : Nat) (tm : Nat) (fcn : Nat) (xl : Int32) (cN : ClassId) (fn : Nat → Option Nat) (bn : Nat) (sz : Nat) (n1 : fn 1 = some bn) : Met l yX10_find v_c_find_1 ({ frames := 0, cells := 0, slots := 0, locals := 0 }) (va_Pc [.ref x, .int 1] (fun U => U.heap.size = sz ∧ va_P (dC, dI) vwCl [(x, .inr (11, [.ref nr, .ref st, .ref lf, .int 2, .int (nI tm), .int (nI fcn), .int xl, .int 0])), (nr, .inl (cN, 8, .inr (.inr (.inr (.inr fn)))))] U.heap ∧ va_K (dC, dI) vwCl [(cN, (.object RX4))] U ∧ va_D (fun _ => True) [(x, .inr (11, [.ref nr, .ref st, .ref lf, .int 2, .int (nI tm), .int (nI fcn), .int xl, .int 0])), (nr, .inl (cN, 8, .inr (.inr (.inr (.inr fn)))))] ∧ ev U)) (va_Qq (fun (r : Option Nat) (_ : Unit) => r = some bn) (fun (_ : Unit) (_ : State) => True) (va_A [] sz)) 0 0 (va_A [] sz) := by
  refine Met.ofW (cc := cX10_find) (maxL := 2) (ret := (some (.object "ClaimBus$Node"))) (by decide) rfl ?_
  intro p e s m args below meth c s₁ B hml hv
  obtain ⟨rfl, hsz, hP, hK, hD0, hE⟩ := hv
  have hx := B.exec
  have hb := B.bytes
  have hr := B.returns
  have hts := atoms_spec (ws := v_c_find_1) B.pre
  have hown : s.vm.findClass RX10 = some m.cls := findClass_of_methodNamed B.named
  have hlocks := B.notSynchronized
  subst hsz
  have hD := hD0
  generalize hAe : va_A [] s.heap.size = A
  have hA : ∀ q : Nat, s.heap.size ≤ q → A q := fun q h => by rw [← hAe]; exact Or.inr h
  have hS : va_S A s.heap s.heap [] := va_S.rf
  replace hP : va_P (dC, dI) vwCl [(x, .inr (11, [.ref nr, .ref st, .ref lf, .int 2, .int (nI tm), .int (nI fcn), .int xl, .int 0])), (nr, .inl (cN, 8, .inr (.inr (.inr (.inr fn)))))] s.heap := hP
  have hl := lv_entry ([.ref x, .int 1]) (n := 2) (Nat.le_of_ble_eq_true rfl)
  rw [lg_entry_eq]
  generalize (lg_sl ([.ref x, .int 1]) ++ List.replicate (2 - (lg_sl ([.ref x, .int 1])).length) Slot.unset).toArray = ls at hl ⊢
  replace hl : lv_has ls 2 [(0, .ref x), (1, .int 1)] := hl
  obtain ⟨H, hH⟩ : ∃ z : Heap, z = s.heap := ⟨_, rfl⟩
  rw [← hH]
  replace hS : va_S A s.heap H [] := by rw [hH]; exact va_S.rf
  replace hP : va_P (dC, dI) vwCl [(x, .inr (11, [.ref nr, .ref st, .ref lf, .int 2, .int (nI tm), .int (nI fcn), .int xl, .int 0])), (nr, .inl (cN, 8, .inr (.inr (.inr (.inr fn)))))] H := by rw [hH]; exact hP
  clear hH
  refine lv_iload_n hx hb dX10_find_0 rfl (lv_at hl 1 rfl) ?_
  refine lv_if_lt (tgt := 27) hx hb dX10_find_1 (by decide) (fun c_1 => ?_) (fun c_1 => ?_)
  · exact absurd c_1 (by decide)
  refine lv_iload_n hx hb dX10_find_4 rfl (lv_at hl 1 rfl) ?_
  refine lv_aload_n hx hb dX10_find_5 rfl (lv_at hl 0 rfl) ?_
  refine va_get (D := (dC, dI)) (ci := 11) (v := .int 2) (C := RX10) (T := TX10) (N := 8) hx hb hts in_c_find_1_X10 hown hK hP 0 rfl rfl 3 (by decide) (hts (.fieldLink RX10 29 "ClaimBus" "nodeCount" "I") (List.mem_of_getElem? (i := 1) rfl)) (fun _ h9 => h9) rfl dX10_find_6 ?_
  refine lv_icmp_ge (tgt := 27) hx hb dX10_find_9 (by decide) (fun c_2 => ?_) (fun c_2 => ?_)
  · exact absurd c_2 (by decide)
  refine lv_iload_n hx hb dX10_find_12 rfl (lv_at hl 1 rfl) ?_
  refine lv_bipush (v := 8) hx hb dX10_find_13 (by decide) ?_
  refine lv_icmp_ge (tgt := 27) hx hb dX10_find_15 (by decide) (fun c_3 => ?_) (fun c_3 => ?_)
  · exact absurd c_3 (by decide)
  refine lv_aload_n hx hb dX10_find_18 rfl (lv_at hl 0 rfl) ?_
  refine va_get (D := (dC, dI)) (ci := 11) (v := .ref nr) (C := RX10) (T := TX10) (N := 8) hx hb hts in_c_find_1_X10 hown hK hP 0 rfl rfl 0 (by decide) (hts (.fieldLink RX10 11 "ClaimBus" "nodes" "[LClaimBus$Node;") (List.mem_of_getElem? (i := 2) rfl)) (fun _ h9 => h9) rfl dX10_find_19 ?_
  refine lv_iload_n hx hb dX10_find_22 rfl (lv_at hl 1 rfl) ?_
  refine va_aldq hx hb hK hP 1 0 rfl rfl (vp_in_nI (n := 1) (by omega) (by omega)) dX10_find_23 ?_
  refine W.eq (g2 := F0 m 24 ls [.ref bn]) (by rw [(show Int32.toNatClampNeg (1 : Int32) = 1 by decide), n1]; rfl) ?_
  refine lv_goto (tgt := 28) hx hb dX10_find_24 (by decide) ?_
  exact W.aret (v := .ref bn) hx hb hr (Or.inl ⟨_, rfl⟩) (Or.inr ⟨_, rfl⟩) (fun t ht hW => ⟨⟨some bn, (), rfl, rfl, trivial⟩, hS.F ht⟩) hS.2.2 dX10_find_28

noncomputable def v_c_find_no : List Cond := .code yX10_find cX10_find 2 (some (.object "ClaimBus$Node")) :: ([])
theorem gw_c_find_no : ∀ w ∈ v_c_find_no, goodWord w = true := List.forall_mem_cons.mpr ⟨by decide +kernel, List.all_eq_true.mp (by decide +kernel)⟩
set_option maxHeartbeats 4000000 in
set_option maxRecDepth 100000 in
theorem c_find_no (l : Launch) (dC : Nat → ClassId) (dI : Nat → Nat → Nat) (x : Nat) (nr : Nat) (st : Nat) (lf : Nat) (tm : Nat) (fcn : Nat) (xl : Int32) (cN : ClassId) (fn : Nat → Option Nat) (sz : Nat)  : Met l yX10_find v_c_find_no ({ frames := 0, cells := 0, slots := 0, locals := 0 }) (va_Pc [.ref x, .int (-1)] (fun U => U.heap.size = sz ∧ va_P (dC, dI) vwCl [(x, .inr (11, [.ref nr, .ref st, .ref lf, .int 2, .int (nI tm), .int (nI fcn), .int xl, .int 0])), (nr, .inl (cN, 8, .inr (.inr (.inr (.inr fn)))))] U.heap ∧ va_K (dC, dI) vwCl [(cN, (.object RX4))] U ∧ va_D (fun _ => True) [(x, .inr (11, [.ref nr, .ref st, .ref lf, .int 2, .int (nI tm), .int (nI fcn), .int xl, .int 0])), (nr, .inl (cN, 8, .inr (.inr (.inr (.inr fn)))))] ∧ ev U)) (va_Qq (fun (r : Option Nat) (_ : Unit) => r = none) (fun (_ : Unit) (_ : State) => True) (va_A [] sz)) 0 0 (va_A [] sz) := by
  refine Met.ofW (cc := cX10_find) (maxL := 2) (ret := (some (.object "ClaimBus$Node"))) (by decide) rfl ?_
  intro p e s m args below meth c s₁ B hml hv
  obtain ⟨rfl, hsz, hP, hK, hD0, hE⟩ := hv
  have hx := B.exec
  have hb := B.bytes
  have hr := B.returns
  have hts := atoms_spec (ws := v_c_find_no) B.pre
  have hown : s.vm.findClass RX10 = some m.cls := findClass_of_methodNamed B.named
  have hlocks := B.notSynchronized
  subst hsz
  have hD := hD0
  generalize hAe : va_A [] s.heap.size = A
  have hA : ∀ q : Nat, s.heap.size ≤ q → A q := fun q h => by rw [← hAe]; exact Or.inr h
  have hS : va_S A s.heap s.heap [] := va_S.rf
  replace hP : va_P (dC, dI) vwCl [(x, .inr (11, [.ref nr, .ref st, .ref lf, .int 2, .int (nI tm), .int (nI fcn), .int xl, .int 0])), (nr, .inl (cN, 8, .inr (.inr (.inr (.inr fn)))))] s.heap := hP
  have hl := lv_entry ([.ref x, .int (-1)]) (n := 2) (Nat.le_of_ble_eq_true rfl)
  rw [lg_entry_eq]
  generalize (lg_sl ([.ref x, .int (-1)]) ++ List.replicate (2 - (lg_sl ([.ref x, .int (-1)])).length) Slot.unset).toArray = ls at hl ⊢
  replace hl : lv_has ls 2 [(0, .ref x), (1, .int (-1))] := hl
  obtain ⟨H, hH⟩ : ∃ z : Heap, z = s.heap := ⟨_, rfl⟩
  rw [← hH]
  replace hS : va_S A s.heap H [] := by rw [hH]; exact va_S.rf
  replace hP : va_P (dC, dI) vwCl [(x, .inr (11, [.ref nr, .ref st, .ref lf, .int 2, .int (nI tm), .int (nI fcn), .int xl, .int 0])), (nr, .inl (cN, 8, .inr (.inr (.inr (.inr fn)))))] H := by rw [hH]; exact hP
  clear hH
  refine lv_iload_n hx hb dX10_find_0 rfl (lv_at hl 1 rfl) ?_
  refine lv_if_lt (tgt := 27) hx hb dX10_find_1 (by decide) (fun c_1 => ?_) (fun c_1 => ?_)
  rotate_left
  · exact absurd (by decide) c_1
  refine lv_null hx hb dX10_find_27 ?_
  exact W.aret (v := .null) hx hb hr (Or.inl ⟨_, rfl⟩) (Or.inl rfl) (fun t ht hW => ⟨⟨none, (), rfl, rfl, trivial⟩, hS.F ht⟩) hS.2.2 dX10_find_28

noncomputable def tl_c_nextMoment_f : List Cond := wsX100 ++ (wsX40 ++ (v_c_find_0 ++ (v_c_len_f)))
noncomputable def v_c_nextMoment_f : List Cond := .code yX10_nextMoment cX10_nextMoment 5 (some .int) :: ([.fieldLink RX10 29 "ClaimBus" "nodeCount" "I", .initialized RX10, .methodLink RX10 53 yX10_find, .instanceMethod yX10_find, .selects RX10 yX10_find yX10_find, .fieldLink RX10 74 "ClaimBus$Node" "row" "LClaimBus$Row;", .initialized RX5, .methodLink RX10 129 yX5_length, .instanceMethod yX5_length, .selects RX5 yX5_length yX5_length, .fieldLink RX10 33 "ClaimBus" "time" "I"] ++ tl_c_nextMoment_f)
theorem it_c_nextMoment_f : ∀ w ∈ tl_c_nextMoment_f, w ∈ v_c_nextMoment_f := fun w h => List.mem_cons_of_mem _ (List.mem_append_right _ h)
theorem in_c_nextMoment_f_X10 : ∀ w ∈ wsX100, w ∈ v_c_nextMoment_f := fun w h => it_c_nextMoment_f w (List.mem_append_left _ h)
theorem in_c_nextMoment_f_X4 : ∀ w ∈ wsX40, w ∈ v_c_nextMoment_f := fun w h => it_c_nextMoment_f w (List.mem_append_right _ (List.mem_append_left _ h))
theorem ic_c_nextMoment_f_c_find_0 : ∀ w ∈ v_c_find_0, w ∈ v_c_nextMoment_f := fun w h => it_c_nextMoment_f w (List.mem_append_right _ (List.mem_append_right _ (List.mem_append_left _ h)))
theorem ic_c_nextMoment_f_c_len_f : ∀ w ∈ v_c_len_f, w ∈ v_c_nextMoment_f := fun w h => it_c_nextMoment_f w (List.mem_append_right _ (List.mem_append_right _ (List.mem_append_right _ (h))))
theorem gt_c_nextMoment_f : ∀ w ∈ tl_c_nextMoment_f, goodWord w = true := List.forall_mem_append.mpr ⟨gw_wsX100, List.forall_mem_append.mpr ⟨gw_wsX40, List.forall_mem_append.mpr ⟨gw_c_find_0, gw_c_len_f⟩⟩⟩
theorem gw_c_nextMoment_f : ∀ w ∈ v_c_nextMoment_f, goodWord w = true := List.forall_mem_cons.mpr ⟨by decide +kernel, List.forall_mem_append.mpr ⟨List.all_eq_true.mp (by decide +kernel), gt_c_nextMoment_f⟩⟩
theorem g_c_nextMoment_f_c_find_0_53 : GoodIn v_c_nextMoment_f (wsV RX10 53 RX10 yX10_find v_c_find_0) := goodIn_app (goodIn_r [.methodLink RX10 53 yX10_find, .instanceMethod yX10_find, .selects RX10 yX10_find yX10_find, .initialized RX10] [3, 4, 5, 2] (by decide +kernel) (by decide +kernel)) (fun w h => ⟨ic_c_nextMoment_f_c_find_0 w h, good_of_word (gw_c_find_0 w h)⟩)
theorem g_c_nextMoment_f_c_len_f_129 : GoodIn v_c_nextMoment_f (wsV RX10 129 RX5 yX5_length v_c_len_f) := goodIn_app (goodIn_r [.methodLink RX10 129 yX5_length, .instanceMethod yX5_length, .selects RX5 yX5_length yX5_length, .initialized RX5] [8, 9, 10, 7] (by decide +kernel) (by decide +kernel)) (fun w h => ⟨ic_c_nextMoment_f_c_len_f w h, good_of_word (gw_c_len_f w h)⟩)
set_option maxHeartbeats 4000000 in
set_option maxRecDepth 100000 in
theorem c_nextMoment_f (l : Launch) (dC : Nat → ClassId) (dI : Nat → Nat → Nat) (x : Nat) (nr : Nat) (st : Nat) (lf : Nat) (tm : Nat) (fcn : Nat) (xl : Int32) (cN : ClassId) (fn : Nat → Option Nat) (an : Nat) (ah : Int32) (al : Int32) (awa : Int32) (afr : Int32) (awi : Nat) (ar : Nat) (ae : Nat) (as : Nat) (ai : Nat) (ag : Nat) (ac : Nat) (au : Nat) (acc : Nat) (arh : Int32) (arl : Int32) (arf : Nat) (nf : Nat) (ng : Nat) (ck : Nat) (bn : Nat) (en : Nat) (sz : Nat) (n0 : fn 0 = some an) (n1 : fn 1 = some bn) (hnf : 1 ≤ nf) (hnf2 : nf < 300) (htm : tm < 200000) : Met l yX10_nextMoment v_c_nextMoment_f ({ frames := 1, cells := 0, slots := 0, locals := 21 }) (va_Pc [.ref x, .int (nI en)] (fun U => U.heap.size = sz ∧ va_P (dC, dI) vwCl [(x, .inr (11, [.ref nr, .ref st, .ref lf, .int 2, .int (nI tm), .int (nI fcn), .int xl, .int 0])), (nr, .inl (cN, 8, .inr (.inr (.inr (.inr fn))))), (an, .inr (5, [.int ah, .int al, .int awa, .int afr, .int (nI awi), .ref ar, .ref ae, .ref as, .ref ai, .ref ag, .ref ac, .ref au, .int 0, .int 2, .int 10, .int (nI acc), .int 0, .int 0])), (ar, .inr (6, [.int arh, .int arl, .ref st, .ref ck, .ref ck, .int 0, .int 1, .int (nI nf), .int (nI ng), .int 0, .ref arf, .int 0]))] U.heap ∧ va_K (dC, dI) vwCl [(cN, (.object RX4))] U ∧ va_D (fun _ => True) [(x, .inr (11, [.ref nr, .ref st, .ref lf, .int 2, .int (nI tm), .int (nI fcn), .int xl, .int 0])), (nr, .inl (cN, 8, .inr (.inr (.inr (.inr fn))))), (an, .inr (5, [.int ah, .int al, .int awa, .int afr, .int (nI awi), .ref ar, .ref ae, .ref as, .ref ai, .ref ag, .ref ac, .ref au, .int 0, .int 2, .int 10, .int (nI acc), .int 0, .int 0])), (ar, .inr (6, [.int arh, .int arl, .ref st, .ref ck, .ref ck, .int 0, .int 1, .int (nI nf), .int (nI ng), .int 0, .ref arf, .int 0]))] ∧ ev U)) (va_Qi (fun (r : Int32) (_ : Unit) => r = (nI (tm + 1))) (fun (_ : Unit) (_ : State) => True) (va_A [] sz)) 0 0 (va_A [] sz) := by
  refine Met.ofW (cc := cX10_nextMoment) (maxL := 5) (ret := (some .int)) (by decide) rfl ?_
  intro p e s m args below meth c s₁ B hml hv
  obtain ⟨rfl, hsz, hP, hK, hD0, hE⟩ := hv
  have hx := B.exec
  have hb := B.bytes
  have hr := B.returns
  have hts := atoms_spec (ws := v_c_nextMoment_f) B.pre
  have hown : s.vm.findClass RX10 = some m.cls := findClass_of_methodNamed B.named
  have hlocks := B.notSynchronized
  subst hsz
  have hD := hD0
  generalize hAe : va_A [] s.heap.size = A
  have hA : ∀ q : Nat, s.heap.size ≤ q → A q := fun q h => by rw [← hAe]; exact Or.inr h
  have hS : va_S A s.heap s.heap [] := va_S.rf
  replace hP : va_P (dC, dI) vwCl [(x, .inr (11, [.ref nr, .ref st, .ref lf, .int 2, .int (nI tm), .int (nI fcn), .int xl, .int 0])), (nr, .inl (cN, 8, .inr (.inr (.inr (.inr fn))))), (an, .inr (5, [.int ah, .int al, .int awa, .int afr, .int (nI awi), .ref ar, .ref ae, .ref as, .ref ai, .ref ag, .ref ac, .ref au, .int 0, .int 2, .int 10, .int (nI acc), .int 0, .int 0])), (ar, .inr (6, [.int arh, .int arl, .ref st, .ref ck, .ref ck, .int 0, .int 1, .int (nI nf), .int (nI ng), .int 0, .ref arf, .int 0]))] s.heap := hP
  have hl := lv_entry ([.ref x, .int (nI en)]) (n := 5) (Nat.le_of_ble_eq_true rfl)
  rw [lg_entry_eq]
  generalize (lg_sl ([.ref x, .int (nI en)]) ++ List.replicate (5 - (lg_sl ([.ref x, .int (nI en)])).length) Slot.unset).toArray = ls at hl ⊢
  replace hl : lv_has ls 5 [(0, .ref x), (1, .int (nI en))] := hl
  obtain ⟨H, hH⟩ : ∃ z : Heap, z = s.heap := ⟨_, rfl⟩
  rw [← hH]
  replace hS : va_S A s.heap H [] := by rw [hH]; exact va_S.rf
  replace hP : va_P (dC, dI) vwCl [(x, .inr (11, [.ref nr, .ref st, .ref lf, .int 2, .int (nI tm), .int (nI fcn), .int xl, .int 0])), (nr, .inl (cN, 8, .inr (.inr (.inr (.inr fn))))), (an, .inr (5, [.int ah, .int al, .int awa, .int afr, .int (nI awi), .ref ar, .ref ae, .ref as, .ref ai, .ref ag, .ref ac, .ref au, .int 0, .int 2, .int 10, .int (nI acc), .int 0, .int 0])), (ar, .inr (6, [.int arh, .int arl, .ref st, .ref ck, .ref ck, .int 0, .int 1, .int (nI nf), .int (nI ng), .int 0, .ref arf, .int 0]))] H := by rw [hH]; exact hP
  clear hH
  refine lv_iload_n hx hb dX10_nextMoment_0 rfl (lv_at hl 1 rfl) ?_
  refine lv_istore_n (lv' := [(2, .int (nI en)), (0, .ref x), (1, .int (nI en))]) hx hb dX10_nextMoment_1 rfl hl (by decide) rfl (fun ls hl => ?_)
  refine lv_iconst (v := 0) hx hb dX10_nextMoment_2 (by decide) ?_
  refine lv_istore_n (lv' := [(3, .int 0), (2, .int (nI en)), (0, .ref x), (1, .int (nI en))]) hx hb dX10_nextMoment_3 rfl hl (by decide) rfl (fun ls hl => ?_)
  refine lv_iload_n hx hb dX10_nextMoment_4 rfl (lv_at hl 0 rfl) ?_
  refine lv_aload_n hx hb dX10_nextMoment_5 rfl (lv_at hl 2 rfl) ?_
  refine va_get (D := (dC, dI)) (ci := 11) (v := .int 2) (C := RX10) (T := TX10) (N := 8) hx hb hts in_c_nextMoment_f_X10 hown hK hP 0 rfl rfl 3 (by decide) (hts (.fieldLink RX10 29 "ClaimBus" "nodeCount" "I") (List.mem_of_getElem? (i := 1) rfl)) (fun _ h9 => h9) rfl dX10_nextMoment_6 ?_
  refine lv_icmp_ge (tgt := 63) hx hb dX10_nextMoment_9 (by decide) (fun c_1 => ?_) (fun c_1 => ?_)
  · exact absurd c_1 (by decide)
  refine lv_aload_n hx hb dX10_nextMoment_12 rfl (lv_at hl 2 rfl) ?_
  refine lv_iload_n hx hb dX10_nextMoment_13 rfl (lv_at hl 0 rfl) ?_
  have hPc := hP.sub (ws' := [(x, .inr (11, [.ref nr, .ref st, .ref lf, .int 2, .int (nI tm), .int (nI fcn), .int xl, .int 0])), (nr, .inl (cN, 8, .inr (.inr (.inr (.inr fn)))))]) [0, 1] rfl
  have hDc := hD.sub (ws' := [(x, .inr (11, [.ref nr, .ref st, .ref lf, .int 2, .int (nI tm), .int (nI fcn), .int xl, .int 0])), (nr, .inl (cN, 8, .inr (.inr (.inr (.inr fn)))))]) [0, 1] (by decide +kernel) rfl
  have hKc := hK.sub (tys' := [(cN, (.object RX4))]) [0] rfl
  have hFc := ro_free hS hA
  refine va_callq (va_runV (As := [.int 0]) (rest := []) ⟨hx, hb, hml, hown, hts⟩ (c_find_0 l dC dI (x) (nr) (st) (lf) (tm) (fcn) (xl) (cN) (fn) (an) H.size n0) (cwV 1 hts g_c_nextMoment_f_c_find_0_53 rfl rfl rfl (by decide +kernel) ⟨Nat.le_of_ble_eq_true rfl, Nat.le_of_ble_eq_true rfl⟩) ⟨fun a U g mk q => by obtain ⟨q0, q1, qP, qK, qD, qE⟩ := q; exact ⟨q0, q1, qP, va_K.moved (u := U) (U := U.calling g mk a) (Vm.Alike.refl U.vm) qK, qD, ev.same (u := U) (U := U.calling g mk a) rfl qE⟩, va_recv hKc hPc (ci := 11) (q0 := 0) rfl rfl, fun U hU hW => ⟨rfl, by rw [hU], by rw [hU]; exact hPc, va_K.moved hW.alike hKc, hDc.weaken (fun _ _ _ _ => trivial), hE.warm hW⟩⟩ rfl rfl hl.1 rfl (lv_room (Nat.le_of_ble_eq_true rfl)) dX10_nextMoment_14 ⟨Nat.le_of_ble_eq_true rfl, Nat.le_of_ble_eq_true rfl⟩) hS (fun q _ h => hFc q h) hFc (fun r_2 u t H1 locs ht hvm hw hB hz1 hk1 hS => ?_)
  clear hPc hDc hKc
  replace hP := ro_keep hP hk1
  generalize H1 = H at hP hS ⊢
  replace hP : va_P (dC, dI) vwCl [(x, .inr (11, [.ref nr, .ref st, .ref lf, .int 2, .int (nI tm), .int (nI fcn), .int xl, .int 0])), (nr, .inl (cN, 8, .inr (.inr (.inr (.inr fn))))), (an, .inr (5, [.int ah, .int al, .int awa, .int afr, .int (nI awi), .ref ar, .ref ae, .ref as, .ref ai, .ref ag, .ref ac, .ref au, .int 0, .int 2, .int 10, .int (nI acc), .int 0, .int 0])), (ar, .inr (6, [.int arh, .int arl, .ref st, .ref ck, .ref ck, .int 0, .int 1, .int (nI nf), .int (nI ng), .int 0, .ref arf, .int 0]))] H := hP
  have hw := hw.symm
  subst hw
  refine W.eq (g2 := F0 m 17 ls [.ref an]) rfl ?_
  refine lv_astore (lv' := [(4, .ref an), (3, .int 0), (2, .int (nI en)), (0, .ref x), (1, .int (nI en))]) hx hb dX10_nextMoment_17 hl (by decide) rfl (fun ls hl => ?_)
  refine lv_aload hx hb dX10_nextMoment_19 (lv_at hl 0 rfl) ?_
  refine lv_ifnull hx hb dX10_nextMoment_21 ?_
  refine lv_aload hx hb dX10_nextMoment_24 (lv_at hl 0 rfl) ?_
  refine va_get (D := (dC, dI)) (ci := 5) (v := .ref ar) (C := RX4) (T := TX4) (N := 18) hx hb hts in_c_nextMoment_f_X4 hown hK hP 2 rfl rfl 5 (by decide) (hts (.fieldLink RX10 74 "ClaimBus$Node" "row" "LClaimBus$Row;") (List.mem_of_getElem? (i := 6) rfl)) (fun _ h9 => h9) rfl dX10_nextMoment_26 ?_
  have hPc := hP.sub (ws' := [(ar, .inr (6, [.int arh, .int arl, .ref st, .ref ck, .ref ck, .int 0, .int 1, .int (nI nf), .int (nI ng), .int 0, .ref arf, .int 0]))]) [3] rfl
  have hDc := hD.sub (ws' := [(ar, .inr (6, [.int arh, .int arl, .ref st, .ref ck, .ref ck, .int 0, .int 1, .int (nI nf), .int (nI ng), .int 0, .ref arf, .int 0]))]) [3] (by decide +kernel) rfl
  have hKc := hK.sub (tys' := []) [] rfl
  have hFc := ro_free hS hA
  refine va_calli (va_runV (As := []) (rest := []) ⟨hx, hb, hml, hown, hts⟩ (c_len_f l dC dI (ar) (arh) (arl) (st) (arf) (nf) (ng) (ck) H.size) (cwV 0 hts g_c_nextMoment_f_c_len_f_129 rfl rfl rfl (by decide +kernel) ⟨Nat.le_of_ble_eq_true rfl, Nat.le_of_ble_eq_true rfl⟩) ⟨fun a U g mk q => by obtain ⟨q0, q1, qP, qK, qD, qE⟩ := q; exact ⟨q0, q1, qP, va_K.moved (u := U) (U := U.calling g mk a) (Vm.Alike.refl U.vm) qK, qD, ev.same (u := U) (U := U.calling g mk a) rfl qE⟩, va_recv hKc hPc (ci := 6) (q0 := 0) rfl rfl, fun U hU hW => ⟨rfl, by rw [hU], by rw [hU]; exact hPc, va_K.moved hW.alike hKc, hDc.weaken (fun _ _ _ _ => trivial), hE.warm hW⟩⟩ rfl rfl hl.1 rfl (lv_room (Nat.le_of_ble_eq_true rfl)) dX10_nextMoment_29 ⟨Nat.le_of_ble_eq_true rfl, Nat.le_of_ble_eq_true rfl⟩) hS (fun q _ h => hFc q h) hFc (fun r_3 u t H1 locs ht hvm hw hB hz1 hk1 hS => ?_)
  clear hPc hDc hKc
  replace hP := ro_keep hP hk1
  generalize H1 = H at hP hS ⊢
  replace hP : va_P (dC, dI) vwCl [(x, .inr (11, [.ref nr, .ref st, .ref lf, .int 2, .int (nI tm), .int (nI fcn), .int xl, .int 0])), (nr, .inl (cN, 8, .inr (.inr (.inr (.inr fn))))), (an, .inr (5, [.int ah, .int al, .int awa, .int afr, .int (nI awi), .ref ar, .ref ae, .ref as, .ref ai, .ref ag, .ref ac, .ref au, .int 0, .int 2, .int 10, .int (nI acc), .int 0, .int 0])), (ar, .inr (6, [.int arh, .int arl, .ref st, .ref ck, .ref ck, .int 0, .int 1, .int (nI nf), .int (nI ng), .int 0, .ref arf, .int 0]))] H := hP
  have hw := hw.symm
  subst hw
  refine lv_if_le (tgt := 42) hx hb dX10_nextMoment_32 (by decide) (fun c_4 => ?_) (fun c_4 => ?_)
  · exact absurd ((nI_leI (a := nf) (b := 0) (by omega) (by omega)).mp c_4) (by omega)
  refine lv_aload_n hx hb dX10_nextMoment_35 rfl (lv_at hl 3 rfl) ?_
  refine va_get (D := (dC, dI)) (ci := 11) (v := .int (nI tm)) (C := RX10) (T := TX10) (N := 8) hx hb hts in_c_nextMoment_f_X10 hown hK hP 0 rfl rfl 4 (by decide) (hts (.fieldLink RX10 33 "ClaimBus" "time" "I") (List.mem_of_getElem? (i := 11) rfl)) (fun _ h9 => h9) rfl dX10_nextMoment_36 ?_
  refine lv_iconst (v := 1) hx hb dX10_nextMoment_39 (by decide) ?_
  refine lv_iadd hx hb dX10_nextMoment_40 ?_
  refine lv_topi (fun x_5 ex_5 => ?_)
  obtain rfl : x_5 = (nI (tm + 1)) := ex_5.trans ((nI_add tm 1).trans (show nI (tm + 1) = nI (tm + 1) from congrArg nI (by omega)))
  exact W.iret (v := (nI (tm + 1))) hx hb hr (fun t ht hW => ⟨⟨(nI (tm + 1)), (), rfl, rfl, trivial⟩, hS.F ht⟩) hS.2.2 dX10_nextMoment_41

noncomputable def tl_c_nextMoment_ef : List Cond := wsX100 ++ (wsX40 ++ (v_c_find_0 ++ (v_c_len_e ++ (v_c_nextTimer_1nn ++ (v_c_find_1 ++ (v_c_len_f))))))
noncomputable def v_c_nextMoment_ef : List Cond := .code yX10_nextMoment cX10_nextMoment 5 (some .int) :: ([.fieldLink RX10 29 "ClaimBus" "nodeCount" "I", .initialized RX10, .methodLink RX10 53 yX10_find, .instanceMethod yX10_find, .selects RX10 yX10_find yX10_find, .fieldLink RX10 74 "ClaimBus$Node" "row" "LClaimBus$Row;", .initialized RX5, .methodLink RX10 129 yX5_length, .instanceMethod yX5_length, .selects RX5 yX5_length yX5_length, .initialized RX4, .methodLink RX10 199 yX4_nextTimer, .instanceMethod yX4_nextTimer, .selects RX4 yX4_nextTimer yX4_nextTimer, .methodLink RX10 202 Lib.Math.min.name, .static Lib.Math.min.name, .initialized "java/lang/Math", .code Lib.Math.min.name Lib.Math.min.code 2 (some .int), .fieldLink RX10 33 "ClaimBus" "time" "I"] ++ tl_c_nextMoment_ef)
theorem it_c_nextMoment_ef : ∀ w ∈ tl_c_nextMoment_ef, w ∈ v_c_nextMoment_ef := fun w h => List.mem_cons_of_mem _ (List.mem_append_right _ h)
theorem in_c_nextMoment_ef_X10 : ∀ w ∈ wsX100, w ∈ v_c_nextMoment_ef := fun w h => it_c_nextMoment_ef w (List.mem_append_left _ h)
theorem in_c_nextMoment_ef_X4 : ∀ w ∈ wsX40, w ∈ v_c_nextMoment_ef := fun w h => it_c_nextMoment_ef w (List.mem_append_right _ (List.mem_append_left _ h))
theorem ic_c_nextMoment_ef_c_find_0 : ∀ w ∈ v_c_find_0, w ∈ v_c_nextMoment_ef := fun w h => it_c_nextMoment_ef w (List.mem_append_right _ (List.mem_append_right _ (List.mem_append_left _ h)))
theorem ic_c_nextMoment_ef_c_len_e : ∀ w ∈ v_c_len_e, w ∈ v_c_nextMoment_ef := fun w h => it_c_nextMoment_ef w (List.mem_append_right _ (List.mem_append_right _ (List.mem_append_right _ (List.mem_append_left _ h))))
theorem ic_c_nextMoment_ef_c_nextTimer_1nn : ∀ w ∈ v_c_nextTimer_1nn, w ∈ v_c_nextMoment_ef := fun w h => it_c_nextMoment_ef w (List.mem_append_right _ (List.mem_append_right _ (List.mem_append_right _ (List.mem_append_right _ (List.mem_append_left _ h)))))
theorem ic_c_nextMoment_ef_c_find_1 : ∀ w ∈ v_c_find_1, w ∈ v_c_nextMoment_ef := fun w h => it_c_nextMoment_ef w (List.mem_append_right _ (List.mem_append_right _ (List.mem_append_right _ (List.mem_append_right _ (List.mem_append_right _ (List.mem_append_left _ h))))))
theorem ic_c_nextMoment_ef_c_len_f : ∀ w ∈ v_c_len_f, w ∈ v_c_nextMoment_ef := fun w h => it_c_nextMoment_ef w (List.mem_append_right _ (List.mem_append_right _ (List.mem_append_right _ (List.mem_append_right _ (List.mem_append_right _ (List.mem_append_right _ (h)))))))
theorem gt_c_nextMoment_ef : ∀ w ∈ tl_c_nextMoment_ef, goodWord w = true := List.forall_mem_append.mpr ⟨gw_wsX100, List.forall_mem_append.mpr ⟨gw_wsX40, List.forall_mem_append.mpr ⟨gw_c_find_0, List.forall_mem_append.mpr ⟨gw_c_len_e, List.forall_mem_append.mpr ⟨gw_c_nextTimer_1nn, List.forall_mem_append.mpr ⟨gw_c_find_1, gw_c_len_f⟩⟩⟩⟩⟩⟩
theorem gw_c_nextMoment_ef : ∀ w ∈ v_c_nextMoment_ef, goodWord w = true := List.forall_mem_cons.mpr ⟨by decide +kernel, List.forall_mem_append.mpr ⟨List.all_eq_true.mp (by decide +kernel), gt_c_nextMoment_ef⟩⟩
theorem g_c_nextMoment_ef_c_find_0_53 : GoodIn v_c_nextMoment_ef (wsV RX10 53 RX10 yX10_find v_c_find_0) := goodIn_app (goodIn_r [.methodLink RX10 53 yX10_find, .instanceMethod yX10_find, .selects RX10 yX10_find yX10_find, .initialized RX10] [3, 4, 5, 2] (by decide +kernel) (by decide +kernel)) (fun w h => ⟨ic_c_nextMoment_ef_c_find_0 w h, good_of_word (gw_c_find_0 w h)⟩)
theorem g_c_nextMoment_ef_c_len_e_129 : GoodIn v_c_nextMoment_ef (wsV RX10 129 RX5 yX5_length v_c_len_e) := goodIn_app (goodIn_r [.methodLink RX10 129 yX5_length, .instanceMethod yX5_length, .selects RX5 yX5_length yX5_length, .initialized RX5] [8, 9, 10, 7] (by decide +kernel) (by decide +kernel)) (fun w h => ⟨ic_c_nextMoment_ef_c_len_e w h, good_of_word (gw_c_len_e w h)⟩)
theorem g_c_nextMoment_ef_c_nextTimer_1nn_199 : GoodIn v_c_nextMoment_ef (wsV RX10 199 RX4 yX4_nextTimer v_c_nextTimer_1nn) := goodIn_app (goodIn_r [.methodLink RX10 199 yX4_nextTimer, .instanceMethod yX4_nextTimer, .selects RX4 yX4_nextTimer yX4_nextTimer, .initialized RX4] [12, 13, 14, 11] (by decide +kernel) (by decide +kernel)) (fun w h => ⟨ic_c_nextMoment_ef_c_nextTimer_1nn w h, good_of_word (gw_c_nextTimer_1nn w h)⟩)
theorem g_c_nextMoment_ef_c_find_1_53 : GoodIn v_c_nextMoment_ef (wsV RX10 53 RX10 yX10_find v_c_find_1) := goodIn_app (goodIn_r [.methodLink RX10 53 yX10_find, .instanceMethod yX10_find, .selects RX10 yX10_find yX10_find, .initialized RX10] [3, 4, 5, 2] (by decide +kernel) (by decide +kernel)) (fun w h => ⟨ic_c_nextMoment_ef_c_find_1 w h, good_of_word (gw_c_find_1 w h)⟩)
theorem g_c_nextMoment_ef_c_len_f_129 : GoodIn v_c_nextMoment_ef (wsV RX10 129 RX5 yX5_length v_c_len_f) := goodIn_app (goodIn_r [.methodLink RX10 129 yX5_length, .instanceMethod yX5_length, .selects RX5 yX5_length yX5_length, .initialized RX5] [8, 9, 10, 7] (by decide +kernel) (by decide +kernel)) (fun w h => ⟨ic_c_nextMoment_ef_c_len_f w h, good_of_word (gw_c_len_f w h)⟩)
set_option maxHeartbeats 4000000 in
set_option maxRecDepth 100000 in
theorem c_nextMoment_ef (l : Launch) (dC : Nat → ClassId) (dI : Nat → Nat → Nat) (x : Nat) (nr : Nat) (st : Nat) (lf : Nat) (tm : Nat) (fcn : Nat) (xl : Int32) (cN : ClassId) (fn : Nat → Option Nat) (an : Nat) (ah : Int32) (al : Int32) (awa : Int32) (afr : Int32) (awi : Nat) (ar : Nat) (ae : Nat) (as : Nat) (ai : Nat) (ag : Nat) (ac : Nat) (au : Nat) (acc : Nat) (arh : Int32) (arl : Int32) (arf : Nat) (ahp : Int32) (atp : Int32) (bn : Nat) (bh : Int32) (bl : Int32) (bwa : Int32) (bfr : Int32) (bwi : Nat) (br : Nat) (be : Nat) (bs : Nat) (bi : Nat) (bg : Nat) (bc : Nat) (bu : Nat) (bcc : Nat) (brh : Int32) (brl : Int32) (brf : Nat) (nf : Nat) (ng : Nat) (ck : Nat) (asnp : Int32) (sdu : Nat) (mm : Nat) (acT : ClassId) (afg : Nat → Option Nat) (acm : Nat) (ace : Nat) (en : Nat) (sz : Nat) (n0 : fn 0 = some an) (n1 : fn 1 = some bn) (hnf : 1 ≤ nf) (hnf2 : nf < 300) (htm : tm < 200000) (hsd : sdu < 300000) (ag0_ : afg 0 = none) (ag1_ : afg 1 = none) (ag2_ : afg 2 = none) (hen : en < 300000) : Met l yX10_nextMoment v_c_nextMoment_ef ({ frames := 2, cells := 0, slots := 0, locals := 45 }) (va_Pc [.ref x, .int (nI en)] (fun U => U.heap.size = sz ∧ va_P (dC, dI) vwCl [(x, .inr (11, [.ref nr, .ref st, .ref lf, .int 2, .int (nI tm), .int (nI fcn), .int xl, .int 0])), (nr, .inl (cN, 8, .inr (.inr (.inr (.inr fn))))), (an, .inr (5, [.int ah, .int al, .int awa, .int afr, .int (nI awi), .ref ar, .ref ae, .ref as, .ref ai, .ref ag, .ref ac, .ref au, .int 0, .int 2, .int 10, .int (nI acc), .int 0, .int 0])), (ar, .inr (6, [.int arh, .int arl, .ref st, .null, .null, .int ahp, .int atp, .int 0, .int 0, .int 0, .ref arf, .int 0])), (bn, .inr (5, [.int bh, .int bl, .int bwa, .int bfr, .int (nI bwi), .ref br, .ref be, .ref bs, .ref bi, .ref bg, .ref bc, .ref bu, .int 0, .int 2, .int 200, .int (nI bcc), .int 0, .int 0])), (br, .inr (6, [.int brh, .int brl, .ref st, .ref ck, .ref ck, .int 0, .int 1, .int (nI nf), .int (nI ng), .int 0, .ref brf, .int 0])), (as, .inr (7, [.int 1, .int asnp, .int (nI sdu), .ref mm])), (ag, .inl (acT, 3, .inr (.inr (.inr (.inr afg))))), (ac, .inr (0, [.int (nI acm), .ref ace, .int 0]))] U.heap ∧ va_K (dC, dI) vwCl [(cN, (.object RX4)), (acT, (.object RX9))] U ∧ va_D (fun _ => True) [(x, .inr (11, [.ref nr, .ref st, .ref lf, .int 2, .int (nI tm), .int (nI fcn), .int xl, .int 0])), (nr, .inl (cN, 8, .inr (.inr (.inr (.inr fn))))), (an, .inr (5, [.int ah, .int al, .int awa, .int afr, .int (nI awi), .ref ar, .ref ae, .ref as, .ref ai, .ref ag, .ref ac, .ref au, .int 0, .int 2, .int 10, .int (nI acc), .int 0, .int 0])), (ar, .inr (6, [.int arh, .int arl, .ref st, .null, .null, .int ahp, .int atp, .int 0, .int 0, .int 0, .ref arf, .int 0])), (bn, .inr (5, [.int bh, .int bl, .int bwa, .int bfr, .int (nI bwi), .ref br, .ref be, .ref bs, .ref bi, .ref bg, .ref bc, .ref bu, .int 0, .int 2, .int 200, .int (nI bcc), .int 0, .int 0])), (br, .inr (6, [.int brh, .int brl, .ref st, .ref ck, .ref ck, .int 0, .int 1, .int (nI nf), .int (nI ng), .int 0, .ref brf, .int 0])), (as, .inr (7, [.int 1, .int asnp, .int (nI sdu), .ref mm])), (ag, .inl (acT, 3, .inr (.inr (.inr (.inr afg))))), (ac, .inr (0, [.int (nI acm), .ref ace, .int 0]))] ∧ ev U)) (va_Qi (fun (r : Int32) (_ : Unit) => r = (nI (tm + 1))) (fun (_ : Unit) (_ : State) => True) (va_A [] sz)) 0 0 (va_A [] sz) := by
  refine Met.ofW (cc := cX10_nextMoment) (maxL := 5) (ret := (some .int)) (by decide) rfl ?_
  intro p e s m args below meth c s₁ B hml hv
  obtain ⟨rfl, hsz, hP, hK, hD0, hE⟩ := hv
  have hx := B.exec
  have hb := B.bytes
  have hr := B.returns
  have hts := atoms_spec (ws := v_c_nextMoment_ef) B.pre
  have hown : s.vm.findClass RX10 = some m.cls := findClass_of_methodNamed B.named
  have hlocks := B.notSynchronized
  subst hsz
  have hD := hD0
  generalize hAe : va_A [] s.heap.size = A
  have hA : ∀ q : Nat, s.heap.size ≤ q → A q := fun q h => by rw [← hAe]; exact Or.inr h
  have hS : va_S A s.heap s.heap [] := va_S.rf
  replace hP : va_P (dC, dI) vwCl [(x, .inr (11, [.ref nr, .ref st, .ref lf, .int 2, .int (nI tm), .int (nI fcn), .int xl, .int 0])), (nr, .inl (cN, 8, .inr (.inr (.inr (.inr fn))))), (an, .inr (5, [.int ah, .int al, .int awa, .int afr, .int (nI awi), .ref ar, .ref ae, .ref as, .ref ai, .ref ag, .ref ac, .ref au, .int 0, .int 2, .int 10, .int (nI acc), .int 0, .int 0])), (ar, .inr (6, [.int arh, .int arl, .ref st, .null, .null, .int ahp, .int atp, .int 0, .int 0, .int 0, .ref arf, .int 0])), (bn, .inr (5, [.int bh, .int bl, .int bwa, .int bfr, .int (nI bwi), .ref br, .ref be, .ref bs, .ref bi, .ref bg, .ref bc, .ref bu, .int 0, .int 2, .int 200, .int (nI bcc), .int 0, .int 0])), (br, .inr (6, [.int brh, .int brl, .ref st, .ref ck, .ref ck, .int 0, .int 1, .int (nI nf), .int (nI ng), .int 0, .ref brf, .int 0])), (as, .inr (7, [.int 1, .int asnp, .int (nI sdu), .ref mm])), (ag, .inl (acT, 3, .inr (.inr (.inr (.inr afg))))), (ac, .inr (0, [.int (nI acm), .ref ace, .int 0]))] s.heap := hP
  have hl := lv_entry ([.ref x, .int (nI en)]) (n := 5) (Nat.le_of_ble_eq_true rfl)
  rw [lg_entry_eq]
  generalize (lg_sl ([.ref x, .int (nI en)]) ++ List.replicate (5 - (lg_sl ([.ref x, .int (nI en)])).length) Slot.unset).toArray = ls at hl ⊢
  replace hl : lv_has ls 5 [(0, .ref x), (1, .int (nI en))] := hl
  obtain ⟨H, hH⟩ : ∃ z : Heap, z = s.heap := ⟨_, rfl⟩
  rw [← hH]
  replace hS : va_S A s.heap H [] := by rw [hH]; exact va_S.rf
  replace hP : va_P (dC, dI) vwCl [(x, .inr (11, [.ref nr, .ref st, .ref lf, .int 2, .int (nI tm), .int (nI fcn), .int xl, .int 0])), (nr, .inl (cN, 8, .inr (.inr (.inr (.inr fn))))), (an, .inr (5, [.int ah, .int al, .int awa, .int afr, .int (nI awi), .ref ar, .ref ae, .ref as, .ref ai, .ref ag, .ref ac, .ref au, .int 0, .int 2, .int 10, .int (nI acc), .int 0, .int 0])), (ar, .inr (6, [.int arh, .int arl, .ref st, .null, .null, .int ahp, .int atp, .int 0, .int 0, .int 0, .ref arf, .int 0])), (bn, .inr (5, [.int bh, .int bl, .int bwa, .int bfr, .int (nI bwi), .ref br, .ref be, .ref bs, .ref bi, .ref bg, .ref bc, .ref bu, .int 0, .int 2, .int 200, .int (nI bcc), .int 0, .int 0])), (br, .inr (6, [.int brh, .int brl, .ref st, .ref ck, .ref ck, .int 0, .int 1, .int (nI nf), .int (nI ng), .int 0, .ref brf, .int 0])), (as, .inr (7, [.int 1, .int asnp, .int (nI sdu), .ref mm])), (ag, .inl (acT, 3, .inr (.inr (.inr (.inr afg))))), (ac, .inr (0, [.int (nI acm), .ref ace, .int 0]))] H := by rw [hH]; exact hP
  clear hH
  refine lv_iload_n hx hb dX10_nextMoment_0 rfl (lv_at hl 1 rfl) ?_
  refine lv_istore_n (lv' := [(2, .int (nI en)), (0, .ref x), (1, .int (nI en))]) hx hb dX10_nextMoment_1 rfl hl (by decide) rfl (fun ls hl => ?_)
  refine lv_iconst (v := 0) hx hb dX10_nextMoment_2 (by decide) ?_
  refine lv_istore_n (lv' := [(3, .int 0), (2, .int (nI en)), (0, .ref x), (1, .int (nI en))]) hx hb dX10_nextMoment_3 rfl hl (by decide) rfl (fun ls hl => ?_)
  refine lv_iload_n hx hb dX10_nextMoment_4 rfl (lv_at hl 0 rfl) ?_
  refine lv_aload_n hx hb dX10_nextMoment_5 rfl (lv_at hl 2 rfl) ?_
  refine va_get (D := (dC, dI)) (ci := 11) (v := .int 2) (C := RX10) (T := TX10) (N := 8) hx hb hts in_c_nextMoment_ef_X10 hown hK hP 0 rfl rfl 3 (by decide) (hts (.fieldLink RX10 29 "ClaimBus" "nodeCount" "I") (List.mem_of_getElem? (i := 1) rfl)) (fun _ h9 => h9) rfl dX10_nextMoment_6 ?_
  refine lv_icmp_ge (tgt := 63) hx hb dX10_nextMoment_9 (by decide) (fun c_1 => ?_) (fun c_1 => ?_)
  · exact absurd c_1 (by decide)
  refine lv_aload_n hx hb dX10_nextMoment_12 rfl (lv_at hl 2 rfl) ?_
  refine lv_iload_n hx hb dX10_nextMoment_13 rfl (lv_at hl 0 rfl) ?_
  have hPc := hP.sub (ws' := [(x, .inr (11, [.ref nr, .ref st, .ref lf, .int 2, .int (nI tm), .int (nI fcn), .int xl, .int 0])), (nr, .inl (cN, 8, .inr (.inr (.inr (.inr fn)))))]) [0, 1] rfl
  have hDc := hD.sub (ws' := [(x, .inr (11, [.ref nr, .ref st, .ref lf, .int 2, .int (nI tm), .int (nI fcn), .int xl, .int 0])), (nr, .inl (cN, 8, .inr (.inr (.inr (.inr fn)))))]) [0, 1] (by decide +kernel) rfl
  have hKc := hK.sub (tys' := [(cN, (.object RX4))]) [0] rfl
  have hFc := ro_free hS hA
  refine va_callq (va_runV (As := [.int 0]) (rest := []) ⟨hx, hb, hml, hown, hts⟩ (c_find_0 l dC dI (x) (nr) (st) (lf) (tm) (fcn) (xl) (cN) (fn) (an) H.size n0) (cwV 1 hts g_c_nextMoment_ef_c_find_0_53 rfl rfl rfl (by decide +kernel) ⟨Nat.le_of_ble_eq_true rfl, Nat.le_of_ble_eq_true rfl⟩) ⟨fun a U g mk q => by obtain ⟨q0, q1, qP, qK, qD, qE⟩ := q; exact ⟨q0, q1, qP, va_K.moved (u := U) (U := U.calling g mk a) (Vm.Alike.refl U.vm) qK, qD, ev.same (u := U) (U := U.calling g mk a) rfl qE⟩, va_recv hKc hPc (ci := 11) (q0 := 0) rfl rfl, fun U hU hW => ⟨rfl, by rw [hU], by rw [hU]; exact hPc, va_K.moved hW.alike hKc, hDc.weaken (fun _ _ _ _ => trivial), hE.warm hW⟩⟩ rfl rfl hl.1 rfl (lv_room (Nat.le_of_ble_eq_true rfl)) dX10_nextMoment_14 ⟨Nat.le_of_ble_eq_true rfl, Nat.le_of_ble_eq_true rfl⟩) hS (fun q _ h => hFc q h) hFc (fun r_2 u t H1 locs ht hvm hw hB hz1 hk1 hS => ?_)
  clear hPc hDc hKc
  replace hP := ro_keep hP hk1
  generalize H1 = H at hP hS ⊢
  replace hP : va_P (dC, dI) vwCl [(x, .inr (11, [.ref nr, .ref st, .ref lf, .int 2, .int (nI tm), .int (nI fcn), .int xl, .int 0])), (nr, .inl (cN, 8, .inr (.inr (.inr (.inr fn))))), (an, .inr (5, [.int ah, .int al, .int awa, .int afr, .int (nI awi), .ref ar, .ref ae, .ref as, .ref ai, .ref ag, .ref ac, .ref au, .int 0, .int 2, .int 10, .int (nI acc), .int 0, .int 0])), (ar, .inr (6, [.int arh, .int arl, .ref st, .null, .null, .int ahp, .int atp, .int 0, .int 0, .int 0, .ref arf, .int 0])), (bn, .inr (5, [.int bh, .int bl, .int bwa, .int bfr, .int (nI bwi), .ref br, .ref be, .ref bs, .ref bi, .ref bg, .ref bc, .ref bu, .int 0, .int 2, .int 200, .int (nI bcc), .int 0, .int 0])), (br, .inr (6, [.int brh, .int brl, .ref st, .ref ck, .ref ck, .int 0, .int 1, .int (nI nf), .int (nI ng), .int 0, .ref brf, .int 0])), (as, .inr (7, [.int 1, .int asnp, .int (nI sdu), .ref mm])), (ag, .inl (acT, 3, .inr (.inr (.inr (.inr afg))))), (ac, .inr (0, [.int (nI acm), .ref ace, .int 0]))] H := hP
  have hw := hw.symm
  subst hw
  refine W.eq (g2 := F0 m 17 ls [.ref an]) rfl ?_
  refine lv_astore (lv' := [(4, .ref an), (3, .int 0), (2, .int (nI en)), (0, .ref x), (1, .int (nI en))]) hx hb dX10_nextMoment_17 hl (by decide) rfl (fun ls hl => ?_)
  refine lv_aload hx hb dX10_nextMoment_19 (lv_at hl 0 rfl) ?_
  refine lv_ifnull hx hb dX10_nextMoment_21 ?_
  refine lv_aload hx hb dX10_nextMoment_24 (lv_at hl 0 rfl) ?_
  refine va_get (D := (dC, dI)) (ci := 5) (v := .ref ar) (C := RX4) (T := TX4) (N := 18) hx hb hts in_c_nextMoment_ef_X4 hown hK hP 2 rfl rfl 5 (by decide) (hts (.fieldLink RX10 74 "ClaimBus$Node" "row" "LClaimBus$Row;") (List.mem_of_getElem? (i := 6) rfl)) (fun _ h9 => h9) rfl dX10_nextMoment_26 ?_
  have hPc := hP.sub (ws' := [(ar, .inr (6, [.int arh, .int arl, .ref st, .null, .null, .int ahp, .int atp, .int 0, .int 0, .int 0, .ref arf, .int 0]))]) [3] rfl
  have hDc := hD.sub (ws' := [(ar, .inr (6, [.int arh, .int arl, .ref st, .null, .null, .int ahp, .int atp, .int 0, .int 0, .int 0, .ref arf, .int 0]))]) [3] (by decide +kernel) rfl
  have hKc := hK.sub (tys' := []) [] rfl
  have hFc := ro_free hS hA
  refine va_calli (va_runV (As := []) (rest := []) ⟨hx, hb, hml, hown, hts⟩ (c_len_e l dC dI (ar) (arh) (arl) (st) (arf) (ahp) (atp) H.size) (cwV 0 hts g_c_nextMoment_ef_c_len_e_129 rfl rfl rfl (by decide +kernel) ⟨Nat.le_of_ble_eq_true rfl, Nat.le_of_ble_eq_true rfl⟩) ⟨fun a U g mk q => by obtain ⟨q0, q1, qP, qK, qD, qE⟩ := q; exact ⟨q0, q1, qP, va_K.moved (u := U) (U := U.calling g mk a) (Vm.Alike.refl U.vm) qK, qD, ev.same (u := U) (U := U.calling g mk a) rfl qE⟩, va_recv hKc hPc (ci := 6) (q0 := 0) rfl rfl, fun U hU hW => ⟨rfl, by rw [hU], by rw [hU]; exact hPc, va_K.moved hW.alike hKc, hDc.weaken (fun _ _ _ _ => trivial), hE.warm hW⟩⟩ rfl rfl hl.1 rfl (lv_room (Nat.le_of_ble_eq_true rfl)) dX10_nextMoment_29 ⟨Nat.le_of_ble_eq_true rfl, Nat.le_of_ble_eq_true rfl⟩) hS (fun q _ h => hFc q h) hFc (fun r_3 u t H1 locs ht hvm hw hB hz1 hk1 hS => ?_)
  clear hPc hDc hKc
  replace hP := ro_keep hP hk1
  generalize H1 = H at hP hS ⊢
  replace hP : va_P (dC, dI) vwCl [(x, .inr (11, [.ref nr, .ref st, .ref lf, .int 2, .int (nI tm), .int (nI fcn), .int xl, .int 0])), (nr, .inl (cN, 8, .inr (.inr (.inr (.inr fn))))), (an, .inr (5, [.int ah, .int al, .int awa, .int afr, .int (nI awi), .ref ar, .ref ae, .ref as, .ref ai, .ref ag, .ref ac, .ref au, .int 0, .int 2, .int 10, .int (nI acc), .int 0, .int 0])), (ar, .inr (6, [.int arh, .int arl, .ref st, .null, .null, .int ahp, .int atp, .int 0, .int 0, .int 0, .ref arf, .int 0])), (bn, .inr (5, [.int bh, .int bl, .int bwa, .int bfr, .int (nI bwi), .ref br, .ref be, .ref bs, .ref bi, .ref bg, .ref bc, .ref bu, .int 0, .int 2, .int 200, .int (nI bcc), .int 0, .int 0])), (br, .inr (6, [.int brh, .int brl, .ref st, .ref ck, .ref ck, .int 0, .int 1, .int (nI nf), .int (nI ng), .int 0, .ref brf, .int 0])), (as, .inr (7, [.int 1, .int asnp, .int (nI sdu), .ref mm])), (ag, .inl (acT, 3, .inr (.inr (.inr (.inr afg))))), (ac, .inr (0, [.int (nI acm), .ref ace, .int 0]))] H := hP
  have hw := hw.symm
  subst hw
  refine lv_if_le (tgt := 42) hx hb dX10_nextMoment_32 (by decide) (fun c_4 => ?_) (fun c_4 => ?_)
  rotate_left
  · exact absurd (by decide) c_4
  refine lv_aload hx hb dX10_nextMoment_42 (lv_at hl 0 rfl) ?_
  refine lv_ifnull hx hb dX10_nextMoment_44 ?_
  refine lv_iload_n hx hb dX10_nextMoment_47 rfl (lv_at hl 2 rfl) ?_
  refine lv_aload hx hb dX10_nextMoment_48 (lv_at hl 0 rfl) ?_
  have hPc := hP.sub (ws' := [(an, .inr (5, [.int ah, .int al, .int awa, .int afr, .int (nI awi), .ref ar, .ref ae, .ref as, .ref ai, .ref ag, .ref ac, .ref au, .int 0, .int 2, .int (nI 10), .int (nI acc), .int 0, .int 0])), (as, .inr (7, [.int 1, .int asnp, .int (nI sdu), .ref mm])), (ac, .inr (0, [.int (nI acm), .ref ace, .int 0])), (ag, .inl (acT, 3, .inr (.inr (.inr (.inr afg)))))]) [2, 6, 8, 7] rfl
  have hDc := hD.sub (ws' := [(an, .inr (5, [.int ah, .int al, .int awa, .int afr, .int (nI awi), .ref ar, .ref ae, .ref as, .ref ai, .ref ag, .ref ac, .ref au, .int 0, .int 2, .int (nI 10), .int (nI acc), .int 0, .int 0])), (as, .inr (7, [.int 1, .int asnp, .int (nI sdu), .ref mm])), (ac, .inr (0, [.int (nI acm), .ref ace, .int 0])), (ag, .inl (acT, 3, .inr (.inr (.inr (.inr afg)))))]) [2, 6, 8, 7] (by decide +kernel) rfl
  have hKc := hK.sub (tys' := [(acT, (.object RX9))]) [1] rfl
  have hFc := ro_free hS hA
  refine va_calli (va_runV (As := []) (rest := [.int (nI en)]) ⟨hx, hb, hml, hown, hts⟩ (c_nextTimer_1nn l dC dI (an) (ah) (al) (awa) (afr) (awi) (ar) (ae) (as) (ai) (ag) (ac) (au) (10) (acc) (asnp) (sdu) (mm) (acm) (ace) (acT) (afg) H.size ag0_ ag1_ ag2_ hsd) (cwV 0 hts g_c_nextMoment_ef_c_nextTimer_1nn_199 rfl rfl rfl (by decide +kernel) ⟨Nat.le_of_ble_eq_true rfl, Nat.le_of_ble_eq_true rfl⟩) ⟨fun a U g mk q => by obtain ⟨q0, q1, qP, qK, qD, qE⟩ := q; exact ⟨q0, q1, qP, va_K.moved (u := U) (U := U.calling g mk a) (Vm.Alike.refl U.vm) qK, qD, ev.same (u := U) (U := U.calling g mk a) rfl qE⟩, va_recv hKc hPc (ci := 5) (q0 := 0) rfl rfl, fun U hU hW => ⟨rfl, by rw [hU], by rw [hU]; exact hPc, va_K.moved hW.alike hKc, hDc.weaken (fun _ _ _ _ => trivial), hE.warm hW⟩⟩ rfl rfl hl.1 rfl (lv_room (Nat.le_of_ble_eq_true rfl)) dX10_nextMoment_50 ⟨Nat.le_of_ble_eq_true rfl, Nat.le_of_ble_eq_true rfl⟩) hS (fun q _ h => hFc q h) hFc (fun r_5 u t H1 locs ht hvm hw hB hz1 hk1 hS => ?_)
  clear hPc hDc hKc
  replace hP := ro_keep hP hk1
  generalize H1 = H at hP hS ⊢
  replace hP : va_P (dC, dI) vwCl [(x, .inr (11, [.ref nr, .ref st, .ref lf, .int 2, .int (nI tm), .int (nI fcn), .int xl, .int 0])), (nr, .inl (cN, 8, .inr (.inr (.inr (.inr fn))))), (an, .inr (5, [.int ah, .int al, .int awa, .int afr, .int (nI awi), .ref ar, .ref ae, .ref as, .ref ai, .ref ag, .ref ac, .ref au, .int 0, .int 2, .int 10, .int (nI acc), .int 0, .int 0])), (ar, .inr (6, [.int arh, .int arl, .ref st, .null, .null, .int ahp, .int atp, .int 0, .int 0, .int 0, .ref arf, .int 0])), (bn, .inr (5, [.int bh, .int bl, .int bwa, .int bfr, .int (nI bwi), .ref br, .ref be, .ref bs, .ref bi, .ref bg, .ref bc, .ref bu, .int 0, .int 2, .int 200, .int (nI bcc), .int 0, .int 0])), (br, .inr (6, [.int brh, .int brl, .ref st, .ref ck, .ref ck, .int 0, .int 1, .int (nI nf), .int (nI ng), .int 0, .ref brf, .int 0])), (as, .inr (7, [.int 1, .int asnp, .int (nI sdu), .ref mm])), (ag, .inl (acT, 3, .inr (.inr (.inr (.inr afg))))), (ac, .inr (0, [.int (nI acm), .ref ace, .int 0]))] H := hP
  have hw := hw.symm
  subst hw
  refine va_mmin hx hb (by rw [hml]; exact hl.1.symm) hown (hts (.methodLink RX10 202 Lib.Math.min.name) (List.mem_of_getElem? (i := 15) rfl)) (hts (.static Lib.Math.min.name) (List.mem_of_getElem? (i := 16) rfl)) (hts (.initialized "java/lang/Math") (List.mem_of_getElem? (i := 17) rfl)) (hts (.code Lib.Math.min.name Lib.Math.min.code 2 (some .int)) (List.mem_of_getElem? (i := 18) rfl)) (Nat.le_of_ble_eq_true rfl) (Nat.le_of_ble_eq_true rfl) (Nat.zero_le _) (Nat.zero_le _) dX10_nextMoment_53 ?_
  obtain ⟨mn_6, hmn_6⟩ : ∃ z : Nat, z = min en sdu := ⟨_, rfl⟩
  refine lv_topi (fun x_6 ex_6 => ?_)
  obtain rfl : x_6 = nI mn_6 := ex_6.trans ((q_min (a := en) (b := sdu) (by omega) (by omega)).trans (congrArg nI hmn_6.symm))
  refine lv_istore_n (lv' := [(2, .int (nI mn_6)), (4, .ref an), (3, .int 0), (0, .ref x), (1, .int (nI en))]) hx hb dX10_nextMoment_56 rfl hl (by decide) rfl (fun ls hl => ?_)
  refine lv_iinc (v := 1) (lv' := [(3, .int 1), (2, .int (nI mn_6)), (4, .ref an), (0, .ref x), (1, .int (nI en))]) hx hb dX10_nextMoment_57 hl (k := 2) rfl (by decide) (by decide) rfl (fun ls hl => ?_)
  refine lv_goto (tgt := 4) hx hb dX10_nextMoment_60 (by decide) ?_
  refine lv_iload_n hx hb dX10_nextMoment_4 rfl (lv_at hl 0 rfl) ?_
  refine lv_aload_n hx hb dX10_nextMoment_5 rfl (lv_at hl 3 rfl) ?_
  refine va_get (D := (dC, dI)) (ci := 11) (v := .int 2) (C := RX10) (T := TX10) (N := 8) hx hb hts in_c_nextMoment_ef_X10 hown hK hP 0 rfl rfl 3 (by decide) (hts (.fieldLink RX10 29 "ClaimBus" "nodeCount" "I") (List.mem_of_getElem? (i := 1) rfl)) (fun _ h9 => h9) rfl dX10_nextMoment_6 ?_
  refine lv_icmp_ge (tgt := 63) hx hb dX10_nextMoment_9 (by decide) (fun c_7 => ?_) (fun c_7 => ?_)
  · exact absurd c_7 (by decide)
  refine lv_aload_n hx hb dX10_nextMoment_12 rfl (lv_at hl 3 rfl) ?_
  refine lv_iload_n hx hb dX10_nextMoment_13 rfl (lv_at hl 0 rfl) ?_
  have hPc := hP.sub (ws' := [(x, .inr (11, [.ref nr, .ref st, .ref lf, .int 2, .int (nI tm), .int (nI fcn), .int xl, .int 0])), (nr, .inl (cN, 8, .inr (.inr (.inr (.inr fn)))))]) [0, 1] rfl
  have hDc := hD.sub (ws' := [(x, .inr (11, [.ref nr, .ref st, .ref lf, .int 2, .int (nI tm), .int (nI fcn), .int xl, .int 0])), (nr, .inl (cN, 8, .inr (.inr (.inr (.inr fn)))))]) [0, 1] (by decide +kernel) rfl
  have hKc := hK.sub (tys' := [(cN, (.object RX4))]) [0] rfl
  have hFc := ro_free hS hA
  refine va_callq (va_runV (As := [.int 1]) (rest := []) ⟨hx, hb, hml, hown, hts⟩ (c_find_1 l dC dI (x) (nr) (st) (lf) (tm) (fcn) (xl) (cN) (fn) (bn) H.size n1) (cwV 1 hts g_c_nextMoment_ef_c_find_1_53 rfl rfl rfl (by decide +kernel) ⟨Nat.le_of_ble_eq_true rfl, Nat.le_of_ble_eq_true rfl⟩) ⟨fun a U g mk q => by obtain ⟨q0, q1, qP, qK, qD, qE⟩ := q; exact ⟨q0, q1, qP, va_K.moved (u := U) (U := U.calling g mk a) (Vm.Alike.refl U.vm) qK, qD, ev.same (u := U) (U := U.calling g mk a) rfl qE⟩, va_recv hKc hPc (ci := 11) (q0 := 0) rfl rfl, fun U hU hW => ⟨rfl, by rw [hU], by rw [hU]; exact hPc, va_K.moved hW.alike hKc, hDc.weaken (fun _ _ _ _ => trivial), hE.warm hW⟩⟩ rfl rfl hl.1 rfl (lv_room (Nat.le_of_ble_eq_true rfl)) dX10_nextMoment_14 ⟨Nat.le_of_ble_eq_true rfl, Nat.le_of_ble_eq_true rfl⟩) hS (fun q _ h => hFc q h) hFc (fun r_8 u t H1 locs ht hvm hw hB hz1 hk1 hS => ?_)
  clear hPc hDc hKc
  replace hP := ro_keep hP hk1
  generalize H1 = H at hP hS ⊢
  replace hP : va_P (dC, dI) vwCl [(x, .inr (11, [.ref nr, .ref st, .ref lf, .int 2, .int (nI tm), .int (nI fcn), .int xl, .int 0])), (nr, .inl (cN, 8, .inr (.inr (.inr (.inr fn))))), (an, .inr (5, [.int ah, .int al, .int awa, .int afr, .int (nI awi), .ref ar, .ref ae, .ref as, .ref ai, .ref ag, .ref ac, .ref au, .int 0, .int 2, .int 10, .int (nI acc), .int 0, .int 0])), (ar, .inr (6, [.int arh, .int arl, .ref st, .null, .null, .int ahp, .int atp, .int 0, .int 0, .int 0, .ref arf, .int 0])), (bn, .inr (5, [.int bh, .int bl, .int bwa, .int bfr, .int (nI bwi), .ref br, .ref be, .ref bs, .ref bi, .ref bg, .ref bc, .ref bu, .int 0, .int 2, .int 200, .int (nI bcc), .int 0, .int 0])), (br, .inr (6, [.int brh, .int brl, .ref st, .ref ck, .ref ck, .int 0, .int 1, .int (nI nf), .int (nI ng), .int 0, .ref brf, .int 0])), (as, .inr (7, [.int 1, .int asnp, .int (nI sdu), .ref mm])), (ag, .inl (acT, 3, .inr (.inr (.inr (.inr afg))))), (ac, .inr (0, [.int (nI acm), .ref ace, .int 0]))] H := hP
  have hw := hw.symm
  subst hw
  refine W.eq (g2 := F0 m 17 ls [.ref bn]) rfl ?_
  refine lv_astore (lv' := [(4, .ref bn), (3, .int 1), (2, .int (nI mn_6)), (0, .ref x), (1, .int (nI en))]) hx hb dX10_nextMoment_17 hl (by decide) rfl (fun ls hl => ?_)
  refine lv_aload hx hb dX10_nextMoment_19 (lv_at hl 0 rfl) ?_
  refine lv_ifnull hx hb dX10_nextMoment_21 ?_
  refine lv_aload hx hb dX10_nextMoment_24 (lv_at hl 0 rfl) ?_
  refine va_get (D := (dC, dI)) (ci := 5) (v := .ref br) (C := RX4) (T := TX4) (N := 18) hx hb hts in_c_nextMoment_ef_X4 hown hK hP 4 rfl rfl 5 (by decide) (hts (.fieldLink RX10 74 "ClaimBus$Node" "row" "LClaimBus$Row;") (List.mem_of_getElem? (i := 6) rfl)) (fun _ h9 => h9) rfl dX10_nextMoment_26 ?_
  have hPc := hP.sub (ws' := [(br, .inr (6, [.int brh, .int brl, .ref st, .ref ck, .ref ck, .int 0, .int 1, .int (nI nf), .int (nI ng), .int 0, .ref brf, .int 0]))]) [5] rfl
  have hDc := hD.sub (ws' := [(br, .inr (6, [.int brh, .int brl, .ref st, .ref ck, .ref ck, .int 0, .int 1, .int (nI nf), .int (nI ng), .int 0, .ref brf, .int 0]))]) [5] (by decide +kernel) rfl
  have hKc := hK.sub (tys' := []) [] rfl
  have hFc := ro_free hS hA
  refine va_calli (va_runV (As := []) (rest := []) ⟨hx, hb, hml, hown, hts⟩ (c_len_f l dC dI (br) (brh) (brl) (st) (brf) (nf) (ng) (ck) H.size) (cwV 0 hts g_c_nextMoment_ef_c_len_f_129 rfl rfl rfl (by decide +kernel) ⟨Nat.le_of_ble_eq_true rfl, Nat.le_of_ble_eq_true rfl⟩) ⟨fun a U g mk q => by obtain ⟨q0, q1, qP, qK, qD, qE⟩ := q; exact ⟨q0, q1, qP, va_K.moved (u := U) (U := U.calling g mk a) (Vm.Alike.refl U.vm) qK, qD, ev.same (u := U) (U := U.calling g mk a) rfl qE⟩, va_recv hKc hPc (ci := 6) (q0 := 0) rfl rfl, fun U hU hW => ⟨rfl, by rw [hU], by rw [hU]; exact hPc, va_K.moved hW.alike hKc, hDc.weaken (fun _ _ _ _ => trivial), hE.warm hW⟩⟩ rfl rfl hl.1 rfl (lv_room (Nat.le_of_ble_eq_true rfl)) dX10_nextMoment_29 ⟨Nat.le_of_ble_eq_true rfl, Nat.le_of_ble_eq_true rfl⟩) hS (fun q _ h => hFc q h) hFc (fun r_9 u t H1 locs ht hvm hw hB hz1 hk1 hS => ?_)
  clear hPc hDc hKc
  replace hP := ro_keep hP hk1
  generalize H1 = H at hP hS ⊢
  replace hP : va_P (dC, dI) vwCl [(x, .inr (11, [.ref nr, .ref st, .ref lf, .int 2, .int (nI tm), .int (nI fcn), .int xl, .int 0])), (nr, .inl (cN, 8, .inr (.inr (.inr (.inr fn))))), (an, .inr (5, [.int ah, .int al, .int awa, .int afr, .int (nI awi), .ref ar, .ref ae, .ref as, .ref ai, .ref ag, .ref ac, .ref au, .int 0, .int 2, .int 10, .int (nI acc), .int 0, .int 0])), (ar, .inr (6, [.int arh, .int arl, .ref st, .null, .null, .int ahp, .int atp, .int 0, .int 0, .int 0, .ref arf, .int 0])), (bn, .inr (5, [.int bh, .int bl, .int bwa, .int bfr, .int (nI bwi), .ref br, .ref be, .ref bs, .ref bi, .ref bg, .ref bc, .ref bu, .int 0, .int 2, .int 200, .int (nI bcc), .int 0, .int 0])), (br, .inr (6, [.int brh, .int brl, .ref st, .ref ck, .ref ck, .int 0, .int 1, .int (nI nf), .int (nI ng), .int 0, .ref brf, .int 0])), (as, .inr (7, [.int 1, .int asnp, .int (nI sdu), .ref mm])), (ag, .inl (acT, 3, .inr (.inr (.inr (.inr afg))))), (ac, .inr (0, [.int (nI acm), .ref ace, .int 0]))] H := hP
  have hw := hw.symm
  subst hw
  refine lv_if_le (tgt := 42) hx hb dX10_nextMoment_32 (by decide) (fun c_10 => ?_) (fun c_10 => ?_)
  · exact absurd ((nI_leI (a := nf) (b := 0) (by omega) (by omega)).mp c_10) (by omega)
  refine lv_aload_n hx hb dX10_nextMoment_35 rfl (lv_at hl 3 rfl) ?_
  refine va_get (D := (dC, dI)) (ci := 11) (v := .int (nI tm)) (C := RX10) (T := TX10) (N := 8) hx hb hts in_c_nextMoment_ef_X10 hown hK hP 0 rfl rfl 4 (by decide) (hts (.fieldLink RX10 33 "ClaimBus" "time" "I") (List.mem_of_getElem? (i := 19) rfl)) (fun _ h9 => h9) rfl dX10_nextMoment_36 ?_
  refine lv_iconst (v := 1) hx hb dX10_nextMoment_39 (by decide) ?_
  refine lv_iadd hx hb dX10_nextMoment_40 ?_
  refine lv_topi (fun x_11 ex_11 => ?_)
  obtain rfl : x_11 = (nI (tm + 1)) := ex_11.trans ((nI_add tm 1).trans (show nI (tm + 1) = nI (tm + 1) from congrArg nI (by omega)))
  exact W.iret (v := (nI (tm + 1))) hx hb hr (fun t ht hW => ⟨⟨(nI (tm + 1)), (), rfl, rfl, trivial⟩, hS.F ht⟩) hS.2.2 dX10_nextMoment_41

noncomputable def tl_c_nextMoment_inc : List Cond := wsX100 ++ (wsX40 ++ (v_c_find_0 ++ (v_c_len_e ++ (v_c_nextTimer_2nn ++ (v_c_find_1 ++ (v_c_nextTimer_0nc))))))
noncomputable def v_c_nextMoment_inc : List Cond := .code yX10_nextMoment cX10_nextMoment 5 (some .int) :: ([.fieldLink RX10 29 "ClaimBus" "nodeCount" "I", .initialized RX10, .methodLink RX10 53 yX10_find, .instanceMethod yX10_find, .selects RX10 yX10_find yX10_find, .fieldLink RX10 74 "ClaimBus$Node" "row" "LClaimBus$Row;", .initialized RX5, .methodLink RX10 129 yX5_length, .instanceMethod yX5_length, .selects RX5 yX5_length yX5_length, .initialized RX4, .methodLink RX10 199 yX4_nextTimer, .instanceMethod yX4_nextTimer, .selects RX4 yX4_nextTimer yX4_nextTimer, .methodLink RX10 202 Lib.Math.min.name, .static Lib.Math.min.name, .initialized "java/lang/Math", .code Lib.Math.min.name Lib.Math.min.code 2 (some .int), .fieldLink RX10 33 "ClaimBus" "time" "I", .methodLink RX10 207 Lib.Math.max.name, .static Lib.Math.max.name, .code Lib.Math.max.name Lib.Math.max.code 2 (some .int)] ++ tl_c_nextMoment_inc)
theorem it_c_nextMoment_inc : ∀ w ∈ tl_c_nextMoment_inc, w ∈ v_c_nextMoment_inc := fun w h => List.mem_cons_of_mem _ (List.mem_append_right _ h)
theorem in_c_nextMoment_inc_X10 : ∀ w ∈ wsX100, w ∈ v_c_nextMoment_inc := fun w h => it_c_nextMoment_inc w (List.mem_append_left _ h)
theorem in_c_nextMoment_inc_X4 : ∀ w ∈ wsX40, w ∈ v_c_nextMoment_inc := fun w h => it_c_nextMoment_inc w (List.mem_append_right _ (List.mem_append_left _ h))
theorem ic_c_nextMoment_inc_c_find_0 : ∀ w ∈ v_c_find_0, w ∈ v_c_nextMoment_inc := fun w h => it_c_nextMoment_inc w (List.mem_append_right _ (List.mem_append_right _ (List.mem_append_left _ h)))
theorem ic_c_nextMoment_inc_c_len_e : ∀ w ∈ v_c_len_e, w ∈ v_c_nextMoment_inc := fun w h => it_c_nextMoment_inc w (List.mem_append_right _ (List.mem_append_right _ (List.mem_append_right _ (List.mem_append_left _ h))))
theorem ic_c_nextMoment_inc_c_nextTimer_2nn : ∀ w ∈ v_c_nextTimer_2nn, w ∈ v_c_nextMoment_inc := fun w h => it_c_nextMoment_inc w (List.mem_append_right _ (List.mem_append_right _ (List.mem_append_right _ (List.mem_append_right _ (List.mem_append_left _ h)))))
theorem ic_c_nextMoment_inc_c_find_1 : ∀ w ∈ v_c_find_1, w ∈ v_c_nextMoment_inc := fun w h => it_c_nextMoment_inc w (List.mem_append_right _ (List.mem_append_right _ (List.mem_append_right _ (List.mem_append_right _ (List.mem_append_right _ (List.mem_append_left _ h))))))
theorem ic_c_nextMoment_inc_c_nextTimer_0nc : ∀ w ∈ v_c_nextTimer_0nc, w ∈ v_c_nextMoment_inc := fun w h => it_c_nextMoment_inc w (List.mem_append_right _ (List.mem_append_right _ (List.mem_append_right _ (List.mem_append_right _ (List.mem_append_right _ (List.mem_append_right _ (h)))))))
theorem gt_c_nextMoment_inc : ∀ w ∈ tl_c_nextMoment_inc, goodWord w = true := List.forall_mem_append.mpr ⟨gw_wsX100, List.forall_mem_append.mpr ⟨gw_wsX40, List.forall_mem_append.mpr ⟨gw_c_find_0, List.forall_mem_append.mpr ⟨gw_c_len_e, List.forall_mem_append.mpr ⟨gw_c_nextTimer_2nn, List.forall_mem_append.mpr ⟨gw_c_find_1, gw_c_nextTimer_0nc⟩⟩⟩⟩⟩⟩
theorem gw_c_nextMoment_inc : ∀ w ∈ v_c_nextMoment_inc, goodWord w = true := List.forall_mem_cons.mpr ⟨by decide +kernel, List.forall_mem_append.mpr ⟨List.all_eq_true.mp (by decide +kernel), gt_c_nextMoment_inc⟩⟩
theorem g_c_nextMoment_inc_c_find_0_53 : GoodIn v_c_nextMoment_inc (wsV RX10 53 RX10 yX10_find v_c_find_0) := goodIn_app (goodIn_r [.methodLink RX10 53 yX10_find, .instanceMethod yX10_find, .selects RX10 yX10_find yX10_find, .initialized RX10] [3, 4, 5, 2] (by decide +kernel) (by decide +kernel)) (fun w h => ⟨ic_c_nextMoment_inc_c_find_0 w h, good_of_word (gw_c_find_0 w h)⟩)
theorem g_c_nextMoment_inc_c_len_e_129 : GoodIn v_c_nextMoment_inc (wsV RX10 129 RX5 yX5_length v_c_len_e) := goodIn_app (goodIn_r [.methodLink RX10 129 yX5_length, .instanceMethod yX5_length, .selects RX5 yX5_length yX5_length, .initialized RX5] [8, 9, 10, 7] (by decide +kernel) (by decide +kernel)) (fun w h => ⟨ic_c_nextMoment_inc_c_len_e w h, good_of_word (gw_c_len_e w h)⟩)
theorem g_c_nextMoment_inc_c_nextTimer_2nn_199 : GoodIn v_c_nextMoment_inc (wsV RX10 199 RX4 yX4_nextTimer v_c_nextTimer_2nn) := goodIn_app (goodIn_r [.methodLink RX10 199 yX4_nextTimer, .instanceMethod yX4_nextTimer, .selects RX4 yX4_nextTimer yX4_nextTimer, .initialized RX4] [12, 13, 14, 11] (by decide +kernel) (by decide +kernel)) (fun w h => ⟨ic_c_nextMoment_inc_c_nextTimer_2nn w h, good_of_word (gw_c_nextTimer_2nn w h)⟩)
theorem g_c_nextMoment_inc_c_find_1_53 : GoodIn v_c_nextMoment_inc (wsV RX10 53 RX10 yX10_find v_c_find_1) := goodIn_app (goodIn_r [.methodLink RX10 53 yX10_find, .instanceMethod yX10_find, .selects RX10 yX10_find yX10_find, .initialized RX10] [3, 4, 5, 2] (by decide +kernel) (by decide +kernel)) (fun w h => ⟨ic_c_nextMoment_inc_c_find_1 w h, good_of_word (gw_c_find_1 w h)⟩)
theorem g_c_nextMoment_inc_c_nextTimer_0nc_199 : GoodIn v_c_nextMoment_inc (wsV RX10 199 RX4 yX4_nextTimer v_c_nextTimer_0nc) := goodIn_app (goodIn_r [.methodLink RX10 199 yX4_nextTimer, .instanceMethod yX4_nextTimer, .selects RX4 yX4_nextTimer yX4_nextTimer, .initialized RX4] [12, 13, 14, 11] (by decide +kernel) (by decide +kernel)) (fun w h => ⟨ic_c_nextMoment_inc_c_nextTimer_0nc w h, good_of_word (gw_c_nextTimer_0nc w h)⟩)
set_option maxHeartbeats 4000000 in
set_option maxRecDepth 100000 in
theorem c_nextMoment_inc (l : Launch) (dC : Nat → ClassId) (dI : Nat → Nat → Nat) (x : Nat) (nr : Nat) (st : Nat) (lf : Nat) (tm : Nat) (fcn : Nat) (xl : Int32) (cN : ClassId) (fn : Nat → Option Nat) (an : Nat) (ah : Int32) (al : Int32) (awa : Int32) (afr : Int32) (awi : Nat) (ar : Nat) (ae : Nat) (as : Nat) (ai : Nat) (ag : Nat) (ac : Nat) (au : Nat) (acc : Nat) (arh : Int32) (arl : Int32) (arf : Nat) (ahp : Int32) (atp : Int32) (bn : Nat) (bh : Int32) (bl : Int32) (bwa : Int32) (bfr : Int32) (bwi : Nat) (br : Nat) (be : Nat) (bs : Nat) (bi : Nat) (bg : Nat) (bc : Nat) (bu : Nat) (bcc : Nat) (brh : Int32) (brl : Int32) (brf : Nat) (bhp : Int32) (btp : Int32) (asnp : Int32) (asdo : Int32) (mm : Nat) (bsnp : Int32) (bsdo : Int32) (acT : ClassId) (afg : Nat → Option Nat) (acm : Nat) (ace : Nat) (bcm : Nat) (bce : Nat) (bcT : ClassId) (bfg : Nat → Option Nat) (tr : Nat) (j1 : Int32) (j2 : Int32) (j3 : Int32) (j4 : Int32) (j5 : Int32) (j6 : Int32) (j7 : Int32) (j8 : Int32) (j9 : Int32) (j10 : Int32) (j11 : Int32) (jw : Nat) (jb : Nat) (en : Nat) (sz : Nat) (n0 : fn 0 = some an) (n1 : fn 1 = some bn) (htm : tm < 200000) (ag0_ : afg 0 = none) (ag1_ : afg 1 = none) (ag2_ : afg 2 = none) (bg0_ : bfg 0 = some tr) (bg1_ : bfg 1 = none) (bg2_ : bfg 2 = none) (hen : tm < en ∧ en < 300000) : Met l yX10_nextMoment v_c_nextMoment_inc ({ frames := 2, cells := 0, slots := 0, locals := 45 }) (va_Pc [.ref x, .int (nI en)] (fun U => U.heap.size = sz ∧ va_P (dC, dI) vwCl [(x, .inr (11, [.ref nr, .ref st, .ref lf, .int 2, .int (nI tm), .int (nI fcn), .int xl, .int 0])), (nr, .inl (cN, 8, .inr (.inr (.inr (.inr fn))))), (an, .inr (5, [.int ah, .int al, .int awa, .int afr, .int (nI awi), .ref ar, .ref ae, .ref as, .ref ai, .ref ag, .ref ac, .ref au, .int 0, .int 2, .int 10, .int (nI acc), .int 0, .int 0])), (ar, .inr (6, [.int arh, .int arl, .ref st, .null, .null, .int ahp, .int atp, .int 0, .int 0, .int 0, .ref arf, .int 0])), (bn, .inr (5, [.int bh, .int bl, .int bwa, .int bfr, .int (nI bwi), .ref br, .ref be, .ref bs, .ref bi, .ref bg, .ref bc, .ref bu, .int 0, .int 2, .int 200, .int (nI bcc), .int 0, .int 0])), (br, .inr (6, [.int brh, .int brl, .ref st, .null, .null, .int bhp, .int btp, .int 0, .int 0, .int 0, .ref brf, .int 0])), (as, .inr (7, [.int 2, .int asnp, .int asdo, .ref mm])), (bs, .inr (7, [.int 0, .int bsnp, .int bsdo, .null])), (ag, .inl (acT, 3, .inr (.inr (.inr (.inr afg))))), (ac, .inr (0, [.int (nI acm), .ref ace, .int 0])), (bc, .inr (0, [.int (nI bcm), .ref bce, .int 0])), (bg, .inl (bcT, 3, .inr (.inr (.inr (.inr bfg))))), (tr, .inr (10, [.int 0, .int j1, .int j2, .int j3, .int j4, .int j5, .int j6, .int j7, .int j8, .int j9, .int j10, .int j11, .ref jw, .ref jb]))] U.heap ∧ va_K (dC, dI) vwCl [(cN, (.object RX4)), (acT, (.object RX9)), (bcT, (.object RX9))] U ∧ va_D (fun _ => True) [(x, .inr (11, [.ref nr, .ref st, .ref lf, .int 2, .int (nI tm), .int (nI fcn), .int xl, .int 0])), (nr, .inl (cN, 8, .inr (.inr (.inr (.inr fn))))), (an, .inr (5, [.int ah, .int al, .int awa, .int afr, .int (nI awi), .ref ar, .ref ae, .ref as, .ref ai, .ref ag, .ref ac, .ref au, .int 0, .int 2, .int 10, .int (nI acc), .int 0, .int 0])), (ar, .inr (6, [.int arh, .int arl, .ref st, .null, .null, .int ahp, .int atp, .int 0, .int 0, .int 0, .ref arf, .int 0])), (bn, .inr (5, [.int bh, .int bl, .int bwa, .int bfr, .int (nI bwi), .ref br, .ref be, .ref bs, .ref bi, .ref bg, .ref bc, .ref bu, .int 0, .int 2, .int 200, .int (nI bcc), .int 0, .int 0])), (br, .inr (6, [.int brh, .int brl, .ref st, .null, .null, .int bhp, .int btp, .int 0, .int 0, .int 0, .ref brf, .int 0])), (as, .inr (7, [.int 2, .int asnp, .int asdo, .ref mm])), (bs, .inr (7, [.int 0, .int bsnp, .int bsdo, .null])), (ag, .inl (acT, 3, .inr (.inr (.inr (.inr afg))))), (ac, .inr (0, [.int (nI acm), .ref ace, .int 0])), (bc, .inr (0, [.int (nI bcm), .ref bce, .int 0])), (bg, .inl (bcT, 3, .inr (.inr (.inr (.inr bfg))))), (tr, .inr (10, [.int 0, .int j1, .int j2, .int j3, .int j4, .int j5, .int j6, .int j7, .int j8, .int j9, .int j10, .int j11, .ref jw, .ref jb]))] ∧ ev U)) (va_Qi (fun (r : Int32) (_ : Unit) => r = (nI en)) (fun (_ : Unit) (_ : State) => True) (va_A [] sz)) 0 0 (va_A [] sz) := by
  refine Met.ofW (cc := cX10_nextMoment) (maxL := 5) (ret := (some .int)) (by decide) rfl ?_
  intro p e s m args below meth c s₁ B hml hv
  obtain ⟨rfl, hsz, hP, hK, hD0, hE⟩ := hv
  have hx := B.exec
  have hb := B.bytes
  have hr := B.returns
  have hts := atoms_spec (ws := v_c_nextMoment_inc) B.pre
  have hown : s.vm.findClass RX10 = some m.cls := findClass_of_methodNamed B.named
  have hlocks := B.notSynchronized
  subst hsz
  have hD := hD0
  generalize hAe : va_A [] s.heap.size = A
  have hA : ∀ q : Nat, s.heap.size ≤ q → A q := fun q h => by rw [← hAe]; exact Or.inr h
  have hS : va_S A s.heap s.heap [] := va_S.rf
  replace hP : va_P (dC, dI) vwCl [(x, .inr (11, [.ref nr, .ref st, .ref lf, .int 2, .int (nI tm), .int (nI fcn), .int xl, .int 0])), (nr, .inl (cN, 8, .inr (.inr (.inr (.inr fn))))), (an, .inr (5, [.int ah, .int al, .int awa, .int afr, .int (nI awi), .ref ar, .ref ae, .ref as, .ref ai, .ref ag, .ref ac, .ref au, .int 0, .int 2, .int 10, .int (nI acc), .int 0, .int 0])), (ar, .inr (6, [.int arh, .int arl, .ref st, .null, .null, .int ahp, .int atp, .int 0, .int 0, .int 0, .ref arf, .int 0])), (bn, .inr (5, [.int bh, .int bl, .int bwa, .int bfr, .int (nI bwi), .ref br, .ref be, .ref bs, .ref bi, .ref bg, .ref bc, .ref bu, .int 0, .int 2, .int 200, .int (nI bcc), .int 0, .int 0])), (br, .inr (6, [.int brh, .int brl, .ref st, .null, .null, .int bhp, .int btp, .int 0, .int 0, .int 0, .ref brf, .int 0])), (as, .inr (7, [.int 2, .int asnp, .int asdo, .ref mm])), (bs, .inr (7, [.int 0, .int bsnp, .int bsdo, .null])), (ag, .inl (acT, 3, .inr (.inr (.inr (.inr afg))))), (ac, .inr (0, [.int (nI acm), .ref ace, .int 0])), (bc, .inr (0, [.int (nI bcm), .ref bce, .int 0])), (bg, .inl (bcT, 3, .inr (.inr (.inr (.inr bfg))))), (tr, .inr (10, [.int 0, .int j1, .int j2, .int j3, .int j4, .int j5, .int j6, .int j7, .int j8, .int j9, .int j10, .int j11, .ref jw, .ref jb]))] s.heap := hP
  have hl := lv_entry ([.ref x, .int (nI en)]) (n := 5) (Nat.le_of_ble_eq_true rfl)
  rw [lg_entry_eq]
  generalize (lg_sl ([.ref x, .int (nI en)]) ++ List.replicate (5 - (lg_sl ([.ref x, .int (nI en)])).length) Slot.unset).toArray = ls at hl ⊢
  replace hl : lv_has ls 5 [(0, .ref x), (1, .int (nI en))] := hl
  obtain ⟨H, hH⟩ : ∃ z : Heap, z = s.heap := ⟨_, rfl⟩
  rw [← hH]
  replace hS : va_S A s.heap H [] := by rw [hH]; exact va_S.rf
  replace hP : va_P (dC, dI) vwCl [(x, .inr (11, [.ref nr, .ref st, .ref lf, .int 2, .int (nI tm), .int (nI fcn), .int xl, .int 0])), (nr, .inl (cN, 8, .inr (.inr (.inr (.inr fn))))), (an, .inr (5, [.int ah, .int al, .int awa, .int afr, .int (nI awi), .ref ar, .ref ae, .ref as, .ref ai, .ref ag, .ref ac, .ref au, .int 0, .int 2, .int 10, .int (nI acc), .int 0, .int 0])), (ar, .inr (6, [.int arh, .int arl, .ref st, .null, .null, .int ahp, .int atp, .int 0, .int 0, .int 0, .ref arf, .int 0])), (bn, .inr (5, [.int bh, .int bl, .int bwa, .int bfr, .int (nI bwi), .ref br, .ref be, .ref bs, .ref bi, .ref bg, .ref bc, .ref bu, .int 0, .int 2, .int 200, .int (nI bcc), .int 0, .int 0])), (br, .inr (6, [.int brh, .int brl, .ref st, .null, .null, .int bhp, .int btp, .int 0, .int 0, .int 0, .ref brf, .int 0])), (as, .inr (7, [.int 2, .int asnp, .int asdo, .ref mm])), (bs, .inr (7, [.int 0, .int bsnp, .int bsdo, .null])), (ag, .inl (acT, 3, .inr (.inr (.inr (.inr afg))))), (ac, .inr (0, [.int (nI acm), .ref ace, .int 0])), (bc, .inr (0, [.int (nI bcm), .ref bce, .int 0])), (bg, .inl (bcT, 3, .inr (.inr (.inr (.inr bfg))))), (tr, .inr (10, [.int 0, .int j1, .int j2, .int j3, .int j4, .int j5, .int j6, .int j7, .int j8, .int j9, .int j10, .int j11, .ref jw, .ref jb]))] H := by rw [hH]; exact hP
  clear hH
  refine lv_iload_n hx hb dX10_nextMoment_0 rfl (lv_at hl 1 rfl) ?_
  refine lv_istore_n (lv' := [(2, .int (nI en)), (0, .ref x), (1, .int (nI en))]) hx hb dX10_nextMoment_1 rfl hl (by decide) rfl (fun ls hl => ?_)
  refine lv_iconst (v := 0) hx hb dX10_nextMoment_2 (by decide) ?_
  refine lv_istore_n (lv' := [(3, .int 0), (2, .int (nI en)), (0, .ref x), (1, .int (nI en))]) hx hb dX10_nextMoment_3 rfl hl (by decide) rfl (fun ls hl => ?_)
  refine lv_iload_n hx hb dX10_nextMoment_4 rfl (lv_at hl 0 rfl) ?_
  refine lv_aload_n hx hb dX10_nextMoment_5 rfl (lv_at hl 2 rfl) ?_
  refine va_get (D := (dC, dI)) (ci := 11) (v := .int 2) (C := RX10) (T := TX10) (N := 8) hx hb hts in_c_nextMoment_inc_X10 hown hK hP 0 rfl rfl 3 (by decide) (hts (.fieldLink RX10 29 "ClaimBus" "nodeCount" "I") (List.mem_of_getElem? (i := 1) rfl)) (fun _ h9 => h9) rfl dX10_nextMoment_6 ?_
  refine lv_icmp_ge (tgt := 63) hx hb dX10_nextMoment_9 (by decide) (fun c_1 => ?_) (fun c_1 => ?_)
  · exact absurd c_1 (by decide)
  refine lv_aload_n hx hb dX10_nextMoment_12 rfl (lv_at hl 2 rfl) ?_
  refine lv_iload_n hx hb dX10_nextMoment_13 rfl (lv_at hl 0 rfl) ?_
  have hPc := hP.sub (ws' := [(x, .inr (11, [.ref nr, .ref st, .ref lf, .int 2, .int (nI tm), .int (nI fcn), .int xl, .int 0])), (nr, .inl (cN, 8, .inr (.inr (.inr (.inr fn)))))]) [0, 1] rfl
  have hDc := hD.sub (ws' := [(x, .inr (11, [.ref nr, .ref st, .ref lf, .int 2, .int (nI tm), .int (nI fcn), .int xl, .int 0])), (nr, .inl (cN, 8, .inr (.inr (.inr (.inr fn)))))]) [0, 1] (by decide +kernel) rfl
  have hKc := hK.sub (tys' := [(cN, (.object RX4))]) [0] rfl
  have hFc := ro_free hS hA
  refine va_callq (va_runV (As := [.int 0]) (rest := []) ⟨hx, hb, hml, hown, hts⟩ (c_find_0 l dC dI (x) (nr) (st) (lf) (tm) (fcn) (xl) (cN) (fn) (an) H.size n0) (cwV 1 hts g_c_nextMoment_inc_c_find_0_53 rfl rfl rfl (by decide +kernel) ⟨Nat.le_of_ble_eq_true rfl, Nat.le_of_ble_eq_true rfl⟩) ⟨fun a U g mk q => by obtain ⟨q0, q1, qP, qK, qD, qE⟩ := q; exact ⟨q0, q1, qP, va_K.moved (u := U) (U := U.calling g mk a) (Vm.Alike.refl U.vm) qK, qD, ev.same (u := U) (U := U.calling g mk a) rfl qE⟩, va_recv hKc hPc (ci := 11) (q0 := 0) rfl rfl, fun U hU hW => ⟨rfl, by rw [hU], by rw [hU]; exact hPc, va_K.moved hW.alike hKc, hDc.weaken (fun _ _ _ _ => trivial), hE.warm hW⟩⟩ rfl rfl hl.1 rfl (lv_room (Nat.le_of_ble_eq_true rfl)) dX10_nextMoment_14 ⟨Nat.le_of_ble_eq_true rfl, Nat.le_of_ble_eq_true rfl⟩) hS (fun q _ h => hFc q h) hFc (fun r_2 u t H1 locs ht hvm hw hB hz1 hk1 hS => ?_)
  clear hPc hDc hKc
  replace hP := ro_keep hP hk1
  generalize H1 = H at hP hS ⊢
  replace hP : va_P (dC, dI) vwCl [(x, .inr (11, [.ref nr, .ref st, .ref lf, .int 2, .int (nI tm), .int (nI fcn), .int xl, .int 0])), (nr, .inl (cN, 8, .inr (.inr (.inr (.inr fn))))), (an, .inr (5, [.int ah, .int al, .int awa, .int afr, .int (nI awi), .ref ar, .ref ae, .ref as, .ref ai, .ref ag, .ref ac, .ref au, .int 0, .int 2, .int 10, .int (nI acc), .int 0, .int 0])), (ar, .inr (6, [.int arh, .int arl, .ref st, .null, .null, .int ahp, .int atp, .int 0, .int 0, .int 0, .ref arf, .int 0])), (bn, .inr (5, [.int bh, .int bl, .int bwa, .int bfr, .int (nI bwi), .ref br, .ref be, .ref bs, .ref bi, .ref bg, .ref bc, .ref bu, .int 0, .int 2, .int 200, .int (nI bcc), .int 0, .int 0])), (br, .inr (6, [.int brh, .int brl, .ref st, .null, .null, .int bhp, .int btp, .int 0, .int 0, .int 0, .ref brf, .int 0])), (as, .inr (7, [.int 2, .int asnp, .int asdo, .ref mm])), (bs, .inr (7, [.int 0, .int bsnp, .int bsdo, .null])), (ag, .inl (acT, 3, .inr (.inr (.inr (.inr afg))))), (ac, .inr (0, [.int (nI acm), .ref ace, .int 0])), (bc, .inr (0, [.int (nI bcm), .ref bce, .int 0])), (bg, .inl (bcT, 3, .inr (.inr (.inr (.inr bfg))))), (tr, .inr (10, [.int 0, .int j1, .int j2, .int j3, .int j4, .int j5, .int j6, .int j7, .int j8, .int j9, .int j10, .int j11, .ref jw, .ref jb]))] H := hP
  have hw := hw.symm
  subst hw
  refine W.eq (g2 := F0 m 17 ls [.ref an]) rfl ?_
  refine lv_astore (lv' := [(4, .ref an), (3, .int 0), (2, .int (nI en)), (0, .ref x), (1, .int (nI en))]) hx hb dX10_nextMoment_17 hl (by decide) rfl (fun ls hl => ?_)
  refine lv_aload hx hb dX10_nextMoment_19 (lv_at hl 0 rfl) ?_
  refine lv_ifnull hx hb dX10_nextMoment_21 ?_
  refine lv_aload hx hb dX10_nextMoment_24 (lv_at hl 0 rfl) ?_
  refine va_get (D := (dC, dI)) (ci := 5) (v := .ref ar) (C := RX4) (T := TX4) (N := 18) hx hb hts in_c_nextMoment_inc_X4 hown hK hP 2 rfl rfl 5 (by decide) (hts (.fieldLink RX10 74 "ClaimBus$Node" "row" "LClaimBus$Row;") (List.mem_of_getElem? (i := 6) rfl)) (fun _ h9 => h9) rfl dX10_nextMoment_26 ?_
  have hPc := hP.sub (ws' := [(ar, .inr (6, [.int arh, .int arl, .ref st, .null, .null, .int ahp, .int atp, .int 0, .int 0, .int 0, .ref arf, .int 0]))]) [3] rfl
  have hDc := hD.sub (ws' := [(ar, .inr (6, [.int arh, .int arl, .ref st, .null, .null, .int ahp, .int atp, .int 0, .int 0, .int 0, .ref arf, .int 0]))]) [3] (by decide +kernel) rfl
  have hKc := hK.sub (tys' := []) [] rfl
  have hFc := ro_free hS hA
  refine va_calli (va_runV (As := []) (rest := []) ⟨hx, hb, hml, hown, hts⟩ (c_len_e l dC dI (ar) (arh) (arl) (st) (arf) (ahp) (atp) H.size) (cwV 0 hts g_c_nextMoment_inc_c_len_e_129 rfl rfl rfl (by decide +kernel) ⟨Nat.le_of_ble_eq_true rfl, Nat.le_of_ble_eq_true rfl⟩) ⟨fun a U g mk q => by obtain ⟨q0, q1, qP, qK, qD, qE⟩ := q; exact ⟨q0, q1, qP, va_K.moved (u := U) (U := U.calling g mk a) (Vm.Alike.refl U.vm) qK, qD, ev.same (u := U) (U := U.calling g mk a) rfl qE⟩, va_recv hKc hPc (ci := 6) (q0 := 0) rfl rfl, fun U hU hW => ⟨rfl, by rw [hU], by rw [hU]; exact hPc, va_K.moved hW.alike hKc, hDc.weaken (fun _ _ _ _ => trivial), hE.warm hW⟩⟩ rfl rfl hl.1 rfl (lv_room (Nat.le_of_ble_eq_true rfl)) dX10_nextMoment_29 ⟨Nat.le_of_ble_eq_true rfl, Nat.le_of_ble_eq_true rfl⟩) hS (fun q _ h => hFc q h) hFc (fun r_3 u t H1 locs ht hvm hw hB hz1 hk1 hS => ?_)
  clear hPc hDc hKc
  replace hP := ro_keep hP hk1
  generalize H1 = H at hP hS ⊢
  replace hP : va_P (dC, dI) vwCl [(x, .inr (11, [.ref nr, .ref st, .ref lf, .int 2, .int (nI tm), .int (nI fcn), .int xl, .int 0])), (nr, .inl (cN, 8, .inr (.inr (.inr (.inr fn))))), (an, .inr (5, [.int ah, .int al, .int awa, .int afr, .int (nI awi), .ref ar, .ref ae, .ref as, .ref ai, .ref ag, .ref ac, .ref au, .int 0, .int 2, .int 10, .int (nI acc), .int 0, .int 0])), (ar, .inr (6, [.int arh, .int arl, .ref st, .null, .null, .int ahp, .int atp, .int 0, .int 0, .int 0, .ref arf, .int 0])), (bn, .inr (5, [.int bh, .int bl, .int bwa, .int bfr, .int (nI bwi), .ref br, .ref be, .ref bs, .ref bi, .ref bg, .ref bc, .ref bu, .int 0, .int 2, .int 200, .int (nI bcc), .int 0, .int 0])), (br, .inr (6, [.int brh, .int brl, .ref st, .null, .null, .int bhp, .int btp, .int 0, .int 0, .int 0, .ref brf, .int 0])), (as, .inr (7, [.int 2, .int asnp, .int asdo, .ref mm])), (bs, .inr (7, [.int 0, .int bsnp, .int bsdo, .null])), (ag, .inl (acT, 3, .inr (.inr (.inr (.inr afg))))), (ac, .inr (0, [.int (nI acm), .ref ace, .int 0])), (bc, .inr (0, [.int (nI bcm), .ref bce, .int 0])), (bg, .inl (bcT, 3, .inr (.inr (.inr (.inr bfg))))), (tr, .inr (10, [.int 0, .int j1, .int j2, .int j3, .int j4, .int j5, .int j6, .int j7, .int j8, .int j9, .int j10, .int j11, .ref jw, .ref jb]))] H := hP
  have hw := hw.symm
  subst hw
  refine lv_if_le (tgt := 42) hx hb dX10_nextMoment_32 (by decide) (fun c_4 => ?_) (fun c_4 => ?_)
  rotate_left
  · exact absurd (by decide) c_4
  refine lv_aload hx hb dX10_nextMoment_42 (lv_at hl 0 rfl) ?_
  refine lv_ifnull hx hb dX10_nextMoment_44 ?_
  refine lv_iload_n hx hb dX10_nextMoment_47 rfl (lv_at hl 2 rfl) ?_
  refine lv_aload hx hb dX10_nextMoment_48 (lv_at hl 0 rfl) ?_
  have hPc := hP.sub (ws' := [(an, .inr (5, [.int ah, .int al, .int awa, .int afr, .int (nI awi), .ref ar, .ref ae, .ref as, .ref ai, .ref ag, .ref ac, .ref au, .int 0, .int 2, .int (nI 10), .int (nI acc), .int 0, .int 0])), (as, .inr (7, [.int 2, .int asnp, .int asdo, .ref mm])), (ac, .inr (0, [.int (nI acm), .ref ace, .int 0])), (ag, .inl (acT, 3, .inr (.inr (.inr (.inr afg)))))]) [2, 6, 9, 8] rfl
  have hDc := hD.sub (ws' := [(an, .inr (5, [.int ah, .int al, .int awa, .int afr, .int (nI awi), .ref ar, .ref ae, .ref as, .ref ai, .ref ag, .ref ac, .ref au, .int 0, .int 2, .int (nI 10), .int (nI acc), .int 0, .int 0])), (as, .inr (7, [.int 2, .int asnp, .int asdo, .ref mm])), (ac, .inr (0, [.int (nI acm), .ref ace, .int 0])), (ag, .inl (acT, 3, .inr (.inr (.inr (.inr afg)))))]) [2, 6, 9, 8] (by decide +kernel) rfl
  have hKc := hK.sub (tys' := [(acT, (.object RX9))]) [1] rfl
  have hFc := ro_free hS hA
  refine va_calli (va_runV (As := []) (rest := [.int (nI en)]) ⟨hx, hb, hml, hown, hts⟩ (c_nextTimer_2nn l dC dI (an) (ah) (al) (awa) (afr) (awi) (ar) (ae) (as) (ai) (ag) (ac) (au) (10) (acc) (asnp) (asdo) (mm) (acm) (ace) (acT) (afg) H.size ag0_ ag1_ ag2_) (cwV 0 hts g_c_nextMoment_inc_c_nextTimer_2nn_199 rfl rfl rfl (by decide +kernel) ⟨Nat.le_of_ble_eq_true rfl, Nat.le_of_ble_eq_true rfl⟩) ⟨fun a U g mk q => by obtain ⟨q0, q1, qP, qK, qD, qE⟩ := q; exact ⟨q0, q1, qP, va_K.moved (u := U) (U := U.calling g mk a) (Vm.Alike.refl U.vm) qK, qD, ev.same (u := U) (U := U.calling g mk a) rfl qE⟩, va_recv hKc hPc (ci := 5) (q0 := 0) rfl rfl, fun U hU hW => ⟨rfl, by rw [hU], by rw [hU]; exact hPc, va_K.moved hW.alike hKc, hDc.weaken (fun _ _ _ _ => trivial), hE.warm hW⟩⟩ rfl rfl hl.1 rfl (lv_room (Nat.le_of_ble_eq_true rfl)) dX10_nextMoment_50 ⟨Nat.le_of_ble_eq_true rfl, Nat.le_of_ble_eq_true rfl⟩) hS (fun q _ h => hFc q h) hFc (fun r_5 u t H1 locs ht hvm hw hB hz1 hk1 hS => ?_)
  clear hPc hDc hKc
  replace hP := ro_keep hP hk1
  generalize H1 = H at hP hS ⊢
  replace hP : va_P (dC, dI) vwCl [(x, .inr (11, [.ref nr, .ref st, .ref lf, .int 2, .int (nI tm), .int (nI fcn), .int xl, .int 0])), (nr, .inl (cN, 8, .inr (.inr (.inr (.inr fn))))), (an, .inr (5, [.int ah, .int al, .int awa, .int afr, .int (nI awi), .ref ar, .ref ae, .ref as, .ref ai, .ref ag, .ref ac, .ref au, .int 0, .int 2, .int 10, .int (nI acc), .int 0, .int 0])), (ar, .inr (6, [.int arh, .int arl, .ref st, .null, .null, .int ahp, .int atp, .int 0, .int 0, .int 0, .ref arf, .int 0])), (bn, .inr (5, [.int bh, .int bl, .int bwa, .int bfr, .int (nI bwi), .ref br, .ref be, .ref bs, .ref bi, .ref bg, .ref bc, .ref bu, .int 0, .int 2, .int 200, .int (nI bcc), .int 0, .int 0])), (br, .inr (6, [.int brh, .int brl, .ref st, .null, .null, .int bhp, .int btp, .int 0, .int 0, .int 0, .ref brf, .int 0])), (as, .inr (7, [.int 2, .int asnp, .int asdo, .ref mm])), (bs, .inr (7, [.int 0, .int bsnp, .int bsdo, .null])), (ag, .inl (acT, 3, .inr (.inr (.inr (.inr afg))))), (ac, .inr (0, [.int (nI acm), .ref ace, .int 0])), (bc, .inr (0, [.int (nI bcm), .ref bce, .int 0])), (bg, .inl (bcT, 3, .inr (.inr (.inr (.inr bfg))))), (tr, .inr (10, [.int 0, .int j1, .int j2, .int j3, .int j4, .int j5, .int j6, .int j7, .int j8, .int j9, .int j10, .int j11, .ref jw, .ref jb]))] H := hP
  have hw := hw.symm
  subst hw
  refine va_mmin hx hb (by rw [hml]; exact hl.1.symm) hown (hts (.methodLink RX10 202 Lib.Math.min.name) (List.mem_of_getElem? (i := 15) rfl)) (hts (.static Lib.Math.min.name) (List.mem_of_getElem? (i := 16) rfl)) (hts (.initialized "java/lang/Math") (List.mem_of_getElem? (i := 17) rfl)) (hts (.code Lib.Math.min.name Lib.Math.min.code 2 (some .int)) (List.mem_of_getElem? (i := 18) rfl)) (Nat.le_of_ble_eq_true rfl) (Nat.le_of_ble_eq_true rfl) (Nat.zero_le _) (Nat.zero_le _) dX10_nextMoment_53 ?_
  obtain ⟨mn_6, hmn_6⟩ : ∃ z : Nat, z = min en 2147483647 := ⟨_, rfl⟩
  refine lv_topi (fun x_6 ex_6 => ?_)
  obtain rfl : x_6 = nI mn_6 := ex_6.trans ((q_min (a := en) (b := 2147483647) (by omega) (by omega)).trans (congrArg nI hmn_6.symm))
  refine lv_istore_n (lv' := [(2, .int (nI mn_6)), (4, .ref an), (3, .int 0), (0, .ref x), (1, .int (nI en))]) hx hb dX10_nextMoment_56 rfl hl (by decide) rfl (fun ls hl => ?_)
  refine lv_iinc (v := 1) (lv' := [(3, .int 1), (2, .int (nI mn_6)), (4, .ref an), (0, .ref x), (1, .int (nI en))]) hx hb dX10_nextMoment_57 hl (k := 2) rfl (by decide) (by decide) rfl (fun ls hl => ?_)
  refine lv_goto (tgt := 4) hx hb dX10_nextMoment_60 (by decide) ?_
  refine lv_iload_n hx hb dX10_nextMoment_4 rfl (lv_at hl 0 rfl) ?_
  refine lv_aload_n hx hb dX10_nextMoment_5 rfl (lv_at hl 3 rfl) ?_
  refine va_get (D := (dC, dI)) (ci := 11) (v := .int 2) (C := RX10) (T := TX10) (N := 8) hx hb hts in_c_nextMoment_inc_X10 hown hK hP 0 rfl rfl 3 (by decide) (hts (.fieldLink RX10 29 "ClaimBus" "nodeCount" "I") (List.mem_of_getElem? (i := 1) rfl)) (fun _ h9 => h9) rfl dX10_nextMoment_6 ?_
  refine lv_icmp_ge (tgt := 63) hx hb dX10_nextMoment_9 (by decide) (fun c_7 => ?_) (fun c_7 => ?_)
  · exact absurd c_7 (by decide)
  refine lv_aload_n hx hb dX10_nextMoment_12 rfl (lv_at hl 3 rfl) ?_
  refine lv_iload_n hx hb dX10_nextMoment_13 rfl (lv_at hl 0 rfl) ?_
  have hPc := hP.sub (ws' := [(x, .inr (11, [.ref nr, .ref st, .ref lf, .int 2, .int (nI tm), .int (nI fcn), .int xl, .int 0])), (nr, .inl (cN, 8, .inr (.inr (.inr (.inr fn)))))]) [0, 1] rfl
  have hDc := hD.sub (ws' := [(x, .inr (11, [.ref nr, .ref st, .ref lf, .int 2, .int (nI tm), .int (nI fcn), .int xl, .int 0])), (nr, .inl (cN, 8, .inr (.inr (.inr (.inr fn)))))]) [0, 1] (by decide +kernel) rfl
  have hKc := hK.sub (tys' := [(cN, (.object RX4))]) [0] rfl
  have hFc := ro_free hS hA
  refine va_callq (va_runV (As := [.int 1]) (rest := []) ⟨hx, hb, hml, hown, hts⟩ (c_find_1 l dC dI (x) (nr) (st) (lf) (tm) (fcn) (xl) (cN) (fn) (bn) H.size n1) (cwV 1 hts g_c_nextMoment_inc_c_find_1_53 rfl rfl rfl (by decide +kernel) ⟨Nat.le_of_ble_eq_true rfl, Nat.le_of_ble_eq_true rfl⟩) ⟨fun a U g mk q => by obtain ⟨q0, q1, qP, qK, qD, qE⟩ := q; exact ⟨q0, q1, qP, va_K.moved (u := U) (U := U.calling g mk a) (Vm.Alike.refl U.vm) qK, qD, ev.same (u := U) (U := U.calling g mk a) rfl qE⟩, va_recv hKc hPc (ci := 11) (q0 := 0) rfl rfl, fun U hU hW => ⟨rfl, by rw [hU], by rw [hU]; exact hPc, va_K.moved hW.alike hKc, hDc.weaken (fun _ _ _ _ => trivial), hE.warm hW⟩⟩ rfl rfl hl.1 rfl (lv_room (Nat.le_of_ble_eq_true rfl)) dX10_nextMoment_14 ⟨Nat.le_of_ble_eq_true rfl, Nat.le_of_ble_eq_true rfl⟩) hS (fun q _ h => hFc q h) hFc (fun r_8 u t H1 locs ht hvm hw hB hz1 hk1 hS => ?_)
  clear hPc hDc hKc
  replace hP := ro_keep hP hk1
  generalize H1 = H at hP hS ⊢
  replace hP : va_P (dC, dI) vwCl [(x, .inr (11, [.ref nr, .ref st, .ref lf, .int 2, .int (nI tm), .int (nI fcn), .int xl, .int 0])), (nr, .inl (cN, 8, .inr (.inr (.inr (.inr fn))))), (an, .inr (5, [.int ah, .int al, .int awa, .int afr, .int (nI awi), .ref ar, .ref ae, .ref as, .ref ai, .ref ag, .ref ac, .ref au, .int 0, .int 2, .int 10, .int (nI acc), .int 0, .int 0])), (ar, .inr (6, [.int arh, .int arl, .ref st, .null, .null, .int ahp, .int atp, .int 0, .int 0, .int 0, .ref arf, .int 0])), (bn, .inr (5, [.int bh, .int bl, .int bwa, .int bfr, .int (nI bwi), .ref br, .ref be, .ref bs, .ref bi, .ref bg, .ref bc, .ref bu, .int 0, .int 2, .int 200, .int (nI bcc), .int 0, .int 0])), (br, .inr (6, [.int brh, .int brl, .ref st, .null, .null, .int bhp, .int btp, .int 0, .int 0, .int 0, .ref brf, .int 0])), (as, .inr (7, [.int 2, .int asnp, .int asdo, .ref mm])), (bs, .inr (7, [.int 0, .int bsnp, .int bsdo, .null])), (ag, .inl (acT, 3, .inr (.inr (.inr (.inr afg))))), (ac, .inr (0, [.int (nI acm), .ref ace, .int 0])), (bc, .inr (0, [.int (nI bcm), .ref bce, .int 0])), (bg, .inl (bcT, 3, .inr (.inr (.inr (.inr bfg))))), (tr, .inr (10, [.int 0, .int j1, .int j2, .int j3, .int j4, .int j5, .int j6, .int j7, .int j8, .int j9, .int j10, .int j11, .ref jw, .ref jb]))] H := hP
  have hw := hw.symm
  subst hw
  refine W.eq (g2 := F0 m 17 ls [.ref bn]) rfl ?_
  refine lv_astore (lv' := [(4, .ref bn), (3, .int 1), (2, .int (nI mn_6)), (0, .ref x), (1, .int (nI en))]) hx hb dX10_nextMoment_17 hl (by decide) rfl (fun ls hl => ?_)
  refine lv_aload hx hb dX10_nextMoment_19 (lv_at hl 0 rfl) ?_
  refine lv_ifnull hx hb dX10_nextMoment_21 ?_
  refine lv_aload hx hb dX10_nextMoment_24 (lv_at hl 0 rfl) ?_
  refine va_get (D := (dC, dI)) (ci := 5) (v := .ref br) (C := RX4) (T := TX4) (N := 18) hx hb hts in_c_nextMoment_inc_X4 hown hK hP 4 rfl rfl 5 (by decide) (hts (.fieldLink RX10 74 "ClaimBus$Node" "row" "LClaimBus$Row;") (List.mem_of_getElem? (i := 6) rfl)) (fun _ h9 => h9) rfl dX10_nextMoment_26 ?_
  have hPc := hP.sub (ws' := [(br, .inr (6, [.int brh, .int brl, .ref st, .null, .null, .int bhp, .int btp, .int 0, .int 0, .int 0, .ref brf, .int 0]))]) [5] rfl
  have hDc := hD.sub (ws' := [(br, .inr (6, [.int brh, .int brl, .ref st, .null, .null, .int bhp, .int btp, .int 0, .int 0, .int 0, .ref brf, .int 0]))]) [5] (by decide +kernel) rfl
  have hKc := hK.sub (tys' := []) [] rfl
  have hFc := ro_free hS hA
  refine va_calli (va_runV (As := []) (rest := []) ⟨hx, hb, hml, hown, hts⟩ (c_len_e l dC dI (br) (brh) (brl) (st) (brf) (bhp) (btp) H.size) (cwV 0 hts g_c_nextMoment_inc_c_len_e_129 rfl rfl rfl (by decide +kernel) ⟨Nat.le_of_ble_eq_true rfl, Nat.le_of_ble_eq_true rfl⟩) ⟨fun a U g mk q => by obtain ⟨q0, q1, qP, qK, qD, qE⟩ := q; exact ⟨q0, q1, qP, va_K.moved (u := U) (U := U.calling g mk a) (Vm.Alike.refl U.vm) qK, qD, ev.same (u := U) (U := U.calling g mk a) rfl qE⟩, va_recv hKc hPc (ci := 6) (q0 := 0) rfl rfl, fun U hU hW => ⟨rfl, by rw [hU], by rw [hU]; exact hPc, va_K.moved hW.alike hKc, hDc.weaken (fun _ _ _ _ => trivial), hE.warm hW⟩⟩ rfl rfl hl.1 rfl (lv_room (Nat.le_of_ble_eq_true rfl)) dX10_nextMoment_29 ⟨Nat.le_of_ble_eq_true rfl, Nat.le_of_ble_eq_true rfl⟩) hS (fun q _ h => hFc q h) hFc (fun r_9 u t H1 locs ht hvm hw hB hz1 hk1 hS => ?_)
  clear hPc hDc hKc
  replace hP := ro_keep hP hk1
  generalize H1 = H at hP hS ⊢
  replace hP : va_P (dC, dI) vwCl [(x, .inr (11, [.ref nr, .ref st, .ref lf, .int 2, .int (nI tm), .int (nI fcn), .int xl, .int 0])), (nr, .inl (cN, 8, .inr (.inr (.inr (.inr fn))))), (an, .inr (5, [.int ah, .int al, .int awa, .int afr, .int (nI awi), .ref ar, .ref ae, .ref as, .ref ai, .ref ag, .ref ac, .ref au, .int 0, .int 2, .int 10, .int (nI acc), .int 0, .int 0])), (ar, .inr (6, [.int arh, .int arl, .ref st, .null, .null, .int ahp, .int atp, .int 0, .int 0, .int 0, .ref arf, .int 0])), (bn, .inr (5, [.int bh, .int bl, .int bwa, .int bfr, .int (nI bwi), .ref br, .ref be, .ref bs, .ref bi, .ref bg, .ref bc, .ref bu, .int 0, .int 2, .int 200, .int (nI bcc), .int 0, .int 0])), (br, .inr (6, [.int brh, .int brl, .ref st, .null, .null, .int bhp, .int btp, .int 0, .int 0, .int 0, .ref brf, .int 0])), (as, .inr (7, [.int 2, .int asnp, .int asdo, .ref mm])), (bs, .inr (7, [.int 0, .int bsnp, .int bsdo, .null])), (ag, .inl (acT, 3, .inr (.inr (.inr (.inr afg))))), (ac, .inr (0, [.int (nI acm), .ref ace, .int 0])), (bc, .inr (0, [.int (nI bcm), .ref bce, .int 0])), (bg, .inl (bcT, 3, .inr (.inr (.inr (.inr bfg))))), (tr, .inr (10, [.int 0, .int j1, .int j2, .int j3, .int j4, .int j5, .int j6, .int j7, .int j8, .int j9, .int j10, .int j11, .ref jw, .ref jb]))] H := hP
  have hw := hw.symm
  subst hw
  refine lv_if_le (tgt := 42) hx hb dX10_nextMoment_32 (by decide) (fun c_10 => ?_) (fun c_10 => ?_)
  rotate_left
  · exact absurd (by decide) c_10
  refine lv_aload hx hb dX10_nextMoment_42 (lv_at hl 0 rfl) ?_
  refine lv_ifnull hx hb dX10_nextMoment_44 ?_
  refine lv_iload_n hx hb dX10_nextMoment_47 rfl (lv_at hl 2 rfl) ?_
  refine lv_aload hx hb dX10_nextMoment_48 (lv_at hl 0 rfl) ?_
  have hPc := hP.sub (ws' := [(bn, .inr (5, [.int bh, .int bl, .int bwa, .int bfr, .int (nI bwi), .ref br, .ref be, .ref bs, .ref bi, .ref bg, .ref bc, .ref bu, .int 0, .int 2, .int (nI 200), .int (nI bcc), .int 0, .int 0])), (bs, .inr (7, [.int 0, .int bsnp, .int bsdo, .null])), (bc, .inr (0, [.int (nI bcm), .ref bce, .int 0])), (bg, .inl (bcT, 3, .inr (.inr (.inr (.inr bfg))))), (tr, .inr (10, [.int 0, .int j1, .int j2, .int j3, .int j4, .int j5, .int j6, .int j7, .int j8, .int j9, .int j10, .int j11, .ref jw, .ref jb]))]) [4, 7, 10, 11, 12] rfl
  have hDc := hD.sub (ws' := [(bn, .inr (5, [.int bh, .int bl, .int bwa, .int bfr, .int (nI bwi), .ref br, .ref be, .ref bs, .ref bi, .ref bg, .ref bc, .ref bu, .int 0, .int 2, .int (nI 200), .int (nI bcc), .int 0, .int 0])), (bs, .inr (7, [.int 0, .int bsnp, .int bsdo, .null])), (bc, .inr (0, [.int (nI bcm), .ref bce, .int 0])), (bg, .inl (bcT, 3, .inr (.inr (.inr (.inr bfg))))), (tr, .inr (10, [.int 0, .int j1, .int j2, .int j3, .int j4, .int j5, .int j6, .int j7, .int j8, .int j9, .int j10, .int j11, .ref jw, .ref jb]))]) [4, 7, 10, 11, 12] (by decide +kernel) rfl
  have hKc := hK.sub (tys' := [(bcT, (.object RX9))]) [2] rfl
  have hFc := ro_free hS hA
  refine va_calli (va_runV (As := []) (rest := [.int (nI mn_6)]) ⟨hx, hb, hml, hown, hts⟩ (c_nextTimer_0nc l dC dI (bn) (bh) (bl) (bwa) (bfr) (bwi) (br) (be) (bs) (bi) (bg) (bc) (bu) (200) (bcc) (bsnp) (bsdo) (bcm) (bce) (bcT) (bfg) (tr) (j1) (j2) (j3) (j4) (j5) (j6) (j7) (j8) (j9) (j10) (j11) (jw) (jb) H.size bg0_ bg1_ bg2_) (cwV 0 hts g_c_nextMoment_inc_c_nextTimer_0nc_199 rfl rfl rfl (by decide +kernel) ⟨Nat.le_of_ble_eq_true rfl, Nat.le_of_ble_eq_true rfl⟩) ⟨fun a U g mk q => by obtain ⟨q0, q1, qP, qK, qD, qE⟩ := q; exact ⟨q0, q1, qP, va_K.moved (u := U) (U := U.calling g mk a) (Vm.Alike.refl U.vm) qK, qD, ev.same (u := U) (U := U.calling g mk a) rfl qE⟩, va_recv hKc hPc (ci := 5) (q0 := 0) rfl rfl, fun U hU hW => ⟨rfl, by rw [hU], by rw [hU]; exact hPc, va_K.moved hW.alike hKc, hDc.weaken (fun _ _ _ _ => trivial), hE.warm hW⟩⟩ rfl rfl hl.1 rfl (lv_room (Nat.le_of_ble_eq_true rfl)) dX10_nextMoment_50 ⟨Nat.le_of_ble_eq_true rfl, Nat.le_of_ble_eq_true rfl⟩) hS (fun q _ h => hFc q h) hFc (fun r_11 u t H1 locs ht hvm hw hB hz1 hk1 hS => ?_)
  clear hPc hDc hKc
  replace hP := ro_keep hP hk1
  generalize H1 = H at hP hS ⊢
  replace hP : va_P (dC, dI) vwCl [(x, .inr (11, [.ref nr, .ref st, .ref lf, .int 2, .int (nI tm), .int (nI fcn), .int xl, .int 0])), (nr, .inl (cN, 8, .inr (.inr (.inr (.inr fn))))), (an, .inr (5, [.int ah, .int al, .int awa, .int afr, .int (nI awi), .ref ar, .ref ae, .ref as, .ref ai, .ref ag, .ref ac, .ref au, .int 0, .int 2, .int 10, .int (nI acc), .int 0, .int 0])), (ar, .inr (6, [.int arh, .int arl, .ref st, .null, .null, .int ahp, .int atp, .int 0, .int 0, .int 0, .ref arf, .int 0])), (bn, .inr (5, [.int bh, .int bl, .int bwa, .int bfr, .int (nI bwi), .ref br, .ref be, .ref bs, .ref bi, .ref bg, .ref bc, .ref bu, .int 0, .int 2, .int 200, .int (nI bcc), .int 0, .int 0])), (br, .inr (6, [.int brh, .int brl, .ref st, .null, .null, .int bhp, .int btp, .int 0, .int 0, .int 0, .ref brf, .int 0])), (as, .inr (7, [.int 2, .int asnp, .int asdo, .ref mm])), (bs, .inr (7, [.int 0, .int bsnp, .int bsdo, .null])), (ag, .inl (acT, 3, .inr (.inr (.inr (.inr afg))))), (ac, .inr (0, [.int (nI acm), .ref ace, .int 0])), (bc, .inr (0, [.int (nI bcm), .ref bce, .int 0])), (bg, .inl (bcT, 3, .inr (.inr (.inr (.inr bfg))))), (tr, .inr (10, [.int 0, .int j1, .int j2, .int j3, .int j4, .int j5, .int j6, .int j7, .int j8, .int j9, .int j10, .int j11, .ref jw, .ref jb]))] H := hP
  have hw := hw.symm
  subst hw
  refine va_mmin hx hb (by rw [hml]; exact hl.1.symm) hown (hts (.methodLink RX10 202 Lib.Math.min.name) (List.mem_of_getElem? (i := 15) rfl)) (hts (.static Lib.Math.min.name) (List.mem_of_getElem? (i := 16) rfl)) (hts (.initialized "java/lang/Math") (List.mem_of_getElem? (i := 17) rfl)) (hts (.code Lib.Math.min.name Lib.Math.min.code 2 (some .int)) (List.mem_of_getElem? (i := 18) rfl)) (Nat.le_of_ble_eq_true rfl) (Nat.le_of_ble_eq_true rfl) (Nat.zero_le _) (Nat.zero_le _) dX10_nextMoment_53 ?_
  obtain ⟨mn_12, hmn_12⟩ : ∃ z : Nat, z = min mn_6 2147483647 := ⟨_, rfl⟩
  refine lv_topi (fun x_12 ex_12 => ?_)
  obtain rfl : x_12 = nI mn_12 := ex_12.trans ((q_min (a := mn_6) (b := 2147483647) (by omega) (by omega)).trans (congrArg nI hmn_12.symm))
  refine lv_istore_n (lv' := [(2, .int (nI mn_12)), (4, .ref bn), (3, .int 1), (0, .ref x), (1, .int (nI en))]) hx hb dX10_nextMoment_56 rfl hl (by decide) rfl (fun ls hl => ?_)
  refine lv_iinc (v := 2) (lv' := [(3, .int 2), (2, .int (nI mn_12)), (4, .ref bn), (0, .ref x), (1, .int (nI en))]) hx hb dX10_nextMoment_57 hl (k := 2) rfl (by decide) (by decide) rfl (fun ls hl => ?_)
  refine lv_goto (tgt := 4) hx hb dX10_nextMoment_60 (by decide) ?_
  refine lv_iload_n hx hb dX10_nextMoment_4 rfl (lv_at hl 0 rfl) ?_
  refine lv_aload_n hx hb dX10_nextMoment_5 rfl (lv_at hl 3 rfl) ?_
  refine va_get (D := (dC, dI)) (ci := 11) (v := .int 2) (C := RX10) (T := TX10) (N := 8) hx hb hts in_c_nextMoment_inc_X10 hown hK hP 0 rfl rfl 3 (by decide) (hts (.fieldLink RX10 29 "ClaimBus" "nodeCount" "I") (List.mem_of_getElem? (i := 1) rfl)) (fun _ h9 => h9) rfl dX10_nextMoment_6 ?_
  refine lv_icmp_ge (tgt := 63) hx hb dX10_nextMoment_9 (by decide) (fun c_13 => ?_) (fun c_13 => ?_)
  rotate_left
  · exact absurd (by decide) c_13
  refine lv_aload_n hx hb dX10_nextMoment_63 rfl (lv_at hl 3 rfl) ?_
  refine va_get (D := (dC, dI)) (ci := 11) (v := .int (nI tm)) (C := RX10) (T := TX10) (N := 8) hx hb hts in_c_nextMoment_inc_X10 hown hK hP 0 rfl rfl 4 (by decide) (hts (.fieldLink RX10 33 "ClaimBus" "time" "I") (List.mem_of_getElem? (i := 19) rfl)) (fun _ h9 => h9) rfl dX10_nextMoment_64 ?_
  refine lv_iconst (v := 1) hx hb dX10_nextMoment_67 (by decide) ?_
  refine lv_iadd hx hb dX10_nextMoment_68 ?_
  refine lv_topi (fun x_14 ex_14 => ?_)
  obtain rfl : x_14 = (nI (tm + 1)) := ex_14.trans ((nI_add tm 1).trans (show nI (tm + 1) = nI (tm + 1) from congrArg nI (by omega)))
  refine lv_iload_n hx hb dX10_nextMoment_69 rfl (lv_at hl 1 rfl) ?_
  refine va_mmax hx hb (by rw [hml]; exact hl.1.symm) hown (hts (.methodLink RX10 207 Lib.Math.max.name) (List.mem_of_getElem? (i := 20) rfl)) (hts (.static Lib.Math.max.name) (List.mem_of_getElem? (i := 21) rfl)) (hts (.initialized "java/lang/Math") (List.mem_of_getElem? (i := 17) rfl)) (hts (.code Lib.Math.max.name Lib.Math.max.code 2 (some .int)) (List.mem_of_getElem? (i := 22) rfl)) (Nat.le_of_ble_eq_true rfl) (Nat.le_of_ble_eq_true rfl) (Nat.zero_le _) (Nat.zero_le _) dX10_nextMoment_70 ?_
  obtain ⟨mn_15, hmn_15⟩ : ∃ z : Nat, z = max (tm + 1) mn_12 := ⟨_, rfl⟩
  refine lv_topi (fun x_15 ex_15 => ?_)
  obtain rfl : x_15 = nI mn_15 := ex_15.trans ((q_max (a := (tm + 1)) (b := mn_12) (by omega) (by omega)).trans (congrArg nI hmn_15.symm))
  exact W.iret (v := (nI mn_15)) hx hb hr (fun t ht hW => ⟨⟨(nI mn_15), (), rfl, congrArg nI (show mn_15 = en from by omega), trivial⟩, hS.F ht⟩) hS.2.2 dX10_nextMoment_73

noncomputable def tl_c_nextMoment_icn : List Cond := wsX100 ++ (wsX40 ++ (v_c_find_0 ++ (v_c_len_e ++ (v_c_nextTimer_2nn ++ (v_c_find_1 ++ (v_c_nextTimer_0cn))))))
noncomputable def v_c_nextMoment_icn : List Cond := .code yX10_nextMoment cX10_nextMoment 5 (some .int) :: ([.fieldLink RX10 29 "ClaimBus" "nodeCount" "I", .initialized RX10, .methodLink RX10 53 yX10_find, .instanceMethod yX10_find, .selects RX10 yX10_find yX10_find, .fieldLink RX10 74 "ClaimBus$Node" "row" "LClaimBus$Row;", .initialized RX5, .methodLink RX10 129 yX5_length, .instanceMethod yX5_length, .selects RX5 yX5_length yX5_length, .initialized RX4, .methodLink RX10 199 yX4_nextTimer, .instanceMethod yX4_nextTimer, .selects RX4 yX4_nextTimer yX4_nextTimer, .methodLink RX10 202 Lib.Math.min.name, .static Lib.Math.min.name, .initialized "java/lang/Math", .code Lib.Math.min.name Lib.Math.min.code 2 (some .int), .fieldLink RX10 33 "ClaimBus" "time" "I", .methodLink RX10 207 Lib.Math.max.name, .static Lib.Math.max.name, .code Lib.Math.max.name Lib.Math.max.code 2 (some .int)] ++ tl_c_nextMoment_icn)
theorem it_c_nextMoment_icn : ∀ w ∈ tl_c_nextMoment_icn, w ∈ v_c_nextMoment_icn := fun w h => List.mem_cons_of_mem _ (List.mem_append_right _ h)
theorem in_c_nextMoment_icn_X10 : ∀ w ∈ wsX100, w ∈ v_c_nextMoment_icn := fun w h => it_c_nextMoment_icn w (List.mem_append_left _ h)
theorem in_c_nextMoment_icn_X4 : ∀ w ∈ wsX40, w ∈ v_c_nextMoment_icn := fun w h => it_c_nextMoment_icn w (List.mem_append_right _ (List.mem_append_left _ h))
theorem ic_c_nextMoment_icn_c_find_0 : ∀ w ∈ v_c_find_0, w ∈ v_c_nextMoment_icn := fun w h => it_c_nextMoment_icn w (List.mem_append_right _ (List.mem_append_right _ (List.mem_append_left _ h)))
theorem ic_c_nextMoment_icn_c_len_e : ∀ w ∈ v_c_len_e, w ∈ v_c_nextMoment_icn := fun w h => it_c_nextMoment_icn w (List.mem_append_right _ (List.mem_append_right _ (List.mem_append_right _ (List.mem_append_left _ h))))
theorem ic_c_nextMoment_icn_c_nextTimer_2nn : ∀ w ∈ v_c_nextTimer_2nn, w ∈ v_c_nextMoment_icn := fun w h => it_c_nextMoment_icn w (List.mem_append_right _ (List.mem_append_right _ (List.mem_append_right _ (List.mem_append_right _ (List.mem_append_left _ h)))))
theorem ic_c_nextMoment_icn_c_find_1 : ∀ w ∈ v_c_find_1, w ∈ v_c_nextMoment_icn := fun w h => it_c_nextMoment_icn w (List.mem_append_right _ (List.mem_append_right _ (List.mem_append_right _ (List.mem_append_right _ (List.mem_append_right _ (List.mem_append_left _ h))))))
theorem ic_c_nextMoment_icn_c_nextTimer_0cn : ∀ w ∈ v_c_nextTimer_0cn, w ∈ v_c_nextMoment_icn := fun w h => it_c_nextMoment_icn w (List.mem_append_right _ (List.mem_append_right _ (List.mem_append_right _ (List.mem_append_right _ (List.mem_append_right _ (List.mem_append_right _ (h)))))))
theorem gt_c_nextMoment_icn : ∀ w ∈ tl_c_nextMoment_icn, goodWord w = true := List.forall_mem_append.mpr ⟨gw_wsX100, List.forall_mem_append.mpr ⟨gw_wsX40, List.forall_mem_append.mpr ⟨gw_c_find_0, List.forall_mem_append.mpr ⟨gw_c_len_e, List.forall_mem_append.mpr ⟨gw_c_nextTimer_2nn, List.forall_mem_append.mpr ⟨gw_c_find_1, gw_c_nextTimer_0cn⟩⟩⟩⟩⟩⟩
theorem gw_c_nextMoment_icn : ∀ w ∈ v_c_nextMoment_icn, goodWord w = true := List.forall_mem_cons.mpr ⟨by decide +kernel, List.forall_mem_append.mpr ⟨List.all_eq_true.mp (by decide +kernel), gt_c_nextMoment_icn⟩⟩
theorem g_c_nextMoment_icn_c_find_0_53 : GoodIn v_c_nextMoment_icn (wsV RX10 53 RX10 yX10_find v_c_find_0) := goodIn_app (goodIn_r [.methodLink RX10 53 yX10_find, .instanceMethod yX10_find, .selects RX10 yX10_find yX10_find, .initialized RX10] [3, 4, 5, 2] (by decide +kernel) (by decide +kernel)) (fun w h => ⟨ic_c_nextMoment_icn_c_find_0 w h, good_of_word (gw_c_find_0 w h)⟩)
theorem g_c_nextMoment_icn_c_len_e_129 : GoodIn v_c_nextMoment_icn (wsV RX10 129 RX5 yX5_length v_c_len_e) := goodIn_app (goodIn_r [.methodLink RX10 129 yX5_length, .instanceMethod yX5_length, .selects RX5 yX5_length yX5_length, .initialized RX5] [8, 9, 10, 7] (by decide +kernel) (by decide +kernel)) (fun w h => ⟨ic_c_nextMoment_icn_c_len_e w h, good_of_word (gw_c_len_e w h)⟩)
theorem g_c_nextMoment_icn_c_nextTimer_2nn_199 : GoodIn v_c_nextMoment_icn (wsV RX10 199 RX4 yX4_nextTimer v_c_nextTimer_2nn) := goodIn_app (goodIn_r [.methodLink RX10 199 yX4_nextTimer, .instanceMethod yX4_nextTimer, .selects RX4 yX4_nextTimer yX4_nextTimer, .initialized RX4] [12, 13, 14, 11] (by decide +kernel) (by decide +kernel)) (fun w h => ⟨ic_c_nextMoment_icn_c_nextTimer_2nn w h, good_of_word (gw_c_nextTimer_2nn w h)⟩)
theorem g_c_nextMoment_icn_c_find_1_53 : GoodIn v_c_nextMoment_icn (wsV RX10 53 RX10 yX10_find v_c_find_1) := goodIn_app (goodIn_r [.methodLink RX10 53 yX10_find, .instanceMethod yX10_find, .selects RX10 yX10_find yX10_find, .initialized RX10] [3, 4, 5, 2] (by decide +kernel) (by decide +kernel)) (fun w h => ⟨ic_c_nextMoment_icn_c_find_1 w h, good_of_word (gw_c_find_1 w h)⟩)
theorem g_c_nextMoment_icn_c_nextTimer_0cn_199 : GoodIn v_c_nextMoment_icn (wsV RX10 199 RX4 yX4_nextTimer v_c_nextTimer_0cn) := goodIn_app (goodIn_r [.methodLink RX10 199 yX4_nextTimer, .instanceMethod yX4_nextTimer, .selects RX4 yX4_nextTimer yX4_nextTimer, .initialized RX4] [12, 13, 14, 11] (by decide +kernel) (by decide +kernel)) (fun w h => ⟨ic_c_nextMoment_icn_c_nextTimer_0cn w h, good_of_word (gw_c_nextTimer_0cn w h)⟩)
set_option maxHeartbeats 4000000 in
set_option maxRecDepth 100000 in
theorem c_nextMoment_icn (l : Launch) (dC : Nat → ClassId) (dI : Nat → Nat → Nat) (x : Nat) (nr : Nat) (st : Nat) (lf : Nat) (tm : Nat) (fcn : Nat) (xl : Int32) (cN : ClassId) (fn : Nat → Option Nat) (an : Nat) (ah : Int32) (al : Int32) (awa : Int32) (afr : Int32) (awi : Nat) (ar : Nat) (ae : Nat) (as : Nat) (ai : Nat) (ag : Nat) (ac : Nat) (au : Nat) (acc : Nat) (arh : Int32) (arl : Int32) (arf : Nat) (ahp : Int32) (atp : Int32) (bn : Nat) (bh : Int32) (bl : Int32) (bwa : Int32) (bfr : Int32) (bwi : Nat) (br : Nat) (be : Nat) (bs : Nat) (bi : Nat) (bg : Nat) (bc : Nat) (bu : Nat) (bcc : Nat) (brh : Int32) (brl : Int32) (brf : Nat) (bhp : Int32) (btp : Int32) (asnp : Int32) (asdo : Int32) (mm : Nat) (bsnp : Int32) (bsdo : Int32) (acT : ClassId) (afg : Nat → Option Nat) (acm : Nat) (ace : Nat) (bcm : Nat) (bce : Nat) (cQ : ClassId) (fq : Nat → Option Nat) (tq : Nat) (k1 : Int32) (k2 : Int32) (k3 : Int32) (k4 : Int32) (k5 : Int32) (k6 : Int32) (k7 : Int32) (k8 : Int32) (k9 : Int32) (k10 : Int32) (k11 : Int32) (kw : Nat) (kb : Nat) (bcT : ClassId) (bfg : Nat → Option Nat) (en : Nat) (sz : Nat) (n0 : fn 0 = some an) (n1 : fn 1 = some bn) (htm : tm < 200000) (ag0_ : afg 0 = none) (ag1_ : afg 1 = none) (ag2_ : afg 2 = none) (hq : fq 0 = some tq) (bg0_ : bfg 0 = none) (bg1_ : bfg 1 = none) (bg2_ : bfg 2 = none) (hen : tm < en ∧ en < 300000) : Met l yX10_nextMoment v_c_nextMoment_icn ({ frames := 4, cells := 0, slots := 0, locals := 89 }) (va_Pc [.ref x, .int (nI en)] (fun U => U.heap.size = sz ∧ va_P (dC, dI) vwCl [(x, .inr (11, [.ref nr, .ref st, .ref lf, .int 2, .int (nI tm), .int (nI fcn), .int xl, .int 0])), (nr, .inl (cN, 8, .inr (.inr (.inr (.inr fn))))), (an, .inr (5, [.int ah, .int al, .int awa, .int afr, .int (nI awi), .ref ar, .ref ae, .ref as, .ref ai, .ref ag, .ref ac, .ref au, .int 0, .int 2, .int 10, .int (nI acc), .int 0, .int 0])), (ar, .inr (6, [.int arh, .int arl, .ref st, .null, .null, .int ahp, .int atp, .int 0, .int 0, .int 0, .ref arf, .int 0])), (bn, .inr (5, [.int bh, .int bl, .int bwa, .int bfr, .int (nI bwi), .ref br, .ref be, .ref bs, .ref bi, .ref bg, .ref bc, .ref bu, .int 0, .int 2, .int 200, .int (nI bcc), .int 0, .int 0])), (br, .inr (6, [.int brh, .int brl, .ref st, .null, .null, .int bhp, .int btp, .int 0, .int 0, .int 0, .ref brf, .int 0])), (as, .inr (7, [.int 2, .int asnp, .int asdo, .ref mm])), (bs, .inr (7, [.int 0, .int bsnp, .int bsdo, .null])), (ag, .inl (acT, 3, .inr (.inr (.inr (.inr afg))))), (ac, .inr (0, [.int (nI acm), .ref ace, .int 0])), (bc, .inr (0, [.int (nI bcm), .ref bce, .int 1])), (bce, .inl (cQ, 10, .inr (.inr (.inr (.inr fq))))), (tq, .inr (10, [.int 0, .int k1, .int k2, .int k3, .int k4, .int k5, .int k6, .int k7, .int k8, .int k9, .int k10, .int k11, .ref kw, .ref kb])), (bg, .inl (bcT, 3, .inr (.inr (.inr (.inr bfg)))))] U.heap ∧ va_K (dC, dI) vwCl [(cN, (.object RX4)), (acT, (.object RX9)), (cQ, (.object "java/lang/Object")), (bcT, (.object RX9))] U ∧ va_D (fun _ => True) [(x, .inr (11, [.ref nr, .ref st, .ref lf, .int 2, .int (nI tm), .int (nI fcn), .int xl, .int 0])), (nr, .inl (cN, 8, .inr (.inr (.inr (.inr fn))))), (an, .inr (5, [.int ah, .int al, .int awa, .int afr, .int (nI awi), .ref ar, .ref ae, .ref as, .ref ai, .ref ag, .ref ac, .ref au, .int 0, .int 2, .int 10, .int (nI acc), .int 0, .int 0])), (ar, .inr (6, [.int arh, .int arl, .ref st, .null, .null, .int ahp, .int atp, .int 0, .int 0, .int 0, .ref arf, .int 0])), (bn, .inr (5, [.int bh, .int bl, .int bwa, .int bfr, .int (nI bwi), .ref br, .ref be, .ref bs, .ref bi, .ref bg, .ref bc, .ref bu, .int 0, .int 2, .int 200, .int (nI bcc), .int 0, .int 0])), (br, .inr (6, [.int brh, .int brl, .ref st, .null, .null, .int bhp, .int btp, .int 0, .int 0, .int 0, .ref brf, .int 0])), (as, .inr (7, [.int 2, .int asnp, .int asdo, .ref mm])), (bs, .inr (7, [.int 0, .int bsnp, .int bsdo, .null])), (ag, .inl (acT, 3, .inr (.inr (.inr (.inr afg))))), (ac, .inr (0, [.int (nI acm), .ref ace, .int 0])), (bc, .inr (0, [.int (nI bcm), .ref bce, .int 1])), (bce, .inl (cQ, 10, .inr (.inr (.inr (.inr fq))))), (tq, .inr (10, [.int 0, .int k1, .int k2, .int k3, .int k4, .int k5, .int k6, .int k7, .int k8, .int k9, .int k10, .int k11, .ref kw, .ref kb])), (bg, .inl (bcT, 3, .inr (.inr (.inr (.inr bfg)))))] ∧ ev U)) (va_Qi (fun (r : Int32) (_ : Unit) => r = (nI en)) (fun (_ : Unit) (_ : State) => True) (va_A [] sz)) 0 0 (va_A [] sz) := by
  refine Met.ofW (cc := cX10_nextMoment) (maxL := 5) (ret := (some .int)) (by decide) rfl ?_
  intro p e s m args below meth c s₁ B hml hv
  obtain ⟨rfl, hsz, hP, hK, hD0, hE⟩ := hv
  have hx := B.exec
  have hb := B.bytes
  have hr := B.returns
  have hts := atoms_spec (ws := v_c_nextMoment_icn) B.pre
  have hown : s.vm.findClass RX10 = some m.cls := findClass_of_methodNamed B.named
  have hlocks := B.notSynchronized
  subst hsz
  have hD := hD0
  generalize hAe : va_A [] s.heap.size = A
  have hA : ∀ q : Nat, s.heap.size ≤ q → A q := fun q h => by rw [← hAe]; exact Or.inr h
  have hS : va_S A s.heap s.heap [] := va_S.rf
  replace hP : va_P (dC, dI) vwCl [(x, .inr (11, [.ref nr, .ref st, .ref lf, .int 2, .int (nI tm), .int (nI fcn), .int xl, .int 0])), (nr, .inl (cN, 8, .inr (.inr (.inr (.inr fn))))), (an, .inr (5, [.int ah, .int al, .int awa, .int afr, .int (nI awi), .ref ar, .ref ae, .ref as, .ref ai, .ref ag, .ref ac, .ref au, .int 0, .int 2, .int 10, .int (nI acc), .int 0, .int 0])), (ar, .inr (6, [.int arh, .int arl, .ref st, .null, .null, .int ahp, .int atp, .int 0, .int 0, .int 0, .ref arf, .int 0])), (bn, .inr (5, [.int bh, .int bl, .int bwa, .int bfr, .int (nI bwi), .ref br, .ref be, .ref bs, .ref bi, .ref bg, .ref bc, .ref bu, .int 0, .int 2, .int 200, .int (nI bcc), .int 0, .int 0])), (br, .inr (6, [.int brh, .int brl, .ref st, .null, .null, .int bhp, .int btp, .int 0, .int 0, .int 0, .ref brf, .int 0])), (as, .inr (7, [.int 2, .int asnp, .int asdo, .ref mm])), (bs, .inr (7, [.int 0, .int bsnp, .int bsdo, .null])), (ag, .inl (acT, 3, .inr (.inr (.inr (.inr afg))))), (ac, .inr (0, [.int (nI acm), .ref ace, .int 0])), (bc, .inr (0, [.int (nI bcm), .ref bce, .int 1])), (bce, .inl (cQ, 10, .inr (.inr (.inr (.inr fq))))), (tq, .inr (10, [.int 0, .int k1, .int k2, .int k3, .int k4, .int k5, .int k6, .int k7, .int k8, .int k9, .int k10, .int k11, .ref kw, .ref kb])), (bg, .inl (bcT, 3, .inr (.inr (.inr (.inr bfg)))))] s.heap := hP
  have hl := lv_entry ([.ref x, .int (nI en)]) (n := 5) (Nat.le_of_ble_eq_true rfl)
  rw [lg_entry_eq]
  generalize (lg_sl ([.ref x, .int (nI en)]) ++ List.replicate (5 - (lg_sl ([.ref x, .int (nI en)])).length) Slot.unset).toArray = ls at hl ⊢
  replace hl : lv_has ls 5 [(0, .ref x), (1, .int (nI en))] := hl
  obtain ⟨H, hH⟩ : ∃ z : Heap, z = s.heap := ⟨_, rfl⟩
  rw [← hH]
  replace hS : va_S A s.heap H [] := by rw [hH]; exact va_S.rf
  replace hP : va_P (dC, dI) vwCl [(x, .inr (11, [.ref nr, .ref st, .ref lf, .int 2, .int (nI tm), .int (nI fcn), .int xl, .int 0])), (nr, .inl (cN, 8, .inr (.inr (.inr (.inr fn))))), (an, .inr (5, [.int ah, .int al, .int awa, .int afr, .int (nI awi), .ref ar, .ref ae, .ref as, .ref ai, .ref ag, .ref ac, .ref au, .int 0, .int 2, .int 10, .int (nI acc), .int 0, .int 0])), (ar, .inr (6, [.int arh, .int arl, .ref st, .null, .null, .int ahp, .int atp, .int 0, .int 0, .int 0, .ref arf, .int 0])), (bn, .inr (5, [.int bh, .int bl, .int bwa, .int bfr, .int (nI bwi), .ref br, .ref be, .ref bs, .ref bi, .ref bg, .ref bc, .ref bu, .int 0, .int 2, .int 200, .int (nI bcc), .int 0, .int 0])), (br, .inr (6, [.int brh, .int brl, .ref st, .null, .null, .int bhp, .int btp, .int 0, .int 0, .int 0, .ref brf, .int 0])), (as, .inr (7, [.int 2, .int asnp, .int asdo, .ref mm])), (bs, .inr (7, [.int 0, .int bsnp, .int bsdo, .null])), (ag, .inl (acT, 3, .inr (.inr (.inr (.inr afg))))), (ac, .inr (0, [.int (nI acm), .ref ace, .int 0])), (bc, .inr (0, [.int (nI bcm), .ref bce, .int 1])), (bce, .inl (cQ, 10, .inr (.inr (.inr (.inr fq))))), (tq, .inr (10, [.int 0, .int k1, .int k2, .int k3, .int k4, .int k5, .int k6, .int k7, .int k8, .int k9, .int k10, .int k11, .ref kw, .ref kb])), (bg, .inl (bcT, 3, .inr (.inr (.inr (.inr bfg)))))] H := by rw [hH]; exact hP
  clear hH
  refine lv_iload_n hx hb dX10_nextMoment_0 rfl (lv_at hl 1 rfl) ?_
  refine lv_istore_n (lv' := [(2, .int (nI en)), (0, .ref x), (1, .int (nI en))]) hx hb dX10_nextMoment_1 rfl hl (by decide) rfl (fun ls hl => ?_)
  refine lv_iconst (v := 0) hx hb dX10_nextMoment_2 (by decide) ?_
  refine lv_istore_n (lv' := [(3, .int 0), (2, .int (nI en)), (0, .ref x), (1, .int (nI en))]) hx hb dX10_nextMoment_3 rfl hl (by decide) rfl (fun ls hl => ?_)
  refine lv_iload_n hx hb dX10_nextMoment_4 rfl (lv_at hl 0 rfl) ?_
  refine lv_aload_n hx hb dX10_nextMoment_5 rfl (lv_at hl 2 rfl) ?_
  refine va_get (D := (dC, dI)) (ci := 11) (v := .int 2) (C := RX10) (T := TX10) (N := 8) hx hb hts in_c_nextMoment_icn_X10 hown hK hP 0 rfl rfl 3 (by decide) (hts (.fieldLink RX10 29 "ClaimBus" "nodeCount" "I") (List.mem_of_getElem? (i := 1) rfl)) (fun _ h9 => h9) rfl dX10_nextMoment_6 ?_
  refine lv_icmp_ge (tgt := 63) hx hb dX10_nextMoment_9 (by decide) (fun c_1 => ?_) (fun c_1 => ?_)
  · exact absurd c_1 (by decide)
  refine lv_aload_n hx hb dX10_nextMoment_12 rfl (lv_at hl 2 rfl) ?_
  refine lv_iload_n hx hb dX10_nextMoment_13 rfl (lv_at hl 0 rfl) ?_
  have hPc := hP.sub (ws' := [(x, .inr (11, [.ref nr, .ref st, .ref lf, .int 2, .int (nI tm), .int (nI fcn), .int xl, .int 0])), (nr, .inl (cN, 8, .inr (.inr (.inr (.inr fn)))))]) [0, 1] rfl
  have hDc := hD.sub (ws' := [(x, .inr (11, [.ref nr, .ref st, .ref lf, .int 2, .int (nI tm), .int (nI fcn), .int xl, .int 0])), (nr, .inl (cN, 8, .inr (.inr (.inr (.inr fn)))))]) [0, 1] (by decide +kernel) rfl
  have hKc := hK.sub (tys' := [(cN, (.object RX4))]) [0] rfl
  have hFc := ro_free hS hA
  refine va_callq (va_runV (As := [.int 0]) (rest := []) ⟨hx, hb, hml, hown, hts⟩ (c_find_0 l dC dI (x) (nr) (st) (lf) (tm) (fcn) (xl) (cN) (fn) (an) H.size n0) (cwV 1 hts g_c_nextMoment_icn_c_find_0_53 rfl rfl rfl (by decide +kernel) ⟨Nat.le_of_ble_eq_true rfl, Nat.le_of_ble_eq_true rfl⟩) ⟨fun a U g mk q => by obtain ⟨q0, q1, qP, qK, qD, qE⟩ := q; exact ⟨q0, q1, qP, va_K.moved (u := U) (U := U.calling g mk a) (Vm.Alike.refl U.vm) qK, qD, ev.same (u := U) (U := U.calling g mk a) rfl qE⟩, va_recv hKc hPc (ci := 11) (q0 := 0) rfl rfl, fun U hU hW => ⟨rfl, by rw [hU], by rw [hU]; exact hPc, va_K.moved hW.alike hKc, hDc.weaken (fun _ _ _ _ => trivial), hE.warm hW⟩⟩ rfl rfl hl.1 rfl (lv_room (Nat.le_of_ble_eq_true rfl)) dX10_nextMoment_14 ⟨Nat.le_of_ble_eq_true rfl, Nat.le_of_ble_eq_true rfl⟩) hS (fun q _ h => hFc q h) hFc (fun r_2 u t H1 locs ht hvm hw hB hz1 hk1 hS => ?_)
  clear hPc hDc hKc
  replace hP := ro_keep hP hk1
  generalize H1 = H at hP hS ⊢
  replace hP : va_P (dC, dI) vwCl [(x, .inr (11, [.ref nr, .ref st, .ref lf, .int 2, .int (nI tm), .int (nI fcn), .int xl, .int 0])), (nr, .inl (cN, 8, .inr (.inr (.inr (.inr fn))))), (an, .inr (5, [.int ah, .int al, .int awa, .int afr, .int (nI awi), .ref ar, .ref ae, .ref as, .ref ai, .ref ag, .ref ac, .ref au, .int 0, .int 2, .int 10, .int (nI acc), .int 0, .int 0])), (ar, .inr (6, [.int arh, .int arl, .ref st, .null, .null, .int ahp, .int atp, .int 0, .int 0, .int 0, .ref arf, .int 0])), (bn, .inr (5, [.int bh, .int bl, .int bwa, .int bfr, .int (nI bwi), .ref br, .ref be, .ref bs, .ref bi, .ref bg, .ref bc, .ref bu, .int 0, .int 2, .int 200, .int (nI bcc), .int 0, .int 0])), (br, .inr (6, [.int brh, .int brl, .ref st, .null, .null, .int bhp, .int btp, .int 0, .int 0, .int 0, .ref brf, .int 0])), (as, .inr (7, [.int 2, .int asnp, .int asdo, .ref mm])), (bs, .inr (7, [.int 0, .int bsnp, .int bsdo, .null])), (ag, .inl (acT, 3, .inr (.inr (.inr (.inr afg))))), (ac, .inr (0, [.int (nI acm), .ref ace, .int 0])), (bc, .inr (0, [.int (nI bcm), .ref bce, .int 1])), (bce, .inl (cQ, 10, .inr (.inr (.inr (.inr fq))))), (tq, .inr (10, [.int 0, .int k1, .int k2, .int k3, .int k4, .int k5, .int k6, .int k7, .int k8, .int k9, .int k10, .int k11, .ref kw, .ref kb])), (bg, .inl (bcT, 3, .inr (.inr (.inr (.inr bfg)))))] H := hP
  have hw := hw.symm
  subst hw
  refine W.eq (g2 := F0 m 17 ls [.ref an]) rfl ?_
  refine lv_astore (lv' := [(4, .ref an), (3, .int 0), (2, .int (nI en)), (0, .ref x), (1, .int (nI en))]) hx hb dX10_nextMoment_17 hl (by decide) rfl (fun ls hl => ?_)
  refine lv_aload hx hb dX10_nextMoment_19 (lv_at hl 0 rfl) ?_
  refine lv_ifnull hx hb dX10_nextMoment_21 ?_
  refine lv_aload hx hb dX10_nextMoment_24 (lv_at hl 0 rfl) ?_
  refine va_get (D := (dC, dI)) (ci := 5) (v := .ref ar) (C := RX4) (T := TX4) (N := 18) hx hb hts in_c_nextMoment_icn_X4 hown hK hP 2 rfl rfl 5 (by decide) (hts (.fieldLink RX10 74 "ClaimBus$Node" "row" "LClaimBus$Row;") (List.mem_of_getElem? (i := 6) rfl)) (fun _ h9 => h9) rfl dX10_nextMoment_26 ?_
  have hPc := hP.sub (ws' := [(ar, .inr (6, [.int arh, .int arl, .ref st, .null, .null, .int ahp, .int atp, .int 0, .int 0, .int 0, .ref arf, .int 0]))]) [3] rfl
  have hDc := hD.sub (ws' := [(ar, .inr (6, [.int arh, .int arl, .ref st, .null, .null, .int ahp, .int atp, .int 0, .int 0, .int 0, .ref arf, .int 0]))]) [3] (by decide +kernel) rfl
  have hKc := hK.sub (tys' := []) [] rfl
  have hFc := ro_free hS hA
  refine va_calli (va_runV (As := []) (rest := []) ⟨hx, hb, hml, hown, hts⟩ (c_len_e l dC dI (ar) (arh) (arl) (st) (arf) (ahp) (atp) H.size) (cwV 0 hts g_c_nextMoment_icn_c_len_e_129 rfl rfl rfl (by decide +kernel) ⟨Nat.le_of_ble_eq_true rfl, Nat.le_of_ble_eq_true rfl⟩) ⟨fun a U g mk q => by obtain ⟨q0, q1, qP, qK, qD, qE⟩ := q; exact ⟨q0, q1, qP, va_K.moved (u := U) (U := U.calling g mk a) (Vm.Alike.refl U.vm) qK, qD, ev.same (u := U) (U := U.calling g mk a) rfl qE⟩, va_recv hKc hPc (ci := 6) (q0 := 0) rfl rfl, fun U hU hW => ⟨rfl, by rw [hU], by rw [hU]; exact hPc, va_K.moved hW.alike hKc, hDc.weaken (fun _ _ _ _ => trivial), hE.warm hW⟩⟩ rfl rfl hl.1 rfl (lv_room (Nat.le_of_ble_eq_true rfl)) dX10_nextMoment_29 ⟨Nat.le_of_ble_eq_true rfl, Nat.le_of_ble_eq_true rfl⟩) hS (fun q _ h => hFc q h) hFc (fun r_3 u t H1 locs ht hvm hw hB hz1 hk1 hS => ?_)
  clear hPc hDc hKc
  replace hP := ro_keep hP hk1
  generalize H1 = H at hP hS ⊢
  replace hP : va_P (dC, dI) vwCl [(x, .inr (11, [.ref nr, .ref st, .ref lf, .int 2, .int (nI tm), .int (nI fcn), .int xl, .int 0])), (nr, .inl (cN, 8, .inr (.inr (.inr (.inr fn))))), (an, .inr (5, [.int ah, .int al, .int awa, .int afr, .int (nI awi), .ref ar, .ref ae, .ref as, .ref ai, .ref ag, .ref ac, .ref au, .int 0, .int 2, .int 10, .int (nI acc), .int 0, .int 0])), (ar, .inr (6, [.int arh, .int arl, .ref st, .null, .null, .int ahp, .int atp, .int 0, .int 0, .int 0, .ref arf, .int 0])), (bn, .inr (5, [.int bh, .int bl, .int bwa, .int bfr, .int (nI bwi), .ref br, .ref be, .ref bs, .ref bi, .ref bg, .ref bc, .ref bu, .int 0, .int 2, .int 200, .int (nI bcc), .int 0, .int 0])), (br, .inr (6, [.int brh, .int brl, .ref st, .null, .null, .int bhp, .int btp, .int 0, .int 0, .int 0, .ref brf, .int 0])), (as, .inr (7, [.int 2, .int asnp, .int asdo, .ref mm])), (bs, .inr (7, [.int 0, .int bsnp, .int bsdo, .null])), (ag, .inl (acT, 3, .inr (.inr (.inr (.inr afg))))), (ac, .inr (0, [.int (nI acm), .ref ace, .int 0])), (bc, .inr (0, [.int (nI bcm), .ref bce, .int 1])), (bce, .inl (cQ, 10, .inr (.inr (.inr (.inr fq))))), (tq, .inr (10, [.int 0, .int k1, .int k2, .int k3, .int k4, .int k5, .int k6, .int k7, .int k8, .int k9, .int k10, .int k11, .ref kw, .ref kb])), (bg, .inl (bcT, 3, .inr (.inr (.inr (.inr bfg)))))] H := hP
  have hw := hw.symm
  subst hw
  refine lv_if_le (tgt := 42) hx hb dX10_nextMoment_32 (by decide) (fun c_4 => ?_) (fun c_4 => ?_)
  rotate_left
  · exact absurd (by decide) c_4
  refine lv_aload hx hb dX10_nextMoment_42 (lv_at hl 0 rfl) ?_
  refine lv_ifnull hx hb dX10_nextMoment_44 ?_
  refine lv_iload_n hx hb dX10_nextMoment_47 rfl (lv_at hl 2 rfl) ?_
  refine lv_aload hx hb dX10_nextMoment_48 (lv_at hl 0 rfl) ?_
  have hPc := hP.sub (ws' := [(an, .inr (5, [.int ah, .int al, .int awa, .int afr, .int (nI awi), .ref ar, .ref ae, .ref as, .ref ai, .ref ag, .ref ac, .ref au, .int 0, .int 2, .int (nI 10), .int (nI acc), .int 0, .int 0])), (as, .inr (7, [.int 2, .int asnp, .int asdo, .ref mm])), (ac, .inr (0, [.int (nI acm), .ref ace, .int 0])), (ag, .inl (acT, 3, .inr (.inr (.inr (.inr afg)))))]) [2, 6, 9, 8] rfl
  have hDc := hD.sub (ws' := [(an, .inr (5, [.int ah, .int al, .int awa, .int afr, .int (nI awi), .ref ar, .ref ae, .ref as, .ref ai, .ref ag, .ref ac, .ref au, .int 0, .int 2, .int (nI 10), .int (nI acc), .int 0, .int 0])), (as, .inr (7, [.int 2, .int asnp, .int asdo, .ref mm])), (ac, .inr (0, [.int (nI acm), .ref ace, .int 0])), (ag, .inl (acT, 3, .inr (.inr (.inr (.inr afg)))))]) [2, 6, 9, 8] (by decide +kernel) rfl
  have hKc := hK.sub (tys' := [(acT, (.object RX9))]) [1] rfl
  have hFc := ro_free hS hA
  refine va_calli (va_runV (As := []) (rest := [.int (nI en)]) ⟨hx, hb, hml, hown, hts⟩ (c_nextTimer_2nn l dC dI (an) (ah) (al) (awa) (afr) (awi) (ar) (ae) (as) (ai) (ag) (ac) (au) (10) (acc) (asnp) (asdo) (mm) (acm) (ace) (acT) (afg) H.size ag0_ ag1_ ag2_) (cwV 0 hts g_c_nextMoment_icn_c_nextTimer_2nn_199 rfl rfl rfl (by decide +kernel) ⟨Nat.le_of_ble_eq_true rfl, Nat.le_of_ble_eq_true rfl⟩) ⟨fun a U g mk q => by obtain ⟨q0, q1, qP, qK, qD, qE⟩ := q; exact ⟨q0, q1, qP, va_K.moved (u := U) (U := U.calling g mk a) (Vm.Alike.refl U.vm) qK, qD, ev.same (u := U) (U := U.calling g mk a) rfl qE⟩, va_recv hKc hPc (ci := 5) (q0 := 0) rfl rfl, fun U hU hW => ⟨rfl, by rw [hU], by rw [hU]; exact hPc, va_K.moved hW.alike hKc, hDc.weaken (fun _ _ _ _ => trivial), hE.warm hW⟩⟩ rfl rfl hl.1 rfl (lv_room (Nat.le_of_ble_eq_true rfl)) dX10_nextMoment_50 ⟨Nat.le_of_ble_eq_true rfl, Nat.le_of_ble_eq_true rfl⟩) hS (fun q _ h => hFc q h) hFc (fun r_5 u t H1 locs ht hvm hw hB hz1 hk1 hS => ?_)
  clear hPc hDc hKc
  replace hP := ro_keep hP hk1
  generalize H1 = H at hP hS ⊢
  replace hP : va_P (dC, dI) vwCl [(x, .inr (11, [.ref nr, .ref st, .ref lf, .int 2, .int (nI tm), .int (nI fcn), .int xl, .int 0])), (nr, .inl (cN, 8, .inr (.inr (.inr (.inr fn))))), (an, .inr (5, [.int ah, .int al, .int awa, .int afr, .int (nI awi), .ref ar, .ref ae, .ref as, .ref ai, .ref ag, .ref ac, .ref au, .int 0, .int 2, .int 10, .int (nI acc), .int 0, .int 0])), (ar, .inr (6, [.int arh, .int arl, .ref st, .null, .null, .int ahp, .int atp, .int 0, .int 0, .int 0, .ref arf, .int 0])), (bn, .inr (5, [.int bh, .int bl, .int bwa, .int bfr, .int (nI bwi), .ref br, .ref be, .ref bs, .ref bi, .ref bg, .ref bc, .ref bu, .int 0, .int 2, .int 200, .int (nI bcc), .int 0, .int 0])), (br, .inr (6, [.int brh, .int brl, .ref st, .null, .null, .int bhp, .int btp, .int 0, .int 0, .int 0, .ref brf, .int 0])), (as, .inr (7, [.int 2, .int asnp, .int asdo, .ref mm])), (bs, .inr (7, [.int 0, .int bsnp, .int bsdo, .null])), (ag, .inl (acT, 3, .inr (.inr (.inr (.inr afg))))), (ac, .inr (0, [.int (nI acm), .ref ace, .int 0])), (bc, .inr (0, [.int (nI bcm), .ref bce, .int 1])), (bce, .inl (cQ, 10, .inr (.inr (.inr (.inr fq))))), (tq, .inr (10, [.int 0, .int k1, .int k2, .int k3, .int k4, .int k5, .int k6, .int k7, .int k8, .int k9, .int k10, .int k11, .ref kw, .ref kb])), (bg, .inl (bcT, 3, .inr (.inr (.inr (.inr bfg)))))] H := hP
  have hw := hw.symm
  subst hw
  refine va_mmin hx hb (by rw [hml]; exact hl.1.symm) hown (hts (.methodLink RX10 202 Lib.Math.min.name) (List.mem_of_getElem? (i := 15) rfl)) (hts (.static Lib.Math.min.name) (List.mem_of_getElem? (i := 16) rfl)) (hts (.initialized "java/lang/Math") (List.mem_of_getElem? (i := 17) rfl)) (hts (.code Lib.Math.min.name Lib.Math.min.code 2 (some .int)) (List.mem_of_getElem? (i := 18) rfl)) (Nat.le_of_ble_eq_true rfl) (Nat.le_of_ble_eq_true rfl) (Nat.zero_le _) (Nat.zero_le _) dX10_nextMoment_53 ?_
  obtain ⟨mn_6, hmn_6⟩ : ∃ z : Nat, z = min en 2147483647 := ⟨_, rfl⟩
  refine lv_topi (fun x_6 ex_6 => ?_)
  obtain rfl : x_6 = nI mn_6 := ex_6.trans ((q_min (a := en) (b := 2147483647) (by omega) (by omega)).trans (congrArg nI hmn_6.symm))
  refine lv_istore_n (lv' := [(2, .int (nI mn_6)), (4, .ref an), (3, .int 0), (0, .ref x), (1, .int (nI en))]) hx hb dX10_nextMoment_56 rfl hl (by decide) rfl (fun ls hl => ?_)
  refine lv_iinc (v := 1) (lv' := [(3, .int 1), (2, .int (nI mn_6)), (4, .ref an), (0, .ref x), (1, .int (nI en))]) hx hb dX10_nextMoment_57 hl (k := 2) rfl (by decide) (by decide) rfl (fun ls hl => ?_)
  refine lv_goto (tgt := 4) hx hb dX10_nextMoment_60 (by decide) ?_
  refine lv_iload_n hx hb dX10_nextMoment_4 rfl (lv_at hl 0 rfl) ?_
  refine lv_aload_n hx hb dX10_nextMoment_5 rfl (lv_at hl 3 rfl) ?_
  refine va_get (D := (dC, dI)) (ci := 11) (v := .int 2) (C := RX10) (T := TX10) (N := 8) hx hb hts in_c_nextMoment_icn_X10 hown hK hP 0 rfl rfl 3 (by decide) (hts (.fieldLink RX10 29 "ClaimBus" "nodeCount" "I") (List.mem_of_getElem? (i := 1) rfl)) (fun _ h9 => h9) rfl dX10_nextMoment_6 ?_
  refine lv_icmp_ge (tgt := 63) hx hb dX10_nextMoment_9 (by decide) (fun c_7 => ?_) (fun c_7 => ?_)
  · exact absurd c_7 (by decide)
  refine lv_aload_n hx hb dX10_nextMoment_12 rfl (lv_at hl 3 rfl) ?_
  refine lv_iload_n hx hb dX10_nextMoment_13 rfl (lv_at hl 0 rfl) ?_
  have hPc := hP.sub (ws' := [(x, .inr (11, [.ref nr, .ref st, .ref lf, .int 2, .int (nI tm), .int (nI fcn), .int xl, .int 0])), (nr, .inl (cN, 8, .inr (.inr (.inr (.inr fn)))))]) [0, 1] rfl
  have hDc := hD.sub (ws' := [(x, .inr (11, [.ref nr, .ref st, .ref lf, .int 2, .int (nI tm), .int (nI fcn), .int xl, .int 0])), (nr, .inl (cN, 8, .inr (.inr (.inr (.inr fn)))))]) [0, 1] (by decide +kernel) rfl
  have hKc := hK.sub (tys' := [(cN, (.object RX4))]) [0] rfl
  have hFc := ro_free hS hA
  refine va_callq (va_runV (As := [.int 1]) (rest := []) ⟨hx, hb, hml, hown, hts⟩ (c_find_1 l dC dI (x) (nr) (st) (lf) (tm) (fcn) (xl) (cN) (fn) (bn) H.size n1) (cwV 1 hts g_c_nextMoment_icn_c_find_1_53 rfl rfl rfl (by decide +kernel) ⟨Nat.le_of_ble_eq_true rfl, Nat.le_of_ble_eq_true rfl⟩) ⟨fun a U g mk q => by obtain ⟨q0, q1, qP, qK, qD, qE⟩ := q; exact ⟨q0, q1, qP, va_K.moved (u := U) (U := U.calling g mk a) (Vm.Alike.refl U.vm) qK, qD, ev.same (u := U) (U := U.calling g mk a) rfl qE⟩, va_recv hKc hPc (ci := 11) (q0 := 0) rfl rfl, fun U hU hW => ⟨rfl, by rw [hU], by rw [hU]; exact hPc, va_K.moved hW.alike hKc, hDc.weaken (fun _ _ _ _ => trivial), hE.warm hW⟩⟩ rfl rfl hl.1 rfl (lv_room (Nat.le_of_ble_eq_true rfl)) dX10_nextMoment_14 ⟨Nat.le_of_ble_eq_true rfl, Nat.le_of_ble_eq_true rfl⟩) hS (fun q _ h => hFc q h) hFc (fun r_8 u t H1 locs ht hvm hw hB hz1 hk1 hS => ?_)
  clear hPc hDc hKc
  replace hP := ro_keep hP hk1
  generalize H1 = H at hP hS ⊢
  replace hP : va_P (dC, dI) vwCl [(x, .inr (11, [.ref nr, .ref st, .ref lf, .int 2, .int (nI tm), .int (nI fcn), .int xl, .int 0])), (nr, .inl (cN, 8, .inr (.inr (.inr (.inr fn))))), (an, .inr (5, [.int ah, .int al, .int awa, .int afr, .int (nI awi), .ref ar, .ref ae, .ref as, .ref ai, .ref ag, .ref ac, .ref au, .int 0, .int 2, .int 10, .int (nI acc), .int 0, .int 0])), (ar, .inr (6, [.int arh, .int arl, .ref st, .null, .null, .int ahp, .int atp, .int 0, .int 0, .int 0, .ref arf, .int 0])), (bn, .inr (5, [.int bh, .int bl, .int bwa, .int bfr, .int (nI bwi), .ref br, .ref be, .ref bs, .ref bi, .ref bg, .ref bc, .ref bu, .int 0, .int 2, .int 200, .int (nI bcc), .int 0, .int 0])), (br, .inr (6, [.int brh, .int brl, .ref st, .null, .null, .int bhp, .int btp, .int 0, .int 0, .int 0, .ref brf, .int 0])), (as, .inr (7, [.int 2, .int asnp, .int asdo, .ref mm])), (bs, .inr (7, [.int 0, .int bsnp, .int bsdo, .null])), (ag, .inl (acT, 3, .inr (.inr (.inr (.inr afg))))), (ac, .inr (0, [.int (nI acm), .ref ace, .int 0])), (bc, .inr (0, [.int (nI bcm), .ref bce, .int 1])), (bce, .inl (cQ, 10, .inr (.inr (.inr (.inr fq))))), (tq, .inr (10, [.int 0, .int k1, .int k2, .int k3, .int k4, .int k5, .int k6, .int k7, .int k8, .int k9, .int k10, .int k11, .ref kw, .ref kb])), (bg, .inl (bcT, 3, .inr (.inr (.inr (.inr bfg)))))] H := hP
  have hw := hw.symm
  subst hw
  refine W.eq (g2 := F0 m 17 ls [.ref bn]) rfl ?_
  refine lv_astore (lv' := [(4, .ref bn), (3, .int 1), (2, .int (nI mn_6)), (0, .ref x), (1, .int (nI en))]) hx hb dX10_nextMoment_17 hl (by decide) rfl (fun ls hl => ?_)
  refine lv_aload hx hb dX10_nextMoment_19 (lv_at hl 0 rfl) ?_
  refine lv_ifnull hx hb dX10_nextMoment_21 ?_
  refine lv_aload hx hb dX10_nextMoment_24 (lv_at hl 0 rfl) ?_
  refine va_get (D := (dC, dI)) (ci := 5) (v := .ref br) (C := RX4) (T := TX4) (N := 18) hx hb hts in_c_nextMoment_icn_X4 hown hK hP 4 rfl rfl 5 (by decide) (hts (.fieldLink RX10 74 "ClaimBus$Node" "row" "LClaimBus$Row;") (List.mem_of_getElem? (i := 6) rfl)) (fun _ h9 => h9) rfl dX10_nextMoment_26 ?_
  have hPc := hP.sub (ws' := [(br, .inr (6, [.int brh, .int brl, .ref st, .null, .null, .int bhp, .int btp, .int 0, .int 0, .int 0, .ref brf, .int 0]))]) [5] rfl
  have hDc := hD.sub (ws' := [(br, .inr (6, [.int brh, .int brl, .ref st, .null, .null, .int bhp, .int btp, .int 0, .int 0, .int 0, .ref brf, .int 0]))]) [5] (by decide +kernel) rfl
  have hKc := hK.sub (tys' := []) [] rfl
  have hFc := ro_free hS hA
  refine va_calli (va_runV (As := []) (rest := []) ⟨hx, hb, hml, hown, hts⟩ (c_len_e l dC dI (br) (brh) (brl) (st) (brf) (bhp) (btp) H.size) (cwV 0 hts g_c_nextMoment_icn_c_len_e_129 rfl rfl rfl (by decide +kernel) ⟨Nat.le_of_ble_eq_true rfl, Nat.le_of_ble_eq_true rfl⟩) ⟨fun a U g mk q => by obtain ⟨q0, q1, qP, qK, qD, qE⟩ := q; exact ⟨q0, q1, qP, va_K.moved (u := U) (U := U.calling g mk a) (Vm.Alike.refl U.vm) qK, qD, ev.same (u := U) (U := U.calling g mk a) rfl qE⟩, va_recv hKc hPc (ci := 6) (q0 := 0) rfl rfl, fun U hU hW => ⟨rfl, by rw [hU], by rw [hU]; exact hPc, va_K.moved hW.alike hKc, hDc.weaken (fun _ _ _ _ => trivial), hE.warm hW⟩⟩ rfl rfl hl.1 rfl (lv_room (Nat.le_of_ble_eq_true rfl)) dX10_nextMoment_29 ⟨Nat.le_of_ble_eq_true rfl, Nat.le_of_ble_eq_true rfl⟩) hS (fun q _ h => hFc q h) hFc (fun r_9 u t H1 locs ht hvm hw hB hz1 hk1 hS => ?_)
  clear hPc hDc hKc
  replace hP := ro_keep hP hk1
  generalize H1 = H at hP hS ⊢
  replace hP : va_P (dC, dI) vwCl [(x, .inr (11, [.ref nr, .ref st, .ref lf, .int 2, .int (nI tm), .int (nI fcn), .int xl, .int 0])), (nr, .inl (cN, 8, .inr (.inr (.inr (.inr fn))))), (an, .inr (5, [.int ah, .int al, .int awa, .int afr, .int (nI awi), .ref ar, .ref ae, .ref as, .ref ai, .ref ag, .ref ac, .ref au, .int 0, .int 2, .int 10, .int (nI acc), .int 0, .int 0])), (ar, .inr (6, [.int arh, .int arl, .ref st, .null, .null, .int ahp, .int atp, .int 0, .int 0, .int 0, .ref arf, .int 0])), (bn, .inr (5, [.int bh, .int bl, .int bwa, .int bfr, .int (nI bwi), .ref br, .ref be, .ref bs, .ref bi, .ref bg, .ref bc, .ref bu, .int 0, .int 2, .int 200, .int (nI bcc), .int 0, .int 0])), (br, .inr (6, [.int brh, .int brl, .ref st, .null, .null, .int bhp, .int btp, .int 0, .int 0, .int 0, .ref brf, .int 0])), (as, .inr (7, [.int 2, .int asnp, .int asdo, .ref mm])), (bs, .inr (7, [.int 0, .int bsnp, .int bsdo, .null])), (ag, .inl (acT, 3, .inr (.inr (.inr (.inr afg))))), (ac, .inr (0, [.int (nI acm), .ref ace, .int 0])), (bc, .inr (0, [.int (nI bcm), .ref bce, .int 1])), (bce, .inl (cQ, 10, .inr (.inr (.inr (.inr fq))))), (tq, .inr (10, [.int 0, .int k1, .int k2, .int k3, .int k4, .int k5, .int k6, .int k7, .int k8, .int k9, .int k10, .int k11, .ref kw, .ref kb])), (bg, .inl (bcT, 3, .inr (.inr (.inr (.inr bfg)))))] H := hP
  have hw := hw.symm
  subst hw
  refine lv_if_le (tgt := 42) hx hb dX10_nextMoment_32 (by decide) (fun c_10 => ?_) (fun c_10 => ?_)
  rotate_left
  · exact absurd (by decide) c_10
  refine lv_aload hx hb dX10_nextMoment_42 (lv_at hl 0 rfl) ?_
  refine lv_ifnull hx hb dX10_nextMoment_44 ?_
  refine lv_iload_n hx hb dX10_nextMoment_47 rfl (lv_at hl 2 rfl) ?_
  refine lv_aload hx hb dX10_nextMoment_48 (lv_at hl 0 rfl) ?_
  have hPc := hP.sub (ws' := [(bn, .inr (5, [.int bh, .int bl, .int bwa, .int bfr, .int (nI bwi), .ref br, .ref be, .ref bs, .ref bi, .ref bg, .ref bc, .ref bu, .int 0, .int 2, .int (nI 200), .int (nI bcc), .int 0, .int 0])), (bs, .inr (7, [.int 0, .int bsnp, .int bsdo, .null])), (bc, .inr (0, [.int (nI bcm), .ref bce, .int 1])), (bce, .inl (cQ, 10, .inr (.inr (.inr (.inr fq))))), (tq, .inr (10, [.int 0, .int k1, .int k2, .int k3, .int k4, .int k5, .int k6, .int k7, .int k8, .int k9, .int k10, .int k11, .ref kw, .ref kb])), (bg, .inl (bcT, 3, .inr (.inr (.inr (.inr bfg)))))]) [4, 7, 10, 11, 12, 13] rfl
  have hDc := hD.sub (ws' := [(bn, .inr (5, [.int bh, .int bl, .int bwa, .int bfr, .int (nI bwi), .ref br, .ref be, .ref bs, .ref bi, .ref bg, .ref bc, .ref bu, .int 0, .int 2, .int (nI 200), .int (nI bcc), .int 0, .int 0])), (bs, .inr (7, [.int 0, .int bsnp, .int bsdo, .null])), (bc, .inr (0, [.int (nI bcm), .ref bce, .int 1])), (bce, .inl (cQ, 10, .inr (.inr (.inr (.inr fq))))), (tq, .inr (10, [.int 0, .int k1, .int k2, .int k3, .int k4, .int k5, .int k6, .int k7, .int k8, .int k9, .int k10, .int k11, .ref kw, .ref kb])), (bg, .inl (bcT, 3, .inr (.inr (.inr (.inr bfg)))))]) [4, 7, 10, 11, 12, 13] (by decide +kernel) rfl
  have hKc := hK.sub (tys' := [(cQ, (.object "java/lang/Object")), (bcT, (.object RX9))]) [2, 3] rfl
  have hFc := ro_free hS hA
  refine va_calli (va_runV (As := []) (rest := [.int (nI mn_6)]) ⟨hx, hb, hml, hown, hts⟩ (c_nextTimer_0cn l dC dI (bn) (bh) (bl) (bwa) (bfr) (bwi) (br) (be) (bs) (bi) (bg) (bc) (bu) (200) (bcc) (bsnp) (bsdo) (bcm) (bce) (cQ) (fq) (tq) (k1) (k2) (k3) (k4) (k5) (k6) (k7) (k8) (k9) (k10) (k11) (kw) (kb) (bcT) (bfg) H.size hq bg0_ bg1_ bg2_) (cwV 0 hts g_c_nextMoment_icn_c_nextTimer_0cn_199 rfl rfl rfl (by decide +kernel) ⟨Nat.le_of_ble_eq_true rfl, Nat.le_of_ble_eq_true rfl⟩) ⟨fun a U g mk q => by obtain ⟨q0, q1, qP, qK, qD, qE⟩ := q; exact ⟨q0, q1, qP, va_K.moved (u := U) (U := U.calling g mk a) (Vm.Alike.refl U.vm) qK, qD, ev.same (u := U) (U := U.calling g mk a) rfl qE⟩, va_recv hKc hPc (ci := 5) (q0 := 0) rfl rfl, fun U hU hW => ⟨rfl, by rw [hU], by rw [hU]; exact hPc, va_K.moved hW.alike hKc, hDc.weaken (fun _ _ _ _ => trivial), hE.warm hW⟩⟩ rfl rfl hl.1 rfl (lv_room (Nat.le_of_ble_eq_true rfl)) dX10_nextMoment_50 ⟨Nat.le_of_ble_eq_true rfl, Nat.le_of_ble_eq_true rfl⟩) hS (fun q _ h => hFc q h) hFc (fun r_11 u t H1 locs ht hvm hw hB hz1 hk1 hS => ?_)
  clear hPc hDc hKc
  replace hP := ro_keep hP hk1
  generalize H1 = H at hP hS ⊢
  replace hP : va_P (dC, dI) vwCl [(x, .inr (11, [.ref nr, .ref st, .ref lf, .int 2, .int (nI tm), .int (nI fcn), .int xl, .int 0])), (nr, .inl (cN, 8, .inr (.inr (.inr (.inr fn))))), (an, .inr (5, [.int ah, .int al, .int awa, .int afr, .int (nI awi), .ref ar, .ref ae, .ref as, .ref ai, .ref ag, .ref ac, .ref au, .int 0, .int 2, .int 10, .int (nI acc), .int 0, .int 0])), (ar, .inr (6, [.int arh, .int arl, .ref st, .null, .null, .int ahp, .int atp, .int 0, .int 0, .int 0, .ref arf, .int 0])), (bn, .inr (5, [.int bh, .int bl, .int bwa, .int bfr, .int (nI bwi), .ref br, .ref be, .ref bs, .ref bi, .ref bg, .ref bc, .ref bu, .int 0, .int 2, .int 200, .int (nI bcc), .int 0, .int 0])), (br, .inr (6, [.int brh, .int brl, .ref st, .null, .null, .int bhp, .int btp, .int 0, .int 0, .int 0, .ref brf, .int 0])), (as, .inr (7, [.int 2, .int asnp, .int asdo, .ref mm])), (bs, .inr (7, [.int 0, .int bsnp, .int bsdo, .null])), (ag, .inl (acT, 3, .inr (.inr (.inr (.inr afg))))), (ac, .inr (0, [.int (nI acm), .ref ace, .int 0])), (bc, .inr (0, [.int (nI bcm), .ref bce, .int 1])), (bce, .inl (cQ, 10, .inr (.inr (.inr (.inr fq))))), (tq, .inr (10, [.int 0, .int k1, .int k2, .int k3, .int k4, .int k5, .int k6, .int k7, .int k8, .int k9, .int k10, .int k11, .ref kw, .ref kb])), (bg, .inl (bcT, 3, .inr (.inr (.inr (.inr bfg)))))] H := hP
  have hw := hw.symm
  subst hw
  refine va_mmin hx hb (by rw [hml]; exact hl.1.symm) hown (hts (.methodLink RX10 202 Lib.Math.min.name) (List.mem_of_getElem? (i := 15) rfl)) (hts (.static Lib.Math.min.name) (List.mem_of_getElem? (i := 16) rfl)) (hts (.initialized "java/lang/Math") (List.mem_of_getElem? (i := 17) rfl)) (hts (.code Lib.Math.min.name Lib.Math.min.code 2 (some .int)) (List.mem_of_getElem? (i := 18) rfl)) (Nat.le_of_ble_eq_true rfl) (Nat.le_of_ble_eq_true rfl) (Nat.zero_le _) (Nat.zero_le _) dX10_nextMoment_53 ?_
  obtain ⟨mn_12, hmn_12⟩ : ∃ z : Nat, z = min mn_6 2147483647 := ⟨_, rfl⟩
  refine lv_topi (fun x_12 ex_12 => ?_)
  obtain rfl : x_12 = nI mn_12 := ex_12.trans ((q_min (a := mn_6) (b := 2147483647) (by omega) (by omega)).trans (congrArg nI hmn_12.symm))
  refine lv_istore_n (lv' := [(2, .int (nI mn_12)), (4, .ref bn), (3, .int 1), (0, .ref x), (1, .int (nI en))]) hx hb dX10_nextMoment_56 rfl hl (by decide) rfl (fun ls hl => ?_)
  refine lv_iinc (v := 2) (lv' := [(3, .int 2), (2, .int (nI mn_12)), (4, .ref bn), (0, .ref x), (1, .int (nI en))]) hx hb dX10_nextMoment_57 hl (k := 2) rfl (by decide) (by decide) rfl (fun ls hl => ?_)
  refine lv_goto (tgt := 4) hx hb dX10_nextMoment_60 (by decide) ?_
  refine lv_iload_n hx hb dX10_nextMoment_4 rfl (lv_at hl 0 rfl) ?_
  refine lv_aload_n hx hb dX10_nextMoment_5 rfl (lv_at hl 3 rfl) ?_
  refine va_get (D := (dC, dI)) (ci := 11) (v := .int 2) (C := RX10) (T := TX10) (N := 8) hx hb hts in_c_nextMoment_icn_X10 hown hK hP 0 rfl rfl 3 (by decide) (hts (.fieldLink RX10 29 "ClaimBus" "nodeCount" "I") (List.mem_of_getElem? (i := 1) rfl)) (fun _ h9 => h9) rfl dX10_nextMoment_6 ?_
  refine lv_icmp_ge (tgt := 63) hx hb dX10_nextMoment_9 (by decide) (fun c_13 => ?_) (fun c_13 => ?_)
  rotate_left
  · exact absurd (by decide) c_13
  refine lv_aload_n hx hb dX10_nextMoment_63 rfl (lv_at hl 3 rfl) ?_
  refine va_get (D := (dC, dI)) (ci := 11) (v := .int (nI tm)) (C := RX10) (T := TX10) (N := 8) hx hb hts in_c_nextMoment_icn_X10 hown hK hP 0 rfl rfl 4 (by decide) (hts (.fieldLink RX10 33 "ClaimBus" "time" "I") (List.mem_of_getElem? (i := 19) rfl)) (fun _ h9 => h9) rfl dX10_nextMoment_64 ?_
  refine lv_iconst (v := 1) hx hb dX10_nextMoment_67 (by decide) ?_
  refine lv_iadd hx hb dX10_nextMoment_68 ?_
  refine lv_topi (fun x_14 ex_14 => ?_)
  obtain rfl : x_14 = (nI (tm + 1)) := ex_14.trans ((nI_add tm 1).trans (show nI (tm + 1) = nI (tm + 1) from congrArg nI (by omega)))
  refine lv_iload_n hx hb dX10_nextMoment_69 rfl (lv_at hl 1 rfl) ?_
  refine va_mmax hx hb (by rw [hml]; exact hl.1.symm) hown (hts (.methodLink RX10 207 Lib.Math.max.name) (List.mem_of_getElem? (i := 20) rfl)) (hts (.static Lib.Math.max.name) (List.mem_of_getElem? (i := 21) rfl)) (hts (.initialized "java/lang/Math") (List.mem_of_getElem? (i := 17) rfl)) (hts (.code Lib.Math.max.name Lib.Math.max.code 2 (some .int)) (List.mem_of_getElem? (i := 22) rfl)) (Nat.le_of_ble_eq_true rfl) (Nat.le_of_ble_eq_true rfl) (Nat.zero_le _) (Nat.zero_le _) dX10_nextMoment_70 ?_
  obtain ⟨mn_15, hmn_15⟩ : ∃ z : Nat, z = max (tm + 1) mn_12 := ⟨_, rfl⟩
  refine lv_topi (fun x_15 ex_15 => ?_)
  obtain rfl : x_15 = nI mn_15 := ex_15.trans ((q_max (a := (tm + 1)) (b := mn_12) (by omega) (by omega)).trans (congrArg nI hmn_15.symm))
  exact W.iret (v := (nI mn_15)) hx hb hr (fun t ht hW => ⟨⟨(nI mn_15), (), rfl, congrArg nI (show mn_15 = en from by omega), trivial⟩, hS.F ht⟩) hS.2.2 dX10_nextMoment_73

noncomputable def tl_c_nextMoment_icc : List Cond := wsX100 ++ (wsX40 ++ (v_c_find_0 ++ (v_c_len_e ++ (v_c_nextTimer_2nn ++ (v_c_find_1 ++ (v_c_nextTimer_0cc))))))
noncomputable def v_c_nextMoment_icc : List Cond := .code yX10_nextMoment cX10_nextMoment 5 (some .int) :: ([.fieldLink RX10 29 "ClaimBus" "nodeCount" "I", .initialized RX10, .methodLink RX10 53 yX10_find, .instanceMethod yX10_find, .selects RX10 yX10_find yX10_find, .fieldLink RX10 74 "ClaimBus$Node" "row" "LClaimBus$Row;", .initialized RX5, .methodLink RX10 129 yX5_length, .instanceMethod yX5_length, .selects RX5 yX5_length yX5_length, .initialized RX4, .methodLink RX10 199 yX4_nextTimer, .instanceMethod yX4_nextTimer, .selects RX4 yX4_nextTimer yX4_nextTimer, .methodLink RX10 202 Lib.Math.min.name, .static Lib.Math.min.name, .initialized "java/lang/Math", .code Lib.Math.min.name Lib.Math.min.code 2 (some .int), .fieldLink RX10 33 "ClaimBus" "time" "I", .methodLink RX10 207 Lib.Math.max.name, .static Lib.Math.max.name, .code Lib.Math.max.name Lib.Math.max.code 2 (some .int)] ++ tl_c_nextMoment_icc)
theorem it_c_nextMoment_icc : ∀ w ∈ tl_c_nextMoment_icc, w ∈ v_c_nextMoment_icc := fun w h => List.mem_cons_of_mem _ (List.mem_append_right _ h)
theorem in_c_nextMoment_icc_X10 : ∀ w ∈ wsX100, w ∈ v_c_nextMoment_icc := fun w h => it_c_nextMoment_icc w (List.mem_append_left _ h)
theorem in_c_nextMoment_icc_X4 : ∀ w ∈ wsX40, w ∈ v_c_nextMoment_icc := fun w h => it_c_nextMoment_icc w (List.mem_append_right _ (List.mem_append_left _ h))
theorem ic_c_nextMoment_icc_c_find_0 : ∀ w ∈ v_c_find_0, w ∈ v_c_nextMoment_icc := fun w h => it_c_nextMoment_icc w (List.mem_append_right _ (List.mem_append_right _ (List.mem_append_left _ h)))
theorem ic_c_nextMoment_icc_c_len_e : ∀ w ∈ v_c_len_e, w ∈ v_c_nextMoment_icc := fun w h => it_c_nextMoment_icc w (List.mem_append_right _ (List.mem_append_right _ (List.mem_append_right _ (List.mem_append_left _ h))))
theorem ic_c_nextMoment_icc_c_nextTimer_2nn : ∀ w ∈ v_c_nextTimer_2nn, w ∈ v_c_nextMoment_icc := fun w h => it_c_nextMoment_icc w (List.mem_append_right _ (List.mem_append_right _ (List.mem_append_right _ (List.mem_append_right _ (List.mem_append_left _ h)))))
theorem ic_c_nextMoment_icc_c_find_1 : ∀ w ∈ v_c_find_1, w ∈ v_c_nextMoment_icc := fun w h => it_c_nextMoment_icc w (List.mem_append_right _ (List.mem_append_right _ (List.mem_append_right _ (List.mem_append_right _ (List.mem_append_right _ (List.mem_append_left _ h))))))
theorem ic_c_nextMoment_icc_c_nextTimer_0cc : ∀ w ∈ v_c_nextTimer_0cc, w ∈ v_c_nextMoment_icc := fun w h => it_c_nextMoment_icc w (List.mem_append_right _ (List.mem_append_right _ (List.mem_append_right _ (List.mem_append_right _ (List.mem_append_right _ (List.mem_append_right _ (h)))))))
theorem gt_c_nextMoment_icc : ∀ w ∈ tl_c_nextMoment_icc, goodWord w = true := List.forall_mem_append.mpr ⟨gw_wsX100, List.forall_mem_append.mpr ⟨gw_wsX40, List.forall_mem_append.mpr ⟨gw_c_find_0, List.forall_mem_append.mpr ⟨gw_c_len_e, List.forall_mem_append.mpr ⟨gw_c_nextTimer_2nn, List.forall_mem_append.mpr ⟨gw_c_find_1, gw_c_nextTimer_0cc⟩⟩⟩⟩⟩⟩
theorem gw_c_nextMoment_icc : ∀ w ∈ v_c_nextMoment_icc, goodWord w = true := List.forall_mem_cons.mpr ⟨by decide +kernel, List.forall_mem_append.mpr ⟨List.all_eq_true.mp (by decide +kernel), gt_c_nextMoment_icc⟩⟩
theorem g_c_nextMoment_icc_c_find_0_53 : GoodIn v_c_nextMoment_icc (wsV RX10 53 RX10 yX10_find v_c_find_0) := goodIn_app (goodIn_r [.methodLink RX10 53 yX10_find, .instanceMethod yX10_find, .selects RX10 yX10_find yX10_find, .initialized RX10] [3, 4, 5, 2] (by decide +kernel) (by decide +kernel)) (fun w h => ⟨ic_c_nextMoment_icc_c_find_0 w h, good_of_word (gw_c_find_0 w h)⟩)
theorem g_c_nextMoment_icc_c_len_e_129 : GoodIn v_c_nextMoment_icc (wsV RX10 129 RX5 yX5_length v_c_len_e) := goodIn_app (goodIn_r [.methodLink RX10 129 yX5_length, .instanceMethod yX5_length, .selects RX5 yX5_length yX5_length, .initialized RX5] [8, 9, 10, 7] (by decide +kernel) (by decide +kernel)) (fun w h => ⟨ic_c_nextMoment_icc_c_len_e w h, good_of_word (gw_c_len_e w h)⟩)
theorem g_c_nextMoment_icc_c_nextTimer_2nn_199 : GoodIn v_c_nextMoment_icc (wsV RX10 199 RX4 yX4_nextTimer v_c_nextTimer_2nn) := goodIn_app (goodIn_r [.methodLink RX10 199 yX4_nextTimer, .instanceMethod yX4_nextTimer, .selects RX4 yX4_nextTimer yX4_nextTimer, .initialized RX4] [12, 13, 14, 11] (by decide +kernel) (by decide +kernel)) (fun w h => ⟨ic_c_nextMoment_icc_c_nextTimer_2nn w h, good_of_word (gw_c_nextTimer_2nn w h)⟩)
theorem g_c_nextMoment_icc_c_find_1_53 : GoodIn v_c_nextMoment_icc (wsV RX10 53 RX10 yX10_find v_c_find_1) := goodIn_app (goodIn_r [.methodLink RX10 53 yX10_find, .instanceMethod yX10_find, .selects RX10 yX10_find yX10_find, .initialized RX10] [3, 4, 5, 2] (by decide +kernel) (by decide +kernel)) (fun w h => ⟨ic_c_nextMoment_icc_c_find_1 w h, good_of_word (gw_c_find_1 w h)⟩)
theorem g_c_nextMoment_icc_c_nextTimer_0cc_199 : GoodIn v_c_nextMoment_icc (wsV RX10 199 RX4 yX4_nextTimer v_c_nextTimer_0cc) := goodIn_app (goodIn_r [.methodLink RX10 199 yX4_nextTimer, .instanceMethod yX4_nextTimer, .selects RX4 yX4_nextTimer yX4_nextTimer, .initialized RX4] [12, 13, 14, 11] (by decide +kernel) (by decide +kernel)) (fun w h => ⟨ic_c_nextMoment_icc_c_nextTimer_0cc w h, good_of_word (gw_c_nextTimer_0cc w h)⟩)
set_option maxHeartbeats 4000000 in
set_option maxRecDepth 100000 in
theorem c_nextMoment_icc (l : Launch) (dC : Nat → ClassId) (dI : Nat → Nat → Nat) (x : Nat) (nr : Nat) (st : Nat) (lf : Nat) (tm : Nat) (fcn : Nat) (xl : Int32) (cN : ClassId) (fn : Nat → Option Nat) (an : Nat) (ah : Int32) (al : Int32) (awa : Int32) (afr : Int32) (awi : Nat) (ar : Nat) (ae : Nat) (as : Nat) (ai : Nat) (ag : Nat) (ac : Nat) (au : Nat) (acc : Nat) (arh : Int32) (arl : Int32) (arf : Nat) (ahp : Int32) (atp : Int32) (bn : Nat) (bh : Int32) (bl : Int32) (bwa : Int32) (bfr : Int32) (bwi : Nat) (br : Nat) (be : Nat) (bs : Nat) (bi : Nat) (bg : Nat) (bc : Nat) (bu : Nat) (bcc : Nat) (brh : Int32) (brl : Int32) (brf : Nat) (bhp : Int32) (btp : Int32) (asnp : Int32) (asdo : Int32) (mm : Nat) (bsnp : Int32) (bsdo : Int32) (acT : ClassId) (afg : Nat → Option Nat) (acm : Nat) (ace : Nat) (bcm : Nat) (bce : Nat) (cQ : ClassId) (fq : Nat → Option Nat) (tq : Nat) (k1 : Int32) (k2 : Int32) (k3 : Int32) (k4 : Int32) (k5 : Int32) (k6 : Int32) (k7 : Int32) (k8 : Int32) (k9 : Int32) (k10 : Int32) (k11 : Int32) (kw : Nat) (kb : Nat) (bcT : ClassId) (bfg : Nat → Option Nat) (tr : Nat) (j1 : Int32) (j2 : Int32) (j3 : Int32) (j4 : Int32) (j5 : Int32) (j6 : Int32) (j7 : Int32) (j8 : Int32) (j9 : Int32) (j10 : Int32) (j11 : Int32) (jw : Nat) (jb : Nat) (en : Nat) (sz : Nat) (n0 : fn 0 = some an) (n1 : fn 1 = some bn) (htm : tm < 200000) (ag0_ : afg 0 = none) (ag1_ : afg 1 = none) (ag2_ : afg 2 = none) (hq : fq 0 = some tq) (bg0_ : bfg 0 = some tr) (bg1_ : bfg 1 = none) (bg2_ : bfg 2 = none) (hen : tm < en ∧ en < 300000) : Met l yX10_nextMoment v_c_nextMoment_icc ({ frames := 4, cells := 0, slots := 0, locals := 89 }) (va_Pc [.ref x, .int (nI en)] (fun U => U.heap.size = sz ∧ va_P (dC, dI) vwCl [(x, .inr (11, [.ref nr, .ref st, .ref lf, .int 2, .int (nI tm), .int (nI fcn), .int xl, .int 0])), (nr, .inl (cN, 8, .inr (.inr (.inr (.inr fn))))), (an, .inr (5, [.int ah, .int al, .int awa, .int afr, .int (nI awi), .ref ar, .ref ae, .ref as, .ref ai, .ref ag, .ref ac, .ref au, .int 0, .int 2, .int 10, .int (nI acc), .int 0, .int 0])), (ar, .inr (6, [.int arh, .int arl, .ref st, .null, .null, .int ahp, .int atp, .int 0, .int 0, .int 0, .ref arf, .int 0])), (bn, .inr (5, [.int bh, .int bl, .int bwa, .int bfr, .int (nI bwi), .ref br, .ref be, .ref bs, .ref bi, .ref bg, .ref bc, .ref bu, .int 0, .int 2, .int 200, .int (nI bcc), .int 0, .int 0])), (br, .inr (6, [.int brh, .int brl, .ref st, .null, .null, .int bhp, .int btp, .int 0, .int 0, .int 0, .ref brf, .int 0])), (as, .inr (7, [.int 2, .int asnp, .int asdo, .ref mm])), (bs, .inr (7, [.int 0, .int bsnp, .int bsdo, .null])), (ag, .inl (acT, 3, .inr (.inr (.inr (.inr afg))))), (ac, .inr (0, [.int (nI acm), .ref ace, .int 0])), (bc, .inr (0, [.int (nI bcm), .ref bce, .int 1])), (bce, .inl (cQ, 10, .inr (.inr (.inr (.inr fq))))), (tq, .inr (10, [.int 0, .int k1, .int k2, .int k3, .int k4, .int k5, .int k6, .int k7, .int k8, .int k9, .int k10, .int k11, .ref kw, .ref kb])), (bg, .inl (bcT, 3, .inr (.inr (.inr (.inr bfg))))), (tr, .inr (10, [.int 0, .int j1, .int j2, .int j3, .int j4, .int j5, .int j6, .int j7, .int j8, .int j9, .int j10, .int j11, .ref jw, .ref jb]))] U.heap ∧ va_K (dC, dI) vwCl [(cN, (.object RX4)), (acT, (.object RX9)), (cQ, (.object "java/lang/Object")), (bcT, (.object RX9))] U ∧ va_D (fun _ => True) [(x, .inr (11, [.ref nr, .ref st, .ref lf, .int 2, .int (nI tm), .int (nI fcn), .int xl, .int 0])), (nr, .inl (cN, 8, .inr (.inr (.inr (.inr fn))))), (an, .inr (5, [.int ah, .int al, .int awa, .int afr, .int (nI awi), .ref ar, .ref ae, .ref as, .ref ai, .ref ag, .ref ac, .ref au, .int 0, .int 2, .int 10, .int (nI acc), .int 0, .int 0])), (ar, .inr (6, [.int arh, .int arl, .ref st, .null, .null, .int ahp, .int atp, .int 0, .int 0, .int 0, .ref arf, .int 0])), (bn, .inr (5, [.int bh, .int bl, .int bwa, .int bfr, .int (nI bwi), .ref br, .ref be, .ref bs, .ref bi, .ref bg, .ref bc, .ref bu, .int 0, .int 2, .int 200, .int (nI bcc), .int 0, .int 0])), (br, .inr (6, [.int brh, .int brl, .ref st, .null, .null, .int bhp, .int btp, .int 0, .int 0, .int 0, .ref brf, .int 0])), (as, .inr (7, [.int 2, .int asnp, .int asdo, .ref mm])), (bs, .inr (7, [.int 0, .int bsnp, .int bsdo, .null])), (ag, .inl (acT, 3, .inr (.inr (.inr (.inr afg))))), (ac, .inr (0, [.int (nI acm), .ref ace, .int 0])), (bc, .inr (0, [.int (nI bcm), .ref bce, .int 1])), (bce, .inl (cQ, 10, .inr (.inr (.inr (.inr fq))))), (tq, .inr (10, [.int 0, .int k1, .int k2, .int k3, .int k4, .int k5, .int k6, .int k7, .int k8, .int k9, .int k10, .int k11, .ref kw, .ref kb])), (bg, .inl (bcT, 3, .inr (.inr (.inr (.inr bfg))))), (tr, .inr (10, [.int 0, .int j1, .int j2, .int j3, .int j4, .int j5, .int j6, .int j7, .int j8, .int j9, .int j10, .int j11, .ref jw, .ref jb]))] ∧ ev U)) (va_Qi (fun (r : Int32) (_ : Unit) => r = (nI en)) (fun (_ : Unit) (_ : State) => True) (va_A [] sz)) 0 0 (va_A [] sz) := by
  refine Met.ofW (cc := cX10_nextMoment) (maxL := 5) (ret := (some .int)) (by decide) rfl ?_
  intro p e s m args below meth c s₁ B hml hv
  obtain ⟨rfl, hsz, hP, hK, hD0, hE⟩ := hv
  have hx := B.exec
  have hb := B.bytes
  have hr := B.returns
  have hts := atoms_spec (ws := v_c_nextMoment_icc) B.pre
  have hown : s.vm.findClass RX10 = some m.cls := findClass_of_methodNamed B.named
  have hlocks := B.notSynchronized
  subst hsz
  have hD := hD0
  generalize hAe : va_A [] s.heap.size = A
  have hA : ∀ q : Nat, s.heap.size ≤ q → A q := fun q h => by rw [← hAe]; exact Or.inr h
  have hS : va_S A s.heap s.heap [] := va_S.rf
  replace hP : va_P (dC, dI) vwCl [(x, .inr (11, [.ref nr, .ref st, .ref lf, .int 2, .int (nI tm), .int (nI fcn), .int xl, .int 0])), (nr, .inl (cN, 8, .inr (.inr (.inr (.inr fn))))), (an, .inr (5, [.int ah, .int al, .int awa, .int afr, .int (nI awi), .ref ar, .ref ae, .ref as, .ref ai, .ref ag, .ref ac, .ref au, .int 0, .int 2, .int 10, .int (nI acc), .int 0, .int 0])), (ar, .inr (6, [.int arh, .int arl, .ref st, .null, .null, .int ahp, .int atp, .int 0, .int 0, .int 0, .ref arf, .int 0])), (bn, .inr (5, [.int bh, .int bl, .int bwa, .int bfr, .int (nI bwi), .ref br, .ref be, .ref bs, .ref bi, .ref bg, .ref bc, .ref bu, .int 0, .int 2, .int 200, .int (nI bcc), .int 0, .int 0])), (br, .inr (6, [.int brh, .int brl, .ref st, .null, .null, .int bhp, .int btp, .int 0, .int 0, .int 0, .ref brf, .int 0])), (as, .inr (7, [.int 2, .int asnp, .int asdo, .ref mm])), (bs, .inr (7, [.int 0, .int bsnp, .int bsdo, .null])), (ag, .inl (acT, 3, .inr (.inr (.inr (.inr afg))))), (ac, .inr (0, [.int (nI acm), .ref ace, .int 0])), (bc, .inr (0, [.int (nI bcm), .ref bce, .int 1])), (bce, .inl (cQ, 10, .inr (.inr (.inr (.inr fq))))), (tq, .inr (10, [.int 0, .int k1, .int k2, .int k3, .int k4, .int k5, .int k6, .int k7, .int k8, .int k9, .int k10, .int k11, .ref kw, .ref kb])), (bg, .inl (bcT, 3, .inr (.inr (.inr (.inr bfg))))), (tr, .inr (10, [.int 0, .int j1, .int j2, .int j3, .int j4, .int j5, .int j6, .int j7, .int j8, .int j9, .int j10, .int j11, .ref jw, .ref jb]))] s.heap := hP
  have hl := lv_entry ([.ref x, .int (nI en)]) (n := 5) (Nat.le_of_ble_eq_true rfl)
  rw [lg_entry_eq]
  generalize (lg_sl ([.ref x, .int (nI en)]) ++ List.replicate (5 - (lg_sl ([.ref x, .int (nI en)])).length) Slot.unset).toArray = ls at hl ⊢
  replace hl : lv_has ls 5 [(0, .ref x), (1, .int (nI en))] := hl
  obtain ⟨H, hH⟩ : ∃ z : Heap, z = s.heap := ⟨_, rfl⟩
  rw [← hH]
  replace hS : va_S A s.heap H [] := by rw [hH]; exact va_S.rf
  replace hP : va_P (dC, dI) vwCl [(x, .inr (11, [.ref nr, .ref st, .ref lf, .int 2, .int (nI tm), .int (nI fcn), .int xl, .int 0])), (nr, .inl (cN, 8, .inr (.inr (.inr (.inr fn))))), (an, .inr (5, [.int ah, .int al, .int awa, .int afr, .int (nI awi), .ref ar, .ref ae, .ref as, .ref ai, .ref ag, .ref ac, .ref au, .int 0, .int 2, .int 10, .int (nI acc), .int 0, .int 0])), (ar, .inr (6, [.int arh, .int arl, .ref st, .null, .null, .int ahp, .int atp, .int 0, .int 0, .int 0, .ref arf, .int 0])), (bn, .inr (5, [.int bh, .int bl, .int bwa, .int bfr, .int (nI bwi), .ref br, .ref be, .ref bs, .ref bi, .ref bg, .ref bc, .ref bu, .int 0, .int 2, .int 200, .int (nI bcc), .int 0, .int 0])), (br, .inr (6, [.int brh, .int brl, .ref st, .null, .null, .int bhp, .int btp, .int 0, .int 0, .int 0, .ref brf, .int 0])), (as, .inr (7, [.int 2, .int asnp, .int asdo, .ref mm])), (bs, .inr (7, [.int 0, .int bsnp, .int bsdo, .null])), (ag, .inl (acT, 3, .inr (.inr (.inr (.inr afg))))), (ac, .inr (0, [.int (nI acm), .ref ace, .int 0])), (bc, .inr (0, [.int (nI bcm), .ref bce, .int 1])), (bce, .inl (cQ, 10, .inr (.inr (.inr (.inr fq))))), (tq, .inr (10, [.int 0, .int k1, .int k2, .int k3, .int k4, .int k5, .int k6, .int k7, .int k8, .int k9, .int k10, .int k11, .ref kw, .ref kb])), (bg, .inl (bcT, 3, .inr (.inr (.inr (.inr bfg))))), (tr, .inr (10, [.int 0, .int j1, .int j2, .int j3, .int j4, .int j5, .int j6, .int j7, .int j8, .int j9, .int j10, .int j11, .ref jw, .ref jb]))] H := by rw [hH]; exact hP
  clear hH
  refine lv_iload_n hx hb dX10_nextMoment_0 rfl (lv_at hl 1 rfl) ?_
  refine lv_istore_n (lv' := [(2, .int (nI en)), (0, .ref x), (1, .int (nI en))]) hx hb dX10_nextMoment_1 rfl hl (by decide) rfl (fun ls hl => ?_)
  refine lv_iconst (v := 0) hx hb dX10_nextMoment_2 (by decide) ?_
  refine lv_istore_n (lv' := [(3, .int 0), (2, .int (nI en)), (0, .ref x), (1, .int (nI en))]) hx hb dX10_nextMoment_3 rfl hl (by decide) rfl (fun ls hl => ?_)
  refine lv_iload_n hx hb dX10_nextMoment_4 rfl (lv_at hl 0 rfl) ?_
  refine lv_aload_n hx hb dX10_nextMoment_5 rfl (lv_at hl 2 rfl) ?_
  refine va_get (D := (dC, dI)) (ci := 11) (v := .int 2) (C := RX10) (T := TX10) (N := 8) hx hb hts in_c_nextMoment_icc_X10 hown hK hP 0 rfl rfl 3 (by decide) (hts (.fieldLink RX10 29 "ClaimBus" "nodeCount" "I") (List.mem_of_getElem? (i := 1) rfl)) (fun _ h9 => h9) rfl dX10_nextMoment_6 ?_
  refine lv_icmp_ge (tgt := 63) hx hb dX10_nextMoment_9 (by decide) (fun c_1 => ?_) (fun c_1 => ?_)
  · exact absurd c_1 (by decide)
  refine lv_aload_n hx hb dX10_nextMoment_12 rfl (lv_at hl 2 rfl) ?_
  refine lv_iload_n hx hb dX10_nextMoment_13 rfl (lv_at hl 0 rfl) ?_
  have hPc := hP.sub (ws' := [(x, .inr (11, [.ref nr, .ref st, .ref lf, .int 2, .int (nI tm), .int (nI fcn), .int xl, .int 0])), (nr, .inl (cN, 8, .inr (.inr (.inr (.inr fn)))))]) [0, 1] rfl
  have hDc := hD.sub (ws' := [(x, .inr (11, [.ref nr, .ref st, .ref lf, .int 2, .int (nI tm), .int (nI fcn), .int xl, .int 0])), (nr, .inl (cN, 8, .inr (.inr (.inr (.inr fn)))))]) [0, 1] (by decide +kernel) rfl
  have hKc := hK.sub (tys' := [(cN, (.object RX4))]) [0] rfl
  have hFc := ro_free hS hA
  refine va_callq (va_runV (As := [.int 0]) (rest := []) ⟨hx, hb, hml, hown, hts⟩ (c_find_0 l dC dI (x) (nr) (st) (lf) (tm) (fcn) (xl) (cN) (fn) (an) H.size n0) (cwV 1 hts g_c_nextMoment_icc_c_find_0_53 rfl rfl rfl (by decide +kernel) ⟨Nat.le_of_ble_eq_true rfl, Nat.le_of_ble_eq_true rfl⟩) ⟨fun a U g mk q => by obtain ⟨q0, q1, qP, qK, qD, qE⟩ := q; exact ⟨q0, q1, qP, va_K.moved (u := U) (U := U.calling g mk a) (Vm.Alike.refl U.vm) qK, qD, ev.same (u := U) (U := U.calling g mk a) rfl qE⟩, va_recv hKc hPc (ci := 11) (q0 := 0) rfl rfl, fun U hU hW => ⟨rfl, by rw [hU], by rw [hU]; exact hPc, va_K.moved hW.alike hKc, hDc.weaken (fun _ _ _ _ => trivial), hE.warm hW⟩⟩ rfl rfl hl.1 rfl (lv_room (Nat.le_of_ble_eq_true rfl)) dX10_nextMoment_14 ⟨Nat.le_of_ble_eq_true rfl, Nat.le_of_ble_eq_true rfl⟩) hS (fun q _ h => hFc q h) hFc (fun r_2 u t H1 locs ht hvm hw hB hz1 hk1 hS => ?_)
  clear hPc hDc hKc
  replace hP := ro_keep hP hk1
  generalize H1 = H at hP hS ⊢
  replace hP : va_P (dC, dI) vwCl [(x, .inr (11, [.ref nr, .ref st, .ref lf, .int 2, .int (nI tm), .int (nI fcn), .int xl, .int 0])), (nr, .inl (cN, 8, .inr (.inr (.inr (.inr fn))))), (an, .inr (5, [.int ah, .int al, .int awa, .int afr, .int (nI awi), .ref ar, .ref ae, .ref as, .ref ai, .ref ag, .ref ac, .ref au, .int 0, .int 2, .int 10, .int (nI acc), .int 0, .int 0])), (ar, .inr (6, [.int arh, .int arl, .ref st, .null, .null, .int ahp, .int atp, .int 0, .int 0, .int 0, .ref arf, .int 0])), (bn, .inr (5, [.int bh, .int bl, .int bwa, .int bfr, .int (nI bwi), .ref br, .ref be, .ref bs, .ref bi, .ref bg, .ref bc, .ref bu, .int 0, .int 2, .int 200, .int (nI bcc), .int 0, .int 0])), (br, .inr (6, [.int brh, .int brl, .ref st, .null, .null, .int bhp, .int btp, .int 0, .int 0, .int 0, .ref brf, .int 0])), (as, .inr (7, [.int 2, .int asnp, .int asdo, .ref mm])), (bs, .inr (7, [.int 0, .int bsnp, .int bsdo, .null])), (ag, .inl (acT, 3, .inr (.inr (.inr (.inr afg))))), (ac, .inr (0, [.int (nI acm), .ref ace, .int 0])), (bc, .inr (0, [.int (nI bcm), .ref bce, .int 1])), (bce, .inl (cQ, 10, .inr (.inr (.inr (.inr fq))))), (tq, .inr (10, [.int 0, .int k1, .int k2, .int k3, .int k4, .int k5, .int k6, .int k7, .int k8, .int k9, .int k10, .int k11, .ref kw, .ref kb])), (bg, .inl (bcT, 3, .inr (.inr (.inr (.inr bfg))))), (tr, .inr (10, [.int 0, .int j1, .int j2, .int j3, .int j4, .int j5, .int j6, .int j7, .int j8, .int j9, .int j10, .int j11, .ref jw, .ref jb]))] H := hP
  have hw := hw.symm
  subst hw
  refine W.eq (g2 := F0 m 17 ls [.ref an]) rfl ?_
  refine lv_astore (lv' := [(4, .ref an), (3, .int 0), (2, .int (nI en)), (0, .ref x), (1, .int (nI en))]) hx hb dX10_nextMoment_17 hl (by decide) rfl (fun ls hl => ?_)
  refine lv_aload hx hb dX10_nextMoment_19 (lv_at hl 0 rfl) ?_
  refine lv_ifnull hx hb dX10_nextMoment_21 ?_
  refine lv_aload hx hb dX10_nextMoment_24 (lv_at hl 0 rfl) ?_
  refine va_get (D := (dC, dI)) (ci := 5) (v := .ref ar) (C := RX4) (T := TX4) (N := 18) hx hb hts in_c_nextMoment_icc_X4 hown hK hP 2 rfl rfl 5 (by decide) (hts (.fieldLink RX10 74 "ClaimBus$Node" "row" "LClaimBus$Row;") (List.mem_of_getElem? (i := 6) rfl)) (fun _ h9 => h9) rfl dX10_nextMoment_26 ?_
  have hPc := hP.sub (ws' := [(ar, .inr (6, [.int arh, .int arl, .ref st, .null, .null, .int ahp, .int atp, .int 0, .int 0, .int 0, .ref arf, .int 0]))]) [3] rfl
  have hDc := hD.sub (ws' := [(ar, .inr (6, [.int arh, .int arl, .ref st, .null, .null, .int ahp, .int atp, .int 0, .int 0, .int 0, .ref arf, .int 0]))]) [3] (by decide +kernel) rfl
  have hKc := hK.sub (tys' := []) [] rfl
  have hFc := ro_free hS hA
  refine va_calli (va_runV (As := []) (rest := []) ⟨hx, hb, hml, hown, hts⟩ (c_len_e l dC dI (ar) (arh) (arl) (st) (arf) (ahp) (atp) H.size) (cwV 0 hts g_c_nextMoment_icc_c_len_e_129 rfl rfl rfl (by decide +kernel) ⟨Nat.le_of_ble_eq_true rfl, Nat.le_of_ble_eq_true rfl⟩) ⟨fun a U g mk q => by obtain ⟨q0, q1, qP, qK, qD, qE⟩ := q; exact ⟨q0, q1, qP, va_K.moved (u := U) (U := U.calling g mk a) (Vm.Alike.refl U.vm) qK, qD, ev.same (u := U) (U := U.calling g mk a) rfl qE⟩, va_recv hKc hPc (ci := 6) (q0 := 0) rfl rfl, fun U hU hW => ⟨rfl, by rw [hU], by rw [hU]; exact hPc, va_K.moved hW.alike hKc, hDc.weaken (fun _ _ _ _ => trivial), hE.warm hW⟩⟩ rfl rfl hl.1 rfl (lv_room (Nat.le_of_ble_eq_true rfl)) dX10_nextMoment_29 ⟨Nat.le_of_ble_eq_true rfl, Nat.le_of_ble_eq_true rfl⟩) hS (fun q _ h => hFc q h) hFc (fun r_3 u t H1 locs ht hvm hw hB hz1 hk1 hS => ?_)
  clear hPc hDc hKc
  replace hP := ro_keep hP hk1
  generalize H1 = H at hP hS ⊢
  replace hP : va_P (dC, dI) vwCl [(x, .inr (11, [.ref nr, .ref st, .ref lf, .int 2, .int (nI tm), .int (nI fcn), .int xl, .int 0])), (nr, .inl (cN, 8, .inr (.inr (.inr (.inr fn))))), (an, .inr (5, [.int ah, .int al, .int awa, .int afr, .int (nI awi), .ref ar, .ref ae, .ref as, .ref ai, .ref ag, .ref ac, .ref au, .int 0, .int 2, .int 10, .int (nI acc), .int 0, .int 0])), (ar, .inr (6, [.int arh, .int arl, .ref st, .null, .null, .int ahp, .int atp, .int 0, .int 0, .int 0, .ref arf, .int 0])), (bn, .inr (5, [.int bh, .int bl, .int bwa, .int bfr, .int (nI bwi), .ref br, .ref be, .ref bs, .ref bi, .ref bg, .ref bc, .ref bu, .int 0, .int 2, .int 200, .int (nI bcc), .int 0, .int 0])), (br, .inr (6, [.int brh, .int brl, .ref st, .null, .null, .int bhp, .int btp, .int 0, .int 0, .int 0, .ref brf, .int 0])), (as, .inr (7, [.int 2, .int asnp, .int asdo, .ref mm])), (bs, .inr (7, [.int 0, .int bsnp, .int bsdo, .null])), (ag, .inl (acT, 3, .inr (.inr (.inr (.inr afg))))), (ac, .inr (0, [.int (nI acm), .ref ace, .int 0])), (bc, .inr (0, [.int (nI bcm), .ref bce, .int 1])), (bce, .inl (cQ, 10, .inr (.inr (.inr (.inr fq))))), (tq, .inr (10, [.int 0, .int k1, .int k2, .int k3, .int k4, .int k5, .int k6, .int k7, .int k8, .int k9, .int k10, .int k11, .ref kw, .ref kb])), (bg, .inl (bcT, 3, .inr (.inr (.inr (.inr bfg))))), (tr, .inr (10, [.int 0, .int j1, .int j2, .int j3, .int j4, .int j5, .int j6, .int j7, .int j8, .int j9, .int j10, .int j11, .ref jw, .ref jb]))] H := hP
  have hw := hw.symm
  subst hw
  refine lv_if_le (tgt := 42) hx hb dX10_nextMoment_32 (by decide) (fun c_4 => ?_) (fun c_4 => ?_)
  rotate_left
  · exact absurd (by decide) c_4
  refine lv_aload hx hb dX10_nextMoment_42 (lv_at hl 0 rfl) ?_
  refine lv_ifnull hx hb dX10_nextMoment_44 ?_
  refine lv_iload_n hx hb dX10_nextMoment_47 rfl (lv_at hl 2 rfl) ?_
  refine lv_aload hx hb dX10_nextMoment_48 (lv_at hl 0 rfl) ?_
  have hPc := hP.sub (ws' := [(an, .inr (5, [.int ah, .int al, .int awa, .int afr, .int (nI awi), .ref ar, .ref ae, .ref as, .ref ai, .ref ag, .ref ac, .ref au, .int 0, .int 2, .int (nI 10), .int (nI acc), .int 0, .int 0])), (as, .inr (7, [.int 2, .int asnp, .int asdo, .ref mm])), (ac, .inr (0, [.int (nI acm), .ref ace, .int 0])), (ag, .inl (acT, 3, .inr (.inr (.inr (.inr afg)))))]) [2, 6, 9, 8] rfl
  have hDc := hD.sub (ws' := [(an, .inr (5, [.int ah, .int al, .int awa, .int afr, .int (nI awi), .ref ar, .ref ae, .ref as, .ref ai, .ref ag, .ref ac, .ref au, .int 0, .int 2, .int (nI 10), .int (nI acc), .int 0, .int 0])), (as, .inr (7, [.int 2, .int asnp, .int asdo, .ref mm])), (ac, .inr (0, [.int (nI acm), .ref ace, .int 0])), (ag, .inl (acT, 3, .inr (.inr (.inr (.inr afg)))))]) [2, 6, 9, 8] (by decide +kernel) rfl
  have hKc := hK.sub (tys' := [(acT, (.object RX9))]) [1] rfl
  have hFc := ro_free hS hA
  refine va_calli (va_runV (As := []) (rest := [.int (nI en)]) ⟨hx, hb, hml, hown, hts⟩ (c_nextTimer_2nn l dC dI (an) (ah) (al) (awa) (afr) (awi) (ar) (ae) (as) (ai) (ag) (ac) (au) (10) (acc) (asnp) (asdo) (mm) (acm) (ace) (acT) (afg) H.size ag0_ ag1_ ag2_) (cwV 0 hts g_c_nextMoment_icc_c_nextTimer_2nn_199 rfl rfl rfl (by decide +kernel) ⟨Nat.le_of_ble_eq_true rfl, Nat.le_of_ble_eq_true rfl⟩) ⟨fun a U g mk q => by obtain ⟨q0, q1, qP, qK, qD, qE⟩ := q; exact ⟨q0, q1, qP, va_K.moved (u := U) (U := U.calling g mk a) (Vm.Alike.refl U.vm) qK, qD, ev.same (u := U) (U := U.calling g mk a) rfl qE⟩, va_recv hKc hPc (ci := 5) (q0 := 0) rfl rfl, fun U hU hW => ⟨rfl, by rw [hU], by rw [hU]; exact hPc, va_K.moved hW.alike hKc, hDc.weaken (fun _ _ _ _ => trivial), hE.warm hW⟩⟩ rfl rfl hl.1 rfl (lv_room (Nat.le_of_ble_eq_true rfl)) dX10_nextMoment_50 ⟨Nat.le_of_ble_eq_true rfl, Nat.le_of_ble_eq_true rfl⟩) hS (fun q _ h => hFc q h) hFc (fun r_5 u t H1 locs ht hvm hw hB hz1 hk1 hS => ?_)
  clear hPc hDc hKc
  replace hP := ro_keep hP hk1
  generalize H1 = H at hP hS ⊢
  replace hP : va_P (dC, dI) vwCl [(x, .inr (11, [.ref nr, .ref st, .ref lf, .int 2, .int (nI tm), .int (nI fcn), .int xl, .int 0])), (nr, .inl (cN, 8, .inr (.inr (.inr (.inr fn))))), (an, .inr (5, [.int ah, .int al, .int awa, .int afr, .int (nI awi), .ref ar, .ref ae, .ref as, .ref ai, .ref ag, .ref ac, .ref au, .int 0, .int 2, .int 10, .int (nI acc), .int 0, .int 0])), (ar, .inr (6, [.int arh, .int arl, .ref st, .null, .null, .int ahp, .int atp, .int 0, .int 0, .int 0, .ref arf, .int 0])), (bn, .inr (5, [.int bh, .int bl, .int bwa, .int bfr, .int (nI bwi), .ref br, .ref be, .ref bs, .ref bi, .ref bg, .ref bc, .ref bu, .int 0, .int 2, .int 200, .int (nI bcc), .int 0, .int 0])), (br, .inr (6, [.int brh, .int brl, .ref st, .null, .null, .int bhp, .int btp, .int 0, .int 0, .int 0, .ref brf, .int 0])), (as, .inr (7, [.int 2, .int asnp, .int asdo, .ref mm])), (bs, .inr (7, [.int 0, .int bsnp, .int bsdo, .null])), (ag, .inl (acT, 3, .inr (.inr (.inr (.inr afg))))), (ac, .inr (0, [.int (nI acm), .ref ace, .int 0])), (bc, .inr (0, [.int (nI bcm), .ref bce, .int 1])), (bce, .inl (cQ, 10, .inr (.inr (.inr (.inr fq))))), (tq, .inr (10, [.int 0, .int k1, .int k2, .int k3, .int k4, .int k5, .int k6, .int k7, .int k8, .int k9, .int k10, .int k11, .ref kw, .ref kb])), (bg, .inl (bcT, 3, .inr (.inr (.inr (.inr bfg))))), (tr, .inr (10, [.int 0, .int j1, .int j2, .int j3, .int j4, .int j5, .int j6, .int j7, .int j8, .int j9, .int j10, .int j11, .ref jw, .ref jb]))] H := hP
  have hw := hw.symm
  subst hw
  refine va_mmin hx hb (by rw [hml]; exact hl.1.symm) hown (hts (.methodLink RX10 202 Lib.Math.min.name) (List.mem_of_getElem? (i := 15) rfl)) (hts (.static Lib.Math.min.name) (List.mem_of_getElem? (i := 16) rfl)) (hts (.initialized "java/lang/Math") (List.mem_of_getElem? (i := 17) rfl)) (hts (.code Lib.Math.min.name Lib.Math.min.code 2 (some .int)) (List.mem_of_getElem? (i := 18) rfl)) (Nat.le_of_ble_eq_true rfl) (Nat.le_of_ble_eq_true rfl) (Nat.zero_le _) (Nat.zero_le _) dX10_nextMoment_53 ?_
  obtain ⟨mn_6, hmn_6⟩ : ∃ z : Nat, z = min en 2147483647 := ⟨_, rfl⟩
  refine lv_topi (fun x_6 ex_6 => ?_)
  obtain rfl : x_6 = nI mn_6 := ex_6.trans ((q_min (a := en) (b := 2147483647) (by omega) (by omega)).trans (congrArg nI hmn_6.symm))
  refine lv_istore_n (lv' := [(2, .int (nI mn_6)), (4, .ref an), (3, .int 0), (0, .ref x), (1, .int (nI en))]) hx hb dX10_nextMoment_56 rfl hl (by decide) rfl (fun ls hl => ?_)
  refine lv_iinc (v := 1) (lv' := [(3, .int 1), (2, .int (nI mn_6)), (4, .ref an), (0, .ref x), (1, .int (nI en))]) hx hb dX10_nextMoment_57 hl (k := 2) rfl (by decide) (by decide) rfl (fun ls hl => ?_)
  refine lv_goto (tgt := 4) hx hb dX10_nextMoment_60 (by decide) ?_
  refine lv_iload_n hx hb dX10_nextMoment_4 rfl (lv_at hl 0 rfl) ?_
  refine lv_aload_n hx hb dX10_nextMoment_5 rfl (lv_at hl 3 rfl) ?_
  refine va_get (D := (dC, dI)) (ci := 11) (v := .int 2) (C := RX10) (T := TX10) (N := 8) hx hb hts in_c_nextMoment_icc_X10 hown hK hP 0 rfl rfl 3 (by decide) (hts (.fieldLink RX10 29 "ClaimBus" "nodeCount" "I") (List.mem_of_getElem? (i := 1) rfl)) (fun _ h9 => h9) rfl dX10_nextMoment_6 ?_
  refine lv_icmp_ge (tgt := 63) hx hb dX10_nextMoment_9 (by decide) (fun c_7 => ?_) (fun c_7 => ?_)
  · exact absurd c_7 (by decide)
  refine lv_aload_n hx hb dX10_nextMoment_12 rfl (lv_at hl 3 rfl) ?_
  refine lv_iload_n hx hb dX10_nextMoment_13 rfl (lv_at hl 0 rfl) ?_
  have hPc := hP.sub (ws' := [(x, .inr (11, [.ref nr, .ref st, .ref lf, .int 2, .int (nI tm), .int (nI fcn), .int xl, .int 0])), (nr, .inl (cN, 8, .inr (.inr (.inr (.inr fn)))))]) [0, 1] rfl
  have hDc := hD.sub (ws' := [(x, .inr (11, [.ref nr, .ref st, .ref lf, .int 2, .int (nI tm), .int (nI fcn), .int xl, .int 0])), (nr, .inl (cN, 8, .inr (.inr (.inr (.inr fn)))))]) [0, 1] (by decide +kernel) rfl
  have hKc := hK.sub (tys' := [(cN, (.object RX4))]) [0] rfl
  have hFc := ro_free hS hA
  refine va_callq (va_runV (As := [.int 1]) (rest := []) ⟨hx, hb, hml, hown, hts⟩ (c_find_1 l dC dI (x) (nr) (st) (lf) (tm) (fcn) (xl) (cN) (fn) (bn) H.size n1) (cwV 1 hts g_c_nextMoment_icc_c_find_1_53 rfl rfl rfl (by decide +kernel) ⟨Nat.le_of_ble_eq_true rfl, Nat.le_of_ble_eq_true rfl⟩) ⟨fun a U g mk q => by obtain ⟨q0, q1, qP, qK, qD, qE⟩ := q; exact ⟨q0, q1, qP, va_K.moved (u := U) (U := U.calling g mk a) (Vm.Alike.refl U.vm) qK, qD, ev.same (u := U) (U := U.calling g mk a) rfl qE⟩, va_recv hKc hPc (ci := 11) (q0 := 0) rfl rfl, fun U hU hW => ⟨rfl, by rw [hU], by rw [hU]; exact hPc, va_K.moved hW.alike hKc, hDc.weaken (fun _ _ _ _ => trivial), hE.warm hW⟩⟩ rfl rfl hl.1 rfl (lv_room (Nat.le_of_ble_eq_true rfl)) dX10_nextMoment_14 ⟨Nat.le_of_ble_eq_true rfl, Nat.le_of_ble_eq_true rfl⟩) hS (fun q _ h => hFc q h) hFc (fun r_8 u t H1 locs ht hvm hw hB hz1 hk1 hS => ?_)
  clear hPc hDc hKc
  replace hP := ro_keep hP hk1
  generalize H1 = H at hP hS ⊢
  replace hP : va_P (dC, dI) vwCl [(x, .inr (11, [.ref nr, .ref st, .ref lf, .int 2, .int (nI tm), .int (nI fcn), .int xl, .int 0])), (nr, .inl (cN, 8, .inr (.inr (.inr (.inr fn))))), (an, .inr (5, [.int ah, .int al, .int awa, .int afr, .int (nI awi), .ref ar, .ref ae, .ref as, .ref ai, .ref ag, .ref ac, .ref au, .int 0, .int 2, .int 10, .int (nI acc), .int 0, .int 0])), (ar, .inr (6, [.int arh, .int arl, .ref st, .null, .null, .int ahp, .int atp, .int 0, .int 0, .int 0, .ref arf, .int 0])), (bn, .inr (5, [.int bh, .int bl, .int bwa, .int bfr, .int (nI bwi), .ref br, .ref be, .ref bs, .ref bi, .ref bg, .ref bc, .ref bu, .int 0, .int 2, .int 200, .int (nI bcc), .int 0, .int 0])), (br, .inr (6, [.int brh, .int brl, .ref st, .null, .null, .int bhp, .int btp, .int 0, .int 0, .int 0, .ref brf, .int 0])), (as, .inr (7, [.int 2, .int asnp, .int asdo, .ref mm])), (bs, .inr (7, [.int 0, .int bsnp, .int bsdo, .null])), (ag, .inl (acT, 3, .inr (.inr (.inr (.inr afg))))), (ac, .inr (0, [.int (nI acm), .ref ace, .int 0])), (bc, .inr (0, [.int (nI bcm), .ref bce, .int 1])), (bce, .inl (cQ, 10, .inr (.inr (.inr (.inr fq))))), (tq, .inr (10, [.int 0, .int k1, .int k2, .int k3, .int k4, .int k5, .int k6, .int k7, .int k8, .int k9, .int k10, .int k11, .ref kw, .ref kb])), (bg, .inl (bcT, 3, .inr (.inr (.inr (.inr bfg))))), (tr, .inr (10, [.int 0, .int j1, .int j2, .int j3, .int j4, .int j5, .int j6, .int j7, .int j8, .int j9, .int j10, .int j11, .ref jw, .ref jb]))] H := hP
  have hw := hw.symm
  subst hw
  refine W.eq (g2 := F0 m 17 ls [.ref bn]) rfl ?_
  refine lv_astore (lv' := [(4, .ref bn), (3, .int 1), (2, .int (nI mn_6)), (0, .ref x), (1, .int (nI en))]) hx hb dX10_nextMoment_17 hl (by decide) rfl (fun ls hl => ?_)
  refine lv_aload hx hb dX10_nextMoment_19 (lv_at hl 0 rfl) ?_
  refine lv_ifnull hx hb dX10_nextMoment_21 ?_
  refine lv_aload hx hb dX10_nextMoment_24 (lv_at hl 0 rfl) ?_
  refine va_get (D := (dC, dI)) (ci := 5) (v := .ref br) (C := RX4) (T := TX4) (N := 18) hx hb hts in_c_nextMoment_icc_X4 hown hK hP 4 rfl rfl 5 (by decide) (hts (.fieldLink RX10 74 "ClaimBus$Node" "row" "LClaimBus$Row;") (List.mem_of_getElem? (i := 6) rfl)) (fun _ h9 => h9) rfl dX10_nextMoment_26 ?_
  have hPc := hP.sub (ws' := [(br, .inr (6, [.int brh, .int brl, .ref st, .null, .null, .int bhp, .int btp, .int 0, .int 0, .int 0, .ref brf, .int 0]))]) [5] rfl
  have hDc := hD.sub (ws' := [(br, .inr (6, [.int brh, .int brl, .ref st, .null, .null, .int bhp, .int btp, .int 0, .int 0, .int 0, .ref brf, .int 0]))]) [5] (by decide +kernel) rfl
  have hKc := hK.sub (tys' := []) [] rfl
  have hFc := ro_free hS hA
  refine va_calli (va_runV (As := []) (rest := []) ⟨hx, hb, hml, hown, hts⟩ (c_len_e l dC dI (br) (brh) (brl) (st) (brf) (bhp) (btp) H.size) (cwV 0 hts g_c_nextMoment_icc_c_len_e_129 rfl rfl rfl (by decide +kernel) ⟨Nat.le_of_ble_eq_true rfl, Nat.le_of_ble_eq_true rfl⟩) ⟨fun a U g mk q => by obtain ⟨q0, q1, qP, qK, qD, qE⟩ := q; exact ⟨q0, q1, qP, va_K.moved (u := U) (U := U.calling g mk a) (Vm.Alike.refl U.vm) qK, qD, ev.same (u := U) (U := U.calling g mk a) rfl qE⟩, va_recv hKc hPc (ci := 6) (q0 := 0) rfl rfl, fun U hU hW => ⟨rfl, by rw [hU], by rw [hU]; exact hPc, va_K.moved hW.alike hKc, hDc.weaken (fun _ _ _ _ => trivial), hE.warm hW⟩⟩ rfl rfl hl.1 rfl (lv_room (Nat.le_of_ble_eq_true rfl)) dX10_nextMoment_29 ⟨Nat.le_of_ble_eq_true rfl, Nat.le_of_ble_eq_true rfl⟩) hS (fun q _ h => hFc q h) hFc (fun r_9 u t H1 locs ht hvm hw hB hz1 hk1 hS => ?_)
  clear hPc hDc hKc
  replace hP := ro_keep hP hk1
  generalize H1 = H at hP hS ⊢
  replace hP : va_P (dC, dI) vwCl [(x, .inr (11, [.ref nr, .ref st, .ref lf, .int 2, .int (nI tm), .int (nI fcn), .int xl, .int 0])), (nr, .inl (cN, 8, .inr (.inr (.inr (.inr fn))))), (an, .inr (5, [.int ah, .int al, .int awa, .int afr, .int (nI awi), .ref ar, .ref ae, .ref as, .ref ai, .ref ag, .ref ac, .ref au, .int 0, .int 2, .int 10, .int (nI acc), .int 0, .int 0])), (ar, .inr (6, [.int arh, .int arl, .ref st, .null, .null, .int ahp, .int atp, .int 0, .int 0, .int 0, .ref arf, .int 0])), (bn, .inr (5, [.int bh, .int bl, .int bwa, .int bfr, .int (nI bwi), .ref br, .ref be, .ref bs, .ref bi, .ref bg, .ref bc, .ref bu, .int 0, .int 2, .int 200, .int (nI bcc), .int 0, .int 0])), (br, .inr (6, [.int brh, .int brl, .ref st, .null, .null, .int bhp, .int btp, .int 0, .int 0, .int 0, .ref brf, .int 0])), (as, .inr (7, [.int 2, .int asnp, .int asdo, .ref mm])), (bs, .inr (7, [.int 0, .int bsnp, .int bsdo, .null])), (ag, .inl (acT, 3, .inr (.inr (.inr (.inr afg))))), (ac, .inr (0, [.int (nI acm), .ref ace, .int 0])), (bc, .inr (0, [.int (nI bcm), .ref bce, .int 1])), (bce, .inl (cQ, 10, .inr (.inr (.inr (.inr fq))))), (tq, .inr (10, [.int 0, .int k1, .int k2, .int k3, .int k4, .int k5, .int k6, .int k7, .int k8, .int k9, .int k10, .int k11, .ref kw, .ref kb])), (bg, .inl (bcT, 3, .inr (.inr (.inr (.inr bfg))))), (tr, .inr (10, [.int 0, .int j1, .int j2, .int j3, .int j4, .int j5, .int j6, .int j7, .int j8, .int j9, .int j10, .int j11, .ref jw, .ref jb]))] H := hP
  have hw := hw.symm
  subst hw
  refine lv_if_le (tgt := 42) hx hb dX10_nextMoment_32 (by decide) (fun c_10 => ?_) (fun c_10 => ?_)
  rotate_left
  · exact absurd (by decide) c_10
  refine lv_aload hx hb dX10_nextMoment_42 (lv_at hl 0 rfl) ?_
  refine lv_ifnull hx hb dX10_nextMoment_44 ?_
  refine lv_iload_n hx hb dX10_nextMoment_47 rfl (lv_at hl 2 rfl) ?_
  refine lv_aload hx hb dX10_nextMoment_48 (lv_at hl 0 rfl) ?_
  have hPc := hP.sub (ws' := [(bn, .inr (5, [.int bh, .int bl, .int bwa, .int bfr, .int (nI bwi), .ref br, .ref be, .ref bs, .ref bi, .ref bg, .ref bc, .ref bu, .int 0, .int 2, .int (nI 200), .int (nI bcc), .int 0, .int 0])), (bs, .inr (7, [.int 0, .int bsnp, .int bsdo, .null])), (bc, .inr (0, [.int (nI bcm), .ref bce, .int 1])), (bce, .inl (cQ, 10, .inr (.inr (.inr (.inr fq))))), (tq, .inr (10, [.int 0, .int k1, .int k2, .int k3, .int k4, .int k5, .int k6, .int k7, .int k8, .int k9, .int k10, .int k11, .ref kw, .ref kb])), (bg, .inl (bcT, 3, .inr (.inr (.inr (.inr bfg))))), (tr, .inr (10, [.int 0, .int j1, .int j2, .int j3, .int j4, .int j5, .int j6, .int j7, .int j8, .int j9, .int j10, .int j11, .ref jw, .ref jb]))]) [4, 7, 10, 11, 12, 13, 14] rfl
  have hDc := hD.sub (ws' := [(bn, .inr (5, [.int bh, .int bl, .int bwa, .int bfr, .int (nI bwi), .ref br, .ref be, .ref bs, .ref bi, .ref bg, .ref bc, .ref bu, .int 0, .int 2, .int (nI 200), .int (nI bcc), .int 0, .int 0])), (bs, .inr (7, [.int 0, .int bsnp, .int bsdo, .null])), (bc, .inr (0, [.int (nI bcm), .ref bce, .int 1])), (bce, .inl (cQ, 10, .inr (.inr (.inr (.inr fq))))), (tq, .inr (10, [.int 0, .int k1, .int k2, .int k3, .int k4, .int k5, .int k6, .int k7, .int k8, .int k9, .int k10, .int k11, .ref kw, .ref kb])), (bg, .inl (bcT, 3, .inr (.inr (.inr (.inr bfg))))), (tr, .inr (10, [.int 0, .int j1, .int j2, .int j3, .int j4, .int j5, .int j6, .int j7, .int j8, .int j9, .int j10, .int j11, .ref jw, .ref jb]))]) [4, 7, 10, 11, 12, 13, 14] (by decide +kernel) rfl
  have hKc := hK.sub (tys' := [(cQ, (.object "java/lang/Object")), (bcT, (.object RX9))]) [2, 3] rfl
  have hFc := ro_free hS hA
  refine va_calli (va_runV (As := []) (rest := [.int (nI mn_6)]) ⟨hx, hb, hml, hown, hts⟩ (c_nextTimer_0cc l dC dI (bn) (bh) (bl) (bwa) (bfr) (bwi) (br) (be) (bs) (bi) (bg) (bc) (bu) (200) (bcc) (bsnp) (bsdo) (bcm) (bce) (cQ) (fq) (tq) (k1) (k2) (k3) (k4) (k5) (k6) (k7) (k8) (k9) (k10) (k11) (kw) (kb) (bcT) (bfg) (tr) (j1) (j2) (j3) (j4) (j5) (j6) (j7) (j8) (j9) (j10) (j11) (jw) (jb) H.size hq bg0_ bg1_ bg2_) (cwV 0 hts g_c_nextMoment_icc_c_nextTimer_0cc_199 rfl rfl rfl (by decide +kernel) ⟨Nat.le_of_ble_eq_true rfl, Nat.le_of_ble_eq_true rfl⟩) ⟨fun a U g mk q => by obtain ⟨q0, q1, qP, qK, qD, qE⟩ := q; exact ⟨q0, q1, qP, va_K.moved (u := U) (U := U.calling g mk a) (Vm.Alike.refl U.vm) qK, qD, ev.same (u := U) (U := U.calling g mk a) rfl qE⟩, va_recv hKc hPc (ci := 5) (q0 := 0) rfl rfl, fun U hU hW => ⟨rfl, by rw [hU], by rw [hU]; exact hPc, va_K.moved hW.alike hKc, hDc.weaken (fun _ _ _ _ => trivial), hE.warm hW⟩⟩ rfl rfl hl.1 rfl (lv_room (Nat.le_of_ble_eq_true rfl)) dX10_nextMoment_50 ⟨Nat.le_of_ble_eq_true rfl, Nat.le_of_ble_eq_true rfl⟩) hS (fun q _ h => hFc q h) hFc (fun r_11 u t H1 locs ht hvm hw hB hz1 hk1 hS => ?_)
  clear hPc hDc hKc
  replace hP := ro_keep hP hk1
  generalize H1 = H at hP hS ⊢
  replace hP : va_P (dC, dI) vwCl [(x, .inr (11, [.ref nr, .ref st, .ref lf, .int 2, .int (nI tm), .int (nI fcn), .int xl, .int 0])), (nr, .inl (cN, 8, .inr (.inr (.inr (.inr fn))))), (an, .inr (5, [.int ah, .int al, .int awa, .int afr, .int (nI awi), .ref ar, .ref ae, .ref as, .ref ai, .ref ag, .ref ac, .ref au, .int 0, .int 2, .int 10, .int (nI acc), .int 0, .int 0])), (ar, .inr (6, [.int arh, .int arl, .ref st, .null, .null, .int ahp, .int atp, .int 0, .int 0, .int 0, .ref arf, .int 0])), (bn, .inr (5, [.int bh, .int bl, .int bwa, .int bfr, .int (nI bwi), .ref br, .ref be, .ref bs, .ref bi, .ref bg, .ref bc, .ref bu, .int 0, .int 2, .int 200, .int (nI bcc), .int 0, .int 0])), (br, .inr (6, [.int brh, .int brl, .ref st, .null, .null, .int bhp, .int btp, .int 0, .int 0, .int 0, .ref brf, .int 0])), (as, .inr (7, [.int 2, .int asnp, .int asdo, .ref mm])), (bs, .inr (7, [.int 0, .int bsnp, .int bsdo, .null])), (ag, .inl (acT, 3, .inr (.inr (.inr (.inr afg))))), (ac, .inr (0, [.int (nI acm), .ref ace, .int 0])), (bc, .inr (0, [.int (nI bcm), .ref bce, .int 1])), (bce, .inl (cQ, 10, .inr (.inr (.inr (.inr fq))))), (tq, .inr (10, [.int 0, .int k1, .int k2, .int k3, .int k4, .int k5, .int k6, .int k7, .int k8, .int k9, .int k10, .int k11, .ref kw, .ref kb])), (bg, .inl (bcT, 3, .inr (.inr (.inr (.inr bfg))))), (tr, .inr (10, [.int 0, .int j1, .int j2, .int j3, .int j4, .int j5, .int j6, .int j7, .int j8, .int j9, .int j10, .int j11, .ref jw, .ref jb]))] H := hP
  have hw := hw.symm
  subst hw
  refine va_mmin hx hb (by rw [hml]; exact hl.1.symm) hown (hts (.methodLink RX10 202 Lib.Math.min.name) (List.mem_of_getElem? (i := 15) rfl)) (hts (.static Lib.Math.min.name) (List.mem_of_getElem? (i := 16) rfl)) (hts (.initialized "java/lang/Math") (List.mem_of_getElem? (i := 17) rfl)) (hts (.code Lib.Math.min.name Lib.Math.min.code 2 (some .int)) (List.mem_of_getElem? (i := 18) rfl)) (Nat.le_of_ble_eq_true rfl) (Nat.le_of_ble_eq_true rfl) (Nat.zero_le _) (Nat.zero_le _) dX10_nextMoment_53 ?_
  obtain ⟨mn_12, hmn_12⟩ : ∃ z : Nat, z = min mn_6 2147483647 := ⟨_, rfl⟩
  refine lv_topi (fun x_12 ex_12 => ?_)
  obtain rfl : x_12 = nI mn_12 := ex_12.trans ((q_min (a := mn_6) (b := 2147483647) (by omega) (by omega)).trans (congrArg nI hmn_12.symm))
  refine lv_istore_n (lv' := [(2, .int (nI mn_12)), (4, .ref bn), (3, .int 1), (0, .ref x), (1, .int (nI en))]) hx hb dX10_nextMoment_56 rfl hl (by decide) rfl (fun ls hl => ?_)
  refine lv_iinc (v := 2) (lv' := [(3, .int 2), (2, .int (nI mn_12)), (4, .ref bn), (0, .ref x), (1, .int (nI en))]) hx hb dX10_nextMoment_57 hl (k := 2) rfl (by decide) (by decide) rfl (fun ls hl => ?_)
  refine lv_goto (tgt := 4) hx hb dX10_nextMoment_60 (by decide) ?_
  refine lv_iload_n hx hb dX10_nextMoment_4 rfl (lv_at hl 0 rfl) ?_
  refine lv_aload_n hx hb dX10_nextMoment_5 rfl (lv_at hl 3 rfl) ?_
  refine va_get (D := (dC, dI)) (ci := 11) (v := .int 2) (C := RX10) (T := TX10) (N := 8) hx hb hts in_c_nextMoment_icc_X10 hown hK hP 0 rfl rfl 3 (by decide) (hts (.fieldLink RX10 29 "ClaimBus" "nodeCount" "I") (List.mem_of_getElem? (i := 1) rfl)) (fun _ h9 => h9) rfl dX10_nextMoment_6 ?_
  refine lv_icmp_ge (tgt := 63) hx hb dX10_nextMoment_9 (by decide) (fun c_13 => ?_) (fun c_13 => ?_)
  rotate_left
  · exact absurd (by decide) c_13
  refine lv_aload_n hx hb dX10_nextMoment_63 rfl (lv_at hl 3 rfl) ?_
  refine va_get (D := (dC, dI)) (ci := 11) (v := .int (nI tm)) (C := RX10) (T := TX10) (N := 8) hx hb hts in_c_nextMoment_icc_X10 hown hK hP 0 rfl rfl 4 (by decide) (hts (.fieldLink RX10 33 "ClaimBus" "time" "I") (List.mem_of_getElem? (i := 19) rfl)) (fun _ h9 => h9) rfl dX10_nextMoment_64 ?_
  refine lv_iconst (v := 1) hx hb dX10_nextMoment_67 (by decide) ?_
  refine lv_iadd hx hb dX10_nextMoment_68 ?_
  refine lv_topi (fun x_14 ex_14 => ?_)
  obtain rfl : x_14 = (nI (tm + 1)) := ex_14.trans ((nI_add tm 1).trans (show nI (tm + 1) = nI (tm + 1) from congrArg nI (by omega)))
  refine lv_iload_n hx hb dX10_nextMoment_69 rfl (lv_at hl 1 rfl) ?_
  refine va_mmax hx hb (by rw [hml]; exact hl.1.symm) hown (hts (.methodLink RX10 207 Lib.Math.max.name) (List.mem_of_getElem? (i := 20) rfl)) (hts (.static Lib.Math.max.name) (List.mem_of_getElem? (i := 21) rfl)) (hts (.initialized "java/lang/Math") (List.mem_of_getElem? (i := 17) rfl)) (hts (.code Lib.Math.max.name Lib.Math.max.code 2 (some .int)) (List.mem_of_getElem? (i := 22) rfl)) (Nat.le_of_ble_eq_true rfl) (Nat.le_of_ble_eq_true rfl) (Nat.zero_le _) (Nat.zero_le _) dX10_nextMoment_70 ?_
  obtain ⟨mn_15, hmn_15⟩ : ∃ z : Nat, z = max (tm + 1) mn_12 := ⟨_, rfl⟩
  refine lv_topi (fun x_15 ex_15 => ?_)
  obtain rfl : x_15 = nI mn_15 := ex_15.trans ((q_max (a := (tm + 1)) (b := mn_12) (by omega) (by omega)).trans (congrArg nI hmn_15.symm))
  exact W.iret (v := (nI mn_15)) hx hb hr (fun t ht hW => ⟨⟨(nI mn_15), (), rfl, congrArg nI (show mn_15 = en from by omega), trivial⟩, hS.F ht⟩) hS.2.2 dX10_nextMoment_73

noncomputable def tl_c_nextMoment_don : List Cond := wsX100 ++ (wsX40 ++ (v_c_find_0 ++ (v_c_len_e ++ (v_c_nextTimer_1nn ++ (v_c_find_1 ++ (v_c_nextTimer_0on))))))
noncomputable def v_c_nextMoment_don : List Cond := .code yX10_nextMoment cX10_nextMoment 5 (some .int) :: ([.fieldLink RX10 29 "ClaimBus" "nodeCount" "I", .initialized RX10, .methodLink RX10 53 yX10_find, .instanceMethod yX10_find, .selects RX10 yX10_find yX10_find, .fieldLink RX10 74 "ClaimBus$Node" "row" "LClaimBus$Row;", .initialized RX5, .methodLink RX10 129 yX5_length, .instanceMethod yX5_length, .selects RX5 yX5_length yX5_length, .initialized RX4, .methodLink RX10 199 yX4_nextTimer, .instanceMethod yX4_nextTimer, .selects RX4 yX4_nextTimer yX4_nextTimer, .methodLink RX10 202 Lib.Math.min.name, .static Lib.Math.min.name, .initialized "java/lang/Math", .code Lib.Math.min.name Lib.Math.min.code 2 (some .int), .fieldLink RX10 33 "ClaimBus" "time" "I", .methodLink RX10 207 Lib.Math.max.name, .static Lib.Math.max.name, .code Lib.Math.max.name Lib.Math.max.code 2 (some .int)] ++ tl_c_nextMoment_don)
theorem it_c_nextMoment_don : ∀ w ∈ tl_c_nextMoment_don, w ∈ v_c_nextMoment_don := fun w h => List.mem_cons_of_mem _ (List.mem_append_right _ h)
theorem in_c_nextMoment_don_X10 : ∀ w ∈ wsX100, w ∈ v_c_nextMoment_don := fun w h => it_c_nextMoment_don w (List.mem_append_left _ h)
theorem in_c_nextMoment_don_X4 : ∀ w ∈ wsX40, w ∈ v_c_nextMoment_don := fun w h => it_c_nextMoment_don w (List.mem_append_right _ (List.mem_append_left _ h))
theorem ic_c_nextMoment_don_c_find_0 : ∀ w ∈ v_c_find_0, w ∈ v_c_nextMoment_don := fun w h => it_c_nextMoment_don w (List.mem_append_right _ (List.mem_append_right _ (List.mem_append_left _ h)))
theorem ic_c_nextMoment_don_c_len_e : ∀ w ∈ v_c_len_e, w ∈ v_c_nextMoment_don := fun w h => it_c_nextMoment_don w (List.mem_append_right _ (List.mem_append_right _ (List.mem_append_right _ (List.mem_append_left _ h))))
theorem ic_c_nextMoment_don_c_nextTimer_1nn : ∀ w ∈ v_c_nextTimer_1nn, w ∈ v_c_nextMoment_don := fun w h => it_c_nextMoment_don w (List.mem_append_right _ (List.mem_append_right _ (List.mem_append_right _ (List.mem_append_right _ (List.mem_append_left _ h)))))
theorem ic_c_nextMoment_don_c_find_1 : ∀ w ∈ v_c_find_1, w ∈ v_c_nextMoment_don := fun w h => it_c_nextMoment_don w (List.mem_append_right _ (List.mem_append_right _ (List.mem_append_right _ (List.mem_append_right _ (List.mem_append_right _ (List.mem_append_left _ h))))))
theorem ic_c_nextMoment_don_c_nextTimer_0on : ∀ w ∈ v_c_nextTimer_0on, w ∈ v_c_nextMoment_don := fun w h => it_c_nextMoment_don w (List.mem_append_right _ (List.mem_append_right _ (List.mem_append_right _ (List.mem_append_right _ (List.mem_append_right _ (List.mem_append_right _ (h)))))))
theorem gt_c_nextMoment_don : ∀ w ∈ tl_c_nextMoment_don, goodWord w = true := List.forall_mem_append.mpr ⟨gw_wsX100, List.forall_mem_append.mpr ⟨gw_wsX40, List.forall_mem_append.mpr ⟨gw_c_find_0, List.forall_mem_append.mpr ⟨gw_c_len_e, List.forall_mem_append.mpr ⟨gw_c_nextTimer_1nn, List.forall_mem_append.mpr ⟨gw_c_find_1, gw_c_nextTimer_0on⟩⟩⟩⟩⟩⟩
theorem gw_c_nextMoment_don : ∀ w ∈ v_c_nextMoment_don, goodWord w = true := List.forall_mem_cons.mpr ⟨by decide +kernel, List.forall_mem_append.mpr ⟨List.all_eq_true.mp (by decide +kernel), gt_c_nextMoment_don⟩⟩
theorem g_c_nextMoment_don_c_find_0_53 : GoodIn v_c_nextMoment_don (wsV RX10 53 RX10 yX10_find v_c_find_0) := goodIn_app (goodIn_r [.methodLink RX10 53 yX10_find, .instanceMethod yX10_find, .selects RX10 yX10_find yX10_find, .initialized RX10] [3, 4, 5, 2] (by decide +kernel) (by decide +kernel)) (fun w h => ⟨ic_c_nextMoment_don_c_find_0 w h, good_of_word (gw_c_find_0 w h)⟩)
theorem g_c_nextMoment_don_c_len_e_129 : GoodIn v_c_nextMoment_don (wsV RX10 129 RX5 yX5_length v_c_len_e) := goodIn_app (goodIn_r [.methodLink RX10 129 yX5_length, .instanceMethod yX5_length, .selects RX5 yX5_length yX5_length, .initialized RX5] [8, 9, 10, 7] (by decide +kernel) (by decide +kernel)) (fun w h => ⟨ic_c_nextMoment_don_c_len_e w h, good_of_word (gw_c_len_e w h)⟩)
theorem g_c_nextMoment_don_c_nextTimer_1nn_199 : GoodIn v_c_nextMoment_don (wsV RX10 199 RX4 yX4_nextTimer v_c_nextTimer_1nn) := goodIn_app (goodIn_r [.methodLink RX10 199 yX4_nextTimer, .instanceMethod yX4_nextTimer, .selects RX4 yX4_nextTimer yX4_nextTimer, .initialized RX4] [12, 13, 14, 11] (by decide +kernel) (by decide +kernel)) (fun w h => ⟨ic_c_nextMoment_don_c_nextTimer_1nn w h, good_of_word (gw_c_nextTimer_1nn w h)⟩)
theorem g_c_nextMoment_don_c_find_1_53 : GoodIn v_c_nextMoment_don (wsV RX10 53 RX10 yX10_find v_c_find_1) := goodIn_app (goodIn_r [.methodLink RX10 53 yX10_find, .instanceMethod yX10_find, .selects RX10 yX10_find yX10_find, .initialized RX10] [3, 4, 5, 2] (by decide +kernel) (by decide +kernel)) (fun w h => ⟨ic_c_nextMoment_don_c_find_1 w h, good_of_word (gw_c_find_1 w h)⟩)
theorem g_c_nextMoment_don_c_nextTimer_0on_199 : GoodIn v_c_nextMoment_don (wsV RX10 199 RX4 yX4_nextTimer v_c_nextTimer_0on) := goodIn_app (goodIn_r [.methodLink RX10 199 yX4_nextTimer, .instanceMethod yX4_nextTimer, .selects RX4 yX4_nextTimer yX4_nextTimer, .initialized RX4] [12, 13, 14, 11] (by decide +kernel) (by decide +kernel)) (fun w h => ⟨ic_c_nextMoment_don_c_nextTimer_0on w h, good_of_word (gw_c_nextTimer_0on w h)⟩)
set_option maxHeartbeats 4000000 in
set_option maxRecDepth 100000 in
theorem c_nextMoment_don (l : Launch) (dC : Nat → ClassId) (dI : Nat → Nat → Nat) (x : Nat) (nr : Nat) (st : Nat) (lf : Nat) (tm : Nat) (fcn : Nat) (xl : Int32) (cN : ClassId) (fn : Nat → Option Nat) (an : Nat) (ah : Int32) (al : Int32) (awa : Int32) (afr : Int32) (awi : Nat) (ar : Nat) (ae : Nat) (as : Nat) (ai : Nat) (ag : Nat) (ac : Nat) (au : Nat) (acc : Nat) (arh : Int32) (arl : Int32) (arf : Nat) (ahp : Int32) (atp : Int32) (bn : Nat) (bh : Int32) (bl : Int32) (bwa : Int32) (bfr : Int32) (bwi : Nat) (br : Nat) (be : Nat) (bs : Nat) (bi : Nat) (bg : Nat) (bc : Nat) (bu : Nat) (bcc : Nat) (brh : Int32) (brl : Int32) (brf : Nat) (bhp : Int32) (btp : Int32) (asnp : Int32) (sdu : Nat) (mm : Nat) (bsnp : Int32) (bsdo : Int32) (acT : ClassId) (afg : Nat → Option Nat) (acm : Nat) (ace : Nat) (bcm : Nat) (bce : Nat) (cQ : ClassId) (fq : Nat → Option Nat) (tq : Nat) (k1 : Int32) (k2 : Int32) (k3 : Int32) (k4 : Int32) (k5 : Int32) (k6 : Int32) (k7 : Int32) (kl : Nat) (k9 : Int32) (k10 : Int32) (k11 : Int32) (kw : Nat) (kb : Nat) (bcT : ClassId) (bfg : Nat → Option Nat) (en : Nat) (sz : Nat) (n0 : fn 0 = some an) (n1 : fn 1 = some bn) (htm : tm < 200000) (ag0_ : afg 0 = none) (ag1_ : afg 1 = none) (ag2_ : afg 2 = none) (hq : fq 0 = some tq) (bg0_ : bfg 0 = none) (bg1_ : bfg 1 = none) (bg2_ : bfg 2 = none) (hen : tm < en ∧ en < 300000) (hsd : sdu < 300000) (hkl : kl < 300000) (hd : tm < sdu ∧ sdu ≤ en ∧ sdu < kl + 750) : Met l yX10_nextMoment v_c_nextMoment_don ({ frames := 4, cells := 0, slots := 0, locals := 89 }) (va_Pc [.ref x, .int (nI en)] (fun U => U.heap.size = sz ∧ va_P (dC, dI) vwCl [(x, .inr (11, [.ref nr, .ref st, .ref lf, .int 2, .int (nI tm), .int (nI fcn), .int xl, .int 0])), (nr, .inl (cN, 8, .inr (.inr (.inr (.inr fn))))), (an, .inr (5, [.int ah, .int al, .int awa, .int afr, .int (nI awi), .ref ar, .ref ae, .ref as, .ref ai, .ref ag, .ref ac, .ref au, .int 0, .int 2, .int 10, .int (nI acc), .int 0, .int 0])), (ar, .inr (6, [.int arh, .int arl, .ref st, .null, .null, .int ahp, .int atp, .int 0, .int 0, .int 0, .ref arf, .int 0])), (bn, .inr (5, [.int bh, .int bl, .int bwa, .int bfr, .int (nI bwi), .ref br, .ref be, .ref bs, .ref bi, .ref bg, .ref bc, .ref bu, .int 0, .int 2, .int 200, .int (nI bcc), .int 0, .int 0])), (br, .inr (6, [.int brh, .int brl, .ref st, .null, .null, .int bhp, .int btp, .int 0, .int 0, .int 0, .ref brf, .int 0])), (as, .inr (7, [.int 1, .int asnp, .int (nI sdu), .ref mm])), (bs, .inr (7, [.int 0, .int bsnp, .int bsdo, .null])), (ag, .inl (acT, 3, .inr (.inr (.inr (.inr afg))))), (ac, .inr (0, [.int (nI acm), .ref ace, .int 0])), (bc, .inr (0, [.int (nI bcm), .ref bce, .int 1])), (bce, .inl (cQ, 10, .inr (.inr (.inr (.inr fq))))), (tq, .inr (10, [.int 1, .int k1, .int k2, .int k3, .int k4, .int k5, .int k6, .int k7, .int (nI kl), .int k9, .int k10, .int k11, .ref kw, .ref kb])), (bg, .inl (bcT, 3, .inr (.inr (.inr (.inr bfg)))))] U.heap ∧ va_K (dC, dI) vwCl [(cN, (.object RX4)), (acT, (.object RX9)), (cQ, (.object "java/lang/Object")), (bcT, (.object RX9))] U ∧ va_D (fun _ => True) [(x, .inr (11, [.ref nr, .ref st, .ref lf, .int 2, .int (nI tm), .int (nI fcn), .int xl, .int 0])), (nr, .inl (cN, 8, .inr (.inr (.inr (.inr fn))))), (an, .inr (5, [.int ah, .int al, .int awa, .int afr, .int (nI awi), .ref ar, .ref ae, .ref as, .ref ai, .ref ag, .ref ac, .ref au, .int 0, .int 2, .int 10, .int (nI acc), .int 0, .int 0])), (ar, .inr (6, [.int arh, .int arl, .ref st, .null, .null, .int ahp, .int atp, .int 0, .int 0, .int 0, .ref arf, .int 0])), (bn, .inr (5, [.int bh, .int bl, .int bwa, .int bfr, .int (nI bwi), .ref br, .ref be, .ref bs, .ref bi, .ref bg, .ref bc, .ref bu, .int 0, .int 2, .int 200, .int (nI bcc), .int 0, .int 0])), (br, .inr (6, [.int brh, .int brl, .ref st, .null, .null, .int bhp, .int btp, .int 0, .int 0, .int 0, .ref brf, .int 0])), (as, .inr (7, [.int 1, .int asnp, .int (nI sdu), .ref mm])), (bs, .inr (7, [.int 0, .int bsnp, .int bsdo, .null])), (ag, .inl (acT, 3, .inr (.inr (.inr (.inr afg))))), (ac, .inr (0, [.int (nI acm), .ref ace, .int 0])), (bc, .inr (0, [.int (nI bcm), .ref bce, .int 1])), (bce, .inl (cQ, 10, .inr (.inr (.inr (.inr fq))))), (tq, .inr (10, [.int 1, .int k1, .int k2, .int k3, .int k4, .int k5, .int k6, .int k7, .int (nI kl), .int k9, .int k10, .int k11, .ref kw, .ref kb])), (bg, .inl (bcT, 3, .inr (.inr (.inr (.inr bfg)))))] ∧ ev U)) (va_Qi (fun (r : Int32) (_ : Unit) => r = (nI sdu)) (fun (_ : Unit) (_ : State) => True) (va_A [] sz)) 0 0 (va_A [] sz) := by
  refine Met.ofW (cc := cX10_nextMoment) (maxL := 5) (ret := (some .int)) (by decide) rfl ?_
  intro p e s m args below meth c s₁ B hml hv
  obtain ⟨rfl, hsz, hP, hK, hD0, hE⟩ := hv
  have hx := B.exec
  have hb := B.bytes
  have hr := B.returns
  have hts := atoms_spec (ws := v_c_nextMoment_don) B.pre
  have hown : s.vm.findClass RX10 = some m.cls := findClass_of_methodNamed B.named
  have hlocks := B.notSynchronized
  subst hsz
  have hD := hD0
  generalize hAe : va_A [] s.heap.size = A
  have hA : ∀ q : Nat, s.heap.size ≤ q → A q := fun q h => by rw [← hAe]; exact Or.inr h
  have hS : va_S A s.heap s.heap [] := va_S.rf
  replace hP : va_P (dC, dI) vwCl [(x, .inr (11, [.ref nr, .ref st, .ref lf, .int 2, .int (nI tm), .int (nI fcn), .int xl, .int 0])), (nr, .inl (cN, 8, .inr (.inr (.inr (.inr fn))))), (an, .inr (5, [.int ah, .int al, .int awa, .int afr, .int (nI awi), .ref ar, .ref ae, .ref as, .ref ai, .ref ag, .ref ac, .ref au, .int 0, .int 2, .int 10, .int (nI acc), .int 0, .int 0])), (ar, .inr (6, [.int arh, .int arl, .ref st, .null, .null, .int ahp, .int atp, .int 0, .int 0, .int 0, .ref arf, .int 0])), (bn, .inr (5, [.int bh, .int bl, .int bwa, .int bfr, .int (nI bwi), .ref br, .ref be, .ref bs, .ref bi, .ref bg, .ref bc, .ref bu, .int 0, .int 2, .int 200, .int (nI bcc), .int 0, .int 0])), (br, .inr (6, [.int brh, .int brl, .ref st, .null, .null, .int bhp, .int btp, .int 0, .int 0, .int 0, .ref brf, .int 0])), (as, .inr (7, [.int 1, .int asnp, .int (nI sdu), .ref mm])), (bs, .inr (7, [.int 0, .int bsnp, .int bsdo, .null])), (ag, .inl (acT, 3, .inr (.inr (.inr (.inr afg))))), (ac, .inr (0, [.int (nI acm), .ref ace, .int 0])), (bc, .inr (0, [.int (nI bcm), .ref bce, .int 1])), (bce, .inl (cQ, 10, .inr (.inr (.inr (.inr fq))))), (tq, .inr (10, [.int 1, .int k1, .int k2, .int k3, .int k4, .int k5, .int k6, .int k7, .int (nI kl), .int k9, .int k10, .int k11, .ref kw, .ref kb])), (bg, .inl (bcT, 3, .inr (.inr (.inr (.inr bfg)))))] s.heap := hP
  have hl := lv_entry ([.ref x, .int (nI en)]) (n := 5) (Nat.le_of_ble_eq_true rfl)
  rw [lg_entry_eq]
  generalize (lg_sl ([.ref x, .int (nI en)]) ++ List.replicate (5 - (lg_sl ([.ref x, .int (nI en)])).length) Slot.unset).toArray = ls at hl ⊢
  replace hl : lv_has ls 5 [(0, .ref x), (1, .int (nI en))] := hl
  obtain ⟨H, hH⟩ : ∃ z : Heap, z = s.heap := ⟨_, rfl⟩
  rw [← hH]
  replace hS : va_S A s.heap H [] := by rw [hH]; exact va_S.rf
  replace hP : va_P (dC, dI) vwCl [(x, .inr (11, [.ref nr, .ref st, .ref lf, .int 2, .int (nI tm), .int (nI fcn), .int xl, .int 0])), (nr, .inl (cN, 8, .inr (.inr (.inr (.inr fn))))), (an, .inr (5, [.int ah, .int al, .int awa, .int afr, .int (nI awi), .ref ar, .ref ae, .ref as, .ref ai, .ref ag, .ref ac, .ref au, .int 0, .int 2, .int 10, .int (nI acc), .int 0, .int 0])), (ar, .inr (6, [.int arh, .int arl, .ref st, .null, .null, .int ahp, .int atp, .int 0, .int 0, .int 0, .ref arf, .int 0])), (bn, .inr (5, [.int bh, .int bl, .int bwa, .int bfr, .int (nI bwi), .ref br, .ref be, .ref bs, .ref bi, .ref bg, .ref bc, .ref bu, .int 0, .int 2, .int 200, .int (nI bcc), .int 0, .int 0])), (br, .inr (6, [.int brh, .int brl, .ref st, .null, .null, .int bhp, .int btp, .int 0, .int 0, .int 0, .ref brf, .int 0])), (as, .inr (7, [.int 1, .int asnp, .int (nI sdu), .ref mm])), (bs, .inr (7, [.int 0, .int bsnp, .int bsdo, .null])), (ag, .inl (acT, 3, .inr (.inr (.inr (.inr afg))))), (ac, .inr (0, [.int (nI acm), .ref ace, .int 0])), (bc, .inr (0, [.int (nI bcm), .ref bce, .int 1])), (bce, .inl (cQ, 10, .inr (.inr (.inr (.inr fq))))), (tq, .inr (10, [.int 1, .int k1, .int k2, .int k3, .int k4, .int k5, .int k6, .int k7, .int (nI kl), .int k9, .int k10, .int k11, .ref kw, .ref kb])), (bg, .inl (bcT, 3, .inr (.inr (.inr (.inr bfg)))))] H := by rw [hH]; exact hP
  clear hH
  refine lv_iload_n hx hb dX10_nextMoment_0 rfl (lv_at hl 1 rfl) ?_
  refine lv_istore_n (lv' := [(2, .int (nI en)), (0, .ref x), (1, .int (nI en))]) hx hb dX10_nextMoment_1 rfl hl (by decide) rfl (fun ls hl => ?_)
  refine lv_iconst (v := 0) hx hb dX10_nextMoment_2 (by decide) ?_
  refine lv_istore_n (lv' := [(3, .int 0), (2, .int (nI en)), (0, .ref x), (1, .int (nI en))]) hx hb dX10_nextMoment_3 rfl hl (by decide) rfl (fun ls hl => ?_)
  refine lv_iload_n hx hb dX10_nextMoment_4 rfl (lv_at hl 0 rfl) ?_
  refine lv_aload_n hx hb dX10_nextMoment_5 rfl (lv_at hl 2 rfl) ?_
  refine va_get (D := (dC, dI)) (ci := 11) (v := .int 2) (C := RX10) (T := TX10) (N := 8) hx hb hts in_c_nextMoment_don_X10 hown hK hP 0 rfl rfl 3 (by decide) (hts (.fieldLink RX10 29 "ClaimBus" "nodeCount" "I") (List.mem_of_getElem? (i := 1) rfl)) (fun _ h9 => h9) rfl dX10_nextMoment_6 ?_
  refine lv_icmp_ge (tgt := 63) hx hb dX10_nextMoment_9 (by decide) (fun c_1 => ?_) (fun c_1 => ?_)
  · exact absurd c_1 (by decide)
  refine lv_aload_n hx hb dX10_nextMoment_12 rfl (lv_at hl 2 rfl) ?_
  refine lv_iload_n hx hb dX10_nextMoment_13 rfl (lv_at hl 0 rfl) ?_
  have hPc := hP.sub (ws' := [(x, .inr (11, [.ref nr, .ref st, .ref lf, .int 2, .int (nI tm), .int (nI fcn), .int xl, .int 0])), (nr, .inl (cN, 8, .inr (.inr (.inr (.inr fn)))))]) [0, 1] rfl
  have hDc := hD.sub (ws' := [(x, .inr (11, [.ref nr, .ref st, .ref lf, .int 2, .int (nI tm), .int (nI fcn), .int xl, .int 0])), (nr, .inl (cN, 8, .inr (.inr (.inr (.inr fn)))))]) [0, 1] (by decide +kernel) rfl
  have hKc := hK.sub (tys' := [(cN, (.object RX4))]) [0] rfl
  have hFc := ro_free hS hA
  refine va_callq (va_runV (As := [.int 0]) (rest := []) ⟨hx, hb, hml, hown, hts⟩ (c_find_0 l dC dI (x) (nr) (st) (lf) (tm) (fcn) (xl) (cN) (fn) (an) H.size n0) (cwV 1 hts g_c_nextMoment_don_c_find_0_53 rfl rfl rfl (by decide +kernel) ⟨Nat.le_of_ble_eq_true rfl, Nat.le_of_ble_eq_true rfl⟩) ⟨fun a U g mk q => by obtain ⟨q0, q1, qP, qK, qD, qE⟩ := q; exact ⟨q0, q1, qP, va_K.moved (u := U) (U := U.calling g mk a) (Vm.Alike.refl U.vm) qK, qD, ev.same (u := U) (U := U.calling g mk a) rfl qE⟩, va_recv hKc hPc (ci := 11) (q0 := 0) rfl rfl, fun U hU hW => ⟨rfl, by rw [hU], by rw [hU]; exact hPc, va_K.moved hW.alike hKc, hDc.weaken (fun _ _ _ _ => trivial), hE.warm hW⟩⟩ rfl rfl hl.1 rfl (lv_room (Nat.le_of_ble_eq_true rfl)) dX10_nextMoment_14 ⟨Nat.le_of_ble_eq_true rfl, Nat.le_of_ble_eq_true rfl⟩) hS (fun q _ h => hFc q h) hFc (fun r_2 u t H1 locs ht hvm hw hB hz1 hk1 hS => ?_)
  clear hPc hDc hKc
  replace hP := ro_keep hP hk1
  generalize H1 = H at hP hS ⊢
  replace hP : va_P (dC, dI) vwCl [(x, .inr (11, [.ref nr, .ref st, .ref lf, .int 2, .int (nI tm), .int (nI fcn), .int xl, .int 0])), (nr, .inl (cN, 8, .inr (.inr (.inr (.inr fn))))), (an, .inr (5, [.int ah, .int al, .int awa, .int afr, .int (nI awi), .ref ar, .ref ae, .ref as, .ref ai, .ref ag, .ref ac, .ref au, .int 0, .int 2, .int 10, .int (nI acc), .int 0, .int 0])), (ar, .inr (6, [.int arh, .int arl, .ref st, .null, .null, .int ahp, .int atp, .int 0, .int 0, .int 0, .ref arf, .int 0])), (bn, .inr (5, [.int bh, .int bl, .int bwa, .int bfr, .int (nI bwi), .ref br, .ref be, .ref bs, .ref bi, .ref bg, .ref bc, .ref bu, .int 0, .int 2, .int 200, .int (nI bcc), .int 0, .int 0])), (br, .inr (6, [.int brh, .int brl, .ref st, .null, .null, .int bhp, .int btp, .int 0, .int 0, .int 0, .ref brf, .int 0])), (as, .inr (7, [.int 1, .int asnp, .int (nI sdu), .ref mm])), (bs, .inr (7, [.int 0, .int bsnp, .int bsdo, .null])), (ag, .inl (acT, 3, .inr (.inr (.inr (.inr afg))))), (ac, .inr (0, [.int (nI acm), .ref ace, .int 0])), (bc, .inr (0, [.int (nI bcm), .ref bce, .int 1])), (bce, .inl (cQ, 10, .inr (.inr (.inr (.inr fq))))), (tq, .inr (10, [.int 1, .int k1, .int k2, .int k3, .int k4, .int k5, .int k6, .int k7, .int (nI kl), .int k9, .int k10, .int k11, .ref kw, .ref kb])), (bg, .inl (bcT, 3, .inr (.inr (.inr (.inr bfg)))))] H := hP
  have hw := hw.symm
  subst hw
  refine W.eq (g2 := F0 m 17 ls [.ref an]) rfl ?_
  refine lv_astore (lv' := [(4, .ref an), (3, .int 0), (2, .int (nI en)), (0, .ref x), (1, .int (nI en))]) hx hb dX10_nextMoment_17 hl (by decide) rfl (fun ls hl => ?_)
  refine lv_aload hx hb dX10_nextMoment_19 (lv_at hl 0 rfl) ?_
  refine lv_ifnull hx hb dX10_nextMoment_21 ?_
  refine lv_aload hx hb dX10_nextMoment_24 (lv_at hl 0 rfl) ?_
  refine va_get (D := (dC, dI)) (ci := 5) (v := .ref ar) (C := RX4) (T := TX4) (N := 18) hx hb hts in_c_nextMoment_don_X4 hown hK hP 2 rfl rfl 5 (by decide) (hts (.fieldLink RX10 74 "ClaimBus$Node" "row" "LClaimBus$Row;") (List.mem_of_getElem? (i := 6) rfl)) (fun _ h9 => h9) rfl dX10_nextMoment_26 ?_
  have hPc := hP.sub (ws' := [(ar, .inr (6, [.int arh, .int arl, .ref st, .null, .null, .int ahp, .int atp, .int 0, .int 0, .int 0, .ref arf, .int 0]))]) [3] rfl
  have hDc := hD.sub (ws' := [(ar, .inr (6, [.int arh, .int arl, .ref st, .null, .null, .int ahp, .int atp, .int 0, .int 0, .int 0, .ref arf, .int 0]))]) [3] (by decide +kernel) rfl
  have hKc := hK.sub (tys' := []) [] rfl
  have hFc := ro_free hS hA
  refine va_calli (va_runV (As := []) (rest := []) ⟨hx, hb, hml, hown, hts⟩ (c_len_e l dC dI (ar) (arh) (arl) (st) (arf) (ahp) (atp) H.size) (cwV 0 hts g_c_nextMoment_don_c_len_e_129 rfl rfl rfl (by decide +kernel) ⟨Nat.le_of_ble_eq_true rfl, Nat.le_of_ble_eq_true rfl⟩) ⟨fun a U g mk q => by obtain ⟨q0, q1, qP, qK, qD, qE⟩ := q; exact ⟨q0, q1, qP, va_K.moved (u := U) (U := U.calling g mk a) (Vm.Alike.refl U.vm) qK, qD, ev.same (u := U) (U := U.calling g mk a) rfl qE⟩, va_recv hKc hPc (ci := 6) (q0 := 0) rfl rfl, fun U hU hW => ⟨rfl, by rw [hU], by rw [hU]; exact hPc, va_K.moved hW.alike hKc, hDc.weaken (fun _ _ _ _ => trivial), hE.warm hW⟩⟩ rfl rfl hl.1 rfl (lv_room (Nat.le_of_ble_eq_true rfl)) dX10_nextMoment_29 ⟨Nat.le_of_ble_eq_true rfl, Nat.le_of_ble_eq_true rfl⟩) hS (fun q _ h => hFc q h) hFc (fun r_3 u t H1 locs ht hvm hw hB hz1 hk1 hS => ?_)
  clear hPc hDc hKc
  replace hP := ro_keep hP hk1
  generalize H1 = H at hP hS ⊢
  replace hP : va_P (dC, dI) vwCl [(x, .inr (11, [.ref nr, .ref st, .ref lf, .int 2, .int (nI tm), .int (nI fcn), .int xl, .int 0])), (nr, .inl (cN, 8, .inr (.inr (.inr (.inr fn))))), (an, .inr (5, [.int ah, .int al, .int awa, .int afr, .int (nI awi), .ref ar, .ref ae, .ref as, .ref ai, .ref ag, .ref ac, .ref au, .int 0, .int 2, .int 10, .int (nI acc), .int 0, .int 0])), (ar, .inr (6, [.int arh, .int arl, .ref st, .null, .null, .int ahp, .int atp, .int 0, .int 0, .int 0, .ref arf, .int 0])), (bn, .inr (5, [.int bh, .int bl, .int bwa, .int bfr, .int (nI bwi), .ref br, .ref be, .ref bs, .ref bi, .ref bg, .ref bc, .ref bu, .int 0, .int 2, .int 200, .int (nI bcc), .int 0, .int 0])), (br, .inr (6, [.int brh, .int brl, .ref st, .null, .null, .int bhp, .int btp, .int 0, .int 0, .int 0, .ref brf, .int 0])), (as, .inr (7, [.int 1, .int asnp, .int (nI sdu), .ref mm])), (bs, .inr (7, [.int 0, .int bsnp, .int bsdo, .null])), (ag, .inl (acT, 3, .inr (.inr (.inr (.inr afg))))), (ac, .inr (0, [.int (nI acm), .ref ace, .int 0])), (bc, .inr (0, [.int (nI bcm), .ref bce, .int 1])), (bce, .inl (cQ, 10, .inr (.inr (.inr (.inr fq))))), (tq, .inr (10, [.int 1, .int k1, .int k2, .int k3, .int k4, .int k5, .int k6, .int k7, .int (nI kl), .int k9, .int k10, .int k11, .ref kw, .ref kb])), (bg, .inl (bcT, 3, .inr (.inr (.inr (.inr bfg)))))] H := hP
  have hw := hw.symm
  subst hw
  refine lv_if_le (tgt := 42) hx hb dX10_nextMoment_32 (by decide) (fun c_4 => ?_) (fun c_4 => ?_)
  rotate_left
  · exact absurd (by decide) c_4
  refine lv_aload hx hb dX10_nextMoment_42 (lv_at hl 0 rfl) ?_
  refine lv_ifnull hx hb dX10_nextMoment_44 ?_
  refine lv_iload_n hx hb dX10_nextMoment_47 rfl (lv_at hl 2 rfl) ?_
  refine lv_aload hx hb dX10_nextMoment_48 (lv_at hl 0 rfl) ?_
  have hPc := hP.sub (ws' := [(an, .inr (5, [.int ah, .int al, .int awa, .int afr, .int (nI awi), .ref ar, .ref ae, .ref as, .ref ai, .ref ag, .ref ac, .ref au, .int 0, .int 2, .int (nI 10), .int (nI acc), .int 0, .int 0])), (as, .inr (7, [.int 1, .int asnp, .int (nI sdu), .ref mm])), (ac, .inr (0, [.int (nI acm), .ref ace, .int 0])), (ag, .inl (acT, 3, .inr (.inr (.inr (.inr afg)))))]) [2, 6, 9, 8] rfl
  have hDc := hD.sub (ws' := [(an, .inr (5, [.int ah, .int al, .int awa, .int afr, .int (nI awi), .ref ar, .ref ae, .ref as, .ref ai, .ref ag, .ref ac, .ref au, .int 0, .int 2, .int (nI 10), .int (nI acc), .int 0, .int 0])), (as, .inr (7, [.int 1, .int asnp, .int (nI sdu), .ref mm])), (ac, .inr (0, [.int (nI acm), .ref ace, .int 0])), (ag, .inl (acT, 3, .inr (.inr (.inr (.inr afg)))))]) [2, 6, 9, 8] (by decide +kernel) rfl
  have hKc := hK.sub (tys' := [(acT, (.object RX9))]) [1] rfl
  have hFc := ro_free hS hA
  refine va_calli (va_runV (As := []) (rest := [.int (nI en)]) ⟨hx, hb, hml, hown, hts⟩ (c_nextTimer_1nn l dC dI (an) (ah) (al) (awa) (afr) (awi) (ar) (ae) (as) (ai) (ag) (ac) (au) (10) (acc) (asnp) (sdu) (mm) (acm) (ace) (acT) (afg) H.size ag0_ ag1_ ag2_ hsd) (cwV 0 hts g_c_nextMoment_don_c_nextTimer_1nn_199 rfl rfl rfl (by decide +kernel) ⟨Nat.le_of_ble_eq_true rfl, Nat.le_of_ble_eq_true rfl⟩) ⟨fun a U g mk q => by obtain ⟨q0, q1, qP, qK, qD, qE⟩ := q; exact ⟨q0, q1, qP, va_K.moved (u := U) (U := U.calling g mk a) (Vm.Alike.refl U.vm) qK, qD, ev.same (u := U) (U := U.calling g mk a) rfl qE⟩, va_recv hKc hPc (ci := 5) (q0 := 0) rfl rfl, fun U hU hW => ⟨rfl, by rw [hU], by rw [hU]; exact hPc, va_K.moved hW.alike hKc, hDc.weaken (fun _ _ _ _ => trivial), hE.warm hW⟩⟩ rfl rfl hl.1 rfl (lv_room (Nat.le_of_ble_eq_true rfl)) dX10_nextMoment_50 ⟨Nat.le_of_ble_eq_true rfl, Nat.le_of_ble_eq_true rfl⟩) hS (fun q _ h => hFc q h) hFc (fun r_5 u t H1 locs ht hvm hw hB hz1 hk1 hS => ?_)
  clear hPc hDc hKc
  replace hP := ro_keep hP hk1
  generalize H1 = H at hP hS ⊢
  replace hP : va_P (dC, dI) vwCl [(x, .inr (11, [.ref nr, .ref st, .ref lf, .int 2, .int (nI tm), .int (nI fcn), .int xl, .int 0])), (nr, .inl (cN, 8, .inr (.inr (.inr (.inr fn))))), (an, .inr (5, [.int ah, .int al, .int awa, .int afr, .int (nI awi), .ref ar, .ref ae, .ref as, .ref ai, .ref ag, .ref ac, .ref au, .int 0, .int 2, .int 10, .int (nI acc), .int 0, .int 0])), (ar, .inr (6, [.int arh, .int arl, .ref st, .null, .null, .int ahp, .int atp, .int 0, .int 0, .int 0, .ref arf, .int 0])), (bn, .inr (5, [.int bh, .int bl, .int bwa, .int bfr, .int (nI bwi), .ref br, .ref be, .ref bs, .ref bi, .ref bg, .ref bc, .ref bu, .int 0, .int 2, .int 200, .int (nI bcc), .int 0, .int 0])), (br, .inr (6, [.int brh, .int brl, .ref st, .null, .null, .int bhp, .int btp, .int 0, .int 0, .int 0, .ref brf, .int 0])), (as, .inr (7, [.int 1, .int asnp, .int (nI sdu), .ref mm])), (bs, .inr (7, [.int 0, .int bsnp, .int bsdo, .null])), (ag, .inl (acT, 3, .inr (.inr (.inr (.inr afg))))), (ac, .inr (0, [.int (nI acm), .ref ace, .int 0])), (bc, .inr (0, [.int (nI bcm), .ref bce, .int 1])), (bce, .inl (cQ, 10, .inr (.inr (.inr (.inr fq))))), (tq, .inr (10, [.int 1, .int k1, .int k2, .int k3, .int k4, .int k5, .int k6, .int k7, .int (nI kl), .int k9, .int k10, .int k11, .ref kw, .ref kb])), (bg, .inl (bcT, 3, .inr (.inr (.inr (.inr bfg)))))] H := hP
  have hw := hw.symm
  subst hw
  refine va_mmin hx hb (by rw [hml]; exact hl.1.symm) hown (hts (.methodLink RX10 202 Lib.Math.min.name) (List.mem_of_getElem? (i := 15) rfl)) (hts (.static Lib.Math.min.name) (List.mem_of_getElem? (i := 16) rfl)) (hts (.initialized "java/lang/Math") (List.mem_of_getElem? (i := 17) rfl)) (hts (.code Lib.Math.min.name Lib.Math.min.code 2 (some .int)) (List.mem_of_getElem? (i := 18) rfl)) (Nat.le_of_ble_eq_true rfl) (Nat.le_of_ble_eq_true rfl) (Nat.zero_le _) (Nat.zero_le _) dX10_nextMoment_53 ?_
  obtain ⟨mn_6, hmn_6⟩ : ∃ z : Nat, z = min en sdu := ⟨_, rfl⟩
  refine lv_topi (fun x_6 ex_6 => ?_)
  obtain rfl : x_6 = nI mn_6 := ex_6.trans ((q_min (a := en) (b := sdu) (by omega) (by omega)).trans (congrArg nI hmn_6.symm))
  refine lv_istore_n (lv' := [(2, .int (nI mn_6)), (4, .ref an), (3, .int 0), (0, .ref x), (1, .int (nI en))]) hx hb dX10_nextMoment_56 rfl hl (by decide) rfl (fun ls hl => ?_)
  refine lv_iinc (v := 1) (lv' := [(3, .int 1), (2, .int (nI mn_6)), (4, .ref an), (0, .ref x), (1, .int (nI en))]) hx hb dX10_nextMoment_57 hl (k := 2) rfl (by decide) (by decide) rfl (fun ls hl => ?_)
  refine lv_goto (tgt := 4) hx hb dX10_nextMoment_60 (by decide) ?_
  refine lv_iload_n hx hb dX10_nextMoment_4 rfl (lv_at hl 0 rfl) ?_
  refine lv_aload_n hx hb dX10_nextMoment_5 rfl (lv_at hl 3 rfl) ?_
  refine va_get (D := (dC, dI)) (ci := 11) (v := .int 2) (C := RX10) (T := TX10) (N := 8) hx hb hts in_c_nextMoment_don_X10 hown hK hP 0 rfl rfl 3 (by decide) (hts (.fieldLink RX10 29 "ClaimBus" "nodeCount" "I") (List.mem_of_getElem? (i := 1) rfl)) (fun _ h9 => h9) rfl dX10_nextMoment_6 ?_
  refine lv_icmp_ge (tgt := 63) hx hb dX10_nextMoment_9 (by decide) (fun c_7 => ?_) (fun c_7 => ?_)
  · exact absurd c_7 (by decide)
  refine lv_aload_n hx hb dX10_nextMoment_12 rfl (lv_at hl 3 rfl) ?_
  refine lv_iload_n hx hb dX10_nextMoment_13 rfl (lv_at hl 0 rfl) ?_
  have hPc := hP.sub (ws' := [(x, .inr (11, [.ref nr, .ref st, .ref lf, .int 2, .int (nI tm), .int (nI fcn), .int xl, .int 0])), (nr, .inl (cN, 8, .inr (.inr (.inr (.inr fn)))))]) [0, 1] rfl
  have hDc := hD.sub (ws' := [(x, .inr (11, [.ref nr, .ref st, .ref lf, .int 2, .int (nI tm), .int (nI fcn), .int xl, .int 0])), (nr, .inl (cN, 8, .inr (.inr (.inr (.inr fn)))))]) [0, 1] (by decide +kernel) rfl
  have hKc := hK.sub (tys' := [(cN, (.object RX4))]) [0] rfl
  have hFc := ro_free hS hA
  refine va_callq (va_runV (As := [.int 1]) (rest := []) ⟨hx, hb, hml, hown, hts⟩ (c_find_1 l dC dI (x) (nr) (st) (lf) (tm) (fcn) (xl) (cN) (fn) (bn) H.size n1) (cwV 1 hts g_c_nextMoment_don_c_find_1_53 rfl rfl rfl (by decide +kernel) ⟨Nat.le_of_ble_eq_true rfl, Nat.le_of_ble_eq_true rfl⟩) ⟨fun a U g mk q => by obtain ⟨q0, q1, qP, qK, qD, qE⟩ := q; exact ⟨q0, q1, qP, va_K.moved (u := U) (U := U.calling g mk a) (Vm.Alike.refl U.vm) qK, qD, ev.same (u := U) (U := U.calling g mk a) rfl qE⟩, va_recv hKc hPc (ci := 11) (q0 := 0) rfl rfl, fun U hU hW => ⟨rfl, by rw [hU], by rw [hU]; exact hPc, va_K.moved hW.alike hKc, hDc.weaken (fun _ _ _ _ => trivial), hE.warm hW⟩⟩ rfl rfl hl.1 rfl (lv_room (Nat.le_of_ble_eq_true rfl)) dX10_nextMoment_14 ⟨Nat.le_of_ble_eq_true rfl, Nat.le_of_ble_eq_true rfl⟩) hS (fun q _ h => hFc q h) hFc (fun r_8 u t H1 locs ht hvm hw hB hz1 hk1 hS => ?_)
  clear hPc hDc hKc
  replace hP := ro_keep hP hk1
  generalize H1 = H at hP hS ⊢
  replace hP : va_P (dC, dI) vwCl [(x, .inr (11, [.ref nr, .ref st, .ref lf, .int 2, .int (nI tm), .int (nI fcn), .int xl, .int 0])), (nr, .inl (cN, 8, .inr (.inr (.inr (.inr fn))))), (an, .inr (5, [.int ah, .int al, .int awa, .int afr, .int (nI awi), .ref ar, .ref ae, .ref as, .ref ai, .ref ag, .ref ac, .ref au, .int 0, .int 2, .int 10, .int (nI acc), .int 0, .int 0])), (ar, .inr (6, [.int arh, .int arl, .ref st, .null, .null, .int ahp, .int atp, .int 0, .int 0, .int 0, .ref arf, .int 0])), (bn, .inr (5, [.int bh, .int bl, .int bwa, .int bfr, .int (nI bwi), .ref br, .ref be, .ref bs, .ref bi, .ref bg, .ref bc, .ref bu, .int 0, .int 2, .int 200, .int (nI bcc), .int 0, .int 0])), (br, .inr (6, [.int brh, .int brl, .ref st, .null, .null, .int bhp, .int btp, .int 0, .int 0, .int 0, .ref brf, .int 0])), (as, .inr (7, [.int 1, .int asnp, .int (nI sdu), .ref mm])), (bs, .inr (7, [.int 0, .int bsnp, .int bsdo, .null])), (ag, .inl (acT, 3, .inr (.inr (.inr (.inr afg))))), (ac, .inr (0, [.int (nI acm), .ref ace, .int 0])), (bc, .inr (0, [.int (nI bcm), .ref bce, .int 1])), (bce, .inl (cQ, 10, .inr (.inr (.inr (.inr fq))))), (tq, .inr (10, [.int 1, .int k1, .int k2, .int k3, .int k4, .int k5, .int k6, .int k7, .int (nI kl), .int k9, .int k10, .int k11, .ref kw, .ref kb])), (bg, .inl (bcT, 3, .inr (.inr (.inr (.inr bfg)))))] H := hP
  have hw := hw.symm
  subst hw
  refine W.eq (g2 := F0 m 17 ls [.ref bn]) rfl ?_
  refine lv_astore (lv' := [(4, .ref bn), (3, .int 1), (2, .int (nI mn_6)), (0, .ref x), (1, .int (nI en))]) hx hb dX10_nextMoment_17 hl (by decide) rfl (fun ls hl => ?_)
  refine lv_aload hx hb dX10_nextMoment_19 (lv_at hl 0 rfl) ?_
  refine lv_ifnull hx hb dX10_nextMoment_21 ?_
  refine lv_aload hx hb dX10_nextMoment_24 (lv_at hl 0 rfl) ?_
  refine va_get (D := (dC, dI)) (ci := 5) (v := .ref br) (C := RX4) (T := TX4) (N := 18) hx hb hts in_c_nextMoment_don_X4 hown hK hP 4 rfl rfl 5 (by decide) (hts (.fieldLink RX10 74 "ClaimBus$Node" "row" "LClaimBus$Row;") (List.mem_of_getElem? (i := 6) rfl)) (fun _ h9 => h9) rfl dX10_nextMoment_26 ?_
  have hPc := hP.sub (ws' := [(br, .inr (6, [.int brh, .int brl, .ref st, .null, .null, .int bhp, .int btp, .int 0, .int 0, .int 0, .ref brf, .int 0]))]) [5] rfl
  have hDc := hD.sub (ws' := [(br, .inr (6, [.int brh, .int brl, .ref st, .null, .null, .int bhp, .int btp, .int 0, .int 0, .int 0, .ref brf, .int 0]))]) [5] (by decide +kernel) rfl
  have hKc := hK.sub (tys' := []) [] rfl
  have hFc := ro_free hS hA
  refine va_calli (va_runV (As := []) (rest := []) ⟨hx, hb, hml, hown, hts⟩ (c_len_e l dC dI (br) (brh) (brl) (st) (brf) (bhp) (btp) H.size) (cwV 0 hts g_c_nextMoment_don_c_len_e_129 rfl rfl rfl (by decide +kernel) ⟨Nat.le_of_ble_eq_true rfl, Nat.le_of_ble_eq_true rfl⟩) ⟨fun a U g mk q => by obtain ⟨q0, q1, qP, qK, qD, qE⟩ := q; exact ⟨q0, q1, qP, va_K.moved (u := U) (U := U.calling g mk a) (Vm.Alike.refl U.vm) qK, qD, ev.same (u := U) (U := U.calling g mk a) rfl qE⟩, va_recv hKc hPc (ci := 6) (q0 := 0) rfl rfl, fun U hU hW => ⟨rfl, by rw [hU], by rw [hU]; exact hPc, va_K.moved hW.alike hKc, hDc.weaken (fun _ _ _ _ => trivial), hE.warm hW⟩⟩ rfl rfl hl.1 rfl (lv_room (Nat.le_of_ble_eq_true rfl)) dX10_nextMoment_29 ⟨Nat.le_of_ble_eq_true rfl, Nat.le_of_ble_eq_true rfl⟩) hS (fun q _ h => hFc q h) hFc (fun r_9 u t H1 locs ht hvm hw hB hz1 hk1 hS => ?_)
  clear hPc hDc hKc
  replace hP := ro_keep hP hk1
  generalize H1 = H at hP hS ⊢
  replace hP : va_P (dC, dI) vwCl [(x, .inr (11, [.ref nr, .ref st, .ref lf, .int 2, .int (nI tm), .int (nI fcn), .int xl, .int 0])), (nr, .inl (cN, 8, .inr (.inr (.inr (.inr fn))))), (an, .inr (5, [.int ah, .int al, .int awa, .int afr, .int (nI awi), .ref ar, .ref ae, .ref as, .ref ai, .ref ag, .ref ac, .ref au, .int 0, .int 2, .int 10, .int (nI acc), .int 0, .int 0])), (ar, .inr (6, [.int arh, .int arl, .ref st, .null, .null, .int ahp, .int atp, .int 0, .int 0, .int 0, .ref arf, .int 0])), (bn, .inr (5, [.int bh, .int bl, .int bwa, .int bfr, .int (nI bwi), .ref br, .ref be, .ref bs, .ref bi, .ref bg, .ref bc, .ref bu, .int 0, .int 2, .int 200, .int (nI bcc), .int 0, .int 0])), (br, .inr (6, [.int brh, .int brl, .ref st, .null, .null, .int bhp, .int btp, .int 0, .int 0, .int 0, .ref brf, .int 0])), (as, .inr (7, [.int 1, .int asnp, .int (nI sdu), .ref mm])), (bs, .inr (7, [.int 0, .int bsnp, .int bsdo, .null])), (ag, .inl (acT, 3, .inr (.inr (.inr (.inr afg))))), (ac, .inr (0, [.int (nI acm), .ref ace, .int 0])), (bc, .inr (0, [.int (nI bcm), .ref bce, .int 1])), (bce, .inl (cQ, 10, .inr (.inr (.inr (.inr fq))))), (tq, .inr (10, [.int 1, .int k1, .int k2, .int k3, .int k4, .int k5, .int k6, .int k7, .int (nI kl), .int k9, .int k10, .int k11, .ref kw, .ref kb])), (bg, .inl (bcT, 3, .inr (.inr (.inr (.inr bfg)))))] H := hP
  have hw := hw.symm
  subst hw
  refine lv_if_le (tgt := 42) hx hb dX10_nextMoment_32 (by decide) (fun c_10 => ?_) (fun c_10 => ?_)
  rotate_left
  · exact absurd (by decide) c_10
  refine lv_aload hx hb dX10_nextMoment_42 (lv_at hl 0 rfl) ?_
  refine lv_ifnull hx hb dX10_nextMoment_44 ?_
  refine lv_iload_n hx hb dX10_nextMoment_47 rfl (lv_at hl 2 rfl) ?_
  refine lv_aload hx hb dX10_nextMoment_48 (lv_at hl 0 rfl) ?_
  have hPc := hP.sub (ws' := [(bn, .inr (5, [.int bh, .int bl, .int bwa, .int bfr, .int (nI bwi), .ref br, .ref be, .ref bs, .ref bi, .ref bg, .ref bc, .ref bu, .int 0, .int 2, .int (nI 200), .int (nI bcc), .int 0, .int 0])), (bs, .inr (7, [.int 0, .int bsnp, .int bsdo, .null])), (bc, .inr (0, [.int (nI bcm), .ref bce, .int 1])), (bce, .inl (cQ, 10, .inr (.inr (.inr (.inr fq))))), (tq, .inr (10, [.int 1, .int k1, .int k2, .int k3, .int k4, .int k5, .int k6, .int k7, .int (nI kl), .int k9, .int k10, .int k11, .ref kw, .ref kb])), (bg, .inl (bcT, 3, .inr (.inr (.inr (.inr bfg)))))]) [4, 7, 10, 11, 12, 13] rfl
  have hDc := hD.sub (ws' := [(bn, .inr (5, [.int bh, .int bl, .int bwa, .int bfr, .int (nI bwi), .ref br, .ref be, .ref bs, .ref bi, .ref bg, .ref bc, .ref bu, .int 0, .int 2, .int (nI 200), .int (nI bcc), .int 0, .int 0])), (bs, .inr (7, [.int 0, .int bsnp, .int bsdo, .null])), (bc, .inr (0, [.int (nI bcm), .ref bce, .int 1])), (bce, .inl (cQ, 10, .inr (.inr (.inr (.inr fq))))), (tq, .inr (10, [.int 1, .int k1, .int k2, .int k3, .int k4, .int k5, .int k6, .int k7, .int (nI kl), .int k9, .int k10, .int k11, .ref kw, .ref kb])), (bg, .inl (bcT, 3, .inr (.inr (.inr (.inr bfg)))))]) [4, 7, 10, 11, 12, 13] (by decide +kernel) rfl
  have hKc := hK.sub (tys' := [(cQ, (.object "java/lang/Object")), (bcT, (.object RX9))]) [2, 3] rfl
  have hFc := ro_free hS hA
  refine va_calli (va_runV (As := []) (rest := [.int (nI mn_6)]) ⟨hx, hb, hml, hown, hts⟩ (c_nextTimer_0on l dC dI (bn) (bh) (bl) (bwa) (bfr) (bwi) (br) (be) (bs) (bi) (bg) (bc) (bu) (200) (bcc) (bsnp) (bsdo) (bcm) (bce) (cQ) (fq) (tq) (k1) (k2) (k3) (k4) (k5) (k6) (k7) (kl) (k9) (k10) (k11) (kw) (kb) (bcT) (bfg) H.size hq bg0_ bg1_ bg2_ hkl) (cwV 0 hts g_c_nextMoment_don_c_nextTimer_0on_199 rfl rfl rfl (by decide +kernel) ⟨Nat.le_of_ble_eq_true rfl, Nat.le_of_ble_eq_true rfl⟩) ⟨fun a U g mk q => by obtain ⟨q0, q1, qP, qK, qD, qE⟩ := q; exact ⟨q0, q1, qP, va_K.moved (u := U) (U := U.calling g mk a) (Vm.Alike.refl U.vm) qK, qD, ev.same (u := U) (U := U.calling g mk a) rfl qE⟩, va_recv hKc hPc (ci := 5) (q0 := 0) rfl rfl, fun U hU hW => ⟨rfl, by rw [hU], by rw [hU]; exact hPc, va_K.moved hW.alike hKc, hDc.weaken (fun _ _ _ _ => trivial), hE.warm hW⟩⟩ rfl rfl hl.1 rfl (lv_room (Nat.le_of_ble_eq_true rfl)) dX10_nextMoment_50 ⟨Nat.le_of_ble_eq_true rfl, Nat.le_of_ble_eq_true rfl⟩) hS (fun q _ h => hFc q h) hFc (fun r_11 u t H1 locs ht hvm hw hB hz1 hk1 hS => ?_)
  clear hPc hDc hKc
  replace hP := ro_keep hP hk1
  generalize H1 = H at hP hS ⊢
  replace hP : va_P (dC, dI) vwCl [(x, .inr (11, [.ref nr, .ref st, .ref lf, .int 2, .int (nI tm), .int (nI fcn), .int xl, .int 0])), (nr, .inl (cN, 8, .inr (.inr (.inr (.inr fn))))), (an, .inr (5, [.int ah, .int al, .int awa, .int afr, .int (nI awi), .ref ar, .ref ae, .ref as, .ref ai, .ref ag, .ref ac, .ref au, .int 0, .int 2, .int 10, .int (nI acc), .int 0, .int 0])), (ar, .inr (6, [.int arh, .int arl, .ref st, .null, .null, .int ahp, .int atp, .int 0, .int 0, .int 0, .ref arf, .int 0])), (bn, .inr (5, [.int bh, .int bl, .int bwa, .int bfr, .int (nI bwi), .ref br, .ref be, .ref bs, .ref bi, .ref bg, .ref bc, .ref bu, .int 0, .int 2, .int 200, .int (nI bcc), .int 0, .int 0])), (br, .inr (6, [.int brh, .int brl, .ref st, .null, .null, .int bhp, .int btp, .int 0, .int 0, .int 0, .ref brf, .int 0])), (as, .inr (7, [.int 1, .int asnp, .int (nI sdu), .ref mm])), (bs, .inr (7, [.int 0, .int bsnp, .int bsdo, .null])), (ag, .inl (acT, 3, .inr (.inr (.inr (.inr afg))))), (ac, .inr (0, [.int (nI acm), .ref ace, .int 0])), (bc, .inr (0, [.int (nI bcm), .ref bce, .int 1])), (bce, .inl (cQ, 10, .inr (.inr (.inr (.inr fq))))), (tq, .inr (10, [.int 1, .int k1, .int k2, .int k3, .int k4, .int k5, .int k6, .int k7, .int (nI kl), .int k9, .int k10, .int k11, .ref kw, .ref kb])), (bg, .inl (bcT, 3, .inr (.inr (.inr (.inr bfg)))))] H := hP
  have hw := hw.symm
  subst hw
  refine va_mmin hx hb (by rw [hml]; exact hl.1.symm) hown (hts (.methodLink RX10 202 Lib.Math.min.name) (List.mem_of_getElem? (i := 15) rfl)) (hts (.static Lib.Math.min.name) (List.mem_of_getElem? (i := 16) rfl)) (hts (.initialized "java/lang/Math") (List.mem_of_getElem? (i := 17) rfl)) (hts (.code Lib.Math.min.name Lib.Math.min.code 2 (some .int)) (List.mem_of_getElem? (i := 18) rfl)) (Nat.le_of_ble_eq_true rfl) (Nat.le_of_ble_eq_true rfl) (Nat.zero_le _) (Nat.zero_le _) dX10_nextMoment_53 ?_
  obtain ⟨mn_12, hmn_12⟩ : ∃ z : Nat, z = min mn_6 (kl + 750) := ⟨_, rfl⟩
  refine lv_topi (fun x_12 ex_12 => ?_)
  obtain rfl : x_12 = nI mn_12 := ex_12.trans ((q_min (a := mn_6) (b := (kl + 750)) (by omega) (by omega)).trans (congrArg nI hmn_12.symm))
  refine lv_istore_n (lv' := [(2, .int (nI mn_12)), (4, .ref bn), (3, .int 1), (0, .ref x), (1, .int (nI en))]) hx hb dX10_nextMoment_56 rfl hl (by decide) rfl (fun ls hl => ?_)
  refine lv_iinc (v := 2) (lv' := [(3, .int 2), (2, .int (nI mn_12)), (4, .ref bn), (0, .ref x), (1, .int (nI en))]) hx hb dX10_nextMoment_57 hl (k := 2) rfl (by decide) (by decide) rfl (fun ls hl => ?_)
  refine lv_goto (tgt := 4) hx hb dX10_nextMoment_60 (by decide) ?_
  refine lv_iload_n hx hb dX10_nextMoment_4 rfl (lv_at hl 0 rfl) ?_
  refine lv_aload_n hx hb dX10_nextMoment_5 rfl (lv_at hl 3 rfl) ?_
  refine va_get (D := (dC, dI)) (ci := 11) (v := .int 2) (C := RX10) (T := TX10) (N := 8) hx hb hts in_c_nextMoment_don_X10 hown hK hP 0 rfl rfl 3 (by decide) (hts (.fieldLink RX10 29 "ClaimBus" "nodeCount" "I") (List.mem_of_getElem? (i := 1) rfl)) (fun _ h9 => h9) rfl dX10_nextMoment_6 ?_
  refine lv_icmp_ge (tgt := 63) hx hb dX10_nextMoment_9 (by decide) (fun c_13 => ?_) (fun c_13 => ?_)
  rotate_left
  · exact absurd (by decide) c_13
  refine lv_aload_n hx hb dX10_nextMoment_63 rfl (lv_at hl 3 rfl) ?_
  refine va_get (D := (dC, dI)) (ci := 11) (v := .int (nI tm)) (C := RX10) (T := TX10) (N := 8) hx hb hts in_c_nextMoment_don_X10 hown hK hP 0 rfl rfl 4 (by decide) (hts (.fieldLink RX10 33 "ClaimBus" "time" "I") (List.mem_of_getElem? (i := 19) rfl)) (fun _ h9 => h9) rfl dX10_nextMoment_64 ?_
  refine lv_iconst (v := 1) hx hb dX10_nextMoment_67 (by decide) ?_
  refine lv_iadd hx hb dX10_nextMoment_68 ?_
  refine lv_topi (fun x_14 ex_14 => ?_)
  obtain rfl : x_14 = (nI (tm + 1)) := ex_14.trans ((nI_add tm 1).trans (show nI (tm + 1) = nI (tm + 1) from congrArg nI (by omega)))
  refine lv_iload_n hx hb dX10_nextMoment_69 rfl (lv_at hl 1 rfl) ?_
  refine va_mmax hx hb (by rw [hml]; exact hl.1.symm) hown (hts (.methodLink RX10 207 Lib.Math.max.name) (List.mem_of_getElem? (i := 20) rfl)) (hts (.static Lib.Math.max.name) (List.mem_of_getElem? (i := 21) rfl)) (hts (.initialized "java/lang/Math") (List.mem_of_getElem? (i := 17) rfl)) (hts (.code Lib.Math.max.name Lib.Math.max.code 2 (some .int)) (List.mem_of_getElem? (i := 22) rfl)) (Nat.le_of_ble_eq_true rfl) (Nat.le_of_ble_eq_true rfl) (Nat.zero_le _) (Nat.zero_le _) dX10_nextMoment_70 ?_
  obtain ⟨mn_15, hmn_15⟩ : ∃ z : Nat, z = max (tm + 1) mn_12 := ⟨_, rfl⟩
  refine lv_topi (fun x_15 ex_15 => ?_)
  obtain rfl : x_15 = nI mn_15 := ex_15.trans ((q_max (a := (tm + 1)) (b := mn_12) (by omega) (by omega)).trans (congrArg nI hmn_15.symm))
  exact W.iret (v := (nI mn_15)) hx hb hr (fun t ht hW => ⟨⟨(nI mn_15), (), rfl, congrArg nI (show mn_15 = sdu from by omega), trivial⟩, hS.F ht⟩) hS.2.2 dX10_nextMoment_73
