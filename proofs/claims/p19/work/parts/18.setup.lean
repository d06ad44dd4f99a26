noncomputable def tl_c_find1_0 : List Cond := wsX100
noncomputable def v_c_find1_0 : List Cond := .code yX10_find cX10_find 2 (some (.object "ClaimBus$Node")) :: ([.fieldLink RX10 29 "ClaimBus" "nodeCount" "I", .fieldLink RX10 11 "ClaimBus" "nodes" "[LClaimBus$Node;"] ++ tl_c_find1_0)
theorem it_c_find1_0 : ∀ w ∈ tl_c_find1_0, w ∈ v_c_find1_0 := fun w h => List.mem_cons_of_mem _ (List.mem_append_right _ h)
theorem in_c_find1_0_X10 : ∀ w ∈ wsX100, w ∈ v_c_find1_0 := fun w h => it_c_find1_0 w (h)
theorem gt_c_find1_0 : ∀ w ∈ tl_c_find1_0, goodWord w = true := gw_wsX100
theorem gw_c_find1_0 : ∀ w ∈ v_c_find1_0, goodWord w = true := List.forall_mem_cons.mpr ⟨by decide +kernel, List.forall_mem_append.mpr ⟨List.all_eq_true.mp (by decide +kernel), gt_c_find1_0⟩⟩
set_option maxHeartbeats 4000000 in
set_option maxRecDepth 100000 in
theorem c_find1_0 (l : Launch) (dC : Nat → ClassId) (dI : Nat → Nat → Nat) (x : Nat) (nr : Nat) (st : Nat) (lf : Nat) (cN : ClassId) (fn : Nat → Option Nat) (an : Nat) (sz : Nat) (n0 : fn 0 = some an) : Met l yX10_find v_c_find1_0 ({ frames := 0, cells := 0, slots := 0, locals := 0 }) (va_Pc [.ref x, .int 0] (fun U => U.heap.size = sz ∧ va_P (dC, dI) vwCl [(x, .inr (11, [.ref nr, .ref st, .ref lf, .int 1, .int 0, .int 0, .int (-1), .int 0])), (nr, .inl (cN, 8, .inr (.inr (.inr (.inr fn)))))] U.heap ∧ va_K (dC, dI) vwCl [(cN, (.object RX4))] U ∧ va_D (fun _ => True) [(x, .inr (11, [.ref nr, .ref st, .ref lf, .int 1, .int 0, .int 0, .int (-1), .int 0])), (nr, .inl (cN, 8, .inr (.inr (.inr (.inr fn)))))] ∧ ev U)) (va_Qq (fun (r : Option Nat) (_ : Unit) => r = some an) (fun (_ : Unit) (_ : State) => True) (va_A [] sz)) 0 0 (va_A [] sz) := by
  refine Met.ofW (cc := cX10_find) (maxL := 2) (ret := (some (.object "ClaimBus$Node"))) (by decide) rfl ?_
  intro p e s m args below meth c s₁ B hml hv
  obtain ⟨rfl, hsz, hP, hK, hD0, hE⟩ := hv
  have hx := B.exec
  have hb := B.bytes
  have hr := B.returns
  have hts := atoms_spec (ws := v_c_find1_0) B.pre
  have hown : s.vm.findClass RX10 = some m.cls := findClass_of_methodNamed B.named
  have hlocks := B.notSynchronized
  subst hsz
  have hD := hD0
  generalize hAe : va_A [] s.heap.size = A
  have hA : ∀ q : Nat, s.heap.size ≤ q → A q := fun q h => by rw [← hAe]; exact Or.inr h
  have hS : va_S A s.heap s.heap [] := va_S.rf
  replace hP : va_P (dC, dI) vwCl [(x, .inr (11, [.ref nr, .ref st, .ref lf, .int 1, .int 0, .int 0, .int (-1), .int 0])), (nr, .inl (cN, 8, .inr (.inr (.inr (.inr fn)))))] s.heap := hP
  have hl := lv_entry ([.ref x, .int 0]) (n := 2) (Nat.le_of_ble_eq_true rfl)
  rw [lg_entry_eq]
  generalize (lg_sl ([.ref x, .int 0]) ++ List.replicate (2 - (lg_sl ([.ref x, .int 0])).length) Slot.unset).toArray = ls at hl ⊢
  replace hl : lv_has ls 2 [(0, .ref x), (1, .int 0)] := hl
  obtain ⟨H, hH⟩ : ∃ z : Heap, z = s.heap := ⟨_, rfl⟩
  rw [← hH]
  replace hS : va_S A s.heap H [] := by rw [hH]; exact va_S.rf
  replace hP : va_P (dC, dI) vwCl [(x, .inr (11, [.ref nr, .ref st, .ref lf, .int 1, .int 0, .int 0, .int (-1), .int 0])), (nr, .inl (cN, 8, .inr (.inr (.inr (.inr fn)))))] H := by rw [hH]; exact hP
  clear hH
  refine lv_iload_n hx hb dX10_find_0 rfl (lv_at hl 1 rfl) ?_
  refine lv_if_lt (tgt := 27) hx hb dX10_find_1 (by decide) (fun c_1 => ?_) (fun c_1 => ?_)
  · exact absurd c_1 (by decide)
  refine lv_iload_n hx hb dX10_find_4 rfl (lv_at hl 1 rfl) ?_
  refine lv_aload_n hx hb dX10_find_5 rfl (lv_at hl 0 rfl) ?_
  refine va_get (D := (dC, dI)) (ci := 11) (v := .int 1) (C := RX10) (T := TX10) (N := 8) hx hb hts in_c_find1_0_X10 hown hK hP 0 rfl rfl 3 (by decide) (hts (.fieldLink RX10 29 "ClaimBus" "nodeCount" "I") (List.mem_of_getElem? (i := 1) rfl)) (fun _ h9 => h9) rfl dX10_find_6 ?_
  refine lv_icmp_ge (tgt := 27) hx hb dX10_find_9 (by decide) (fun c_2 => ?_) (fun c_2 => ?_)
  · exact absurd c_2 (by decide)
  refine lv_iload_n hx hb dX10_find_12 rfl (lv_at hl 1 rfl) ?_
  refine lv_bipush (v := 8) hx hb dX10_find_13 (by decide) ?_
  refine lv_icmp_ge (tgt := 27) hx hb dX10_find_15 (by decide) (fun c_3 => ?_) (fun c_3 => ?_)
  · exact absurd c_3 (by decide)
  refine lv_aload_n hx hb dX10_find_18 rfl (lv_at hl 0 rfl) ?_
  refine va_get (D := (dC, dI)) (ci := 11) (v := .ref nr) (C := RX10) (T := TX10) (N := 8) hx hb hts in_c_find1_0_X10 hown hK hP 0 rfl rfl 0 (by decide) (hts (.fieldLink RX10 11 "ClaimBus" "nodes" "[LClaimBus$Node;") (List.mem_of_getElem? (i := 2) rfl)) (fun _ h9 => h9) rfl dX10_find_19 ?_
  refine lv_iload_n hx hb dX10_find_22 rfl (lv_at hl 1 rfl) ?_
  refine va_aldq hx hb hK hP 1 0 rfl rfl (vp_in_nI (n := 0) (by omega) (by omega)) dX10_find_23 ?_
  refine W.eq (g2 := F0 m 24 ls [.ref an]) (by rw [(show Int32.toNatClampNeg (0 : Int32) = 0 by decide), n0]; rfl) ?_
  refine lv_goto (tgt := 28) hx hb dX10_find_24 (by decide) ?_
  exact W.aret (v := .ref an) hx hb hr (Or.inl ⟨_, rfl⟩) (Or.inr ⟨_, rfl⟩) (fun t ht hW => ⟨⟨some an, (), rfl, rfl, trivial⟩, hS.F ht⟩) hS.2.2 dX10_find_28

noncomputable def tl_c_nameIsThere_0 : List Cond := wsX100
noncomputable def v_c_nameIsThere_0 : List Cond := .code yX10_nameIsThere cX10_nameIsThere 5 (some .boolean) :: ([.fieldLink RX10 29 "ClaimBus" "nodeCount" "I"] ++ tl_c_nameIsThere_0)
theorem it_c_nameIsThere_0 : ∀ w ∈ tl_c_nameIsThere_0, w ∈ v_c_nameIsThere_0 := fun w h => List.mem_cons_of_mem _ (List.mem_append_right _ h)
theorem in_c_nameIsThere_0_X10 : ∀ w ∈ wsX100, w ∈ v_c_nameIsThere_0 := fun w h => it_c_nameIsThere_0 w (h)
theorem gt_c_nameIsThere_0 : ∀ w ∈ tl_c_nameIsThere_0, goodWord w = true := gw_wsX100
theorem gw_c_nameIsThere_0 : ∀ w ∈ v_c_nameIsThere_0, goodWord w = true := List.forall_mem_cons.mpr ⟨by decide +kernel, List.forall_mem_append.mpr ⟨List.all_eq_true.mp (by decide +kernel), gt_c_nameIsThere_0⟩⟩
set_option maxHeartbeats 4000000 in
set_option maxRecDepth 100000 in
theorem c_nameIsThere_0 (l : Launch) (dC : Nat → ClassId) (dI : Nat → Nat → Nat) (x : Nat) (nr : Nat) (st : Nat) (lf : Nat) (p0 : Int32) (p1 : Int32) (sz : Nat)  : Met l yX10_nameIsThere v_c_nameIsThere_0 ({ frames := 0, cells := 0, slots := 0, locals := 0 }) (va_Pc [.ref x, .int p0, .int p1] (fun U => U.heap.size = sz ∧ va_P (dC, dI) vwCl [(x, .inr (11, [.ref nr, .ref st, .ref lf, .int 0, .int 0, .int 0, .int (-1), .int 0]))] U.heap ∧ va_K (dC, dI) vwCl [] U ∧ va_D (fun _ => True) [(x, .inr (11, [.ref nr, .ref st, .ref lf, .int 0, .int 0, .int 0, .int (-1), .int 0]))] ∧ ev U)) (va_Qi (fun (r : Int32) (_ : Unit) => r = 0) (fun (_ : Unit) (_ : State) => True) (va_A [] sz)) 0 0 (va_A [] sz) := by
  refine Met.ofW (cc := cX10_nameIsThere) (maxL := 5) (ret := (some .boolean)) (by decide) rfl ?_
  intro p e s m args below meth c s₁ B hml hv
  obtain ⟨rfl, hsz, hP, hK, hD0, hE⟩ := hv
  have hx := B.exec
  have hb := B.bytes
  have hr := B.returns
  have hts := atoms_spec (ws := v_c_nameIsThere_0) B.pre
  have hown : s.vm.findClass RX10 = some m.cls := findClass_of_methodNamed B.named
  have hlocks := B.notSynchronized
  subst hsz
  have hD := hD0
  generalize hAe : va_A [] s.heap.size = A
  have hA : ∀ q : Nat, s.heap.size ≤ q → A q := fun q h => by rw [← hAe]; exact Or.inr h
  have hS : va_S A s.heap s.heap [] := va_S.rf
  replace hP : va_P (dC, dI) vwCl [(x, .inr (11, [.ref nr, .ref st, .ref lf, .int 0, .int 0, .int 0, .int (-1), .int 0]))] s.heap := hP
  have hl := lv_entry ([.ref x, .int p0, .int p1]) (n := 5) (Nat.le_of_ble_eq_true rfl)
  rw [lg_entry_eq]
  generalize (lg_sl ([.ref x, .int p0, .int p1]) ++ List.replicate (5 - (lg_sl ([.ref x, .int p0, .int p1])).length) Slot.unset).toArray = ls at hl ⊢
  replace hl : lv_has ls 5 [(0, .ref x), (1, .int p0), (2, .int p1)] := hl
  obtain ⟨H, hH⟩ : ∃ z : Heap, z = s.heap := ⟨_, rfl⟩
  rw [← hH]
  replace hS : va_S A s.heap H [] := by rw [hH]; exact va_S.rf
  replace hP : va_P (dC, dI) vwCl [(x, .inr (11, [.ref nr, .ref st, .ref lf, .int 0, .int 0, .int 0, .int (-1), .int 0]))] H := by rw [hH]; exact hP
  clear hH
  refine lv_iconst (v := 0) hx hb dX10_nameIsThere_0 (by decide) ?_
  refine lv_istore_n (lv' := [(3, .int 0), (0, .ref x), (1, .int p0), (2, .int p1)]) hx hb dX10_nameIsThere_1 rfl hl (by decide) rfl (fun ls hl => ?_)
  refine lv_iload_n hx hb dX10_nameIsThere_2 rfl (lv_at hl 0 rfl) ?_
  refine lv_aload_n hx hb dX10_nameIsThere_3 rfl (lv_at hl 1 rfl) ?_
  refine va_get (D := (dC, dI)) (ci := 11) (v := .int 0) (C := RX10) (T := TX10) (N := 8) hx hb hts in_c_nameIsThere_0_X10 hown hK hP 0 rfl rfl 3 (by decide) (hts (.fieldLink RX10 29 "ClaimBus" "nodeCount" "I") (List.mem_of_getElem? (i := 1) rfl)) (fun _ h9 => h9) rfl dX10_nameIsThere_4 ?_
  refine lv_icmp_ge (tgt := 48) hx hb dX10_nameIsThere_7 (by decide) (fun c_1 => ?_) (fun c_1 => ?_)
  rotate_left
  · exact absurd (by decide) c_1
  refine lv_iconst (v := 0) hx hb dX10_nameIsThere_48 (by decide) ?_
  exact W.zret (v := 0) hx hb hr (by decide) (fun t ht hW => ⟨⟨0, (), rfl, rfl, trivial⟩, hS.F ht⟩) hS.2.2 dX10_nameIsThere_49

noncomputable def tl_c_nameIsThere_1 : List Cond := wsX100 ++ (wsX40 ++ (v_c_find1_0))
noncomputable def v_c_nameIsThere_1 : List Cond := .code yX10_nameIsThere cX10_nameIsThere 5 (some .boolean) :: ([.fieldLink RX10 29 "ClaimBus" "nodeCount" "I", .initialized RX10, .methodLink RX10 53 yX10_find, .instanceMethod yX10_find, .selects RX10 yX10_find yX10_find, .fieldLink RX10 192 "ClaimBus$Node" "high" "I", .fieldLink RX10 195 "ClaimBus$Node" "low" "I"] ++ tl_c_nameIsThere_1)
theorem it_c_nameIsThere_1 : ∀ w ∈ tl_c_nameIsThere_1, w ∈ v_c_nameIsThere_1 := fun w h => List.mem_cons_of_mem _ (List.mem_append_right _ h)
theorem in_c_nameIsThere_1_X10 : ∀ w ∈ wsX100, w ∈ v_c_nameIsThere_1 := fun w h => it_c_nameIsThere_1 w (List.mem_append_left _ h)
theorem in_c_nameIsThere_1_X4 : ∀ w ∈ wsX40, w ∈ v_c_nameIsThere_1 := fun w h => it_c_nameIsThere_1 w (List.mem_append_right _ (List.mem_append_left _ h))
theorem ic_c_nameIsThere_1_c_find1_0 : ∀ w ∈ v_c_find1_0, w ∈ v_c_nameIsThere_1 := fun w h => it_c_nameIsThere_1 w (List.mem_append_right _ (List.mem_append_right _ (h)))
theorem gt_c_nameIsThere_1 : ∀ w ∈ tl_c_nameIsThere_1, goodWord w = true := List.forall_mem_append.mpr ⟨gw_wsX100, List.forall_mem_append.mpr ⟨gw_wsX40, gw_c_find1_0⟩⟩
theorem gw_c_nameIsThere_1 : ∀ w ∈ v_c_nameIsThere_1, goodWord w = true := List.forall_mem_cons.mpr ⟨by decide +kernel, List.forall_mem_append.mpr ⟨List.all_eq_true.mp (by decide +kernel), gt_c_nameIsThere_1⟩⟩
theorem g_c_nameIsThere_1_c_find1_0_53 : GoodIn v_c_nameIsThere_1 (wsV RX10 53 RX10 yX10_find v_c_find1_0) := goodIn_app (goodIn_r [.methodLink RX10 53 yX10_find, .instanceMethod yX10_find, .selects RX10 yX10_find yX10_find, .initialized RX10] [3, 4, 5, 2] (by decide +kernel) (by decide +kernel)) (fun w h => ⟨ic_c_nameIsThere_1_c_find1_0 w h, good_of_word (gw_c_find1_0 w h)⟩)
set_option maxHeartbeats 4000000 in
set_option maxRecDepth 100000 in
theorem c_nameIsThere_1 (l : Launch) (dC : Nat → ClassId) (dI : Nat → Nat → Nat) (x : Nat) (nr : Nat) (st : Nat) (lf : Nat) (cN : ClassId) (fn : Nat → Option Nat) (awi : Nat) (an : Nat) (ar : Nat) (ae : Nat) (as : Nat) (ai : Nat) (ag : Nat) (ac : Nat) (au : Nat) (sz : Nat) (n0 : fn 0 = some an) : Met l yX10_nameIsThere v_c_nameIsThere_1 ({ frames := 1, cells := 0, slots := 0, locals := 21 }) (va_Pc [.ref x, .int 0, .int 4] (fun U => U.heap.size = sz ∧ va_P (dC, dI) vwCl [(x, .inr (11, [.ref nr, .ref st, .ref lf, .int 1, .int 0, .int 0, .int (-1), .int 0])), (nr, .inl (cN, 8, .inr (.inr (.inr (.inr fn))))), (an, .inr (5, [.int 0, .int 5, .int 10, .int 0, .int (nI awi), .ref ar, .ref ae, .ref as, .ref ai, .ref ag, .ref ac, .ref au, .int 0, .int 0, .int 10, .int (-1), .int 0, .int 0]))] U.heap ∧ va_K (dC, dI) vwCl [(cN, (.object RX4))] U ∧ va_D (fun _ => True) [(x, .inr (11, [.ref nr, .ref st, .ref lf, .int 1, .int 0, .int 0, .int (-1), .int 0])), (nr, .inl (cN, 8, .inr (.inr (.inr (.inr fn))))), (an, .inr (5, [.int 0, .int 5, .int 10, .int 0, .int (nI awi), .ref ar, .ref ae, .ref as, .ref ai, .ref ag, .ref ac, .ref au, .int 0, .int 0, .int 10, .int (-1), .int 0, .int 0]))] ∧ ev U)) (va_Qi (fun (r : Int32) (_ : Unit) => r = 0) (fun (_ : Unit) (_ : State) => True) (va_A [] sz)) 0 0 (va_A [] sz) := by
  refine Met.ofW (cc := cX10_nameIsThere) (maxL := 5) (ret := (some .boolean)) (by decide) rfl ?_
  intro p e s m args below meth c s₁ B hml hv
  obtain ⟨rfl, hsz, hP, hK, hD0, hE⟩ := hv
  have hx := B.exec
  have hb := B.bytes
  have hr := B.returns
  have hts := atoms_spec (ws := v_c_nameIsThere_1) B.pre
  have hown : s.vm.findClass RX10 = some m.cls := findClass_of_methodNamed B.named
  have hlocks := B.notSynchronized
  subst hsz
  have hD := hD0
  generalize hAe : va_A [] s.heap.size = A
  have hA : ∀ q : Nat, s.heap.size ≤ q → A q := fun q h => by rw [← hAe]; exact Or.inr h
  have hS : va_S A s.heap s.heap [] := va_S.rf
  replace hP : va_P (dC, dI) vwCl [(x, .inr (11, [.ref nr, .ref st, .ref lf, .int 1, .int 0, .int 0, .int (-1), .int 0])), (nr, .inl (cN, 8, .inr (.inr (.inr (.inr fn))))), (an, .inr (5, [.int 0, .int 5, .int 10, .int 0, .int (nI awi), .ref ar, .ref ae, .ref as, .ref ai, .ref ag, .ref ac, .ref au, .int 0, .int 0, .int 10, .int (-1), .int 0, .int 0]))] s.heap := hP
  have hl := lv_entry ([.ref x, .int 0, .int 4]) (n := 5) (Nat.le_of_ble_eq_true rfl)
  rw [lg_entry_eq]
  generalize (lg_sl ([.ref x, .int 0, .int 4]) ++ List.replicate (5 - (lg_sl ([.ref x, .int 0, .int 4])).length) Slot.unset).toArray = ls at hl ⊢
  replace hl : lv_has ls 5 [(0, .ref x), (1, .int 0), (2, .int 4)] := hl
  obtain ⟨H, hH⟩ : ∃ z : Heap, z = s.heap := ⟨_, rfl⟩
  rw [← hH]
  replace hS : va_S A s.heap H [] := by rw [hH]; exact va_S.rf
  replace hP : va_P (dC, dI) vwCl [(x, .inr (11, [.ref nr, .ref st, .ref lf, .int 1, .int 0, .int 0, .int (-1), .int 0])), (nr, .inl (cN, 8, .inr (.inr (.inr (.inr fn))))), (an, .inr (5, [.int 0, .int 5, .int 10, .int 0, .int (nI awi), .ref ar, .ref ae, .ref as, .ref ai, .ref ag, .ref ac, .ref au, .int 0, .int 0, .int 10, .int (-1), .int 0, .int 0]))] H := by rw [hH]; exact hP
  clear hH
  refine lv_iconst (v := 0) hx hb dX10_nameIsThere_0 (by decide) ?_
  refine lv_istore_n (lv' := [(3, .int 0), (0, .ref x), (1, .int 0), (2, .int 4)]) hx hb dX10_nameIsThere_1 rfl hl (by decide) rfl (fun ls hl => ?_)
  refine lv_iload_n hx hb dX10_nameIsThere_2 rfl (lv_at hl 0 rfl) ?_
  refine lv_aload_n hx hb dX10_nameIsThere_3 rfl (lv_at hl 1 rfl) ?_
  refine va_get (D := (dC, dI)) (ci := 11) (v := .int 1) (C := RX10) (T := TX10) (N := 8) hx hb hts in_c_nameIsThere_1_X10 hown hK hP 0 rfl rfl 3 (by decide) (hts (.fieldLink RX10 29 "ClaimBus" "nodeCount" "I") (List.mem_of_getElem? (i := 1) rfl)) (fun _ h9 => h9) rfl dX10_nameIsThere_4 ?_
  refine lv_icmp_ge (tgt := 48) hx hb dX10_nameIsThere_7 (by decide) (fun c_1 => ?_) (fun c_1 => ?_)
  · exact absurd c_1 (by decide)
  refine lv_aload_n hx hb dX10_nameIsThere_10 rfl (lv_at hl 1 rfl) ?_
  refine lv_iload_n hx hb dX10_nameIsThere_11 rfl (lv_at hl 0 rfl) ?_
  have hPc := hP.sub (ws' := [(x, .inr (11, [.ref nr, .ref st, .ref lf, .int 1, .int 0, .int 0, .int (-1), .int 0])), (nr, .inl (cN, 8, .inr (.inr (.inr (.inr fn)))))]) [0, 1] rfl
  have hDc := hD.sub (ws' := [(x, .inr (11, [.ref nr, .ref st, .ref lf, .int 1, .int 0, .int 0, .int (-1), .int 0])), (nr, .inl (cN, 8, .inr (.inr (.inr (.inr fn)))))]) [0, 1] (by decide +kernel) rfl
  have hKc := hK.sub (tys' := [(cN, (.object RX4))]) [0] rfl
  have hFc := ro_free hS hA
  refine va_callq (va_runV (As := [.int 0]) (rest := []) ⟨hx, hb, hml, hown, hts⟩ (c_find1_0 l dC dI (x) (nr) (st) (lf) (cN) (fn) (an) H.size n0) (cwV 1 hts g_c_nameIsThere_1_c_find1_0_53 rfl rfl rfl (by decide +kernel) ⟨Nat.le_of_ble_eq_true rfl, Nat.le_of_ble_eq_true rfl⟩) ⟨fun a U g mk q => by obtain ⟨q0, q1, qP, qK, qD, qE⟩ := q; exact ⟨q0, q1, qP, va_K.moved (u := U) (U := U.calling g mk a) (Vm.Alike.refl U.vm) qK, qD, ev.same (u := U) (U := U.calling g mk a) rfl qE⟩, va_recv hKc hPc (ci := 11) (q0 := 0) rfl rfl, fun U hU hW => ⟨rfl, by rw [hU], by rw [hU]; exact hPc, va_K.moved hW.alike hKc, hDc.weaken (fun _ _ _ _ => trivial), hE.warm hW⟩⟩ rfl rfl hl.1 rfl (lv_room (Nat.le_of_ble_eq_true rfl)) dX10_nameIsThere_12 ⟨Nat.le_of_ble_eq_true rfl, Nat.le_of_ble_eq_true rfl⟩) hS (fun q _ h => hFc q h) hFc (fun r_2 u t H1 locs ht hvm hw hB hz1 hk1 hS => ?_)
  clear hPc hDc hKc
  replace hP := ro_keep hP hk1
  generalize H1 = H at hP hS ⊢
  replace hP : va_P (dC, dI) vwCl [(x, .inr (11, [.ref nr, .ref st, .ref lf, .int 1, .int 0, .int 0, .int (-1), .int 0])), (nr, .inl (cN, 8, .inr (.inr (.inr (.inr fn))))), (an, .inr (5, [.int 0, .int 5, .int 10, .int 0, .int (nI awi), .ref ar, .ref ae, .ref as, .ref ai, .ref ag, .ref ac, .ref au, .int 0, .int 0, .int 10, .int (-1), .int 0, .int 0]))] H := hP
  have hw := hw.symm
  subst hw
  refine W.eq (g2 := F0 m 15 ls [.ref an]) rfl ?_
  refine lv_astore (lv' := [(4, .ref an), (3, .int 0), (0, .ref x), (1, .int 0), (2, .int 4)]) hx hb dX10_nameIsThere_15 hl (by decide) rfl (fun ls hl => ?_)
  refine lv_aload hx hb dX10_nameIsThere_17 (lv_at hl 0 rfl) ?_
  refine lv_ifnull hx hb dX10_nameIsThere_19 ?_
  refine lv_aload hx hb dX10_nameIsThere_22 (lv_at hl 0 rfl) ?_
  refine va_get (D := (dC, dI)) (ci := 5) (v := .int 0) (C := RX4) (T := TX4) (N := 18) hx hb hts in_c_nameIsThere_1_X4 hown hK hP 2 rfl rfl 0 (by decide) (hts (.fieldLink RX10 192 "ClaimBus$Node" "high" "I") (List.mem_of_getElem? (i := 6) rfl)) (fun _ h9 => h9) rfl dX10_nameIsThere_24 ?_
  refine lv_iload_n hx hb dX10_nameIsThere_27 rfl (lv_at hl 3 rfl) ?_
  refine lv_icmp_ne (tgt := 42) hx hb dX10_nameIsThere_28 (by decide) (fun c_3 => ?_) (fun c_3 => ?_)
  · exact absurd c_3 (by decide)
  refine lv_aload hx hb dX10_nameIsThere_31 (lv_at hl 0 rfl) ?_
  refine va_get (D := (dC, dI)) (ci := 5) (v := .int 5) (C := RX4) (T := TX4) (N := 18) hx hb hts in_c_nameIsThere_1_X4 hown hK hP 2 rfl rfl 1 (by decide) (hts (.fieldLink RX10 195 "ClaimBus$Node" "low" "I") (List.mem_of_getElem? (i := 7) rfl)) (fun _ h9 => h9) rfl dX10_nameIsThere_33 ?_
  refine lv_iload_n hx hb dX10_nameIsThere_36 rfl (lv_at hl 4 rfl) ?_
  refine lv_icmp_ne (tgt := 42) hx hb dX10_nameIsThere_37 (by decide) (fun c_4 => ?_) (fun c_4 => ?_)
  rotate_left
  · exact absurd c_4 (by decide)
  refine lv_iinc (v := 1) (lv' := [(3, .int 1), (4, .ref an), (0, .ref x), (1, .int 0), (2, .int 4)]) hx hb dX10_nameIsThere_42 hl (k := 1) rfl (by decide) (by decide) rfl (fun ls hl => ?_)
  refine lv_goto (tgt := 2) hx hb dX10_nameIsThere_45 (by decide) ?_
  refine lv_iload_n hx hb dX10_nameIsThere_2 rfl (lv_at hl 0 rfl) ?_
  refine lv_aload_n hx hb dX10_nameIsThere_3 rfl (lv_at hl 2 rfl) ?_
  refine va_get (D := (dC, dI)) (ci := 11) (v := .int 1) (C := RX10) (T := TX10) (N := 8) hx hb hts in_c_nameIsThere_1_X10 hown hK hP 0 rfl rfl 3 (by decide) (hts (.fieldLink RX10 29 "ClaimBus" "nodeCount" "I") (List.mem_of_getElem? (i := 1) rfl)) (fun _ h9 => h9) rfl dX10_nameIsThere_4 ?_
  refine lv_icmp_ge (tgt := 48) hx hb dX10_nameIsThere_7 (by decide) (fun c_5 => ?_) (fun c_5 => ?_)
  rotate_left
  · exact absurd (by decide) c_5
  refine lv_iconst (v := 0) hx hb dX10_nameIsThere_48 (by decide) ?_
  exact W.zret (v := 0) hx hb hr (by decide) (fun t ht hW => ⟨⟨0, (), rfl, rfl, trivial⟩, hS.F ht⟩) hS.2.2 dX10_nameIsThere_49

noncomputable def tl_c_node_a : List Cond := wsX100 ++ (wsX40 ++ (v_c_nameIsThere_0 ++ (v_c_X4_init_0)))
noncomputable def v_c_node_a : List Cond := .code yX10_node cX10_node 6 (some .int) :: ([.fieldLink RX10 29 "ClaimBus" "nodeCount" "I", .initialized RX10, .methodLink RX10 46 yX10_nameIsThere, .instanceMethod yX10_nameIsThere, .selects RX10 yX10_nameIsThere yX10_nameIsThere, .fieldLink RX10 11 "ClaimBus" "nodes" "[LClaimBus$Node;", .classLink RX10 9 RX4, .instantiable RX4 18, .initialized RX4, .fieldLink RX10 18 "ClaimBus" "store" "LClaimBus$Store;", .methodLink RX10 50 yX4_init, .instanceMethod yX4_init] ++ tl_c_node_a)
theorem it_c_node_a : ∀ w ∈ tl_c_node_a, w ∈ v_c_node_a := fun w h => List.mem_cons_of_mem _ (List.mem_append_right _ h)
theorem in_c_node_a_X10 : ∀ w ∈ wsX100, w ∈ v_c_node_a := fun w h => it_c_node_a w (List.mem_append_left _ h)
theorem in_c_node_a_X4 : ∀ w ∈ wsX40, w ∈ v_c_node_a := fun w h => it_c_node_a w (List.mem_append_right _ (List.mem_append_left _ h))
theorem ic_c_node_a_c_nameIsThere_0 : ∀ w ∈ v_c_nameIsThere_0, w ∈ v_c_node_a := fun w h => it_c_node_a w (List.mem_append_right _ (List.mem_append_right _ (List.mem_append_left _ h)))
theorem ic_c_node_a_c_X4_init_0 : ∀ w ∈ v_c_X4_init_0, w ∈ v_c_node_a := fun w h => it_c_node_a w (List.mem_append_right _ (List.mem_append_right _ (List.mem_append_right _ (h))))
theorem gt_c_node_a : ∀ w ∈ tl_c_node_a, goodWord w = true := List.forall_mem_append.mpr ⟨gw_wsX100, List.forall_mem_append.mpr ⟨gw_wsX40, List.forall_mem_append.mpr ⟨gw_c_nameIsThere_0, gw_c_X4_init_0⟩⟩⟩
theorem gw_c_node_a : ∀ w ∈ v_c_node_a, goodWord w = true := List.forall_mem_cons.mpr ⟨by decide +kernel, List.forall_mem_append.mpr ⟨List.all_eq_true.mp (by decide +kernel), gt_c_node_a⟩⟩
theorem g_c_node_a_c_nameIsThere_0_46 : GoodIn v_c_node_a (wsV RX10 46 RX10 yX10_nameIsThere v_c_nameIsThere_0) := goodIn_app (goodIn_r [.methodLink RX10 46 yX10_nameIsThere, .instanceMethod yX10_nameIsThere, .selects RX10 yX10_nameIsThere yX10_nameIsThere, .initialized RX10] [3, 4, 5, 2] (by decide +kernel) (by decide +kernel)) (fun w h => ⟨ic_c_node_a_c_nameIsThere_0 w h, good_of_word (gw_c_nameIsThere_0 w h)⟩)
theorem g_c_node_a_c_X4_init_0_50 : GoodIn v_c_node_a v_c_X4_init_0 := fun w h => ⟨ic_c_node_a_c_X4_init_0 w h, good_of_word (gw_c_X4_init_0 w h)⟩
set_option maxHeartbeats 4000000 in
set_option maxRecDepth 100000 in
theorem c_node_a (l : Launch) (dC : Nat → ClassId) (dI : Nat → Nat → Nat) (zt : Nat) (x : Nat) (nr : Nat) (st : Nat) (lf : Nat) (cN : ClassId) (fn : Nat → Option Nat) (awi : Nat) (sz : Nat) (n0 : fn 0 = none) (n1 : fn 1 = none) (hwia : 1 ≤ awi ∧ awi < 17) : Met l yX10_node v_c_node_a ({ frames := 5, cells := 12, slots := 401, locals := 99 }) (va_Pc [.ref x, .int 0, .int 5, .int 10, .int 0, .int (nI awi)] (fun U => U.heap.size = sz ∧ va_P (dC, dI) vwCl [(x, .inr (11, [.ref nr, .ref st, .ref lf, .int 0, .int 0, .int 0, .int (-1), .int 0])), (nr, .inl (cN, 8, .inr (.inr (.inr (.inr fn)))))] U.heap ∧ va_K (dC, dI) vwCl [(cN, (.object RX4))] U ∧ va_D (fun _ => True) [(x, .inr (11, [.ref nr, .ref st, .ref lf, .int 0, .int 0, .int 0, .int (-1), .int 0])), (nr, .inl (cN, 8, .inr (.inr (.inr (.inr fn)))))] ∧ ev U ∧ va_Z "java/util/ArrayList" "DEFAULTCAPACITY_EMPTY_ELEMENTDATA" "[Ljava/lang/Object;" (.ref zt) (va_A [(x, .inr (11, [.ref nr, .ref st, .ref lf, .int 0, .int 0, .int 0, .int (-1), .int 0])), (nr, .inl (cN, 8, .inr (.inr (.inr (.inr fn)))))] sz) U U.heap ∧ va_T (.object "java/lang/Object") zt 0 (fun _ => .null) (va_A [(x, .inr (11, [.ref nr, .ref st, .ref lf, .int 0, .int 0, .int 0, .int (-1), .int 0])), (nr, .inl (cN, 8, .inr (.inr (.inr (.inr fn)))))] sz) U U.heap)) (va_Qi (fun (r : Int32) (_ : Unit) => r = 0) (fun (_ : Unit) (t : State) => ∃ (an : Nat) (ar : Nat) (ae : Nat) (as : Nat) (ai : Nat) (ag : Nat) (ac : Nat) (au : Nat) (arf : Nat) (ata : Nat) (alg : Nat) (alt : Nat) (acI : ClassId) (acL : ClassId) (acT : ClassId) (afT : Nat → Int32) (afg : Nat → Option Nat) (fn2 : Nat → Option Nat), va_P (dC, dI) vwCl [(x, .inr (11, [.ref nr, .ref st, .ref lf, .int 1, .int 0, .int 0, .int (-1), .int 0])), (nr, .inl (cN, 8, .inr (.inr (.inr (.inr fn2))))), (an, .inr (5, [.int 0, .int 5, .int 10, .int 0, .int (nI awi), .ref ar, .ref ae, .ref as, .ref ai, .ref ag, .ref ac, .ref au, .int 0, .int 0, .int 10, .int (-1), .int 0, .int 0])), (ar, .inr (6, [.int 0, .int 5, .ref st, .null, .null, .int 0, .int 0, .int 0, .int 0, .int 0, .ref arf, .int 0])), (arf, .inr (2, [.int 0, .int 0, .int 0, .null])), (ae, .inr (9, [.ref ata])), (ata, .inl (acI, 8, .inl afT)), (as, .inr (7, [.int 0, .int 1, .int 0, .null])), (ai, .inr (3, [.int 0, .int 0, .ref alg, .ref alt])), (alg, .inl (acL, 80, .inl (fun _ => 0))), (ag, .inl (acT, 3, .inr (.inr (.inr (.inr afg))))), (ac, .inr (0, [.int 0, .ref zt, .int 0]))] t.heap ∧ va_K (dC, dI) vwCl [(cN, (.object RX4)), (acI, .int), (acL, .int), (acT, (.object RX9))] t ∧ va_D (va_A [(x, .inr (11, [.ref nr, .ref st, .ref lf, .int 0, .int 0, .int 0, .int (-1), .int 0])), (nr, .inl (cN, 8, .inr (.inr (.inr (.inr fn)))))] sz) [(x, .inr (11, [.ref nr, .ref st, .ref lf, .int 1, .int 0, .int 0, .int (-1), .int 0])), (nr, .inl (cN, 8, .inr (.inr (.inr (.inr fn2))))), (an, .inr (5, [.int 0, .int 5, .int 10, .int 0, .int (nI awi), .ref ar, .ref ae, .ref as, .ref ai, .ref ag, .ref ac, .ref au, .int 0, .int 0, .int 10, .int (-1), .int 0, .int 0])), (ar, .inr (6, [.int 0, .int 5, .ref st, .null, .null, .int 0, .int 0, .int 0, .int 0, .int 0, .ref arf, .int 0])), (arf, .inr (2, [.int 0, .int 0, .int 0, .null])), (ae, .inr (9, [.ref ata])), (ata, .inl (acI, 8, .inl afT)), (as, .inr (7, [.int 0, .int 1, .int 0, .null])), (ai, .inr (3, [.int 0, .int 0, .ref alg, .ref alt])), (alg, .inl (acL, 80, .inl (fun _ => 0))), (ag, .inl (acT, 3, .inr (.inr (.inr (.inr afg))))), (ac, .inr (0, [.int 0, .ref zt, .int 0]))] ∧ (afT 0 = (-1)) ∧ (afT 1 = (-1)) ∧ (afT 2 = (-1)) ∧ (afT 3 = (-1)) ∧ (afT 4 = (-1)) ∧ (afT 5 = (-1)) ∧ (afT 6 = (-1)) ∧ (afT 7 = (-1)) ∧ (afg 0 = none) ∧ (afg 1 = none) ∧ (afg 2 = none) ∧ (fn2 0 = some an) ∧ (fn2 1 = none)) (va_A [(x, .inr (11, [.ref nr, .ref st, .ref lf, .int 0, .int 0, .int 0, .int (-1), .int 0])), (nr, .inl (cN, 8, .inr (.inr (.inr (.inr fn)))))] sz)) 12 401 (va_A [(x, .inr (11, [.ref nr, .ref st, .ref lf, .int 0, .int 0, .int 0, .int (-1), .int 0])), (nr, .inl (cN, 8, .inr (.inr (.inr (.inr fn)))))] sz) := by
  refine Met.ofW (cc := cX10_node) (maxL := 6) (ret := (some .int)) (by decide) rfl ?_
  intro p e s m args below meth c s₁ B hml hv
  obtain ⟨rfl, hsz, hP, hK, hD0, hE, hZ, hTz⟩ := hv
  have hx := B.exec
  have hb := B.bytes
  have hr := B.returns
  have hts := atoms_spec (ws := v_c_node_a) B.pre
  have hown : s.vm.findClass RX10 = some m.cls := findClass_of_methodNamed B.named
  have hlocks := B.notSynchronized
  subst hsz
  have hD := hD0.self (sz := s.heap.size)
  generalize hAe : va_A [(x, .inr (11, [.ref nr, .ref st, .ref lf, .int 0, .int 0, .int 0, .int (-1), .int 0])), (nr, .inl (cN, 8, .inr (.inr (.inr (.inr fn)))))] s.heap.size = A at hD hZ hTz ⊢
  have hA : ∀ q : Nat, s.heap.size ≤ q → A q := fun q h => by rw [← hAe]; exact Or.inr h
  have hS : va_S A s.heap s.heap [] := va_S.rf
  replace hP : va_P (dC, dI) vwCl [(x, .inr (11, [.ref nr, .ref st, .ref lf, .int 0, .int 0, .int 0, .int (-1), .int 0])), (nr, .inl (cN, 8, .inr (.inr (.inr (.inr fn)))))] s.heap := hP
  have hl := lv_entry ([.ref x, .int 0, .int 5, .int 10, .int 0, .int (nI awi)]) (n := 6) (Nat.le_of_ble_eq_true rfl)
  rw [lg_entry_eq]
  generalize (lg_sl ([.ref x, .int 0, .int 5, .int 10, .int 0, .int (nI awi)]) ++ List.replicate (6 - (lg_sl ([.ref x, .int 0, .int 5, .int 10, .int 0, .int (nI awi)])).length) Slot.unset).toArray = ls at hl ⊢
  replace hl : lv_has ls 6 [(0, .ref x), (1, .int 0), (2, .int 5), (3, .int 10), (4, .int 0), (5, .int (nI awi))] := hl
  obtain ⟨H, hH⟩ : ∃ z : Heap, z = s.heap := ⟨_, rfl⟩
  rw [← hH]
  replace hS : va_S A s.heap H [] := by rw [hH]; exact va_S.rf
  replace hP : va_P (dC, dI) vwCl [(x, .inr (11, [.ref nr, .ref st, .ref lf, .int 0, .int 0, .int 0, .int (-1), .int 0])), (nr, .inl (cN, 8, .inr (.inr (.inr (.inr fn)))))] H := by rw [hH]; exact hP
  clear hH
  refine lv_iload_n hx hb dX10_node_0 rfl (lv_at hl 3 rfl) ?_
  refine lv_if_lt (tgt := 24) hx hb dX10_node_1 (by decide) (fun c_1 => ?_) (fun c_1 => ?_)
  · exact absurd c_1 (by decide)
  refine lv_iload_n hx hb dX10_node_4 rfl (lv_at hl 3 rfl) ?_
  refine lv_sipush (v := 247) hx hb dX10_node_5 (by decide) ?_
  refine lv_icmp_gt (tgt := 24) hx hb dX10_node_8 (by decide) (fun c_2 => ?_) (fun c_2 => ?_)
  · exact absurd c_2 (by decide)
  refine lv_iload hx hb dX10_node_11 (lv_at hl 5 rfl) ?_
  refine lv_iconst (v := 1) hx hb dX10_node_13 (by decide) ?_
  refine lv_icmp_lt (tgt := 24) hx hb dX10_node_14 (by decide) (fun c_3 => ?_) (fun c_3 => ?_)
  · exact absurd ((nI_ltI (a := awi) (b := 1) (by omega) (by omega)).mp c_3) (by omega)
  refine lv_iload hx hb dX10_node_17 (lv_at hl 5 rfl) ?_
  refine lv_bipush (v := 16) hx hb dX10_node_19 (by decide) ?_
  refine lv_icmp_le (tgt := 26) hx hb dX10_node_21 (by decide) (fun c_4 => ?_) (fun c_4 => ?_)
  rotate_left
  · exact absurd ((nI_leI (a := awi) (b := 16) (by omega) (by omega)).mpr (by omega)) c_4
  refine lv_aload_n hx hb dX10_node_26 rfl (lv_at hl 0 rfl) ?_
  refine va_get (D := (dC, dI)) (ci := 11) (v := .int 0) (C := RX10) (T := TX10) (N := 8) hx hb hts in_c_node_a_X10 hown hK hP 0 rfl rfl 3 (by decide) (hts (.fieldLink RX10 29 "ClaimBus" "nodeCount" "I") (List.mem_of_getElem? (i := 1) rfl)) (fun _ h9 => h9) rfl dX10_node_27 ?_
  refine lv_bipush (v := 8) hx hb dX10_node_30 (by decide) ?_
  refine lv_icmp_ge (tgt := 44) hx hb dX10_node_32 (by decide) (fun c_5 => ?_) (fun c_5 => ?_)
  · exact absurd c_5 (by decide)
  refine lv_aload_n hx hb dX10_node_35 rfl (lv_at hl 0 rfl) ?_
  refine lv_iload_n hx hb dX10_node_36 rfl (lv_at hl 1 rfl) ?_
  refine lv_iload_n hx hb dX10_node_37 rfl (lv_at hl 2 rfl) ?_
  have hPc := hP.sub (ws' := [(x, .inr (11, [.ref nr, .ref st, .ref lf, .int 0, .int 0, .int 0, .int (-1), .int 0]))]) [0] rfl
  have hDc := hD.sub (ws' := [(x, .inr (11, [.ref nr, .ref st, .ref lf, .int 0, .int 0, .int 0, .int (-1), .int 0]))]) [0] (by decide +kernel) rfl
  have hKc := hK.sub (tys' := []) [] rfl
  have hFc := ro_free hS hA
  refine va_calli (va_runV (As := [.int 0, .int 5]) (rest := []) ⟨hx, hb, hml, hown, hts⟩ (c_nameIsThere_0 l dC dI (x) (nr) (st) (lf) (0) (5) H.size) (cwV 2 hts g_c_node_a_c_nameIsThere_0_46 rfl rfl rfl (by decide +kernel) ⟨Nat.le_of_ble_eq_true rfl, Nat.le_of_ble_eq_true rfl⟩) ⟨fun a U g mk q => by obtain ⟨q0, q1, qP, qK, qD, qE⟩ := q; exact ⟨q0, q1, qP, va_K.moved (u := U) (U := U.calling g mk a) (Vm.Alike.refl U.vm) qK, qD, ev.same (u := U) (U := U.calling g mk a) rfl qE⟩, va_recv hKc hPc (ci := 11) (q0 := 0) rfl rfl, fun U hU hW => ⟨rfl, by rw [hU], by rw [hU]; exact hPc, va_K.moved hW.alike hKc, hDc.weaken (fun _ _ _ _ => trivial), hE.warm hW⟩⟩ rfl rfl hl.1 rfl (lv_room (Nat.le_of_ble_eq_true rfl)) dX10_node_38 ⟨Nat.le_of_ble_eq_true rfl, Nat.le_of_ble_eq_true rfl⟩) hS (fun q _ h => hFc q h) hFc (fun r_6 u t H1 locs ht hvm hw hB hz1 hk1 hS => ?_)
  clear hPc hDc hKc
  replace hP := ro_keep hP hk1
  generalize H1 = H at hP hS ⊢
  replace hP : va_P (dC, dI) vwCl [(x, .inr (11, [.ref nr, .ref st, .ref lf, .int 0, .int 0, .int 0, .int (-1), .int 0])), (nr, .inl (cN, 8, .inr (.inr (.inr (.inr fn)))))] H := hP
  have hw := hw.symm
  subst hw
  refine lv_if_eq (tgt := 46) hx hb dX10_node_41 (by decide) (fun c_7 => ?_) (fun c_7 => ?_)
  rotate_left
  · exact absurd (by decide) c_7
  refine lv_aload_n hx hb dX10_node_46 rfl (lv_at hl 0 rfl) ?_
  refine va_get (D := (dC, dI)) (ci := 11) (v := .ref nr) (C := RX10) (T := TX10) (N := 8) hx hb hts in_c_node_a_X10 hown hK hP 0 rfl rfl 0 (by decide) (hts (.fieldLink RX10 11 "ClaimBus" "nodes" "[LClaimBus$Node;") (List.mem_of_getElem? (i := 6) rfl)) (fun _ h9 => h9) rfl dX10_node_47 ?_
  refine lv_aload_n hx hb dX10_node_50 rfl (lv_at hl 0 rfl) ?_
  refine va_get (D := (dC, dI)) (ci := 11) (v := .int 0) (C := RX10) (T := TX10) (N := 8) hx hb hts in_c_node_a_X10 hown hK hP 0 rfl rfl 3 (by decide) (hts (.fieldLink RX10 29 "ClaimBus" "nodeCount" "I") (List.mem_of_getElem? (i := 1) rfl)) (fun _ h9 => h9) rfl dX10_node_51 ?_
  refine va_new (ci := 5) (fs := [.int 0, .int 0, .int 0, .int 0, .int 0, .null, .null, .null, .null, .null, .null, .null, .int 0, .int 0, .int 0, .int 0, .int 0, .int 0]) (C := RX4) (T := TX4) (N := 18) hx hb hts in_c_node_a_X4 tyX4 tyX4_ok hown (hts (.classLink RX10 9 RX4) (List.mem_of_getElem? (i := 7) rfl)) (hts (.instantiable RX4 18) (List.mem_of_getElem? (i := 8) rfl)) (hts (.initialized RX4) (List.mem_of_getElem? (i := 9) rfl)) hK hP hD hS hA rfl df_X4 (Nat.le_of_ble_eq_true rfl) (Nat.le_of_ble_eq_true rfl) dX10_node_54 (fun q8 H hP hD hS => ?_)
  replace hP : va_P (dC, dI) vwCl [(x, .inr (11, [.ref nr, .ref st, .ref lf, .int 0, .int 0, .int 0, .int (-1), .int 0])), (nr, .inl (cN, 8, .inr (.inr (.inr (.inr fn))))), (q8, .inr (5, [.int 0, .int 0, .int 0, .int 0, .int 0, .null, .null, .null, .null, .null, .null, .null, .int 0, .int 0, .int 0, .int 0, .int 0, .int 0]))] H := hP
  replace hD : va_D A [(x, .inr (11, [.ref nr, .ref st, .ref lf, .int 0, .int 0, .int 0, .int (-1), .int 0])), (nr, .inl (cN, 8, .inr (.inr (.inr (.inr fn))))), (q8, .inr (5, [.int 0, .int 0, .int 0, .int 0, .int 0, .null, .null, .null, .null, .null, .null, .null, .int 0, .int 0, .int 0, .int 0, .int 0, .int 0]))] := hD
  refine W.widen (k := 1) (n := 18) (Nat.le_of_ble_eq_true rfl) (Nat.le_of_ble_eq_true rfl) ?_
  refine lv_dup hx hb dX10_node_57 rfl ?_
  refine lv_iload_n hx hb dX10_node_58 rfl (lv_at hl 1 rfl) ?_
  refine lv_iload_n hx hb dX10_node_59 rfl (lv_at hl 2 rfl) ?_
  refine lv_iload_n hx hb dX10_node_60 rfl (lv_at hl 3 rfl) ?_
  refine lv_iload hx hb dX10_node_61 (lv_at hl 4 rfl) ?_
  refine lv_iload hx hb dX10_node_63 (lv_at hl 5 rfl) ?_
  refine lv_aload_n hx hb dX10_node_65 rfl (lv_at hl 0 rfl) ?_
  refine va_get (D := (dC, dI)) (ci := 11) (v := .ref st) (C := RX10) (T := TX10) (N := 8) hx hb hts in_c_node_a_X10 hown hK hP 0 rfl rfl 1 (by decide) (hts (.fieldLink RX10 18 "ClaimBus" "store" "LClaimBus$Store;") (List.mem_of_getElem? (i := 10) rfl)) (fun _ h9 => h9) rfl dX10_node_66 ?_
  have hPc := hP.sub (ws' := [(q8, .inr (5, [.int 0, .int 0, .int 0, .int 0, .int 0, .null, .null, .null, .null, .null, .null, .null, .int 0, .int 0, .int 0, .int 0, .int 0, .int 0]))]) [2] rfl
  have hDc := hD.sub (ws' := [(q8, .inr (5, [.int 0, .int 0, .int 0, .int 0, .int 0, .null, .null, .null, .null, .null, .null, .null, .int 0, .int 0, .int 0, .int 0, .int 0, .int 0]))]) [2] (by decide +kernel) rfl
  have hKc := hK.sub (tys' := []) [] rfl
  have hFc := va_free (wc := [(q8, .inr (5, [.int 0, .int 0, .int 0, .int 0, .int 0, .null, .null, .null, .null, .null, .null, .null, .int 0, .int 0, .int 0, .int 0, .int 0, .int 0]))]) hD hS hA [2] rfl
  have hZc := (hZ.kept hS.2.1).narrow (fun q h => hFc q h)
  have hTc := (hTz.kept hS.2.1).narrow (fun q h => hFc q h)
  refine va_callv (va_runI (As := [.int 0, .int 5, .int 10, .int 0, .int (nI awi), .ref st]) (rest := [.ref q8, .int 0, .ref nr]) ⟨hx, hb, hml, hown, hts⟩ (c_X4_init_0 l dC dI (zt) (q8) (0) (5) (10) (awi) (st) H.size) (cwI 6 hts g_c_node_a_c_X4_init_0_50 rfl rfl rfl (hts (.initialized RX4) (List.mem_of_getElem? (i := 9) rfl)) (hts (.methodLink RX10 50 yX4_init) (List.mem_of_getElem? (i := 11) rfl)) (hts (.instanceMethod yX4_init) (List.mem_of_getElem? (i := 12) rfl)) rfl (by decide +kernel) ⟨Nat.le_of_ble_eq_true rfl, Nat.le_of_ble_eq_true rfl⟩) ⟨fun a U g mk q => by obtain ⟨q0, q1, qP, qK, qD, qE, qZ, qT⟩ := q; exact ⟨q0, q1, qP, va_K.moved (u := U) (U := U.calling g mk a) (Vm.Alike.refl U.vm) qK, qD, ev.same (u := U) (U := U.calling g mk a) rfl qE, va_Z.moved (u := U) (U := U.calling g mk a) (Vm.Alike.refl U.vm) qZ, va_T.moved (u := U) (U := U.calling g mk a) (Vm.Alike.refl U.vm) qT⟩, fun U hU hW => ⟨rfl, by rw [hU], by rw [hU]; exact hPc, va_K.moved hW.alike hKc, hDc.weaken (fun _ _ _ _ => trivial), hE.warm hW, by rw [hU]; exact hZc.moved hW.alike, by rw [hU]; exact hTc.moved hW.alike⟩⟩ rfl rfl hl.1 rfl (lv_room (Nat.le_of_ble_eq_true rfl)) dX10_node_69 ⟨Nat.le_of_ble_eq_true rfl, Nat.le_of_ble_eq_true rfl⟩) hS (fun q _ h => hFc q h) hFc (fun u t H1 locs ht hvm hw hB hz1 hk1 hS => ?_)
  clear hPc hDc hKc
  obtain ⟨r_9, nt_9, ns_9, ib_9, gs_9, cs_9, nu_9, rf_9, ta_9, lg_9, lt_9, cI_9, cL_9, cT_9, fT2_9, fg_9, hP1, hK1, hD1, t0__9, t1__9, t2__9, t3__9, t4__9, t5__9, t6__9, t7__9, g0_9, g1_9, g2_9⟩ := hB
  rw [ht] at hP1
  have hK1 := va_K.moved hvm.symm hK1
  obtain ⟨hP, hD⟩ := va_join (wr := [(x, .inr (11, [.ref nr, .ref st, .ref lf, .int 0, .int 0, .int 0, .int (-1), .int 0])), (nr, .inl (cN, 8, .inr (.inr (.inr (.inr fn)))))]) (w1 := [(q8, .inr (5, [.int 0, .int 5, .int (nI 10), .int 0, .int (nI awi), .ref r_9, .ref nt_9, .ref ns_9, .ref ib_9, .ref gs_9, .ref cs_9, .ref nu_9, .int 0, .int 0, .int (nI 10), .int (-1), .int 0, .int 0])), (r_9, .inr (6, [.int 0, .int 5, .ref st, .null, .null, .int 0, .int 0, .int 0, .int 0, .int 0, .ref rf_9, .int 0])), (rf_9, .inr (2, [.int 0, .int 0, .int 0, .null])), (nt_9, .inr (9, [.ref ta_9])), (ta_9, .inl (cI_9, 8, .inl fT2_9)), (ns_9, .inr (7, [.int 0, .int 1, .int 0, .null])), (ib_9, .inr (3, [.int 0, .int 0, .ref lg_9, .ref lt_9])), (lg_9, .inl (cL_9, 80, .inl (fun _ => 0))), (gs_9, .inl (cT_9, 3, .inr (.inr (.inr (.inr fg_9))))), (cs_9, .inr (0, [.int 0, .ref zt, .int 0]))]) hP hD [2] [0, 1] rfl rfl (by decide +kernel) (by decide +kernel) hk1 hFc hP1 hD1
  replace hK := hK.app hK1
  replace hK : va_K (dC, dI) vwCl [(cN, (.object RX4)), (cI_9, .int), (cL_9, .int), (cT_9, (.object RX9))] s := hK
  generalize H1 = H at hP hS ⊢
  replace hP : va_P (dC, dI) vwCl [(x, .inr (11, [.ref nr, .ref st, .ref lf, .int 0, .int 0, .int 0, .int (-1), .int 0])), (nr, .inl (cN, 8, .inr (.inr (.inr (.inr fn))))), (q8, .inr (5, [.int 0, .int 5, .int (nI 10), .int 0, .int (nI awi), .ref r_9, .ref nt_9, .ref ns_9, .ref ib_9, .ref gs_9, .ref cs_9, .ref nu_9, .int 0, .int 0, .int (nI 10), .int (-1), .int 0, .int 0])), (r_9, .inr (6, [.int 0, .int 5, .ref st, .null, .null, .int 0, .int 0, .int 0, .int 0, .int 0, .ref rf_9, .int 0])), (rf_9, .inr (2, [.int 0, .int 0, .int 0, .null])), (nt_9, .inr (9, [.ref ta_9])), (ta_9, .inl (cI_9, 8, .inl fT2_9)), (ns_9, .inr (7, [.int 0, .int 1, .int 0, .null])), (ib_9, .inr (3, [.int 0, .int 0, .ref lg_9, .ref lt_9])), (lg_9, .inl (cL_9, 80, .inl (fun _ => 0))), (gs_9, .inl (cT_9, 3, .inr (.inr (.inr (.inr fg_9))))), (cs_9, .inr (0, [.int 0, .ref zt, .int 0]))] H := hP
  replace hD : va_D A [(x, .inr (11, [.ref nr, .ref st, .ref lf, .int 0, .int 0, .int 0, .int (-1), .int 0])), (nr, .inl (cN, 8, .inr (.inr (.inr (.inr fn))))), (q8, .inr (5, [.int 0, .int 5, .int (nI 10), .int 0, .int (nI awi), .ref r_9, .ref nt_9, .ref ns_9, .ref ib_9, .ref gs_9, .ref cs_9, .ref nu_9, .int 0, .int 0, .int (nI 10), .int (-1), .int 0, .int 0])), (r_9, .inr (6, [.int 0, .int 5, .ref st, .null, .null, .int 0, .int 0, .int 0, .int 0, .int 0, .ref rf_9, .int 0])), (rf_9, .inr (2, [.int 0, .int 0, .int 0, .null])), (nt_9, .inr (9, [.ref ta_9])), (ta_9, .inl (cI_9, 8, .inl fT2_9)), (ns_9, .inr (7, [.int 0, .int 1, .int 0, .null])), (ib_9, .inr (3, [.int 0, .int 0, .ref lg_9, .ref lt_9])), (lg_9, .inl (cL_9, 80, .inl (fun _ => 0))), (gs_9, .inl (cT_9, 3, .inr (.inr (.inr (.inr fg_9))))), (cs_9, .inr (0, [.int 0, .ref zt, .int 0]))] := hD
  rw [show ((nI 10) : Int32) = 10 from (congrArg nI (show 10 = 10 from by omega)).trans (by decide)] at hP hD
  replace hP : va_P (dC, dI) vwCl [(x, .inr (11, [.ref nr, .ref st, .ref lf, .int 0, .int 0, .int 0, .int (-1), .int 0])), (nr, .inl (cN, 8, .inr (.inr (.inr (.inr fn))))), (q8, .inr (5, [.int 0, .int 5, .int 10, .int 0, .int (nI awi), .ref r_9, .ref nt_9, .ref ns_9, .ref ib_9, .ref gs_9, .ref cs_9, .ref nu_9, .int 0, .int 0, .int 10, .int (-1), .int 0, .int 0])), (r_9, .inr (6, [.int 0, .int 5, .ref st, .null, .null, .int 0, .int 0, .int 0, .int 0, .int 0, .ref rf_9, .int 0])), (rf_9, .inr (2, [.int 0, .int 0, .int 0, .null])), (nt_9, .inr (9, [.ref ta_9])), (ta_9, .inl (cI_9, 8, .inl fT2_9)), (ns_9, .inr (7, [.int 0, .int 1, .int 0, .null])), (ib_9, .inr (3, [.int 0, .int 0, .ref lg_9, .ref lt_9])), (lg_9, .inl (cL_9, 80, .inl (fun _ => 0))), (gs_9, .inl (cT_9, 3, .inr (.inr (.inr (.inr fg_9))))), (cs_9, .inr (0, [.int 0, .ref zt, .int 0]))] H := hP
  replace hD : va_D A [(x, .inr (11, [.ref nr, .ref st, .ref lf, .int 0, .int 0, .int 0, .int (-1), .int 0])), (nr, .inl (cN, 8, .inr (.inr (.inr (.inr fn))))), (q8, .inr (5, [.int 0, .int 5, .int 10, .int 0, .int (nI awi), .ref r_9, .ref nt_9, .ref ns_9, .ref ib_9, .ref gs_9, .ref cs_9, .ref nu_9, .int 0, .int 0, .int 10, .int (-1), .int 0, .int 0])), (r_9, .inr (6, [.int 0, .int 5, .ref st, .null, .null, .int 0, .int 0, .int 0, .int 0, .int 0, .ref rf_9, .int 0])), (rf_9, .inr (2, [.int 0, .int 0, .int 0, .null])), (nt_9, .inr (9, [.ref ta_9])), (ta_9, .inl (cI_9, 8, .inl fT2_9)), (ns_9, .inr (7, [.int 0, .int 1, .int 0, .null])), (ib_9, .inr (3, [.int 0, .int 0, .ref lg_9, .ref lt_9])), (lg_9, .inl (cL_9, 80, .inl (fun _ => 0))), (gs_9, .inl (cT_9, 3, .inr (.inr (.inr (.inr fg_9))))), (cs_9, .inr (0, [.int 0, .ref zt, .int 0]))] := hD
  refine W.widen (k := 12) (n := 401) (Nat.le_of_ble_eq_true rfl) (Nat.le_of_ble_eq_true rfl) ?_
  clear hw
  refine va_astq hx hb hK hP hD hS 1 0 2 5 rfl rfl rfl rfl (vp_in_nI (n := 0) (by omega) (by omega)) dX10_node_72 (fun H locs hP hD hS => ?_)
  obtain ⟨f_10, ef_10⟩ : ∃ z : Nat → Option Nat, z = va_up fn 0 (some q8) := ⟨_, rfl⟩
  rw [(show Int32.toNatClampNeg (0 : Int32) = 0 by decide)] at hP hD
  replace hP : va_P (dC, dI) vwCl [(x, .inr (11, [.ref nr, .ref st, .ref lf, .int 0, .int 0, .int 0, .int (-1), .int 0])), (nr, .inl (cN, 8, .inr (.inr (.inr (.inr f_10))))), (q8, .inr (5, [.int 0, .int 5, .int 10, .int 0, .int (nI awi), .ref r_9, .ref nt_9, .ref ns_9, .ref ib_9, .ref gs_9, .ref cs_9, .ref nu_9, .int 0, .int 0, .int 10, .int (-1), .int 0, .int 0])), (r_9, .inr (6, [.int 0, .int 5, .ref st, .null, .null, .int 0, .int 0, .int 0, .int 0, .int 0, .ref rf_9, .int 0])), (rf_9, .inr (2, [.int 0, .int 0, .int 0, .null])), (nt_9, .inr (9, [.ref ta_9])), (ta_9, .inl (cI_9, 8, .inl fT2_9)), (ns_9, .inr (7, [.int 0, .int 1, .int 0, .null])), (ib_9, .inr (3, [.int 0, .int 0, .ref lg_9, .ref lt_9])), (lg_9, .inl (cL_9, 80, .inl (fun _ => 0))), (gs_9, .inl (cT_9, 3, .inr (.inr (.inr (.inr fg_9))))), (cs_9, .inr (0, [.int 0, .ref zt, .int 0]))] H := by rw [ef_10]; exact hP
  replace hD : va_D A [(x, .inr (11, [.ref nr, .ref st, .ref lf, .int 0, .int 0, .int 0, .int (-1), .int 0])), (nr, .inl (cN, 8, .inr (.inr (.inr (.inr f_10))))), (q8, .inr (5, [.int 0, .int 5, .int 10, .int 0, .int (nI awi), .ref r_9, .ref nt_9, .ref ns_9, .ref ib_9, .ref gs_9, .ref cs_9, .ref nu_9, .int 0, .int 0, .int 10, .int (-1), .int 0, .int 0])), (r_9, .inr (6, [.int 0, .int 5, .ref st, .null, .null, .int 0, .int 0, .int 0, .int 0, .int 0, .ref rf_9, .int 0])), (rf_9, .inr (2, [.int 0, .int 0, .int 0, .null])), (nt_9, .inr (9, [.ref ta_9])), (ta_9, .inl (cI_9, 8, .inl fT2_9)), (ns_9, .inr (7, [.int 0, .int 1, .int 0, .null])), (ib_9, .inr (3, [.int 0, .int 0, .ref lg_9, .ref lt_9])), (lg_9, .inl (cL_9, 80, .inl (fun _ => 0))), (gs_9, .inl (cT_9, 3, .inr (.inr (.inr (.inr fg_9))))), (cs_9, .inr (0, [.int 0, .ref zt, .int 0]))] := by rw [ef_10]; exact hD
  have g10_n : f_10 0 = some q8 := by rw [ef_10]; exact if_pos rfl
  have g10_1 : f_10 1 = none := by rw [ef_10]; exact (if_neg (by omega)).trans n1
  refine lv_aload_n hx hb dX10_node_73 rfl (lv_at hl 0 rfl) ?_
  refine lv_dup hx hb dX10_node_74 rfl ?_
  refine va_get (D := (dC, dI)) (ci := 11) (v := .int 0) (C := RX10) (T := TX10) (N := 8) hx hb hts in_c_node_a_X10 hown hK hP 0 rfl rfl 3 (by decide) (hts (.fieldLink RX10 29 "ClaimBus" "nodeCount" "I") (List.mem_of_getElem? (i := 1) rfl)) (fun _ h9 => h9) rfl dX10_node_75 ?_
  refine lv_iconst (v := 1) hx hb dX10_node_78 (by decide) ?_
  refine lv_iadd hx hb dX10_node_79 ?_
  refine lv_topi (fun x_11 ex_11 => ?_)
  obtain rfl : x_11 = 1 := ex_11.trans (by decide)
  refine va_put (D := (dC, dI)) (ci := 11) (v := .int 1) (ty := .int) (C := RX10) (T := TX10) (N := 8) hx hb hts in_c_node_a_X10 tyX10 tyX10_ok nmX10 hown hK hP hD hS 0 rfl rfl 3 (by decide) (hts (.fieldLink RX10 29 "ClaimBus" "nodeCount" "I") (List.mem_of_getElem? (i := 1) rfl)) (fun _ h9 => h9) rfl (by decide +kernel) rfl rfl (Nat.le_of_ble_eq_true rfl) dX10_node_80 (fun H locs hP hD hS => ?_)
  replace hP : va_P (dC, dI) vwCl [(x, .inr (11, [.ref nr, .ref st, .ref lf, .int 1, .int 0, .int 0, .int (-1), .int 0])), (nr, .inl (cN, 8, .inr (.inr (.inr (.inr f_10))))), (q8, .inr (5, [.int 0, .int 5, .int 10, .int 0, .int (nI awi), .ref r_9, .ref nt_9, .ref ns_9, .ref ib_9, .ref gs_9, .ref cs_9, .ref nu_9, .int 0, .int 0, .int 10, .int (-1), .int 0, .int 0])), (r_9, .inr (6, [.int 0, .int 5, .ref st, .null, .null, .int 0, .int 0, .int 0, .int 0, .int 0, .ref rf_9, .int 0])), (rf_9, .inr (2, [.int 0, .int 0, .int 0, .null])), (nt_9, .inr (9, [.ref ta_9])), (ta_9, .inl (cI_9, 8, .inl fT2_9)), (ns_9, .inr (7, [.int 0, .int 1, .int 0, .null])), (ib_9, .inr (3, [.int 0, .int 0, .ref lg_9, .ref lt_9])), (lg_9, .inl (cL_9, 80, .inl (fun _ => 0))), (gs_9, .inl (cT_9, 3, .inr (.inr (.inr (.inr fg_9))))), (cs_9, .inr (0, [.int 0, .ref zt, .int 0]))] H := hP
  replace hD : va_D A [(x, .inr (11, [.ref nr, .ref st, .ref lf, .int 1, .int 0, .int 0, .int (-1), .int 0])), (nr, .inl (cN, 8, .inr (.inr (.inr (.inr f_10))))), (q8, .inr (5, [.int 0, .int 5, .int 10, .int 0, .int (nI awi), .ref r_9, .ref nt_9, .ref ns_9, .ref ib_9, .ref gs_9, .ref cs_9, .ref nu_9, .int 0, .int 0, .int 10, .int (-1), .int 0, .int 0])), (r_9, .inr (6, [.int 0, .int 5, .ref st, .null, .null, .int 0, .int 0, .int 0, .int 0, .int 0, .ref rf_9, .int 0])), (rf_9, .inr (2, [.int 0, .int 0, .int 0, .null])), (nt_9, .inr (9, [.ref ta_9])), (ta_9, .inl (cI_9, 8, .inl fT2_9)), (ns_9, .inr (7, [.int 0, .int 1, .int 0, .null])), (ib_9, .inr (3, [.int 0, .int 0, .ref lg_9, .ref lt_9])), (lg_9, .inl (cL_9, 80, .inl (fun _ => 0))), (gs_9, .inl (cT_9, 3, .inr (.inr (.inr (.inr fg_9))))), (cs_9, .inr (0, [.int 0, .ref zt, .int 0]))] := hD
  refine lv_aload_n hx hb dX10_node_83 rfl (lv_at hl 0 rfl) ?_
  refine va_get (D := (dC, dI)) (ci := 11) (v := .int 1) (C := RX10) (T := TX10) (N := 8) hx hb hts in_c_node_a_X10 hown hK hP 0 rfl rfl 3 (by decide) (hts (.fieldLink RX10 29 "ClaimBus" "nodeCount" "I") (List.mem_of_getElem? (i := 1) rfl)) (fun _ h9 => h9) rfl dX10_node_84 ?_
  refine lv_iconst (v := 1) hx hb dX10_node_87 (by decide) ?_
  refine lv_isub hx hb dX10_node_88 ?_
  refine lv_topi (fun x_12 ex_12 => ?_)
  obtain rfl : x_12 = 0 := ex_12.trans (by decide)
  have hP9 := hP.sub (ws' := [(x, .inr (11, [.ref nr, .ref st, .ref lf, .int 1, .int 0, .int 0, .int (-1), .int 0])), (nr, .inl (cN, 8, .inr (.inr (.inr (.inr f_10))))), (q8, .inr (5, [.int 0, .int 5, .int 10, .int 0, .int (nI awi), .ref r_9, .ref nt_9, .ref ns_9, .ref ib_9, .ref gs_9, .ref cs_9, .ref nu_9, .int 0, .int 0, .int 10, .int (-1), .int 0, .int 0])), (r_9, .inr (6, [.int 0, .int 5, .ref st, .null, .null, .int 0, .int 0, .int 0, .int 0, .int 0, .ref rf_9, .int 0])), (rf_9, .inr (2, [.int 0, .int 0, .int 0, .null])), (nt_9, .inr (9, [.ref ta_9])), (ta_9, .inl (cI_9, 8, .inl fT2_9)), (ns_9, .inr (7, [.int 0, .int 1, .int 0, .null])), (ib_9, .inr (3, [.int 0, .int 0, .ref lg_9, .ref lt_9])), (lg_9, .inl (cL_9, 80, .inl (fun _ => 0))), (gs_9, .inl (cT_9, 3, .inr (.inr (.inr (.inr fg_9))))), (cs_9, .inr (0, [.int 0, .ref zt, .int 0]))]) [0, 1, 2, 3, 4, 5, 6, 7, 8, 9, 10, 11] rfl
  have hD9 := hD.sub (ws' := [(x, .inr (11, [.ref nr, .ref st, .ref lf, .int 1, .int 0, .int 0, .int (-1), .int 0])), (nr, .inl (cN, 8, .inr (.inr (.inr (.inr f_10))))), (q8, .inr (5, [.int 0, .int 5, .int 10, .int 0, .int (nI awi), .ref r_9, .ref nt_9, .ref ns_9, .ref ib_9, .ref gs_9, .ref cs_9, .ref nu_9, .int 0, .int 0, .int 10, .int (-1), .int 0, .int 0])), (r_9, .inr (6, [.int 0, .int 5, .ref st, .null, .null, .int 0, .int 0, .int 0, .int 0, .int 0, .ref rf_9, .int 0])), (rf_9, .inr (2, [.int 0, .int 0, .int 0, .null])), (nt_9, .inr (9, [.ref ta_9])), (ta_9, .inl (cI_9, 8, .inl fT2_9)), (ns_9, .inr (7, [.int 0, .int 1, .int 0, .null])), (ib_9, .inr (3, [.int 0, .int 0, .ref lg_9, .ref lt_9])), (lg_9, .inl (cL_9, 80, .inl (fun _ => 0))), (gs_9, .inl (cT_9, 3, .inr (.inr (.inr (.inr fg_9))))), (cs_9, .inr (0, [.int 0, .ref zt, .int 0]))]) [0, 1, 2, 3, 4, 5, 6, 7, 8, 9, 10, 11] (by decide +kernel) rfl
  have hK9 := hK.sub (tys' := [(cN, (.object RX4)), (cI_9, .int), (cL_9, .int), (cT_9, (.object RX9))]) [0, 1, 2, 3] rfl
  exact W.iret (v := 0) hx hb hr (fun t ht hW => ⟨⟨0, (), rfl, rfl, ⟨q8, r_9, nt_9, ns_9, ib_9, gs_9, cs_9, nu_9, rf_9, ta_9, lg_9, lt_9, cI_9, cL_9, cT_9, fT2_9, fg_9, f_10, by rw [ht]; exact hP9, va_K.moved hW.alike hK9, hD9, t0__9, t1__9, t2__9, t3__9, t4__9, t5__9, t6__9, t7__9, g0_9, g1_9, g2_9, g10_n, g10_1⟩⟩, hS.F ht⟩) hS.2.2 dX10_node_89

noncomputable def tl_c_node_b : List Cond := wsX100 ++ (wsX40 ++ (v_c_nameIsThere_1 ++ (v_c_X4_init_1)))
noncomputable def v_c_node_b : List Cond := .code yX10_node cX10_node 6 (some .int) :: ([.fieldLink RX10 29 "ClaimBus" "nodeCount" "I", .initialized RX10, .methodLink RX10 46 yX10_nameIsThere, .instanceMethod yX10_nameIsThere, .selects RX10 yX10_nameIsThere yX10_nameIsThere, .fieldLink RX10 11 "ClaimBus" "nodes" "[LClaimBus$Node;", .classLink RX10 9 RX4, .instantiable RX4 18, .initialized RX4, .fieldLink RX10 18 "ClaimBus" "store" "LClaimBus$Store;", .methodLink RX10 50 yX4_init, .instanceMethod yX4_init] ++ tl_c_node_b)
theorem it_c_node_b : ∀ w ∈ tl_c_node_b, w ∈ v_c_node_b := fun w h => List.mem_cons_of_mem _ (List.mem_append_right _ h)
theorem in_c_node_b_X10 : ∀ w ∈ wsX100, w ∈ v_c_node_b := fun w h => it_c_node_b w (List.mem_append_left _ h)
theorem in_c_node_b_X4 : ∀ w ∈ wsX40, w ∈ v_c_node_b := fun w h => it_c_node_b w (List.mem_append_right _ (List.mem_append_left _ h))
theorem ic_c_node_b_c_nameIsThere_1 : ∀ w ∈ v_c_nameIsThere_1, w ∈ v_c_node_b := fun w h => it_c_node_b w (List.mem_append_right _ (List.mem_append_right _ (List.mem_append_left _ h)))
theorem ic_c_node_b_c_X4_init_1 : ∀ w ∈ v_c_X4_init_1, w ∈ v_c_node_b := fun w h => it_c_node_b w (List.mem_append_right _ (List.mem_append_right _ (List.mem_append_right _ (h))))
theorem gt_c_node_b : ∀ w ∈ tl_c_node_b, goodWord w = true := List.forall_mem_append.mpr ⟨gw_wsX100, List.forall_mem_append.mpr ⟨gw_wsX40, List.forall_mem_append.mpr ⟨gw_c_nameIsThere_1, gw_c_X4_init_1⟩⟩⟩
theorem gw_c_node_b : ∀ w ∈ v_c_node_b, goodWord w = true := List.forall_mem_cons.mpr ⟨by decide +kernel, List.forall_mem_append.mpr ⟨List.all_eq_true.mp (by decide +kernel), gt_c_node_b⟩⟩
theorem g_c_node_b_c_nameIsThere_1_46 : GoodIn v_c_node_b (wsV RX10 46 RX10 yX10_nameIsThere v_c_nameIsThere_1) := goodIn_app (goodIn_r [.methodLink RX10 46 yX10_nameIsThere, .instanceMethod yX10_nameIsThere, .selects RX10 yX10_nameIsThere yX10_nameIsThere, .initialized RX10] [3, 4, 5, 2] (by decide +kernel) (by decide +kernel)) (fun w h => ⟨ic_c_node_b_c_nameIsThere_1 w h, good_of_word (gw_c_nameIsThere_1 w h)⟩)
theorem g_c_node_b_c_X4_init_1_50 : GoodIn v_c_node_b v_c_X4_init_1 := fun w h => ⟨ic_c_node_b_c_X4_init_1 w h, good_of_word (gw_c_X4_init_1 w h)⟩
set_option maxHeartbeats 4000000 in
set_option maxRecDepth 100000 in
theorem c_node_b (l : Launch) (dC : Nat → ClassId) (dI : Nat → Nat → Nat) (zt : Nat) (x : Nat) (nr : Nat) (st : Nat) (lf : Nat) (cN : ClassId) (fn : Nat → Option Nat) (awi : Nat) (an : Nat) (ar : Nat) (ae : Nat) (as : Nat) (ai : Nat) (ag : Nat) (ac : Nat) (au : Nat) (bwi : Nat) (sz : Nat) (n0 : fn 0 = some an) (n1 : fn 1 = none) (hwib : 1 ≤ bwi ∧ bwi < 17) : Met l yX10_node v_c_node_b ({ frames := 5, cells := 12, slots := 401, locals := 99 }) (va_Pc [.ref x, .int 0, .int 4, .int 200, .int 1, .int (nI bwi)] (fun U => U.heap.size = sz ∧ va_P (dC, dI) vwCl [(x, .inr (11, [.ref nr, .ref st, .ref lf, .int 1, .int 0, .int 0, .int (-1), .int 0])), (nr, .inl (cN, 8, .inr (.inr (.inr (.inr fn))))), (an, .inr (5, [.int 0, .int 5, .int 10, .int 0, .int (nI awi), .ref ar, .ref ae, .ref as, .ref ai, .ref ag, .ref ac, .ref au, .int 0, .int 0, .int 10, .int (-1), .int 0, .int 0]))] U.heap ∧ va_K (dC, dI) vwCl [(cN, (.object RX4))] U ∧ va_D (fun _ => True) [(x, .inr (11, [.ref nr, .ref st, .ref lf, .int 1, .int 0, .int 0, .int (-1), .int 0])), (nr, .inl (cN, 8, .inr (.inr (.inr (.inr fn))))), (an, .inr (5, [.int 0, .int 5, .int 10, .int 0, .int (nI awi), .ref ar, .ref ae, .ref as, .ref ai, .ref ag, .ref ac, .ref au, .int 0, .int 0, .int 10, .int (-1), .int 0, .int 0]))] ∧ ev U ∧ va_Z "java/util/ArrayList" "DEFAULTCAPACITY_EMPTY_ELEMENTDATA" "[Ljava/lang/Object;" (.ref zt) (va_A [(x, .inr (11, [.ref nr, .ref st, .ref lf, .int 1, .int 0, .int 0, .int (-1), .int 0])), (nr, .inl (cN, 8, .inr (.inr (.inr (.inr fn))))), (an, .inr (5, [.int 0, .int 5, .int 10, .int 0, .int (nI awi), .ref ar, .ref ae, .ref as, .ref ai, .ref ag, .ref ac, .ref au, .int 0, .int 0, .int 10, .int (-1), .int 0, .int 0]))] sz) U U.heap ∧ va_T (.object "java/lang/Object") zt 0 (fun _ => .null) (va_A [(x, .inr (11, [.ref nr, .ref st, .ref lf, .int 1, .int 0, .int 0, .int (-1), .int 0])), (nr, .inl (cN, 8, .inr (.inr (.inr (.inr fn))))), (an, .inr (5, [.int 0, .int 5, .int 10, .int 0, .int (nI awi), .ref ar, .ref ae, .ref as, .ref ai, .ref ag, .ref ac, .ref au, .int 0, .int 0, .int 10, .int (-1), .int 0, .int 0]))] sz) U U.heap)) (va_Qi (fun (r : Int32) (_ : Unit) => r = 1) (fun (_ : Unit) (t : State) => ∃ (bn : Nat) (br : Nat) (be : Nat) (bs : Nat) (bi : Nat) (bg : Nat) (bc : Nat) (bu : Nat) (brf : Nat) (bta : Nat) (blg : Nat) (blt : Nat) (bcI : ClassId) (bcL : ClassId) (bcT : ClassId) (bfT : Nat → Int32) (bfg : Nat → Option Nat) (fn2 : Nat → Option Nat), va_P (dC, dI) vwCl [(x, .inr (11, [.ref nr, .ref st, .ref lf, .int 2, .int 0, .int 0, .int (-1), .int 0])), (nr, .inl (cN, 8, .inr (.inr (.inr (.inr fn2))))), (an, .inr (5, [.int 0, .int 5, .int 10, .int 0, .int (nI awi), .ref ar, .ref ae, .ref as, .ref ai, .ref ag, .ref ac, .ref au, .int 0, .int 0, .int 10, .int (-1), .int 0, .int 0])), (bn, .inr (5, [.int 0, .int 4, .int 200, .int 1, .int (nI bwi), .ref br, .ref be, .ref bs, .ref bi, .ref bg, .ref bc, .ref bu, .int 0, .int 0, .int 200, .int (-1), .int 0, .int 0])), (br, .inr (6, [.int 0, .int 4, .ref st, .null, .null, .int 0, .int 0, .int 0, .int 0, .int 0, .ref brf, .int 0])), (brf, .inr (2, [.int 0, .int 0, .int 0, .null])), (be, .inr (9, [.ref bta])), (bta, .inl (bcI, 8, .inl bfT)), (bs, .inr (7, [.int 0, .int 1, .int 0, .null])), (bi, .inr (3, [.int 0, .int 0, .ref blg, .ref blt])), (blg, .inl (bcL, 80, .inl (fun _ => 0))), (bg, .inl (bcT, 3, .inr (.inr (.inr (.inr bfg))))), (bc, .inr (0, [.int 0, .ref zt, .int 0]))] t.heap ∧ va_K (dC, dI) vwCl [(cN, (.object RX4)), (bcI, .int), (bcL, .int), (bcT, (.object RX9))] t ∧ va_D (va_A [(x, .inr (11, [.ref nr, .ref st, .ref lf, .int 1, .int 0, .int 0, .int (-1), .int 0])), (nr, .inl (cN, 8, .inr (.inr (.inr (.inr fn))))), (an, .inr (5, [.int 0, .int 5, .int 10, .int 0, .int (nI awi), .ref ar, .ref ae, .ref as, .ref ai, .ref ag, .ref ac, .ref au, .int 0, .int 0, .int 10, .int (-1), .int 0, .int 0]))] sz) [(x, .inr (11, [.ref nr, .ref st, .ref lf, .int 2, .int 0, .int 0, .int (-1), .int 0])), (nr, .inl (cN, 8, .inr (.inr (.inr (.inr fn2))))), (an, .inr (5, [.int 0, .int 5, .int 10, .int 0, .int (nI awi), .ref ar, .ref ae, .ref as, .ref ai, .ref ag, .ref ac, .ref au, .int 0, .int 0, .int 10, .int (-1), .int 0, .int 0])), (bn, .inr (5, [.int 0, .int 4, .int 200, .int 1, .int (nI bwi), .ref br, .ref be, .ref bs, .ref bi, .ref bg, .ref bc, .ref bu, .int 0, .int 0, .int 200, .int (-1), .int 0, .int 0])), (br, .inr (6, [.int 0, .int 4, .ref st, .null, .null, .int 0, .int 0, .int 0, .int 0, .int 0, .ref brf, .int 0])), (brf, .inr (2, [.int 0, .int 0, .int 0, .null])), (be, .inr (9, [.ref bta])), (bta, .inl (bcI, 8, .inl bfT)), (bs, .inr (7, [.int 0, .int 1, .int 0, .null])), (bi, .inr (3, [.int 0, .int 0, .ref blg, .ref blt])), (blg, .inl (bcL, 80, .inl (fun _ => 0))), (bg, .inl (bcT, 3, .inr (.inr (.inr (.inr bfg))))), (bc, .inr (0, [.int 0, .ref zt, .int 0]))] ∧ (bfT 0 = (-1)) ∧ (bfT 1 = (-1)) ∧ (bfT 2 = (-1)) ∧ (bfT 3 = (-1)) ∧ (bfT 4 = (-1)) ∧ (bfT 5 = (-1)) ∧ (bfT 6 = (-1)) ∧ (bfT 7 = (-1)) ∧ (bfg 0 = none) ∧ (bfg 1 = none) ∧ (bfg 2 = none) ∧ (fn2 0 = some an) ∧ (fn2 1 = some bn)) (va_A [(x, .inr (11, [.ref nr, .ref st, .ref lf, .int 1, .int 0, .int 0, .int (-1), .int 0])), (nr, .inl (cN, 8, .inr (.inr (.inr (.inr fn))))), (an, .inr (5, [.int 0, .int 5, .int 10, .int 0, .int (nI awi), .ref ar, .ref ae, .ref as, .ref ai, .ref ag, .ref ac, .ref au, .int 0, .int 0, .int 10, .int (-1), .int 0, .int 0]))] sz)) 12 401 (va_A [(x, .inr (11, [.ref nr, .ref st, .ref lf, .int 1, .int 0, .int 0, .int (-1), .int 0])), (nr, .inl (cN, 8, .inr (.inr (.inr (.inr fn))))), (an, .inr (5, [.int 0, .int 5, .int 10, .int 0, .int (nI awi), .ref ar, .ref ae, .ref as, .ref ai, .ref ag, .ref ac, .ref au, .int 0, .int 0, .int 10, .int (-1), .int 0, .int 0]))] sz) := by
  refine Met.ofW (cc := cX10_node) (maxL := 6) (ret := (some .int)) (by decide) rfl ?_
  intro p e s m args below meth c s₁ B hml hv
  obtain ⟨rfl, hsz, hP, hK, hD0, hE, hZ, hTz⟩ := hv
  have hx := B.exec
  have hb := B.bytes
  have hr := B.returns
  have hts := atoms_spec (ws := v_c_node_b) B.pre
  have hown : s.vm.findClass RX10 = some m.cls := findClass_of_methodNamed B.named
  have hlocks := B.notSynchronized
  subst hsz
  have hD := hD0.self (sz := s.heap.size)
  generalize hAe : va_A [(x, .inr (11, [.ref nr, .ref st, .ref lf, .int 1, .int 0, .int 0, .int (-1), .int 0])), (nr, .inl (cN, 8, .inr (.inr (.inr (.inr fn))))), (an, .inr (5, [.int 0, .int 5, .int 10, .int 0, .int (nI awi), .ref ar, .ref ae, .ref as, .ref ai, .ref ag, .ref ac, .ref au, .int 0, .int 0, .int 10, .int (-1), .int 0, .int 0]))] s.heap.size = A at hD hZ hTz ⊢
  have hA : ∀ q : Nat, s.heap.size ≤ q → A q := fun q h => by rw [← hAe]; exact Or.inr h
  have hS : va_S A s.heap s.heap [] := va_S.rf
  replace hP : va_P (dC, dI) vwCl [(x, .inr (11, [.ref nr, .ref st, .ref lf, .int 1, .int 0, .int 0, .int (-1), .int 0])), (nr, .inl (cN, 8, .inr (.inr (.inr (.inr fn))))), (an, .inr (5, [.int 0, .int 5, .int 10, .int 0, .int (nI awi), .ref ar, .ref ae, .ref as, .ref ai, .ref ag, .ref ac, .ref au, .int 0, .int 0, .int 10, .int (-1), .int 0, .int 0]))] s.heap := hP
  have hl := lv_entry ([.ref x, .int 0, .int 4, .int 200, .int 1, .int (nI bwi)]) (n := 6) (Nat.le_of_ble_eq_true rfl)
  rw [lg_entry_eq]
  generalize (lg_sl ([.ref x, .int 0, .int 4, .int 200, .int 1, .int (nI bwi)]) ++ List.replicate (6 - (lg_sl ([.ref x, .int 0, .int 4, .int 200, .int 1, .int (nI bwi)])).length) Slot.unset).toArray = ls at hl ⊢
  replace hl : lv_has ls 6 [(0, .ref x), (1, .int 0), (2, .int 4), (3, .int 200), (4, .int 1), (5, .int (nI bwi))] := hl
  obtain ⟨H, hH⟩ : ∃ z : Heap, z = s.heap := ⟨_, rfl⟩
  rw [← hH]
  replace hS : va_S A s.heap H [] := by rw [hH]; exact va_S.rf
  replace hP : va_P (dC, dI) vwCl [(x, .inr (11, [.ref nr, .ref st, .ref lf, .int 1, .int 0, .int 0, .int (-1), .int 0])), (nr, .inl (cN, 8, .inr (.inr (.inr (.inr fn))))), (an, .inr (5, [.int 0, .int 5, .int 10, .int 0, .int (nI awi), .ref ar, .ref ae, .ref as, .ref ai, .ref ag, .ref ac, .ref au, .int 0, .int 0, .int 10, .int (-1), .int 0, .int 0]))] H := by rw [hH]; exact hP
  clear hH
  refine lv_iload_n hx hb dX10_node_0 rfl (lv_at hl 3 rfl) ?_
  refine lv_if_lt (tgt := 24) hx hb dX10_node_1 (by decide) (fun c_1 => ?_) (fun c_1 => ?_)
  · exact absurd c_1 (by decide)
  refine lv_iload_n hx hb dX10_node_4 rfl (lv_at hl 3 rfl) ?_
  refine lv_sipush (v := 247) hx hb dX10_node_5 (by decide) ?_
  refine lv_icmp_gt (tgt := 24) hx hb dX10_node_8 (by decide) (fun c_2 => ?_) (fun c_2 => ?_)
  · exact absurd c_2 (by decide)
  refine lv_iload hx hb dX10_node_11 (lv_at hl 5 rfl) ?_
  refine lv_iconst (v := 1) hx hb dX10_node_13 (by decide) ?_
  refine lv_icmp_lt (tgt := 24) hx hb dX10_node_14 (by decide) (fun c_3 => ?_) (fun c_3 => ?_)
  · exact absurd ((nI_ltI (a := bwi) (b := 1) (by omega) (by omega)).mp c_3) (by omega)
  refine lv_iload hx hb dX10_node_17 (lv_at hl 5 rfl) ?_
  refine lv_bipush (v := 16) hx hb dX10_node_19 (by decide) ?_
  refine lv_icmp_le (tgt := 26) hx hb dX10_node_21 (by decide) (fun c_4 => ?_) (fun c_4 => ?_)
  rotate_left
  · exact absurd ((nI_leI (a := bwi) (b := 16) (by omega) (by omega)).mpr (by omega)) c_4
  refine lv_aload_n hx hb dX10_node_26 rfl (lv_at hl 0 rfl) ?_
  refine va_get (D := (dC, dI)) (ci := 11) (v := .int 1) (C := RX10) (T := TX10) (N := 8) hx hb hts in_c_node_b_X10 hown hK hP 0 rfl rfl 3 (by decide) (hts (.fieldLink RX10 29 "ClaimBus" "nodeCount" "I") (List.mem_of_getElem? (i := 1) rfl)) (fun _ h9 => h9) rfl dX10_node_27 ?_
  refine lv_bipush (v := 8) hx hb dX10_node_30 (by decide) ?_
  refine lv_icmp_ge (tgt := 44) hx hb dX10_node_32 (by decide) (fun c_5 => ?_) (fun c_5 => ?_)
  · exact absurd c_5 (by decide)
  refine lv_aload_n hx hb dX10_node_35 rfl (lv_at hl 0 rfl) ?_
  refine lv_iload_n hx hb dX10_node_36 rfl (lv_at hl 1 rfl) ?_
  refine lv_iload_n hx hb dX10_node_37 rfl (lv_at hl 2 rfl) ?_
  have hPc := hP.sub (ws' := [(x, .inr (11, [.ref nr, .ref st, .ref lf, .int 1, .int 0, .int 0, .int (-1), .int 0])), (nr, .inl (cN, 8, .inr (.inr (.inr (.inr fn))))), (an, .inr (5, [.int 0, .int 5, .int 10, .int 0, .int (nI awi), .ref ar, .ref ae, .ref as, .ref ai, .ref ag, .ref ac, .ref au, .int 0, .int 0, .int 10, .int (-1), .int 0, .int 0]))]) [0, 1, 2] rfl
  have hDc := hD.sub (ws' := [(x, .inr (11, [.ref nr, .ref st, .ref lf, .int 1, .int 0, .int 0, .int (-1), .int 0])), (nr, .inl (cN, 8, .inr (.inr (.inr (.inr fn))))), (an, .inr (5, [.int 0, .int 5, .int 10, .int 0, .int (nI awi), .ref ar, .ref ae, .ref as, .ref ai, .ref ag, .ref ac, .ref au, .int 0, .int 0, .int 10, .int (-1), .int 0, .int 0]))]) [0, 1, 2] (by decide +kernel) rfl
  have hKc := hK.sub (tys' := [(cN, (.object RX4))]) [0] rfl
  have hFc := ro_free hS hA
  refine va_calli (va_runV (As := [.int 0, .int 4]) (rest := []) ⟨hx, hb, hml, hown, hts⟩ (c_nameIsThere_1 l dC dI (x) (nr) (st) (lf) (cN) (fn) (awi) (an) (ar) (ae) (as) (ai) (ag) (ac) (au) H.size n0) (cwV 2 hts g_c_node_b_c_nameIsThere_1_46 rfl rfl rfl (by decide +kernel) ⟨Nat.le_of_ble_eq_true rfl, Nat.le_of_ble_eq_true rfl⟩) ⟨fun a U g mk q => by obtain ⟨q0, q1, qP, qK, qD, qE⟩ := q; exact ⟨q0, q1, qP, va_K.moved (u := U) (U := U.calling g mk a) (Vm.Alike.refl U.vm) qK, qD, ev.same (u := U) (U := U.calling g mk a) rfl qE⟩, va_recv hKc hPc (ci := 11) (q0 := 0) rfl rfl, fun U hU hW => ⟨rfl, by rw [hU], by rw [hU]; exact hPc, va_K.moved hW.alike hKc, hDc.weaken (fun _ _ _ _ => trivial), hE.warm hW⟩⟩ rfl rfl hl.1 rfl (lv_room (Nat.le_of_ble_eq_true rfl)) dX10_node_38 ⟨Nat.le_of_ble_eq_true rfl, Nat.le_of_ble_eq_true rfl⟩) hS (fun q _ h => hFc q h) hFc (fun r_6 u t H1 locs ht hvm hw hB hz1 hk1 hS => ?_)
  clear hPc hDc hKc
  replace hP := ro_keep hP hk1
  generalize H1 = H at hP hS ⊢
  replace hP : va_P (dC, dI) vwCl [(x, .inr (11, [.ref nr, .ref st, .ref lf, .int 1, .int 0, .int 0, .int (-1), .int 0])), (nr, .inl (cN, 8, .inr (.inr (.inr (.inr fn))))), (an, .inr (5, [.int 0, .int 5, .int 10, .int 0, .int (nI awi), .ref ar, .ref ae, .ref as, .ref ai, .ref ag, .ref ac, .ref au, .int 0, .int 0, .int 10, .int (-1), .int 0, .int 0]))] H := hP
  have hw := hw.symm
  subst hw
  refine lv_if_eq (tgt := 46) hx hb dX10_node_41 (by decide) (fun c_7 => ?_) (fun c_7 => ?_)
  rotate_left
  · exact absurd (by decide) c_7
  refine lv_aload_n hx hb dX10_node_46 rfl (lv_at hl 0 rfl) ?_
  refine va_get (D := (dC, dI)) (ci := 11) (v := .ref nr) (C := RX10) (T := TX10) (N := 8) hx hb hts in_c_node_b_X10 hown hK hP 0 rfl rfl 0 (by decide) (hts (.fieldLink RX10 11 "ClaimBus" "nodes" "[LClaimBus$Node;") (List.mem_of_getElem? (i := 6) rfl)) (fun _ h9 => h9) rfl dX10_node_47 ?_
  refine lv_aload_n hx hb dX10_node_50 rfl (lv_at hl 0 rfl) ?_
  refine va_get (D := (dC, dI)) (ci := 11) (v := .int 1) (C := RX10) (T := TX10) (N := 8) hx hb hts in_c_node_b_X10 hown hK hP 0 rfl rfl 3 (by decide) (hts (.fieldLink RX10 29 "ClaimBus" "nodeCount" "I") (List.mem_of_getElem? (i := 1) rfl)) (fun _ h9 => h9) rfl dX10_node_51 ?_
  refine va_new (ci := 5) (fs := [.int 0, .int 0, .int 0, .int 0, .int 0, .null, .null, .null, .null, .null, .null, .null, .int 0, .int 0, .int 0, .int 0, .int 0, .int 0]) (C := RX4) (T := TX4) (N := 18) hx hb hts in_c_node_b_X4 tyX4 tyX4_ok hown (hts (.classLink RX10 9 RX4) (List.mem_of_getElem? (i := 7) rfl)) (hts (.instantiable RX4 18) (List.mem_of_getElem? (i := 8) rfl)) (hts (.initialized RX4) (List.mem_of_getElem? (i := 9) rfl)) hK hP hD hS hA rfl df_X4 (Nat.le_of_ble_eq_true rfl) (Nat.le_of_ble_eq_true rfl) dX10_node_54 (fun q8 H hP hD hS => ?_)
  replace hP : va_P (dC, dI) vwCl [(x, .inr (11, [.ref nr, .ref st, .ref lf, .int 1, .int 0, .int 0, .int (-1), .int 0])), (nr, .inl (cN, 8, .inr (.inr (.inr (.inr fn))))), (an, .inr (5, [.int 0, .int 5, .int 10, .int 0, .int (nI awi), .ref ar, .ref ae, .ref as, .ref ai, .ref ag, .ref ac, .ref au, .int 0, .int 0, .int 10, .int (-1), .int 0, .int 0])), (q8, .inr (5, [.int 0, .int 0, .int 0, .int 0, .int 0, .null, .null, .null, .null, .null, .null, .null, .int 0, .int 0, .int 0, .int 0, .int 0, .int 0]))] H := hP
  replace hD : va_D A [(x, .inr (11, [.ref nr, .ref st, .ref lf, .int 1, .int 0, .int 0, .int (-1), .int 0])), (nr, .inl (cN, 8, .inr (.inr (.inr (.inr fn))))), (an, .inr (5, [.int 0, .int 5, .int 10, .int 0, .int (nI awi), .ref ar, .ref ae, .ref as, .ref ai, .ref ag, .ref ac, .ref au, .int 0, .int 0, .int 10, .int (-1), .int 0, .int 0])), (q8, .inr (5, [.int 0, .int 0, .int 0, .int 0, .int 0, .null, .null, .null, .null, .null, .null, .null, .int 0, .int 0, .int 0, .int 0, .int 0, .int 0]))] := hD
  refine W.widen (k := 1) (n := 18) (Nat.le_of_ble_eq_true rfl) (Nat.le_of_ble_eq_true rfl) ?_
  refine lv_dup hx hb dX10_node_57 rfl ?_
  refine lv_iload_n hx hb dX10_node_58 rfl (lv_at hl 1 rfl) ?_
  refine lv_iload_n hx hb dX10_node_59 rfl (lv_at hl 2 rfl) ?_
  refine lv_iload_n hx hb dX10_node_60 rfl (lv_at hl 3 rfl) ?_
  refine lv_iload hx hb dX10_node_61 (lv_at hl 4 rfl) ?_
  refine lv_iload hx hb dX10_node_63 (lv_at hl 5 rfl) ?_
  refine lv_aload_n hx hb dX10_node_65 rfl (lv_at hl 0 rfl) ?_
  refine va_get (D := (dC, dI)) (ci := 11) (v := .ref st) (C := RX10) (T := TX10) (N := 8) hx hb hts in_c_node_b_X10 hown hK hP 0 rfl rfl 1 (by decide) (hts (.fieldLink RX10 18 "ClaimBus" "store" "LClaimBus$Store;") (List.mem_of_getElem? (i := 10) rfl)) (fun _ h9 => h9) rfl dX10_node_66 ?_
  have hPc := hP.sub (ws' := [(q8, .inr (5, [.int 0, .int 0, .int 0, .int 0, .int 0, .null, .null, .null, .null, .null, .null, .null, .int 0, .int 0, .int 0, .int 0, .int 0, .int 0]))]) [3] rfl
  have hDc := hD.sub (ws' := [(q8, .inr (5, [.int 0, .int 0, .int 0, .int 0, .int 0, .null, .null, .null, .null, .null, .null, .null, .int 0, .int 0, .int 0, .int 0, .int 0, .int 0]))]) [3] (by decide +kernel) rfl
  have hKc := hK.sub (tys' := []) [] rfl
  have hFc := va_free (wc := [(q8, .inr (5, [.int 0, .int 0, .int 0, .int 0, .int 0, .null, .null, .null, .null, .null, .null, .null, .int 0, .int 0, .int 0, .int 0, .int 0, .int 0]))]) hD hS hA [3] rfl
  have hZc := (hZ.kept hS.2.1).narrow (fun q h => hFc q h)
  have hTc := (hTz.kept hS.2.1).narrow (fun q h => hFc q h)
  refine va_callv (va_runI (As := [.int 0, .int 4, .int 200, .int 1, .int (nI bwi), .ref st]) (rest := [.ref q8, .int 1, .ref nr]) ⟨hx, hb, hml, hown, hts⟩ (c_X4_init_1 l dC dI (zt) (q8) (0) (4) (200) (bwi) (st) H.size) (cwI 6 hts g_c_node_b_c_X4_init_1_50 rfl rfl rfl (hts (.initialized RX4) (List.mem_of_getElem? (i := 9) rfl)) (hts (.methodLink RX10 50 yX4_init) (List.mem_of_getElem? (i := 11) rfl)) (hts (.instanceMethod yX4_init) (List.mem_of_getElem? (i := 12) rfl)) rfl (by decide +kernel) ⟨Nat.le_of_ble_eq_true rfl, Nat.le_of_ble_eq_true rfl⟩) ⟨fun a U g mk q => by obtain ⟨q0, q1, qP, qK, qD, qE, qZ, qT⟩ := q; exact ⟨q0, q1, qP, va_K.moved (u := U) (U := U.calling g mk a) (Vm.Alike.refl U.vm) qK, qD, ev.same (u := U) (U := U.calling g mk a) rfl qE, va_Z.moved (u := U) (U := U.calling g mk a) (Vm.Alike.refl U.vm) qZ, va_T.moved (u := U) (U := U.calling g mk a) (Vm.Alike.refl U.vm) qT⟩, fun U hU hW => ⟨rfl, by rw [hU], by rw [hU]; exact hPc, va_K.moved hW.alike hKc, hDc.weaken (fun _ _ _ _ => trivial), hE.warm hW, by rw [hU]; exact hZc.moved hW.alike, by rw [hU]; exact hTc.moved hW.alike⟩⟩ rfl rfl hl.1 rfl (lv_room (Nat.le_of_ble_eq_true rfl)) dX10_node_69 ⟨Nat.le_of_ble_eq_true rfl, Nat.le_of_ble_eq_true rfl⟩) hS (fun q _ h => hFc q h) hFc (fun u t H1 locs ht hvm hw hB hz1 hk1 hS => ?_)
  clear hPc hDc hKc
  obtain ⟨r_9, nt_9, ns_9, ib_9, gs_9, cs_9, nu_9, rf_9, ta_9, lg_9, lt_9, cI_9, cL_9, cT_9, fT2_9, fg_9, hP1, hK1, hD1, t0__9, t1__9, t2__9, t3__9, t4__9, t5__9, t6__9, t7__9, g0_9, g1_9, g2_9⟩ := hB
  rw [ht] at hP1
  have hK1 := va_K.moved hvm.symm hK1
  obtain ⟨hP, hD⟩ := va_join (wr := [(x, .inr (11, [.ref nr, .ref st, .ref lf, .int 1, .int 0, .int 0, .int (-1), .int 0])), (nr, .inl (cN, 8, .inr (.inr (.inr (.inr fn))))), (an, .inr (5, [.int 0, .int 5, .int 10, .int 0, .int (nI awi), .ref ar, .ref ae, .ref as, .ref ai, .ref ag, .ref ac, .ref au, .int 0, .int 0, .int 10, .int (-1), .int 0, .int 0]))]) (w1 := [(q8, .inr (5, [.int 0, .int 4, .int (nI 200), .int 1, .int (nI bwi), .ref r_9, .ref nt_9, .ref ns_9, .ref ib_9, .ref gs_9, .ref cs_9, .ref nu_9, .int 0, .int 0, .int (nI 200), .int (-1), .int 0, .int 0])), (r_9, .inr (6, [.int 0, .int 4, .ref st, .null, .null, .int 0, .int 0, .int 0, .int 0, .int 0, .ref rf_9, .int 0])), (rf_9, .inr (2, [.int 0, .int 0, .int 0, .null])), (nt_9, .inr (9, [.ref ta_9])), (ta_9, .inl (cI_9, 8, .inl fT2_9)), (ns_9, .inr (7, [.int 0, .int 1, .int 0, .null])), (ib_9, .inr (3, [.int 0, .int 0, .ref lg_9, .ref lt_9])), (lg_9, .inl (cL_9, 80, .inl (fun _ => 0))), (gs_9, .inl (cT_9, 3, .inr (.inr (.inr (.inr fg_9))))), (cs_9, .inr (0, [.int 0, .ref zt, .int 0]))]) hP hD [3] [0, 1, 2] rfl rfl (by decide +kernel) (by decide +kernel) hk1 hFc hP1 hD1
  replace hK := hK.app hK1
  replace hK : va_K (dC, dI) vwCl [(cN, (.object RX4)), (cI_9, .int), (cL_9, .int), (cT_9, (.object RX9))] s := hK
  generalize H1 = H at hP hS ⊢
  replace hP : va_P (dC, dI) vwCl [(x, .inr (11, [.ref nr, .ref st, .ref lf, .int 1, .int 0, .int 0, .int (-1), .int 0])), (nr, .inl (cN, 8, .inr (.inr (.inr (.inr fn))))), (an, .inr (5, [.int 0, .int 5, .int 10, .int 0, .int (nI awi), .ref ar, .ref ae, .ref as, .ref ai, .ref ag, .ref ac, .ref au, .int 0, .int 0, .int 10, .int (-1), .int 0, .int 0])), (q8, .inr (5, [.int 0, .int 4, .int (nI 200), .int 1, .int (nI bwi), .ref r_9, .ref nt_9, .ref ns_9, .ref ib_9, .ref gs_9, .ref cs_9, .ref nu_9, .int 0, .int 0, .int (nI 200), .int (-1), .int 0, .int 0])), (r_9, .inr (6, [.int 0, .int 4, .ref st, .null, .null, .int 0, .int 0, .int 0, .int 0, .int 0, .ref rf_9, .int 0])), (rf_9, .inr (2, [.int 0, .int 0, .int 0, .null])), (nt_9, .inr (9, [.ref ta_9])), (ta_9, .inl (cI_9, 8, .inl fT2_9)), (ns_9, .inr (7, [.int 0, .int 1, .int 0, .null])), (ib_9, .inr (3, [.int 0, .int 0, .ref lg_9, .ref lt_9])), (lg_9, .inl (cL_9, 80, .inl (fun _ => 0))), (gs_9, .inl (cT_9, 3, .inr (.inr (.inr (.inr fg_9))))), (cs_9, .inr (0, [.int 0, .ref zt, .int 0]))] H := hP
  replace hD : va_D A [(x, .inr (11, [.ref nr, .ref st, .ref lf, .int 1, .int 0, .int 0, .int (-1), .int 0])), (nr, .inl (cN, 8, .inr (.inr (.inr (.inr fn))))), (an, .inr (5, [.int 0, .int 5, .int 10, .int 0, .int (nI awi), .ref ar, .ref ae, .ref as, .ref ai, .ref ag, .ref ac, .ref au, .int 0, .int 0, .int 10, .int (-1), .int 0, .int 0])), (q8, .inr (5, [.int 0, .int 4, .int (nI 200), .int 1, .int (nI bwi), .ref r_9, .ref nt_9, .ref ns_9, .ref ib_9, .ref gs_9, .ref cs_9, .ref nu_9, .int 0, .int 0, .int (nI 200), .int (-1), .int 0, .int 0])), (r_9, .inr (6, [.int 0, .int 4, .ref st, .null, .null, .int 0, .int 0, .int 0, .int 0, .int 0, .ref rf_9, .int 0])), (rf_9, .inr (2, [.int 0, .int 0, .int 0, .null])), (nt_9, .inr (9, [.ref ta_9])), (ta_9, .inl (cI_9, 8, .inl fT2_9)), (ns_9, .inr (7, [.int 0, .int 1, .int 0, .null])), (ib_9, .inr (3, [.int 0, .int 0, .ref lg_9, .ref lt_9])), (lg_9, .inl (cL_9, 80, .inl (fun _ => 0))), (gs_9, .inl (cT_9, 3, .inr (.inr (.inr (.inr fg_9))))), (cs_9, .inr (0, [.int 0, .ref zt, .int 0]))] := hD
  rw [show ((nI 200) : Int32) = 200 from (congrArg nI (show 200 = 200 from by omega)).trans (by decide)] at hP hD
  replace hP : va_P (dC, dI) vwCl [(x, .inr (11, [.ref nr, .ref st, .ref lf, .int 1, .int 0, .int 0, .int (-1), .int 0])), (nr, .inl (cN, 8, .inr (.inr (.inr (.inr fn))))), (an, .inr (5, [.int 0, .int 5, .int 10, .int 0, .int (nI awi), .ref ar, .ref ae, .ref as, .ref ai, .ref ag, .ref ac, .ref au, .int 0, .int 0, .int 10, .int (-1), .int 0, .int 0])), (q8, .inr (5, [.int 0, .int 4, .int 200, .int 1, .int (nI bwi), .ref r_9, .ref nt_9, .ref ns_9, .ref ib_9, .ref gs_9, .ref cs_9, .ref nu_9, .int 0, .int 0, .int 200, .int (-1), .int 0, .int 0])), (r_9, .inr (6, [.int 0, .int 4, .ref st, .null, .null, .int 0, .int 0, .int 0, .int 0, .int 0, .ref rf_9, .int 0])), (rf_9, .inr (2, [.int 0, .int 0, .int 0, .null])), (nt_9, .inr (9, [.ref ta_9])), (ta_9, .inl (cI_9, 8, .inl fT2_9)), (ns_9, .inr (7, [.int 0, .int 1, .int 0, .null])), (ib_9, .inr (3, [.int 0, .int 0, .ref lg_9, .ref lt_9])), (lg_9, .inl (cL_9, 80, .inl (fun _ => 0))), (gs_9, .inl (cT_9, 3, .inr (.inr (.inr (.inr fg_9))))), (cs_9, .inr (0, [.int 0, .ref zt, .int 0]))] H := hP
  replace hD : va_D A [(x, .inr (11, [.ref nr, .ref st, .ref lf, .int 1, .int 0, .int 0, .int (-1), .int 0])), (nr, .inl (cN, 8, .inr (.inr (.inr (.inr fn))))), (an, .inr (5, [.int 0, .int 5, .int 10, .int 0, .int (nI awi), .ref ar, .ref ae, .ref as, .ref ai, .ref ag, .ref ac, .ref au, .int 0, .int 0, .int 10, .int (-1), .int 0, .int 0])), (q8, .inr (5, [.int 0, .int 4, .int 200, .int 1, .int (nI bwi), .ref r_9, .ref nt_9, .ref ns_9, .ref ib_9, .ref gs_9, .ref cs_9, .ref nu_9, .int 0, .int 0, .int 200, .int (-1), .int 0, .int 0])), (r_9, .inr (6, [.int 0, .int 4, .ref st, .null, .null, .int 0, .int 0, .int 0, .int 0, .int 0, .ref rf_9, .int 0])), (rf_9, .inr (2, [.int 0, .int 0, .int 0, .null])), (nt_9, .inr (9, [.ref ta_9])), (ta_9, .inl (cI_9, 8, .inl fT2_9)), (ns_9, .inr (7, [.int 0, .int 1, .int 0, .null])), (ib_9, .inr (3, [.int 0, .int 0, .ref lg_9, .ref lt_9])), (lg_9, .inl (cL_9, 80, .inl (fun _ => 0))), (gs_9, .inl (cT_9, 3, .inr (.inr (.inr (.inr fg_9))))), (cs_9, .inr (0, [.int 0, .ref zt, .int 0]))] := hD
  refine W.widen (k := 12) (n := 401) (Nat.le_of_ble_eq_true rfl) (Nat.le_of_ble_eq_true rfl) ?_
  clear hw
  refine va_astq hx hb hK hP hD hS 1 0 3 5 rfl rfl rfl rfl (vp_in_nI (n := 1) (by omega) (by omega)) dX10_node_72 (fun H locs hP hD hS => ?_)
  obtain ⟨f_10, ef_10⟩ : ∃ z : Nat → Option Nat, z = va_up fn 1 (some q8) := ⟨_, rfl⟩
  rw [(show Int32.toNatClampNeg (1 : Int32) = 1 by decide)] at hP hD
  replace hP : va_P (dC, dI) vwCl [(x, .inr (11, [.ref nr, .ref st, .ref lf, .int 1, .int 0, .int 0, .int (-1), .int 0])), (nr, .inl (cN, 8, .inr (.inr (.inr (.inr f_10))))), (an, .inr (5, [.int 0, .int 5, .int 10, .int 0, .int (nI awi), .ref ar, .ref ae, .ref as, .ref ai, .ref ag, .ref ac, .ref au, .int 0, .int 0, .int 10, .int (-1), .int 0, .int 0])), (q8, .inr (5, [.int 0, .int 4, .int 200, .int 1, .int (nI bwi), .ref r_9, .ref nt_9, .ref ns_9, .ref ib_9, .ref gs_9, .ref cs_9, .ref nu_9, .int 0, .int 0, .int 200, .int (-1), .int 0, .int 0])), (r_9, .inr (6, [.int 0, .int 4, .ref st, .null, .null, .int 0, .int 0, .int 0, .int 0, .int 0, .ref rf_9, .int 0])), (rf_9, .inr (2, [.int 0, .int 0, .int 0, .null])), (nt_9, .inr (9, [.ref ta_9])), (ta_9, .inl (cI_9, 8, .inl fT2_9)), (ns_9, .inr (7, [.int 0, .int 1, .int 0, .null])), (ib_9, .inr (3, [.int 0, .int 0, .ref lg_9, .ref lt_9])), (lg_9, .inl (cL_9, 80, .inl (fun _ => 0))), (gs_9, .inl (cT_9, 3, .inr (.inr (.inr (.inr fg_9))))), (cs_9, .inr (0, [.int 0, .ref zt, .int 0]))] H := by rw [ef_10]; exact hP
  replace hD : va_D A [(x, .inr (11, [.ref nr, .ref st, .ref lf, .int 1, .int 0, .int 0, .int (-1), .int 0])), (nr, .inl (cN, 8, .inr (.inr (.inr (.inr f_10))))), (an, .inr (5, [.int 0, .int 5, .int 10, .int 0, .int (nI awi), .ref ar, .ref ae, .ref as, .ref ai, .ref ag, .ref ac, .ref au, .int 0, .int 0, .int 10, .int (-1), .int 0, .int 0])), (q8, .inr (5, [.int 0, .int 4, .int 200, .int 1, .int (nI bwi), .ref r_9, .ref nt_9, .ref ns_9, .ref ib_9, .ref gs_9, .ref cs_9, .ref nu_9, .int 0, .int 0, .int 200, .int (-1), .int 0, .int 0])), (r_9, .inr (6, [.int 0, .int 4, .ref st, .null, .null, .int 0, .int 0, .int 0, .int 0, .int 0, .ref rf_9, .int 0])), (rf_9, .inr (2, [.int 0, .int 0, .int 0, .null])), (nt_9, .inr (9, [.ref ta_9])), (ta_9, .inl (cI_9, 8, .inl fT2_9)), (ns_9, .inr (7, [.int 0, .int 1, .int 0, .null])), (ib_9, .inr (3, [.int 0, .int 0, .ref lg_9, .ref lt_9])), (lg_9, .inl (cL_9, 80, .inl (fun _ => 0))), (gs_9, .inl (cT_9, 3, .inr (.inr (.inr (.inr fg_9))))), (cs_9, .inr (0, [.int 0, .ref zt, .int 0]))] := by rw [ef_10]; exact hD
  have g10_n : f_10 1 = some q8 := by rw [ef_10]; exact if_pos rfl
  have g10_0 : f_10 0 = some an := by rw [ef_10]; exact (if_neg (by omega)).trans n0
  refine lv_aload_n hx hb dX10_node_73 rfl (lv_at hl 0 rfl) ?_
  refine lv_dup hx hb dX10_node_74 rfl ?_
  refine va_get (D := (dC, dI)) (ci := 11) (v := .int 1) (C := RX10) (T := TX10) (N := 8) hx hb hts in_c_node_b_X10 hown hK hP 0 rfl rfl 3 (by decide) (hts (.fieldLink RX10 29 "ClaimBus" "nodeCount" "I") (List.mem_of_getElem? (i := 1) rfl)) (fun _ h9 => h9) rfl dX10_node_75 ?_
  refine lv_iconst (v := 1) hx hb dX10_node_78 (by decide) ?_
  refine lv_iadd hx hb dX10_node_79 ?_
  refine lv_topi (fun x_11 ex_11 => ?_)
  obtain rfl : x_11 = 2 := ex_11.trans (by decide)
  refine va_put (D := (dC, dI)) (ci := 11) (v := .int 2) (ty := .int) (C := RX10) (T := TX10) (N := 8) hx hb hts in_c_node_b_X10 tyX10 tyX10_ok nmX10 hown hK hP hD hS 0 rfl rfl 3 (by decide) (hts (.fieldLink RX10 29 "ClaimBus" "nodeCount" "I") (List.mem_of_getElem? (i := 1) rfl)) (fun _ h9 => h9) rfl (by decide +kernel) rfl rfl (Nat.le_of_ble_eq_true rfl) dX10_node_80 (fun H locs hP hD hS => ?_)
  replace hP : va_P (dC, dI) vwCl [(x, .inr (11, [.ref nr, .ref st, .ref lf, .int 2, .int 0, .int 0, .int (-1), .int 0])), (nr, .inl (cN, 8, .inr (.inr (.inr (.inr f_10))))), (an, .inr (5, [.int 0, .int 5, .int 10, .int 0, .int (nI awi), .ref ar, .ref ae, .ref as, .ref ai, .ref ag, .ref ac, .ref au, .int 0, .int 0, .int 10, .int (-1), .int 0, .int 0])), (q8, .inr (5, [.int 0, .int 4, .int 200, .int 1, .int (nI bwi), .ref r_9, .ref nt_9, .ref ns_9, .ref ib_9, .ref gs_9, .ref cs_9, .ref nu_9, .int 0, .int 0, .int 200, .int (-1), .int 0, .int 0])), (r_9, .inr (6, [.int 0, .int 4, .ref st, .null, .null, .int 0, .int 0, .int 0, .int 0, .int 0, .ref rf_9, .int 0])), (rf_9, .inr (2, [.int 0, .int 0, .int 0, .null])), (nt_9, .inr (9, [.ref ta_9])), (ta_9, .inl (cI_9, 8, .inl fT2_9)), (ns_9, .inr (7, [.int 0, .int 1, .int 0, .null])), (ib_9, .inr (3, [.int 0, .int 0, .ref lg_9, .ref lt_9])), (lg_9, .inl (cL_9, 80, .inl (fun _ => 0))), (gs_9, .inl (cT_9, 3, .inr (.inr (.inr (.inr fg_9))))), (cs_9, .inr (0, [.int 0, .ref zt, .int 0]))] H := hP
  replace hD : va_D A [(x, .inr (11, [.ref nr, .ref st, .ref lf, .int 2, .int 0, .int 0, .int (-1), .int 0])), (nr, .inl (cN, 8, .inr (.inr (.inr (.inr f_10))))), (an, .inr (5, [.int 0, .int 5, .int 10, .int 0, .int (nI awi), .ref ar, .ref ae, .ref as, .ref ai, .ref ag, .ref ac, .ref au, .int 0, .int 0, .int 10, .int (-1), .int 0, .int 0])), (q8, .inr (5, [.int 0, .int 4, .int 200, .int 1, .int (nI bwi), .ref r_9, .ref nt_9, .ref ns_9, .ref ib_9, .ref gs_9, .ref cs_9, .ref nu_9, .int 0, .int 0, .int 200, .int (-1), .int 0, .int 0])), (r_9, .inr (6, [.int 0, .int 4, .ref st, .null, .null, .int 0, .int 0, .int 0, .int 0, .int 0, .ref rf_9, .int 0])), (rf_9, .inr (2, [.int 0, .int 0, .int 0, .null])), (nt_9, .inr (9, [.ref ta_9])), (ta_9, .inl (cI_9, 8, .inl fT2_9)), (ns_9, .inr (7, [.int 0, .int 1, .int 0, .null])), (ib_9, .inr (3, [.int 0, .int 0, .ref lg_9, .ref lt_9])), (lg_9, .inl (cL_9, 80, .inl (fun _ => 0))), (gs_9, .inl (cT_9, 3, .inr (.inr (.inr (.inr fg_9))))), (cs_9, .inr (0, [.int 0, .ref zt, .int 0]))] := hD
  refine lv_aload_n hx hb dX10_node_83 rfl (lv_at hl 0 rfl) ?_
  refine va_get (D := (dC, dI)) (ci := 11) (v := .int 2) (C := RX10) (T := TX10) (N := 8) hx hb hts in_c_node_b_X10 hown hK hP 0 rfl rfl 3 (by decide) (hts (.fieldLink RX10 29 "ClaimBus" "nodeCount" "I") (List.mem_of_getElem? (i := 1) rfl)) (fun _ h9 => h9) rfl dX10_node_84 ?_
  refine lv_iconst (v := 1) hx hb dX10_node_87 (by decide) ?_
  refine lv_isub hx hb dX10_node_88 ?_
  refine lv_topi (fun x_12 ex_12 => ?_)
  obtain rfl : x_12 = 1 := ex_12.trans (by decide)
  have hP9 := hP.sub (ws' := [(x, .inr (11, [.ref nr, .ref st, .ref lf, .int 2, .int 0, .int 0, .int (-1), .int 0])), (nr, .inl (cN, 8, .inr (.inr (.inr (.inr f_10))))), (an, .inr (5, [.int 0, .int 5, .int 10, .int 0, .int (nI awi), .ref ar, .ref ae, .ref as, .ref ai, .ref ag, .ref ac, .ref au, .int 0, .int 0, .int 10, .int (-1), .int 0, .int 0])), (q8, .inr (5, [.int 0, .int 4, .int 200, .int 1, .int (nI bwi), .ref r_9, .ref nt_9, .ref ns_9, .ref ib_9, .ref gs_9, .ref cs_9, .ref nu_9, .int 0, .int 0, .int 200, .int (-1), .int 0, .int 0])), (r_9, .inr (6, [.int 0, .int 4, .ref st, .null, .null, .int 0, .int 0, .int 0, .int 0, .int 0, .ref rf_9, .int 0])), (rf_9, .inr (2, [.int 0, .int 0, .int 0, .null])), (nt_9, .inr (9, [.ref ta_9])), (ta_9, .inl (cI_9, 8, .inl fT2_9)), (ns_9, .inr (7, [.int 0, .int 1, .int 0, .null])), (ib_9, .inr (3, [.int 0, .int 0, .ref lg_9, .ref lt_9])), (lg_9, .inl (cL_9, 80, .inl (fun _ => 0))), (gs_9, .inl (cT_9, 3, .inr (.inr (.inr (.inr fg_9))))), (cs_9, .inr (0, [.int 0, .ref zt, .int 0]))]) [0, 1, 2, 3, 4, 5, 6, 7, 8, 9, 10, 11, 12] rfl
  have hD9 := hD.sub (ws' := [(x, .inr (11, [.ref nr, .ref st, .ref lf, .int 2, .int 0, .int 0, .int (-1), .int 0])), (nr, .inl (cN, 8, .inr (.inr (.inr (.inr f_10))))), (an, .inr (5, [.int 0, .int 5, .int 10, .int 0, .int (nI awi), .ref ar, .ref ae, .ref as, .ref ai, .ref ag, .ref ac, .ref au, .int 0, .int 0, .int 10, .int (-1), .int 0, .int 0])), (q8, .inr (5, [.int 0, .int 4, .int 200, .int 1, .int (nI bwi), .ref r_9, .ref nt_9, .ref ns_9, .ref ib_9, .ref gs_9, .ref cs_9, .ref nu_9, .int 0, .int 0, .int 200, .int (-1), .int 0, .int 0])), (r_9, .inr (6, [.int 0, .int 4, .ref st, .null, .null, .int 0, .int 0, .int 0, .int 0, .int 0, .ref rf_9, .int 0])), (rf_9, .inr (2, [.int 0, .int 0, .int 0, .null])), (nt_9, .inr (9, [.ref ta_9])), (ta_9, .inl (cI_9, 8, .inl fT2_9)), (ns_9, .inr (7, [.int 0, .int 1, .int 0, .null])), (ib_9, .inr (3, [.int 0, .int 0, .ref lg_9, .ref lt_9])), (lg_9, .inl (cL_9, 80, .inl (fun _ => 0))), (gs_9, .inl (cT_9, 3, .inr (.inr (.inr (.inr fg_9))))), (cs_9, .inr (0, [.int 0, .ref zt, .int 0]))]) [0, 1, 2, 3, 4, 5, 6, 7, 8, 9, 10, 11, 12] (by decide +kernel) rfl
  have hK9 := hK.sub (tys' := [(cN, (.object RX4)), (cI_9, .int), (cL_9, .int), (cT_9, (.object RX9))]) [0, 1, 2, 3] rfl
  exact W.iret (v := 1) hx hb hr (fun t ht hW => ⟨⟨1, (), rfl, rfl, ⟨q8, r_9, nt_9, ns_9, ib_9, gs_9, cs_9, nu_9, rf_9, ta_9, lg_9, lt_9, cI_9, cL_9, cT_9, fT2_9, fg_9, f_10, by rw [ht]; exact hP9, va_K.moved hW.alike hK9, hD9, t0__9, t1__9, t2__9, t3__9, t4__9, t5__9, t6__9, t7__9, g0_9, g1_9, g2_9, g10_0, g10_n⟩⟩, hS.F ht⟩) hS.2.2 dX10_node_89

noncomputable def tl_c_claimAddress_a : List Cond := wsX40 ++ (v_c_putClaim)
noncomputable def v_c_claimAddress_a : List Cond := .code yX4_claimAddress cX4_claimAddress 2 none :: ([.fieldLink RX4 81 "ClaimBus$Node" "address" "I", .fieldLink RX4 53 "ClaimBus$Node" "state" "I", .fieldLink RX4 56 "ClaimBus$Node" "claimCarriedAt" "I", .fieldLink RX4 89 "ClaimBus$Node" "row" "LClaimBus$Row;", .initialized RX5, .methodLink RX4 108 yX5_putClaim, .instanceMethod yX5_putClaim, .selects RX5 yX5_putClaim yX5_putClaim] ++ tl_c_claimAddress_a)
theorem it_c_claimAddress_a : ∀ w ∈ tl_c_claimAddress_a, w ∈ v_c_claimAddress_a := fun w h => List.mem_cons_of_mem _ (List.mem_append_right _ h)
theorem in_c_claimAddress_a_X4 : ∀ w ∈ wsX40, w ∈ v_c_claimAddress_a := fun w h => it_c_claimAddress_a w (List.mem_append_left _ h)
theorem ic_c_claimAddress_a_c_putClaim : ∀ w ∈ v_c_putClaim, w ∈ v_c_claimAddress_a := fun w h => it_c_claimAddress_a w (List.mem_append_right _ (h))
theorem gt_c_claimAddress_a : ∀ w ∈ tl_c_claimAddress_a, goodWord w = true := List.forall_mem_append.mpr ⟨gw_wsX40, gw_c_putClaim⟩
theorem gw_c_claimAddress_a : ∀ w ∈ v_c_claimAddress_a, goodWord w = true := List.forall_mem_cons.mpr ⟨by decide +kernel, List.forall_mem_append.mpr ⟨List.all_eq_true.mp (by decide +kernel), gt_c_claimAddress_a⟩⟩
theorem g_c_claimAddress_a_c_putClaim_108 : GoodIn v_c_claimAddress_a (wsV RX4 108 RX5 yX5_putClaim v_c_putClaim) := goodIn_app (goodIn_r [.methodLink RX4 108 yX5_putClaim, .instanceMethod yX5_putClaim, .selects RX5 yX5_putClaim yX5_putClaim, .initialized RX5] [6, 7, 8, 5] (by decide +kernel) (by decide +kernel)) (fun w h => ⟨ic_c_claimAddress_a_c_putClaim w h, good_of_word (gw_c_putClaim w h)⟩)
set_option maxHeartbeats 4000000 in
set_option maxRecDepth 100000 in
theorem c_claimAddress_a (l : Launch) (dC : Nat → ClassId) (dI : Nat → Nat → Nat) (an : Nat) (ar : Nat) (ae : Nat) (as : Nat) (ai : Nat) (ag : Nat) (ac : Nat) (au : Nat) (awi : Nat) (st : Nat) (arf : Nat) (sz : Nat)  : Met l yX4_claimAddress v_c_claimAddress_a ({ frames := 1, cells := 0, slots := 0, locals := 20 }) (va_Pc [.ref an, .int 10] (fun U => U.heap.size = sz ∧ va_P (dC, dI) vwCl [(an, .inr (5, [.int 0, .int 5, .int 10, .int 0, .int (nI awi), .ref ar, .ref ae, .ref as, .ref ai, .ref ag, .ref ac, .ref au, .int 0, .int 0, .int 10, .int (-1), .int 0, .int 0])), (ar, .inr (6, [.int 0, .int 5, .ref st, .null, .null, .int 0, .int 0, .int 0, .int 0, .int 0, .ref arf, .int 0]))] U.heap ∧ va_K (dC, dI) vwCl [] U ∧ va_D (fun _ => True) [(an, .inr (5, [.int 0, .int 5, .int 10, .int 0, .int (nI awi), .ref ar, .ref ae, .ref as, .ref ai, .ref ag, .ref ac, .ref au, .int 0, .int 0, .int 10, .int (-1), .int 0, .int 0])), (ar, .inr (6, [.int 0, .int 5, .ref st, .null, .null, .int 0, .int 0, .int 0, .int 0, .int 0, .ref arf, .int 0]))] ∧ ev U)) (va_Qv (fun _ : Unit => True) (fun (_ : Unit) (t : State) => va_P (dC, dI) vwCl [(an, .inr (5, [.int 0, .int 5, .int 10, .int 0, .int (nI awi), .ref ar, .ref ae, .ref as, .ref ai, .ref ag, .ref ac, .ref au, .int 0, .int 1, .int 10, .int (-1), .int 0, .int 0])), (ar, .inr (6, [.int 0, .int 5, .ref st, .null, .null, .int 0, .int 0, .int 0, .int 0, .int 1, .ref arf, .int 0]))] t.heap ∧ va_K (dC, dI) vwCl [] t ∧ va_D (va_A [(an, .inr (5, [.int 0, .int 5, .int 10, .int 0, .int (nI awi), .ref ar, .ref ae, .ref as, .ref ai, .ref ag, .ref ac, .ref au, .int 0, .int 0, .int 10, .int (-1), .int 0, .int 0])), (ar, .inr (6, [.int 0, .int 5, .ref st, .null, .null, .int 0, .int 0, .int 0, .int 0, .int 0, .ref arf, .int 0]))] sz) [(an, .inr (5, [.int 0, .int 5, .int 10, .int 0, .int (nI awi), .ref ar, .ref ae, .ref as, .ref ai, .ref ag, .ref ac, .ref au, .int 0, .int 1, .int 10, .int (-1), .int 0, .int 0])), (ar, .inr (6, [.int 0, .int 5, .ref st, .null, .null, .int 0, .int 0, .int 0, .int 0, .int 1, .ref arf, .int 0]))]) (va_A [(an, .inr (5, [.int 0, .int 5, .int 10, .int 0, .int (nI awi), .ref ar, .ref ae, .ref as, .ref ai, .ref ag, .ref ac, .ref au, .int 0, .int 0, .int 10, .int (-1), .int 0, .int 0])), (ar, .inr (6, [.int 0, .int 5, .ref st, .null, .null, .int 0, .int 0, .int 0, .int 0, .int 0, .ref arf, .int 0]))] sz)) 0 0 (va_A [(an, .inr (5, [.int 0, .int 5, .int 10, .int 0, .int (nI awi), .ref ar, .ref ae, .ref as, .ref ai, .ref ag, .ref ac, .ref au, .int 0, .int 0, .int 10, .int (-1), .int 0, .int 0])), (ar, .inr (6, [.int 0, .int 5, .ref st, .null, .null, .int 0, .int 0, .int 0, .int 0, .int 0, .ref arf, .int 0]))] sz) := by
  refine Met.ofW (cc := cX4_claimAddress) (maxL := 2) (ret := none) (by decide) rfl ?_
  intro p e s m args below meth c s₁ B hml hv
  obtain ⟨rfl, hsz, hP, hK, hD0, hE⟩ := hv
  have hx := B.exec
  have hb := B.bytes
  have hr := B.returns
  have hts := atoms_spec (ws := v_c_claimAddress_a) B.pre
  have hown : s.vm.findClass RX4 = some m.cls := findClass_of_methodNamed B.named
  have hlocks := B.notSynchronized
  subst hsz
  have hD := hD0.self (sz := s.heap.size)
  generalize hAe : va_A [(an, .inr (5, [.int 0, .int 5, .int 10, .int 0, .int (nI awi), .ref ar, .ref ae, .ref as, .ref ai, .ref ag, .ref ac, .ref au, .int 0, .int 0, .int 10, .int (-1), .int 0, .int 0])), (ar, .inr (6, [.int 0, .int 5, .ref st, .null, .null, .int 0, .int 0, .int 0, .int 0, .int 0, .ref arf, .int 0]))] s.heap.size = A at hD ⊢
  have hA : ∀ q : Nat, s.heap.size ≤ q → A q := fun q h => by rw [← hAe]; exact Or.inr h
  have hS : va_S A s.heap s.heap [] := va_S.rf
  replace hP : va_P (dC, dI) vwCl [(an, .inr (5, [.int 0, .int 5, .int 10, .int 0, .int (nI awi), .ref ar, .ref ae, .ref as, .ref ai, .ref ag, .ref ac, .ref au, .int 0, .int 0, .int 10, .int (-1), .int 0, .int 0])), (ar, .inr (6, [.int 0, .int 5, .ref st, .null, .null, .int 0, .int 0, .int 0, .int 0, .int 0, .ref arf, .int 0]))] s.heap := hP
  have hl := lv_entry ([.ref an, .int 10]) (n := 2) (Nat.le_of_ble_eq_true rfl)
  rw [lg_entry_eq]
  generalize (lg_sl ([.ref an, .int 10]) ++ List.replicate (2 - (lg_sl ([.ref an, .int 10])).length) Slot.unset).toArray = ls at hl ⊢
  replace hl : lv_has ls 2 [(0, .ref an), (1, .int 10)] := hl
  obtain ⟨H, hH⟩ : ∃ z : Heap, z = s.heap := ⟨_, rfl⟩
  rw [← hH]
  replace hS : va_S A s.heap H [] := by rw [hH]; exact va_S.rf
  replace hP : va_P (dC, dI) vwCl [(an, .inr (5, [.int 0, .int 5, .int 10, .int 0, .int (nI awi), .ref ar, .ref ae, .ref as, .ref ai, .ref ag, .ref ac, .ref au, .int 0, .int 0, .int 10, .int (-1), .int 0, .int 0])), (ar, .inr (6, [.int 0, .int 5, .ref st, .null, .null, .int 0, .int 0, .int 0, .int 0, .int 0, .ref arf, .int 0]))] H := by rw [hH]; exact hP
  clear hH
  refine lv_aload_n hx hb dX4_claimAddress_0 rfl (lv_at hl 0 rfl) ?_
  refine lv_iload_n hx hb dX4_claimAddress_1 rfl (lv_at hl 1 rfl) ?_
  refine va_put (D := (dC, dI)) (ci := 5) (v := .int 10) (ty := .int) (C := RX4) (T := TX4) (N := 18) hx hb hts in_c_claimAddress_a_X4 tyX4 tyX4_ok nmX4 hown hK hP hD hS 0 rfl rfl 14 (by decide) (hts (.fieldLink RX4 81 "ClaimBus$Node" "address" "I") (List.mem_of_getElem? (i := 1) rfl)) (fun _ h9 => h9) rfl (by decide +kernel) rfl rfl (Nat.le_of_ble_eq_true rfl) dX4_claimAddress_2 (fun H locs hP hD hS => ?_)
  replace hP : va_P (dC, dI) vwCl [(an, .inr (5, [.int 0, .int 5, .int 10, .int 0, .int (nI awi), .ref ar, .ref ae, .ref as, .ref ai, .ref ag, .ref ac, .ref au, .int 0, .int 0, .int 10, .int (-1), .int 0, .int 0])), (ar, .inr (6, [.int 0, .int 5, .ref st, .null, .null, .int 0, .int 0, .int 0, .int 0, .int 0, .ref arf, .int 0]))] H := hP
  replace hD : va_D A [(an, .inr (5, [.int 0, .int 5, .int 10, .int 0, .int (nI awi), .ref ar, .ref ae, .ref as, .ref ai, .ref ag, .ref ac, .ref au, .int 0, .int 0, .int 10, .int (-1), .int 0, .int 0])), (ar, .inr (6, [.int 0, .int 5, .ref st, .null, .null, .int 0, .int 0, .int 0, .int 0, .int 0, .ref arf, .int 0]))] := hD
  refine lv_aload_n hx hb dX4_claimAddress_5 rfl (lv_at hl 0 rfl) ?_
  refine lv_iconst (v := 1) hx hb dX4_claimAddress_6 (by decide) ?_
  refine va_put (D := (dC, dI)) (ci := 5) (v := .int 1) (ty := .int) (C := RX4) (T := TX4) (N := 18) hx hb hts in_c_claimAddress_a_X4 tyX4 tyX4_ok nmX4 hown hK hP hD hS 0 rfl rfl 13 (by decide) (hts (.fieldLink RX4 53 "ClaimBus$Node" "state" "I") (List.mem_of_getElem? (i := 2) rfl)) (fun _ h9 => h9) rfl (by decide +kernel) rfl rfl (Nat.le_of_ble_eq_true rfl) dX4_claimAddress_7 (fun H locs hP hD hS => ?_)
  replace hP : va_P (dC, dI) vwCl [(an, .inr (5, [.int 0, .int 5, .int 10, .int 0, .int (nI awi), .ref ar, .ref ae, .ref as, .ref ai, .ref ag, .ref ac, .ref au, .int 0, .int 1, .int 10, .int (-1), .int 0, .int 0])), (ar, .inr (6, [.int 0, .int 5, .ref st, .null, .null, .int 0, .int 0, .int 0, .int 0, .int 0, .ref arf, .int 0]))] H := hP
  replace hD : va_D A [(an, .inr (5, [.int 0, .int 5, .int 10, .int 0, .int (nI awi), .ref ar, .ref ae, .ref as, .ref ai, .ref ag, .ref ac, .ref au, .int 0, .int 1, .int 10, .int (-1), .int 0, .int 0])), (ar, .inr (6, [.int 0, .int 5, .ref st, .null, .null, .int 0, .int 0, .int 0, .int 0, .int 0, .ref arf, .int 0]))] := hD
  refine lv_aload_n hx hb dX4_claimAddress_10 rfl (lv_at hl 0 rfl) ?_
  refine lv_iconst (v := -1) hx hb dX4_claimAddress_11 (by decide) ?_
  refine va_put (D := (dC, dI)) (ci := 5) (v := .int (-1)) (ty := .int) (C := RX4) (T := TX4) (N := 18) hx hb hts in_c_claimAddress_a_X4 tyX4 tyX4_ok nmX4 hown hK hP hD hS 0 rfl rfl 15 (by decide) (hts (.fieldLink RX4 56 "ClaimBus$Node" "claimCarriedAt" "I") (List.mem_of_getElem? (i := 3) rfl)) (fun _ h9 => h9) rfl (by decide +kernel) rfl rfl (Nat.le_of_ble_eq_true rfl) dX4_claimAddress_12 (fun H locs hP hD hS => ?_)
  replace hP : va_P (dC, dI) vwCl [(an, .inr (5, [.int 0, .int 5, .int 10, .int 0, .int (nI awi), .ref ar, .ref ae, .ref as, .ref ai, .ref ag, .ref ac, .ref au, .int 0, .int 1, .int 10, .int (-1), .int 0, .int 0])), (ar, .inr (6, [.int 0, .int 5, .ref st, .null, .null, .int 0, .int 0, .int 0, .int 0, .int 0, .ref arf, .int 0]))] H := hP
  replace hD : va_D A [(an, .inr (5, [.int 0, .int 5, .int 10, .int 0, .int (nI awi), .ref ar, .ref ae, .ref as, .ref ai, .ref ag, .ref ac, .ref au, .int 0, .int 1, .int 10, .int (-1), .int 0, .int 0])), (ar, .inr (6, [.int 0, .int 5, .ref st, .null, .null, .int 0, .int 0, .int 0, .int 0, .int 0, .ref arf, .int 0]))] := hD
  refine lv_aload_n hx hb dX4_claimAddress_15 rfl (lv_at hl 0 rfl) ?_
  refine va_get (D := (dC, dI)) (ci := 5) (v := .ref ar) (C := RX4) (T := TX4) (N := 18) hx hb hts in_c_claimAddress_a_X4 hown hK hP 0 rfl rfl 5 (by decide) (hts (.fieldLink RX4 89 "ClaimBus$Node" "row" "LClaimBus$Row;") (List.mem_of_getElem? (i := 4) rfl)) (fun _ h9 => h9) rfl dX4_claimAddress_16 ?_
  have hPc := hP.sub (ws' := [(ar, .inr (6, [.int 0, .int 5, .ref st, .null, .null, .int 0, .int 0, .int 0, .int 0, .int 0, .ref arf, .int 0]))]) [1] rfl
  have hDc := hD.sub (ws' := [(ar, .inr (6, [.int 0, .int 5, .ref st, .null, .null, .int 0, .int 0, .int 0, .int 0, .int 0, .ref arf, .int 0]))]) [1] (by decide +kernel) rfl
  have hKc := hK.sub (tys' := []) [] rfl
  have hFc := va_free (wc := [(ar, .inr (6, [.int 0, .int 5, .ref st, .null, .null, .int 0, .int 0, .int 0, .int 0, .int 0, .ref arf, .int 0]))]) hD hS hA [1] rfl
  refine va_callv (va_runV (As := []) (rest := []) ⟨hx, hb, hml, hown, hts⟩ (c_putClaim l dC dI (ar) (0) (5) (st) (arf) (0) (0) H.size) (cwV 0 hts g_c_claimAddress_a_c_putClaim_108 rfl rfl rfl (by decide +kernel) ⟨Nat.le_of_ble_eq_true rfl, Nat.le_of_ble_eq_true rfl⟩) ⟨fun a U g mk q => by obtain ⟨q0, q1, qP, qK, qD, qE⟩ := q; exact ⟨q0, q1, qP, va_K.moved (u := U) (U := U.calling g mk a) (Vm.Alike.refl U.vm) qK, qD, ev.same (u := U) (U := U.calling g mk a) rfl qE⟩, va_recv hKc hPc (ci := 6) (q0 := 0) rfl rfl, fun U hU hW => ⟨rfl, by rw [hU], by rw [hU]; exact hPc, va_K.moved hW.alike hKc, hDc.weaken (fun _ _ _ _ => trivial), hE.warm hW⟩⟩ rfl rfl hl.1 rfl (lv_room (Nat.le_of_ble_eq_true rfl)) dX4_claimAddress_19 ⟨Nat.le_of_ble_eq_true rfl, Nat.le_of_ble_eq_true rfl⟩) hS (fun q _ h => hFc q h) hFc (fun u t H1 locs ht hvm hw hB hz1 hk1 hS => ?_)
  clear hPc hDc hKc
  obtain ⟨hP1, hK1, hD1⟩ := hB
  rw [ht] at hP1
  have hK1 := va_K.moved hvm.symm hK1
  obtain ⟨hP, hD⟩ := va_join (wr := [(an, .inr (5, [.int 0, .int 5, .int 10, .int 0, .int (nI awi), .ref ar, .ref ae, .ref as, .ref ai, .ref ag, .ref ac, .ref au, .int 0, .int 1, .int 10, .int (-1), .int 0, .int 0]))]) (w1 := [(ar, .inr (6, [.int 0, .int 5, .ref st, .null, .null, .int 0, .int 0, .int 0, .int 0, .int 1, .ref arf, .int 0]))]) hP hD [1] [0] rfl rfl (by decide +kernel) (by decide +kernel) hk1 hFc hP1 hD1
  generalize H1 = H at hP hS ⊢
  replace hP : va_P (dC, dI) vwCl [(an, .inr (5, [.int 0, .int 5, .int 10, .int 0, .int (nI awi), .ref ar, .ref ae, .ref as, .ref ai, .ref ag, .ref ac, .ref au, .int 0, .int 1, .int 10, .int (-1), .int 0, .int 0])), (ar, .inr (6, [.int 0, .int 5, .ref st, .null, .null, .int 0, .int 0, .int 0, .int 0, .int 1, .ref arf, .int 0]))] H := hP
  replace hD : va_D A [(an, .inr (5, [.int 0, .int 5, .int 10, .int 0, .int (nI awi), .ref ar, .ref ae, .ref as, .ref ai, .ref ag, .ref ac, .ref au, .int 0, .int 1, .int 10, .int (-1), .int 0, .int 0])), (ar, .inr (6, [.int 0, .int 5, .ref st, .null, .null, .int 0, .int 0, .int 0, .int 0, .int 1, .ref arf, .int 0]))] := hD
  clear hw
  have hP9 := hP.sub (ws' := [(an, .inr (5, [.int 0, .int 5, .int 10, .int 0, .int (nI awi), .ref ar, .ref ae, .ref as, .ref ai, .ref ag, .ref ac, .ref au, .int 0, .int 1, .int 10, .int (-1), .int 0, .int 0])), (ar, .inr (6, [.int 0, .int 5, .ref st, .null, .null, .int 0, .int 0, .int 0, .int 0, .int 1, .ref arf, .int 0]))]) [0, 1] rfl
  have hD9 := hD.sub (ws' := [(an, .inr (5, [.int 0, .int 5, .int 10, .int 0, .int (nI awi), .ref ar, .ref ae, .ref as, .ref ai, .ref ag, .ref ac, .ref au, .int 0, .int 1, .int 10, .int (-1), .int 0, .int 0])), (ar, .inr (6, [.int 0, .int 5, .ref st, .null, .null, .int 0, .int 0, .int 0, .int 0, .int 1, .ref arf, .int 0]))]) [0, 1] (by decide +kernel) rfl
  have hK9 := hK.sub (tys' := []) [] rfl
  exact W.vret hx hb hr (fun t ht hW => ⟨⟨(), rfl, trivial, ⟨by rw [ht]; exact hP9, va_K.moved hW.alike hK9, hD9⟩⟩, hS.F ht⟩) hS.2.2 dX4_claimAddress_22

noncomputable def tl_c_start_a : List Cond := wsX40 ++ (v_c_find_0 ++ (v_c_claimAddress_a))
noncomputable def v_c_start_a : List Cond := .code yX10_start cX10_start 3 (some .boolean) :: ([.initialized RX10, .methodLink RX10 53 yX10_find, .instanceMethod yX10_find, .selects RX10 yX10_find yX10_find, .fieldLink RX10 57 "ClaimBus$Node" "state" "I", .fieldLink RX10 60 "ClaimBus$Node" "wanted" "I", .initialized RX4, .methodLink RX10 63 yX4_claimAddress, .instanceMethod yX4_claimAddress, .selects RX4 yX4_claimAddress yX4_claimAddress] ++ tl_c_start_a)
theorem it_c_start_a : ∀ w ∈ tl_c_start_a, w ∈ v_c_start_a := fun w h => List.mem_cons_of_mem _ (List.mem_append_right _ h)
theorem in_c_start_a_X4 : ∀ w ∈ wsX40, w ∈ v_c_start_a := fun w h => it_c_start_a w (List.mem_append_left _ h)
theorem ic_c_start_a_c_find_0 : ∀ w ∈ v_c_find_0, w ∈ v_c_start_a := fun w h => it_c_start_a w (List.mem_append_right _ (List.mem_append_left _ h))
theorem ic_c_start_a_c_claimAddress_a : ∀ w ∈ v_c_claimAddress_a, w ∈ v_c_start_a := fun w h => it_c_start_a w (List.mem_append_right _ (List.mem_append_right _ (h)))
theorem gt_c_start_a : ∀ w ∈ tl_c_start_a, goodWord w = true := List.forall_mem_append.mpr ⟨gw_wsX40, List.forall_mem_append.mpr ⟨gw_c_find_0, gw_c_claimAddress_a⟩⟩
theorem gw_c_start_a : ∀ w ∈ v_c_start_a, goodWord w = true := List.forall_mem_cons.mpr ⟨by decide +kernel, List.forall_mem_append.mpr ⟨List.all_eq_true.mp (by decide +kernel), gt_c_start_a⟩⟩
theorem g_c_start_a_c_find_0_53 : GoodIn v_c_start_a (wsV RX10 53 RX10 yX10_find v_c_find_0) := goodIn_app (goodIn_r [.methodLink RX10 53 yX10_find, .instanceMethod yX10_find, .selects RX10 yX10_find yX10_find, .initialized RX10] [2, 3, 4, 1] (by decide +kernel) (by decide +kernel)) (fun w h => ⟨ic_c_start_a_c_find_0 w h, good_of_word (gw_c_find_0 w h)⟩)
theorem g_c_start_a_c_claimAddress_a_63 : GoodIn v_c_start_a (wsV RX10 63 RX4 yX4_claimAddress v_c_claimAddress_a) := goodIn_app (goodIn_r [.methodLink RX10 63 yX4_claimAddress, .instanceMethod yX4_claimAddress, .selects RX4 yX4_claimAddress yX4_claimAddress, .initialized RX4] [8, 9, 10, 7] (by decide +kernel) (by decide +kernel)) (fun w h => ⟨ic_c_start_a_c_claimAddress_a w h, good_of_word (gw_c_claimAddress_a w h)⟩)
set_option maxHeartbeats 4000000 in
set_option maxRecDepth 100000 in
theorem c_start_a (l : Launch) (dC : Nat → ClassId) (dI : Nat → Nat → Nat) (x : Nat) (nr : Nat) (st : Nat) (lf : Nat) (cN : ClassId) (fn : Nat → Option Nat) (an : Nat) (ar : Nat) (ae : Nat) (as : Nat) (ai : Nat) (ag : Nat) (ac : Nat) (au : Nat) (awi : Nat) (arf : Nat) (bn : Nat) (sz : Nat) (n0 : fn 0 = some an) (n1 : fn 1 = some bn) : Met l yX10_start v_c_start_a ({ frames := 2, cells := 0, slots := 0, locals := 41 }) (va_Pc [.ref x, .int 0] (fun U => U.heap.size = sz ∧ va_P (dC, dI) vwCl [(x, .inr (11, [.ref nr, .ref st, .ref lf, .int 2, .int 0, .int 0, .int (-1), .int 0])), (nr, .inl (cN, 8, .inr (.inr (.inr (.inr fn))))), (an, .inr (5, [.int 0, .int 5, .int 10, .int 0, .int (nI awi), .ref ar, .ref ae, .ref as, .ref ai, .ref ag, .ref ac, .ref au, .int 0, .int 0, .int 10, .int (-1), .int 0, .int 0])), (ar, .inr (6, [.int 0, .int 5, .ref st, .null, .null, .int 0, .int 0, .int 0, .int 0, .int 0, .ref arf, .int 0]))] U.heap ∧ va_K (dC, dI) vwCl [(cN, (.object RX4))] U ∧ va_D (fun _ => True) [(x, .inr (11, [.ref nr, .ref st, .ref lf, .int 2, .int 0, .int 0, .int (-1), .int 0])), (nr, .inl (cN, 8, .inr (.inr (.inr (.inr fn))))), (an, .inr (5, [.int 0, .int 5, .int 10, .int 0, .int (nI awi), .ref ar, .ref ae, .ref as, .ref ai, .ref ag, .ref ac, .ref au, .int 0, .int 0, .int 10, .int (-1), .int 0, .int 0])), (ar, .inr (6, [.int 0, .int 5, .ref st, .null, .null, .int 0, .int 0, .int 0, .int 0, .int 0, .ref arf, .int 0]))] ∧ ev U)) (va_Qi (fun (r : Int32) (_ : Unit) => r = 1) (fun (_ : Unit) (t : State) => va_P (dC, dI) vwCl [(x, .inr (11, [.ref nr, .ref st, .ref lf, .int 2, .int 0, .int 0, .int (-1), .int 0])), (nr, .inl (cN, 8, .inr (.inr (.inr (.inr fn))))), (an, .inr (5, [.int 0, .int 5, .int 10, .int 0, .int (nI awi), .ref ar, .ref ae, .ref as, .ref ai, .ref ag, .ref ac, .ref au, .int 0, .int 1, .int 10, .int (-1), .int 0, .int 0])), (ar, .inr (6, [.int 0, .int 5, .ref st, .null, .null, .int 0, .int 0, .int 0, .int 0, .int 1, .ref arf, .int 0]))] t.heap ∧ va_K (dC, dI) vwCl [(cN, (.object RX4))] t ∧ va_D (va_A [(x, .inr (11, [.ref nr, .ref st, .ref lf, .int 2, .int 0, .int 0, .int (-1), .int 0])), (nr, .inl (cN, 8, .inr (.inr (.inr (.inr fn))))), (an, .inr (5, [.int 0, .int 5, .int 10, .int 0, .int (nI awi), .ref ar, .ref ae, .ref as, .ref ai, .ref ag, .ref ac, .ref au, .int 0, .int 0, .int 10, .int (-1), .int 0, .int 0])), (ar, .inr (6, [.int 0, .int 5, .ref st, .null, .null, .int 0, .int 0, .int 0, .int 0, .int 0, .ref arf, .int 0]))] sz) [(x, .inr (11, [.ref nr, .ref st, .ref lf, .int 2, .int 0, .int 0, .int (-1), .int 0])), (nr, .inl (cN, 8, .inr (.inr (.inr (.inr fn))))), (an, .inr (5, [.int 0, .int 5, .int 10, .int 0, .int (nI awi), .ref ar, .ref ae, .ref as, .ref ai, .ref ag, .ref ac, .ref au, .int 0, .int 1, .int 10, .int (-1), .int 0, .int 0])), (ar, .inr (6, [.int 0, .int 5, .ref st, .null, .null, .int 0, .int 0, .int 0, .int 0, .int 1, .ref arf, .int 0]))]) (va_A [(x, .inr (11, [.ref nr, .ref st, .ref lf, .int 2, .int 0, .int 0, .int (-1), .int 0])), (nr, .inl (cN, 8, .inr (.inr (.inr (.inr fn))))), (an, .inr (5, [.int 0, .int 5, .int 10, .int 0, .int (nI awi), .ref ar, .ref ae, .ref as, .ref ai, .ref ag, .ref ac, .ref au, .int 0, .int 0, .int 10, .int (-1), .int 0, .int 0])), (ar, .inr (6, [.int 0, .int 5, .ref st, .null, .null, .int 0, .int 0, .int 0, .int 0, .int 0, .ref arf, .int 0]))] sz)) 0 0 (va_A [(x, .inr (11, [.ref nr, .ref st, .ref lf, .int 2, .int 0, .int 0, .int (-1), .int 0])), (nr, .inl (cN, 8, .inr (.inr (.inr (.inr fn))))), (an, .inr (5, [.int 0, .int 5, .int 10, .int 0, .int (nI awi), .ref ar, .ref ae, .ref as, .ref ai, .ref ag, .ref ac, .ref au, .int 0, .int 0, .int 10, .int (-1), .int 0, .int 0])), (ar, .inr (6, [.int 0, .int 5, .ref st, .null, .null, .int 0, .int 0, .int 0, .int 0, .int 0, .ref arf, .int 0]))] sz) := by
  refine Met.ofW (cc := cX10_start) (maxL := 3) (ret := (some .boolean)) (by decide) rfl ?_
  intro p e s m args below meth c s₁ B hml hv
  obtain ⟨rfl, hsz, hP, hK, hD0, hE⟩ := hv
  have hx := B.exec
  have hb := B.bytes
  have hr := B.returns
  have hts := atoms_spec (ws := v_c_start_a) B.pre
  have hown : s.vm.findClass RX10 = some m.cls := findClass_of_methodNamed B.named
  have hlocks := B.notSynchronized
  subst hsz
  have hD := hD0.self (sz := s.heap.size)
  generalize hAe : va_A [(x, .inr (11, [.ref nr, .ref st, .ref lf, .int 2, .int 0, .int 0, .int (-1), .int 0])), (nr, .inl (cN, 8, .inr (.inr (.inr (.inr fn))))), (an, .inr (5, [.int 0, .int 5, .int 10, .int 0, .int (nI awi), .ref ar, .ref ae, .ref as, .ref ai, .ref ag, .ref ac, .ref au, .int 0, .int 0, .int 10, .int (-1), .int 0, .int 0])), (ar, .inr (6, [.int 0, .int 5, .ref st, .null, .null, .int 0, .int 0, .int 0, .int 0, .int 0, .ref arf, .int 0]))] s.heap.size = A at hD ⊢
  have hA : ∀ q : Nat, s.heap.size ≤ q → A q := fun q h => by rw [← hAe]; exact Or.inr h
  have hS : va_S A s.heap s.heap [] := va_S.rf
  replace hP : va_P (dC, dI) vwCl [(x, .inr (11, [.ref nr, .ref st, .ref lf, .int 2, .int 0, .int 0, .int (-1), .int 0])), (nr, .inl (cN, 8, .inr (.inr (.inr (.inr fn))))), (an, .inr (5, [.int 0, .int 5, .int 10, .int 0, .int (nI awi), .ref ar, .ref ae, .ref as, .ref ai, .ref ag, .ref ac, .ref au, .int 0, .int 0, .int 10, .int (-1), .int 0, .int 0])), (ar, .inr (6, [.int 0, .int 5, .ref st, .null, .null, .int 0, .int 0, .int 0, .int 0, .int 0, .ref arf, .int 0]))] s.heap := hP
  have hl := lv_entry ([.ref x, .int 0]) (n := 3) (Nat.le_of_ble_eq_true rfl)
  rw [lg_entry_eq]
  generalize (lg_sl ([.ref x, .int 0]) ++ List.replicate (3 - (lg_sl ([.ref x, .int 0])).length) Slot.unset).toArray = ls at hl ⊢
  replace hl : lv_has ls 3 [(0, .ref x), (1, .int 0)] := hl
  obtain ⟨H, hH⟩ : ∃ z : Heap, z = s.heap := ⟨_, rfl⟩
  rw [← hH]
  replace hS : va_S A s.heap H [] := by rw [hH]; exact va_S.rf
  replace hP : va_P (dC, dI) vwCl [(x, .inr (11, [.ref nr, .ref st, .ref lf, .int 2, .int 0, .int 0, .int (-1), .int 0])), (nr, .inl (cN, 8, .inr (.inr (.inr (.inr fn))))), (an, .inr (5, [.int 0, .int 5, .int 10, .int 0, .int (nI awi), .ref ar, .ref ae, .ref as, .ref ai, .ref ag, .ref ac, .ref au, .int 0, .int 0, .int 10, .int (-1), .int 0, .int 0])), (ar, .inr (6, [.int 0, .int 5, .ref st, .null, .null, .int 0, .int 0, .int 0, .int 0, .int 0, .ref arf, .int 0]))] H := by rw [hH]; exact hP
  clear hH
  refine lv_aload_n hx hb dX10_start_0 rfl (lv_at hl 0 rfl) ?_
  refine lv_iload_n hx hb dX10_start_1 rfl (lv_at hl 1 rfl) ?_
  have hPc := hP.sub (ws' := [(x, .inr (11, [.ref nr, .ref st, .ref lf, .int 2, .int (nI 0), .int (nI 0), .int (-1), .int 0])), (nr, .inl (cN, 8, .inr (.inr (.inr (.inr fn)))))]) [0, 1] rfl
  have hDc := hD.sub (ws' := [(x, .inr (11, [.ref nr, .ref st, .ref lf, .int 2, .int (nI 0), .int (nI 0), .int (-1), .int 0])), (nr, .inl (cN, 8, .inr (.inr (.inr (.inr fn)))))]) [0, 1] (by decide +kernel) rfl
  have hKc := hK.sub (tys' := [(cN, (.object RX4))]) [0] rfl
  have hFc := ro_free hS hA
  refine va_callq (va_runV (As := [.int 0]) (rest := []) ⟨hx, hb, hml, hown, hts⟩ (c_find_0 l dC dI (x) (nr) (st) (lf) (0) (0) ((-1)) (cN) (fn) (an) H.size n0) (cwV 1 hts g_c_start_a_c_find_0_53 rfl rfl rfl (by decide +kernel) ⟨Nat.le_of_ble_eq_true rfl, Nat.le_of_ble_eq_true rfl⟩) ⟨fun a U g mk q => by obtain ⟨q0, q1, qP, qK, qD, qE⟩ := q; exact ⟨q0, q1, qP, va_K.moved (u := U) (U := U.calling g mk a) (Vm.Alike.refl U.vm) qK, qD, ev.same (u := U) (U := U.calling g mk a) rfl qE⟩, va_recv hKc hPc (ci := 11) (q0 := 0) rfl rfl, fun U hU hW => ⟨rfl, by rw [hU], by rw [hU]; exact hPc, va_K.moved hW.alike hKc, hDc.weaken (fun _ _ _ _ => trivial), hE.warm hW⟩⟩ rfl rfl hl.1 rfl (lv_room (Nat.le_of_ble_eq_true rfl)) dX10_start_2 ⟨Nat.le_of_ble_eq_true rfl, Nat.le_of_ble_eq_true rfl⟩) hS (fun q _ h => hFc q h) hFc (fun r_1 u t H1 locs ht hvm hw hB hz1 hk1 hS => ?_)
  clear hPc hDc hKc
  replace hP := ro_keep hP hk1
  generalize H1 = H at hP hS ⊢
  replace hP : va_P (dC, dI) vwCl [(x, .inr (11, [.ref nr, .ref st, .ref lf, .int 2, .int 0, .int 0, .int (-1), .int 0])), (nr, .inl (cN, 8, .inr (.inr (.inr (.inr fn))))), (an, .inr (5, [.int 0, .int 5, .int 10, .int 0, .int (nI awi), .ref ar, .ref ae, .ref as, .ref ai, .ref ag, .ref ac, .ref au, .int 0, .int 0, .int 10, .int (-1), .int 0, .int 0])), (ar, .inr (6, [.int 0, .int 5, .ref st, .null, .null, .int 0, .int 0, .int 0, .int 0, .int 0, .ref arf, .int 0]))] H := hP
  have hw := hw.symm
  subst hw
  refine W.eq (g2 := F0 m 5 ls [.ref an]) rfl ?_
  refine lv_astore_n (lv' := [(2, .ref an), (0, .ref x), (1, .int 0)]) hx hb dX10_start_5 rfl hl (by decide) rfl (fun ls hl => ?_)
  refine lv_aload_n hx hb dX10_start_6 rfl (lv_at hl 0 rfl) ?_
  refine lv_ifnull hx hb dX10_start_7 ?_
  refine lv_aload_n hx hb dX10_start_10 rfl (lv_at hl 0 rfl) ?_
  refine va_get (D := (dC, dI)) (ci := 5) (v := .int 0) (C := RX4) (T := TX4) (N := 18) hx hb hts in_c_start_a_X4 hown hK hP 2 rfl rfl 13 (by decide) (hts (.fieldLink RX10 57 "ClaimBus$Node" "state" "I") (List.mem_of_getElem? (i := 5) rfl)) (fun _ h9 => h9) rfl dX10_start_11 ?_
  refine lv_if_eq (tgt := 19) hx hb dX10_start_14 (by decide) (fun c_2 => ?_) (fun c_2 => ?_)
  rotate_left
  · exact absurd (by decide) c_2
  refine lv_aload_n hx hb dX10_start_19 rfl (lv_at hl 0 rfl) ?_
  refine lv_aload_n hx hb dX10_start_20 rfl (lv_at hl 0 rfl) ?_
  refine va_get (D := (dC, dI)) (ci := 5) (v := .int 10) (C := RX4) (T := TX4) (N := 18) hx hb hts in_c_start_a_X4 hown hK hP 2 rfl rfl 2 (by decide) (hts (.fieldLink RX10 60 "ClaimBus$Node" "wanted" "I") (List.mem_of_getElem? (i := 6) rfl)) (fun _ h9 => h9) rfl dX10_start_21 ?_
  have hPc := hP.sub (ws' := [(an, .inr (5, [.int 0, .int 5, .int 10, .int 0, .int (nI awi), .ref ar, .ref ae, .ref as, .ref ai, .ref ag, .ref ac, .ref au, .int 0, .int 0, .int 10, .int (-1), .int 0, .int 0])), (ar, .inr (6, [.int 0, .int 5, .ref st, .null, .null, .int 0, .int 0, .int 0, .int 0, .int 0, .ref arf, .int 0]))]) [2, 3] rfl
  have hDc := hD.sub (ws' := [(an, .inr (5, [.int 0, .int 5, .int 10, .int 0, .int (nI awi), .ref ar, .ref ae, .ref as, .ref ai, .ref ag, .ref ac, .ref au, .int 0, .int 0, .int 10, .int (-1), .int 0, .int 0])), (ar, .inr (6, [.int 0, .int 5, .ref st, .null, .null, .int 0, .int 0, .int 0, .int 0, .int 0, .ref arf, .int 0]))]) [2, 3] (by decide +kernel) rfl
  have hKc := hK.sub (tys' := []) [] rfl
  have hFc := va_free (wc := [(an, .inr (5, [.int 0, .int 5, .int 10, .int 0, .int (nI awi), .ref ar, .ref ae, .ref as, .ref ai, .ref ag, .ref ac, .ref au, .int 0, .int 0, .int 10, .int (-1), .int 0, .int 0])), (ar, .inr (6, [.int 0, .int 5, .ref st, .null, .null, .int 0, .int 0, .int 0, .int 0, .int 0, .ref arf, .int 0]))]) hD hS hA [2, 3] rfl
  refine va_callv (va_runV (As := [.int 10]) (rest := []) ⟨hx, hb, hml, hown, hts⟩ (c_claimAddress_a l dC dI (an) (ar) (ae) (as) (ai) (ag) (ac) (au) (awi) (st) (arf) H.size) (cwV 1 hts g_c_start_a_c_claimAddress_a_63 rfl rfl rfl (by decide +kernel) ⟨Nat.le_of_ble_eq_true rfl, Nat.le_of_ble_eq_true rfl⟩) ⟨fun a U g mk q => by obtain ⟨q0, q1, qP, qK, qD, qE⟩ := q; exact ⟨q0, q1, qP, va_K.moved (u := U) (U := U.calling g mk a) (Vm.Alike.refl U.vm) qK, qD, ev.same (u := U) (U := U.calling g mk a) rfl qE⟩, va_recv hKc hPc (ci := 5) (q0 := 0) rfl rfl, fun U hU hW => ⟨rfl, by rw [hU], by rw [hU]; exact hPc, va_K.moved hW.alike hKc, hDc.weaken (fun _ _ _ _ => trivial), hE.warm hW⟩⟩ rfl rfl hl.1 rfl (lv_room (Nat.le_of_ble_eq_true rfl)) dX10_start_24 ⟨Nat.le_of_ble_eq_true rfl, Nat.le_of_ble_eq_true rfl⟩) hS (fun q _ h => hFc q h) hFc (fun u t H1 locs ht hvm hw hB hz1 hk1 hS => ?_)
  clear hPc hDc hKc
  obtain ⟨hP1, hK1, hD1⟩ := hB
  rw [ht] at hP1
  have hK1 := va_K.moved hvm.symm hK1
  obtain ⟨hP, hD⟩ := va_join (wr := [(x, .inr (11, [.ref nr, .ref st, .ref lf, .int 2, .int 0, .int 0, .int (-1), .int 0])), (nr, .inl (cN, 8, .inr (.inr (.inr (.inr fn)))))]) (w1 := [(an, .inr (5, [.int 0, .int 5, .int 10, .int 0, .int (nI awi), .ref ar, .ref ae, .ref as, .ref ai, .ref ag, .ref ac, .ref au, .int 0, .int 1, .int 10, .int (-1), .int 0, .int 0])), (ar, .inr (6, [.int 0, .int 5, .ref st, .null, .null, .int 0, .int 0, .int 0, .int 0, .int 1, .ref arf, .int 0]))]) hP hD [2, 3] [0, 1] rfl rfl (by decide +kernel) (by decide +kernel) hk1 hFc hP1 hD1
  generalize H1 = H at hP hS ⊢
  replace hP : va_P (dC, dI) vwCl [(x, .inr (11, [.ref nr, .ref st, .ref lf, .int 2, .int 0, .int 0, .int (-1), .int 0])), (nr, .inl (cN, 8, .inr (.inr (.inr (.inr fn))))), (an, .inr (5, [.int 0, .int 5, .int 10, .int 0, .int (nI awi), .ref ar, .ref ae, .ref as, .ref ai, .ref ag, .ref ac, .ref au, .int 0, .int 1, .int 10, .int (-1), .int 0, .int 0])), (ar, .inr (6, [.int 0, .int 5, .ref st, .null, .null, .int 0, .int 0, .int 0, .int 0, .int 1, .ref arf, .int 0]))] H := hP
  replace hD : va_D A [(x, .inr (11, [.ref nr, .ref st, .ref lf, .int 2, .int 0, .int 0, .int (-1), .int 0])), (nr, .inl (cN, 8, .inr (.inr (.inr (.inr fn))))), (an, .inr (5, [.int 0, .int 5, .int 10, .int 0, .int (nI awi), .ref ar, .ref ae, .ref as, .ref ai, .ref ag, .ref ac, .ref au, .int 0, .int 1, .int 10, .int (-1), .int 0, .int 0])), (ar, .inr (6, [.int 0, .int 5, .ref st, .null, .null, .int 0, .int 0, .int 0, .int 0, .int 1, .ref arf, .int 0]))] := hD
  clear hw
  refine lv_iconst (v := 1) hx hb dX10_start_27 (by decide) ?_
  have hP9 := hP.sub (ws' := [(x, .inr (11, [.ref nr, .ref st, .ref lf, .int 2, .int 0, .int 0, .int (-1), .int 0])), (nr, .inl (cN, 8, .inr (.inr (.inr (.inr fn))))), (an, .inr (5, [.int 0, .int 5, .int 10, .int 0, .int (nI awi), .ref ar, .ref ae, .ref as, .ref ai, .ref ag, .ref ac, .ref au, .int 0, .int 1, .int 10, .int (-1), .int 0, .int 0])), (ar, .inr (6, [.int 0, .int 5, .ref st, .null, .null, .int 0, .int 0, .int 0, .int 0, .int 1, .ref arf, .int 0]))]) [0, 1, 2, 3] rfl
  have hD9 := hD.sub (ws' := [(x, .inr (11, [.ref nr, .ref st, .ref lf, .int 2, .int 0, .int 0, .int (-1), .int 0])), (nr, .inl (cN, 8, .inr (.inr (.inr (.inr fn))))), (an, .inr (5, [.int 0, .int 5, .int 10, .int 0, .int (nI awi), .ref ar, .ref ae, .ref as, .ref ai, .ref ag, .ref ac, .ref au, .int 0, .int 1, .int 10, .int (-1), .int 0, .int 0])), (ar, .inr (6, [.int 0, .int 5, .ref st, .null, .null, .int 0, .int 0, .int 0, .int 0, .int 1, .ref arf, .int 0]))]) [0, 1, 2, 3] (by decide +kernel) rfl
  have hK9 := hK.sub (tys' := [(cN, (.object RX4))]) [0] rfl
  exact W.zret (v := 1) hx hb hr (by decide) (fun t ht hW => ⟨⟨1, (), rfl, rfl, ⟨by rw [ht]; exact hP9, va_K.moved hW.alike hK9, hD9⟩⟩, hS.F ht⟩) hS.2.2 dX10_start_28

noncomputable def tl_c_claimAddress_b : List Cond := wsX40 ++ (v_c_putClaim)
noncomputable def v_c_claimAddress_b : List Cond := .code yX4_claimAddress cX4_claimAddress 2 none :: ([.fieldLink RX4 81 "ClaimBus$Node" "address" "I", .fieldLink RX4 53 "ClaimBus$Node" "state" "I", .fieldLink RX4 56 "ClaimBus$Node" "claimCarriedAt" "I", .fieldLink RX4 89 "ClaimBus$Node" "row" "LClaimBus$Row;", .initialized RX5, .methodLink RX4 108 yX5_putClaim, .instanceMethod yX5_putClaim, .selects RX5 yX5_putClaim yX5_putClaim] ++ tl_c_claimAddress_b)
theorem it_c_claimAddress_b : ∀ w ∈ tl_c_claimAddress_b, w ∈ v_c_claimAddress_b := fun w h => List.mem_cons_of_mem _ (List.mem_append_right _ h)
theorem in_c_claimAddress_b_X4 : ∀ w ∈ wsX40, w ∈ v_c_claimAddress_b := fun w h => it_c_claimAddress_b w (List.mem_append_left _ h)
theorem ic_c_claimAddress_b_c_putClaim : ∀ w ∈ v_c_putClaim, w ∈ v_c_claimAddress_b := fun w h => it_c_claimAddress_b w (List.mem_append_right _ (h))
theorem gt_c_claimAddress_b : ∀ w ∈ tl_c_claimAddress_b, goodWord w = true := List.forall_mem_append.mpr ⟨gw_wsX40, gw_c_putClaim⟩
theorem gw_c_claimAddress_b : ∀ w ∈ v_c_claimAddress_b, goodWord w = true := List.forall_mem_cons.mpr ⟨by decide +kernel, List.forall_mem_append.mpr ⟨List.all_eq_true.mp (by decide +kernel), gt_c_claimAddress_b⟩⟩
theorem g_c_claimAddress_b_c_putClaim_108 : GoodIn v_c_claimAddress_b (wsV RX4 108 RX5 yX5_putClaim v_c_putClaim) := goodIn_app (goodIn_r [.methodLink RX4 108 yX5_putClaim, .instanceMethod yX5_putClaim, .selects RX5 yX5_putClaim yX5_putClaim, .initialized RX5] [6, 7, 8, 5] (by decide +kernel) (by decide +kernel)) (fun w h => ⟨ic_c_claimAddress_b_c_putClaim w h, good_of_word (gw_c_putClaim w h)⟩)
set_option maxHeartbeats 4000000 in
set_option maxRecDepth 100000 in
theorem c_claimAddress_b (l : Launch) (dC : Nat → ClassId) (dI : Nat → Nat → Nat) (bn : Nat) (br : Nat) (be : Nat) (bs : Nat) (bi : Nat) (bg : Nat) (bc : Nat) (bu : Nat) (bwi : Nat) (st : Nat) (brf : Nat) (sz : Nat)  : Met l yX4_claimAddress v_c_claimAddress_b ({ frames := 1, cells := 0, slots := 0, locals := 20 }) (va_Pc [.ref bn, .int 200] (fun U => U.heap.size = sz ∧ va_P (dC, dI) vwCl [(bn, .inr (5, [.int 0, .int 4, .int 200, .int 1, .int (nI bwi), .ref br, .ref be, .ref bs, .ref bi, .ref bg, .ref bc, .ref bu, .int 0, .int 0, .int 200, .int (-1), .int 0, .int 0])), (br, .inr (6, [.int 0, .int 4, .ref st, .null, .null, .int 0, .int 0, .int 0, .int 0, .int 0, .ref brf, .int 0]))] U.heap ∧ va_K (dC, dI) vwCl [] U ∧ va_D (fun _ => True) [(bn, .inr (5, [.int 0, .int 4, .int 200, .int 1, .int (nI bwi), .ref br, .ref be, .ref bs, .ref bi, .ref bg, .ref bc, .ref bu, .int 0, .int 0, .int 200, .int (-1), .int 0, .int 0])), (br, .inr (6, [.int 0, .int 4, .ref st, .null, .null, .int 0, .int 0, .int 0, .int 0, .int 0, .ref brf, .int 0]))] ∧ ev U)) (va_Qv (fun _ : Unit => True) (fun (_ : Unit) (t : State) => va_P (dC, dI) vwCl [(bn, .inr (5, [.int 0, .int 4, .int 200, .int 1, .int (nI bwi), .ref br, .ref be, .ref bs, .ref bi, .ref bg, .ref bc, .ref bu, .int 0, .int 1, .int 200, .int (-1), .int 0, .int 0])), (br, .inr (6, [.int 0, .int 4, .ref st, .null, .null, .int 0, .int 0, .int 0, .int 0, .int 1, .ref brf, .int 0]))] t.heap ∧ va_K (dC, dI) vwCl [] t ∧ va_D (va_A [(bn, .inr (5, [.int 0, .int 4, .int 200, .int 1, .int (nI bwi), .ref br, .ref be, .ref bs, .ref bi, .ref bg, .ref bc, .ref bu, .int 0, .int 0, .int 200, .int (-1), .int 0, .int 0])), (br, .inr (6, [.int 0, .int 4, .ref st, .null, .null, .int 0, .int 0, .int 0, .int 0, .int 0, .ref brf, .int 0]))] sz) [(bn, .inr (5, [.int 0, .int 4, .int 200, .int 1, .int (nI bwi), .ref br, .ref be, .ref bs, .ref bi, .ref bg, .ref bc, .ref bu, .int 0, .int 1, .int 200, .int (-1), .int 0, .int 0])), (br, .inr (6, [.int 0, .int 4, .ref st, .null, .null, .int 0, .int 0, .int 0, .int 0, .int 1, .ref brf, .int 0]))]) (va_A [(bn, .inr (5, [.int 0, .int 4, .int 200, .int 1, .int (nI bwi), .ref br, .ref be, .ref bs, .ref bi, .ref bg, .ref bc, .ref bu, .int 0, .int 0, .int 200, .int (-1), .int 0, .int 0])), (br, .inr (6, [.int 0, .int 4, .ref st, .null, .null, .int 0, .int 0, .int 0, .int 0, .int 0, .ref brf, .int 0]))] sz)) 0 0 (va_A [(bn, .inr (5, [.int 0, .int 4, .int 200, .int 1, .int (nI bwi), .ref br, .ref be, .ref bs, .ref bi, .ref bg, .ref bc, .ref bu, .int 0, .int 0, .int 200, .int (-1), .int 0, .int 0])), (br, .inr (6, [.int 0, .int 4, .ref st, .null, .null, .int 0, .int 0, .int 0, .int 0, .int 0, .ref brf, .int 0]))] sz) := by
  refine Met.ofW (cc := cX4_claimAddress) (maxL := 2) (ret := none) (by decide) rfl ?_
  intro p e s m args below meth c s₁ B hml hv
  obtain ⟨rfl, hsz, hP, hK, hD0, hE⟩ := hv
  have hx := B.exec
  have hb := B.bytes
  have hr := B.returns
  have hts := atoms_spec (ws := v_c_claimAddress_b) B.pre
  have hown : s.vm.findClass RX4 = some m.cls := findClass_of_methodNamed B.named
  have hlocks := B.notSynchronized
  subst hsz
  have hD := hD0.self (sz := s.heap.size)
  generalize hAe : va_A [(bn, .inr (5, [.int 0, .int 4, .int 200, .int 1, .int (nI bwi), .ref br, .ref be, .ref bs, .ref bi, .ref bg, .ref bc, .ref bu, .int 0, .int 0, .int 200, .int (-1), .int 0, .int 0])), (br, .inr (6, [.int 0, .int 4, .ref st, .null, .null, .int 0, .int 0, .int 0, .int 0, .int 0, .ref brf, .int 0]))] s.heap.size = A at hD ⊢
  have hA : ∀ q : Nat, s.heap.size ≤ q → A q := fun q h => by rw [← hAe]; exact Or.inr h
  have hS : va_S A s.heap s.heap [] := va_S.rf
  replace hP : va_P (dC, dI) vwCl [(bn, .inr (5, [.int 0, .int 4, .int 200, .int 1, .int (nI bwi), .ref br, .ref be, .ref bs, .ref bi, .ref bg, .ref bc, .ref bu, .int 0, .int 0, .int 200, .int (-1), .int 0, .int 0])), (br, .inr (6, [.int 0, .int 4, .ref st, .null, .null, .int 0, .int 0, .int 0, .int 0, .int 0, .ref brf, .int 0]))] s.heap := hP
  have hl := lv_entry ([.ref bn, .int 200]) (n := 2) (Nat.le_of_ble_eq_true rfl)
  rw [lg_entry_eq]
  generalize (lg_sl ([.ref bn, .int 200]) ++ List.replicate (2 - (lg_sl ([.ref bn, .int 200])).length) Slot.unset).toArray = ls at hl ⊢
  replace hl : lv_has ls 2 [(0, .ref bn), (1, .int 200)] := hl
  obtain ⟨H, hH⟩ : ∃ z : Heap, z = s.heap := ⟨_, rfl⟩
  rw [← hH]
  replace hS : va_S A s.heap H [] := by rw [hH]; exact va_S.rf
  replace hP : va_P (dC, dI) vwCl [(bn, .inr (5, [.int 0, .int 4, .int 200, .int 1, .int (nI bwi), .ref br, .ref be, .ref bs, .ref bi, .ref bg, .ref bc, .ref bu, .int 0, .int 0, .int 200, .int (-1), .int 0, .int 0])), (br, .inr (6, [.int 0, .int 4, .ref st, .null, .null, .int 0, .int 0, .int 0, .int 0, .int 0, .ref brf, .int 0]))] H := by rw [hH]; exact hP
  clear hH
  refine lv_aload_n hx hb dX4_claimAddress_0 rfl (lv_at hl 0 rfl) ?_
  refine lv_iload_n hx hb dX4_claimAddress_1 rfl (lv_at hl 1 rfl) ?_
  refine va_put (D := (dC, dI)) (ci := 5) (v := .int 200) (ty := .int) (C := RX4) (T := TX4) (N := 18) hx hb hts in_c_claimAddress_b_X4 tyX4 tyX4_ok nmX4 hown hK hP hD hS 0 rfl rfl 14 (by decide) (hts (.fieldLink RX4 81 "ClaimBus$Node" "address" "I") (List.mem_of_getElem? (i := 1) rfl)) (fun _ h9 => h9) rfl (by decide +kernel) rfl rfl (Nat.le_of_ble_eq_true rfl) dX4_claimAddress_2 (fun H locs hP hD hS => ?_)
  replace hP : va_P (dC, dI) vwCl [(bn, .inr (5, [.int 0, .int 4, .int 200, .int 1, .int (nI bwi), .ref br, .ref be, .ref bs, .ref bi, .ref bg, .ref bc, .ref bu, .int 0, .int 0, .int 200, .int (-1), .int 0, .int 0])), (br, .inr (6, [.int 0, .int 4, .ref st, .null, .null, .int 0, .int 0, .int 0, .int 0, .int 0, .ref brf, .int 0]))] H := hP
  replace hD : va_D A [(bn, .inr (5, [.int 0, .int 4, .int 200, .int 1, .int (nI bwi), .ref br, .ref be, .ref bs, .ref bi, .ref bg, .ref bc, .ref bu, .int 0, .int 0, .int 200, .int (-1), .int 0, .int 0])), (br, .inr (6, [.int 0, .int 4, .ref st, .null, .null, .int 0, .int 0, .int 0, .int 0, .int 0, .ref brf, .int 0]))] := hD
  refine lv_aload_n hx hb dX4_claimAddress_5 rfl (lv_at hl 0 rfl) ?_
  refine lv_iconst (v := 1) hx hb dX4_claimAddress_6 (by decide) ?_
  refine va_put (D := (dC, dI)) (ci := 5) (v := .int 1) (ty := .int) (C := RX4) (T := TX4) (N := 18) hx hb hts in_c_claimAddress_b_X4 tyX4 tyX4_ok nmX4 hown hK hP hD hS 0 rfl rfl 13 (by decide) (hts (.fieldLink RX4 53 "ClaimBus$Node" "state" "I") (List.mem_of_getElem? (i := 2) rfl)) (fun _ h9 => h9) rfl (by decide +kernel) rfl rfl (Nat.le_of_ble_eq_true rfl) dX4_claimAddress_7 (fun H locs hP hD hS => ?_)
  replace hP : va_P (dC, dI) vwCl [(bn, .inr (5, [.int 0, .int 4, .int 200, .int 1, .int (nI bwi), .ref br, .ref be, .ref bs, .ref bi, .ref bg, .ref bc, .ref bu, .int 0, .int 1, .int 200, .int (-1), .int 0, .int 0])), (br, .inr (6, [.int 0, .int 4, .ref st, .null, .null, .int 0, .int 0, .int 0, .int 0, .int 0, .ref brf, .int 0]))] H := hP
  replace hD : va_D A [(bn, .inr (5, [.int 0, .int 4, .int 200, .int 1, .int (nI bwi), .ref br, .ref be, .ref bs, .ref bi, .ref bg, .ref bc, .ref bu, .int 0, .int 1, .int 200, .int (-1), .int 0, .int 0])), (br, .inr (6, [.int 0, .int 4, .ref st, .null, .null, .int 0, .int 0, .int 0, .int 0, .int 0, .ref brf, .int 0]))] := hD
  refine lv_aload_n hx hb dX4_claimAddress_10 rfl (lv_at hl 0 rfl) ?_
  refine lv_iconst (v := -1) hx hb dX4_claimAddress_11 (by decide) ?_
  refine va_put (D := (dC, dI)) (ci := 5) (v := .int (-1)) (ty := .int) (C := RX4) (T := TX4) (N := 18) hx hb hts in_c_claimAddress_b_X4 tyX4 tyX4_ok nmX4 hown hK hP hD hS 0 rfl rfl 15 (by decide) (hts (.fieldLink RX4 56 "ClaimBus$Node" "claimCarriedAt" "I") (List.mem_of_getElem? (i := 3) rfl)) (fun _ h9 => h9) rfl (by decide +kernel) rfl rfl (Nat.le_of_ble_eq_true rfl) dX4_claimAddress_12 (fun H locs hP hD hS => ?_)
  replace hP : va_P (dC, dI) vwCl [(bn, .inr (5, [.int 0, .int 4, .int 200, .int 1, .int (nI bwi), .ref br, .ref be, .ref bs, .ref bi, .ref bg, .ref bc, .ref bu, .int 0, .int 1, .int 200, .int (-1), .int 0, .int 0])), (br, .inr (6, [.int 0, .int 4, .ref st, .null, .null, .int 0, .int 0, .int 0, .int 0, .int 0, .ref brf, .int 0]))] H := hP
  replace hD : va_D A [(bn, .inr (5, [.int 0, .int 4, .int 200, .int 1, .int (nI bwi), .ref br, .ref be, .ref bs, .ref bi, .ref bg, .ref bc, .ref bu, .int 0, .int 1, .int 200, .int (-1), .int 0, .int 0])), (br, .inr (6, [.int 0, .int 4, .ref st, .null, .null, .int 0, .int 0, .int 0, .int 0, .int 0, .ref brf, .int 0]))] := hD
  refine lv_aload_n hx hb dX4_claimAddress_15 rfl (lv_at hl 0 rfl) ?_
  refine va_get (D := (dC, dI)) (ci := 5) (v := .ref br) (C := RX4) (T := TX4) (N := 18) hx hb hts in_c_claimAddress_b_X4 hown hK hP 0 rfl rfl 5 (by decide) (hts (.fieldLink RX4 89 "ClaimBus$Node" "row" "LClaimBus$Row;") (List.mem_of_getElem? (i := 4) rfl)) (fun _ h9 => h9) rfl dX4_claimAddress_16 ?_
  have hPc := hP.sub (ws' := [(br, .inr (6, [.int 0, .int 4, .ref st, .null, .null, .int 0, .int 0, .int 0, .int 0, .int 0, .ref brf, .int 0]))]) [1] rfl
  have hDc := hD.sub (ws' := [(br, .inr (6, [.int 0, .int 4, .ref st, .null, .null, .int 0, .int 0, .int 0, .int 0, .int 0, .ref brf, .int 0]))]) [1] (by decide +kernel) rfl
  have hKc := hK.sub (tys' := []) [] rfl
  have hFc := va_free (wc := [(br, .inr (6, [.int 0, .int 4, .ref st, .null, .null, .int 0, .int 0, .int 0, .int 0, .int 0, .ref brf, .int 0]))]) hD hS hA [1] rfl
  refine va_callv (va_runV (As := []) (rest := []) ⟨hx, hb, hml, hown, hts⟩ (c_putClaim l dC dI (br) (0) (4) (st) (brf) (0) (0) H.size) (cwV 0 hts g_c_claimAddress_b_c_putClaim_108 rfl rfl rfl (by decide +kernel) ⟨Nat.le_of_ble_eq_true rfl, Nat.le_of_ble_eq_true rfl⟩) ⟨fun a U g mk q => by obtain ⟨q0, q1, qP, qK, qD, qE⟩ := q; exact ⟨q0, q1, qP, va_K.moved (u := U) (U := U.calling g mk a) (Vm.Alike.refl U.vm) qK, qD, ev.same (u := U) (U := U.calling g mk a) rfl qE⟩, va_recv hKc hPc (ci := 6) (q0 := 0) rfl rfl, fun U hU hW => ⟨rfl, by rw [hU], by rw [hU]; exact hPc, va_K.moved hW.alike hKc, hDc.weaken (fun _ _ _ _ => trivial), hE.warm hW⟩⟩ rfl rfl hl.1 rfl (lv_room (Nat.le_of_ble_eq_true rfl)) dX4_claimAddress_19 ⟨Nat.le_of_ble_eq_true rfl, Nat.le_of_ble_eq_true rfl⟩) hS (fun q _ h => hFc q h) hFc (fun u t H1 locs ht hvm hw hB hz1 hk1 hS => ?_)
  clear hPc hDc hKc
  obtain ⟨hP1, hK1, hD1⟩ := hB
  rw [ht] at hP1
  have hK1 := va_K.moved hvm.symm hK1
  obtain ⟨hP, hD⟩ := va_join (wr := [(bn, .inr (5, [.int 0, .int 4, .int 200, .int 1, .int (nI bwi), .ref br, .ref be, .ref bs, .ref bi, .ref bg, .ref bc, .ref bu, .int 0, .int 1, .int 200, .int (-1), .int 0, .int 0]))]) (w1 := [(br, .inr (6, [.int 0, .int 4, .ref st, .null, .null, .int 0, .int 0, .int 0, .int 0, .int 1, .ref brf, .int 0]))]) hP hD [1] [0] rfl rfl (by decide +kernel) (by decide +kernel) hk1 hFc hP1 hD1
  generalize H1 = H at hP hS ⊢
  replace hP : va_P (dC, dI) vwCl [(bn, .inr (5, [.int 0, .int 4, .int 200, .int 1, .int (nI bwi), .ref br, .ref be, .ref bs, .ref bi, .ref bg, .ref bc, .ref bu, .int 0, .int 1, .int 200, .int (-1), .int 0, .int 0])), (br, .inr (6, [.int 0, .int 4, .ref st, .null, .null, .int 0, .int 0, .int 0, .int 0, .int 1, .ref brf, .int 0]))] H := hP
  replace hD : va_D A [(bn, .inr (5, [.int 0, .int 4, .int 200, .int 1, .int (nI bwi), .ref br, .ref be, .ref bs, .ref bi, .ref bg, .ref bc, .ref bu, .int 0, .int 1, .int 200, .int (-1), .int 0, .int 0])), (br, .inr (6, [.int 0, .int 4, .ref st, .null, .null, .int 0, .int 0, .int 0, .int 0, .int 1, .ref brf, .int 0]))] := hD
  clear hw
  have hP9 := hP.sub (ws' := [(bn, .inr (5, [.int 0, .int 4, .int 200, .int 1, .int (nI bwi), .ref br, .ref be, .ref bs, .ref bi, .ref bg, .ref bc, .ref bu, .int 0, .int 1, .int 200, .int (-1), .int 0, .int 0])), (br, .inr (6, [.int 0, .int 4, .ref st, .null, .null, .int 0, .int 0, .int 0, .int 0, .int 1, .ref brf, .int 0]))]) [0, 1] rfl
  have hD9 := hD.sub (ws' := [(bn, .inr (5, [.int 0, .int 4, .int 200, .int 1, .int (nI bwi), .ref br, .ref be, .ref bs, .ref bi, .ref bg, .ref bc, .ref bu, .int 0, .int 1, .int 200, .int (-1), .int 0, .int 0])), (br, .inr (6, [.int 0, .int 4, .ref st, .null, .null, .int 0, .int 0, .int 0, .int 0, .int 1, .ref brf, .int 0]))]) [0, 1] (by decide +kernel) rfl
  have hK9 := hK.sub (tys' := []) [] rfl
  exact W.vret hx hb hr (fun t ht hW => ⟨⟨(), rfl, trivial, ⟨by rw [ht]; exact hP9, va_K.moved hW.alike hK9, hD9⟩⟩, hS.F ht⟩) hS.2.2 dX4_claimAddress_22

noncomputable def tl_c_start_b : List Cond := wsX40 ++ (v_c_find_1 ++ (v_c_claimAddress_b))
noncomputable def v_c_start_b : List Cond := .code yX10_start cX10_start 3 (some .boolean) :: ([.initialized RX10, .methodLink RX10 53 yX10_find, .instanceMethod yX10_find, .selects RX10 yX10_find yX10_find, .fieldLink RX10 57 "ClaimBus$Node" "state" "I", .fieldLink RX10 60 "ClaimBus$Node" "wanted" "I", .initialized RX4, .methodLink RX10 63 yX4_claimAddress, .instanceMethod yX4_claimAddress, .selects RX4 yX4_claimAddress yX4_claimAddress] ++ tl_c_start_b)
theorem it_c_start_b : ∀ w ∈ tl_c_start_b, w ∈ v_c_start_b := fun w h => List.mem_cons_of_mem _ (List.mem_append_right _ h)
theorem in_c_start_b_X4 : ∀ w ∈ wsX40, w ∈ v_c_start_b := fun w h => it_c_start_b w (List.mem_append_left _ h)
theorem ic_c_start_b_c_find_1 : ∀ w ∈ v_c_find_1, w ∈ v_c_start_b := fun w h => it_c_start_b w (List.mem_append_right _ (List.mem_append_left _ h))
theorem ic_c_start_b_c_claimAddress_b : ∀ w ∈ v_c_claimAddress_b, w ∈ v_c_start_b := fun w h => it_c_start_b w (List.mem_append_right _ (List.mem_append_right _ (h)))
theorem gt_c_start_b : ∀ w ∈ tl_c_start_b, goodWord w = true := List.forall_mem_append.mpr ⟨gw_wsX40, List.forall_mem_append.mpr ⟨gw_c_find_1, gw_c_claimAddress_b⟩⟩
theorem gw_c_start_b : ∀ w ∈ v_c_start_b, goodWord w = true := List.forall_mem_cons.mpr ⟨by decide +kernel, List.forall_mem_append.mpr ⟨List.all_eq_true.mp (by decide +kernel), gt_c_start_b⟩⟩
theorem g_c_start_b_c_find_1_53 : GoodIn v_c_start_b (wsV RX10 53 RX10 yX10_find v_c_find_1) := goodIn_app (goodIn_r [.methodLink RX10 53 yX10_find, .instanceMethod yX10_find, .selects RX10 yX10_find yX10_find, .initialized RX10] [2, 3, 4, 1] (by decide +kernel) (by decide +kernel)) (fun w h => ⟨ic_c_start_b_c_find_1 w h, good_of_word (gw_c_find_1 w h)⟩)
theorem g_c_start_b_c_claimAddress_b_63 : GoodIn v_c_start_b (wsV RX10 63 RX4 yX4_claimAddress v_c_claimAddress_b) := goodIn_app (goodIn_r [.methodLink RX10 63 yX4_claimAddress, .instanceMethod yX4_claimAddress, .selects RX4 yX4_claimAddress yX4_claimAddress, .initialized RX4] [8, 9, 10, 7] (by decide +kernel) (by decide +kernel)) (fun w h => ⟨ic_c_start_b_c_claimAddress_b w h, good_of_word (gw_c_claimAddress_b w h)⟩)
set_option maxHeartbeats 4000000 in
set_option maxRecDepth 100000 in
theorem c_start_b (l : Launch) (dC : Nat → ClassId) (dI : Nat → Nat → Nat) (x : Nat) (nr : Nat) (st : Nat) (lf : Nat) (cN : ClassId) (fn : Nat → Option Nat) (bn : Nat) (br : Nat) (be : Nat) (bs : Nat) (bi : Nat) (bg : Nat) (bc : Nat) (bu : Nat) (bwi : Nat) (brf : Nat) (an : Nat) (sz : Nat) (n0 : fn 0 = some an) (n1 : fn 1 = some bn) : Met l yX10_start v_c_start_b ({ frames := 2, cells := 0, slots := 0, locals := 41 }) (va_Pc [.ref x, .int 1] (fun U => U.heap.size = sz ∧ va_P (dC, dI) vwCl [(x, .inr (11, [.ref nr, .ref st, .ref lf, .int 2, .int 0, .int 0, .int (-1), .int 0])), (nr, .inl (cN, 8, .inr (.inr (.inr (.inr fn))))), (bn, .inr (5, [.int 0, .int 4, .int 200, .int 1, .int (nI bwi), .ref br, .ref be, .ref bs, .ref bi, .ref bg, .ref bc, .ref bu, .int 0, .int 0, .int 200, .int (-1), .int 0, .int 0])), (br, .inr (6, [.int 0, .int 4, .ref st, .null, .null, .int 0, .int 0, .int 0, .int 0, .int 0, .ref brf, .int 0]))] U.heap ∧ va_K (dC, dI) vwCl [(cN, (.object RX4))] U ∧ va_D (fun _ => True) [(x, .inr (11, [.ref nr, .ref st, .ref lf, .int 2, .int 0, .int 0, .int (-1), .int 0])), (nr, .inl (cN, 8, .inr (.inr (.inr (.inr fn))))), (bn, .inr (5, [.int 0, .int 4, .int 200, .int 1, .int (nI bwi), .ref br, .ref be, .ref bs, .ref bi, .ref bg, .ref bc, .ref bu, .int 0, .int 0, .int 200, .int (-1), .int 0, .int 0])), (br, .inr (6, [.int 0, .int 4, .ref st, .null, .null, .int 0, .int 0, .int 0, .int 0, .int 0, .ref brf, .int 0]))] ∧ ev U)) (va_Qi (fun (r : Int32) (_ : Unit) => r = 1) (fun (_ : Unit) (t : State) => va_P (dC, dI) vwCl [(x, .inr (11, [.ref nr, .ref st, .ref lf, .int 2, .int 0, .int 0, .int (-1), .int 0])), (nr, .inl (cN, 8, .inr (.inr (.inr (.inr fn))))), (bn, .inr (5, [.int 0, .int 4, .int 200, .int 1, .int (nI bwi), .ref br, .ref be, .ref bs, .ref bi, .ref bg, .ref bc, .ref bu, .int 0, .int 1, .int 200, .int (-1), .int 0, .int 0])), (br, .inr (6, [.int 0, .int 4, .ref st, .null, .null, .int 0, .int 0, .int 0, .int 0, .int 1, .ref brf, .int 0]))] t.heap ∧ va_K (dC, dI) vwCl [(cN, (.object RX4))] t ∧ va_D (va_A [(x, .inr (11, [.ref nr, .ref st, .ref lf, .int 2, .int 0, .int 0, .int (-1), .int 0])), (nr, .inl (cN, 8, .inr (.inr (.inr (.inr fn))))), (bn, .inr (5, [.int 0, .int 4, .int 200, .int 1, .int (nI bwi), .ref br, .ref be, .ref bs, .ref bi, .ref bg, .ref bc, .ref bu, .int 0, .int 0, .int 200, .int (-1), .int 0, .int 0])), (br, .inr (6, [.int 0, .int 4, .ref st, .null, .null, .int 0, .int 0, .int 0, .int 0, .int 0, .ref brf, .int 0]))] sz) [(x, .inr (11, [.ref nr, .ref st, .ref lf, .int 2, .int 0, .int 0, .int (-1), .int 0])), (nr, .inl (cN, 8, .inr (.inr (.inr (.inr fn))))), (bn, .inr (5, [.int 0, .int 4, .int 200, .int 1, .int (nI bwi), .ref br, .ref be, .ref bs, .ref bi, .ref bg, .ref bc, .ref bu, .int 0, .int 1, .int 200, .int (-1), .int 0, .int 0])), (br, .inr (6, [.int 0, .int 4, .ref st, .null, .null, .int 0, .int 0, .int 0, .int 0, .int 1, .ref brf, .int 0]))]) (va_A [(x, .inr (11, [.ref nr, .ref st, .ref lf, .int 2, .int 0, .int 0, .int (-1), .int 0])), (nr, .inl (cN, 8, .inr (.inr (.inr (.inr fn))))), (bn, .inr (5, [.int 0, .int 4, .int 200, .int 1, .int (nI bwi), .ref br, .ref be, .ref bs, .ref bi, .ref bg, .ref bc, .ref bu, .int 0, .int 0, .int 200, .int (-1), .int 0, .int 0])), (br, .inr (6, [.int 0, .int 4, .ref st, .null, .null, .int 0, .int 0, .int 0, .int 0, .int 0, .ref brf, .int 0]))] sz)) 0 0 (va_A [(x, .inr (11, [.ref nr, .ref st, .ref lf, .int 2, .int 0, .int 0, .int (-1), .int 0])), (nr, .inl (cN, 8, .inr (.inr (.inr (.inr fn))))), (bn, .inr (5, [.int 0, .int 4, .int 200, .int 1, .int (nI bwi), .ref br, .ref be, .ref bs, .ref bi, .ref bg, .ref bc, .ref bu, .int 0, .int 0, .int 200, .int (-1), .int 0, .int 0])), (br, .inr (6, [.int 0, .int 4, .ref st, .null, .null, .int 0, .int 0, .int 0, .int 0, .int 0, .ref brf, .int 0]))] sz) := by
  refine Met.ofW (cc := cX10_start) (maxL := 3) (ret := (some .boolean)) (by decide) rfl ?_
  intro p e s m args below meth c s₁ B hml hv
  obtain ⟨rfl, hsz, hP, hK, hD0, hE⟩ := hv
  have hx := B.exec
  have hb := B.bytes
  have hr := B.returns
  have hts := atoms_spec (ws := v_c_start_b) B.pre
  have hown : s.vm.findClass RX10 = some m.cls := findClass_of_methodNamed B.named
  have hlocks := B.notSynchronized
  subst hsz
  have hD := hD0.self (sz := s.heap.size)
  generalize hAe : va_A [(x, .inr (11, [.ref nr, .ref st, .ref lf, .int 2, .int 0, .int 0, .int (-1), .int 0])), (nr, .inl (cN, 8, .inr (.inr (.inr (.inr fn))))), (bn, .inr (5, [.int 0, .int 4, .int 200, .int 1, .int (nI bwi), .ref br, .ref be, .ref bs, .ref bi, .ref bg, .ref bc, .ref bu, .int 0, .int 0, .int 200, .int (-1), .int 0, .int 0])), (br, .inr (6, [.int 0, .int 4, .ref st, .null, .null, .int 0, .int 0, .int 0, .int 0, .int 0, .ref brf, .int 0]))] s.heap.size = A at hD ⊢
  have hA : ∀ q : Nat, s.heap.size ≤ q → A q := fun q h => by rw [← hAe]; exact Or.inr h
  have hS : va_S A s.heap s.heap [] := va_S.rf
  replace hP : va_P (dC, dI) vwCl [(x, .inr (11, [.ref nr, .ref st, .ref lf, .int 2, .int 0, .int 0, .int (-1), .int 0])), (nr, .inl (cN, 8, .inr (.inr (.inr (.inr fn))))), (bn, .inr (5, [.int 0, .int 4, .int 200, .int 1, .int (nI bwi), .ref br, .ref be, .ref bs, .ref bi, .ref bg, .ref bc, .ref bu, .int 0, .int 0, .int 200, .int (-1), .int 0, .int 0])), (br, .inr (6, [.int 0, .int 4, .ref st, .null, .null, .int 0, .int 0, .int 0, .int 0, .int 0, .ref brf, .int 0]))] s.heap := hP
  have hl := lv_entry ([.ref x, .int 1]) (n := 3) (Nat.le_of_ble_eq_true rfl)
  rw [lg_entry_eq]
  generalize (lg_sl ([.ref x, .int 1]) ++ List.replicate (3 - (lg_sl ([.ref x, .int 1])).length) Slot.unset).toArray = ls at hl ⊢
  replace hl : lv_has ls 3 [(0, .ref x), (1, .int 1)] := hl
  obtain ⟨H, hH⟩ : ∃ z : Heap, z = s.heap := ⟨_, rfl⟩
  rw [← hH]
  replace hS : va_S A s.heap H [] := by rw [hH]; exact va_S.rf
  replace hP : va_P (dC, dI) vwCl [(x, .inr (11, [.ref nr, .ref st, .ref lf, .int 2, .int 0, .int 0, .int (-1), .int 0])), (nr, .inl (cN, 8, .inr (.inr (.inr (.inr fn))))), (bn, .inr (5, [.int 0, .int 4, .int 200, .int 1, .int (nI bwi), .ref br, .ref be, .ref bs, .ref bi, .ref bg, .ref bc, .ref bu, .int 0, .int 0, .int 200, .int (-1), .int 0, .int 0])), (br, .inr (6, [.int 0, .int 4, .ref st, .null, .null, .int 0, .int 0, .int 0, .int 0, .int 0, .ref brf, .int 0]))] H := by rw [hH]; exact hP
  clear hH
  refine lv_aload_n hx hb dX10_start_0 rfl (lv_at hl 0 rfl) ?_
  refine lv_iload_n hx hb dX10_start_1 rfl (lv_at hl 1 rfl) ?_
  have hPc := hP.sub (ws' := [(x, .inr (11, [.ref nr, .ref st, .ref lf, .int 2, .int (nI 0), .int (nI 0), .int (-1), .int 0])), (nr, .inl (cN, 8, .inr (.inr (.inr (.inr fn)))))]) [0, 1] rfl
  have hDc := hD.sub (ws' := [(x, .inr (11, [.ref nr, .ref st, .ref lf, .int 2, .int (nI 0), .int (nI 0), .int (-1), .int 0])), (nr, .inl (cN, 8, .inr (.inr (.inr (.inr fn)))))]) [0, 1] (by decide +kernel) rfl
  have hKc := hK.sub (tys' := [(cN, (.object RX4))]) [0] rfl
  have hFc := ro_free hS hA
  refine va_callq (va_runV (As := [.int 1]) (rest := []) ⟨hx, hb, hml, hown, hts⟩ (c_find_1 l dC dI (x) (nr) (st) (lf) (0) (0) ((-1)) (cN) (fn) (bn) H.size n1) (cwV 1 hts g_c_start_b_c_find_1_53 rfl rfl rfl (by decide +kernel) ⟨Nat.le_of_ble_eq_true rfl, Nat.le_of_ble_eq_true rfl⟩) ⟨fun a U g mk q => by obtain ⟨q0, q1, qP, qK, qD, qE⟩ := q; exact ⟨q0, q1, qP, va_K.moved (u := U) (U := U.calling g mk a) (Vm.Alike.refl U.vm) qK, qD, ev.same (u := U) (U := U.calling g mk a) rfl qE⟩, va_recv hKc hPc (ci := 11) (q0 := 0) rfl rfl, fun U hU hW => ⟨rfl, by rw [hU], by rw [hU]; exact hPc, va_K.moved hW.alike hKc, hDc.weaken (fun _ _ _ _ => trivial), hE.warm hW⟩⟩ rfl rfl hl.1 rfl (lv_room (Nat.le_of_ble_eq_true rfl)) dX10_start_2 ⟨Nat.le_of_ble_eq_true rfl, Nat.le_of_ble_eq_true rfl⟩) hS (fun q _ h => hFc q h) hFc (fun r_1 u t H1 locs ht hvm hw hB hz1 hk1 hS => ?_)
  clear hPc hDc hKc
  replace hP := ro_keep hP hk1
  generalize H1 = H at hP hS ⊢
  replace hP : va_P (dC, dI) vwCl [(x, .inr (11, [.ref nr, .ref st, .ref lf, .int 2, .int 0, .int 0, .int (-1), .int 0])), (nr, .inl (cN, 8, .inr (.inr (.inr (.inr fn))))), (bn, .inr (5, [.int 0, .int 4, .int 200, .int 1, .int (nI bwi), .ref br, .ref be, .ref bs, .ref bi, .ref bg, .ref bc, .ref bu, .int 0, .int 0, .int 200, .int (-1), .int 0, .int 0])), (br, .inr (6, [.int 0, .int 4, .ref st, .null, .null, .int 0, .int 0, .int 0, .int 0, .int 0, .ref brf, .int 0]))] H := hP
  have hw := hw.symm
  subst hw
  refine W.eq (g2 := F0 m 5 ls [.ref bn]) rfl ?_
  refine lv_astore_n (lv' := [(2, .ref bn), (0, .ref x), (1, .int 1)]) hx hb dX10_start_5 rfl hl (by decide) rfl (fun ls hl => ?_)
  refine lv_aload_n hx hb dX10_start_6 rfl (lv_at hl 0 rfl) ?_
  refine lv_ifnull hx hb dX10_start_7 ?_
  refine lv_aload_n hx hb dX10_start_10 rfl (lv_at hl 0 rfl) ?_
  refine va_get (D := (dC, dI)) (ci := 5) (v := .int 0) (C := RX4) (T := TX4) (N := 18) hx hb hts in_c_start_b_X4 hown hK hP 2 rfl rfl 13 (by decide) (hts (.fieldLink RX10 57 "ClaimBus$Node" "state" "I") (List.mem_of_getElem? (i := 5) rfl)) (fun _ h9 => h9) rfl dX10_start_11 ?_
  refine lv_if_eq (tgt := 19) hx hb dX10_start_14 (by decide) (fun c_2 => ?_) (fun c_2 => ?_)
  rotate_left
  · exact absurd (by decide) c_2
  refine lv_aload_n hx hb dX10_start_19 rfl (lv_at hl 0 rfl) ?_
  refine lv_aload_n hx hb dX10_start_20 rfl (lv_at hl 0 rfl) ?_
  refine va_get (D := (dC, dI)) (ci := 5) (v := .int 200) (C := RX4) (T := TX4) (N := 18) hx hb hts in_c_start_b_X4 hown hK hP 2 rfl rfl 2 (by decide) (hts (.fieldLink RX10 60 "ClaimBus$Node" "wanted" "I") (List.mem_of_getElem? (i := 6) rfl)) (fun _ h9 => h9) rfl dX10_start_21 ?_
  have hPc := hP.sub (ws' := [(bn, .inr (5, [.int 0, .int 4, .int 200, .int 1, .int (nI bwi), .ref br, .ref be, .ref bs, .ref bi, .ref bg, .ref bc, .ref bu, .int 0, .int 0, .int 200, .int (-1), .int 0, .int 0])), (br, .inr (6, [.int 0, .int 4, .ref st, .null, .null, .int 0, .int 0, .int 0, .int 0, .int 0, .ref brf, .int 0]))]) [2, 3] rfl
  have hDc := hD.sub (ws' := [(bn, .inr (5, [.int 0, .int 4, .int 200, .int 1, .int (nI bwi), .ref br, .ref be, .ref bs, .ref bi, .ref bg, .ref bc, .ref bu, .int 0, .int 0, .int 200, .int (-1), .int 0, .int 0])), (br, .inr (6, [.int 0, .int 4, .ref st, .null, .null, .int 0, .int 0, .int 0, .int 0, .int 0, .ref brf, .int 0]))]) [2, 3] (by decide +kernel) rfl
  have hKc := hK.sub (tys' := []) [] rfl
  have hFc := va_free (wc := [(bn, .inr (5, [.int 0, .int 4, .int 200, .int 1, .int (nI bwi), .ref br, .ref be, .ref bs, .ref bi, .ref bg, .ref bc, .ref bu, .int 0, .int 0, .int 200, .int (-1), .int 0, .int 0])), (br, .inr (6, [.int 0, .int 4, .ref st, .null, .null, .int 0, .int 0, .int 0, .int 0, .int 0, .ref brf, .int 0]))]) hD hS hA [2, 3] rfl
  refine va_callv (va_runV (As := [.int 200]) (rest := []) ⟨hx, hb, hml, hown, hts⟩ (c_claimAddress_b l dC dI (bn) (br) (be) (bs) (bi) (bg) (bc) (bu) (bwi) (st) (brf) H.size) (cwV 1 hts g_c_start_b_c_claimAddress_b_63 rfl rfl rfl (by decide +kernel) ⟨Nat.le_of_ble_eq_true rfl, Nat.le_of_ble_eq_true rfl⟩) ⟨fun a U g mk q => by obtain ⟨q0, q1, qP, qK, qD, qE⟩ := q; exact ⟨q0, q1, qP, va_K.moved (u := U) (U := U.calling g mk a) (Vm.Alike.refl U.vm) qK, qD, ev.same (u := U) (U := U.calling g mk a) rfl qE⟩, va_recv hKc hPc (ci := 5) (q0 := 0) rfl rfl, fun U hU hW => ⟨rfl, by rw [hU], by rw [hU]; exact hPc, va_K.moved hW.alike hKc, hDc.weaken (fun _ _ _ _ => trivial), hE.warm hW⟩⟩ rfl rfl hl.1 rfl (lv_room (Nat.le_of_ble_eq_true rfl)) dX10_start_24 ⟨Nat.le_of_ble_eq_true rfl, Nat.le_of_ble_eq_true rfl⟩) hS (fun q _ h => hFc q h) hFc (fun u t H1 locs ht hvm hw hB hz1 hk1 hS => ?_)
  clear hPc hDc hKc
  obtain ⟨hP1, hK1, hD1⟩ := hB
  rw [ht] at hP1
  have hK1 := va_K.moved hvm.symm hK1
  obtain ⟨hP, hD⟩ := va_join (wr := [(x, .inr (11, [.ref nr, .ref st, .ref lf, .int 2, .int 0, .int 0, .int (-1), .int 0])), (nr, .inl (cN, 8, .inr (.inr (.inr (.inr fn)))))]) (w1 := [(bn, .inr (5, [.int 0, .int 4, .int 200, .int 1, .int (nI bwi), .ref br, .ref be, .ref bs, .ref bi, .ref bg, .ref bc, .ref bu, .int 0, .int 1, .int 200, .int (-1), .int 0, .int 0])), (br, .inr (6, [.int 0, .int 4, .ref st, .null, .null, .int 0, .int 0, .int 0, .int 0, .int 1, .ref brf, .int 0]))]) hP hD [2, 3] [0, 1] rfl rfl (by decide +kernel) (by decide +kernel) hk1 hFc hP1 hD1
  generalize H1 = H at hP hS ⊢
  replace hP : va_P (dC, dI) vwCl [(x, .inr (11, [.ref nr, .ref st, .ref lf, .int 2, .int 0, .int 0, .int (-1), .int 0])), (nr, .inl (cN, 8, .inr (.inr (.inr (.inr fn))))), (bn, .inr (5, [.int 0, .int 4, .int 200, .int 1, .int (nI bwi), .ref br, .ref be, .ref bs, .ref bi, .ref bg, .ref bc, .ref bu, .int 0, .int 1, .int 200, .int (-1), .int 0, .int 0])), (br, .inr (6, [.int 0, .int 4, .ref st, .null, .null, .int 0, .int 0, .int 0, .int 0, .int 1, .ref brf, .int 0]))] H := hP
  replace hD : va_D A [(x, .inr (11, [.ref nr, .ref st, .ref lf, .int 2, .int 0, .int 0, .int (-1), .int 0])), (nr, .inl (cN, 8, .inr (.inr (.inr (.inr fn))))), (bn, .inr (5, [.int 0, .int 4, .int 200, .int 1, .int (nI bwi), .ref br, .ref be, .ref bs, .ref bi, .ref bg, .ref bc, .ref bu, .int 0, .int 1, .int 200, .int (-1), .int 0, .int 0])), (br, .inr (6, [.int 0, .int 4, .ref st, .null, .null, .int 0, .int 0, .int 0, .int 0, .int 1, .ref brf, .int 0]))] := hD
  clear hw
  refine lv_iconst (v := 1) hx hb dX10_start_27 (by decide) ?_
  have hP9 := hP.sub (ws' := [(x, .inr (11, [.ref nr, .ref st, .ref lf, .int 2, .int 0, .int 0, .int (-1), .int 0])), (nr, .inl (cN, 8, .inr (.inr (.inr (.inr fn))))), (bn, .inr (5, [.int 0, .int 4, .int 200, .int 1, .int (nI bwi), .ref br, .ref be, .ref bs, .ref bi, .ref bg, .ref bc, .ref bu, .int 0, .int 1, .int 200, .int (-1), .int 0, .int 0])), (br, .inr (6, [.int 0, .int 4, .ref st, .null, .null, .int 0, .int 0, .int 0, .int 0, .int 1, .ref brf, .int 0]))]) [0, 1, 2, 3] rfl
  have hD9 := hD.sub (ws' := [(x, .inr (11, [.ref nr, .ref st, .ref lf, .int 2, .int 0, .int 0, .int (-1), .int 0])), (nr, .inl (cN, 8, .inr (.inr (.inr (.inr fn))))), (bn, .inr (5, [.int 0, .int 4, .int 200, .int 1, .int (nI bwi), .ref br, .ref be, .ref bs, .ref bi, .ref bg, .ref bc, .ref bu, .int 0, .int 1, .int 200, .int (-1), .int 0, .int 0])), (br, .inr (6, [.int 0, .int 4, .ref st, .null, .null, .int 0, .int 0, .int 0, .int 0, .int 1, .ref brf, .int 0]))]) [0, 1, 2, 3] (by decide +kernel) rfl
  have hK9 := hK.sub (tys' := [(cN, (.object RX4))]) [0] rfl
  exact W.zret (v := 1) hx hb hr (by decide) (fun t ht hW => ⟨⟨1, (), rfl, rfl, ⟨by rw [ht]; exact hP9, va_K.moved hW.alike hK9, hD9⟩⟩, hS.F ht⟩) hS.2.2 dX10_start_28

noncomputable def tl_c_len_c1 : List Cond := wsX50
noncomputable def v_c_len_c1 : List Cond := .code yX5_length cX5_length 1 (some .int) :: ([.fieldLink RX5 31 "ClaimBus$Row" "claimWaits" "Z", .fieldLink RX5 25 "ClaimBus$Row" "frames" "I"] ++ tl_c_len_c1)
theorem it_c_len_c1 : ∀ w ∈ tl_c_len_c1, w ∈ v_c_len_c1 := fun w h => List.mem_cons_of_mem _ (List.mem_append_right _ h)
theorem in_c_len_c1_X5 : ∀ w ∈ wsX50, w ∈ v_c_len_c1 := fun w h => it_c_len_c1 w (h)
theorem gt_c_len_c1 : ∀ w ∈ tl_c_len_c1, goodWord w = true := gw_wsX50
theorem gw_c_len_c1 : ∀ w ∈ v_c_len_c1, goodWord w = true := List.forall_mem_cons.mpr ⟨by decide +kernel, List.forall_mem_append.mpr ⟨List.all_eq_true.mp (by decide +kernel), gt_c_len_c1⟩⟩
set_option maxHeartbeats 4000000 in
set_option maxRecDepth 100000 in
theorem c_len_c1 (l : Launch) (dC : Nat → ClassId) (dI : Nat → Nat → Nat) (r : Nat) (rh : Int32) (rl : Int32) (st : Nat) (rf : Nat) (hp : Int32) (tp : Int32) (sz : Nat)  : Met l yX5_length v_c_len_c1 ({ frames := 0, cells := 0, slots := 0, locals := 0 }) (va_Pc [.ref r] (fun U => U.heap.size = sz ∧ va_P (dC, dI) vwCl [(r, .inr (6, [.int rh, .int rl, .ref st, .null, .null, .int hp, .int tp, .int 0, .int 0, .int 1, .ref rf, .int 1]))] U.heap ∧ va_K (dC, dI) vwCl [] U ∧ va_D (fun _ => True) [(r, .inr (6, [.int rh, .int rl, .ref st, .null, .null, .int hp, .int tp, .int 0, .int 0, .int 1, .ref rf, .int 1]))] ∧ ev U)) (va_Qi (fun (r : Int32) (_ : Unit) => r = 1) (fun (_ : Unit) (_ : State) => True) (va_A [] sz)) 0 0 (va_A [] sz) := by
  refine Met.ofW (cc := cX5_length) (maxL := 1) (ret := (some .int)) (by decide) rfl ?_
  intro p e s m args below meth c s₁ B hml hv
  obtain ⟨rfl, hsz, hP, hK, hD0, hE⟩ := hv
  have hx := B.exec
  have hb := B.bytes
  have hr := B.returns
  have hts := atoms_spec (ws := v_c_len_c1) B.pre
  have hown : s.vm.findClass RX5 = some m.cls := findClass_of_methodNamed B.named
  have hlocks := B.notSynchronized
  subst hsz
  have hD := hD0
  generalize hAe : va_A [] s.heap.size = A
  have hA : ∀ q : Nat, s.heap.size ≤ q → A q := fun q h => by rw [← hAe]; exact Or.inr h
  have hS : va_S A s.heap s.heap [] := va_S.rf
  replace hP : va_P (dC, dI) vwCl [(r, .inr (6, [.int rh, .int rl, .ref st, .null, .null, .int hp, .int tp, .int 0, .int 0, .int 1, .ref rf, .int 1]))] s.heap := hP
  have hl := lv_entry ([.ref r]) (n := 1) (Nat.le_of_ble_eq_true rfl)
  rw [lg_entry_eq]
  generalize (lg_sl ([.ref r]) ++ List.replicate (1 - (lg_sl ([.ref r])).length) Slot.unset).toArray = ls at hl ⊢
  replace hl : lv_has ls 1 [(0, .ref r)] := hl
  obtain ⟨H, hH⟩ : ∃ z : Heap, z = s.heap := ⟨_, rfl⟩
  rw [← hH]
  replace hS : va_S A s.heap H [] := by rw [hH]; exact va_S.rf
  replace hP : va_P (dC, dI) vwCl [(r, .inr (6, [.int rh, .int rl, .ref st, .null, .null, .int hp, .int tp, .int 0, .int 0, .int 1, .ref rf, .int 1]))] H := by rw [hH]; exact hP
  clear hH
  refine lv_aload_n hx hb dX5_length_0 rfl (lv_at hl 0 rfl) ?_
  refine va_get (D := (dC, dI)) (ci := 6) (v := .int 1) (C := RX5) (T := TX5) (N := 12) hx hb hts in_c_len_c1_X5 hown hK hP 0 rfl rfl 9 (by decide) (hts (.fieldLink RX5 31 "ClaimBus$Row" "claimWaits" "Z") (List.mem_of_getElem? (i := 1) rfl)) (fun _ h9 => h9) rfl dX5_length_1 ?_
  refine lv_if_eq (tgt := 16) hx hb dX5_length_4 (by decide) (fun c_1 => ?_) (fun c_1 => ?_)
  · exact absurd c_1 (by decide)
  refine lv_aload_n hx hb dX5_length_7 rfl (lv_at hl 0 rfl) ?_
  refine va_get (D := (dC, dI)) (ci := 6) (v := .int 0) (C := RX5) (T := TX5) (N := 12) hx hb hts in_c_len_c1_X5 hown hK hP 0 rfl rfl 7 (by decide) (hts (.fieldLink RX5 25 "ClaimBus$Row" "frames" "I") (List.mem_of_getElem? (i := 2) rfl)) (fun _ h9 => h9) rfl dX5_length_8 ?_
  refine lv_iconst (v := 1) hx hb dX5_length_11 (by decide) ?_
  refine lv_iadd hx hb dX5_length_12 ?_
  refine lv_topi (fun x_2 ex_2 => ?_)
  obtain rfl : x_2 = 1 := ex_2.trans (by decide)
  refine lv_goto (tgt := 20) hx hb dX5_length_13 (by decide) ?_
  exact W.iret (v := 1) hx hb hr (fun t ht hW => ⟨⟨1, (), rfl, rfl, trivial⟩, hS.F ht⟩) hS.2.2 dX5_length_20

noncomputable def tl_c_writeFirst_za : List Cond := wsX50 ++ (v_c_X1_writeN0)
noncomputable def v_c_writeFirst_za : List Cond := .code yX5_writeFirst cX5_writeFirst 8 none :: ([.fieldLink RX5 31 "ClaimBus$Row" "claimWaits" "Z", .fieldLink RX5 38 "ClaimBus$Row" "first" "LClaimBus$Frame;", .constant RX5 90 (418316032), .fieldLink RX5 48 "ClaimBus$Row" "low" "I", .fieldLink RX5 45 "ClaimBus$Row" "high" "I", .initialized RX1, .methodLink RX5 91 yX1_write, .instanceMethod yX1_write, .selects RX1 yX1_write yX1_write] ++ tl_c_writeFirst_za)
theorem it_c_writeFirst_za : ∀ w ∈ tl_c_writeFirst_za, w ∈ v_c_writeFirst_za := fun w h => List.mem_cons_of_mem _ (List.mem_append_right _ h)
theorem in_c_writeFirst_za_X5 : ∀ w ∈ wsX50, w ∈ v_c_writeFirst_za := fun w h => it_c_writeFirst_za w (List.mem_append_left _ h)
theorem ic_c_writeFirst_za_c_X1_writeN0 : ∀ w ∈ v_c_X1_writeN0, w ∈ v_c_writeFirst_za := fun w h => it_c_writeFirst_za w (List.mem_append_right _ (h))
theorem gt_c_writeFirst_za : ∀ w ∈ tl_c_writeFirst_za, goodWord w = true := List.forall_mem_append.mpr ⟨gw_wsX50, gw_c_X1_writeN0⟩
theorem gw_c_writeFirst_za : ∀ w ∈ v_c_writeFirst_za, goodWord w = true := List.forall_mem_cons.mpr ⟨by decide +kernel, List.forall_mem_append.mpr ⟨List.all_eq_true.mp (by decide +kernel), gt_c_writeFirst_za⟩⟩
theorem g_c_writeFirst_za_c_X1_writeN0_91 : GoodIn v_c_writeFirst_za (wsV RX5 91 RX1 yX1_write v_c_X1_writeN0) := goodIn_app (goodIn_r [.methodLink RX5 91 yX1_write, .instanceMethod yX1_write, .selects RX1 yX1_write yX1_write, .initialized RX1] [7, 8, 9, 6] (by decide +kernel) (by decide +kernel)) (fun w h => ⟨ic_c_writeFirst_za_c_X1_writeN0 w h, good_of_word (gw_c_X1_writeN0 w h)⟩)
set_option maxHeartbeats 4000000 in
set_option maxRecDepth 100000 in
theorem c_writeFirst_za (l : Launch) (dC : Nat → ClassId) (dI : Nat → Nat → Nat) (ar : Nat) (arf : Nat) (st : Nat) (zi : Nat) (zj : Int32) (zk : Int32) (sz : Nat)  : Met l yX5_writeFirst v_c_writeFirst_za ({ frames := 1, cells := 0, slots := 0, locals := 24 }) (va_Pc [.ref ar, .int 10] (fun U => U.heap.size = sz ∧ va_P (dC, dI) vwCl [(ar, .inr (6, [.int 0, .int 5, .ref st, .null, .null, .int 0, .int 0, .int 0, .int 0, .int 1, .ref arf, .int 0])), (arf, .inr (2, [.int (nI zi), .int zj, .int zk, .null]))] U.heap ∧ va_K (dC, dI) vwCl [] U ∧ va_D (fun _ => True) [(ar, .inr (6, [.int 0, .int 5, .ref st, .null, .null, .int 0, .int 0, .int 0, .int 0, .int 1, .ref arf, .int 0])), (arf, .inr (2, [.int (nI zi), .int zj, .int zk, .null]))] ∧ ev U)) (va_Qv (fun _ : Unit => True) (fun (_ : Unit) (t : State) => va_P (dC, dI) vwCl [(ar, .inr (6, [.int 0, .int 5, .ref st, .null, .null, .int 0, .int 0, .int 0, .int 0, .int 1, .ref arf, .int 0])), (arf, .inr (2, [.int 418316042, .int 5, .int 0, .null]))] t.heap ∧ va_K (dC, dI) vwCl [] t ∧ va_D (va_A [(ar, .inr (6, [.int 0, .int 5, .ref st, .null, .null, .int 0, .int 0, .int 0, .int 0, .int 1, .ref arf, .int 0])), (arf, .inr (2, [.int (nI zi), .int zj, .int zk, .null]))] sz) [(ar, .inr (6, [.int 0, .int 5, .ref st, .null, .null, .int 0, .int 0, .int 0, .int 0, .int 1, .ref arf, .int 0])), (arf, .inr (2, [.int 418316042, .int 5, .int 0, .null]))]) (va_A [(ar, .inr (6, [.int 0, .int 5, .ref st, .null, .null, .int 0, .int 0, .int 0, .int 0, .int 1, .ref arf, .int 0])), (arf, .inr (2, [.int (nI zi), .int zj, .int zk, .null]))] sz)) 0 0 (va_A [(ar, .inr (6, [.int 0, .int 5, .ref st, .null, .null, .int 0, .int 0, .int 0, .int 0, .int 1, .ref arf, .int 0])), (arf, .inr (2, [.int (nI zi), .int zj, .int zk, .null]))] sz) := by
  refine Met.ofW (cc := cX5_writeFirst) (maxL := 8) (ret := none) (by decide) rfl ?_
  intro p e s m args below meth c s₁ B hml hv
  obtain ⟨rfl, hsz, hP, hK, hD0, hE⟩ := hv
  have hx := B.exec
  have hb := B.bytes
  have hr := B.returns
  have hts := atoms_spec (ws := v_c_writeFirst_za) B.pre
  have hown : s.vm.findClass RX5 = some m.cls := findClass_of_methodNamed B.named
  have hlocks := B.notSynchronized
  subst hsz
  have hD := hD0.self (sz := s.heap.size)
  generalize hAe : va_A [(ar, .inr (6, [.int 0, .int 5, .ref st, .null, .null, .int 0, .int 0, .int 0, .int 0, .int 1, .ref arf, .int 0])), (arf, .inr (2, [.int (nI zi), .int zj, .int zk, .null]))] s.heap.size = A at hD ⊢
  have hA : ∀ q : Nat, s.heap.size ≤ q → A q := fun q h => by rw [← hAe]; exact Or.inr h
  have hS : va_S A s.heap s.heap [] := va_S.rf
  replace hP : va_P (dC, dI) vwCl [(ar, .inr (6, [.int 0, .int 5, .ref st, .null, .null, .int 0, .int 0, .int 0, .int 0, .int 1, .ref arf, .int 0])), (arf, .inr (2, [.int (nI zi), .int zj, .int zk, .null]))] s.heap := hP
  have hl := lv_entry ([.ref ar, .int 10]) (n := 8) (Nat.le_of_ble_eq_true rfl)
  rw [lg_entry_eq]
  generalize (lg_sl ([.ref ar, .int 10]) ++ List.replicate (8 - (lg_sl ([.ref ar, .int 10])).length) Slot.unset).toArray = ls at hl ⊢
  replace hl : lv_has ls 8 [(0, .ref ar), (1, .int 10)] := hl
  obtain ⟨H, hH⟩ : ∃ z : Heap, z = s.heap := ⟨_, rfl⟩
  rw [← hH]
  replace hS : va_S A s.heap H [] := by rw [hH]; exact va_S.rf
  replace hP : va_P (dC, dI) vwCl [(ar, .inr (6, [.int 0, .int 5, .ref st, .null, .null, .int 0, .int 0, .int 0, .int 0, .int 1, .ref arf, .int 0])), (arf, .inr (2, [.int (nI zi), .int zj, .int zk, .null]))] H := by rw [hH]; exact hP
  clear hH
  refine lv_aload_n hx hb dX5_writeFirst_0 rfl (lv_at hl 0 rfl) ?_
  refine va_get (D := (dC, dI)) (ci := 6) (v := .int 1) (C := RX5) (T := TX5) (N := 12) hx hb hts in_c_writeFirst_za_X5 hown hK hP 0 rfl rfl 9 (by decide) (hts (.fieldLink RX5 31 "ClaimBus$Row" "claimWaits" "Z") (List.mem_of_getElem? (i := 1) rfl)) (fun _ h9 => h9) rfl dX5_writeFirst_1 ?_
  refine lv_if_eq (tgt := 28) hx hb dX5_writeFirst_4 (by decide) (fun c_1 => ?_) (fun c_1 => ?_)
  · exact absurd c_1 (by decide)
  refine lv_aload_n hx hb dX5_writeFirst_7 rfl (lv_at hl 0 rfl) ?_
  refine va_get (D := (dC, dI)) (ci := 6) (v := .ref arf) (C := RX5) (T := TX5) (N := 12) hx hb hts in_c_writeFirst_za_X5 hown hK hP 0 rfl rfl 10 (by decide) (hts (.fieldLink RX5 38 "ClaimBus$Row" "first" "LClaimBus$Frame;") (List.mem_of_getElem? (i := 2) rfl)) (fun _ h9 => h9) rfl dX5_writeFirst_8 ?_
  refine lv_ldc hx hb hown (hts (.constant RX5 90 (418316032)) (List.mem_of_getElem? (i := 3) rfl)) dX5_writeFirst_11 ?_
  refine lv_iload_n hx hb dX5_writeFirst_13 rfl (lv_at hl 1 rfl) ?_
  refine lv_ior hx hb dX5_writeFirst_14 ?_
  refine lv_topi (fun x_2 ex_2 => ?_)
  obtain rfl : x_2 = 418316042 := ex_2.trans (by decide)
  refine lv_aload_n hx hb dX5_writeFirst_15 rfl (lv_at hl 0 rfl) ?_
  refine va_get (D := (dC, dI)) (ci := 6) (v := .int 5) (C := RX5) (T := TX5) (N := 12) hx hb hts in_c_writeFirst_za_X5 hown hK hP 0 rfl rfl 1 (by decide) (hts (.fieldLink RX5 48 "ClaimBus$Row" "low" "I") (List.mem_of_getElem? (i := 4) rfl)) (fun _ h9 => h9) rfl dX5_writeFirst_16 ?_
  refine lv_aload_n hx hb dX5_writeFirst_19 rfl (lv_at hl 0 rfl) ?_
  refine va_get (D := (dC, dI)) (ci := 6) (v := .int 0) (C := RX5) (T := TX5) (N := 12) hx hb hts in_c_writeFirst_za_X5 hown hK hP 0 rfl rfl 0 (by decide) (hts (.fieldLink RX5 45 "ClaimBus$Row" "high" "I") (List.mem_of_getElem? (i := 5) rfl)) (fun _ h9 => h9) rfl dX5_writeFirst_20 ?_
  refine lv_null hx hb dX5_writeFirst_23 ?_
  have hPc := hP.sub (ws' := [(arf, .inr (2, [.int (nI zi), .int zj, .int zk, .null]))]) [1] rfl
  have hDc := hD.sub (ws' := [(arf, .inr (2, [.int (nI zi), .int zj, .int zk, .null]))]) [1] (by decide +kernel) rfl
  have hKc := hK.sub (tys' := []) [] rfl
  have hFc := va_free (wc := [(arf, .inr (2, [.int (nI zi), .int zj, .int zk, .null]))]) hD hS hA [1] rfl
  refine va_callv (va_runV (As := [.int 418316042, .int 5, .int 0, .null]) (rest := []) ⟨hx, hb, hml, hown, hts⟩ (c_X1_writeN0 l dC dI (arf) (zi) (zj) (zk) (418316042) (5) (0) H.size) (cwV 4 hts g_c_writeFirst_za_c_X1_writeN0_91 rfl rfl rfl (by decide +kernel) ⟨Nat.le_of_ble_eq_true rfl, Nat.le_of_ble_eq_true rfl⟩) ⟨fun a U g mk q => by obtain ⟨q0, q1, qP, qK, qD, qE⟩ := q; exact ⟨q0, q1, qP, va_K.moved (u := U) (U := U.calling g mk a) (Vm.Alike.refl U.vm) qK, qD, ev.same (u := U) (U := U.calling g mk a) rfl qE⟩, va_recv hKc hPc (ci := 2) (q0 := 0) rfl rfl, fun U hU hW => ⟨rfl, by rw [hU], by rw [hU]; exact hPc, va_K.moved hW.alike hKc, hDc.weaken (fun _ _ _ _ => trivial), hE.warm hW⟩⟩ rfl rfl hl.1 rfl (lv_room (Nat.le_of_ble_eq_true rfl)) dX5_writeFirst_24 ⟨Nat.le_of_ble_eq_true rfl, Nat.le_of_ble_eq_true rfl⟩) hS (fun q _ h => hFc q h) hFc (fun u t H1 locs ht hvm hw hB hz1 hk1 hS => ?_)
  clear hPc hDc hKc
  obtain ⟨hP1, hK1, hD1⟩ := hB
  rw [ht] at hP1
  have hK1 := va_K.moved hvm.symm hK1
  obtain ⟨hP, hD⟩ := va_join (wr := [(ar, .inr (6, [.int 0, .int 5, .ref st, .null, .null, .int 0, .int 0, .int 0, .int 0, .int 1, .ref arf, .int 0]))]) (w1 := [(arf, .inr (2, [.int (nI 418316042), .int 5, .int 0, .null]))]) hP hD [1] [0] rfl rfl (by decide +kernel) (by decide +kernel) hk1 hFc hP1 hD1
  generalize H1 = H at hP hS ⊢
  replace hP : va_P (dC, dI) vwCl [(ar, .inr (6, [.int 0, .int 5, .ref st, .null, .null, .int 0, .int 0, .int 0, .int 0, .int 1, .ref arf, .int 0])), (arf, .inr (2, [.int (nI 418316042), .int 5, .int 0, .null]))] H := hP
  replace hD : va_D A [(ar, .inr (6, [.int 0, .int 5, .ref st, .null, .null, .int 0, .int 0, .int 0, .int 0, .int 1, .ref arf, .int 0])), (arf, .inr (2, [.int (nI 418316042), .int 5, .int 0, .null]))] := hD
  rw [show ((nI 418316042) : Int32) = 418316042 from (congrArg nI (show 418316042 = 418316042 from by omega)).trans (by decide)] at hP hD
  replace hP : va_P (dC, dI) vwCl [(ar, .inr (6, [.int 0, .int 5, .ref st, .null, .null, .int 0, .int 0, .int 0, .int 0, .int 1, .ref arf, .int 0])), (arf, .inr (2, [.int 418316042, .int 5, .int 0, .null]))] H := hP
  replace hD : va_D A [(ar, .inr (6, [.int 0, .int 5, .ref st, .null, .null, .int 0, .int 0, .int 0, .int 0, .int 1, .ref arf, .int 0])), (arf, .inr (2, [.int 418316042, .int 5, .int 0, .null]))] := hD
  clear hw
  have hP9 := hP.sub (ws' := [(ar, .inr (6, [.int 0, .int 5, .ref st, .null, .null, .int 0, .int 0, .int 0, .int 0, .int 1, .ref arf, .int 0])), (arf, .inr (2, [.int 418316042, .int 5, .int 0, .null]))]) [0, 1] rfl
  have hD9 := hD.sub (ws' := [(ar, .inr (6, [.int 0, .int 5, .ref st, .null, .null, .int 0, .int 0, .int 0, .int 0, .int 1, .ref arf, .int 0])), (arf, .inr (2, [.int 418316042, .int 5, .int 0, .null]))]) [0, 1] (by decide +kernel) rfl
  have hK9 := hK.sub (tys' := []) [] rfl
  exact W.vret hx hb hr (fun t ht hW => ⟨⟨(), rfl, trivial, ⟨by rw [ht]; exact hP9, va_K.moved hW.alike hK9, hD9⟩⟩, hS.F ht⟩) hS.2.2 dX5_writeFirst_27

noncomputable def tl_c_first_za : List Cond := wsX50 ++ (v_c_len_c ++ (v_c_writeFirst_za))
noncomputable def v_c_first_za : List Cond := .code yX5_first cX5_first 2 (some (.object "ClaimBus$Frame")) :: ([.initialized RX5, .methodLink RX5 82 yX5_length, .instanceMethod yX5_length, .selects RX5 yX5_length yX5_length, .fieldLink RX5 42 "ClaimBus$Row" "firstIsWritten" "Z", .methodLink RX5 86 yX5_writeFirst, .instanceMethod yX5_writeFirst, .selects RX5 yX5_writeFirst yX5_writeFirst, .fieldLink RX5 38 "ClaimBus$Row" "first" "LClaimBus$Frame;"] ++ tl_c_first_za)
theorem it_c_first_za : ∀ w ∈ tl_c_first_za, w ∈ v_c_first_za := fun w h => List.mem_cons_of_mem _ (List.mem_append_right _ h)
theorem in_c_first_za_X5 : ∀ w ∈ wsX50, w ∈ v_c_first_za := fun w h => it_c_first_za w (List.mem_append_left _ h)
theorem ic_c_first_za_c_len_c : ∀ w ∈ v_c_len_c, w ∈ v_c_first_za := fun w h => it_c_first_za w (List.mem_append_right _ (List.mem_append_left _ h))
theorem ic_c_first_za_c_writeFirst_za : ∀ w ∈ v_c_writeFirst_za, w ∈ v_c_first_za := fun w h => it_c_first_za w (List.mem_append_right _ (List.mem_append_right _ (h)))
theorem gt_c_first_za : ∀ w ∈ tl_c_first_za, goodWord w = true := List.forall_mem_append.mpr ⟨gw_wsX50, List.forall_mem_append.mpr ⟨gw_c_len_c, gw_c_writeFirst_za⟩⟩
theorem gw_c_first_za : ∀ w ∈ v_c_first_za, goodWord w = true := List.forall_mem_cons.mpr ⟨by decide +kernel, List.forall_mem_append.mpr ⟨List.all_eq_true.mp (by decide +kernel), gt_c_first_za⟩⟩
theorem g_c_first_za_c_len_c_82 : GoodIn v_c_first_za (wsV RX5 82 RX5 yX5_length v_c_len_c) := goodIn_app (goodIn_r [.methodLink RX5 82 yX5_length, .instanceMethod yX5_length, .selects RX5 yX5_length yX5_length, .initialized RX5] [2, 3, 4, 1] (by decide +kernel) (by decide +kernel)) (fun w h => ⟨ic_c_first_za_c_len_c w h, good_of_word (gw_c_len_c w h)⟩)
theorem g_c_first_za_c_writeFirst_za_86 : GoodIn v_c_first_za (wsV RX5 86 RX5 yX5_writeFirst v_c_writeFirst_za) := goodIn_app (goodIn_r [.methodLink RX5 86 yX5_writeFirst, .instanceMethod yX5_writeFirst, .selects RX5 yX5_writeFirst yX5_writeFirst, .initialized RX5] [6, 7, 8, 1] (by decide +kernel) (by decide +kernel)) (fun w h => ⟨ic_c_first_za_c_writeFirst_za w h, good_of_word (gw_c_writeFirst_za w h)⟩)
set_option maxHeartbeats 4000000 in
set_option maxRecDepth 100000 in
theorem c_first_za (l : Launch) (dC : Nat → ClassId) (dI : Nat → Nat → Nat) (ar : Nat) (arf : Nat) (st : Nat) (zi : Nat) (zj : Int32) (zk : Int32) (sz : Nat)  : Met l yX5_first v_c_first_za ({ frames := 2, cells := 0, slots := 0, locals := 51 }) (va_Pc [.ref ar, .int 10] (fun U => U.heap.size = sz ∧ va_P (dC, dI) vwCl [(ar, .inr (6, [.int 0, .int 5, .ref st, .null, .null, .int 0, .int 0, .int 0, .int 0, .int 1, .ref arf, .int 0])), (arf, .inr (2, [.int (nI zi), .int zj, .int zk, .null]))] U.heap ∧ va_K (dC, dI) vwCl [] U ∧ va_D (fun _ => True) [(ar, .inr (6, [.int 0, .int 5, .ref st, .null, .null, .int 0, .int 0, .int 0, .int 0, .int 1, .ref arf, .int 0])), (arf, .inr (2, [.int (nI zi), .int zj, .int zk, .null]))] ∧ ev U)) (va_Qq (fun (r : Option Nat) (_ : Unit) => r = some arf) (fun (_ : Unit) (t : State) => va_P (dC, dI) vwCl [(ar, .inr (6, [.int 0, .int 5, .ref st, .null, .null, .int 0, .int 0, .int 0, .int 0, .int 1, .ref arf, .int 1])), (arf, .inr (2, [.int 418316042, .int 5, .int 0, .null]))] t.heap ∧ va_K (dC, dI) vwCl [] t ∧ va_D (va_A [(ar, .inr (6, [.int 0, .int 5, .ref st, .null, .null, .int 0, .int 0, .int 0, .int 0, .int 1, .ref arf, .int 0])), (arf, .inr (2, [.int (nI zi), .int zj, .int zk, .null]))] sz) [(ar, .inr (6, [.int 0, .int 5, .ref st, .null, .null, .int 0, .int 0, .int 0, .int 0, .int 1, .ref arf, .int 1])), (arf, .inr (2, [.int 418316042, .int 5, .int 0, .null]))]) (va_A [(ar, .inr (6, [.int 0, .int 5, .ref st, .null, .null, .int 0, .int 0, .int 0, .int 0, .int 1, .ref arf, .int 0])), (arf, .inr (2, [.int (nI zi), .int zj, .int zk, .null]))] sz)) 0 0 (va_A [(ar, .inr (6, [.int 0, .int 5, .ref st, .null, .null, .int 0, .int 0, .int 0, .int 0, .int 1, .ref arf, .int 0])), (arf, .inr (2, [.int (nI zi), .int zj, .int zk, .null]))] sz) := by
  refine Met.ofW (cc := cX5_first) (maxL := 2) (ret := (some (.object "ClaimBus$Frame"))) (by decide) rfl ?_
  intro p e s m args below meth c s₁ B hml hv
  obtain ⟨rfl, hsz, hP, hK, hD0, hE⟩ := hv
  have hx := B.exec
  have hb := B.bytes
  have hr := B.returns
  have hts := atoms_spec (ws := v_c_first_za) B.pre
  have hown : s.vm.findClass RX5 = some m.cls := findClass_of_methodNamed B.named
  have hlocks := B.notSynchronized
  subst hsz
  have hD := hD0.self (sz := s.heap.size)
  generalize hAe : va_A [(ar, .inr (6, [.int 0, .int 5, .ref st, .null, .null, .int 0, .int 0, .int 0, .int 0, .int 1, .ref arf, .int 0])), (arf, .inr (2, [.int (nI zi), .int zj, .int zk, .null]))] s.heap.size = A at hD ⊢
  have hA : ∀ q : Nat, s.heap.size ≤ q → A q := fun q h => by rw [← hAe]; exact Or.inr h
  have hS : va_S A s.heap s.heap [] := va_S.rf
  replace hP : va_P (dC, dI) vwCl [(ar, .inr (6, [.int 0, .int 5, .ref st, .null, .null, .int 0, .int 0, .int 0, .int 0, .int 1, .ref arf, .int 0])), (arf, .inr (2, [.int (nI zi), .int zj, .int zk, .null]))] s.heap := hP
  have hl := lv_entry ([.ref ar, .int 10]) (n := 2) (Nat.le_of_ble_eq_true rfl)
  rw [lg_entry_eq]
  generalize (lg_sl ([.ref ar, .int 10]) ++ List.replicate (2 - (lg_sl ([.ref ar, .int 10])).length) Slot.unset).toArray = ls at hl ⊢
  replace hl : lv_has ls 2 [(0, .ref ar), (1, .int 10)] := hl
  obtain ⟨H, hH⟩ : ∃ z : Heap, z = s.heap := ⟨_, rfl⟩
  rw [← hH]
  replace hS : va_S A s.heap H [] := by rw [hH]; exact va_S.rf
  replace hP : va_P (dC, dI) vwCl [(ar, .inr (6, [.int 0, .int 5, .ref st, .null, .null, .int 0, .int 0, .int 0, .int 0, .int 1, .ref arf, .int 0])), (arf, .inr (2, [.int (nI zi), .int zj, .int zk, .null]))] H := by rw [hH]; exact hP
  clear hH
  refine lv_aload_n hx hb dX5_first_0 rfl (lv_at hl 0 rfl) ?_
  have hPc := hP.sub (ws' := [(ar, .inr (6, [.int 0, .int 5, .ref st, .null, .null, .int 0, .int 0, .int 0, .int 0, .int 1, .ref arf, .int 0]))]) [0] rfl
  have hDc := hD.sub (ws' := [(ar, .inr (6, [.int 0, .int 5, .ref st, .null, .null, .int 0, .int 0, .int 0, .int 0, .int 1, .ref arf, .int 0]))]) [0] (by decide +kernel) rfl
  have hKc := hK.sub (tys' := []) [] rfl
  have hFc := ro_free hS hA
  refine va_calli (va_runV (As := []) (rest := []) ⟨hx, hb, hml, hown, hts⟩ (c_len_c l dC dI (ar) (0) (5) (st) (arf) (0) (0) H.size) (cwV 0 hts g_c_first_za_c_len_c_82 rfl rfl rfl (by decide +kernel) ⟨Nat.le_of_ble_eq_true rfl, Nat.le_of_ble_eq_true rfl⟩) ⟨fun a U g mk q => by obtain ⟨q0, q1, qP, qK, qD, qE⟩ := q; exact ⟨q0, q1, qP, va_K.moved (u := U) (U := U.calling g mk a) (Vm.Alike.refl U.vm) qK, qD, ev.same (u := U) (U := U.calling g mk a) rfl qE⟩, va_recv hKc hPc (ci := 6) (q0 := 0) rfl rfl, fun U hU hW => ⟨rfl, by rw [hU], by rw [hU]; exact hPc, va_K.moved hW.alike hKc, hDc.weaken (fun _ _ _ _ => trivial), hE.warm hW⟩⟩ rfl rfl hl.1 rfl (lv_room (Nat.le_of_ble_eq_true rfl)) dX5_first_1 ⟨Nat.le_of_ble_eq_true rfl, Nat.le_of_ble_eq_true rfl⟩) hS (fun q _ h => hFc q h) hFc (fun r_1 u t H1 locs ht hvm hw hB hz1 hk1 hS => ?_)
  clear hPc hDc hKc
  replace hP := ro_keep hP hk1
  generalize H1 = H at hP hS ⊢
  replace hP : va_P (dC, dI) vwCl [(ar, .inr (6, [.int 0, .int 5, .ref st, .null, .null, .int 0, .int 0, .int 0, .int 0, .int 1, .ref arf, .int 0])), (arf, .inr (2, [.int (nI zi), .int zj, .int zk, .null]))] H := hP
  have hw := hw.symm
  subst hw
  refine lv_if_ne (tgt := 9) hx hb dX5_first_4 (by decide) (fun c_2 => ?_) (fun c_2 => ?_)
  rotate_left
  · exact absurd c_2 (by decide)
  refine lv_aload_n hx hb dX5_first_9 rfl (lv_at hl 0 rfl) ?_
  refine va_get (D := (dC, dI)) (ci := 6) (v := .int 0) (C := RX5) (T := TX5) (N := 12) hx hb hts in_c_first_za_X5 hown hK hP 0 rfl rfl 11 (by decide) (hts (.fieldLink RX5 42 "ClaimBus$Row" "firstIsWritten" "Z") (List.mem_of_getElem? (i := 5) rfl)) (fun _ h9 => h9) rfl dX5_first_10 ?_
  refine lv_if_ne (tgt := 26) hx hb dX5_first_13 (by decide) (fun c_3 => ?_) (fun c_3 => ?_)
  · exact absurd c_3 (by decide)
  refine lv_aload_n hx hb dX5_first_16 rfl (lv_at hl 0 rfl) ?_
  refine lv_iload_n hx hb dX5_first_17 rfl (lv_at hl 1 rfl) ?_
  have hPc := hP.sub (ws' := [(ar, .inr (6, [.int 0, .int 5, .ref st, .null, .null, .int 0, .int 0, .int 0, .int 0, .int 1, .ref arf, .int 0])), (arf, .inr (2, [.int (nI zi), .int zj, .int zk, .null]))]) [0, 1] rfl
  have hDc := hD.sub (ws' := [(ar, .inr (6, [.int 0, .int 5, .ref st, .null, .null, .int 0, .int 0, .int 0, .int 0, .int 1, .ref arf, .int 0])), (arf, .inr (2, [.int (nI zi), .int zj, .int zk, .null]))]) [0, 1] (by decide +kernel) rfl
  have hKc := hK.sub (tys' := []) [] rfl
  have hFc := va_free (wc := [(ar, .inr (6, [.int 0, .int 5, .ref st, .null, .null, .int 0, .int 0, .int 0, .int 0, .int 1, .ref arf, .int 0])), (arf, .inr (2, [.int (nI zi), .int zj, .int zk, .null]))]) hD hS hA [0, 1] rfl
  refine va_callv (va_runV (As := [.int 10]) (rest := []) ⟨hx, hb, hml, hown, hts⟩ (c_writeFirst_za l dC dI (ar) (arf) (st) (zi) (zj) (zk) H.size) (cwV 1 hts g_c_first_za_c_writeFirst_za_86 rfl rfl rfl (by decide +kernel) ⟨Nat.le_of_ble_eq_true rfl, Nat.le_of_ble_eq_true rfl⟩) ⟨fun a U g mk q => by obtain ⟨q0, q1, qP, qK, qD, qE⟩ := q; exact ⟨q0, q1, qP, va_K.moved (u := U) (U := U.calling g mk a) (Vm.Alike.refl U.vm) qK, qD, ev.same (u := U) (U := U.calling g mk a) rfl qE⟩, va_recv hKc hPc (ci := 6) (q0 := 0) rfl rfl, fun U hU hW => ⟨rfl, by rw [hU], by rw [hU]; exact hPc, va_K.moved hW.alike hKc, hDc.weaken (fun _ _ _ _ => trivial), hE.warm hW⟩⟩ rfl rfl hl.1 rfl (lv_room (Nat.le_of_ble_eq_true rfl)) dX5_first_18 ⟨Nat.le_of_ble_eq_true rfl, Nat.le_of_ble_eq_true rfl⟩) hS (fun q _ h => hFc q h) hFc (fun u t H1 locs ht hvm hw hB hz1 hk1 hS => ?_)
  clear hPc hDc hKc
  obtain ⟨hP1, hK1, hD1⟩ := hB
  rw [ht] at hP1
  have hK1 := va_K.moved hvm.symm hK1
  obtain ⟨hP, hD⟩ := va_join (wr := []) (w1 := [(ar, .inr (6, [.int 0, .int 5, .ref st, .null, .null, .int 0, .int 0, .int 0, .int 0, .int 1, .ref arf, .int 0])), (arf, .inr (2, [.int 418316042, .int 5, .int 0, .null]))]) hP hD [0, 1] [] rfl rfl (by decide +kernel) (by decide +kernel) hk1 hFc hP1 hD1
  generalize H1 = H at hP hS ⊢
  replace hP : va_P (dC, dI) vwCl [(ar, .inr (6, [.int 0, .int 5, .ref st, .null, .null, .int 0, .int 0, .int 0, .int 0, .int 1, .ref arf, .int 0])), (arf, .inr (2, [.int 418316042, .int 5, .int 0, .null]))] H := hP
  replace hD : va_D A [(ar, .inr (6, [.int 0, .int 5, .ref st, .null, .null, .int 0, .int 0, .int 0, .int 0, .int 1, .ref arf, .int 0])), (arf, .inr (2, [.int 418316042, .int 5, .int 0, .null]))] := hD
  clear hw
  refine lv_aload_n hx hb dX5_first_21 rfl (lv_at hl 0 rfl) ?_
  refine lv_iconst (v := 1) hx hb dX5_first_22 (by decide) ?_
  refine va_put (D := (dC, dI)) (ci := 6) (v := .int 1) (ty := .boolean) (C := RX5) (T := TX5) (N := 12) hx hb hts in_c_first_za_X5 tyX5 tyX5_ok nmX5 hown hK hP hD hS 0 rfl rfl 11 (by decide) (hts (.fieldLink RX5 42 "ClaimBus$Row" "firstIsWritten" "Z") (List.mem_of_getElem? (i := 5) rfl)) (fun _ h9 => h9) rfl (by decide +kernel) rfl rfl (Nat.le_of_ble_eq_true rfl) dX5_first_23 (fun H locs hP hD hS => ?_)
  replace hP : va_P (dC, dI) vwCl [(ar, .inr (6, [.int 0, .int 5, .ref st, .null, .null, .int 0, .int 0, .int 0, .int 0, .int 1, .ref arf, .int 1])), (arf, .inr (2, [.int 418316042, .int 5, .int 0, .null]))] H := hP
  replace hD : va_D A [(ar, .inr (6, [.int 0, .int 5, .ref st, .null, .null, .int 0, .int 0, .int 0, .int 0, .int 1, .ref arf, .int 1])), (arf, .inr (2, [.int 418316042, .int 5, .int 0, .null]))] := hD
  refine lv_aload_n hx hb dX5_first_26 rfl (lv_at hl 0 rfl) ?_
  refine va_get (D := (dC, dI)) (ci := 6) (v := .ref arf) (C := RX5) (T := TX5) (N := 12) hx hb hts in_c_first_za_X5 hown hK hP 0 rfl rfl 10 (by decide) (hts (.fieldLink RX5 38 "ClaimBus$Row" "first" "LClaimBus$Frame;") (List.mem_of_getElem? (i := 9) rfl)) (fun _ h9 => h9) rfl dX5_first_27 ?_
  have hP9 := hP.sub (ws' := [(ar, .inr (6, [.int 0, .int 5, .ref st, .null, .null, .int 0, .int 0, .int 0, .int 0, .int 1, .ref arf, .int 1])), (arf, .inr (2, [.int 418316042, .int 5, .int 0, .null]))]) [0, 1] rfl
  have hD9 := hD.sub (ws' := [(ar, .inr (6, [.int 0, .int 5, .ref st, .null, .null, .int 0, .int 0, .int 0, .int 0, .int 1, .ref arf, .int 1])), (arf, .inr (2, [.int 418316042, .int 5, .int 0, .null]))]) [0, 1] (by decide +kernel) rfl
  have hK9 := hK.sub (tys' := []) [] rfl
  exact W.aret (v := .ref arf) hx hb hr (Or.inl ⟨_, rfl⟩) (Or.inr ⟨_, rfl⟩) (fun t ht hW => ⟨⟨some arf, (), rfl, rfl, ⟨by rw [ht]; exact hP9, va_K.moved hW.alike hK9, hD9⟩⟩, hS.F ht⟩) hS.2.2 dX5_first_30

noncomputable def tl_c_first_ya : List Cond := wsX50 ++ (v_c_len_c1)
noncomputable def v_c_first_ya : List Cond := .code yX5_first cX5_first 2 (some (.object "ClaimBus$Frame")) :: ([.initialized RX5, .methodLink RX5 82 yX5_length, .instanceMethod yX5_length, .selects RX5 yX5_length yX5_length, .fieldLink RX5 42 "ClaimBus$Row" "firstIsWritten" "Z", .fieldLink RX5 38 "ClaimBus$Row" "first" "LClaimBus$Frame;"] ++ tl_c_first_ya)
theorem it_c_first_ya : ∀ w ∈ tl_c_first_ya, w ∈ v_c_first_ya := fun w h => List.mem_cons_of_mem _ (List.mem_append_right _ h)
theorem in_c_first_ya_X5 : ∀ w ∈ wsX50, w ∈ v_c_first_ya := fun w h => it_c_first_ya w (List.mem_append_left _ h)
theorem ic_c_first_ya_c_len_c1 : ∀ w ∈ v_c_len_c1, w ∈ v_c_first_ya := fun w h => it_c_first_ya w (List.mem_append_right _ (h))
theorem gt_c_first_ya : ∀ w ∈ tl_c_first_ya, goodWord w = true := List.forall_mem_append.mpr ⟨gw_wsX50, gw_c_len_c1⟩
theorem gw_c_first_ya : ∀ w ∈ v_c_first_ya, goodWord w = true := List.forall_mem_cons.mpr ⟨by decide +kernel, List.forall_mem_append.mpr ⟨List.all_eq_true.mp (by decide +kernel), gt_c_first_ya⟩⟩
theorem g_c_first_ya_c_len_c1_82 : GoodIn v_c_first_ya (wsV RX5 82 RX5 yX5_length v_c_len_c1) := goodIn_app (goodIn_r [.methodLink RX5 82 yX5_length, .instanceMethod yX5_length, .selects RX5 yX5_length yX5_length, .initialized RX5] [2, 3, 4, 1] (by decide +kernel) (by decide +kernel)) (fun w h => ⟨ic_c_first_ya_c_len_c1 w h, good_of_word (gw_c_len_c1 w h)⟩)
set_option maxHeartbeats 4000000 in
set_option maxRecDepth 100000 in
theorem c_first_ya (l : Launch) (dC : Nat → ClassId) (dI : Nat → Nat → Nat) (ar : Nat) (arf : Nat) (st : Nat) (sz : Nat)  : Met l yX5_first v_c_first_ya ({ frames := 1, cells := 0, slots := 0, locals := 20 }) (va_Pc [.ref ar, .int 10] (fun U => U.heap.size = sz ∧ va_P (dC, dI) vwCl [(ar, .inr (6, [.int 0, .int 5, .ref st, .null, .null, .int 0, .int 0, .int 0, .int 0, .int 1, .ref arf, .int 1]))] U.heap ∧ va_K (dC, dI) vwCl [] U ∧ va_D (fun _ => True) [(ar, .inr (6, [.int 0, .int 5, .ref st, .null, .null, .int 0, .int 0, .int 0, .int 0, .int 1, .ref arf, .int 1]))] ∧ ev U)) (va_Qq (fun (r : Option Nat) (_ : Unit) => r = some arf) (fun (_ : Unit) (_ : State) => True) (va_A [] sz)) 0 0 (va_A [] sz) := by
  refine Met.ofW (cc := cX5_first) (maxL := 2) (ret := (some (.object "ClaimBus$Frame"))) (by decide) rfl ?_
  intro p e s m args below meth c s₁ B hml hv
  obtain ⟨rfl, hsz, hP, hK, hD0, hE⟩ := hv
  have hx := B.exec
  have hb := B.bytes
  have hr := B.returns
  have hts := atoms_spec (ws := v_c_first_ya) B.pre
  have hown : s.vm.findClass RX5 = some m.cls := findClass_of_methodNamed B.named
  have hlocks := B.notSynchronized
  subst hsz
  have hD := hD0
  generalize hAe : va_A [] s.heap.size = A
  have hA : ∀ q : Nat, s.heap.size ≤ q → A q := fun q h => by rw [← hAe]; exact Or.inr h
  have hS : va_S A s.heap s.heap [] := va_S.rf
  replace hP : va_P (dC, dI) vwCl [(ar, .inr (6, [.int 0, .int 5, .ref st, .null, .null, .int 0, .int 0, .int 0, .int 0, .int 1, .ref arf, .int 1]))] s.heap := hP
  have hl := lv_entry ([.ref ar, .int 10]) (n := 2) (Nat.le_of_ble_eq_true rfl)
  rw [lg_entry_eq]
  generalize (lg_sl ([.ref ar, .int 10]) ++ List.replicate (2 - (lg_sl ([.ref ar, .int 10])).length) Slot.unset).toArray = ls at hl ⊢
  replace hl : lv_has ls 2 [(0, .ref ar), (1, .int 10)] := hl
  obtain ⟨H, hH⟩ : ∃ z : Heap, z = s.heap := ⟨_, rfl⟩
  rw [← hH]
  replace hS : va_S A s.heap H [] := by rw [hH]; exact va_S.rf
  replace hP : va_P (dC, dI) vwCl [(ar, .inr (6, [.int 0, .int 5, .ref st, .null, .null, .int 0, .int 0, .int 0, .int 0, .int 1, .ref arf, .int 1]))] H := by rw [hH]; exact hP
  clear hH
  refine lv_aload_n hx hb dX5_first_0 rfl (lv_at hl 0 rfl) ?_
  have hPc := hP.sub (ws' := [(ar, .inr (6, [.int 0, .int 5, .ref st, .null, .null, .int 0, .int 0, .int 0, .int 0, .int 1, .ref arf, .int 1]))]) [0] rfl
  have hDc := hD.sub (ws' := [(ar, .inr (6, [.int 0, .int 5, .ref st, .null, .null, .int 0, .int 0, .int 0, .int 0, .int 1, .ref arf, .int 1]))]) [0] (by decide +kernel) rfl
  have hKc := hK.sub (tys' := []) [] rfl
  have hFc := ro_free hS hA
  refine va_calli (va_runV (As := []) (rest := []) ⟨hx, hb, hml, hown, hts⟩ (c_len_c1 l dC dI (ar) (0) (5) (st) (arf) (0) (0) H.size) (cwV 0 hts g_c_first_ya_c_len_c1_82 rfl rfl rfl (by decide +kernel) ⟨Nat.le_of_ble_eq_true rfl, Nat.le_of_ble_eq_true rfl⟩) ⟨fun a U g mk q => by obtain ⟨q0, q1, qP, qK, qD, qE⟩ := q; exact ⟨q0, q1, qP, va_K.moved (u := U) (U := U.calling g mk a) (Vm.Alike.refl U.vm) qK, qD, ev.same (u := U) (U := U.calling g mk a) rfl qE⟩, va_recv hKc hPc (ci := 6) (q0 := 0) rfl rfl, fun U hU hW => ⟨rfl, by rw [hU], by rw [hU]; exact hPc, va_K.moved hW.alike hKc, hDc.weaken (fun _ _ _ _ => trivial), hE.warm hW⟩⟩ rfl rfl hl.1 rfl (lv_room (Nat.le_of_ble_eq_true rfl)) dX5_first_1 ⟨Nat.le_of_ble_eq_true rfl, Nat.le_of_ble_eq_true rfl⟩) hS (fun q _ h => hFc q h) hFc (fun r_1 u t H1 locs ht hvm hw hB hz1 hk1 hS => ?_)
  clear hPc hDc hKc
  replace hP := ro_keep hP hk1
  generalize H1 = H at hP hS ⊢
  replace hP : va_P (dC, dI) vwCl [(ar, .inr (6, [.int 0, .int 5, .ref st, .null, .null, .int 0, .int 0, .int 0, .int 0, .int 1, .ref arf, .int 1]))] H := hP
  have hw := hw.symm
  subst hw
  refine lv_if_ne (tgt := 9) hx hb dX5_first_4 (by decide) (fun c_2 => ?_) (fun c_2 => ?_)
  rotate_left
  · exact absurd c_2 (by decide)
  refine lv_aload_n hx hb dX5_first_9 rfl (lv_at hl 0 rfl) ?_
  refine va_get (D := (dC, dI)) (ci := 6) (v := .int 1) (C := RX5) (T := TX5) (N := 12) hx hb hts in_c_first_ya_X5 hown hK hP 0 rfl rfl 11 (by decide) (hts (.fieldLink RX5 42 "ClaimBus$Row" "firstIsWritten" "Z") (List.mem_of_getElem? (i := 5) rfl)) (fun _ h9 => h9) rfl dX5_first_10 ?_
  refine lv_if_ne (tgt := 26) hx hb dX5_first_13 (by decide) (fun c_3 => ?_) (fun c_3 => ?_)
  rotate_left
  · exact absurd c_3 (by decide)
  refine lv_aload_n hx hb dX5_first_26 rfl (lv_at hl 0 rfl) ?_
  refine va_get (D := (dC, dI)) (ci := 6) (v := .ref arf) (C := RX5) (T := TX5) (N := 12) hx hb hts in_c_first_ya_X5 hown hK hP 0 rfl rfl 10 (by decide) (hts (.fieldLink RX5 38 "ClaimBus$Row" "first" "LClaimBus$Frame;") (List.mem_of_getElem? (i := 6) rfl)) (fun _ h9 => h9) rfl dX5_first_27 ?_
  exact W.aret (v := .ref arf) hx hb hr (Or.inl ⟨_, rfl⟩) (Or.inr ⟨_, rfl⟩) (fun t ht hW => ⟨⟨some arf, (), rfl, rfl, trivial⟩, hS.F ht⟩) hS.2.2 dX5_first_30

noncomputable def tl_c_first_xa : List Cond := v_c_len_e
noncomputable def v_c_first_xa : List Cond := .code yX5_first cX5_first 2 (some (.object "ClaimBus$Frame")) :: ([.initialized RX5, .methodLink RX5 82 yX5_length, .instanceMethod yX5_length, .selects RX5 yX5_length yX5_length] ++ tl_c_first_xa)
theorem it_c_first_xa : ∀ w ∈ tl_c_first_xa, w ∈ v_c_first_xa := fun w h => List.mem_cons_of_mem _ (List.mem_append_right _ h)
theorem ic_c_first_xa_c_len_e : ∀ w ∈ v_c_len_e, w ∈ v_c_first_xa := fun w h => it_c_first_xa w (h)
theorem gt_c_first_xa : ∀ w ∈ tl_c_first_xa, goodWord w = true := gw_c_len_e
theorem gw_c_first_xa : ∀ w ∈ v_c_first_xa, goodWord w = true := List.forall_mem_cons.mpr ⟨by decide +kernel, List.forall_mem_append.mpr ⟨List.all_eq_true.mp (by decide +kernel), gt_c_first_xa⟩⟩
theorem g_c_first_xa_c_len_e_82 : GoodIn v_c_first_xa (wsV RX5 82 RX5 yX5_length v_c_len_e) := goodIn_app (goodIn_r [.methodLink RX5 82 yX5_length, .instanceMethod yX5_length, .selects RX5 yX5_length yX5_length, .initialized RX5] [2, 3, 4, 1] (by decide +kernel) (by decide +kernel)) (fun w h => ⟨ic_c_first_xa_c_len_e w h, good_of_word (gw_c_len_e w h)⟩)
set_option maxHeartbeats 4000000 in
set_option maxRecDepth 100000 in
theorem c_first_xa (l : Launch) (dC : Nat → ClassId) (dI : Nat → Nat → Nat) (ar : Nat) (arf : Nat) (st : Nat) (sz : Nat)  : Met l yX5_first v_c_first_xa ({ frames := 1, cells := 0, slots := 0, locals := 20 }) (va_Pc [.ref ar, .int 10] (fun U => U.heap.size = sz ∧ va_P (dC, dI) vwCl [(ar, .inr (6, [.int 0, .int 5, .ref st, .null, .null, .int 0, .int 0, .int 0, .int 0, .int 0, .ref arf, .int 0]))] U.heap ∧ va_K (dC, dI) vwCl [] U ∧ va_D (fun _ => True) [(ar, .inr (6, [.int 0, .int 5, .ref st, .null, .null, .int 0, .int 0, .int 0, .int 0, .int 0, .ref arf, .int 0]))] ∧ ev U)) (va_Qq (fun (r : Option Nat) (_ : Unit) => r = none) (fun (_ : Unit) (_ : State) => True) (va_A [] sz)) 0 0 (va_A [] sz) := by
  refine Met.ofW (cc := cX5_first) (maxL := 2) (ret := (some (.object "ClaimBus$Frame"))) (by decide) rfl ?_
  intro p e s m args below meth c s₁ B hml hv
  obtain ⟨rfl, hsz, hP, hK, hD0, hE⟩ := hv
  have hx := B.exec
  have hb := B.bytes
  have hr := B.returns
  have hts := atoms_spec (ws := v_c_first_xa) B.pre
  have hown : s.vm.findClass RX5 = some m.cls := findClass_of_methodNamed B.named
  have hlocks := B.notSynchronized
  subst hsz
  have hD := hD0
  generalize hAe : va_A [] s.heap.size = A
  have hA : ∀ q : Nat, s.heap.size ≤ q → A q := fun q h => by rw [← hAe]; exact Or.inr h
  have hS : va_S A s.heap s.heap [] := va_S.rf
  replace hP : va_P (dC, dI) vwCl [(ar, .inr (6, [.int 0, .int 5, .ref st, .null, .null, .int 0, .int 0, .int 0, .int 0, .int 0, .ref arf, .int 0]))] s.heap := hP
  have hl := lv_entry ([.ref ar, .int 10]) (n := 2) (Nat.le_of_ble_eq_true rfl)
  rw [lg_entry_eq]
  generalize (lg_sl ([.ref ar, .int 10]) ++ List.replicate (2 - (lg_sl ([.ref ar, .int 10])).length) Slot.unset).toArray = ls at hl ⊢
  replace hl : lv_has ls 2 [(0, .ref ar), (1, .int 10)] := hl
  obtain ⟨H, hH⟩ : ∃ z : Heap, z = s.heap := ⟨_, rfl⟩
  rw [← hH]
  replace hS : va_S A s.heap H [] := by rw [hH]; exact va_S.rf
  replace hP : va_P (dC, dI) vwCl [(ar, .inr (6, [.int 0, .int 5, .ref st, .null, .null, .int 0, .int 0, .int 0, .int 0, .int 0, .ref arf, .int 0]))] H := by rw [hH]; exact hP
  clear hH
  refine lv_aload_n hx hb dX5_first_0 rfl (lv_at hl 0 rfl) ?_
  have hPc := hP.sub (ws' := [(ar, .inr (6, [.int 0, .int 5, .ref st, .null, .null, .int 0, .int 0, .int 0, .int 0, .int 0, .ref arf, .int 0]))]) [0] rfl
  have hDc := hD.sub (ws' := [(ar, .inr (6, [.int 0, .int 5, .ref st, .null, .null, .int 0, .int 0, .int 0, .int 0, .int 0, .ref arf, .int 0]))]) [0] (by decide +kernel) rfl
  have hKc := hK.sub (tys' := []) [] rfl
  have hFc := ro_free hS hA
  refine va_calli (va_runV (As := []) (rest := []) ⟨hx, hb, hml, hown, hts⟩ (c_len_e l dC dI (ar) (0) (5) (st) (arf) (0) (0) H.size) (cwV 0 hts g_c_first_xa_c_len_e_82 rfl rfl rfl (by decide +kernel) ⟨Nat.le_of_ble_eq_true rfl, Nat.le_of_ble_eq_true rfl⟩) ⟨fun a U g mk q => by obtain ⟨q0, q1, qP, qK, qD, qE⟩ := q; exact ⟨q0, q1, qP, va_K.moved (u := U) (U := U.calling g mk a) (Vm.Alike.refl U.vm) qK, qD, ev.same (u := U) (U := U.calling g mk a) rfl qE⟩, va_recv hKc hPc (ci := 6) (q0 := 0) rfl rfl, fun U hU hW => ⟨rfl, by rw [hU], by rw [hU]; exact hPc, va_K.moved hW.alike hKc, hDc.weaken (fun _ _ _ _ => trivial), hE.warm hW⟩⟩ rfl rfl hl.1 rfl (lv_room (Nat.le_of_ble_eq_true rfl)) dX5_first_1 ⟨Nat.le_of_ble_eq_true rfl, Nat.le_of_ble_eq_true rfl⟩) hS (fun q _ h => hFc q h) hFc (fun r_1 u t H1 locs ht hvm hw hB hz1 hk1 hS => ?_)
  clear hPc hDc hKc
  replace hP := ro_keep hP hk1
  generalize H1 = H at hP hS ⊢
  replace hP : va_P (dC, dI) vwCl [(ar, .inr (6, [.int 0, .int 5, .ref st, .null, .null, .int 0, .int 0, .int 0, .int 0, .int 0, .ref arf, .int 0]))] H := hP
  have hw := hw.symm
  subst hw
  refine lv_if_ne (tgt := 9) hx hb dX5_first_4 (by decide) (fun c_2 => ?_) (fun c_2 => ?_)
  · exact absurd c_2 (by decide)
  refine lv_null hx hb dX5_first_7 ?_
  exact W.aret (v := .null) hx hb hr (Or.inl ⟨_, rfl⟩) (Or.inl rfl) (fun t ht hW => ⟨⟨none, (), rfl, rfl, trivial⟩, hS.F ht⟩) hS.2.2 dX5_first_8

noncomputable def tl_c_removeFirst_za : List Cond := wsX50
noncomputable def v_c_removeFirst_za : List Cond := .code yX5_removeFirst cX5_removeFirst 1 none :: ([.fieldLink RX5 42 "ClaimBus$Row" "firstIsWritten" "Z", .fieldLink RX5 31 "ClaimBus$Row" "claimWaits" "Z"] ++ tl_c_removeFirst_za)
theorem it_c_removeFirst_za : ∀ w ∈ tl_c_removeFirst_za, w ∈ v_c_removeFirst_za := fun w h => List.mem_cons_of_mem _ (List.mem_append_right _ h)
theorem in_c_removeFirst_za_X5 : ∀ w ∈ wsX50, w ∈ v_c_removeFirst_za := fun w h => it_c_removeFirst_za w (h)
theorem gt_c_removeFirst_za : ∀ w ∈ tl_c_removeFirst_za, goodWord w = true := gw_wsX50
theorem gw_c_removeFirst_za : ∀ w ∈ v_c_removeFirst_za, goodWord w = true := List.forall_mem_cons.mpr ⟨by decide +kernel, List.forall_mem_append.mpr ⟨List.all_eq_true.mp (by decide +kernel), gt_c_removeFirst_za⟩⟩
set_option maxHeartbeats 4000000 in
set_option maxRecDepth 100000 in
theorem c_removeFirst_za (l : Launch) (dC : Nat → ClassId) (dI : Nat → Nat → Nat) (ar : Nat) (arf : Nat) (st : Nat) (sz : Nat)  : Met l yX5_removeFirst v_c_removeFirst_za ({ frames := 0, cells := 0, slots := 0, locals := 0 }) (va_Pc [.ref ar] (fun U => U.heap.size = sz ∧ va_P (dC, dI) vwCl [(ar, .inr (6, [.int 0, .int 5, .ref st, .null, .null, .int 0, .int 0, .int 0, .int 0, .int 1, .ref arf, .int 1]))] U.heap ∧ va_K (dC, dI) vwCl [] U ∧ va_D (fun _ => True) [(ar, .inr (6, [.int 0, .int 5, .ref st, .null, .null, .int 0, .int 0, .int 0, .int 0, .int 1, .ref arf, .int 1]))] ∧ ev U)) (va_Qv (fun _ : Unit => True) (fun (_ : Unit) (t : State) => va_P (dC, dI) vwCl [(ar, .inr (6, [.int 0, .int 5, .ref st, .null, .null, .int 0, .int 0, .int 0, .int 0, .int 0, .ref arf, .int 0]))] t.heap ∧ va_K (dC, dI) vwCl [] t ∧ va_D (va_A [(ar, .inr (6, [.int 0, .int 5, .ref st, .null, .null, .int 0, .int 0, .int 0, .int 0, .int 1, .ref arf, .int 1]))] sz) [(ar, .inr (6, [.int 0, .int 5, .ref st, .null, .null, .int 0, .int 0, .int 0, .int 0, .int 0, .ref arf, .int 0]))]) (va_A [(ar, .inr (6, [.int 0, .int 5, .ref st, .null, .null, .int 0, .int 0, .int 0, .int 0, .int 1, .ref arf, .int 1]))] sz)) 0 0 (va_A [(ar, .inr (6, [.int 0, .int 5, .ref st, .null, .null, .int 0, .int 0, .int 0, .int 0, .int 1, .ref arf, .int 1]))] sz) := by
  refine Met.ofW (cc := cX5_removeFirst) (maxL := 1) (ret := none) (by decide) rfl ?_
  intro p e s m args below meth c s₁ B hml hv
  obtain ⟨rfl, hsz, hP, hK, hD0, hE⟩ := hv
  have hx := B.exec
  have hb := B.bytes
  have hr := B.returns
  have hts := atoms_spec (ws := v_c_removeFirst_za) B.pre
  have hown : s.vm.findClass RX5 = some m.cls := findClass_of_methodNamed B.named
  have hlocks := B.notSynchronized
  subst hsz
  have hD := hD0.self (sz := s.heap.size)
  generalize hAe : va_A [(ar, .inr (6, [.int 0, .int 5, .ref st, .null, .null, .int 0, .int 0, .int 0, .int 0, .int 1, .ref arf, .int 1]))] s.heap.size = A at hD ⊢
  have hA : ∀ q : Nat, s.heap.size ≤ q → A q := fun q h => by rw [← hAe]; exact Or.inr h
  have hS : va_S A s.heap s.heap [] := va_S.rf
  replace hP : va_P (dC, dI) vwCl [(ar, .inr (6, [.int 0, .int 5, .ref st, .null, .null, .int 0, .int 0, .int 0, .int 0, .int 1, .ref arf, .int 1]))] s.heap := hP
  have hl := lv_entry ([.ref ar]) (n := 1) (Nat.le_of_ble_eq_true rfl)
  rw [lg_entry_eq]
  generalize (lg_sl ([.ref ar]) ++ List.replicate (1 - (lg_sl ([.ref ar])).length) Slot.unset).toArray = ls at hl ⊢
  replace hl : lv_has ls 1 [(0, .ref ar)] := hl
  obtain ⟨H, hH⟩ : ∃ z : Heap, z = s.heap := ⟨_, rfl⟩
  rw [← hH]
  replace hS : va_S A s.heap H [] := by rw [hH]; exact va_S.rf
  replace hP : va_P (dC, dI) vwCl [(ar, .inr (6, [.int 0, .int 5, .ref st, .null, .null, .int 0, .int 0, .int 0, .int 0, .int 1, .ref arf, .int 1]))] H := by rw [hH]; exact hP
  clear hH
  refine lv_aload_n hx hb dX5_removeFirst_0 rfl (lv_at hl 0 rfl) ?_
  refine lv_iconst (v := 0) hx hb dX5_removeFirst_1 (by decide) ?_
  refine va_put (D := (dC, dI)) (ci := 6) (v := .int 0) (ty := .boolean) (C := RX5) (T := TX5) (N := 12) hx hb hts in_c_removeFirst_za_X5 tyX5 tyX5_ok nmX5 hown hK hP hD hS 0 rfl rfl 11 (by decide) (hts (.fieldLink RX5 42 "ClaimBus$Row" "firstIsWritten" "Z") (List.mem_of_getElem? (i := 1) rfl)) (fun _ h9 => h9) rfl (by decide +kernel) rfl rfl (Nat.le_of_ble_eq_true rfl) dX5_removeFirst_2 (fun H locs hP hD hS => ?_)
  replace hP : va_P (dC, dI) vwCl [(ar, .inr (6, [.int 0, .int 5, .ref st, .null, .null, .int 0, .int 0, .int 0, .int 0, .int 1, .ref arf, .int 0]))] H := hP
  replace hD : va_D A [(ar, .inr (6, [.int 0, .int 5, .ref st, .null, .null, .int 0, .int 0, .int 0, .int 0, .int 1, .ref arf, .int 0]))] := hD
  refine lv_aload_n hx hb dX5_removeFirst_5 rfl (lv_at hl 0 rfl) ?_
  refine va_get (D := (dC, dI)) (ci := 6) (v := .int 1) (C := RX5) (T := TX5) (N := 12) hx hb hts in_c_removeFirst_za_X5 hown hK hP 0 rfl rfl 9 (by decide) (hts (.fieldLink RX5 31 "ClaimBus$Row" "claimWaits" "Z") (List.mem_of_getElem? (i := 2) rfl)) (fun _ h9 => h9) rfl dX5_removeFirst_6 ?_
  refine lv_if_eq (tgt := 20) hx hb dX5_removeFirst_9 (by decide) (fun c_1 => ?_) (fun c_1 => ?_)
  · exact absurd c_1 (by decide)
  refine lv_aload_n hx hb dX5_removeFirst_12 rfl (lv_at hl 0 rfl) ?_
  refine lv_iconst (v := 0) hx hb dX5_removeFirst_13 (by decide) ?_
  refine va_put (D := (dC, dI)) (ci := 6) (v := .int 0) (ty := .boolean) (C := RX5) (T := TX5) (N := 12) hx hb hts in_c_removeFirst_za_X5 tyX5 tyX5_ok nmX5 hown hK hP hD hS 0 rfl rfl 9 (by decide) (hts (.fieldLink RX5 31 "ClaimBus$Row" "claimWaits" "Z") (List.mem_of_getElem? (i := 2) rfl)) (fun _ h9 => h9) rfl (by decide +kernel) rfl rfl (Nat.le_of_ble_eq_true rfl) dX5_removeFirst_14 (fun H locs hP hD hS => ?_)
  replace hP : va_P (dC, dI) vwCl [(ar, .inr (6, [.int 0, .int 5, .ref st, .null, .null, .int 0, .int 0, .int 0, .int 0, .int 0, .ref arf, .int 0]))] H := hP
  replace hD : va_D A [(ar, .inr (6, [.int 0, .int 5, .ref st, .null, .null, .int 0, .int 0, .int 0, .int 0, .int 0, .ref arf, .int 0]))] := hD
  refine lv_goto (tgt := 57) hx hb dX5_removeFirst_17 (by decide) ?_
  have hP9 := hP.sub (ws' := [(ar, .inr (6, [.int 0, .int 5, .ref st, .null, .null, .int 0, .int 0, .int 0, .int 0, .int 0, .ref arf, .int 0]))]) [0] rfl
  have hD9 := hD.sub (ws' := [(ar, .inr (6, [.int 0, .int 5, .ref st, .null, .null, .int 0, .int 0, .int 0, .int 0, .int 0, .ref arf, .int 0]))]) [0] (by decide +kernel) rfl
  have hK9 := hK.sub (tys' := []) [] rfl
  exact W.vret hx hb hr (fun t ht hW => ⟨⟨(), rfl, trivial, ⟨by rw [ht]; exact hP9, va_K.moved hW.alike hK9, hD9⟩⟩, hS.F ht⟩) hS.2.2 dX5_removeFirst_57

noncomputable def tl_c_fwc_za : List Cond := wsX40 ++ (v_c_removeFirst_za)
noncomputable def v_c_fwc_za : List Cond := .code yX4_frameWasCarried cX4_frameWasCarried 3 none :: ([.fieldLink RX4 89 "ClaimBus$Node" "row" "LClaimBus$Row;", .initialized RX5, .methodLink RX4 143 yX5_removeFirst, .instanceMethod yX5_removeFirst, .selects RX5 yX5_removeFirst yX5_removeFirst, .fieldLink RX4 56 "ClaimBus$Node" "claimCarriedAt" "I"] ++ tl_c_fwc_za)
theorem it_c_fwc_za : ∀ w ∈ tl_c_fwc_za, w ∈ v_c_fwc_za := fun w h => List.mem_cons_of_mem _ (List.mem_append_right _ h)
theorem in_c_fwc_za_X4 : ∀ w ∈ wsX40, w ∈ v_c_fwc_za := fun w h => it_c_fwc_za w (List.mem_append_left _ h)
theorem ic_c_fwc_za_c_removeFirst_za : ∀ w ∈ v_c_removeFirst_za, w ∈ v_c_fwc_za := fun w h => it_c_fwc_za w (List.mem_append_right _ (h))
theorem gt_c_fwc_za : ∀ w ∈ tl_c_fwc_za, goodWord w = true := List.forall_mem_append.mpr ⟨gw_wsX40, gw_c_removeFirst_za⟩
theorem gw_c_fwc_za : ∀ w ∈ v_c_fwc_za, goodWord w = true := List.forall_mem_cons.mpr ⟨by decide +kernel, List.forall_mem_append.mpr ⟨List.all_eq_true.mp (by decide +kernel), gt_c_fwc_za⟩⟩
theorem g_c_fwc_za_c_removeFirst_za_143 : GoodIn v_c_fwc_za (wsV RX4 143 RX5 yX5_removeFirst v_c_removeFirst_za) := goodIn_app (goodIn_r [.methodLink RX4 143 yX5_removeFirst, .instanceMethod yX5_removeFirst, .selects RX5 yX5_removeFirst yX5_removeFirst, .initialized RX5] [3, 4, 5, 2] (by decide +kernel) (by decide +kernel)) (fun w h => ⟨ic_c_fwc_za_c_removeFirst_za w h, good_of_word (gw_c_removeFirst_za w h)⟩)
set_option maxHeartbeats 4000000 in
set_option maxRecDepth 100000 in
theorem c_fwc_za (l : Launch) (dC : Nat → ClassId) (dI : Nat → Nat → Nat) (an : Nat) (ar : Nat) (ae : Nat) (as : Nat) (ai : Nat) (ag : Nat) (ac : Nat) (au : Nat) (awi : Nat) (st : Nat) (arf : Nat) (tm : Nat) (sz : Nat)  : Met l yX4_frameWasCarried v_c_fwc_za ({ frames := 1, cells := 0, slots := 0, locals := 20 }) (va_Pc [.ref an, .int 1, .int (nI tm)] (fun U => U.heap.size = sz ∧ va_P (dC, dI) vwCl [(an, .inr (5, [.int 0, .int 5, .int 10, .int 0, .int (nI awi), .ref ar, .ref ae, .ref as, .ref ai, .ref ag, .ref ac, .ref au, .int 0, .int 1, .int 10, .int (-1), .int 0, .int 0])), (ar, .inr (6, [.int 0, .int 5, .ref st, .null, .null, .int 0, .int 0, .int 0, .int 0, .int 1, .ref arf, .int 1]))] U.heap ∧ va_K (dC, dI) vwCl [] U ∧ va_D (fun _ => True) [(an, .inr (5, [.int 0, .int 5, .int 10, .int 0, .int (nI awi), .ref ar, .ref ae, .ref as, .ref ai, .ref ag, .ref ac, .ref au, .int 0, .int 1, .int 10, .int (-1), .int 0, .int 0])), (ar, .inr (6, [.int 0, .int 5, .ref st, .null, .null, .int 0, .int 0, .int 0, .int 0, .int 1, .ref arf, .int 1]))] ∧ ev U)) (va_Qv (fun _ : Unit => True) (fun (_ : Unit) (t : State) => va_P (dC, dI) vwCl [(an, .inr (5, [.int 0, .int 5, .int 10, .int 0, .int (nI awi), .ref ar, .ref ae, .ref as, .ref ai, .ref ag, .ref ac, .ref au, .int 0, .int 1, .int 10, .int (nI tm), .int 0, .int 0])), (ar, .inr (6, [.int 0, .int 5, .ref st, .null, .null, .int 0, .int 0, .int 0, .int 0, .int 0, .ref arf, .int 0]))] t.heap ∧ va_K (dC, dI) vwCl [] t ∧ va_D (va_A [(an, .inr (5, [.int 0, .int 5, .int 10, .int 0, .int (nI awi), .ref ar, .ref ae, .ref as, .ref ai, .ref ag, .ref ac, .ref au, .int 0, .int 1, .int 10, .int (-1), .int 0, .int 0])), (ar, .inr (6, [.int 0, .int 5, .ref st, .null, .null, .int 0, .int 0, .int 0, .int 0, .int 1, .ref arf, .int 1]))] sz) [(an, .inr (5, [.int 0, .int 5, .int 10, .int 0, .int (nI awi), .ref ar, .ref ae, .ref as, .ref ai, .ref ag, .ref ac, .ref au, .int 0, .int 1, .int 10, .int (nI tm), .int 0, .int 0])), (ar, .inr (6, [.int 0, .int 5, .ref st, .null, .null, .int 0, .int 0, .int 0, .int 0, .int 0, .ref arf, .int 0]))]) (va_A [(an, .inr (5, [.int 0, .int 5, .int 10, .int 0, .int (nI awi), .ref ar, .ref ae, .ref as, .ref ai, .ref ag, .ref ac, .ref au, .int 0, .int 1, .int 10, .int (-1), .int 0, .int 0])), (ar, .inr (6, [.int 0, .int 5, .ref st, .null, .null, .int 0, .int 0, .int 0, .int 0, .int 1, .ref arf, .int 1]))] sz)) 0 0 (va_A [(an, .inr (5, [.int 0, .int 5, .int 10, .int 0, .int (nI awi), .ref ar, .ref ae, .ref as, .ref ai, .ref ag, .ref ac, .ref au, .int 0, .int 1, .int 10, .int (-1), .int 0, .int 0])), (ar, .inr (6, [.int 0, .int 5, .ref st, .null, .null, .int 0, .int 0, .int 0, .int 0, .int 1, .ref arf, .int 1]))] sz) := by
  refine Met.ofW (cc := cX4_frameWasCarried) (maxL := 3) (ret := none) (by decide) rfl ?_
  intro p e s m args below meth c s₁ B hml hv
  obtain ⟨rfl, hsz, hP, hK, hD0, hE⟩ := hv
  have hx := B.exec
  have hb := B.bytes
  have hr := B.returns
  have hts := atoms_spec (ws := v_c_fwc_za) B.pre
  have hown : s.vm.findClass RX4 = some m.cls := findClass_of_methodNamed B.named
  have hlocks := B.notSynchronized
  subst hsz
  have hD := hD0.self (sz := s.heap.size)
  generalize hAe : va_A [(an, .inr (5, [.int 0, .int 5, .int 10, .int 0, .int (nI awi), .ref ar, .ref ae, .ref as, .ref ai, .ref ag, .ref ac, .ref au, .int 0, .int 1, .int 10, .int (-1), .int 0, .int 0])), (ar, .inr (6, [.int 0, .int 5, .ref st, .null, .null, .int 0, .int 0, .int 0, .int 0, .int 1, .ref arf, .int 1]))] s.heap.size = A at hD ⊢
  have hA : ∀ q : Nat, s.heap.size ≤ q → A q := fun q h => by rw [← hAe]; exact Or.inr h
  have hS : va_S A s.heap s.heap [] := va_S.rf
  replace hP : va_P (dC, dI) vwCl [(an, .inr (5, [.int 0, .int 5, .int 10, .int 0, .int (nI awi), .ref ar, .ref ae, .ref as, .ref ai, .ref ag, .ref ac, .ref au, .int 0, .int 1, .int 10, .int (-1), .int 0, .int 0])), (ar, .inr (6, [.int 0, .int 5, .ref st, .null, .null, .int 0, .int 0, .int 0, .int 0, .int 1, .ref arf, .int 1]))] s.heap := hP
  have hl := lv_entry ([.ref an, .int 1, .int (nI tm)]) (n := 3) (Nat.le_of_ble_eq_true rfl)
  rw [lg_entry_eq]
  generalize (lg_sl ([.ref an, .int 1, .int (nI tm)]) ++ List.replicate (3 - (lg_sl ([.ref an, .int 1, .int (nI tm)])).length) Slot.unset).toArray = ls at hl ⊢
  replace hl : lv_has ls 3 [(0, .ref an), (1, .int 1), (2, .int (nI tm))] := hl
  obtain ⟨H, hH⟩ : ∃ z : Heap, z = s.heap := ⟨_, rfl⟩
  rw [← hH]
  replace hS : va_S A s.heap H [] := by rw [hH]; exact va_S.rf
  replace hP : va_P (dC, dI) vwCl [(an, .inr (5, [.int 0, .int 5, .int 10, .int 0, .int (nI awi), .ref ar, .ref ae, .ref as, .ref ai, .ref ag, .ref ac, .ref au, .int 0, .int 1, .int 10, .int (-1), .int 0, .int 0])), (ar, .inr (6, [.int 0, .int 5, .ref st, .null, .null, .int 0, .int 0, .int 0, .int 0, .int 1, .ref arf, .int 1]))] H := by rw [hH]; exact hP
  clear hH
  refine lv_aload_n hx hb dX4_frameWasCarried_0 rfl (lv_at hl 0 rfl) ?_
  refine va_get (D := (dC, dI)) (ci := 5) (v := .ref ar) (C := RX4) (T := TX4) (N := 18) hx hb hts in_c_fwc_za_X4 hown hK hP 0 rfl rfl 5 (by decide) (hts (.fieldLink RX4 89 "ClaimBus$Node" "row" "LClaimBus$Row;") (List.mem_of_getElem? (i := 1) rfl)) (fun _ h9 => h9) rfl dX4_frameWasCarried_1 ?_
  have hPc := hP.sub (ws' := [(ar, .inr (6, [.int 0, .int 5, .ref st, .null, .null, .int 0, .int 0, .int 0, .int 0, .int 1, .ref arf, .int 1]))]) [1] rfl
  have hDc := hD.sub (ws' := [(ar, .inr (6, [.int 0, .int 5, .ref st, .null, .null, .int 0, .int 0, .int 0, .int 0, .int 1, .ref arf, .int 1]))]) [1] (by decide +kernel) rfl
  have hKc := hK.sub (tys' := []) [] rfl
  have hFc := va_free (wc := [(ar, .inr (6, [.int 0, .int 5, .ref st, .null, .null, .int 0, .int 0, .int 0, .int 0, .int 1, .ref arf, .int 1]))]) hD hS hA [1] rfl
  refine va_callv (va_runV (As := []) (rest := []) ⟨hx, hb, hml, hown, hts⟩ (c_removeFirst_za l dC dI (ar) (arf) (st) H.size) (cwV 0 hts g_c_fwc_za_c_removeFirst_za_143 rfl rfl rfl (by decide +kernel) ⟨Nat.le_of_ble_eq_true rfl, Nat.le_of_ble_eq_true rfl⟩) ⟨fun a U g mk q => by obtain ⟨q0, q1, qP, qK, qD, qE⟩ := q; exact ⟨q0, q1, qP, va_K.moved (u := U) (U := U.calling g mk a) (Vm.Alike.refl U.vm) qK, qD, ev.same (u := U) (U := U.calling g mk a) rfl qE⟩, va_recv hKc hPc (ci := 6) (q0 := 0) rfl rfl, fun U hU hW => ⟨rfl, by rw [hU], by rw [hU]; exact hPc, va_K.moved hW.alike hKc, hDc.weaken (fun _ _ _ _ => trivial), hE.warm hW⟩⟩ rfl rfl hl.1 rfl (lv_room (Nat.le_of_ble_eq_true rfl)) dX4_frameWasCarried_4 ⟨Nat.le_of_ble_eq_true rfl, Nat.le_of_ble_eq_true rfl⟩) hS (fun q _ h => hFc q h) hFc (fun u t H1 locs ht hvm hw hB hz1 hk1 hS => ?_)
  clear hPc hDc hKc
  obtain ⟨hP1, hK1, hD1⟩ := hB
  rw [ht] at hP1
  have hK1 := va_K.moved hvm.symm hK1
  obtain ⟨hP, hD⟩ := va_join (wr := [(an, .inr (5, [.int 0, .int 5, .int 10, .int 0, .int (nI awi), .ref ar, .ref ae, .ref as, .ref ai, .ref ag, .ref ac, .ref au, .int 0, .int 1, .int 10, .int (-1), .int 0, .int 0]))]) (w1 := [(ar, .inr (6, [.int 0, .int 5, .ref st, .null, .null, .int 0, .int 0, .int 0, .int 0, .int 0, .ref arf, .int 0]))]) hP hD [1] [0] rfl rfl (by decide +kernel) (by decide +kernel) hk1 hFc hP1 hD1
  generalize H1 = H at hP hS ⊢
  replace hP : va_P (dC, dI) vwCl [(an, .inr (5, [.int 0, .int 5, .int 10, .int 0, .int (nI awi), .ref ar, .ref ae, .ref as, .ref ai, .ref ag, .ref ac, .ref au, .int 0, .int 1, .int 10, .int (-1), .int 0, .int 0])), (ar, .inr (6, [.int 0, .int 5, .ref st, .null, .null, .int 0, .int 0, .int 0, .int 0, .int 0, .ref arf, .int 0]))] H := hP
  replace hD : va_D A [(an, .inr (5, [.int 0, .int 5, .int 10, .int 0, .int (nI awi), .ref ar, .ref ae, .ref as, .ref ai, .ref ag, .ref ac, .ref au, .int 0, .int 1, .int 10, .int (-1), .int 0, .int 0])), (ar, .inr (6, [.int 0, .int 5, .ref st, .null, .null, .int 0, .int 0, .int 0, .int 0, .int 0, .ref arf, .int 0]))] := hD
  clear hw
  refine lv_iload_n hx hb dX4_frameWasCarried_7 rfl (lv_at hl 1 rfl) ?_
  refine lv_if_eq (tgt := 16) hx hb dX4_frameWasCarried_8 (by decide) (fun c_2 => ?_) (fun c_2 => ?_)
  · exact absurd c_2 (by decide)
  refine lv_aload_n hx hb dX4_frameWasCarried_11 rfl (lv_at hl 0 rfl) ?_
  refine lv_iload_n hx hb dX4_frameWasCarried_12 rfl (lv_at hl 2 rfl) ?_
  refine va_put (D := (dC, dI)) (ci := 5) (v := .int (nI tm)) (ty := .int) (C := RX4) (T := TX4) (N := 18) hx hb hts in_c_fwc_za_X4 tyX4 tyX4_ok nmX4 hown hK hP hD hS 0 rfl rfl 15 (by decide) (hts (.fieldLink RX4 56 "ClaimBus$Node" "claimCarriedAt" "I") (List.mem_of_getElem? (i := 6) rfl)) (fun _ h9 => h9) rfl (by decide +kernel) rfl rfl (Nat.le_of_ble_eq_true rfl) dX4_frameWasCarried_13 (fun H locs hP hD hS => ?_)
  replace hP : va_P (dC, dI) vwCl [(an, .inr (5, [.int 0, .int 5, .int 10, .int 0, .int (nI awi), .ref ar, .ref ae, .ref as, .ref ai, .ref ag, .ref ac, .ref au, .int 0, .int 1, .int 10, .int (nI tm), .int 0, .int 0])), (ar, .inr (6, [.int 0, .int 5, .ref st, .null, .null, .int 0, .int 0, .int 0, .int 0, .int 0, .ref arf, .int 0]))] H := hP
  replace hD : va_D A [(an, .inr (5, [.int 0, .int 5, .int 10, .int 0, .int (nI awi), .ref ar, .ref ae, .ref as, .ref ai, .ref ag, .ref ac, .ref au, .int 0, .int 1, .int 10, .int (nI tm), .int 0, .int 0])), (ar, .inr (6, [.int 0, .int 5, .ref st, .null, .null, .int 0, .int 0, .int 0, .int 0, .int 0, .ref arf, .int 0]))] := hD
  have hP9 := hP.sub (ws' := [(an, .inr (5, [.int 0, .int 5, .int 10, .int 0, .int (nI awi), .ref ar, .ref ae, .ref as, .ref ai, .ref ag, .ref ac, .ref au, .int 0, .int 1, .int 10, .int (nI tm), .int 0, .int 0])), (ar, .inr (6, [.int 0, .int 5, .ref st, .null, .null, .int 0, .int 0, .int 0, .int 0, .int 0, .ref arf, .int 0]))]) [0, 1] rfl
  have hD9 := hD.sub (ws' := [(an, .inr (5, [.int 0, .int 5, .int 10, .int 0, .int (nI awi), .ref ar, .ref ae, .ref as, .ref ai, .ref ag, .ref ac, .ref au, .int 0, .int 1, .int 10, .int (nI tm), .int 0, .int 0])), (ar, .inr (6, [.int 0, .int 5, .ref st, .null, .null, .int 0, .int 0, .int 0, .int 0, .int 0, .ref arf, .int 0]))]) [0, 1] (by decide +kernel) rfl
  have hK9 := hK.sub (tys' := []) [] rfl
  exact W.vret hx hb hr (fun t ht hW => ⟨⟨(), rfl, trivial, ⟨by rw [ht]; exact hP9, va_K.moved hW.alike hK9, hD9⟩⟩, hS.F ht⟩) hS.2.2 dX4_frameWasCarried_16

noncomputable def tl_c_writeFirst_zb : List Cond := wsX50 ++ (v_c_X1_writeN0)
noncomputable def v_c_writeFirst_zb : List Cond := .code yX5_writeFirst cX5_writeFirst 8 none :: ([.fieldLink RX5 31 "ClaimBus$Row" "claimWaits" "Z", .fieldLink RX5 38 "ClaimBus$Row" "first" "LClaimBus$Frame;", .constant RX5 90 (418316032), .fieldLink RX5 48 "ClaimBus$Row" "low" "I", .fieldLink RX5 45 "ClaimBus$Row" "high" "I", .initialized RX1, .methodLink RX5 91 yX1_write, .instanceMethod yX1_write, .selects RX1 yX1_write yX1_write] ++ tl_c_writeFirst_zb)
theorem it_c_writeFirst_zb : ∀ w ∈ tl_c_writeFirst_zb, w ∈ v_c_writeFirst_zb := fun w h => List.mem_cons_of_mem _ (List.mem_append_right _ h)
theorem in_c_writeFirst_zb_X5 : ∀ w ∈ wsX50, w ∈ v_c_writeFirst_zb := fun w h => it_c_writeFirst_zb w (List.mem_append_left _ h)
theorem ic_c_writeFirst_zb_c_X1_writeN0 : ∀ w ∈ v_c_X1_writeN0, w ∈ v_c_writeFirst_zb := fun w h => it_c_writeFirst_zb w (List.mem_append_right _ (h))
theorem gt_c_writeFirst_zb : ∀ w ∈ tl_c_writeFirst_zb, goodWord w = true := List.forall_mem_append.mpr ⟨gw_wsX50, gw_c_X1_writeN0⟩
theorem gw_c_writeFirst_zb : ∀ w ∈ v_c_writeFirst_zb, goodWord w = true := List.forall_mem_cons.mpr ⟨by decide +kernel, List.forall_mem_append.mpr ⟨List.all_eq_true.mp (by decide +kernel), gt_c_writeFirst_zb⟩⟩
theorem g_c_writeFirst_zb_c_X1_writeN0_91 : GoodIn v_c_writeFirst_zb (wsV RX5 91 RX1 yX1_write v_c_X1_writeN0) := goodIn_app (goodIn_r [.methodLink RX5 91 yX1_write, .instanceMethod yX1_write, .selects RX1 yX1_write yX1_write, .initialized RX1] [7, 8, 9, 6] (by decide +kernel) (by decide +kernel)) (fun w h => ⟨ic_c_writeFirst_zb_c_X1_writeN0 w h, good_of_word (gw_c_X1_writeN0 w h)⟩)
set_option maxHeartbeats 4000000 in
set_option maxRecDepth 100000 in
theorem c_writeFirst_zb (l : Launch) (dC : Nat → ClassId) (dI : Nat → Nat → Nat) (br : Nat) (brf : Nat) (st : Nat) (zi : Nat) (zj : Int32) (zk : Int32) (sz : Nat)  : Met l yX5_writeFirst v_c_writeFirst_zb ({ frames := 1, cells := 0, slots := 0, locals := 24 }) (va_Pc [.ref br, .int 200] (fun U => U.heap.size = sz ∧ va_P (dC, dI) vwCl [(br, .inr (6, [.int 0, .int 4, .ref st, .null, .null, .int 0, .int 0, .int 0, .int 0, .int 1, .ref brf, .int 0])), (brf, .inr (2, [.int (nI zi), .int zj, .int zk, .null]))] U.heap ∧ va_K (dC, dI) vwCl [] U ∧ va_D (fun _ => True) [(br, .inr (6, [.int 0, .int 4, .ref st, .null, .null, .int 0, .int 0, .int 0, .int 0, .int 1, .ref brf, .int 0])), (brf, .inr (2, [.int (nI zi), .int zj, .int zk, .null]))] ∧ ev U)) (va_Qv (fun _ : Unit => True) (fun (_ : Unit) (t : State) => va_P (dC, dI) vwCl [(br, .inr (6, [.int 0, .int 4, .ref st, .null, .null, .int 0, .int 0, .int 0, .int 0, .int 1, .ref brf, .int 0])), (brf, .inr (2, [.int 418316232, .int 4, .int 0, .null]))] t.heap ∧ va_K (dC, dI) vwCl [] t ∧ va_D (va_A [(br, .inr (6, [.int 0, .int 4, .ref st, .null, .null, .int 0, .int 0, .int 0, .int 0, .int 1, .ref brf, .int 0])), (brf, .inr (2, [.int (nI zi), .int zj, .int zk, .null]))] sz) [(br, .inr (6, [.int 0, .int 4, .ref st, .null, .null, .int 0, .int 0, .int 0, .int 0, .int 1, .ref brf, .int 0])), (brf, .inr (2, [.int 418316232, .int 4, .int 0, .null]))]) (va_A [(br, .inr (6, [.int 0, .int 4, .ref st, .null, .null, .int 0, .int 0, .int 0, .int 0, .int 1, .ref brf, .int 0])), (brf, .inr (2, [.int (nI zi), .int zj, .int zk, .null]))] sz)) 0 0 (va_A [(br, .inr (6, [.int 0, .int 4, .ref st, .null, .null, .int 0, .int 0, .int 0, .int 0, .int 1, .ref brf, .int 0])), (brf, .inr (2, [.int (nI zi), .int zj, .int zk, .null]))] sz) := by
  refine Met.ofW (cc := cX5_writeFirst) (maxL := 8) (ret := none) (by decide) rfl ?_
  intro p e s m args below meth c s₁ B hml hv
  obtain ⟨rfl, hsz, hP, hK, hD0, hE⟩ := hv
  have hx := B.exec
  have hb := B.bytes
  have hr := B.returns
  have hts := atoms_spec (ws := v_c_writeFirst_zb) B.pre
  have hown : s.vm.findClass RX5 = some m.cls := findClass_of_methodNamed B.named
  have hlocks := B.notSynchronized
  subst hsz
  have hD := hD0.self (sz := s.heap.size)
  generalize hAe : va_A [(br, .inr (6, [.int 0, .int 4, .ref st, .null, .null, .int 0, .int 0, .int 0, .int 0, .int 1, .ref brf, .int 0])), (brf, .inr (2, [.int (nI zi), .int zj, .int zk, .null]))] s.heap.size = A at hD ⊢
  have hA : ∀ q : Nat, s.heap.size ≤ q → A q := fun q h => by rw [← hAe]; exact Or.inr h
  have hS : va_S A s.heap s.heap [] := va_S.rf
  replace hP : va_P (dC, dI) vwCl [(br, .inr (6, [.int 0, .int 4, .ref st, .null, .null, .int 0, .int 0, .int 0, .int 0, .int 1, .ref brf, .int 0])), (brf, .inr (2, [.int (nI zi), .int zj, .int zk, .null]))] s.heap := hP
  have hl := lv_entry ([.ref br, .int 200]) (n := 8) (Nat.le_of_ble_eq_true rfl)
  rw [lg_entry_eq]
  generalize (lg_sl ([.ref br, .int 200]) ++ List.replicate (8 - (lg_sl ([.ref br, .int 200])).length) Slot.unset).toArray = ls at hl ⊢
  replace hl : lv_has ls 8 [(0, .ref br), (1, .int 200)] := hl
  obtain ⟨H, hH⟩ : ∃ z : Heap, z = s.heap := ⟨_, rfl⟩
  rw [← hH]
  replace hS : va_S A s.heap H [] := by rw [hH]; exact va_S.rf
  replace hP : va_P (dC, dI) vwCl [(br, .inr (6, [.int 0, .int 4, .ref st, .null, .null, .int 0, .int 0, .int 0, .int 0, .int 1, .ref brf, .int 0])), (brf, .inr (2, [.int (nI zi), .int zj, .int zk, .null]))] H := by rw [hH]; exact hP
  clear hH
  refine lv_aload_n hx hb dX5_writeFirst_0 rfl (lv_at hl 0 rfl) ?_
  refine va_get (D := (dC, dI)) (ci := 6) (v := .int 1) (C := RX5) (T := TX5) (N := 12) hx hb hts in_c_writeFirst_zb_X5 hown hK hP 0 rfl rfl 9 (by decide) (hts (.fieldLink RX5 31 "ClaimBus$Row" "claimWaits" "Z") (List.mem_of_getElem? (i := 1) rfl)) (fun _ h9 => h9) rfl dX5_writeFirst_1 ?_
  refine lv_if_eq (tgt := 28) hx hb dX5_writeFirst_4 (by decide) (fun c_1 => ?_) (fun c_1 => ?_)
  · exact absurd c_1 (by decide)
  refine lv_aload_n hx hb dX5_writeFirst_7 rfl (lv_at hl 0 rfl) ?_
  refine va_get (D := (dC, dI)) (ci := 6) (v := .ref brf) (C := RX5) (T := TX5) (N := 12) hx hb hts in_c_writeFirst_zb_X5 hown hK hP 0 rfl rfl 10 (by decide) (hts (.fieldLink RX5 38 "ClaimBus$Row" "first" "LClaimBus$Frame;") (List.mem_of_getElem? (i := 2) rfl)) (fun _ h9 => h9) rfl dX5_writeFirst_8 ?_
  refine lv_ldc hx hb hown (hts (.constant RX5 90 (418316032)) (List.mem_of_getElem? (i := 3) rfl)) dX5_writeFirst_11 ?_
  refine lv_iload_n hx hb dX5_writeFirst_13 rfl (lv_at hl 1 rfl) ?_
  refine lv_ior hx hb dX5_writeFirst_14 ?_
  refine lv_topi (fun x_2 ex_2 => ?_)
  obtain rfl : x_2 = 418316232 := ex_2.trans (by decide)
  refine lv_aload_n hx hb dX5_writeFirst_15 rfl (lv_at hl 0 rfl) ?_
  refine va_get (D := (dC, dI)) (ci := 6) (v := .int 4) (C := RX5) (T := TX5) (N := 12) hx hb hts in_c_writeFirst_zb_X5 hown hK hP 0 rfl rfl 1 (by decide) (hts (.fieldLink RX5 48 "ClaimBus$Row" "low" "I") (List.mem_of_getElem? (i := 4) rfl)) (fun _ h9 => h9) rfl dX5_writeFirst_16 ?_
  refine lv_aload_n hx hb dX5_writeFirst_19 rfl (lv_at hl 0 rfl) ?_
  refine va_get (D := (dC, dI)) (ci := 6) (v := .int 0) (C := RX5) (T := TX5) (N := 12) hx hb hts in_c_writeFirst_zb_X5 hown hK hP 0 rfl rfl 0 (by decide) (hts (.fieldLink RX5 45 "ClaimBus$Row" "high" "I") (List.mem_of_getElem? (i := 5) rfl)) (fun _ h9 => h9) rfl dX5_writeFirst_20 ?_
  refine lv_null hx hb dX5_writeFirst_23 ?_
  have hPc := hP.sub (ws' := [(brf, .inr (2, [.int (nI zi), .int zj, .int zk, .null]))]) [1] rfl
  have hDc := hD.sub (ws' := [(brf, .inr (2, [.int (nI zi), .int zj, .int zk, .null]))]) [1] (by decide +kernel) rfl
  have hKc := hK.sub (tys' := []) [] rfl
  have hFc := va_free (wc := [(brf, .inr (2, [.int (nI zi), .int zj, .int zk, .null]))]) hD hS hA [1] rfl
  refine va_callv (va_runV (As := [.int 418316232, .int 4, .int 0, .null]) (rest := []) ⟨hx, hb, hml, hown, hts⟩ (c_X1_writeN0 l dC dI (brf) (zi) (zj) (zk) (418316232) (4) (0) H.size) (cwV 4 hts g_c_writeFirst_zb_c_X1_writeN0_91 rfl rfl rfl (by decide +kernel) ⟨Nat.le_of_ble_eq_true rfl, Nat.le_of_ble_eq_true rfl⟩) ⟨fun a U g mk q => by obtain ⟨q0, q1, qP, qK, qD, qE⟩ := q; exact ⟨q0, q1, qP, va_K.moved (u := U) (U := U.calling g mk a) (Vm.Alike.refl U.vm) qK, qD, ev.same (u := U) (U := U.calling g mk a) rfl qE⟩, va_recv hKc hPc (ci := 2) (q0 := 0) rfl rfl, fun U hU hW => ⟨rfl, by rw [hU], by rw [hU]; exact hPc, va_K.moved hW.alike hKc, hDc.weaken (fun _ _ _ _ => trivial), hE.warm hW⟩⟩ rfl rfl hl.1 rfl (lv_room (Nat.le_of_ble_eq_true rfl)) dX5_writeFirst_24 ⟨Nat.le_of_ble_eq_true rfl, Nat.le_of_ble_eq_true rfl⟩) hS (fun q _ h => hFc q h) hFc (fun u t H1 locs ht hvm hw hB hz1 hk1 hS => ?_)
  clear hPc hDc hKc
  obtain ⟨hP1, hK1, hD1⟩ := hB
  rw [ht] at hP1
  have hK1 := va_K.moved hvm.symm hK1
  obtain ⟨hP, hD⟩ := va_join (wr := [(br, .inr (6, [.int 0, .int 4, .ref st, .null, .null, .int 0, .int 0, .int 0, .int 0, .int 1, .ref brf, .int 0]))]) (w1 := [(brf, .inr (2, [.int (nI 418316232), .int 4, .int 0, .null]))]) hP hD [1] [0] rfl rfl (by decide +kernel) (by decide +kernel) hk1 hFc hP1 hD1
  generalize H1 = H at hP hS ⊢
  replace hP : va_P (dC, dI) vwCl [(br, .inr (6, [.int 0, .int 4, .ref st, .null, .null, .int 0, .int 0, .int 0, .int 0, .int 1, .ref brf, .int 0])), (brf, .inr (2, [.int (nI 418316232), .int 4, .int 0, .null]))] H := hP
  replace hD : va_D A [(br, .inr (6, [.int 0, .int 4, .ref st, .null, .null, .int 0, .int 0, .int 0, .int 0, .int 1, .ref brf, .int 0])), (brf, .inr (2, [.int (nI 418316232), .int 4, .int 0, .null]))] := hD
  rw [show ((nI 418316232) : Int32) = 418316232 from (congrArg nI (show 418316232 = 418316232 from by omega)).trans (by decide)] at hP hD
  replace hP : va_P (dC, dI) vwCl [(br, .inr (6, [.int 0, .int 4, .ref st, .null, .null, .int 0, .int 0, .int 0, .int 0, .int 1, .ref brf, .int 0])), (brf, .inr (2, [.int 418316232, .int 4, .int 0, .null]))] H := hP
  replace hD : va_D A [(br, .inr (6, [.int 0, .int 4, .ref st, .null, .null, .int 0, .int 0, .int 0, .int 0, .int 1, .ref brf, .int 0])), (brf, .inr (2, [.int 418316232, .int 4, .int 0, .null]))] := hD
  clear hw
  have hP9 := hP.sub (ws' := [(br, .inr (6, [.int 0, .int 4, .ref st, .null, .null, .int 0, .int 0, .int 0, .int 0, .int 1, .ref brf, .int 0])), (brf, .inr (2, [.int 418316232, .int 4, .int 0, .null]))]) [0, 1] rfl
  have hD9 := hD.sub (ws' := [(br, .inr (6, [.int 0, .int 4, .ref st, .null, .null, .int 0, .int 0, .int 0, .int 0, .int 1, .ref brf, .int 0])), (brf, .inr (2, [.int 418316232, .int 4, .int 0, .null]))]) [0, 1] (by decide +kernel) rfl
  have hK9 := hK.sub (tys' := []) [] rfl
  exact W.vret hx hb hr (fun t ht hW => ⟨⟨(), rfl, trivial, ⟨by rw [ht]; exact hP9, va_K.moved hW.alike hK9, hD9⟩⟩, hS.F ht⟩) hS.2.2 dX5_writeFirst_27
