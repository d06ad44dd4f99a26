noncomputable def tl_c_AL_size : List Cond := wsJx4a65c0
noncomputable def v_c_AL_size : List Cond := .code yJx4a65c_size_8abf5 cJx4a65c_size_8abf5 1 (some .int) :: ([.fieldLink RJx4a65c 48 "java/util/ArrayList" "size" "I"] ++ tl_c_AL_size)
theorem it_c_AL_size : ∀ w ∈ tl_c_AL_size, w ∈ v_c_AL_size := fun w h => List.mem_cons_of_mem _ (List.mem_append_right _ h)
theorem in_c_AL_size_Jx4a65c : ∀ w ∈ wsJx4a65c0, w ∈ v_c_AL_size := fun w h => it_c_AL_size w (h)
theorem gt_c_AL_size : ∀ w ∈ tl_c_AL_size, goodWord w = true := gw_wsJx4a65c0
theorem gw_c_AL_size : ∀ w ∈ v_c_AL_size, goodWord w = true := List.forall_mem_cons.mpr ⟨by decide +kernel, List.forall_mem_append.mpr ⟨List.all_eq_true.mp (by decide +kernel), gt_c_AL_size⟩⟩
set_option maxHeartbeats 4000000 in
set_option maxRecDepth 100000 in
theorem c_AL_size (l : Launch) (dC : Nat → ClassId) (dI : Nat → Nat → Nat) (h0 : Nat) (mc : Nat) (ed : Nat) (sz0 : Nat) (sz : Nat)  : Met l yJx4a65c_size_8abf5 v_c_AL_size ({ frames := 0, cells := 0, slots := 0, locals := 0 }) (va_Pc [.ref h0] (fun U => U.heap.size = sz ∧ va_P (dC, dI) vwCl [(h0, .inr (0, [.int (nI mc), .ref ed, .int (nI sz0)]))] U.heap ∧ va_K (dC, dI) vwCl [] U ∧ va_D (fun _ => True) [(h0, .inr (0, [.int (nI mc), .ref ed, .int (nI sz0)]))] ∧ ev U)) (va_Qi (fun (r : Int32) (_ : Unit) => r = (nI sz0)) (fun (_ : Unit) (_ : State) => True) (va_A [] sz)) 0 0 (va_A [] sz) := by
  refine va_MetF (cc := cJx4a65c_size_8abf5) (maxL := 1) (ret := (some .int)) (by decide) rfl ?_
  intro p e s m args below meth c s₁ B hml hv
  obtain ⟨rfl, hsz, hP, hK, hD0, hE⟩ := hv
  have hx := B.exec
  have hb := B.bytes
  have hr := B.returns
  have hts := atoms_spec (ws := v_c_AL_size) B.pre
  have hown : s.vm.findClass RJx4a65c = some m.cls := findClass_of_methodNamed B.named
  have hlocks := B.notSynchronized
  subst hsz
  have hD := hD0
  generalize hAe : va_A [] s.heap.size = A
  have hA : ∀ q : Nat, s.heap.size ≤ q → A q := fun q h => by rw [← hAe]; exact Or.inr h
  have hS : va_S A s.heap s.heap [] := va_S.rf
  replace hP : va_P (dC, dI) vwCl [(h0, .inr (0, [.int (nI mc), .ref ed, .int (nI sz0)]))] s.heap := hP
  have hl := lv_entry ([.ref h0]) (n := 1) (Nat.le_of_ble_eq_true rfl)
  rw [lg_entry_eq]
  generalize (lg_sl ([.ref h0]) ++ List.replicate (1 - (lg_sl ([.ref h0])).length) Slot.unset).toArray = ls at hl ⊢
  replace hl : lv_has ls 1 [(0, .ref h0)] := hl
  obtain ⟨H, hH⟩ : ∃ z : Heap, z = s.heap := ⟨_, rfl⟩
  rw [← hH]
  replace hS : va_S A s.heap H [] := by rw [hH]; exact va_S.rf
  replace hP : va_P (dC, dI) vwCl [(h0, .inr (0, [.int (nI mc), .ref ed, .int (nI sz0)]))] H := by rw [hH]; exact hP
  clear hH
  refine lv_aload_n hx hb dJx4a65c_size_8abf5_0 rfl (lv_at hl 0 rfl) ?_
  refine va_get (D := (dC, dI)) (ci := 0) (v := .int (nI sz0)) (C := RJx4a65c) (T := TJx4a65c) (N := 3) hx hb hts in_c_AL_size_Jx4a65c hown hK hP 0 rfl rfl 2 (by decide) (hts (.fieldLink RJx4a65c 48 "java/util/ArrayList" "size" "I") (List.mem_of_getElem? (i := 1) rfl)) (fun _ h9 => h9) rfl dJx4a65c_size_8abf5_1 ?_
  exact W.iret (v := (nI sz0)) hx hb hr (fun t ht hW => ⟨⟨(nI sz0), (), rfl, rfl, trivial⟩, hS.F ht⟩) hS.2.2 dJx4a65c_size_8abf5_4

noncomputable def v_c_checkIndex3 : List Cond := .code yJ3_checkIndex_8e157 cJ3_checkIndex_8e157 3 (some .int) :: ([])
theorem gw_c_checkIndex3 : ∀ w ∈ v_c_checkIndex3, goodWord w = true := List.forall_mem_cons.mpr ⟨by decide +kernel, List.all_eq_true.mp (by decide +kernel)⟩
set_option maxHeartbeats 4000000 in
set_option maxRecDepth 100000 in
theorem c_checkIndex3 (l : Launch) (dC : Nat → ClassId) (dI : Nat → Nat → Nat) (p0 : Nat) (p1 : Nat) (sz : Nat) (h : p0 < p1) (h2 : p1 < 1000) : Met l yJ3_checkIndex_8e157 v_c_checkIndex3 ({ frames := 0, cells := 0, slots := 0, locals := 0 }) (va_Pc [.int (nI p0), .int (nI p1), .null] (fun U => U.heap.size = sz ∧ va_P (dC, dI) vwCl [] U.heap ∧ va_K (dC, dI) vwCl [] U ∧ va_D (fun _ => True) [] ∧ ev U)) (va_Qi (fun (r : Int32) (_ : Unit) => r = (nI p0)) (fun (_ : Unit) (_ : State) => True) (va_A [] sz)) 0 0 (va_A [] sz) := by
  refine va_MetF (cc := cJ3_checkIndex_8e157) (maxL := 3) (ret := (some .int)) (by decide) rfl ?_
  intro p e s m args below meth c s₁ B hml hv
  obtain ⟨rfl, hsz, hP, hK, hD0, hE⟩ := hv
  have hx := B.exec
  have hb := B.bytes
  have hr := B.returns
  have hts := atoms_spec (ws := v_c_checkIndex3) B.pre
  have hown : s.vm.findClass RJ3 = some m.cls := findClass_of_methodNamed B.named
  have hlocks := B.notSynchronized
  subst hsz
  have hD := hD0
  generalize hAe : va_A [] s.heap.size = A
  have hA : ∀ q : Nat, s.heap.size ≤ q → A q := fun q h => by rw [← hAe]; exact Or.inr h
  have hS : va_S A s.heap s.heap [] := va_S.rf
  replace hP : va_P (dC, dI) vwCl [] s.heap := hP
  have hl := lv_entry ([.int (nI p0), .int (nI p1), .null]) (n := 3) (Nat.le_of_ble_eq_true rfl)
  rw [lg_entry_eq]
  generalize (lg_sl ([.int (nI p0), .int (nI p1), .null]) ++ List.replicate (3 - (lg_sl ([.int (nI p0), .int (nI p1), .null])).length) Slot.unset).toArray = ls at hl ⊢
  replace hl : lv_has ls 3 [(0, .int (nI p0)), (1, .int (nI p1)), (2, .null)] := hl
  obtain ⟨H, hH⟩ : ∃ z : Heap, z = s.heap := ⟨_, rfl⟩
  rw [← hH]
  replace hS : va_S A s.heap H [] := by rw [hH]; exact va_S.rf
  replace hP : va_P (dC, dI) vwCl [] H := by rw [hH]; exact hP
  clear hH
  refine lv_iload_n hx hb dJ3_checkIndex_8e157_0 rfl (lv_at hl 0 rfl) ?_
  refine lv_if_lt (tgt := 9) hx hb dJ3_checkIndex_8e157_1 (by decide) (fun c_1 => ?_) (fun c_1 => ?_)
  · exact absurd ((nI_ltI (a := p0) (b := 0) (by omega) (by omega)).mp c_1) (by omega)
  refine lv_iload_n hx hb dJ3_checkIndex_8e157_4 rfl (lv_at hl 0 rfl) ?_
  refine lv_iload_n hx hb dJ3_checkIndex_8e157_5 rfl (lv_at hl 1 rfl) ?_
  refine lv_icmp_lt (tgt := 16) hx hb dJ3_checkIndex_8e157_6 (by decide) (fun c_2 => ?_) (fun c_2 => ?_)
  rotate_left
  · exact absurd ((nI_ltI (a := p0) (b := p1) (by omega) (by omega)).mpr (by omega)) c_2
  refine lv_iload_n hx hb dJ3_checkIndex_8e157_16 rfl (lv_at hl 0 rfl) ?_
  exact W.iret (v := (nI p0)) hx hb hr (fun t ht hW => ⟨⟨(nI p0), (), rfl, rfl, trivial⟩, hS.F ht⟩) hS.2.2 dJ3_checkIndex_8e157_17

noncomputable def tl_c_checkIndex : List Cond := v_c_checkIndex3
noncomputable def v_c_checkIndex : List Cond := .code yJ15_checkIndex_7cf53 cJ15_checkIndex_7cf53 2 (some .int) :: ([.initialized RJ3, .methodLink RJ15 105 yJ3_checkIndex_8e157, .static yJ3_checkIndex_8e157] ++ tl_c_checkIndex)
theorem it_c_checkIndex : ∀ w ∈ tl_c_checkIndex, w ∈ v_c_checkIndex := fun w h => List.mem_cons_of_mem _ (List.mem_append_right _ h)
theorem ic_c_checkIndex_c_checkIndex3 : ∀ w ∈ v_c_checkIndex3, w ∈ v_c_checkIndex := fun w h => it_c_checkIndex w (h)
theorem gt_c_checkIndex : ∀ w ∈ tl_c_checkIndex, goodWord w = true := gw_c_checkIndex3
theorem gw_c_checkIndex : ∀ w ∈ v_c_checkIndex, goodWord w = true := List.forall_mem_cons.mpr ⟨by decide +kernel, List.forall_mem_append.mpr ⟨List.all_eq_true.mp (by decide +kernel), gt_c_checkIndex⟩⟩
theorem g_c_checkIndex_c_checkIndex3_105 : GoodIn v_c_checkIndex (va_wsS RJ15 105 yJ3_checkIndex_8e157 v_c_checkIndex3) := goodIn_app (goodIn_r [.methodLink RJ15 105 yJ3_checkIndex_8e157, .static yJ3_checkIndex_8e157, .initialized RJ3] [2, 3, 1] (by decide +kernel) (by decide +kernel)) (fun w h => ⟨ic_c_checkIndex_c_checkIndex3 w h, good_of_word (gw_c_checkIndex3 w h)⟩)
set_option maxHeartbeats 4000000 in
set_option maxRecDepth 100000 in
theorem c_checkIndex (l : Launch) (dC : Nat → ClassId) (dI : Nat → Nat → Nat) (p0 : Nat) (p1 : Nat) (sz : Nat) (h : p0 < p1) (h2 : p1 < 1000) : Met l yJ15_checkIndex_7cf53 v_c_checkIndex ({ frames := 1, cells := 0, slots := 0, locals := 22 }) (va_Pc [.int (nI p0), .int (nI p1)] (fun U => U.heap.size = sz ∧ va_P (dC, dI) vwCl [] U.heap ∧ va_K (dC, dI) vwCl [] U ∧ va_D (fun _ => True) [] ∧ ev U)) (va_Qi (fun (r : Int32) (_ : Unit) => r = (nI p0)) (fun (_ : Unit) (_ : State) => True) (va_A [] sz)) 0 0 (va_A [] sz) := by
  refine va_MetF (cc := cJ15_checkIndex_7cf53) (maxL := 2) (ret := (some .int)) (by decide) rfl ?_
  intro p e s m args below meth c s₁ B hml hv
  obtain ⟨rfl, hsz, hP, hK, hD0, hE⟩ := hv
  have hx := B.exec
  have hb := B.bytes
  have hr := B.returns
  have hts := atoms_spec (ws := v_c_checkIndex) B.pre
  have hown : s.vm.findClass RJ15 = some m.cls := findClass_of_methodNamed B.named
  have hlocks := B.notSynchronized
  subst hsz
  have hD := hD0
  generalize hAe : va_A [] s.heap.size = A
  have hA : ∀ q : Nat, s.heap.size ≤ q → A q := fun q h => by rw [← hAe]; exact Or.inr h
  have hS : va_S A s.heap s.heap [] := va_S.rf
  replace hP : va_P (dC, dI) vwCl [] s.heap := hP
  have hl := lv_entry ([.int (nI p0), .int (nI p1)]) (n := 2) (Nat.le_of_ble_eq_true rfl)
  rw [lg_entry_eq]
  generalize (lg_sl ([.int (nI p0), .int (nI p1)]) ++ List.replicate (2 - (lg_sl ([.int (nI p0), .int (nI p1)])).length) Slot.unset).toArray = ls at hl ⊢
  replace hl : lv_has ls 2 [(0, .int (nI p0)), (1, .int (nI p1))] := hl
  obtain ⟨H, hH⟩ : ∃ z : Heap, z = s.heap := ⟨_, rfl⟩
  rw [← hH]
  replace hS : va_S A s.heap H [] := by rw [hH]; exact va_S.rf
  replace hP : va_P (dC, dI) vwCl [] H := by rw [hH]; exact hP
  clear hH
  refine lv_iload_n hx hb dJ15_checkIndex_7cf53_0 rfl (lv_at hl 0 rfl) ?_
  refine lv_iload_n hx hb dJ15_checkIndex_7cf53_1 rfl (lv_at hl 1 rfl) ?_
  refine lv_null hx hb dJ15_checkIndex_7cf53_2 ?_
  have hPc := hP.sub (ws' := []) [] rfl
  have hDc := hD.sub (ws' := []) [] (by decide +kernel) rfl
  have hKc := hK.sub (tys' := []) [] rfl
  have hFc := ro_free hS hA
  refine va_calli (va_runS (As := [.int (nI p0), .int (nI p1), .null]) (rest := []) ⟨hx, hb, hml, hown, hts⟩ (c_checkIndex3 l dC dI (p0) (p1) H.size h h2) (va_cwS 3 hts g_c_checkIndex_c_checkIndex3_105 rfl rfl rfl (by decide +kernel) ⟨Nat.le_of_ble_eq_true rfl, Nat.le_of_ble_eq_true rfl⟩) ⟨fun a U g mk q => by obtain ⟨q0, q1, qP, qK, qD, qE⟩ := q; exact ⟨q0, q1, qP, va_K.moved (u := U) (U := U.calling g mk a) (Vm.Alike.refl U.vm) qK, qD, ev.same (u := U) (U := U.calling g mk a) rfl qE⟩, fun U hU hW => ⟨rfl, by rw [hU], by rw [hU]; exact hPc, va_K.moved hW.alike hKc, hDc.weaken (fun _ _ _ _ => trivial), hE.warm hW⟩⟩ rfl rfl hl.1 rfl (lv_room (Nat.le_of_ble_eq_true rfl)) dJ15_checkIndex_7cf53_3 ⟨Nat.le_of_ble_eq_true rfl, Nat.le_of_ble_eq_true rfl⟩) hS (fun q _ h => hFc q h) hFc (fun r_1 u t H1 locs ht hvm hw hB hz1 hk1 hS => ?_)
  clear hPc hDc hKc
  replace hP := ro_keep hP hk1
  generalize H1 = H at hP hS ⊢
  replace hP : va_P (dC, dI) vwCl [] H := hP
  have hw := hw.symm
  subst hw
  exact W.iret (v := (nI p0)) hx hb hr (fun t ht hW => ⟨⟨(nI p0), (), rfl, rfl, trivial⟩, hS.F ht⟩) hS.2.2 dJ15_checkIndex_7cf53_6

noncomputable def tl_c_AL_elementData : List Cond := wsJx4a65c0
noncomputable def v_c_AL_elementData : List Cond := .code yJx4a65c_elementData_915e3 cJx4a65c_elementData_915e3 2 (some (.object "java/lang/Object")) :: ([.fieldLink RJx4a65c 9 "java/util/ArrayList" "elementData" "[Ljava/lang/Object;"] ++ tl_c_AL_elementData)
theorem it_c_AL_elementData : ∀ w ∈ tl_c_AL_elementData, w ∈ v_c_AL_elementData := fun w h => List.mem_cons_of_mem _ (List.mem_append_right _ h)
theorem in_c_AL_elementData_Jx4a65c : ∀ w ∈ wsJx4a65c0, w ∈ v_c_AL_elementData := fun w h => it_c_AL_elementData w (h)
theorem gt_c_AL_elementData : ∀ w ∈ tl_c_AL_elementData, goodWord w = true := gw_wsJx4a65c0
theorem gw_c_AL_elementData : ∀ w ∈ v_c_AL_elementData, goodWord w = true := List.forall_mem_cons.mpr ⟨by decide +kernel, List.forall_mem_append.mpr ⟨List.all_eq_true.mp (by decide +kernel), gt_c_AL_elementData⟩⟩
set_option maxHeartbeats 4000000 in
set_option maxRecDepth 100000 in
theorem c_AL_elementData (l : Launch) (dC : Nat → ClassId) (dI : Nat → Nat → Nat) (h0 : Nat) (mc : Nat) (ed : Nat) (sz0 : Nat) (cO : ClassId) (fe : Nat → Option Nat) (p0 : Nat) (el : Nat) (sz : Nat) (hel : fe p0 = some el) (h : p0 < 10) : Met l yJx4a65c_elementData_915e3 v_c_AL_elementData ({ frames := 0, cells := 0, slots := 0, locals := 0 }) (va_Pc [.ref h0, .int (nI p0)] (fun U => U.heap.size = sz ∧ va_P (dC, dI) vwCl [(h0, .inr (0, [.int (nI mc), .ref ed, .int (nI sz0)])), (ed, .inl (cO, 10, .inr (.inr (.inr (.inr fe)))))] U.heap ∧ va_K (dC, dI) vwCl [(cO, (.object "java/lang/Object"))] U ∧ va_D (fun _ => True) [(h0, .inr (0, [.int (nI mc), .ref ed, .int (nI sz0)])), (ed, .inl (cO, 10, .inr (.inr (.inr (.inr fe)))))] ∧ ev U)) (va_Qq (fun (r : Option Nat) (_ : Unit) => r = some el) (fun (_ : Unit) (_ : State) => True) (va_A [] sz)) 0 0 (va_A [] sz) := by
  refine va_MetF (cc := cJx4a65c_elementData_915e3) (maxL := 2) (ret := (some (.object "java/lang/Object"))) (by decide) rfl ?_
  intro p e s m args below meth c s₁ B hml hv
  obtain ⟨rfl, hsz, hP, hK, hD0, hE⟩ := hv
  have hx := B.exec
  have hb := B.bytes
  have hr := B.returns
  have hts := atoms_spec (ws := v_c_AL_elementData) B.pre
  have hown : s.vm.findClass RJx4a65c = some m.cls := findClass_of_methodNamed B.named
  have hlocks := B.notSynchronized
  subst hsz
  have hD := hD0
  generalize hAe : va_A [] s.heap.size = A
  have hA : ∀ q : Nat, s.heap.size ≤ q → A q := fun q h => by rw [← hAe]; exact Or.inr h
  have hS : va_S A s.heap s.heap [] := va_S.rf
  replace hP : va_P (dC, dI) vwCl [(h0, .inr (0, [.int (nI mc), .ref ed, .int (nI sz0)])), (ed, .inl (cO, 10, .inr (.inr (.inr (.inr fe)))))] s.heap := hP
  have hl := lv_entry ([.ref h0, .int (nI p0)]) (n := 2) (Nat.le_of_ble_eq_true rfl)
  rw [lg_entry_eq]
  generalize (lg_sl ([.ref h0, .int (nI p0)]) ++ List.replicate (2 - (lg_sl ([.ref h0, .int (nI p0)])).length) Slot.unset).toArray = ls at hl ⊢
  replace hl : lv_has ls 2 [(0, .ref h0), (1, .int (nI p0))] := hl
  obtain ⟨H, hH⟩ : ∃ z : Heap, z = s.heap := ⟨_, rfl⟩
  rw [← hH]
  replace hS : va_S A s.heap H [] := by rw [hH]; exact va_S.rf
  replace hP : va_P (dC, dI) vwCl [(h0, .inr (0, [.int (nI mc), .ref ed, .int (nI sz0)])), (ed, .inl (cO, 10, .inr (.inr (.inr (.inr fe)))))] H := by rw [hH]; exact hP
  clear hH
  refine lv_aload_n hx hb dJx4a65c_elementData_915e3_0 rfl (lv_at hl 0 rfl) ?_
  refine va_get (D := (dC, dI)) (ci := 0) (v := .ref ed) (C := RJx4a65c) (T := TJx4a65c) (N := 3) hx hb hts in_c_AL_elementData_Jx4a65c hown hK hP 0 rfl rfl 1 (by decide) (hts (.fieldLink RJx4a65c 9 "java/util/ArrayList" "elementData" "[Ljava/lang/Object;") (List.mem_of_getElem? (i := 1) rfl)) (fun _ h9 => h9) rfl dJx4a65c_elementData_915e3_1 ?_
  refine lv_iload_n hx hb dJx4a65c_elementData_915e3_4 rfl (lv_at hl 1 rfl) ?_
  refine va_aldq hx hb hK hP 1 0 rfl rfl (vp_in_nI (n := p0) (by omega) (by omega)) dJx4a65c_elementData_915e3_5 ?_
  refine W.eq (g2 := F0 m 6 ls [.ref el]) (by rw [(nI_clamp (n := p0) (by omega)), hel]; rfl) ?_
  exact W.aret (v := .ref el) hx hb hr (Or.inl ⟨_, rfl⟩) (Or.inr ⟨_, rfl⟩) (fun t ht hW => ⟨⟨some el, (), rfl, rfl, trivial⟩, hS.F ht⟩) hS.2.2 dJx4a65c_elementData_915e3_6

noncomputable def tl_c_AL_get : List Cond := wsJx4a65c0 ++ (v_c_checkIndex ++ (v_c_AL_elementData))
noncomputable def v_c_AL_get : List Cond := .code yJx4a65c_get_915e3 cJx4a65c_get_915e3 2 (some (.object "java/lang/Object")) :: ([.fieldLink RJx4a65c 48 "java/util/ArrayList" "size" "I", .initialized RJ15, .methodLink RJx4a65c 118 yJ15_checkIndex_7cf53, .static yJ15_checkIndex_7cf53, .initialized RJx4a65c, .methodLink RJx4a65c 123 yJx4a65c_elementData_915e3, .instanceMethod yJx4a65c_elementData_915e3, .selects RJx4a65c yJx4a65c_elementData_915e3 yJx4a65c_elementData_915e3] ++ tl_c_AL_get)
theorem it_c_AL_get : ∀ w ∈ tl_c_AL_get, w ∈ v_c_AL_get := fun w h => List.mem_cons_of_mem _ (List.mem_append_right _ h)
theorem in_c_AL_get_Jx4a65c : ∀ w ∈ wsJx4a65c0, w ∈ v_c_AL_get := fun w h => it_c_AL_get w (List.mem_append_left _ h)
theorem ic_c_AL_get_c_checkIndex : ∀ w ∈ v_c_checkIndex, w ∈ v_c_AL_get := fun w h => it_c_AL_get w (List.mem_append_right _ (List.mem_append_left _ h))
theorem ic_c_AL_get_c_AL_elementData : ∀ w ∈ v_c_AL_elementData, w ∈ v_c_AL_get := fun w h => it_c_AL_get w (List.mem_append_right _ (List.mem_append_right _ (h)))
theorem gt_c_AL_get : ∀ w ∈ tl_c_AL_get, goodWord w = true := List.forall_mem_append.mpr ⟨gw_wsJx4a65c0, List.forall_mem_append.mpr ⟨gw_c_checkIndex, gw_c_AL_elementData⟩⟩
theorem gw_c_AL_get : ∀ w ∈ v_c_AL_get, goodWord w = true := List.forall_mem_cons.mpr ⟨by decide +kernel, List.forall_mem_append.mpr ⟨List.all_eq_true.mp (by decide +kernel), gt_c_AL_get⟩⟩
theorem g_c_AL_get_c_checkIndex_118 : GoodIn v_c_AL_get (va_wsS RJx4a65c 118 yJ15_checkIndex_7cf53 v_c_checkIndex) := goodIn_app (goodIn_r [.methodLink RJx4a65c 118 yJ15_checkIndex_7cf53, .static yJ15_checkIndex_7cf53, .initialized RJ15] [3, 4, 2] (by decide +kernel) (by decide +kernel)) (fun w h => ⟨ic_c_AL_get_c_checkIndex w h, good_of_word (gw_c_checkIndex w h)⟩)
theorem g_c_AL_get_c_AL_elementData_123 : GoodIn v_c_AL_get (wsV RJx4a65c 123 RJx4a65c yJx4a65c_elementData_915e3 v_c_AL_elementData) := goodIn_app (goodIn_r [.methodLink RJx4a65c 123 yJx4a65c_elementData_915e3, .instanceMethod yJx4a65c_elementData_915e3, .selects RJx4a65c yJx4a65c_elementData_915e3 yJx4a65c_elementData_915e3, .initialized RJx4a65c] [6, 7, 8, 5] (by decide +kernel) (by decide +kernel)) (fun w h => ⟨ic_c_AL_get_c_AL_elementData w h, good_of_word (gw_c_AL_elementData w h)⟩)
set_option maxHeartbeats 4000000 in
set_option maxRecDepth 100000 in
theorem c_AL_get (l : Launch) (dC : Nat → ClassId) (dI : Nat → Nat → Nat) (h0 : Nat) (mc : Nat) (ed : Nat) (sz0 : Nat) (cO : ClassId) (fe : Nat → Option Nat) (p0 : Nat) (el : Nat) (sz : Nat) (hel : fe p0 = some el) (h : p0 < sz0) (h2 : sz0 ≤ 10) : Met l yJx4a65c_get_915e3 v_c_AL_get ({ frames := 2, cells := 0, slots := 0, locals := 43 }) (va_Pc [.ref h0, .int (nI p0)] (fun U => U.heap.size = sz ∧ va_P (dC, dI) vwCl [(h0, .inr (0, [.int (nI mc), .ref ed, .int (nI sz0)])), (ed, .inl (cO, 10, .inr (.inr (.inr (.inr fe)))))] U.heap ∧ va_K (dC, dI) vwCl [(cO, (.object "java/lang/Object"))] U ∧ va_D (fun _ => True) [(h0, .inr (0, [.int (nI mc), .ref ed, .int (nI sz0)])), (ed, .inl (cO, 10, .inr (.inr (.inr (.inr fe)))))] ∧ ev U)) (va_Qq (fun (r : Option Nat) (_ : Unit) => r = some el) (fun (_ : Unit) (_ : State) => True) (va_A [] sz)) 0 0 (va_A [] sz) := by
  refine va_MetF (cc := cJx4a65c_get_915e3) (maxL := 2) (ret := (some (.object "java/lang/Object"))) (by decide) rfl ?_
  intro p e s m args below meth c s₁ B hml hv
  obtain ⟨rfl, hsz, hP, hK, hD0, hE⟩ := hv
  have hx := B.exec
  have hb := B.bytes
  have hr := B.returns
  have hts := atoms_spec (ws := v_c_AL_get) B.pre
  have hown : s.vm.findClass RJx4a65c = some m.cls := findClass_of_methodNamed B.named
  have hlocks := B.notSynchronized
  subst hsz
  have hD := hD0
  generalize hAe : va_A [] s.heap.size = A
  have hA : ∀ q : Nat, s.heap.size ≤ q → A q := fun q h => by rw [← hAe]; exact Or.inr h
  have hS : va_S A s.heap s.heap [] := va_S.rf
  replace hP : va_P (dC, dI) vwCl [(h0, .inr (0, [.int (nI mc), .ref ed, .int (nI sz0)])), (ed, .inl (cO, 10, .inr (.inr (.inr (.inr fe)))))] s.heap := hP
  have hl := lv_entry ([.ref h0, .int (nI p0)]) (n := 2) (Nat.le_of_ble_eq_true rfl)
  rw [lg_entry_eq]
  generalize (lg_sl ([.ref h0, .int (nI p0)]) ++ List.replicate (2 - (lg_sl ([.ref h0, .int (nI p0)])).length) Slot.unset).toArray = ls at hl ⊢
  replace hl : lv_has ls 2 [(0, .ref h0), (1, .int (nI p0))] := hl
  obtain ⟨H, hH⟩ : ∃ z : Heap, z = s.heap := ⟨_, rfl⟩
  rw [← hH]
  replace hS : va_S A s.heap H [] := by rw [hH]; exact va_S.rf
  replace hP : va_P (dC, dI) vwCl [(h0, .inr (0, [.int (nI mc), .ref ed, .int (nI sz0)])), (ed, .inl (cO, 10, .inr (.inr (.inr (.inr fe)))))] H := by rw [hH]; exact hP
  clear hH
  refine lv_iload_n hx hb dJx4a65c_get_915e3_0 rfl (lv_at hl 1 rfl) ?_
  refine lv_aload_n hx hb dJx4a65c_get_915e3_1 rfl (lv_at hl 0 rfl) ?_
  refine va_get (D := (dC, dI)) (ci := 0) (v := .int (nI sz0)) (C := RJx4a65c) (T := TJx4a65c) (N := 3) hx hb hts in_c_AL_get_Jx4a65c hown hK hP 0 rfl rfl 2 (by decide) (hts (.fieldLink RJx4a65c 48 "java/util/ArrayList" "size" "I") (List.mem_of_getElem? (i := 1) rfl)) (fun _ h9 => h9) rfl dJx4a65c_get_915e3_2 ?_
  have hPc := hP.sub (ws' := []) [] rfl
  have hDc := hD.sub (ws' := []) [] (by decide +kernel) rfl
  have hKc := hK.sub (tys' := []) [] rfl
  have hFc := ro_free hS hA
  refine va_calli (va_runS (As := [.int (nI p0), .int (nI sz0)]) (rest := []) ⟨hx, hb, hml, hown, hts⟩ (c_checkIndex l dC dI (p0) (sz0) H.size h (by omega)) (va_cwS 2 hts g_c_AL_get_c_checkIndex_118 rfl rfl rfl (by decide +kernel) ⟨Nat.le_of_ble_eq_true rfl, Nat.le_of_ble_eq_true rfl⟩) ⟨fun a U g mk q => by obtain ⟨q0, q1, qP, qK, qD, qE⟩ := q; exact ⟨q0, q1, qP, va_K.moved (u := U) (U := U.calling g mk a) (Vm.Alike.refl U.vm) qK, qD, ev.same (u := U) (U := U.calling g mk a) rfl qE⟩, fun U hU hW => ⟨rfl, by rw [hU], by rw [hU]; exact hPc, va_K.moved hW.alike hKc, hDc.weaken (fun _ _ _ _ => trivial), hE.warm hW⟩⟩ rfl rfl hl.1 rfl (lv_room (Nat.le_of_ble_eq_true rfl)) dJx4a65c_get_915e3_5 ⟨Nat.le_of_ble_eq_true rfl, Nat.le_of_ble_eq_true rfl⟩) hS (fun q _ h => hFc q h) hFc (fun r_1 u t H1 locs ht hvm hw hB hz1 hk1 hS => ?_)
  clear hPc hDc hKc
  replace hP := ro_keep hP hk1
  generalize H1 = H at hP hS ⊢
  replace hP : va_P (dC, dI) vwCl [(h0, .inr (0, [.int (nI mc), .ref ed, .int (nI sz0)])), (ed, .inl (cO, 10, .inr (.inr (.inr (.inr fe)))))] H := hP
  have hw := hw.symm
  subst hw
  refine lv_pop hx hb dJx4a65c_get_915e3_8 rfl ?_
  refine lv_aload_n hx hb dJx4a65c_get_915e3_9 rfl (lv_at hl 0 rfl) ?_
  refine lv_iload_n hx hb dJx4a65c_get_915e3_10 rfl (lv_at hl 1 rfl) ?_
  have hPc := hP.sub (ws' := [(h0, .inr (0, [.int (nI mc), .ref ed, .int (nI sz0)])), (ed, .inl (cO, 10, .inr (.inr (.inr (.inr fe)))))]) [0, 1] rfl
  have hDc := hD.sub (ws' := [(h0, .inr (0, [.int (nI mc), .ref ed, .int (nI sz0)])), (ed, .inl (cO, 10, .inr (.inr (.inr (.inr fe)))))]) [0, 1] (by decide +kernel) rfl
  have hKc := hK.sub (tys' := [(cO, (.object "java/lang/Object"))]) [0] rfl
  have hFc := ro_free hS hA
  refine va_callq (va_runV (As := [.int (nI p0)]) (rest := []) ⟨hx, hb, hml, hown, hts⟩ (c_AL_elementData l dC dI (h0) (mc) (ed) (sz0) (cO) (fe) (p0) (el) H.size hel (by omega)) (cwV 1 hts g_c_AL_get_c_AL_elementData_123 rfl rfl rfl (by decide +kernel) ⟨Nat.le_of_ble_eq_true rfl, Nat.le_of_ble_eq_true rfl⟩) ⟨fun a U g mk q => by obtain ⟨q0, q1, qP, qK, qD, qE⟩ := q; exact ⟨q0, q1, qP, va_K.moved (u := U) (U := U.calling g mk a) (Vm.Alike.refl U.vm) qK, qD, ev.same (u := U) (U := U.calling g mk a) rfl qE⟩, va_recv hKc hPc (ci := 0) (q0 := 0) rfl rfl, fun U hU hW => ⟨rfl, by rw [hU], by rw [hU]; exact hPc, va_K.moved hW.alike hKc, hDc.weaken (fun _ _ _ _ => trivial), hE.warm hW⟩⟩ rfl rfl hl.1 rfl (lv_room (Nat.le_of_ble_eq_true rfl)) dJx4a65c_get_915e3_11 ⟨Nat.le_of_ble_eq_true rfl, Nat.le_of_ble_eq_true rfl⟩) hS (fun q _ h => hFc q h) hFc (fun r_2 u t H1 locs ht hvm hw hB hz1 hk1 hS => ?_)
  clear hPc hDc hKc
  replace hP := ro_keep hP hk1
  generalize H1 = H at hP hS ⊢
  replace hP : va_P (dC, dI) vwCl [(h0, .inr (0, [.int (nI mc), .ref ed, .int (nI sz0)])), (ed, .inl (cO, 10, .inr (.inr (.inr (.inr fe)))))] H := hP
  have hw := hw.symm
  subst hw
  refine W.eq (g2 := F0 m 14 ls [.ref el]) rfl ?_
  exact W.aret (v := .ref el) hx hb hr (Or.inl ⟨_, rfl⟩) (Or.inr ⟨_, rfl⟩) (fun t ht hW => ⟨⟨some el, (), rfl, rfl, trivial⟩, hS.F ht⟩) hS.2.2 dJx4a65c_get_915e3_14

noncomputable def tl_c_messageAt_null : List Cond := wsX70 ++ (v_c_AL_size ++ (v_c_AL_get))
noncomputable def v_c_messageAt_null : List Cond := .code yX7_messageAt cX7_messageAt 2 (some (.object "ClaimBus$Message")) :: ([.fieldLink RX7 12 "ClaimBus$Store" "messages" "Ljava/util/ArrayList;", .initialized RJx4a65c, .methodLink RX7 24 yJx4a65c_size_8abf5, .instanceMethod yJx4a65c_size_8abf5, .selects RJx4a65c yJx4a65c_size_8abf5 yJx4a65c_size_8abf5, .methodLink RX7 44 yJx4a65c_get_915e3, .instanceMethod yJx4a65c_get_915e3, .selects RJx4a65c yJx4a65c_get_915e3 yJx4a65c_get_915e3, .classLink RX7 22 "ClaimBus$Message"] ++ tl_c_messageAt_null)
theorem it_c_messageAt_null : ∀ w ∈ tl_c_messageAt_null, w ∈ v_c_messageAt_null := fun w h => List.mem_cons_of_mem _ (List.mem_append_right _ h)
theorem in_c_messageAt_null_X7 : ∀ w ∈ wsX70, w ∈ v_c_messageAt_null := fun w h => it_c_messageAt_null w (List.mem_append_left _ h)
theorem ic_c_messageAt_null_c_AL_size : ∀ w ∈ v_c_AL_size, w ∈ v_c_messageAt_null := fun w h => it_c_messageAt_null w (List.mem_append_right _ (List.mem_append_left _ h))
theorem ic_c_messageAt_null_c_AL_get : ∀ w ∈ v_c_AL_get, w ∈ v_c_messageAt_null := fun w h => it_c_messageAt_null w (List.mem_append_right _ (List.mem_append_right _ (h)))
theorem gt_c_messageAt_null : ∀ w ∈ tl_c_messageAt_null, goodWord w = true := List.forall_mem_append.mpr ⟨gw_wsX70, List.forall_mem_append.mpr ⟨gw_c_AL_size, gw_c_AL_get⟩⟩
theorem gw_c_messageAt_null : ∀ w ∈ v_c_messageAt_null, goodWord w = true := List.forall_mem_cons.mpr ⟨by decide +kernel, List.forall_mem_append.mpr ⟨List.all_eq_true.mp (by decide +kernel), gt_c_messageAt_null⟩⟩
theorem g_c_messageAt_null_c_AL_size_24 : GoodIn v_c_messageAt_null (wsV RX7 24 RJx4a65c yJx4a65c_size_8abf5 v_c_AL_size) := goodIn_app (goodIn_r [.methodLink RX7 24 yJx4a65c_size_8abf5, .instanceMethod yJx4a65c_size_8abf5, .selects RJx4a65c yJx4a65c_size_8abf5 yJx4a65c_size_8abf5, .initialized RJx4a65c] [3, 4, 5, 2] (by decide +kernel) (by decide +kernel)) (fun w h => ⟨ic_c_messageAt_null_c_AL_size w h, good_of_word (gw_c_AL_size w h)⟩)
theorem g_c_messageAt_null_c_AL_get_44 : GoodIn v_c_messageAt_null (wsV RX7 44 RJx4a65c yJx4a65c_get_915e3 v_c_AL_get) := goodIn_app (goodIn_r [.methodLink RX7 44 yJx4a65c_get_915e3, .instanceMethod yJx4a65c_get_915e3, .selects RJx4a65c yJx4a65c_get_915e3 yJx4a65c_get_915e3, .initialized RJx4a65c] [6, 7, 8, 2] (by decide +kernel) (by decide +kernel)) (fun w h => ⟨ic_c_messageAt_null_c_AL_get w h, good_of_word (gw_c_AL_get w h)⟩)
set_option maxHeartbeats 4000000 in
set_option maxRecDepth 100000 in
theorem c_messageAt_null (l : Launch) (dC : Nat → ClassId) (dI : Nat → Nat → Nat) (st : Nat) (ml : Nat) (mc : Nat) (ed : Nat) (sz0 : Nat) (cO : ClassId) (fe : Nat → Option Nat) (mm : Nat) (mi : Nat) (mt : Nat) (mg : Nat) (ms : Nat) (sd : Int32) (p0 : Nat) (sz : Nat) (hel : fe p0 = some mm) (h : p0 < sz0) (h2 : sz0 ≤ 10) : Met l yX7_messageAt v_c_messageAt_null ({ frames := 3, cells := 0, slots := 0, locals := 64 }) (va_Pc [.ref st, .int (nI p0)] (fun U => U.heap.size = sz ∧ va_P (dC, dI) vwCl [(st, .inr (8, [.ref ml, .null])), (ml, .inr (0, [.int (nI mc), .ref ed, .int (nI sz0)])), (ed, .inl (cO, 10, .inr (.inr (.inr (.inr fe))))), (mm, .inr (4, [.int (nI mi), .int (nI mt), .int (nI mg), .int (nI ms), .int sd, .null]))] U.heap ∧ va_K (dC, dI) vwCl [(cO, (.object "java/lang/Object"))] U ∧ va_D (fun _ => True) [(st, .inr (8, [.ref ml, .null])), (ml, .inr (0, [.int (nI mc), .ref ed, .int (nI sz0)])), (ed, .inl (cO, 10, .inr (.inr (.inr (.inr fe))))), (mm, .inr (4, [.int (nI mi), .int (nI mt), .int (nI mg), .int (nI ms), .int sd, .null]))] ∧ ev U)) (va_Qq (fun (r : Option Nat) (_ : Unit) => r = some mm) (fun (_ : Unit) (_ : State) => True) (va_A [] sz)) 0 0 (va_A [] sz) := by
  refine Met.ofW (cc := cX7_messageAt) (maxL := 2) (ret := (some (.object "ClaimBus$Message"))) (by decide) rfl ?_
  intro p e s m args below meth c s₁ B hml hv
  obtain ⟨rfl, hsz, hP, hK, hD0, hE⟩ := hv
  have hx := B.exec
  have hb := B.bytes
  have hr := B.returns
  have hts := atoms_spec (ws := v_c_messageAt_null) B.pre
  have hown : s.vm.findClass RX7 = some m.cls := findClass_of_methodNamed B.named
  have hlocks := B.notSynchronized
  subst hsz
  have hD := hD0
  generalize hAe : va_A [] s.heap.size = A
  have hA : ∀ q : Nat, s.heap.size ≤ q → A q := fun q h => by rw [← hAe]; exact Or.inr h
  have hS : va_S A s.heap s.heap [] := va_S.rf
  replace hP : va_P (dC, dI) vwCl [(st, .inr (8, [.ref ml, .null])), (ml, .inr (0, [.int (nI mc), .ref ed, .int (nI sz0)])), (ed, .inl (cO, 10, .inr (.inr (.inr (.inr fe))))), (mm, .inr (4, [.int (nI mi), .int (nI mt), .int (nI mg), .int (nI ms), .int sd, .null]))] s.heap := hP
  have hl := lv_entry ([.ref st, .int (nI p0)]) (n := 2) (Nat.le_of_ble_eq_true rfl)
  rw [lg_entry_eq]
  generalize (lg_sl ([.ref st, .int (nI p0)]) ++ List.replicate (2 - (lg_sl ([.ref st, .int (nI p0)])).length) Slot.unset).toArray = ls at hl ⊢
  replace hl : lv_has ls 2 [(0, .ref st), (1, .int (nI p0))] := hl
  obtain ⟨H, hH⟩ : ∃ z : Heap, z = s.heap := ⟨_, rfl⟩
  rw [← hH]
  replace hS : va_S A s.heap H [] := by rw [hH]; exact va_S.rf
  replace hP : va_P (dC, dI) vwCl [(st, .inr (8, [.ref ml, .null])), (ml, .inr (0, [.int (nI mc), .ref ed, .int (nI sz0)])), (ed, .inl (cO, 10, .inr (.inr (.inr (.inr fe))))), (mm, .inr (4, [.int (nI mi), .int (nI mt), .int (nI mg), .int (nI ms), .int sd, .null]))] H := by rw [hH]; exact hP
  clear hH
  refine lv_iload_n hx hb dX7_messageAt_0 rfl (lv_at hl 1 rfl) ?_
  refine lv_if_lt (tgt := 29) hx hb dX7_messageAt_1 (by decide) (fun c_1 => ?_) (fun c_1 => ?_)
  · exact absurd ((nI_ltI (a := p0) (b := 0) (by omega) (by omega)).mp c_1) (by omega)
  refine lv_iload_n hx hb dX7_messageAt_4 rfl (lv_at hl 1 rfl) ?_
  refine lv_aload_n hx hb dX7_messageAt_5 rfl (lv_at hl 0 rfl) ?_
  refine va_get (D := (dC, dI)) (ci := 8) (v := .ref ml) (C := RX7) (T := TX7) (N := 2) hx hb hts in_c_messageAt_null_X7 hown hK hP 0 rfl rfl 0 (by decide) (hts (.fieldLink RX7 12 "ClaimBus$Store" "messages" "Ljava/util/ArrayList;") (List.mem_of_getElem? (i := 1) rfl)) (fun _ h9 => h9) rfl dX7_messageAt_6 ?_
  have hPc := hP.sub (ws' := [(ml, .inr (0, [.int (nI mc), .ref ed, .int (nI sz0)]))]) [1] rfl
  have hDc := hD.sub (ws' := [(ml, .inr (0, [.int (nI mc), .ref ed, .int (nI sz0)]))]) [1] (by decide +kernel) rfl
  have hKc := hK.sub (tys' := []) [] rfl
  have hFc := ro_free hS hA
  refine va_calli (va_runV (As := []) (rest := [.int (nI p0)]) ⟨hx, hb, hml, hown, hts⟩ (c_AL_size l dC dI (ml) (mc) (ed) (sz0) H.size) (cwV 0 hts g_c_messageAt_null_c_AL_size_24 rfl rfl rfl (by decide +kernel) ⟨Nat.le_of_ble_eq_true rfl, Nat.le_of_ble_eq_true rfl⟩) ⟨fun a U g mk q => by obtain ⟨q0, q1, qP, qK, qD, qE⟩ := q; exact ⟨q0, q1, qP, va_K.moved (u := U) (U := U.calling g mk a) (Vm.Alike.refl U.vm) qK, qD, ev.same (u := U) (U := U.calling g mk a) rfl qE⟩, va_recv hKc hPc (ci := 0) (q0 := 0) rfl rfl, fun U hU hW => ⟨rfl, by rw [hU], by rw [hU]; exact hPc, va_K.moved hW.alike hKc, hDc.weaken (fun _ _ _ _ => trivial), hE.warm hW⟩⟩ rfl rfl hl.1 rfl (lv_room (Nat.le_of_ble_eq_true rfl)) dX7_messageAt_9 ⟨Nat.le_of_ble_eq_true rfl, Nat.le_of_ble_eq_true rfl⟩) hS (fun q _ h => hFc q h) hFc (fun r_2 u t H1 locs ht hvm hw hB hz1 hk1 hS => ?_)
  clear hPc hDc hKc
  replace hP := ro_keep hP hk1
  generalize H1 = H at hP hS ⊢
  replace hP : va_P (dC, dI) vwCl [(st, .inr (8, [.ref ml, .null])), (ml, .inr (0, [.int (nI mc), .ref ed, .int (nI sz0)])), (ed, .inl (cO, 10, .inr (.inr (.inr (.inr fe))))), (mm, .inr (4, [.int (nI mi), .int (nI mt), .int (nI mg), .int (nI ms), .int sd, .null]))] H := hP
  have hw := hw.symm
  subst hw
  refine lv_icmp_ge (tgt := 29) hx hb dX7_messageAt_12 (by decide) (fun c_3 => ?_) (fun c_3 => ?_)
  · exact absurd ((nI_leI (a := sz0) (b := p0) (by omega) (by omega)).mp c_3) (by omega)
  refine lv_aload_n hx hb dX7_messageAt_15 rfl (lv_at hl 0 rfl) ?_
  refine va_get (D := (dC, dI)) (ci := 8) (v := .ref ml) (C := RX7) (T := TX7) (N := 2) hx hb hts in_c_messageAt_null_X7 hown hK hP 0 rfl rfl 0 (by decide) (hts (.fieldLink RX7 12 "ClaimBus$Store" "messages" "Ljava/util/ArrayList;") (List.mem_of_getElem? (i := 1) rfl)) (fun _ h9 => h9) rfl dX7_messageAt_16 ?_
  refine lv_iload_n hx hb dX7_messageAt_19 rfl (lv_at hl 1 rfl) ?_
  have hPc := hP.sub (ws' := [(ml, .inr (0, [.int (nI mc), .ref ed, .int (nI sz0)])), (ed, .inl (cO, 10, .inr (.inr (.inr (.inr fe)))))]) [1, 2] rfl
  have hDc := hD.sub (ws' := [(ml, .inr (0, [.int (nI mc), .ref ed, .int (nI sz0)])), (ed, .inl (cO, 10, .inr (.inr (.inr (.inr fe)))))]) [1, 2] (by decide +kernel) rfl
  have hKc := hK.sub (tys' := [(cO, (.object "java/lang/Object"))]) [0] rfl
  have hFc := ro_free hS hA
  refine va_callq (va_runV (As := [.int (nI p0)]) (rest := []) ⟨hx, hb, hml, hown, hts⟩ (c_AL_get l dC dI (ml) (mc) (ed) (sz0) (cO) (fe) (p0) (mm) H.size hel h h2) (cwV 1 hts g_c_messageAt_null_c_AL_get_44 rfl rfl rfl (by decide +kernel) ⟨Nat.le_of_ble_eq_true rfl, Nat.le_of_ble_eq_true rfl⟩) ⟨fun a U g mk q => by obtain ⟨q0, q1, qP, qK, qD, qE⟩ := q; exact ⟨q0, q1, qP, va_K.moved (u := U) (U := U.calling g mk a) (Vm.Alike.refl U.vm) qK, qD, ev.same (u := U) (U := U.calling g mk a) rfl qE⟩, va_recv hKc hPc (ci := 0) (q0 := 0) rfl rfl, fun U hU hW => ⟨rfl, by rw [hU], by rw [hU]; exact hPc, va_K.moved hW.alike hKc, hDc.weaken (fun _ _ _ _ => trivial), hE.warm hW⟩⟩ rfl rfl hl.1 rfl (lv_room (Nat.le_of_ble_eq_true rfl)) dX7_messageAt_20 ⟨Nat.le_of_ble_eq_true rfl, Nat.le_of_ble_eq_true rfl⟩) hS (fun q _ h => hFc q h) hFc (fun r_4 u t H1 locs ht hvm hw hB hz1 hk1 hS => ?_)
  clear hPc hDc hKc
  replace hP := ro_keep hP hk1
  generalize H1 = H at hP hS ⊢
  replace hP : va_P (dC, dI) vwCl [(st, .inr (8, [.ref ml, .null])), (ml, .inr (0, [.int (nI mc), .ref ed, .int (nI sz0)])), (ed, .inl (cO, 10, .inr (.inr (.inr (.inr fe))))), (mm, .inr (4, [.int (nI mi), .int (nI mt), .int (nI mg), .int (nI ms), .int sd, .null]))] H := hP
  have hw := hw.symm
  subst hw
  refine W.eq (g2 := F0 m 23 ls [.ref mm]) rfl ?_
  refine va_castS hx hb hown (hts (.classLink RX7 22 "ClaimBus$Message") (List.mem_of_getElem? (i := 9) rfl)) (hK.1 4 _ rfl).2 (va_recv hK hP (ci := 4) (q0 := 3) rfl rfl) dX7_messageAt_23 ?_
  refine lv_goto (tgt := 30) hx hb dX7_messageAt_26 (by decide) ?_
  exact W.aret (v := .ref mm) hx hb hr (Or.inl ⟨_, rfl⟩) (Or.inr ⟨_, rfl⟩) (fun t ht hW => ⟨⟨some mm, (), rfl, rfl, trivial⟩, hS.F ht⟩) hS.2.2 dX7_messageAt_30

noncomputable def tl_c_messageAt_ck : List Cond := wsX70 ++ (v_c_AL_size ++ (v_c_AL_get))
noncomputable def v_c_messageAt_ck : List Cond := .code yX7_messageAt cX7_messageAt 2 (some (.object "ClaimBus$Message")) :: ([.fieldLink RX7 12 "ClaimBus$Store" "messages" "Ljava/util/ArrayList;", .initialized RJx4a65c, .methodLink RX7 24 yJx4a65c_size_8abf5, .instanceMethod yJx4a65c_size_8abf5, .selects RJx4a65c yJx4a65c_size_8abf5 yJx4a65c_size_8abf5, .methodLink RX7 44 yJx4a65c_get_915e3, .instanceMethod yJx4a65c_get_915e3, .selects RJx4a65c yJx4a65c_get_915e3 yJx4a65c_get_915e3, .classLink RX7 22 "ClaimBus$Message"] ++ tl_c_messageAt_ck)
theorem it_c_messageAt_ck : ∀ w ∈ tl_c_messageAt_ck, w ∈ v_c_messageAt_ck := fun w h => List.mem_cons_of_mem _ (List.mem_append_right _ h)
theorem in_c_messageAt_ck_X7 : ∀ w ∈ wsX70, w ∈ v_c_messageAt_ck := fun w h => it_c_messageAt_ck w (List.mem_append_left _ h)
theorem ic_c_messageAt_ck_c_AL_size : ∀ w ∈ v_c_AL_size, w ∈ v_c_messageAt_ck := fun w h => it_c_messageAt_ck w (List.mem_append_right _ (List.mem_append_left _ h))
theorem ic_c_messageAt_ck_c_AL_get : ∀ w ∈ v_c_AL_get, w ∈ v_c_messageAt_ck := fun w h => it_c_messageAt_ck w (List.mem_append_right _ (List.mem_append_right _ (h)))
theorem gt_c_messageAt_ck : ∀ w ∈ tl_c_messageAt_ck, goodWord w = true := List.forall_mem_append.mpr ⟨gw_wsX70, List.forall_mem_append.mpr ⟨gw_c_AL_size, gw_c_AL_get⟩⟩
theorem gw_c_messageAt_ck : ∀ w ∈ v_c_messageAt_ck, goodWord w = true := List.forall_mem_cons.mpr ⟨by decide +kernel, List.forall_mem_append.mpr ⟨List.all_eq_true.mp (by decide +kernel), gt_c_messageAt_ck⟩⟩
theorem g_c_messageAt_ck_c_AL_size_24 : GoodIn v_c_messageAt_ck (wsV RX7 24 RJx4a65c yJx4a65c_size_8abf5 v_c_AL_size) := goodIn_app (goodIn_r [.methodLink RX7 24 yJx4a65c_size_8abf5, .instanceMethod yJx4a65c_size_8abf5, .selects RJx4a65c yJx4a65c_size_8abf5 yJx4a65c_size_8abf5, .initialized RJx4a65c] [3, 4, 5, 2] (by decide +kernel) (by decide +kernel)) (fun w h => ⟨ic_c_messageAt_ck_c_AL_size w h, good_of_word (gw_c_AL_size w h)⟩)
theorem g_c_messageAt_ck_c_AL_get_44 : GoodIn v_c_messageAt_ck (wsV RX7 44 RJx4a65c yJx4a65c_get_915e3 v_c_AL_get) := goodIn_app (goodIn_r [.methodLink RX7 44 yJx4a65c_get_915e3, .instanceMethod yJx4a65c_get_915e3, .selects RJx4a65c yJx4a65c_get_915e3 yJx4a65c_get_915e3, .initialized RJx4a65c] [6, 7, 8, 2] (by decide +kernel) (by decide +kernel)) (fun w h => ⟨ic_c_messageAt_ck_c_AL_get w h, good_of_word (gw_c_AL_get w h)⟩)
set_option maxHeartbeats 4000000 in
set_option maxRecDepth 100000 in
theorem c_messageAt_ck (l : Launch) (dC : Nat → ClassId) (dI : Nat → Nat → Nat) (st : Nat) (ml : Nat) (ck : Nat) (mc : Nat) (ed : Nat) (sz0 : Nat) (cO : ClassId) (fe : Nat → Option Nat) (mm : Nat) (mi : Nat) (mt : Nat) (mg : Nat) (ms : Nat) (sd : Int32) (p0 : Nat) (sz : Nat) (hel : fe p0 = some mm) (h : p0 < sz0) (h2 : sz0 ≤ 10) : Met l yX7_messageAt v_c_messageAt_ck ({ frames := 3, cells := 0, slots := 0, locals := 64 }) (va_Pc [.ref st, .int (nI p0)] (fun U => U.heap.size = sz ∧ va_P (dC, dI) vwCl [(st, .inr (8, [.ref ml, .ref ck])), (ml, .inr (0, [.int (nI mc), .ref ed, .int (nI sz0)])), (ed, .inl (cO, 10, .inr (.inr (.inr (.inr fe))))), (mm, .inr (4, [.int (nI mi), .int (nI mt), .int (nI mg), .int (nI ms), .int sd, .null]))] U.heap ∧ va_K (dC, dI) vwCl [(cO, (.object "java/lang/Object"))] U ∧ va_D (fun _ => True) [(st, .inr (8, [.ref ml, .ref ck])), (ml, .inr (0, [.int (nI mc), .ref ed, .int (nI sz0)])), (ed, .inl (cO, 10, .inr (.inr (.inr (.inr fe))))), (mm, .inr (4, [.int (nI mi), .int (nI mt), .int (nI mg), .int (nI ms), .int sd, .null]))] ∧ ev U)) (va_Qq (fun (r : Option Nat) (_ : Unit) => r = some mm) (fun (_ : Unit) (_ : State) => True) (va_A [] sz)) 0 0 (va_A [] sz) := by
  refine Met.ofW (cc := cX7_messageAt) (maxL := 2) (ret := (some (.object "ClaimBus$Message"))) (by decide) rfl ?_
  intro p e s m args below meth c s₁ B hml hv
  obtain ⟨rfl, hsz, hP, hK, hD0, hE⟩ := hv
  have hx := B.exec
  have hb := B.bytes
  have hr := B.returns
  have hts := atoms_spec (ws := v_c_messageAt_ck) B.pre
  have hown : s.vm.findClass RX7 = some m.cls := findClass_of_methodNamed B.named
  have hlocks := B.notSynchronized
  subst hsz
  have hD := hD0
  generalize hAe : va_A [] s.heap.size = A
  have hA : ∀ q : Nat, s.heap.size ≤ q → A q := fun q h => by rw [← hAe]; exact Or.inr h
  have hS : va_S A s.heap s.heap [] := va_S.rf
  replace hP : va_P (dC, dI) vwCl [(st, .inr (8, [.ref ml, .ref ck])), (ml, .inr (0, [.int (nI mc), .ref ed, .int (nI sz0)])), (ed, .inl (cO, 10, .inr (.inr (.inr (.inr fe))))), (mm, .inr (4, [.int (nI mi), .int (nI mt), .int (nI mg), .int (nI ms), .int sd, .null]))] s.heap := hP
  have hl := lv_entry ([.ref st, .int (nI p0)]) (n := 2) (Nat.le_of_ble_eq_true rfl)
  rw [lg_entry_eq]
  generalize (lg_sl ([.ref st, .int (nI p0)]) ++ List.replicate (2 - (lg_sl ([.ref st, .int (nI p0)])).length) Slot.unset).toArray = ls at hl ⊢
  replace hl : lv_has ls 2 [(0, .ref st), (1, .int (nI p0))] := hl
  obtain ⟨H, hH⟩ : ∃ z : Heap, z = s.heap := ⟨_, rfl⟩
  rw [← hH]
  replace hS : va_S A s.heap H [] := by rw [hH]; exact va_S.rf
  replace hP : va_P (dC, dI) vwCl [(st, .inr (8, [.ref ml, .ref ck])), (ml, .inr (0, [.int (nI mc), .ref ed, .int (nI sz0)])), (ed, .inl (cO, 10, .inr (.inr (.inr (.inr fe))))), (mm, .inr (4, [.int (nI mi), .int (nI mt), .int (nI mg), .int (nI ms), .int sd, .null]))] H := by rw [hH]; exact hP
  clear hH
  refine lv_iload_n hx hb dX7_messageAt_0 rfl (lv_at hl 1 rfl) ?_
  refine lv_if_lt (tgt := 29) hx hb dX7_messageAt_1 (by decide) (fun c_1 => ?_) (fun c_1 => ?_)
  · exact absurd ((nI_ltI (a := p0) (b := 0) (by omega) (by omega)).mp c_1) (by omega)
  refine lv_iload_n hx hb dX7_messageAt_4 rfl (lv_at hl 1 rfl) ?_
  refine lv_aload_n hx hb dX7_messageAt_5 rfl (lv_at hl 0 rfl) ?_
  refine va_get (D := (dC, dI)) (ci := 8) (v := .ref ml) (C := RX7) (T := TX7) (N := 2) hx hb hts in_c_messageAt_ck_X7 hown hK hP 0 rfl rfl 0 (by decide) (hts (.fieldLink RX7 12 "ClaimBus$Store" "messages" "Ljava/util/ArrayList;") (List.mem_of_getElem? (i := 1) rfl)) (fun _ h9 => h9) rfl dX7_messageAt_6 ?_
  have hPc := hP.sub (ws' := [(ml, .inr (0, [.int (nI mc), .ref ed, .int (nI sz0)]))]) [1] rfl
  have hDc := hD.sub (ws' := [(ml, .inr (0, [.int (nI mc), .ref ed, .int (nI sz0)]))]) [1] (by decide +kernel) rfl
  have hKc := hK.sub (tys' := []) [] rfl
  have hFc := ro_free hS hA
  refine va_calli (va_runV (As := []) (rest := [.int (nI p0)]) ⟨hx, hb, hml, hown, hts⟩ (c_AL_size l dC dI (ml) (mc) (ed) (sz0) H.size) (cwV 0 hts g_c_messageAt_ck_c_AL_size_24 rfl rfl rfl (by decide +kernel) ⟨Nat.le_of_ble_eq_true rfl, Nat.le_of_ble_eq_true rfl⟩) ⟨fun a U g mk q => by obtain ⟨q0, q1, qP, qK, qD, qE⟩ := q; exact ⟨q0, q1, qP, va_K.moved (u := U) (U := U.calling g mk a) (Vm.Alike.refl U.vm) qK, qD, ev.same (u := U) (U := U.calling g mk a) rfl qE⟩, va_recv hKc hPc (ci := 0) (q0 := 0) rfl rfl, fun U hU hW => ⟨rfl, by rw [hU], by rw [hU]; exact hPc, va_K.moved hW.alike hKc, hDc.weaken (fun _ _ _ _ => trivial), hE.warm hW⟩⟩ rfl rfl hl.1 rfl (lv_room (Nat.le_of_ble_eq_true rfl)) dX7_messageAt_9 ⟨Nat.le_of_ble_eq_true rfl, Nat.le_of_ble_eq_true rfl⟩) hS (fun q _ h => hFc q h) hFc (fun r_2 u t H1 locs ht hvm hw hB hz1 hk1 hS => ?_)
  clear hPc hDc hKc
  replace hP := ro_keep hP hk1
  generalize H1 = H at hP hS ⊢
  replace hP : va_P (dC, dI) vwCl [(st, .inr (8, [.ref ml, .ref ck])), (ml, .inr (0, [.int (nI mc), .ref ed, .int (nI sz0)])), (ed, .inl (cO, 10, .inr (.inr (.inr (.inr fe))))), (mm, .inr (4, [.int (nI mi), .int (nI mt), .int (nI mg), .int (nI ms), .int sd, .null]))] H := hP
  have hw := hw.symm
  subst hw
  refine lv_icmp_ge (tgt := 29) hx hb dX7_messageAt_12 (by decide) (fun c_3 => ?_) (fun c_3 => ?_)
  · exact absurd ((nI_leI (a := sz0) (b := p0) (by omega) (by omega)).mp c_3) (by omega)
  refine lv_aload_n hx hb dX7_messageAt_15 rfl (lv_at hl 0 rfl) ?_
  refine va_get (D := (dC, dI)) (ci := 8) (v := .ref ml) (C := RX7) (T := TX7) (N := 2) hx hb hts in_c_messageAt_ck_X7 hown hK hP 0 rfl rfl 0 (by decide) (hts (.fieldLink RX7 12 "ClaimBus$Store" "messages" "Ljava/util/ArrayList;") (List.mem_of_getElem? (i := 1) rfl)) (fun _ h9 => h9) rfl dX7_messageAt_16 ?_
  refine lv_iload_n hx hb dX7_messageAt_19 rfl (lv_at hl 1 rfl) ?_
  have hPc := hP.sub (ws' := [(ml, .inr (0, [.int (nI mc), .ref ed, .int (nI sz0)])), (ed, .inl (cO, 10, .inr (.inr (.inr (.inr fe)))))]) [1, 2] rfl
  have hDc := hD.sub (ws' := [(ml, .inr (0, [.int (nI mc), .ref ed, .int (nI sz0)])), (ed, .inl (cO, 10, .inr (.inr (.inr (.inr fe)))))]) [1, 2] (by decide +kernel) rfl
  have hKc := hK.sub (tys' := [(cO, (.object "java/lang/Object"))]) [0] rfl
  have hFc := ro_free hS hA
  refine va_callq (va_runV (As := [.int (nI p0)]) (rest := []) ⟨hx, hb, hml, hown, hts⟩ (c_AL_get l dC dI (ml) (mc) (ed) (sz0) (cO) (fe) (p0) (mm) H.size hel h h2) (cwV 1 hts g_c_messageAt_ck_c_AL_get_44 rfl rfl rfl (by decide +kernel) ⟨Nat.le_of_ble_eq_true rfl, Nat.le_of_ble_eq_true rfl⟩) ⟨fun a U g mk q => by obtain ⟨q0, q1, qP, qK, qD, qE⟩ := q; exact ⟨q0, q1, qP, va_K.moved (u := U) (U := U.calling g mk a) (Vm.Alike.refl U.vm) qK, qD, ev.same (u := U) (U := U.calling g mk a) rfl qE⟩, va_recv hKc hPc (ci := 0) (q0 := 0) rfl rfl, fun U hU hW => ⟨rfl, by rw [hU], by rw [hU]; exact hPc, va_K.moved hW.alike hKc, hDc.weaken (fun _ _ _ _ => trivial), hE.warm hW⟩⟩ rfl rfl hl.1 rfl (lv_room (Nat.le_of_ble_eq_true rfl)) dX7_messageAt_20 ⟨Nat.le_of_ble_eq_true rfl, Nat.le_of_ble_eq_true rfl⟩) hS (fun q _ h => hFc q h) hFc (fun r_4 u t H1 locs ht hvm hw hB hz1 hk1 hS => ?_)
  clear hPc hDc hKc
  replace hP := ro_keep hP hk1
  generalize H1 = H at hP hS ⊢
  replace hP : va_P (dC, dI) vwCl [(st, .inr (8, [.ref ml, .ref ck])), (ml, .inr (0, [.int (nI mc), .ref ed, .int (nI sz0)])), (ed, .inl (cO, 10, .inr (.inr (.inr (.inr fe))))), (mm, .inr (4, [.int (nI mi), .int (nI mt), .int (nI mg), .int (nI ms), .int sd, .null]))] H := hP
  have hw := hw.symm
  subst hw
  refine W.eq (g2 := F0 m 23 ls [.ref mm]) rfl ?_
  refine va_castS hx hb hown (hts (.classLink RX7 22 "ClaimBus$Message") (List.mem_of_getElem? (i := 9) rfl)) (hK.1 4 _ rfl).2 (va_recv hK hP (ci := 4) (q0 := 3) rfl rfl) dX7_messageAt_23 ?_
  refine lv_goto (tgt := 30) hx hb dX7_messageAt_26 (by decide) ?_
  exact W.aret (v := .ref mm) hx hb hr (Or.inl ⟨_, rfl⟩) (Or.inr ⟨_, rfl⟩) (fun t ht hW => ⟨⟨some mm, (), rfl, rfl, trivial⟩, hS.F ht⟩) hS.2.2 dX7_messageAt_30

noncomputable def tl_c_X0_init : List Cond := wsX00
noncomputable def v_c_X0_init : List Cond := .code yX0_init cX0_init 1 none :: ([.methodLink RX0 1 objectInit, .instanceMethod objectInit, .code objectInit ⟨#[0xb1]⟩ 1 none, .arrayClass .long, .fieldLink RX0 9 "ClaimBus$Chunk" "entries" "[J", .fieldLink RX0 13 "ClaimBus$Chunk" "next" "LClaimBus$Chunk;"] ++ tl_c_X0_init)
theorem it_c_X0_init : ∀ w ∈ tl_c_X0_init, w ∈ v_c_X0_init := fun w h => List.mem_cons_of_mem _ (List.mem_append_right _ h)
theorem in_c_X0_init_X0 : ∀ w ∈ wsX00, w ∈ v_c_X0_init := fun w h => it_c_X0_init w (h)
theorem gt_c_X0_init : ∀ w ∈ tl_c_X0_init, goodWord w = true := gw_wsX00
theorem gw_c_X0_init : ∀ w ∈ v_c_X0_init, goodWord w = true := List.forall_mem_cons.mpr ⟨by decide +kernel, List.forall_mem_append.mpr ⟨List.all_eq_true.mp (by decide +kernel), gt_c_X0_init⟩⟩
set_option maxHeartbeats 4000000 in
set_option maxRecDepth 100000 in
/-- Chunk() -/
theorem c_X0_init (l : Launch) (dC : Nat → ClassId) (dI : Nat → Nat → Nat) (h0 : Nat) (sz : Nat)  : Met l yX0_init v_c_X0_init ({ frames := 1, cells := 1, slots := 128, locals := 13 }) (va_Pc [.ref h0] (fun U => U.heap.size = sz ∧ va_P (dC, dI) vwCl [(h0, .inr (1, [.null, .null]))] U.heap ∧ va_K (dC, dI) vwCl [] U ∧ va_D (fun _ => True) [(h0, .inr (1, [.null, .null]))] ∧ ev U)) (va_Qv (fun _ : Unit => True) (fun (_ : Unit) (t : State) => ∃ (ce : Nat) (cJ : ClassId), va_P (dC, dI) vwCl [(h0, .inr (1, [.ref ce, .null])), (ce, .inl (cJ, 128, .inr (.inl (fun _ => 0))))] t.heap ∧ va_K (dC, dI) vwCl [(cJ, .long)] t ∧ va_D (va_A [(h0, .inr (1, [.null, .null]))] sz) [(h0, .inr (1, [.ref ce, .null])), (ce, .inl (cJ, 128, .inr (.inl (fun _ => 0))))]) (va_A [(h0, .inr (1, [.null, .null]))] sz)) 1 128 (va_A [(h0, .inr (1, [.null, .null]))] sz) := by
  refine Met.ofW (cc := cX0_init) (maxL := 1) (ret := none) (by decide) rfl ?_
  intro p e s m args below meth c s₁ B hml hv
  obtain ⟨rfl, hsz, hP, hK, hD0, hE⟩ := hv
  have hx := B.exec
  have hb := B.bytes
  have hr := B.returns
  have hts := atoms_spec (ws := v_c_X0_init) B.pre
  have hown : s.vm.findClass RX0 = some m.cls := findClass_of_methodNamed B.named
  have hlocks := B.notSynchronized
  have hin : meth.name = "<init>" := (name_of_methodNamed B.named B.method).1
  subst hsz
  have hD := hD0.self (sz := s.heap.size)
  generalize hAe : va_A [(h0, .inr (1, [.null, .null]))] s.heap.size = A at hD ⊢
  have hA : ∀ q : Nat, s.heap.size ≤ q → A q := fun q h => by rw [← hAe]; exact Or.inr h
  have hS : va_S A s.heap s.heap [] := va_S.rf
  replace hP : va_P (dC, dI) vwCl [(h0, .inr (1, [.null, .null]))] s.heap := hP
  have hl := lv_entry ([.ref h0]) (n := 1) (Nat.le_of_ble_eq_true rfl)
  rw [lg_entry_eq]
  generalize (lg_sl ([.ref h0]) ++ List.replicate (1 - (lg_sl ([.ref h0])).length) Slot.unset).toArray = ls at hl ⊢
  replace hl : lv_has ls 1 [(0, .ref h0)] := hl
  obtain ⟨H, hH⟩ : ∃ z : Heap, z = s.heap := ⟨_, rfl⟩
  rw [← hH]
  replace hS : va_S A s.heap H [] := by rw [hH]; exact va_S.rf
  replace hP : va_P (dC, dI) vwCl [(h0, .inr (1, [.null, .null]))] H := by rw [hH]; exact hP
  clear hH
  refine lv_aload_n hx hb dX0_init_0 rfl (lv_at hl 0 rfl) ?_
  refine W.objInit hx hb hown (hts (.methodLink RX0 1 objectInit) (List.mem_of_getElem? (i := 1) rfl)) (hts (.instanceMethod objectInit) (List.mem_of_getElem? (i := 2) rfl)) (hts (.code objectInit ⟨#[0xb1]⟩ 1 none) (List.mem_of_getElem? (i := 3) rfl)) rfl (by rw [hml]; exact hl.1) rfl dX0_init_1 (Nat.le_of_ble_eq_true rfl) (Nat.le_of_ble_eq_true rfl) ?_
  refine W.eq (g2 := F0 m 4 ls []) rfl ?_
  refine lv_aload_n hx hb dX0_init_4 rfl (lv_at hl 0 rfl) ?_
  refine lv_sipush (v := 128) hx hb dX0_init_5 (by decide) ?_
  refine va_newa (atype := .long) (ty := .long) (N' := 128) (a0 := (128, .inr (.inl (fun _ => 0)))) hx hb (hts (.arrayClass .long) (List.mem_of_getElem? (i := 4) rfl)) rfl hK hP hD hS hA (fun _ => rfl) (by decide) (by decide) (Nat.le_of_ble_eq_true rfl) (Nat.le_of_ble_eq_true rfl) (Nat.le_of_ble_eq_true rfl) dX0_init_8 (fun q1 cA1 H hK hP hD hS => ?_)
  replace hK : va_K (dC, dI) vwCl [(cA1, .long)] s := hK
  replace hP : va_P (dC, dI) vwCl [(h0, .inr (1, [.null, .null])), (q1, .inl (cA1, 128, .inr (.inl (fun _ => 0))))] H := hP
  replace hD : va_D A [(h0, .inr (1, [.null, .null])), (q1, .inl (cA1, 128, .inr (.inl (fun _ => 0))))] := hD
  refine W.widen (k := 1) (n := 128) (Nat.le_of_ble_eq_true rfl) (Nat.le_of_ble_eq_true rfl) ?_
  refine va_putF (D := (dC, dI)) (ci := 1) (v := .ref q1) (ty := (.array .long)) (C := RX0) (T := TX0) (N := 2) hx hb hts in_c_X0_init_X0 tyX0 tyX0_ok nmX0 hown hK hP hD hS 0 rfl rfl 0 (by decide) (hts (.fieldLink RX0 9 "ClaimBus$Chunk" "entries" "[J") (List.mem_of_getElem? (i := 5) rfl)) (fun _ h9 => h9) rfl hin rfl (by decide +kernel) rfl rfl (Nat.le_of_ble_eq_true rfl) dX0_init_10 (fun H locs hP hD hS => ?_)
  replace hP : va_P (dC, dI) vwCl [(h0, .inr (1, [.ref q1, .null])), (q1, .inl (cA1, 128, .inr (.inl (fun _ => 0))))] H := hP
  replace hD : va_D A [(h0, .inr (1, [.ref q1, .null])), (q1, .inl (cA1, 128, .inr (.inl (fun _ => 0))))] := hD
  refine lv_aload_n hx hb dX0_init_13 rfl (lv_at hl 0 rfl) ?_
  refine lv_null hx hb dX0_init_14 ?_
  refine va_put (D := (dC, dI)) (ci := 1) (v := .null) (ty := (.object "ClaimBus$Chunk")) (C := RX0) (T := TX0) (N := 2) hx hb hts in_c_X0_init_X0 tyX0 tyX0_ok nmX0 hown hK hP hD hS 0 rfl rfl 1 (by decide) (hts (.fieldLink RX0 13 "ClaimBus$Chunk" "next" "LClaimBus$Chunk;") (List.mem_of_getElem? (i := 6) rfl)) (fun _ h9 => h9) rfl (by decide +kernel) rfl rfl (Nat.le_of_ble_eq_true rfl) dX0_init_15 (fun H locs hP hD hS => ?_)
  replace hP : va_P (dC, dI) vwCl [(h0, .inr (1, [.ref q1, .null])), (q1, .inl (cA1, 128, .inr (.inl (fun _ => 0))))] H := hP
  replace hD : va_D A [(h0, .inr (1, [.ref q1, .null])), (q1, .inl (cA1, 128, .inr (.inl (fun _ => 0))))] := hD
  have hP9 := hP.sub (ws' := [(h0, .inr (1, [.ref q1, .null])), (q1, .inl (cA1, 128, .inr (.inl (fun _ => 0))))]) [0, 1] rfl
  have hD9 := hD.sub (ws' := [(h0, .inr (1, [.ref q1, .null])), (q1, .inl (cA1, 128, .inr (.inl (fun _ => 0))))]) [0, 1] (by decide +kernel) rfl
  have hK9 := hK.sub (tys' := [(cA1, .long)]) [0] rfl
  exact W.vret hx hb hr (fun t ht hW => ⟨⟨(), rfl, trivial, ⟨q1, cA1, by rw [ht]; exact hP9, va_K.moved hW.alike hK9, hD9⟩⟩, hS.F ht⟩) hS.2.2 dX0_init_18

noncomputable def tl_c_lend_n : List Cond := wsX70
noncomputable def v_c_lend_n : List Cond := .code yX7_lend cX7_lend 2 (some (.object "ClaimBus$Chunk")) :: ([.fieldLink RX7 18 "ClaimBus$Store" "unused" "LClaimBus$Chunk;"] ++ tl_c_lend_n)
theorem it_c_lend_n : ∀ w ∈ tl_c_lend_n, w ∈ v_c_lend_n := fun w h => List.mem_cons_of_mem _ (List.mem_append_right _ h)
theorem in_c_lend_n_X7 : ∀ w ∈ wsX70, w ∈ v_c_lend_n := fun w h => it_c_lend_n w (h)
theorem gt_c_lend_n : ∀ w ∈ tl_c_lend_n, goodWord w = true := gw_wsX70
theorem gw_c_lend_n : ∀ w ∈ v_c_lend_n, goodWord w = true := List.forall_mem_cons.mpr ⟨by decide +kernel, List.forall_mem_append.mpr ⟨List.all_eq_true.mp (by decide +kernel), gt_c_lend_n⟩⟩
set_option maxHeartbeats 4000000 in
set_option maxRecDepth 100000 in
theorem c_lend_n (l : Launch) (dC : Nat → ClassId) (dI : Nat → Nat → Nat) (st : Nat) (ml : Nat) (sz : Nat)  : Met l yX7_lend v_c_lend_n ({ frames := 0, cells := 0, slots := 0, locals := 0 }) (va_Pc [.ref st] (fun U => U.heap.size = sz ∧ va_P (dC, dI) vwCl [(st, .inr (8, [.ref ml, .null]))] U.heap ∧ va_K (dC, dI) vwCl [] U ∧ va_D (fun _ => True) [(st, .inr (8, [.ref ml, .null]))] ∧ ev U)) (va_Qq (fun (r : Option Nat) (_ : Unit) => r = none) (fun (_ : Unit) (_ : State) => True) (va_A [] sz)) 0 0 (va_A [] sz) := by
  refine Met.ofW (cc := cX7_lend) (maxL := 2) (ret := (some (.object "ClaimBus$Chunk"))) (by decide) rfl ?_
  intro p e s m args below meth c s₁ B hml hv
  obtain ⟨rfl, hsz, hP, hK, hD0, hE⟩ := hv
  have hx := B.exec
  have hb := B.bytes
  have hr := B.returns
  have hts := atoms_spec (ws := v_c_lend_n) B.pre
  have hown : s.vm.findClass RX7 = some m.cls := findClass_of_methodNamed B.named
  have hlocks := B.notSynchronized
  subst hsz
  have hD := hD0
  generalize hAe : va_A [] s.heap.size = A
  have hA : ∀ q : Nat, s.heap.size ≤ q → A q := fun q h => by rw [← hAe]; exact Or.inr h
  have hS : va_S A s.heap s.heap [] := va_S.rf
  replace hP : va_P (dC, dI) vwCl [(st, .inr (8, [.ref ml, .null]))] s.heap := hP
  have hl := lv_entry ([.ref st]) (n := 2) (Nat.le_of_ble_eq_true rfl)
  rw [lg_entry_eq]
  generalize (lg_sl ([.ref st]) ++ List.replicate (2 - (lg_sl ([.ref st])).length) Slot.unset).toArray = ls at hl ⊢
  replace hl : lv_has ls 2 [(0, .ref st)] := hl
  obtain ⟨H, hH⟩ : ∃ z : Heap, z = s.heap := ⟨_, rfl⟩
  rw [← hH]
  replace hS : va_S A s.heap H [] := by rw [hH]; exact va_S.rf
  replace hP : va_P (dC, dI) vwCl [(st, .inr (8, [.ref ml, .null]))] H := by rw [hH]; exact hP
  clear hH
  refine lv_aload_n hx hb dX7_lend_0 rfl (lv_at hl 0 rfl) ?_
  refine va_get (D := (dC, dI)) (ci := 8) (v := .null) (C := RX7) (T := TX7) (N := 2) hx hb hts in_c_lend_n_X7 hown hK hP 0 rfl rfl 1 (by decide) (hts (.fieldLink RX7 18 "ClaimBus$Store" "unused" "LClaimBus$Chunk;") (List.mem_of_getElem? (i := 1) rfl)) (fun _ h9 => h9) rfl dX7_lend_1 ?_
  refine lv_astore_nN (lv' := [(1, .null), (0, .ref st)]) hx hb dX7_lend_4 rfl hl (by decide) rfl (fun ls hl => ?_)
  refine lv_aload_nN hx hb dX7_lend_5 rfl (lv_at hl 0 rfl) ?_
  refine lv_ifnullN (tgt := 22) hx hb dX7_lend_6 (by decide) ?_
  refine lv_aload_nN hx hb dX7_lend_22 rfl (lv_at hl 0 rfl) ?_
  exact W.aret (v := .null) hx hb hr (Or.inl ⟨_, rfl⟩) (Or.inl rfl) (fun t ht hW => ⟨⟨none, (), rfl, rfl, trivial⟩, hS.F ht⟩) hS.2.2 dX7_lend_23

noncomputable def tl_c_lend_c : List Cond := wsX70 ++ (wsX00)
noncomputable def v_c_lend_c : List Cond := .code yX7_lend cX7_lend 2 (some (.object "ClaimBus$Chunk")) :: ([.fieldLink RX7 18 "ClaimBus$Store" "unused" "LClaimBus$Chunk;", .fieldLink RX7 48 "ClaimBus$Chunk" "next" "LClaimBus$Chunk;"] ++ tl_c_lend_c)
theorem it_c_lend_c : ∀ w ∈ tl_c_lend_c, w ∈ v_c_lend_c := fun w h => List.mem_cons_of_mem _ (List.mem_append_right _ h)
theorem in_c_lend_c_X7 : ∀ w ∈ wsX70, w ∈ v_c_lend_c := fun w h => it_c_lend_c w (List.mem_append_left _ h)
theorem in_c_lend_c_X0 : ∀ w ∈ wsX00, w ∈ v_c_lend_c := fun w h => it_c_lend_c w (List.mem_append_right _ (h))
theorem gt_c_lend_c : ∀ w ∈ tl_c_lend_c, goodWord w = true := List.forall_mem_append.mpr ⟨gw_wsX70, gw_wsX00⟩
theorem gw_c_lend_c : ∀ w ∈ v_c_lend_c, goodWord w = true := List.forall_mem_cons.mpr ⟨by decide +kernel, List.forall_mem_append.mpr ⟨List.all_eq_true.mp (by decide +kernel), gt_c_lend_c⟩⟩
set_option maxHeartbeats 4000000 in
set_option maxRecDepth 100000 in
theorem c_lend_c (l : Launch) (dC : Nat → ClassId) (dI : Nat → Nat → Nat) (st : Nat) (ml : Nat) (ck : Nat) (ce : Nat) (sz : Nat)  : Met l yX7_lend v_c_lend_c ({ frames := 0, cells := 0, slots := 0, locals := 0 }) (va_Pc [.ref st] (fun U => U.heap.size = sz ∧ va_P (dC, dI) vwCl [(st, .inr (8, [.ref ml, .ref ck])), (ck, .inr (1, [.ref ce, .null]))] U.heap ∧ va_K (dC, dI) vwCl [] U ∧ va_D (fun _ => True) [(st, .inr (8, [.ref ml, .ref ck])), (ck, .inr (1, [.ref ce, .null]))] ∧ ev U)) (va_Qq (fun (r : Option Nat) (_ : Unit) => r = some ck) (fun (_ : Unit) (t : State) => va_P (dC, dI) vwCl [(st, .inr (8, [.ref ml, .null])), (ck, .inr (1, [.ref ce, .null]))] t.heap ∧ va_K (dC, dI) vwCl [] t ∧ va_D (va_A [(st, .inr (8, [.ref ml, .ref ck])), (ck, .inr (1, [.ref ce, .null]))] sz) [(st, .inr (8, [.ref ml, .null])), (ck, .inr (1, [.ref ce, .null]))]) (va_A [(st, .inr (8, [.ref ml, .ref ck])), (ck, .inr (1, [.ref ce, .null]))] sz)) 0 0 (va_A [(st, .inr (8, [.ref ml, .ref ck])), (ck, .inr (1, [.ref ce, .null]))] sz) := by
  refine Met.ofW (cc := cX7_lend) (maxL := 2) (ret := (some (.object "ClaimBus$Chunk"))) (by decide) rfl ?_
  intro p e s m args below meth c s₁ B hml hv
  obtain ⟨rfl, hsz, hP, hK, hD0, hE⟩ := hv
  have hx := B.exec
  have hb := B.bytes
  have hr := B.returns
  have hts := atoms_spec (ws := v_c_lend_c) B.pre
  have hown : s.vm.findClass RX7 = some m.cls := findClass_of_methodNamed B.named
  have hlocks := B.notSynchronized
  subst hsz
  have hD := hD0.self (sz := s.heap.size)
  generalize hAe : va_A [(st, .inr (8, [.ref ml, .ref ck])), (ck, .inr (1, [.ref ce, .null]))] s.heap.size = A at hD ⊢
  have hA : ∀ q : Nat, s.heap.size ≤ q → A q := fun q h => by rw [← hAe]; exact Or.inr h
  have hS : va_S A s.heap s.heap [] := va_S.rf
  replace hP : va_P (dC, dI) vwCl [(st, .inr (8, [.ref ml, .ref ck])), (ck, .inr (1, [.ref ce, .null]))] s.heap := hP
  have hl := lv_entry ([.ref st]) (n := 2) (Nat.le_of_ble_eq_true rfl)
  rw [lg_entry_eq]
  generalize (lg_sl ([.ref st]) ++ List.replicate (2 - (lg_sl ([.ref st])).length) Slot.unset).toArray = ls at hl ⊢
  replace hl : lv_has ls 2 [(0, .ref st)] := hl
  obtain ⟨H, hH⟩ : ∃ z : Heap, z = s.heap := ⟨_, rfl⟩
  rw [← hH]
  replace hS : va_S A s.heap H [] := by rw [hH]; exact va_S.rf
  replace hP : va_P (dC, dI) vwCl [(st, .inr (8, [.ref ml, .ref ck])), (ck, .inr (1, [.ref ce, .null]))] H := by rw [hH]; exact hP
  clear hH
  refine lv_aload_n hx hb dX7_lend_0 rfl (lv_at hl 0 rfl) ?_
  refine va_get (D := (dC, dI)) (ci := 8) (v := .ref ck) (C := RX7) (T := TX7) (N := 2) hx hb hts in_c_lend_c_X7 hown hK hP 0 rfl rfl 1 (by decide) (hts (.fieldLink RX7 18 "ClaimBus$Store" "unused" "LClaimBus$Chunk;") (List.mem_of_getElem? (i := 1) rfl)) (fun _ h9 => h9) rfl dX7_lend_1 ?_
  refine lv_astore_n (lv' := [(1, .ref ck), (0, .ref st)]) hx hb dX7_lend_4 rfl hl (by decide) rfl (fun ls hl => ?_)
  refine lv_aload_n hx hb dX7_lend_5 rfl (lv_at hl 0 rfl) ?_
  refine lv_ifnull hx hb dX7_lend_6 ?_
  refine lv_aload_n hx hb dX7_lend_9 rfl (lv_at hl 1 rfl) ?_
  refine lv_aload_n hx hb dX7_lend_10 rfl (lv_at hl 0 rfl) ?_
  refine va_get (D := (dC, dI)) (ci := 1) (v := .null) (C := RX0) (T := TX0) (N := 2) hx hb hts in_c_lend_c_X0 hown hK hP 1 rfl rfl 1 (by decide) (hts (.fieldLink RX7 48 "ClaimBus$Chunk" "next" "LClaimBus$Chunk;") (List.mem_of_getElem? (i := 2) rfl)) (fun _ h9 => h9) rfl dX7_lend_11 ?_
  refine va_put (D := (dC, dI)) (ci := 8) (v := .null) (ty := (.object "ClaimBus$Chunk")) (C := RX7) (T := TX7) (N := 2) hx hb hts in_c_lend_c_X7 tyX7 tyX7_ok nmX7 hown hK hP hD hS 0 rfl rfl 1 (by decide) (hts (.fieldLink RX7 18 "ClaimBus$Store" "unused" "LClaimBus$Chunk;") (List.mem_of_getElem? (i := 1) rfl)) (fun _ h9 => h9) rfl (by decide +kernel) rfl rfl (Nat.le_of_ble_eq_true rfl) dX7_lend_14 (fun H locs hP hD hS => ?_)
  replace hP : va_P (dC, dI) vwCl [(st, .inr (8, [.ref ml, .null])), (ck, .inr (1, [.ref ce, .null]))] H := hP
  replace hD : va_D A [(st, .inr (8, [.ref ml, .null])), (ck, .inr (1, [.ref ce, .null]))] := hD
  refine lv_aload_n hx hb dX7_lend_17 rfl (lv_at hl 0 rfl) ?_
  refine lv_null hx hb dX7_lend_18 ?_
  refine va_put (D := (dC, dI)) (ci := 1) (v := .null) (ty := (.object "ClaimBus$Chunk")) (C := RX0) (T := TX0) (N := 2) hx hb hts in_c_lend_c_X0 tyX0 tyX0_ok nmX0 hown hK hP hD hS 1 rfl rfl 1 (by decide) (hts (.fieldLink RX7 48 "ClaimBus$Chunk" "next" "LClaimBus$Chunk;") (List.mem_of_getElem? (i := 2) rfl)) (fun _ h9 => h9) rfl (by decide +kernel) rfl rfl (Nat.le_of_ble_eq_true rfl) dX7_lend_19 (fun H locs hP hD hS => ?_)
  replace hP : va_P (dC, dI) vwCl [(st, .inr (8, [.ref ml, .null])), (ck, .inr (1, [.ref ce, .null]))] H := hP
  replace hD : va_D A [(st, .inr (8, [.ref ml, .null])), (ck, .inr (1, [.ref ce, .null]))] := hD
  refine lv_aload_n hx hb dX7_lend_22 rfl (lv_at hl 0 rfl) ?_
  have hP9 := hP.sub (ws' := [(st, .inr (8, [.ref ml, .null])), (ck, .inr (1, [.ref ce, .null]))]) [0, 1] rfl
  have hD9 := hD.sub (ws' := [(st, .inr (8, [.ref ml, .null])), (ck, .inr (1, [.ref ce, .null]))]) [0, 1] (by decide +kernel) rfl
  have hK9 := hK.sub (tys' := []) [] rfl
  exact W.aret (v := .ref ck) hx hb hr (Or.inl ⟨_, rfl⟩) (Or.inr ⟨_, rfl⟩) (fun t ht hW => ⟨⟨some ck, (), rfl, rfl, ⟨by rw [ht]; exact hP9, va_K.moved hW.alike hK9, hD9⟩⟩, hS.F ht⟩) hS.2.2 dX7_lend_23

noncomputable def tl_c_takeBack : List Cond := wsX70 ++ (wsX00)
noncomputable def v_c_takeBack : List Cond := .code yX7_takeBack cX7_takeBack 3 none :: ([.fieldLink RX7 18 "ClaimBus$Store" "unused" "LClaimBus$Chunk;", .fieldLink RX7 48 "ClaimBus$Chunk" "next" "LClaimBus$Chunk;"] ++ tl_c_takeBack)
theorem it_c_takeBack : ∀ w ∈ tl_c_takeBack, w ∈ v_c_takeBack := fun w h => List.mem_cons_of_mem _ (List.mem_append_right _ h)
theorem in_c_takeBack_X7 : ∀ w ∈ wsX70, w ∈ v_c_takeBack := fun w h => it_c_takeBack w (List.mem_append_left _ h)
theorem in_c_takeBack_X0 : ∀ w ∈ wsX00, w ∈ v_c_takeBack := fun w h => it_c_takeBack w (List.mem_append_right _ (h))
theorem gt_c_takeBack : ∀ w ∈ tl_c_takeBack, goodWord w = true := List.forall_mem_append.mpr ⟨gw_wsX70, gw_wsX00⟩
theorem gw_c_takeBack : ∀ w ∈ v_c_takeBack, goodWord w = true := List.forall_mem_cons.mpr ⟨by decide +kernel, List.forall_mem_append.mpr ⟨List.all_eq_true.mp (by decide +kernel), gt_c_takeBack⟩⟩
set_option maxHeartbeats 4000000 in
set_option maxRecDepth 100000 in
theorem c_takeBack (l : Launch) (dC : Nat → ClassId) (dI : Nat → Nat → Nat) (st : Nat) (ml : Nat) (ck : Nat) (ce : Nat) (sz : Nat)  : Met l yX7_takeBack v_c_takeBack ({ frames := 0, cells := 0, slots := 0, locals := 0 }) (va_Pc [.ref st, .ref ck, .ref ck] (fun U => U.heap.size = sz ∧ va_P (dC, dI) vwCl [(st, .inr (8, [.ref ml, .null])), (ck, .inr (1, [.ref ce, .null]))] U.heap ∧ va_K (dC, dI) vwCl [] U ∧ va_D (fun _ => True) [(st, .inr (8, [.ref ml, .null])), (ck, .inr (1, [.ref ce, .null]))] ∧ ev U)) (va_Qv (fun _ : Unit => True) (fun (_ : Unit) (t : State) => va_P (dC, dI) vwCl [(st, .inr (8, [.ref ml, .ref ck])), (ck, .inr (1, [.ref ce, .null]))] t.heap ∧ va_K (dC, dI) vwCl [] t ∧ va_D (va_A [(st, .inr (8, [.ref ml, .null])), (ck, .inr (1, [.ref ce, .null]))] sz) [(st, .inr (8, [.ref ml, .ref ck])), (ck, .inr (1, [.ref ce, .null]))]) (va_A [(st, .inr (8, [.ref ml, .null])), (ck, .inr (1, [.ref ce, .null]))] sz)) 0 0 (va_A [(st, .inr (8, [.ref ml, .null])), (ck, .inr (1, [.ref ce, .null]))] sz) := by
  refine Met.ofW (cc := cX7_takeBack) (maxL := 3) (ret := none) (by decide) rfl ?_
  intro p e s m args below meth c s₁ B hml hv
  obtain ⟨rfl, hsz, hP, hK, hD0, hE⟩ := hv
  have hx := B.exec
  have hb := B.bytes
  have hr := B.returns
  have hts := atoms_spec (ws := v_c_takeBack) B.pre
  have hown : s.vm.findClass RX7 = some m.cls := findClass_of_methodNamed B.named
  have hlocks := B.notSynchronized
  subst hsz
  have hD := hD0.self (sz := s.heap.size)
  generalize hAe : va_A [(st, .inr (8, [.ref ml, .null])), (ck, .inr (1, [.ref ce, .null]))] s.heap.size = A at hD ⊢
  have hA : ∀ q : Nat, s.heap.size ≤ q → A q := fun q h => by rw [← hAe]; exact Or.inr h
  have hS : va_S A s.heap s.heap [] := va_S.rf
  replace hP : va_P (dC, dI) vwCl [(st, .inr (8, [.ref ml, .null])), (ck, .inr (1, [.ref ce, .null]))] s.heap := hP
  have hl := lv_entry ([.ref st, .ref ck, .ref ck]) (n := 3) (Nat.le_of_ble_eq_true rfl)
  rw [lg_entry_eq]
  generalize (lg_sl ([.ref st, .ref ck, .ref ck]) ++ List.replicate (3 - (lg_sl ([.ref st, .ref ck, .ref ck])).length) Slot.unset).toArray = ls at hl ⊢
  replace hl : lv_has ls 3 [(0, .ref st), (1, .ref ck), (2, .ref ck)] := hl
  obtain ⟨H, hH⟩ : ∃ z : Heap, z = s.heap := ⟨_, rfl⟩
  rw [← hH]
  replace hS : va_S A s.heap H [] := by rw [hH]; exact va_S.rf
  replace hP : va_P (dC, dI) vwCl [(st, .inr (8, [.ref ml, .null])), (ck, .inr (1, [.ref ce, .null]))] H := by rw [hH]; exact hP
  clear hH
  refine lv_aload_n hx hb dX7_takeBack_0 rfl (lv_at hl 2 rfl) ?_
  refine lv_aload_n hx hb dX7_takeBack_1 rfl (lv_at hl 0 rfl) ?_
  refine va_get (D := (dC, dI)) (ci := 8) (v := .null) (C := RX7) (T := TX7) (N := 2) hx hb hts in_c_takeBack_X7 hown hK hP 0 rfl rfl 1 (by decide) (hts (.fieldLink RX7 18 "ClaimBus$Store" "unused" "LClaimBus$Chunk;") (List.mem_of_getElem? (i := 1) rfl)) (fun _ h9 => h9) rfl dX7_takeBack_2 ?_
  refine va_put (D := (dC, dI)) (ci := 1) (v := .null) (ty := (.object "ClaimBus$Chunk")) (C := RX0) (T := TX0) (N := 2) hx hb hts in_c_takeBack_X0 tyX0 tyX0_ok nmX0 hown hK hP hD hS 1 rfl rfl 1 (by decide) (hts (.fieldLink RX7 48 "ClaimBus$Chunk" "next" "LClaimBus$Chunk;") (List.mem_of_getElem? (i := 2) rfl)) (fun _ h9 => h9) rfl (by decide +kernel) rfl rfl (Nat.le_of_ble_eq_true rfl) dX7_takeBack_5 (fun H locs hP hD hS => ?_)
  replace hP : va_P (dC, dI) vwCl [(st, .inr (8, [.ref ml, .null])), (ck, .inr (1, [.ref ce, .null]))] H := hP
  replace hD : va_D A [(st, .inr (8, [.ref ml, .null])), (ck, .inr (1, [.ref ce, .null]))] := hD
  refine lv_aload_n hx hb dX7_takeBack_8 rfl (lv_at hl 0 rfl) ?_
  refine lv_aload_n hx hb dX7_takeBack_9 rfl (lv_at hl 1 rfl) ?_
  refine va_put (D := (dC, dI)) (ci := 8) (v := .ref ck) (ty := (.object "ClaimBus$Chunk")) (C := RX7) (T := TX7) (N := 2) hx hb hts in_c_takeBack_X7 tyX7 tyX7_ok nmX7 hown hK hP hD hS 0 rfl rfl 1 (by decide) (hts (.fieldLink RX7 18 "ClaimBus$Store" "unused" "LClaimBus$Chunk;") (List.mem_of_getElem? (i := 1) rfl)) (fun _ h9 => h9) rfl (by decide +kernel) rfl rfl (Nat.le_of_ble_eq_true rfl) dX7_takeBack_10 (fun H locs hP hD hS => ?_)
  replace hP : va_P (dC, dI) vwCl [(st, .inr (8, [.ref ml, .ref ck])), (ck, .inr (1, [.ref ce, .null]))] H := hP
  replace hD : va_D A [(st, .inr (8, [.ref ml, .ref ck])), (ck, .inr (1, [.ref ce, .null]))] := hD
  have hP9 := hP.sub (ws' := [(st, .inr (8, [.ref ml, .ref ck])), (ck, .inr (1, [.ref ce, .null]))]) [0, 1] rfl
  have hD9 := hD.sub (ws' := [(st, .inr (8, [.ref ml, .ref ck])), (ck, .inr (1, [.ref ce, .null]))]) [0, 1] (by decide +kernel) rfl
  have hK9 := hK.sub (tys' := []) [] rfl
  exact W.vret hx hb hr (fun t ht hW => ⟨⟨(), rfl, trivial, ⟨by rw [ht]; exact hP9, va_K.moved hW.alike hK9, hD9⟩⟩, hS.F ht⟩) hS.2.2 dX7_takeBack_13

noncomputable def v_c_AC_init : List Cond := .code yJxa1e45_init_da8c8 cJxa1e45_init_da8c8 1 none :: ([.methodLink RJxa1e45 1 objectInit, .instanceMethod objectInit, .code objectInit ⟨#[0xb1]⟩ 1 none])
theorem gw_c_AC_init : ∀ w ∈ v_c_AC_init, goodWord w = true := List.forall_mem_cons.mpr ⟨by decide +kernel, List.all_eq_true.mp (by decide +kernel)⟩
set_option maxHeartbeats 4000000 in
set_option maxRecDepth 100000 in
/-- AbstractCollection() -/
theorem c_AC_init (l : Launch) (dC : Nat → ClassId) (dI : Nat → Nat → Nat) (h0 : Nat) (sz : Nat)  : Met l yJxa1e45_init_da8c8 v_c_AC_init ({ frames := 1, cells := 0, slots := 0, locals := 13 }) (va_Pc [.ref h0] (fun U => U.heap.size = sz ∧ va_P (dC, dI) vwCl [] U.heap ∧ va_K (dC, dI) vwCl [] U ∧ va_D (fun _ => True) [] ∧ ev U)) (va_Qv (fun _ : Unit => True) (fun (_ : Unit) (_ : State) => True) (va_A [] sz)) 0 0 (va_A [] sz) := by
  refine va_MetF (cc := cJxa1e45_init_da8c8) (maxL := 1) (ret := none) (by decide) rfl ?_
  intro p e s m args below meth c s₁ B hml hv
  obtain ⟨rfl, hsz, hP, hK, hD0, hE⟩ := hv
  have hx := B.exec
  have hb := B.bytes
  have hr := B.returns
  have hts := atoms_spec (ws := v_c_AC_init) B.pre
  have hown : s.vm.findClass RJxa1e45 = some m.cls := findClass_of_methodNamed B.named
  have hlocks := B.notSynchronized
  have hin : meth.name = "<init>" := (name_of_methodNamed B.named B.method).1
  subst hsz
  have hD := hD0
  generalize hAe : va_A [] s.heap.size = A
  have hA : ∀ q : Nat, s.heap.size ≤ q → A q := fun q h => by rw [← hAe]; exact Or.inr h
  have hS : va_S A s.heap s.heap [] := va_S.rf
  replace hP : va_P (dC, dI) vwCl [] s.heap := hP
  have hl := lv_entry ([.ref h0]) (n := 1) (Nat.le_of_ble_eq_true rfl)
  rw [lg_entry_eq]
  generalize (lg_sl ([.ref h0]) ++ List.replicate (1 - (lg_sl ([.ref h0])).length) Slot.unset).toArray = ls at hl ⊢
  replace hl : lv_has ls 1 [(0, .ref h0)] := hl
  obtain ⟨H, hH⟩ : ∃ z : Heap, z = s.heap := ⟨_, rfl⟩
  rw [← hH]
  replace hS : va_S A s.heap H [] := by rw [hH]; exact va_S.rf
  replace hP : va_P (dC, dI) vwCl [] H := by rw [hH]; exact hP
  clear hH
  refine lv_aload_n hx hb dJxa1e45_init_da8c8_0 rfl (lv_at hl 0 rfl) ?_
  refine W.objInit hx hb hown (hts (.methodLink RJxa1e45 1 objectInit) (List.mem_of_getElem? (i := 1) rfl)) (hts (.instanceMethod objectInit) (List.mem_of_getElem? (i := 2) rfl)) (hts (.code objectInit ⟨#[0xb1]⟩ 1 none) (List.mem_of_getElem? (i := 3) rfl)) rfl (by rw [hml]; exact hl.1) rfl dJxa1e45_init_da8c8_1 (Nat.le_of_ble_eq_true rfl) (Nat.le_of_ble_eq_true rfl) ?_
  refine W.eq (g2 := F0 m 4 ls []) rfl ?_
  exact W.vret hx hb hr (fun t ht hW => ⟨⟨(), rfl, trivial, trivial⟩, hS.F ht⟩) hS.2.2 dJxa1e45_init_da8c8_4

noncomputable def tl_c_ALs_init : List Cond := wsJx4a65c0 ++ (v_c_AC_init)
noncomputable def v_c_ALs_init : List Cond := .code yJxc12de_init_da8c8 cJxc12de_init_da8c8 1 none :: ([.initialized RJxa1e45, .methodLink RJxc12de 1 yJxa1e45_init_da8c8, .instanceMethod yJxa1e45_init_da8c8, .fieldLink RJxc12de 7 "java/util/AbstractList" "modCount" "I"] ++ tl_c_ALs_init)
theorem it_c_ALs_init : ∀ w ∈ tl_c_ALs_init, w ∈ v_c_ALs_init := fun w h => List.mem_cons_of_mem _ (List.mem_append_right _ h)
theorem in_c_ALs_init_Jx4a65c : ∀ w ∈ wsJx4a65c0, w ∈ v_c_ALs_init := fun w h => it_c_ALs_init w (List.mem_append_left _ h)
theorem ic_c_ALs_init_c_AC_init : ∀ w ∈ v_c_AC_init, w ∈ v_c_ALs_init := fun w h => it_c_ALs_init w (List.mem_append_right _ (h))
theorem gt_c_ALs_init : ∀ w ∈ tl_c_ALs_init, goodWord w = true := List.forall_mem_append.mpr ⟨gw_wsJx4a65c0, gw_c_AC_init⟩
theorem gw_c_ALs_init : ∀ w ∈ v_c_ALs_init, goodWord w = true := List.forall_mem_cons.mpr ⟨by decide +kernel, List.forall_mem_append.mpr ⟨List.all_eq_true.mp (by decide +kernel), gt_c_ALs_init⟩⟩
theorem g_c_ALs_init_c_AC_init_1 : GoodIn v_c_ALs_init v_c_AC_init := fun w h => ⟨ic_c_ALs_init_c_AC_init w h, good_of_word (gw_c_AC_init w h)⟩
set_option maxHeartbeats 4000000 in
set_option maxRecDepth 100000 in
/-- AbstractList() -/
theorem c_ALs_init (l : Launch) (dC : Nat → ClassId) (dI : Nat → Nat → Nat) (h0 : Nat) (sz : Nat)  : Met l yJxc12de_init_da8c8 v_c_ALs_init ({ frames := 2, cells := 0, slots := 0, locals := 33 }) (va_Pc [.ref h0] (fun U => U.heap.size = sz ∧ va_P (dC, dI) vwCl [(h0, .inr (0, [.int 0, .null, .int 0]))] U.heap ∧ va_K (dC, dI) vwCl [] U ∧ va_D (fun _ => True) [(h0, .inr (0, [.int 0, .null, .int 0]))] ∧ ev U)) (va_Qv (fun _ : Unit => True) (fun (_ : Unit) (t : State) => va_P (dC, dI) vwCl [(h0, .inr (0, [.int 0, .null, .int 0]))] t.heap ∧ va_K (dC, dI) vwCl [] t ∧ va_D (va_A [(h0, .inr (0, [.int 0, .null, .int 0]))] sz) [(h0, .inr (0, [.int 0, .null, .int 0]))]) (va_A [(h0, .inr (0, [.int 0, .null, .int 0]))] sz)) 0 0 (va_A [(h0, .inr (0, [.int 0, .null, .int 0]))] sz) := by
  refine va_MetF (cc := cJxc12de_init_da8c8) (maxL := 1) (ret := none) (by decide) rfl ?_
  intro p e s m args below meth c s₁ B hml hv
  obtain ⟨rfl, hsz, hP, hK, hD0, hE⟩ := hv
  have hx := B.exec
  have hb := B.bytes
  have hr := B.returns
  have hts := atoms_spec (ws := v_c_ALs_init) B.pre
  have hown : s.vm.findClass RJxc12de = some m.cls := findClass_of_methodNamed B.named
  have hlocks := B.notSynchronized
  have hin : meth.name = "<init>" := (name_of_methodNamed B.named B.method).1
  subst hsz
  have hD := hD0.self (sz := s.heap.size)
  generalize hAe : va_A [(h0, .inr (0, [.int 0, .null, .int 0]))] s.heap.size = A at hD ⊢
  have hA : ∀ q : Nat, s.heap.size ≤ q → A q := fun q h => by rw [← hAe]; exact Or.inr h
  have hS : va_S A s.heap s.heap [] := va_S.rf
  replace hP : va_P (dC, dI) vwCl [(h0, .inr (0, [.int 0, .null, .int 0]))] s.heap := hP
  have hl := lv_entry ([.ref h0]) (n := 1) (Nat.le_of_ble_eq_true rfl)
  rw [lg_entry_eq]
  generalize (lg_sl ([.ref h0]) ++ List.replicate (1 - (lg_sl ([.ref h0])).length) Slot.unset).toArray = ls at hl ⊢
  replace hl : lv_has ls 1 [(0, .ref h0)] := hl
  obtain ⟨H, hH⟩ : ∃ z : Heap, z = s.heap := ⟨_, rfl⟩
  rw [← hH]
  replace hS : va_S A s.heap H [] := by rw [hH]; exact va_S.rf
  replace hP : va_P (dC, dI) vwCl [(h0, .inr (0, [.int 0, .null, .int 0]))] H := by rw [hH]; exact hP
  clear hH
  refine lv_aload_n hx hb dJxc12de_init_da8c8_0 rfl (lv_at hl 0 rfl) ?_
  have hPc := hP.sub (ws' := []) [] rfl
  have hDc := hD.sub (ws' := []) [] (by decide +kernel) rfl
  have hKc := hK.sub (tys' := []) [] rfl
  have hFc := ro_free hS hA
  refine va_callv (va_runI (As := []) (rest := []) ⟨hx, hb, hml, hown, hts⟩ (c_AC_init l dC dI (h0) H.size) (cwI 0 hts g_c_ALs_init_c_AC_init_1 rfl rfl rfl (hts (.initialized RJxa1e45) (List.mem_of_getElem? (i := 1) rfl)) (hts (.methodLink RJxc12de 1 yJxa1e45_init_da8c8) (List.mem_of_getElem? (i := 2) rfl)) (hts (.instanceMethod yJxa1e45_init_da8c8) (List.mem_of_getElem? (i := 3) rfl)) rfl (by decide +kernel) ⟨Nat.le_of_ble_eq_true rfl, Nat.le_of_ble_eq_true rfl⟩) ⟨fun a U g mk q => by obtain ⟨q0, q1, qP, qK, qD, qE⟩ := q; exact ⟨q0, q1, qP, va_K.moved (u := U) (U := U.calling g mk a) (Vm.Alike.refl U.vm) qK, qD, ev.same (u := U) (U := U.calling g mk a) rfl qE⟩, fun U hU hW => ⟨rfl, by rw [hU], by rw [hU]; exact hPc, va_K.moved hW.alike hKc, hDc.weaken (fun _ _ _ _ => trivial), hE.warm hW⟩⟩ rfl rfl hl.1 rfl (lv_room (Nat.le_of_ble_eq_true rfl)) dJxc12de_init_da8c8_1 ⟨Nat.le_of_ble_eq_true rfl, Nat.le_of_ble_eq_true rfl⟩) hS (fun q _ h => hFc q h) hFc (fun u t H1 locs ht hvm hw hB hz1 hk1 hS => ?_)
  clear hPc hDc hKc
  replace hP := ro_keep hP hk1
  generalize H1 = H at hP hS ⊢
  replace hP : va_P (dC, dI) vwCl [(h0, .inr (0, [.int 0, .null, .int 0]))] H := hP
  clear hw
  refine lv_aload_n hx hb dJxc12de_init_da8c8_4 rfl (lv_at hl 0 rfl) ?_
  refine lv_iconst (v := 0) hx hb dJxc12de_init_da8c8_5 (by decide) ?_
  refine va_put (D := (dC, dI)) (ci := 0) (v := .int 0) (ty := .int) (C := RJx4a65c) (T := TJx4a65c) (N := 3) hx hb hts in_c_ALs_init_Jx4a65c tyJx4a65c tyJx4a65c_ok nmJx4a65c hown hK hP hD hS 0 rfl rfl 0 (by decide) (hts (.fieldLink RJxc12de 7 "java/util/AbstractList" "modCount" "I") (List.mem_of_getElem? (i := 4) rfl)) (fun _ h9 => h9) rfl (by decide +kernel) rfl rfl (Nat.le_of_ble_eq_true rfl) dJxc12de_init_da8c8_6 (fun H locs hP hD hS => ?_)
  replace hP : va_P (dC, dI) vwCl [(h0, .inr (0, [.int 0, .null, .int 0]))] H := hP
  replace hD : va_D A [(h0, .inr (0, [.int 0, .null, .int 0]))] := hD
  have hP9 := hP.sub (ws' := [(h0, .inr (0, [.int 0, .null, .int 0]))]) [0] rfl
  have hD9 := hD.sub (ws' := [(h0, .inr (0, [.int 0, .null, .int 0]))]) [0] (by decide +kernel) rfl
  have hK9 := hK.sub (tys' := []) [] rfl
  exact W.vret hx hb hr (fun t ht hW => ⟨⟨(), rfl, trivial, ⟨by rw [ht]; exact hP9, va_K.moved hW.alike hK9, hD9⟩⟩, hS.F ht⟩) hS.2.2 dJxc12de_init_da8c8_9

noncomputable def tl_c_AL_init : List Cond := wsJx4a65c0 ++ (v_c_ALs_init)
noncomputable def v_c_AL_init : List Cond := .code yJx4a65c_init_da8c8 cJx4a65c_init_da8c8 1 none :: ([.initialized RJxc12de, .methodLink RJx4a65c 1 yJxc12de_init_da8c8, .instanceMethod yJxc12de_init_da8c8, .fieldLink RJx4a65c 39 "java/util/ArrayList" "DEFAULTCAPACITY_EMPTY_ELEMENTDATA" "[Ljava/lang/Object;", .fieldLink RJx4a65c 9 "java/util/ArrayList" "elementData" "[Ljava/lang/Object;"] ++ tl_c_AL_init)
theorem it_c_AL_init : ∀ w ∈ tl_c_AL_init, w ∈ v_c_AL_init := fun w h => List.mem_cons_of_mem _ (List.mem_append_right _ h)
theorem in_c_AL_init_Jx4a65c : ∀ w ∈ wsJx4a65c0, w ∈ v_c_AL_init := fun w h => it_c_AL_init w (List.mem_append_left _ h)
theorem ic_c_AL_init_c_ALs_init : ∀ w ∈ v_c_ALs_init, w ∈ v_c_AL_init := fun w h => it_c_AL_init w (List.mem_append_right _ (h))
theorem gt_c_AL_init : ∀ w ∈ tl_c_AL_init, goodWord w = true := List.forall_mem_append.mpr ⟨gw_wsJx4a65c0, gw_c_ALs_init⟩
theorem gw_c_AL_init : ∀ w ∈ v_c_AL_init, goodWord w = true := List.forall_mem_cons.mpr ⟨by decide +kernel, List.forall_mem_append.mpr ⟨List.all_eq_true.mp (by decide +kernel), gt_c_AL_init⟩⟩
theorem g_c_AL_init_c_ALs_init_1 : GoodIn v_c_AL_init v_c_ALs_init := fun w h => ⟨ic_c_AL_init_c_ALs_init w h, good_of_word (gw_c_ALs_init w h)⟩
set_option maxHeartbeats 4000000 in
set_option maxRecDepth 100000 in
/-- ArrayList() -/
theorem c_AL_init (l : Launch) (dC : Nat → ClassId) (dI : Nat → Nat → Nat) (zt : Nat) (h0 : Nat) (sz : Nat)  : Met l yJx4a65c_init_da8c8 v_c_AL_init ({ frames := 3, cells := 0, slots := 0, locals := 53 }) (va_Pc [.ref h0] (fun U => U.heap.size = sz ∧ va_P (dC, dI) vwCl [(h0, .inr (0, [.int 0, .null, .int 0]))] U.heap ∧ va_K (dC, dI) vwCl [] U ∧ va_D (fun _ => True) [(h0, .inr (0, [.int 0, .null, .int 0]))] ∧ ev U ∧ va_Z "java/util/ArrayList" "DEFAULTCAPACITY_EMPTY_ELEMENTDATA" "[Ljava/lang/Object;" (.ref zt) (va_A [(h0, .inr (0, [.int 0, .null, .int 0]))] sz) U U.heap ∧ va_T (.object "java/lang/Object") zt 0 (fun _ => .null) (va_A [(h0, .inr (0, [.int 0, .null, .int 0]))] sz) U U.heap)) (va_Qv (fun _ : Unit => True) (fun (_ : Unit) (t : State) => va_P (dC, dI) vwCl [(h0, .inr (0, [.int 0, .ref zt, .int 0]))] t.heap ∧ va_K (dC, dI) vwCl [] t ∧ va_D (va_A [(h0, .inr (0, [.int 0, .null, .int 0]))] sz) [(h0, .inr (0, [.int 0, .ref zt, .int 0]))]) (va_A [(h0, .inr (0, [.int 0, .null, .int 0]))] sz)) 0 0 (va_A [(h0, .inr (0, [.int 0, .null, .int 0]))] sz) := by
  refine va_MetF (cc := cJx4a65c_init_da8c8) (maxL := 1) (ret := none) (by decide) rfl ?_
  intro p e s m args below meth c s₁ B hml hv
  obtain ⟨rfl, hsz, hP, hK, hD0, hE, hZ, hTz⟩ := hv
  have hx := B.exec
  have hb := B.bytes
  have hr := B.returns
  have hts := atoms_spec (ws := v_c_AL_init) B.pre
  have hown : s.vm.findClass RJx4a65c = some m.cls := findClass_of_methodNamed B.named
  have hlocks := B.notSynchronized
  have hin : meth.name = "<init>" := (name_of_methodNamed B.named B.method).1
  subst hsz
  have hD := hD0.self (sz := s.heap.size)
  generalize hAe : va_A [(h0, .inr (0, [.int 0, .null, .int 0]))] s.heap.size = A at hD hZ hTz ⊢
  have hA : ∀ q : Nat, s.heap.size ≤ q → A q := fun q h => by rw [← hAe]; exact Or.inr h
  have hS : va_S A s.heap s.heap [] := va_S.rf
  replace hP : va_P (dC, dI) vwCl [(h0, .inr (0, [.int 0, .null, .int 0]))] s.heap := hP
  have hl := lv_entry ([.ref h0]) (n := 1) (Nat.le_of_ble_eq_true rfl)
  rw [lg_entry_eq]
  generalize (lg_sl ([.ref h0]) ++ List.replicate (1 - (lg_sl ([.ref h0])).length) Slot.unset).toArray = ls at hl ⊢
  replace hl : lv_has ls 1 [(0, .ref h0)] := hl
  obtain ⟨H, hH⟩ : ∃ z : Heap, z = s.heap := ⟨_, rfl⟩
  rw [← hH]
  replace hS : va_S A s.heap H [] := by rw [hH]; exact va_S.rf
  replace hP : va_P (dC, dI) vwCl [(h0, .inr (0, [.int 0, .null, .int 0]))] H := by rw [hH]; exact hP
  clear hH
  refine lv_aload_n hx hb dJx4a65c_init_da8c8_0 rfl (lv_at hl 0 rfl) ?_
  have hPc := hP.sub (ws' := [(h0, .inr (0, [.int 0, .null, .int 0]))]) [0] rfl
  have hDc := hD.sub (ws' := [(h0, .inr (0, [.int 0, .null, .int 0]))]) [0] (by decide +kernel) rfl
  have hKc := hK.sub (tys' := []) [] rfl
  have hFc := va_free (wc := [(h0, .inr (0, [.int 0, .null, .int 0]))]) hD hS hA [0] rfl
  refine va_callv (va_runI (As := []) (rest := []) ⟨hx, hb, hml, hown, hts⟩ (c_ALs_init l dC dI (h0) H.size) (cwI 0 hts g_c_AL_init_c_ALs_init_1 rfl rfl rfl (hts (.initialized RJxc12de) (List.mem_of_getElem? (i := 1) rfl)) (hts (.methodLink RJx4a65c 1 yJxc12de_init_da8c8) (List.mem_of_getElem? (i := 2) rfl)) (hts (.instanceMethod yJxc12de_init_da8c8) (List.mem_of_getElem? (i := 3) rfl)) rfl (by decide +kernel) ⟨Nat.le_of_ble_eq_true rfl, Nat.le_of_ble_eq_true rfl⟩) ⟨fun a U g mk q => by obtain ⟨q0, q1, qP, qK, qD, qE⟩ := q; exact ⟨q0, q1, qP, va_K.moved (u := U) (U := U.calling g mk a) (Vm.Alike.refl U.vm) qK, qD, ev.same (u := U) (U := U.calling g mk a) rfl qE⟩, fun U hU hW => ⟨rfl, by rw [hU], by rw [hU]; exact hPc, va_K.moved hW.alike hKc, hDc.weaken (fun _ _ _ _ => trivial), hE.warm hW⟩⟩ rfl rfl hl.1 rfl (lv_room (Nat.le_of_ble_eq_true rfl)) dJx4a65c_init_da8c8_1 ⟨Nat.le_of_ble_eq_true rfl, Nat.le_of_ble_eq_true rfl⟩) hS (fun q _ h => hFc q h) hFc (fun u t H1 locs ht hvm hw hB hz1 hk1 hS => ?_)
  clear hPc hDc hKc
  obtain ⟨hP1, hK1, hD1⟩ := hB
  rw [ht] at hP1
  have hK1 := va_K.moved hvm.symm hK1
  obtain ⟨hP, hD⟩ := va_join (wr := []) (w1 := [(h0, .inr (0, [.int 0, .null, .int 0]))]) hP hD [0] [] rfl rfl (by decide +kernel) (by decide +kernel) hk1 hFc hP1 hD1
  generalize H1 = H at hP hS ⊢
  replace hP : va_P (dC, dI) vwCl [(h0, .inr (0, [.int 0, .null, .int 0]))] H := hP
  replace hD : va_D A [(h0, .inr (0, [.int 0, .null, .int 0]))] := hD
  clear hw
  refine lv_aload_n hx hb dJx4a65c_init_da8c8_4 rfl (lv_at hl 0 rfl) ?_
  refine va_gets hx hb hZ hS hown (hts (.fieldLink RJx4a65c 39 "java/util/ArrayList" "DEFAULTCAPACITY_EMPTY_ELEMENTDATA" "[Ljava/lang/Object;") (List.mem_of_getElem? (i := 4) rfl)) (fun _ h9 => h9) dJx4a65c_init_da8c8_5 ?_
  refine va_put (D := (dC, dI)) (ci := 0) (v := .ref zt) (ty := (.array (.object "java/lang/Object"))) (C := RJx4a65c) (T := TJx4a65c) (N := 3) hx hb hts in_c_AL_init_Jx4a65c tyJx4a65c tyJx4a65c_ok nmJx4a65c hown hK hP hD hS 0 rfl rfl 1 (by decide) (hts (.fieldLink RJx4a65c 9 "java/util/ArrayList" "elementData" "[Ljava/lang/Object;") (List.mem_of_getElem? (i := 5) rfl)) (fun _ h9 => h9) rfl (by decide +kernel) rfl rfl (Nat.le_of_ble_eq_true rfl) dJx4a65c_init_da8c8_8 (fun H locs hP hD hS => ?_)
  replace hP : va_P (dC, dI) vwCl [(h0, .inr (0, [.int 0, .ref zt, .int 0]))] H := hP
  replace hD : va_D A [(h0, .inr (0, [.int 0, .ref zt, .int 0]))] := hD
  have hP9 := hP.sub (ws' := [(h0, .inr (0, [.int 0, .ref zt, .int 0]))]) [0] rfl
  have hD9 := hD.sub (ws' := [(h0, .inr (0, [.int 0, .ref zt, .int 0]))]) [0] (by decide +kernel) rfl
  have hK9 := hK.sub (tys' := []) [] rfl
  exact W.vret hx hb hr (fun t ht hW => ⟨⟨(), rfl, trivial, ⟨by rw [ht]; exact hP9, va_K.moved hW.alike hK9, hD9⟩⟩, hS.F ht⟩) hS.2.2 dJx4a65c_init_da8c8_11

noncomputable def tl_c_AL_grow1 : List Cond := wsJx4a65c0
noncomputable def v_c_AL_grow1 : List Cond := .code yJx4a65c_grow_92f84 cJx4a65c_grow_92f84 4 (some (.array (.object "java/lang/Object"))) :: ([.fieldLink RJx4a65c 9 "java/util/ArrayList" "elementData" "[Ljava/lang/Object;", .fieldLink RJx4a65c 39 "java/util/ArrayList" "DEFAULTCAPACITY_EMPTY_ELEMENTDATA" "[Ljava/lang/Object;", .methodLink RJx4a65c 79 Lib.Math.max.name, .static Lib.Math.max.name, .initialized "java/lang/Math", .code Lib.Math.max.name Lib.Math.max.code 2 (some .int), .classLink RJx4a65c 7 "java/lang/Object"] ++ tl_c_AL_grow1)
theorem it_c_AL_grow1 : ∀ w ∈ tl_c_AL_grow1, w ∈ v_c_AL_grow1 := fun w h => List.mem_cons_of_mem _ (List.mem_append_right _ h)
theorem in_c_AL_grow1_Jx4a65c : ∀ w ∈ wsJx4a65c0, w ∈ v_c_AL_grow1 := fun w h => it_c_AL_grow1 w (h)
theorem gt_c_AL_grow1 : ∀ w ∈ tl_c_AL_grow1, goodWord w = true := gw_wsJx4a65c0
theorem gw_c_AL_grow1 : ∀ w ∈ v_c_AL_grow1, goodWord w = true := List.forall_mem_cons.mpr ⟨by decide +kernel, List.forall_mem_append.mpr ⟨List.all_eq_true.mp (by decide +kernel), gt_c_AL_grow1⟩⟩
set_option maxHeartbeats 4000000 in
set_option maxRecDepth 100000 in
theorem c_AL_grow1 (l : Launch) (dC : Nat → ClassId) (dI : Nat → Nat → Nat) (zt : Nat) (h0 : Nat) (mc : Nat) (sz : Nat)  : Met l yJx4a65c_grow_92f84 v_c_AL_grow1 ({ frames := 1, cells := 1, slots := 10, locals := 15 }) (va_Pc [.ref h0, .int 1] (fun U => U.heap.size = sz ∧ va_P (dC, dI) vwCl [(h0, .inr (0, [.int (nI mc), .ref zt, .int 0]))] U.heap ∧ va_K (dC, dI) vwCl [] U ∧ va_D (fun _ => True) [(h0, .inr (0, [.int (nI mc), .ref zt, .int 0]))] ∧ ev U ∧ va_Z "java/util/ArrayList" "DEFAULTCAPACITY_EMPTY_ELEMENTDATA" "[Ljava/lang/Object;" (.ref zt) (va_A [(h0, .inr (0, [.int (nI mc), .ref zt, .int 0]))] sz) U U.heap ∧ va_T (.object "java/lang/Object") zt 0 (fun _ => .null) (va_A [(h0, .inr (0, [.int (nI mc), .ref zt, .int 0]))] sz) U U.heap)) (va_Qr (fun _ : Unit => True) (fun (_ : Unit) (ra : Nat) (t : State) => ∃ (cO : ClassId), va_P (dC, dI) vwCl [(h0, .inr (0, [.int (nI mc), .ref ra, .int 0])), (ra, .inl (cO, 10, .inr (.inr (.inr (.inr (fun _ => none))))))] t.heap ∧ va_K (dC, dI) vwCl [(cO, (.object "java/lang/Object"))] t ∧ va_D (va_A [(h0, .inr (0, [.int (nI mc), .ref zt, .int 0]))] sz) [(h0, .inr (0, [.int (nI mc), .ref ra, .int 0])), (ra, .inl (cO, 10, .inr (.inr (.inr (.inr (fun _ => none))))))]) (va_A [(h0, .inr (0, [.int (nI mc), .ref zt, .int 0]))] sz)) 1 10 (va_A [(h0, .inr (0, [.int (nI mc), .ref zt, .int 0]))] sz) := by
  refine va_MetF (cc := cJx4a65c_grow_92f84) (maxL := 4) (ret := (some (.array (.object "java/lang/Object")))) (by decide) rfl ?_
  intro p e s m args below meth c s₁ B hml hv
  obtain ⟨rfl, hsz, hP, hK, hD0, hE, hZ, hTz⟩ := hv
  have hx := B.exec
  have hb := B.bytes
  have hr := B.returns
  have hts := atoms_spec (ws := v_c_AL_grow1) B.pre
  have hown : s.vm.findClass RJx4a65c = some m.cls := findClass_of_methodNamed B.named
  have hlocks := B.notSynchronized
  subst hsz
  have hD := hD0.self (sz := s.heap.size)
  generalize hAe : va_A [(h0, .inr (0, [.int (nI mc), .ref zt, .int 0]))] s.heap.size = A at hD hZ hTz ⊢
  have hA : ∀ q : Nat, s.heap.size ≤ q → A q := fun q h => by rw [← hAe]; exact Or.inr h
  have hS : va_S A s.heap s.heap [] := va_S.rf
  replace hP : va_P (dC, dI) vwCl [(h0, .inr (0, [.int (nI mc), .ref zt, .int 0]))] s.heap := hP
  have hl := lv_entry ([.ref h0, .int 1]) (n := 4) (Nat.le_of_ble_eq_true rfl)
  rw [lg_entry_eq]
  generalize (lg_sl ([.ref h0, .int 1]) ++ List.replicate (4 - (lg_sl ([.ref h0, .int 1])).length) Slot.unset).toArray = ls at hl ⊢
  replace hl : lv_has ls 4 [(0, .ref h0), (1, .int 1)] := hl
  obtain ⟨H, hH⟩ : ∃ z : Heap, z = s.heap := ⟨_, rfl⟩
  rw [← hH]
  replace hS : va_S A s.heap H [] := by rw [hH]; exact va_S.rf
  replace hP : va_P (dC, dI) vwCl [(h0, .inr (0, [.int (nI mc), .ref zt, .int 0]))] H := by rw [hH]; exact hP
  clear hH
  refine lv_aload_n hx hb dJx4a65c_grow_92f84_0 rfl (lv_at hl 0 rfl) ?_
  refine va_get (D := (dC, dI)) (ci := 0) (v := .ref zt) (C := RJx4a65c) (T := TJx4a65c) (N := 3) hx hb hts in_c_AL_grow1_Jx4a65c hown hK hP 0 rfl rfl 1 (by decide) (hts (.fieldLink RJx4a65c 9 "java/util/ArrayList" "elementData" "[Ljava/lang/Object;") (List.mem_of_getElem? (i := 1) rfl)) (fun _ h9 => h9) rfl dJx4a65c_grow_92f84_1 ?_
  refine va_tlen hx hb hTz hS (v := 0) rfl dJx4a65c_grow_92f84_4 ?_
  refine lv_istore_n (lv' := [(2, .int 0), (0, .ref h0), (1, .int 1)]) hx hb dJx4a65c_grow_92f84_5 rfl hl (by decide) rfl (fun ls hl => ?_)
  refine lv_iload_n hx hb dJx4a65c_grow_92f84_6 rfl (lv_at hl 0 rfl) ?_
  refine lv_if_gt (tgt := 20) hx hb dJx4a65c_grow_92f84_7 (by decide) (fun c_1 => ?_) (fun c_1 => ?_)
  · exact absurd c_1 (by decide)
  refine lv_aload_n hx hb dJx4a65c_grow_92f84_10 rfl (lv_at hl 1 rfl) ?_
  refine va_get (D := (dC, dI)) (ci := 0) (v := .ref zt) (C := RJx4a65c) (T := TJx4a65c) (N := 3) hx hb hts in_c_AL_grow1_Jx4a65c hown hK hP 0 rfl rfl 1 (by decide) (hts (.fieldLink RJx4a65c 9 "java/util/ArrayList" "elementData" "[Ljava/lang/Object;") (List.mem_of_getElem? (i := 1) rfl)) (fun _ h9 => h9) rfl dJx4a65c_grow_92f84_11 ?_
  refine va_gets hx hb hZ hS hown (hts (.fieldLink RJx4a65c 39 "java/util/ArrayList" "DEFAULTCAPACITY_EMPTY_ELEMENTDATA" "[Ljava/lang/Object;") (List.mem_of_getElem? (i := 2) rfl)) (fun _ h9 => h9) dJx4a65c_grow_92f84_14 ?_
  refine lv_acmp_eq (rx := some zt) (ry := some zt) (tgt := 45) hx hb dJx4a65c_grow_92f84_17 (by decide) (fun c_2 => ?_) (fun c_2 => ?_)
  rotate_left
  · exact absurd rfl c_2
  refine lv_aload_n hx hb dJx4a65c_grow_92f84_45 rfl (lv_at hl 1 rfl) ?_
  refine lv_bipush (v := 10) hx hb dJx4a65c_grow_92f84_46 (by decide) ?_
  refine lv_iload_n hx hb dJx4a65c_grow_92f84_48 rfl (lv_at hl 2 rfl) ?_
  refine va_mmax hx hb (by rw [hml]; exact hl.1.symm) hown (hts (.methodLink RJx4a65c 79 Lib.Math.max.name) (List.mem_of_getElem? (i := 3) rfl)) (hts (.static Lib.Math.max.name) (List.mem_of_getElem? (i := 4) rfl)) (hts (.initialized "java/lang/Math") (List.mem_of_getElem? (i := 5) rfl)) (hts (.code Lib.Math.max.name Lib.Math.max.code 2 (some .int)) (List.mem_of_getElem? (i := 6) rfl)) (Nat.le_of_ble_eq_true rfl) (Nat.le_of_ble_eq_true rfl) (Nat.zero_le _) (Nat.zero_le _) dJx4a65c_grow_92f84_49 ?_
  refine lv_topi (fun x_3 ex_3 => ?_)
  obtain rfl : x_3 = 10 := ex_3.trans (by decide)
  refine va_newq (C := "java/lang/Object") (N' := 10) hx hb hown (hts (.classLink RJx4a65c 7 "java/lang/Object") (List.mem_of_getElem? (i := 7) rfl)) hE.AOO hK hP hD hS hA (by decide) (by decide) (Nat.le_of_ble_eq_true rfl) (Nat.le_of_ble_eq_true rfl) (Nat.le_of_ble_eq_true rfl) dJx4a65c_grow_92f84_52 (fun q4 cA4 H hK hP hD hS => ?_)
  replace hK : va_K (dC, dI) vwCl [(cA4, (.object "java/lang/Object"))] s := hK
  replace hP : va_P (dC, dI) vwCl [(h0, .inr (0, [.int (nI mc), .ref zt, .int 0])), (q4, .inl (cA4, 10, .inr (.inr (.inr (.inr (fun _ => none))))))] H := hP
  replace hD : va_D A [(h0, .inr (0, [.int (nI mc), .ref zt, .int 0])), (q4, .inl (cA4, 10, .inr (.inr (.inr (.inr (fun _ => none))))))] := hD
  refine W.widen (k := 1) (n := 10) (Nat.le_of_ble_eq_true rfl) (Nat.le_of_ble_eq_true rfl) ?_
  refine lv_dup_x1 hx hb dJx4a65c_grow_92f84_55 rfl rfl ?_
  refine va_put (D := (dC, dI)) (ci := 0) (v := .ref q4) (ty := (.array (.object "java/lang/Object"))) (C := RJx4a65c) (T := TJx4a65c) (N := 3) hx hb hts in_c_AL_grow1_Jx4a65c tyJx4a65c tyJx4a65c_ok nmJx4a65c hown hK hP hD hS 0 rfl rfl 1 (by decide) (hts (.fieldLink RJx4a65c 9 "java/util/ArrayList" "elementData" "[Ljava/lang/Object;") (List.mem_of_getElem? (i := 1) rfl)) (fun _ h9 => h9) rfl (by decide +kernel) rfl rfl (Nat.le_of_ble_eq_true rfl) dJx4a65c_grow_92f84_56 (fun H locs hP hD hS => ?_)
  replace hP : va_P (dC, dI) vwCl [(h0, .inr (0, [.int (nI mc), .ref q4, .int 0])), (q4, .inl (cA4, 10, .inr (.inr (.inr (.inr (fun _ => none))))))] H := hP
  replace hD : va_D A [(h0, .inr (0, [.int (nI mc), .ref q4, .int 0])), (q4, .inl (cA4, 10, .inr (.inr (.inr (.inr (fun _ => none))))))] := hD
  have hP9 := hP.sub (ws' := [(h0, .inr (0, [.int (nI mc), .ref q4, .int 0])), (q4, .inl (cA4, 10, .inr (.inr (.inr (.inr (fun _ => none))))))]) [0, 1] rfl
  have hD9 := hD.sub (ws' := [(h0, .inr (0, [.int (nI mc), .ref q4, .int 0])), (q4, .inl (cA4, 10, .inr (.inr (.inr (.inr (fun _ => none))))))]) [0, 1] (by decide +kernel) rfl
  have hK9 := hK.sub (tys' := [(cA4, (.object "java/lang/Object"))]) [0] rfl
  exact W.aret (v := .ref q4) hx hb hr (Or.inr ⟨_, rfl⟩) (Or.inr ⟨_, rfl⟩) (fun t ht hW => ⟨⟨(), q4, rfl, trivial, ⟨cA4, by rw [ht]; exact hP9, va_K.moved hW.alike hK9, hD9⟩⟩, hS.F ht⟩) hS.2.2 dJx4a65c_grow_92f84_59

noncomputable def tl_c_AL_grow0 : List Cond := wsJx4a65c0 ++ (v_c_AL_grow1)
noncomputable def v_c_AL_grow0 : List Cond := .code yJx4a65c_grow_d5877 cJx4a65c_grow_d5877 1 (some (.array (.object "java/lang/Object"))) :: ([.fieldLink RJx4a65c 48 "java/util/ArrayList" "size" "I", .initialized RJx4a65c, .methodLink RJx4a65c 69 yJx4a65c_grow_92f84, .instanceMethod yJx4a65c_grow_92f84, .selects RJx4a65c yJx4a65c_grow_92f84 yJx4a65c_grow_92f84] ++ tl_c_AL_grow0)
theorem it_c_AL_grow0 : ∀ w ∈ tl_c_AL_grow0, w ∈ v_c_AL_grow0 := fun w h => List.mem_cons_of_mem _ (List.mem_append_right _ h)
theorem in_c_AL_grow0_Jx4a65c : ∀ w ∈ wsJx4a65c0, w ∈ v_c_AL_grow0 := fun w h => it_c_AL_grow0 w (List.mem_append_left _ h)
theorem ic_c_AL_grow0_c_AL_grow1 : ∀ w ∈ v_c_AL_grow1, w ∈ v_c_AL_grow0 := fun w h => it_c_AL_grow0 w (List.mem_append_right _ (h))
theorem gt_c_AL_grow0 : ∀ w ∈ tl_c_AL_grow0, goodWord w = true := List.forall_mem_append.mpr ⟨gw_wsJx4a65c0, gw_c_AL_grow1⟩
theorem gw_c_AL_grow0 : ∀ w ∈ v_c_AL_grow0, goodWord w = true := List.forall_mem_cons.mpr ⟨by decide +kernel, List.forall_mem_append.mpr ⟨List.all_eq_true.mp (by decide +kernel), gt_c_AL_grow0⟩⟩
theorem g_c_AL_grow0_c_AL_grow1_69 : GoodIn v_c_AL_grow0 (wsV RJx4a65c 69 RJx4a65c yJx4a65c_grow_92f84 v_c_AL_grow1) := goodIn_app (goodIn_r [.methodLink RJx4a65c 69 yJx4a65c_grow_92f84, .instanceMethod yJx4a65c_grow_92f84, .selects RJx4a65c yJx4a65c_grow_92f84 yJx4a65c_grow_92f84, .initialized RJx4a65c] [3, 4, 5, 2] (by decide +kernel) (by decide +kernel)) (fun w h => ⟨ic_c_AL_grow0_c_AL_grow1 w h, good_of_word (gw_c_AL_grow1 w h)⟩)
set_option maxHeartbeats 4000000 in
set_option maxRecDepth 100000 in
theorem c_AL_grow0 (l : Launch) (dC : Nat → ClassId) (dI : Nat → Nat → Nat) (zt : Nat) (h0 : Nat) (mc : Nat) (sz : Nat)  : Met l yJx4a65c_grow_d5877 v_c_AL_grow0 ({ frames := 2, cells := 1, slots := 10, locals := 38 }) (va_Pc [.ref h0] (fun U => U.heap.size = sz ∧ va_P (dC, dI) vwCl [(h0, .inr (0, [.int (nI mc), .ref zt, .int 0]))] U.heap ∧ va_K (dC, dI) vwCl [] U ∧ va_D (fun _ => True) [(h0, .inr (0, [.int (nI mc), .ref zt, .int 0]))] ∧ ev U ∧ va_Z "java/util/ArrayList" "DEFAULTCAPACITY_EMPTY_ELEMENTDATA" "[Ljava/lang/Object;" (.ref zt) (va_A [(h0, .inr (0, [.int (nI mc), .ref zt, .int 0]))] sz) U U.heap ∧ va_T (.object "java/lang/Object") zt 0 (fun _ => .null) (va_A [(h0, .inr (0, [.int (nI mc), .ref zt, .int 0]))] sz) U U.heap)) (va_Qr (fun _ : Unit => True) (fun (_ : Unit) (ra : Nat) (t : State) => ∃ (cO : ClassId), va_P (dC, dI) vwCl [(h0, .inr (0, [.int (nI mc), .ref ra, .int 0])), (ra, .inl (cO, 10, .inr (.inr (.inr (.inr (fun _ => none))))))] t.heap ∧ va_K (dC, dI) vwCl [(cO, (.object "java/lang/Object"))] t ∧ va_D (va_A [(h0, .inr (0, [.int (nI mc), .ref zt, .int 0]))] sz) [(h0, .inr (0, [.int (nI mc), .ref ra, .int 0])), (ra, .inl (cO, 10, .inr (.inr (.inr (.inr (fun _ => none))))))]) (va_A [(h0, .inr (0, [.int (nI mc), .ref zt, .int 0]))] sz)) 1 10 (va_A [(h0, .inr (0, [.int (nI mc), .ref zt, .int 0]))] sz) := by
  refine va_MetF (cc := cJx4a65c_grow_d5877) (maxL := 1) (ret := (some (.array (.object "java/lang/Object")))) (by decide) rfl ?_
  intro p e s m args below meth c s₁ B hml hv
  obtain ⟨rfl, hsz, hP, hK, hD0, hE, hZ, hTz⟩ := hv
  have hx := B.exec
  have hb := B.bytes
  have hr := B.returns
  have hts := atoms_spec (ws := v_c_AL_grow0) B.pre
  have hown : s.vm.findClass RJx4a65c = some m.cls := findClass_of_methodNamed B.named
  have hlocks := B.notSynchronized
  subst hsz
  have hD := hD0.self (sz := s.heap.size)
  generalize hAe : va_A [(h0, .inr (0, [.int (nI mc), .ref zt, .int 0]))] s.heap.size = A at hD hZ hTz ⊢
  have hA : ∀ q : Nat, s.heap.size ≤ q → A q := fun q h => by rw [← hAe]; exact Or.inr h
  have hS : va_S A s.heap s.heap [] := va_S.rf
  replace hP : va_P (dC, dI) vwCl [(h0, .inr (0, [.int (nI mc), .ref zt, .int 0]))] s.heap := hP
  have hl := lv_entry ([.ref h0]) (n := 1) (Nat.le_of_ble_eq_true rfl)
  rw [lg_entry_eq]
  generalize (lg_sl ([.ref h0]) ++ List.replicate (1 - (lg_sl ([.ref h0])).length) Slot.unset).toArray = ls at hl ⊢
  replace hl : lv_has ls 1 [(0, .ref h0)] := hl
  obtain ⟨H, hH⟩ : ∃ z : Heap, z = s.heap := ⟨_, rfl⟩
  rw [← hH]
  replace hS : va_S A s.heap H [] := by rw [hH]; exact va_S.rf
  replace hP : va_P (dC, dI) vwCl [(h0, .inr (0, [.int (nI mc), .ref zt, .int 0]))] H := by rw [hH]; exact hP
  clear hH
  refine lv_aload_n hx hb dJx4a65c_grow_d5877_0 rfl (lv_at hl 0 rfl) ?_
  refine lv_aload_n hx hb dJx4a65c_grow_d5877_1 rfl (lv_at hl 0 rfl) ?_
  refine va_get (D := (dC, dI)) (ci := 0) (v := .int 0) (C := RJx4a65c) (T := TJx4a65c) (N := 3) hx hb hts in_c_AL_grow0_Jx4a65c hown hK hP 0 rfl rfl 2 (by decide) (hts (.fieldLink RJx4a65c 48 "java/util/ArrayList" "size" "I") (List.mem_of_getElem? (i := 1) rfl)) (fun _ h9 => h9) rfl dJx4a65c_grow_d5877_2 ?_
  refine lv_iconst (v := 1) hx hb dJx4a65c_grow_d5877_5 (by decide) ?_
  refine lv_iadd hx hb dJx4a65c_grow_d5877_6 ?_
  refine lv_topi (fun x_1 ex_1 => ?_)
  obtain rfl : x_1 = 1 := ex_1.trans (by decide)
  have hPc := hP.sub (ws' := [(h0, .inr (0, [.int (nI mc), .ref zt, .int 0]))]) [0] rfl
  have hDc := hD.sub (ws' := [(h0, .inr (0, [.int (nI mc), .ref zt, .int 0]))]) [0] (by decide +kernel) rfl
  have hKc := hK.sub (tys' := []) [] rfl
  have hFc := va_free (wc := [(h0, .inr (0, [.int (nI mc), .ref zt, .int 0]))]) hD hS hA [0] rfl
  have hZc := (hZ.kept hS.2.1).narrow (fun q h => hFc q h)
  have hTc := (hTz.kept hS.2.1).narrow (fun q h => hFc q h)
  refine va_callr (va_runV (As := [.int 1]) (rest := []) ⟨hx, hb, hml, hown, hts⟩ (c_AL_grow1 l dC dI (zt) (h0) (mc) H.size) (cwV 1 hts g_c_AL_grow0_c_AL_grow1_69 rfl rfl rfl (by decide +kernel) ⟨Nat.le_of_ble_eq_true rfl, Nat.le_of_ble_eq_true rfl⟩) ⟨fun a U g mk q => by obtain ⟨q0, q1, qP, qK, qD, qE, qZ, qT⟩ := q; exact ⟨q0, q1, qP, va_K.moved (u := U) (U := U.calling g mk a) (Vm.Alike.refl U.vm) qK, qD, ev.same (u := U) (U := U.calling g mk a) rfl qE, va_Z.moved (u := U) (U := U.calling g mk a) (Vm.Alike.refl U.vm) qZ, va_T.moved (u := U) (U := U.calling g mk a) (Vm.Alike.refl U.vm) qT⟩, va_recv hKc hPc (ci := 0) (q0 := 0) rfl rfl, fun U hU hW => ⟨rfl, by rw [hU], by rw [hU]; exact hPc, va_K.moved hW.alike hKc, hDc.weaken (fun _ _ _ _ => trivial), hE.warm hW, by rw [hU]; exact hZc.moved hW.alike, by rw [hU]; exact hTc.moved hW.alike⟩⟩ rfl rfl hl.1 rfl (lv_room (Nat.le_of_ble_eq_true rfl)) dJx4a65c_grow_d5877_7 ⟨Nat.le_of_ble_eq_true rfl, Nat.le_of_ble_eq_true rfl⟩) hS (fun q _ h => hFc q h) hFc (fun u ra_2 t H1 locs ht hvm hw hB hz1 hk1 hS => ?_)
  clear hPc hDc hKc
  obtain ⟨cO_2, hP1, hK1, hD1⟩ := hB
  rw [ht] at hP1
  have hK1 := va_K.moved hvm.symm hK1
  obtain ⟨hP, hD⟩ := va_join (wr := []) (w1 := [(h0, .inr (0, [.int (nI mc), .ref ra_2, .int 0])), (ra_2, .inl (cO_2, 10, .inr (.inr (.inr (.inr (fun _ => none))))))]) hP hD [0] [] rfl rfl (by decide +kernel) (by decide +kernel) hk1 hFc hP1 hD1
  replace hK := hK.app hK1
  replace hK : va_K (dC, dI) vwCl [(cO_2, (.object "java/lang/Object"))] s := hK
  generalize H1 = H at hP hS ⊢
  replace hP : va_P (dC, dI) vwCl [(h0, .inr (0, [.int (nI mc), .ref ra_2, .int 0])), (ra_2, .inl (cO_2, 10, .inr (.inr (.inr (.inr (fun _ => none))))))] H := hP
  replace hD : va_D A [(h0, .inr (0, [.int (nI mc), .ref ra_2, .int 0])), (ra_2, .inl (cO_2, 10, .inr (.inr (.inr (.inr (fun _ => none))))))] := hD
  refine W.widen (k := 1) (n := 10) (Nat.le_of_ble_eq_true rfl) (Nat.le_of_ble_eq_true rfl) ?_
  clear hw
  have hP9 := hP.sub (ws' := [(h0, .inr (0, [.int (nI mc), .ref ra_2, .int 0])), (ra_2, .inl (cO_2, 10, .inr (.inr (.inr (.inr (fun _ => none))))))]) [0, 1] rfl
  have hD9 := hD.sub (ws' := [(h0, .inr (0, [.int (nI mc), .ref ra_2, .int 0])), (ra_2, .inl (cO_2, 10, .inr (.inr (.inr (.inr (fun _ => none))))))]) [0, 1] (by decide +kernel) rfl
  have hK9 := hK.sub (tys' := [(cO_2, (.object "java/lang/Object"))]) [0] rfl
  exact W.aret (v := .ref ra_2) hx hb hr (Or.inr ⟨_, rfl⟩) (Or.inr ⟨_, rfl⟩) (fun t ht hW => ⟨⟨(), ra_2, rfl, trivial, ⟨cO_2, by rw [ht]; exact hP9, va_K.moved hW.alike hK9, hD9⟩⟩, hS.F ht⟩) hS.2.2 dJx4a65c_grow_d5877_10

noncomputable def tl_c_AL_add3_gm : List Cond := wsJx4a65c0 ++ (v_c_AL_grow0)
noncomputable def v_c_AL_add3_gm : List Cond := .code yJx4a65c_add_72be8 cJx4a65c_add_72be8 4 none :: ([.initialized RJx4a65c, .methodLink RJx4a65c 129 yJx4a65c_grow_d5877, .instanceMethod yJx4a65c_grow_d5877, .selects RJx4a65c yJx4a65c_grow_d5877 yJx4a65c_grow_d5877, .fieldLink RJx4a65c 48 "java/util/ArrayList" "size" "I"] ++ tl_c_AL_add3_gm)
theorem it_c_AL_add3_gm : ∀ w ∈ tl_c_AL_add3_gm, w ∈ v_c_AL_add3_gm := fun w h => List.mem_cons_of_mem _ (List.mem_append_right _ h)
theorem in_c_AL_add3_gm_Jx4a65c : ∀ w ∈ wsJx4a65c0, w ∈ v_c_AL_add3_gm := fun w h => it_c_AL_add3_gm w (List.mem_append_left _ h)
theorem ic_c_AL_add3_gm_c_AL_grow0 : ∀ w ∈ v_c_AL_grow0, w ∈ v_c_AL_add3_gm := fun w h => it_c_AL_add3_gm w (List.mem_append_right _ (h))
theorem gt_c_AL_add3_gm : ∀ w ∈ tl_c_AL_add3_gm, goodWord w = true := List.forall_mem_append.mpr ⟨gw_wsJx4a65c0, gw_c_AL_grow0⟩
theorem gw_c_AL_add3_gm : ∀ w ∈ v_c_AL_add3_gm, goodWord w = true := List.forall_mem_cons.mpr ⟨by decide +kernel, List.forall_mem_append.mpr ⟨List.all_eq_true.mp (by decide +kernel), gt_c_AL_add3_gm⟩⟩
theorem g_c_AL_add3_gm_c_AL_grow0_129 : GoodIn v_c_AL_add3_gm (wsV RJx4a65c 129 RJx4a65c yJx4a65c_grow_d5877 v_c_AL_grow0) := goodIn_app (goodIn_r [.methodLink RJx4a65c 129 yJx4a65c_grow_d5877, .instanceMethod yJx4a65c_grow_d5877, .selects RJx4a65c yJx4a65c_grow_d5877 yJx4a65c_grow_d5877, .initialized RJx4a65c] [2, 3, 4, 1] (by decide +kernel) (by decide +kernel)) (fun w h => ⟨ic_c_AL_add3_gm_c_AL_grow0 w h, good_of_word (gw_c_AL_grow0 w h)⟩)
set_option maxHeartbeats 4000000 in
set_option maxRecDepth 100000 in
theorem c_AL_add3_gm (l : Launch) (dC : Nat → ClassId) (dI : Nat → Nat → Nat) (zt : Nat) (h0 : Nat) (mc : Nat) (el : Nat) (evs : List Value) (sz : Nat)  : Met l yJx4a65c_add_72be8 v_c_AL_add3_gm ({ frames := 3, cells := 1, slots := 10, locals := 58 }) (va_Pc [.ref h0, .ref el, .ref zt, .int 0] (fun U => U.heap.size = sz ∧ va_P (dC, dI) vwCl [(h0, .inr (0, [.int (nI mc), .ref zt, .int 0])), (el, .inr (4, evs))] U.heap ∧ va_K (dC, dI) vwCl [] U ∧ va_D (fun _ => True) [(h0, .inr (0, [.int (nI mc), .ref zt, .int 0])), (el, .inr (4, evs))] ∧ ev U ∧ va_Z "java/util/ArrayList" "DEFAULTCAPACITY_EMPTY_ELEMENTDATA" "[Ljava/lang/Object;" (.ref zt) (va_A [(h0, .inr (0, [.int (nI mc), .ref zt, .int 0])), (el, .inr (4, evs))] sz) U U.heap ∧ va_T (.object "java/lang/Object") zt 0 (fun _ => .null) (va_A [(h0, .inr (0, [.int (nI mc), .ref zt, .int 0])), (el, .inr (4, evs))] sz) U U.heap)) (va_Qv (fun _ : Unit => True) (fun (_ : Unit) (t : State) => ∃ (ed2 : Nat) (cO2 : ClassId) (fe2 : Nat → Option Nat), va_P (dC, dI) vwCl [(h0, .inr (0, [.int (nI mc), .ref ed2, .int 1])), (ed2, .inl (cO2, 10, .inr (.inr (.inr (.inr fe2))))), (el, .inr (4, evs))] t.heap ∧ va_K (dC, dI) vwCl [(cO2, (.object "java/lang/Object"))] t ∧ va_D (va_A [(h0, .inr (0, [.int (nI mc), .ref zt, .int 0])), (el, .inr (4, evs))] sz) [(h0, .inr (0, [.int (nI mc), .ref ed2, .int 1])), (ed2, .inl (cO2, 10, .inr (.inr (.inr (.inr fe2))))), (el, .inr (4, evs))] ∧ (fe2 0 = some el)) (va_A [(h0, .inr (0, [.int (nI mc), .ref zt, .int 0])), (el, .inr (4, evs))] sz)) 1 10 (va_A [(h0, .inr (0, [.int (nI mc), .ref zt, .int 0])), (el, .inr (4, evs))] sz) := by
  refine va_MetF (cc := cJx4a65c_add_72be8) (maxL := 4) (ret := none) (by decide) rfl ?_
  intro p e s m args below meth c s₁ B hml hv
  obtain ⟨rfl, hsz, hP, hK, hD0, hE, hZ, hTz⟩ := hv
  have hx := B.exec
  have hb := B.bytes
  have hr := B.returns
  have hts := atoms_spec (ws := v_c_AL_add3_gm) B.pre
  have hown : s.vm.findClass RJx4a65c = some m.cls := findClass_of_methodNamed B.named
  have hlocks := B.notSynchronized
  subst hsz
  have hD := hD0.self (sz := s.heap.size)
  generalize hAe : va_A [(h0, .inr (0, [.int (nI mc), .ref zt, .int 0])), (el, .inr (4, evs))] s.heap.size = A at hD hZ hTz ⊢
  have hA : ∀ q : Nat, s.heap.size ≤ q → A q := fun q h => by rw [← hAe]; exact Or.inr h
  have hS : va_S A s.heap s.heap [] := va_S.rf
  replace hP : va_P (dC, dI) vwCl [(h0, .inr (0, [.int (nI mc), .ref zt, .int 0])), (el, .inr (4, evs))] s.heap := hP
  have hl := lv_entry ([.ref h0, .ref el, .ref zt, .int 0]) (n := 4) (Nat.le_of_ble_eq_true rfl)
  rw [lg_entry_eq]
  generalize (lg_sl ([.ref h0, .ref el, .ref zt, .int 0]) ++ List.replicate (4 - (lg_sl ([.ref h0, .ref el, .ref zt, .int 0])).length) Slot.unset).toArray = ls at hl ⊢
  replace hl : lv_has ls 4 [(0, .ref h0), (1, .ref el), (2, .ref zt), (3, .int 0)] := hl
  obtain ⟨H, hH⟩ : ∃ z : Heap, z = s.heap := ⟨_, rfl⟩
  rw [← hH]
  replace hS : va_S A s.heap H [] := by rw [hH]; exact va_S.rf
  replace hP : va_P (dC, dI) vwCl [(h0, .inr (0, [.int (nI mc), .ref zt, .int 0])), (el, .inr (4, evs))] H := by rw [hH]; exact hP
  clear hH
  refine lv_iload_n hx hb dJx4a65c_add_72be8_0 rfl (lv_at hl 3 rfl) ?_
  refine lv_aload_n hx hb dJx4a65c_add_72be8_1 rfl (lv_at hl 2 rfl) ?_
  refine va_tlen hx hb hTz hS (v := 0) rfl dJx4a65c_add_72be8_2 ?_
  refine lv_icmp_ne (tgt := 11) hx hb dJx4a65c_add_72be8_3 (by decide) (fun c_1 => ?_) (fun c_1 => ?_)
  · exact absurd c_1 (by decide)
  refine lv_aload_n hx hb dJx4a65c_add_72be8_6 rfl (lv_at hl 0 rfl) ?_
  have hPc := hP.sub (ws' := [(h0, .inr (0, [.int (nI mc), .ref zt, .int 0]))]) [0] rfl
  have hDc := hD.sub (ws' := [(h0, .inr (0, [.int (nI mc), .ref zt, .int 0]))]) [0] (by decide +kernel) rfl
  have hKc := hK.sub (tys' := []) [] rfl
  have hFc := va_free (wc := [(h0, .inr (0, [.int (nI mc), .ref zt, .int 0]))]) hD hS hA [0] rfl
  have hZc := (hZ.kept hS.2.1).narrow (fun q h => hFc q h)
  have hTc := (hTz.kept hS.2.1).narrow (fun q h => hFc q h)
  refine va_callr (va_runV (As := []) (rest := []) ⟨hx, hb, hml, hown, hts⟩ (c_AL_grow0 l dC dI (zt) (h0) (mc) H.size) (cwV 0 hts g_c_AL_add3_gm_c_AL_grow0_129 rfl rfl rfl (by decide +kernel) ⟨Nat.le_of_ble_eq_true rfl, Nat.le_of_ble_eq_true rfl⟩) ⟨fun a U g mk q => by obtain ⟨q0, q1, qP, qK, qD, qE, qZ, qT⟩ := q; exact ⟨q0, q1, qP, va_K.moved (u := U) (U := U.calling g mk a) (Vm.Alike.refl U.vm) qK, qD, ev.same (u := U) (U := U.calling g mk a) rfl qE, va_Z.moved (u := U) (U := U.calling g mk a) (Vm.Alike.refl U.vm) qZ, va_T.moved (u := U) (U := U.calling g mk a) (Vm.Alike.refl U.vm) qT⟩, va_recv hKc hPc (ci := 0) (q0 := 0) rfl rfl, fun U hU hW => ⟨rfl, by rw [hU], by rw [hU]; exact hPc, va_K.moved hW.alike hKc, hDc.weaken (fun _ _ _ _ => trivial), hE.warm hW, by rw [hU]; exact hZc.moved hW.alike, by rw [hU]; exact hTc.moved hW.alike⟩⟩ rfl rfl hl.1 rfl (lv_room (Nat.le_of_ble_eq_true rfl)) dJx4a65c_add_72be8_7 ⟨Nat.le_of_ble_eq_true rfl, Nat.le_of_ble_eq_true rfl⟩) hS (fun q _ h => hFc q h) hFc (fun u ra_2 t H1 locs ht hvm hw hB hz1 hk1 hS => ?_)
  clear hPc hDc hKc
  obtain ⟨cO_2, hP1, hK1, hD1⟩ := hB
  rw [ht] at hP1
  have hK1 := va_K.moved hvm.symm hK1
  obtain ⟨hP, hD⟩ := va_join (wr := [(el, .inr (4, evs))]) (w1 := [(h0, .inr (0, [.int (nI mc), .ref ra_2, .int 0])), (ra_2, .inl (cO_2, 10, .inr (.inr (.inr (.inr (fun _ => none))))))]) hP hD [0] [1] rfl rfl (by decide +kernel) (by decide +kernel) hk1 hFc hP1 hD1
  replace hK := hK.app hK1
  replace hK : va_K (dC, dI) vwCl [(cO_2, (.object "java/lang/Object"))] s := hK
  generalize H1 = H at hP hS ⊢
  replace hP : va_P (dC, dI) vwCl [(el, .inr (4, evs)), (h0, .inr (0, [.int (nI mc), .ref ra_2, .int 0])), (ra_2, .inl (cO_2, 10, .inr (.inr (.inr (.inr (fun _ => none))))))] H := hP
  replace hD : va_D A [(el, .inr (4, evs)), (h0, .inr (0, [.int (nI mc), .ref ra_2, .int 0])), (ra_2, .inl (cO_2, 10, .inr (.inr (.inr (.inr (fun _ => none))))))] := hD
  refine W.widen (k := 1) (n := 10) (Nat.le_of_ble_eq_true rfl) (Nat.le_of_ble_eq_true rfl) ?_
  clear hw
  refine lv_astore_n (lv' := [(2, .ref ra_2), (0, .ref h0), (1, .ref el), (3, .int 0)]) hx hb dJx4a65c_add_72be8_10 rfl hl (by decide) rfl (fun ls hl => ?_)
  refine lv_aload_n hx hb dJx4a65c_add_72be8_11 rfl (lv_at hl 0 rfl) ?_
  refine lv_iload_n hx hb dJx4a65c_add_72be8_12 rfl (lv_at hl 3 rfl) ?_
  refine lv_aload_n hx hb dJx4a65c_add_72be8_13 rfl (lv_at hl 2 rfl) ?_
  refine va_astqO hx hb hK hP hD hS 2 0 0 4 rfl rfl hE.CO3 rfl rfl (vp_in_nI (n := 0) (by omega) (by omega)) dJx4a65c_add_72be8_14 (fun H locs hP hD hS => ?_)
  obtain ⟨f_3, ef_3⟩ : ∃ z : Nat → Option Nat, z = va_up (fun _ => none) 0 (some el) := ⟨_, rfl⟩
  rw [(show Int32.toNatClampNeg (0 : Int32) = 0 by decide)] at hP hD
  replace hP : va_P (dC, dI) vwCl [(el, .inr (4, evs)), (h0, .inr (0, [.int (nI mc), .ref ra_2, .int 0])), (ra_2, .inl (cO_2, 10, .inr (.inr (.inr (.inr f_3)))))] H := by rw [ef_3]; exact hP
  replace hD : va_D A [(el, .inr (4, evs)), (h0, .inr (0, [.int (nI mc), .ref ra_2, .int 0])), (ra_2, .inl (cO_2, 10, .inr (.inr (.inr (.inr f_3)))))] := by rw [ef_3]; exact hD
  have g3_n : f_3 0 = some el := by rw [ef_3]; exact if_pos rfl
  refine lv_aload_n hx hb dJx4a65c_add_72be8_15 rfl (lv_at hl 1 rfl) ?_
  refine lv_iload_n hx hb dJx4a65c_add_72be8_16 rfl (lv_at hl 3 rfl) ?_
  refine lv_iconst (v := 1) hx hb dJx4a65c_add_72be8_17 (by decide) ?_
  refine lv_iadd hx hb dJx4a65c_add_72be8_18 ?_
  refine lv_topi (fun x_4 ex_4 => ?_)
  obtain rfl : x_4 = 1 := ex_4.trans (by decide)
  refine va_put (D := (dC, dI)) (ci := 0) (v := .int 1) (ty := .int) (C := RJx4a65c) (T := TJx4a65c) (N := 3) hx hb hts in_c_AL_add3_gm_Jx4a65c tyJx4a65c tyJx4a65c_ok nmJx4a65c hown hK hP hD hS 1 rfl rfl 2 (by decide) (hts (.fieldLink RJx4a65c 48 "java/util/ArrayList" "size" "I") (List.mem_of_getElem? (i := 5) rfl)) (fun _ h9 => h9) rfl (by decide +kernel) rfl rfl (Nat.le_of_ble_eq_true rfl) dJx4a65c_add_72be8_19 (fun H locs hP hD hS => ?_)
  replace hP : va_P (dC, dI) vwCl [(el, .inr (4, evs)), (h0, .inr (0, [.int (nI mc), .ref ra_2, .int 1])), (ra_2, .inl (cO_2, 10, .inr (.inr (.inr (.inr f_3)))))] H := hP
  replace hD : va_D A [(el, .inr (4, evs)), (h0, .inr (0, [.int (nI mc), .ref ra_2, .int 1])), (ra_2, .inl (cO_2, 10, .inr (.inr (.inr (.inr f_3)))))] := hD
  have hP9 := hP.sub (ws' := [(h0, .inr (0, [.int (nI mc), .ref ra_2, .int 1])), (ra_2, .inl (cO_2, 10, .inr (.inr (.inr (.inr f_3))))), (el, .inr (4, evs))]) [1, 2, 0] rfl
  have hD9 := hD.sub (ws' := [(h0, .inr (0, [.int (nI mc), .ref ra_2, .int 1])), (ra_2, .inl (cO_2, 10, .inr (.inr (.inr (.inr f_3))))), (el, .inr (4, evs))]) [1, 2, 0] (by decide +kernel) rfl
  have hK9 := hK.sub (tys' := [(cO_2, (.object "java/lang/Object"))]) [0] rfl
  exact W.vret hx hb hr (fun t ht hW => ⟨⟨(), rfl, trivial, ⟨ra_2, cO_2, f_3, by rw [ht]; exact hP9, va_K.moved hW.alike hK9, hD9, g3_n⟩⟩, hS.F ht⟩) hS.2.2 dJx4a65c_add_72be8_22

noncomputable def tl_c_AL_add_gm : List Cond := wsJx4a65c0 ++ (v_c_AL_add3_gm)
noncomputable def v_c_AL_add_gm : List Cond := .code yJx4a65c_add_9ea2d cJx4a65c_add_9ea2d 2 (some .boolean) :: ([.fieldLink RJx4a65c 63 "java/util/ArrayList" "modCount" "I", .sameField "java/util/ArrayList" "java/util/AbstractList" "modCount" "I", .fieldLink RJx4a65c 9 "java/util/ArrayList" "elementData" "[Ljava/lang/Object;", .fieldLink RJx4a65c 48 "java/util/ArrayList" "size" "I", .initialized RJx4a65c, .methodLink RJx4a65c 131 yJx4a65c_add_72be8, .instanceMethod yJx4a65c_add_72be8, .selects RJx4a65c yJx4a65c_add_72be8 yJx4a65c_add_72be8] ++ tl_c_AL_add_gm)
theorem it_c_AL_add_gm : ∀ w ∈ tl_c_AL_add_gm, w ∈ v_c_AL_add_gm := fun w h => List.mem_cons_of_mem _ (List.mem_append_right _ h)
theorem in_c_AL_add_gm_Jx4a65c : ∀ w ∈ wsJx4a65c0, w ∈ v_c_AL_add_gm := fun w h => it_c_AL_add_gm w (List.mem_append_left _ h)
theorem ic_c_AL_add_gm_c_AL_add3_gm : ∀ w ∈ v_c_AL_add3_gm, w ∈ v_c_AL_add_gm := fun w h => it_c_AL_add_gm w (List.mem_append_right _ (h))
theorem gt_c_AL_add_gm : ∀ w ∈ tl_c_AL_add_gm, goodWord w = true := List.forall_mem_append.mpr ⟨gw_wsJx4a65c0, gw_c_AL_add3_gm⟩
theorem gw_c_AL_add_gm : ∀ w ∈ v_c_AL_add_gm, goodWord w = true := List.forall_mem_cons.mpr ⟨by decide +kernel, List.forall_mem_append.mpr ⟨List.all_eq_true.mp (by decide +kernel), gt_c_AL_add_gm⟩⟩
theorem g_c_AL_add_gm_c_AL_add3_gm_131 : GoodIn v_c_AL_add_gm (wsV RJx4a65c 131 RJx4a65c yJx4a65c_add_72be8 v_c_AL_add3_gm) := goodIn_app (goodIn_r [.methodLink RJx4a65c 131 yJx4a65c_add_72be8, .instanceMethod yJx4a65c_add_72be8, .selects RJx4a65c yJx4a65c_add_72be8 yJx4a65c_add_72be8, .initialized RJx4a65c] [6, 7, 8, 5] (by decide +kernel) (by decide +kernel)) (fun w h => ⟨ic_c_AL_add_gm_c_AL_add3_gm w h, good_of_word (gw_c_AL_add3_gm w h)⟩)
set_option maxHeartbeats 4000000 in
set_option maxRecDepth 100000 in
theorem c_AL_add_gm (l : Launch) (dC : Nat → ClassId) (dI : Nat → Nat → Nat) (zt : Nat) (h0 : Nat) (mc : Nat) (el : Nat) (evs : List Value) (sz : Nat)  : Met l yJx4a65c_add_9ea2d v_c_AL_add_gm ({ frames := 4, cells := 1, slots := 10, locals := 81 }) (va_Pc [.ref h0, .ref el] (fun U => U.heap.size = sz ∧ va_P (dC, dI) vwCl [(h0, .inr (0, [.int (nI mc), .ref zt, .int 0])), (el, .inr (4, evs))] U.heap ∧ va_K (dC, dI) vwCl [] U ∧ va_D (fun _ => True) [(h0, .inr (0, [.int (nI mc), .ref zt, .int 0])), (el, .inr (4, evs))] ∧ ev U ∧ va_Z "java/util/ArrayList" "DEFAULTCAPACITY_EMPTY_ELEMENTDATA" "[Ljava/lang/Object;" (.ref zt) (va_A [(h0, .inr (0, [.int (nI mc), .ref zt, .int 0])), (el, .inr (4, evs))] sz) U U.heap ∧ va_T (.object "java/lang/Object") zt 0 (fun _ => .null) (va_A [(h0, .inr (0, [.int (nI mc), .ref zt, .int 0])), (el, .inr (4, evs))] sz) U U.heap)) (va_Qi (fun (r : Int32) (_ : Unit) => r = 1) (fun (_ : Unit) (t : State) => ∃ (ed2 : Nat) (cO2 : ClassId) (fe2 : Nat → Option Nat), va_P (dC, dI) vwCl [(h0, .inr (0, [.int (nI (mc + 1)), .ref ed2, .int 1])), (ed2, .inl (cO2, 10, .inr (.inr (.inr (.inr fe2))))), (el, .inr (4, evs))] t.heap ∧ va_K (dC, dI) vwCl [(cO2, (.object "java/lang/Object"))] t ∧ va_D (va_A [(h0, .inr (0, [.int (nI mc), .ref zt, .int 0])), (el, .inr (4, evs))] sz) [(h0, .inr (0, [.int (nI (mc + 1)), .ref ed2, .int 1])), (ed2, .inl (cO2, 10, .inr (.inr (.inr (.inr fe2))))), (el, .inr (4, evs))] ∧ (fe2 0 = some el)) (va_A [(h0, .inr (0, [.int (nI mc), .ref zt, .int 0])), (el, .inr (4, evs))] sz)) 1 10 (va_A [(h0, .inr (0, [.int (nI mc), .ref zt, .int 0])), (el, .inr (4, evs))] sz) := by
  refine va_MetF (cc := cJx4a65c_add_9ea2d) (maxL := 2) (ret := (some .boolean)) (by decide) rfl ?_
  intro p e s m args below meth c s₁ B hml hv
  obtain ⟨rfl, hsz, hP, hK, hD0, hE, hZ, hTz⟩ := hv
  have hx := B.exec
  have hb := B.bytes
  have hr := B.returns
  have hts := atoms_spec (ws := v_c_AL_add_gm) B.pre
  have hown : s.vm.findClass RJx4a65c = some m.cls := findClass_of_methodNamed B.named
  have hlocks := B.notSynchronized
  subst hsz
  have hD := hD0.self (sz := s.heap.size)
  generalize hAe : va_A [(h0, .inr (0, [.int (nI mc), .ref zt, .int 0])), (el, .inr (4, evs))] s.heap.size = A at hD hZ hTz ⊢
  have hA : ∀ q : Nat, s.heap.size ≤ q → A q := fun q h => by rw [← hAe]; exact Or.inr h
  have hS : va_S A s.heap s.heap [] := va_S.rf
  replace hP : va_P (dC, dI) vwCl [(h0, .inr (0, [.int (nI mc), .ref zt, .int 0])), (el, .inr (4, evs))] s.heap := hP
  have hl := lv_entry ([.ref h0, .ref el]) (n := 2) (Nat.le_of_ble_eq_true rfl)
  rw [lg_entry_eq]
  generalize (lg_sl ([.ref h0, .ref el]) ++ List.replicate (2 - (lg_sl ([.ref h0, .ref el])).length) Slot.unset).toArray = ls at hl ⊢
  replace hl : lv_has ls 2 [(0, .ref h0), (1, .ref el)] := hl
  obtain ⟨H, hH⟩ : ∃ z : Heap, z = s.heap := ⟨_, rfl⟩
  rw [← hH]
  replace hS : va_S A s.heap H [] := by rw [hH]; exact va_S.rf
  replace hP : va_P (dC, dI) vwCl [(h0, .inr (0, [.int (nI mc), .ref zt, .int 0])), (el, .inr (4, evs))] H := by rw [hH]; exact hP
  clear hH
  refine lv_aload_n hx hb dJx4a65c_add_9ea2d_0 rfl (lv_at hl 0 rfl) ?_
  refine lv_dup hx hb dJx4a65c_add_9ea2d_1 rfl ?_
  refine va_get (D := (dC, dI)) (ci := 0) (v := .int (nI mc)) (C := RJx4a65c) (T := TJx4a65c) (N := 3) hx hb hts in_c_AL_add_gm_Jx4a65c hown hK hP 0 rfl rfl 0 (by decide) (hts (.fieldLink RJx4a65c 63 "java/util/ArrayList" "modCount" "I") (List.mem_of_getElem? (i := 1) rfl)) (fun x9 h9 => u_same (hts (.sameField "java/util/ArrayList" "java/util/AbstractList" "modCount" "I") (List.mem_of_getElem? (i := 2) rfl)) x9 h9) rfl dJx4a65c_add_9ea2d_2 ?_
  refine lv_iconst (v := 1) hx hb dJx4a65c_add_9ea2d_5 (by decide) ?_
  refine lv_iadd hx hb dJx4a65c_add_9ea2d_6 ?_
  refine lv_topi (fun x_1 ex_1 => ?_)
  obtain rfl : x_1 = (nI (mc + 1)) := ex_1.trans ((nI_add mc 1).trans (show nI (mc + 1) = nI (mc + 1) from congrArg nI (by omega)))
  refine va_put (D := (dC, dI)) (ci := 0) (v := .int (nI (mc + 1))) (ty := .int) (C := RJx4a65c) (T := TJx4a65c) (N := 3) hx hb hts in_c_AL_add_gm_Jx4a65c tyJx4a65c tyJx4a65c_ok nmJx4a65c hown hK hP hD hS 0 rfl rfl 0 (by decide) (hts (.fieldLink RJx4a65c 63 "java/util/ArrayList" "modCount" "I") (List.mem_of_getElem? (i := 1) rfl)) (fun x9 h9 => u_same (hts (.sameField "java/util/ArrayList" "java/util/AbstractList" "modCount" "I") (List.mem_of_getElem? (i := 2) rfl)) x9 h9) rfl (by decide +kernel) rfl rfl (Nat.le_of_ble_eq_true rfl) dJx4a65c_add_9ea2d_7 (fun H locs hP hD hS => ?_)
  replace hP : va_P (dC, dI) vwCl [(h0, .inr (0, [.int (nI (mc + 1)), .ref zt, .int 0])), (el, .inr (4, evs))] H := hP
  replace hD : va_D A [(h0, .inr (0, [.int (nI (mc + 1)), .ref zt, .int 0])), (el, .inr (4, evs))] := hD
  refine lv_aload_n hx hb dJx4a65c_add_9ea2d_10 rfl (lv_at hl 0 rfl) ?_
  refine lv_aload_n hx hb dJx4a65c_add_9ea2d_11 rfl (lv_at hl 1 rfl) ?_
  refine lv_aload_n hx hb dJx4a65c_add_9ea2d_12 rfl (lv_at hl 0 rfl) ?_
  refine va_get (D := (dC, dI)) (ci := 0) (v := .ref zt) (C := RJx4a65c) (T := TJx4a65c) (N := 3) hx hb hts in_c_AL_add_gm_Jx4a65c hown hK hP 0 rfl rfl 1 (by decide) (hts (.fieldLink RJx4a65c 9 "java/util/ArrayList" "elementData" "[Ljava/lang/Object;") (List.mem_of_getElem? (i := 3) rfl)) (fun _ h9 => h9) rfl dJx4a65c_add_9ea2d_13 ?_
  refine lv_aload_n hx hb dJx4a65c_add_9ea2d_16 rfl (lv_at hl 0 rfl) ?_
  refine va_get (D := (dC, dI)) (ci := 0) (v := .int 0) (C := RJx4a65c) (T := TJx4a65c) (N := 3) hx hb hts in_c_AL_add_gm_Jx4a65c hown hK hP 0 rfl rfl 2 (by decide) (hts (.fieldLink RJx4a65c 48 "java/util/ArrayList" "size" "I") (List.mem_of_getElem? (i := 4) rfl)) (fun _ h9 => h9) rfl dJx4a65c_add_9ea2d_17 ?_
  have hPc := hP.sub (ws' := [(h0, .inr (0, [.int (nI (mc + 1)), .ref zt, .int 0])), (el, .inr (4, evs))]) [0, 1] rfl
  have hDc := hD.sub (ws' := [(h0, .inr (0, [.int (nI (mc + 1)), .ref zt, .int 0])), (el, .inr (4, evs))]) [0, 1] (by decide +kernel) rfl
  have hKc := hK.sub (tys' := []) [] rfl
  have hFc := va_free (wc := [(h0, .inr (0, [.int (nI (mc + 1)), .ref zt, .int 0])), (el, .inr (4, evs))]) hD hS hA [0, 1] rfl
  have hZc := (hZ.kept hS.2.1).narrow (fun q h => hFc q h)
  have hTc := (hTz.kept hS.2.1).narrow (fun q h => hFc q h)
  refine va_callv (va_runV (As := [.ref el, .ref zt, .int 0]) (rest := []) ⟨hx, hb, hml, hown, hts⟩ (c_AL_add3_gm l dC dI (zt) (h0) ((mc + 1)) (el) (evs) H.size) (cwV 3 hts g_c_AL_add_gm_c_AL_add3_gm_131 rfl rfl rfl (by decide +kernel) ⟨Nat.le_of_ble_eq_true rfl, Nat.le_of_ble_eq_true rfl⟩) ⟨fun a U g mk q => by obtain ⟨q0, q1, qP, qK, qD, qE, qZ, qT⟩ := q; exact ⟨q0, q1, qP, va_K.moved (u := U) (U := U.calling g mk a) (Vm.Alike.refl U.vm) qK, qD, ev.same (u := U) (U := U.calling g mk a) rfl qE, va_Z.moved (u := U) (U := U.calling g mk a) (Vm.Alike.refl U.vm) qZ, va_T.moved (u := U) (U := U.calling g mk a) (Vm.Alike.refl U.vm) qT⟩, va_recv hKc hPc (ci := 0) (q0 := 0) rfl rfl, fun U hU hW => ⟨rfl, by rw [hU], by rw [hU]; exact hPc, va_K.moved hW.alike hKc, hDc.weaken (fun _ _ _ _ => trivial), hE.warm hW, by rw [hU]; exact hZc.moved hW.alike, by rw [hU]; exact hTc.moved hW.alike⟩⟩ rfl rfl hl.1 rfl (lv_room (Nat.le_of_ble_eq_true rfl)) dJx4a65c_add_9ea2d_20 ⟨Nat.le_of_ble_eq_true rfl, Nat.le_of_ble_eq_true rfl⟩) hS (fun q _ h => hFc q h) hFc (fun u t H1 locs ht hvm hw hB hz1 hk1 hS => ?_)
  clear hPc hDc hKc
  obtain ⟨ed2_2, cO2_2, fe2_2, hP1, hK1, hD1, hel_2⟩ := hB
  rw [ht] at hP1
  have hK1 := va_K.moved hvm.symm hK1
  obtain ⟨hP, hD⟩ := va_join (wr := []) (w1 := [(h0, .inr (0, [.int (nI (mc + 1)), .ref ed2_2, .int 1])), (ed2_2, .inl (cO2_2, 10, .inr (.inr (.inr (.inr fe2_2))))), (el, .inr (4, evs))]) hP hD [0, 1] [] rfl rfl (by decide +kernel) (by decide +kernel) hk1 hFc hP1 hD1
  replace hK := hK.app hK1
  replace hK : va_K (dC, dI) vwCl [(cO2_2, (.object "java/lang/Object"))] s := hK
  generalize H1 = H at hP hS ⊢
  replace hP : va_P (dC, dI) vwCl [(h0, .inr (0, [.int (nI (mc + 1)), .ref ed2_2, .int 1])), (ed2_2, .inl (cO2_2, 10, .inr (.inr (.inr (.inr fe2_2))))), (el, .inr (4, evs))] H := hP
  replace hD : va_D A [(h0, .inr (0, [.int (nI (mc + 1)), .ref ed2_2, .int 1])), (ed2_2, .inl (cO2_2, 10, .inr (.inr (.inr (.inr fe2_2))))), (el, .inr (4, evs))] := hD
  refine W.widen (k := 1) (n := 10) (Nat.le_of_ble_eq_true rfl) (Nat.le_of_ble_eq_true rfl) ?_
  clear hw
  refine lv_iconst (v := 1) hx hb dJx4a65c_add_9ea2d_23 (by decide) ?_
  have hP9 := hP.sub (ws' := [(h0, .inr (0, [.int (nI (mc + 1)), .ref ed2_2, .int 1])), (ed2_2, .inl (cO2_2, 10, .inr (.inr (.inr (.inr fe2_2))))), (el, .inr (4, evs))]) [0, 1, 2] rfl
  have hD9 := hD.sub (ws' := [(h0, .inr (0, [.int (nI (mc + 1)), .ref ed2_2, .int 1])), (ed2_2, .inl (cO2_2, 10, .inr (.inr (.inr (.inr fe2_2))))), (el, .inr (4, evs))]) [0, 1, 2] (by decide +kernel) rfl
  have hK9 := hK.sub (tys' := [(cO2_2, (.object "java/lang/Object"))]) [0] rfl
  exact W.zret (v := 1) hx hb hr (by decide) (fun t ht hW => ⟨⟨1, (), rfl, rfl, ⟨ed2_2, cO2_2, fe2_2, by rw [ht]; exact hP9, va_K.moved hW.alike hK9, hD9, hel_2⟩⟩, hS.F ht⟩) hS.2.2 dJx4a65c_add_9ea2d_24

noncomputable def tl_c_AL_add3_nm : List Cond := wsJx4a65c0
noncomputable def v_c_AL_add3_nm : List Cond := .code yJx4a65c_add_72be8 cJx4a65c_add_72be8 4 none :: ([.fieldLink RJx4a65c 48 "java/util/ArrayList" "size" "I"] ++ tl_c_AL_add3_nm)
theorem it_c_AL_add3_nm : ∀ w ∈ tl_c_AL_add3_nm, w ∈ v_c_AL_add3_nm := fun w h => List.mem_cons_of_mem _ (List.mem_append_right _ h)
theorem in_c_AL_add3_nm_Jx4a65c : ∀ w ∈ wsJx4a65c0, w ∈ v_c_AL_add3_nm := fun w h => it_c_AL_add3_nm w (h)
theorem gt_c_AL_add3_nm : ∀ w ∈ tl_c_AL_add3_nm, goodWord w = true := gw_wsJx4a65c0
theorem gw_c_AL_add3_nm : ∀ w ∈ v_c_AL_add3_nm, goodWord w = true := List.forall_mem_cons.mpr ⟨by decide +kernel, List.forall_mem_append.mpr ⟨List.all_eq_true.mp (by decide +kernel), gt_c_AL_add3_nm⟩⟩
set_option maxHeartbeats 4000000 in
set_option maxRecDepth 100000 in
theorem c_AL_add3_nm (l : Launch) (dC : Nat → ClassId) (dI : Nat → Nat → Nat) (h0 : Nat) (mc : Nat) (ed : Nat) (sz0 : Nat) (cO : ClassId) (fe : Nat → Option Nat) (el : Nat) (evs : List Value) (sz : Nat) (hsz : sz0 < 10) : Met l yJx4a65c_add_72be8 v_c_AL_add3_nm ({ frames := 0, cells := 0, slots := 0, locals := 0 }) (va_Pc [.ref h0, .ref el, .ref ed, .int (nI sz0)] (fun U => U.heap.size = sz ∧ va_P (dC, dI) vwCl [(h0, .inr (0, [.int (nI mc), .ref ed, .int (nI sz0)])), (ed, .inl (cO, 10, .inr (.inr (.inr (.inr fe))))), (el, .inr (4, evs))] U.heap ∧ va_K (dC, dI) vwCl [(cO, (.object "java/lang/Object"))] U ∧ va_D (fun _ => True) [(h0, .inr (0, [.int (nI mc), .ref ed, .int (nI sz0)])), (ed, .inl (cO, 10, .inr (.inr (.inr (.inr fe))))), (el, .inr (4, evs))] ∧ ev U)) (va_Qv (fun _ : Unit => True) (fun (_ : Unit) (t : State) => ∃ (fe2 : Nat → Option Nat), va_P (dC, dI) vwCl [(h0, .inr (0, [.int (nI mc), .ref ed, .int (nI (sz0 + 1))])), (ed, .inl (cO, 10, .inr (.inr (.inr (.inr fe2))))), (el, .inr (4, evs))] t.heap ∧ va_K (dC, dI) vwCl [(cO, (.object "java/lang/Object"))] t ∧ va_D (va_A [(h0, .inr (0, [.int (nI mc), .ref ed, .int (nI sz0)])), (ed, .inl (cO, 10, .inr (.inr (.inr (.inr fe))))), (el, .inr (4, evs))] sz) [(h0, .inr (0, [.int (nI mc), .ref ed, .int (nI (sz0 + 1))])), (ed, .inl (cO, 10, .inr (.inr (.inr (.inr fe2))))), (el, .inr (4, evs))] ∧ (fe2 sz0 = some el)) (va_A [(h0, .inr (0, [.int (nI mc), .ref ed, .int (nI sz0)])), (ed, .inl (cO, 10, .inr (.inr (.inr (.inr fe))))), (el, .inr (4, evs))] sz)) 0 0 (va_A [(h0, .inr (0, [.int (nI mc), .ref ed, .int (nI sz0)])), (ed, .inl (cO, 10, .inr (.inr (.inr (.inr fe))))), (el, .inr (4, evs))] sz) := by
  refine va_MetF (cc := cJx4a65c_add_72be8) (maxL := 4) (ret := none) (by decide) rfl ?_
  intro p e s m args below meth c s₁ B hml hv
  obtain ⟨rfl, hsz, hP, hK, hD0, hE⟩ := hv
  have hx := B.exec
  have hb := B.bytes
  have hr := B.returns
  have hts := atoms_spec (ws := v_c_AL_add3_nm) B.pre
  have hown : s.vm.findClass RJx4a65c = some m.cls := findClass_of_methodNamed B.named
  have hlocks := B.notSynchronized
  subst hsz
  have hD := hD0.self (sz := s.heap.size)
  generalize hAe : va_A [(h0, .inr (0, [.int (nI mc), .ref ed, .int (nI sz0)])), (ed, .inl (cO, 10, .inr (.inr (.inr (.inr fe))))), (el, .inr (4, evs))] s.heap.size = A at hD ⊢
  have hA : ∀ q : Nat, s.heap.size ≤ q → A q := fun q h => by rw [← hAe]; exact Or.inr h
  have hS : va_S A s.heap s.heap [] := va_S.rf
  replace hP : va_P (dC, dI) vwCl [(h0, .inr (0, [.int (nI mc), .ref ed, .int (nI sz0)])), (ed, .inl (cO, 10, .inr (.inr (.inr (.inr fe))))), (el, .inr (4, evs))] s.heap := hP
  have hl := lv_entry ([.ref h0, .ref el, .ref ed, .int (nI sz0)]) (n := 4) (Nat.le_of_ble_eq_true rfl)
  rw [lg_entry_eq]
  generalize (lg_sl ([.ref h0, .ref el, .ref ed, .int (nI sz0)]) ++ List.replicate (4 - (lg_sl ([.ref h0, .ref el, .ref ed, .int (nI sz0)])).length) Slot.unset).toArray = ls at hl ⊢
  replace hl : lv_has ls 4 [(0, .ref h0), (1, .ref el), (2, .ref ed), (3, .int (nI sz0))] := hl
  obtain ⟨H, hH⟩ : ∃ z : Heap, z = s.heap := ⟨_, rfl⟩
  rw [← hH]
  replace hS : va_S A s.heap H [] := by rw [hH]; exact va_S.rf
  replace hP : va_P (dC, dI) vwCl [(h0, .inr (0, [.int (nI mc), .ref ed, .int (nI sz0)])), (ed, .inl (cO, 10, .inr (.inr (.inr (.inr fe))))), (el, .inr (4, evs))] H := by rw [hH]; exact hP
  clear hH
  refine lv_iload_n hx hb dJx4a65c_add_72be8_0 rfl (lv_at hl 3 rfl) ?_
  refine lv_aload_n hx hb dJx4a65c_add_72be8_1 rfl (lv_at hl 2 rfl) ?_
  refine va_alen hx hb hK hP 1 0 rfl rfl (v := 10) rfl dJx4a65c_add_72be8_2 ?_
  refine lv_icmp_ne (tgt := 11) hx hb dJx4a65c_add_72be8_3 (by decide) (fun c_1 => ?_) (fun c_1 => ?_)
  rotate_left
  · exact absurd ((nI_eq (a := sz0) (b := 10) (by omega) (by omega)).mp c_1) (by omega)
  refine lv_aload_n hx hb dJx4a65c_add_72be8_11 rfl (lv_at hl 2 rfl) ?_
  refine lv_iload_n hx hb dJx4a65c_add_72be8_12 rfl (lv_at hl 3 rfl) ?_
  refine lv_aload_n hx hb dJx4a65c_add_72be8_13 rfl (lv_at hl 1 rfl) ?_
  refine va_astqO hx hb hK hP hD hS 1 0 2 4 rfl rfl hE.CO3 rfl rfl (vp_in_nI (n := sz0) (by omega) (by omega)) dJx4a65c_add_72be8_14 (fun H locs hP hD hS => ?_)
  obtain ⟨f_2, ef_2⟩ : ∃ z : Nat → Option Nat, z = va_up fe sz0 (some el) := ⟨_, rfl⟩
  rw [(nI_clamp (n := sz0) (by omega))] at hP hD
  replace hP : va_P (dC, dI) vwCl [(h0, .inr (0, [.int (nI mc), .ref ed, .int (nI sz0)])), (ed, .inl (cO, 10, .inr (.inr (.inr (.inr f_2))))), (el, .inr (4, evs))] H := by rw [ef_2]; exact hP
  replace hD : va_D A [(h0, .inr (0, [.int (nI mc), .ref ed, .int (nI sz0)])), (ed, .inl (cO, 10, .inr (.inr (.inr (.inr f_2))))), (el, .inr (4, evs))] := by rw [ef_2]; exact hD
  have g2_n : f_2 sz0 = some el := by rw [ef_2]; exact if_pos rfl
  refine lv_aload_n hx hb dJx4a65c_add_72be8_15 rfl (lv_at hl 0 rfl) ?_
  refine lv_iload_n hx hb dJx4a65c_add_72be8_16 rfl (lv_at hl 3 rfl) ?_
  refine lv_iconst (v := 1) hx hb dJx4a65c_add_72be8_17 (by decide) ?_
  refine lv_iadd hx hb dJx4a65c_add_72be8_18 ?_
  refine lv_topi (fun x_3 ex_3 => ?_)
  obtain rfl : x_3 = (nI (sz0 + 1)) := ex_3.trans ((nI_add sz0 1).trans (show nI (sz0 + 1) = nI (sz0 + 1) from congrArg nI (by omega)))
  refine va_put (D := (dC, dI)) (ci := 0) (v := .int (nI (sz0 + 1))) (ty := .int) (C := RJx4a65c) (T := TJx4a65c) (N := 3) hx hb hts in_c_AL_add3_nm_Jx4a65c tyJx4a65c tyJx4a65c_ok nmJx4a65c hown hK hP hD hS 0 rfl rfl 2 (by decide) (hts (.fieldLink RJx4a65c 48 "java/util/ArrayList" "size" "I") (List.mem_of_getElem? (i := 1) rfl)) (fun _ h9 => h9) rfl (by decide +kernel) rfl rfl (Nat.le_of_ble_eq_true rfl) dJx4a65c_add_72be8_19 (fun H locs hP hD hS => ?_)
  replace hP : va_P (dC, dI) vwCl [(h0, .inr (0, [.int (nI mc), .ref ed, .int (nI (sz0 + 1))])), (ed, .inl (cO, 10, .inr (.inr (.inr (.inr f_2))))), (el, .inr (4, evs))] H := hP
  replace hD : va_D A [(h0, .inr (0, [.int (nI mc), .ref ed, .int (nI (sz0 + 1))])), (ed, .inl (cO, 10, .inr (.inr (.inr (.inr f_2))))), (el, .inr (4, evs))] := hD
  have hP9 := hP.sub (ws' := [(h0, .inr (0, [.int (nI mc), .ref ed, .int (nI (sz0 + 1))])), (ed, .inl (cO, 10, .inr (.inr (.inr (.inr f_2))))), (el, .inr (4, evs))]) [0, 1, 2] rfl
  have hD9 := hD.sub (ws' := [(h0, .inr (0, [.int (nI mc), .ref ed, .int (nI (sz0 + 1))])), (ed, .inl (cO, 10, .inr (.inr (.inr (.inr f_2))))), (el, .inr (4, evs))]) [0, 1, 2] (by decide +kernel) rfl
  have hK9 := hK.sub (tys' := [(cO, (.object "java/lang/Object"))]) [0] rfl
  exact W.vret hx hb hr (fun t ht hW => ⟨⟨(), rfl, trivial, ⟨f_2, by rw [ht]; exact hP9, va_K.moved hW.alike hK9, hD9, g2_n⟩⟩, hS.F ht⟩) hS.2.2 dJx4a65c_add_72be8_22

noncomputable def tl_c_AL_add_nm : List Cond := wsJx4a65c0 ++ (v_c_AL_add3_nm)
noncomputable def v_c_AL_add_nm : List Cond := .code yJx4a65c_add_9ea2d cJx4a65c_add_9ea2d 2 (some .boolean) :: ([.fieldLink RJx4a65c 63 "java/util/ArrayList" "modCount" "I", .sameField "java/util/ArrayList" "java/util/AbstractList" "modCount" "I", .fieldLink RJx4a65c 9 "java/util/ArrayList" "elementData" "[Ljava/lang/Object;", .fieldLink RJx4a65c 48 "java/util/ArrayList" "size" "I", .initialized RJx4a65c, .methodLink RJx4a65c 131 yJx4a65c_add_72be8, .instanceMethod yJx4a65c_add_72be8, .selects RJx4a65c yJx4a65c_add_72be8 yJx4a65c_add_72be8] ++ tl_c_AL_add_nm)
theorem it_c_AL_add_nm : ∀ w ∈ tl_c_AL_add_nm, w ∈ v_c_AL_add_nm := fun w h => List.mem_cons_of_mem _ (List.mem_append_right _ h)
theorem in_c_AL_add_nm_Jx4a65c : ∀ w ∈ wsJx4a65c0, w ∈ v_c_AL_add_nm := fun w h => it_c_AL_add_nm w (List.mem_append_left _ h)
theorem ic_c_AL_add_nm_c_AL_add3_nm : ∀ w ∈ v_c_AL_add3_nm, w ∈ v_c_AL_add_nm := fun w h => it_c_AL_add_nm w (List.mem_append_right _ (h))
theorem gt_c_AL_add_nm : ∀ w ∈ tl_c_AL_add_nm, goodWord w = true := List.forall_mem_append.mpr ⟨gw_wsJx4a65c0, gw_c_AL_add3_nm⟩
theorem gw_c_AL_add_nm : ∀ w ∈ v_c_AL_add_nm, goodWord w = true := List.forall_mem_cons.mpr ⟨by decide +kernel, List.forall_mem_append.mpr ⟨List.all_eq_true.mp (by decide +kernel), gt_c_AL_add_nm⟩⟩
theorem g_c_AL_add_nm_c_AL_add3_nm_131 : GoodIn v_c_AL_add_nm (wsV RJx4a65c 131 RJx4a65c yJx4a65c_add_72be8 v_c_AL_add3_nm) := goodIn_app (goodIn_r [.methodLink RJx4a65c 131 yJx4a65c_add_72be8, .instanceMethod yJx4a65c_add_72be8, .selects RJx4a65c yJx4a65c_add_72be8 yJx4a65c_add_72be8, .initialized RJx4a65c] [6, 7, 8, 5] (by decide +kernel) (by decide +kernel)) (fun w h => ⟨ic_c_AL_add_nm_c_AL_add3_nm w h, good_of_word (gw_c_AL_add3_nm w h)⟩)
set_option maxHeartbeats 4000000 in
set_option maxRecDepth 100000 in
theorem c_AL_add_nm (l : Launch) (dC : Nat → ClassId) (dI : Nat → Nat → Nat) (h0 : Nat) (mc : Nat) (ed : Nat) (sz0 : Nat) (cO : ClassId) (fe : Nat → Option Nat) (el : Nat) (evs : List Value) (sz : Nat) (hsz : sz0 < 10) : Met l yJx4a65c_add_9ea2d v_c_AL_add_nm ({ frames := 1, cells := 0, slots := 0, locals := 23 }) (va_Pc [.ref h0, .ref el] (fun U => U.heap.size = sz ∧ va_P (dC, dI) vwCl [(h0, .inr (0, [.int (nI mc), .ref ed, .int (nI sz0)])), (ed, .inl (cO, 10, .inr (.inr (.inr (.inr fe))))), (el, .inr (4, evs))] U.heap ∧ va_K (dC, dI) vwCl [(cO, (.object "java/lang/Object"))] U ∧ va_D (fun _ => True) [(h0, .inr (0, [.int (nI mc), .ref ed, .int (nI sz0)])), (ed, .inl (cO, 10, .inr (.inr (.inr (.inr fe))))), (el, .inr (4, evs))] ∧ ev U)) (va_Qi (fun (r : Int32) (_ : Unit) => r = 1) (fun (_ : Unit) (t : State) => ∃ (fe2 : Nat → Option Nat), va_P (dC, dI) vwCl [(h0, .inr (0, [.int (nI (mc + 1)), .ref ed, .int (nI (sz0 + 1))])), (ed, .inl (cO, 10, .inr (.inr (.inr (.inr fe2))))), (el, .inr (4, evs))] t.heap ∧ va_K (dC, dI) vwCl [(cO, (.object "java/lang/Object"))] t ∧ va_D (va_A [(h0, .inr (0, [.int (nI mc), .ref ed, .int (nI sz0)])), (ed, .inl (cO, 10, .inr (.inr (.inr (.inr fe))))), (el, .inr (4, evs))] sz) [(h0, .inr (0, [.int (nI (mc + 1)), .ref ed, .int (nI (sz0 + 1))])), (ed, .inl (cO, 10, .inr (.inr (.inr (.inr fe2))))), (el, .inr (4, evs))] ∧ (fe2 sz0 = some el)) (va_A [(h0, .inr (0, [.int (nI mc), .ref ed, .int (nI sz0)])), (ed, .inl (cO, 10, .inr (.inr (.inr (.inr fe))))), (el, .inr (4, evs))] sz)) 0 0 (va_A [(h0, .inr (0, [.int (nI mc), .ref ed, .int (nI sz0)])), (ed, .inl (cO, 10, .inr (.inr (.inr (.inr fe))))), (el, .inr (4, evs))] sz) := by
  refine va_MetF (cc := cJx4a65c_add_9ea2d) (maxL := 2) (ret := (some .boolean)) (by decide) rfl ?_
  intro p e s m args below meth c s₁ B hml hv
  obtain ⟨rfl, hsz, hP, hK, hD0, hE⟩ := hv
  have hx := B.exec
  have hb := B.bytes
  have hr := B.returns
  have hts := atoms_spec (ws := v_c_AL_add_nm) B.pre
  have hown : s.vm.findClass RJx4a65c = some m.cls := findClass_of_methodNamed B.named
  have hlocks := B.notSynchronized
  subst hsz
  have hD := hD0.self (sz := s.heap.size)
  generalize hAe : va_A [(h0, .inr (0, [.int (nI mc), .ref ed, .int (nI sz0)])), (ed, .inl (cO, 10, .inr (.inr (.inr (.inr fe))))), (el, .inr (4, evs))] s.heap.size = A at hD ⊢
  have hA : ∀ q : Nat, s.heap.size ≤ q → A q := fun q h => by rw [← hAe]; exact Or.inr h
  have hS : va_S A s.heap s.heap [] := va_S.rf
  replace hP : va_P (dC, dI) vwCl [(h0, .inr (0, [.int (nI mc), .ref ed, .int (nI sz0)])), (ed, .inl (cO, 10, .inr (.inr (.inr (.inr fe))))), (el, .inr (4, evs))] s.heap := hP
  have hl := lv_entry ([.ref h0, .ref el]) (n := 2) (Nat.le_of_ble_eq_true rfl)
  rw [lg_entry_eq]
  generalize (lg_sl ([.ref h0, .ref el]) ++ List.replicate (2 - (lg_sl ([.ref h0, .ref el])).length) Slot.unset).toArray = ls at hl ⊢
  replace hl : lv_has ls 2 [(0, .ref h0), (1, .ref el)] := hl
  obtain ⟨H, hH⟩ : ∃ z : Heap, z = s.heap := ⟨_, rfl⟩
  rw [← hH]
  replace hS : va_S A s.heap H [] := by rw [hH]; exact va_S.rf
  replace hP : va_P (dC, dI) vwCl [(h0, .inr (0, [.int (nI mc), .ref ed, .int (nI sz0)])), (ed, .inl (cO, 10, .inr (.inr (.inr (.inr fe))))), (el, .inr (4, evs))] H := by rw [hH]; exact hP
  clear hH
  refine lv_aload_n hx hb dJx4a65c_add_9ea2d_0 rfl (lv_at hl 0 rfl) ?_
  refine lv_dup hx hb dJx4a65c_add_9ea2d_1 rfl ?_
  refine va_get (D := (dC, dI)) (ci := 0) (v := .int (nI mc)) (C := RJx4a65c) (T := TJx4a65c) (N := 3) hx hb hts in_c_AL_add_nm_Jx4a65c hown hK hP 0 rfl rfl 0 (by decide) (hts (.fieldLink RJx4a65c 63 "java/util/ArrayList" "modCount" "I") (List.mem_of_getElem? (i := 1) rfl)) (fun x9 h9 => u_same (hts (.sameField "java/util/ArrayList" "java/util/AbstractList" "modCount" "I") (List.mem_of_getElem? (i := 2) rfl)) x9 h9) rfl dJx4a65c_add_9ea2d_2 ?_
  refine lv_iconst (v := 1) hx hb dJx4a65c_add_9ea2d_5 (by decide) ?_
  refine lv_iadd hx hb dJx4a65c_add_9ea2d_6 ?_
  refine lv_topi (fun x_1 ex_1 => ?_)
  obtain rfl : x_1 = (nI (mc + 1)) := ex_1.trans ((nI_add mc 1).trans (show nI (mc + 1) = nI (mc + 1) from congrArg nI (by omega)))
  refine va_put (D := (dC, dI)) (ci := 0) (v := .int (nI (mc + 1))) (ty := .int) (C := RJx4a65c) (T := TJx4a65c) (N := 3) hx hb hts in_c_AL_add_nm_Jx4a65c tyJx4a65c tyJx4a65c_ok nmJx4a65c hown hK hP hD hS 0 rfl rfl 0 (by decide) (hts (.fieldLink RJx4a65c 63 "java/util/ArrayList" "modCount" "I") (List.mem_of_getElem? (i := 1) rfl)) (fun x9 h9 => u_same (hts (.sameField "java/util/ArrayList" "java/util/AbstractList" "modCount" "I") (List.mem_of_getElem? (i := 2) rfl)) x9 h9) rfl (by decide +kernel) rfl rfl (Nat.le_of_ble_eq_true rfl) dJx4a65c_add_9ea2d_7 (fun H locs hP hD hS => ?_)
  replace hP : va_P (dC, dI) vwCl [(h0, .inr (0, [.int (nI (mc + 1)), .ref ed, .int (nI sz0)])), (ed, .inl (cO, 10, .inr (.inr (.inr (.inr fe))))), (el, .inr (4, evs))] H := hP
  replace hD : va_D A [(h0, .inr (0, [.int (nI (mc + 1)), .ref ed, .int (nI sz0)])), (ed, .inl (cO, 10, .inr (.inr (.inr (.inr fe))))), (el, .inr (4, evs))] := hD
  refine lv_aload_n hx hb dJx4a65c_add_9ea2d_10 rfl (lv_at hl 0 rfl) ?_
  refine lv_aload_n hx hb dJx4a65c_add_9ea2d_11 rfl (lv_at hl 1 rfl) ?_
  refine lv_aload_n hx hb dJx4a65c_add_9ea2d_12 rfl (lv_at hl 0 rfl) ?_
  refine va_get (D := (dC, dI)) (ci := 0) (v := .ref ed) (C := RJx4a65c) (T := TJx4a65c) (N := 3) hx hb hts in_c_AL_add_nm_Jx4a65c hown hK hP 0 rfl rfl 1 (by decide) (hts (.fieldLink RJx4a65c 9 "java/util/ArrayList" "elementData" "[Ljava/lang/Object;") (List.mem_of_getElem? (i := 3) rfl)) (fun _ h9 => h9) rfl dJx4a65c_add_9ea2d_13 ?_
  refine lv_aload_n hx hb dJx4a65c_add_9ea2d_16 rfl (lv_at hl 0 rfl) ?_
  refine va_get (D := (dC, dI)) (ci := 0) (v := .int (nI sz0)) (C := RJx4a65c) (T := TJx4a65c) (N := 3) hx hb hts in_c_AL_add_nm_Jx4a65c hown hK hP 0 rfl rfl 2 (by decide) (hts (.fieldLink RJx4a65c 48 "java/util/ArrayList" "size" "I") (List.mem_of_getElem? (i := 4) rfl)) (fun _ h9 => h9) rfl dJx4a65c_add_9ea2d_17 ?_
  have hPc := hP.sub (ws' := [(h0, .inr (0, [.int (nI (mc + 1)), .ref ed, .int (nI sz0)])), (ed, .inl (cO, 10, .inr (.inr (.inr (.inr fe))))), (el, .inr (4, evs))]) [0, 1, 2] rfl
  have hDc := hD.sub (ws' := [(h0, .inr (0, [.int (nI (mc + 1)), .ref ed, .int (nI sz0)])), (ed, .inl (cO, 10, .inr (.inr (.inr (.inr fe))))), (el, .inr (4, evs))]) [0, 1, 2] (by decide +kernel) rfl
  have hKc := hK.sub (tys' := [(cO, (.object "java/lang/Object"))]) [0] rfl
  have hFc := va_free (wc := [(h0, .inr (0, [.int (nI (mc + 1)), .ref ed, .int (nI sz0)])), (ed, .inl (cO, 10, .inr (.inr (.inr (.inr fe))))), (el, .inr (4, evs))]) hD hS hA [0, 1, 2] rfl
  refine va_callv (va_runV (As := [.ref el, .ref ed, .int (nI sz0)]) (rest := []) ⟨hx, hb, hml, hown, hts⟩ (c_AL_add3_nm l dC dI (h0) ((mc + 1)) (ed) (sz0) (cO) (fe) (el) (evs) H.size hsz) (cwV 3 hts g_c_AL_add_nm_c_AL_add3_nm_131 rfl rfl rfl (by decide +kernel) ⟨Nat.le_of_ble_eq_true rfl, Nat.le_of_ble_eq_true rfl⟩) ⟨fun a U g mk q => by obtain ⟨q0, q1, qP, qK, qD, qE⟩ := q; exact ⟨q0, q1, qP, va_K.moved (u := U) (U := U.calling g mk a) (Vm.Alike.refl U.vm) qK, qD, ev.same (u := U) (U := U.calling g mk a) rfl qE⟩, va_recv hKc hPc (ci := 0) (q0 := 0) rfl rfl, fun U hU hW => ⟨rfl, by rw [hU], by rw [hU]; exact hPc, va_K.moved hW.alike hKc, hDc.weaken (fun _ _ _ _ => trivial), hE.warm hW⟩⟩ rfl rfl hl.1 rfl (lv_room (Nat.le_of_ble_eq_true rfl)) dJx4a65c_add_9ea2d_20 ⟨Nat.le_of_ble_eq_true rfl, Nat.le_of_ble_eq_true rfl⟩) hS (fun q _ h => hFc q h) hFc (fun u t H1 locs ht hvm hw hB hz1 hk1 hS => ?_)
  clear hPc hDc hKc
  obtain ⟨fe2_2, hP1, hK1, hD1, hel_2⟩ := hB
  rw [ht] at hP1
  have hK1 := va_K.moved hvm.symm hK1
  obtain ⟨hP, hD⟩ := va_join (wr := []) (w1 := [(h0, .inr (0, [.int (nI (mc + 1)), .ref ed, .int (nI (sz0 + 1))])), (ed, .inl (cO, 10, .inr (.inr (.inr (.inr fe2_2))))), (el, .inr (4, evs))]) hP hD [0, 1, 2] [] rfl rfl (by decide +kernel) (by decide +kernel) hk1 hFc hP1 hD1
  generalize H1 = H at hP hS ⊢
  replace hP : va_P (dC, dI) vwCl [(h0, .inr (0, [.int (nI (mc + 1)), .ref ed, .int (nI (sz0 + 1))])), (ed, .inl (cO, 10, .inr (.inr (.inr (.inr fe2_2))))), (el, .inr (4, evs))] H := hP
  replace hD : va_D A [(h0, .inr (0, [.int (nI (mc + 1)), .ref ed, .int (nI (sz0 + 1))])), (ed, .inl (cO, 10, .inr (.inr (.inr (.inr fe2_2))))), (el, .inr (4, evs))] := hD
  clear hw
  refine lv_iconst (v := 1) hx hb dJx4a65c_add_9ea2d_23 (by decide) ?_
  have hP9 := hP.sub (ws' := [(h0, .inr (0, [.int (nI (mc + 1)), .ref ed, .int (nI (sz0 + 1))])), (ed, .inl (cO, 10, .inr (.inr (.inr (.inr fe2_2))))), (el, .inr (4, evs))]) [0, 1, 2] rfl
  have hD9 := hD.sub (ws' := [(h0, .inr (0, [.int (nI (mc + 1)), .ref ed, .int (nI (sz0 + 1))])), (ed, .inl (cO, 10, .inr (.inr (.inr (.inr fe2_2))))), (el, .inr (4, evs))]) [0, 1, 2] (by decide +kernel) rfl
  have hK9 := hK.sub (tys' := [(cO, (.object "java/lang/Object"))]) [0] rfl
  exact W.zret (v := 1) hx hb hr (by decide) (fun t ht hW => ⟨⟨1, (), rfl, rfl, ⟨fe2_2, by rw [ht]; exact hP9, va_K.moved hW.alike hK9, hD9, hel_2⟩⟩, hS.F ht⟩) hS.2.2 dJx4a65c_add_9ea2d_24

noncomputable def tl_c_AL_add3_gt : List Cond := wsJx4a65c0 ++ (v_c_AL_grow0)
noncomputable def v_c_AL_add3_gt : List Cond := .code yJx4a65c_add_72be8 cJx4a65c_add_72be8 4 none :: ([.initialized RJx4a65c, .methodLink RJx4a65c 129 yJx4a65c_grow_d5877, .instanceMethod yJx4a65c_grow_d5877, .selects RJx4a65c yJx4a65c_grow_d5877 yJx4a65c_grow_d5877, .fieldLink RJx4a65c 48 "java/util/ArrayList" "size" "I"] ++ tl_c_AL_add3_gt)
theorem it_c_AL_add3_gt : ∀ w ∈ tl_c_AL_add3_gt, w ∈ v_c_AL_add3_gt := fun w h => List.mem_cons_of_mem _ (List.mem_append_right _ h)
theorem in_c_AL_add3_gt_Jx4a65c : ∀ w ∈ wsJx4a65c0, w ∈ v_c_AL_add3_gt := fun w h => it_c_AL_add3_gt w (List.mem_append_left _ h)
theorem ic_c_AL_add3_gt_c_AL_grow0 : ∀ w ∈ v_c_AL_grow0, w ∈ v_c_AL_add3_gt := fun w h => it_c_AL_add3_gt w (List.mem_append_right _ (h))
theorem gt_c_AL_add3_gt : ∀ w ∈ tl_c_AL_add3_gt, goodWord w = true := List.forall_mem_append.mpr ⟨gw_wsJx4a65c0, gw_c_AL_grow0⟩
theorem gw_c_AL_add3_gt : ∀ w ∈ v_c_AL_add3_gt, goodWord w = true := List.forall_mem_cons.mpr ⟨by decide +kernel, List.forall_mem_append.mpr ⟨List.all_eq_true.mp (by decide +kernel), gt_c_AL_add3_gt⟩⟩
theorem g_c_AL_add3_gt_c_AL_grow0_129 : GoodIn v_c_AL_add3_gt (wsV RJx4a65c 129 RJx4a65c yJx4a65c_grow_d5877 v_c_AL_grow0) := goodIn_app (goodIn_r [.methodLink RJx4a65c 129 yJx4a65c_grow_d5877, .instanceMethod yJx4a65c_grow_d5877, .selects RJx4a65c yJx4a65c_grow_d5877 yJx4a65c_grow_d5877, .initialized RJx4a65c] [2, 3, 4, 1] (by decide +kernel) (by decide +kernel)) (fun w h => ⟨ic_c_AL_add3_gt_c_AL_grow0 w h, good_of_word (gw_c_AL_grow0 w h)⟩)
set_option maxHeartbeats 4000000 in
set_option maxRecDepth 100000 in
theorem c_AL_add3_gt (l : Launch) (dC : Nat → ClassId) (dI : Nat → Nat → Nat) (zt : Nat) (h0 : Nat) (mc : Nat) (el : Nat) (evs : List Value) (sz : Nat)  : Met l yJx4a65c_add_72be8 v_c_AL_add3_gt ({ frames := 3, cells := 1, slots := 10, locals := 58 }) (va_Pc [.ref h0, .ref el, .ref zt, .int 0] (fun U => U.heap.size = sz ∧ va_P (dC, dI) vwCl [(h0, .inr (0, [.int (nI mc), .ref zt, .int 0])), (el, .inr (10, evs))] U.heap ∧ va_K (dC, dI) vwCl [] U ∧ va_D (fun _ => True) [(h0, .inr (0, [.int (nI mc), .ref zt, .int 0])), (el, .inr (10, evs))] ∧ ev U ∧ va_Z "java/util/ArrayList" "DEFAULTCAPACITY_EMPTY_ELEMENTDATA" "[Ljava/lang/Object;" (.ref zt) (va_A [(h0, .inr (0, [.int (nI mc), .ref zt, .int 0])), (el, .inr (10, evs))] sz) U U.heap ∧ va_T (.object "java/lang/Object") zt 0 (fun _ => .null) (va_A [(h0, .inr (0, [.int (nI mc), .ref zt, .int 0])), (el, .inr (10, evs))] sz) U U.heap)) (va_Qv (fun _ : Unit => True) (fun (_ : Unit) (t : State) => ∃ (ed2 : Nat) (cO2 : ClassId) (fe2 : Nat → Option Nat), va_P (dC, dI) vwCl [(h0, .inr (0, [.int (nI mc), .ref ed2, .int 1])), (ed2, .inl (cO2, 10, .inr (.inr (.inr (.inr fe2))))), (el, .inr (10, evs))] t.heap ∧ va_K (dC, dI) vwCl [(cO2, (.object "java/lang/Object"))] t ∧ va_D (va_A [(h0, .inr (0, [.int (nI mc), .ref zt, .int 0])), (el, .inr (10, evs))] sz) [(h0, .inr (0, [.int (nI mc), .ref ed2, .int 1])), (ed2, .inl (cO2, 10, .inr (.inr (.inr (.inr fe2))))), (el, .inr (10, evs))] ∧ (fe2 0 = some el)) (va_A [(h0, .inr (0, [.int (nI mc), .ref zt, .int 0])), (el, .inr (10, evs))] sz)) 1 10 (va_A [(h0, .inr (0, [.int (nI mc), .ref zt, .int 0])), (el, .inr (10, evs))] sz) := by
  refine va_MetF (cc := cJx4a65c_add_72be8) (maxL := 4) (ret := none) (by decide) rfl ?_
  intro p e s m args below meth c s₁ B hml hv
  obtain ⟨rfl, hsz, hP, hK, hD0, hE, hZ, hTz⟩ := hv
  have hx := B.exec
  have hb := B.bytes
  have hr := B.returns
  have hts := atoms_spec (ws := v_c_AL_add3_gt) B.pre
  have hown : s.vm.findClass RJx4a65c = some m.cls := findClass_of_methodNamed B.named
  have hlocks := B.notSynchronized
  subst hsz
  have hD := hD0.self (sz := s.heap.size)
  generalize hAe : va_A [(h0, .inr (0, [.int (nI mc), .ref zt, .int 0])), (el, .inr (10, evs))] s.heap.size = A at hD hZ hTz ⊢
  have hA : ∀ q : Nat, s.heap.size ≤ q → A q := fun q h => by rw [← hAe]; exact Or.inr h
  have hS : va_S A s.heap s.heap [] := va_S.rf
  replace hP : va_P (dC, dI) vwCl [(h0, .inr (0, [.int (nI mc), .ref zt, .int 0])), (el, .inr (10, evs))] s.heap := hP
  have hl := lv_entry ([.ref h0, .ref el, .ref zt, .int 0]) (n := 4) (Nat.le_of_ble_eq_true rfl)
  rw [lg_entry_eq]
  generalize (lg_sl ([.ref h0, .ref el, .ref zt, .int 0]) ++ List.replicate (4 - (lg_sl ([.ref h0, .ref el, .ref zt, .int 0])).length) Slot.unset).toArray = ls at hl ⊢
  replace hl : lv_has ls 4 [(0, .ref h0), (1, .ref el), (2, .ref zt), (3, .int 0)] := hl
  obtain ⟨H, hH⟩ : ∃ z : Heap, z = s.heap := ⟨_, rfl⟩
  rw [← hH]
  replace hS : va_S A s.heap H [] := by rw [hH]; exact va_S.rf
  replace hP : va_P (dC, dI) vwCl [(h0, .inr (0, [.int (nI mc), .ref zt, .int 0])), (el, .inr (10, evs))] H := by rw [hH]; exact hP
  clear hH
  refine lv_iload_n hx hb dJx4a65c_add_72be8_0 rfl (lv_at hl 3 rfl) ?_
  refine lv_aload_n hx hb dJx4a65c_add_72be8_1 rfl (lv_at hl 2 rfl) ?_
  refine va_tlen hx hb hTz hS (v := 0) rfl dJx4a65c_add_72be8_2 ?_
  refine lv_icmp_ne (tgt := 11) hx hb dJx4a65c_add_72be8_3 (by decide) (fun c_1 => ?_) (fun c_1 => ?_)
  · exact absurd c_1 (by decide)
  refine lv_aload_n hx hb dJx4a65c_add_72be8_6 rfl (lv_at hl 0 rfl) ?_
  have hPc := hP.sub (ws' := [(h0, .inr (0, [.int (nI mc), .ref zt, .int 0]))]) [0] rfl
  have hDc := hD.sub (ws' := [(h0, .inr (0, [.int (nI mc), .ref zt, .int 0]))]) [0] (by decide +kernel) rfl
  have hKc := hK.sub (tys' := []) [] rfl
  have hFc := va_free (wc := [(h0, .inr (0, [.int (nI mc), .ref zt, .int 0]))]) hD hS hA [0] rfl
  have hZc := (hZ.kept hS.2.1).narrow (fun q h => hFc q h)
  have hTc := (hTz.kept hS.2.1).narrow (fun q h => hFc q h)
  refine va_callr (va_runV (As := []) (rest := []) ⟨hx, hb, hml, hown, hts⟩ (c_AL_grow0 l dC dI (zt) (h0) (mc) H.size) (cwV 0 hts g_c_AL_add3_gt_c_AL_grow0_129 rfl rfl rfl (by decide +kernel) ⟨Nat.le_of_ble_eq_true rfl, Nat.le_of_ble_eq_true rfl⟩) ⟨fun a U g mk q => by obtain ⟨q0, q1, qP, qK, qD, qE, qZ, qT⟩ := q; exact ⟨q0, q1, qP, va_K.moved (u := U) (U := U.calling g mk a) (Vm.Alike.refl U.vm) qK, qD, ev.same (u := U) (U := U.calling g mk a) rfl qE, va_Z.moved (u := U) (U := U.calling g mk a) (Vm.Alike.refl U.vm) qZ, va_T.moved (u := U) (U := U.calling g mk a) (Vm.Alike.refl U.vm) qT⟩, va_recv hKc hPc (ci := 0) (q0 := 0) rfl rfl, fun U hU hW => ⟨rfl, by rw [hU], by rw [hU]; exact hPc, va_K.moved hW.alike hKc, hDc.weaken (fun _ _ _ _ => trivial), hE.warm hW, by rw [hU]; exact hZc.moved hW.alike, by rw [hU]; exact hTc.moved hW.alike⟩⟩ rfl rfl hl.1 rfl (lv_room (Nat.le_of_ble_eq_true rfl)) dJx4a65c_add_72be8_7 ⟨Nat.le_of_ble_eq_true rfl, Nat.le_of_ble_eq_true rfl⟩) hS (fun q _ h => hFc q h) hFc (fun u ra_2 t H1 locs ht hvm hw hB hz1 hk1 hS => ?_)
  clear hPc hDc hKc
  obtain ⟨cO_2, hP1, hK1, hD1⟩ := hB
  rw [ht] at hP1
  have hK1 := va_K.moved hvm.symm hK1
  obtain ⟨hP, hD⟩ := va_join (wr := [(el, .inr (10, evs))]) (w1 := [(h0, .inr (0, [.int (nI mc), .ref ra_2, .int 0])), (ra_2, .inl (cO_2, 10, .inr (.inr (.inr (.inr (fun _ => none))))))]) hP hD [0] [1] rfl rfl (by decide +kernel) (by decide +kernel) hk1 hFc hP1 hD1
  replace hK := hK.app hK1
  replace hK : va_K (dC, dI) vwCl [(cO_2, (.object "java/lang/Object"))] s := hK
  generalize H1 = H at hP hS ⊢
  replace hP : va_P (dC, dI) vwCl [(el, .inr (10, evs)), (h0, .inr (0, [.int (nI mc), .ref ra_2, .int 0])), (ra_2, .inl (cO_2, 10, .inr (.inr (.inr (.inr (fun _ => none))))))] H := hP
  replace hD : va_D A [(el, .inr (10, evs)), (h0, .inr (0, [.int (nI mc), .ref ra_2, .int 0])), (ra_2, .inl (cO_2, 10, .inr (.inr (.inr (.inr (fun _ => none))))))] := hD
  refine W.widen (k := 1) (n := 10) (Nat.le_of_ble_eq_true rfl) (Nat.le_of_ble_eq_true rfl) ?_
  clear hw
  refine lv_astore_n (lv' := [(2, .ref ra_2), (0, .ref h0), (1, .ref el), (3, .int 0)]) hx hb dJx4a65c_add_72be8_10 rfl hl (by decide) rfl (fun ls hl => ?_)
  refine lv_aload_n hx hb dJx4a65c_add_72be8_11 rfl (lv_at hl 0 rfl) ?_
  refine lv_iload_n hx hb dJx4a65c_add_72be8_12 rfl (lv_at hl 3 rfl) ?_
  refine lv_aload_n hx hb dJx4a65c_add_72be8_13 rfl (lv_at hl 2 rfl) ?_
  refine va_astqO hx hb hK hP hD hS 2 0 0 10 rfl rfl hE.CO9 rfl rfl (vp_in_nI (n := 0) (by omega) (by omega)) dJx4a65c_add_72be8_14 (fun H locs hP hD hS => ?_)
  obtain ⟨f_3, ef_3⟩ : ∃ z : Nat → Option Nat, z = va_up (fun _ => none) 0 (some el) := ⟨_, rfl⟩
  rw [(show Int32.toNatClampNeg (0 : Int32) = 0 by decide)] at hP hD
  replace hP : va_P (dC, dI) vwCl [(el, .inr (10, evs)), (h0, .inr (0, [.int (nI mc), .ref ra_2, .int 0])), (ra_2, .inl (cO_2, 10, .inr (.inr (.inr (.inr f_3)))))] H := by rw [ef_3]; exact hP
  replace hD : va_D A [(el, .inr (10, evs)), (h0, .inr (0, [.int (nI mc), .ref ra_2, .int 0])), (ra_2, .inl (cO_2, 10, .inr (.inr (.inr (.inr f_3)))))] := by rw [ef_3]; exact hD
  have g3_n : f_3 0 = some el := by rw [ef_3]; exact if_pos rfl
  refine lv_aload_n hx hb dJx4a65c_add_72be8_15 rfl (lv_at hl 1 rfl) ?_
  refine lv_iload_n hx hb dJx4a65c_add_72be8_16 rfl (lv_at hl 3 rfl) ?_
  refine lv_iconst (v := 1) hx hb dJx4a65c_add_72be8_17 (by decide) ?_
  refine lv_iadd hx hb dJx4a65c_add_72be8_18 ?_
  refine lv_topi (fun x_4 ex_4 => ?_)
  obtain rfl : x_4 = 1 := ex_4.trans (by decide)
  refine va_put (D := (dC, dI)) (ci := 0) (v := .int 1) (ty := .int) (C := RJx4a65c) (T := TJx4a65c) (N := 3) hx hb hts in_c_AL_add3_gt_Jx4a65c tyJx4a65c tyJx4a65c_ok nmJx4a65c hown hK hP hD hS 1 rfl rfl 2 (by decide) (hts (.fieldLink RJx4a65c 48 "java/util/ArrayList" "size" "I") (List.mem_of_getElem? (i := 5) rfl)) (fun _ h9 => h9) rfl (by decide +kernel) rfl rfl (Nat.le_of_ble_eq_true rfl) dJx4a65c_add_72be8_19 (fun H locs hP hD hS => ?_)
  replace hP : va_P (dC, dI) vwCl [(el, .inr (10, evs)), (h0, .inr (0, [.int (nI mc), .ref ra_2, .int 1])), (ra_2, .inl (cO_2, 10, .inr (.inr (.inr (.inr f_3)))))] H := hP
  replace hD : va_D A [(el, .inr (10, evs)), (h0, .inr (0, [.int (nI mc), .ref ra_2, .int 1])), (ra_2, .inl (cO_2, 10, .inr (.inr (.inr (.inr f_3)))))] := hD
  have hP9 := hP.sub (ws' := [(h0, .inr (0, [.int (nI mc), .ref ra_2, .int 1])), (ra_2, .inl (cO_2, 10, .inr (.inr (.inr (.inr f_3))))), (el, .inr (10, evs))]) [1, 2, 0] rfl
  have hD9 := hD.sub (ws' := [(h0, .inr (0, [.int (nI mc), .ref ra_2, .int 1])), (ra_2, .inl (cO_2, 10, .inr (.inr (.inr (.inr f_3))))), (el, .inr (10, evs))]) [1, 2, 0] (by decide +kernel) rfl
  have hK9 := hK.sub (tys' := [(cO_2, (.object "java/lang/Object"))]) [0] rfl
  exact W.vret hx hb hr (fun t ht hW => ⟨⟨(), rfl, trivial, ⟨ra_2, cO_2, f_3, by rw [ht]; exact hP9, va_K.moved hW.alike hK9, hD9, g3_n⟩⟩, hS.F ht⟩) hS.2.2 dJx4a65c_add_72be8_22

noncomputable def tl_c_AL_add_gt : List Cond := wsJx4a65c0 ++ (v_c_AL_add3_gt)
noncomputable def v_c_AL_add_gt : List Cond := .code yJx4a65c_add_9ea2d cJx4a65c_add_9ea2d 2 (some .boolean) :: ([.fieldLink RJx4a65c 63 "java/util/ArrayList" "modCount" "I", .sameField "java/util/ArrayList" "java/util/AbstractList" "modCount" "I", .fieldLink RJx4a65c 9 "java/util/ArrayList" "elementData" "[Ljava/lang/Object;", .fieldLink RJx4a65c 48 "java/util/ArrayList" "size" "I", .initialized RJx4a65c, .methodLink RJx4a65c 131 yJx4a65c_add_72be8, .instanceMethod yJx4a65c_add_72be8, .selects RJx4a65c yJx4a65c_add_72be8 yJx4a65c_add_72be8] ++ tl_c_AL_add_gt)
theorem it_c_AL_add_gt : ∀ w ∈ tl_c_AL_add_gt, w ∈ v_c_AL_add_gt := fun w h => List.mem_cons_of_mem _ (List.mem_append_right _ h)
theorem in_c_AL_add_gt_Jx4a65c : ∀ w ∈ wsJx4a65c0, w ∈ v_c_AL_add_gt := fun w h => it_c_AL_add_gt w (List.mem_append_left _ h)
theorem ic_c_AL_add_gt_c_AL_add3_gt : ∀ w ∈ v_c_AL_add3_gt, w ∈ v_c_AL_add_gt := fun w h => it_c_AL_add_gt w (List.mem_append_right _ (h))
theorem gt_c_AL_add_gt : ∀ w ∈ tl_c_AL_add_gt, goodWord w = true := List.forall_mem_append.mpr ⟨gw_wsJx4a65c0, gw_c_AL_add3_gt⟩
theorem gw_c_AL_add_gt : ∀ w ∈ v_c_AL_add_gt, goodWord w = true := List.forall_mem_cons.mpr ⟨by decide +kernel, List.forall_mem_append.mpr ⟨List.all_eq_true.mp (by decide +kernel), gt_c_AL_add_gt⟩⟩
theorem g_c_AL_add_gt_c_AL_add3_gt_131 : GoodIn v_c_AL_add_gt (wsV RJx4a65c 131 RJx4a65c yJx4a65c_add_72be8 v_c_AL_add3_gt) := goodIn_app (goodIn_r [.methodLink RJx4a65c 131 yJx4a65c_add_72be8, .instanceMethod yJx4a65c_add_72be8, .selects RJx4a65c yJx4a65c_add_72be8 yJx4a65c_add_72be8, .initialized RJx4a65c] [6, 7, 8, 5] (by decide +kernel) (by decide +kernel)) (fun w h => ⟨ic_c_AL_add_gt_c_AL_add3_gt w h, good_of_word (gw_c_AL_add3_gt w h)⟩)
set_option maxHeartbeats 4000000 in
set_option maxRecDepth 100000 in
theorem c_AL_add_gt (l : Launch) (dC : Nat → ClassId) (dI : Nat → Nat → Nat) (zt : Nat) (h0 : Nat) (mc : Nat) (el : Nat) (evs : List Value) (sz : Nat)  : Met l yJx4a65c_add_9ea2d v_c_AL_add_gt ({ frames := 4, cells := 1, slots := 10, locals := 81 }) (va_Pc [.ref h0, .ref el] (fun U => U.heap.size = sz ∧ va_P (dC, dI) vwCl [(h0, .inr (0, [.int (nI mc), .ref zt, .int 0])), (el, .inr (10, evs))] U.heap ∧ va_K (dC, dI) vwCl [] U ∧ va_D (fun _ => True) [(h0, .inr (0, [.int (nI mc), .ref zt, .int 0])), (el, .inr (10, evs))] ∧ ev U ∧ va_Z "java/util/ArrayList" "DEFAULTCAPACITY_EMPTY_ELEMENTDATA" "[Ljava/lang/Object;" (.ref zt) (va_A [(h0, .inr (0, [.int (nI mc), .ref zt, .int 0])), (el, .inr (10, evs))] sz) U U.heap ∧ va_T (.object "java/lang/Object") zt 0 (fun _ => .null) (va_A [(h0, .inr (0, [.int (nI mc), .ref zt, .int 0])), (el, .inr (10, evs))] sz) U U.heap)) (va_Qi (fun (r : Int32) (_ : Unit) => r = 1) (fun (_ : Unit) (t : State) => ∃ (ed2 : Nat) (cO2 : ClassId) (fe2 : Nat → Option Nat), va_P (dC, dI) vwCl [(h0, .inr (0, [.int (nI (mc + 1)), .ref ed2, .int 1])), (ed2, .inl (cO2, 10, .inr (.inr (.inr (.inr fe2))))), (el, .inr (10, evs))] t.heap ∧ va_K (dC, dI) vwCl [(cO2, (.object "java/lang/Object"))] t ∧ va_D (va_A [(h0, .inr (0, [.int (nI mc), .ref zt, .int 0])), (el, .inr (10, evs))] sz) [(h0, .inr (0, [.int (nI (mc + 1)), .ref ed2, .int 1])), (ed2, .inl (cO2, 10, .inr (.inr (.inr (.inr fe2))))), (el, .inr (10, evs))] ∧ (fe2 0 = some el)) (va_A [(h0, .inr (0, [.int (nI mc), .ref zt, .int 0])), (el, .inr (10, evs))] sz)) 1 10 (va_A [(h0, .inr (0, [.int (nI mc), .ref zt, .int 0])), (el, .inr (10, evs))] sz) := by
  refine va_MetF (cc := cJx4a65c_add_9ea2d) (maxL := 2) (ret := (some .boolean)) (by decide) rfl ?_
  intro p e s m args below meth c s₁ B hml hv
  obtain ⟨rfl, hsz, hP, hK, hD0, hE, hZ, hTz⟩ := hv
  have hx := B.exec
  have hb := B.bytes
  have hr := B.returns
  have hts := atoms_spec (ws := v_c_AL_add_gt) B.pre
  have hown : s.vm.findClass RJx4a65c = some m.cls := findClass_of_methodNamed B.named
  have hlocks := B.notSynchronized
  subst hsz
  have hD := hD0.self (sz := s.heap.size)
  generalize hAe : va_A [(h0, .inr (0, [.int (nI mc), .ref zt, .int 0])), (el, .inr (10, evs))] s.heap.size = A at hD hZ hTz ⊢
  have hA : ∀ q : Nat, s.heap.size ≤ q → A q := fun q h => by rw [← hAe]; exact Or.inr h
  have hS : va_S A s.heap s.heap [] := va_S.rf
  replace hP : va_P (dC, dI) vwCl [(h0, .inr (0, [.int (nI mc), .ref zt, .int 0])), (el, .inr (10, evs))] s.heap := hP
  have hl := lv_entry ([.ref h0, .ref el]) (n := 2) (Nat.le_of_ble_eq_true rfl)
  rw [lg_entry_eq]
  generalize (lg_sl ([.ref h0, .ref el]) ++ List.replicate (2 - (lg_sl ([.ref h0, .ref el])).length) Slot.unset).toArray = ls at hl ⊢
  replace hl : lv_has ls 2 [(0, .ref h0), (1, .ref el)] := hl
  obtain ⟨H, hH⟩ : ∃ z : Heap, z = s.heap := ⟨_, rfl⟩
  rw [← hH]
  replace hS : va_S A s.heap H [] := by rw [hH]; exact va_S.rf
  replace hP : va_P (dC, dI) vwCl [(h0, .inr (0, [.int (nI mc), .ref zt, .int 0])), (el, .inr (10, evs))] H := by rw [hH]; exact hP
  clear hH
  refine lv_aload_n hx hb dJx4a65c_add_9ea2d_0 rfl (lv_at hl 0 rfl) ?_
  refine lv_dup hx hb dJx4a65c_add_9ea2d_1 rfl ?_
  refine va_get (D := (dC, dI)) (ci := 0) (v := .int (nI mc)) (C := RJx4a65c) (T := TJx4a65c) (N := 3) hx hb hts in_c_AL_add_gt_Jx4a65c hown hK hP 0 rfl rfl 0 (by decide) (hts (.fieldLink RJx4a65c 63 "java/util/ArrayList" "modCount" "I") (List.mem_of_getElem? (i := 1) rfl)) (fun x9 h9 => u_same (hts (.sameField "java/util/ArrayList" "java/util/AbstractList" "modCount" "I") (List.mem_of_getElem? (i := 2) rfl)) x9 h9) rfl dJx4a65c_add_9ea2d_2 ?_
  refine lv_iconst (v := 1) hx hb dJx4a65c_add_9ea2d_5 (by decide) ?_
  refine lv_iadd hx hb dJx4a65c_add_9ea2d_6 ?_
  refine lv_topi (fun x_1 ex_1 => ?_)
  obtain rfl : x_1 = (nI (mc + 1)) := ex_1.trans ((nI_add mc 1).trans (show nI (mc + 1) = nI (mc + 1) from congrArg nI (by omega)))
  refine va_put (D := (dC, dI)) (ci := 0) (v := .int (nI (mc + 1))) (ty := .int) (C := RJx4a65c) (T := TJx4a65c) (N := 3) hx hb hts in_c_AL_add_gt_Jx4a65c tyJx4a65c tyJx4a65c_ok nmJx4a65c hown hK hP hD hS 0 rfl rfl 0 (by decide) (hts (.fieldLink RJx4a65c 63 "java/util/ArrayList" "modCount" "I") (List.mem_of_getElem? (i := 1) rfl)) (fun x9 h9 => u_same (hts (.sameField "java/util/ArrayList" "java/util/AbstractList" "modCount" "I") (List.mem_of_getElem? (i := 2) rfl)) x9 h9) rfl (by decide +kernel) rfl rfl (Nat.le_of_ble_eq_true rfl) dJx4a65c_add_9ea2d_7 (fun H locs hP hD hS => ?_)
  replace hP : va_P (dC, dI) vwCl [(h0, .inr (0, [.int (nI (mc + 1)), .ref zt, .int 0])), (el, .inr (10, evs))] H := hP
  replace hD : va_D A [(h0, .inr (0, [.int (nI (mc + 1)), .ref zt, .int 0])), (el, .inr (10, evs))] := hD
  refine lv_aload_n hx hb dJx4a65c_add_9ea2d_10 rfl (lv_at hl 0 rfl) ?_
  refine lv_aload_n hx hb dJx4a65c_add_9ea2d_11 rfl (lv_at hl 1 rfl) ?_
  refine lv_aload_n hx hb dJx4a65c_add_9ea2d_12 rfl (lv_at hl 0 rfl) ?_
  refine va_get (D := (dC, dI)) (ci := 0) (v := .ref zt) (C := RJx4a65c) (T := TJx4a65c) (N := 3) hx hb hts in_c_AL_add_gt_Jx4a65c hown hK hP 0 rfl rfl 1 (by decide) (hts (.fieldLink RJx4a65c 9 "java/util/ArrayList" "elementData" "[Ljava/lang/Object;") (List.mem_of_getElem? (i := 3) rfl)) (fun _ h9 => h9) rfl dJx4a65c_add_9ea2d_13 ?_
  refine lv_aload_n hx hb dJx4a65c_add_9ea2d_16 rfl (lv_at hl 0 rfl) ?_
  refine va_get (D := (dC, dI)) (ci := 0) (v := .int 0) (C := RJx4a65c) (T := TJx4a65c) (N := 3) hx hb hts in_c_AL_add_gt_Jx4a65c hown hK hP 0 rfl rfl 2 (by decide) (hts (.fieldLink RJx4a65c 48 "java/util/ArrayList" "size" "I") (List.mem_of_getElem? (i := 4) rfl)) (fun _ h9 => h9) rfl dJx4a65c_add_9ea2d_17 ?_
  have hPc := hP.sub (ws' := [(h0, .inr (0, [.int (nI (mc + 1)), .ref zt, .int 0])), (el, .inr (10, evs))]) [0, 1] rfl
  have hDc := hD.sub (ws' := [(h0, .inr (0, [.int (nI (mc + 1)), .ref zt, .int 0])), (el, .inr (10, evs))]) [0, 1] (by decide +kernel) rfl
  have hKc := hK.sub (tys' := []) [] rfl
  have hFc := va_free (wc := [(h0, .inr (0, [.int (nI (mc + 1)), .ref zt, .int 0])), (el, .inr (10, evs))]) hD hS hA [0, 1] rfl
  have hZc := (hZ.kept hS.2.1).narrow (fun q h => hFc q h)
  have hTc := (hTz.kept hS.2.1).narrow (fun q h => hFc q h)
  refine va_callv (va_runV (As := [.ref el, .ref zt, .int 0]) (rest := []) ⟨hx, hb, hml, hown, hts⟩ (c_AL_add3_gt l dC dI (zt) (h0) ((mc + 1)) (el) (evs) H.size) (cwV 3 hts g_c_AL_add_gt_c_AL_add3_gt_131 rfl rfl rfl (by decide +kernel) ⟨Nat.le_of_ble_eq_true rfl, Nat.le_of_ble_eq_true rfl⟩) ⟨fun a U g mk q => by obtain ⟨q0, q1, qP, qK, qD, qE, qZ, qT⟩ := q; exact ⟨q0, q1, qP, va_K.moved (u := U) (U := U.calling g mk a) (Vm.Alike.refl U.vm) qK, qD, ev.same (u := U) (U := U.calling g mk a) rfl qE, va_Z.moved (u := U) (U := U.calling g mk a) (Vm.Alike.refl U.vm) qZ, va_T.moved (u := U) (U := U.calling g mk a) (Vm.Alike.refl U.vm) qT⟩, va_recv hKc hPc (ci := 0) (q0 := 0) rfl rfl, fun U hU hW => ⟨rfl, by rw [hU], by rw [hU]; exact hPc, va_K.moved hW.alike hKc, hDc.weaken (fun _ _ _ _ => trivial), hE.warm hW, by rw [hU]; exact hZc.moved hW.alike, by rw [hU]; exact hTc.moved hW.alike⟩⟩ rfl rfl hl.1 rfl (lv_room (Nat.le_of_ble_eq_true rfl)) dJx4a65c_add_9ea2d_20 ⟨Nat.le_of_ble_eq_true rfl, Nat.le_of_ble_eq_true rfl⟩) hS (fun q _ h => hFc q h) hFc (fun u t H1 locs ht hvm hw hB hz1 hk1 hS => ?_)
  clear hPc hDc hKc
  obtain ⟨ed2_2, cO2_2, fe2_2, hP1, hK1, hD1, hel_2⟩ := hB
  rw [ht] at hP1
  have hK1 := va_K.moved hvm.symm hK1
  obtain ⟨hP, hD⟩ := va_join (wr := []) (w1 := [(h0, .inr (0, [.int (nI (mc + 1)), .ref ed2_2, .int 1])), (ed2_2, .inl (cO2_2, 10, .inr (.inr (.inr (.inr fe2_2))))), (el, .inr (10, evs))]) hP hD [0, 1] [] rfl rfl (by decide +kernel) (by decide +kernel) hk1 hFc hP1 hD1
  replace hK := hK.app hK1
  replace hK : va_K (dC, dI) vwCl [(cO2_2, (.object "java/lang/Object"))] s := hK
  generalize H1 = H at hP hS ⊢
  replace hP : va_P (dC, dI) vwCl [(h0, .inr (0, [.int (nI (mc + 1)), .ref ed2_2, .int 1])), (ed2_2, .inl (cO2_2, 10, .inr (.inr (.inr (.inr fe2_2))))), (el, .inr (10, evs))] H := hP
  replace hD : va_D A [(h0, .inr (0, [.int (nI (mc + 1)), .ref ed2_2, .int 1])), (ed2_2, .inl (cO2_2, 10, .inr (.inr (.inr (.inr fe2_2))))), (el, .inr (10, evs))] := hD
  refine W.widen (k := 1) (n := 10) (Nat.le_of_ble_eq_true rfl) (Nat.le_of_ble_eq_true rfl) ?_
  clear hw
  refine lv_iconst (v := 1) hx hb dJx4a65c_add_9ea2d_23 (by decide) ?_
  have hP9 := hP.sub (ws' := [(h0, .inr (0, [.int (nI (mc + 1)), .ref ed2_2, .int 1])), (ed2_2, .inl (cO2_2, 10, .inr (.inr (.inr (.inr fe2_2))))), (el, .inr (10, evs))]) [0, 1, 2] rfl
  have hD9 := hD.sub (ws' := [(h0, .inr (0, [.int (nI (mc + 1)), .ref ed2_2, .int 1])), (ed2_2, .inl (cO2_2, 10, .inr (.inr (.inr (.inr fe2_2))))), (el, .inr (10, evs))]) [0, 1, 2] (by decide +kernel) rfl
  have hK9 := hK.sub (tys' := [(cO2_2, (.object "java/lang/Object"))]) [0] rfl
  exact W.zret (v := 1) hx hb hr (by decide) (fun t ht hW => ⟨⟨1, (), rfl, rfl, ⟨ed2_2, cO2_2, fe2_2, by rw [ht]; exact hP9, va_K.moved hW.alike hK9, hD9, hel_2⟩⟩, hS.F ht⟩) hS.2.2 dJx4a65c_add_9ea2d_24

noncomputable def tl_c_X3_init : List Cond := wsX30
noncomputable def v_c_X3_init : List Cond := .code yX3_init cX3_init 6 none :: ([.methodLink RX3 3 objectInit, .instanceMethod objectInit, .code objectInit ⟨#[0xb1]⟩ 1 none, .fieldLink RX3 9 "ClaimBus$Message" "troubles" "[I", .fieldLink RX3 15 "ClaimBus$Message" "index" "I", .fieldLink RX3 19 "ClaimBus$Message" "to" "I", .fieldLink RX3 22 "ClaimBus$Message" "group" "I", .fieldLink RX3 25 "ClaimBus$Message" "size" "I", .fieldLink RX3 28 "ClaimBus$Message" "seed" "I"] ++ tl_c_X3_init)
theorem it_c_X3_init : ∀ w ∈ tl_c_X3_init, w ∈ v_c_X3_init := fun w h => List.mem_cons_of_mem _ (List.mem_append_right _ h)
theorem in_c_X3_init_X3 : ∀ w ∈ wsX30, w ∈ v_c_X3_init := fun w h => it_c_X3_init w (h)
theorem gt_c_X3_init : ∀ w ∈ tl_c_X3_init, goodWord w = true := gw_wsX30
theorem gw_c_X3_init : ∀ w ∈ v_c_X3_init, goodWord w = true := List.forall_mem_cons.mpr ⟨by decide +kernel, List.forall_mem_append.mpr ⟨List.all_eq_true.mp (by decide +kernel), gt_c_X3_init⟩⟩
set_option maxHeartbeats 4000000 in
set_option maxRecDepth 100000 in
/-- Message(..) -/
theorem c_X3_init (l : Launch) (dC : Nat → ClassId) (dI : Nat → Nat → Nat) (h0 : Nat) (mi : Nat) (mt : Nat) (mg : Nat) (ms : Nat) (sd : Int32) (sz : Nat)  : Met l yX3_init v_c_X3_init ({ frames := 1, cells := 0, slots := 0, locals := 18 }) (va_Pc [.ref h0, .int (nI mi), .int (nI mt), .int (nI mg), .int (nI ms), .int sd] (fun U => U.heap.size = sz ∧ va_P (dC, dI) vwCl [(h0, .inr (4, [.int 0, .int 0, .int 0, .int 0, .int 0, .null]))] U.heap ∧ va_K (dC, dI) vwCl [] U ∧ va_D (fun _ => True) [(h0, .inr (4, [.int 0, .int 0, .int 0, .int 0, .int 0, .null]))] ∧ ev U)) (va_Qv (fun _ : Unit => True) (fun (_ : Unit) (t : State) => va_P (dC, dI) vwCl [(h0, .inr (4, [.int (nI mi), .int (nI mt), .int (nI mg), .int (nI ms), .int sd, .null]))] t.heap ∧ va_K (dC, dI) vwCl [] t ∧ va_D (va_A [(h0, .inr (4, [.int 0, .int 0, .int 0, .int 0, .int 0, .null]))] sz) [(h0, .inr (4, [.int (nI mi), .int (nI mt), .int (nI mg), .int (nI ms), .int sd, .null]))]) (va_A [(h0, .inr (4, [.int 0, .int 0, .int 0, .int 0, .int 0, .null]))] sz)) 0 0 (va_A [(h0, .inr (4, [.int 0, .int 0, .int 0, .int 0, .int 0, .null]))] sz) := by
  refine Met.ofW (cc := cX3_init) (maxL := 6) (ret := none) (by decide) rfl ?_
  intro p e s m args below meth c s₁ B hml hv
  obtain ⟨rfl, hsz, hP, hK, hD0, hE⟩ := hv
  have hx := B.exec
  have hb := B.bytes
  have hr := B.returns
  have hts := atoms_spec (ws := v_c_X3_init) B.pre
  have hown : s.vm.findClass RX3 = some m.cls := findClass_of_methodNamed B.named
  have hlocks := B.notSynchronized
  have hin : meth.name = "<init>" := (name_of_methodNamed B.named B.method).1
  subst hsz
  have hD := hD0.self (sz := s.heap.size)
  generalize hAe : va_A [(h0, .inr (4, [.int 0, .int 0, .int 0, .int 0, .int 0, .null]))] s.heap.size = A at hD ⊢
  have hA : ∀ q : Nat, s.heap.size ≤ q → A q := fun q h => by rw [← hAe]; exact Or.inr h
  have hS : va_S A s.heap s.heap [] := va_S.rf
  replace hP : va_P (dC, dI) vwCl [(h0, .inr (4, [.int 0, .int 0, .int 0, .int 0, .int 0, .null]))] s.heap := hP
  have hl := lv_entry ([.ref h0, .int (nI mi), .int (nI mt), .int (nI mg), .int (nI ms), .int sd]) (n := 6) (Nat.le_of_ble_eq_true rfl)
  rw [lg_entry_eq]
  generalize (lg_sl ([.ref h0, .int (nI mi), .int (nI mt), .int (nI mg), .int (nI ms), .int sd]) ++ List.replicate (6 - (lg_sl ([.ref h0, .int (nI mi), .int (nI mt), .int (nI mg), .int (nI ms), .int sd])).length) Slot.unset).toArray = ls at hl ⊢
  replace hl : lv_has ls 6 [(0, .ref h0), (1, .int (nI mi)), (2, .int (nI mt)), (3, .int (nI mg)), (4, .int (nI ms)), (5, .int sd)] := hl
  obtain ⟨H, hH⟩ : ∃ z : Heap, z = s.heap := ⟨_, rfl⟩
  rw [← hH]
  replace hS : va_S A s.heap H [] := by rw [hH]; exact va_S.rf
  replace hP : va_P (dC, dI) vwCl [(h0, .inr (4, [.int 0, .int 0, .int 0, .int 0, .int 0, .null]))] H := by rw [hH]; exact hP
  clear hH
  refine lv_aload_n hx hb dX3_init_0 rfl (lv_at hl 0 rfl) ?_
  refine W.objInit hx hb hown (hts (.methodLink RX3 3 objectInit) (List.mem_of_getElem? (i := 1) rfl)) (hts (.instanceMethod objectInit) (List.mem_of_getElem? (i := 2) rfl)) (hts (.code objectInit ⟨#[0xb1]⟩ 1 none) (List.mem_of_getElem? (i := 3) rfl)) rfl (by rw [hml]; exact hl.1) rfl dX3_init_1 (Nat.le_of_ble_eq_true rfl) (Nat.le_of_ble_eq_true rfl) ?_
  refine W.eq (g2 := F0 m 4 ls []) rfl ?_
  refine lv_aload_n hx hb dX3_init_4 rfl (lv_at hl 0 rfl) ?_
  refine lv_null hx hb dX3_init_5 ?_
  refine va_put (D := (dC, dI)) (ci := 4) (v := .null) (ty := (.array .int)) (C := RX3) (T := TX3) (N := 6) hx hb hts in_c_X3_init_X3 tyX3 tyX3_ok nmX3 hown hK hP hD hS 0 rfl rfl 5 (by decide) (hts (.fieldLink RX3 9 "ClaimBus$Message" "troubles" "[I") (List.mem_of_getElem? (i := 4) rfl)) (fun _ h9 => h9) rfl (by decide +kernel) rfl rfl (Nat.le_of_ble_eq_true rfl) dX3_init_6 (fun H locs hP hD hS => ?_)
  replace hP : va_P (dC, dI) vwCl [(h0, .inr (4, [.int 0, .int 0, .int 0, .int 0, .int 0, .null]))] H := hP
  replace hD : va_D A [(h0, .inr (4, [.int 0, .int 0, .int 0, .int 0, .int 0, .null]))] := hD
  refine lv_aload_n hx hb dX3_init_9 rfl (lv_at hl 0 rfl) ?_
  refine lv_iload_n hx hb dX3_init_10 rfl (lv_at hl 1 rfl) ?_
  refine va_putF (D := (dC, dI)) (ci := 4) (v := .int (nI mi)) (ty := .int) (C := RX3) (T := TX3) (N := 6) hx hb hts in_c_X3_init_X3 tyX3 tyX3_ok nmX3 hown hK hP hD hS 0 rfl rfl 0 (by decide) (hts (.fieldLink RX3 15 "ClaimBus$Message" "index" "I") (List.mem_of_getElem? (i := 5) rfl)) (fun _ h9 => h9) rfl hin rfl (by decide +kernel) rfl rfl (Nat.le_of_ble_eq_true rfl) dX3_init_11 (fun H locs hP hD hS => ?_)
  replace hP : va_P (dC, dI) vwCl [(h0, .inr (4, [.int (nI mi), .int 0, .int 0, .int 0, .int 0, .null]))] H := hP
  replace hD : va_D A [(h0, .inr (4, [.int (nI mi), .int 0, .int 0, .int 0, .int 0, .null]))] := hD
  refine lv_aload_n hx hb dX3_init_14 rfl (lv_at hl 0 rfl) ?_
  refine lv_iload_n hx hb dX3_init_15 rfl (lv_at hl 2 rfl) ?_
  refine va_putF (D := (dC, dI)) (ci := 4) (v := .int (nI mt)) (ty := .int) (C := RX3) (T := TX3) (N := 6) hx hb hts in_c_X3_init_X3 tyX3 tyX3_ok nmX3 hown hK hP hD hS 0 rfl rfl 1 (by decide) (hts (.fieldLink RX3 19 "ClaimBus$Message" "to" "I") (List.mem_of_getElem? (i := 6) rfl)) (fun _ h9 => h9) rfl hin rfl (by decide +kernel) rfl rfl (Nat.le_of_ble_eq_true rfl) dX3_init_16 (fun H locs hP hD hS => ?_)
  replace hP : va_P (dC, dI) vwCl [(h0, .inr (4, [.int (nI mi), .int (nI mt), .int 0, .int 0, .int 0, .null]))] H := hP
  replace hD : va_D A [(h0, .inr (4, [.int (nI mi), .int (nI mt), .int 0, .int 0, .int 0, .null]))] := hD
  refine lv_aload_n hx hb dX3_init_19 rfl (lv_at hl 0 rfl) ?_
  refine lv_iload_n hx hb dX3_init_20 rfl (lv_at hl 3 rfl) ?_
  refine va_putF (D := (dC, dI)) (ci := 4) (v := .int (nI mg)) (ty := .int) (C := RX3) (T := TX3) (N := 6) hx hb hts in_c_X3_init_X3 tyX3 tyX3_ok nmX3 hown hK hP hD hS 0 rfl rfl 2 (by decide) (hts (.fieldLink RX3 22 "ClaimBus$Message" "group" "I") (List.mem_of_getElem? (i := 7) rfl)) (fun _ h9 => h9) rfl hin rfl (by decide +kernel) rfl rfl (Nat.le_of_ble_eq_true rfl) dX3_init_21 (fun H locs hP hD hS => ?_)
  replace hP : va_P (dC, dI) vwCl [(h0, .inr (4, [.int (nI mi), .int (nI mt), .int (nI mg), .int 0, .int 0, .null]))] H := hP
  replace hD : va_D A [(h0, .inr (4, [.int (nI mi), .int (nI mt), .int (nI mg), .int 0, .int 0, .null]))] := hD
  refine lv_aload_n hx hb dX3_init_24 rfl (lv_at hl 0 rfl) ?_
  refine lv_iload hx hb dX3_init_25 (lv_at hl 4 rfl) ?_
  refine va_putF (D := (dC, dI)) (ci := 4) (v := .int (nI ms)) (ty := .int) (C := RX3) (T := TX3) (N := 6) hx hb hts in_c_X3_init_X3 tyX3 tyX3_ok nmX3 hown hK hP hD hS 0 rfl rfl 3 (by decide) (hts (.fieldLink RX3 25 "ClaimBus$Message" "size" "I") (List.mem_of_getElem? (i := 8) rfl)) (fun _ h9 => h9) rfl hin rfl (by decide +kernel) rfl rfl (Nat.le_of_ble_eq_true rfl) dX3_init_27 (fun H locs hP hD hS => ?_)
  replace hP : va_P (dC, dI) vwCl [(h0, .inr (4, [.int (nI mi), .int (nI mt), .int (nI mg), .int (nI ms), .int 0, .null]))] H := hP
  replace hD : va_D A [(h0, .inr (4, [.int (nI mi), .int (nI mt), .int (nI mg), .int (nI ms), .int 0, .null]))] := hD
  refine lv_aload_n hx hb dX3_init_30 rfl (lv_at hl 0 rfl) ?_
  refine lv_iload hx hb dX3_init_31 (lv_at hl 5 rfl) ?_
  refine va_putF (D := (dC, dI)) (ci := 4) (v := .int sd) (ty := .int) (C := RX3) (T := TX3) (N := 6) hx hb hts in_c_X3_init_X3 tyX3 tyX3_ok nmX3 hown hK hP hD hS 0 rfl rfl 4 (by decide) (hts (.fieldLink RX3 28 "ClaimBus$Message" "seed" "I") (List.mem_of_getElem? (i := 9) rfl)) (fun _ h9 => h9) rfl hin rfl (by decide +kernel) rfl rfl (Nat.le_of_ble_eq_true rfl) dX3_init_33 (fun H locs hP hD hS => ?_)
  replace hP : va_P (dC, dI) vwCl [(h0, .inr (4, [.int (nI mi), .int (nI mt), .int (nI mg), .int (nI ms), .int sd, .null]))] H := hP
  replace hD : va_D A [(h0, .inr (4, [.int (nI mi), .int (nI mt), .int (nI mg), .int (nI ms), .int sd, .null]))] := hD
  have hP9 := hP.sub (ws' := [(h0, .inr (4, [.int (nI mi), .int (nI mt), .int (nI mg), .int (nI ms), .int sd, .null]))]) [0] rfl
  have hD9 := hD.sub (ws' := [(h0, .inr (4, [.int (nI mi), .int (nI mt), .int (nI mg), .int (nI ms), .int sd, .null]))]) [0] (by decide +kernel) rfl
  have hK9 := hK.sub (tys' := []) [] rfl
  exact W.vret hx hb hr (fun t ht hW => ⟨⟨(), rfl, trivial, ⟨by rw [ht]; exact hP9, va_K.moved hW.alike hK9, hD9⟩⟩, hS.F ht⟩) hS.2.2 dX3_init_36

noncomputable def tl_c_newMessage_gnull : List Cond := wsX30 ++ (wsX70 ++ (v_c_AL_size ++ (v_c_X3_init ++ (v_c_AL_add_gm))))
noncomputable def v_c_newMessage_gnull : List Cond := .code yX7_newMessage cX7_newMessage 6 (some (.object "ClaimBus$Message")) :: ([.classLink RX7 22 RX3, .instantiable RX3 6, .initialized RX3, .fieldLink RX7 12 "ClaimBus$Store" "messages" "Ljava/util/ArrayList;", .initialized RJx4a65c, .methodLink RX7 24 yJx4a65c_size_8abf5, .instanceMethod yJx4a65c_size_8abf5, .selects RJx4a65c yJx4a65c_size_8abf5 yJx4a65c_size_8abf5, .methodLink RX7 28 yX3_init, .instanceMethod yX3_init, .methodLink RX7 31 yJx4a65c_add_9ea2d, .instanceMethod yJx4a65c_add_9ea2d, .selects RJx4a65c yJx4a65c_add_9ea2d yJx4a65c_add_9ea2d] ++ tl_c_newMessage_gnull)
theorem it_c_newMessage_gnull : ∀ w ∈ tl_c_newMessage_gnull, w ∈ v_c_newMessage_gnull := fun w h => List.mem_cons_of_mem _ (List.mem_append_right _ h)
theorem in_c_newMessage_gnull_X3 : ∀ w ∈ wsX30, w ∈ v_c_newMessage_gnull := fun w h => it_c_newMessage_gnull w (List.mem_append_left _ h)
theorem in_c_newMessage_gnull_X7 : ∀ w ∈ wsX70, w ∈ v_c_newMessage_gnull := fun w h => it_c_newMessage_gnull w (List.mem_append_right _ (List.mem_append_left _ h))
theorem ic_c_newMessage_gnull_c_AL_size : ∀ w ∈ v_c_AL_size, w ∈ v_c_newMessage_gnull := fun w h => it_c_newMessage_gnull w (List.mem_append_right _ (List.mem_append_right _ (List.mem_append_left _ h)))
theorem ic_c_newMessage_gnull_c_X3_init : ∀ w ∈ v_c_X3_init, w ∈ v_c_newMessage_gnull := fun w h => it_c_newMessage_gnull w (List.mem_append_right _ (List.mem_append_right _ (List.mem_append_right _ (List.mem_append_left _ h))))
theorem ic_c_newMessage_gnull_c_AL_add_gm : ∀ w ∈ v_c_AL_add_gm, w ∈ v_c_newMessage_gnull := fun w h => it_c_newMessage_gnull w (List.mem_append_right _ (List.mem_append_right _ (List.mem_append_right _ (List.mem_append_right _ (h)))))
theorem gt_c_newMessage_gnull : ∀ w ∈ tl_c_newMessage_gnull, goodWord w = true := List.forall_mem_append.mpr ⟨gw_wsX30, List.forall_mem_append.mpr ⟨gw_wsX70, List.forall_mem_append.mpr ⟨gw_c_AL_size, List.forall_mem_append.mpr ⟨gw_c_X3_init, gw_c_AL_add_gm⟩⟩⟩⟩
theorem gw_c_newMessage_gnull : ∀ w ∈ v_c_newMessage_gnull, goodWord w = true := List.forall_mem_cons.mpr ⟨by decide +kernel, List.forall_mem_append.mpr ⟨List.all_eq_true.mp (by decide +kernel), gt_c_newMessage_gnull⟩⟩
theorem g_c_newMessage_gnull_c_AL_size_24 : GoodIn v_c_newMessage_gnull (wsV RX7 24 RJx4a65c yJx4a65c_size_8abf5 v_c_AL_size) := goodIn_app (goodIn_r [.methodLink RX7 24 yJx4a65c_size_8abf5, .instanceMethod yJx4a65c_size_8abf5, .selects RJx4a65c yJx4a65c_size_8abf5 yJx4a65c_size_8abf5, .initialized RJx4a65c] [6, 7, 8, 5] (by decide +kernel) (by decide +kernel)) (fun w h => ⟨ic_c_newMessage_gnull_c_AL_size w h, good_of_word (gw_c_AL_size w h)⟩)
theorem g_c_newMessage_gnull_c_X3_init_28 : GoodIn v_c_newMessage_gnull v_c_X3_init := fun w h => ⟨ic_c_newMessage_gnull_c_X3_init w h, good_of_word (gw_c_X3_init w h)⟩
theorem g_c_newMessage_gnull_c_AL_add_gm_31 : GoodIn v_c_newMessage_gnull (wsV RX7 31 RJx4a65c yJx4a65c_add_9ea2d v_c_AL_add_gm) := goodIn_app (goodIn_r [.methodLink RX7 31 yJx4a65c_add_9ea2d, .instanceMethod yJx4a65c_add_9ea2d, .selects RJx4a65c yJx4a65c_add_9ea2d yJx4a65c_add_9ea2d, .initialized RJx4a65c] [11, 12, 13, 5] (by decide +kernel) (by decide +kernel)) (fun w h => ⟨ic_c_newMessage_gnull_c_AL_add_gm w h, good_of_word (gw_c_AL_add_gm w h)⟩)
set_option maxHeartbeats 4000000 in
set_option maxRecDepth 100000 in
theorem c_newMessage_gnull (l : Launch) (dC : Nat → ClassId) (dI : Nat → Nat → Nat) (zt : Nat) (st : Nat) (ml : Nat) (mc : Nat) (mt : Nat) (mg : Nat) (ms : Nat) (sd : Int32) (sz : Nat)  : Met l yX7_newMessage v_c_newMessage_gnull ({ frames := 5, cells := 2, slots := 16, locals := 102 }) (va_Pc [.ref st, .int (nI mt), .int (nI mg), .int (nI ms), .int sd] (fun U => U.heap.size = sz ∧ va_P (dC, dI) vwCl [(st, .inr (8, [.ref ml, .null])), (ml, .inr (0, [.int (nI mc), .ref zt, .int 0]))] U.heap ∧ va_K (dC, dI) vwCl [] U ∧ va_D (fun _ => True) [(st, .inr (8, [.ref ml, .null])), (ml, .inr (0, [.int (nI mc), .ref zt, .int 0]))] ∧ ev U ∧ va_Z "java/util/ArrayList" "DEFAULTCAPACITY_EMPTY_ELEMENTDATA" "[Ljava/lang/Object;" (.ref zt) (va_A [(st, .inr (8, [.ref ml, .null])), (ml, .inr (0, [.int (nI mc), .ref zt, .int 0]))] sz) U U.heap ∧ va_T (.object "java/lang/Object") zt 0 (fun _ => .null) (va_A [(st, .inr (8, [.ref ml, .null])), (ml, .inr (0, [.int (nI mc), .ref zt, .int 0]))] sz) U U.heap)) (va_Qr (fun _ : Unit => True) (fun (_ : Unit) (ra : Nat) (t : State) => ∃ (ed2 : Nat) (cO2 : ClassId) (fe2 : Nat → Option Nat), va_P (dC, dI) vwCl [(st, .inr (8, [.ref ml, .null])), (ml, .inr (0, [.int (nI (mc + 1)), .ref ed2, .int 1])), (ed2, .inl (cO2, 10, .inr (.inr (.inr (.inr fe2))))), (ra, .inr (4, [.int 0, .int (nI mt), .int (nI mg), .int (nI ms), .int sd, .null]))] t.heap ∧ va_K (dC, dI) vwCl [(cO2, (.object "java/lang/Object"))] t ∧ va_D (va_A [(st, .inr (8, [.ref ml, .null])), (ml, .inr (0, [.int (nI mc), .ref zt, .int 0]))] sz) [(st, .inr (8, [.ref ml, .null])), (ml, .inr (0, [.int (nI (mc + 1)), .ref ed2, .int 1])), (ed2, .inl (cO2, 10, .inr (.inr (.inr (.inr fe2))))), (ra, .inr (4, [.int 0, .int (nI mt), .int (nI mg), .int (nI ms), .int sd, .null]))] ∧ (fe2 0 = some ra)) (va_A [(st, .inr (8, [.ref ml, .null])), (ml, .inr (0, [.int (nI mc), .ref zt, .int 0]))] sz)) 2 16 (va_A [(st, .inr (8, [.ref ml, .null])), (ml, .inr (0, [.int (nI mc), .ref zt, .int 0]))] sz) := by
  refine Met.ofW (cc := cX7_newMessage) (maxL := 6) (ret := (some (.object "ClaimBus$Message"))) (by decide) rfl ?_
  intro p e s m args below meth c s₁ B hml hv
  obtain ⟨rfl, hsz, hP, hK, hD0, hE, hZ, hTz⟩ := hv
  have hx := B.exec
  have hb := B.bytes
  have hr := B.returns
  have hts := atoms_spec (ws := v_c_newMessage_gnull) B.pre
  have hown : s.vm.findClass RX7 = some m.cls := findClass_of_methodNamed B.named
  have hlocks := B.notSynchronized
  subst hsz
  have hD := hD0.self (sz := s.heap.size)
  generalize hAe : va_A [(st, .inr (8, [.ref ml, .null])), (ml, .inr (0, [.int (nI mc), .ref zt, .int 0]))] s.heap.size = A at hD hZ hTz ⊢
  have hA : ∀ q : Nat, s.heap.size ≤ q → A q := fun q h => by rw [← hAe]; exact Or.inr h
  have hS : va_S A s.heap s.heap [] := va_S.rf
  replace hP : va_P (dC, dI) vwCl [(st, .inr (8, [.ref ml, .null])), (ml, .inr (0, [.int (nI mc), .ref zt, .int 0]))] s.heap := hP
  have hl := lv_entry ([.ref st, .int (nI mt), .int (nI mg), .int (nI ms), .int sd]) (n := 6) (Nat.le_of_ble_eq_true rfl)
  rw [lg_entry_eq]
  generalize (lg_sl ([.ref st, .int (nI mt), .int (nI mg), .int (nI ms), .int sd]) ++ List.replicate (6 - (lg_sl ([.ref st, .int (nI mt), .int (nI mg), .int (nI ms), .int sd])).length) Slot.unset).toArray = ls at hl ⊢
  replace hl : lv_has ls 6 [(0, .ref st), (1, .int (nI mt)), (2, .int (nI mg)), (3, .int (nI ms)), (4, .int sd)] := hl
  obtain ⟨H, hH⟩ : ∃ z : Heap, z = s.heap := ⟨_, rfl⟩
  rw [← hH]
  replace hS : va_S A s.heap H [] := by rw [hH]; exact va_S.rf
  replace hP : va_P (dC, dI) vwCl [(st, .inr (8, [.ref ml, .null])), (ml, .inr (0, [.int (nI mc), .ref zt, .int 0]))] H := by rw [hH]; exact hP
  clear hH
  refine va_new (ci := 4) (fs := [.int 0, .int 0, .int 0, .int 0, .int 0, .null]) (C := RX3) (T := TX3) (N := 6) hx hb hts in_c_newMessage_gnull_X3 tyX3 tyX3_ok hown (hts (.classLink RX7 22 RX3) (List.mem_of_getElem? (i := 1) rfl)) (hts (.instantiable RX3 6) (List.mem_of_getElem? (i := 2) rfl)) (hts (.initialized RX3) (List.mem_of_getElem? (i := 3) rfl)) hK hP hD hS hA rfl df_X3 (Nat.le_of_ble_eq_true rfl) (Nat.le_of_ble_eq_true rfl) dX7_newMessage_0 (fun q1 H hP hD hS => ?_)
  replace hP : va_P (dC, dI) vwCl [(st, .inr (8, [.ref ml, .null])), (ml, .inr (0, [.int (nI mc), .ref zt, .int 0])), (q1, .inr (4, [.int 0, .int 0, .int 0, .int 0, .int 0, .null]))] H := hP
  replace hD : va_D A [(st, .inr (8, [.ref ml, .null])), (ml, .inr (0, [.int (nI mc), .ref zt, .int 0])), (q1, .inr (4, [.int 0, .int 0, .int 0, .int 0, .int 0, .null]))] := hD
  refine W.widen (k := 1) (n := 6) (Nat.le_of_ble_eq_true rfl) (Nat.le_of_ble_eq_true rfl) ?_
  refine lv_dup hx hb dX7_newMessage_3 rfl ?_
  refine lv_aload_n hx hb dX7_newMessage_4 rfl (lv_at hl 0 rfl) ?_
  refine va_get (D := (dC, dI)) (ci := 8) (v := .ref ml) (C := RX7) (T := TX7) (N := 2) hx hb hts in_c_newMessage_gnull_X7 hown hK hP 0 rfl rfl 0 (by decide) (hts (.fieldLink RX7 12 "ClaimBus$Store" "messages" "Ljava/util/ArrayList;") (List.mem_of_getElem? (i := 4) rfl)) (fun _ h9 => h9) rfl dX7_newMessage_5 ?_
  have hPc := hP.sub (ws' := [(ml, .inr (0, [.int (nI mc), .ref zt, .int (nI 0)]))]) [1] rfl
  have hDc := hD.sub (ws' := [(ml, .inr (0, [.int (nI mc), .ref zt, .int (nI 0)]))]) [1] (by decide +kernel) rfl
  have hKc := hK.sub (tys' := []) [] rfl
  have hFc := ro_free hS hA
  refine va_calli (va_runV (As := []) (rest := [.ref q1, .ref q1]) ⟨hx, hb, hml, hown, hts⟩ (c_AL_size l dC dI (ml) (mc) (zt) (0) H.size) (cwV 0 hts g_c_newMessage_gnull_c_AL_size_24 rfl rfl rfl (by decide +kernel) ⟨Nat.le_of_ble_eq_true rfl, Nat.le_of_ble_eq_true rfl⟩) ⟨fun a U g mk q => by obtain ⟨q0, q1, qP, qK, qD, qE⟩ := q; exact ⟨q0, q1, qP, va_K.moved (u := U) (U := U.calling g mk a) (Vm.Alike.refl U.vm) qK, qD, ev.same (u := U) (U := U.calling g mk a) rfl qE⟩, va_recv hKc hPc (ci := 0) (q0 := 0) rfl rfl, fun U hU hW => ⟨rfl, by rw [hU], by rw [hU]; exact hPc, va_K.moved hW.alike hKc, hDc.weaken (fun _ _ _ _ => trivial), hE.warm hW⟩⟩ rfl rfl hl.1 rfl (lv_room (Nat.le_of_ble_eq_true rfl)) dX7_newMessage_8 ⟨Nat.le_of_ble_eq_true rfl, Nat.le_of_ble_eq_true rfl⟩) hS (fun q _ h => hFc q h) hFc (fun r_2 u t H1 locs ht hvm hw hB hz1 hk1 hS => ?_)
  clear hPc hDc hKc
  replace hP := ro_keep hP hk1
  generalize H1 = H at hP hS ⊢
  replace hP : va_P (dC, dI) vwCl [(st, .inr (8, [.ref ml, .null])), (ml, .inr (0, [.int (nI mc), .ref zt, .int 0])), (q1, .inr (4, [.int 0, .int 0, .int 0, .int 0, .int 0, .null]))] H := hP
  have hw := hw.symm
  subst hw
  rw [show ((nI 0) : Int32) = 0 from (congrArg nI (show 0 = 0 from by omega)).trans (by decide)]
  refine lv_iload_n hx hb dX7_newMessage_11 rfl (lv_at hl 1 rfl) ?_
  refine lv_iload_n hx hb dX7_newMessage_12 rfl (lv_at hl 2 rfl) ?_
  refine lv_iload_n hx hb dX7_newMessage_13 rfl (lv_at hl 3 rfl) ?_
  refine lv_iload hx hb dX7_newMessage_14 (lv_at hl 4 rfl) ?_
  have hPc := hP.sub (ws' := [(q1, .inr (4, [.int 0, .int 0, .int 0, .int 0, .int 0, .null]))]) [2] rfl
  have hDc := hD.sub (ws' := [(q1, .inr (4, [.int 0, .int 0, .int 0, .int 0, .int 0, .null]))]) [2] (by decide +kernel) rfl
  have hKc := hK.sub (tys' := []) [] rfl
  have hFc := va_free (wc := [(q1, .inr (4, [.int 0, .int 0, .int 0, .int 0, .int 0, .null]))]) hD hS hA [2] rfl
  refine va_callv (va_runI (As := [.int 0, .int (nI mt), .int (nI mg), .int (nI ms), .int sd]) (rest := [.ref q1]) ⟨hx, hb, hml, hown, hts⟩ (c_X3_init l dC dI (q1) (0) (mt) (mg) (ms) (sd) H.size) (cwI 5 hts g_c_newMessage_gnull_c_X3_init_28 rfl rfl rfl (hts (.initialized RX3) (List.mem_of_getElem? (i := 3) rfl)) (hts (.methodLink RX7 28 yX3_init) (List.mem_of_getElem? (i := 9) rfl)) (hts (.instanceMethod yX3_init) (List.mem_of_getElem? (i := 10) rfl)) rfl (by decide +kernel) ⟨Nat.le_of_ble_eq_true rfl, Nat.le_of_ble_eq_true rfl⟩) ⟨fun a U g mk q => by obtain ⟨q0, q1, qP, qK, qD, qE⟩ := q; exact ⟨q0, q1, qP, va_K.moved (u := U) (U := U.calling g mk a) (Vm.Alike.refl U.vm) qK, qD, ev.same (u := U) (U := U.calling g mk a) rfl qE⟩, fun U hU hW => ⟨rfl, by rw [hU], by rw [hU]; exact hPc, va_K.moved hW.alike hKc, hDc.weaken (fun _ _ _ _ => trivial), hE.warm hW⟩⟩ rfl rfl hl.1 rfl (lv_room (Nat.le_of_ble_eq_true rfl)) dX7_newMessage_16 ⟨Nat.le_of_ble_eq_true rfl, Nat.le_of_ble_eq_true rfl⟩) hS (fun q _ h => hFc q h) hFc (fun u t H1 locs ht hvm hw hB hz1 hk1 hS => ?_)
  clear hPc hDc hKc
  obtain ⟨hP1, hK1, hD1⟩ := hB
  rw [ht] at hP1
  have hK1 := va_K.moved hvm.symm hK1
  obtain ⟨hP, hD⟩ := va_join (wr := [(st, .inr (8, [.ref ml, .null])), (ml, .inr (0, [.int (nI mc), .ref zt, .int 0]))]) (w1 := [(q1, .inr (4, [.int (nI 0), .int (nI mt), .int (nI mg), .int (nI ms), .int sd, .null]))]) hP hD [2] [0, 1] rfl rfl (by decide +kernel) (by decide +kernel) hk1 hFc hP1 hD1
  generalize H1 = H at hP hS ⊢
  replace hP : va_P (dC, dI) vwCl [(st, .inr (8, [.ref ml, .null])), (ml, .inr (0, [.int (nI mc), .ref zt, .int 0])), (q1, .inr (4, [.int (nI 0), .int (nI mt), .int (nI mg), .int (nI ms), .int sd, .null]))] H := hP
  replace hD : va_D A [(st, .inr (8, [.ref ml, .null])), (ml, .inr (0, [.int (nI mc), .ref zt, .int 0])), (q1, .inr (4, [.int (nI 0), .int (nI mt), .int (nI mg), .int (nI ms), .int sd, .null]))] := hD
  rw [show ((nI 0) : Int32) = 0 from (congrArg nI (show 0 = 0 from by omega)).trans (by decide)] at hP hD
  replace hP : va_P (dC, dI) vwCl [(st, .inr (8, [.ref ml, .null])), (ml, .inr (0, [.int (nI mc), .ref zt, .int 0])), (q1, .inr (4, [.int 0, .int (nI mt), .int (nI mg), .int (nI ms), .int sd, .null]))] H := hP
  replace hD : va_D A [(st, .inr (8, [.ref ml, .null])), (ml, .inr (0, [.int (nI mc), .ref zt, .int 0])), (q1, .inr (4, [.int 0, .int (nI mt), .int (nI mg), .int (nI ms), .int sd, .null]))] := hD
  clear hw
  refine lv_astore (lv' := [(5, .ref q1), (0, .ref st), (1, .int (nI mt)), (2, .int (nI mg)), (3, .int (nI ms)), (4, .int sd)]) hx hb dX7_newMessage_19 hl (by decide) rfl (fun ls hl => ?_)
  refine lv_aload_n hx hb dX7_newMessage_21 rfl (lv_at hl 1 rfl) ?_
  refine va_get (D := (dC, dI)) (ci := 8) (v := .ref ml) (C := RX7) (T := TX7) (N := 2) hx hb hts in_c_newMessage_gnull_X7 hown hK hP 0 rfl rfl 0 (by decide) (hts (.fieldLink RX7 12 "ClaimBus$Store" "messages" "Ljava/util/ArrayList;") (List.mem_of_getElem? (i := 4) rfl)) (fun _ h9 => h9) rfl dX7_newMessage_22 ?_
  refine lv_aload hx hb dX7_newMessage_25 (lv_at hl 0 rfl) ?_
  have hPc := hP.sub (ws' := [(ml, .inr (0, [.int (nI mc), .ref zt, .int 0])), (q1, .inr (4, [.int 0, .int (nI mt), .int (nI mg), .int (nI ms), .int sd, .null]))]) [1, 2] rfl
  have hDc := hD.sub (ws' := [(ml, .inr (0, [.int (nI mc), .ref zt, .int 0])), (q1, .inr (4, [.int 0, .int (nI mt), .int (nI mg), .int (nI ms), .int sd, .null]))]) [1, 2] (by decide +kernel) rfl
  have hKc := hK.sub (tys' := []) [] rfl
  have hFc := va_free (wc := [(ml, .inr (0, [.int (nI mc), .ref zt, .int 0])), (q1, .inr (4, [.int 0, .int (nI mt), .int (nI mg), .int (nI ms), .int sd, .null]))]) hD hS hA [1, 2] rfl
  have hZc := (hZ.kept hS.2.1).narrow (fun q h => hFc q h)
  have hTc := (hTz.kept hS.2.1).narrow (fun q h => hFc q h)
  refine va_calli (va_runV (As := [.ref q1]) (rest := []) ⟨hx, hb, hml, hown, hts⟩ (c_AL_add_gm l dC dI (zt) (ml) (mc) (q1) ([.int 0, .int (nI mt), .int (nI mg), .int (nI ms), .int sd, .null]) H.size) (cwV 1 hts g_c_newMessage_gnull_c_AL_add_gm_31 rfl rfl rfl (by decide +kernel) ⟨Nat.le_of_ble_eq_true rfl, Nat.le_of_ble_eq_true rfl⟩) ⟨fun a U g mk q => by obtain ⟨q0, q1, qP, qK, qD, qE, qZ, qT⟩ := q; exact ⟨q0, q1, qP, va_K.moved (u := U) (U := U.calling g mk a) (Vm.Alike.refl U.vm) qK, qD, ev.same (u := U) (U := U.calling g mk a) rfl qE, va_Z.moved (u := U) (U := U.calling g mk a) (Vm.Alike.refl U.vm) qZ, va_T.moved (u := U) (U := U.calling g mk a) (Vm.Alike.refl U.vm) qT⟩, va_recv hKc hPc (ci := 0) (q0 := 0) rfl rfl, fun U hU hW => ⟨rfl, by rw [hU], by rw [hU]; exact hPc, va_K.moved hW.alike hKc, hDc.weaken (fun _ _ _ _ => trivial), hE.warm hW, by rw [hU]; exact hZc.moved hW.alike, by rw [hU]; exact hTc.moved hW.alike⟩⟩ rfl rfl hl.1 rfl (lv_room (Nat.le_of_ble_eq_true rfl)) dX7_newMessage_27 ⟨Nat.le_of_ble_eq_true rfl, Nat.le_of_ble_eq_true rfl⟩) hS (fun q _ h => hFc q h) hFc (fun r_4 u t H1 locs ht hvm hw hB hz1 hk1 hS => ?_)
  clear hPc hDc hKc
  obtain ⟨ed2_4, cO2_4, fe2_4, hP1, hK1, hD1, hel_4⟩ := hB
  rw [ht] at hP1
  have hK1 := va_K.moved hvm.symm hK1
  obtain ⟨hP, hD⟩ := va_join (wr := [(st, .inr (8, [.ref ml, .null]))]) (w1 := [(ml, .inr (0, [.int (nI (mc + 1)), .ref ed2_4, .int 1])), (ed2_4, .inl (cO2_4, 10, .inr (.inr (.inr (.inr fe2_4))))), (q1, .inr (4, [.int 0, .int (nI mt), .int (nI mg), .int (nI ms), .int sd, .null]))]) hP hD [1, 2] [0] rfl rfl (by decide +kernel) (by decide +kernel) hk1 hFc hP1 hD1
  replace hK := hK.app hK1
  replace hK : va_K (dC, dI) vwCl [(cO2_4, (.object "java/lang/Object"))] s := hK
  generalize H1 = H at hP hS ⊢
  replace hP : va_P (dC, dI) vwCl [(st, .inr (8, [.ref ml, .null])), (ml, .inr (0, [.int (nI (mc + 1)), .ref ed2_4, .int 1])), (ed2_4, .inl (cO2_4, 10, .inr (.inr (.inr (.inr fe2_4))))), (q1, .inr (4, [.int 0, .int (nI mt), .int (nI mg), .int (nI ms), .int sd, .null]))] H := hP
  replace hD : va_D A [(st, .inr (8, [.ref ml, .null])), (ml, .inr (0, [.int (nI (mc + 1)), .ref ed2_4, .int 1])), (ed2_4, .inl (cO2_4, 10, .inr (.inr (.inr (.inr fe2_4))))), (q1, .inr (4, [.int 0, .int (nI mt), .int (nI mg), .int (nI ms), .int sd, .null]))] := hD
  refine W.widen (k := 2) (n := 16) (Nat.le_of_ble_eq_true rfl) (Nat.le_of_ble_eq_true rfl) ?_
  have hw := hw.symm
  subst hw
  refine lv_pop hx hb dX7_newMessage_30 rfl ?_
  refine lv_aload hx hb dX7_newMessage_31 (lv_at hl 0 rfl) ?_
  have hP9 := hP.sub (ws' := [(st, .inr (8, [.ref ml, .null])), (ml, .inr (0, [.int (nI (mc + 1)), .ref ed2_4, .int 1])), (ed2_4, .inl (cO2_4, 10, .inr (.inr (.inr (.inr fe2_4))))), (q1, .inr (4, [.int 0, .int (nI mt), .int (nI mg), .int (nI ms), .int sd, .null]))]) [0, 1, 2, 3] rfl
  have hD9 := hD.sub (ws' := [(st, .inr (8, [.ref ml, .null])), (ml, .inr (0, [.int (nI (mc + 1)), .ref ed2_4, .int 1])), (ed2_4, .inl (cO2_4, 10, .inr (.inr (.inr (.inr fe2_4))))), (q1, .inr (4, [.int 0, .int (nI mt), .int (nI mg), .int (nI ms), .int sd, .null]))]) [0, 1, 2, 3] (by decide +kernel) rfl
  have hK9 := hK.sub (tys' := [(cO2_4, (.object "java/lang/Object"))]) [0] rfl
  exact W.aret (v := .ref q1) hx hb hr (Or.inl ⟨_, rfl⟩) (Or.inr ⟨_, rfl⟩) (fun t ht hW => ⟨⟨(), q1, rfl, trivial, ⟨ed2_4, cO2_4, fe2_4, by rw [ht]; exact hP9, va_K.moved hW.alike hK9, hD9, hel_4⟩⟩, hS.F ht⟩) hS.2.2 dX7_newMessage_33

noncomputable def tl_c_newMessage_nnull : List Cond := wsX30 ++ (wsX70 ++ (v_c_AL_size ++ (v_c_X3_init ++ (v_c_AL_add_nm))))
noncomputable def v_c_newMessage_nnull : List Cond := .code yX7_newMessage cX7_newMessage 6 (some (.object "ClaimBus$Message")) :: ([.classLink RX7 22 RX3, .instantiable RX3 6, .initialized RX3, .fieldLink RX7 12 "ClaimBus$Store" "messages" "Ljava/util/ArrayList;", .initialized RJx4a65c, .methodLink RX7 24 yJx4a65c_size_8abf5, .instanceMethod yJx4a65c_size_8abf5, .selects RJx4a65c yJx4a65c_size_8abf5 yJx4a65c_size_8abf5, .methodLink RX7 28 yX3_init, .instanceMethod yX3_init, .methodLink RX7 31 yJx4a65c_add_9ea2d, .instanceMethod yJx4a65c_add_9ea2d, .selects RJx4a65c yJx4a65c_add_9ea2d yJx4a65c_add_9ea2d] ++ tl_c_newMessage_nnull)
theorem it_c_newMessage_nnull : ∀ w ∈ tl_c_newMessage_nnull, w ∈ v_c_newMessage_nnull := fun w h => List.mem_cons_of_mem _ (List.mem_append_right _ h)
theorem in_c_newMessage_nnull_X3 : ∀ w ∈ wsX30, w ∈ v_c_newMessage_nnull := fun w h => it_c_newMessage_nnull w (List.mem_append_left _ h)
theorem in_c_newMessage_nnull_X7 : ∀ w ∈ wsX70, w ∈ v_c_newMessage_nnull := fun w h => it_c_newMessage_nnull w (List.mem_append_right _ (List.mem_append_left _ h))
theorem ic_c_newMessage_nnull_c_AL_size : ∀ w ∈ v_c_AL_size, w ∈ v_c_newMessage_nnull := fun w h => it_c_newMessage_nnull w (List.mem_append_right _ (List.mem_append_right _ (List.mem_append_left _ h)))
theorem ic_c_newMessage_nnull_c_X3_init : ∀ w ∈ v_c_X3_init, w ∈ v_c_newMessage_nnull := fun w h => it_c_newMessage_nnull w (List.mem_append_right _ (List.mem_append_right _ (List.mem_append_right _ (List.mem_append_left _ h))))
theorem ic_c_newMessage_nnull_c_AL_add_nm : ∀ w ∈ v_c_AL_add_nm, w ∈ v_c_newMessage_nnull := fun w h => it_c_newMessage_nnull w (List.mem_append_right _ (List.mem_append_right _ (List.mem_append_right _ (List.mem_append_right _ (h)))))
theorem gt_c_newMessage_nnull : ∀ w ∈ tl_c_newMessage_nnull, goodWord w = true := List.forall_mem_append.mpr ⟨gw_wsX30, List.forall_mem_append.mpr ⟨gw_wsX70, List.forall_mem_append.mpr ⟨gw_c_AL_size, List.forall_mem_append.mpr ⟨gw_c_X3_init, gw_c_AL_add_nm⟩⟩⟩⟩
theorem gw_c_newMessage_nnull : ∀ w ∈ v_c_newMessage_nnull, goodWord w = true := List.forall_mem_cons.mpr ⟨by decide +kernel, List.forall_mem_append.mpr ⟨List.all_eq_true.mp (by decide +kernel), gt_c_newMessage_nnull⟩⟩
theorem g_c_newMessage_nnull_c_AL_size_24 : GoodIn v_c_newMessage_nnull (wsV RX7 24 RJx4a65c yJx4a65c_size_8abf5 v_c_AL_size) := goodIn_app (goodIn_r [.methodLink RX7 24 yJx4a65c_size_8abf5, .instanceMethod yJx4a65c_size_8abf5, .selects RJx4a65c yJx4a65c_size_8abf5 yJx4a65c_size_8abf5, .initialized RJx4a65c] [6, 7, 8, 5] (by decide +kernel) (by decide +kernel)) (fun w h => ⟨ic_c_newMessage_nnull_c_AL_size w h, good_of_word (gw_c_AL_size w h)⟩)
theorem g_c_newMessage_nnull_c_X3_init_28 : GoodIn v_c_newMessage_nnull v_c_X3_init := fun w h => ⟨ic_c_newMessage_nnull_c_X3_init w h, good_of_word (gw_c_X3_init w h)⟩
theorem g_c_newMessage_nnull_c_AL_add_nm_31 : GoodIn v_c_newMessage_nnull (wsV RX7 31 RJx4a65c yJx4a65c_add_9ea2d v_c_AL_add_nm) := goodIn_app (goodIn_r [.methodLink RX7 31 yJx4a65c_add_9ea2d, .instanceMethod yJx4a65c_add_9ea2d, .selects RJx4a65c yJx4a65c_add_9ea2d yJx4a65c_add_9ea2d, .initialized RJx4a65c] [11, 12, 13, 5] (by decide +kernel) (by decide +kernel)) (fun w h => ⟨ic_c_newMessage_nnull_c_AL_add_nm w h, good_of_word (gw_c_AL_add_nm w h)⟩)
set_option maxHeartbeats 4000000 in
set_option maxRecDepth 100000 in
theorem c_newMessage_nnull (l : Launch) (dC : Nat → ClassId) (dI : Nat → Nat → Nat) (zt : Nat) (st : Nat) (ml : Nat) (mc : Nat) (ed : Nat) (sz0 : Nat) (cO : ClassId) (fe : Nat → Option Nat) (mt : Nat) (mg : Nat) (ms : Nat) (sd : Int32) (sz : Nat) (hsz : sz0 < 10) : Met l yX7_newMessage v_c_newMessage_nnull ({ frames := 2, cells := 1, slots := 6, locals := 44 }) (va_Pc [.ref st, .int (nI mt), .int (nI mg), .int (nI ms), .int sd] (fun U => U.heap.size = sz ∧ va_P (dC, dI) vwCl [(st, .inr (8, [.ref ml, .null])), (ml, .inr (0, [.int (nI mc), .ref ed, .int (nI sz0)])), (ed, .inl (cO, 10, .inr (.inr (.inr (.inr fe)))))] U.heap ∧ va_K (dC, dI) vwCl [(cO, (.object "java/lang/Object"))] U ∧ va_D (fun _ => True) [(st, .inr (8, [.ref ml, .null])), (ml, .inr (0, [.int (nI mc), .ref ed, .int (nI sz0)])), (ed, .inl (cO, 10, .inr (.inr (.inr (.inr fe)))))] ∧ ev U ∧ va_Z "java/util/ArrayList" "DEFAULTCAPACITY_EMPTY_ELEMENTDATA" "[Ljava/lang/Object;" (.ref zt) (va_A [(st, .inr (8, [.ref ml, .null])), (ml, .inr (0, [.int (nI mc), .ref ed, .int (nI sz0)])), (ed, .inl (cO, 10, .inr (.inr (.inr (.inr fe)))))] sz) U U.heap ∧ va_T (.object "java/lang/Object") zt 0 (fun _ => .null) (va_A [(st, .inr (8, [.ref ml, .null])), (ml, .inr (0, [.int (nI mc), .ref ed, .int (nI sz0)])), (ed, .inl (cO, 10, .inr (.inr (.inr (.inr fe)))))] sz) U U.heap)) (va_Qr (fun _ : Unit => True) (fun (_ : Unit) (ra : Nat) (t : State) => ∃ (fe2 : Nat → Option Nat), va_P (dC, dI) vwCl [(st, .inr (8, [.ref ml, .null])), (ml, .inr (0, [.int (nI (mc + 1)), .ref ed, .int (nI (sz0 + 1))])), (ed, .inl (cO, 10, .inr (.inr (.inr (.inr fe2))))), (ra, .inr (4, [.int (nI sz0), .int (nI mt), .int (nI mg), .int (nI ms), .int sd, .null]))] t.heap ∧ va_K (dC, dI) vwCl [(cO, (.object "java/lang/Object"))] t ∧ va_D (va_A [(st, .inr (8, [.ref ml, .null])), (ml, .inr (0, [.int (nI mc), .ref ed, .int (nI sz0)])), (ed, .inl (cO, 10, .inr (.inr (.inr (.inr fe)))))] sz) [(st, .inr (8, [.ref ml, .null])), (ml, .inr (0, [.int (nI (mc + 1)), .ref ed, .int (nI (sz0 + 1))])), (ed, .inl (cO, 10, .inr (.inr (.inr (.inr fe2))))), (ra, .inr (4, [.int (nI sz0), .int (nI mt), .int (nI mg), .int (nI ms), .int sd, .null]))] ∧ (fe2 sz0 = some ra)) (va_A [(st, .inr (8, [.ref ml, .null])), (ml, .inr (0, [.int (nI mc), .ref ed, .int (nI sz0)])), (ed, .inl (cO, 10, .inr (.inr (.inr (.inr fe)))))] sz)) 1 6 (va_A [(st, .inr (8, [.ref ml, .null])), (ml, .inr (0, [.int (nI mc), .ref ed, .int (nI sz0)])), (ed, .inl (cO, 10, .inr (.inr (.inr (.inr fe)))))] sz) := by
  refine Met.ofW (cc := cX7_newMessage) (maxL := 6) (ret := (some (.object "ClaimBus$Message"))) (by decide) rfl ?_
  intro p e s m args below meth c s₁ B hml hv
  obtain ⟨rfl, hsz, hP, hK, hD0, hE, hZ, hTz⟩ := hv
  have hx := B.exec
  have hb := B.bytes
  have hr := B.returns
  have hts := atoms_spec (ws := v_c_newMessage_nnull) B.pre
  have hown : s.vm.findClass RX7 = some m.cls := findClass_of_methodNamed B.named
  have hlocks := B.notSynchronized
  subst hsz
  have hD := hD0.self (sz := s.heap.size)
  generalize hAe : va_A [(st, .inr (8, [.ref ml, .null])), (ml, .inr (0, [.int (nI mc), .ref ed, .int (nI sz0)])), (ed, .inl (cO, 10, .inr (.inr (.inr (.inr fe)))))] s.heap.size = A at hD hZ hTz ⊢
  have hA : ∀ q : Nat, s.heap.size ≤ q → A q := fun q h => by rw [← hAe]; exact Or.inr h
  have hS : va_S A s.heap s.heap [] := va_S.rf
  replace hP : va_P (dC, dI) vwCl [(st, .inr (8, [.ref ml, .null])), (ml, .inr (0, [.int (nI mc), .ref ed, .int (nI sz0)])), (ed, .inl (cO, 10, .inr (.inr (.inr (.inr fe)))))] s.heap := hP
  have hl := lv_entry ([.ref st, .int (nI mt), .int (nI mg), .int (nI ms), .int sd]) (n := 6) (Nat.le_of_ble_eq_true rfl)
  rw [lg_entry_eq]
  generalize (lg_sl ([.ref st, .int (nI mt), .int (nI mg), .int (nI ms), .int sd]) ++ List.replicate (6 - (lg_sl ([.ref st, .int (nI mt), .int (nI mg), .int (nI ms), .int sd])).length) Slot.unset).toArray = ls at hl ⊢
  replace hl : lv_has ls 6 [(0, .ref st), (1, .int (nI mt)), (2, .int (nI mg)), (3, .int (nI ms)), (4, .int sd)] := hl
  obtain ⟨H, hH⟩ : ∃ z : Heap, z = s.heap := ⟨_, rfl⟩
  rw [← hH]
  replace hS : va_S A s.heap H [] := by rw [hH]; exact va_S.rf
  replace hP : va_P (dC, dI) vwCl [(st, .inr (8, [.ref ml, .null])), (ml, .inr (0, [.int (nI mc), .ref ed, .int (nI sz0)])), (ed, .inl (cO, 10, .inr (.inr (.inr (.inr fe)))))] H := by rw [hH]; exact hP
  clear hH
  refine va_new (ci := 4) (fs := [.int 0, .int 0, .int 0, .int 0, .int 0, .null]) (C := RX3) (T := TX3) (N := 6) hx hb hts in_c_newMessage_nnull_X3 tyX3 tyX3_ok hown (hts (.classLink RX7 22 RX3) (List.mem_of_getElem? (i := 1) rfl)) (hts (.instantiable RX3 6) (List.mem_of_getElem? (i := 2) rfl)) (hts (.initialized RX3) (List.mem_of_getElem? (i := 3) rfl)) hK hP hD hS hA rfl df_X3 (Nat.le_of_ble_eq_true rfl) (Nat.le_of_ble_eq_true rfl) dX7_newMessage_0 (fun q1 H hP hD hS => ?_)
  replace hP : va_P (dC, dI) vwCl [(st, .inr (8, [.ref ml, .null])), (ml, .inr (0, [.int (nI mc), .ref ed, .int (nI sz0)])), (ed, .inl (cO, 10, .inr (.inr (.inr (.inr fe))))), (q1, .inr (4, [.int 0, .int 0, .int 0, .int 0, .int 0, .null]))] H := hP
  replace hD : va_D A [(st, .inr (8, [.ref ml, .null])), (ml, .inr (0, [.int (nI mc), .ref ed, .int (nI sz0)])), (ed, .inl (cO, 10, .inr (.inr (.inr (.inr fe))))), (q1, .inr (4, [.int 0, .int 0, .int 0, .int 0, .int 0, .null]))] := hD
  refine W.widen (k := 1) (n := 6) (Nat.le_of_ble_eq_true rfl) (Nat.le_of_ble_eq_true rfl) ?_
  refine lv_dup hx hb dX7_newMessage_3 rfl ?_
  refine lv_aload_n hx hb dX7_newMessage_4 rfl (lv_at hl 0 rfl) ?_
  refine va_get (D := (dC, dI)) (ci := 8) (v := .ref ml) (C := RX7) (T := TX7) (N := 2) hx hb hts in_c_newMessage_nnull_X7 hown hK hP 0 rfl rfl 0 (by decide) (hts (.fieldLink RX7 12 "ClaimBus$Store" "messages" "Ljava/util/ArrayList;") (List.mem_of_getElem? (i := 4) rfl)) (fun _ h9 => h9) rfl dX7_newMessage_5 ?_
  have hPc := hP.sub (ws' := [(ml, .inr (0, [.int (nI mc), .ref ed, .int (nI sz0)]))]) [1] rfl
  have hDc := hD.sub (ws' := [(ml, .inr (0, [.int (nI mc), .ref ed, .int (nI sz0)]))]) [1] (by decide +kernel) rfl
  have hKc := hK.sub (tys' := []) [] rfl
  have hFc := ro_free hS hA
  refine va_calli (va_runV (As := []) (rest := [.ref q1, .ref q1]) ⟨hx, hb, hml, hown, hts⟩ (c_AL_size l dC dI (ml) (mc) (ed) (sz0) H.size) (cwV 0 hts g_c_newMessage_nnull_c_AL_size_24 rfl rfl rfl (by decide +kernel) ⟨Nat.le_of_ble_eq_true rfl, Nat.le_of_ble_eq_true rfl⟩) ⟨fun a U g mk q => by obtain ⟨q0, q1, qP, qK, qD, qE⟩ := q; exact ⟨q0, q1, qP, va_K.moved (u := U) (U := U.calling g mk a) (Vm.Alike.refl U.vm) qK, qD, ev.same (u := U) (U := U.calling g mk a) rfl qE⟩, va_recv hKc hPc (ci := 0) (q0 := 0) rfl rfl, fun U hU hW => ⟨rfl, by rw [hU], by rw [hU]; exact hPc, va_K.moved hW.alike hKc, hDc.weaken (fun _ _ _ _ => trivial), hE.warm hW⟩⟩ rfl rfl hl.1 rfl (lv_room (Nat.le_of_ble_eq_true rfl)) dX7_newMessage_8 ⟨Nat.le_of_ble_eq_true rfl, Nat.le_of_ble_eq_true rfl⟩) hS (fun q _ h => hFc q h) hFc (fun r_2 u t H1 locs ht hvm hw hB hz1 hk1 hS => ?_)
  clear hPc hDc hKc
  replace hP := ro_keep hP hk1
  generalize H1 = H at hP hS ⊢
  replace hP : va_P (dC, dI) vwCl [(st, .inr (8, [.ref ml, .null])), (ml, .inr (0, [.int (nI mc), .ref ed, .int (nI sz0)])), (ed, .inl (cO, 10, .inr (.inr (.inr (.inr fe))))), (q1, .inr (4, [.int 0, .int 0, .int 0, .int 0, .int 0, .null]))] H := hP
  have hw := hw.symm
  subst hw
  refine lv_iload_n hx hb dX7_newMessage_11 rfl (lv_at hl 1 rfl) ?_
  refine lv_iload_n hx hb dX7_newMessage_12 rfl (lv_at hl 2 rfl) ?_
  refine lv_iload_n hx hb dX7_newMessage_13 rfl (lv_at hl 3 rfl) ?_
  refine lv_iload hx hb dX7_newMessage_14 (lv_at hl 4 rfl) ?_
  have hPc := hP.sub (ws' := [(q1, .inr (4, [.int 0, .int 0, .int 0, .int 0, .int 0, .null]))]) [3] rfl
  have hDc := hD.sub (ws' := [(q1, .inr (4, [.int 0, .int 0, .int 0, .int 0, .int 0, .null]))]) [3] (by decide +kernel) rfl
  have hKc := hK.sub (tys' := []) [] rfl
  have hFc := va_free (wc := [(q1, .inr (4, [.int 0, .int 0, .int 0, .int 0, .int 0, .null]))]) hD hS hA [3] rfl
  refine va_callv (va_runI (As := [.int (nI sz0), .int (nI mt), .int (nI mg), .int (nI ms), .int sd]) (rest := [.ref q1]) ⟨hx, hb, hml, hown, hts⟩ (c_X3_init l dC dI (q1) (sz0) (mt) (mg) (ms) (sd) H.size) (cwI 5 hts g_c_newMessage_nnull_c_X3_init_28 rfl rfl rfl (hts (.initialized RX3) (List.mem_of_getElem? (i := 3) rfl)) (hts (.methodLink RX7 28 yX3_init) (List.mem_of_getElem? (i := 9) rfl)) (hts (.instanceMethod yX3_init) (List.mem_of_getElem? (i := 10) rfl)) rfl (by decide +kernel) ⟨Nat.le_of_ble_eq_true rfl, Nat.le_of_ble_eq_true rfl⟩) ⟨fun a U g mk q => by obtain ⟨q0, q1, qP, qK, qD, qE⟩ := q; exact ⟨q0, q1, qP, va_K.moved (u := U) (U := U.calling g mk a) (Vm.Alike.refl U.vm) qK, qD, ev.same (u := U) (U := U.calling g mk a) rfl qE⟩, fun U hU hW => ⟨rfl, by rw [hU], by rw [hU]; exact hPc, va_K.moved hW.alike hKc, hDc.weaken (fun _ _ _ _ => trivial), hE.warm hW⟩⟩ rfl rfl hl.1 rfl (lv_room (Nat.le_of_ble_eq_true rfl)) dX7_newMessage_16 ⟨Nat.le_of_ble_eq_true rfl, Nat.le_of_ble_eq_true rfl⟩) hS (fun q _ h => hFc q h) hFc (fun u t H1 locs ht hvm hw hB hz1 hk1 hS => ?_)
  clear hPc hDc hKc
  obtain ⟨hP1, hK1, hD1⟩ := hB
  rw [ht] at hP1
  have hK1 := va_K.moved hvm.symm hK1
  obtain ⟨hP, hD⟩ := va_join (wr := [(st, .inr (8, [.ref ml, .null])), (ml, .inr (0, [.int (nI mc), .ref ed, .int (nI sz0)])), (ed, .inl (cO, 10, .inr (.inr (.inr (.inr fe)))))]) (w1 := [(q1, .inr (4, [.int (nI sz0), .int (nI mt), .int (nI mg), .int (nI ms), .int sd, .null]))]) hP hD [3] [0, 1, 2] rfl rfl (by decide +kernel) (by decide +kernel) hk1 hFc hP1 hD1
  generalize H1 = H at hP hS ⊢
  replace hP : va_P (dC, dI) vwCl [(st, .inr (8, [.ref ml, .null])), (ml, .inr (0, [.int (nI mc), .ref ed, .int (nI sz0)])), (ed, .inl (cO, 10, .inr (.inr (.inr (.inr fe))))), (q1, .inr (4, [.int (nI sz0), .int (nI mt), .int (nI mg), .int (nI ms), .int sd, .null]))] H := hP
  replace hD : va_D A [(st, .inr (8, [.ref ml, .null])), (ml, .inr (0, [.int (nI mc), .ref ed, .int (nI sz0)])), (ed, .inl (cO, 10, .inr (.inr (.inr (.inr fe))))), (q1, .inr (4, [.int (nI sz0), .int (nI mt), .int (nI mg), .int (nI ms), .int sd, .null]))] := hD
  clear hw
  refine lv_astore (lv' := [(5, .ref q1), (0, .ref st), (1, .int (nI mt)), (2, .int (nI mg)), (3, .int (nI ms)), (4, .int sd)]) hx hb dX7_newMessage_19 hl (by decide) rfl (fun ls hl => ?_)
  refine lv_aload_n hx hb dX7_newMessage_21 rfl (lv_at hl 1 rfl) ?_
  refine va_get (D := (dC, dI)) (ci := 8) (v := .ref ml) (C := RX7) (T := TX7) (N := 2) hx hb hts in_c_newMessage_nnull_X7 hown hK hP 0 rfl rfl 0 (by decide) (hts (.fieldLink RX7 12 "ClaimBus$Store" "messages" "Ljava/util/ArrayList;") (List.mem_of_getElem? (i := 4) rfl)) (fun _ h9 => h9) rfl dX7_newMessage_22 ?_
  refine lv_aload hx hb dX7_newMessage_25 (lv_at hl 0 rfl) ?_
  have hPc := hP.sub (ws' := [(ml, .inr (0, [.int (nI mc), .ref ed, .int (nI sz0)])), (ed, .inl (cO, 10, .inr (.inr (.inr (.inr fe))))), (q1, .inr (4, [.int (nI sz0), .int (nI mt), .int (nI mg), .int (nI ms), .int sd, .null]))]) [1, 2, 3] rfl
  have hDc := hD.sub (ws' := [(ml, .inr (0, [.int (nI mc), .ref ed, .int (nI sz0)])), (ed, .inl (cO, 10, .inr (.inr (.inr (.inr fe))))), (q1, .inr (4, [.int (nI sz0), .int (nI mt), .int (nI mg), .int (nI ms), .int sd, .null]))]) [1, 2, 3] (by decide +kernel) rfl
  have hKc := hK.sub (tys' := [(cO, (.object "java/lang/Object"))]) [0] rfl
  have hFc := va_free (wc := [(ml, .inr (0, [.int (nI mc), .ref ed, .int (nI sz0)])), (ed, .inl (cO, 10, .inr (.inr (.inr (.inr fe))))), (q1, .inr (4, [.int (nI sz0), .int (nI mt), .int (nI mg), .int (nI ms), .int sd, .null]))]) hD hS hA [1, 2, 3] rfl
  refine va_calli (va_runV (As := [.ref q1]) (rest := []) ⟨hx, hb, hml, hown, hts⟩ (c_AL_add_nm l dC dI (ml) (mc) (ed) (sz0) (cO) (fe) (q1) ([.int (nI sz0), .int (nI mt), .int (nI mg), .int (nI ms), .int sd, .null]) H.size hsz) (cwV 1 hts g_c_newMessage_nnull_c_AL_add_nm_31 rfl rfl rfl (by decide +kernel) ⟨Nat.le_of_ble_eq_true rfl, Nat.le_of_ble_eq_true rfl⟩) ⟨fun a U g mk q => by obtain ⟨q0, q1, qP, qK, qD, qE⟩ := q; exact ⟨q0, q1, qP, va_K.moved (u := U) (U := U.calling g mk a) (Vm.Alike.refl U.vm) qK, qD, ev.same (u := U) (U := U.calling g mk a) rfl qE⟩, va_recv hKc hPc (ci := 0) (q0 := 0) rfl rfl, fun U hU hW => ⟨rfl, by rw [hU], by rw [hU]; exact hPc, va_K.moved hW.alike hKc, hDc.weaken (fun _ _ _ _ => trivial), hE.warm hW⟩⟩ rfl rfl hl.1 rfl (lv_room (Nat.le_of_ble_eq_true rfl)) dX7_newMessage_27 ⟨Nat.le_of_ble_eq_true rfl, Nat.le_of_ble_eq_true rfl⟩) hS (fun q _ h => hFc q h) hFc (fun r_4 u t H1 locs ht hvm hw hB hz1 hk1 hS => ?_)
  clear hPc hDc hKc
  obtain ⟨fe2_4, hP1, hK1, hD1, hel_4⟩ := hB
  rw [ht] at hP1
  have hK1 := va_K.moved hvm.symm hK1
  obtain ⟨hP, hD⟩ := va_join (wr := [(st, .inr (8, [.ref ml, .null]))]) (w1 := [(ml, .inr (0, [.int (nI (mc + 1)), .ref ed, .int (nI (sz0 + 1))])), (ed, .inl (cO, 10, .inr (.inr (.inr (.inr fe2_4))))), (q1, .inr (4, [.int (nI sz0), .int (nI mt), .int (nI mg), .int (nI ms), .int sd, .null]))]) hP hD [1, 2, 3] [0] rfl rfl (by decide +kernel) (by decide +kernel) hk1 hFc hP1 hD1
  generalize H1 = H at hP hS ⊢
  replace hP : va_P (dC, dI) vwCl [(st, .inr (8, [.ref ml, .null])), (ml, .inr (0, [.int (nI (mc + 1)), .ref ed, .int (nI (sz0 + 1))])), (ed, .inl (cO, 10, .inr (.inr (.inr (.inr fe2_4))))), (q1, .inr (4, [.int (nI sz0), .int (nI mt), .int (nI mg), .int (nI ms), .int sd, .null]))] H := hP
  replace hD : va_D A [(st, .inr (8, [.ref ml, .null])), (ml, .inr (0, [.int (nI (mc + 1)), .ref ed, .int (nI (sz0 + 1))])), (ed, .inl (cO, 10, .inr (.inr (.inr (.inr fe2_4))))), (q1, .inr (4, [.int (nI sz0), .int (nI mt), .int (nI mg), .int (nI ms), .int sd, .null]))] := hD
  have hw := hw.symm
  subst hw
  refine lv_pop hx hb dX7_newMessage_30 rfl ?_
  refine lv_aload hx hb dX7_newMessage_31 (lv_at hl 0 rfl) ?_
  have hP9 := hP.sub (ws' := [(st, .inr (8, [.ref ml, .null])), (ml, .inr (0, [.int (nI (mc + 1)), .ref ed, .int (nI (sz0 + 1))])), (ed, .inl (cO, 10, .inr (.inr (.inr (.inr fe2_4))))), (q1, .inr (4, [.int (nI sz0), .int (nI mt), .int (nI mg), .int (nI ms), .int sd, .null]))]) [0, 1, 2, 3] rfl
  have hD9 := hD.sub (ws' := [(st, .inr (8, [.ref ml, .null])), (ml, .inr (0, [.int (nI (mc + 1)), .ref ed, .int (nI (sz0 + 1))])), (ed, .inl (cO, 10, .inr (.inr (.inr (.inr fe2_4))))), (q1, .inr (4, [.int (nI sz0), .int (nI mt), .int (nI mg), .int (nI ms), .int sd, .null]))]) [0, 1, 2, 3] (by decide +kernel) rfl
  have hK9 := hK.sub (tys' := [(cO, (.object "java/lang/Object"))]) [0] rfl
  exact W.aret (v := .ref q1) hx hb hr (Or.inl ⟨_, rfl⟩) (Or.inr ⟨_, rfl⟩) (fun t ht hW => ⟨⟨(), q1, rfl, trivial, ⟨fe2_4, by rw [ht]; exact hP9, va_K.moved hW.alike hK9, hD9, hel_4⟩⟩, hS.F ht⟩) hS.2.2 dX7_newMessage_33

noncomputable def tl_c_newMessage_gck : List Cond := wsX30 ++ (wsX70 ++ (v_c_AL_size ++ (v_c_X3_init ++ (v_c_AL_add_gm))))
noncomputable def v_c_newMessage_gck : List Cond := .code yX7_newMessage cX7_newMessage 6 (some (.object "ClaimBus$Message")) :: ([.classLink RX7 22 RX3, .instantiable RX3 6, .initialized RX3, .fieldLink RX7 12 "ClaimBus$Store" "messages" "Ljava/util/ArrayList;", .initialized RJx4a65c, .methodLink RX7 24 yJx4a65c_size_8abf5, .instanceMethod yJx4a65c_size_8abf5, .selects RJx4a65c yJx4a65c_size_8abf5 yJx4a65c_size_8abf5, .methodLink RX7 28 yX3_init, .instanceMethod yX3_init, .methodLink RX7 31 yJx4a65c_add_9ea2d, .instanceMethod yJx4a65c_add_9ea2d, .selects RJx4a65c yJx4a65c_add_9ea2d yJx4a65c_add_9ea2d] ++ tl_c_newMessage_gck)
theorem it_c_newMessage_gck : ∀ w ∈ tl_c_newMessage_gck, w ∈ v_c_newMessage_gck := fun w h => List.mem_cons_of_mem _ (List.mem_append_right _ h)
theorem in_c_newMessage_gck_X3 : ∀ w ∈ wsX30, w ∈ v_c_newMessage_gck := fun w h => it_c_newMessage_gck w (List.mem_append_left _ h)
theorem in_c_newMessage_gck_X7 : ∀ w ∈ wsX70, w ∈ v_c_newMessage_gck := fun w h => it_c_newMessage_gck w (List.mem_append_right _ (List.mem_append_left _ h))
theorem ic_c_newMessage_gck_c_AL_size : ∀ w ∈ v_c_AL_size, w ∈ v_c_newMessage_gck := fun w h => it_c_newMessage_gck w (List.mem_append_right _ (List.mem_append_right _ (List.mem_append_left _ h)))
theorem ic_c_newMessage_gck_c_X3_init : ∀ w ∈ v_c_X3_init, w ∈ v_c_newMessage_gck := fun w h => it_c_newMessage_gck w (List.mem_append_right _ (List.mem_append_right _ (List.mem_append_right _ (List.mem_append_left _ h))))
theorem ic_c_newMessage_gck_c_AL_add_gm : ∀ w ∈ v_c_AL_add_gm, w ∈ v_c_newMessage_gck := fun w h => it_c_newMessage_gck w (List.mem_append_right _ (List.mem_append_right _ (List.mem_append_right _ (List.mem_append_right _ (h)))))
theorem gt_c_newMessage_gck : ∀ w ∈ tl_c_newMessage_gck, goodWord w = true := List.forall_mem_append.mpr ⟨gw_wsX30, List.forall_mem_append.mpr ⟨gw_wsX70, List.forall_mem_append.mpr ⟨gw_c_AL_size, List.forall_mem_append.mpr ⟨gw_c_X3_init, gw_c_AL_add_gm⟩⟩⟩⟩
theorem gw_c_newMessage_gck : ∀ w ∈ v_c_newMessage_gck, goodWord w = true := List.forall_mem_cons.mpr ⟨by decide +kernel, List.forall_mem_append.mpr ⟨List.all_eq_true.mp (by decide +kernel), gt_c_newMessage_gck⟩⟩
theorem g_c_newMessage_gck_c_AL_size_24 : GoodIn v_c_newMessage_gck (wsV RX7 24 RJx4a65c yJx4a65c_size_8abf5 v_c_AL_size) := goodIn_app (goodIn_r [.methodLink RX7 24 yJx4a65c_size_8abf5, .instanceMethod yJx4a65c_size_8abf5, .selects RJx4a65c yJx4a65c_size_8abf5 yJx4a65c_size_8abf5, .initialized RJx4a65c] [6, 7, 8, 5] (by decide +kernel) (by decide +kernel)) (fun w h => ⟨ic_c_newMessage_gck_c_AL_size w h, good_of_word (gw_c_AL_size w h)⟩)
theorem g_c_newMessage_gck_c_X3_init_28 : GoodIn v_c_newMessage_gck v_c_X3_init := fun w h => ⟨ic_c_newMessage_gck_c_X3_init w h, good_of_word (gw_c_X3_init w h)⟩
theorem g_c_newMessage_gck_c_AL_add_gm_31 : GoodIn v_c_newMessage_gck (wsV RX7 31 RJx4a65c yJx4a65c_add_9ea2d v_c_AL_add_gm) := goodIn_app (goodIn_r [.methodLink RX7 31 yJx4a65c_add_9ea2d, .instanceMethod yJx4a65c_add_9ea2d, .selects RJx4a65c yJx4a65c_add_9ea2d yJx4a65c_add_9ea2d, .initialized RJx4a65c] [11, 12, 13, 5] (by decide +kernel) (by decide +kernel)) (fun w h => ⟨ic_c_newMessage_gck_c_AL_add_gm w h, good_of_word (gw_c_AL_add_gm w h)⟩)
set_option maxHeartbeats 4000000 in
set_option maxRecDepth 100000 in
theorem c_newMessage_gck (l : Launch) (dC : Nat → ClassId) (dI : Nat → Nat → Nat) (zt : Nat) (st : Nat) (ml : Nat) (ck : Nat) (mc : Nat) (mt : Nat) (mg : Nat) (ms : Nat) (sd : Int32) (sz : Nat)  : Met l yX7_newMessage v_c_newMessage_gck ({ frames := 5, cells := 2, slots := 16, locals := 102 }) (va_Pc [.ref st, .int (nI mt), .int (nI mg), .int (nI ms), .int sd] (fun U => U.heap.size = sz ∧ va_P (dC, dI) vwCl [(st, .inr (8, [.ref ml, .ref ck])), (ml, .inr (0, [.int (nI mc), .ref zt, .int 0]))] U.heap ∧ va_K (dC, dI) vwCl [] U ∧ va_D (fun _ => True) [(st, .inr (8, [.ref ml, .ref ck])), (ml, .inr (0, [.int (nI mc), .ref zt, .int 0]))] ∧ ev U ∧ va_Z "java/util/ArrayList" "DEFAULTCAPACITY_EMPTY_ELEMENTDATA" "[Ljava/lang/Object;" (.ref zt) (va_A [(st, .inr (8, [.ref ml, .ref ck])), (ml, .inr (0, [.int (nI mc), .ref zt, .int 0]))] sz) U U.heap ∧ va_T (.object "java/lang/Object") zt 0 (fun _ => .null) (va_A [(st, .inr (8, [.ref ml, .ref ck])), (ml, .inr (0, [.int (nI mc), .ref zt, .int 0]))] sz) U U.heap)) (va_Qr (fun _ : Unit => True) (fun (_ : Unit) (ra : Nat) (t : State) => ∃ (ed2 : Nat) (cO2 : ClassId) (fe2 : Nat → Option Nat), va_P (dC, dI) vwCl [(st, .inr (8, [.ref ml, .ref ck])), (ml, .inr (0, [.int (nI (mc + 1)), .ref ed2, .int 1])), (ed2, .inl (cO2, 10, .inr (.inr (.inr (.inr fe2))))), (ra, .inr (4, [.int 0, .int (nI mt), .int (nI mg), .int (nI ms), .int sd, .null]))] t.heap ∧ va_K (dC, dI) vwCl [(cO2, (.object "java/lang/Object"))] t ∧ va_D (va_A [(st, .inr (8, [.ref ml, .ref ck])), (ml, .inr (0, [.int (nI mc), .ref zt, .int 0]))] sz) [(st, .inr (8, [.ref ml, .ref ck])), (ml, .inr (0, [.int (nI (mc + 1)), .ref ed2, .int 1])), (ed2, .inl (cO2, 10, .inr (.inr (.inr (.inr fe2))))), (ra, .inr (4, [.int 0, .int (nI mt), .int (nI mg), .int (nI ms), .int sd, .null]))] ∧ (fe2 0 = some ra)) (va_A [(st, .inr (8, [.ref ml, .ref ck])), (ml, .inr (0, [.int (nI mc), .ref zt, .int 0]))] sz)) 2 16 (va_A [(st, .inr (8, [.ref ml, .ref ck])), (ml, .inr (0, [.int (nI mc), .ref zt, .int 0]))] sz) := by
  refine Met.ofW (cc := cX7_newMessage) (maxL := 6) (ret := (some (.object "ClaimBus$Message"))) (by decide) rfl ?_
  intro p e s m args below meth c s₁ B hml hv
  obtain ⟨rfl, hsz, hP, hK, hD0, hE, hZ, hTz⟩ := hv
  have hx := B.exec
  have hb := B.bytes
  have hr := B.returns
  have hts := atoms_spec (ws := v_c_newMessage_gck) B.pre
  have hown : s.vm.findClass RX7 = some m.cls := findClass_of_methodNamed B.named
  have hlocks := B.notSynchronized
  subst hsz
  have hD := hD0.self (sz := s.heap.size)
  generalize hAe : va_A [(st, .inr (8, [.ref ml, .ref ck])), (ml, .inr (0, [.int (nI mc), .ref zt, .int 0]))] s.heap.size = A at hD hZ hTz ⊢
  have hA : ∀ q : Nat, s.heap.size ≤ q → A q := fun q h => by rw [← hAe]; exact Or.inr h
  have hS : va_S A s.heap s.heap [] := va_S.rf
  replace hP : va_P (dC, dI) vwCl [(st, .inr (8, [.ref ml, .ref ck])), (ml, .inr (0, [.int (nI mc), .ref zt, .int 0]))] s.heap := hP
  have hl := lv_entry ([.ref st, .int (nI mt), .int (nI mg), .int (nI ms), .int sd]) (n := 6) (Nat.le_of_ble_eq_true rfl)
  rw [lg_entry_eq]
  generalize (lg_sl ([.ref st, .int (nI mt), .int (nI mg), .int (nI ms), .int sd]) ++ List.replicate (6 - (lg_sl ([.ref st, .int (nI mt), .int (nI mg), .int (nI ms), .int sd])).length) Slot.unset).toArray = ls at hl ⊢
  replace hl : lv_has ls 6 [(0, .ref st), (1, .int (nI mt)), (2, .int (nI mg)), (3, .int (nI ms)), (4, .int sd)] := hl
  obtain ⟨H, hH⟩ : ∃ z : Heap, z = s.heap := ⟨_, rfl⟩
  rw [← hH]
  replace hS : va_S A s.heap H [] := by rw [hH]; exact va_S.rf
  replace hP : va_P (dC, dI) vwCl [(st, .inr (8, [.ref ml, .ref ck])), (ml, .inr (0, [.int (nI mc), .ref zt, .int 0]))] H := by rw [hH]; exact hP
  clear hH
  refine va_new (ci := 4) (fs := [.int 0, .int 0, .int 0, .int 0, .int 0, .null]) (C := RX3) (T := TX3) (N := 6) hx hb hts in_c_newMessage_gck_X3 tyX3 tyX3_ok hown (hts (.classLink RX7 22 RX3) (List.mem_of_getElem? (i := 1) rfl)) (hts (.instantiable RX3 6) (List.mem_of_getElem? (i := 2) rfl)) (hts (.initialized RX3) (List.mem_of_getElem? (i := 3) rfl)) hK hP hD hS hA rfl df_X3 (Nat.le_of_ble_eq_true rfl) (Nat.le_of_ble_eq_true rfl) dX7_newMessage_0 (fun q1 H hP hD hS => ?_)
  replace hP : va_P (dC, dI) vwCl [(st, .inr (8, [.ref ml, .ref ck])), (ml, .inr (0, [.int (nI mc), .ref zt, .int 0])), (q1, .inr (4, [.int 0, .int 0, .int 0, .int 0, .int 0, .null]))] H := hP
  replace hD : va_D A [(st, .inr (8, [.ref ml, .ref ck])), (ml, .inr (0, [.int (nI mc), .ref zt, .int 0])), (q1, .inr (4, [.int 0, .int 0, .int 0, .int 0, .int 0, .null]))] := hD
  refine W.widen (k := 1) (n := 6) (Nat.le_of_ble_eq_true rfl) (Nat.le_of_ble_eq_true rfl) ?_
  refine lv_dup hx hb dX7_newMessage_3 rfl ?_
  refine lv_aload_n hx hb dX7_newMessage_4 rfl (lv_at hl 0 rfl) ?_
  refine va_get (D := (dC, dI)) (ci := 8) (v := .ref ml) (C := RX7) (T := TX7) (N := 2) hx hb hts in_c_newMessage_gck_X7 hown hK hP 0 rfl rfl 0 (by decide) (hts (.fieldLink RX7 12 "ClaimBus$Store" "messages" "Ljava/util/ArrayList;") (List.mem_of_getElem? (i := 4) rfl)) (fun _ h9 => h9) rfl dX7_newMessage_5 ?_
  have hPc := hP.sub (ws' := [(ml, .inr (0, [.int (nI mc), .ref zt, .int (nI 0)]))]) [1] rfl
  have hDc := hD.sub (ws' := [(ml, .inr (0, [.int (nI mc), .ref zt, .int (nI 0)]))]) [1] (by decide +kernel) rfl
  have hKc := hK.sub (tys' := []) [] rfl
  have hFc := ro_free hS hA
  refine va_calli (va_runV (As := []) (rest := [.ref q1, .ref q1]) ⟨hx, hb, hml, hown, hts⟩ (c_AL_size l dC dI (ml) (mc) (zt) (0) H.size) (cwV 0 hts g_c_newMessage_gck_c_AL_size_24 rfl rfl rfl (by decide +kernel) ⟨Nat.le_of_ble_eq_true rfl, Nat.le_of_ble_eq_true rfl⟩) ⟨fun a U g mk q => by obtain ⟨q0, q1, qP, qK, qD, qE⟩ := q; exact ⟨q0, q1, qP, va_K.moved (u := U) (U := U.calling g mk a) (Vm.Alike.refl U.vm) qK, qD, ev.same (u := U) (U := U.calling g mk a) rfl qE⟩, va_recv hKc hPc (ci := 0) (q0 := 0) rfl rfl, fun U hU hW => ⟨rfl, by rw [hU], by rw [hU]; exact hPc, va_K.moved hW.alike hKc, hDc.weaken (fun _ _ _ _ => trivial), hE.warm hW⟩⟩ rfl rfl hl.1 rfl (lv_room (Nat.le_of_ble_eq_true rfl)) dX7_newMessage_8 ⟨Nat.le_of_ble_eq_true rfl, Nat.le_of_ble_eq_true rfl⟩) hS (fun q _ h => hFc q h) hFc (fun r_2 u t H1 locs ht hvm hw hB hz1 hk1 hS => ?_)
  clear hPc hDc hKc
  replace hP := ro_keep hP hk1
  generalize H1 = H at hP hS ⊢
  replace hP : va_P (dC, dI) vwCl [(st, .inr (8, [.ref ml, .ref ck])), (ml, .inr (0, [.int (nI mc), .ref zt, .int 0])), (q1, .inr (4, [.int 0, .int 0, .int 0, .int 0, .int 0, .null]))] H := hP
  have hw := hw.symm
  subst hw
  rw [show ((nI 0) : Int32) = 0 from (congrArg nI (show 0 = 0 from by omega)).trans (by decide)]
  refine lv_iload_n hx hb dX7_newMessage_11 rfl (lv_at hl 1 rfl) ?_
  refine lv_iload_n hx hb dX7_newMessage_12 rfl (lv_at hl 2 rfl) ?_
  refine lv_iload_n hx hb dX7_newMessage_13 rfl (lv_at hl 3 rfl) ?_
  refine lv_iload hx hb dX7_newMessage_14 (lv_at hl 4 rfl) ?_
  have hPc := hP.sub (ws' := [(q1, .inr (4, [.int 0, .int 0, .int 0, .int 0, .int 0, .null]))]) [2] rfl
  have hDc := hD.sub (ws' := [(q1, .inr (4, [.int 0, .int 0, .int 0, .int 0, .int 0, .null]))]) [2] (by decide +kernel) rfl
  have hKc := hK.sub (tys' := []) [] rfl
  have hFc := va_free (wc := [(q1, .inr (4, [.int 0, .int 0, .int 0, .int 0, .int 0, .null]))]) hD hS hA [2] rfl
  refine va_callv (va_runI (As := [.int 0, .int (nI mt), .int (nI mg), .int (nI ms), .int sd]) (rest := [.ref q1]) ⟨hx, hb, hml, hown, hts⟩ (c_X3_init l dC dI (q1) (0) (mt) (mg) (ms) (sd) H.size) (cwI 5 hts g_c_newMessage_gck_c_X3_init_28 rfl rfl rfl (hts (.initialized RX3) (List.mem_of_getElem? (i := 3) rfl)) (hts (.methodLink RX7 28 yX3_init) (List.mem_of_getElem? (i := 9) rfl)) (hts (.instanceMethod yX3_init) (List.mem_of_getElem? (i := 10) rfl)) rfl (by decide +kernel) ⟨Nat.le_of_ble_eq_true rfl, Nat.le_of_ble_eq_true rfl⟩) ⟨fun a U g mk q => by obtain ⟨q0, q1, qP, qK, qD, qE⟩ := q; exact ⟨q0, q1, qP, va_K.moved (u := U) (U := U.calling g mk a) (Vm.Alike.refl U.vm) qK, qD, ev.same (u := U) (U := U.calling g mk a) rfl qE⟩, fun U hU hW => ⟨rfl, by rw [hU], by rw [hU]; exact hPc, va_K.moved hW.alike hKc, hDc.weaken (fun _ _ _ _ => trivial), hE.warm hW⟩⟩ rfl rfl hl.1 rfl (lv_room (Nat.le_of_ble_eq_true rfl)) dX7_newMessage_16 ⟨Nat.le_of_ble_eq_true rfl, Nat.le_of_ble_eq_true rfl⟩) hS (fun q _ h => hFc q h) hFc (fun u t H1 locs ht hvm hw hB hz1 hk1 hS => ?_)
  clear hPc hDc hKc
  obtain ⟨hP1, hK1, hD1⟩ := hB
  rw [ht] at hP1
  have hK1 := va_K.moved hvm.symm hK1
  obtain ⟨hP, hD⟩ := va_join (wr := [(st, .inr (8, [.ref ml, .ref ck])), (ml, .inr (0, [.int (nI mc), .ref zt, .int 0]))]) (w1 := [(q1, .inr (4, [.int (nI 0), .int (nI mt), .int (nI mg), .int (nI ms), .int sd, .null]))]) hP hD [2] [0, 1] rfl rfl (by decide +kernel) (by decide +kernel) hk1 hFc hP1 hD1
  generalize H1 = H at hP hS ⊢
  replace hP : va_P (dC, dI) vwCl [(st, .inr (8, [.ref ml, .ref ck])), (ml, .inr (0, [.int (nI mc), .ref zt, .int 0])), (q1, .inr (4, [.int (nI 0), .int (nI mt), .int (nI mg), .int (nI ms), .int sd, .null]))] H := hP
  replace hD : va_D A [(st, .inr (8, [.ref ml, .ref ck])), (ml, .inr (0, [.int (nI mc), .ref zt, .int 0])), (q1, .inr (4, [.int (nI 0), .int (nI mt), .int (nI mg), .int (nI ms), .int sd, .null]))] := hD
  rw [show ((nI 0) : Int32) = 0 from (congrArg nI (show 0 = 0 from by omega)).trans (by decide)] at hP hD
  replace hP : va_P (dC, dI) vwCl [(st, .inr (8, [.ref ml, .ref ck])), (ml, .inr (0, [.int (nI mc), .ref zt, .int 0])), (q1, .inr (4, [.int 0, .int (nI mt), .int (nI mg), .int (nI ms), .int sd, .null]))] H := hP
  replace hD : va_D A [(st, .inr (8, [.ref ml, .ref ck])), (ml, .inr (0, [.int (nI mc), .ref zt, .int 0])), (q1, .inr (4, [.int 0, .int (nI mt), .int (nI mg), .int (nI ms), .int sd, .null]))] := hD
  clear hw
  refine lv_astore (lv' := [(5, .ref q1), (0, .ref st), (1, .int (nI mt)), (2, .int (nI mg)), (3, .int (nI ms)), (4, .int sd)]) hx hb dX7_newMessage_19 hl (by decide) rfl (fun ls hl => ?_)
  refine lv_aload_n hx hb dX7_newMessage_21 rfl (lv_at hl 1 rfl) ?_
  refine va_get (D := (dC, dI)) (ci := 8) (v := .ref ml) (C := RX7) (T := TX7) (N := 2) hx hb hts in_c_newMessage_gck_X7 hown hK hP 0 rfl rfl 0 (by decide) (hts (.fieldLink RX7 12 "ClaimBus$Store" "messages" "Ljava/util/ArrayList;") (List.mem_of_getElem? (i := 4) rfl)) (fun _ h9 => h9) rfl dX7_newMessage_22 ?_
  refine lv_aload hx hb dX7_newMessage_25 (lv_at hl 0 rfl) ?_
  have hPc := hP.sub (ws' := [(ml, .inr (0, [.int (nI mc), .ref zt, .int 0])), (q1, .inr (4, [.int 0, .int (nI mt), .int (nI mg), .int (nI ms), .int sd, .null]))]) [1, 2] rfl
  have hDc := hD.sub (ws' := [(ml, .inr (0, [.int (nI mc), .ref zt, .int 0])), (q1, .inr (4, [.int 0, .int (nI mt), .int (nI mg), .int (nI ms), .int sd, .null]))]) [1, 2] (by decide +kernel) rfl
  have hKc := hK.sub (tys' := []) [] rfl
  have hFc := va_free (wc := [(ml, .inr (0, [.int (nI mc), .ref zt, .int 0])), (q1, .inr (4, [.int 0, .int (nI mt), .int (nI mg), .int (nI ms), .int sd, .null]))]) hD hS hA [1, 2] rfl
  have hZc := (hZ.kept hS.2.1).narrow (fun q h => hFc q h)
  have hTc := (hTz.kept hS.2.1).narrow (fun q h => hFc q h)
  refine va_calli (va_runV (As := [.ref q1]) (rest := []) ⟨hx, hb, hml, hown, hts⟩ (c_AL_add_gm l dC dI (zt) (ml) (mc) (q1) ([.int 0, .int (nI mt), .int (nI mg), .int (nI ms), .int sd, .null]) H.size) (cwV 1 hts g_c_newMessage_gck_c_AL_add_gm_31 rfl rfl rfl (by decide +kernel) ⟨Nat.le_of_ble_eq_true rfl, Nat.le_of_ble_eq_true rfl⟩) ⟨fun a U g mk q => by obtain ⟨q0, q1, qP, qK, qD, qE, qZ, qT⟩ := q; exact ⟨q0, q1, qP, va_K.moved (u := U) (U := U.calling g mk a) (Vm.Alike.refl U.vm) qK, qD, ev.same (u := U) (U := U.calling g mk a) rfl qE, va_Z.moved (u := U) (U := U.calling g mk a) (Vm.Alike.refl U.vm) qZ, va_T.moved (u := U) (U := U.calling g mk a) (Vm.Alike.refl U.vm) qT⟩, va_recv hKc hPc (ci := 0) (q0 := 0) rfl rfl, fun U hU hW => ⟨rfl, by rw [hU], by rw [hU]; exact hPc, va_K.moved hW.alike hKc, hDc.weaken (fun _ _ _ _ => trivial), hE.warm hW, by rw [hU]; exact hZc.moved hW.alike, by rw [hU]; exact hTc.moved hW.alike⟩⟩ rfl rfl hl.1 rfl (lv_room (Nat.le_of_ble_eq_true rfl)) dX7_newMessage_27 ⟨Nat.le_of_ble_eq_true rfl, Nat.le_of_ble_eq_true rfl⟩) hS (fun q _ h => hFc q h) hFc (fun r_4 u t H1 locs ht hvm hw hB hz1 hk1 hS => ?_)
  clear hPc hDc hKc
  obtain ⟨ed2_4, cO2_4, fe2_4, hP1, hK1, hD1, hel_4⟩ := hB
  rw [ht] at hP1
  have hK1 := va_K.moved hvm.symm hK1
  obtain ⟨hP, hD⟩ := va_join (wr := [(st, .inr (8, [.ref ml, .ref ck]))]) (w1 := [(ml, .inr (0, [.int (nI (mc + 1)), .ref ed2_4, .int 1])), (ed2_4, .inl (cO2_4, 10, .inr (.inr (.inr (.inr fe2_4))))), (q1, .inr (4, [.int 0, .int (nI mt), .int (nI mg), .int (nI ms), .int sd, .null]))]) hP hD [1, 2] [0] rfl rfl (by decide +kernel) (by decide +kernel) hk1 hFc hP1 hD1
  replace hK := hK.app hK1
  replace hK : va_K (dC, dI) vwCl [(cO2_4, (.object "java/lang/Object"))] s := hK
  generalize H1 = H at hP hS ⊢
  replace hP : va_P (dC, dI) vwCl [(st, .inr (8, [.ref ml, .ref ck])), (ml, .inr (0, [.int (nI (mc + 1)), .ref ed2_4, .int 1])), (ed2_4, .inl (cO2_4, 10, .inr (.inr (.inr (.inr fe2_4))))), (q1, .inr (4, [.int 0, .int (nI mt), .int (nI mg), .int (nI ms), .int sd, .null]))] H := hP
  replace hD : va_D A [(st, .inr (8, [.ref ml, .ref ck])), (ml, .inr (0, [.int (nI (mc + 1)), .ref ed2_4, .int 1])), (ed2_4, .inl (cO2_4, 10, .inr (.inr (.inr (.inr fe2_4))))), (q1, .inr (4, [.int 0, .int (nI mt), .int (nI mg), .int (nI ms), .int sd, .null]))] := hD
  refine W.widen (k := 2) (n := 16) (Nat.le_of_ble_eq_true rfl) (Nat.le_of_ble_eq_true rfl) ?_
  have hw := hw.symm
  subst hw
  refine lv_pop hx hb dX7_newMessage_30 rfl ?_
  refine lv_aload hx hb dX7_newMessage_31 (lv_at hl 0 rfl) ?_
  have hP9 := hP.sub (ws' := [(st, .inr (8, [.ref ml, .ref ck])), (ml, .inr (0, [.int (nI (mc + 1)), .ref ed2_4, .int 1])), (ed2_4, .inl (cO2_4, 10, .inr (.inr (.inr (.inr fe2_4))))), (q1, .inr (4, [.int 0, .int (nI mt), .int (nI mg), .int (nI ms), .int sd, .null]))]) [0, 1, 2, 3] rfl
  have hD9 := hD.sub (ws' := [(st, .inr (8, [.ref ml, .ref ck])), (ml, .inr (0, [.int (nI (mc + 1)), .ref ed2_4, .int 1])), (ed2_4, .inl (cO2_4, 10, .inr (.inr (.inr (.inr fe2_4))))), (q1, .inr (4, [.int 0, .int (nI mt), .int (nI mg), .int (nI ms), .int sd, .null]))]) [0, 1, 2, 3] (by decide +kernel) rfl
  have hK9 := hK.sub (tys' := [(cO2_4, (.object "java/lang/Object"))]) [0] rfl
  exact W.aret (v := .ref q1) hx hb hr (Or.inl ⟨_, rfl⟩) (Or.inr ⟨_, rfl⟩) (fun t ht hW => ⟨⟨(), q1, rfl, trivial, ⟨ed2_4, cO2_4, fe2_4, by rw [ht]; exact hP9, va_K.moved hW.alike hK9, hD9, hel_4⟩⟩, hS.F ht⟩) hS.2.2 dX7_newMessage_33

noncomputable def tl_c_newMessage_nck : List Cond := wsX30 ++ (wsX70 ++ (v_c_AL_size ++ (v_c_X3_init ++ (v_c_AL_add_nm))))
noncomputable def v_c_newMessage_nck : List Cond := .code yX7_newMessage cX7_newMessage 6 (some (.object "ClaimBus$Message")) :: ([.classLink RX7 22 RX3, .instantiable RX3 6, .initialized RX3, .fieldLink RX7 12 "ClaimBus$Store" "messages" "Ljava/util/ArrayList;", .initialized RJx4a65c, .methodLink RX7 24 yJx4a65c_size_8abf5, .instanceMethod yJx4a65c_size_8abf5, .selects RJx4a65c yJx4a65c_size_8abf5 yJx4a65c_size_8abf5, .methodLink RX7 28 yX3_init, .instanceMethod yX3_init, .methodLink RX7 31 yJx4a65c_add_9ea2d, .instanceMethod yJx4a65c_add_9ea2d, .selects RJx4a65c yJx4a65c_add_9ea2d yJx4a65c_add_9ea2d] ++ tl_c_newMessage_nck)
theorem it_c_newMessage_nck : ∀ w ∈ tl_c_newMessage_nck, w ∈ v_c_newMessage_nck := fun w h => List.mem_cons_of_mem _ (List.mem_append_right _ h)
theorem in_c_newMessage_nck_X3 : ∀ w ∈ wsX30, w ∈ v_c_newMessage_nck := fun w h => it_c_newMessage_nck w (List.mem_append_left _ h)
theorem in_c_newMessage_nck_X7 : ∀ w ∈ wsX70, w ∈ v_c_newMessage_nck := fun w h => it_c_newMessage_nck w (List.mem_append_right _ (List.mem_append_left _ h))
theorem ic_c_newMessage_nck_c_AL_size : ∀ w ∈ v_c_AL_size, w ∈ v_c_newMessage_nck := fun w h => it_c_newMessage_nck w (List.mem_append_right _ (List.mem_append_right _ (List.mem_append_left _ h)))
theorem ic_c_newMessage_nck_c_X3_init : ∀ w ∈ v_c_X3_init, w ∈ v_c_newMessage_nck := fun w h => it_c_newMessage_nck w (List.mem_append_right _ (List.mem_append_right _ (List.mem_append_right _ (List.mem_append_left _ h))))
theorem ic_c_newMessage_nck_c_AL_add_nm : ∀ w ∈ v_c_AL_add_nm, w ∈ v_c_newMessage_nck := fun w h => it_c_newMessage_nck w (List.mem_append_right _ (List.mem_append_right _ (List.mem_append_right _ (List.mem_append_right _ (h)))))
theorem gt_c_newMessage_nck : ∀ w ∈ tl_c_newMessage_nck, goodWord w = true := List.forall_mem_append.mpr ⟨gw_wsX30, List.forall_mem_append.mpr ⟨gw_wsX70, List.forall_mem_append.mpr ⟨gw_c_AL_size, List.forall_mem_append.mpr ⟨gw_c_X3_init, gw_c_AL_add_nm⟩⟩⟩⟩
theorem gw_c_newMessage_nck : ∀ w ∈ v_c_newMessage_nck, goodWord w = true := List.forall_mem_cons.mpr ⟨by decide +kernel, List.forall_mem_append.mpr ⟨List.all_eq_true.mp (by decide +kernel), gt_c_newMessage_nck⟩⟩
theorem g_c_newMessage_nck_c_AL_size_24 : GoodIn v_c_newMessage_nck (wsV RX7 24 RJx4a65c yJx4a65c_size_8abf5 v_c_AL_size) := goodIn_app (goodIn_r [.methodLink RX7 24 yJx4a65c_size_8abf5, .instanceMethod yJx4a65c_size_8abf5, .selects RJx4a65c yJx4a65c_size_8abf5 yJx4a65c_size_8abf5, .initialized RJx4a65c] [6, 7, 8, 5] (by decide +kernel) (by decide +kernel)) (fun w h => ⟨ic_c_newMessage_nck_c_AL_size w h, good_of_word (gw_c_AL_size w h)⟩)
theorem g_c_newMessage_nck_c_X3_init_28 : GoodIn v_c_newMessage_nck v_c_X3_init := fun w h => ⟨ic_c_newMessage_nck_c_X3_init w h, good_of_word (gw_c_X3_init w h)⟩
theorem g_c_newMessage_nck_c_AL_add_nm_31 : GoodIn v_c_newMessage_nck (wsV RX7 31 RJx4a65c yJx4a65c_add_9ea2d v_c_AL_add_nm) := goodIn_app (goodIn_r [.methodLink RX7 31 yJx4a65c_add_9ea2d, .instanceMethod yJx4a65c_add_9ea2d, .selects RJx4a65c yJx4a65c_add_9ea2d yJx4a65c_add_9ea2d, .initialized RJx4a65c] [11, 12, 13, 5] (by decide +kernel) (by decide +kernel)) (fun w h => ⟨ic_c_newMessage_nck_c_AL_add_nm w h, good_of_word (gw_c_AL_add_nm w h)⟩)
set_option maxHeartbeats 4000000 in
set_option maxRecDepth 100000 in
theorem c_newMessage_nck (l : Launch) (dC : Nat → ClassId) (dI : Nat → Nat → Nat) (zt : Nat) (st : Nat) (ml : Nat) (ck : Nat) (mc : Nat) (ed : Nat) (sz0 : Nat) (cO : ClassId) (fe : Nat → Option Nat) (mt : Nat) (mg : Nat) (ms : Nat) (sd : Int32) (sz : Nat) (hsz : sz0 < 10) : Met l yX7_newMessage v_c_newMessage_nck ({ frames := 2, cells := 1, slots := 6, locals := 44 }) (va_Pc [.ref st, .int (nI mt), .int (nI mg), .int (nI ms), .int sd] (fun U => U.heap.size = sz ∧ va_P (dC, dI) vwCl [(st, .inr (8, [.ref ml, .ref ck])), (ml, .inr (0, [.int (nI mc), .ref ed, .int (nI sz0)])), (ed, .inl (cO, 10, .inr (.inr (.inr (.inr fe)))))] U.heap ∧ va_K (dC, dI) vwCl [(cO, (.object "java/lang/Object"))] U ∧ va_D (fun _ => True) [(st, .inr (8, [.ref ml, .ref ck])), (ml, .inr (0, [.int (nI mc), .ref ed, .int (nI sz0)])), (ed, .inl (cO, 10, .inr (.inr (.inr (.inr fe)))))] ∧ ev U ∧ va_Z "java/util/ArrayList" "DEFAULTCAPACITY_EMPTY_ELEMENTDATA" "[Ljava/lang/Object;" (.ref zt) (va_A [(st, .inr (8, [.ref ml, .ref ck])), (ml, .inr (0, [.int (nI mc), .ref ed, .int (nI sz0)])), (ed, .inl (cO, 10, .inr (.inr (.inr (.inr fe)))))] sz) U U.heap ∧ va_T (.object "java/lang/Object") zt 0 (fun _ => .null) (va_A [(st, .inr (8, [.ref ml, .ref ck])), (ml, .inr (0, [.int (nI mc), .ref ed, .int (nI sz0)])), (ed, .inl (cO, 10, .inr (.inr (.inr (.inr fe)))))] sz) U U.heap)) (va_Qr (fun _ : Unit => True) (fun (_ : Unit) (ra : Nat) (t : State) => ∃ (fe2 : Nat → Option Nat), va_P (dC, dI) vwCl [(st, .inr (8, [.ref ml, .ref ck])), (ml, .inr (0, [.int (nI (mc + 1)), .ref ed, .int (nI (sz0 + 1))])), (ed, .inl (cO, 10, .inr (.inr (.inr (.inr fe2))))), (ra, .inr (4, [.int (nI sz0), .int (nI mt), .int (nI mg), .int (nI ms), .int sd, .null]))] t.heap ∧ va_K (dC, dI) vwCl [(cO, (.object "java/lang/Object"))] t ∧ va_D (va_A [(st, .inr (8, [.ref ml, .ref ck])), (ml, .inr (0, [.int (nI mc), .ref ed, .int (nI sz0)])), (ed, .inl (cO, 10, .inr (.inr (.inr (.inr fe)))))] sz) [(st, .inr (8, [.ref ml, .ref ck])), (ml, .inr (0, [.int (nI (mc + 1)), .ref ed, .int (nI (sz0 + 1))])), (ed, .inl (cO, 10, .inr (.inr (.inr (.inr fe2))))), (ra, .inr (4, [.int (nI sz0), .int (nI mt), .int (nI mg), .int (nI ms), .int sd, .null]))] ∧ (fe2 sz0 = some ra)) (va_A [(st, .inr (8, [.ref ml, .ref ck])), (ml, .inr (0, [.int (nI mc), .ref ed, .int (nI sz0)])), (ed, .inl (cO, 10, .inr (.inr (.inr (.inr fe)))))] sz)) 1 6 (va_A [(st, .inr (8, [.ref ml, .ref ck])), (ml, .inr (0, [.int (nI mc), .ref ed, .int (nI sz0)])), (ed, .inl (cO, 10, .inr (.inr (.inr (.inr fe)))))] sz) := by
  refine Met.ofW (cc := cX7_newMessage) (maxL := 6) (ret := (some (.object "ClaimBus$Message"))) (by decide) rfl ?_
  intro p e s m args below meth c s₁ B hml hv
  obtain ⟨rfl, hsz, hP, hK, hD0, hE, hZ, hTz⟩ := hv
  have hx := B.exec
  have hb := B.bytes
  have hr := B.returns
  have hts := atoms_spec (ws := v_c_newMessage_nck) B.pre
  have hown : s.vm.findClass RX7 = some m.cls := findClass_of_methodNamed B.named
  have hlocks := B.notSynchronized
  subst hsz
  have hD := hD0.self (sz := s.heap.size)
  generalize hAe : va_A [(st, .inr (8, [.ref ml, .ref ck])), (ml, .inr (0, [.int (nI mc), .ref ed, .int (nI sz0)])), (ed, .inl (cO, 10, .inr (.inr (.inr (.inr fe)))))] s.heap.size = A at hD hZ hTz ⊢
  have hA : ∀ q : Nat, s.heap.size ≤ q → A q := fun q h => by rw [← hAe]; exact Or.inr h
  have hS : va_S A s.heap s.heap [] := va_S.rf
  replace hP : va_P (dC, dI) vwCl [(st, .inr (8, [.ref ml, .ref ck])), (ml, .inr (0, [.int (nI mc), .ref ed, .int (nI sz0)])), (ed, .inl (cO, 10, .inr (.inr (.inr (.inr fe)))))] s.heap := hP
  have hl := lv_entry ([.ref st, .int (nI mt), .int (nI mg), .int (nI ms), .int sd]) (n := 6) (Nat.le_of_ble_eq_true rfl)
  rw [lg_entry_eq]
  generalize (lg_sl ([.ref st, .int (nI mt), .int (nI mg), .int (nI ms), .int sd]) ++ List.replicate (6 - (lg_sl ([.ref st, .int (nI mt), .int (nI mg), .int (nI ms), .int sd])).length) Slot.unset).toArray = ls at hl ⊢
  replace hl : lv_has ls 6 [(0, .ref st), (1, .int (nI mt)), (2, .int (nI mg)), (3, .int (nI ms)), (4, .int sd)] := hl
  obtain ⟨H, hH⟩ : ∃ z : Heap, z = s.heap := ⟨_, rfl⟩
  rw [← hH]
  replace hS : va_S A s.heap H [] := by rw [hH]; exact va_S.rf
  replace hP : va_P (dC, dI) vwCl [(st, .inr (8, [.ref ml, .ref ck])), (ml, .inr (0, [.int (nI mc), .ref ed, .int (nI sz0)])), (ed, .inl (cO, 10, .inr (.inr (.inr (.inr fe)))))] H := by rw [hH]; exact hP
  clear hH
  refine va_new (ci := 4) (fs := [.int 0, .int 0, .int 0, .int 0, .int 0, .null]) (C := RX3) (T := TX3) (N := 6) hx hb hts in_c_newMessage_nck_X3 tyX3 tyX3_ok hown (hts (.classLink RX7 22 RX3) (List.mem_of_getElem? (i := 1) rfl)) (hts (.instantiable RX3 6) (List.mem_of_getElem? (i := 2) rfl)) (hts (.initialized RX3) (List.mem_of_getElem? (i := 3) rfl)) hK hP hD hS hA rfl df_X3 (Nat.le_of_ble_eq_true rfl) (Nat.le_of_ble_eq_true rfl) dX7_newMessage_0 (fun q1 H hP hD hS => ?_)
  replace hP : va_P (dC, dI) vwCl [(st, .inr (8, [.ref ml, .ref ck])), (ml, .inr (0, [.int (nI mc), .ref ed, .int (nI sz0)])), (ed, .inl (cO, 10, .inr (.inr (.inr (.inr fe))))), (q1, .inr (4, [.int 0, .int 0, .int 0, .int 0, .int 0, .null]))] H := hP
  replace hD : va_D A [(st, .inr (8, [.ref ml, .ref ck])), (ml, .inr (0, [.int (nI mc), .ref ed, .int (nI sz0)])), (ed, .inl (cO, 10, .inr (.inr (.inr (.inr fe))))), (q1, .inr (4, [.int 0, .int 0, .int 0, .int 0, .int 0, .null]))] := hD
  refine W.widen (k := 1) (n := 6) (Nat.le_of_ble_eq_true rfl) (Nat.le_of_ble_eq_true rfl) ?_
  refine lv_dup hx hb dX7_newMessage_3 rfl ?_
  refine lv_aload_n hx hb dX7_newMessage_4 rfl (lv_at hl 0 rfl) ?_
  refine va_get (D := (dC, dI)) (ci := 8) (v := .ref ml) (C := RX7) (T := TX7) (N := 2) hx hb hts in_c_newMessage_nck_X7 hown hK hP 0 rfl rfl 0 (by decide) (hts (.fieldLink RX7 12 "ClaimBus$Store" "messages" "Ljava/util/ArrayList;") (List.mem_of_getElem? (i := 4) rfl)) (fun _ h9 => h9) rfl dX7_newMessage_5 ?_
  have hPc := hP.sub (ws' := [(ml, .inr (0, [.int (nI mc), .ref ed, .int (nI sz0)]))]) [1] rfl
  have hDc := hD.sub (ws' := [(ml, .inr (0, [.int (nI mc), .ref ed, .int (nI sz0)]))]) [1] (by decide +kernel) rfl
  have hKc := hK.sub (tys' := []) [] rfl
  have hFc := ro_free hS hA
  refine va_calli (va_runV (As := []) (rest := [.ref q1, .ref q1]) ⟨hx, hb, hml, hown, hts⟩ (c_AL_size l dC dI (ml) (mc) (ed) (sz0) H.size) (cwV 0 hts g_c_newMessage_nck_c_AL_size_24 rfl rfl rfl (by decide +kernel) ⟨Nat.le_of_ble_eq_true rfl, Nat.le_of_ble_eq_true rfl⟩) ⟨fun a U g mk q => by obtain ⟨q0, q1, qP, qK, qD, qE⟩ := q; exact ⟨q0, q1, qP, va_K.moved (u := U) (U := U.calling g mk a) (Vm.Alike.refl U.vm) qK, qD, ev.same (u := U) (U := U.calling g mk a) rfl qE⟩, va_recv hKc hPc (ci := 0) (q0 := 0) rfl rfl, fun U hU hW => ⟨rfl, by rw [hU], by rw [hU]; exact hPc, va_K.moved hW.alike hKc, hDc.weaken (fun _ _ _ _ => trivial), hE.warm hW⟩⟩ rfl rfl hl.1 rfl (lv_room (Nat.le_of_ble_eq_true rfl)) dX7_newMessage_8 ⟨Nat.le_of_ble_eq_true rfl, Nat.le_of_ble_eq_true rfl⟩) hS (fun q _ h => hFc q h) hFc (fun r_2 u t H1 locs ht hvm hw hB hz1 hk1 hS => ?_)
  clear hPc hDc hKc
  replace hP := ro_keep hP hk1
  generalize H1 = H at hP hS ⊢
  replace hP : va_P (dC, dI) vwCl [(st, .inr (8, [.ref ml, .ref ck])), (ml, .inr (0, [.int (nI mc), .ref ed, .int (nI sz0)])), (ed, .inl (cO, 10, .inr (.inr (.inr (.inr fe))))), (q1, .inr (4, [.int 0, .int 0, .int 0, .int 0, .int 0, .null]))] H := hP
  have hw := hw.symm
  subst hw
  refine lv_iload_n hx hb dX7_newMessage_11 rfl (lv_at hl 1 rfl) ?_
  refine lv_iload_n hx hb dX7_newMessage_12 rfl (lv_at hl 2 rfl) ?_
  refine lv_iload_n hx hb dX7_newMessage_13 rfl (lv_at hl 3 rfl) ?_
  refine lv_iload hx hb dX7_newMessage_14 (lv_at hl 4 rfl) ?_
  have hPc := hP.sub (ws' := [(q1, .inr (4, [.int 0, .int 0, .int 0, .int 0, .int 0, .null]))]) [3] rfl
  have hDc := hD.sub (ws' := [(q1, .inr (4, [.int 0, .int 0, .int 0, .int 0, .int 0, .null]))]) [3] (by decide +kernel) rfl
  have hKc := hK.sub (tys' := []) [] rfl
  have hFc := va_free (wc := [(q1, .inr (4, [.int 0, .int 0, .int 0, .int 0, .int 0, .null]))]) hD hS hA [3] rfl
  refine va_callv (va_runI (As := [.int (nI sz0), .int (nI mt), .int (nI mg), .int (nI ms), .int sd]) (rest := [.ref q1]) ⟨hx, hb, hml, hown, hts⟩ (c_X3_init l dC dI (q1) (sz0) (mt) (mg) (ms) (sd) H.size) (cwI 5 hts g_c_newMessage_nck_c_X3_init_28 rfl rfl rfl (hts (.initialized RX3) (List.mem_of_getElem? (i := 3) rfl)) (hts (.methodLink RX7 28 yX3_init) (List.mem_of_getElem? (i := 9) rfl)) (hts (.instanceMethod yX3_init) (List.mem_of_getElem? (i := 10) rfl)) rfl (by decide +kernel) ⟨Nat.le_of_ble_eq_true rfl, Nat.le_of_ble_eq_true rfl⟩) ⟨fun a U g mk q => by obtain ⟨q0, q1, qP, qK, qD, qE⟩ := q; exact ⟨q0, q1, qP, va_K.moved (u := U) (U := U.calling g mk a) (Vm.Alike.refl U.vm) qK, qD, ev.same (u := U) (U := U.calling g mk a) rfl qE⟩, fun U hU hW => ⟨rfl, by rw [hU], by rw [hU]; exact hPc, va_K.moved hW.alike hKc, hDc.weaken (fun _ _ _ _ => trivial), hE.warm hW⟩⟩ rfl rfl hl.1 rfl (lv_room (Nat.le_of_ble_eq_true rfl)) dX7_newMessage_16 ⟨Nat.le_of_ble_eq_true rfl, Nat.le_of_ble_eq_true rfl⟩) hS (fun q _ h => hFc q h) hFc (fun u t H1 locs ht hvm hw hB hz1 hk1 hS => ?_)
  clear hPc hDc hKc
  obtain ⟨hP1, hK1, hD1⟩ := hB
  rw [ht] at hP1
  have hK1 := va_K.moved hvm.symm hK1
  obtain ⟨hP, hD⟩ := va_join (wr := [(st, .inr (8, [.ref ml, .ref ck])), (ml, .inr (0, [.int (nI mc), .ref ed, .int (nI sz0)])), (ed, .inl (cO, 10, .inr (.inr (.inr (.inr fe)))))]) (w1 := [(q1, .inr (4, [.int (nI sz0), .int (nI mt), .int (nI mg), .int (nI ms), .int sd, .null]))]) hP hD [3] [0, 1, 2] rfl rfl (by decide +kernel) (by decide +kernel) hk1 hFc hP1 hD1
  generalize H1 = H at hP hS ⊢
  replace hP : va_P (dC, dI) vwCl [(st, .inr (8, [.ref ml, .ref ck])), (ml, .inr (0, [.int (nI mc), .ref ed, .int (nI sz0)])), (ed, .inl (cO, 10, .inr (.inr (.inr (.inr fe))))), (q1, .inr (4, [.int (nI sz0), .int (nI mt), .int (nI mg), .int (nI ms), .int sd, .null]))] H := hP
  replace hD : va_D A [(st, .inr (8, [.ref ml, .ref ck])), (ml, .inr (0, [.int (nI mc), .ref ed, .int (nI sz0)])), (ed, .inl (cO, 10, .inr (.inr (.inr (.inr fe))))), (q1, .inr (4, [.int (nI sz0), .int (nI mt), .int (nI mg), .int (nI ms), .int sd, .null]))] := hD
  clear hw
  refine lv_astore (lv' := [(5, .ref q1), (0, .ref st), (1, .int (nI mt)), (2, .int (nI mg)), (3, .int (nI ms)), (4, .int sd)]) hx hb dX7_newMessage_19 hl (by decide) rfl (fun ls hl => ?_)
  refine lv_aload_n hx hb dX7_newMessage_21 rfl (lv_at hl 1 rfl) ?_
  refine va_get (D := (dC, dI)) (ci := 8) (v := .ref ml) (C := RX7) (T := TX7) (N := 2) hx hb hts in_c_newMessage_nck_X7 hown hK hP 0 rfl rfl 0 (by decide) (hts (.fieldLink RX7 12 "ClaimBus$Store" "messages" "Ljava/util/ArrayList;") (List.mem_of_getElem? (i := 4) rfl)) (fun _ h9 => h9) rfl dX7_newMessage_22 ?_
  refine lv_aload hx hb dX7_newMessage_25 (lv_at hl 0 rfl) ?_
  have hPc := hP.sub (ws' := [(ml, .inr (0, [.int (nI mc), .ref ed, .int (nI sz0)])), (ed, .inl (cO, 10, .inr (.inr (.inr (.inr fe))))), (q1, .inr (4, [.int (nI sz0), .int (nI mt), .int (nI mg), .int (nI ms), .int sd, .null]))]) [1, 2, 3] rfl
  have hDc := hD.sub (ws' := [(ml, .inr (0, [.int (nI mc), .ref ed, .int (nI sz0)])), (ed, .inl (cO, 10, .inr (.inr (.inr (.inr fe))))), (q1, .inr (4, [.int (nI sz0), .int (nI mt), .int (nI mg), .int (nI ms), .int sd, .null]))]) [1, 2, 3] (by decide +kernel) rfl
  have hKc := hK.sub (tys' := [(cO, (.object "java/lang/Object"))]) [0] rfl
  have hFc := va_free (wc := [(ml, .inr (0, [.int (nI mc), .ref ed, .int (nI sz0)])), (ed, .inl (cO, 10, .inr (.inr (.inr (.inr fe))))), (q1, .inr (4, [.int (nI sz0), .int (nI mt), .int (nI mg), .int (nI ms), .int sd, .null]))]) hD hS hA [1, 2, 3] rfl
  refine va_calli (va_runV (As := [.ref q1]) (rest := []) ⟨hx, hb, hml, hown, hts⟩ (c_AL_add_nm l dC dI (ml) (mc) (ed) (sz0) (cO) (fe) (q1) ([.int (nI sz0), .int (nI mt), .int (nI mg), .int (nI ms), .int sd, .null]) H.size hsz) (cwV 1 hts g_c_newMessage_nck_c_AL_add_nm_31 rfl rfl rfl (by decide +kernel) ⟨Nat.le_of_ble_eq_true rfl, Nat.le_of_ble_eq_true rfl⟩) ⟨fun a U g mk q => by obtain ⟨q0, q1, qP, qK, qD, qE⟩ := q; exact ⟨q0, q1, qP, va_K.moved (u := U) (U := U.calling g mk a) (Vm.Alike.refl U.vm) qK, qD, ev.same (u := U) (U := U.calling g mk a) rfl qE⟩, va_recv hKc hPc (ci := 0) (q0 := 0) rfl rfl, fun U hU hW => ⟨rfl, by rw [hU], by rw [hU]; exact hPc, va_K.moved hW.alike hKc, hDc.weaken (fun _ _ _ _ => trivial), hE.warm hW⟩⟩ rfl rfl hl.1 rfl (lv_room (Nat.le_of_ble_eq_true rfl)) dX7_newMessage_27 ⟨Nat.le_of_ble_eq_true rfl, Nat.le_of_ble_eq_true rfl⟩) hS (fun q _ h => hFc q h) hFc (fun r_4 u t H1 locs ht hvm hw hB hz1 hk1 hS => ?_)
  clear hPc hDc hKc
  obtain ⟨fe2_4, hP1, hK1, hD1, hel_4⟩ := hB
  rw [ht] at hP1
  have hK1 := va_K.moved hvm.symm hK1
  obtain ⟨hP, hD⟩ := va_join (wr := [(st, .inr (8, [.ref ml, .ref ck]))]) (w1 := [(ml, .inr (0, [.int (nI (mc + 1)), .ref ed, .int (nI (sz0 + 1))])), (ed, .inl (cO, 10, .inr (.inr (.inr (.inr fe2_4))))), (q1, .inr (4, [.int (nI sz0), .int (nI mt), .int (nI mg), .int (nI ms), .int sd, .null]))]) hP hD [1, 2, 3] [0] rfl rfl (by decide +kernel) (by decide +kernel) hk1 hFc hP1 hD1
  generalize H1 = H at hP hS ⊢
  replace hP : va_P (dC, dI) vwCl [(st, .inr (8, [.ref ml, .ref ck])), (ml, .inr (0, [.int (nI (mc + 1)), .ref ed, .int (nI (sz0 + 1))])), (ed, .inl (cO, 10, .inr (.inr (.inr (.inr fe2_4))))), (q1, .inr (4, [.int (nI sz0), .int (nI mt), .int (nI mg), .int (nI ms), .int sd, .null]))] H := hP
  replace hD : va_D A [(st, .inr (8, [.ref ml, .ref ck])), (ml, .inr (0, [.int (nI (mc + 1)), .ref ed, .int (nI (sz0 + 1))])), (ed, .inl (cO, 10, .inr (.inr (.inr (.inr fe2_4))))), (q1, .inr (4, [.int (nI sz0), .int (nI mt), .int (nI mg), .int (nI ms), .int sd, .null]))] := hD
  have hw := hw.symm
  subst hw
  refine lv_pop hx hb dX7_newMessage_30 rfl ?_
  refine lv_aload hx hb dX7_newMessage_31 (lv_at hl 0 rfl) ?_
  have hP9 := hP.sub (ws' := [(st, .inr (8, [.ref ml, .ref ck])), (ml, .inr (0, [.int (nI (mc + 1)), .ref ed, .int (nI (sz0 + 1))])), (ed, .inl (cO, 10, .inr (.inr (.inr (.inr fe2_4))))), (q1, .inr (4, [.int (nI sz0), .int (nI mt), .int (nI mg), .int (nI ms), .int sd, .null]))]) [0, 1, 2, 3] rfl
  have hD9 := hD.sub (ws' := [(st, .inr (8, [.ref ml, .ref ck])), (ml, .inr (0, [.int (nI (mc + 1)), .ref ed, .int (nI (sz0 + 1))])), (ed, .inl (cO, 10, .inr (.inr (.inr (.inr fe2_4))))), (q1, .inr (4, [.int (nI sz0), .int (nI mt), .int (nI mg), .int (nI ms), .int sd, .null]))]) [0, 1, 2, 3] (by decide +kernel) rfl
  have hK9 := hK.sub (tys' := [(cO, (.object "java/lang/Object"))]) [0] rfl
  exact W.aret (v := .ref q1) hx hb hr (Or.inl ⟨_, rfl⟩) (Or.inr ⟨_, rfl⟩) (fun t ht hW => ⟨⟨(), q1, rfl, trivial, ⟨fe2_4, by rw [ht]; exact hP9, va_K.moved hW.alike hK9, hD9, hel_4⟩⟩, hS.F ht⟩) hS.2.2 dX7_newMessage_33
