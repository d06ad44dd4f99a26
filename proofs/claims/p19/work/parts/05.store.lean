def v_c_AL_size : List Cond := .code yJx4a65c_size_8abf5 cJx4a65c_size_8abf5 1 (some .int) :: ([.fieldLink RJx4a65c 48 "java/util/ArrayList" "size" "I"] ++ wsJx4a65c0)
theorem in_c_AL_size_Jx4a65c : ∀ w ∈ wsJx4a65c0, w ∈ v_c_AL_size := fun w h => List.mem_cons_of_mem _ (List.mem_append_right _ h)
set_option maxHeartbeats 4000000 in
set_option maxRecDepth 100000 in
theorem c_AL_size (l : Launch) (dC : Nat → ClassId) (dI : Nat → Nat → Nat) (h0 : Nat) (mc : Nat) (ed : Nat) (sz0 : Nat) (sz : Nat)  : Met l yJx4a65c_size_8abf5 v_c_AL_size ({ frames := 0, cells := 0, slots := 0, locals := 0 }) (va_Pc [.ref h0] (fun U => U.heap.size = sz ∧ va_P (dC, dI) vwCl [(h0, .inr (0, [.int (nI mc), .ref ed, .int (nI sz0)]))] U.heap ∧ va_K (dC, dI) vwCl [] U ∧ va_D (fun _ => True) [(h0, .inr (0, [.int (nI mc), .ref ed, .int (nI sz0)]))] ∧ ev U)) (va_Qi (fun (r : Int32) (_ : Unit) => r = (nI sz0)) (fun (_ : Unit) (_ : State) => True) (va_A [] sz)) 0 0 (va_A [] sz) := by
  refine va_MetF (cc := cJx4a65c_size_8abf5) (maxL := 1) (ret := (some .int)) (by decide) rfl ?_
  intro p e s m args below meth c s₁ B hml hv
  obtain ⟨rfl, hsz, hP, hK, hD0, hE⟩ := hv
  have hx := B.exec
  have hb := B.bytes
  have hr := B.returns
  have hts := atoms_spec (ws := v_c_AL_size) B.pre
  have hown : s.vm.findClass RJx4a65c = some m.cls := findClass_of_methodNamed B.named
  have hlocks := B.notSynchronized
  subst hsz
  have hD := hD0
  generalize hAe : va_A [] s.heap.size = A
  have hA : ∀ q : Nat, s.heap.size ≤ q → A q := fun q h => by rw [← hAe]; exact Or.inr h
  have hS : va_S A s.heap s.heap [] := va_S.rf
  replace hP : va_P (dC, dI) vwCl [(h0, .inr (0, [.int (nI mc), .ref ed, .int (nI sz0)]))] s.heap := hP
  have hl := lv_entry ([.ref h0]) (n := 1) (Nat.le_of_ble_eq_true rfl)
  rw [lg_entry_eq]
  generalize (lg_sl ([.ref h0]) ++ List.replicate (1 - (lg_sl ([.ref h0])).length) Slot.unset).toArray = ls at hl ⊢
  replace hl : lv_has ls 1 [(0, .ref h0)] := hl
  obtain ⟨H, hH⟩ : ∃ z : Heap, z = s.heap := ⟨_, rfl⟩
  rw [← hH]
  replace hS : va_S A s.heap H [] := by rw [hH]; exact va_S.rf
  replace hP : va_P (dC, dI) vwCl [(h0, .inr (0, [.int (nI mc), .ref ed, .int (nI sz0)]))] H := by rw [hH]; exact hP
  clear hH
  refine lv_aload_n hx hb dJx4a65c_size_8abf5_0 rfl (lv_at hl 0 rfl) ?_
  refine va_get (D := (dC, dI)) (ci := 0) (v := .int (nI sz0)) (C := RJx4a65c) (T := TJx4a65c) (N := 3) hx hb hts in_c_AL_size_Jx4a65c hown hK hP 0 rfl rfl 2 (by decide) (hts (.fieldLink RJx4a65c 48 "java/util/ArrayList" "size" "I") (List.mem_of_getElem? (i := 1) rfl)) (fun _ h9 => h9) rfl dJx4a65c_size_8abf5_1 ?_
  exact W.iret (v := (nI sz0)) hx hb hr (fun t ht hW => ⟨⟨(nI sz0), (), rfl, rfl, trivial⟩, hS.F ht⟩) hS.2.2 dJx4a65c_size_8abf5_4

def v_c_checkIndex3 : List Cond := .code yJ3_checkIndex_8e157 cJ3_checkIndex_8e157 3 (some .int) :: ([])
set_option maxHeartbeats 4000000 in
set_option maxRecDepth 100000 in
theorem c_checkIndex3 (l : Launch) (dC : Nat → ClassId) (dI : Nat → Nat → Nat) (p0 : Nat) (p1 : Nat) (sz : Nat) (h : p0 < p1) (h2 : p1 < 1000) : Met l yJ3_checkIndex_8e157 v_c_checkIndex3 ({ frames := 0, cells := 0, slots := 0, locals := 0 }) (va_Pc [.int (nI p0), .int (nI p1), .null] (fun U => U.heap.size = sz ∧ va_P (dC, dI) vwCl [] U.heap ∧ va_K (dC, dI) vwCl [] U ∧ va_D (fun _ => True) [] ∧ ev U)) (va_Qi (fun (r : Int32) (_ : Unit) => r = (nI p0)) (fun (_ : Unit) (_ : State) => True) (va_A [] sz)) 0 0 (va_A [] sz) := by
  refine va_MetF (cc := cJ3_checkIndex_8e157) (maxL := 3) (ret := (some .int)) (by decide) rfl ?_
  intro p e s m args below meth c s₁ B hml hv
  obtain ⟨rfl, hsz, hP, hK, hD0, hE⟩ := hv
  have hx := B.exec
  have hb := B.bytes
  have hr := B.returns
  have hts := atoms_spec (ws := v_c_checkIndex3) B.pre
  have hown : s.vm.findClass RJ3 = some m.cls := findClass_of_methodNamed B.named
  have hlocks := B.notSynchronized
  subst hsz
  have hD := hD0
  generalize hAe : va_A [] s.heap.size = A
  have hA : ∀ q : Nat, s.heap.size ≤ q → A q := fun q h => by rw [← hAe]; exact Or.inr h
  have hS : va_S A s.heap s.heap [] := va_S.rf
  replace hP : va_P (dC, dI) vwCl [] s.heap := hP
  have hl := lv_entry ([.int (nI p0), .int (nI p1), .null]) (n := 3) (Nat.le_of_ble_eq_true rfl)
  rw [lg_entry_eq]
  generalize (lg_sl ([.int (nI p0), .int (nI p1), .null]) ++ List.replicate (3 - (lg_sl ([.int (nI p0), .int (nI p1), .null])).length) Slot.unset).toArray = ls at hl ⊢
  replace hl : lv_has ls 3 [(0, .int (nI p0)), (1, .int (nI p1)), (2, .null)] := hl
  obtain ⟨H, hH⟩ : ∃ z : Heap, z = s.heap := ⟨_, rfl⟩
  rw [← hH]
  replace hS : va_S A s.heap H [] := by rw [hH]; exact va_S.rf
  replace hP : va_P (dC, dI) vwCl [] H := by rw [hH]; exact hP
  clear hH
  refine lv_iload_n hx hb dJ3_checkIndex_8e157_0 rfl (lv_at hl 0 rfl) ?_
  refine lv_if_lt (tgt := 9) hx hb dJ3_checkIndex_8e157_1 (by decide) (fun c_1 => ?_) (fun c_1 => ?_)
  · exact absurd ((nI_ltI (a := p0) (b := 0) (by omega) (by omega)).mp c_1) (by omega)
  refine lv_iload_n hx hb dJ3_checkIndex_8e157_4 rfl (lv_at hl 0 rfl) ?_
  refine lv_iload_n hx hb dJ3_checkIndex_8e157_5 rfl (lv_at hl 1 rfl) ?_
  refine lv_icmp_lt (tgt := 16) hx hb dJ3_checkIndex_8e157_6 (by decide) (fun c_2 => ?_) (fun c_2 => ?_)
  rotate_left
  · exact absurd ((nI_ltI (a := p0) (b := p1) (by omega) (by omega)).mpr (by omega)) c_2
  refine lv_iload_n hx hb dJ3_checkIndex_8e157_16 rfl (lv_at hl 0 rfl) ?_
  exact W.iret (v := (nI p0)) hx hb hr (fun t ht hW => ⟨⟨(nI p0), (), rfl, rfl, trivial⟩, hS.F ht⟩) hS.2.2 dJ3_checkIndex_8e157_17

def v_c_checkIndex : List Cond := .code yJ15_checkIndex_7cf53 cJ15_checkIndex_7cf53 2 (some .int) :: ([.code yJ3_checkIndex_8e157 cJ3_checkIndex_8e157 3 (some .int), .initialized RJ3, .methodLink RJ15 105 yJ3_checkIndex_8e157, .static yJ3_checkIndex_8e157])
set_option maxRecDepth 20000 in
theorem g_c_checkIndex_c_checkIndex3_105 : GoodIn v_c_checkIndex (va_wsS RJ15 105 yJ3_checkIndex_8e157 v_c_checkIndex3) := goodIn_r _ [3, 4, 2, 1] (by decide +kernel) (by decide +kernel)
set_option maxHeartbeats 4000000 in
set_option maxRecDepth 100000 in
theorem c_checkIndex (l : Launch) (dC : Nat → ClassId) (dI : Nat → Nat → Nat) (p0 : Nat) (p1 : Nat) (sz : Nat) (h : p0 < p1) (h2 : p1 < 1000) : Met l yJ15_checkIndex_7cf53 v_c_checkIndex ({ frames := 1, cells := 0, slots := 0, locals := 22 }) (va_Pc [.int (nI p0), .int (nI p1)] (fun U => U.heap.size = sz ∧ va_P (dC, dI) vwCl [] U.heap ∧ va_K (dC, dI) vwCl [] U ∧ va_D (fun _ => True) [] ∧ ev U)) (va_Qi (fun (r : Int32) (_ : Unit) => r = (nI p0)) (fun (_ : Unit) (_ : State) => True) (va_A [] sz)) 0 0 (va_A [] sz) := by
  refine va_MetF (cc := cJ15_checkIndex_7cf53) (maxL := 2) (ret := (some .int)) (by decide) rfl ?_
  intro p e s m args below meth c s₁ B hml hv
  obtain ⟨rfl, hsz, hP, hK, hD0, hE⟩ := hv
  have hx := B.exec
  have hb := B.bytes
  have hr := B.returns
  have hts := atoms_spec (ws := v_c_checkIndex) B.pre
  have hown : s.vm.findClass RJ15 = some m.cls := findClass_of_methodNamed B.named
  have hlocks := B.notSynchronized
  subst hsz
  have hD := hD0
  generalize hAe : va_A [] s.heap.size = A
  have hA : ∀ q : Nat, s.heap.size ≤ q → A q := fun q h => by rw [← hAe]; exact Or.inr h
  have hS : va_S A s.heap s.heap [] := va_S.rf
  replace hP : va_P (dC, dI) vwCl [] s.heap := hP
  have hl := lv_entry ([.int (nI p0), .int (nI p1)]) (n := 2) (Nat.le_of_ble_eq_true rfl)
  rw [lg_entry_eq]
  generalize (lg_sl ([.int (nI p0), .int (nI p1)]) ++ List.replicate (2 - (lg_sl ([.int (nI p0), .int (nI p1)])).length) Slot.unset).toArray = ls at hl ⊢
  replace hl : lv_has ls 2 [(0, .int (nI p0)), (1, .int (nI p1))] := hl
  obtain ⟨H, hH⟩ : ∃ z : Heap, z = s.heap := ⟨_, rfl⟩
  rw [← hH]
  replace hS : va_S A s.heap H [] := by rw [hH]; exact va_S.rf
  replace hP : va_P (dC, dI) vwCl [] H := by rw [hH]; exact hP
  clear hH
  refine lv_iload_n hx hb dJ15_checkIndex_7cf53_0 rfl (lv_at hl 0 rfl) ?_
  refine lv_iload_n hx hb dJ15_checkIndex_7cf53_1 rfl (lv_at hl 1 rfl) ?_
  refine lv_null hx hb dJ15_checkIndex_7cf53_2 ?_
  have hPc := hP.sub (ws' := []) [] rfl
  have hDc := hD.sub (ws' := []) [] (by decide) rfl
  have hKc := hK.sub (tys' := []) [] rfl
  have hFc := ro_free hS hA
  refine va_calli (va_runS (As := [.int (nI p0), .int (nI p1), .null]) (rest := []) ⟨hx, hb, hml, hown, hts⟩ (c_checkIndex3 l dC dI (p0) (p1) H.size h h2) (va_cwS 3 hts g_c_checkIndex_c_checkIndex3_105 rfl rfl rfl (by decide +kernel) ⟨Nat.le_of_ble_eq_true rfl, Nat.le_of_ble_eq_true rfl⟩) ⟨fun a U g mk q => by obtain ⟨q0, q1, qP, qK, qD, qE⟩ := q; exact ⟨q0, q1, qP, va_K.moved (u := U) (U := U.calling g mk a) (Vm.Alike.refl U.vm) qK, qD, ev.same (u := U) (U := U.calling g mk a) rfl qE⟩, fun U hU hW => ⟨rfl, by rw [hU], by rw [hU]; exact hPc, va_K.moved hW.alike hKc, hDc.weaken (fun _ _ _ _ => trivial), hE.warm hW⟩⟩ rfl rfl hl.1 rfl (lv_room (Nat.le_of_ble_eq_true rfl)) dJ15_checkIndex_7cf53_3 ⟨Nat.le_of_ble_eq_true rfl, Nat.le_of_ble_eq_true rfl⟩) hS (fun q _ h => hFc q h) hFc (fun r_1 u t H1 locs ht hvm hw hB hz1 hk1 hS => ?_)
  clear hPc hDc hKc
  replace hP := ro_keep hP hk1
  generalize H1 = H at hP hS ⊢
  replace hP : va_P (dC, dI) vwCl [] H := hP
  have hw := hw.symm
  subst hw
  exact W.iret (v := (nI p0)) hx hb hr (fun t ht hW => ⟨⟨(nI p0), (), rfl, rfl, trivial⟩, hS.F ht⟩) hS.2.2 dJ15_checkIndex_7cf53_6

def v_c_AL_elementData : List Cond := .code yJx4a65c_elementData_915e3 cJx4a65c_elementData_915e3 2 (some (.object "java/lang/Object")) :: ([.fieldLink RJx4a65c 9 "java/util/ArrayList" "elementData" "[Ljava/lang/Object;"] ++ wsJx4a65c0)
theorem in_c_AL_elementData_Jx4a65c : ∀ w ∈ wsJx4a65c0, w ∈ v_c_AL_elementData := fun w h => List.mem_cons_of_mem _ (List.mem_append_right _ h)
set_option maxHeartbeats 4000000 in
set_option maxRecDepth 100000 in
theorem c_AL_elementData (l : Launch) (dC : Nat → ClassId) (dI : Nat → Nat → Nat) (h0 : Nat) (mc : Nat) (ed : Nat) (sz0 : Nat) (cO : ClassId) (fe : Nat → Option Nat) (p0 : Nat) (el : Nat) (sz : Nat) (hel : fe p0 = some el) (h : p0 < 10) : Met l yJx4a65c_elementData_915e3 v_c_AL_elementData ({ frames := 0, cells := 0, slots := 0, locals := 0 }) (va_Pc [.ref h0, .int (nI p0)] (fun U => U.heap.size = sz ∧ va_P (dC, dI) vwCl [(h0, .inr (0, [.int (nI mc), .ref ed, .int (nI sz0)])), (ed, .inl (cO, 10, .inr (.inr (.inr (.inr fe)))))] U.heap ∧ va_K (dC, dI) vwCl [(cO, (.object "java/lang/Object"))] U ∧ va_D (fun _ => True) [(h0, .inr (0, [.int (nI mc), .ref ed, .int (nI sz0)])), (ed, .inl (cO, 10, .inr (.inr (.inr (.inr fe)))))] ∧ ev U)) (va_Qq (fun (r : Option Nat) (_ : Unit) => r = some el) (fun (_ : Unit) (_ : State) => True) (va_A [] sz)) 0 0 (va_A [] sz) := by
  refine va_MetF (cc := cJx4a65c_elementData_915e3) (maxL := 2) (ret := (some (.object "java/lang/Object"))) (by decide) rfl ?_
  intro p e s m args below meth c s₁ B hml hv
  obtain ⟨rfl, hsz, hP, hK, hD0, hE⟩ := hv
  have hx := B.exec
  have hb := B.bytes
  have hr := B.returns
  have hts := atoms_spec (ws := v_c_AL_elementData) B.pre
  have hown : s.vm.findClass RJx4a65c = some m.cls := findClass_of_methodNamed B.named
  have hlocks := B.notSynchronized
  subst hsz
  have hD := hD0
  generalize hAe : va_A [] s.heap.size = A
  have hA : ∀ q : Nat, s.heap.size ≤ q → A q := fun q h => by rw [← hAe]; exact Or.inr h
  have hS : va_S A s.heap s.heap [] := va_S.rf
  replace hP : va_P (dC, dI) vwCl [(h0, .inr (0, [.int (nI mc), .ref ed, .int (nI sz0)])), (ed, .inl (cO, 10, .inr (.inr (.inr (.inr fe)))))] s.heap := hP
  have hl := lv_entry ([.ref h0, .int (nI p0)]) (n := 2) (Nat.le_of_ble_eq_true rfl)
  rw [lg_entry_eq]
  generalize (lg_sl ([.ref h0, .int (nI p0)]) ++ List.replicate (2 - (lg_sl ([.ref h0, .int (nI p0)])).length) Slot.unset).toArray = ls at hl ⊢
  replace hl : lv_has ls 2 [(0, .ref h0), (1, .int (nI p0))] := hl
  obtain ⟨H, hH⟩ : ∃ z : Heap, z = s.heap := ⟨_, rfl⟩
  rw [← hH]
  replace hS : va_S A s.heap H [] := by rw [hH]; exact va_S.rf
  replace hP : va_P (dC, dI) vwCl [(h0, .inr (0, [.int (nI mc), .ref ed, .int (nI sz0)])), (ed, .inl (cO, 10, .inr (.inr (.inr (.inr fe)))))] H := by rw [hH]; exact hP
  clear hH
  refine lv_aload_n hx hb dJx4a65c_elementData_915e3_0 rfl (lv_at hl 0 rfl) ?_
  refine va_get (D := (dC, dI)) (ci := 0) (v := .ref ed) (C := RJx4a65c) (T := TJx4a65c) (N := 3) hx hb hts in_c_AL_elementData_Jx4a65c hown hK hP 0 rfl rfl 1 (by decide) (hts (.fieldLink RJx4a65c 9 "java/util/ArrayList" "elementData" "[Ljava/lang/Object;") (List.mem_of_getElem? (i := 1) rfl)) (fun _ h9 => h9) rfl dJx4a65c_elementData_915e3_1 ?_
  refine lv_iload_n hx hb dJx4a65c_elementData_915e3_4 rfl (lv_at hl 1 rfl) ?_
  refine va_aldq hx hb hK hP 1 0 rfl rfl (vp_in_nI (n := p0) (by omega) (by omega)) dJx4a65c_elementData_915e3_5 ?_
  refine W.eq (g2 := F0 m 6 ls [.ref el]) (by rw [(nI_clamp (n := p0) (by omega)), hel]; rfl) ?_
  exact W.aret (v := .ref el) hx hb hr (Or.inl ⟨_, rfl⟩) (Or.inr ⟨_, rfl⟩) (fun t ht hW => ⟨⟨some el, (), rfl, rfl, trivial⟩, hS.F ht⟩) hS.2.2 dJx4a65c_elementData_915e3_6

def v_c_AL_get : List Cond := .code yJx4a65c_get_915e3 cJx4a65c_get_915e3 2 (some (.object "java/lang/Object")) :: ([.fieldLink RJx4a65c 48 "java/util/ArrayList" "size" "I", .code yJ15_checkIndex_7cf53 cJ15_checkIndex_7cf53 2 (some .int), .code yJ3_checkIndex_8e157 cJ3_checkIndex_8e157 3 (some .int), .initialized RJ3, .methodLink RJ15 105 yJ3_checkIndex_8e157, .static yJ3_checkIndex_8e157, .initialized RJ15, .methodLink RJx4a65c 118 yJ15_checkIndex_7cf53, .static yJ15_checkIndex_7cf53, .code yJx4a65c_elementData_915e3 cJx4a65c_elementData_915e3 2 (some (.object "java/lang/Object")), .fieldLink RJx4a65c 9 "java/util/ArrayList" "elementData" "[Ljava/lang/Object;", .initialized RJx4a65c, .methodLink RJx4a65c 123 yJx4a65c_elementData_915e3, .instanceMethod yJx4a65c_elementData_915e3, .selects RJx4a65c yJx4a65c_elementData_915e3 yJx4a65c_elementData_915e3] ++ wsJx4a65c0)
theorem in_c_AL_get_Jx4a65c : ∀ w ∈ wsJx4a65c0, w ∈ v_c_AL_get := fun w h => List.mem_cons_of_mem _ (List.mem_append_right _ h)
set_option maxRecDepth 20000 in
theorem g_c_AL_get_c_checkIndex_118 : GoodIn v_c_AL_get (va_wsS RJx4a65c 118 yJ15_checkIndex_7cf53 v_c_checkIndex) := goodIn_r _ [8, 9, 7, 2, 3, 4, 5, 6] (by decide +kernel) (by decide +kernel)
set_option maxRecDepth 20000 in
theorem g_c_AL_get_c_AL_elementData_123 : GoodIn v_c_AL_get (wsV RJx4a65c 123 RJx4a65c yJx4a65c_elementData_915e3 v_c_AL_elementData) := goodIn_r _ [13, 14, 15, 12, 10, 11, 16, 17, 18] (by decide +kernel) (by decide +kernel)
set_option maxHeartbeats 4000000 in
set_option maxRecDepth 100000 in
theorem c_AL_get (l : Launch) (dC : Nat → ClassId) (dI : Nat → Nat → Nat) (h0 : Nat) (mc : Nat) (ed : Nat) (sz0 : Nat) (cO : ClassId) (fe : Nat → Option Nat) (p0 : Nat) (el : Nat) (sz : Nat) (hel : fe p0 = some el) (h : p0 < sz0) (h2 : sz0 ≤ 10) : Met l yJx4a65c_get_915e3 v_c_AL_get ({ frames := 2, cells := 0, slots := 0, locals := 43 }) (va_Pc [.ref h0, .int (nI p0)] (fun U => U.heap.size = sz ∧ va_P (dC, dI) vwCl [(h0, .inr (0, [.int (nI mc), .ref ed, .int (nI sz0)])), (ed, .inl (cO, 10, .inr (.inr (.inr (.inr fe)))))] U.heap ∧ va_K (dC, dI) vwCl [(cO, (.object "java/lang/Object"))] U ∧ va_D (fun _ => True) [(h0, .inr (0, [.int (nI mc), .ref ed, .int (nI sz0)])), (ed, .inl (cO, 10, .inr (.inr (.inr (.inr fe)))))] ∧ ev U)) (va_Qq (fun (r : Option Nat) (_ : Unit) => r = some el) (fun (_ : Unit) (_ : State) => True) (va_A [] sz)) 0 0 (va_A [] sz) := by
  refine va_MetF (cc := cJx4a65c_get_915e3) (maxL := 2) (ret := (some (.object "java/lang/Object"))) (by decide) rfl ?_
  intro p e s m args below meth c s₁ B hml hv
  obtain ⟨rfl, hsz, hP, hK, hD0, hE⟩ := hv
  have hx := B.exec
  have hb := B.bytes
  have hr := B.returns
  have hts := atoms_spec (ws := v_c_AL_get) B.pre
  have hown : s.vm.findClass RJx4a65c = some m.cls := findClass_of_methodNamed B.named
  have hlocks := B.notSynchronized
  subst hsz
  have hD := hD0
  generalize hAe : va_A [] s.heap.size = A
  have hA : ∀ q : Nat, s.heap.size ≤ q → A q := fun q h => by rw [← hAe]; exact Or.inr h
  have hS : va_S A s.heap s.heap [] := va_S.rf
  replace hP : va_P (dC, dI) vwCl [(h0, .inr (0, [.int (nI mc), .ref ed, .int (nI sz0)])), (ed, .inl (cO, 10, .inr (.inr (.inr (.inr fe)))))] s.heap := hP
  have hl := lv_entry ([.ref h0, .int (nI p0)]) (n := 2) (Nat.le_of_ble_eq_true rfl)
  rw [lg_entry_eq]
  generalize (lg_sl ([.ref h0, .int (nI p0)]) ++ List.replicate (2 - (lg_sl ([.ref h0, .int (nI p0)])).length) Slot.unset).toArray = ls at hl ⊢
  replace hl : lv_has ls 2 [(0, .ref h0), (1, .int (nI p0))] := hl
  obtain ⟨H, hH⟩ : ∃ z : Heap, z = s.heap := ⟨_, rfl⟩
  rw [← hH]
  replace hS : va_S A s.heap H [] := by rw [hH]; exact va_S.rf
  replace hP : va_P (dC, dI) vwCl [(h0, .inr (0, [.int (nI mc), .ref ed, .int (nI sz0)])), (ed, .inl (cO, 10, .inr (.inr (.inr (.inr fe)))))] H := by rw [hH]; exact hP
  clear hH
  refine lv_iload_n hx hb dJx4a65c_get_915e3_0 rfl (lv_at hl 1 rfl) ?_
  refine lv_aload_n hx hb dJx4a65c_get_915e3_1 rfl (lv_at hl 0 rfl) ?_
  refine va_get (D := (dC, dI)) (ci := 0) (v := .int (nI sz0)) (C := RJx4a65c) (T := TJx4a65c) (N := 3) hx hb hts in_c_AL_get_Jx4a65c hown hK hP 0 rfl rfl 2 (by decide) (hts (.fieldLink RJx4a65c 48 "java/util/ArrayList" "size" "I") (List.mem_of_getElem? (i := 1) rfl)) (fun _ h9 => h9) rfl dJx4a65c_get_915e3_2 ?_
  have hPc := hP.sub (ws' := []) [] rfl
  have hDc := hD.sub (ws' := []) [] (by decide) rfl
  have hKc := hK.sub (tys' := []) [] rfl
  have hFc := ro_free hS hA
  refine va_calli (va_runS (As := [.int (nI p0), .int (nI sz0)]) (rest := []) ⟨hx, hb, hml, hown, hts⟩ (c_checkIndex l dC dI (p0) (sz0) H.size h (by omega)) (va_cwS 2 hts g_c_AL_get_c_checkIndex_118 rfl rfl rfl (by decide +kernel) ⟨Nat.le_of_ble_eq_true rfl, Nat.le_of_ble_eq_true rfl⟩) ⟨fun a U g mk q => by obtain ⟨q0, q1, qP, qK, qD, qE⟩ := q; exact ⟨q0, q1, qP, va_K.moved (u := U) (U := U.calling g mk a) (Vm.Alike.refl U.vm) qK, qD, ev.same (u := U) (U := U.calling g mk a) rfl qE⟩, fun U hU hW => ⟨rfl, by rw [hU], by rw [hU]; exact hPc, va_K.moved hW.alike hKc, hDc.weaken (fun _ _ _ _ => trivial), hE.warm hW⟩⟩ rfl rfl hl.1 rfl (lv_room (Nat.le_of_ble_eq_true rfl)) dJx4a65c_get_915e3_5 ⟨Nat.le_of_ble_eq_true rfl, Nat.le_of_ble_eq_true rfl⟩) hS (fun q _ h => hFc q h) hFc (fun r_1 u t H1 locs ht hvm hw hB hz1 hk1 hS => ?_)
  clear hPc hDc hKc
  replace hP := ro_keep hP hk1
  generalize H1 = H at hP hS ⊢
  replace hP : va_P (dC, dI) vwCl [(h0, .inr (0, [.int (nI mc), .ref ed, .int (nI sz0)])), (ed, .inl (cO, 10, .inr (.inr (.inr (.inr fe)))))] H := hP
  have hw := hw.symm
  subst hw
  refine lv_pop hx hb dJx4a65c_get_915e3_8 rfl ?_
  refine lv_aload_n hx hb dJx4a65c_get_915e3_9 rfl (lv_at hl 0 rfl) ?_
  refine lv_iload_n hx hb dJx4a65c_get_915e3_10 rfl (lv_at hl 1 rfl) ?_
  have hPc := hP.sub (ws' := [(h0, .inr (0, [.int (nI mc), .ref ed, .int (nI sz0)])), (ed, .inl (cO, 10, .inr (.inr (.inr (.inr fe)))))]) [0, 1] rfl
  have hDc := hD.sub (ws' := [(h0, .inr (0, [.int (nI mc), .ref ed, .int (nI sz0)])), (ed, .inl (cO, 10, .inr (.inr (.inr (.inr fe)))))]) [0, 1] (by decide) rfl
  have hKc := hK.sub (tys' := [(cO, (.object "java/lang/Object"))]) [0] rfl
  have hFc := ro_free hS hA
  refine va_callq (va_runV (As := [.int (nI p0)]) (rest := []) ⟨hx, hb, hml, hown, hts⟩ (c_AL_elementData l dC dI (h0) (mc) (ed) (sz0) (cO) (fe) (p0) (el) H.size hel (by omega)) (cwV 1 hts g_c_AL_get_c_AL_elementData_123 rfl rfl rfl (by decide +kernel) ⟨Nat.le_of_ble_eq_true rfl, Nat.le_of_ble_eq_true rfl⟩) ⟨fun a U g mk q => by obtain ⟨q0, q1, qP, qK, qD, qE⟩ := q; exact ⟨q0, q1, qP, va_K.moved (u := U) (U := U.calling g mk a) (Vm.Alike.refl U.vm) qK, qD, ev.same (u := U) (U := U.calling g mk a) rfl qE⟩, va_recv hKc hPc (ci := 0) (q0 := 0) rfl rfl, fun U hU hW => ⟨rfl, by rw [hU], by rw [hU]; exact hPc, va_K.moved hW.alike hKc, hDc.weaken (fun _ _ _ _ => trivial), hE.warm hW⟩⟩ rfl rfl hl.1 rfl (lv_room (Nat.le_of_ble_eq_true rfl)) dJx4a65c_get_915e3_11 ⟨Nat.le_of_ble_eq_true rfl, Nat.le_of_ble_eq_true rfl⟩) hS (fun q _ h => hFc q h) hFc (fun r_2 u t H1 locs ht hvm hw hB hz1 hk1 hS => ?_)
  clear hPc hDc hKc
  replace hP := ro_keep hP hk1
  generalize H1 = H at hP hS ⊢
  replace hP : va_P (dC, dI) vwCl [(h0, .inr (0, [.int (nI mc), .ref ed, .int (nI sz0)])), (ed, .inl (cO, 10, .inr (.inr (.inr (.inr fe)))))] H := hP
  have hw := hw.symm
  subst hw
  refine W.eq (g2 := F0 m 14 ls [.ref el]) rfl ?_
  exact W.aret (v := .ref el) hx hb hr (Or.inl ⟨_, rfl⟩) (Or.inr ⟨_, rfl⟩) (fun t ht hW => ⟨⟨some el, (), rfl, rfl, trivial⟩, hS.F ht⟩) hS.2.2 dJx4a65c_get_915e3_14

def v_c_messageAt_null : List Cond := .code yX7_messageAt cX7_messageAt 2 (some (.object "ClaimBus$Message")) :: ([.fieldLink RX7 12 "ClaimBus$Store" "messages" "Ljava/util/ArrayList;", .code yJx4a65c_size_8abf5 cJx4a65c_size_8abf5 1 (some .int), .fieldLink RJx4a65c 48 "java/util/ArrayList" "size" "I", .initialized RJx4a65c, .methodLink RX7 24 yJx4a65c_size_8abf5, .instanceMethod yJx4a65c_size_8abf5, .selects RJx4a65c yJx4a65c_size_8abf5 yJx4a65c_size_8abf5, .code yJx4a65c_get_915e3 cJx4a65c_get_915e3 2 (some (.object "java/lang/Object")), .code yJ15_checkIndex_7cf53 cJ15_checkIndex_7cf53 2 (some .int), .code yJ3_checkIndex_8e157 cJ3_checkIndex_8e157 3 (some .int), .initialized RJ3, .methodLink RJ15 105 yJ3_checkIndex_8e157, .static yJ3_checkIndex_8e157, .initialized RJ15, .methodLink RJx4a65c 118 yJ15_checkIndex_7cf53, .static yJ15_checkIndex_7cf53, .code yJx4a65c_elementData_915e3 cJx4a65c_elementData_915e3 2 (some (.object "java/lang/Object")), .fieldLink RJx4a65c 9 "java/util/ArrayList" "elementData" "[Ljava/lang/Object;", .methodLink RJx4a65c 123 yJx4a65c_elementData_915e3, .instanceMethod yJx4a65c_elementData_915e3, .selects RJx4a65c yJx4a65c_elementData_915e3 yJx4a65c_elementData_915e3, .methodLink RX7 44 yJx4a65c_get_915e3, .instanceMethod yJx4a65c_get_915e3, .selects RJx4a65c yJx4a65c_get_915e3 yJx4a65c_get_915e3, .classLink RX7 22 "ClaimBus$Message"] ++ wsX70 ++ wsJx4a65c0)
theorem in_c_messageAt_null_X7 : ∀ w ∈ wsX70, w ∈ v_c_messageAt_null := fun w h => List.mem_cons_of_mem _ (List.mem_append_left _ (List.mem_append_right _ h))
theorem in_c_messageAt_null_Jx4a65c : ∀ w ∈ wsJx4a65c0, w ∈ v_c_messageAt_null := fun w h => List.mem_cons_of_mem _ (List.mem_append_right _ h)
set_option maxRecDepth 20000 in
theorem g_c_messageAt_null_c_AL_size_24 : GoodIn v_c_messageAt_null (wsV RX7 24 RJx4a65c yJx4a65c_size_8abf5 v_c_AL_size) := goodIn_r _ [5, 6, 7, 4, 2, 3, 28, 29, 30] (by decide +kernel) (by decide +kernel)
set_option maxRecDepth 20000 in
theorem g_c_messageAt_null_c_AL_get_44 : GoodIn v_c_messageAt_null (wsV RX7 44 RJx4a65c yJx4a65c_get_915e3 v_c_AL_get) := goodIn_r _ [22, 23, 24, 4, 8, 3, 9, 10, 11, 12, 13, 14, 15, 16, 17, 18, 4, 19, 20, 21, 28, 29, 30] (by decide +kernel) (by decide +kernel)
set_option maxHeartbeats 4000000 in
set_option maxRecDepth 100000 in
theorem c_messageAt_null (l : Launch) (dC : Nat → ClassId) (dI : Nat → Nat → Nat) (st : Nat) (ml : Nat) (mc : Nat) (ed : Nat) (sz0 : Nat) (cO : ClassId) (fe : Nat → Option Nat) (m : Nat) (mi : Nat) (mt : Nat) (mg : Nat) (ms : Nat) (sd : Int32) (p0 : Nat) (sz : Nat) (hel : fe p0 = some m) (h : p0 < sz0) (h2 : sz0 ≤ 10) : Met l yX7_messageAt v_c_messageAt_null ({ frames := 3, cells := 0, slots := 0, locals := 64 }) (va_Pc [.ref st, .int (nI p0)] (fun U => U.heap.size = sz ∧ va_P (dC, dI) vwCl [(st, .inr (8, [.ref ml, .null])), (ml, .inr (0, [.int (nI mc), .ref ed, .int (nI sz0)])), (ed, .inl (cO, 10, .inr (.inr (.inr (.inr fe))))), (m, .inr (4, [.int (nI mi), .int (nI mt), .int (nI mg), .int (nI ms), .int sd, .null]))] U.heap ∧ va_K (dC, dI) vwCl [(cO, (.object "java/lang/Object"))] U ∧ va_D (fun _ => True) [(st, .inr (8, [.ref ml, .null])), (ml, .inr (0, [.int (nI mc), .ref ed, .int (nI sz0)])), (ed, .inl (cO, 10, .inr (.inr (.inr (.inr fe))))), (m, .inr (4, [.int (nI mi), .int (nI mt), .int (nI mg), .int (nI ms), .int sd, .null]))] ∧ ev U)) (va_Qq (fun (r : Option Nat) (_ : Unit) => r = some m) (fun (_ : Unit) (_ : State) => True) (va_A [] sz)) 0 0 (va_A [] sz) := by
  refine Met.ofW (cc := cX7_messageAt) (maxL := 2) (ret := (some (.object "ClaimBus$Message"))) (by decide) rfl ?_
  intro p e s m args below meth c s₁ B hml hv
  obtain ⟨rfl, hsz, hP, hK, hD0, hE⟩ := hv
  have hx := B.exec
  have hb := B.bytes
  have hr := B.returns
  have hts := atoms_spec (ws := v_c_messageAt_null) B.pre
  have hown : s.vm.findClass RX7 = some m.cls := findClass_of_methodNamed B.named
  have hlocks := B.notSynchronized
  subst hsz
  have hD := hD0
  generalize hAe : va_A [] s.heap.size = A
  have hA : ∀ q : Nat, s.heap.size ≤ q → A q := fun q h => by rw [← hAe]; exact Or.inr h
  have hS : va_S A s.heap s.heap [] := va_S.rf
  replace hP : va_P (dC, dI) vwCl [(st, .inr (8, [.ref ml, .null])), (ml, .inr (0, [.int (nI mc), .ref ed, .int (nI sz0)])), (ed, .inl (cO, 10, .inr (.inr (.inr (.inr fe))))), (m, .inr (4, [.int (nI mi), .int (nI mt), .int (nI mg), .int (nI ms), .int sd, .null]))] s.heap := hP
  have hl := lv_entry ([.ref st, .int (nI p0)]) (n := 2) (Nat.le_of_ble_eq_true rfl)
  rw [lg_entry_eq]
  generalize (lg_sl ([.ref st, .int (nI p0)]) ++ List.replicate (2 - (lg_sl ([.ref st, .int (nI p0)])).length) Slot.unset).toArray = ls at hl ⊢
  replace hl : lv_has ls 2 [(0, .ref st), (1, .int (nI p0))] := hl
  obtain ⟨H, hH⟩ : ∃ z : Heap, z = s.heap := ⟨_, rfl⟩
  rw [← hH]
  replace hS : va_S A s.heap H [] := by rw [hH]; exact va_S.rf
  replace hP : va_P (dC, dI) vwCl [(st, .inr (8, [.ref ml, .null])), (ml, .inr (0, [.int (nI mc), .ref ed, .int (nI sz0)])), (ed, .inl (cO, 10, .inr (.inr (.inr (.inr fe))))), (m, .inr (4, [.int (nI mi), .int (nI mt), .int (nI mg), .int (nI ms), .int sd, .null]))] H := by rw [hH]; exact hP
  clear hH
  refine lv_iload_n hx hb dX7_messageAt_0 rfl (lv_at hl 1 rfl) ?_
  refine lv_if_lt (tgt := 29) hx hb dX7_messageAt_1 (by decide) (fun c_1 => ?_) (fun c_1 => ?_)
  · exact absurd ((nI_ltI (a := p0) (b := 0) (by omega) (by omega)).mp c_1) (by omega)
  refine lv_iload_n hx hb dX7_messageAt_4 rfl (lv_at hl 1 rfl) ?_
  refine lv_aload_n hx hb dX7_messageAt_5 rfl (lv_at hl 0 rfl) ?_
  refine va_get (D := (dC, dI)) (ci := 8) (v := .ref ml) (C := RX7) (T := TX7) (N := 2) hx hb hts in_c_messageAt_null_X7 hown hK hP 0 rfl rfl 0 (by decide) (hts (.fieldLink RX7 12 "ClaimBus$Store" "messages" "Ljava/util/ArrayList;") (List.mem_of_getElem? (i := 1) rfl)) (fun _ h9 => h9) rfl dX7_messageAt_6 ?_
  have hPc := hP.sub (ws' := [(ml, .inr (0, [.int (nI mc), .ref ed, .int (nI sz0)]))]) [1] rfl
  have hDc := hD.sub (ws' := [(ml, .inr (0, [.int (nI mc), .ref ed, .int (nI sz0)]))]) [1] (by decide) rfl
  have hKc := hK.sub (tys' := []) [] rfl
  have hFc := ro_free hS hA
  refine va_calli (va_runV (As := []) (rest := [.int (nI p0)]) ⟨hx, hb, hml, hown, hts⟩ (c_AL_size l dC dI (ml) (mc) (ed) (sz0) H.size) (cwV 0 hts g_c_messageAt_null_c_AL_size_24 rfl rfl rfl (by decide +kernel) ⟨Nat.le_of_ble_eq_true rfl, Nat.le_of_ble_eq_true rfl⟩) ⟨fun a U g mk q => by obtain ⟨q0, q1, qP, qK, qD, qE⟩ := q; exact ⟨q0, q1, qP, va_K.moved (u := U) (U := U.calling g mk a) (Vm.Alike.refl U.vm) qK, qD, ev.same (u := U) (U := U.calling g mk a) rfl qE⟩, va_recv hKc hPc (ci := 0) (q0 := 0) rfl rfl, fun U hU hW => ⟨rfl, by rw [hU], by rw [hU]; exact hPc, va_K.moved hW.alike hKc, hDc.weaken (fun _ _ _ _ => trivial), hE.warm hW⟩⟩ rfl rfl hl.1 rfl (lv_room (Nat.le_of_ble_eq_true rfl)) dX7_messageAt_9 ⟨Nat.le_of_ble_eq_true rfl, Nat.le_of_ble_eq_true rfl⟩) hS (fun q _ h => hFc q h) hFc (fun r_2 u t H1 locs ht hvm hw hB hz1 hk1 hS => ?_)
  clear hPc hDc hKc
  replace hP := ro_keep hP hk1
  generalize H1 = H at hP hS ⊢
  replace hP : va_P (dC, dI) vwCl [(st, .inr (8, [.ref ml, .null])), (ml, .inr (0, [.int (nI mc), .ref ed, .int (nI sz0)])), (ed, .inl (cO, 10, .inr (.inr (.inr (.inr fe))))), (m, .inr (4, [.int (nI mi), .int (nI mt), .int (nI mg), .int (nI ms), .int sd, .null]))] H := hP
  have hw := hw.symm
  subst hw
  refine lv_icmp_ge (tgt := 29) hx hb dX7_messageAt_12 (by decide) (fun c_3 => ?_) (fun c_3 => ?_)
  · exact absurd ((nI_leI (a := sz0) (b := p0) (by omega) (by omega)).mp c_3) (by omega)
  refine lv_aload_n hx hb dX7_messageAt_15 rfl (lv_at hl 0 rfl) ?_
  refine va_get (D := (dC, dI)) (ci := 8) (v := .ref ml) (C := RX7) (T := TX7) (N := 2) hx hb hts in_c_messageAt_null_X7 hown hK hP 0 rfl rfl 0 (by decide) (hts (.fieldLink RX7 12 "ClaimBus$Store" "messages" "Ljava/util/ArrayList;") (List.mem_of_getElem? (i := 1) rfl)) (fun _ h9 => h9) rfl dX7_messageAt_16 ?_
  refine lv_iload_n hx hb dX7_messageAt_19 rfl (lv_at hl 1 rfl) ?_
  have hPc := hP.sub (ws' := [(ml, .inr (0, [.int (nI mc), .ref ed, .int (nI sz0)])), (ed, .inl (cO, 10, .inr (.inr (.inr (.inr fe)))))]) [1, 2] rfl
  have hDc := hD.sub (ws' := [(ml, .inr (0, [.int (nI mc), .ref ed, .int (nI sz0)])), (ed, .inl (cO, 10, .inr (.inr (.inr (.inr fe)))))]) [1, 2] (by decide) rfl
  have hKc := hK.sub (tys' := [(cO, (.object "java/lang/Object"))]) [0] rfl
  have hFc := ro_free hS hA
  refine va_callq (va_runV (As := [.int (nI p0)]) (rest := []) ⟨hx, hb, hml, hown, hts⟩ (c_AL_get l dC dI (ml) (mc) (ed) (sz0) (cO) (fe) (p0) (m) H.size hel h h2) (cwV 1 hts g_c_messageAt_null_c_AL_get_44 rfl rfl rfl (by decide +kernel) ⟨Nat.le_of_ble_eq_true rfl, Nat.le_of_ble_eq_true rfl⟩) ⟨fun a U g mk q => by obtain ⟨q0, q1, qP, qK, qD, qE⟩ := q; exact ⟨q0, q1, qP, va_K.moved (u := U) (U := U.calling g mk a) (Vm.Alike.refl U.vm) qK, qD, ev.same (u := U) (U := U.calling g mk a) rfl qE⟩, va_recv hKc hPc (ci := 0) (q0 := 0) rfl rfl, fun U hU hW => ⟨rfl, by rw [hU], by rw [hU]; exact hPc, va_K.moved hW.alike hKc, hDc.weaken (fun _ _ _ _ => trivial), hE.warm hW⟩⟩ rfl rfl hl.1 rfl (lv_room (Nat.le_of_ble_eq_true rfl)) dX7_messageAt_20 ⟨Nat.le_of_ble_eq_true rfl, Nat.le_of_ble_eq_true rfl⟩) hS (fun q _ h => hFc q h) hFc (fun r_4 u t H1 locs ht hvm hw hB hz1 hk1 hS => ?_)
  clear hPc hDc hKc
  replace hP := ro_keep hP hk1
  generalize H1 = H at hP hS ⊢
  replace hP : va_P (dC, dI) vwCl [(st, .inr (8, [.ref ml, .null])), (ml, .inr (0, [.int (nI mc), .ref ed, .int (nI sz0)])), (ed, .inl (cO, 10, .inr (.inr (.inr (.inr fe))))), (m, .inr (4, [.int (nI mi), .int (nI mt), .int (nI mg), .int (nI ms), .int sd, .null]))] H := hP
  have hw := hw.symm
  subst hw
  refine W.eq (g2 := F0 m 23 ls [.ref m]) rfl ?_
  refine va_castS hx hb hown (hts (.classLink RX7 22 "ClaimBus$Message") (List.mem_of_getElem? (i := 25) rfl)) (hK.1 4 _ rfl).2 (va_recv hK hP (ci := 4) (q0 := 3) rfl rfl) dX7_messageAt_23 ?_
  refine lv_goto (tgt := 30) hx hb dX7_messageAt_26 (by decide) ?_
  exact W.aret (v := .ref m) hx hb hr (Or.inl ⟨_, rfl⟩) (Or.inr ⟨_, rfl⟩) (fun t ht hW => ⟨⟨some m, (), rfl, rfl, trivial⟩, hS.F ht⟩) hS.2.2 dX7_messageAt_30

def v_c_messageAt_ck : List Cond := .code yX7_messageAt cX7_messageAt 2 (some (.object "ClaimBus$Message")) :: ([.fieldLink RX7 12 "ClaimBus$Store" "messages" "Ljava/util/ArrayList;", .code yJx4a65c_size_8abf5 cJx4a65c_size_8abf5 1 (some .int), .fieldLink RJx4a65c 48 "java/util/ArrayList" "size" "I", .initialized RJx4a65c, .methodLink RX7 24 yJx4a65c_size_8abf5, .instanceMethod yJx4a65c_size_8abf5, .selects RJx4a65c yJx4a65c_size_8abf5 yJx4a65c_size_8abf5, .code yJx4a65c_get_915e3 cJx4a65c_get_915e3 2 (some (.object "java/lang/Object")), .code yJ15_checkIndex_7cf53 cJ15_checkIndex_7cf53 2 (some .int), .code yJ3_checkIndex_8e157 cJ3_checkIndex_8e157 3 (some .int), .initialized RJ3, .methodLink RJ15 105 yJ3_checkIndex_8e157, .static yJ3_checkIndex_8e157, .initialized RJ15, .methodLink RJx4a65c 118 yJ15_checkIndex_7cf53, .static yJ15_checkIndex_7cf53, .code yJx4a65c_elementData_915e3 cJx4a65c_elementData_915e3 2 (some (.object "java/lang/Object")), .fieldLink RJx4a65c 9 "java/util/ArrayList" "elementData" "[Ljava/lang/Object;", .methodLink RJx4a65c 123 yJx4a65c_elementData_915e3, .instanceMethod yJx4a65c_elementData_915e3, .selects RJx4a65c yJx4a65c_elementData_915e3 yJx4a65c_elementData_915e3, .methodLink RX7 44 yJx4a65c_get_915e3, .instanceMethod yJx4a65c_get_915e3, .selects RJx4a65c yJx4a65c_get_915e3 yJx4a65c_get_915e3, .classLink RX7 22 "ClaimBus$Message"] ++ wsX70 ++ wsJx4a65c0)
theorem in_c_messageAt_ck_X7 : ∀ w ∈ wsX70, w ∈ v_c_messageAt_ck := fun w h => List.mem_cons_of_mem _ (List.mem_append_left _ (List.mem_append_right _ h))
theorem in_c_messageAt_ck_Jx4a65c : ∀ w ∈ wsJx4a65c0, w ∈ v_c_messageAt_ck := fun w h => List.mem_cons_of_mem _ (List.mem_append_right _ h)
set_option maxRecDepth 20000 in
theorem g_c_messageAt_ck_c_AL_size_24 : GoodIn v_c_messageAt_ck (wsV RX7 24 RJx4a65c yJx4a65c_size_8abf5 v_c_AL_size) := goodIn_r _ [5, 6, 7, 4, 2, 3, 28, 29, 30] (by decide +kernel) (by decide +kernel)
set_option maxRecDepth 20000 in
theorem g_c_messageAt_ck_c_AL_get_44 : GoodIn v_c_messageAt_ck (wsV RX7 44 RJx4a65c yJx4a65c_get_915e3 v_c_AL_get) := goodIn_r _ [22, 23, 24, 4, 8, 3, 9, 10, 11, 12, 13, 14, 15, 16, 17, 18, 4, 19, 20, 21, 28, 29, 30] (by decide +kernel) (by decide +kernel)
set_option maxHeartbeats 4000000 in
set_option maxRecDepth 100000 in
theorem c_messageAt_ck (l : Launch) (dC : Nat → ClassId) (dI : Nat → Nat → Nat) (st : Nat) (ml : Nat) (ck : Nat) (mc : Nat) (ed : Nat) (sz0 : Nat) (cO : ClassId) (fe : Nat → Option Nat) (m : Nat) (mi : Nat) (mt : Nat) (mg : Nat) (ms : Nat) (sd : Int32) (p0 : Nat) (sz : Nat) (hel : fe p0 = some m) (h : p0 < sz0) (h2 : sz0 ≤ 10) : Met l yX7_messageAt v_c_messageAt_ck ({ frames := 3, cells := 0, slots := 0, locals := 64 }) (va_Pc [.ref st, .int (nI p0)] (fun U => U.heap.size = sz ∧ va_P (dC, dI) vwCl [(st, .inr (8, [.ref ml, .ref ck])), (ml, .inr (0, [.int (nI mc), .ref ed, .int (nI sz0)])), (ed, .inl (cO, 10, .inr (.inr (.inr (.inr fe))))), (m, .inr (4, [.int (nI mi), .int (nI mt), .int (nI mg), .int (nI ms), .int sd, .null]))] U.heap ∧ va_K (dC, dI) vwCl [(cO, (.object "java/lang/Object"))] U ∧ va_D (fun _ => True) [(st, .inr (8, [.ref ml, .ref ck])), (ml, .inr (0, [.int (nI mc), .ref ed, .int (nI sz0)])), (ed, .inl (cO, 10, .inr (.inr (.inr (.inr fe))))), (m, .inr (4, [.int (nI mi), .int (nI mt), .int (nI mg), .int (nI ms), .int sd, .null]))] ∧ ev U)) (va_Qq (fun (r : Option Nat) (_ : Unit) => r = some m) (fun (_ : Unit) (_ : State) => True) (va_A [] sz)) 0 0 (va_A [] sz) := by
  refine Met.ofW (cc := cX7_messageAt) (maxL := 2) (ret := (some (.object "ClaimBus$Message"))) (by decide) rfl ?_
  intro p e s m args below meth c s₁ B hml hv
  obtain ⟨rfl, hsz, hP, hK, hD0, hE⟩ := hv
  have hx := B.exec
  have hb := B.bytes
  have hr := B.returns
  have hts := atoms_spec (ws := v_c_messageAt_ck) B.pre
  have hown : s.vm.findClass RX7 = some m.cls := findClass_of_methodNamed B.named
  have hlocks := B.notSynchronized
  subst hsz
  have hD := hD0
  generalize hAe : va_A [] s.heap.size = A
  have hA : ∀ q : Nat, s.heap.size ≤ q → A q := fun q h => by rw [← hAe]; exact Or.inr h
  have hS : va_S A s.heap s.heap [] := va_S.rf
  replace hP : va_P (dC, dI) vwCl [(st, .inr (8, [.ref ml, .ref ck])), (ml, .inr (0, [.int (nI mc), .ref ed, .int (nI sz0)])), (ed, .inl (cO, 10, .inr (.inr (.inr (.inr fe))))), (m, .inr (4, [.int (nI mi), .int (nI mt), .int (nI mg), .int (nI ms), .int sd, .null]))] s.heap := hP
  have hl := lv_entry ([.ref st, .int (nI p0)]) (n := 2) (Nat.le_of_ble_eq_true rfl)
  rw [lg_entry_eq]
  generalize (lg_sl ([.ref st, .int (nI p0)]) ++ List.replicate (2 - (lg_sl ([.ref st, .int (nI p0)])).length) Slot.unset).toArray = ls at hl ⊢
  replace hl : lv_has ls 2 [(0, .ref st), (1, .int (nI p0))] := hl
  obtain ⟨H, hH⟩ : ∃ z : Heap, z = s.heap := ⟨_, rfl⟩
  rw [← hH]
  replace hS : va_S A s.heap H [] := by rw [hH]; exact va_S.rf
  replace hP : va_P (dC, dI) vwCl [(st, .inr (8, [.ref ml, .ref ck])), (ml, .inr (0, [.int (nI mc), .ref ed, .int (nI sz0)])), (ed, .inl (cO, 10, .inr (.inr (.inr (.inr fe))))), (m, .inr (4, [.int (nI mi), .int (nI mt), .int (nI mg), .int (nI ms), .int sd, .null]))] H := by rw [hH]; exact hP
  clear hH
  refine lv_iload_n hx hb dX7_messageAt_0 rfl (lv_at hl 1 rfl) ?_
  refine lv_if_lt (tgt := 29) hx hb dX7_messageAt_1 (by decide) (fun c_1 => ?_) (fun c_1 => ?_)
  · exact absurd ((nI_ltI (a := p0) (b := 0) (by omega) (by omega)).mp c_1) (by omega)
  refine lv_iload_n hx hb dX7_messageAt_4 rfl (lv_at hl 1 rfl) ?_
  refine lv_aload_n hx hb dX7_messageAt_5 rfl (lv_at hl 0 rfl) ?_
  refine va_get (D := (dC, dI)) (ci := 8) (v := .ref ml) (C := RX7) (T := TX7) (N := 2) hx hb hts in_c_messageAt_ck_X7 hown hK hP 0 rfl rfl 0 (by decide) (hts (.fieldLink RX7 12 "ClaimBus$Store" "messages" "Ljava/util/ArrayList;") (List.mem_of_getElem? (i := 1) rfl)) (fun _ h9 => h9) rfl dX7_messageAt_6 ?_
  have hPc := hP.sub (ws' := [(ml, .inr (0, [.int (nI mc), .ref ed, .int (nI sz0)]))]) [1] rfl
  have hDc := hD.sub (ws' := [(ml, .inr (0, [.int (nI mc), .ref ed, .int (nI sz0)]))]) [1] (by decide) rfl
  have hKc := hK.sub (tys' := []) [] rfl
  have hFc := ro_free hS hA
  refine va_calli (va_runV (As := []) (rest := [.int (nI p0)]) ⟨hx, hb, hml, hown, hts⟩ (c_AL_size l dC dI (ml) (mc) (ed) (sz0) H.size) (cwV 0 hts g_c_messageAt_ck_c_AL_size_24 rfl rfl rfl (by decide +kernel) ⟨Nat.le_of_ble_eq_true rfl, Nat.le_of_ble_eq_true rfl⟩) ⟨fun a U g mk q => by obtain ⟨q0, q1, qP, qK, qD, qE⟩ := q; exact ⟨q0, q1, qP, va_K.moved (u := U) (U := U.calling g mk a) (Vm.Alike.refl U.vm) qK, qD, ev.same (u := U) (U := U.calling g mk a) rfl qE⟩, va_recv hKc hPc (ci := 0) (q0 := 0) rfl rfl, fun U hU hW => ⟨rfl, by rw [hU], by rw [hU]; exact hPc, va_K.moved hW.alike hKc, hDc.weaken (fun _ _ _ _ => trivial), hE.warm hW⟩⟩ rfl rfl hl.1 rfl (lv_room (Nat.le_of_ble_eq_true rfl)) dX7_messageAt_9 ⟨Nat.le_of_ble_eq_true rfl, Nat.le_of_ble_eq_true rfl⟩) hS (fun q _ h => hFc q h) hFc (fun r_2 u t H1 locs ht hvm hw hB hz1 hk1 hS => ?_)
  clear hPc hDc hKc
  replace hP := ro_keep hP hk1
  generalize H1 = H at hP hS ⊢
  replace hP : va_P (dC, dI) vwCl [(st, .inr (8, [.ref ml, .ref ck])), (ml, .inr (0, [.int (nI mc), .ref ed, .int (nI sz0)])), (ed, .inl (cO, 10, .inr (.inr (.inr (.inr fe))))), (m, .inr (4, [.int (nI mi), .int (nI mt), .int (nI mg), .int (nI ms), .int sd, .null]))] H := hP
  have hw := hw.symm
  subst hw
  refine lv_icmp_ge (tgt := 29) hx hb dX7_messageAt_12 (by decide) (fun c_3 => ?_) (fun c_3 => ?_)
  · exact absurd ((nI_leI (a := sz0) (b := p0) (by omega) (by omega)).mp c_3) (by omega)
  refine lv_aload_n hx hb dX7_messageAt_15 rfl (lv_at hl 0 rfl) ?_
  refine va_get (D := (dC, dI)) (ci := 8) (v := .ref ml) (C := RX7) (T := TX7) (N := 2) hx hb hts in_c_messageAt_ck_X7 hown hK hP 0 rfl rfl 0 (by decide) (hts (.fieldLink RX7 12 "ClaimBus$Store" "messages" "Ljava/util/ArrayList;") (List.mem_of_getElem? (i := 1) rfl)) (fun _ h9 => h9) rfl dX7_messageAt_16 ?_
  refine lv_iload_n hx hb dX7_messageAt_19 rfl (lv_at hl 1 rfl) ?_
  have hPc := hP.sub (ws' := [(ml, .inr (0, [.int (nI mc), .ref ed, .int (nI sz0)])), (ed, .inl (cO, 10, .inr (.inr (.inr (.inr fe)))))]) [1, 2] rfl
  have hDc := hD.sub (ws' := [(ml, .inr (0, [.int (nI mc), .ref ed, .int (nI sz0)])), (ed, .inl (cO, 10, .inr (.inr (.inr (.inr fe)))))]) [1, 2] (by decide) rfl
  have hKc := hK.sub (tys' := [(cO, (.object "java/lang/Object"))]) [0] rfl
  have hFc := ro_free hS hA
  refine va_callq (va_runV (As := [.int (nI p0)]) (rest := []) ⟨hx, hb, hml, hown, hts⟩ (c_AL_get l dC dI (ml) (mc) (ed) (sz0) (cO) (fe) (p0) (m) H.size hel h h2) (cwV 1 hts g_c_messageAt_ck_c_AL_get_44 rfl rfl rfl (by decide +kernel) ⟨Nat.le_of_ble_eq_true rfl, Nat.le_of_ble_eq_true rfl⟩) ⟨fun a U g mk q => by obtain ⟨q0, q1, qP, qK, qD, qE⟩ := q; exact ⟨q0, q1, qP, va_K.moved (u := U) (U := U.calling g mk a) (Vm.Alike.refl U.vm) qK, qD, ev.same (u := U) (U := U.calling g mk a) rfl qE⟩, va_recv hKc hPc (ci := 0) (q0 := 0) rfl rfl, fun U hU hW => ⟨rfl, by rw [hU], by rw [hU]; exact hPc, va_K.moved hW.alike hKc, hDc.weaken (fun _ _ _ _ => trivial), hE.warm hW⟩⟩ rfl rfl hl.1 rfl (lv_room (Nat.le_of_ble_eq_true rfl)) dX7_messageAt_20 ⟨Nat.le_of_ble_eq_true rfl, Nat.le_of_ble_eq_true rfl⟩) hS (fun q _ h => hFc q h) hFc (fun r_4 u t H1 locs ht hvm hw hB hz1 hk1 hS => ?_)
  clear hPc hDc hKc
  replace hP := ro_keep hP hk1
  generalize H1 = H at hP hS ⊢
  replace hP : va_P (dC, dI) vwCl [(st, .inr (8, [.ref ml, .ref ck])), (ml, .inr (0, [.int (nI mc), .ref ed, .int (nI sz0)])), (ed, .inl (cO, 10, .inr (.inr (.inr (.inr fe))))), (m, .inr (4, [.int (nI mi), .int (nI mt), .int (nI mg), .int (nI ms), .int sd, .null]))] H := hP
  have hw := hw.symm
  subst hw
  refine W.eq (g2 := F0 m 23 ls [.ref m]) rfl ?_
  refine va_castS hx hb hown (hts (.classLink RX7 22 "ClaimBus$Message") (List.mem_of_getElem? (i := 25) rfl)) (hK.1 4 _ rfl).2 (va_recv hK hP (ci := 4) (q0 := 3) rfl rfl) dX7_messageAt_23 ?_
  refine lv_goto (tgt := 30) hx hb dX7_messageAt_26 (by decide) ?_
  exact W.aret (v := .ref m) hx hb hr (Or.inl ⟨_, rfl⟩) (Or.inr ⟨_, rfl⟩) (fun t ht hW => ⟨⟨some m, (), rfl, rfl, trivial⟩, hS.F ht⟩) hS.2.2 dX7_messageAt_30

def v_c_X0_init : List Cond := .code yX0_init cX0_init 1 none :: ([.methodLink RX0 1 objectInit, .instanceMethod objectInit, .code objectInit ⟨#[0xb1]⟩ 1 none, .arrayClass .long, .fieldLink RX0 9 "ClaimBus$Chunk" "entries" "[J", .fieldLink RX0 13 "ClaimBus$Chunk" "next" "LClaimBus$Chunk;"] ++ wsX00)
theorem in_c_X0_init_X0 : ∀ w ∈ wsX00, w ∈ v_c_X0_init := fun w h => List.mem_cons_of_mem _ (List.mem_append_right _ h)
set_option maxHeartbeats 4000000 in
set_option maxRecDepth 100000 in
/-- Chunk() -/
theorem c_X0_init (l : Launch) (dC : Nat → ClassId) (dI : Nat → Nat → Nat) (h0 : Nat) (sz : Nat)  : Met l yX0_init v_c_X0_init ({ frames := 1, cells := 1, slots := 128, locals := 12 }) (va_Pc [.ref h0] (fun U => U.heap.size = sz ∧ va_P (dC, dI) vwCl [(h0, .inr (1, [.null, .null]))] U.heap ∧ va_K (dC, dI) vwCl [] U ∧ va_D (fun _ => True) [(h0, .inr (1, [.null, .null]))] ∧ ev U)) (va_Qv (fun _ : Unit => True) (fun (_ : Unit) (t : State) => ∃ (ce : Nat) (cJ : ClassId), va_P (dC, dI) vwCl [(h0, .inr (1, [.ref ce, .null])), (ce, .inl (cJ, 128, .inr (.inl (fun _ => 0))))] t.heap ∧ va_K (dC, dI) vwCl [(cJ, .long)] t ∧ va_D (va_A [(h0, .inr (1, [.null, .null]))] sz) [(h0, .inr (1, [.ref ce, .null])), (ce, .inl (cJ, 128, .inr (.inl (fun _ => 0))))]) (va_A [(h0, .inr (1, [.null, .null]))] sz)) 1 128 (va_A [(h0, .inr (1, [.null, .null]))] sz) := by
  refine Met.ofW (cc := cX0_init) (maxL := 1) (ret := none) (by decide) rfl ?_
  intro p e s m args below meth c s₁ B hml hv
  obtain ⟨rfl, hsz, hP, hK, hD0, hE⟩ := hv
  have hx := B.exec
  have hb := B.bytes
  have hr := B.returns
  have hts := atoms_spec (ws := v_c_X0_init) B.pre
  have hown : s.vm.findClass RX0 = some m.cls := findClass_of_methodNamed B.named
  have hlocks := B.notSynchronized
  have hin : meth.name = "<init>" := (name_of_methodNamed B.named B.method).1
  subst hsz
  have hD := hD0.self (sz := s.heap.size)
  generalize hAe : va_A [(h0, .inr (1, [.null, .null]))] s.heap.size = A at hD ⊢
  have hA : ∀ q : Nat, s.heap.size ≤ q → A q := fun q h => by rw [← hAe]; exact Or.inr h
  have hS : va_S A s.heap s.heap [] := va_S.rf
  replace hP : va_P (dC, dI) vwCl [(h0, .inr (1, [.null, .null]))] s.heap := hP
  have hl := lv_entry ([.ref h0]) (n := 1) (Nat.le_of_ble_eq_true rfl)
  rw [lg_entry_eq]
  generalize (lg_sl ([.ref h0]) ++ List.replicate (1 - (lg_sl ([.ref h0])).length) Slot.unset).toArray = ls at hl ⊢
  replace hl : lv_has ls 1 [(0, .ref h0)] := hl
  obtain ⟨H, hH⟩ : ∃ z : Heap, z = s.heap := ⟨_, rfl⟩
  rw [← hH]
  replace hS : va_S A s.heap H [] := by rw [hH]; exact va_S.rf
  replace hP : va_P (dC, dI) vwCl [(h0, .inr (1, [.null, .null]))] H := by rw [hH]; exact hP
  clear hH
  refine lv_aload_n hx hb dX0_init_0 rfl (lv_at hl 0 rfl) ?_
  refine W.objInit hx hb hown (hts (.methodLink RX0 1 objectInit) (List.mem_of_getElem? (i := 1) rfl)) (hts (.instanceMethod objectInit) (List.mem_of_getElem? (i := 2) rfl)) (hts (.code objectInit ⟨#[0xb1]⟩ 1 none) (List.mem_of_getElem? (i := 3) rfl)) rfl (by rw [hml]; exact hl.1) rfl dX0_init_1 (Nat.le_of_ble_eq_true rfl) (Nat.le_of_ble_eq_true rfl) ?_
  refine W.eq (g2 := F0 m 4 ls []) rfl ?_
  refine lv_aload_n hx hb dX0_init_4 rfl (lv_at hl 0 rfl) ?_
  refine lv_sipush (v := 128) hx hb dX0_init_5 (by decide) ?_
  refine va_newa (atype := .long) (ty := .long) (N' := 128) (a0 := (128, .inr (.inl (fun _ => 0)))) hx hb (hts (.arrayClass .long) (List.mem_of_getElem? (i := 4) rfl)) rfl hK hP hD hS hA (fun _ => rfl) (by decide) (by decide) (Nat.le_of_ble_eq_true rfl) (Nat.le_of_ble_eq_true rfl) (Nat.le_of_ble_eq_true rfl) dX0_init_8 (fun q1 cA1 H hK hP hD hS => ?_)
  replace hK : va_K (dC, dI) vwCl [(cA1, .long)] s := hK
  replace hP : va_P (dC, dI) vwCl [(h0, .inr (1, [.null, .null])), (q1, .inl (cA1, 128, .inr (.inl (fun _ => 0))))] H := hP
  replace hD : va_D A [(h0, .inr (1, [.null, .null])), (q1, .inl (cA1, 128, .inr (.inl (fun _ => 0))))] := hD
  refine W.widen (k := 1) (n := 128) (Nat.le_of_ble_eq_true rfl) (Nat.le_of_ble_eq_true rfl) ?_
  refine va_putF (D := (dC, dI)) (ci := 1) (v := .ref q1) (ty := (.array .long)) (C := RX0) (T := TX0) (N := 2) hx hb hts in_c_X0_init_X0 tyX0 tyX0_ok nmX0 hown hK hP hD hS 0 rfl rfl 0 (by decide) (hts (.fieldLink RX0 9 "ClaimBus$Chunk" "entries" "[J") (List.mem_of_getElem? (i := 5) rfl)) (fun _ h9 => h9) rfl hin rfl (by decide +kernel) rfl rfl (Nat.le_of_ble_eq_true rfl) dX0_init_10 (fun H locs hP hD hS => ?_)
  replace hP : va_P (dC, dI) vwCl [(h0, .inr (1, [.ref q1, .null])), (q1, .inl (cA1, 128, .inr (.inl (fun _ => 0))))] H := hP
  replace hD : va_D A [(h0, .inr (1, [.ref q1, .null])), (q1, .inl (cA1, 128, .inr (.inl (fun _ => 0))))] := hD
  refine lv_aload_n hx hb dX0_init_13 rfl (lv_at hl 0 rfl) ?_
  refine lv_null hx hb dX0_init_14 ?_
  refine va_put (D := (dC, dI)) (ci := 1) (v := .null) (ty := (.object "ClaimBus$Chunk")) (C := RX0) (T := TX0) (N := 2) hx hb hts in_c_X0_init_X0 tyX0 tyX0_ok nmX0 hown hK hP hD hS 0 rfl rfl 1 (by decide) (hts (.fieldLink RX0 13 "ClaimBus$Chunk" "next" "LClaimBus$Chunk;") (List.mem_of_getElem? (i := 6) rfl)) (fun _ h9 => h9) rfl (by decide +kernel) rfl rfl (Nat.le_of_ble_eq_true rfl) dX0_init_15 (fun H locs hP hD hS => ?_)
  replace hP : va_P (dC, dI) vwCl [(h0, .inr (1, [.ref q1, .null])), (q1, .inl (cA1, 128, .inr (.inl (fun _ => 0))))] H := hP
  replace hD : va_D A [(h0, .inr (1, [.ref q1, .null])), (q1, .inl (cA1, 128, .inr (.inl (fun _ => 0))))] := hD
  have hP9 := hP.sub (ws' := [(h0, .inr (1, [.ref q1, .null])), (q1, .inl (cA1, 128, .inr (.inl (fun _ => 0))))]) [0, 1] rfl
  have hD9 := hD.sub (ws' := [(h0, .inr (1, [.ref q1, .null])), (q1, .inl (cA1, 128, .inr (.inl (fun _ => 0))))]) [0, 1] (by decide) rfl
  have hK9 := hK.sub (tys' := [(cA1, .long)]) [0] rfl
  exact W.vret hx hb hr (fun t ht hW => ⟨⟨(), rfl, trivial, ⟨q1, cA1, by rw [ht]; exact hP9, va_K.moved hW.alike hK9, hD9⟩⟩, hS.F ht⟩) hS.2.2 dX0_init_18

def v_c_lend_n : List Cond := .code yX7_lend cX7_lend 2 (some (.object "ClaimBus$Chunk")) :: ([.fieldLink RX7 18 "ClaimBus$Store" "unused" "LClaimBus$Chunk;"] ++ wsX70)
theorem in_c_lend_n_X7 : ∀ w ∈ wsX70, w ∈ v_c_lend_n := fun w h => List.mem_cons_of_mem _ (List.mem_append_right _ h)
set_option maxHeartbeats 4000000 in
set_option maxRecDepth 100000 in
theorem c_lend_n (l : Launch) (dC : Nat → ClassId) (dI : Nat → Nat → Nat) (st : Nat) (ml : Nat) (sz : Nat)  : Met l yX7_lend v_c_lend_n ({ frames := 0, cells := 0, slots := 0, locals := 0 }) (va_Pc [.ref st] (fun U => U.heap.size = sz ∧ va_P (dC, dI) vwCl [(st, .inr (8, [.ref ml, .null]))] U.heap ∧ va_K (dC, dI) vwCl [] U ∧ va_D (fun _ => True) [(st, .inr (8, [.ref ml, .null]))] ∧ ev U)) (va_Qq (fun (r : Option Nat) (_ : Unit) => r = none) (fun (_ : Unit) (_ : State) => True) (va_A [] sz)) 0 0 (va_A [] sz) := by
  refine Met.ofW (cc := cX7_lend) (maxL := 2) (ret := (some (.object "ClaimBus$Chunk"))) (by decide) rfl ?_
  intro p e s m args below meth c s₁ B hml hv
  obtain ⟨rfl, hsz, hP, hK, hD0, hE⟩ := hv
  have hx := B.exec
  have hb := B.bytes
  have hr := B.returns
  have hts := atoms_spec (ws := v_c_lend_n) B.pre
  have hown : s.vm.findClass RX7 = some m.cls := findClass_of_methodNamed B.named
  have hlocks := B.notSynchronized
  subst hsz
  have hD := hD0
  generalize hAe : va_A [] s.heap.size = A
  have hA : ∀ q : Nat, s.heap.size ≤ q → A q := fun q h => by rw [← hAe]; exact Or.inr h
  have hS : va_S A s.heap s.heap [] := va_S.rf
  replace hP : va_P (dC, dI) vwCl [(st, .inr (8, [.ref ml, .null]))] s.heap := hP
  have hl := lv_entry ([.ref st]) (n := 2) (Nat.le_of_ble_eq_true rfl)
  rw [lg_entry_eq]
  generalize (lg_sl ([.ref st]) ++ List.replicate (2 - (lg_sl ([.ref st])).length) Slot.unset).toArray = ls at hl ⊢
  replace hl : lv_has ls 2 [(0, .ref st)] := hl
  obtain ⟨H, hH⟩ : ∃ z : Heap, z = s.heap := ⟨_, rfl⟩
  rw [← hH]
  replace hS : va_S A s.heap H [] := by rw [hH]; exact va_S.rf
  replace hP : va_P (dC, dI) vwCl [(st, .inr (8, [.ref ml, .null]))] H := by rw [hH]; exact hP
  clear hH
  refine lv_aload_n hx hb dX7_lend_0 rfl (lv_at hl 0 rfl) ?_
  refine va_get (D := (dC, dI)) (ci := 8) (v := .null) (C := RX7) (T := TX7) (N := 2) hx hb hts in_c_lend_n_X7 hown hK hP 0 rfl rfl 1 (by decide) (hts (.fieldLink RX7 18 "ClaimBus$Store" "unused" "LClaimBus$Chunk;") (List.mem_of_getElem? (i := 1) rfl)) (fun _ h9 => h9) rfl dX7_lend_1 ?_
  refine lv_astore_nN (lv' := [(1, .null), (0, .ref st)]) hx hb dX7_lend_4 rfl hl (by decide) rfl (fun ls hl => ?_)
  refine lv_aload_nN hx hb dX7_lend_5 rfl (lv_at hl 0 rfl) ?_
  refine lv_ifnullN (tgt := 22) hx hb dX7_lend_6 (by decide) ?_
  refine lv_aload_nN hx hb dX7_lend_22 rfl (lv_at hl 0 rfl) ?_
  exact W.aret (v := .null) hx hb hr (Or.inl ⟨_, rfl⟩) (Or.inl rfl) (fun t ht hW => ⟨⟨none, (), rfl, rfl, trivial⟩, hS.F ht⟩) hS.2.2 dX7_lend_23

def v_c_lend_c : List Cond := .code yX7_lend cX7_lend 2 (some (.object "ClaimBus$Chunk")) :: ([.fieldLink RX7 18 "ClaimBus$Store" "unused" "LClaimBus$Chunk;", .fieldLink RX7 48 "ClaimBus$Chunk" "next" "LClaimBus$Chunk;"] ++ wsX70 ++ wsX00)
theorem in_c_lend_c_X7 : ∀ w ∈ wsX70, w ∈ v_c_lend_c := fun w h => List.mem_cons_of_mem _ (List.mem_append_left _ (List.mem_append_right _ h))
theorem in_c_lend_c_X0 : ∀ w ∈ wsX00, w ∈ v_c_lend_c := fun w h => List.mem_cons_of_mem _ (List.mem_append_right _ h)
set_option maxHeartbeats 4000000 in
set_option maxRecDepth 100000 in
theorem c_lend_c (l : Launch) (dC : Nat → ClassId) (dI : Nat → Nat → Nat) (st : Nat) (ml : Nat) (ck : Nat) (ce : Nat) (sz : Nat)  : Met l yX7_lend v_c_lend_c ({ frames := 0, cells := 0, slots := 0, locals := 0 }) (va_Pc [.ref st] (fun U => U.heap.size = sz ∧ va_P (dC, dI) vwCl [(st, .inr (8, [.ref ml, .ref ck])), (ck, .inr (1, [.ref ce, .null]))] U.heap ∧ va_K (dC, dI) vwCl [] U ∧ va_D (fun _ => True) [(st, .inr (8, [.ref ml, .ref ck])), (ck, .inr (1, [.ref ce, .null]))] ∧ ev U)) (va_Qq (fun (r : Option Nat) (_ : Unit) => r = some ck) (fun (_ : Unit) (t : State) => va_P (dC, dI) vwCl [(st, .inr (8, [.ref ml, .null])), (ck, .inr (1, [.ref ce, .null]))] t.heap ∧ va_K (dC, dI) vwCl [] t ∧ va_D (va_A [(st, .inr (8, [.ref ml, .ref ck])), (ck, .inr (1, [.ref ce, .null]))] sz) [(st, .inr (8, [.ref ml, .null])), (ck, .inr (1, [.ref ce, .null]))]) (va_A [(st, .inr (8, [.ref ml, .ref ck])), (ck, .inr (1, [.ref ce, .null]))] sz)) 0 0 (va_A [(st, .inr (8, [.ref ml, .ref ck])), (ck, .inr (1, [.ref ce, .null]))] sz) := by
  refine Met.ofW (cc := cX7_lend) (maxL := 2) (ret := (some (.object "ClaimBus$Chunk"))) (by decide) rfl ?_
  intro p e s m args below meth c s₁ B hml hv
  obtain ⟨rfl, hsz, hP, hK, hD0, hE⟩ := hv
  have hx := B.exec
  have hb := B.bytes
  have hr := B.returns
  have hts := atoms_spec (ws := v_c_lend_c) B.pre
  have hown : s.vm.findClass RX7 = some m.cls := findClass_of_methodNamed B.named
  have hlocks := B.notSynchronized
  subst hsz
  have hD := hD0.self (sz := s.heap.size)
  generalize hAe : va_A [(st, .inr (8, [.ref ml, .ref ck])), (ck, .inr (1, [.ref ce, .null]))] s.heap.size = A at hD ⊢
  have hA : ∀ q : Nat, s.heap.size ≤ q → A q := fun q h => by rw [← hAe]; exact Or.inr h
  have hS : va_S A s.heap s.heap [] := va_S.rf
  replace hP : va_P (dC, dI) vwCl [(st, .inr (8, [.ref ml, .ref ck])), (ck, .inr (1, [.ref ce, .null]))] s.heap := hP
  have hl := lv_entry ([.ref st]) (n := 2) (Nat.le_of_ble_eq_true rfl)
  rw [lg_entry_eq]
  generalize (lg_sl ([.ref st]) ++ List.replicate (2 - (lg_sl ([.ref st])).length) Slot.unset).toArray = ls at hl ⊢
  replace hl : lv_has ls 2 [(0, .ref st)] := hl
  obtain ⟨H, hH⟩ : ∃ z : Heap, z = s.heap := ⟨_, rfl⟩
  rw [← hH]
  replace hS : va_S A s.heap H [] := by rw [hH]; exact va_S.rf
  replace hP : va_P (dC, dI) vwCl [(st, .inr (8, [.ref ml, .ref ck])), (ck, .inr (1, [.ref ce, .null]))] H := by rw [hH]; exact hP
  clear hH
  refine lv_aload_n hx hb dX7_lend_0 rfl (lv_at hl 0 rfl) ?_
  refine va_get (D := (dC, dI)) (ci := 8) (v := .ref ck) (C := RX7) (T := TX7) (N := 2) hx hb hts in_c_lend_c_X7 hown hK hP 0 rfl rfl 1 (by decide) (hts (.fieldLink RX7 18 "ClaimBus$Store" "unused" "LClaimBus$Chunk;") (List.mem_of_getElem? (i := 1) rfl)) (fun _ h9 => h9) rfl dX7_lend_1 ?_
  refine lv_astore_n (lv' := [(1, .ref ck), (0, .ref st)]) hx hb dX7_lend_4 rfl hl (by decide) rfl (fun ls hl => ?_)
  refine lv_aload_n hx hb dX7_lend_5 rfl (lv_at hl 0 rfl) ?_
  refine lv_ifnull hx hb dX7_lend_6 ?_
  refine lv_aload_n hx hb dX7_lend_9 rfl (lv_at hl 1 rfl) ?_
  refine lv_aload_n hx hb dX7_lend_10 rfl (lv_at hl 0 rfl) ?_
  refine va_get (D := (dC, dI)) (ci := 1) (v := .null) (C := RX0) (T := TX0) (N := 2) hx hb hts in_c_lend_c_X0 hown hK hP 1 rfl rfl 1 (by decide) (hts (.fieldLink RX7 48 "ClaimBus$Chunk" "next" "LClaimBus$Chunk;") (List.mem_of_getElem? (i := 2) rfl)) (fun _ h9 => h9) rfl dX7_lend_11 ?_
  refine va_put (D := (dC, dI)) (ci := 8) (v := .null) (ty := (.object "ClaimBus$Chunk")) (C := RX7) (T := TX7) (N := 2) hx hb hts in_c_lend_c_X7 tyX7 tyX7_ok nmX7 hown hK hP hD hS 0 rfl rfl 1 (by decide) (hts (.fieldLink RX7 18 "ClaimBus$Store" "unused" "LClaimBus$Chunk;") (List.mem_of_getElem? (i := 1) rfl)) (fun _ h9 => h9) rfl (by decide +kernel) rfl rfl (Nat.le_of_ble_eq_true rfl) dX7_lend_14 (fun H locs hP hD hS => ?_)
  replace hP : va_P (dC, dI) vwCl [(st, .inr (8, [.ref ml, .null])), (ck, .inr (1, [.ref ce, .null]))] H := hP
  replace hD : va_D A [(st, .inr (8, [.ref ml, .null])), (ck, .inr (1, [.ref ce, .null]))] := hD
  refine lv_aload_n hx hb dX7_lend_17 rfl (lv_at hl 0 rfl) ?_
  refine lv_null hx hb dX7_lend_18 ?_
  refine va_put (D := (dC, dI)) (ci := 1) (v := .null) (ty := (.object "ClaimBus$Chunk")) (C := RX0) (T := TX0) (N := 2) hx hb hts in_c_lend_c_X0 tyX0 tyX0_ok nmX0 hown hK hP hD hS 1 rfl rfl 1 (by decide) (hts (.fieldLink RX7 48 "ClaimBus$Chunk" "next" "LClaimBus$Chunk;") (List.mem_of_getElem? (i := 2) rfl)) (fun _ h9 => h9) rfl (by decide +kernel) rfl rfl (Nat.le_of_ble_eq_true rfl) dX7_lend_19 (fun H locs hP hD hS => ?_)
  replace hP : va_P (dC, dI) vwCl [(st, .inr (8, [.ref ml, .null])), (ck, .inr (1, [.ref ce, .null]))] H := hP
  replace hD : va_D A [(st, .inr (8, [.ref ml, .null])), (ck, .inr (1, [.ref ce, .null]))] := hD
  refine lv_aload_n hx hb dX7_lend_22 rfl (lv_at hl 0 rfl) ?_
  have hP9 := hP.sub (ws' := [(st, .inr (8, [.ref ml, .null])), (ck, .inr (1, [.ref ce, .null]))]) [0, 1] rfl
  have hD9 := hD.sub (ws' := [(st, .inr (8, [.ref ml, .null])), (ck, .inr (1, [.ref ce, .null]))]) [0, 1] (by decide) rfl
  have hK9 := hK.sub (tys' := []) [] rfl
  exact W.aret (v := .ref ck) hx hb hr (Or.inl ⟨_, rfl⟩) (Or.inr ⟨_, rfl⟩) (fun t ht hW => ⟨⟨some ck, (), rfl, rfl, ⟨by rw [ht]; exact hP9, va_K.moved hW.alike hK9, hD9⟩⟩, hS.F ht⟩) hS.2.2 dX7_lend_23

def v_c_takeBack : List Cond := .code yX7_takeBack cX7_takeBack 3 none :: ([.fieldLink RX7 18 "ClaimBus$Store" "unused" "LClaimBus$Chunk;", .fieldLink RX7 48 "ClaimBus$Chunk" "next" "LClaimBus$Chunk;"] ++ wsX70 ++ wsX00)
theorem in_c_takeBack_X7 : ∀ w ∈ wsX70, w ∈ v_c_takeBack := fun w h => List.mem_cons_of_mem _ (List.mem_append_left _ (List.mem_append_right _ h))
theorem in_c_takeBack_X0 : ∀ w ∈ wsX00, w ∈ v_c_takeBack := fun w h => List.mem_cons_of_mem _ (List.mem_append_right _ h)
set_option maxHeartbeats 4000000 in
set_option maxRecDepth 100000 in
theorem c_takeBack (l : Launch) (dC : Nat → ClassId) (dI : Nat → Nat → Nat) (st : Nat) (ml : Nat) (ck : Nat) (ce : Nat) (sz : Nat)  : Met l yX7_takeBack v_c_takeBack ({ frames := 0, cells := 0, slots := 0, locals := 0 }) (va_Pc [.ref st, .ref ck, .ref ck] (fun U => U.heap.size = sz ∧ va_P (dC, dI) vwCl [(st, .inr (8, [.ref ml, .null])), (ck, .inr (1, [.ref ce, .null]))] U.heap ∧ va_K (dC, dI) vwCl [] U ∧ va_D (fun _ => True) [(st, .inr (8, [.ref ml, .null])), (ck, .inr (1, [.ref ce, .null]))] ∧ ev U)) (va_Qv (fun _ : Unit => True) (fun (_ : Unit) (t : State) => va_P (dC, dI) vwCl [(st, .inr (8, [.ref ml, .ref ck])), (ck, .inr (1, [.ref ce, .null]))] t.heap ∧ va_K (dC, dI) vwCl [] t ∧ va_D (va_A [(st, .inr (8, [.ref ml, .null])), (ck, .inr (1, [.ref ce, .null]))] sz) [(st, .inr (8, [.ref ml, .ref ck])), (ck, .inr (1, [.ref ce, .null]))]) (va_A [(st, .inr (8, [.ref ml, .null])), (ck, .inr (1, [.ref ce, .null]))] sz)) 0 0 (va_A [(st, .inr (8, [.ref ml, .null])), (ck, .inr (1, [.ref ce, .null]))] sz) := by
  refine Met.ofW (cc := cX7_takeBack) (maxL := 3) (ret := none) (by decide) rfl ?_
  intro p e s m args below meth c s₁ B hml hv
  obtain ⟨rfl, hsz, hP, hK, hD0, hE⟩ := hv
  have hx := B.exec
  have hb := B.bytes
  have hr := B.returns
  have hts := atoms_spec (ws := v_c_takeBack) B.pre
  have hown : s.vm.findClass RX7 = some m.cls := findClass_of_methodNamed B.named
  have hlocks := B.notSynchronized
  subst hsz
  have hD := hD0.self (sz := s.heap.size)
  generalize hAe : va_A [(st, .inr (8, [.ref ml, .null])), (ck, .inr (1, [.ref ce, .null]))] s.heap.size = A at hD ⊢
  have hA : ∀ q : Nat, s.heap.size ≤ q → A q := fun q h => by rw [← hAe]; exact Or.inr h
  have hS : va_S A s.heap s.heap [] := va_S.rf
  replace hP : va_P (dC, dI) vwCl [(st, .inr (8, [.ref ml, .null])), (ck, .inr (1, [.ref ce, .null]))] s.heap := hP
  have hl := lv_entry ([.ref st, .ref ck, .ref ck]) (n := 3) (Nat.le_of_ble_eq_true rfl)
  rw [lg_entry_eq]
  generalize (lg_sl ([.ref st, .ref ck, .ref ck]) ++ List.replicate (3 - (lg_sl ([.ref st, .ref ck, .ref ck])).length) Slot.unset).toArray = ls at hl ⊢
  replace hl : lv_has ls 3 [(0, .ref st), (1, .ref ck), (2, .ref ck)] := hl
  obtain ⟨H, hH⟩ : ∃ z : Heap, z = s.heap := ⟨_, rfl⟩
  rw [← hH]
  replace hS : va_S A s.heap H [] := by rw [hH]; exact va_S.rf
  replace hP : va_P (dC, dI) vwCl [(st, .inr (8, [.ref ml, .null])), (ck, .inr (1, [.ref ce, .null]))] H := by rw [hH]; exact hP
  clear hH
  refine lv_aload_n hx hb dX7_takeBack_0 rfl (lv_at hl 2 rfl) ?_
  refine lv_aload_n hx hb dX7_takeBack_1 rfl (lv_at hl 0 rfl) ?_
  refine va_get (D := (dC, dI)) (ci := 8) (v := .null) (C := RX7) (T := TX7) (N := 2) hx hb hts in_c_takeBack_X7 hown hK hP 0 rfl rfl 1 (by decide) (hts (.fieldLink RX7 18 "ClaimBus$Store" "unused" "LClaimBus$Chunk;") (List.mem_of_getElem? (i := 1) rfl)) (fun _ h9 => h9) rfl dX7_takeBack_2 ?_
  refine va_put (D := (dC, dI)) (ci := 1) (v := .null) (ty := (.object "ClaimBus$Chunk")) (C := RX0) (T := TX0) (N := 2) hx hb hts in_c_takeBack_X0 tyX0 tyX0_ok nmX0 hown hK hP hD hS 1 rfl rfl 1 (by decide) (hts (.fieldLink RX7 48 "ClaimBus$Chunk" "next" "LClaimBus$Chunk;") (List.mem_of_getElem? (i := 2) rfl)) (fun _ h9 => h9) rfl (by decide +kernel) rfl rfl (Nat.le_of_ble_eq_true rfl) dX7_takeBack_5 (fun H locs hP hD hS => ?_)
  replace hP : va_P (dC, dI) vwCl [(st, .inr (8, [.ref ml, .null])), (ck, .inr (1, [.ref ce, .null]))] H := hP
  replace hD : va_D A [(st, .inr (8, [.ref ml, .null])), (ck, .inr (1, [.ref ce, .null]))] := hD
  refine lv_aload_n hx hb dX7_takeBack_8 rfl (lv_at hl 0 rfl) ?_
  refine lv_aload_n hx hb dX7_takeBack_9 rfl (lv_at hl 1 rfl) ?_
  refine va_put (D := (dC, dI)) (ci := 8) (v := .ref ck) (ty := (.object "ClaimBus$Chunk")) (C := RX7) (T := TX7) (N := 2) hx hb hts in_c_takeBack_X7 tyX7 tyX7_ok nmX7 hown hK hP hD hS 0 rfl rfl 1 (by decide) (hts (.fieldLink RX7 18 "ClaimBus$Store" "unused" "LClaimBus$Chunk;") (List.mem_of_getElem? (i := 1) rfl)) (fun _ h9 => h9) rfl (by decide +kernel) rfl rfl (Nat.le_of_ble_eq_true rfl) dX7_takeBack_10 (fun H locs hP hD hS => ?_)
  replace hP : va_P (dC, dI) vwCl [(st, .inr (8, [.ref ml, .ref ck])), (ck, .inr (1, [.ref ce, .null]))] H := hP
  replace hD : va_D A [(st, .inr (8, [.ref ml, .ref ck])), (ck, .inr (1, [.ref ce, .null]))] := hD
  have hP9 := hP.sub (ws' := [(st, .inr (8, [.ref ml, .ref ck])), (ck, .inr (1, [.ref ce, .null]))]) [0, 1] rfl
  have hD9 := hD.sub (ws' := [(st, .inr (8, [.ref ml, .ref ck])), (ck, .inr (1, [.ref ce, .null]))]) [0, 1] (by decide) rfl
  have hK9 := hK.sub (tys' := []) [] rfl
  exact W.vret hx hb hr (fun t ht hW => ⟨⟨(), rfl, trivial, ⟨by rw [ht]; exact hP9, va_K.moved hW.alike hK9, hD9⟩⟩, hS.F ht⟩) hS.2.2 dX7_takeBack_13
