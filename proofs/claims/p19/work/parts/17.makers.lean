noncomputable def tl_c_X1_init : List Cond := wsX10
noncomputable def v_c_X1_init : List Cond := .code yX1_init cX1_init 1 none :: ([.methodLink RX1 3 objectInit, .instanceMethod objectInit, .code objectInit ⟨#[0xb1]⟩ 1 none, .fieldLink RX1 9 "ClaimBus$Frame" "identifier" "I", .fieldLink RX1 15 "ClaimBus$Frame" "first" "I", .fieldLink RX1 18 "ClaimBus$Frame" "others" "I", .fieldLink RX1 21 "ClaimBus$Frame" "whole" "LClaimBus$Message;"] ++ tl_c_X1_init)
theorem it_c_X1_init : ∀ w ∈ tl_c_X1_init, w ∈ v_c_X1_init := fun w h => List.mem_cons_of_mem _ (List.mem_append_right _ h)
theorem in_c_X1_init_X1 : ∀ w ∈ wsX10, w ∈ v_c_X1_init := fun w h => it_c_X1_init w (h)
theorem gt_c_X1_init : ∀ w ∈ tl_c_X1_init, goodWord w = true := gw_wsX10
theorem gw_c_X1_init : ∀ w ∈ v_c_X1_init, goodWord w = true := List.forall_mem_cons.mpr ⟨by decide +kernel, List.forall_mem_append.mpr ⟨List.all_eq_true.mp (by decide +kernel), gt_c_X1_init⟩⟩
set_option maxHeartbeats 4000000 in
set_option maxRecDepth 100000 in
/-- Frame() -/
theorem c_X1_init (l : Launch) (dC : Nat → ClassId) (dI : Nat → Nat → Nat) (h0 : Nat) (sz : Nat)  : Met l yX1_init v_c_X1_init ({ frames := 1, cells := 0, slots := 0, locals := 13 }) (va_Pc [.ref h0] (fun U => U.heap.size = sz ∧ va_P (dC, dI) vwCl [(h0, .inr (2, [.int 0, .int 0, .int 0, .null]))] U.heap ∧ va_K (dC, dI) vwCl [] U ∧ va_D (fun _ => True) [(h0, .inr (2, [.int 0, .int 0, .int 0, .null]))] ∧ ev U)) (va_Qv (fun _ : Unit => True) (fun (_ : Unit) (t : State) => va_P (dC, dI) vwCl [(h0, .inr (2, [.int 0, .int 0, .int 0, .null]))] t.heap ∧ va_K (dC, dI) vwCl [] t ∧ va_D (va_A [(h0, .inr (2, [.int 0, .int 0, .int 0, .null]))] sz) [(h0, .inr (2, [.int 0, .int 0, .int 0, .null]))]) (va_A [(h0, .inr (2, [.int 0, .int 0, .int 0, .null]))] sz)) 0 0 (va_A [(h0, .inr (2, [.int 0, .int 0, .int 0, .null]))] sz) := by
  refine Met.ofW (cc := cX1_init) (maxL := 1) (ret := none) (by decide) rfl ?_
  intro p e s m args below meth c s₁ B hml hv
  obtain ⟨rfl, hsz, hP, hK, hD0, hE⟩ := hv
  have hx := B.exec
  have hb := B.bytes
  have hr := B.returns
  have hts := atoms_spec (ws := v_c_X1_init) B.pre
  have hown : s.vm.findClass RX1 = some m.cls := findClass_of_methodNamed B.named
  have hlocks := B.notSynchronized
  have hin : meth.name = "<init>" := (name_of_methodNamed B.named B.method).1
  subst hsz
  have hD := hD0.self (sz := s.heap.size)
  generalize hAe : va_A [(h0, .inr (2, [.int 0, .int 0, .int 0, .null]))] s.heap.size = A at hD ⊢
  have hA : ∀ q : Nat, s.heap.size ≤ q → A q := fun q h => by rw [← hAe]; exact Or.inr h
  have hS : va_S A s.heap s.heap [] := va_S.rf
  replace hP : va_P (dC, dI) vwCl [(h0, .inr (2, [.int 0, .int 0, .int 0, .null]))] s.heap := hP
  have hl := lv_entry ([.ref h0]) (n := 1) (Nat.le_of_ble_eq_true rfl)
  rw [lg_entry_eq]
  generalize (lg_sl ([.ref h0]) ++ List.replicate (1 - (lg_sl ([.ref h0])).length) Slot.unset).toArray = ls at hl ⊢
  replace hl : lv_has ls 1 [(0, .ref h0)] := hl
  obtain ⟨H, hH⟩ : ∃ z : Heap, z = s.heap := ⟨_, rfl⟩
  rw [← hH]
  replace hS : va_S A s.heap H [] := by rw [hH]; exact va_S.rf
  replace hP : va_P (dC, dI) vwCl [(h0, .inr (2, [.int 0, .int 0, .int 0, .null]))] H := by rw [hH]; exact hP
  clear hH
  refine lv_aload_n hx hb dX1_init_0 rfl (lv_at hl 0 rfl) ?_
  refine W.objInit hx hb hown (hts (.methodLink RX1 3 objectInit) (List.mem_of_getElem? (i := 1) rfl)) (hts (.instanceMethod objectInit) (List.mem_of_getElem? (i := 2) rfl)) (hts (.code objectInit ⟨#[0xb1]⟩ 1 none) (List.mem_of_getElem? (i := 3) rfl)) rfl (by rw [hml]; exact hl.1) rfl dX1_init_1 (Nat.le_of_ble_eq_true rfl) (Nat.le_of_ble_eq_true rfl) ?_
  refine W.eq (g2 := F0 m 4 ls []) rfl ?_
  refine lv_aload_n hx hb dX1_init_4 rfl (lv_at hl 0 rfl) ?_
  refine lv_iconst (v := 0) hx hb dX1_init_5 (by decide) ?_
  refine va_put (D := (dC, dI)) (ci := 2) (v := .int 0) (ty := .int) (C := RX1) (T := TX1) (N := 4) hx hb hts in_c_X1_init_X1 tyX1 tyX1_ok nmX1 hown hK hP hD hS 0 rfl rfl 0 (by decide) (hts (.fieldLink RX1 9 "ClaimBus$Frame" "identifier" "I") (List.mem_of_getElem? (i := 4) rfl)) (fun _ h9 => h9) rfl (by decide +kernel) rfl rfl (Nat.le_of_ble_eq_true rfl) dX1_init_6 (fun H locs hP hD hS => ?_)
  replace hP : va_P (dC, dI) vwCl [(h0, .inr (2, [.int 0, .int 0, .int 0, .null]))] H := hP
  replace hD : va_D A [(h0, .inr (2, [.int 0, .int 0, .int 0, .null]))] := hD
  refine lv_aload_n hx hb dX1_init_9 rfl (lv_at hl 0 rfl) ?_
  refine lv_iconst (v := 0) hx hb dX1_init_10 (by decide) ?_
  refine va_put (D := (dC, dI)) (ci := 2) (v := .int 0) (ty := .int) (C := RX1) (T := TX1) (N := 4) hx hb hts in_c_X1_init_X1 tyX1 tyX1_ok nmX1 hown hK hP hD hS 0 rfl rfl 1 (by decide) (hts (.fieldLink RX1 15 "ClaimBus$Frame" "first" "I") (List.mem_of_getElem? (i := 5) rfl)) (fun _ h9 => h9) rfl (by decide +kernel) rfl rfl (Nat.le_of_ble_eq_true rfl) dX1_init_11 (fun H locs hP hD hS => ?_)
  replace hP : va_P (dC, dI) vwCl [(h0, .inr (2, [.int 0, .int 0, .int 0, .null]))] H := hP
  replace hD : va_D A [(h0, .inr (2, [.int 0, .int 0, .int 0, .null]))] := hD
  refine lv_aload_n hx hb dX1_init_14 rfl (lv_at hl 0 rfl) ?_
  refine lv_iconst (v := 0) hx hb dX1_init_15 (by decide) ?_
  refine va_put (D := (dC, dI)) (ci := 2) (v := .int 0) (ty := .int) (C := RX1) (T := TX1) (N := 4) hx hb hts in_c_X1_init_X1 tyX1 tyX1_ok nmX1 hown hK hP hD hS 0 rfl rfl 2 (by decide) (hts (.fieldLink RX1 18 "ClaimBus$Frame" "others" "I") (List.mem_of_getElem? (i := 6) rfl)) (fun _ h9 => h9) rfl (by decide +kernel) rfl rfl (Nat.le_of_ble_eq_true rfl) dX1_init_16 (fun H locs hP hD hS => ?_)
  replace hP : va_P (dC, dI) vwCl [(h0, .inr (2, [.int 0, .int 0, .int 0, .null]))] H := hP
  replace hD : va_D A [(h0, .inr (2, [.int 0, .int 0, .int 0, .null]))] := hD
  refine lv_aload_n hx hb dX1_init_19 rfl (lv_at hl 0 rfl) ?_
  refine lv_null hx hb dX1_init_20 ?_
  refine va_put (D := (dC, dI)) (ci := 2) (v := .null) (ty := (.object "ClaimBus$Message")) (C := RX1) (T := TX1) (N := 4) hx hb hts in_c_X1_init_X1 tyX1 tyX1_ok nmX1 hown hK hP hD hS 0 rfl rfl 3 (by decide) (hts (.fieldLink RX1 21 "ClaimBus$Frame" "whole" "LClaimBus$Message;") (List.mem_of_getElem? (i := 7) rfl)) (fun _ h9 => h9) rfl (by decide +kernel) rfl rfl (Nat.le_of_ble_eq_true rfl) dX1_init_21 (fun H locs hP hD hS => ?_)
  replace hP : va_P (dC, dI) vwCl [(h0, .inr (2, [.int 0, .int 0, .int 0, .null]))] H := hP
  replace hD : va_D A [(h0, .inr (2, [.int 0, .int 0, .int 0, .null]))] := hD
  have hP9 := hP.sub (ws' := [(h0, .inr (2, [.int 0, .int 0, .int 0, .null]))]) [0] rfl
  have hD9 := hD.sub (ws' := [(h0, .inr (2, [.int 0, .int 0, .int 0, .null]))]) [0] (by decide +kernel) rfl
  have hK9 := hK.sub (tys' := []) [] rfl
  exact W.vret hx hb hr (fun t ht hW => ⟨⟨(), rfl, trivial, ⟨by rw [ht]; exact hP9, va_K.moved hW.alike hK9, hD9⟩⟩, hS.F ht⟩) hS.2.2 dX1_init_24

noncomputable def tl_c_X7_init : List Cond := wsJx4a65c0 ++ (wsX70 ++ (v_c_AL_init))
noncomputable def v_c_X7_init : List Cond := .code yX7_init cX7_init 1 none :: ([.methodLink RX7 3 objectInit, .instanceMethod objectInit, .code objectInit ⟨#[0xb1]⟩ 1 none, .classLink RX7 9 RJx4a65c, .instantiable RJx4a65c 3, .initialized RJx4a65c, .methodLink RX7 11 yJx4a65c_init_da8c8, .instanceMethod yJx4a65c_init_da8c8, .fieldLink RX7 12 "ClaimBus$Store" "messages" "Ljava/util/ArrayList;", .fieldLink RX7 18 "ClaimBus$Store" "unused" "LClaimBus$Chunk;"] ++ tl_c_X7_init)
theorem it_c_X7_init : ∀ w ∈ tl_c_X7_init, w ∈ v_c_X7_init := fun w h => List.mem_cons_of_mem _ (List.mem_append_right _ h)
theorem in_c_X7_init_Jx4a65c : ∀ w ∈ wsJx4a65c0, w ∈ v_c_X7_init := fun w h => it_c_X7_init w (List.mem_append_left _ h)
theorem in_c_X7_init_X7 : ∀ w ∈ wsX70, w ∈ v_c_X7_init := fun w h => it_c_X7_init w (List.mem_append_right _ (List.mem_append_left _ h))
theorem ic_c_X7_init_c_AL_init : ∀ w ∈ v_c_AL_init, w ∈ v_c_X7_init := fun w h => it_c_X7_init w (List.mem_append_right _ (List.mem_append_right _ (h)))
theorem gt_c_X7_init : ∀ w ∈ tl_c_X7_init, goodWord w = true := List.forall_mem_append.mpr ⟨gw_wsJx4a65c0, List.forall_mem_append.mpr ⟨gw_wsX70, gw_c_AL_init⟩⟩
theorem gw_c_X7_init : ∀ w ∈ v_c_X7_init, goodWord w = true := List.forall_mem_cons.mpr ⟨by decide +kernel, List.forall_mem_append.mpr ⟨List.all_eq_true.mp (by decide +kernel), gt_c_X7_init⟩⟩
theorem g_c_X7_init_c_AL_init_11 : GoodIn v_c_X7_init v_c_AL_init := fun w h => ⟨ic_c_X7_init_c_AL_init w h, good_of_word (gw_c_AL_init w h)⟩
set_option maxHeartbeats 4000000 in
set_option maxRecDepth 100000 in
/-- Store() -/
theorem c_X7_init (l : Launch) (dC : Nat → ClassId) (dI : Nat → Nat → Nat) (zt : Nat) (h0 : Nat) (sz : Nat)  : Met l yX7_init v_c_X7_init ({ frames := 4, cells := 1, slots := 3, locals := 73 }) (va_Pc [.ref h0] (fun U => U.heap.size = sz ∧ va_P (dC, dI) vwCl [(h0, .inr (8, [.null, .null]))] U.heap ∧ va_K (dC, dI) vwCl [] U ∧ va_D (fun _ => True) [(h0, .inr (8, [.null, .null]))] ∧ ev U ∧ va_Z "java/util/ArrayList" "DEFAULTCAPACITY_EMPTY_ELEMENTDATA" "[Ljava/lang/Object;" (.ref zt) (va_A [(h0, .inr (8, [.null, .null]))] sz) U U.heap ∧ va_T (.object "java/lang/Object") zt 0 (fun _ => .null) (va_A [(h0, .inr (8, [.null, .null]))] sz) U U.heap)) (va_Qv (fun _ : Unit => True) (fun (_ : Unit) (t : State) => ∃ (ml : Nat), va_P (dC, dI) vwCl [(h0, .inr (8, [.ref ml, .null])), (ml, .inr (0, [.int 0, .ref zt, .int 0]))] t.heap ∧ va_K (dC, dI) vwCl [] t ∧ va_D (va_A [(h0, .inr (8, [.null, .null]))] sz) [(h0, .inr (8, [.ref ml, .null])), (ml, .inr (0, [.int 0, .ref zt, .int 0]))]) (va_A [(h0, .inr (8, [.null, .null]))] sz)) 1 3 (va_A [(h0, .inr (8, [.null, .null]))] sz) := by
  refine Met.ofW (cc := cX7_init) (maxL := 1) (ret := none) (by decide) rfl ?_
  intro p e s m args below meth c s₁ B hml hv
  obtain ⟨rfl, hsz, hP, hK, hD0, hE, hZ, hTz⟩ := hv
  have hx := B.exec
  have hb := B.bytes
  have hr := B.returns
  have hts := atoms_spec (ws := v_c_X7_init) B.pre
  have hown : s.vm.findClass RX7 = some m.cls := findClass_of_methodNamed B.named
  have hlocks := B.notSynchronized
  have hin : meth.name = "<init>" := (name_of_methodNamed B.named B.method).1
  subst hsz
  have hD := hD0.self (sz := s.heap.size)
  generalize hAe : va_A [(h0, .inr (8, [.null, .null]))] s.heap.size = A at hD hZ hTz ⊢
  have hA : ∀ q : Nat, s.heap.size ≤ q → A q := fun q h => by rw [← hAe]; exact Or.inr h
  have hS : va_S A s.heap s.heap [] := va_S.rf
  replace hP : va_P (dC, dI) vwCl [(h0, .inr (8, [.null, .null]))] s.heap := hP
  have hl := lv_entry ([.ref h0]) (n := 1) (Nat.le_of_ble_eq_true rfl)
  rw [lg_entry_eq]
  generalize (lg_sl ([.ref h0]) ++ List.replicate (1 - (lg_sl ([.ref h0])).length) Slot.unset).toArray = ls at hl ⊢
  replace hl : lv_has ls 1 [(0, .ref h0)] := hl
  obtain ⟨H, hH⟩ : ∃ z : Heap, z = s.heap := ⟨_, rfl⟩
  rw [← hH]
  replace hS : va_S A s.heap H [] := by rw [hH]; exact va_S.rf
  replace hP : va_P (dC, dI) vwCl [(h0, .inr (8, [.null, .null]))] H := by rw [hH]; exact hP
  clear hH
  refine lv_aload_n hx hb dX7_init_0 rfl (lv_at hl 0 rfl) ?_
  refine W.objInit hx hb hown (hts (.methodLink RX7 3 objectInit) (List.mem_of_getElem? (i := 1) rfl)) (hts (.instanceMethod objectInit) (List.mem_of_getElem? (i := 2) rfl)) (hts (.code objectInit ⟨#[0xb1]⟩ 1 none) (List.mem_of_getElem? (i := 3) rfl)) rfl (by rw [hml]; exact hl.1) rfl dX7_init_1 (Nat.le_of_ble_eq_true rfl) (Nat.le_of_ble_eq_true rfl) ?_
  refine W.eq (g2 := F0 m 4 ls []) rfl ?_
  refine lv_aload_n hx hb dX7_init_4 rfl (lv_at hl 0 rfl) ?_
  refine va_new (ci := 0) (fs := [.int 0, .null, .int 0]) (C := RJx4a65c) (T := TJx4a65c) (N := 3) hx hb hts in_c_X7_init_Jx4a65c tyJx4a65c tyJx4a65c_ok hown (hts (.classLink RX7 9 RJx4a65c) (List.mem_of_getElem? (i := 4) rfl)) (hts (.instantiable RJx4a65c 3) (List.mem_of_getElem? (i := 5) rfl)) (hts (.initialized RJx4a65c) (List.mem_of_getElem? (i := 6) rfl)) hK hP hD hS hA rfl df_Jx4a65c (Nat.le_of_ble_eq_true rfl) (Nat.le_of_ble_eq_true rfl) dX7_init_5 (fun q1 H hP hD hS => ?_)
  replace hP : va_P (dC, dI) vwCl [(h0, .inr (8, [.null, .null])), (q1, .inr (0, [.int 0, .null, .int 0]))] H := hP
  replace hD : va_D A [(h0, .inr (8, [.null, .null])), (q1, .inr (0, [.int 0, .null, .int 0]))] := hD
  refine W.widen (k := 1) (n := 3) (Nat.le_of_ble_eq_true rfl) (Nat.le_of_ble_eq_true rfl) ?_
  refine lv_dup hx hb dX7_init_8 rfl ?_
  have hPc := hP.sub (ws' := [(q1, .inr (0, [.int 0, .null, .int 0]))]) [1] rfl
  have hDc := hD.sub (ws' := [(q1, .inr (0, [.int 0, .null, .int 0]))]) [1] (by decide +kernel) rfl
  have hKc := hK.sub (tys' := []) [] rfl
  have hFc := va_free (wc := [(q1, .inr (0, [.int 0, .null, .int 0]))]) hD hS hA [1] rfl
  have hZc := (hZ.kept hS.2.1).narrow (fun q h => hFc q h)
  have hTc := (hTz.kept hS.2.1).narrow (fun q h => hFc q h)
  refine va_callv (va_runI (As := []) (rest := [.ref q1, .ref h0]) ⟨hx, hb, hml, hown, hts⟩ (c_AL_init l dC dI (zt) (q1) H.size) (cwI 0 hts g_c_X7_init_c_AL_init_11 rfl rfl rfl (hts (.initialized RJx4a65c) (List.mem_of_getElem? (i := 6) rfl)) (hts (.methodLink RX7 11 yJx4a65c_init_da8c8) (List.mem_of_getElem? (i := 7) rfl)) (hts (.instanceMethod yJx4a65c_init_da8c8) (List.mem_of_getElem? (i := 8) rfl)) rfl (by decide +kernel) ⟨Nat.le_of_ble_eq_true rfl, Nat.le_of_ble_eq_true rfl⟩) ⟨fun a U g mk q => by obtain ⟨q0, q1, qP, qK, qD, qE, qZ, qT⟩ := q; exact ⟨q0, q1, qP, va_K.moved (u := U) (U := U.calling g mk a) (Vm.Alike.refl U.vm) qK, qD, ev.same (u := U) (U := U.calling g mk a) rfl qE, va_Z.moved (u := U) (U := U.calling g mk a) (Vm.Alike.refl U.vm) qZ, va_T.moved (u := U) (U := U.calling g mk a) (Vm.Alike.refl U.vm) qT⟩, fun U hU hW => ⟨rfl, by rw [hU], by rw [hU]; exact hPc, va_K.moved hW.alike hKc, hDc.weaken (fun _ _ _ _ => trivial), hE.warm hW, by rw [hU]; exact hZc.moved hW.alike, by rw [hU]; exact hTc.moved hW.alike⟩⟩ rfl rfl hl.1 rfl (lv_room (Nat.le_of_ble_eq_true rfl)) dX7_init_9 ⟨Nat.le_of_ble_eq_true rfl, Nat.le_of_ble_eq_true rfl⟩) hS (fun q _ h => hFc q h) hFc (fun u t H1 locs ht hvm hw hB hz1 hk1 hS => ?_)
  clear hPc hDc hKc
  obtain ⟨hP1, hK1, hD1⟩ := hB
  rw [ht] at hP1
  have hK1 := va_K.moved hvm.symm hK1
  obtain ⟨hP, hD⟩ := va_join (wr := [(h0, .inr (8, [.null, .null]))]) (w1 := [(q1, .inr (0, [.int 0, .ref zt, .int 0]))]) hP hD [1] [0] rfl rfl (by decide +kernel) (by decide +kernel) hk1 hFc hP1 hD1
  generalize H1 = H at hP hS ⊢
  replace hP : va_P (dC, dI) vwCl [(h0, .inr (8, [.null, .null])), (q1, .inr (0, [.int 0, .ref zt, .int 0]))] H := hP
  replace hD : va_D A [(h0, .inr (8, [.null, .null])), (q1, .inr (0, [.int 0, .ref zt, .int 0]))] := hD
  clear hw
  refine va_putF (D := (dC, dI)) (ci := 8) (v := .ref q1) (ty := (.object "java/util/ArrayList")) (C := RX7) (T := TX7) (N := 2) hx hb hts in_c_X7_init_X7 tyX7 tyX7_ok nmX7 hown hK hP hD hS 0 rfl rfl 0 (by decide) (hts (.fieldLink RX7 12 "ClaimBus$Store" "messages" "Ljava/util/ArrayList;") (List.mem_of_getElem? (i := 9) rfl)) (fun _ h9 => h9) rfl hin rfl (by decide +kernel) rfl rfl (Nat.le_of_ble_eq_true rfl) dX7_init_12 (fun H locs hP hD hS => ?_)
  replace hP : va_P (dC, dI) vwCl [(h0, .inr (8, [.ref q1, .null])), (q1, .inr (0, [.int 0, .ref zt, .int 0]))] H := hP
  replace hD : va_D A [(h0, .inr (8, [.ref q1, .null])), (q1, .inr (0, [.int 0, .ref zt, .int 0]))] := hD
  refine lv_aload_n hx hb dX7_init_15 rfl (lv_at hl 0 rfl) ?_
  refine lv_null hx hb dX7_init_16 ?_
  refine va_put (D := (dC, dI)) (ci := 8) (v := .null) (ty := (.object "ClaimBus$Chunk")) (C := RX7) (T := TX7) (N := 2) hx hb hts in_c_X7_init_X7 tyX7 tyX7_ok nmX7 hown hK hP hD hS 0 rfl rfl 1 (by decide) (hts (.fieldLink RX7 18 "ClaimBus$Store" "unused" "LClaimBus$Chunk;") (List.mem_of_getElem? (i := 10) rfl)) (fun _ h9 => h9) rfl (by decide +kernel) rfl rfl (Nat.le_of_ble_eq_true rfl) dX7_init_17 (fun H locs hP hD hS => ?_)
  replace hP : va_P (dC, dI) vwCl [(h0, .inr (8, [.ref q1, .null])), (q1, .inr (0, [.int 0, .ref zt, .int 0]))] H := hP
  replace hD : va_D A [(h0, .inr (8, [.ref q1, .null])), (q1, .inr (0, [.int 0, .ref zt, .int 0]))] := hD
  have hP9 := hP.sub (ws' := [(h0, .inr (8, [.ref q1, .null])), (q1, .inr (0, [.int 0, .ref zt, .int 0]))]) [0, 1] rfl
  have hD9 := hD.sub (ws' := [(h0, .inr (8, [.ref q1, .null])), (q1, .inr (0, [.int 0, .ref zt, .int 0]))]) [0, 1] (by decide +kernel) rfl
  have hK9 := hK.sub (tys' := []) [] rfl
  exact W.vret hx hb hr (fun t ht hW => ⟨⟨(), rfl, trivial, ⟨q1, by rw [ht]; exact hP9, va_K.moved hW.alike hK9, hD9⟩⟩, hS.F ht⟩) hS.2.2 dX7_init_20

noncomputable def tl_c_X10_init : List Cond := wsX100 ++ (wsX70 ++ (wsX10 ++ (v_c_X7_init ++ (v_c_X1_init))))
noncomputable def v_c_X10_init : List Cond := .code yX10_init cX10_init 1 none :: ([.methodLink RX10 1 objectInit, .instanceMethod objectInit, .code objectInit ⟨#[0xb1]⟩ 1 none, .classLink RX10 9 RX4, .fieldLink RX10 11 "ClaimBus" "nodes" "[LClaimBus$Node;", .classLink RX10 15 RX7, .instantiable RX7 2, .initialized RX7, .instanceMethod yX7_init, .fieldLink RX10 18 "ClaimBus" "store" "LClaimBus$Store;", .classLink RX10 22 RX1, .instantiable RX1 4, .initialized RX1, .instanceMethod yX1_init, .fieldLink RX10 25 "ClaimBus" "last" "LClaimBus$Frame;", .fieldLink RX10 29 "ClaimBus" "nodeCount" "I", .fieldLink RX10 33 "ClaimBus" "time" "I", .fieldLink RX10 36 "ClaimBus" "framesCarried" "I", .fieldLink RX10 39 "ClaimBus" "lastSender" "I", .fieldLink RX10 42 "ClaimBus" "stopped" "Z"] ++ tl_c_X10_init)
theorem it_c_X10_init : ∀ w ∈ tl_c_X10_init, w ∈ v_c_X10_init := fun w h => List.mem_cons_of_mem _ (List.mem_append_right _ h)
theorem in_c_X10_init_X10 : ∀ w ∈ wsX100, w ∈ v_c_X10_init := fun w h => it_c_X10_init w (List.mem_append_left _ h)
theorem in_c_X10_init_X7 : ∀ w ∈ wsX70, w ∈ v_c_X10_init := fun w h => it_c_X10_init w (List.mem_append_right _ (List.mem_append_left _ h))
theorem in_c_X10_init_X1 : ∀ w ∈ wsX10, w ∈ v_c_X10_init := fun w h => it_c_X10_init w (List.mem_append_right _ (List.mem_append_right _ (List.mem_append_left _ h)))
theorem ic_c_X10_init_c_X7_init : ∀ w ∈ v_c_X7_init, w ∈ v_c_X10_init := fun w h => it_c_X10_init w (List.mem_append_right _ (List.mem_append_right _ (List.mem_append_right _ (List.mem_append_left _ h))))
theorem ic_c_X10_init_c_X1_init : ∀ w ∈ v_c_X1_init, w ∈ v_c_X10_init := fun w h => it_c_X10_init w (List.mem_append_right _ (List.mem_append_right _ (List.mem_append_right _ (List.mem_append_right _ (h)))))
theorem gt_c_X10_init : ∀ w ∈ tl_c_X10_init, goodWord w = true := List.forall_mem_append.mpr ⟨gw_wsX100, List.forall_mem_append.mpr ⟨gw_wsX70, List.forall_mem_append.mpr ⟨gw_wsX10, List.forall_mem_append.mpr ⟨gw_c_X7_init, gw_c_X1_init⟩⟩⟩⟩
theorem gw_c_X10_init : ∀ w ∈ v_c_X10_init, goodWord w = true := List.forall_mem_cons.mpr ⟨by decide +kernel, List.forall_mem_append.mpr ⟨List.all_eq_true.mp (by decide +kernel), gt_c_X10_init⟩⟩
theorem g_c_X10_init_c_X7_init_17 : GoodIn v_c_X10_init v_c_X7_init := fun w h => ⟨ic_c_X10_init_c_X7_init w h, good_of_word (gw_c_X7_init w h)⟩
theorem g_c_X10_init_c_X1_init_24 : GoodIn v_c_X10_init v_c_X1_init := fun w h => ⟨ic_c_X10_init_c_X1_init w h, good_of_word (gw_c_X1_init w h)⟩
set_option maxHeartbeats 4000000 in
set_option maxRecDepth 100000 in
/-- ClaimBus() -/
theorem c_X10_init (l : Launch) (dC : Nat → ClassId) (dI : Nat → Nat → Nat) (zt : Nat) (h0 : Nat) (sz : Nat)  : Met l yX10_init v_c_X10_init ({ frames := 5, cells := 4, slots := 17, locals := 93 }) (va_Pc [.ref h0] (fun U => U.heap.size = sz ∧ va_P (dC, dI) vwCl [(h0, .inr (11, [.null, .null, .null, .int 0, .int 0, .int 0, .int 0, .int 0]))] U.heap ∧ va_K (dC, dI) vwCl [] U ∧ va_D (fun _ => True) [(h0, .inr (11, [.null, .null, .null, .int 0, .int 0, .int 0, .int 0, .int 0]))] ∧ ev U ∧ va_Z "java/util/ArrayList" "DEFAULTCAPACITY_EMPTY_ELEMENTDATA" "[Ljava/lang/Object;" (.ref zt) (va_A [(h0, .inr (11, [.null, .null, .null, .int 0, .int 0, .int 0, .int 0, .int 0]))] sz) U U.heap ∧ va_T (.object "java/lang/Object") zt 0 (fun _ => .null) (va_A [(h0, .inr (11, [.null, .null, .null, .int 0, .int 0, .int 0, .int 0, .int 0]))] sz) U U.heap)) (va_Qv (fun _ : Unit => True) (fun (_ : Unit) (t : State) => ∃ (nr : Nat) (cN : ClassId) (fn : Nat → Option Nat) (st : Nat) (lf : Nat) (ml : Nat), va_P (dC, dI) vwCl [(h0, .inr (11, [.ref nr, .ref st, .ref lf, .int 0, .int 0, .int 0, .int (-1), .int 0])), (nr, .inl (cN, 8, .inr (.inr (.inr (.inr fn))))), (st, .inr (8, [.ref ml, .null])), (ml, .inr (0, [.int 0, .ref zt, .int 0])), (lf, .inr (2, [.int 0, .int 0, .int 0, .null]))] t.heap ∧ va_K (dC, dI) vwCl [(cN, (.object RX4))] t ∧ va_D (va_A [(h0, .inr (11, [.null, .null, .null, .int 0, .int 0, .int 0, .int 0, .int 0]))] sz) [(h0, .inr (11, [.ref nr, .ref st, .ref lf, .int 0, .int 0, .int 0, .int (-1), .int 0])), (nr, .inl (cN, 8, .inr (.inr (.inr (.inr fn))))), (st, .inr (8, [.ref ml, .null])), (ml, .inr (0, [.int 0, .ref zt, .int 0])), (lf, .inr (2, [.int 0, .int 0, .int 0, .null]))] ∧ (fn 0 = none) ∧ (fn 1 = none)) (va_A [(h0, .inr (11, [.null, .null, .null, .int 0, .int 0, .int 0, .int 0, .int 0]))] sz)) 4 17 (va_A [(h0, .inr (11, [.null, .null, .null, .int 0, .int 0, .int 0, .int 0, .int 0]))] sz) := by
  refine Met.ofW (cc := cX10_init) (maxL := 1) (ret := none) (by decide) rfl ?_
  intro p e s m args below meth c s₁ B hml hv
  obtain ⟨rfl, hsz, hP, hK, hD0, hE, hZ, hTz⟩ := hv
  have hx := B.exec
  have hb := B.bytes
  have hr := B.returns
  have hts := atoms_spec (ws := v_c_X10_init) B.pre
  have hown : s.vm.findClass RX10 = some m.cls := findClass_of_methodNamed B.named
  have hlocks := B.notSynchronized
  have hin : meth.name = "<init>" := (name_of_methodNamed B.named B.method).1
  subst hsz
  have hD := hD0.self (sz := s.heap.size)
  generalize hAe : va_A [(h0, .inr (11, [.null, .null, .null, .int 0, .int 0, .int 0, .int 0, .int 0]))] s.heap.size = A at hD hZ hTz ⊢
  have hA : ∀ q : Nat, s.heap.size ≤ q → A q := fun q h => by rw [← hAe]; exact Or.inr h
  have hS : va_S A s.heap s.heap [] := va_S.rf
  replace hP : va_P (dC, dI) vwCl [(h0, .inr (11, [.null, .null, .null, .int 0, .int 0, .int 0, .int 0, .int 0]))] s.heap := hP
  have hl := lv_entry ([.ref h0]) (n := 1) (Nat.le_of_ble_eq_true rfl)
  rw [lg_entry_eq]
  generalize (lg_sl ([.ref h0]) ++ List.replicate (1 - (lg_sl ([.ref h0])).length) Slot.unset).toArray = ls at hl ⊢
  replace hl : lv_has ls 1 [(0, .ref h0)] := hl
  obtain ⟨H, hH⟩ : ∃ z : Heap, z = s.heap := ⟨_, rfl⟩
  rw [← hH]
  replace hS : va_S A s.heap H [] := by rw [hH]; exact va_S.rf
  replace hP : va_P (dC, dI) vwCl [(h0, .inr (11, [.null, .null, .null, .int 0, .int 0, .int 0, .int 0, .int 0]))] H := by rw [hH]; exact hP
  clear hH
  refine lv_aload_n hx hb dX10_init_0 rfl (lv_at hl 0 rfl) ?_
  refine W.objInit hx hb hown (hts (.methodLink RX10 1 objectInit) (List.mem_of_getElem? (i := 1) rfl)) (hts (.instanceMethod objectInit) (List.mem_of_getElem? (i := 2) rfl)) (hts (.code objectInit ⟨#[0xb1]⟩ 1 none) (List.mem_of_getElem? (i := 3) rfl)) rfl (by rw [hml]; exact hl.1) rfl dX10_init_1 (Nat.le_of_ble_eq_true rfl) (Nat.le_of_ble_eq_true rfl) ?_
  refine W.eq (g2 := F0 m 4 ls []) rfl ?_
  refine lv_aload_n hx hb dX10_init_4 rfl (lv_at hl 0 rfl) ?_
  refine lv_bipush (v := 8) hx hb dX10_init_5 (by decide) ?_
  refine va_newq (C := RX4) (N' := 8) hx hb hown (hts (.classLink RX10 9 RX4) (List.mem_of_getElem? (i := 4) rfl)) hE.AON hK hP hD hS hA (by decide) (by decide) (Nat.le_of_ble_eq_true rfl) (Nat.le_of_ble_eq_true rfl) (Nat.le_of_ble_eq_true rfl) dX10_init_7 (fun q1 cA1 H hK hP hD hS => ?_)
  replace hK : va_K (dC, dI) vwCl [(cA1, (.object RX4))] s := hK
  replace hP : va_P (dC, dI) vwCl [(h0, .inr (11, [.null, .null, .null, .int 0, .int 0, .int 0, .int 0, .int 0])), (q1, .inl (cA1, 8, .inr (.inr (.inr (.inr (fun _ => none))))))] H := hP
  replace hD : va_D A [(h0, .inr (11, [.null, .null, .null, .int 0, .int 0, .int 0, .int 0, .int 0])), (q1, .inl (cA1, 8, .inr (.inr (.inr (.inr (fun _ => none))))))] := hD
  refine W.widen (k := 1) (n := 8) (Nat.le_of_ble_eq_true rfl) (Nat.le_of_ble_eq_true rfl) ?_
  refine va_putF (D := (dC, dI)) (ci := 11) (v := .ref q1) (ty := (.array (.object "ClaimBus$Node"))) (C := RX10) (T := TX10) (N := 8) hx hb hts in_c_X10_init_X10 tyX10 tyX10_ok nmX10 hown hK hP hD hS 0 rfl rfl 0 (by decide) (hts (.fieldLink RX10 11 "ClaimBus" "nodes" "[LClaimBus$Node;") (List.mem_of_getElem? (i := 5) rfl)) (fun _ h9 => h9) rfl hin rfl (by decide +kernel) rfl rfl (Nat.le_of_ble_eq_true rfl) dX10_init_10 (fun H locs hP hD hS => ?_)
  replace hP : va_P (dC, dI) vwCl [(h0, .inr (11, [.ref q1, .null, .null, .int 0, .int 0, .int 0, .int 0, .int 0])), (q1, .inl (cA1, 8, .inr (.inr (.inr (.inr (fun _ => none))))))] H := hP
  replace hD : va_D A [(h0, .inr (11, [.ref q1, .null, .null, .int 0, .int 0, .int 0, .int 0, .int 0])), (q1, .inl (cA1, 8, .inr (.inr (.inr (.inr (fun _ => none))))))] := hD
  refine lv_aload_n hx hb dX10_init_13 rfl (lv_at hl 0 rfl) ?_
  refine va_new (ci := 8) (fs := [.null, .null]) (C := RX7) (T := TX7) (N := 2) hx hb hts in_c_X10_init_X7 tyX7 tyX7_ok hown (hts (.classLink RX10 15 RX7) (List.mem_of_getElem? (i := 6) rfl)) (hts (.instantiable RX7 2) (List.mem_of_getElem? (i := 7) rfl)) (hts (.initialized RX7) (List.mem_of_getElem? (i := 8) rfl)) hK hP hD hS hA rfl df_X7 (Nat.le_of_ble_eq_true rfl) (Nat.le_of_ble_eq_true rfl) dX10_init_14 (fun q2 H hP hD hS => ?_)
  replace hP : va_P (dC, dI) vwCl [(h0, .inr (11, [.ref q1, .null, .null, .int 0, .int 0, .int 0, .int 0, .int 0])), (q1, .inl (cA1, 8, .inr (.inr (.inr (.inr (fun _ => none)))))), (q2, .inr (8, [.null, .null]))] H := hP
  replace hD : va_D A [(h0, .inr (11, [.ref q1, .null, .null, .int 0, .int 0, .int 0, .int 0, .int 0])), (q1, .inl (cA1, 8, .inr (.inr (.inr (.inr (fun _ => none)))))), (q2, .inr (8, [.null, .null]))] := hD
  refine W.widen (k := 2) (n := 10) (Nat.le_of_ble_eq_true rfl) (Nat.le_of_ble_eq_true rfl) ?_
  refine lv_dup hx hb dX10_init_17 rfl ?_
  have hPc := hP.sub (ws' := [(q2, .inr (8, [.null, .null]))]) [2] rfl
  have hDc := hD.sub (ws' := [(q2, .inr (8, [.null, .null]))]) [2] (by decide +kernel) rfl
  have hKc := hK.sub (tys' := []) [] rfl
  have hFc := va_free (wc := [(q2, .inr (8, [.null, .null]))]) hD hS hA [2] rfl
  have hZc := (hZ.kept hS.2.1).narrow (fun q h => hFc q h)
  have hTc := (hTz.kept hS.2.1).narrow (fun q h => hFc q h)
  refine va_callv (va_runIN (As := []) (rest := [.ref q2, .ref h0]) ⟨hx, hb, hml, hown, hts⟩ (c_X7_init l dC dI (zt) (q2) H.size) ⟨va_cnB 0 hts g_c_X10_init_c_X7_init_17 rfl rfl rfl hE.n1 (hts (.initialized RX7) (List.mem_of_getElem? (i := 8) rfl)) (by decide +kernel) ⟨Nat.le_of_ble_eq_true rfl, Nat.le_of_ble_eq_true rfl⟩, rfl, (hts (.instanceMethod yX7_init) (List.mem_of_getElem? (i := 9) rfl))⟩ ⟨fun a U g mk q => by obtain ⟨q0, q1, qP, qK, qD, qE, qZ, qT⟩ := q; exact ⟨q0, q1, qP, va_K.moved (u := U) (U := U.calling g mk a) (Vm.Alike.refl U.vm) qK, qD, ev.same (u := U) (U := U.calling g mk a) rfl qE, va_Z.moved (u := U) (U := U.calling g mk a) (Vm.Alike.refl U.vm) qZ, va_T.moved (u := U) (U := U.calling g mk a) (Vm.Alike.refl U.vm) qT⟩, fun U hU hW => ⟨rfl, by rw [hU], by rw [hU]; exact hPc, va_K.moved hW.alike hKc, hDc.weaken (fun _ _ _ _ => trivial), hE.warm hW, by rw [hU]; exact hZc.moved hW.alike, by rw [hU]; exact hTc.moved hW.alike⟩⟩ rfl rfl hl.1 rfl (lv_room (Nat.le_of_ble_eq_true rfl)) dX10_init_18 ⟨Nat.le_of_ble_eq_true rfl, Nat.le_of_ble_eq_true rfl⟩) hS (fun q _ h => hFc q h) hFc (fun u t H1 locs ht hvm hw hB hz1 hk1 hS => ?_)
  clear hPc hDc hKc
  obtain ⟨ml_3, hP1, hK1, hD1⟩ := hB
  rw [ht] at hP1
  have hK1 := va_K.moved hvm.symm hK1
  obtain ⟨hP, hD⟩ := va_join (wr := [(h0, .inr (11, [.ref q1, .null, .null, .int 0, .int 0, .int 0, .int 0, .int 0])), (q1, .inl (cA1, 8, .inr (.inr (.inr (.inr (fun _ => none))))))]) (w1 := [(q2, .inr (8, [.ref ml_3, .null])), (ml_3, .inr (0, [.int 0, .ref zt, .int 0]))]) hP hD [2] [0, 1] rfl rfl (by decide +kernel) (by decide +kernel) hk1 hFc hP1 hD1
  generalize H1 = H at hP hS ⊢
  replace hP : va_P (dC, dI) vwCl [(h0, .inr (11, [.ref q1, .null, .null, .int 0, .int 0, .int 0, .int 0, .int 0])), (q1, .inl (cA1, 8, .inr (.inr (.inr (.inr (fun _ => none)))))), (q2, .inr (8, [.ref ml_3, .null])), (ml_3, .inr (0, [.int 0, .ref zt, .int 0]))] H := hP
  replace hD : va_D A [(h0, .inr (11, [.ref q1, .null, .null, .int 0, .int 0, .int 0, .int 0, .int 0])), (q1, .inl (cA1, 8, .inr (.inr (.inr (.inr (fun _ => none)))))), (q2, .inr (8, [.ref ml_3, .null])), (ml_3, .inr (0, [.int 0, .ref zt, .int 0]))] := hD
  refine W.widen (k := 3) (n := 13) (Nat.le_of_ble_eq_true rfl) (Nat.le_of_ble_eq_true rfl) ?_
  clear hw
  refine va_putF (D := (dC, dI)) (ci := 11) (v := .ref q2) (ty := (.object "ClaimBus$Store")) (C := RX10) (T := TX10) (N := 8) hx hb hts in_c_X10_init_X10 tyX10 tyX10_ok nmX10 hown hK hP hD hS 0 rfl rfl 1 (by decide) (hts (.fieldLink RX10 18 "ClaimBus" "store" "LClaimBus$Store;") (List.mem_of_getElem? (i := 10) rfl)) (fun _ h9 => h9) rfl hin rfl (by decide +kernel) rfl rfl (Nat.le_of_ble_eq_true rfl) dX10_init_21 (fun H locs hP hD hS => ?_)
  replace hP : va_P (dC, dI) vwCl [(h0, .inr (11, [.ref q1, .ref q2, .null, .int 0, .int 0, .int 0, .int 0, .int 0])), (q1, .inl (cA1, 8, .inr (.inr (.inr (.inr (fun _ => none)))))), (q2, .inr (8, [.ref ml_3, .null])), (ml_3, .inr (0, [.int 0, .ref zt, .int 0]))] H := hP
  replace hD : va_D A [(h0, .inr (11, [.ref q1, .ref q2, .null, .int 0, .int 0, .int 0, .int 0, .int 0])), (q1, .inl (cA1, 8, .inr (.inr (.inr (.inr (fun _ => none)))))), (q2, .inr (8, [.ref ml_3, .null])), (ml_3, .inr (0, [.int 0, .ref zt, .int 0]))] := hD
  refine lv_aload_n hx hb dX10_init_24 rfl (lv_at hl 0 rfl) ?_
  refine va_new (ci := 2) (fs := [.int 0, .int 0, .int 0, .null]) (C := RX1) (T := TX1) (N := 4) hx hb hts in_c_X10_init_X1 tyX1 tyX1_ok hown (hts (.classLink RX10 22 RX1) (List.mem_of_getElem? (i := 11) rfl)) (hts (.instantiable RX1 4) (List.mem_of_getElem? (i := 12) rfl)) (hts (.initialized RX1) (List.mem_of_getElem? (i := 13) rfl)) hK hP hD hS hA rfl df_X1 (Nat.le_of_ble_eq_true rfl) (Nat.le_of_ble_eq_true rfl) dX10_init_25 (fun q4 H hP hD hS => ?_)
  replace hP : va_P (dC, dI) vwCl [(h0, .inr (11, [.ref q1, .ref q2, .null, .int 0, .int 0, .int 0, .int 0, .int 0])), (q1, .inl (cA1, 8, .inr (.inr (.inr (.inr (fun _ => none)))))), (q2, .inr (8, [.ref ml_3, .null])), (ml_3, .inr (0, [.int 0, .ref zt, .int 0])), (q4, .inr (2, [.int 0, .int 0, .int 0, .null]))] H := hP
  replace hD : va_D A [(h0, .inr (11, [.ref q1, .ref q2, .null, .int 0, .int 0, .int 0, .int 0, .int 0])), (q1, .inl (cA1, 8, .inr (.inr (.inr (.inr (fun _ => none)))))), (q2, .inr (8, [.ref ml_3, .null])), (ml_3, .inr (0, [.int 0, .ref zt, .int 0])), (q4, .inr (2, [.int 0, .int 0, .int 0, .null]))] := hD
  refine W.widen (k := 4) (n := 17) (Nat.le_of_ble_eq_true rfl) (Nat.le_of_ble_eq_true rfl) ?_
  refine lv_dup hx hb dX10_init_28 rfl ?_
  have hPc := hP.sub (ws' := [(q4, .inr (2, [.int 0, .int 0, .int 0, .null]))]) [4] rfl
  have hDc := hD.sub (ws' := [(q4, .inr (2, [.int 0, .int 0, .int 0, .null]))]) [4] (by decide +kernel) rfl
  have hKc := hK.sub (tys' := []) [] rfl
  have hFc := va_free (wc := [(q4, .inr (2, [.int 0, .int 0, .int 0, .null]))]) hD hS hA [4] rfl
  refine va_callv (va_runIN (As := []) (rest := [.ref q4, .ref h0]) ⟨hx, hb, hml, hown, hts⟩ (c_X1_init l dC dI (q4) H.size) ⟨va_cnB 0 hts g_c_X10_init_c_X1_init_24 rfl rfl rfl hE.n2 (hts (.initialized RX1) (List.mem_of_getElem? (i := 13) rfl)) (by decide +kernel) ⟨Nat.le_of_ble_eq_true rfl, Nat.le_of_ble_eq_true rfl⟩, rfl, (hts (.instanceMethod yX1_init) (List.mem_of_getElem? (i := 14) rfl))⟩ ⟨fun a U g mk q => by obtain ⟨q0, q1, qP, qK, qD, qE⟩ := q; exact ⟨q0, q1, qP, va_K.moved (u := U) (U := U.calling g mk a) (Vm.Alike.refl U.vm) qK, qD, ev.same (u := U) (U := U.calling g mk a) rfl qE⟩, fun U hU hW => ⟨rfl, by rw [hU], by rw [hU]; exact hPc, va_K.moved hW.alike hKc, hDc.weaken (fun _ _ _ _ => trivial), hE.warm hW⟩⟩ rfl rfl hl.1 rfl (lv_room (Nat.le_of_ble_eq_true rfl)) dX10_init_29 ⟨Nat.le_of_ble_eq_true rfl, Nat.le_of_ble_eq_true rfl⟩) hS (fun q _ h => hFc q h) hFc (fun u t H1 locs ht hvm hw hB hz1 hk1 hS => ?_)
  clear hPc hDc hKc
  obtain ⟨hP1, hK1, hD1⟩ := hB
  rw [ht] at hP1
  have hK1 := va_K.moved hvm.symm hK1
  obtain ⟨hP, hD⟩ := va_join (wr := [(h0, .inr (11, [.ref q1, .ref q2, .null, .int 0, .int 0, .int 0, .int 0, .int 0])), (q1, .inl (cA1, 8, .inr (.inr (.inr (.inr (fun _ => none)))))), (q2, .inr (8, [.ref ml_3, .null])), (ml_3, .inr (0, [.int 0, .ref zt, .int 0]))]) (w1 := [(q4, .inr (2, [.int 0, .int 0, .int 0, .null]))]) hP hD [4] [0, 1, 2, 3] rfl rfl (by decide +kernel) (by decide +kernel) hk1 hFc hP1 hD1
  generalize H1 = H at hP hS ⊢
  replace hP : va_P (dC, dI) vwCl [(h0, .inr (11, [.ref q1, .ref q2, .null, .int 0, .int 0, .int 0, .int 0, .int 0])), (q1, .inl (cA1, 8, .inr (.inr (.inr (.inr (fun _ => none)))))), (q2, .inr (8, [.ref ml_3, .null])), (ml_3, .inr (0, [.int 0, .ref zt, .int 0])), (q4, .inr (2, [.int 0, .int 0, .int 0, .null]))] H := hP
  replace hD : va_D A [(h0, .inr (11, [.ref q1, .ref q2, .null, .int 0, .int 0, .int 0, .int 0, .int 0])), (q1, .inl (cA1, 8, .inr (.inr (.inr (.inr (fun _ => none)))))), (q2, .inr (8, [.ref ml_3, .null])), (ml_3, .inr (0, [.int 0, .ref zt, .int 0])), (q4, .inr (2, [.int 0, .int 0, .int 0, .null]))] := hD
  clear hw
  refine va_putF (D := (dC, dI)) (ci := 11) (v := .ref q4) (ty := (.object "ClaimBus$Frame")) (C := RX10) (T := TX10) (N := 8) hx hb hts in_c_X10_init_X10 tyX10 tyX10_ok nmX10 hown hK hP hD hS 0 rfl rfl 2 (by decide) (hts (.fieldLink RX10 25 "ClaimBus" "last" "LClaimBus$Frame;") (List.mem_of_getElem? (i := 15) rfl)) (fun _ h9 => h9) rfl hin rfl (by decide +kernel) rfl rfl (Nat.le_of_ble_eq_true rfl) dX10_init_32 (fun H locs hP hD hS => ?_)
  replace hP : va_P (dC, dI) vwCl [(h0, .inr (11, [.ref q1, .ref q2, .ref q4, .int 0, .int 0, .int 0, .int 0, .int 0])), (q1, .inl (cA1, 8, .inr (.inr (.inr (.inr (fun _ => none)))))), (q2, .inr (8, [.ref ml_3, .null])), (ml_3, .inr (0, [.int 0, .ref zt, .int 0])), (q4, .inr (2, [.int 0, .int 0, .int 0, .null]))] H := hP
  replace hD : va_D A [(h0, .inr (11, [.ref q1, .ref q2, .ref q4, .int 0, .int 0, .int 0, .int 0, .int 0])), (q1, .inl (cA1, 8, .inr (.inr (.inr (.inr (fun _ => none)))))), (q2, .inr (8, [.ref ml_3, .null])), (ml_3, .inr (0, [.int 0, .ref zt, .int 0])), (q4, .inr (2, [.int 0, .int 0, .int 0, .null]))] := hD
  refine lv_aload_n hx hb dX10_init_35 rfl (lv_at hl 0 rfl) ?_
  refine lv_iconst (v := 0) hx hb dX10_init_36 (by decide) ?_
  refine va_put (D := (dC, dI)) (ci := 11) (v := .int 0) (ty := .int) (C := RX10) (T := TX10) (N := 8) hx hb hts in_c_X10_init_X10 tyX10 tyX10_ok nmX10 hown hK hP hD hS 0 rfl rfl 3 (by decide) (hts (.fieldLink RX10 29 "ClaimBus" "nodeCount" "I") (List.mem_of_getElem? (i := 16) rfl)) (fun _ h9 => h9) rfl (by decide +kernel) rfl rfl (Nat.le_of_ble_eq_true rfl) dX10_init_37 (fun H locs hP hD hS => ?_)
  replace hP : va_P (dC, dI) vwCl [(h0, .inr (11, [.ref q1, .ref q2, .ref q4, .int 0, .int 0, .int 0, .int 0, .int 0])), (q1, .inl (cA1, 8, .inr (.inr (.inr (.inr (fun _ => none)))))), (q2, .inr (8, [.ref ml_3, .null])), (ml_3, .inr (0, [.int 0, .ref zt, .int 0])), (q4, .inr (2, [.int 0, .int 0, .int 0, .null]))] H := hP
  replace hD : va_D A [(h0, .inr (11, [.ref q1, .ref q2, .ref q4, .int 0, .int 0, .int 0, .int 0, .int 0])), (q1, .inl (cA1, 8, .inr (.inr (.inr (.inr (fun _ => none)))))), (q2, .inr (8, [.ref ml_3, .null])), (ml_3, .inr (0, [.int 0, .ref zt, .int 0])), (q4, .inr (2, [.int 0, .int 0, .int 0, .null]))] := hD
  refine lv_aload_n hx hb dX10_init_40 rfl (lv_at hl 0 rfl) ?_
  refine lv_iconst (v := 0) hx hb dX10_init_41 (by decide) ?_
  refine va_put (D := (dC, dI)) (ci := 11) (v := .int 0) (ty := .int) (C := RX10) (T := TX10) (N := 8) hx hb hts in_c_X10_init_X10 tyX10 tyX10_ok nmX10 hown hK hP hD hS 0 rfl rfl 4 (by decide) (hts (.fieldLink RX10 33 "ClaimBus" "time" "I") (List.mem_of_getElem? (i := 17) rfl)) (fun _ h9 => h9) rfl (by decide +kernel) rfl rfl (Nat.le_of_ble_eq_true rfl) dX10_init_42 (fun H locs hP hD hS => ?_)
  replace hP : va_P (dC, dI) vwCl [(h0, .inr (11, [.ref q1, .ref q2, .ref q4, .int 0, .int 0, .int 0, .int 0, .int 0])), (q1, .inl (cA1, 8, .inr (.inr (.inr (.inr (fun _ => none)))))), (q2, .inr (8, [.ref ml_3, .null])), (ml_3, .inr (0, [.int 0, .ref zt, .int 0])), (q4, .inr (2, [.int 0, .int 0, .int 0, .null]))] H := hP
  replace hD : va_D A [(h0, .inr (11, [.ref q1, .ref q2, .ref q4, .int 0, .int 0, .int 0, .int 0, .int 0])), (q1, .inl (cA1, 8, .inr (.inr (.inr (.inr (fun _ => none)))))), (q2, .inr (8, [.ref ml_3, .null])), (ml_3, .inr (0, [.int 0, .ref zt, .int 0])), (q4, .inr (2, [.int 0, .int 0, .int 0, .null]))] := hD
  refine lv_aload_n hx hb dX10_init_45 rfl (lv_at hl 0 rfl) ?_
  refine lv_iconst (v := 0) hx hb dX10_init_46 (by decide) ?_
  refine va_put (D := (dC, dI)) (ci := 11) (v := .int 0) (ty := .int) (C := RX10) (T := TX10) (N := 8) hx hb hts in_c_X10_init_X10 tyX10 tyX10_ok nmX10 hown hK hP hD hS 0 rfl rfl 5 (by decide) (hts (.fieldLink RX10 36 "ClaimBus" "framesCarried" "I") (List.mem_of_getElem? (i := 18) rfl)) (fun _ h9 => h9) rfl (by decide +kernel) rfl rfl (Nat.le_of_ble_eq_true rfl) dX10_init_47 (fun H locs hP hD hS => ?_)
  replace hP : va_P (dC, dI) vwCl [(h0, .inr (11, [.ref q1, .ref q2, .ref q4, .int 0, .int 0, .int 0, .int 0, .int 0])), (q1, .inl (cA1, 8, .inr (.inr (.inr (.inr (fun _ => none)))))), (q2, .inr (8, [.ref ml_3, .null])), (ml_3, .inr (0, [.int 0, .ref zt, .int 0])), (q4, .inr (2, [.int 0, .int 0, .int 0, .null]))] H := hP
  replace hD : va_D A [(h0, .inr (11, [.ref q1, .ref q2, .ref q4, .int 0, .int 0, .int 0, .int 0, .int 0])), (q1, .inl (cA1, 8, .inr (.inr (.inr (.inr (fun _ => none)))))), (q2, .inr (8, [.ref ml_3, .null])), (ml_3, .inr (0, [.int 0, .ref zt, .int 0])), (q4, .inr (2, [.int 0, .int 0, .int 0, .null]))] := hD
  refine lv_aload_n hx hb dX10_init_50 rfl (lv_at hl 0 rfl) ?_
  refine lv_iconst (v := -1) hx hb dX10_init_51 (by decide) ?_
  refine va_put (D := (dC, dI)) (ci := 11) (v := .int (-1)) (ty := .int) (C := RX10) (T := TX10) (N := 8) hx hb hts in_c_X10_init_X10 tyX10 tyX10_ok nmX10 hown hK hP hD hS 0 rfl rfl 6 (by decide) (hts (.fieldLink RX10 39 "ClaimBus" "lastSender" "I") (List.mem_of_getElem? (i := 19) rfl)) (fun _ h9 => h9) rfl (by decide +kernel) rfl rfl (Nat.le_of_ble_eq_true rfl) dX10_init_52 (fun H locs hP hD hS => ?_)
  replace hP : va_P (dC, dI) vwCl [(h0, .inr (11, [.ref q1, .ref q2, .ref q4, .int 0, .int 0, .int 0, .int (-1), .int 0])), (q1, .inl (cA1, 8, .inr (.inr (.inr (.inr (fun _ => none)))))), (q2, .inr (8, [.ref ml_3, .null])), (ml_3, .inr (0, [.int 0, .ref zt, .int 0])), (q4, .inr (2, [.int 0, .int 0, .int 0, .null]))] H := hP
  replace hD : va_D A [(h0, .inr (11, [.ref q1, .ref q2, .ref q4, .int 0, .int 0, .int 0, .int (-1), .int 0])), (q1, .inl (cA1, 8, .inr (.inr (.inr (.inr (fun _ => none)))))), (q2, .inr (8, [.ref ml_3, .null])), (ml_3, .inr (0, [.int 0, .ref zt, .int 0])), (q4, .inr (2, [.int 0, .int 0, .int 0, .null]))] := hD
  refine lv_aload_n hx hb dX10_init_55 rfl (lv_at hl 0 rfl) ?_
  refine lv_iconst (v := 0) hx hb dX10_init_56 (by decide) ?_
  refine va_put (D := (dC, dI)) (ci := 11) (v := .int 0) (ty := .boolean) (C := RX10) (T := TX10) (N := 8) hx hb hts in_c_X10_init_X10 tyX10 tyX10_ok nmX10 hown hK hP hD hS 0 rfl rfl 7 (by decide) (hts (.fieldLink RX10 42 "ClaimBus" "stopped" "Z") (List.mem_of_getElem? (i := 20) rfl)) (fun _ h9 => h9) rfl (by decide +kernel) rfl rfl (Nat.le_of_ble_eq_true rfl) dX10_init_57 (fun H locs hP hD hS => ?_)
  replace hP : va_P (dC, dI) vwCl [(h0, .inr (11, [.ref q1, .ref q2, .ref q4, .int 0, .int 0, .int 0, .int (-1), .int 0])), (q1, .inl (cA1, 8, .inr (.inr (.inr (.inr (fun _ => none)))))), (q2, .inr (8, [.ref ml_3, .null])), (ml_3, .inr (0, [.int 0, .ref zt, .int 0])), (q4, .inr (2, [.int 0, .int 0, .int 0, .null]))] H := hP
  replace hD : va_D A [(h0, .inr (11, [.ref q1, .ref q2, .ref q4, .int 0, .int 0, .int 0, .int (-1), .int 0])), (q1, .inl (cA1, 8, .inr (.inr (.inr (.inr (fun _ => none)))))), (q2, .inr (8, [.ref ml_3, .null])), (ml_3, .inr (0, [.int 0, .ref zt, .int 0])), (q4, .inr (2, [.int 0, .int 0, .int 0, .null]))] := hD
  have hP9 := hP.sub (ws' := [(h0, .inr (11, [.ref q1, .ref q2, .ref q4, .int 0, .int 0, .int 0, .int (-1), .int 0])), (q1, .inl (cA1, 8, .inr (.inr (.inr (.inr (fun _ => none)))))), (q2, .inr (8, [.ref ml_3, .null])), (ml_3, .inr (0, [.int 0, .ref zt, .int 0])), (q4, .inr (2, [.int 0, .int 0, .int 0, .null]))]) [0, 1, 2, 3, 4] rfl
  have hD9 := hD.sub (ws' := [(h0, .inr (11, [.ref q1, .ref q2, .ref q4, .int 0, .int 0, .int 0, .int (-1), .int 0])), (q1, .inl (cA1, 8, .inr (.inr (.inr (.inr (fun _ => none)))))), (q2, .inr (8, [.ref ml_3, .null])), (ml_3, .inr (0, [.int 0, .ref zt, .int 0])), (q4, .inr (2, [.int 0, .int 0, .int 0, .null]))]) [0, 1, 2, 3, 4] (by decide +kernel) rfl
  have hK9 := hK.sub (tys' := [(cA1, (.object RX4))]) [0] rfl
  exact W.vret hx hb hr (fun t ht hW => ⟨⟨(), rfl, trivial, ⟨q1, cA1, (fun _ => none), q2, q4, ml_3, by rw [ht]; exact hP9, va_K.moved hW.alike hK9, hD9, rfl, rfl⟩⟩, hS.F ht⟩) hS.2.2 dX10_init_60

noncomputable def tl_c_X8_clear : List Cond := wsX80
noncomputable def v_c_X8_clear : List Cond := .code yX8_clear cX8_clear 2 none :: ([.fieldLink RX8 9 "ClaimBus$Table" "addresses" "[I"] ++ tl_c_X8_clear)
theorem it_c_X8_clear : ∀ w ∈ tl_c_X8_clear, w ∈ v_c_X8_clear := fun w h => List.mem_cons_of_mem _ (List.mem_append_right _ h)
theorem in_c_X8_clear_X8 : ∀ w ∈ wsX80, w ∈ v_c_X8_clear := fun w h => it_c_X8_clear w (h)
theorem gt_c_X8_clear : ∀ w ∈ tl_c_X8_clear, goodWord w = true := gw_wsX80
theorem gw_c_X8_clear : ∀ w ∈ v_c_X8_clear, goodWord w = true := List.forall_mem_cons.mpr ⟨by decide +kernel, List.forall_mem_append.mpr ⟨List.all_eq_true.mp (by decide +kernel), gt_c_X8_clear⟩⟩
set_option maxHeartbeats 4000000 in
set_option maxRecDepth 100000 in
/-- Table.clear() -/
theorem c_X8_clear (l : Launch) (dC : Nat → ClassId) (dI : Nat → Nat → Nat) (h0 : Nat) (ta : Nat) (cI : ClassId) (fT : Nat → Int32) (sz : Nat)  : Met l yX8_clear v_c_X8_clear ({ frames := 0, cells := 0, slots := 0, locals := 0 }) (va_Pc [.ref h0] (fun U => U.heap.size = sz ∧ va_P (dC, dI) vwCl [(h0, .inr (9, [.ref ta])), (ta, .inl (cI, 8, .inl fT))] U.heap ∧ va_K (dC, dI) vwCl [(cI, .int)] U ∧ va_D (fun _ => True) [(h0, .inr (9, [.ref ta])), (ta, .inl (cI, 8, .inl fT))] ∧ ev U)) (va_Qv (fun _ : Unit => True) (fun (_ : Unit) (t : State) => ∃ (fT2 : Nat → Int32), va_P (dC, dI) vwCl [(h0, .inr (9, [.ref ta])), (ta, .inl (cI, 8, .inl fT2))] t.heap ∧ va_K (dC, dI) vwCl [(cI, .int)] t ∧ va_D (va_A [(h0, .inr (9, [.ref ta])), (ta, .inl (cI, 8, .inl fT))] sz) [(h0, .inr (9, [.ref ta])), (ta, .inl (cI, 8, .inl fT2))] ∧ (fT2 0 = (-1)) ∧ (fT2 1 = (-1)) ∧ (fT2 2 = (-1)) ∧ (fT2 3 = (-1)) ∧ (fT2 4 = (-1)) ∧ (fT2 5 = (-1)) ∧ (fT2 6 = (-1)) ∧ (fT2 7 = (-1))) (va_A [(h0, .inr (9, [.ref ta])), (ta, .inl (cI, 8, .inl fT))] sz)) 0 0 (va_A [(h0, .inr (9, [.ref ta])), (ta, .inl (cI, 8, .inl fT))] sz) := by
  refine Met.ofW (cc := cX8_clear) (maxL := 2) (ret := none) (by decide) rfl ?_
  intro p e s m args below meth c s₁ B hml hv
  obtain ⟨rfl, hsz, hP, hK, hD0, hE⟩ := hv
  have hx := B.exec
  have hb := B.bytes
  have hr := B.returns
  have hts := atoms_spec (ws := v_c_X8_clear) B.pre
  have hown : s.vm.findClass RX8 = some m.cls := findClass_of_methodNamed B.named
  have hlocks := B.notSynchronized
  subst hsz
  have hD := hD0.self (sz := s.heap.size)
  generalize hAe : va_A [(h0, .inr (9, [.ref ta])), (ta, .inl (cI, 8, .inl fT))] s.heap.size = A at hD ⊢
  have hA : ∀ q : Nat, s.heap.size ≤ q → A q := fun q h => by rw [← hAe]; exact Or.inr h
  have hS : va_S A s.heap s.heap [] := va_S.rf
  replace hP : va_P (dC, dI) vwCl [(h0, .inr (9, [.ref ta])), (ta, .inl (cI, 8, .inl fT))] s.heap := hP
  have hl := lv_entry ([.ref h0]) (n := 2) (Nat.le_of_ble_eq_true rfl)
  rw [lg_entry_eq]
  generalize (lg_sl ([.ref h0]) ++ List.replicate (2 - (lg_sl ([.ref h0])).length) Slot.unset).toArray = ls at hl ⊢
  replace hl : lv_has ls 2 [(0, .ref h0)] := hl
  obtain ⟨H, hH⟩ : ∃ z : Heap, z = s.heap := ⟨_, rfl⟩
  rw [← hH]
  replace hS : va_S A s.heap H [] := by rw [hH]; exact va_S.rf
  replace hP : va_P (dC, dI) vwCl [(h0, .inr (9, [.ref ta])), (ta, .inl (cI, 8, .inl fT))] H := by rw [hH]; exact hP
  clear hH
  refine lv_iconst (v := 0) hx hb dX8_clear_0 (by decide) ?_
  refine lv_istore_n (lv' := [(1, .int 0), (0, .ref h0)]) hx hb dX8_clear_1 rfl hl (by decide) rfl (fun ls hl => ?_)
  refine lv_iload_n hx hb dX8_clear_2 rfl (lv_at hl 0 rfl) ?_
  refine lv_bipush (v := 8) hx hb dX8_clear_3 (by decide) ?_
  refine lv_icmp_ge (tgt := 21) hx hb dX8_clear_5 (by decide) (fun c_1 => ?_) (fun c_1 => ?_)
  · exact absurd c_1 (by decide)
  refine lv_aload_n hx hb dX8_clear_8 rfl (lv_at hl 1 rfl) ?_
  refine va_get (D := (dC, dI)) (ci := 9) (v := .ref ta) (C := RX8) (T := TX8) (N := 1) hx hb hts in_c_X8_clear_X8 hown hK hP 0 rfl rfl 0 (by decide) (hts (.fieldLink RX8 9 "ClaimBus$Table" "addresses" "[I") (List.mem_of_getElem? (i := 1) rfl)) (fun _ h9 => h9) rfl dX8_clear_9 ?_
  refine lv_iload_n hx hb dX8_clear_12 rfl (lv_at hl 0 rfl) ?_
  refine lv_iconst (v := -1) hx hb dX8_clear_13 (by decide) ?_
  refine va_iast hx hb hK hP hD hS 1 0 rfl rfl (vp_in_nI (n := 0) (by omega) (by omega)) dX8_clear_14 (fun H locs hP hD hS => ?_)
  obtain ⟨f_2, ef_2⟩ : ∃ z : Nat → Int32, z = upd fT 0 ((-1)) := ⟨_, rfl⟩
  rw [(show Int32.toNatClampNeg (0 : Int32) = 0 by decide)] at hP hD
  replace hP : va_P (dC, dI) vwCl [(h0, .inr (9, [.ref ta])), (ta, .inl (cI, 8, .inl f_2))] H := by rw [ef_2]; exact hP
  replace hD : va_D A [(h0, .inr (9, [.ref ta])), (ta, .inl (cI, 8, .inl f_2))] := by rw [ef_2]; exact hD
  refine lv_iinc (v := 1) (lv' := [(1, .int 1), (0, .ref h0)]) hx hb dX8_clear_15 hl (k := 0) rfl (by decide) (by decide) rfl (fun ls hl => ?_)
  refine lv_goto (tgt := 2) hx hb dX8_clear_18 (by decide) ?_
  refine lv_iload_n hx hb dX8_clear_2 rfl (lv_at hl 0 rfl) ?_
  refine lv_bipush (v := 8) hx hb dX8_clear_3 (by decide) ?_
  refine lv_icmp_ge (tgt := 21) hx hb dX8_clear_5 (by decide) (fun c_3 => ?_) (fun c_3 => ?_)
  · exact absurd c_3 (by decide)
  refine lv_aload_n hx hb dX8_clear_8 rfl (lv_at hl 1 rfl) ?_
  refine va_get (D := (dC, dI)) (ci := 9) (v := .ref ta) (C := RX8) (T := TX8) (N := 1) hx hb hts in_c_X8_clear_X8 hown hK hP 0 rfl rfl 0 (by decide) (hts (.fieldLink RX8 9 "ClaimBus$Table" "addresses" "[I") (List.mem_of_getElem? (i := 1) rfl)) (fun _ h9 => h9) rfl dX8_clear_9 ?_
  refine lv_iload_n hx hb dX8_clear_12 rfl (lv_at hl 0 rfl) ?_
  refine lv_iconst (v := -1) hx hb dX8_clear_13 (by decide) ?_
  refine va_iast hx hb hK hP hD hS 1 0 rfl rfl (vp_in_nI (n := 1) (by omega) (by omega)) dX8_clear_14 (fun H locs hP hD hS => ?_)
  obtain ⟨f_4, ef_4⟩ : ∃ z : Nat → Int32, z = upd f_2 1 ((-1)) := ⟨_, rfl⟩
  rw [(show Int32.toNatClampNeg (1 : Int32) = 1 by decide)] at hP hD
  replace hP : va_P (dC, dI) vwCl [(h0, .inr (9, [.ref ta])), (ta, .inl (cI, 8, .inl f_4))] H := by rw [ef_4]; exact hP
  replace hD : va_D A [(h0, .inr (9, [.ref ta])), (ta, .inl (cI, 8, .inl f_4))] := by rw [ef_4]; exact hD
  refine lv_iinc (v := 2) (lv' := [(1, .int 2), (0, .ref h0)]) hx hb dX8_clear_15 hl (k := 0) rfl (by decide) (by decide) rfl (fun ls hl => ?_)
  refine lv_goto (tgt := 2) hx hb dX8_clear_18 (by decide) ?_
  refine lv_iload_n hx hb dX8_clear_2 rfl (lv_at hl 0 rfl) ?_
  refine lv_bipush (v := 8) hx hb dX8_clear_3 (by decide) ?_
  refine lv_icmp_ge (tgt := 21) hx hb dX8_clear_5 (by decide) (fun c_5 => ?_) (fun c_5 => ?_)
  · exact absurd c_5 (by decide)
  refine lv_aload_n hx hb dX8_clear_8 rfl (lv_at hl 1 rfl) ?_
  refine va_get (D := (dC, dI)) (ci := 9) (v := .ref ta) (C := RX8) (T := TX8) (N := 1) hx hb hts in_c_X8_clear_X8 hown hK hP 0 rfl rfl 0 (by decide) (hts (.fieldLink RX8 9 "ClaimBus$Table" "addresses" "[I") (List.mem_of_getElem? (i := 1) rfl)) (fun _ h9 => h9) rfl dX8_clear_9 ?_
  refine lv_iload_n hx hb dX8_clear_12 rfl (lv_at hl 0 rfl) ?_
  refine lv_iconst (v := -1) hx hb dX8_clear_13 (by decide) ?_
  refine va_iast hx hb hK hP hD hS 1 0 rfl rfl (vp_in_nI (n := 2) (by omega) (by omega)) dX8_clear_14 (fun H locs hP hD hS => ?_)
  obtain ⟨f_6, ef_6⟩ : ∃ z : Nat → Int32, z = upd f_4 2 ((-1)) := ⟨_, rfl⟩
  rw [(show Int32.toNatClampNeg (2 : Int32) = 2 by decide)] at hP hD
  replace hP : va_P (dC, dI) vwCl [(h0, .inr (9, [.ref ta])), (ta, .inl (cI, 8, .inl f_6))] H := by rw [ef_6]; exact hP
  replace hD : va_D A [(h0, .inr (9, [.ref ta])), (ta, .inl (cI, 8, .inl f_6))] := by rw [ef_6]; exact hD
  refine lv_iinc (v := 3) (lv' := [(1, .int 3), (0, .ref h0)]) hx hb dX8_clear_15 hl (k := 0) rfl (by decide) (by decide) rfl (fun ls hl => ?_)
  refine lv_goto (tgt := 2) hx hb dX8_clear_18 (by decide) ?_
  refine lv_iload_n hx hb dX8_clear_2 rfl (lv_at hl 0 rfl) ?_
  refine lv_bipush (v := 8) hx hb dX8_clear_3 (by decide) ?_
  refine lv_icmp_ge (tgt := 21) hx hb dX8_clear_5 (by decide) (fun c_7 => ?_) (fun c_7 => ?_)
  · exact absurd c_7 (by decide)
  refine lv_aload_n hx hb dX8_clear_8 rfl (lv_at hl 1 rfl) ?_
  refine va_get (D := (dC, dI)) (ci := 9) (v := .ref ta) (C := RX8) (T := TX8) (N := 1) hx hb hts in_c_X8_clear_X8 hown hK hP 0 rfl rfl 0 (by decide) (hts (.fieldLink RX8 9 "ClaimBus$Table" "addresses" "[I") (List.mem_of_getElem? (i := 1) rfl)) (fun _ h9 => h9) rfl dX8_clear_9 ?_
  refine lv_iload_n hx hb dX8_clear_12 rfl (lv_at hl 0 rfl) ?_
  refine lv_iconst (v := -1) hx hb dX8_clear_13 (by decide) ?_
  refine va_iast hx hb hK hP hD hS 1 0 rfl rfl (vp_in_nI (n := 3) (by omega) (by omega)) dX8_clear_14 (fun H locs hP hD hS => ?_)
  obtain ⟨f_8, ef_8⟩ : ∃ z : Nat → Int32, z = upd f_6 3 ((-1)) := ⟨_, rfl⟩
  rw [(show Int32.toNatClampNeg (3 : Int32) = 3 by decide)] at hP hD
  replace hP : va_P (dC, dI) vwCl [(h0, .inr (9, [.ref ta])), (ta, .inl (cI, 8, .inl f_8))] H := by rw [ef_8]; exact hP
  replace hD : va_D A [(h0, .inr (9, [.ref ta])), (ta, .inl (cI, 8, .inl f_8))] := by rw [ef_8]; exact hD
  refine lv_iinc (v := 4) (lv' := [(1, .int 4), (0, .ref h0)]) hx hb dX8_clear_15 hl (k := 0) rfl (by decide) (by decide) rfl (fun ls hl => ?_)
  refine lv_goto (tgt := 2) hx hb dX8_clear_18 (by decide) ?_
  refine lv_iload_n hx hb dX8_clear_2 rfl (lv_at hl 0 rfl) ?_
  refine lv_bipush (v := 8) hx hb dX8_clear_3 (by decide) ?_
  refine lv_icmp_ge (tgt := 21) hx hb dX8_clear_5 (by decide) (fun c_9 => ?_) (fun c_9 => ?_)
  · exact absurd c_9 (by decide)
  refine lv_aload_n hx hb dX8_clear_8 rfl (lv_at hl 1 rfl) ?_
  refine va_get (D := (dC, dI)) (ci := 9) (v := .ref ta) (C := RX8) (T := TX8) (N := 1) hx hb hts in_c_X8_clear_X8 hown hK hP 0 rfl rfl 0 (by decide) (hts (.fieldLink RX8 9 "ClaimBus$Table" "addresses" "[I") (List.mem_of_getElem? (i := 1) rfl)) (fun _ h9 => h9) rfl dX8_clear_9 ?_
  refine lv_iload_n hx hb dX8_clear_12 rfl (lv_at hl 0 rfl) ?_
  refine lv_iconst (v := -1) hx hb dX8_clear_13 (by decide) ?_
  refine va_iast hx hb hK hP hD hS 1 0 rfl rfl (vp_in_nI (n := 4) (by omega) (by omega)) dX8_clear_14 (fun H locs hP hD hS => ?_)
  obtain ⟨f_10, ef_10⟩ : ∃ z : Nat → Int32, z = upd f_8 4 ((-1)) := ⟨_, rfl⟩
  rw [(show Int32.toNatClampNeg (4 : Int32) = 4 by decide)] at hP hD
  replace hP : va_P (dC, dI) vwCl [(h0, .inr (9, [.ref ta])), (ta, .inl (cI, 8, .inl f_10))] H := by rw [ef_10]; exact hP
  replace hD : va_D A [(h0, .inr (9, [.ref ta])), (ta, .inl (cI, 8, .inl f_10))] := by rw [ef_10]; exact hD
  refine lv_iinc (v := 5) (lv' := [(1, .int 5), (0, .ref h0)]) hx hb dX8_clear_15 hl (k := 0) rfl (by decide) (by decide) rfl (fun ls hl => ?_)
  refine lv_goto (tgt := 2) hx hb dX8_clear_18 (by decide) ?_
  refine lv_iload_n hx hb dX8_clear_2 rfl (lv_at hl 0 rfl) ?_
  refine lv_bipush (v := 8) hx hb dX8_clear_3 (by decide) ?_
  refine lv_icmp_ge (tgt := 21) hx hb dX8_clear_5 (by decide) (fun c_11 => ?_) (fun c_11 => ?_)
  · exact absurd c_11 (by decide)
  refine lv_aload_n hx hb dX8_clear_8 rfl (lv_at hl 1 rfl) ?_
  refine va_get (D := (dC, dI)) (ci := 9) (v := .ref ta) (C := RX8) (T := TX8) (N := 1) hx hb hts in_c_X8_clear_X8 hown hK hP 0 rfl rfl 0 (by decide) (hts (.fieldLink RX8 9 "ClaimBus$Table" "addresses" "[I") (List.mem_of_getElem? (i := 1) rfl)) (fun _ h9 => h9) rfl dX8_clear_9 ?_
  refine lv_iload_n hx hb dX8_clear_12 rfl (lv_at hl 0 rfl) ?_
  refine lv_iconst (v := -1) hx hb dX8_clear_13 (by decide) ?_
  refine va_iast hx hb hK hP hD hS 1 0 rfl rfl (vp_in_nI (n := 5) (by omega) (by omega)) dX8_clear_14 (fun H locs hP hD hS => ?_)
  obtain ⟨f_12, ef_12⟩ : ∃ z : Nat → Int32, z = upd f_10 5 ((-1)) := ⟨_, rfl⟩
  rw [(show Int32.toNatClampNeg (5 : Int32) = 5 by decide)] at hP hD
  replace hP : va_P (dC, dI) vwCl [(h0, .inr (9, [.ref ta])), (ta, .inl (cI, 8, .inl f_12))] H := by rw [ef_12]; exact hP
  replace hD : va_D A [(h0, .inr (9, [.ref ta])), (ta, .inl (cI, 8, .inl f_12))] := by rw [ef_12]; exact hD
  refine lv_iinc (v := 6) (lv' := [(1, .int 6), (0, .ref h0)]) hx hb dX8_clear_15 hl (k := 0) rfl (by decide) (by decide) rfl (fun ls hl => ?_)
  refine lv_goto (tgt := 2) hx hb dX8_clear_18 (by decide) ?_
  refine lv_iload_n hx hb dX8_clear_2 rfl (lv_at hl 0 rfl) ?_
  refine lv_bipush (v := 8) hx hb dX8_clear_3 (by decide) ?_
  refine lv_icmp_ge (tgt := 21) hx hb dX8_clear_5 (by decide) (fun c_13 => ?_) (fun c_13 => ?_)
  · exact absurd c_13 (by decide)
  refine lv_aload_n hx hb dX8_clear_8 rfl (lv_at hl 1 rfl) ?_
  refine va_get (D := (dC, dI)) (ci := 9) (v := .ref ta) (C := RX8) (T := TX8) (N := 1) hx hb hts in_c_X8_clear_X8 hown hK hP 0 rfl rfl 0 (by decide) (hts (.fieldLink RX8 9 "ClaimBus$Table" "addresses" "[I") (List.mem_of_getElem? (i := 1) rfl)) (fun _ h9 => h9) rfl dX8_clear_9 ?_
  refine lv_iload_n hx hb dX8_clear_12 rfl (lv_at hl 0 rfl) ?_
  refine lv_iconst (v := -1) hx hb dX8_clear_13 (by decide) ?_
  refine va_iast hx hb hK hP hD hS 1 0 rfl rfl (vp_in_nI (n := 6) (by omega) (by omega)) dX8_clear_14 (fun H locs hP hD hS => ?_)
  obtain ⟨f_14, ef_14⟩ : ∃ z : Nat → Int32, z = upd f_12 6 ((-1)) := ⟨_, rfl⟩
  rw [(show Int32.toNatClampNeg (6 : Int32) = 6 by decide)] at hP hD
  replace hP : va_P (dC, dI) vwCl [(h0, .inr (9, [.ref ta])), (ta, .inl (cI, 8, .inl f_14))] H := by rw [ef_14]; exact hP
  replace hD : va_D A [(h0, .inr (9, [.ref ta])), (ta, .inl (cI, 8, .inl f_14))] := by rw [ef_14]; exact hD
  refine lv_iinc (v := 7) (lv' := [(1, .int 7), (0, .ref h0)]) hx hb dX8_clear_15 hl (k := 0) rfl (by decide) (by decide) rfl (fun ls hl => ?_)
  refine lv_goto (tgt := 2) hx hb dX8_clear_18 (by decide) ?_
  refine lv_iload_n hx hb dX8_clear_2 rfl (lv_at hl 0 rfl) ?_
  refine lv_bipush (v := 8) hx hb dX8_clear_3 (by decide) ?_
  refine lv_icmp_ge (tgt := 21) hx hb dX8_clear_5 (by decide) (fun c_15 => ?_) (fun c_15 => ?_)
  · exact absurd c_15 (by decide)
  refine lv_aload_n hx hb dX8_clear_8 rfl (lv_at hl 1 rfl) ?_
  refine va_get (D := (dC, dI)) (ci := 9) (v := .ref ta) (C := RX8) (T := TX8) (N := 1) hx hb hts in_c_X8_clear_X8 hown hK hP 0 rfl rfl 0 (by decide) (hts (.fieldLink RX8 9 "ClaimBus$Table" "addresses" "[I") (List.mem_of_getElem? (i := 1) rfl)) (fun _ h9 => h9) rfl dX8_clear_9 ?_
  refine lv_iload_n hx hb dX8_clear_12 rfl (lv_at hl 0 rfl) ?_
  refine lv_iconst (v := -1) hx hb dX8_clear_13 (by decide) ?_
  refine va_iast hx hb hK hP hD hS 1 0 rfl rfl (vp_in_nI (n := 7) (by omega) (by omega)) dX8_clear_14 (fun H locs hP hD hS => ?_)
  obtain ⟨f_16, ef_16⟩ : ∃ z : Nat → Int32, z = upd f_14 7 ((-1)) := ⟨_, rfl⟩
  rw [(show Int32.toNatClampNeg (7 : Int32) = 7 by decide)] at hP hD
  replace hP : va_P (dC, dI) vwCl [(h0, .inr (9, [.ref ta])), (ta, .inl (cI, 8, .inl f_16))] H := by rw [ef_16]; exact hP
  replace hD : va_D A [(h0, .inr (9, [.ref ta])), (ta, .inl (cI, 8, .inl f_16))] := by rw [ef_16]; exact hD
  refine lv_iinc (v := 8) (lv' := [(1, .int 8), (0, .ref h0)]) hx hb dX8_clear_15 hl (k := 0) rfl (by decide) (by decide) rfl (fun ls hl => ?_)
  refine lv_goto (tgt := 2) hx hb dX8_clear_18 (by decide) ?_
  refine lv_iload_n hx hb dX8_clear_2 rfl (lv_at hl 0 rfl) ?_
  refine lv_bipush (v := 8) hx hb dX8_clear_3 (by decide) ?_
  refine lv_icmp_ge (tgt := 21) hx hb dX8_clear_5 (by decide) (fun c_17 => ?_) (fun c_17 => ?_)
  rotate_left
  · exact absurd (by decide) c_17
  have hP9 := hP.sub (ws' := [(h0, .inr (9, [.ref ta])), (ta, .inl (cI, 8, .inl f_16))]) [0, 1] rfl
  have hD9 := hD.sub (ws' := [(h0, .inr (9, [.ref ta])), (ta, .inl (cI, 8, .inl f_16))]) [0, 1] (by decide +kernel) rfl
  have hK9 := hK.sub (tys' := [(cI, .int)]) [0] rfl
  exact W.vret hx hb hr (fun t ht hW => ⟨⟨(), rfl, trivial, ⟨f_16, by rw [ht]; exact hP9, va_K.moved hW.alike hK9, hD9, by rw [ef_16, pk_un (by omega), ef_14, pk_un (by omega), ef_12, pk_un (by omega), ef_10, pk_un (by omega), ef_8, pk_un (by omega), ef_6, pk_un (by omega), ef_4, pk_un (by omega), ef_2, pk_us], by rw [ef_16, pk_un (by omega), ef_14, pk_un (by omega), ef_12, pk_un (by omega), ef_10, pk_un (by omega), ef_8, pk_un (by omega), ef_6, pk_un (by omega), ef_4, pk_us], by rw [ef_16, pk_un (by omega), ef_14, pk_un (by omega), ef_12, pk_un (by omega), ef_10, pk_un (by omega), ef_8, pk_un (by omega), ef_6, pk_us], by rw [ef_16, pk_un (by omega), ef_14, pk_un (by omega), ef_12, pk_un (by omega), ef_10, pk_un (by omega), ef_8, pk_us], by rw [ef_16, pk_un (by omega), ef_14, pk_un (by omega), ef_12, pk_un (by omega), ef_10, pk_us], by rw [ef_16, pk_un (by omega), ef_14, pk_un (by omega), ef_12, pk_us], by rw [ef_16, pk_un (by omega), ef_14, pk_us], by rw [ef_16, pk_us]⟩⟩, hS.F ht⟩) hS.2.2 dX8_clear_21

noncomputable def tl_c_X8_init : List Cond := wsX80 ++ (v_c_X8_clear)
noncomputable def v_c_X8_init : List Cond := .code yX8_init cX8_init 1 none :: ([.methodLink RX8 3 objectInit, .instanceMethod objectInit, .code objectInit ⟨#[0xb1]⟩ 1 none, .arrayClass .int, .fieldLink RX8 9 "ClaimBus$Table" "addresses" "[I", .initialized RX8, .methodLink RX8 15 yX8_clear, .instanceMethod yX8_clear, .selects RX8 yX8_clear yX8_clear] ++ tl_c_X8_init)
theorem it_c_X8_init : ∀ w ∈ tl_c_X8_init, w ∈ v_c_X8_init := fun w h => List.mem_cons_of_mem _ (List.mem_append_right _ h)
theorem in_c_X8_init_X8 : ∀ w ∈ wsX80, w ∈ v_c_X8_init := fun w h => it_c_X8_init w (List.mem_append_left _ h)
theorem ic_c_X8_init_c_X8_clear : ∀ w ∈ v_c_X8_clear, w ∈ v_c_X8_init := fun w h => it_c_X8_init w (List.mem_append_right _ (h))
theorem gt_c_X8_init : ∀ w ∈ tl_c_X8_init, goodWord w = true := List.forall_mem_append.mpr ⟨gw_wsX80, gw_c_X8_clear⟩
theorem gw_c_X8_init : ∀ w ∈ v_c_X8_init, goodWord w = true := List.forall_mem_cons.mpr ⟨by decide +kernel, List.forall_mem_append.mpr ⟨List.all_eq_true.mp (by decide +kernel), gt_c_X8_init⟩⟩
theorem g_c_X8_init_c_X8_clear_15 : GoodIn v_c_X8_init (wsV RX8 15 RX8 yX8_clear v_c_X8_clear) := goodIn_app (goodIn_r [.methodLink RX8 15 yX8_clear, .instanceMethod yX8_clear, .selects RX8 yX8_clear yX8_clear, .initialized RX8] [7, 8, 9, 6] (by decide +kernel) (by decide +kernel)) (fun w h => ⟨ic_c_X8_init_c_X8_clear w h, good_of_word (gw_c_X8_clear w h)⟩)
set_option maxHeartbeats 4000000 in
set_option maxRecDepth 100000 in
/-- Table() -/
theorem c_X8_init (l : Launch) (dC : Nat → ClassId) (dI : Nat → Nat → Nat) (h0 : Nat) (sz : Nat)  : Met l yX8_init v_c_X8_init ({ frames := 1, cells := 1, slots := 8, locals := 21 }) (va_Pc [.ref h0] (fun U => U.heap.size = sz ∧ va_P (dC, dI) vwCl [(h0, .inr (9, [.null]))] U.heap ∧ va_K (dC, dI) vwCl [] U ∧ va_D (fun _ => True) [(h0, .inr (9, [.null]))] ∧ ev U)) (va_Qv (fun _ : Unit => True) (fun (_ : Unit) (t : State) => ∃ (ta : Nat) (cI : ClassId) (fT2 : Nat → Int32), va_P (dC, dI) vwCl [(h0, .inr (9, [.ref ta])), (ta, .inl (cI, 8, .inl fT2))] t.heap ∧ va_K (dC, dI) vwCl [(cI, .int)] t ∧ va_D (va_A [(h0, .inr (9, [.null]))] sz) [(h0, .inr (9, [.ref ta])), (ta, .inl (cI, 8, .inl fT2))] ∧ (fT2 0 = (-1)) ∧ (fT2 1 = (-1)) ∧ (fT2 2 = (-1)) ∧ (fT2 3 = (-1)) ∧ (fT2 4 = (-1)) ∧ (fT2 5 = (-1)) ∧ (fT2 6 = (-1)) ∧ (fT2 7 = (-1))) (va_A [(h0, .inr (9, [.null]))] sz)) 1 8 (va_A [(h0, .inr (9, [.null]))] sz) := by
  refine Met.ofW (cc := cX8_init) (maxL := 1) (ret := none) (by decide) rfl ?_
  intro p e s m args below meth c s₁ B hml hv
  obtain ⟨rfl, hsz, hP, hK, hD0, hE⟩ := hv
  have hx := B.exec
  have hb := B.bytes
  have hr := B.returns
  have hts := atoms_spec (ws := v_c_X8_init) B.pre
  have hown : s.vm.findClass RX8 = some m.cls := findClass_of_methodNamed B.named
  have hlocks := B.notSynchronized
  have hin : meth.name = "<init>" := (name_of_methodNamed B.named B.method).1
  subst hsz
  have hD := hD0.self (sz := s.heap.size)
  generalize hAe : va_A [(h0, .inr (9, [.null]))] s.heap.size = A at hD ⊢
  have hA : ∀ q : Nat, s.heap.size ≤ q → A q := fun q h => by rw [← hAe]; exact Or.inr h
  have hS : va_S A s.heap s.heap [] := va_S.rf
  replace hP : va_P (dC, dI) vwCl [(h0, .inr (9, [.null]))] s.heap := hP
  have hl := lv_entry ([.ref h0]) (n := 1) (Nat.le_of_ble_eq_true rfl)
  rw [lg_entry_eq]
  generalize (lg_sl ([.ref h0]) ++ List.replicate (1 - (lg_sl ([.ref h0])).length) Slot.unset).toArray = ls at hl ⊢
  replace hl : lv_has ls 1 [(0, .ref h0)] := hl
  obtain ⟨H, hH⟩ : ∃ z : Heap, z = s.heap := ⟨_, rfl⟩
  rw [← hH]
  replace hS : va_S A s.heap H [] := by rw [hH]; exact va_S.rf
  replace hP : va_P (dC, dI) vwCl [(h0, .inr (9, [.null]))] H := by rw [hH]; exact hP
  clear hH
  refine lv_aload_n hx hb dX8_init_0 rfl (lv_at hl 0 rfl) ?_
  refine W.objInit hx hb hown (hts (.methodLink RX8 3 objectInit) (List.mem_of_getElem? (i := 1) rfl)) (hts (.instanceMethod objectInit) (List.mem_of_getElem? (i := 2) rfl)) (hts (.code objectInit ⟨#[0xb1]⟩ 1 none) (List.mem_of_getElem? (i := 3) rfl)) rfl (by rw [hml]; exact hl.1) rfl dX8_init_1 (Nat.le_of_ble_eq_true rfl) (Nat.le_of_ble_eq_true rfl) ?_
  refine W.eq (g2 := F0 m 4 ls []) rfl ?_
  refine lv_aload_n hx hb dX8_init_4 rfl (lv_at hl 0 rfl) ?_
  refine lv_bipush (v := 8) hx hb dX8_init_5 (by decide) ?_
  refine va_newa (atype := .int) (ty := .int) (N' := 8) (a0 := (8, .inl (fun _ => 0))) hx hb (hts (.arrayClass .int) (List.mem_of_getElem? (i := 4) rfl)) rfl hK hP hD hS hA (fun _ => rfl) (by decide) (by decide) (Nat.le_of_ble_eq_true rfl) (Nat.le_of_ble_eq_true rfl) (Nat.le_of_ble_eq_true rfl) dX8_init_7 (fun q1 cA1 H hK hP hD hS => ?_)
  replace hK : va_K (dC, dI) vwCl [(cA1, .int)] s := hK
  replace hP : va_P (dC, dI) vwCl [(h0, .inr (9, [.null])), (q1, .inl (cA1, 8, .inl (fun _ => 0)))] H := hP
  replace hD : va_D A [(h0, .inr (9, [.null])), (q1, .inl (cA1, 8, .inl (fun _ => 0)))] := hD
  refine W.widen (k := 1) (n := 8) (Nat.le_of_ble_eq_true rfl) (Nat.le_of_ble_eq_true rfl) ?_
  refine va_putF (D := (dC, dI)) (ci := 9) (v := .ref q1) (ty := (.array .int)) (C := RX8) (T := TX8) (N := 1) hx hb hts in_c_X8_init_X8 tyX8 tyX8_ok nmX8 hown hK hP hD hS 0 rfl rfl 0 (by decide) (hts (.fieldLink RX8 9 "ClaimBus$Table" "addresses" "[I") (List.mem_of_getElem? (i := 5) rfl)) (fun _ h9 => h9) rfl hin rfl (by decide +kernel) rfl rfl (Nat.le_of_ble_eq_true rfl) dX8_init_9 (fun H locs hP hD hS => ?_)
  replace hP : va_P (dC, dI) vwCl [(h0, .inr (9, [.ref q1])), (q1, .inl (cA1, 8, .inl (fun _ => 0)))] H := hP
  replace hD : va_D A [(h0, .inr (9, [.ref q1])), (q1, .inl (cA1, 8, .inl (fun _ => 0)))] := hD
  refine lv_aload_n hx hb dX8_init_12 rfl (lv_at hl 0 rfl) ?_
  have hPc := hP.sub (ws' := [(h0, .inr (9, [.ref q1])), (q1, .inl (cA1, 8, .inl (fun _ => 0)))]) [0, 1] rfl
  have hDc := hD.sub (ws' := [(h0, .inr (9, [.ref q1])), (q1, .inl (cA1, 8, .inl (fun _ => 0)))]) [0, 1] (by decide +kernel) rfl
  have hKc := hK.sub (tys' := [(cA1, .int)]) [0] rfl
  have hFc := va_free (wc := [(h0, .inr (9, [.ref q1])), (q1, .inl (cA1, 8, .inl (fun _ => 0)))]) hD hS hA [0, 1] rfl
  refine va_callv (va_runV (As := []) (rest := []) ⟨hx, hb, hml, hown, hts⟩ (c_X8_clear l dC dI (h0) (q1) (cA1) ((fun _ => 0)) H.size) (cwV 0 hts g_c_X8_init_c_X8_clear_15 rfl rfl rfl (by decide +kernel) ⟨Nat.le_of_ble_eq_true rfl, Nat.le_of_ble_eq_true rfl⟩) ⟨fun a U g mk q => by obtain ⟨q0, q1, qP, qK, qD, qE⟩ := q; exact ⟨q0, q1, qP, va_K.moved (u := U) (U := U.calling g mk a) (Vm.Alike.refl U.vm) qK, qD, ev.same (u := U) (U := U.calling g mk a) rfl qE⟩, va_recv hKc hPc (ci := 9) (q0 := 0) rfl rfl, fun U hU hW => ⟨rfl, by rw [hU], by rw [hU]; exact hPc, va_K.moved hW.alike hKc, hDc.weaken (fun _ _ _ _ => trivial), hE.warm hW⟩⟩ rfl rfl hl.1 rfl (lv_room (Nat.le_of_ble_eq_true rfl)) dX8_init_13 ⟨Nat.le_of_ble_eq_true rfl, Nat.le_of_ble_eq_true rfl⟩) hS (fun q _ h => hFc q h) hFc (fun u t H1 locs ht hvm hw hB hz1 hk1 hS => ?_)
  clear hPc hDc hKc
  obtain ⟨fT2_2, hP1, hK1, hD1, t0__2, t1__2, t2__2, t3__2, t4__2, t5__2, t6__2, t7__2⟩ := hB
  rw [ht] at hP1
  have hK1 := va_K.moved hvm.symm hK1
  obtain ⟨hP, hD⟩ := va_join (wr := []) (w1 := [(h0, .inr (9, [.ref q1])), (q1, .inl (cA1, 8, .inl fT2_2))]) hP hD [0, 1] [] rfl rfl (by decide +kernel) (by decide +kernel) hk1 hFc hP1 hD1
  generalize H1 = H at hP hS ⊢
  replace hP : va_P (dC, dI) vwCl [(h0, .inr (9, [.ref q1])), (q1, .inl (cA1, 8, .inl fT2_2))] H := hP
  replace hD : va_D A [(h0, .inr (9, [.ref q1])), (q1, .inl (cA1, 8, .inl fT2_2))] := hD
  clear hw
  have hP9 := hP.sub (ws' := [(h0, .inr (9, [.ref q1])), (q1, .inl (cA1, 8, .inl fT2_2))]) [0, 1] rfl
  have hD9 := hD.sub (ws' := [(h0, .inr (9, [.ref q1])), (q1, .inl (cA1, 8, .inl fT2_2))]) [0, 1] (by decide +kernel) rfl
  have hK9 := hK.sub (tys' := [(cA1, .int)]) [0] rfl
  exact W.vret hx hb hr (fun t ht hW => ⟨⟨(), rfl, trivial, ⟨q1, cA1, fT2_2, by rw [ht]; exact hP9, va_K.moved hW.alike hK9, hD9, t0__2, t1__2, t2__2, t3__2, t4__2, t5__2, t6__2, t7__2⟩⟩, hS.F ht⟩) hS.2.2 dX8_init_16

noncomputable def tl_c_X6_init : List Cond := wsX60
noncomputable def v_c_X6_init : List Cond := .code yX6_init cX6_init 1 none :: ([.methodLink RX6 3 objectInit, .instanceMethod objectInit, .code objectInit ⟨#[0xb1]⟩ 1 none, .fieldLink RX6 9 "ClaimBus$Sending" "state" "I", .fieldLink RX6 15 "ClaimBus$Sending" "nextPacket" "I", .fieldLink RX6 18 "ClaimBus$Sending" "due" "I", .fieldLink RX6 21 "ClaimBus$Sending" "whole" "LClaimBus$Message;"] ++ tl_c_X6_init)
theorem it_c_X6_init : ∀ w ∈ tl_c_X6_init, w ∈ v_c_X6_init := fun w h => List.mem_cons_of_mem _ (List.mem_append_right _ h)
theorem in_c_X6_init_X6 : ∀ w ∈ wsX60, w ∈ v_c_X6_init := fun w h => it_c_X6_init w (h)
theorem gt_c_X6_init : ∀ w ∈ tl_c_X6_init, goodWord w = true := gw_wsX60
theorem gw_c_X6_init : ∀ w ∈ v_c_X6_init, goodWord w = true := List.forall_mem_cons.mpr ⟨by decide +kernel, List.forall_mem_append.mpr ⟨List.all_eq_true.mp (by decide +kernel), gt_c_X6_init⟩⟩
set_option maxHeartbeats 4000000 in
set_option maxRecDepth 100000 in
/-- Sending() -/
theorem c_X6_init (l : Launch) (dC : Nat → ClassId) (dI : Nat → Nat → Nat) (h0 : Nat) (sz : Nat)  : Met l yX6_init v_c_X6_init ({ frames := 1, cells := 0, slots := 0, locals := 13 }) (va_Pc [.ref h0] (fun U => U.heap.size = sz ∧ va_P (dC, dI) vwCl [(h0, .inr (7, [.int 0, .int 0, .int 0, .null]))] U.heap ∧ va_K (dC, dI) vwCl [] U ∧ va_D (fun _ => True) [(h0, .inr (7, [.int 0, .int 0, .int 0, .null]))] ∧ ev U)) (va_Qv (fun _ : Unit => True) (fun (_ : Unit) (t : State) => va_P (dC, dI) vwCl [(h0, .inr (7, [.int 0, .int 1, .int 0, .null]))] t.heap ∧ va_K (dC, dI) vwCl [] t ∧ va_D (va_A [(h0, .inr (7, [.int 0, .int 0, .int 0, .null]))] sz) [(h0, .inr (7, [.int 0, .int 1, .int 0, .null]))]) (va_A [(h0, .inr (7, [.int 0, .int 0, .int 0, .null]))] sz)) 0 0 (va_A [(h0, .inr (7, [.int 0, .int 0, .int 0, .null]))] sz) := by
  refine Met.ofW (cc := cX6_init) (maxL := 1) (ret := none) (by decide) rfl ?_
  intro p e s m args below meth c s₁ B hml hv
  obtain ⟨rfl, hsz, hP, hK, hD0, hE⟩ := hv
  have hx := B.exec
  have hb := B.bytes
  have hr := B.returns
  have hts := atoms_spec (ws := v_c_X6_init) B.pre
  have hown : s.vm.findClass RX6 = some m.cls := findClass_of_methodNamed B.named
  have hlocks := B.notSynchronized
  have hin : meth.name = "<init>" := (name_of_methodNamed B.named B.method).1
  subst hsz
  have hD := hD0.self (sz := s.heap.size)
  generalize hAe : va_A [(h0, .inr (7, [.int 0, .int 0, .int 0, .null]))] s.heap.size = A at hD ⊢
  have hA : ∀ q : Nat, s.heap.size ≤ q → A q := fun q h => by rw [← hAe]; exact Or.inr h
  have hS : va_S A s.heap s.heap [] := va_S.rf
  replace hP : va_P (dC, dI) vwCl [(h0, .inr (7, [.int 0, .int 0, .int 0, .null]))] s.heap := hP
  have hl := lv_entry ([.ref h0]) (n := 1) (Nat.le_of_ble_eq_true rfl)
  rw [lg_entry_eq]
  generalize (lg_sl ([.ref h0]) ++ List.replicate (1 - (lg_sl ([.ref h0])).length) Slot.unset).toArray = ls at hl ⊢
  replace hl : lv_has ls 1 [(0, .ref h0)] := hl
  obtain ⟨H, hH⟩ : ∃ z : Heap, z = s.heap := ⟨_, rfl⟩
  rw [← hH]
  replace hS : va_S A s.heap H [] := by rw [hH]; exact va_S.rf
  replace hP : va_P (dC, dI) vwCl [(h0, .inr (7, [.int 0, .int 0, .int 0, .null]))] H := by rw [hH]; exact hP
  clear hH
  refine lv_aload_n hx hb dX6_init_0 rfl (lv_at hl 0 rfl) ?_
  refine W.objInit hx hb hown (hts (.methodLink RX6 3 objectInit) (List.mem_of_getElem? (i := 1) rfl)) (hts (.instanceMethod objectInit) (List.mem_of_getElem? (i := 2) rfl)) (hts (.code objectInit ⟨#[0xb1]⟩ 1 none) (List.mem_of_getElem? (i := 3) rfl)) rfl (by rw [hml]; exact hl.1) rfl dX6_init_1 (Nat.le_of_ble_eq_true rfl) (Nat.le_of_ble_eq_true rfl) ?_
  refine W.eq (g2 := F0 m 4 ls []) rfl ?_
  refine lv_aload_n hx hb dX6_init_4 rfl (lv_at hl 0 rfl) ?_
  refine lv_iconst (v := 0) hx hb dX6_init_5 (by decide) ?_
  refine va_put (D := (dC, dI)) (ci := 7) (v := .int 0) (ty := .int) (C := RX6) (T := TX6) (N := 4) hx hb hts in_c_X6_init_X6 tyX6 tyX6_ok nmX6 hown hK hP hD hS 0 rfl rfl 0 (by decide) (hts (.fieldLink RX6 9 "ClaimBus$Sending" "state" "I") (List.mem_of_getElem? (i := 4) rfl)) (fun _ h9 => h9) rfl (by decide +kernel) rfl rfl (Nat.le_of_ble_eq_true rfl) dX6_init_6 (fun H locs hP hD hS => ?_)
  replace hP : va_P (dC, dI) vwCl [(h0, .inr (7, [.int 0, .int 0, .int 0, .null]))] H := hP
  replace hD : va_D A [(h0, .inr (7, [.int 0, .int 0, .int 0, .null]))] := hD
  refine lv_aload_n hx hb dX6_init_9 rfl (lv_at hl 0 rfl) ?_
  refine lv_iconst (v := 1) hx hb dX6_init_10 (by decide) ?_
  refine va_put (D := (dC, dI)) (ci := 7) (v := .int 1) (ty := .int) (C := RX6) (T := TX6) (N := 4) hx hb hts in_c_X6_init_X6 tyX6 tyX6_ok nmX6 hown hK hP hD hS 0 rfl rfl 1 (by decide) (hts (.fieldLink RX6 15 "ClaimBus$Sending" "nextPacket" "I") (List.mem_of_getElem? (i := 5) rfl)) (fun _ h9 => h9) rfl (by decide +kernel) rfl rfl (Nat.le_of_ble_eq_true rfl) dX6_init_11 (fun H locs hP hD hS => ?_)
  replace hP : va_P (dC, dI) vwCl [(h0, .inr (7, [.int 0, .int 1, .int 0, .null]))] H := hP
  replace hD : va_D A [(h0, .inr (7, [.int 0, .int 1, .int 0, .null]))] := hD
  refine lv_aload_n hx hb dX6_init_14 rfl (lv_at hl 0 rfl) ?_
  refine lv_iconst (v := 0) hx hb dX6_init_15 (by decide) ?_
  refine va_put (D := (dC, dI)) (ci := 7) (v := .int 0) (ty := .int) (C := RX6) (T := TX6) (N := 4) hx hb hts in_c_X6_init_X6 tyX6 tyX6_ok nmX6 hown hK hP hD hS 0 rfl rfl 2 (by decide) (hts (.fieldLink RX6 18 "ClaimBus$Sending" "due" "I") (List.mem_of_getElem? (i := 6) rfl)) (fun _ h9 => h9) rfl (by decide +kernel) rfl rfl (Nat.le_of_ble_eq_true rfl) dX6_init_16 (fun H locs hP hD hS => ?_)
  replace hP : va_P (dC, dI) vwCl [(h0, .inr (7, [.int 0, .int 1, .int 0, .null]))] H := hP
  replace hD : va_D A [(h0, .inr (7, [.int 0, .int 1, .int 0, .null]))] := hD
  refine lv_aload_n hx hb dX6_init_19 rfl (lv_at hl 0 rfl) ?_
  refine lv_null hx hb dX6_init_20 ?_
  refine va_put (D := (dC, dI)) (ci := 7) (v := .null) (ty := (.object "ClaimBus$Message")) (C := RX6) (T := TX6) (N := 4) hx hb hts in_c_X6_init_X6 tyX6 tyX6_ok nmX6 hown hK hP hD hS 0 rfl rfl 3 (by decide) (hts (.fieldLink RX6 21 "ClaimBus$Sending" "whole" "LClaimBus$Message;") (List.mem_of_getElem? (i := 7) rfl)) (fun _ h9 => h9) rfl (by decide +kernel) rfl rfl (Nat.le_of_ble_eq_true rfl) dX6_init_21 (fun H locs hP hD hS => ?_)
  replace hP : va_P (dC, dI) vwCl [(h0, .inr (7, [.int 0, .int 1, .int 0, .null]))] H := hP
  replace hD : va_D A [(h0, .inr (7, [.int 0, .int 1, .int 0, .null]))] := hD
  have hP9 := hP.sub (ws' := [(h0, .inr (7, [.int 0, .int 1, .int 0, .null]))]) [0] rfl
  have hD9 := hD.sub (ws' := [(h0, .inr (7, [.int 0, .int 1, .int 0, .null]))]) [0] (by decide +kernel) rfl
  have hK9 := hK.sub (tys' := []) [] rfl
  exact W.vret hx hb hr (fun t ht hW => ⟨⟨(), rfl, trivial, ⟨by rw [ht]; exact hP9, va_K.moved hW.alike hK9, hD9⟩⟩, hS.F ht⟩) hS.2.2 dX6_init_24

noncomputable def tl_c_X2_init : List Cond := wsX20
noncomputable def v_c_X2_init : List Cond := .code yX2_init cX2_init 1 none :: ([.methodLink RX2 3 objectInit, .instanceMethod objectInit, .code objectInit ⟨#[0xb1]⟩ 1 none, .fieldLink RX2 9 "ClaimBus$Inbox" "came" "I", .fieldLink RX2 15 "ClaimBus$Inbox" "gotAnotherThanSent" "Z", .arrayClass .int, .fieldLink RX2 19 "ClaimBus$Inbox" "log" "[I", .classLink RX2 23 "[I", .fieldLink RX2 24 "ClaimBus$Inbox" "troubles" "[[I"] ++ tl_c_X2_init)
theorem it_c_X2_init : ∀ w ∈ tl_c_X2_init, w ∈ v_c_X2_init := fun w h => List.mem_cons_of_mem _ (List.mem_append_right _ h)
theorem in_c_X2_init_X2 : ∀ w ∈ wsX20, w ∈ v_c_X2_init := fun w h => it_c_X2_init w (h)
theorem gt_c_X2_init : ∀ w ∈ tl_c_X2_init, goodWord w = true := gw_wsX20
theorem gw_c_X2_init : ∀ w ∈ v_c_X2_init, goodWord w = true := List.forall_mem_cons.mpr ⟨by decide +kernel, List.forall_mem_append.mpr ⟨List.all_eq_true.mp (by decide +kernel), gt_c_X2_init⟩⟩
set_option maxHeartbeats 4000000 in
set_option maxRecDepth 100000 in
/-- Inbox() -/
theorem c_X2_init (l : Launch) (dC : Nat → ClassId) (dI : Nat → Nat → Nat) (h0 : Nat) (sz : Nat)  : Met l yX2_init v_c_X2_init ({ frames := 1, cells := 2, slots := 334, locals := 13 }) (va_Pc [.ref h0] (fun U => U.heap.size = sz ∧ va_P (dC, dI) vwCl [(h0, .inr (3, [.int 0, .int 0, .null, .null]))] U.heap ∧ va_K (dC, dI) vwCl [] U ∧ va_D (fun _ => True) [(h0, .inr (3, [.int 0, .int 0, .null, .null]))] ∧ ev U)) (va_Qv (fun _ : Unit => True) (fun (_ : Unit) (t : State) => ∃ (lg : Nat) (lt : Nat) (cL : ClassId), va_P (dC, dI) vwCl [(h0, .inr (3, [.int 0, .int 0, .ref lg, .ref lt])), (lg, .inl (cL, 80, .inl (fun _ => 0)))] t.heap ∧ va_K (dC, dI) vwCl [(cL, .int)] t ∧ va_D (va_A [(h0, .inr (3, [.int 0, .int 0, .null, .null]))] sz) [(h0, .inr (3, [.int 0, .int 0, .ref lg, .ref lt])), (lg, .inl (cL, 80, .inl (fun _ => 0)))]) (va_A [(h0, .inr (3, [.int 0, .int 0, .null, .null]))] sz)) 2 334 (va_A [(h0, .inr (3, [.int 0, .int 0, .null, .null]))] sz) := by
  refine Met.ofW (cc := cX2_init) (maxL := 1) (ret := none) (by decide) rfl ?_
  intro p e s m args below meth c s₁ B hml hv
  obtain ⟨rfl, hsz, hP, hK, hD0, hE⟩ := hv
  have hx := B.exec
  have hb := B.bytes
  have hr := B.returns
  have hts := atoms_spec (ws := v_c_X2_init) B.pre
  have hown : s.vm.findClass RX2 = some m.cls := findClass_of_methodNamed B.named
  have hlocks := B.notSynchronized
  have hin : meth.name = "<init>" := (name_of_methodNamed B.named B.method).1
  subst hsz
  have hD := hD0.self (sz := s.heap.size)
  generalize hAe : va_A [(h0, .inr (3, [.int 0, .int 0, .null, .null]))] s.heap.size = A at hD ⊢
  have hA : ∀ q : Nat, s.heap.size ≤ q → A q := fun q h => by rw [← hAe]; exact Or.inr h
  have hS : va_S A s.heap s.heap [] := va_S.rf
  replace hP : va_P (dC, dI) vwCl [(h0, .inr (3, [.int 0, .int 0, .null, .null]))] s.heap := hP
  have hl := lv_entry ([.ref h0]) (n := 1) (Nat.le_of_ble_eq_true rfl)
  rw [lg_entry_eq]
  generalize (lg_sl ([.ref h0]) ++ List.replicate (1 - (lg_sl ([.ref h0])).length) Slot.unset).toArray = ls at hl ⊢
  replace hl : lv_has ls 1 [(0, .ref h0)] := hl
  obtain ⟨H, hH⟩ : ∃ z : Heap, z = s.heap := ⟨_, rfl⟩
  rw [← hH]
  replace hS : va_S A s.heap H [] := by rw [hH]; exact va_S.rf
  replace hP : va_P (dC, dI) vwCl [(h0, .inr (3, [.int 0, .int 0, .null, .null]))] H := by rw [hH]; exact hP
  clear hH
  refine lv_aload_n hx hb dX2_init_0 rfl (lv_at hl 0 rfl) ?_
  refine W.objInit hx hb hown (hts (.methodLink RX2 3 objectInit) (List.mem_of_getElem? (i := 1) rfl)) (hts (.instanceMethod objectInit) (List.mem_of_getElem? (i := 2) rfl)) (hts (.code objectInit ⟨#[0xb1]⟩ 1 none) (List.mem_of_getElem? (i := 3) rfl)) rfl (by rw [hml]; exact hl.1) rfl dX2_init_1 (Nat.le_of_ble_eq_true rfl) (Nat.le_of_ble_eq_true rfl) ?_
  refine W.eq (g2 := F0 m 4 ls []) rfl ?_
  refine lv_aload_n hx hb dX2_init_4 rfl (lv_at hl 0 rfl) ?_
  refine lv_iconst (v := 0) hx hb dX2_init_5 (by decide) ?_
  refine va_put (D := (dC, dI)) (ci := 3) (v := .int 0) (ty := .int) (C := RX2) (T := TX2) (N := 4) hx hb hts in_c_X2_init_X2 tyX2 tyX2_ok nmX2 hown hK hP hD hS 0 rfl rfl 0 (by decide) (hts (.fieldLink RX2 9 "ClaimBus$Inbox" "came" "I") (List.mem_of_getElem? (i := 4) rfl)) (fun _ h9 => h9) rfl (by decide +kernel) rfl rfl (Nat.le_of_ble_eq_true rfl) dX2_init_6 (fun H locs hP hD hS => ?_)
  replace hP : va_P (dC, dI) vwCl [(h0, .inr (3, [.int 0, .int 0, .null, .null]))] H := hP
  replace hD : va_D A [(h0, .inr (3, [.int 0, .int 0, .null, .null]))] := hD
  refine lv_aload_n hx hb dX2_init_9 rfl (lv_at hl 0 rfl) ?_
  refine lv_iconst (v := 0) hx hb dX2_init_10 (by decide) ?_
  refine va_put (D := (dC, dI)) (ci := 3) (v := .int 0) (ty := .boolean) (C := RX2) (T := TX2) (N := 4) hx hb hts in_c_X2_init_X2 tyX2 tyX2_ok nmX2 hown hK hP hD hS 0 rfl rfl 1 (by decide) (hts (.fieldLink RX2 15 "ClaimBus$Inbox" "gotAnotherThanSent" "Z") (List.mem_of_getElem? (i := 5) rfl)) (fun _ h9 => h9) rfl (by decide +kernel) rfl rfl (Nat.le_of_ble_eq_true rfl) dX2_init_11 (fun H locs hP hD hS => ?_)
  replace hP : va_P (dC, dI) vwCl [(h0, .inr (3, [.int 0, .int 0, .null, .null]))] H := hP
  replace hD : va_D A [(h0, .inr (3, [.int 0, .int 0, .null, .null]))] := hD
  refine lv_aload_n hx hb dX2_init_14 rfl (lv_at hl 0 rfl) ?_
  refine lv_bipush (v := 80) hx hb dX2_init_15 (by decide) ?_
  refine va_newa (atype := .int) (ty := .int) (N' := 80) (a0 := (80, .inl (fun _ => 0))) hx hb (hts (.arrayClass .int) (List.mem_of_getElem? (i := 6) rfl)) rfl hK hP hD hS hA (fun _ => rfl) (by decide) (by decide) (Nat.le_of_ble_eq_true rfl) (Nat.le_of_ble_eq_true rfl) (Nat.le_of_ble_eq_true rfl) dX2_init_17 (fun q1 cA1 H hK hP hD hS => ?_)
  replace hK : va_K (dC, dI) vwCl [(cA1, .int)] s := hK
  replace hP : va_P (dC, dI) vwCl [(h0, .inr (3, [.int 0, .int 0, .null, .null])), (q1, .inl (cA1, 80, .inl (fun _ => 0)))] H := hP
  replace hD : va_D A [(h0, .inr (3, [.int 0, .int 0, .null, .null])), (q1, .inl (cA1, 80, .inl (fun _ => 0)))] := hD
  refine W.widen (k := 1) (n := 80) (Nat.le_of_ble_eq_true rfl) (Nat.le_of_ble_eq_true rfl) ?_
  refine va_putF (D := (dC, dI)) (ci := 3) (v := .ref q1) (ty := (.array .int)) (C := RX2) (T := TX2) (N := 4) hx hb hts in_c_X2_init_X2 tyX2 tyX2_ok nmX2 hown hK hP hD hS 0 rfl rfl 2 (by decide) (hts (.fieldLink RX2 19 "ClaimBus$Inbox" "log" "[I") (List.mem_of_getElem? (i := 7) rfl)) (fun _ h9 => h9) rfl hin rfl (by decide +kernel) rfl rfl (Nat.le_of_ble_eq_true rfl) dX2_init_19 (fun H locs hP hD hS => ?_)
  replace hP : va_P (dC, dI) vwCl [(h0, .inr (3, [.int 0, .int 0, .ref q1, .null])), (q1, .inl (cA1, 80, .inl (fun _ => 0)))] H := hP
  replace hD : va_D A [(h0, .inr (3, [.int 0, .int 0, .ref q1, .null])), (q1, .inl (cA1, 80, .inl (fun _ => 0)))] := hD
  refine lv_aload_n hx hb dX2_init_22 rfl (lv_at hl 0 rfl) ?_
  refine lv_sipush (v := 254) hx hb dX2_init_23 (by decide) ?_
  refine my_newA (N' := 254) hx hb hown (hts (.classLink RX2 23 "[I") (List.mem_of_getElem? (i := 8) rfl)) hE.AOA hP hD hS hA (by decide) (by decide) (Nat.le_of_ble_eq_true rfl) (Nat.le_of_ble_eq_true rfl) (Nat.le_of_ble_eq_true rfl) dX2_init_26 (fun q2 cA2 H hP hD hS => ?_)
  replace hP : va_P (dC, dI) vwCl [(h0, .inr (3, [.int 0, .int 0, .ref q1, .null])), (q1, .inl (cA1, 80, .inl (fun _ => 0))), (q2, .inl (cA2, 254, .inr (.inr (.inr (.inr (fun _ => none))))))] H := hP
  replace hD : va_D A [(h0, .inr (3, [.int 0, .int 0, .ref q1, .null])), (q1, .inl (cA1, 80, .inl (fun _ => 0))), (q2, .inl (cA2, 254, .inr (.inr (.inr (.inr (fun _ => none))))))] := hD
  refine W.widen (k := 2) (n := 334) (Nat.le_of_ble_eq_true rfl) (Nat.le_of_ble_eq_true rfl) ?_
  refine va_putF (D := (dC, dI)) (ci := 3) (v := .ref q2) (ty := (.array (.array .int))) (C := RX2) (T := TX2) (N := 4) hx hb hts in_c_X2_init_X2 tyX2 tyX2_ok nmX2 hown hK hP hD hS 0 rfl rfl 3 (by decide) (hts (.fieldLink RX2 24 "ClaimBus$Inbox" "troubles" "[[I") (List.mem_of_getElem? (i := 9) rfl)) (fun _ h9 => h9) rfl hin rfl (by decide +kernel) rfl rfl (Nat.le_of_ble_eq_true rfl) dX2_init_29 (fun H locs hP hD hS => ?_)
  replace hP : va_P (dC, dI) vwCl [(h0, .inr (3, [.int 0, .int 0, .ref q1, .ref q2])), (q1, .inl (cA1, 80, .inl (fun _ => 0))), (q2, .inl (cA2, 254, .inr (.inr (.inr (.inr (fun _ => none))))))] H := hP
  replace hD : va_D A [(h0, .inr (3, [.int 0, .int 0, .ref q1, .ref q2])), (q1, .inl (cA1, 80, .inl (fun _ => 0))), (q2, .inl (cA2, 254, .inr (.inr (.inr (.inr (fun _ => none))))))] := hD
  have hP9 := hP.sub (ws' := [(h0, .inr (3, [.int 0, .int 0, .ref q1, .ref q2])), (q1, .inl (cA1, 80, .inl (fun _ => 0)))]) [0, 1] rfl
  have hD9 := hD.sub (ws' := [(h0, .inr (3, [.int 0, .int 0, .ref q1, .ref q2])), (q1, .inl (cA1, 80, .inl (fun _ => 0)))]) [0, 1] (by decide +kernel) rfl
  have hK9 := hK.sub (tys' := [(cA1, .int)]) [0] rfl
  exact W.vret hx hb hr (fun t ht hW => ⟨⟨(), rfl, trivial, ⟨q1, q2, cA1, by rw [ht]; exact hP9, va_K.moved hW.alike hK9, hD9⟩⟩, hS.F ht⟩) hS.2.2 dX2_init_32

noncomputable def tl_c_X5_init : List Cond := wsX50 ++ (wsX10 ++ (v_c_X1_init))
noncomputable def v_c_X5_init : List Cond := .code yX5_init cX5_init 4 none :: ([.methodLink RX5 3 objectInit, .instanceMethod objectInit, .code objectInit ⟨#[0xb1]⟩ 1 none, .fieldLink RX5 9 "ClaimBus$Row" "head" "LClaimBus$Chunk;", .fieldLink RX5 15 "ClaimBus$Row" "tail" "LClaimBus$Chunk;", .fieldLink RX5 18 "ClaimBus$Row" "headPlace" "I", .fieldLink RX5 22 "ClaimBus$Row" "tailPlace" "I", .fieldLink RX5 25 "ClaimBus$Row" "frames" "I", .fieldLink RX5 28 "ClaimBus$Row" "gone" "I", .fieldLink RX5 31 "ClaimBus$Row" "claimWaits" "Z", .classLink RX5 35 RX1, .instantiable RX1 4, .initialized RX1, .instanceMethod yX1_init, .fieldLink RX5 38 "ClaimBus$Row" "first" "LClaimBus$Frame;", .fieldLink RX5 42 "ClaimBus$Row" "firstIsWritten" "Z", .fieldLink RX5 45 "ClaimBus$Row" "high" "I", .fieldLink RX5 48 "ClaimBus$Row" "low" "I", .fieldLink RX5 51 "ClaimBus$Row" "store" "LClaimBus$Store;"] ++ tl_c_X5_init)
theorem it_c_X5_init : ∀ w ∈ tl_c_X5_init, w ∈ v_c_X5_init := fun w h => List.mem_cons_of_mem _ (List.mem_append_right _ h)
theorem in_c_X5_init_X5 : ∀ w ∈ wsX50, w ∈ v_c_X5_init := fun w h => it_c_X5_init w (List.mem_append_left _ h)
theorem in_c_X5_init_X1 : ∀ w ∈ wsX10, w ∈ v_c_X5_init := fun w h => it_c_X5_init w (List.mem_append_right _ (List.mem_append_left _ h))
theorem ic_c_X5_init_c_X1_init : ∀ w ∈ v_c_X1_init, w ∈ v_c_X5_init := fun w h => it_c_X5_init w (List.mem_append_right _ (List.mem_append_right _ (h)))
theorem gt_c_X5_init : ∀ w ∈ tl_c_X5_init, goodWord w = true := List.forall_mem_append.mpr ⟨gw_wsX50, List.forall_mem_append.mpr ⟨gw_wsX10, gw_c_X1_init⟩⟩
theorem gw_c_X5_init : ∀ w ∈ v_c_X5_init, goodWord w = true := List.forall_mem_cons.mpr ⟨by decide +kernel, List.forall_mem_append.mpr ⟨List.all_eq_true.mp (by decide +kernel), gt_c_X5_init⟩⟩
theorem g_c_X5_init_c_X1_init_37 : GoodIn v_c_X5_init v_c_X1_init := fun w h => ⟨ic_c_X5_init_c_X1_init w h, good_of_word (gw_c_X1_init w h)⟩
set_option maxHeartbeats 4000000 in
set_option maxRecDepth 100000 in
/-- Row(..) -/
theorem c_X5_init (l : Launch) (dC : Nat → ClassId) (dI : Nat → Nat → Nat) (h0 : Nat) (p0 : Int32) (p1 : Int32) (sr : Nat) (sz : Nat)  : Met l yX5_init v_c_X5_init ({ frames := 2, cells := 1, slots := 4, locals := 33 }) (va_Pc [.ref h0, .int p0, .int p1, .ref sr] (fun U => U.heap.size = sz ∧ va_P (dC, dI) vwCl [(h0, .inr (6, [.int 0, .int 0, .null, .null, .null, .int 0, .int 0, .int 0, .int 0, .int 0, .null, .int 0]))] U.heap ∧ va_K (dC, dI) vwCl [] U ∧ va_D (fun _ => True) [(h0, .inr (6, [.int 0, .int 0, .null, .null, .null, .int 0, .int 0, .int 0, .int 0, .int 0, .null, .int 0]))] ∧ ev U)) (va_Qv (fun _ : Unit => True) (fun (_ : Unit) (t : State) => ∃ (rf : Nat), va_P (dC, dI) vwCl [(h0, .inr (6, [.int p0, .int p1, .ref sr, .null, .null, .int 0, .int 0, .int 0, .int 0, .int 0, .ref rf, .int 0])), (rf, .inr (2, [.int 0, .int 0, .int 0, .null]))] t.heap ∧ va_K (dC, dI) vwCl [] t ∧ va_D (va_A [(h0, .inr (6, [.int 0, .int 0, .null, .null, .null, .int 0, .int 0, .int 0, .int 0, .int 0, .null, .int 0]))] sz) [(h0, .inr (6, [.int p0, .int p1, .ref sr, .null, .null, .int 0, .int 0, .int 0, .int 0, .int 0, .ref rf, .int 0])), (rf, .inr (2, [.int 0, .int 0, .int 0, .null]))]) (va_A [(h0, .inr (6, [.int 0, .int 0, .null, .null, .null, .int 0, .int 0, .int 0, .int 0, .int 0, .null, .int 0]))] sz)) 1 4 (va_A [(h0, .inr (6, [.int 0, .int 0, .null, .null, .null, .int 0, .int 0, .int 0, .int 0, .int 0, .null, .int 0]))] sz) := by
  refine Met.ofW (cc := cX5_init) (maxL := 4) (ret := none) (by decide) rfl ?_
  intro p e s m args below meth c s₁ B hml hv
  obtain ⟨rfl, hsz, hP, hK, hD0, hE⟩ := hv
  have hx := B.exec
  have hb := B.bytes
  have hr := B.returns
  have hts := atoms_spec (ws := v_c_X5_init) B.pre
  have hown : s.vm.findClass RX5 = some m.cls := findClass_of_methodNamed B.named
  have hlocks := B.notSynchronized
  have hin : meth.name = "<init>" := (name_of_methodNamed B.named B.method).1
  subst hsz
  have hD := hD0.self (sz := s.heap.size)
  generalize hAe : va_A [(h0, .inr (6, [.int 0, .int 0, .null, .null, .null, .int 0, .int 0, .int 0, .int 0, .int 0, .null, .int 0]))] s.heap.size = A at hD ⊢
  have hA : ∀ q : Nat, s.heap.size ≤ q → A q := fun q h => by rw [← hAe]; exact Or.inr h
  have hS : va_S A s.heap s.heap [] := va_S.rf
  replace hP : va_P (dC, dI) vwCl [(h0, .inr (6, [.int 0, .int 0, .null, .null, .null, .int 0, .int 0, .int 0, .int 0, .int 0, .null, .int 0]))] s.heap := hP
  have hl := lv_entry ([.ref h0, .int p0, .int p1, .ref sr]) (n := 4) (Nat.le_of_ble_eq_true rfl)
  rw [lg_entry_eq]
  generalize (lg_sl ([.ref h0, .int p0, .int p1, .ref sr]) ++ List.replicate (4 - (lg_sl ([.ref h0, .int p0, .int p1, .ref sr])).length) Slot.unset).toArray = ls at hl ⊢
  replace hl : lv_has ls 4 [(0, .ref h0), (1, .int p0), (2, .int p1), (3, .ref sr)] := hl
  obtain ⟨H, hH⟩ : ∃ z : Heap, z = s.heap := ⟨_, rfl⟩
  rw [← hH]
  replace hS : va_S A s.heap H [] := by rw [hH]; exact va_S.rf
  replace hP : va_P (dC, dI) vwCl [(h0, .inr (6, [.int 0, .int 0, .null, .null, .null, .int 0, .int 0, .int 0, .int 0, .int 0, .null, .int 0]))] H := by rw [hH]; exact hP
  clear hH
  refine lv_aload_n hx hb dX5_init_0 rfl (lv_at hl 0 rfl) ?_
  refine W.objInit hx hb hown (hts (.methodLink RX5 3 objectInit) (List.mem_of_getElem? (i := 1) rfl)) (hts (.instanceMethod objectInit) (List.mem_of_getElem? (i := 2) rfl)) (hts (.code objectInit ⟨#[0xb1]⟩ 1 none) (List.mem_of_getElem? (i := 3) rfl)) rfl (by rw [hml]; exact hl.1) rfl dX5_init_1 (Nat.le_of_ble_eq_true rfl) (Nat.le_of_ble_eq_true rfl) ?_
  refine W.eq (g2 := F0 m 4 ls []) rfl ?_
  refine lv_aload_n hx hb dX5_init_4 rfl (lv_at hl 0 rfl) ?_
  refine lv_null hx hb dX5_init_5 ?_
  refine va_put (D := (dC, dI)) (ci := 6) (v := .null) (ty := (.object "ClaimBus$Chunk")) (C := RX5) (T := TX5) (N := 12) hx hb hts in_c_X5_init_X5 tyX5 tyX5_ok nmX5 hown hK hP hD hS 0 rfl rfl 3 (by decide) (hts (.fieldLink RX5 9 "ClaimBus$Row" "head" "LClaimBus$Chunk;") (List.mem_of_getElem? (i := 4) rfl)) (fun _ h9 => h9) rfl (by decide +kernel) rfl rfl (Nat.le_of_ble_eq_true rfl) dX5_init_6 (fun H locs hP hD hS => ?_)
  replace hP : va_P (dC, dI) vwCl [(h0, .inr (6, [.int 0, .int 0, .null, .null, .null, .int 0, .int 0, .int 0, .int 0, .int 0, .null, .int 0]))] H := hP
  replace hD : va_D A [(h0, .inr (6, [.int 0, .int 0, .null, .null, .null, .int 0, .int 0, .int 0, .int 0, .int 0, .null, .int 0]))] := hD
  refine lv_aload_n hx hb dX5_init_9 rfl (lv_at hl 0 rfl) ?_
  refine lv_null hx hb dX5_init_10 ?_
  refine va_put (D := (dC, dI)) (ci := 6) (v := .null) (ty := (.object "ClaimBus$Chunk")) (C := RX5) (T := TX5) (N := 12) hx hb hts in_c_X5_init_X5 tyX5 tyX5_ok nmX5 hown hK hP hD hS 0 rfl rfl 4 (by decide) (hts (.fieldLink RX5 15 "ClaimBus$Row" "tail" "LClaimBus$Chunk;") (List.mem_of_getElem? (i := 5) rfl)) (fun _ h9 => h9) rfl (by decide +kernel) rfl rfl (Nat.le_of_ble_eq_true rfl) dX5_init_11 (fun H locs hP hD hS => ?_)
  replace hP : va_P (dC, dI) vwCl [(h0, .inr (6, [.int 0, .int 0, .null, .null, .null, .int 0, .int 0, .int 0, .int 0, .int 0, .null, .int 0]))] H := hP
  replace hD : va_D A [(h0, .inr (6, [.int 0, .int 0, .null, .null, .null, .int 0, .int 0, .int 0, .int 0, .int 0, .null, .int 0]))] := hD
  refine lv_aload_n hx hb dX5_init_14 rfl (lv_at hl 0 rfl) ?_
  refine lv_iconst (v := 0) hx hb dX5_init_15 (by decide) ?_
  refine va_put (D := (dC, dI)) (ci := 6) (v := .int 0) (ty := .int) (C := RX5) (T := TX5) (N := 12) hx hb hts in_c_X5_init_X5 tyX5 tyX5_ok nmX5 hown hK hP hD hS 0 rfl rfl 5 (by decide) (hts (.fieldLink RX5 18 "ClaimBus$Row" "headPlace" "I") (List.mem_of_getElem? (i := 6) rfl)) (fun _ h9 => h9) rfl (by decide +kernel) rfl rfl (Nat.le_of_ble_eq_true rfl) dX5_init_16 (fun H locs hP hD hS => ?_)
  replace hP : va_P (dC, dI) vwCl [(h0, .inr (6, [.int 0, .int 0, .null, .null, .null, .int 0, .int 0, .int 0, .int 0, .int 0, .null, .int 0]))] H := hP
  replace hD : va_D A [(h0, .inr (6, [.int 0, .int 0, .null, .null, .null, .int 0, .int 0, .int 0, .int 0, .int 0, .null, .int 0]))] := hD
  refine lv_aload_n hx hb dX5_init_19 rfl (lv_at hl 0 rfl) ?_
  refine lv_iconst (v := 0) hx hb dX5_init_20 (by decide) ?_
  refine va_put (D := (dC, dI)) (ci := 6) (v := .int 0) (ty := .int) (C := RX5) (T := TX5) (N := 12) hx hb hts in_c_X5_init_X5 tyX5 tyX5_ok nmX5 hown hK hP hD hS 0 rfl rfl 6 (by decide) (hts (.fieldLink RX5 22 "ClaimBus$Row" "tailPlace" "I") (List.mem_of_getElem? (i := 7) rfl)) (fun _ h9 => h9) rfl (by decide +kernel) rfl rfl (Nat.le_of_ble_eq_true rfl) dX5_init_21 (fun H locs hP hD hS => ?_)
  replace hP : va_P (dC, dI) vwCl [(h0, .inr (6, [.int 0, .int 0, .null, .null, .null, .int 0, .int 0, .int 0, .int 0, .int 0, .null, .int 0]))] H := hP
  replace hD : va_D A [(h0, .inr (6, [.int 0, .int 0, .null, .null, .null, .int 0, .int 0, .int 0, .int 0, .int 0, .null, .int 0]))] := hD
  refine lv_aload_n hx hb dX5_init_24 rfl (lv_at hl 0 rfl) ?_
  refine lv_iconst (v := 0) hx hb dX5_init_25 (by decide) ?_
  refine va_put (D := (dC, dI)) (ci := 6) (v := .int 0) (ty := .int) (C := RX5) (T := TX5) (N := 12) hx hb hts in_c_X5_init_X5 tyX5 tyX5_ok nmX5 hown hK hP hD hS 0 rfl rfl 7 (by decide) (hts (.fieldLink RX5 25 "ClaimBus$Row" "frames" "I") (List.mem_of_getElem? (i := 8) rfl)) (fun _ h9 => h9) rfl (by decide +kernel) rfl rfl (Nat.le_of_ble_eq_true rfl) dX5_init_26 (fun H locs hP hD hS => ?_)
  replace hP : va_P (dC, dI) vwCl [(h0, .inr (6, [.int 0, .int 0, .null, .null, .null, .int 0, .int 0, .int 0, .int 0, .int 0, .null, .int 0]))] H := hP
  replace hD : va_D A [(h0, .inr (6, [.int 0, .int 0, .null, .null, .null, .int 0, .int 0, .int 0, .int 0, .int 0, .null, .int 0]))] := hD
  refine lv_aload_n hx hb dX5_init_29 rfl (lv_at hl 0 rfl) ?_
  refine lv_iconst (v := 0) hx hb dX5_init_30 (by decide) ?_
  refine va_put (D := (dC, dI)) (ci := 6) (v := .int 0) (ty := .int) (C := RX5) (T := TX5) (N := 12) hx hb hts in_c_X5_init_X5 tyX5 tyX5_ok nmX5 hown hK hP hD hS 0 rfl rfl 8 (by decide) (hts (.fieldLink RX5 28 "ClaimBus$Row" "gone" "I") (List.mem_of_getElem? (i := 9) rfl)) (fun _ h9 => h9) rfl (by decide +kernel) rfl rfl (Nat.le_of_ble_eq_true rfl) dX5_init_31 (fun H locs hP hD hS => ?_)
  replace hP : va_P (dC, dI) vwCl [(h0, .inr (6, [.int 0, .int 0, .null, .null, .null, .int 0, .int 0, .int 0, .int 0, .int 0, .null, .int 0]))] H := hP
  replace hD : va_D A [(h0, .inr (6, [.int 0, .int 0, .null, .null, .null, .int 0, .int 0, .int 0, .int 0, .int 0, .null, .int 0]))] := hD
  refine lv_aload_n hx hb dX5_init_34 rfl (lv_at hl 0 rfl) ?_
  refine lv_iconst (v := 0) hx hb dX5_init_35 (by decide) ?_
  refine va_put (D := (dC, dI)) (ci := 6) (v := .int 0) (ty := .boolean) (C := RX5) (T := TX5) (N := 12) hx hb hts in_c_X5_init_X5 tyX5 tyX5_ok nmX5 hown hK hP hD hS 0 rfl rfl 9 (by decide) (hts (.fieldLink RX5 31 "ClaimBus$Row" "claimWaits" "Z") (List.mem_of_getElem? (i := 10) rfl)) (fun _ h9 => h9) rfl (by decide +kernel) rfl rfl (Nat.le_of_ble_eq_true rfl) dX5_init_36 (fun H locs hP hD hS => ?_)
  replace hP : va_P (dC, dI) vwCl [(h0, .inr (6, [.int 0, .int 0, .null, .null, .null, .int 0, .int 0, .int 0, .int 0, .int 0, .null, .int 0]))] H := hP
  replace hD : va_D A [(h0, .inr (6, [.int 0, .int 0, .null, .null, .null, .int 0, .int 0, .int 0, .int 0, .int 0, .null, .int 0]))] := hD
  refine lv_aload_n hx hb dX5_init_39 rfl (lv_at hl 0 rfl) ?_
  refine va_new (ci := 2) (fs := [.int 0, .int 0, .int 0, .null]) (C := RX1) (T := TX1) (N := 4) hx hb hts in_c_X5_init_X1 tyX1 tyX1_ok hown (hts (.classLink RX5 35 RX1) (List.mem_of_getElem? (i := 11) rfl)) (hts (.instantiable RX1 4) (List.mem_of_getElem? (i := 12) rfl)) (hts (.initialized RX1) (List.mem_of_getElem? (i := 13) rfl)) hK hP hD hS hA rfl df_X1 (Nat.le_of_ble_eq_true rfl) (Nat.le_of_ble_eq_true rfl) dX5_init_40 (fun q1 H hP hD hS => ?_)
  replace hP : va_P (dC, dI) vwCl [(h0, .inr (6, [.int 0, .int 0, .null, .null, .null, .int 0, .int 0, .int 0, .int 0, .int 0, .null, .int 0])), (q1, .inr (2, [.int 0, .int 0, .int 0, .null]))] H := hP
  replace hD : va_D A [(h0, .inr (6, [.int 0, .int 0, .null, .null, .null, .int 0, .int 0, .int 0, .int 0, .int 0, .null, .int 0])), (q1, .inr (2, [.int 0, .int 0, .int 0, .null]))] := hD
  refine W.widen (k := 1) (n := 4) (Nat.le_of_ble_eq_true rfl) (Nat.le_of_ble_eq_true rfl) ?_
  refine lv_dup hx hb dX5_init_43 rfl ?_
  have hPc := hP.sub (ws' := [(q1, .inr (2, [.int 0, .int 0, .int 0, .null]))]) [1] rfl
  have hDc := hD.sub (ws' := [(q1, .inr (2, [.int 0, .int 0, .int 0, .null]))]) [1] (by decide +kernel) rfl
  have hKc := hK.sub (tys' := []) [] rfl
  have hFc := va_free (wc := [(q1, .inr (2, [.int 0, .int 0, .int 0, .null]))]) hD hS hA [1] rfl
  refine va_callv (va_runIN (As := []) (rest := [.ref q1, .ref h0]) ⟨hx, hb, hml, hown, hts⟩ (c_X1_init l dC dI (q1) H.size) ⟨va_cnB 0 hts g_c_X5_init_c_X1_init_37 rfl rfl rfl hE.n5 (hts (.initialized RX1) (List.mem_of_getElem? (i := 13) rfl)) (by decide +kernel) ⟨Nat.le_of_ble_eq_true rfl, Nat.le_of_ble_eq_true rfl⟩, rfl, (hts (.instanceMethod yX1_init) (List.mem_of_getElem? (i := 14) rfl))⟩ ⟨fun a U g mk q => by obtain ⟨q0, q1, qP, qK, qD, qE⟩ := q; exact ⟨q0, q1, qP, va_K.moved (u := U) (U := U.calling g mk a) (Vm.Alike.refl U.vm) qK, qD, ev.same (u := U) (U := U.calling g mk a) rfl qE⟩, fun U hU hW => ⟨rfl, by rw [hU], by rw [hU]; exact hPc, va_K.moved hW.alike hKc, hDc.weaken (fun _ _ _ _ => trivial), hE.warm hW⟩⟩ rfl rfl hl.1 rfl (lv_room (Nat.le_of_ble_eq_true rfl)) dX5_init_44 ⟨Nat.le_of_ble_eq_true rfl, Nat.le_of_ble_eq_true rfl⟩) hS (fun q _ h => hFc q h) hFc (fun u t H1 locs ht hvm hw hB hz1 hk1 hS => ?_)
  clear hPc hDc hKc
  obtain ⟨hP1, hK1, hD1⟩ := hB
  rw [ht] at hP1
  have hK1 := va_K.moved hvm.symm hK1
  obtain ⟨hP, hD⟩ := va_join (wr := [(h0, .inr (6, [.int 0, .int 0, .null, .null, .null, .int 0, .int 0, .int 0, .int 0, .int 0, .null, .int 0]))]) (w1 := [(q1, .inr (2, [.int 0, .int 0, .int 0, .null]))]) hP hD [1] [0] rfl rfl (by decide +kernel) (by decide +kernel) hk1 hFc hP1 hD1
  generalize H1 = H at hP hS ⊢
  replace hP : va_P (dC, dI) vwCl [(h0, .inr (6, [.int 0, .int 0, .null, .null, .null, .int 0, .int 0, .int 0, .int 0, .int 0, .null, .int 0])), (q1, .inr (2, [.int 0, .int 0, .int 0, .null]))] H := hP
  replace hD : va_D A [(h0, .inr (6, [.int 0, .int 0, .null, .null, .null, .int 0, .int 0, .int 0, .int 0, .int 0, .null, .int 0])), (q1, .inr (2, [.int 0, .int 0, .int 0, .null]))] := hD
  clear hw
  refine va_putF (D := (dC, dI)) (ci := 6) (v := .ref q1) (ty := (.object "ClaimBus$Frame")) (C := RX5) (T := TX5) (N := 12) hx hb hts in_c_X5_init_X5 tyX5 tyX5_ok nmX5 hown hK hP hD hS 0 rfl rfl 10 (by decide) (hts (.fieldLink RX5 38 "ClaimBus$Row" "first" "LClaimBus$Frame;") (List.mem_of_getElem? (i := 15) rfl)) (fun _ h9 => h9) rfl hin rfl (by decide +kernel) rfl rfl (Nat.le_of_ble_eq_true rfl) dX5_init_47 (fun H locs hP hD hS => ?_)
  replace hP : va_P (dC, dI) vwCl [(h0, .inr (6, [.int 0, .int 0, .null, .null, .null, .int 0, .int 0, .int 0, .int 0, .int 0, .ref q1, .int 0])), (q1, .inr (2, [.int 0, .int 0, .int 0, .null]))] H := hP
  replace hD : va_D A [(h0, .inr (6, [.int 0, .int 0, .null, .null, .null, .int 0, .int 0, .int 0, .int 0, .int 0, .ref q1, .int 0])), (q1, .inr (2, [.int 0, .int 0, .int 0, .null]))] := hD
  refine lv_aload_n hx hb dX5_init_50 rfl (lv_at hl 0 rfl) ?_
  refine lv_iconst (v := 0) hx hb dX5_init_51 (by decide) ?_
  refine va_put (D := (dC, dI)) (ci := 6) (v := .int 0) (ty := .boolean) (C := RX5) (T := TX5) (N := 12) hx hb hts in_c_X5_init_X5 tyX5 tyX5_ok nmX5 hown hK hP hD hS 0 rfl rfl 11 (by decide) (hts (.fieldLink RX5 42 "ClaimBus$Row" "firstIsWritten" "Z") (List.mem_of_getElem? (i := 16) rfl)) (fun _ h9 => h9) rfl (by decide +kernel) rfl rfl (Nat.le_of_ble_eq_true rfl) dX5_init_52 (fun H locs hP hD hS => ?_)
  replace hP : va_P (dC, dI) vwCl [(h0, .inr (6, [.int 0, .int 0, .null, .null, .null, .int 0, .int 0, .int 0, .int 0, .int 0, .ref q1, .int 0])), (q1, .inr (2, [.int 0, .int 0, .int 0, .null]))] H := hP
  replace hD : va_D A [(h0, .inr (6, [.int 0, .int 0, .null, .null, .null, .int 0, .int 0, .int 0, .int 0, .int 0, .ref q1, .int 0])), (q1, .inr (2, [.int 0, .int 0, .int 0, .null]))] := hD
  refine lv_aload_n hx hb dX5_init_55 rfl (lv_at hl 0 rfl) ?_
  refine lv_iload_n hx hb dX5_init_56 rfl (lv_at hl 1 rfl) ?_
  refine va_putF (D := (dC, dI)) (ci := 6) (v := .int p0) (ty := .int) (C := RX5) (T := TX5) (N := 12) hx hb hts in_c_X5_init_X5 tyX5 tyX5_ok nmX5 hown hK hP hD hS 0 rfl rfl 0 (by decide) (hts (.fieldLink RX5 45 "ClaimBus$Row" "high" "I") (List.mem_of_getElem? (i := 17) rfl)) (fun _ h9 => h9) rfl hin rfl (by decide +kernel) rfl rfl (Nat.le_of_ble_eq_true rfl) dX5_init_57 (fun H locs hP hD hS => ?_)
  replace hP : va_P (dC, dI) vwCl [(h0, .inr (6, [.int p0, .int 0, .null, .null, .null, .int 0, .int 0, .int 0, .int 0, .int 0, .ref q1, .int 0])), (q1, .inr (2, [.int 0, .int 0, .int 0, .null]))] H := hP
  replace hD : va_D A [(h0, .inr (6, [.int p0, .int 0, .null, .null, .null, .int 0, .int 0, .int 0, .int 0, .int 0, .ref q1, .int 0])), (q1, .inr (2, [.int 0, .int 0, .int 0, .null]))] := hD
  refine lv_aload_n hx hb dX5_init_60 rfl (lv_at hl 0 rfl) ?_
  refine lv_iload_n hx hb dX5_init_61 rfl (lv_at hl 2 rfl) ?_
  refine va_putF (D := (dC, dI)) (ci := 6) (v := .int p1) (ty := .int) (C := RX5) (T := TX5) (N := 12) hx hb hts in_c_X5_init_X5 tyX5 tyX5_ok nmX5 hown hK hP hD hS 0 rfl rfl 1 (by decide) (hts (.fieldLink RX5 48 "ClaimBus$Row" "low" "I") (List.mem_of_getElem? (i := 18) rfl)) (fun _ h9 => h9) rfl hin rfl (by decide +kernel) rfl rfl (Nat.le_of_ble_eq_true rfl) dX5_init_62 (fun H locs hP hD hS => ?_)
  replace hP : va_P (dC, dI) vwCl [(h0, .inr (6, [.int p0, .int p1, .null, .null, .null, .int 0, .int 0, .int 0, .int 0, .int 0, .ref q1, .int 0])), (q1, .inr (2, [.int 0, .int 0, .int 0, .null]))] H := hP
  replace hD : va_D A [(h0, .inr (6, [.int p0, .int p1, .null, .null, .null, .int 0, .int 0, .int 0, .int 0, .int 0, .ref q1, .int 0])), (q1, .inr (2, [.int 0, .int 0, .int 0, .null]))] := hD
  refine lv_aload_n hx hb dX5_init_65 rfl (lv_at hl 0 rfl) ?_
  refine lv_aload_n hx hb dX5_init_66 rfl (lv_at hl 3 rfl) ?_
  refine va_putF (D := (dC, dI)) (ci := 6) (v := .ref sr) (ty := (.object "ClaimBus$Store")) (C := RX5) (T := TX5) (N := 12) hx hb hts in_c_X5_init_X5 tyX5 tyX5_ok nmX5 hown hK hP hD hS 0 rfl rfl 2 (by decide) (hts (.fieldLink RX5 51 "ClaimBus$Row" "store" "LClaimBus$Store;") (List.mem_of_getElem? (i := 19) rfl)) (fun _ h9 => h9) rfl hin rfl (by decide +kernel) rfl rfl (Nat.le_of_ble_eq_true rfl) dX5_init_67 (fun H locs hP hD hS => ?_)
  replace hP : va_P (dC, dI) vwCl [(h0, .inr (6, [.int p0, .int p1, .ref sr, .null, .null, .int 0, .int 0, .int 0, .int 0, .int 0, .ref q1, .int 0])), (q1, .inr (2, [.int 0, .int 0, .int 0, .null]))] H := hP
  replace hD : va_D A [(h0, .inr (6, [.int p0, .int p1, .ref sr, .null, .null, .int 0, .int 0, .int 0, .int 0, .int 0, .ref q1, .int 0])), (q1, .inr (2, [.int 0, .int 0, .int 0, .null]))] := hD
  have hP9 := hP.sub (ws' := [(h0, .inr (6, [.int p0, .int p1, .ref sr, .null, .null, .int 0, .int 0, .int 0, .int 0, .int 0, .ref q1, .int 0])), (q1, .inr (2, [.int 0, .int 0, .int 0, .null]))]) [0, 1] rfl
  have hD9 := hD.sub (ws' := [(h0, .inr (6, [.int p0, .int p1, .ref sr, .null, .null, .int 0, .int 0, .int 0, .int 0, .int 0, .ref q1, .int 0])), (q1, .inr (2, [.int 0, .int 0, .int 0, .null]))]) [0, 1] (by decide +kernel) rfl
  have hK9 := hK.sub (tys' := []) [] rfl
  exact W.vret hx hb hr (fun t ht hW => ⟨⟨(), rfl, trivial, ⟨q1, by rw [ht]; exact hP9, va_K.moved hW.alike hK9, hD9⟩⟩, hS.F ht⟩) hS.2.2 dX5_init_70

noncomputable def tl_c_X4_init_0 : List Cond := wsX80 ++ (wsX40 ++ (wsX60 ++ (wsX20 ++ (wsJx4a65c0 ++ (wsX50 ++ (v_c_X8_init ++ (v_c_X6_init ++ (v_c_X2_init ++ (v_c_AL_init ++ (v_c_X5_init))))))))))
noncomputable def v_c_X4_init_0 : List Cond := .code yX4_init cX4_init 7 none :: ([.methodLink RX4 3 objectInit, .instanceMethod objectInit, .code objectInit ⟨#[0xb1]⟩ 1 none, .classLink RX4 9 RX8, .instantiable RX8 1, .initialized RX8, .methodLink RX4 11 yX8_init, .instanceMethod yX8_init, .fieldLink RX4 12 "ClaimBus$Node" "table" "LClaimBus$Table;", .classLink RX4 18 RX6, .instantiable RX6 4, .initialized RX6, .instanceMethod yX6_init, .fieldLink RX4 21 "ClaimBus$Node" "sending" "LClaimBus$Sending;", .classLink RX4 25 RX2, .instantiable RX2 4, .initialized RX2, .instanceMethod yX2_init, .fieldLink RX4 28 "ClaimBus$Node" "inbox" "LClaimBus$Inbox;", .classLink RX4 32 RX9, .fieldLink RX4 34 "ClaimBus$Node" "gets" "[LClaimBus$Transport;", .classLink RX4 38 RJx4a65c, .instantiable RJx4a65c 3, .initialized RJx4a65c, .methodLink RX4 40 yJx4a65c_init_da8c8, .instanceMethod yJx4a65c_init_da8c8, .fieldLink RX4 41 "ClaimBus$Node" "collects" "Ljava/util/ArrayList;", .arrayClass .int, .fieldLink RX4 45 "ClaimBus$Node" "troubles" "[I", .fieldLink RX4 49 "ClaimBus$Node" "troubleCount" "I", .fieldLink RX4 53 "ClaimBus$Node" "state" "I", .fieldLink RX4 56 "ClaimBus$Node" "claimCarriedAt" "I", .fieldLink RX4 59 "ClaimBus$Node" "toLose" "I", .fieldLink RX4 62 "ClaimBus$Node" "lost" "I", .fieldLink RX4 65 "ClaimBus$Node" "high" "I", .fieldLink RX4 68 "ClaimBus$Node" "low" "I", .fieldLink RX4 71 "ClaimBus$Node" "wanted" "I", .fieldLink RX4 74 "ClaimBus$Node" "free" "Z", .fieldLink RX4 78 "ClaimBus$Node" "window" "I", .fieldLink RX4 81 "ClaimBus$Node" "address" "I", .classLink RX4 84 RX5, .instantiable RX5 12, .initialized RX5, .methodLink RX4 86 yX5_init, .instanceMethod yX5_init, .fieldLink RX4 89 "ClaimBus$Node" "row" "LClaimBus$Row;"] ++ tl_c_X4_init_0)
theorem it_c_X4_init_0 : ∀ w ∈ tl_c_X4_init_0, w ∈ v_c_X4_init_0 := fun w h => List.mem_cons_of_mem _ (List.mem_append_right _ h)
theorem in_c_X4_init_0_X8 : ∀ w ∈ wsX80, w ∈ v_c_X4_init_0 := fun w h => it_c_X4_init_0 w (List.mem_append_left _ h)
theorem in_c_X4_init_0_X4 : ∀ w ∈ wsX40, w ∈ v_c_X4_init_0 := fun w h => it_c_X4_init_0 w (List.mem_append_right _ (List.mem_append_left _ h))
theorem in_c_X4_init_0_X6 : ∀ w ∈ wsX60, w ∈ v_c_X4_init_0 := fun w h => it_c_X4_init_0 w (List.mem_append_right _ (List.mem_append_right _ (List.mem_append_left _ h)))
theorem in_c_X4_init_0_X2 : ∀ w ∈ wsX20, w ∈ v_c_X4_init_0 := fun w h => it_c_X4_init_0 w (List.mem_append_right _ (List.mem_append_right _ (List.mem_append_right _ (List.mem_append_left _ h))))
theorem in_c_X4_init_0_Jx4a65c : ∀ w ∈ wsJx4a65c0, w ∈ v_c_X4_init_0 := fun w h => it_c_X4_init_0 w (List.mem_append_right _ (List.mem_append_right _ (List.mem_append_right _ (List.mem_append_right _ (List.mem_append_left _ h)))))
theorem in_c_X4_init_0_X5 : ∀ w ∈ wsX50, w ∈ v_c_X4_init_0 := fun w h => it_c_X4_init_0 w (List.mem_append_right _ (List.mem_append_right _ (List.mem_append_right _ (List.mem_append_right _ (List.mem_append_right _ (List.mem_append_left _ h))))))
theorem ic_c_X4_init_0_c_X8_init : ∀ w ∈ v_c_X8_init, w ∈ v_c_X4_init_0 := fun w h => it_c_X4_init_0 w (List.mem_append_right _ (List.mem_append_right _ (List.mem_append_right _ (List.mem_append_right _ (List.mem_append_right _ (List.mem_append_right _ (List.mem_append_left _ h)))))))
theorem ic_c_X4_init_0_c_X6_init : ∀ w ∈ v_c_X6_init, w ∈ v_c_X4_init_0 := fun w h => it_c_X4_init_0 w (List.mem_append_right _ (List.mem_append_right _ (List.mem_append_right _ (List.mem_append_right _ (List.mem_append_right _ (List.mem_append_right _ (List.mem_append_right _ (List.mem_append_left _ h))))))))
theorem ic_c_X4_init_0_c_X2_init : ∀ w ∈ v_c_X2_init, w ∈ v_c_X4_init_0 := fun w h => it_c_X4_init_0 w (List.mem_append_right _ (List.mem_append_right _ (List.mem_append_right _ (List.mem_append_right _ (List.mem_append_right _ (List.mem_append_right _ (List.mem_append_right _ (List.mem_append_right _ (List.mem_append_left _ h)))))))))
theorem ic_c_X4_init_0_c_AL_init : ∀ w ∈ v_c_AL_init, w ∈ v_c_X4_init_0 := fun w h => it_c_X4_init_0 w (List.mem_append_right _ (List.mem_append_right _ (List.mem_append_right _ (List.mem_append_right _ (List.mem_append_right _ (List.mem_append_right _ (List.mem_append_right _ (List.mem_append_right _ (List.mem_append_right _ (List.mem_append_left _ h))))))))))
theorem ic_c_X4_init_0_c_X5_init : ∀ w ∈ v_c_X5_init, w ∈ v_c_X4_init_0 := fun w h => it_c_X4_init_0 w (List.mem_append_right _ (List.mem_append_right _ (List.mem_append_right _ (List.mem_append_right _ (List.mem_append_right _ (List.mem_append_right _ (List.mem_append_right _ (List.mem_append_right _ (List.mem_append_right _ (List.mem_append_right _ (h)))))))))))
theorem gt_c_X4_init_0 : ∀ w ∈ tl_c_X4_init_0, goodWord w = true := List.forall_mem_append.mpr ⟨gw_wsX80, List.forall_mem_append.mpr ⟨gw_wsX40, List.forall_mem_append.mpr ⟨gw_wsX60, List.forall_mem_append.mpr ⟨gw_wsX20, List.forall_mem_append.mpr ⟨gw_wsJx4a65c0, List.forall_mem_append.mpr ⟨gw_wsX50, List.forall_mem_append.mpr ⟨gw_c_X8_init, List.forall_mem_append.mpr ⟨gw_c_X6_init, List.forall_mem_append.mpr ⟨gw_c_X2_init, List.forall_mem_append.mpr ⟨gw_c_AL_init, gw_c_X5_init⟩⟩⟩⟩⟩⟩⟩⟩⟩⟩
theorem gw_c_X4_init_0 : ∀ w ∈ v_c_X4_init_0, goodWord w = true := List.forall_mem_cons.mpr ⟨by decide +kernel, List.forall_mem_append.mpr ⟨List.all_eq_true.mp (by decide +kernel), gt_c_X4_init_0⟩⟩
theorem g_c_X4_init_0_c_X8_init_11 : GoodIn v_c_X4_init_0 v_c_X8_init := fun w h => ⟨ic_c_X4_init_0_c_X8_init w h, good_of_word (gw_c_X8_init w h)⟩
theorem g_c_X4_init_0_c_X6_init_20 : GoodIn v_c_X4_init_0 v_c_X6_init := fun w h => ⟨ic_c_X4_init_0_c_X6_init w h, good_of_word (gw_c_X6_init w h)⟩
theorem g_c_X4_init_0_c_X2_init_27 : GoodIn v_c_X4_init_0 v_c_X2_init := fun w h => ⟨ic_c_X4_init_0_c_X2_init w h, good_of_word (gw_c_X2_init w h)⟩
theorem g_c_X4_init_0_c_AL_init_40 : GoodIn v_c_X4_init_0 v_c_AL_init := fun w h => ⟨ic_c_X4_init_0_c_AL_init w h, good_of_word (gw_c_AL_init w h)⟩
theorem g_c_X4_init_0_c_X5_init_86 : GoodIn v_c_X4_init_0 v_c_X5_init := fun w h => ⟨ic_c_X4_init_0_c_X5_init w h, good_of_word (gw_c_X5_init w h)⟩
set_option maxHeartbeats 4000000 in
set_option maxRecDepth 100000 in
/-- Node(..) -/
theorem c_X4_init_0 (l : Launch) (dC : Nat → ClassId) (dI : Nat → Nat → Nat) (zt : Nat) (h0 : Nat) (p0 : Int32) (p1 : Int32) (p2 : Nat) (p3 : Nat) (sr : Nat) (sz : Nat)  : Met l yX4_init v_c_X4_init_0 ({ frames := 4, cells := 11, slots := 383, locals := 73 }) (va_Pc [.ref h0, .int p0, .int p1, .int (nI p2), .int 0, .int (nI p3), .ref sr] (fun U => U.heap.size = sz ∧ va_P (dC, dI) vwCl [(h0, .inr (5, [.int 0, .int 0, .int 0, .int 0, .int 0, .null, .null, .null, .null, .null, .null, .null, .int 0, .int 0, .int 0, .int 0, .int 0, .int 0]))] U.heap ∧ va_K (dC, dI) vwCl [] U ∧ va_D (fun _ => True) [(h0, .inr (5, [.int 0, .int 0, .int 0, .int 0, .int 0, .null, .null, .null, .null, .null, .null, .null, .int 0, .int 0, .int 0, .int 0, .int 0, .int 0]))] ∧ ev U ∧ va_Z "java/util/ArrayList" "DEFAULTCAPACITY_EMPTY_ELEMENTDATA" "[Ljava/lang/Object;" (.ref zt) (va_A [(h0, .inr (5, [.int 0, .int 0, .int 0, .int 0, .int 0, .null, .null, .null, .null, .null, .null, .null, .int 0, .int 0, .int 0, .int 0, .int 0, .int 0]))] sz) U U.heap ∧ va_T (.object "java/lang/Object") zt 0 (fun _ => .null) (va_A [(h0, .inr (5, [.int 0, .int 0, .int 0, .int 0, .int 0, .null, .null, .null, .null, .null, .null, .null, .int 0, .int 0, .int 0, .int 0, .int 0, .int 0]))] sz) U U.heap)) (va_Qv (fun _ : Unit => True) (fun (_ : Unit) (t : State) => ∃ (r : Nat) (nt : Nat) (ns : Nat) (ib : Nat) (gs : Nat) (cs : Nat) (nu : Nat) (rf : Nat) (ta : Nat) (lg : Nat) (lt : Nat) (cI : ClassId) (cL : ClassId) (cT : ClassId) (fT2 : Nat → Int32) (fg : Nat → Option Nat), va_P (dC, dI) vwCl [(h0, .inr (5, [.int p0, .int p1, .int (nI p2), .int 0, .int (nI p3), .ref r, .ref nt, .ref ns, .ref ib, .ref gs, .ref cs, .ref nu, .int 0, .int 0, .int (nI p2), .int (-1), .int 0, .int 0])), (r, .inr (6, [.int p0, .int p1, .ref sr, .null, .null, .int 0, .int 0, .int 0, .int 0, .int 0, .ref rf, .int 0])), (rf, .inr (2, [.int 0, .int 0, .int 0, .null])), (nt, .inr (9, [.ref ta])), (ta, .inl (cI, 8, .inl fT2)), (ns, .inr (7, [.int 0, .int 1, .int 0, .null])), (ib, .inr (3, [.int 0, .int 0, .ref lg, .ref lt])), (lg, .inl (cL, 80, .inl (fun _ => 0))), (gs, .inl (cT, 3, .inr (.inr (.inr (.inr fg))))), (cs, .inr (0, [.int 0, .ref zt, .int 0]))] t.heap ∧ va_K (dC, dI) vwCl [(cI, .int), (cL, .int), (cT, (.object RX9))] t ∧ va_D (va_A [(h0, .inr (5, [.int 0, .int 0, .int 0, .int 0, .int 0, .null, .null, .null, .null, .null, .null, .null, .int 0, .int 0, .int 0, .int 0, .int 0, .int 0]))] sz) [(h0, .inr (5, [.int p0, .int p1, .int (nI p2), .int 0, .int (nI p3), .ref r, .ref nt, .ref ns, .ref ib, .ref gs, .ref cs, .ref nu, .int 0, .int 0, .int (nI p2), .int (-1), .int 0, .int 0])), (r, .inr (6, [.int p0, .int p1, .ref sr, .null, .null, .int 0, .int 0, .int 0, .int 0, .int 0, .ref rf, .int 0])), (rf, .inr (2, [.int 0, .int 0, .int 0, .null])), (nt, .inr (9, [.ref ta])), (ta, .inl (cI, 8, .inl fT2)), (ns, .inr (7, [.int 0, .int 1, .int 0, .null])), (ib, .inr (3, [.int 0, .int 0, .ref lg, .ref lt])), (lg, .inl (cL, 80, .inl (fun _ => 0))), (gs, .inl (cT, 3, .inr (.inr (.inr (.inr fg))))), (cs, .inr (0, [.int 0, .ref zt, .int 0]))] ∧ (fT2 0 = (-1)) ∧ (fT2 1 = (-1)) ∧ (fT2 2 = (-1)) ∧ (fT2 3 = (-1)) ∧ (fT2 4 = (-1)) ∧ (fT2 5 = (-1)) ∧ (fT2 6 = (-1)) ∧ (fT2 7 = (-1)) ∧ (fg 0 = none) ∧ (fg 1 = none) ∧ (fg 2 = none)) (va_A [(h0, .inr (5, [.int 0, .int 0, .int 0, .int 0, .int 0, .null, .null, .null, .null, .null, .null, .null, .int 0, .int 0, .int 0, .int 0, .int 0, .int 0]))] sz)) 11 383 (va_A [(h0, .inr (5, [.int 0, .int 0, .int 0, .int 0, .int 0, .null, .null, .null, .null, .null, .null, .null, .int 0, .int 0, .int 0, .int 0, .int 0, .int 0]))] sz) := by
  refine Met.ofW (cc := cX4_init) (maxL := 7) (ret := none) (by decide) rfl ?_
  intro p e s m args below meth c s₁ B hml hv
  obtain ⟨rfl, hsz, hP, hK, hD0, hE, hZ, hTz⟩ := hv
  have hx := B.exec
  have hb := B.bytes
  have hr := B.returns
  have hts := atoms_spec (ws := v_c_X4_init_0) B.pre
  have hown : s.vm.findClass RX4 = some m.cls := findClass_of_methodNamed B.named
  have hlocks := B.notSynchronized
  have hin : meth.name = "<init>" := (name_of_methodNamed B.named B.method).1
  subst hsz
  have hD := hD0.self (sz := s.heap.size)
  generalize hAe : va_A [(h0, .inr (5, [.int 0, .int 0, .int 0, .int 0, .int 0, .null, .null, .null, .null, .null, .null, .null, .int 0, .int 0, .int 0, .int 0, .int 0, .int 0]))] s.heap.size = A at hD hZ hTz ⊢
  have hA : ∀ q : Nat, s.heap.size ≤ q → A q := fun q h => by rw [← hAe]; exact Or.inr h
  have hS : va_S A s.heap s.heap [] := va_S.rf
  replace hP : va_P (dC, dI) vwCl [(h0, .inr (5, [.int 0, .int 0, .int 0, .int 0, .int 0, .null, .null, .null, .null, .null, .null, .null, .int 0, .int 0, .int 0, .int 0, .int 0, .int 0]))] s.heap := hP
  have hl := lv_entry ([.ref h0, .int p0, .int p1, .int (nI p2), .int 0, .int (nI p3), .ref sr]) (n := 7) (Nat.le_of_ble_eq_true rfl)
  rw [lg_entry_eq]
  generalize (lg_sl ([.ref h0, .int p0, .int p1, .int (nI p2), .int 0, .int (nI p3), .ref sr]) ++ List.replicate (7 - (lg_sl ([.ref h0, .int p0, .int p1, .int (nI p2), .int 0, .int (nI p3), .ref sr])).length) Slot.unset).toArray = ls at hl ⊢
  replace hl : lv_has ls 7 [(0, .ref h0), (1, .int p0), (2, .int p1), (3, .int (nI p2)), (4, .int 0), (5, .int (nI p3)), (6, .ref sr)] := hl
  obtain ⟨H, hH⟩ : ∃ z : Heap, z = s.heap := ⟨_, rfl⟩
  rw [← hH]
  replace hS : va_S A s.heap H [] := by rw [hH]; exact va_S.rf
  replace hP : va_P (dC, dI) vwCl [(h0, .inr (5, [.int 0, .int 0, .int 0, .int 0, .int 0, .null, .null, .null, .null, .null, .null, .null, .int 0, .int 0, .int 0, .int 0, .int 0, .int 0]))] H := by rw [hH]; exact hP
  clear hH
  refine lv_aload_n hx hb dX4_init_0 rfl (lv_at hl 0 rfl) ?_
  refine W.objInit hx hb hown (hts (.methodLink RX4 3 objectInit) (List.mem_of_getElem? (i := 1) rfl)) (hts (.instanceMethod objectInit) (List.mem_of_getElem? (i := 2) rfl)) (hts (.code objectInit ⟨#[0xb1]⟩ 1 none) (List.mem_of_getElem? (i := 3) rfl)) rfl (by rw [hml]; exact hl.1) rfl dX4_init_1 (Nat.le_of_ble_eq_true rfl) (Nat.le_of_ble_eq_true rfl) ?_
  refine W.eq (g2 := F0 m 4 ls []) rfl ?_
  refine lv_aload_n hx hb dX4_init_4 rfl (lv_at hl 0 rfl) ?_
  refine va_new (ci := 9) (fs := [.null]) (C := RX8) (T := TX8) (N := 1) hx hb hts in_c_X4_init_0_X8 tyX8 tyX8_ok hown (hts (.classLink RX4 9 RX8) (List.mem_of_getElem? (i := 4) rfl)) (hts (.instantiable RX8 1) (List.mem_of_getElem? (i := 5) rfl)) (hts (.initialized RX8) (List.mem_of_getElem? (i := 6) rfl)) hK hP hD hS hA rfl df_X8 (Nat.le_of_ble_eq_true rfl) (Nat.le_of_ble_eq_true rfl) dX4_init_5 (fun q1 H hP hD hS => ?_)
  replace hP : va_P (dC, dI) vwCl [(h0, .inr (5, [.int 0, .int 0, .int 0, .int 0, .int 0, .null, .null, .null, .null, .null, .null, .null, .int 0, .int 0, .int 0, .int 0, .int 0, .int 0])), (q1, .inr (9, [.null]))] H := hP
  replace hD : va_D A [(h0, .inr (5, [.int 0, .int 0, .int 0, .int 0, .int 0, .null, .null, .null, .null, .null, .null, .null, .int 0, .int 0, .int 0, .int 0, .int 0, .int 0])), (q1, .inr (9, [.null]))] := hD
  refine W.widen (k := 1) (n := 1) (Nat.le_of_ble_eq_true rfl) (Nat.le_of_ble_eq_true rfl) ?_
  refine lv_dup hx hb dX4_init_8 rfl ?_
  have hPc := hP.sub (ws' := [(q1, .inr (9, [.null]))]) [1] rfl
  have hDc := hD.sub (ws' := [(q1, .inr (9, [.null]))]) [1] (by decide +kernel) rfl
  have hKc := hK.sub (tys' := []) [] rfl
  have hFc := va_free (wc := [(q1, .inr (9, [.null]))]) hD hS hA [1] rfl
  refine va_callv (va_runI (As := []) (rest := [.ref q1, .ref h0]) ⟨hx, hb, hml, hown, hts⟩ (c_X8_init l dC dI (q1) H.size) (cwI 0 hts g_c_X4_init_0_c_X8_init_11 rfl rfl rfl (hts (.initialized RX8) (List.mem_of_getElem? (i := 6) rfl)) (hts (.methodLink RX4 11 yX8_init) (List.mem_of_getElem? (i := 7) rfl)) (hts (.instanceMethod yX8_init) (List.mem_of_getElem? (i := 8) rfl)) rfl (by decide +kernel) ⟨Nat.le_of_ble_eq_true rfl, Nat.le_of_ble_eq_true rfl⟩) ⟨fun a U g mk q => by obtain ⟨q0, q1, qP, qK, qD, qE⟩ := q; exact ⟨q0, q1, qP, va_K.moved (u := U) (U := U.calling g mk a) (Vm.Alike.refl U.vm) qK, qD, ev.same (u := U) (U := U.calling g mk a) rfl qE⟩, fun U hU hW => ⟨rfl, by rw [hU], by rw [hU]; exact hPc, va_K.moved hW.alike hKc, hDc.weaken (fun _ _ _ _ => trivial), hE.warm hW⟩⟩ rfl rfl hl.1 rfl (lv_room (Nat.le_of_ble_eq_true rfl)) dX4_init_9 ⟨Nat.le_of_ble_eq_true rfl, Nat.le_of_ble_eq_true rfl⟩) hS (fun q _ h => hFc q h) hFc (fun u t H1 locs ht hvm hw hB hz1 hk1 hS => ?_)
  clear hPc hDc hKc
  obtain ⟨ta_2, cI_2, fT2_2, hP1, hK1, hD1, t0__2, t1__2, t2__2, t3__2, t4__2, t5__2, t6__2, t7__2⟩ := hB
  rw [ht] at hP1
  have hK1 := va_K.moved hvm.symm hK1
  obtain ⟨hP, hD⟩ := va_join (wr := [(h0, .inr (5, [.int 0, .int 0, .int 0, .int 0, .int 0, .null, .null, .null, .null, .null, .null, .null, .int 0, .int 0, .int 0, .int 0, .int 0, .int 0]))]) (w1 := [(q1, .inr (9, [.ref ta_2])), (ta_2, .inl (cI_2, 8, .inl fT2_2))]) hP hD [1] [0] rfl rfl (by decide +kernel) (by decide +kernel) hk1 hFc hP1 hD1
  replace hK := hK.app hK1
  replace hK : va_K (dC, dI) vwCl [(cI_2, .int)] s := hK
  generalize H1 = H at hP hS ⊢
  replace hP : va_P (dC, dI) vwCl [(h0, .inr (5, [.int 0, .int 0, .int 0, .int 0, .int 0, .null, .null, .null, .null, .null, .null, .null, .int 0, .int 0, .int 0, .int 0, .int 0, .int 0])), (q1, .inr (9, [.ref ta_2])), (ta_2, .inl (cI_2, 8, .inl fT2_2))] H := hP
  replace hD : va_D A [(h0, .inr (5, [.int 0, .int 0, .int 0, .int 0, .int 0, .null, .null, .null, .null, .null, .null, .null, .int 0, .int 0, .int 0, .int 0, .int 0, .int 0])), (q1, .inr (9, [.ref ta_2])), (ta_2, .inl (cI_2, 8, .inl fT2_2))] := hD
  refine W.widen (k := 2) (n := 9) (Nat.le_of_ble_eq_true rfl) (Nat.le_of_ble_eq_true rfl) ?_
  clear hw
  refine va_putF (D := (dC, dI)) (ci := 5) (v := .ref q1) (ty := (.object "ClaimBus$Table")) (C := RX4) (T := TX4) (N := 18) hx hb hts in_c_X4_init_0_X4 tyX4 tyX4_ok nmX4 hown hK hP hD hS 0 rfl rfl 6 (by decide) (hts (.fieldLink RX4 12 "ClaimBus$Node" "table" "LClaimBus$Table;") (List.mem_of_getElem? (i := 9) rfl)) (fun _ h9 => h9) rfl hin rfl (by decide +kernel) rfl rfl (Nat.le_of_ble_eq_true rfl) dX4_init_12 (fun H locs hP hD hS => ?_)
  replace hP : va_P (dC, dI) vwCl [(h0, .inr (5, [.int 0, .int 0, .int 0, .int 0, .int 0, .null, .ref q1, .null, .null, .null, .null, .null, .int 0, .int 0, .int 0, .int 0, .int 0, .int 0])), (q1, .inr (9, [.ref ta_2])), (ta_2, .inl (cI_2, 8, .inl fT2_2))] H := hP
  replace hD : va_D A [(h0, .inr (5, [.int 0, .int 0, .int 0, .int 0, .int 0, .null, .ref q1, .null, .null, .null, .null, .null, .int 0, .int 0, .int 0, .int 0, .int 0, .int 0])), (q1, .inr (9, [.ref ta_2])), (ta_2, .inl (cI_2, 8, .inl fT2_2))] := hD
  refine lv_aload_n hx hb dX4_init_15 rfl (lv_at hl 0 rfl) ?_
  refine va_new (ci := 7) (fs := [.int 0, .int 0, .int 0, .null]) (C := RX6) (T := TX6) (N := 4) hx hb hts in_c_X4_init_0_X6 tyX6 tyX6_ok hown (hts (.classLink RX4 18 RX6) (List.mem_of_getElem? (i := 10) rfl)) (hts (.instantiable RX6 4) (List.mem_of_getElem? (i := 11) rfl)) (hts (.initialized RX6) (List.mem_of_getElem? (i := 12) rfl)) hK hP hD hS hA rfl df_X6 (Nat.le_of_ble_eq_true rfl) (Nat.le_of_ble_eq_true rfl) dX4_init_16 (fun q3 H hP hD hS => ?_)
  replace hP : va_P (dC, dI) vwCl [(h0, .inr (5, [.int 0, .int 0, .int 0, .int 0, .int 0, .null, .ref q1, .null, .null, .null, .null, .null, .int 0, .int 0, .int 0, .int 0, .int 0, .int 0])), (q1, .inr (9, [.ref ta_2])), (ta_2, .inl (cI_2, 8, .inl fT2_2)), (q3, .inr (7, [.int 0, .int 0, .int 0, .null]))] H := hP
  replace hD : va_D A [(h0, .inr (5, [.int 0, .int 0, .int 0, .int 0, .int 0, .null, .ref q1, .null, .null, .null, .null, .null, .int 0, .int 0, .int 0, .int 0, .int 0, .int 0])), (q1, .inr (9, [.ref ta_2])), (ta_2, .inl (cI_2, 8, .inl fT2_2)), (q3, .inr (7, [.int 0, .int 0, .int 0, .null]))] := hD
  refine W.widen (k := 3) (n := 13) (Nat.le_of_ble_eq_true rfl) (Nat.le_of_ble_eq_true rfl) ?_
  refine lv_dup hx hb dX4_init_19 rfl ?_
  have hPc := hP.sub (ws' := [(q3, .inr (7, [.int 0, .int 0, .int 0, .null]))]) [3] rfl
  have hDc := hD.sub (ws' := [(q3, .inr (7, [.int 0, .int 0, .int 0, .null]))]) [3] (by decide +kernel) rfl
  have hKc := hK.sub (tys' := []) [] rfl
  have hFc := va_free (wc := [(q3, .inr (7, [.int 0, .int 0, .int 0, .null]))]) hD hS hA [3] rfl
  refine va_callv (va_runIN (As := []) (rest := [.ref q3, .ref h0]) ⟨hx, hb, hml, hown, hts⟩ (c_X6_init l dC dI (q3) H.size) ⟨va_cnB 0 hts g_c_X4_init_0_c_X6_init_20 rfl rfl rfl hE.n3 (hts (.initialized RX6) (List.mem_of_getElem? (i := 12) rfl)) (by decide +kernel) ⟨Nat.le_of_ble_eq_true rfl, Nat.le_of_ble_eq_true rfl⟩, rfl, (hts (.instanceMethod yX6_init) (List.mem_of_getElem? (i := 13) rfl))⟩ ⟨fun a U g mk q => by obtain ⟨q0, q1, qP, qK, qD, qE⟩ := q; exact ⟨q0, q1, qP, va_K.moved (u := U) (U := U.calling g mk a) (Vm.Alike.refl U.vm) qK, qD, ev.same (u := U) (U := U.calling g mk a) rfl qE⟩, fun U hU hW => ⟨rfl, by rw [hU], by rw [hU]; exact hPc, va_K.moved hW.alike hKc, hDc.weaken (fun _ _ _ _ => trivial), hE.warm hW⟩⟩ rfl rfl hl.1 rfl (lv_room (Nat.le_of_ble_eq_true rfl)) dX4_init_20 ⟨Nat.le_of_ble_eq_true rfl, Nat.le_of_ble_eq_true rfl⟩) hS (fun q _ h => hFc q h) hFc (fun u t H1 locs ht hvm hw hB hz1 hk1 hS => ?_)
  clear hPc hDc hKc
  obtain ⟨hP1, hK1, hD1⟩ := hB
  rw [ht] at hP1
  have hK1 := va_K.moved hvm.symm hK1
  obtain ⟨hP, hD⟩ := va_join (wr := [(h0, .inr (5, [.int 0, .int 0, .int 0, .int 0, .int 0, .null, .ref q1, .null, .null, .null, .null, .null, .int 0, .int 0, .int 0, .int 0, .int 0, .int 0])), (q1, .inr (9, [.ref ta_2])), (ta_2, .inl (cI_2, 8, .inl fT2_2))]) (w1 := [(q3, .inr (7, [.int 0, .int 1, .int 0, .null]))]) hP hD [3] [0, 1, 2] rfl rfl (by decide +kernel) (by decide +kernel) hk1 hFc hP1 hD1
  generalize H1 = H at hP hS ⊢
  replace hP : va_P (dC, dI) vwCl [(h0, .inr (5, [.int 0, .int 0, .int 0, .int 0, .int 0, .null, .ref q1, .null, .null, .null, .null, .null, .int 0, .int 0, .int 0, .int 0, .int 0, .int 0])), (q1, .inr (9, [.ref ta_2])), (ta_2, .inl (cI_2, 8, .inl fT2_2)), (q3, .inr (7, [.int 0, .int 1, .int 0, .null]))] H := hP
  replace hD : va_D A [(h0, .inr (5, [.int 0, .int 0, .int 0, .int 0, .int 0, .null, .ref q1, .null, .null, .null, .null, .null, .int 0, .int 0, .int 0, .int 0, .int 0, .int 0])), (q1, .inr (9, [.ref ta_2])), (ta_2, .inl (cI_2, 8, .inl fT2_2)), (q3, .inr (7, [.int 0, .int 1, .int 0, .null]))] := hD
  clear hw
  refine va_putF (D := (dC, dI)) (ci := 5) (v := .ref q3) (ty := (.object "ClaimBus$Sending")) (C := RX4) (T := TX4) (N := 18) hx hb hts in_c_X4_init_0_X4 tyX4 tyX4_ok nmX4 hown hK hP hD hS 0 rfl rfl 7 (by decide) (hts (.fieldLink RX4 21 "ClaimBus$Node" "sending" "LClaimBus$Sending;") (List.mem_of_getElem? (i := 14) rfl)) (fun _ h9 => h9) rfl hin rfl (by decide +kernel) rfl rfl (Nat.le_of_ble_eq_true rfl) dX4_init_23 (fun H locs hP hD hS => ?_)
  replace hP : va_P (dC, dI) vwCl [(h0, .inr (5, [.int 0, .int 0, .int 0, .int 0, .int 0, .null, .ref q1, .ref q3, .null, .null, .null, .null, .int 0, .int 0, .int 0, .int 0, .int 0, .int 0])), (q1, .inr (9, [.ref ta_2])), (ta_2, .inl (cI_2, 8, .inl fT2_2)), (q3, .inr (7, [.int 0, .int 1, .int 0, .null]))] H := hP
  replace hD : va_D A [(h0, .inr (5, [.int 0, .int 0, .int 0, .int 0, .int 0, .null, .ref q1, .ref q3, .null, .null, .null, .null, .int 0, .int 0, .int 0, .int 0, .int 0, .int 0])), (q1, .inr (9, [.ref ta_2])), (ta_2, .inl (cI_2, 8, .inl fT2_2)), (q3, .inr (7, [.int 0, .int 1, .int 0, .null]))] := hD
  refine lv_aload_n hx hb dX4_init_26 rfl (lv_at hl 0 rfl) ?_
  refine va_new (ci := 3) (fs := [.int 0, .int 0, .null, .null]) (C := RX2) (T := TX2) (N := 4) hx hb hts in_c_X4_init_0_X2 tyX2 tyX2_ok hown (hts (.classLink RX4 25 RX2) (List.mem_of_getElem? (i := 15) rfl)) (hts (.instantiable RX2 4) (List.mem_of_getElem? (i := 16) rfl)) (hts (.initialized RX2) (List.mem_of_getElem? (i := 17) rfl)) hK hP hD hS hA rfl df_X2 (Nat.le_of_ble_eq_true rfl) (Nat.le_of_ble_eq_true rfl) dX4_init_27 (fun q5 H hP hD hS => ?_)
  replace hP : va_P (dC, dI) vwCl [(h0, .inr (5, [.int 0, .int 0, .int 0, .int 0, .int 0, .null, .ref q1, .ref q3, .null, .null, .null, .null, .int 0, .int 0, .int 0, .int 0, .int 0, .int 0])), (q1, .inr (9, [.ref ta_2])), (ta_2, .inl (cI_2, 8, .inl fT2_2)), (q3, .inr (7, [.int 0, .int 1, .int 0, .null])), (q5, .inr (3, [.int 0, .int 0, .null, .null]))] H := hP
  replace hD : va_D A [(h0, .inr (5, [.int 0, .int 0, .int 0, .int 0, .int 0, .null, .ref q1, .ref q3, .null, .null, .null, .null, .int 0, .int 0, .int 0, .int 0, .int 0, .int 0])), (q1, .inr (9, [.ref ta_2])), (ta_2, .inl (cI_2, 8, .inl fT2_2)), (q3, .inr (7, [.int 0, .int 1, .int 0, .null])), (q5, .inr (3, [.int 0, .int 0, .null, .null]))] := hD
  refine W.widen (k := 4) (n := 17) (Nat.le_of_ble_eq_true rfl) (Nat.le_of_ble_eq_true rfl) ?_
  refine lv_dup hx hb dX4_init_30 rfl ?_
  have hPc := hP.sub (ws' := [(q5, .inr (3, [.int 0, .int 0, .null, .null]))]) [4] rfl
  have hDc := hD.sub (ws' := [(q5, .inr (3, [.int 0, .int 0, .null, .null]))]) [4] (by decide +kernel) rfl
  have hKc := hK.sub (tys' := []) [] rfl
  have hFc := va_free (wc := [(q5, .inr (3, [.int 0, .int 0, .null, .null]))]) hD hS hA [4] rfl
  refine va_callv (va_runIN (As := []) (rest := [.ref q5, .ref h0]) ⟨hx, hb, hml, hown, hts⟩ (c_X2_init l dC dI (q5) H.size) ⟨va_cnB 0 hts g_c_X4_init_0_c_X2_init_27 rfl rfl rfl hE.n4 (hts (.initialized RX2) (List.mem_of_getElem? (i := 17) rfl)) (by decide +kernel) ⟨Nat.le_of_ble_eq_true rfl, Nat.le_of_ble_eq_true rfl⟩, rfl, (hts (.instanceMethod yX2_init) (List.mem_of_getElem? (i := 18) rfl))⟩ ⟨fun a U g mk q => by obtain ⟨q0, q1, qP, qK, qD, qE⟩ := q; exact ⟨q0, q1, qP, va_K.moved (u := U) (U := U.calling g mk a) (Vm.Alike.refl U.vm) qK, qD, ev.same (u := U) (U := U.calling g mk a) rfl qE⟩, fun U hU hW => ⟨rfl, by rw [hU], by rw [hU]; exact hPc, va_K.moved hW.alike hKc, hDc.weaken (fun _ _ _ _ => trivial), hE.warm hW⟩⟩ rfl rfl hl.1 rfl (lv_room (Nat.le_of_ble_eq_true rfl)) dX4_init_31 ⟨Nat.le_of_ble_eq_true rfl, Nat.le_of_ble_eq_true rfl⟩) hS (fun q _ h => hFc q h) hFc (fun u t H1 locs ht hvm hw hB hz1 hk1 hS => ?_)
  clear hPc hDc hKc
  obtain ⟨lg_6, lt_6, cL_6, hP1, hK1, hD1⟩ := hB
  rw [ht] at hP1
  have hK1 := va_K.moved hvm.symm hK1
  obtain ⟨hP, hD⟩ := va_join (wr := [(h0, .inr (5, [.int 0, .int 0, .int 0, .int 0, .int 0, .null, .ref q1, .ref q3, .null, .null, .null, .null, .int 0, .int 0, .int 0, .int 0, .int 0, .int 0])), (q1, .inr (9, [.ref ta_2])), (ta_2, .inl (cI_2, 8, .inl fT2_2)), (q3, .inr (7, [.int 0, .int 1, .int 0, .null]))]) (w1 := [(q5, .inr (3, [.int 0, .int 0, .ref lg_6, .ref lt_6])), (lg_6, .inl (cL_6, 80, .inl (fun _ => 0)))]) hP hD [4] [0, 1, 2, 3] rfl rfl (by decide +kernel) (by decide +kernel) hk1 hFc hP1 hD1
  replace hK := hK.app hK1
  replace hK : va_K (dC, dI) vwCl [(cI_2, .int), (cL_6, .int)] s := hK
  generalize H1 = H at hP hS ⊢
  replace hP : va_P (dC, dI) vwCl [(h0, .inr (5, [.int 0, .int 0, .int 0, .int 0, .int 0, .null, .ref q1, .ref q3, .null, .null, .null, .null, .int 0, .int 0, .int 0, .int 0, .int 0, .int 0])), (q1, .inr (9, [.ref ta_2])), (ta_2, .inl (cI_2, 8, .inl fT2_2)), (q3, .inr (7, [.int 0, .int 1, .int 0, .null])), (q5, .inr (3, [.int 0, .int 0, .ref lg_6, .ref lt_6])), (lg_6, .inl (cL_6, 80, .inl (fun _ => 0)))] H := hP
  replace hD : va_D A [(h0, .inr (5, [.int 0, .int 0, .int 0, .int 0, .int 0, .null, .ref q1, .ref q3, .null, .null, .null, .null, .int 0, .int 0, .int 0, .int 0, .int 0, .int 0])), (q1, .inr (9, [.ref ta_2])), (ta_2, .inl (cI_2, 8, .inl fT2_2)), (q3, .inr (7, [.int 0, .int 1, .int 0, .null])), (q5, .inr (3, [.int 0, .int 0, .ref lg_6, .ref lt_6])), (lg_6, .inl (cL_6, 80, .inl (fun _ => 0)))] := hD
  refine W.widen (k := 6) (n := 351) (Nat.le_of_ble_eq_true rfl) (Nat.le_of_ble_eq_true rfl) ?_
  clear hw
  refine va_putF (D := (dC, dI)) (ci := 5) (v := .ref q5) (ty := (.object "ClaimBus$Inbox")) (C := RX4) (T := TX4) (N := 18) hx hb hts in_c_X4_init_0_X4 tyX4 tyX4_ok nmX4 hown hK hP hD hS 0 rfl rfl 8 (by decide) (hts (.fieldLink RX4 28 "ClaimBus$Node" "inbox" "LClaimBus$Inbox;") (List.mem_of_getElem? (i := 19) rfl)) (fun _ h9 => h9) rfl hin rfl (by decide +kernel) rfl rfl (Nat.le_of_ble_eq_true rfl) dX4_init_34 (fun H locs hP hD hS => ?_)
  replace hP : va_P (dC, dI) vwCl [(h0, .inr (5, [.int 0, .int 0, .int 0, .int 0, .int 0, .null, .ref q1, .ref q3, .ref q5, .null, .null, .null, .int 0, .int 0, .int 0, .int 0, .int 0, .int 0])), (q1, .inr (9, [.ref ta_2])), (ta_2, .inl (cI_2, 8, .inl fT2_2)), (q3, .inr (7, [.int 0, .int 1, .int 0, .null])), (q5, .inr (3, [.int 0, .int 0, .ref lg_6, .ref lt_6])), (lg_6, .inl (cL_6, 80, .inl (fun _ => 0)))] H := hP
  replace hD : va_D A [(h0, .inr (5, [.int 0, .int 0, .int 0, .int 0, .int 0, .null, .ref q1, .ref q3, .ref q5, .null, .null, .null, .int 0, .int 0, .int 0, .int 0, .int 0, .int 0])), (q1, .inr (9, [.ref ta_2])), (ta_2, .inl (cI_2, 8, .inl fT2_2)), (q3, .inr (7, [.int 0, .int 1, .int 0, .null])), (q5, .inr (3, [.int 0, .int 0, .ref lg_6, .ref lt_6])), (lg_6, .inl (cL_6, 80, .inl (fun _ => 0)))] := hD
  refine lv_aload_n hx hb dX4_init_37 rfl (lv_at hl 0 rfl) ?_
  refine lv_iconst (v := 3) hx hb dX4_init_38 (by decide) ?_
  refine va_newq (C := RX9) (N' := 3) hx hb hown (hts (.classLink RX4 32 RX9) (List.mem_of_getElem? (i := 20) rfl)) hE.AOT hK hP hD hS hA (by decide) (by decide) (Nat.le_of_ble_eq_true rfl) (Nat.le_of_ble_eq_true rfl) (Nat.le_of_ble_eq_true rfl) dX4_init_39 (fun q7 cA7 H hK hP hD hS => ?_)
  replace hK : va_K (dC, dI) vwCl [(cI_2, .int), (cL_6, .int), (cA7, (.object RX9))] s := hK
  replace hP : va_P (dC, dI) vwCl [(h0, .inr (5, [.int 0, .int 0, .int 0, .int 0, .int 0, .null, .ref q1, .ref q3, .ref q5, .null, .null, .null, .int 0, .int 0, .int 0, .int 0, .int 0, .int 0])), (q1, .inr (9, [.ref ta_2])), (ta_2, .inl (cI_2, 8, .inl fT2_2)), (q3, .inr (7, [.int 0, .int 1, .int 0, .null])), (q5, .inr (3, [.int 0, .int 0, .ref lg_6, .ref lt_6])), (lg_6, .inl (cL_6, 80, .inl (fun _ => 0))), (q7, .inl (cA7, 3, .inr (.inr (.inr (.inr (fun _ => none))))))] H := hP
  replace hD : va_D A [(h0, .inr (5, [.int 0, .int 0, .int 0, .int 0, .int 0, .null, .ref q1, .ref q3, .ref q5, .null, .null, .null, .int 0, .int 0, .int 0, .int 0, .int 0, .int 0])), (q1, .inr (9, [.ref ta_2])), (ta_2, .inl (cI_2, 8, .inl fT2_2)), (q3, .inr (7, [.int 0, .int 1, .int 0, .null])), (q5, .inr (3, [.int 0, .int 0, .ref lg_6, .ref lt_6])), (lg_6, .inl (cL_6, 80, .inl (fun _ => 0))), (q7, .inl (cA7, 3, .inr (.inr (.inr (.inr (fun _ => none))))))] := hD
  refine W.widen (k := 7) (n := 354) (Nat.le_of_ble_eq_true rfl) (Nat.le_of_ble_eq_true rfl) ?_
  refine va_putF (D := (dC, dI)) (ci := 5) (v := .ref q7) (ty := (.array (.object "ClaimBus$Transport"))) (C := RX4) (T := TX4) (N := 18) hx hb hts in_c_X4_init_0_X4 tyX4 tyX4_ok nmX4 hown hK hP hD hS 0 rfl rfl 9 (by decide) (hts (.fieldLink RX4 34 "ClaimBus$Node" "gets" "[LClaimBus$Transport;") (List.mem_of_getElem? (i := 21) rfl)) (fun _ h9 => h9) rfl hin rfl (by decide +kernel) rfl rfl (Nat.le_of_ble_eq_true rfl) dX4_init_42 (fun H locs hP hD hS => ?_)
  replace hP : va_P (dC, dI) vwCl [(h0, .inr (5, [.int 0, .int 0, .int 0, .int 0, .int 0, .null, .ref q1, .ref q3, .ref q5, .ref q7, .null, .null, .int 0, .int 0, .int 0, .int 0, .int 0, .int 0])), (q1, .inr (9, [.ref ta_2])), (ta_2, .inl (cI_2, 8, .inl fT2_2)), (q3, .inr (7, [.int 0, .int 1, .int 0, .null])), (q5, .inr (3, [.int 0, .int 0, .ref lg_6, .ref lt_6])), (lg_6, .inl (cL_6, 80, .inl (fun _ => 0))), (q7, .inl (cA7, 3, .inr (.inr (.inr (.inr (fun _ => none))))))] H := hP
  replace hD : va_D A [(h0, .inr (5, [.int 0, .int 0, .int 0, .int 0, .int 0, .null, .ref q1, .ref q3, .ref q5, .ref q7, .null, .null, .int 0, .int 0, .int 0, .int 0, .int 0, .int 0])), (q1, .inr (9, [.ref ta_2])), (ta_2, .inl (cI_2, 8, .inl fT2_2)), (q3, .inr (7, [.int 0, .int 1, .int 0, .null])), (q5, .inr (3, [.int 0, .int 0, .ref lg_6, .ref lt_6])), (lg_6, .inl (cL_6, 80, .inl (fun _ => 0))), (q7, .inl (cA7, 3, .inr (.inr (.inr (.inr (fun _ => none))))))] := hD
  refine lv_aload_n hx hb dX4_init_45 rfl (lv_at hl 0 rfl) ?_
  refine va_new (ci := 0) (fs := [.int 0, .null, .int 0]) (C := RJx4a65c) (T := TJx4a65c) (N := 3) hx hb hts in_c_X4_init_0_Jx4a65c tyJx4a65c tyJx4a65c_ok hown (hts (.classLink RX4 38 RJx4a65c) (List.mem_of_getElem? (i := 22) rfl)) (hts (.instantiable RJx4a65c 3) (List.mem_of_getElem? (i := 23) rfl)) (hts (.initialized RJx4a65c) (List.mem_of_getElem? (i := 24) rfl)) hK hP hD hS hA rfl df_Jx4a65c (Nat.le_of_ble_eq_true rfl) (Nat.le_of_ble_eq_true rfl) dX4_init_46 (fun q8 H hP hD hS => ?_)
  replace hP : va_P (dC, dI) vwCl [(h0, .inr (5, [.int 0, .int 0, .int 0, .int 0, .int 0, .null, .ref q1, .ref q3, .ref q5, .ref q7, .null, .null, .int 0, .int 0, .int 0, .int 0, .int 0, .int 0])), (q1, .inr (9, [.ref ta_2])), (ta_2, .inl (cI_2, 8, .inl fT2_2)), (q3, .inr (7, [.int 0, .int 1, .int 0, .null])), (q5, .inr (3, [.int 0, .int 0, .ref lg_6, .ref lt_6])), (lg_6, .inl (cL_6, 80, .inl (fun _ => 0))), (q7, .inl (cA7, 3, .inr (.inr (.inr (.inr (fun _ => none)))))), (q8, .inr (0, [.int 0, .null, .int 0]))] H := hP
  replace hD : va_D A [(h0, .inr (5, [.int 0, .int 0, .int 0, .int 0, .int 0, .null, .ref q1, .ref q3, .ref q5, .ref q7, .null, .null, .int 0, .int 0, .int 0, .int 0, .int 0, .int 0])), (q1, .inr (9, [.ref ta_2])), (ta_2, .inl (cI_2, 8, .inl fT2_2)), (q3, .inr (7, [.int 0, .int 1, .int 0, .null])), (q5, .inr (3, [.int 0, .int 0, .ref lg_6, .ref lt_6])), (lg_6, .inl (cL_6, 80, .inl (fun _ => 0))), (q7, .inl (cA7, 3, .inr (.inr (.inr (.inr (fun _ => none)))))), (q8, .inr (0, [.int 0, .null, .int 0]))] := hD
  refine W.widen (k := 8) (n := 357) (Nat.le_of_ble_eq_true rfl) (Nat.le_of_ble_eq_true rfl) ?_
  refine lv_dup hx hb dX4_init_49 rfl ?_
  have hPc := hP.sub (ws' := [(q8, .inr (0, [.int 0, .null, .int 0]))]) [7] rfl
  have hDc := hD.sub (ws' := [(q8, .inr (0, [.int 0, .null, .int 0]))]) [7] (by decide +kernel) rfl
  have hKc := hK.sub (tys' := []) [] rfl
  have hFc := va_free (wc := [(q8, .inr (0, [.int 0, .null, .int 0]))]) hD hS hA [7] rfl
  have hZc := (hZ.kept hS.2.1).narrow (fun q h => hFc q h)
  have hTc := (hTz.kept hS.2.1).narrow (fun q h => hFc q h)
  refine va_callv (va_runI (As := []) (rest := [.ref q8, .ref h0]) ⟨hx, hb, hml, hown, hts⟩ (c_AL_init l dC dI (zt) (q8) H.size) (cwI 0 hts g_c_X4_init_0_c_AL_init_40 rfl rfl rfl (hts (.initialized RJx4a65c) (List.mem_of_getElem? (i := 24) rfl)) (hts (.methodLink RX4 40 yJx4a65c_init_da8c8) (List.mem_of_getElem? (i := 25) rfl)) (hts (.instanceMethod yJx4a65c_init_da8c8) (List.mem_of_getElem? (i := 26) rfl)) rfl (by decide +kernel) ⟨Nat.le_of_ble_eq_true rfl, Nat.le_of_ble_eq_true rfl⟩) ⟨fun a U g mk q => by obtain ⟨q0, q1, qP, qK, qD, qE, qZ, qT⟩ := q; exact ⟨q0, q1, qP, va_K.moved (u := U) (U := U.calling g mk a) (Vm.Alike.refl U.vm) qK, qD, ev.same (u := U) (U := U.calling g mk a) rfl qE, va_Z.moved (u := U) (U := U.calling g mk a) (Vm.Alike.refl U.vm) qZ, va_T.moved (u := U) (U := U.calling g mk a) (Vm.Alike.refl U.vm) qT⟩, fun U hU hW => ⟨rfl, by rw [hU], by rw [hU]; exact hPc, va_K.moved hW.alike hKc, hDc.weaken (fun _ _ _ _ => trivial), hE.warm hW, by rw [hU]; exact hZc.moved hW.alike, by rw [hU]; exact hTc.moved hW.alike⟩⟩ rfl rfl hl.1 rfl (lv_room (Nat.le_of_ble_eq_true rfl)) dX4_init_50 ⟨Nat.le_of_ble_eq_true rfl, Nat.le_of_ble_eq_true rfl⟩) hS (fun q _ h => hFc q h) hFc (fun u t H1 locs ht hvm hw hB hz1 hk1 hS => ?_)
  clear hPc hDc hKc
  obtain ⟨hP1, hK1, hD1⟩ := hB
  rw [ht] at hP1
  have hK1 := va_K.moved hvm.symm hK1
  obtain ⟨hP, hD⟩ := va_join (wr := [(h0, .inr (5, [.int 0, .int 0, .int 0, .int 0, .int 0, .null, .ref q1, .ref q3, .ref q5, .ref q7, .null, .null, .int 0, .int 0, .int 0, .int 0, .int 0, .int 0])), (q1, .inr (9, [.ref ta_2])), (ta_2, .inl (cI_2, 8, .inl fT2_2)), (q3, .inr (7, [.int 0, .int 1, .int 0, .null])), (q5, .inr (3, [.int 0, .int 0, .ref lg_6, .ref lt_6])), (lg_6, .inl (cL_6, 80, .inl (fun _ => 0))), (q7, .inl (cA7, 3, .inr (.inr (.inr (.inr (fun _ => none))))))]) (w1 := [(q8, .inr (0, [.int 0, .ref zt, .int 0]))]) hP hD [7] [0, 1, 2, 3, 4, 5, 6] rfl rfl (by decide +kernel) (by decide +kernel) hk1 hFc hP1 hD1
  generalize H1 = H at hP hS ⊢
  replace hP : va_P (dC, dI) vwCl [(h0, .inr (5, [.int 0, .int 0, .int 0, .int 0, .int 0, .null, .ref q1, .ref q3, .ref q5, .ref q7, .null, .null, .int 0, .int 0, .int 0, .int 0, .int 0, .int 0])), (q1, .inr (9, [.ref ta_2])), (ta_2, .inl (cI_2, 8, .inl fT2_2)), (q3, .inr (7, [.int 0, .int 1, .int 0, .null])), (q5, .inr (3, [.int 0, .int 0, .ref lg_6, .ref lt_6])), (lg_6, .inl (cL_6, 80, .inl (fun _ => 0))), (q7, .inl (cA7, 3, .inr (.inr (.inr (.inr (fun _ => none)))))), (q8, .inr (0, [.int 0, .ref zt, .int 0]))] H := hP
  replace hD : va_D A [(h0, .inr (5, [.int 0, .int 0, .int 0, .int 0, .int 0, .null, .ref q1, .ref q3, .ref q5, .ref q7, .null, .null, .int 0, .int 0, .int 0, .int 0, .int 0, .int 0])), (q1, .inr (9, [.ref ta_2])), (ta_2, .inl (cI_2, 8, .inl fT2_2)), (q3, .inr (7, [.int 0, .int 1, .int 0, .null])), (q5, .inr (3, [.int 0, .int 0, .ref lg_6, .ref lt_6])), (lg_6, .inl (cL_6, 80, .inl (fun _ => 0))), (q7, .inl (cA7, 3, .inr (.inr (.inr (.inr (fun _ => none)))))), (q8, .inr (0, [.int 0, .ref zt, .int 0]))] := hD
  clear hw
  refine va_putF (D := (dC, dI)) (ci := 5) (v := .ref q8) (ty := (.object "java/util/ArrayList")) (C := RX4) (T := TX4) (N := 18) hx hb hts in_c_X4_init_0_X4 tyX4 tyX4_ok nmX4 hown hK hP hD hS 0 rfl rfl 10 (by decide) (hts (.fieldLink RX4 41 "ClaimBus$Node" "collects" "Ljava/util/ArrayList;") (List.mem_of_getElem? (i := 27) rfl)) (fun _ h9 => h9) rfl hin rfl (by decide +kernel) rfl rfl (Nat.le_of_ble_eq_true rfl) dX4_init_53 (fun H locs hP hD hS => ?_)
  replace hP : va_P (dC, dI) vwCl [(h0, .inr (5, [.int 0, .int 0, .int 0, .int 0, .int 0, .null, .ref q1, .ref q3, .ref q5, .ref q7, .ref q8, .null, .int 0, .int 0, .int 0, .int 0, .int 0, .int 0])), (q1, .inr (9, [.ref ta_2])), (ta_2, .inl (cI_2, 8, .inl fT2_2)), (q3, .inr (7, [.int 0, .int 1, .int 0, .null])), (q5, .inr (3, [.int 0, .int 0, .ref lg_6, .ref lt_6])), (lg_6, .inl (cL_6, 80, .inl (fun _ => 0))), (q7, .inl (cA7, 3, .inr (.inr (.inr (.inr (fun _ => none)))))), (q8, .inr (0, [.int 0, .ref zt, .int 0]))] H := hP
  replace hD : va_D A [(h0, .inr (5, [.int 0, .int 0, .int 0, .int 0, .int 0, .null, .ref q1, .ref q3, .ref q5, .ref q7, .ref q8, .null, .int 0, .int 0, .int 0, .int 0, .int 0, .int 0])), (q1, .inr (9, [.ref ta_2])), (ta_2, .inl (cI_2, 8, .inl fT2_2)), (q3, .inr (7, [.int 0, .int 1, .int 0, .null])), (q5, .inr (3, [.int 0, .int 0, .ref lg_6, .ref lt_6])), (lg_6, .inl (cL_6, 80, .inl (fun _ => 0))), (q7, .inl (cA7, 3, .inr (.inr (.inr (.inr (fun _ => none)))))), (q8, .inr (0, [.int 0, .ref zt, .int 0]))] := hD
  refine lv_aload_n hx hb dX4_init_56 rfl (lv_at hl 0 rfl) ?_
  refine lv_bipush (v := 10) hx hb dX4_init_57 (by decide) ?_
  refine va_newa (atype := .int) (ty := .int) (N' := 10) (a0 := (10, .inl (fun _ => 0))) hx hb (hts (.arrayClass .int) (List.mem_of_getElem? (i := 28) rfl)) rfl hK hP hD hS hA (fun _ => rfl) (by decide) (by decide) (Nat.le_of_ble_eq_true rfl) (Nat.le_of_ble_eq_true rfl) (Nat.le_of_ble_eq_true rfl) dX4_init_59 (fun q10 cA10 H hK hP hD hS => ?_)
  replace hK : va_K (dC, dI) vwCl [(cI_2, .int), (cL_6, .int), (cA7, (.object RX9)), (cA10, .int)] s := hK
  replace hP : va_P (dC, dI) vwCl [(h0, .inr (5, [.int 0, .int 0, .int 0, .int 0, .int 0, .null, .ref q1, .ref q3, .ref q5, .ref q7, .ref q8, .null, .int 0, .int 0, .int 0, .int 0, .int 0, .int 0])), (q1, .inr (9, [.ref ta_2])), (ta_2, .inl (cI_2, 8, .inl fT2_2)), (q3, .inr (7, [.int 0, .int 1, .int 0, .null])), (q5, .inr (3, [.int 0, .int 0, .ref lg_6, .ref lt_6])), (lg_6, .inl (cL_6, 80, .inl (fun _ => 0))), (q7, .inl (cA7, 3, .inr (.inr (.inr (.inr (fun _ => none)))))), (q8, .inr (0, [.int 0, .ref zt, .int 0])), (q10, .inl (cA10, 10, .inl (fun _ => 0)))] H := hP
  replace hD : va_D A [(h0, .inr (5, [.int 0, .int 0, .int 0, .int 0, .int 0, .null, .ref q1, .ref q3, .ref q5, .ref q7, .ref q8, .null, .int 0, .int 0, .int 0, .int 0, .int 0, .int 0])), (q1, .inr (9, [.ref ta_2])), (ta_2, .inl (cI_2, 8, .inl fT2_2)), (q3, .inr (7, [.int 0, .int 1, .int 0, .null])), (q5, .inr (3, [.int 0, .int 0, .ref lg_6, .ref lt_6])), (lg_6, .inl (cL_6, 80, .inl (fun _ => 0))), (q7, .inl (cA7, 3, .inr (.inr (.inr (.inr (fun _ => none)))))), (q8, .inr (0, [.int 0, .ref zt, .int 0])), (q10, .inl (cA10, 10, .inl (fun _ => 0)))] := hD
  refine W.widen (k := 9) (n := 367) (Nat.le_of_ble_eq_true rfl) (Nat.le_of_ble_eq_true rfl) ?_
  refine va_putF (D := (dC, dI)) (ci := 5) (v := .ref q10) (ty := (.array .int)) (C := RX4) (T := TX4) (N := 18) hx hb hts in_c_X4_init_0_X4 tyX4 tyX4_ok nmX4 hown hK hP hD hS 0 rfl rfl 11 (by decide) (hts (.fieldLink RX4 45 "ClaimBus$Node" "troubles" "[I") (List.mem_of_getElem? (i := 29) rfl)) (fun _ h9 => h9) rfl hin rfl (by decide +kernel) rfl rfl (Nat.le_of_ble_eq_true rfl) dX4_init_61 (fun H locs hP hD hS => ?_)
  replace hP : va_P (dC, dI) vwCl [(h0, .inr (5, [.int 0, .int 0, .int 0, .int 0, .int 0, .null, .ref q1, .ref q3, .ref q5, .ref q7, .ref q8, .ref q10, .int 0, .int 0, .int 0, .int 0, .int 0, .int 0])), (q1, .inr (9, [.ref ta_2])), (ta_2, .inl (cI_2, 8, .inl fT2_2)), (q3, .inr (7, [.int 0, .int 1, .int 0, .null])), (q5, .inr (3, [.int 0, .int 0, .ref lg_6, .ref lt_6])), (lg_6, .inl (cL_6, 80, .inl (fun _ => 0))), (q7, .inl (cA7, 3, .inr (.inr (.inr (.inr (fun _ => none)))))), (q8, .inr (0, [.int 0, .ref zt, .int 0])), (q10, .inl (cA10, 10, .inl (fun _ => 0)))] H := hP
  replace hD : va_D A [(h0, .inr (5, [.int 0, .int 0, .int 0, .int 0, .int 0, .null, .ref q1, .ref q3, .ref q5, .ref q7, .ref q8, .ref q10, .int 0, .int 0, .int 0, .int 0, .int 0, .int 0])), (q1, .inr (9, [.ref ta_2])), (ta_2, .inl (cI_2, 8, .inl fT2_2)), (q3, .inr (7, [.int 0, .int 1, .int 0, .null])), (q5, .inr (3, [.int 0, .int 0, .ref lg_6, .ref lt_6])), (lg_6, .inl (cL_6, 80, .inl (fun _ => 0))), (q7, .inl (cA7, 3, .inr (.inr (.inr (.inr (fun _ => none)))))), (q8, .inr (0, [.int 0, .ref zt, .int 0])), (q10, .inl (cA10, 10, .inl (fun _ => 0)))] := hD
  refine lv_aload_n hx hb dX4_init_64 rfl (lv_at hl 0 rfl) ?_
  refine lv_iconst (v := 0) hx hb dX4_init_65 (by decide) ?_
  refine va_put (D := (dC, dI)) (ci := 5) (v := .int 0) (ty := .int) (C := RX4) (T := TX4) (N := 18) hx hb hts in_c_X4_init_0_X4 tyX4 tyX4_ok nmX4 hown hK hP hD hS 0 rfl rfl 12 (by decide) (hts (.fieldLink RX4 49 "ClaimBus$Node" "troubleCount" "I") (List.mem_of_getElem? (i := 30) rfl)) (fun _ h9 => h9) rfl (by decide +kernel) rfl rfl (Nat.le_of_ble_eq_true rfl) dX4_init_66 (fun H locs hP hD hS => ?_)
  replace hP : va_P (dC, dI) vwCl [(h0, .inr (5, [.int 0, .int 0, .int 0, .int 0, .int 0, .null, .ref q1, .ref q3, .ref q5, .ref q7, .ref q8, .ref q10, .int 0, .int 0, .int 0, .int 0, .int 0, .int 0])), (q1, .inr (9, [.ref ta_2])), (ta_2, .inl (cI_2, 8, .inl fT2_2)), (q3, .inr (7, [.int 0, .int 1, .int 0, .null])), (q5, .inr (3, [.int 0, .int 0, .ref lg_6, .ref lt_6])), (lg_6, .inl (cL_6, 80, .inl (fun _ => 0))), (q7, .inl (cA7, 3, .inr (.inr (.inr (.inr (fun _ => none)))))), (q8, .inr (0, [.int 0, .ref zt, .int 0])), (q10, .inl (cA10, 10, .inl (fun _ => 0)))] H := hP
  replace hD : va_D A [(h0, .inr (5, [.int 0, .int 0, .int 0, .int 0, .int 0, .null, .ref q1, .ref q3, .ref q5, .ref q7, .ref q8, .ref q10, .int 0, .int 0, .int 0, .int 0, .int 0, .int 0])), (q1, .inr (9, [.ref ta_2])), (ta_2, .inl (cI_2, 8, .inl fT2_2)), (q3, .inr (7, [.int 0, .int 1, .int 0, .null])), (q5, .inr (3, [.int 0, .int 0, .ref lg_6, .ref lt_6])), (lg_6, .inl (cL_6, 80, .inl (fun _ => 0))), (q7, .inl (cA7, 3, .inr (.inr (.inr (.inr (fun _ => none)))))), (q8, .inr (0, [.int 0, .ref zt, .int 0])), (q10, .inl (cA10, 10, .inl (fun _ => 0)))] := hD
  refine lv_aload_n hx hb dX4_init_69 rfl (lv_at hl 0 rfl) ?_
  refine lv_iconst (v := 0) hx hb dX4_init_70 (by decide) ?_
  refine va_put (D := (dC, dI)) (ci := 5) (v := .int 0) (ty := .int) (C := RX4) (T := TX4) (N := 18) hx hb hts in_c_X4_init_0_X4 tyX4 tyX4_ok nmX4 hown hK hP hD hS 0 rfl rfl 13 (by decide) (hts (.fieldLink RX4 53 "ClaimBus$Node" "state" "I") (List.mem_of_getElem? (i := 31) rfl)) (fun _ h9 => h9) rfl (by decide +kernel) rfl rfl (Nat.le_of_ble_eq_true rfl) dX4_init_71 (fun H locs hP hD hS => ?_)
  replace hP : va_P (dC, dI) vwCl [(h0, .inr (5, [.int 0, .int 0, .int 0, .int 0, .int 0, .null, .ref q1, .ref q3, .ref q5, .ref q7, .ref q8, .ref q10, .int 0, .int 0, .int 0, .int 0, .int 0, .int 0])), (q1, .inr (9, [.ref ta_2])), (ta_2, .inl (cI_2, 8, .inl fT2_2)), (q3, .inr (7, [.int 0, .int 1, .int 0, .null])), (q5, .inr (3, [.int 0, .int 0, .ref lg_6, .ref lt_6])), (lg_6, .inl (cL_6, 80, .inl (fun _ => 0))), (q7, .inl (cA7, 3, .inr (.inr (.inr (.inr (fun _ => none)))))), (q8, .inr (0, [.int 0, .ref zt, .int 0])), (q10, .inl (cA10, 10, .inl (fun _ => 0)))] H := hP
  replace hD : va_D A [(h0, .inr (5, [.int 0, .int 0, .int 0, .int 0, .int 0, .null, .ref q1, .ref q3, .ref q5, .ref q7, .ref q8, .ref q10, .int 0, .int 0, .int 0, .int 0, .int 0, .int 0])), (q1, .inr (9, [.ref ta_2])), (ta_2, .inl (cI_2, 8, .inl fT2_2)), (q3, .inr (7, [.int 0, .int 1, .int 0, .null])), (q5, .inr (3, [.int 0, .int 0, .ref lg_6, .ref lt_6])), (lg_6, .inl (cL_6, 80, .inl (fun _ => 0))), (q7, .inl (cA7, 3, .inr (.inr (.inr (.inr (fun _ => none)))))), (q8, .inr (0, [.int 0, .ref zt, .int 0])), (q10, .inl (cA10, 10, .inl (fun _ => 0)))] := hD
  refine lv_aload_n hx hb dX4_init_74 rfl (lv_at hl 0 rfl) ?_
  refine lv_iconst (v := -1) hx hb dX4_init_75 (by decide) ?_
  refine va_put (D := (dC, dI)) (ci := 5) (v := .int (-1)) (ty := .int) (C := RX4) (T := TX4) (N := 18) hx hb hts in_c_X4_init_0_X4 tyX4 tyX4_ok nmX4 hown hK hP hD hS 0 rfl rfl 15 (by decide) (hts (.fieldLink RX4 56 "ClaimBus$Node" "claimCarriedAt" "I") (List.mem_of_getElem? (i := 32) rfl)) (fun _ h9 => h9) rfl (by decide +kernel) rfl rfl (Nat.le_of_ble_eq_true rfl) dX4_init_76 (fun H locs hP hD hS => ?_)
  replace hP : va_P (dC, dI) vwCl [(h0, .inr (5, [.int 0, .int 0, .int 0, .int 0, .int 0, .null, .ref q1, .ref q3, .ref q5, .ref q7, .ref q8, .ref q10, .int 0, .int 0, .int 0, .int (-1), .int 0, .int 0])), (q1, .inr (9, [.ref ta_2])), (ta_2, .inl (cI_2, 8, .inl fT2_2)), (q3, .inr (7, [.int 0, .int 1, .int 0, .null])), (q5, .inr (3, [.int 0, .int 0, .ref lg_6, .ref lt_6])), (lg_6, .inl (cL_6, 80, .inl (fun _ => 0))), (q7, .inl (cA7, 3, .inr (.inr (.inr (.inr (fun _ => none)))))), (q8, .inr (0, [.int 0, .ref zt, .int 0])), (q10, .inl (cA10, 10, .inl (fun _ => 0)))] H := hP
  replace hD : va_D A [(h0, .inr (5, [.int 0, .int 0, .int 0, .int 0, .int 0, .null, .ref q1, .ref q3, .ref q5, .ref q7, .ref q8, .ref q10, .int 0, .int 0, .int 0, .int (-1), .int 0, .int 0])), (q1, .inr (9, [.ref ta_2])), (ta_2, .inl (cI_2, 8, .inl fT2_2)), (q3, .inr (7, [.int 0, .int 1, .int 0, .null])), (q5, .inr (3, [.int 0, .int 0, .ref lg_6, .ref lt_6])), (lg_6, .inl (cL_6, 80, .inl (fun _ => 0))), (q7, .inl (cA7, 3, .inr (.inr (.inr (.inr (fun _ => none)))))), (q8, .inr (0, [.int 0, .ref zt, .int 0])), (q10, .inl (cA10, 10, .inl (fun _ => 0)))] := hD
  refine lv_aload_n hx hb dX4_init_79 rfl (lv_at hl 0 rfl) ?_
  refine lv_iconst (v := 0) hx hb dX4_init_80 (by decide) ?_
  refine va_put (D := (dC, dI)) (ci := 5) (v := .int 0) (ty := .int) (C := RX4) (T := TX4) (N := 18) hx hb hts in_c_X4_init_0_X4 tyX4 tyX4_ok nmX4 hown hK hP hD hS 0 rfl rfl 16 (by decide) (hts (.fieldLink RX4 59 "ClaimBus$Node" "toLose" "I") (List.mem_of_getElem? (i := 33) rfl)) (fun _ h9 => h9) rfl (by decide +kernel) rfl rfl (Nat.le_of_ble_eq_true rfl) dX4_init_81 (fun H locs hP hD hS => ?_)
  replace hP : va_P (dC, dI) vwCl [(h0, .inr (5, [.int 0, .int 0, .int 0, .int 0, .int 0, .null, .ref q1, .ref q3, .ref q5, .ref q7, .ref q8, .ref q10, .int 0, .int 0, .int 0, .int (-1), .int 0, .int 0])), (q1, .inr (9, [.ref ta_2])), (ta_2, .inl (cI_2, 8, .inl fT2_2)), (q3, .inr (7, [.int 0, .int 1, .int 0, .null])), (q5, .inr (3, [.int 0, .int 0, .ref lg_6, .ref lt_6])), (lg_6, .inl (cL_6, 80, .inl (fun _ => 0))), (q7, .inl (cA7, 3, .inr (.inr (.inr (.inr (fun _ => none)))))), (q8, .inr (0, [.int 0, .ref zt, .int 0])), (q10, .inl (cA10, 10, .inl (fun _ => 0)))] H := hP
  replace hD : va_D A [(h0, .inr (5, [.int 0, .int 0, .int 0, .int 0, .int 0, .null, .ref q1, .ref q3, .ref q5, .ref q7, .ref q8, .ref q10, .int 0, .int 0, .int 0, .int (-1), .int 0, .int 0])), (q1, .inr (9, [.ref ta_2])), (ta_2, .inl (cI_2, 8, .inl fT2_2)), (q3, .inr (7, [.int 0, .int 1, .int 0, .null])), (q5, .inr (3, [.int 0, .int 0, .ref lg_6, .ref lt_6])), (lg_6, .inl (cL_6, 80, .inl (fun _ => 0))), (q7, .inl (cA7, 3, .inr (.inr (.inr (.inr (fun _ => none)))))), (q8, .inr (0, [.int 0, .ref zt, .int 0])), (q10, .inl (cA10, 10, .inl (fun _ => 0)))] := hD
  refine lv_aload_n hx hb dX4_init_84 rfl (lv_at hl 0 rfl) ?_
  refine lv_iconst (v := 0) hx hb dX4_init_85 (by decide) ?_
  refine va_put (D := (dC, dI)) (ci := 5) (v := .int 0) (ty := .int) (C := RX4) (T := TX4) (N := 18) hx hb hts in_c_X4_init_0_X4 tyX4 tyX4_ok nmX4 hown hK hP hD hS 0 rfl rfl 17 (by decide) (hts (.fieldLink RX4 62 "ClaimBus$Node" "lost" "I") (List.mem_of_getElem? (i := 34) rfl)) (fun _ h9 => h9) rfl (by decide +kernel) rfl rfl (Nat.le_of_ble_eq_true rfl) dX4_init_86 (fun H locs hP hD hS => ?_)
  replace hP : va_P (dC, dI) vwCl [(h0, .inr (5, [.int 0, .int 0, .int 0, .int 0, .int 0, .null, .ref q1, .ref q3, .ref q5, .ref q7, .ref q8, .ref q10, .int 0, .int 0, .int 0, .int (-1), .int 0, .int 0])), (q1, .inr (9, [.ref ta_2])), (ta_2, .inl (cI_2, 8, .inl fT2_2)), (q3, .inr (7, [.int 0, .int 1, .int 0, .null])), (q5, .inr (3, [.int 0, .int 0, .ref lg_6, .ref lt_6])), (lg_6, .inl (cL_6, 80, .inl (fun _ => 0))), (q7, .inl (cA7, 3, .inr (.inr (.inr (.inr (fun _ => none)))))), (q8, .inr (0, [.int 0, .ref zt, .int 0])), (q10, .inl (cA10, 10, .inl (fun _ => 0)))] H := hP
  replace hD : va_D A [(h0, .inr (5, [.int 0, .int 0, .int 0, .int 0, .int 0, .null, .ref q1, .ref q3, .ref q5, .ref q7, .ref q8, .ref q10, .int 0, .int 0, .int 0, .int (-1), .int 0, .int 0])), (q1, .inr (9, [.ref ta_2])), (ta_2, .inl (cI_2, 8, .inl fT2_2)), (q3, .inr (7, [.int 0, .int 1, .int 0, .null])), (q5, .inr (3, [.int 0, .int 0, .ref lg_6, .ref lt_6])), (lg_6, .inl (cL_6, 80, .inl (fun _ => 0))), (q7, .inl (cA7, 3, .inr (.inr (.inr (.inr (fun _ => none)))))), (q8, .inr (0, [.int 0, .ref zt, .int 0])), (q10, .inl (cA10, 10, .inl (fun _ => 0)))] := hD
  refine lv_aload_n hx hb dX4_init_89 rfl (lv_at hl 0 rfl) ?_
  refine lv_iload_n hx hb dX4_init_90 rfl (lv_at hl 1 rfl) ?_
  refine va_putF (D := (dC, dI)) (ci := 5) (v := .int p0) (ty := .int) (C := RX4) (T := TX4) (N := 18) hx hb hts in_c_X4_init_0_X4 tyX4 tyX4_ok nmX4 hown hK hP hD hS 0 rfl rfl 0 (by decide) (hts (.fieldLink RX4 65 "ClaimBus$Node" "high" "I") (List.mem_of_getElem? (i := 35) rfl)) (fun _ h9 => h9) rfl hin rfl (by decide +kernel) rfl rfl (Nat.le_of_ble_eq_true rfl) dX4_init_91 (fun H locs hP hD hS => ?_)
  replace hP : va_P (dC, dI) vwCl [(h0, .inr (5, [.int p0, .int 0, .int 0, .int 0, .int 0, .null, .ref q1, .ref q3, .ref q5, .ref q7, .ref q8, .ref q10, .int 0, .int 0, .int 0, .int (-1), .int 0, .int 0])), (q1, .inr (9, [.ref ta_2])), (ta_2, .inl (cI_2, 8, .inl fT2_2)), (q3, .inr (7, [.int 0, .int 1, .int 0, .null])), (q5, .inr (3, [.int 0, .int 0, .ref lg_6, .ref lt_6])), (lg_6, .inl (cL_6, 80, .inl (fun _ => 0))), (q7, .inl (cA7, 3, .inr (.inr (.inr (.inr (fun _ => none)))))), (q8, .inr (0, [.int 0, .ref zt, .int 0])), (q10, .inl (cA10, 10, .inl (fun _ => 0)))] H := hP
  replace hD : va_D A [(h0, .inr (5, [.int p0, .int 0, .int 0, .int 0, .int 0, .null, .ref q1, .ref q3, .ref q5, .ref q7, .ref q8, .ref q10, .int 0, .int 0, .int 0, .int (-1), .int 0, .int 0])), (q1, .inr (9, [.ref ta_2])), (ta_2, .inl (cI_2, 8, .inl fT2_2)), (q3, .inr (7, [.int 0, .int 1, .int 0, .null])), (q5, .inr (3, [.int 0, .int 0, .ref lg_6, .ref lt_6])), (lg_6, .inl (cL_6, 80, .inl (fun _ => 0))), (q7, .inl (cA7, 3, .inr (.inr (.inr (.inr (fun _ => none)))))), (q8, .inr (0, [.int 0, .ref zt, .int 0])), (q10, .inl (cA10, 10, .inl (fun _ => 0)))] := hD
  refine lv_aload_n hx hb dX4_init_94 rfl (lv_at hl 0 rfl) ?_
  refine lv_iload_n hx hb dX4_init_95 rfl (lv_at hl 2 rfl) ?_
  refine va_putF (D := (dC, dI)) (ci := 5) (v := .int p1) (ty := .int) (C := RX4) (T := TX4) (N := 18) hx hb hts in_c_X4_init_0_X4 tyX4 tyX4_ok nmX4 hown hK hP hD hS 0 rfl rfl 1 (by decide) (hts (.fieldLink RX4 68 "ClaimBus$Node" "low" "I") (List.mem_of_getElem? (i := 36) rfl)) (fun _ h9 => h9) rfl hin rfl (by decide +kernel) rfl rfl (Nat.le_of_ble_eq_true rfl) dX4_init_96 (fun H locs hP hD hS => ?_)
  replace hP : va_P (dC, dI) vwCl [(h0, .inr (5, [.int p0, .int p1, .int 0, .int 0, .int 0, .null, .ref q1, .ref q3, .ref q5, .ref q7, .ref q8, .ref q10, .int 0, .int 0, .int 0, .int (-1), .int 0, .int 0])), (q1, .inr (9, [.ref ta_2])), (ta_2, .inl (cI_2, 8, .inl fT2_2)), (q3, .inr (7, [.int 0, .int 1, .int 0, .null])), (q5, .inr (3, [.int 0, .int 0, .ref lg_6, .ref lt_6])), (lg_6, .inl (cL_6, 80, .inl (fun _ => 0))), (q7, .inl (cA7, 3, .inr (.inr (.inr (.inr (fun _ => none)))))), (q8, .inr (0, [.int 0, .ref zt, .int 0])), (q10, .inl (cA10, 10, .inl (fun _ => 0)))] H := hP
  replace hD : va_D A [(h0, .inr (5, [.int p0, .int p1, .int 0, .int 0, .int 0, .null, .ref q1, .ref q3, .ref q5, .ref q7, .ref q8, .ref q10, .int 0, .int 0, .int 0, .int (-1), .int 0, .int 0])), (q1, .inr (9, [.ref ta_2])), (ta_2, .inl (cI_2, 8, .inl fT2_2)), (q3, .inr (7, [.int 0, .int 1, .int 0, .null])), (q5, .inr (3, [.int 0, .int 0, .ref lg_6, .ref lt_6])), (lg_6, .inl (cL_6, 80, .inl (fun _ => 0))), (q7, .inl (cA7, 3, .inr (.inr (.inr (.inr (fun _ => none)))))), (q8, .inr (0, [.int 0, .ref zt, .int 0])), (q10, .inl (cA10, 10, .inl (fun _ => 0)))] := hD
  refine lv_aload_n hx hb dX4_init_99 rfl (lv_at hl 0 rfl) ?_
  refine lv_iload_n hx hb dX4_init_100 rfl (lv_at hl 3 rfl) ?_
  refine va_putF (D := (dC, dI)) (ci := 5) (v := .int (nI p2)) (ty := .int) (C := RX4) (T := TX4) (N := 18) hx hb hts in_c_X4_init_0_X4 tyX4 tyX4_ok nmX4 hown hK hP hD hS 0 rfl rfl 2 (by decide) (hts (.fieldLink RX4 71 "ClaimBus$Node" "wanted" "I") (List.mem_of_getElem? (i := 37) rfl)) (fun _ h9 => h9) rfl hin rfl (by decide +kernel) rfl rfl (Nat.le_of_ble_eq_true rfl) dX4_init_101 (fun H locs hP hD hS => ?_)
  replace hP : va_P (dC, dI) vwCl [(h0, .inr (5, [.int p0, .int p1, .int (nI p2), .int 0, .int 0, .null, .ref q1, .ref q3, .ref q5, .ref q7, .ref q8, .ref q10, .int 0, .int 0, .int 0, .int (-1), .int 0, .int 0])), (q1, .inr (9, [.ref ta_2])), (ta_2, .inl (cI_2, 8, .inl fT2_2)), (q3, .inr (7, [.int 0, .int 1, .int 0, .null])), (q5, .inr (3, [.int 0, .int 0, .ref lg_6, .ref lt_6])), (lg_6, .inl (cL_6, 80, .inl (fun _ => 0))), (q7, .inl (cA7, 3, .inr (.inr (.inr (.inr (fun _ => none)))))), (q8, .inr (0, [.int 0, .ref zt, .int 0])), (q10, .inl (cA10, 10, .inl (fun _ => 0)))] H := hP
  replace hD : va_D A [(h0, .inr (5, [.int p0, .int p1, .int (nI p2), .int 0, .int 0, .null, .ref q1, .ref q3, .ref q5, .ref q7, .ref q8, .ref q10, .int 0, .int 0, .int 0, .int (-1), .int 0, .int 0])), (q1, .inr (9, [.ref ta_2])), (ta_2, .inl (cI_2, 8, .inl fT2_2)), (q3, .inr (7, [.int 0, .int 1, .int 0, .null])), (q5, .inr (3, [.int 0, .int 0, .ref lg_6, .ref lt_6])), (lg_6, .inl (cL_6, 80, .inl (fun _ => 0))), (q7, .inl (cA7, 3, .inr (.inr (.inr (.inr (fun _ => none)))))), (q8, .inr (0, [.int 0, .ref zt, .int 0])), (q10, .inl (cA10, 10, .inl (fun _ => 0)))] := hD
  refine lv_aload_n hx hb dX4_init_104 rfl (lv_at hl 0 rfl) ?_
  refine lv_iload hx hb dX4_init_105 (lv_at hl 4 rfl) ?_
  refine va_putF (D := (dC, dI)) (ci := 5) (v := .int 0) (ty := .boolean) (C := RX4) (T := TX4) (N := 18) hx hb hts in_c_X4_init_0_X4 tyX4 tyX4_ok nmX4 hown hK hP hD hS 0 rfl rfl 3 (by decide) (hts (.fieldLink RX4 74 "ClaimBus$Node" "free" "Z") (List.mem_of_getElem? (i := 38) rfl)) (fun _ h9 => h9) rfl hin rfl (by decide +kernel) rfl rfl (Nat.le_of_ble_eq_true rfl) dX4_init_107 (fun H locs hP hD hS => ?_)
  replace hP : va_P (dC, dI) vwCl [(h0, .inr (5, [.int p0, .int p1, .int (nI p2), .int 0, .int 0, .null, .ref q1, .ref q3, .ref q5, .ref q7, .ref q8, .ref q10, .int 0, .int 0, .int 0, .int (-1), .int 0, .int 0])), (q1, .inr (9, [.ref ta_2])), (ta_2, .inl (cI_2, 8, .inl fT2_2)), (q3, .inr (7, [.int 0, .int 1, .int 0, .null])), (q5, .inr (3, [.int 0, .int 0, .ref lg_6, .ref lt_6])), (lg_6, .inl (cL_6, 80, .inl (fun _ => 0))), (q7, .inl (cA7, 3, .inr (.inr (.inr (.inr (fun _ => none)))))), (q8, .inr (0, [.int 0, .ref zt, .int 0])), (q10, .inl (cA10, 10, .inl (fun _ => 0)))] H := hP
  replace hD : va_D A [(h0, .inr (5, [.int p0, .int p1, .int (nI p2), .int 0, .int 0, .null, .ref q1, .ref q3, .ref q5, .ref q7, .ref q8, .ref q10, .int 0, .int 0, .int 0, .int (-1), .int 0, .int 0])), (q1, .inr (9, [.ref ta_2])), (ta_2, .inl (cI_2, 8, .inl fT2_2)), (q3, .inr (7, [.int 0, .int 1, .int 0, .null])), (q5, .inr (3, [.int 0, .int 0, .ref lg_6, .ref lt_6])), (lg_6, .inl (cL_6, 80, .inl (fun _ => 0))), (q7, .inl (cA7, 3, .inr (.inr (.inr (.inr (fun _ => none)))))), (q8, .inr (0, [.int 0, .ref zt, .int 0])), (q10, .inl (cA10, 10, .inl (fun _ => 0)))] := hD
  refine lv_aload_n hx hb dX4_init_110 rfl (lv_at hl 0 rfl) ?_
  refine lv_iload hx hb dX4_init_111 (lv_at hl 5 rfl) ?_
  refine va_putF (D := (dC, dI)) (ci := 5) (v := .int (nI p3)) (ty := .int) (C := RX4) (T := TX4) (N := 18) hx hb hts in_c_X4_init_0_X4 tyX4 tyX4_ok nmX4 hown hK hP hD hS 0 rfl rfl 4 (by decide) (hts (.fieldLink RX4 78 "ClaimBus$Node" "window" "I") (List.mem_of_getElem? (i := 39) rfl)) (fun _ h9 => h9) rfl hin rfl (by decide +kernel) rfl rfl (Nat.le_of_ble_eq_true rfl) dX4_init_113 (fun H locs hP hD hS => ?_)
  replace hP : va_P (dC, dI) vwCl [(h0, .inr (5, [.int p0, .int p1, .int (nI p2), .int 0, .int (nI p3), .null, .ref q1, .ref q3, .ref q5, .ref q7, .ref q8, .ref q10, .int 0, .int 0, .int 0, .int (-1), .int 0, .int 0])), (q1, .inr (9, [.ref ta_2])), (ta_2, .inl (cI_2, 8, .inl fT2_2)), (q3, .inr (7, [.int 0, .int 1, .int 0, .null])), (q5, .inr (3, [.int 0, .int 0, .ref lg_6, .ref lt_6])), (lg_6, .inl (cL_6, 80, .inl (fun _ => 0))), (q7, .inl (cA7, 3, .inr (.inr (.inr (.inr (fun _ => none)))))), (q8, .inr (0, [.int 0, .ref zt, .int 0])), (q10, .inl (cA10, 10, .inl (fun _ => 0)))] H := hP
  replace hD : va_D A [(h0, .inr (5, [.int p0, .int p1, .int (nI p2), .int 0, .int (nI p3), .null, .ref q1, .ref q3, .ref q5, .ref q7, .ref q8, .ref q10, .int 0, .int 0, .int 0, .int (-1), .int 0, .int 0])), (q1, .inr (9, [.ref ta_2])), (ta_2, .inl (cI_2, 8, .inl fT2_2)), (q3, .inr (7, [.int 0, .int 1, .int 0, .null])), (q5, .inr (3, [.int 0, .int 0, .ref lg_6, .ref lt_6])), (lg_6, .inl (cL_6, 80, .inl (fun _ => 0))), (q7, .inl (cA7, 3, .inr (.inr (.inr (.inr (fun _ => none)))))), (q8, .inr (0, [.int 0, .ref zt, .int 0])), (q10, .inl (cA10, 10, .inl (fun _ => 0)))] := hD
  refine lv_aload_n hx hb dX4_init_116 rfl (lv_at hl 0 rfl) ?_
  refine lv_iload_n hx hb dX4_init_117 rfl (lv_at hl 3 rfl) ?_
  refine va_put (D := (dC, dI)) (ci := 5) (v := .int (nI p2)) (ty := .int) (C := RX4) (T := TX4) (N := 18) hx hb hts in_c_X4_init_0_X4 tyX4 tyX4_ok nmX4 hown hK hP hD hS 0 rfl rfl 14 (by decide) (hts (.fieldLink RX4 81 "ClaimBus$Node" "address" "I") (List.mem_of_getElem? (i := 40) rfl)) (fun _ h9 => h9) rfl (by decide +kernel) rfl rfl (Nat.le_of_ble_eq_true rfl) dX4_init_118 (fun H locs hP hD hS => ?_)
  replace hP : va_P (dC, dI) vwCl [(h0, .inr (5, [.int p0, .int p1, .int (nI p2), .int 0, .int (nI p3), .null, .ref q1, .ref q3, .ref q5, .ref q7, .ref q8, .ref q10, .int 0, .int 0, .int (nI p2), .int (-1), .int 0, .int 0])), (q1, .inr (9, [.ref ta_2])), (ta_2, .inl (cI_2, 8, .inl fT2_2)), (q3, .inr (7, [.int 0, .int 1, .int 0, .null])), (q5, .inr (3, [.int 0, .int 0, .ref lg_6, .ref lt_6])), (lg_6, .inl (cL_6, 80, .inl (fun _ => 0))), (q7, .inl (cA7, 3, .inr (.inr (.inr (.inr (fun _ => none)))))), (q8, .inr (0, [.int 0, .ref zt, .int 0])), (q10, .inl (cA10, 10, .inl (fun _ => 0)))] H := hP
  replace hD : va_D A [(h0, .inr (5, [.int p0, .int p1, .int (nI p2), .int 0, .int (nI p3), .null, .ref q1, .ref q3, .ref q5, .ref q7, .ref q8, .ref q10, .int 0, .int 0, .int (nI p2), .int (-1), .int 0, .int 0])), (q1, .inr (9, [.ref ta_2])), (ta_2, .inl (cI_2, 8, .inl fT2_2)), (q3, .inr (7, [.int 0, .int 1, .int 0, .null])), (q5, .inr (3, [.int 0, .int 0, .ref lg_6, .ref lt_6])), (lg_6, .inl (cL_6, 80, .inl (fun _ => 0))), (q7, .inl (cA7, 3, .inr (.inr (.inr (.inr (fun _ => none)))))), (q8, .inr (0, [.int 0, .ref zt, .int 0])), (q10, .inl (cA10, 10, .inl (fun _ => 0)))] := hD
  refine lv_aload_n hx hb dX4_init_121 rfl (lv_at hl 0 rfl) ?_
  refine va_new (ci := 6) (fs := [.int 0, .int 0, .null, .null, .null, .int 0, .int 0, .int 0, .int 0, .int 0, .null, .int 0]) (C := RX5) (T := TX5) (N := 12) hx hb hts in_c_X4_init_0_X5 tyX5 tyX5_ok hown (hts (.classLink RX4 84 RX5) (List.mem_of_getElem? (i := 41) rfl)) (hts (.instantiable RX5 12) (List.mem_of_getElem? (i := 42) rfl)) (hts (.initialized RX5) (List.mem_of_getElem? (i := 43) rfl)) hK hP hD hS hA rfl df_X5 (Nat.le_of_ble_eq_true rfl) (Nat.le_of_ble_eq_true rfl) dX4_init_122 (fun q11 H hP hD hS => ?_)
  replace hP : va_P (dC, dI) vwCl [(h0, .inr (5, [.int p0, .int p1, .int (nI p2), .int 0, .int (nI p3), .null, .ref q1, .ref q3, .ref q5, .ref q7, .ref q8, .ref q10, .int 0, .int 0, .int (nI p2), .int (-1), .int 0, .int 0])), (q1, .inr (9, [.ref ta_2])), (ta_2, .inl (cI_2, 8, .inl fT2_2)), (q3, .inr (7, [.int 0, .int 1, .int 0, .null])), (q5, .inr (3, [.int 0, .int 0, .ref lg_6, .ref lt_6])), (lg_6, .inl (cL_6, 80, .inl (fun _ => 0))), (q7, .inl (cA7, 3, .inr (.inr (.inr (.inr (fun _ => none)))))), (q8, .inr (0, [.int 0, .ref zt, .int 0])), (q10, .inl (cA10, 10, .inl (fun _ => 0))), (q11, .inr (6, [.int 0, .int 0, .null, .null, .null, .int 0, .int 0, .int 0, .int 0, .int 0, .null, .int 0]))] H := hP
  replace hD : va_D A [(h0, .inr (5, [.int p0, .int p1, .int (nI p2), .int 0, .int (nI p3), .null, .ref q1, .ref q3, .ref q5, .ref q7, .ref q8, .ref q10, .int 0, .int 0, .int (nI p2), .int (-1), .int 0, .int 0])), (q1, .inr (9, [.ref ta_2])), (ta_2, .inl (cI_2, 8, .inl fT2_2)), (q3, .inr (7, [.int 0, .int 1, .int 0, .null])), (q5, .inr (3, [.int 0, .int 0, .ref lg_6, .ref lt_6])), (lg_6, .inl (cL_6, 80, .inl (fun _ => 0))), (q7, .inl (cA7, 3, .inr (.inr (.inr (.inr (fun _ => none)))))), (q8, .inr (0, [.int 0, .ref zt, .int 0])), (q10, .inl (cA10, 10, .inl (fun _ => 0))), (q11, .inr (6, [.int 0, .int 0, .null, .null, .null, .int 0, .int 0, .int 0, .int 0, .int 0, .null, .int 0]))] := hD
  refine W.widen (k := 10) (n := 379) (Nat.le_of_ble_eq_true rfl) (Nat.le_of_ble_eq_true rfl) ?_
  refine lv_dup hx hb dX4_init_125 rfl ?_
  refine lv_iload_n hx hb dX4_init_126 rfl (lv_at hl 1 rfl) ?_
  refine lv_iload_n hx hb dX4_init_127 rfl (lv_at hl 2 rfl) ?_
  refine lv_aload hx hb dX4_init_128 (lv_at hl 6 rfl) ?_
  have hPc := hP.sub (ws' := [(q11, .inr (6, [.int 0, .int 0, .null, .null, .null, .int 0, .int 0, .int 0, .int 0, .int 0, .null, .int 0]))]) [9] rfl
  have hDc := hD.sub (ws' := [(q11, .inr (6, [.int 0, .int 0, .null, .null, .null, .int 0, .int 0, .int 0, .int 0, .int 0, .null, .int 0]))]) [9] (by decide +kernel) rfl
  have hKc := hK.sub (tys' := []) [] rfl
  have hFc := va_free (wc := [(q11, .inr (6, [.int 0, .int 0, .null, .null, .null, .int 0, .int 0, .int 0, .int 0, .int 0, .null, .int 0]))]) hD hS hA [9] rfl
  refine va_callv (va_runI (As := [.int p0, .int p1, .ref sr]) (rest := [.ref q11, .ref h0]) ⟨hx, hb, hml, hown, hts⟩ (c_X5_init l dC dI (q11) (p0) (p1) (sr) H.size) (cwI 3 hts g_c_X4_init_0_c_X5_init_86 rfl rfl rfl (hts (.initialized RX5) (List.mem_of_getElem? (i := 43) rfl)) (hts (.methodLink RX4 86 yX5_init) (List.mem_of_getElem? (i := 44) rfl)) (hts (.instanceMethod yX5_init) (List.mem_of_getElem? (i := 45) rfl)) rfl (by decide +kernel) ⟨Nat.le_of_ble_eq_true rfl, Nat.le_of_ble_eq_true rfl⟩) ⟨fun a U g mk q => by obtain ⟨q0, q1, qP, qK, qD, qE⟩ := q; exact ⟨q0, q1, qP, va_K.moved (u := U) (U := U.calling g mk a) (Vm.Alike.refl U.vm) qK, qD, ev.same (u := U) (U := U.calling g mk a) rfl qE⟩, fun U hU hW => ⟨rfl, by rw [hU], by rw [hU]; exact hPc, va_K.moved hW.alike hKc, hDc.weaken (fun _ _ _ _ => trivial), hE.warm hW⟩⟩ rfl rfl hl.1 rfl (lv_room (Nat.le_of_ble_eq_true rfl)) dX4_init_130 ⟨Nat.le_of_ble_eq_true rfl, Nat.le_of_ble_eq_true rfl⟩) hS (fun q _ h => hFc q h) hFc (fun u t H1 locs ht hvm hw hB hz1 hk1 hS => ?_)
  clear hPc hDc hKc
  obtain ⟨rf_12, hP1, hK1, hD1⟩ := hB
  rw [ht] at hP1
  have hK1 := va_K.moved hvm.symm hK1
  obtain ⟨hP, hD⟩ := va_join (wr := [(h0, .inr (5, [.int p0, .int p1, .int (nI p2), .int 0, .int (nI p3), .null, .ref q1, .ref q3, .ref q5, .ref q7, .ref q8, .ref q10, .int 0, .int 0, .int (nI p2), .int (-1), .int 0, .int 0])), (q1, .inr (9, [.ref ta_2])), (ta_2, .inl (cI_2, 8, .inl fT2_2)), (q3, .inr (7, [.int 0, .int 1, .int 0, .null])), (q5, .inr (3, [.int 0, .int 0, .ref lg_6, .ref lt_6])), (lg_6, .inl (cL_6, 80, .inl (fun _ => 0))), (q7, .inl (cA7, 3, .inr (.inr (.inr (.inr (fun _ => none)))))), (q8, .inr (0, [.int 0, .ref zt, .int 0])), (q10, .inl (cA10, 10, .inl (fun _ => 0)))]) (w1 := [(q11, .inr (6, [.int p0, .int p1, .ref sr, .null, .null, .int 0, .int 0, .int 0, .int 0, .int 0, .ref rf_12, .int 0])), (rf_12, .inr (2, [.int 0, .int 0, .int 0, .null]))]) hP hD [9] [0, 1, 2, 3, 4, 5, 6, 7, 8] rfl rfl (by decide +kernel) (by decide +kernel) hk1 hFc hP1 hD1
  generalize H1 = H at hP hS ⊢
  replace hP : va_P (dC, dI) vwCl [(h0, .inr (5, [.int p0, .int p1, .int (nI p2), .int 0, .int (nI p3), .null, .ref q1, .ref q3, .ref q5, .ref q7, .ref q8, .ref q10, .int 0, .int 0, .int (nI p2), .int (-1), .int 0, .int 0])), (q1, .inr (9, [.ref ta_2])), (ta_2, .inl (cI_2, 8, .inl fT2_2)), (q3, .inr (7, [.int 0, .int 1, .int 0, .null])), (q5, .inr (3, [.int 0, .int 0, .ref lg_6, .ref lt_6])), (lg_6, .inl (cL_6, 80, .inl (fun _ => 0))), (q7, .inl (cA7, 3, .inr (.inr (.inr (.inr (fun _ => none)))))), (q8, .inr (0, [.int 0, .ref zt, .int 0])), (q10, .inl (cA10, 10, .inl (fun _ => 0))), (q11, .inr (6, [.int p0, .int p1, .ref sr, .null, .null, .int 0, .int 0, .int 0, .int 0, .int 0, .ref rf_12, .int 0])), (rf_12, .inr (2, [.int 0, .int 0, .int 0, .null]))] H := hP
  replace hD : va_D A [(h0, .inr (5, [.int p0, .int p1, .int (nI p2), .int 0, .int (nI p3), .null, .ref q1, .ref q3, .ref q5, .ref q7, .ref q8, .ref q10, .int 0, .int 0, .int (nI p2), .int (-1), .int 0, .int 0])), (q1, .inr (9, [.ref ta_2])), (ta_2, .inl (cI_2, 8, .inl fT2_2)), (q3, .inr (7, [.int 0, .int 1, .int 0, .null])), (q5, .inr (3, [.int 0, .int 0, .ref lg_6, .ref lt_6])), (lg_6, .inl (cL_6, 80, .inl (fun _ => 0))), (q7, .inl (cA7, 3, .inr (.inr (.inr (.inr (fun _ => none)))))), (q8, .inr (0, [.int 0, .ref zt, .int 0])), (q10, .inl (cA10, 10, .inl (fun _ => 0))), (q11, .inr (6, [.int p0, .int p1, .ref sr, .null, .null, .int 0, .int 0, .int 0, .int 0, .int 0, .ref rf_12, .int 0])), (rf_12, .inr (2, [.int 0, .int 0, .int 0, .null]))] := hD
  refine W.widen (k := 11) (n := 383) (Nat.le_of_ble_eq_true rfl) (Nat.le_of_ble_eq_true rfl) ?_
  clear hw
  refine va_putF (D := (dC, dI)) (ci := 5) (v := .ref q11) (ty := (.object "ClaimBus$Row")) (C := RX4) (T := TX4) (N := 18) hx hb hts in_c_X4_init_0_X4 tyX4 tyX4_ok nmX4 hown hK hP hD hS 0 rfl rfl 5 (by decide) (hts (.fieldLink RX4 89 "ClaimBus$Node" "row" "LClaimBus$Row;") (List.mem_of_getElem? (i := 46) rfl)) (fun _ h9 => h9) rfl hin rfl (by decide +kernel) rfl rfl (Nat.le_of_ble_eq_true rfl) dX4_init_133 (fun H locs hP hD hS => ?_)
  replace hP : va_P (dC, dI) vwCl [(h0, .inr (5, [.int p0, .int p1, .int (nI p2), .int 0, .int (nI p3), .ref q11, .ref q1, .ref q3, .ref q5, .ref q7, .ref q8, .ref q10, .int 0, .int 0, .int (nI p2), .int (-1), .int 0, .int 0])), (q1, .inr (9, [.ref ta_2])), (ta_2, .inl (cI_2, 8, .inl fT2_2)), (q3, .inr (7, [.int 0, .int 1, .int 0, .null])), (q5, .inr (3, [.int 0, .int 0, .ref lg_6, .ref lt_6])), (lg_6, .inl (cL_6, 80, .inl (fun _ => 0))), (q7, .inl (cA7, 3, .inr (.inr (.inr (.inr (fun _ => none)))))), (q8, .inr (0, [.int 0, .ref zt, .int 0])), (q10, .inl (cA10, 10, .inl (fun _ => 0))), (q11, .inr (6, [.int p0, .int p1, .ref sr, .null, .null, .int 0, .int 0, .int 0, .int 0, .int 0, .ref rf_12, .int 0])), (rf_12, .inr (2, [.int 0, .int 0, .int 0, .null]))] H := hP
  replace hD : va_D A [(h0, .inr (5, [.int p0, .int p1, .int (nI p2), .int 0, .int (nI p3), .ref q11, .ref q1, .ref q3, .ref q5, .ref q7, .ref q8, .ref q10, .int 0, .int 0, .int (nI p2), .int (-1), .int 0, .int 0])), (q1, .inr (9, [.ref ta_2])), (ta_2, .inl (cI_2, 8, .inl fT2_2)), (q3, .inr (7, [.int 0, .int 1, .int 0, .null])), (q5, .inr (3, [.int 0, .int 0, .ref lg_6, .ref lt_6])), (lg_6, .inl (cL_6, 80, .inl (fun _ => 0))), (q7, .inl (cA7, 3, .inr (.inr (.inr (.inr (fun _ => none)))))), (q8, .inr (0, [.int 0, .ref zt, .int 0])), (q10, .inl (cA10, 10, .inl (fun _ => 0))), (q11, .inr (6, [.int p0, .int p1, .ref sr, .null, .null, .int 0, .int 0, .int 0, .int 0, .int 0, .ref rf_12, .int 0])), (rf_12, .inr (2, [.int 0, .int 0, .int 0, .null]))] := hD
  have hP9 := hP.sub (ws' := [(h0, .inr (5, [.int p0, .int p1, .int (nI p2), .int 0, .int (nI p3), .ref q11, .ref q1, .ref q3, .ref q5, .ref q7, .ref q8, .ref q10, .int 0, .int 0, .int (nI p2), .int (-1), .int 0, .int 0])), (q11, .inr (6, [.int p0, .int p1, .ref sr, .null, .null, .int 0, .int 0, .int 0, .int 0, .int 0, .ref rf_12, .int 0])), (rf_12, .inr (2, [.int 0, .int 0, .int 0, .null])), (q1, .inr (9, [.ref ta_2])), (ta_2, .inl (cI_2, 8, .inl fT2_2)), (q3, .inr (7, [.int 0, .int 1, .int 0, .null])), (q5, .inr (3, [.int 0, .int 0, .ref lg_6, .ref lt_6])), (lg_6, .inl (cL_6, 80, .inl (fun _ => 0))), (q7, .inl (cA7, 3, .inr (.inr (.inr (.inr (fun _ => none)))))), (q8, .inr (0, [.int 0, .ref zt, .int 0]))]) [0, 9, 10, 1, 2, 3, 4, 5, 6, 7] rfl
  have hD9 := hD.sub (ws' := [(h0, .inr (5, [.int p0, .int p1, .int (nI p2), .int 0, .int (nI p3), .ref q11, .ref q1, .ref q3, .ref q5, .ref q7, .ref q8, .ref q10, .int 0, .int 0, .int (nI p2), .int (-1), .int 0, .int 0])), (q11, .inr (6, [.int p0, .int p1, .ref sr, .null, .null, .int 0, .int 0, .int 0, .int 0, .int 0, .ref rf_12, .int 0])), (rf_12, .inr (2, [.int 0, .int 0, .int 0, .null])), (q1, .inr (9, [.ref ta_2])), (ta_2, .inl (cI_2, 8, .inl fT2_2)), (q3, .inr (7, [.int 0, .int 1, .int 0, .null])), (q5, .inr (3, [.int 0, .int 0, .ref lg_6, .ref lt_6])), (lg_6, .inl (cL_6, 80, .inl (fun _ => 0))), (q7, .inl (cA7, 3, .inr (.inr (.inr (.inr (fun _ => none)))))), (q8, .inr (0, [.int 0, .ref zt, .int 0]))]) [0, 9, 10, 1, 2, 3, 4, 5, 6, 7] (by decide +kernel) rfl
  have hK9 := hK.sub (tys' := [(cI_2, .int), (cL_6, .int), (cA7, (.object RX9))]) [0, 1, 2] rfl
  exact W.vret hx hb hr (fun t ht hW => ⟨⟨(), rfl, trivial, ⟨q11, q1, q3, q5, q7, q8, q10, rf_12, ta_2, lg_6, lt_6, cI_2, cL_6, cA7, fT2_2, (fun _ => none), by rw [ht]; exact hP9, va_K.moved hW.alike hK9, hD9, t0__2, t1__2, t2__2, t3__2, t4__2, t5__2, t6__2, t7__2, rfl, rfl, rfl⟩⟩, hS.F ht⟩) hS.2.2 dX4_init_136

noncomputable def tl_c_X4_init_1 : List Cond := wsX80 ++ (wsX40 ++ (wsX60 ++ (wsX20 ++ (wsJx4a65c0 ++ (wsX50 ++ (v_c_X8_init ++ (v_c_X6_init ++ (v_c_X2_init ++ (v_c_AL_init ++ (v_c_X5_init))))))))))
noncomputable def v_c_X4_init_1 : List Cond := .code yX4_init cX4_init 7 none :: ([.methodLink RX4 3 objectInit, .instanceMethod objectInit, .code objectInit ⟨#[0xb1]⟩ 1 none, .classLink RX4 9 RX8, .instantiable RX8 1, .initialized RX8, .methodLink RX4 11 yX8_init, .instanceMethod yX8_init, .fieldLink RX4 12 "ClaimBus$Node" "table" "LClaimBus$Table;", .classLink RX4 18 RX6, .instantiable RX6 4, .initialized RX6, .instanceMethod yX6_init, .fieldLink RX4 21 "ClaimBus$Node" "sending" "LClaimBus$Sending;", .classLink RX4 25 RX2, .instantiable RX2 4, .initialized RX2, .instanceMethod yX2_init, .fieldLink RX4 28 "ClaimBus$Node" "inbox" "LClaimBus$Inbox;", .classLink RX4 32 RX9, .fieldLink RX4 34 "ClaimBus$Node" "gets" "[LClaimBus$Transport;", .classLink RX4 38 RJx4a65c, .instantiable RJx4a65c 3, .initialized RJx4a65c, .methodLink RX4 40 yJx4a65c_init_da8c8, .instanceMethod yJx4a65c_init_da8c8, .fieldLink RX4 41 "ClaimBus$Node" "collects" "Ljava/util/ArrayList;", .arrayClass .int, .fieldLink RX4 45 "ClaimBus$Node" "troubles" "[I", .fieldLink RX4 49 "ClaimBus$Node" "troubleCount" "I", .fieldLink RX4 53 "ClaimBus$Node" "state" "I", .fieldLink RX4 56 "ClaimBus$Node" "claimCarriedAt" "I", .fieldLink RX4 59 "ClaimBus$Node" "toLose" "I", .fieldLink RX4 62 "ClaimBus$Node" "lost" "I", .fieldLink RX4 65 "ClaimBus$Node" "high" "I", .fieldLink RX4 68 "ClaimBus$Node" "low" "I", .fieldLink RX4 71 "ClaimBus$Node" "wanted" "I", .fieldLink RX4 74 "ClaimBus$Node" "free" "Z", .fieldLink RX4 78 "ClaimBus$Node" "window" "I", .fieldLink RX4 81 "ClaimBus$Node" "address" "I", .classLink RX4 84 RX5, .instantiable RX5 12, .initialized RX5, .methodLink RX4 86 yX5_init, .instanceMethod yX5_init, .fieldLink RX4 89 "ClaimBus$Node" "row" "LClaimBus$Row;"] ++ tl_c_X4_init_1)
theorem it_c_X4_init_1 : ∀ w ∈ tl_c_X4_init_1, w ∈ v_c_X4_init_1 := fun w h => List.mem_cons_of_mem _ (List.mem_append_right _ h)
theorem in_c_X4_init_1_X8 : ∀ w ∈ wsX80, w ∈ v_c_X4_init_1 := fun w h => it_c_X4_init_1 w (List.mem_append_left _ h)
theorem in_c_X4_init_1_X4 : ∀ w ∈ wsX40, w ∈ v_c_X4_init_1 := fun w h => it_c_X4_init_1 w (List.mem_append_right _ (List.mem_append_left _ h))
theorem in_c_X4_init_1_X6 : ∀ w ∈ wsX60, w ∈ v_c_X4_init_1 := fun w h => it_c_X4_init_1 w (List.mem_append_right _ (List.mem_append_right _ (List.mem_append_left _ h)))
theorem in_c_X4_init_1_X2 : ∀ w ∈ wsX20, w ∈ v_c_X4_init_1 := fun w h => it_c_X4_init_1 w (List.mem_append_right _ (List.mem_append_right _ (List.mem_append_right _ (List.mem_append_left _ h))))
theorem in_c_X4_init_1_Jx4a65c : ∀ w ∈ wsJx4a65c0, w ∈ v_c_X4_init_1 := fun w h => it_c_X4_init_1 w (List.mem_append_right _ (List.mem_append_right _ (List.mem_append_right _ (List.mem_append_right _ (List.mem_append_left _ h)))))
theorem in_c_X4_init_1_X5 : ∀ w ∈ wsX50, w ∈ v_c_X4_init_1 := fun w h => it_c_X4_init_1 w (List.mem_append_right _ (List.mem_append_right _ (List.mem_append_right _ (List.mem_append_right _ (List.mem_append_right _ (List.mem_append_left _ h))))))
theorem ic_c_X4_init_1_c_X8_init : ∀ w ∈ v_c_X8_init, w ∈ v_c_X4_init_1 := fun w h => it_c_X4_init_1 w (List.mem_append_right _ (List.mem_append_right _ (List.mem_append_right _ (List.mem_append_right _ (List.mem_append_right _ (List.mem_append_right _ (List.mem_append_left _ h)))))))
theorem ic_c_X4_init_1_c_X6_init : ∀ w ∈ v_c_X6_init, w ∈ v_c_X4_init_1 := fun w h => it_c_X4_init_1 w (List.mem_append_right _ (List.mem_append_right _ (List.mem_append_right _ (List.mem_append_right _ (List.mem_append_right _ (List.mem_append_right _ (List.mem_append_right _ (List.mem_append_left _ h))))))))
theorem ic_c_X4_init_1_c_X2_init : ∀ w ∈ v_c_X2_init, w ∈ v_c_X4_init_1 := fun w h => it_c_X4_init_1 w (List.mem_append_right _ (List.mem_append_right _ (List.mem_append_right _ (List.mem_append_right _ (List.mem_append_right _ (List.mem_append_right _ (List.mem_append_right _ (List.mem_append_right _ (List.mem_append_left _ h)))))))))
theorem ic_c_X4_init_1_c_AL_init : ∀ w ∈ v_c_AL_init, w ∈ v_c_X4_init_1 := fun w h => it_c_X4_init_1 w (List.mem_append_right _ (List.mem_append_right _ (List.mem_append_right _ (List.mem_append_right _ (List.mem_append_right _ (List.mem_append_right _ (List.mem_append_right _ (List.mem_append_right _ (List.mem_append_right _ (List.mem_append_left _ h))))))))))
theorem ic_c_X4_init_1_c_X5_init : ∀ w ∈ v_c_X5_init, w ∈ v_c_X4_init_1 := fun w h => it_c_X4_init_1 w (List.mem_append_right _ (List.mem_append_right _ (List.mem_append_right _ (List.mem_append_right _ (List.mem_append_right _ (List.mem_append_right _ (List.mem_append_right _ (List.mem_append_right _ (List.mem_append_right _ (List.mem_append_right _ (h)))))))))))
theorem gt_c_X4_init_1 : ∀ w ∈ tl_c_X4_init_1, goodWord w = true := List.forall_mem_append.mpr ⟨gw_wsX80, List.forall_mem_append.mpr ⟨gw_wsX40, List.forall_mem_append.mpr ⟨gw_wsX60, List.forall_mem_append.mpr ⟨gw_wsX20, List.forall_mem_append.mpr ⟨gw_wsJx4a65c0, List.forall_mem_append.mpr ⟨gw_wsX50, List.forall_mem_append.mpr ⟨gw_c_X8_init, List.forall_mem_append.mpr ⟨gw_c_X6_init, List.forall_mem_append.mpr ⟨gw_c_X2_init, List.forall_mem_append.mpr ⟨gw_c_AL_init, gw_c_X5_init⟩⟩⟩⟩⟩⟩⟩⟩⟩⟩
theorem gw_c_X4_init_1 : ∀ w ∈ v_c_X4_init_1, goodWord w = true := List.forall_mem_cons.mpr ⟨by decide +kernel, List.forall_mem_append.mpr ⟨List.all_eq_true.mp (by decide +kernel), gt_c_X4_init_1⟩⟩
theorem g_c_X4_init_1_c_X8_init_11 : GoodIn v_c_X4_init_1 v_c_X8_init := fun w h => ⟨ic_c_X4_init_1_c_X8_init w h, good_of_word (gw_c_X8_init w h)⟩
theorem g_c_X4_init_1_c_X6_init_20 : GoodIn v_c_X4_init_1 v_c_X6_init := fun w h => ⟨ic_c_X4_init_1_c_X6_init w h, good_of_word (gw_c_X6_init w h)⟩
theorem g_c_X4_init_1_c_X2_init_27 : GoodIn v_c_X4_init_1 v_c_X2_init := fun w h => ⟨ic_c_X4_init_1_c_X2_init w h, good_of_word (gw_c_X2_init w h)⟩
theorem g_c_X4_init_1_c_AL_init_40 : GoodIn v_c_X4_init_1 v_c_AL_init := fun w h => ⟨ic_c_X4_init_1_c_AL_init w h, good_of_word (gw_c_AL_init w h)⟩
theorem g_c_X4_init_1_c_X5_init_86 : GoodIn v_c_X4_init_1 v_c_X5_init := fun w h => ⟨ic_c_X4_init_1_c_X5_init w h, good_of_word (gw_c_X5_init w h)⟩
set_option maxHeartbeats 4000000 in
set_option maxRecDepth 100000 in
/-- Node(..) -/
theorem c_X4_init_1 (l : Launch) (dC : Nat → ClassId) (dI : Nat → Nat → Nat) (zt : Nat) (h0 : Nat) (p0 : Int32) (p1 : Int32) (p2 : Nat) (p3 : Nat) (sr : Nat) (sz : Nat)  : Met l yX4_init v_c_X4_init_1 ({ frames := 4, cells := 11, slots := 383, locals := 73 }) (va_Pc [.ref h0, .int p0, .int p1, .int (nI p2), .int 1, .int (nI p3), .ref sr] (fun U => U.heap.size = sz ∧ va_P (dC, dI) vwCl [(h0, .inr (5, [.int 0, .int 0, .int 0, .int 0, .int 0, .null, .null, .null, .null, .null, .null, .null, .int 0, .int 0, .int 0, .int 0, .int 0, .int 0]))] U.heap ∧ va_K (dC, dI) vwCl [] U ∧ va_D (fun _ => True) [(h0, .inr (5, [.int 0, .int 0, .int 0, .int 0, .int 0, .null, .null, .null, .null, .null, .null, .null, .int 0, .int 0, .int 0, .int 0, .int 0, .int 0]))] ∧ ev U ∧ va_Z "java/util/ArrayList" "DEFAULTCAPACITY_EMPTY_ELEMENTDATA" "[Ljava/lang/Object;" (.ref zt) (va_A [(h0, .inr (5, [.int 0, .int 0, .int 0, .int 0, .int 0, .null, .null, .null, .null, .null, .null, .null, .int 0, .int 0, .int 0, .int 0, .int 0, .int 0]))] sz) U U.heap ∧ va_T (.object "java/lang/Object") zt 0 (fun _ => .null) (va_A [(h0, .inr (5, [.int 0, .int 0, .int 0, .int 0, .int 0, .null, .null, .null, .null, .null, .null, .null, .int 0, .int 0, .int 0, .int 0, .int 0, .int 0]))] sz) U U.heap)) (va_Qv (fun _ : Unit => True) (fun (_ : Unit) (t : State) => ∃ (r : Nat) (nt : Nat) (ns : Nat) (ib : Nat) (gs : Nat) (cs : Nat) (nu : Nat) (rf : Nat) (ta : Nat) (lg : Nat) (lt : Nat) (cI : ClassId) (cL : ClassId) (cT : ClassId) (fT2 : Nat → Int32) (fg : Nat → Option Nat), va_P (dC, dI) vwCl [(h0, .inr (5, [.int p0, .int p1, .int (nI p2), .int 1, .int (nI p3), .ref r, .ref nt, .ref ns, .ref ib, .ref gs, .ref cs, .ref nu, .int 0, .int 0, .int (nI p2), .int (-1), .int 0, .int 0])), (r, .inr (6, [.int p0, .int p1, .ref sr, .null, .null, .int 0, .int 0, .int 0, .int 0, .int 0, .ref rf, .int 0])), (rf, .inr (2, [.int 0, .int 0, .int 0, .null])), (nt, .inr (9, [.ref ta])), (ta, .inl (cI, 8, .inl fT2)), (ns, .inr (7, [.int 0, .int 1, .int 0, .null])), (ib, .inr (3, [.int 0, .int 0, .ref lg, .ref lt])), (lg, .inl (cL, 80, .inl (fun _ => 0))), (gs, .inl (cT, 3, .inr (.inr (.inr (.inr fg))))), (cs, .inr (0, [.int 0, .ref zt, .int 0]))] t.heap ∧ va_K (dC, dI) vwCl [(cI, .int), (cL, .int), (cT, (.object RX9))] t ∧ va_D (va_A [(h0, .inr (5, [.int 0, .int 0, .int 0, .int 0, .int 0, .null, .null, .null, .null, .null, .null, .null, .int 0, .int 0, .int 0, .int 0, .int 0, .int 0]))] sz) [(h0, .inr (5, [.int p0, .int p1, .int (nI p2), .int 1, .int (nI p3), .ref r, .ref nt, .ref ns, .ref ib, .ref gs, .ref cs, .ref nu, .int 0, .int 0, .int (nI p2), .int (-1), .int 0, .int 0])), (r, .inr (6, [.int p0, .int p1, .ref sr, .null, .null, .int 0, .int 0, .int 0, .int 0, .int 0, .ref rf, .int 0])), (rf, .inr (2, [.int 0, .int 0, .int 0, .null])), (nt, .inr (9, [.ref ta])), (ta, .inl (cI, 8, .inl fT2)), (ns, .inr (7, [.int 0, .int 1, .int 0, .null])), (ib, .inr (3, [.int 0, .int 0, .ref lg, .ref lt])), (lg, .inl (cL, 80, .inl (fun _ => 0))), (gs, .inl (cT, 3, .inr (.inr (.inr (.inr fg))))), (cs, .inr (0, [.int 0, .ref zt, .int 0]))] ∧ (fT2 0 = (-1)) ∧ (fT2 1 = (-1)) ∧ (fT2 2 = (-1)) ∧ (fT2 3 = (-1)) ∧ (fT2 4 = (-1)) ∧ (fT2 5 = (-1)) ∧ (fT2 6 = (-1)) ∧ (fT2 7 = (-1)) ∧ (fg 0 = none) ∧ (fg 1 = none) ∧ (fg 2 = none)) (va_A [(h0, .inr (5, [.int 0, .int 0, .int 0, .int 0, .int 0, .null, .null, .null, .null, .null, .null, .null, .int 0, .int 0, .int 0, .int 0, .int 0, .int 0]))] sz)) 11 383 (va_A [(h0, .inr (5, [.int 0, .int 0, .int 0, .int 0, .int 0, .null, .null, .null, .null, .null, .null, .null, .int 0, .int 0, .int 0, .int 0, .int 0, .int 0]))] sz) := by
  refine Met.ofW (cc := cX4_init) (maxL := 7) (ret := none) (by decide) rfl ?_
  intro p e s m args below meth c s₁ B hml hv
  obtain ⟨rfl, hsz, hP, hK, hD0, hE, hZ, hTz⟩ := hv
  have hx := B.exec
  have hb := B.bytes
  have hr := B.returns
  have hts := atoms_spec (ws := v_c_X4_init_1) B.pre
  have hown : s.vm.findClass RX4 = some m.cls := findClass_of_methodNamed B.named
  have hlocks := B.notSynchronized
  have hin : meth.name = "<init>" := (name_of_methodNamed B.named B.method).1
  subst hsz
  have hD := hD0.self (sz := s.heap.size)
  generalize hAe : va_A [(h0, .inr (5, [.int 0, .int 0, .int 0, .int 0, .int 0, .null, .null, .null, .null, .null, .null, .null, .int 0, .int 0, .int 0, .int 0, .int 0, .int 0]))] s.heap.size = A at hD hZ hTz ⊢
  have hA : ∀ q : Nat, s.heap.size ≤ q → A q := fun q h => by rw [← hAe]; exact Or.inr h
  have hS : va_S A s.heap s.heap [] := va_S.rf
  replace hP : va_P (dC, dI) vwCl [(h0, .inr (5, [.int 0, .int 0, .int 0, .int 0, .int 0, .null, .null, .null, .null, .null, .null, .null, .int 0, .int 0, .int 0, .int 0, .int 0, .int 0]))] s.heap := hP
  have hl := lv_entry ([.ref h0, .int p0, .int p1, .int (nI p2), .int 1, .int (nI p3), .ref sr]) (n := 7) (Nat.le_of_ble_eq_true rfl)
  rw [lg_entry_eq]
  generalize (lg_sl ([.ref h0, .int p0, .int p1, .int (nI p2), .int 1, .int (nI p3), .ref sr]) ++ List.replicate (7 - (lg_sl ([.ref h0, .int p0, .int p1, .int (nI p2), .int 1, .int (nI p3), .ref sr])).length) Slot.unset).toArray = ls at hl ⊢
  replace hl : lv_has ls 7 [(0, .ref h0), (1, .int p0), (2, .int p1), (3, .int (nI p2)), (4, .int 1), (5, .int (nI p3)), (6, .ref sr)] := hl
  obtain ⟨H, hH⟩ : ∃ z : Heap, z = s.heap := ⟨_, rfl⟩
  rw [← hH]
  replace hS : va_S A s.heap H [] := by rw [hH]; exact va_S.rf
  replace hP : va_P (dC, dI) vwCl [(h0, .inr (5, [.int 0, .int 0, .int 0, .int 0, .int 0, .null, .null, .null, .null, .null, .null, .null, .int 0, .int 0, .int 0, .int 0, .int 0, .int 0]))] H := by rw [hH]; exact hP
  clear hH
  refine lv_aload_n hx hb dX4_init_0 rfl (lv_at hl 0 rfl) ?_
  refine W.objInit hx hb hown (hts (.methodLink RX4 3 objectInit) (List.mem_of_getElem? (i := 1) rfl)) (hts (.instanceMethod objectInit) (List.mem_of_getElem? (i := 2) rfl)) (hts (.code objectInit ⟨#[0xb1]⟩ 1 none) (List.mem_of_getElem? (i := 3) rfl)) rfl (by rw [hml]; exact hl.1) rfl dX4_init_1 (Nat.le_of_ble_eq_true rfl) (Nat.le_of_ble_eq_true rfl) ?_
  refine W.eq (g2 := F0 m 4 ls []) rfl ?_
  refine lv_aload_n hx hb dX4_init_4 rfl (lv_at hl 0 rfl) ?_
  refine va_new (ci := 9) (fs := [.null]) (C := RX8) (T := TX8) (N := 1) hx hb hts in_c_X4_init_1_X8 tyX8 tyX8_ok hown (hts (.classLink RX4 9 RX8) (List.mem_of_getElem? (i := 4) rfl)) (hts (.instantiable RX8 1) (List.mem_of_getElem? (i := 5) rfl)) (hts (.initialized RX8) (List.mem_of_getElem? (i := 6) rfl)) hK hP hD hS hA rfl df_X8 (Nat.le_of_ble_eq_true rfl) (Nat.le_of_ble_eq_true rfl) dX4_init_5 (fun q1 H hP hD hS => ?_)
  replace hP : va_P (dC, dI) vwCl [(h0, .inr (5, [.int 0, .int 0, .int 0, .int 0, .int 0, .null, .null, .null, .null, .null, .null, .null, .int 0, .int 0, .int 0, .int 0, .int 0, .int 0])), (q1, .inr (9, [.null]))] H := hP
  replace hD : va_D A [(h0, .inr (5, [.int 0, .int 0, .int 0, .int 0, .int 0, .null, .null, .null, .null, .null, .null, .null, .int 0, .int 0, .int 0, .int 0, .int 0, .int 0])), (q1, .inr (9, [.null]))] := hD
  refine W.widen (k := 1) (n := 1) (Nat.le_of_ble_eq_true rfl) (Nat.le_of_ble_eq_true rfl) ?_
  refine lv_dup hx hb dX4_init_8 rfl ?_
  have hPc := hP.sub (ws' := [(q1, .inr (9, [.null]))]) [1] rfl
  have hDc := hD.sub (ws' := [(q1, .inr (9, [.null]))]) [1] (by decide +kernel) rfl
  have hKc := hK.sub (tys' := []) [] rfl
  have hFc := va_free (wc := [(q1, .inr (9, [.null]))]) hD hS hA [1] rfl
  refine va_callv (va_runI (As := []) (rest := [.ref q1, .ref h0]) ⟨hx, hb, hml, hown, hts⟩ (c_X8_init l dC dI (q1) H.size) (cwI 0 hts g_c_X4_init_1_c_X8_init_11 rfl rfl rfl (hts (.initialized RX8) (List.mem_of_getElem? (i := 6) rfl)) (hts (.methodLink RX4 11 yX8_init) (List.mem_of_getElem? (i := 7) rfl)) (hts (.instanceMethod yX8_init) (List.mem_of_getElem? (i := 8) rfl)) rfl (by decide +kernel) ⟨Nat.le_of_ble_eq_true rfl, Nat.le_of_ble_eq_true rfl⟩) ⟨fun a U g mk q => by obtain ⟨q0, q1, qP, qK, qD, qE⟩ := q; exact ⟨q0, q1, qP, va_K.moved (u := U) (U := U.calling g mk a) (Vm.Alike.refl U.vm) qK, qD, ev.same (u := U) (U := U.calling g mk a) rfl qE⟩, fun U hU hW => ⟨rfl, by rw [hU], by rw [hU]; exact hPc, va_K.moved hW.alike hKc, hDc.weaken (fun _ _ _ _ => trivial), hE.warm hW⟩⟩ rfl rfl hl.1 rfl (lv_room (Nat.le_of_ble_eq_true rfl)) dX4_init_9 ⟨Nat.le_of_ble_eq_true rfl, Nat.le_of_ble_eq_true rfl⟩) hS (fun q _ h => hFc q h) hFc (fun u t H1 locs ht hvm hw hB hz1 hk1 hS => ?_)
  clear hPc hDc hKc
  obtain ⟨ta_2, cI_2, fT2_2, hP1, hK1, hD1, t0__2, t1__2, t2__2, t3__2, t4__2, t5__2, t6__2, t7__2⟩ := hB
  rw [ht] at hP1
  have hK1 := va_K.moved hvm.symm hK1
  obtain ⟨hP, hD⟩ := va_join (wr := [(h0, .inr (5, [.int 0, .int 0, .int 0, .int 0, .int 0, .null, .null, .null, .null, .null, .null, .null, .int 0, .int 0, .int 0, .int 0, .int 0, .int 0]))]) (w1 := [(q1, .inr (9, [.ref ta_2])), (ta_2, .inl (cI_2, 8, .inl fT2_2))]) hP hD [1] [0] rfl rfl (by decide +kernel) (by decide +kernel) hk1 hFc hP1 hD1
  replace hK := hK.app hK1
  replace hK : va_K (dC, dI) vwCl [(cI_2, .int)] s := hK
  generalize H1 = H at hP hS ⊢
  replace hP : va_P (dC, dI) vwCl [(h0, .inr (5, [.int 0, .int 0, .int 0, .int 0, .int 0, .null, .null, .null, .null, .null, .null, .null, .int 0, .int 0, .int 0, .int 0, .int 0, .int 0])), (q1, .inr (9, [.ref ta_2])), (ta_2, .inl (cI_2, 8, .inl fT2_2))] H := hP
  replace hD : va_D A [(h0, .inr (5, [.int 0, .int 0, .int 0, .int 0, .int 0, .null, .null, .null, .null, .null, .null, .null, .int 0, .int 0, .int 0, .int 0, .int 0, .int 0])), (q1, .inr (9, [.ref ta_2])), (ta_2, .inl (cI_2, 8, .inl fT2_2))] := hD
  refine W.widen (k := 2) (n := 9) (Nat.le_of_ble_eq_true rfl) (Nat.le_of_ble_eq_true rfl) ?_
  clear hw
  refine va_putF (D := (dC, dI)) (ci := 5) (v := .ref q1) (ty := (.object "ClaimBus$Table")) (C := RX4) (T := TX4) (N := 18) hx hb hts in_c_X4_init_1_X4 tyX4 tyX4_ok nmX4 hown hK hP hD hS 0 rfl rfl 6 (by decide) (hts (.fieldLink RX4 12 "ClaimBus$Node" "table" "LClaimBus$Table;") (List.mem_of_getElem? (i := 9) rfl)) (fun _ h9 => h9) rfl hin rfl (by decide +kernel) rfl rfl (Nat.le_of_ble_eq_true rfl) dX4_init_12 (fun H locs hP hD hS => ?_)
  replace hP : va_P (dC, dI) vwCl [(h0, .inr (5, [.int 0, .int 0, .int 0, .int 0, .int 0, .null, .ref q1, .null, .null, .null, .null, .null, .int 0, .int 0, .int 0, .int 0, .int 0, .int 0])), (q1, .inr (9, [.ref ta_2])), (ta_2, .inl (cI_2, 8, .inl fT2_2))] H := hP
  replace hD : va_D A [(h0, .inr (5, [.int 0, .int 0, .int 0, .int 0, .int 0, .null, .ref q1, .null, .null, .null, .null, .null, .int 0, .int 0, .int 0, .int 0, .int 0, .int 0])), (q1, .inr (9, [.ref ta_2])), (ta_2, .inl (cI_2, 8, .inl fT2_2))] := hD
  refine lv_aload_n hx hb dX4_init_15 rfl (lv_at hl 0 rfl) ?_
  refine va_new (ci := 7) (fs := [.int 0, .int 0, .int 0, .null]) (C := RX6) (T := TX6) (N := 4) hx hb hts in_c_X4_init_1_X6 tyX6 tyX6_ok hown (hts (.classLink RX4 18 RX6) (List.mem_of_getElem? (i := 10) rfl)) (hts (.instantiable RX6 4) (List.mem_of_getElem? (i := 11) rfl)) (hts (.initialized RX6) (List.mem_of_getElem? (i := 12) rfl)) hK hP hD hS hA rfl df_X6 (Nat.le_of_ble_eq_true rfl) (Nat.le_of_ble_eq_true rfl) dX4_init_16 (fun q3 H hP hD hS => ?_)
  replace hP : va_P (dC, dI) vwCl [(h0, .inr (5, [.int 0, .int 0, .int 0, .int 0, .int 0, .null, .ref q1, .null, .null, .null, .null, .null, .int 0, .int 0, .int 0, .int 0, .int 0, .int 0])), (q1, .inr (9, [.ref ta_2])), (ta_2, .inl (cI_2, 8, .inl fT2_2)), (q3, .inr (7, [.int 0, .int 0, .int 0, .null]))] H := hP
  replace hD : va_D A [(h0, .inr (5, [.int 0, .int 0, .int 0, .int 0, .int 0, .null, .ref q1, .null, .null, .null, .null, .null, .int 0, .int 0, .int 0, .int 0, .int 0, .int 0])), (q1, .inr (9, [.ref ta_2])), (ta_2, .inl (cI_2, 8, .inl fT2_2)), (q3, .inr (7, [.int 0, .int 0, .int 0, .null]))] := hD
  refine W.widen (k := 3) (n := 13) (Nat.le_of_ble_eq_true rfl) (Nat.le_of_ble_eq_true rfl) ?_
  refine lv_dup hx hb dX4_init_19 rfl ?_
  have hPc := hP.sub (ws' := [(q3, .inr (7, [.int 0, .int 0, .int 0, .null]))]) [3] rfl
  have hDc := hD.sub (ws' := [(q3, .inr (7, [.int 0, .int 0, .int 0, .null]))]) [3] (by decide +kernel) rfl
  have hKc := hK.sub (tys' := []) [] rfl
  have hFc := va_free (wc := [(q3, .inr (7, [.int 0, .int 0, .int 0, .null]))]) hD hS hA [3] rfl
  refine va_callv (va_runIN (As := []) (rest := [.ref q3, .ref h0]) ⟨hx, hb, hml, hown, hts⟩ (c_X6_init l dC dI (q3) H.size) ⟨va_cnB 0 hts g_c_X4_init_1_c_X6_init_20 rfl rfl rfl hE.n3 (hts (.initialized RX6) (List.mem_of_getElem? (i := 12) rfl)) (by decide +kernel) ⟨Nat.le_of_ble_eq_true rfl, Nat.le_of_ble_eq_true rfl⟩, rfl, (hts (.instanceMethod yX6_init) (List.mem_of_getElem? (i := 13) rfl))⟩ ⟨fun a U g mk q => by obtain ⟨q0, q1, qP, qK, qD, qE⟩ := q; exact ⟨q0, q1, qP, va_K.moved (u := U) (U := U.calling g mk a) (Vm.Alike.refl U.vm) qK, qD, ev.same (u := U) (U := U.calling g mk a) rfl qE⟩, fun U hU hW => ⟨rfl, by rw [hU], by rw [hU]; exact hPc, va_K.moved hW.alike hKc, hDc.weaken (fun _ _ _ _ => trivial), hE.warm hW⟩⟩ rfl rfl hl.1 rfl (lv_room (Nat.le_of_ble_eq_true rfl)) dX4_init_20 ⟨Nat.le_of_ble_eq_true rfl, Nat.le_of_ble_eq_true rfl⟩) hS (fun q _ h => hFc q h) hFc (fun u t H1 locs ht hvm hw hB hz1 hk1 hS => ?_)
  clear hPc hDc hKc
  obtain ⟨hP1, hK1, hD1⟩ := hB
  rw [ht] at hP1
  have hK1 := va_K.moved hvm.symm hK1
  obtain ⟨hP, hD⟩ := va_join (wr := [(h0, .inr (5, [.int 0, .int 0, .int 0, .int 0, .int 0, .null, .ref q1, .null, .null, .null, .null, .null, .int 0, .int 0, .int 0, .int 0, .int 0, .int 0])), (q1, .inr (9, [.ref ta_2])), (ta_2, .inl (cI_2, 8, .inl fT2_2))]) (w1 := [(q3, .inr (7, [.int 0, .int 1, .int 0, .null]))]) hP hD [3] [0, 1, 2] rfl rfl (by decide +kernel) (by decide +kernel) hk1 hFc hP1 hD1
  generalize H1 = H at hP hS ⊢
  replace hP : va_P (dC, dI) vwCl [(h0, .inr (5, [.int 0, .int 0, .int 0, .int 0, .int 0, .null, .ref q1, .null, .null, .null, .null, .null, .int 0, .int 0, .int 0, .int 0, .int 0, .int 0])), (q1, .inr (9, [.ref ta_2])), (ta_2, .inl (cI_2, 8, .inl fT2_2)), (q3, .inr (7, [.int 0, .int 1, .int 0, .null]))] H := hP
  replace hD : va_D A [(h0, .inr (5, [.int 0, .int 0, .int 0, .int 0, .int 0, .null, .ref q1, .null, .null, .null, .null, .null, .int 0, .int 0, .int 0, .int 0, .int 0, .int 0])), (q1, .inr (9, [.ref ta_2])), (ta_2, .inl (cI_2, 8, .inl fT2_2)), (q3, .inr (7, [.int 0, .int 1, .int 0, .null]))] := hD
  clear hw
  refine va_putF (D := (dC, dI)) (ci := 5) (v := .ref q3) (ty := (.object "ClaimBus$Sending")) (C := RX4) (T := TX4) (N := 18) hx hb hts in_c_X4_init_1_X4 tyX4 tyX4_ok nmX4 hown hK hP hD hS 0 rfl rfl 7 (by decide) (hts (.fieldLink RX4 21 "ClaimBus$Node" "sending" "LClaimBus$Sending;") (List.mem_of_getElem? (i := 14) rfl)) (fun _ h9 => h9) rfl hin rfl (by decide +kernel) rfl rfl (Nat.le_of_ble_eq_true rfl) dX4_init_23 (fun H locs hP hD hS => ?_)
  replace hP : va_P (dC, dI) vwCl [(h0, .inr (5, [.int 0, .int 0, .int 0, .int 0, .int 0, .null, .ref q1, .ref q3, .null, .null, .null, .null, .int 0, .int 0, .int 0, .int 0, .int 0, .int 0])), (q1, .inr (9, [.ref ta_2])), (ta_2, .inl (cI_2, 8, .inl fT2_2)), (q3, .inr (7, [.int 0, .int 1, .int 0, .null]))] H := hP
  replace hD : va_D A [(h0, .inr (5, [.int 0, .int 0, .int 0, .int 0, .int 0, .null, .ref q1, .ref q3, .null, .null, .null, .null, .int 0, .int 0, .int 0, .int 0, .int 0, .int 0])), (q1, .inr (9, [.ref ta_2])), (ta_2, .inl (cI_2, 8, .inl fT2_2)), (q3, .inr (7, [.int 0, .int 1, .int 0, .null]))] := hD
  refine lv_aload_n hx hb dX4_init_26 rfl (lv_at hl 0 rfl) ?_
  refine va_new (ci := 3) (fs := [.int 0, .int 0, .null, .null]) (C := RX2) (T := TX2) (N := 4) hx hb hts in_c_X4_init_1_X2 tyX2 tyX2_ok hown (hts (.classLink RX4 25 RX2) (List.mem_of_getElem? (i := 15) rfl)) (hts (.instantiable RX2 4) (List.mem_of_getElem? (i := 16) rfl)) (hts (.initialized RX2) (List.mem_of_getElem? (i := 17) rfl)) hK hP hD hS hA rfl df_X2 (Nat.le_of_ble_eq_true rfl) (Nat.le_of_ble_eq_true rfl) dX4_init_27 (fun q5 H hP hD hS => ?_)
  replace hP : va_P (dC, dI) vwCl [(h0, .inr (5, [.int 0, .int 0, .int 0, .int 0, .int 0, .null, .ref q1, .ref q3, .null, .null, .null, .null, .int 0, .int 0, .int 0, .int 0, .int 0, .int 0])), (q1, .inr (9, [.ref ta_2])), (ta_2, .inl (cI_2, 8, .inl fT2_2)), (q3, .inr (7, [.int 0, .int 1, .int 0, .null])), (q5, .inr (3, [.int 0, .int 0, .null, .null]))] H := hP
  replace hD : va_D A [(h0, .inr (5, [.int 0, .int 0, .int 0, .int 0, .int 0, .null, .ref q1, .ref q3, .null, .null, .null, .null, .int 0, .int 0, .int 0, .int 0, .int 0, .int 0])), (q1, .inr (9, [.ref ta_2])), (ta_2, .inl (cI_2, 8, .inl fT2_2)), (q3, .inr (7, [.int 0, .int 1, .int 0, .null])), (q5, .inr (3, [.int 0, .int 0, .null, .null]))] := hD
  refine W.widen (k := 4) (n := 17) (Nat.le_of_ble_eq_true rfl) (Nat.le_of_ble_eq_true rfl) ?_
  refine lv_dup hx hb dX4_init_30 rfl ?_
  have hPc := hP.sub (ws' := [(q5, .inr (3, [.int 0, .int 0, .null, .null]))]) [4] rfl
  have hDc := hD.sub (ws' := [(q5, .inr (3, [.int 0, .int 0, .null, .null]))]) [4] (by decide +kernel) rfl
  have hKc := hK.sub (tys' := []) [] rfl
  have hFc := va_free (wc := [(q5, .inr (3, [.int 0, .int 0, .null, .null]))]) hD hS hA [4] rfl
  refine va_callv (va_runIN (As := []) (rest := [.ref q5, .ref h0]) ⟨hx, hb, hml, hown, hts⟩ (c_X2_init l dC dI (q5) H.size) ⟨va_cnB 0 hts g_c_X4_init_1_c_X2_init_27 rfl rfl rfl hE.n4 (hts (.initialized RX2) (List.mem_of_getElem? (i := 17) rfl)) (by decide +kernel) ⟨Nat.le_of_ble_eq_true rfl, Nat.le_of_ble_eq_true rfl⟩, rfl, (hts (.instanceMethod yX2_init) (List.mem_of_getElem? (i := 18) rfl))⟩ ⟨fun a U g mk q => by obtain ⟨q0, q1, qP, qK, qD, qE⟩ := q; exact ⟨q0, q1, qP, va_K.moved (u := U) (U := U.calling g mk a) (Vm.Alike.refl U.vm) qK, qD, ev.same (u := U) (U := U.calling g mk a) rfl qE⟩, fun U hU hW => ⟨rfl, by rw [hU], by rw [hU]; exact hPc, va_K.moved hW.alike hKc, hDc.weaken (fun _ _ _ _ => trivial), hE.warm hW⟩⟩ rfl rfl hl.1 rfl (lv_room (Nat.le_of_ble_eq_true rfl)) dX4_init_31 ⟨Nat.le_of_ble_eq_true rfl, Nat.le_of_ble_eq_true rfl⟩) hS (fun q _ h => hFc q h) hFc (fun u t H1 locs ht hvm hw hB hz1 hk1 hS => ?_)
  clear hPc hDc hKc
  obtain ⟨lg_6, lt_6, cL_6, hP1, hK1, hD1⟩ := hB
  rw [ht] at hP1
  have hK1 := va_K.moved hvm.symm hK1
  obtain ⟨hP, hD⟩ := va_join (wr := [(h0, .inr (5, [.int 0, .int 0, .int 0, .int 0, .int 0, .null, .ref q1, .ref q3, .null, .null, .null, .null, .int 0, .int 0, .int 0, .int 0, .int 0, .int 0])), (q1, .inr (9, [.ref ta_2])), (ta_2, .inl (cI_2, 8, .inl fT2_2)), (q3, .inr (7, [.int 0, .int 1, .int 0, .null]))]) (w1 := [(q5, .inr (3, [.int 0, .int 0, .ref lg_6, .ref lt_6])), (lg_6, .inl (cL_6, 80, .inl (fun _ => 0)))]) hP hD [4] [0, 1, 2, 3] rfl rfl (by decide +kernel) (by decide +kernel) hk1 hFc hP1 hD1
  replace hK := hK.app hK1
  replace hK : va_K (dC, dI) vwCl [(cI_2, .int), (cL_6, .int)] s := hK
  generalize H1 = H at hP hS ⊢
  replace hP : va_P (dC, dI) vwCl [(h0, .inr (5, [.int 0, .int 0, .int 0, .int 0, .int 0, .null, .ref q1, .ref q3, .null, .null, .null, .null, .int 0, .int 0, .int 0, .int 0, .int 0, .int 0])), (q1, .inr (9, [.ref ta_2])), (ta_2, .inl (cI_2, 8, .inl fT2_2)), (q3, .inr (7, [.int 0, .int 1, .int 0, .null])), (q5, .inr (3, [.int 0, .int 0, .ref lg_6, .ref lt_6])), (lg_6, .inl (cL_6, 80, .inl (fun _ => 0)))] H := hP
  replace hD : va_D A [(h0, .inr (5, [.int 0, .int 0, .int 0, .int 0, .int 0, .null, .ref q1, .ref q3, .null, .null, .null, .null, .int 0, .int 0, .int 0, .int 0, .int 0, .int 0])), (q1, .inr (9, [.ref ta_2])), (ta_2, .inl (cI_2, 8, .inl fT2_2)), (q3, .inr (7, [.int 0, .int 1, .int 0, .null])), (q5, .inr (3, [.int 0, .int 0, .ref lg_6, .ref lt_6])), (lg_6, .inl (cL_6, 80, .inl (fun _ => 0)))] := hD
  refine W.widen (k := 6) (n := 351) (Nat.le_of_ble_eq_true rfl) (Nat.le_of_ble_eq_true rfl) ?_
  clear hw
  refine va_putF (D := (dC, dI)) (ci := 5) (v := .ref q5) (ty := (.object "ClaimBus$Inbox")) (C := RX4) (T := TX4) (N := 18) hx hb hts in_c_X4_init_1_X4 tyX4 tyX4_ok nmX4 hown hK hP hD hS 0 rfl rfl 8 (by decide) (hts (.fieldLink RX4 28 "ClaimBus$Node" "inbox" "LClaimBus$Inbox;") (List.mem_of_getElem? (i := 19) rfl)) (fun _ h9 => h9) rfl hin rfl (by decide +kernel) rfl rfl (Nat.le_of_ble_eq_true rfl) dX4_init_34 (fun H locs hP hD hS => ?_)
  replace hP : va_P (dC, dI) vwCl [(h0, .inr (5, [.int 0, .int 0, .int 0, .int 0, .int 0, .null, .ref q1, .ref q3, .ref q5, .null, .null, .null, .int 0, .int 0, .int 0, .int 0, .int 0, .int 0])), (q1, .inr (9, [.ref ta_2])), (ta_2, .inl (cI_2, 8, .inl fT2_2)), (q3, .inr (7, [.int 0, .int 1, .int 0, .null])), (q5, .inr (3, [.int 0, .int 0, .ref lg_6, .ref lt_6])), (lg_6, .inl (cL_6, 80, .inl (fun _ => 0)))] H := hP
  replace hD : va_D A [(h0, .inr (5, [.int 0, .int 0, .int 0, .int 0, .int 0, .null, .ref q1, .ref q3, .ref q5, .null, .null, .null, .int 0, .int 0, .int 0, .int 0, .int 0, .int 0])), (q1, .inr (9, [.ref ta_2])), (ta_2, .inl (cI_2, 8, .inl fT2_2)), (q3, .inr (7, [.int 0, .int 1, .int 0, .null])), (q5, .inr (3, [.int 0, .int 0, .ref lg_6, .ref lt_6])), (lg_6, .inl (cL_6, 80, .inl (fun _ => 0)))] := hD
  refine lv_aload_n hx hb dX4_init_37 rfl (lv_at hl 0 rfl) ?_
  refine lv_iconst (v := 3) hx hb dX4_init_38 (by decide) ?_
  refine va_newq (C := RX9) (N' := 3) hx hb hown (hts (.classLink RX4 32 RX9) (List.mem_of_getElem? (i := 20) rfl)) hE.AOT hK hP hD hS hA (by decide) (by decide) (Nat.le_of_ble_eq_true rfl) (Nat.le_of_ble_eq_true rfl) (Nat.le_of_ble_eq_true rfl) dX4_init_39 (fun q7 cA7 H hK hP hD hS => ?_)
  replace hK : va_K (dC, dI) vwCl [(cI_2, .int), (cL_6, .int), (cA7, (.object RX9))] s := hK
  replace hP : va_P (dC, dI) vwCl [(h0, .inr (5, [.int 0, .int 0, .int 0, .int 0, .int 0, .null, .ref q1, .ref q3, .ref q5, .null, .null, .null, .int 0, .int 0, .int 0, .int 0, .int 0, .int 0])), (q1, .inr (9, [.ref ta_2])), (ta_2, .inl (cI_2, 8, .inl fT2_2)), (q3, .inr (7, [.int 0, .int 1, .int 0, .null])), (q5, .inr (3, [.int 0, .int 0, .ref lg_6, .ref lt_6])), (lg_6, .inl (cL_6, 80, .inl (fun _ => 0))), (q7, .inl (cA7, 3, .inr (.inr (.inr (.inr (fun _ => none))))))] H := hP
  replace hD : va_D A [(h0, .inr (5, [.int 0, .int 0, .int 0, .int 0, .int 0, .null, .ref q1, .ref q3, .ref q5, .null, .null, .null, .int 0, .int 0, .int 0, .int 0, .int 0, .int 0])), (q1, .inr (9, [.ref ta_2])), (ta_2, .inl (cI_2, 8, .inl fT2_2)), (q3, .inr (7, [.int 0, .int 1, .int 0, .null])), (q5, .inr (3, [.int 0, .int 0, .ref lg_6, .ref lt_6])), (lg_6, .inl (cL_6, 80, .inl (fun _ => 0))), (q7, .inl (cA7, 3, .inr (.inr (.inr (.inr (fun _ => none))))))] := hD
  refine W.widen (k := 7) (n := 354) (Nat.le_of_ble_eq_true rfl) (Nat.le_of_ble_eq_true rfl) ?_
  refine va_putF (D := (dC, dI)) (ci := 5) (v := .ref q7) (ty := (.array (.object "ClaimBus$Transport"))) (C := RX4) (T := TX4) (N := 18) hx hb hts in_c_X4_init_1_X4 tyX4 tyX4_ok nmX4 hown hK hP hD hS 0 rfl rfl 9 (by decide) (hts (.fieldLink RX4 34 "ClaimBus$Node" "gets" "[LClaimBus$Transport;") (List.mem_of_getElem? (i := 21) rfl)) (fun _ h9 => h9) rfl hin rfl (by decide +kernel) rfl rfl (Nat.le_of_ble_eq_true rfl) dX4_init_42 (fun H locs hP hD hS => ?_)
  replace hP : va_P (dC, dI) vwCl [(h0, .inr (5, [.int 0, .int 0, .int 0, .int 0, .int 0, .null, .ref q1, .ref q3, .ref q5, .ref q7, .null, .null, .int 0, .int 0, .int 0, .int 0, .int 0, .int 0])), (q1, .inr (9, [.ref ta_2])), (ta_2, .inl (cI_2, 8, .inl fT2_2)), (q3, .inr (7, [.int 0, .int 1, .int 0, .null])), (q5, .inr (3, [.int 0, .int 0, .ref lg_6, .ref lt_6])), (lg_6, .inl (cL_6, 80, .inl (fun _ => 0))), (q7, .inl (cA7, 3, .inr (.inr (.inr (.inr (fun _ => none))))))] H := hP
  replace hD : va_D A [(h0, .inr (5, [.int 0, .int 0, .int 0, .int 0, .int 0, .null, .ref q1, .ref q3, .ref q5, .ref q7, .null, .null, .int 0, .int 0, .int 0, .int 0, .int 0, .int 0])), (q1, .inr (9, [.ref ta_2])), (ta_2, .inl (cI_2, 8, .inl fT2_2)), (q3, .inr (7, [.int 0, .int 1, .int 0, .null])), (q5, .inr (3, [.int 0, .int 0, .ref lg_6, .ref lt_6])), (lg_6, .inl (cL_6, 80, .inl (fun _ => 0))), (q7, .inl (cA7, 3, .inr (.inr (.inr (.inr (fun _ => none))))))] := hD
  refine lv_aload_n hx hb dX4_init_45 rfl (lv_at hl 0 rfl) ?_
  refine va_new (ci := 0) (fs := [.int 0, .null, .int 0]) (C := RJx4a65c) (T := TJx4a65c) (N := 3) hx hb hts in_c_X4_init_1_Jx4a65c tyJx4a65c tyJx4a65c_ok hown (hts (.classLink RX4 38 RJx4a65c) (List.mem_of_getElem? (i := 22) rfl)) (hts (.instantiable RJx4a65c 3) (List.mem_of_getElem? (i := 23) rfl)) (hts (.initialized RJx4a65c) (List.mem_of_getElem? (i := 24) rfl)) hK hP hD hS hA rfl df_Jx4a65c (Nat.le_of_ble_eq_true rfl) (Nat.le_of_ble_eq_true rfl) dX4_init_46 (fun q8 H hP hD hS => ?_)
  replace hP : va_P (dC, dI) vwCl [(h0, .inr (5, [.int 0, .int 0, .int 0, .int 0, .int 0, .null, .ref q1, .ref q3, .ref q5, .ref q7, .null, .null, .int 0, .int 0, .int 0, .int 0, .int 0, .int 0])), (q1, .inr (9, [.ref ta_2])), (ta_2, .inl (cI_2, 8, .inl fT2_2)), (q3, .inr (7, [.int 0, .int 1, .int 0, .null])), (q5, .inr (3, [.int 0, .int 0, .ref lg_6, .ref lt_6])), (lg_6, .inl (cL_6, 80, .inl (fun _ => 0))), (q7, .inl (cA7, 3, .inr (.inr (.inr (.inr (fun _ => none)))))), (q8, .inr (0, [.int 0, .null, .int 0]))] H := hP
  replace hD : va_D A [(h0, .inr (5, [.int 0, .int 0, .int 0, .int 0, .int 0, .null, .ref q1, .ref q3, .ref q5, .ref q7, .null, .null, .int 0, .int 0, .int 0, .int 0, .int 0, .int 0])), (q1, .inr (9, [.ref ta_2])), (ta_2, .inl (cI_2, 8, .inl fT2_2)), (q3, .inr (7, [.int 0, .int 1, .int 0, .null])), (q5, .inr (3, [.int 0, .int 0, .ref lg_6, .ref lt_6])), (lg_6, .inl (cL_6, 80, .inl (fun _ => 0))), (q7, .inl (cA7, 3, .inr (.inr (.inr (.inr (fun _ => none)))))), (q8, .inr (0, [.int 0, .null, .int 0]))] := hD
  refine W.widen (k := 8) (n := 357) (Nat.le_of_ble_eq_true rfl) (Nat.le_of_ble_eq_true rfl) ?_
  refine lv_dup hx hb dX4_init_49 rfl ?_
  have hPc := hP.sub (ws' := [(q8, .inr (0, [.int 0, .null, .int 0]))]) [7] rfl
  have hDc := hD.sub (ws' := [(q8, .inr (0, [.int 0, .null, .int 0]))]) [7] (by decide +kernel) rfl
  have hKc := hK.sub (tys' := []) [] rfl
  have hFc := va_free (wc := [(q8, .inr (0, [.int 0, .null, .int 0]))]) hD hS hA [7] rfl
  have hZc := (hZ.kept hS.2.1).narrow (fun q h => hFc q h)
  have hTc := (hTz.kept hS.2.1).narrow (fun q h => hFc q h)
  refine va_callv (va_runI (As := []) (rest := [.ref q8, .ref h0]) ⟨hx, hb, hml, hown, hts⟩ (c_AL_init l dC dI (zt) (q8) H.size) (cwI 0 hts g_c_X4_init_1_c_AL_init_40 rfl rfl rfl (hts (.initialized RJx4a65c) (List.mem_of_getElem? (i := 24) rfl)) (hts (.methodLink RX4 40 yJx4a65c_init_da8c8) (List.mem_of_getElem? (i := 25) rfl)) (hts (.instanceMethod yJx4a65c_init_da8c8) (List.mem_of_getElem? (i := 26) rfl)) rfl (by decide +kernel) ⟨Nat.le_of_ble_eq_true rfl, Nat.le_of_ble_eq_true rfl⟩) ⟨fun a U g mk q => by obtain ⟨q0, q1, qP, qK, qD, qE, qZ, qT⟩ := q; exact ⟨q0, q1, qP, va_K.moved (u := U) (U := U.calling g mk a) (Vm.Alike.refl U.vm) qK, qD, ev.same (u := U) (U := U.calling g mk a) rfl qE, va_Z.moved (u := U) (U := U.calling g mk a) (Vm.Alike.refl U.vm) qZ, va_T.moved (u := U) (U := U.calling g mk a) (Vm.Alike.refl U.vm) qT⟩, fun U hU hW => ⟨rfl, by rw [hU], by rw [hU]; exact hPc, va_K.moved hW.alike hKc, hDc.weaken (fun _ _ _ _ => trivial), hE.warm hW, by rw [hU]; exact hZc.moved hW.alike, by rw [hU]; exact hTc.moved hW.alike⟩⟩ rfl rfl hl.1 rfl (lv_room (Nat.le_of_ble_eq_true rfl)) dX4_init_50 ⟨Nat.le_of_ble_eq_true rfl, Nat.le_of_ble_eq_true rfl⟩) hS (fun q _ h => hFc q h) hFc (fun u t H1 locs ht hvm hw hB hz1 hk1 hS => ?_)
  clear hPc hDc hKc
  obtain ⟨hP1, hK1, hD1⟩ := hB
  rw [ht] at hP1
  have hK1 := va_K.moved hvm.symm hK1
  obtain ⟨hP, hD⟩ := va_join (wr := [(h0, .inr (5, [.int 0, .int 0, .int 0, .int 0, .int 0, .null, .ref q1, .ref q3, .ref q5, .ref q7, .null, .null, .int 0, .int 0, .int 0, .int 0, .int 0, .int 0])), (q1, .inr (9, [.ref ta_2])), (ta_2, .inl (cI_2, 8, .inl fT2_2)), (q3, .inr (7, [.int 0, .int 1, .int 0, .null])), (q5, .inr (3, [.int 0, .int 0, .ref lg_6, .ref lt_6])), (lg_6, .inl (cL_6, 80, .inl (fun _ => 0))), (q7, .inl (cA7, 3, .inr (.inr (.inr (.inr (fun _ => none))))))]) (w1 := [(q8, .inr (0, [.int 0, .ref zt, .int 0]))]) hP hD [7] [0, 1, 2, 3, 4, 5, 6] rfl rfl (by decide +kernel) (by decide +kernel) hk1 hFc hP1 hD1
  generalize H1 = H at hP hS ⊢
  replace hP : va_P (dC, dI) vwCl [(h0, .inr (5, [.int 0, .int 0, .int 0, .int 0, .int 0, .null, .ref q1, .ref q3, .ref q5, .ref q7, .null, .null, .int 0, .int 0, .int 0, .int 0, .int 0, .int 0])), (q1, .inr (9, [.ref ta_2])), (ta_2, .inl (cI_2, 8, .inl fT2_2)), (q3, .inr (7, [.int 0, .int 1, .int 0, .null])), (q5, .inr (3, [.int 0, .int 0, .ref lg_6, .ref lt_6])), (lg_6, .inl (cL_6, 80, .inl (fun _ => 0))), (q7, .inl (cA7, 3, .inr (.inr (.inr (.inr (fun _ => none)))))), (q8, .inr (0, [.int 0, .ref zt, .int 0]))] H := hP
  replace hD : va_D A [(h0, .inr (5, [.int 0, .int 0, .int 0, .int 0, .int 0, .null, .ref q1, .ref q3, .ref q5, .ref q7, .null, .null, .int 0, .int 0, .int 0, .int 0, .int 0, .int 0])), (q1, .inr (9, [.ref ta_2])), (ta_2, .inl (cI_2, 8, .inl fT2_2)), (q3, .inr (7, [.int 0, .int 1, .int 0, .null])), (q5, .inr (3, [.int 0, .int 0, .ref lg_6, .ref lt_6])), (lg_6, .inl (cL_6, 80, .inl (fun _ => 0))), (q7, .inl (cA7, 3, .inr (.inr (.inr (.inr (fun _ => none)))))), (q8, .inr (0, [.int 0, .ref zt, .int 0]))] := hD
  clear hw
  refine va_putF (D := (dC, dI)) (ci := 5) (v := .ref q8) (ty := (.object "java/util/ArrayList")) (C := RX4) (T := TX4) (N := 18) hx hb hts in_c_X4_init_1_X4 tyX4 tyX4_ok nmX4 hown hK hP hD hS 0 rfl rfl 10 (by decide) (hts (.fieldLink RX4 41 "ClaimBus$Node" "collects" "Ljava/util/ArrayList;") (List.mem_of_getElem? (i := 27) rfl)) (fun _ h9 => h9) rfl hin rfl (by decide +kernel) rfl rfl (Nat.le_of_ble_eq_true rfl) dX4_init_53 (fun H locs hP hD hS => ?_)
  replace hP : va_P (dC, dI) vwCl [(h0, .inr (5, [.int 0, .int 0, .int 0, .int 0, .int 0, .null, .ref q1, .ref q3, .ref q5, .ref q7, .ref q8, .null, .int 0, .int 0, .int 0, .int 0, .int 0, .int 0])), (q1, .inr (9, [.ref ta_2])), (ta_2, .inl (cI_2, 8, .inl fT2_2)), (q3, .inr (7, [.int 0, .int 1, .int 0, .null])), (q5, .inr (3, [.int 0, .int 0, .ref lg_6, .ref lt_6])), (lg_6, .inl (cL_6, 80, .inl (fun _ => 0))), (q7, .inl (cA7, 3, .inr (.inr (.inr (.inr (fun _ => none)))))), (q8, .inr (0, [.int 0, .ref zt, .int 0]))] H := hP
  replace hD : va_D A [(h0, .inr (5, [.int 0, .int 0, .int 0, .int 0, .int 0, .null, .ref q1, .ref q3, .ref q5, .ref q7, .ref q8, .null, .int 0, .int 0, .int 0, .int 0, .int 0, .int 0])), (q1, .inr (9, [.ref ta_2])), (ta_2, .inl (cI_2, 8, .inl fT2_2)), (q3, .inr (7, [.int 0, .int 1, .int 0, .null])), (q5, .inr (3, [.int 0, .int 0, .ref lg_6, .ref lt_6])), (lg_6, .inl (cL_6, 80, .inl (fun _ => 0))), (q7, .inl (cA7, 3, .inr (.inr (.inr (.inr (fun _ => none)))))), (q8, .inr (0, [.int 0, .ref zt, .int 0]))] := hD
  refine lv_aload_n hx hb dX4_init_56 rfl (lv_at hl 0 rfl) ?_
  refine lv_bipush (v := 10) hx hb dX4_init_57 (by decide) ?_
  refine va_newa (atype := .int) (ty := .int) (N' := 10) (a0 := (10, .inl (fun _ => 0))) hx hb (hts (.arrayClass .int) (List.mem_of_getElem? (i := 28) rfl)) rfl hK hP hD hS hA (fun _ => rfl) (by decide) (by decide) (Nat.le_of_ble_eq_true rfl) (Nat.le_of_ble_eq_true rfl) (Nat.le_of_ble_eq_true rfl) dX4_init_59 (fun q10 cA10 H hK hP hD hS => ?_)
  replace hK : va_K (dC, dI) vwCl [(cI_2, .int), (cL_6, .int), (cA7, (.object RX9)), (cA10, .int)] s := hK
  replace hP : va_P (dC, dI) vwCl [(h0, .inr (5, [.int 0, .int 0, .int 0, .int 0, .int 0, .null, .ref q1, .ref q3, .ref q5, .ref q7, .ref q8, .null, .int 0, .int 0, .int 0, .int 0, .int 0, .int 0])), (q1, .inr (9, [.ref ta_2])), (ta_2, .inl (cI_2, 8, .inl fT2_2)), (q3, .inr (7, [.int 0, .int 1, .int 0, .null])), (q5, .inr (3, [.int 0, .int 0, .ref lg_6, .ref lt_6])), (lg_6, .inl (cL_6, 80, .inl (fun _ => 0))), (q7, .inl (cA7, 3, .inr (.inr (.inr (.inr (fun _ => none)))))), (q8, .inr (0, [.int 0, .ref zt, .int 0])), (q10, .inl (cA10, 10, .inl (fun _ => 0)))] H := hP
  replace hD : va_D A [(h0, .inr (5, [.int 0, .int 0, .int 0, .int 0, .int 0, .null, .ref q1, .ref q3, .ref q5, .ref q7, .ref q8, .null, .int 0, .int 0, .int 0, .int 0, .int 0, .int 0])), (q1, .inr (9, [.ref ta_2])), (ta_2, .inl (cI_2, 8, .inl fT2_2)), (q3, .inr (7, [.int 0, .int 1, .int 0, .null])), (q5, .inr (3, [.int 0, .int 0, .ref lg_6, .ref lt_6])), (lg_6, .inl (cL_6, 80, .inl (fun _ => 0))), (q7, .inl (cA7, 3, .inr (.inr (.inr (.inr (fun _ => none)))))), (q8, .inr (0, [.int 0, .ref zt, .int 0])), (q10, .inl (cA10, 10, .inl (fun _ => 0)))] := hD
  refine W.widen (k := 9) (n := 367) (Nat.le_of_ble_eq_true rfl) (Nat.le_of_ble_eq_true rfl) ?_
  refine va_putF (D := (dC, dI)) (ci := 5) (v := .ref q10) (ty := (.array .int)) (C := RX4) (T := TX4) (N := 18) hx hb hts in_c_X4_init_1_X4 tyX4 tyX4_ok nmX4 hown hK hP hD hS 0 rfl rfl 11 (by decide) (hts (.fieldLink RX4 45 "ClaimBus$Node" "troubles" "[I") (List.mem_of_getElem? (i := 29) rfl)) (fun _ h9 => h9) rfl hin rfl (by decide +kernel) rfl rfl (Nat.le_of_ble_eq_true rfl) dX4_init_61 (fun H locs hP hD hS => ?_)
  replace hP : va_P (dC, dI) vwCl [(h0, .inr (5, [.int 0, .int 0, .int 0, .int 0, .int 0, .null, .ref q1, .ref q3, .ref q5, .ref q7, .ref q8, .ref q10, .int 0, .int 0, .int 0, .int 0, .int 0, .int 0])), (q1, .inr (9, [.ref ta_2])), (ta_2, .inl (cI_2, 8, .inl fT2_2)), (q3, .inr (7, [.int 0, .int 1, .int 0, .null])), (q5, .inr (3, [.int 0, .int 0, .ref lg_6, .ref lt_6])), (lg_6, .inl (cL_6, 80, .inl (fun _ => 0))), (q7, .inl (cA7, 3, .inr (.inr (.inr (.inr (fun _ => none)))))), (q8, .inr (0, [.int 0, .ref zt, .int 0])), (q10, .inl (cA10, 10, .inl (fun _ => 0)))] H := hP
  replace hD : va_D A [(h0, .inr (5, [.int 0, .int 0, .int 0, .int 0, .int 0, .null, .ref q1, .ref q3, .ref q5, .ref q7, .ref q8, .ref q10, .int 0, .int 0, .int 0, .int 0, .int 0, .int 0])), (q1, .inr (9, [.ref ta_2])), (ta_2, .inl (cI_2, 8, .inl fT2_2)), (q3, .inr (7, [.int 0, .int 1, .int 0, .null])), (q5, .inr (3, [.int 0, .int 0, .ref lg_6, .ref lt_6])), (lg_6, .inl (cL_6, 80, .inl (fun _ => 0))), (q7, .inl (cA7, 3, .inr (.inr (.inr (.inr (fun _ => none)))))), (q8, .inr (0, [.int 0, .ref zt, .int 0])), (q10, .inl (cA10, 10, .inl (fun _ => 0)))] := hD
  refine lv_aload_n hx hb dX4_init_64 rfl (lv_at hl 0 rfl) ?_
  refine lv_iconst (v := 0) hx hb dX4_init_65 (by decide) ?_
  refine va_put (D := (dC, dI)) (ci := 5) (v := .int 0) (ty := .int) (C := RX4) (T := TX4) (N := 18) hx hb hts in_c_X4_init_1_X4 tyX4 tyX4_ok nmX4 hown hK hP hD hS 0 rfl rfl 12 (by decide) (hts (.fieldLink RX4 49 "ClaimBus$Node" "troubleCount" "I") (List.mem_of_getElem? (i := 30) rfl)) (fun _ h9 => h9) rfl (by decide +kernel) rfl rfl (Nat.le_of_ble_eq_true rfl) dX4_init_66 (fun H locs hP hD hS => ?_)
  replace hP : va_P (dC, dI) vwCl [(h0, .inr (5, [.int 0, .int 0, .int 0, .int 0, .int 0, .null, .ref q1, .ref q3, .ref q5, .ref q7, .ref q8, .ref q10, .int 0, .int 0, .int 0, .int 0, .int 0, .int 0])), (q1, .inr (9, [.ref ta_2])), (ta_2, .inl (cI_2, 8, .inl fT2_2)), (q3, .inr (7, [.int 0, .int 1, .int 0, .null])), (q5, .inr (3, [.int 0, .int 0, .ref lg_6, .ref lt_6])), (lg_6, .inl (cL_6, 80, .inl (fun _ => 0))), (q7, .inl (cA7, 3, .inr (.inr (.inr (.inr (fun _ => none)))))), (q8, .inr (0, [.int 0, .ref zt, .int 0])), (q10, .inl (cA10, 10, .inl (fun _ => 0)))] H := hP
  replace hD : va_D A [(h0, .inr (5, [.int 0, .int 0, .int 0, .int 0, .int 0, .null, .ref q1, .ref q3, .ref q5, .ref q7, .ref q8, .ref q10, .int 0, .int 0, .int 0, .int 0, .int 0, .int 0])), (q1, .inr (9, [.ref ta_2])), (ta_2, .inl (cI_2, 8, .inl fT2_2)), (q3, .inr (7, [.int 0, .int 1, .int 0, .null])), (q5, .inr (3, [.int 0, .int 0, .ref lg_6, .ref lt_6])), (lg_6, .inl (cL_6, 80, .inl (fun _ => 0))), (q7, .inl (cA7, 3, .inr (.inr (.inr (.inr (fun _ => none)))))), (q8, .inr (0, [.int 0, .ref zt, .int 0])), (q10, .inl (cA10, 10, .inl (fun _ => 0)))] := hD
  refine lv_aload_n hx hb dX4_init_69 rfl (lv_at hl 0 rfl) ?_
  refine lv_iconst (v := 0) hx hb dX4_init_70 (by decide) ?_
  refine va_put (D := (dC, dI)) (ci := 5) (v := .int 0) (ty := .int) (C := RX4) (T := TX4) (N := 18) hx hb hts in_c_X4_init_1_X4 tyX4 tyX4_ok nmX4 hown hK hP hD hS 0 rfl rfl 13 (by decide) (hts (.fieldLink RX4 53 "ClaimBus$Node" "state" "I") (List.mem_of_getElem? (i := 31) rfl)) (fun _ h9 => h9) rfl (by decide +kernel) rfl rfl (Nat.le_of_ble_eq_true rfl) dX4_init_71 (fun H locs hP hD hS => ?_)
  replace hP : va_P (dC, dI) vwCl [(h0, .inr (5, [.int 0, .int 0, .int 0, .int 0, .int 0, .null, .ref q1, .ref q3, .ref q5, .ref q7, .ref q8, .ref q10, .int 0, .int 0, .int 0, .int 0, .int 0, .int 0])), (q1, .inr (9, [.ref ta_2])), (ta_2, .inl (cI_2, 8, .inl fT2_2)), (q3, .inr (7, [.int 0, .int 1, .int 0, .null])), (q5, .inr (3, [.int 0, .int 0, .ref lg_6, .ref lt_6])), (lg_6, .inl (cL_6, 80, .inl (fun _ => 0))), (q7, .inl (cA7, 3, .inr (.inr (.inr (.inr (fun _ => none)))))), (q8, .inr (0, [.int 0, .ref zt, .int 0])), (q10, .inl (cA10, 10, .inl (fun _ => 0)))] H := hP
  replace hD : va_D A [(h0, .inr (5, [.int 0, .int 0, .int 0, .int 0, .int 0, .null, .ref q1, .ref q3, .ref q5, .ref q7, .ref q8, .ref q10, .int 0, .int 0, .int 0, .int 0, .int 0, .int 0])), (q1, .inr (9, [.ref ta_2])), (ta_2, .inl (cI_2, 8, .inl fT2_2)), (q3, .inr (7, [.int 0, .int 1, .int 0, .null])), (q5, .inr (3, [.int 0, .int 0, .ref lg_6, .ref lt_6])), (lg_6, .inl (cL_6, 80, .inl (fun _ => 0))), (q7, .inl (cA7, 3, .inr (.inr (.inr (.inr (fun _ => none)))))), (q8, .inr (0, [.int 0, .ref zt, .int 0])), (q10, .inl (cA10, 10, .inl (fun _ => 0)))] := hD
  refine lv_aload_n hx hb dX4_init_74 rfl (lv_at hl 0 rfl) ?_
  refine lv_iconst (v := -1) hx hb dX4_init_75 (by decide) ?_
  refine va_put (D := (dC, dI)) (ci := 5) (v := .int (-1)) (ty := .int) (C := RX4) (T := TX4) (N := 18) hx hb hts in_c_X4_init_1_X4 tyX4 tyX4_ok nmX4 hown hK hP hD hS 0 rfl rfl 15 (by decide) (hts (.fieldLink RX4 56 "ClaimBus$Node" "claimCarriedAt" "I") (List.mem_of_getElem? (i := 32) rfl)) (fun _ h9 => h9) rfl (by decide +kernel) rfl rfl (Nat.le_of_ble_eq_true rfl) dX4_init_76 (fun H locs hP hD hS => ?_)
  replace hP : va_P (dC, dI) vwCl [(h0, .inr (5, [.int 0, .int 0, .int 0, .int 0, .int 0, .null, .ref q1, .ref q3, .ref q5, .ref q7, .ref q8, .ref q10, .int 0, .int 0, .int 0, .int (-1), .int 0, .int 0])), (q1, .inr (9, [.ref ta_2])), (ta_2, .inl (cI_2, 8, .inl fT2_2)), (q3, .inr (7, [.int 0, .int 1, .int 0, .null])), (q5, .inr (3, [.int 0, .int 0, .ref lg_6, .ref lt_6])), (lg_6, .inl (cL_6, 80, .inl (fun _ => 0))), (q7, .inl (cA7, 3, .inr (.inr (.inr (.inr (fun _ => none)))))), (q8, .inr (0, [.int 0, .ref zt, .int 0])), (q10, .inl (cA10, 10, .inl (fun _ => 0)))] H := hP
  replace hD : va_D A [(h0, .inr (5, [.int 0, .int 0, .int 0, .int 0, .int 0, .null, .ref q1, .ref q3, .ref q5, .ref q7, .ref q8, .ref q10, .int 0, .int 0, .int 0, .int (-1), .int 0, .int 0])), (q1, .inr (9, [.ref ta_2])), (ta_2, .inl (cI_2, 8, .inl fT2_2)), (q3, .inr (7, [.int 0, .int 1, .int 0, .null])), (q5, .inr (3, [.int 0, .int 0, .ref lg_6, .ref lt_6])), (lg_6, .inl (cL_6, 80, .inl (fun _ => 0))), (q7, .inl (cA7, 3, .inr (.inr (.inr (.inr (fun _ => none)))))), (q8, .inr (0, [.int 0, .ref zt, .int 0])), (q10, .inl (cA10, 10, .inl (fun _ => 0)))] := hD
  refine lv_aload_n hx hb dX4_init_79 rfl (lv_at hl 0 rfl) ?_
  refine lv_iconst (v := 0) hx hb dX4_init_80 (by decide) ?_
  refine va_put (D := (dC, dI)) (ci := 5) (v := .int 0) (ty := .int) (C := RX4) (T := TX4) (N := 18) hx hb hts in_c_X4_init_1_X4 tyX4 tyX4_ok nmX4 hown hK hP hD hS 0 rfl rfl 16 (by decide) (hts (.fieldLink RX4 59 "ClaimBus$Node" "toLose" "I") (List.mem_of_getElem? (i := 33) rfl)) (fun _ h9 => h9) rfl (by decide +kernel) rfl rfl (Nat.le_of_ble_eq_true rfl) dX4_init_81 (fun H locs hP hD hS => ?_)
  replace hP : va_P (dC, dI) vwCl [(h0, .inr (5, [.int 0, .int 0, .int 0, .int 0, .int 0, .null, .ref q1, .ref q3, .ref q5, .ref q7, .ref q8, .ref q10, .int 0, .int 0, .int 0, .int (-1), .int 0, .int 0])), (q1, .inr (9, [.ref ta_2])), (ta_2, .inl (cI_2, 8, .inl fT2_2)), (q3, .inr (7, [.int 0, .int 1, .int 0, .null])), (q5, .inr (3, [.int 0, .int 0, .ref lg_6, .ref lt_6])), (lg_6, .inl (cL_6, 80, .inl (fun _ => 0))), (q7, .inl (cA7, 3, .inr (.inr (.inr (.inr (fun _ => none)))))), (q8, .inr (0, [.int 0, .ref zt, .int 0])), (q10, .inl (cA10, 10, .inl (fun _ => 0)))] H := hP
  replace hD : va_D A [(h0, .inr (5, [.int 0, .int 0, .int 0, .int 0, .int 0, .null, .ref q1, .ref q3, .ref q5, .ref q7, .ref q8, .ref q10, .int 0, .int 0, .int 0, .int (-1), .int 0, .int 0])), (q1, .inr (9, [.ref ta_2])), (ta_2, .inl (cI_2, 8, .inl fT2_2)), (q3, .inr (7, [.int 0, .int 1, .int 0, .null])), (q5, .inr (3, [.int 0, .int 0, .ref lg_6, .ref lt_6])), (lg_6, .inl (cL_6, 80, .inl (fun _ => 0))), (q7, .inl (cA7, 3, .inr (.inr (.inr (.inr (fun _ => none)))))), (q8, .inr (0, [.int 0, .ref zt, .int 0])), (q10, .inl (cA10, 10, .inl (fun _ => 0)))] := hD
  refine lv_aload_n hx hb dX4_init_84 rfl (lv_at hl 0 rfl) ?_
  refine lv_iconst (v := 0) hx hb dX4_init_85 (by decide) ?_
  refine va_put (D := (dC, dI)) (ci := 5) (v := .int 0) (ty := .int) (C := RX4) (T := TX4) (N := 18) hx hb hts in_c_X4_init_1_X4 tyX4 tyX4_ok nmX4 hown hK hP hD hS 0 rfl rfl 17 (by decide) (hts (.fieldLink RX4 62 "ClaimBus$Node" "lost" "I") (List.mem_of_getElem? (i := 34) rfl)) (fun _ h9 => h9) rfl (by decide +kernel) rfl rfl (Nat.le_of_ble_eq_true rfl) dX4_init_86 (fun H locs hP hD hS => ?_)
  replace hP : va_P (dC, dI) vwCl [(h0, .inr (5, [.int 0, .int 0, .int 0, .int 0, .int 0, .null, .ref q1, .ref q3, .ref q5, .ref q7, .ref q8, .ref q10, .int 0, .int 0, .int 0, .int (-1), .int 0, .int 0])), (q1, .inr (9, [.ref ta_2])), (ta_2, .inl (cI_2, 8, .inl fT2_2)), (q3, .inr (7, [.int 0, .int 1, .int 0, .null])), (q5, .inr (3, [.int 0, .int 0, .ref lg_6, .ref lt_6])), (lg_6, .inl (cL_6, 80, .inl (fun _ => 0))), (q7, .inl (cA7, 3, .inr (.inr (.inr (.inr (fun _ => none)))))), (q8, .inr (0, [.int 0, .ref zt, .int 0])), (q10, .inl (cA10, 10, .inl (fun _ => 0)))] H := hP
  replace hD : va_D A [(h0, .inr (5, [.int 0, .int 0, .int 0, .int 0, .int 0, .null, .ref q1, .ref q3, .ref q5, .ref q7, .ref q8, .ref q10, .int 0, .int 0, .int 0, .int (-1), .int 0, .int 0])), (q1, .inr (9, [.ref ta_2])), (ta_2, .inl (cI_2, 8, .inl fT2_2)), (q3, .inr (7, [.int 0, .int 1, .int 0, .null])), (q5, .inr (3, [.int 0, .int 0, .ref lg_6, .ref lt_6])), (lg_6, .inl (cL_6, 80, .inl (fun _ => 0))), (q7, .inl (cA7, 3, .inr (.inr (.inr (.inr (fun _ => none)))))), (q8, .inr (0, [.int 0, .ref zt, .int 0])), (q10, .inl (cA10, 10, .inl (fun _ => 0)))] := hD
  refine lv_aload_n hx hb dX4_init_89 rfl (lv_at hl 0 rfl) ?_
  refine lv_iload_n hx hb dX4_init_90 rfl (lv_at hl 1 rfl) ?_
  refine va_putF (D := (dC, dI)) (ci := 5) (v := .int p0) (ty := .int) (C := RX4) (T := TX4) (N := 18) hx hb hts in_c_X4_init_1_X4 tyX4 tyX4_ok nmX4 hown hK hP hD hS 0 rfl rfl 0 (by decide) (hts (.fieldLink RX4 65 "ClaimBus$Node" "high" "I") (List.mem_of_getElem? (i := 35) rfl)) (fun _ h9 => h9) rfl hin rfl (by decide +kernel) rfl rfl (Nat.le_of_ble_eq_true rfl) dX4_init_91 (fun H locs hP hD hS => ?_)
  replace hP : va_P (dC, dI) vwCl [(h0, .inr (5, [.int p0, .int 0, .int 0, .int 0, .int 0, .null, .ref q1, .ref q3, .ref q5, .ref q7, .ref q8, .ref q10, .int 0, .int 0, .int 0, .int (-1), .int 0, .int 0])), (q1, .inr (9, [.ref ta_2])), (ta_2, .inl (cI_2, 8, .inl fT2_2)), (q3, .inr (7, [.int 0, .int 1, .int 0, .null])), (q5, .inr (3, [.int 0, .int 0, .ref lg_6, .ref lt_6])), (lg_6, .inl (cL_6, 80, .inl (fun _ => 0))), (q7, .inl (cA7, 3, .inr (.inr (.inr (.inr (fun _ => none)))))), (q8, .inr (0, [.int 0, .ref zt, .int 0])), (q10, .inl (cA10, 10, .inl (fun _ => 0)))] H := hP
  replace hD : va_D A [(h0, .inr (5, [.int p0, .int 0, .int 0, .int 0, .int 0, .null, .ref q1, .ref q3, .ref q5, .ref q7, .ref q8, .ref q10, .int 0, .int 0, .int 0, .int (-1), .int 0, .int 0])), (q1, .inr (9, [.ref ta_2])), (ta_2, .inl (cI_2, 8, .inl fT2_2)), (q3, .inr (7, [.int 0, .int 1, .int 0, .null])), (q5, .inr (3, [.int 0, .int 0, .ref lg_6, .ref lt_6])), (lg_6, .inl (cL_6, 80, .inl (fun _ => 0))), (q7, .inl (cA7, 3, .inr (.inr (.inr (.inr (fun _ => none)))))), (q8, .inr (0, [.int 0, .ref zt, .int 0])), (q10, .inl (cA10, 10, .inl (fun _ => 0)))] := hD
  refine lv_aload_n hx hb dX4_init_94 rfl (lv_at hl 0 rfl) ?_
  refine lv_iload_n hx hb dX4_init_95 rfl (lv_at hl 2 rfl) ?_
  refine va_putF (D := (dC, dI)) (ci := 5) (v := .int p1) (ty := .int) (C := RX4) (T := TX4) (N := 18) hx hb hts in_c_X4_init_1_X4 tyX4 tyX4_ok nmX4 hown hK hP hD hS 0 rfl rfl 1 (by decide) (hts (.fieldLink RX4 68 "ClaimBus$Node" "low" "I") (List.mem_of_getElem? (i := 36) rfl)) (fun _ h9 => h9) rfl hin rfl (by decide +kernel) rfl rfl (Nat.le_of_ble_eq_true rfl) dX4_init_96 (fun H locs hP hD hS => ?_)
  replace hP : va_P (dC, dI) vwCl [(h0, .inr (5, [.int p0, .int p1, .int 0, .int 0, .int 0, .null, .ref q1, .ref q3, .ref q5, .ref q7, .ref q8, .ref q10, .int 0, .int 0, .int 0, .int (-1), .int 0, .int 0])), (q1, .inr (9, [.ref ta_2])), (ta_2, .inl (cI_2, 8, .inl fT2_2)), (q3, .inr (7, [.int 0, .int 1, .int 0, .null])), (q5, .inr (3, [.int 0, .int 0, .ref lg_6, .ref lt_6])), (lg_6, .inl (cL_6, 80, .inl (fun _ => 0))), (q7, .inl (cA7, 3, .inr (.inr (.inr (.inr (fun _ => none)))))), (q8, .inr (0, [.int 0, .ref zt, .int 0])), (q10, .inl (cA10, 10, .inl (fun _ => 0)))] H := hP
  replace hD : va_D A [(h0, .inr (5, [.int p0, .int p1, .int 0, .int 0, .int 0, .null, .ref q1, .ref q3, .ref q5, .ref q7, .ref q8, .ref q10, .int 0, .int 0, .int 0, .int (-1), .int 0, .int 0])), (q1, .inr (9, [.ref ta_2])), (ta_2, .inl (cI_2, 8, .inl fT2_2)), (q3, .inr (7, [.int 0, .int 1, .int 0, .null])), (q5, .inr (3, [.int 0, .int 0, .ref lg_6, .ref lt_6])), (lg_6, .inl (cL_6, 80, .inl (fun _ => 0))), (q7, .inl (cA7, 3, .inr (.inr (.inr (.inr (fun _ => none)))))), (q8, .inr (0, [.int 0, .ref zt, .int 0])), (q10, .inl (cA10, 10, .inl (fun _ => 0)))] := hD
  refine lv_aload_n hx hb dX4_init_99 rfl (lv_at hl 0 rfl) ?_
  refine lv_iload_n hx hb dX4_init_100 rfl (lv_at hl 3 rfl) ?_
  refine va_putF (D := (dC, dI)) (ci := 5) (v := .int (nI p2)) (ty := .int) (C := RX4) (T := TX4) (N := 18) hx hb hts in_c_X4_init_1_X4 tyX4 tyX4_ok nmX4 hown hK hP hD hS 0 rfl rfl 2 (by decide) (hts (.fieldLink RX4 71 "ClaimBus$Node" "wanted" "I") (List.mem_of_getElem? (i := 37) rfl)) (fun _ h9 => h9) rfl hin rfl (by decide +kernel) rfl rfl (Nat.le_of_ble_eq_true rfl) dX4_init_101 (fun H locs hP hD hS => ?_)
  replace hP : va_P (dC, dI) vwCl [(h0, .inr (5, [.int p0, .int p1, .int (nI p2), .int 0, .int 0, .null, .ref q1, .ref q3, .ref q5, .ref q7, .ref q8, .ref q10, .int 0, .int 0, .int 0, .int (-1), .int 0, .int 0])), (q1, .inr (9, [.ref ta_2])), (ta_2, .inl (cI_2, 8, .inl fT2_2)), (q3, .inr (7, [.int 0, .int 1, .int 0, .null])), (q5, .inr (3, [.int 0, .int 0, .ref lg_6, .ref lt_6])), (lg_6, .inl (cL_6, 80, .inl (fun _ => 0))), (q7, .inl (cA7, 3, .inr (.inr (.inr (.inr (fun _ => none)))))), (q8, .inr (0, [.int 0, .ref zt, .int 0])), (q10, .inl (cA10, 10, .inl (fun _ => 0)))] H := hP
  replace hD : va_D A [(h0, .inr (5, [.int p0, .int p1, .int (nI p2), .int 0, .int 0, .null, .ref q1, .ref q3, .ref q5, .ref q7, .ref q8, .ref q10, .int 0, .int 0, .int 0, .int (-1), .int 0, .int 0])), (q1, .inr (9, [.ref ta_2])), (ta_2, .inl (cI_2, 8, .inl fT2_2)), (q3, .inr (7, [.int 0, .int 1, .int 0, .null])), (q5, .inr (3, [.int 0, .int 0, .ref lg_6, .ref lt_6])), (lg_6, .inl (cL_6, 80, .inl (fun _ => 0))), (q7, .inl (cA7, 3, .inr (.inr (.inr (.inr (fun _ => none)))))), (q8, .inr (0, [.int 0, .ref zt, .int 0])), (q10, .inl (cA10, 10, .inl (fun _ => 0)))] := hD
  refine lv_aload_n hx hb dX4_init_104 rfl (lv_at hl 0 rfl) ?_
  refine lv_iload hx hb dX4_init_105 (lv_at hl 4 rfl) ?_
  refine va_putF (D := (dC, dI)) (ci := 5) (v := .int 1) (ty := .boolean) (C := RX4) (T := TX4) (N := 18) hx hb hts in_c_X4_init_1_X4 tyX4 tyX4_ok nmX4 hown hK hP hD hS 0 rfl rfl 3 (by decide) (hts (.fieldLink RX4 74 "ClaimBus$Node" "free" "Z") (List.mem_of_getElem? (i := 38) rfl)) (fun _ h9 => h9) rfl hin rfl (by decide +kernel) rfl rfl (Nat.le_of_ble_eq_true rfl) dX4_init_107 (fun H locs hP hD hS => ?_)
  replace hP : va_P (dC, dI) vwCl [(h0, .inr (5, [.int p0, .int p1, .int (nI p2), .int 1, .int 0, .null, .ref q1, .ref q3, .ref q5, .ref q7, .ref q8, .ref q10, .int 0, .int 0, .int 0, .int (-1), .int 0, .int 0])), (q1, .inr (9, [.ref ta_2])), (ta_2, .inl (cI_2, 8, .inl fT2_2)), (q3, .inr (7, [.int 0, .int 1, .int 0, .null])), (q5, .inr (3, [.int 0, .int 0, .ref lg_6, .ref lt_6])), (lg_6, .inl (cL_6, 80, .inl (fun _ => 0))), (q7, .inl (cA7, 3, .inr (.inr (.inr (.inr (fun _ => none)))))), (q8, .inr (0, [.int 0, .ref zt, .int 0])), (q10, .inl (cA10, 10, .inl (fun _ => 0)))] H := hP
  replace hD : va_D A [(h0, .inr (5, [.int p0, .int p1, .int (nI p2), .int 1, .int 0, .null, .ref q1, .ref q3, .ref q5, .ref q7, .ref q8, .ref q10, .int 0, .int 0, .int 0, .int (-1), .int 0, .int 0])), (q1, .inr (9, [.ref ta_2])), (ta_2, .inl (cI_2, 8, .inl fT2_2)), (q3, .inr (7, [.int 0, .int 1, .int 0, .null])), (q5, .inr (3, [.int 0, .int 0, .ref lg_6, .ref lt_6])), (lg_6, .inl (cL_6, 80, .inl (fun _ => 0))), (q7, .inl (cA7, 3, .inr (.inr (.inr (.inr (fun _ => none)))))), (q8, .inr (0, [.int 0, .ref zt, .int 0])), (q10, .inl (cA10, 10, .inl (fun _ => 0)))] := hD
  refine lv_aload_n hx hb dX4_init_110 rfl (lv_at hl 0 rfl) ?_
  refine lv_iload hx hb dX4_init_111 (lv_at hl 5 rfl) ?_
  refine va_putF (D := (dC, dI)) (ci := 5) (v := .int (nI p3)) (ty := .int) (C := RX4) (T := TX4) (N := 18) hx hb hts in_c_X4_init_1_X4 tyX4 tyX4_ok nmX4 hown hK hP hD hS 0 rfl rfl 4 (by decide) (hts (.fieldLink RX4 78 "ClaimBus$Node" "window" "I") (List.mem_of_getElem? (i := 39) rfl)) (fun _ h9 => h9) rfl hin rfl (by decide +kernel) rfl rfl (Nat.le_of_ble_eq_true rfl) dX4_init_113 (fun H locs hP hD hS => ?_)
  replace hP : va_P (dC, dI) vwCl [(h0, .inr (5, [.int p0, .int p1, .int (nI p2), .int 1, .int (nI p3), .null, .ref q1, .ref q3, .ref q5, .ref q7, .ref q8, .ref q10, .int 0, .int 0, .int 0, .int (-1), .int 0, .int 0])), (q1, .inr (9, [.ref ta_2])), (ta_2, .inl (cI_2, 8, .inl fT2_2)), (q3, .inr (7, [.int 0, .int 1, .int 0, .null])), (q5, .inr (3, [.int 0, .int 0, .ref lg_6, .ref lt_6])), (lg_6, .inl (cL_6, 80, .inl (fun _ => 0))), (q7, .inl (cA7, 3, .inr (.inr (.inr (.inr (fun _ => none)))))), (q8, .inr (0, [.int 0, .ref zt, .int 0])), (q10, .inl (cA10, 10, .inl (fun _ => 0)))] H := hP
  replace hD : va_D A [(h0, .inr (5, [.int p0, .int p1, .int (nI p2), .int 1, .int (nI p3), .null, .ref q1, .ref q3, .ref q5, .ref q7, .ref q8, .ref q10, .int 0, .int 0, .int 0, .int (-1), .int 0, .int 0])), (q1, .inr (9, [.ref ta_2])), (ta_2, .inl (cI_2, 8, .inl fT2_2)), (q3, .inr (7, [.int 0, .int 1, .int 0, .null])), (q5, .inr (3, [.int 0, .int 0, .ref lg_6, .ref lt_6])), (lg_6, .inl (cL_6, 80, .inl (fun _ => 0))), (q7, .inl (cA7, 3, .inr (.inr (.inr (.inr (fun _ => none)))))), (q8, .inr (0, [.int 0, .ref zt, .int 0])), (q10, .inl (cA10, 10, .inl (fun _ => 0)))] := hD
  refine lv_aload_n hx hb dX4_init_116 rfl (lv_at hl 0 rfl) ?_
  refine lv_iload_n hx hb dX4_init_117 rfl (lv_at hl 3 rfl) ?_
  refine va_put (D := (dC, dI)) (ci := 5) (v := .int (nI p2)) (ty := .int) (C := RX4) (T := TX4) (N := 18) hx hb hts in_c_X4_init_1_X4 tyX4 tyX4_ok nmX4 hown hK hP hD hS 0 rfl rfl 14 (by decide) (hts (.fieldLink RX4 81 "ClaimBus$Node" "address" "I") (List.mem_of_getElem? (i := 40) rfl)) (fun _ h9 => h9) rfl (by decide +kernel) rfl rfl (Nat.le_of_ble_eq_true rfl) dX4_init_118 (fun H locs hP hD hS => ?_)
  replace hP : va_P (dC, dI) vwCl [(h0, .inr (5, [.int p0, .int p1, .int (nI p2), .int 1, .int (nI p3), .null, .ref q1, .ref q3, .ref q5, .ref q7, .ref q8, .ref q10, .int 0, .int 0, .int (nI p2), .int (-1), .int 0, .int 0])), (q1, .inr (9, [.ref ta_2])), (ta_2, .inl (cI_2, 8, .inl fT2_2)), (q3, .inr (7, [.int 0, .int 1, .int 0, .null])), (q5, .inr (3, [.int 0, .int 0, .ref lg_6, .ref lt_6])), (lg_6, .inl (cL_6, 80, .inl (fun _ => 0))), (q7, .inl (cA7, 3, .inr (.inr (.inr (.inr (fun _ => none)))))), (q8, .inr (0, [.int 0, .ref zt, .int 0])), (q10, .inl (cA10, 10, .inl (fun _ => 0)))] H := hP
  replace hD : va_D A [(h0, .inr (5, [.int p0, .int p1, .int (nI p2), .int 1, .int (nI p3), .null, .ref q1, .ref q3, .ref q5, .ref q7, .ref q8, .ref q10, .int 0, .int 0, .int (nI p2), .int (-1), .int 0, .int 0])), (q1, .inr (9, [.ref ta_2])), (ta_2, .inl (cI_2, 8, .inl fT2_2)), (q3, .inr (7, [.int 0, .int 1, .int 0, .null])), (q5, .inr (3, [.int 0, .int 0, .ref lg_6, .ref lt_6])), (lg_6, .inl (cL_6, 80, .inl (fun _ => 0))), (q7, .inl (cA7, 3, .inr (.inr (.inr (.inr (fun _ => none)))))), (q8, .inr (0, [.int 0, .ref zt, .int 0])), (q10, .inl (cA10, 10, .inl (fun _ => 0)))] := hD
  refine lv_aload_n hx hb dX4_init_121 rfl (lv_at hl 0 rfl) ?_
  refine va_new (ci := 6) (fs := [.int 0, .int 0, .null, .null, .null, .int 0, .int 0, .int 0, .int 0, .int 0, .null, .int 0]) (C := RX5) (T := TX5) (N := 12) hx hb hts in_c_X4_init_1_X5 tyX5 tyX5_ok hown (hts (.classLink RX4 84 RX5) (List.mem_of_getElem? (i := 41) rfl)) (hts (.instantiable RX5 12) (List.mem_of_getElem? (i := 42) rfl)) (hts (.initialized RX5) (List.mem_of_getElem? (i := 43) rfl)) hK hP hD hS hA rfl df_X5 (Nat.le_of_ble_eq_true rfl) (Nat.le_of_ble_eq_true rfl) dX4_init_122 (fun q11 H hP hD hS => ?_)
  replace hP : va_P (dC, dI) vwCl [(h0, .inr (5, [.int p0, .int p1, .int (nI p2), .int 1, .int (nI p3), .null, .ref q1, .ref q3, .ref q5, .ref q7, .ref q8, .ref q10, .int 0, .int 0, .int (nI p2), .int (-1), .int 0, .int 0])), (q1, .inr (9, [.ref ta_2])), (ta_2, .inl (cI_2, 8, .inl fT2_2)), (q3, .inr (7, [.int 0, .int 1, .int 0, .null])), (q5, .inr (3, [.int 0, .int 0, .ref lg_6, .ref lt_6])), (lg_6, .inl (cL_6, 80, .inl (fun _ => 0))), (q7, .inl (cA7, 3, .inr (.inr (.inr (.inr (fun _ => none)))))), (q8, .inr (0, [.int 0, .ref zt, .int 0])), (q10, .inl (cA10, 10, .inl (fun _ => 0))), (q11, .inr (6, [.int 0, .int 0, .null, .null, .null, .int 0, .int 0, .int 0, .int 0, .int 0, .null, .int 0]))] H := hP
  replace hD : va_D A [(h0, .inr (5, [.int p0, .int p1, .int (nI p2), .int 1, .int (nI p3), .null, .ref q1, .ref q3, .ref q5, .ref q7, .ref q8, .ref q10, .int 0, .int 0, .int (nI p2), .int (-1), .int 0, .int 0])), (q1, .inr (9, [.ref ta_2])), (ta_2, .inl (cI_2, 8, .inl fT2_2)), (q3, .inr (7, [.int 0, .int 1, .int 0, .null])), (q5, .inr (3, [.int 0, .int 0, .ref lg_6, .ref lt_6])), (lg_6, .inl (cL_6, 80, .inl (fun _ => 0))), (q7, .inl (cA7, 3, .inr (.inr (.inr (.inr (fun _ => none)))))), (q8, .inr (0, [.int 0, .ref zt, .int 0])), (q10, .inl (cA10, 10, .inl (fun _ => 0))), (q11, .inr (6, [.int 0, .int 0, .null, .null, .null, .int 0, .int 0, .int 0, .int 0, .int 0, .null, .int 0]))] := hD
  refine W.widen (k := 10) (n := 379) (Nat.le_of_ble_eq_true rfl) (Nat.le_of_ble_eq_true rfl) ?_
  refine lv_dup hx hb dX4_init_125 rfl ?_
  refine lv_iload_n hx hb dX4_init_126 rfl (lv_at hl 1 rfl) ?_
  refine lv_iload_n hx hb dX4_init_127 rfl (lv_at hl 2 rfl) ?_
  refine lv_aload hx hb dX4_init_128 (lv_at hl 6 rfl) ?_
  have hPc := hP.sub (ws' := [(q11, .inr (6, [.int 0, .int 0, .null, .null, .null, .int 0, .int 0, .int 0, .int 0, .int 0, .null, .int 0]))]) [9] rfl
  have hDc := hD.sub (ws' := [(q11, .inr (6, [.int 0, .int 0, .null, .null, .null, .int 0, .int 0, .int 0, .int 0, .int 0, .null, .int 0]))]) [9] (by decide +kernel) rfl
  have hKc := hK.sub (tys' := []) [] rfl
  have hFc := va_free (wc := [(q11, .inr (6, [.int 0, .int 0, .null, .null, .null, .int 0, .int 0, .int 0, .int 0, .int 0, .null, .int 0]))]) hD hS hA [9] rfl
  refine va_callv (va_runI (As := [.int p0, .int p1, .ref sr]) (rest := [.ref q11, .ref h0]) ⟨hx, hb, hml, hown, hts⟩ (c_X5_init l dC dI (q11) (p0) (p1) (sr) H.size) (cwI 3 hts g_c_X4_init_1_c_X5_init_86 rfl rfl rfl (hts (.initialized RX5) (List.mem_of_getElem? (i := 43) rfl)) (hts (.methodLink RX4 86 yX5_init) (List.mem_of_getElem? (i := 44) rfl)) (hts (.instanceMethod yX5_init) (List.mem_of_getElem? (i := 45) rfl)) rfl (by decide +kernel) ⟨Nat.le_of_ble_eq_true rfl, Nat.le_of_ble_eq_true rfl⟩) ⟨fun a U g mk q => by obtain ⟨q0, q1, qP, qK, qD, qE⟩ := q; exact ⟨q0, q1, qP, va_K.moved (u := U) (U := U.calling g mk a) (Vm.Alike.refl U.vm) qK, qD, ev.same (u := U) (U := U.calling g mk a) rfl qE⟩, fun U hU hW => ⟨rfl, by rw [hU], by rw [hU]; exact hPc, va_K.moved hW.alike hKc, hDc.weaken (fun _ _ _ _ => trivial), hE.warm hW⟩⟩ rfl rfl hl.1 rfl (lv_room (Nat.le_of_ble_eq_true rfl)) dX4_init_130 ⟨Nat.le_of_ble_eq_true rfl, Nat.le_of_ble_eq_true rfl⟩) hS (fun q _ h => hFc q h) hFc (fun u t H1 locs ht hvm hw hB hz1 hk1 hS => ?_)
  clear hPc hDc hKc
  obtain ⟨rf_12, hP1, hK1, hD1⟩ := hB
  rw [ht] at hP1
  have hK1 := va_K.moved hvm.symm hK1
  obtain ⟨hP, hD⟩ := va_join (wr := [(h0, .inr (5, [.int p0, .int p1, .int (nI p2), .int 1, .int (nI p3), .null, .ref q1, .ref q3, .ref q5, .ref q7, .ref q8, .ref q10, .int 0, .int 0, .int (nI p2), .int (-1), .int 0, .int 0])), (q1, .inr (9, [.ref ta_2])), (ta_2, .inl (cI_2, 8, .inl fT2_2)), (q3, .inr (7, [.int 0, .int 1, .int 0, .null])), (q5, .inr (3, [.int 0, .int 0, .ref lg_6, .ref lt_6])), (lg_6, .inl (cL_6, 80, .inl (fun _ => 0))), (q7, .inl (cA7, 3, .inr (.inr (.inr (.inr (fun _ => none)))))), (q8, .inr (0, [.int 0, .ref zt, .int 0])), (q10, .inl (cA10, 10, .inl (fun _ => 0)))]) (w1 := [(q11, .inr (6, [.int p0, .int p1, .ref sr, .null, .null, .int 0, .int 0, .int 0, .int 0, .int 0, .ref rf_12, .int 0])), (rf_12, .inr (2, [.int 0, .int 0, .int 0, .null]))]) hP hD [9] [0, 1, 2, 3, 4, 5, 6, 7, 8] rfl rfl (by decide +kernel) (by decide +kernel) hk1 hFc hP1 hD1
  generalize H1 = H at hP hS ⊢
  replace hP : va_P (dC, dI) vwCl [(h0, .inr (5, [.int p0, .int p1, .int (nI p2), .int 1, .int (nI p3), .null, .ref q1, .ref q3, .ref q5, .ref q7, .ref q8, .ref q10, .int 0, .int 0, .int (nI p2), .int (-1), .int 0, .int 0])), (q1, .inr (9, [.ref ta_2])), (ta_2, .inl (cI_2, 8, .inl fT2_2)), (q3, .inr (7, [.int 0, .int 1, .int 0, .null])), (q5, .inr (3, [.int 0, .int 0, .ref lg_6, .ref lt_6])), (lg_6, .inl (cL_6, 80, .inl (fun _ => 0))), (q7, .inl (cA7, 3, .inr (.inr (.inr (.inr (fun _ => none)))))), (q8, .inr (0, [.int 0, .ref zt, .int 0])), (q10, .inl (cA10, 10, .inl (fun _ => 0))), (q11, .inr (6, [.int p0, .int p1, .ref sr, .null, .null, .int 0, .int 0, .int 0, .int 0, .int 0, .ref rf_12, .int 0])), (rf_12, .inr (2, [.int 0, .int 0, .int 0, .null]))] H := hP
  replace hD : va_D A [(h0, .inr (5, [.int p0, .int p1, .int (nI p2), .int 1, .int (nI p3), .null, .ref q1, .ref q3, .ref q5, .ref q7, .ref q8, .ref q10, .int 0, .int 0, .int (nI p2), .int (-1), .int 0, .int 0])), (q1, .inr (9, [.ref ta_2])), (ta_2, .inl (cI_2, 8, .inl fT2_2)), (q3, .inr (7, [.int 0, .int 1, .int 0, .null])), (q5, .inr (3, [.int 0, .int 0, .ref lg_6, .ref lt_6])), (lg_6, .inl (cL_6, 80, .inl (fun _ => 0))), (q7, .inl (cA7, 3, .inr (.inr (.inr (.inr (fun _ => none)))))), (q8, .inr (0, [.int 0, .ref zt, .int 0])), (q10, .inl (cA10, 10, .inl (fun _ => 0))), (q11, .inr (6, [.int p0, .int p1, .ref sr, .null, .null, .int 0, .int 0, .int 0, .int 0, .int 0, .ref rf_12, .int 0])), (rf_12, .inr (2, [.int 0, .int 0, .int 0, .null]))] := hD
  refine W.widen (k := 11) (n := 383) (Nat.le_of_ble_eq_true rfl) (Nat.le_of_ble_eq_true rfl) ?_
  clear hw
  refine va_putF (D := (dC, dI)) (ci := 5) (v := .ref q11) (ty := (.object "ClaimBus$Row")) (C := RX4) (T := TX4) (N := 18) hx hb hts in_c_X4_init_1_X4 tyX4 tyX4_ok nmX4 hown hK hP hD hS 0 rfl rfl 5 (by decide) (hts (.fieldLink RX4 89 "ClaimBus$Node" "row" "LClaimBus$Row;") (List.mem_of_getElem? (i := 46) rfl)) (fun _ h9 => h9) rfl hin rfl (by decide +kernel) rfl rfl (Nat.le_of_ble_eq_true rfl) dX4_init_133 (fun H locs hP hD hS => ?_)
  replace hP : va_P (dC, dI) vwCl [(h0, .inr (5, [.int p0, .int p1, .int (nI p2), .int 1, .int (nI p3), .ref q11, .ref q1, .ref q3, .ref q5, .ref q7, .ref q8, .ref q10, .int 0, .int 0, .int (nI p2), .int (-1), .int 0, .int 0])), (q1, .inr (9, [.ref ta_2])), (ta_2, .inl (cI_2, 8, .inl fT2_2)), (q3, .inr (7, [.int 0, .int 1, .int 0, .null])), (q5, .inr (3, [.int 0, .int 0, .ref lg_6, .ref lt_6])), (lg_6, .inl (cL_6, 80, .inl (fun _ => 0))), (q7, .inl (cA7, 3, .inr (.inr (.inr (.inr (fun _ => none)))))), (q8, .inr (0, [.int 0, .ref zt, .int 0])), (q10, .inl (cA10, 10, .inl (fun _ => 0))), (q11, .inr (6, [.int p0, .int p1, .ref sr, .null, .null, .int 0, .int 0, .int 0, .int 0, .int 0, .ref rf_12, .int 0])), (rf_12, .inr (2, [.int 0, .int 0, .int 0, .null]))] H := hP
  replace hD : va_D A [(h0, .inr (5, [.int p0, .int p1, .int (nI p2), .int 1, .int (nI p3), .ref q11, .ref q1, .ref q3, .ref q5, .ref q7, .ref q8, .ref q10, .int 0, .int 0, .int (nI p2), .int (-1), .int 0, .int 0])), (q1, .inr (9, [.ref ta_2])), (ta_2, .inl (cI_2, 8, .inl fT2_2)), (q3, .inr (7, [.int 0, .int 1, .int 0, .null])), (q5, .inr (3, [.int 0, .int 0, .ref lg_6, .ref lt_6])), (lg_6, .inl (cL_6, 80, .inl (fun _ => 0))), (q7, .inl (cA7, 3, .inr (.inr (.inr (.inr (fun _ => none)))))), (q8, .inr (0, [.int 0, .ref zt, .int 0])), (q10, .inl (cA10, 10, .inl (fun _ => 0))), (q11, .inr (6, [.int p0, .int p1, .ref sr, .null, .null, .int 0, .int 0, .int 0, .int 0, .int 0, .ref rf_12, .int 0])), (rf_12, .inr (2, [.int 0, .int 0, .int 0, .null]))] := hD
  have hP9 := hP.sub (ws' := [(h0, .inr (5, [.int p0, .int p1, .int (nI p2), .int 1, .int (nI p3), .ref q11, .ref q1, .ref q3, .ref q5, .ref q7, .ref q8, .ref q10, .int 0, .int 0, .int (nI p2), .int (-1), .int 0, .int 0])), (q11, .inr (6, [.int p0, .int p1, .ref sr, .null, .null, .int 0, .int 0, .int 0, .int 0, .int 0, .ref rf_12, .int 0])), (rf_12, .inr (2, [.int 0, .int 0, .int 0, .null])), (q1, .inr (9, [.ref ta_2])), (ta_2, .inl (cI_2, 8, .inl fT2_2)), (q3, .inr (7, [.int 0, .int 1, .int 0, .null])), (q5, .inr (3, [.int 0, .int 0, .ref lg_6, .ref lt_6])), (lg_6, .inl (cL_6, 80, .inl (fun _ => 0))), (q7, .inl (cA7, 3, .inr (.inr (.inr (.inr (fun _ => none)))))), (q8, .inr (0, [.int 0, .ref zt, .int 0]))]) [0, 9, 10, 1, 2, 3, 4, 5, 6, 7] rfl
  have hD9 := hD.sub (ws' := [(h0, .inr (5, [.int p0, .int p1, .int (nI p2), .int 1, .int (nI p3), .ref q11, .ref q1, .ref q3, .ref q5, .ref q7, .ref q8, .ref q10, .int 0, .int 0, .int (nI p2), .int (-1), .int 0, .int 0])), (q11, .inr (6, [.int p0, .int p1, .ref sr, .null, .null, .int 0, .int 0, .int 0, .int 0, .int 0, .ref rf_12, .int 0])), (rf_12, .inr (2, [.int 0, .int 0, .int 0, .null])), (q1, .inr (9, [.ref ta_2])), (ta_2, .inl (cI_2, 8, .inl fT2_2)), (q3, .inr (7, [.int 0, .int 1, .int 0, .null])), (q5, .inr (3, [.int 0, .int 0, .ref lg_6, .ref lt_6])), (lg_6, .inl (cL_6, 80, .inl (fun _ => 0))), (q7, .inl (cA7, 3, .inr (.inr (.inr (.inr (fun _ => none)))))), (q8, .inr (0, [.int 0, .ref zt, .int 0]))]) [0, 9, 10, 1, 2, 3, 4, 5, 6, 7] (by decide +kernel) rfl
  have hK9 := hK.sub (tys' := [(cI_2, .int), (cL_6, .int), (cA7, (.object RX9))]) [0, 1, 2] rfl
  exact W.vret hx hb hr (fun t ht hW => ⟨⟨(), rfl, trivial, ⟨q11, q1, q3, q5, q7, q8, q10, rf_12, ta_2, lg_6, lt_6, cI_2, cL_6, cA7, fT2_2, (fun _ => none), by rw [ht]; exact hP9, va_K.moved hW.alike hK9, hD9, t0__2, t1__2, t2__2, t3__2, t4__2, t5__2, t6__2, t7__2, rfl, rfl, rfl⟩⟩, hS.F ht⟩) hS.2.2 dX4_init_136
