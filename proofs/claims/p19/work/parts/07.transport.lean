noncomputable def tl_c_X9_init : List Cond := wsX90
noncomputable def v_c_X9_init : List Cond := .code yX9_init cX9_init 1 none :: ([.methodLink RX9 3 objectInit, .instanceMethod objectInit, .code objectInit ⟨#[0xb1]⟩ 1 none, .fieldLink RX9 9 "ClaimBus$Transport" "open" "Z", .fieldLink RX9 15 "ClaimBus$Transport" "source" "I", .fieldLink RX9 19 "ClaimBus$Transport" "group" "I", .fieldLink RX9 22 "ClaimBus$Transport" "size" "I", .fieldLink RX9 25 "ClaimBus$Transport" "packets" "I", .fieldLink RX9 28 "ClaimBus$Transport" "window" "I", .fieldLink RX9 31 "ClaimBus$Transport" "expected" "I", .fieldLink RX9 34 "ClaimBus$Transport" "clearedTo" "I", .fieldLink RX9 37 "ClaimBus$Transport" "lastHeard" "I", .fieldLink RX9 40 "ClaimBus$Transport" "waits" "I", .fieldLink RX9 43 "ClaimBus$Transport" "sum" "I", .fieldLink RX9 46 "ClaimBus$Transport" "isAsSent" "Z", .fieldLink RX9 49 "ClaimBus$Transport" "whole" "LClaimBus$Message;", .arrayClass .int, .fieldLink RX9 53 "ClaimBus$Transport" "beginning" "[I"] ++ tl_c_X9_init)
theorem it_c_X9_init : ∀ w ∈ tl_c_X9_init, w ∈ v_c_X9_init := fun w h => List.mem_cons_of_mem _ (List.mem_append_right _ h)
theorem in_c_X9_init_X9 : ∀ w ∈ wsX90, w ∈ v_c_X9_init := fun w h => it_c_X9_init w (h)
theorem gt_c_X9_init : ∀ w ∈ tl_c_X9_init, goodWord w = true := gw_wsX90
theorem gw_c_X9_init : ∀ w ∈ v_c_X9_init, goodWord w = true := List.forall_mem_cons.mpr ⟨by decide +kernel, List.forall_mem_append.mpr ⟨List.all_eq_true.mp (by decide +kernel), gt_c_X9_init⟩⟩
set_option maxHeartbeats 4000000 in
set_option maxRecDepth 100000 in
/-- Transport() -/
theorem c_X9_init (l : Launch) (dC : Nat → ClassId) (dI : Nat → Nat → Nat) (h0 : Nat) (sz : Nat)  : Met l yX9_init v_c_X9_init ({ frames := 1, cells := 1, slots := 42, locals := 13 }) (va_Pc [.ref h0] (fun U => U.heap.size = sz ∧ va_P (dC, dI) vwCl [(h0, .inr (10, [.int 0, .int 0, .int 0, .int 0, .int 0, .int 0, .int 0, .int 0, .int 0, .int 0, .int 0, .int 0, .null, .null]))] U.heap ∧ va_K (dC, dI) vwCl [] U ∧ va_D (fun _ => True) [(h0, .inr (10, [.int 0, .int 0, .int 0, .int 0, .int 0, .int 0, .int 0, .int 0, .int 0, .int 0, .int 0, .int 0, .null, .null]))] ∧ ev U)) (va_Qv (fun _ : Unit => True) (fun (_ : Unit) (t : State) => ∃ (tb : Nat) (cB : ClassId), va_P (dC, dI) vwCl [(h0, .inr (10, [.int 0, .int 0, .int 0, .int 0, .int 0, .int 0, .int 1, .int 0, .int 0, .int 0, .int 0, .int 1, .null, .ref tb])), (tb, .inl (cB, 42, .inl (fun _ => 0)))] t.heap ∧ va_K (dC, dI) vwCl [(cB, .int)] t ∧ va_D (va_A [(h0, .inr (10, [.int 0, .int 0, .int 0, .int 0, .int 0, .int 0, .int 0, .int 0, .int 0, .int 0, .int 0, .int 0, .null, .null]))] sz) [(h0, .inr (10, [.int 0, .int 0, .int 0, .int 0, .int 0, .int 0, .int 1, .int 0, .int 0, .int 0, .int 0, .int 1, .null, .ref tb])), (tb, .inl (cB, 42, .inl (fun _ => 0)))]) (va_A [(h0, .inr (10, [.int 0, .int 0, .int 0, .int 0, .int 0, .int 0, .int 0, .int 0, .int 0, .int 0, .int 0, .int 0, .null, .null]))] sz)) 1 42 (va_A [(h0, .inr (10, [.int 0, .int 0, .int 0, .int 0, .int 0, .int 0, .int 0, .int 0, .int 0, .int 0, .int 0, .int 0, .null, .null]))] sz) := by
  refine Met.ofW (cc := cX9_init) (maxL := 1) (ret := none) (by decide) rfl ?_
  intro p e s m args below meth c s₁ B hml hv
  obtain ⟨rfl, hsz, hP, hK, hD0, hE⟩ := hv
  have hx := B.exec
  have hb := B.bytes
  have hr := B.returns
  have hts := atoms_spec (ws := v_c_X9_init) B.pre
  have hown : s.vm.findClass RX9 = some m.cls := findClass_of_methodNamed B.named
  have hlocks := B.notSynchronized
  have hin : meth.name = "<init>" := (name_of_methodNamed B.named B.method).1
  subst hsz
  have hD := hD0.self (sz := s.heap.size)
  generalize hAe : va_A [(h0, .inr (10, [.int 0, .int 0, .int 0, .int 0, .int 0, .int 0, .int 0, .int 0, .int 0, .int 0, .int 0, .int 0, .null, .null]))] s.heap.size = A at hD ⊢
  have hA : ∀ q : Nat, s.heap.size ≤ q → A q := fun q h => by rw [← hAe]; exact Or.inr h
  have hS : va_S A s.heap s.heap [] := va_S.rf
  replace hP : va_P (dC, dI) vwCl [(h0, .inr (10, [.int 0, .int 0, .int 0, .int 0, .int 0, .int 0, .int 0, .int 0, .int 0, .int 0, .int 0, .int 0, .null, .null]))] s.heap := hP
  have hl := lv_entry ([.ref h0]) (n := 1) (Nat.le_of_ble_eq_true rfl)
  rw [lg_entry_eq]
  generalize (lg_sl ([.ref h0]) ++ List.replicate (1 - (lg_sl ([.ref h0])).length) Slot.unset).toArray = ls at hl ⊢
  replace hl : lv_has ls 1 [(0, .ref h0)] := hl
  obtain ⟨H, hH⟩ : ∃ z : Heap, z = s.heap := ⟨_, rfl⟩
  rw [← hH]
  replace hS : va_S A s.heap H [] := by rw [hH]; exact va_S.rf
  replace hP : va_P (dC, dI) vwCl [(h0, .inr (10, [.int 0, .int 0, .int 0, .int 0, .int 0, .int 0, .int 0, .int 0, .int 0, .int 0, .int 0, .int 0, .null, .null]))] H := by rw [hH]; exact hP
  clear hH
  refine lv_aload_n hx hb dX9_init_0 rfl (lv_at hl 0 rfl) ?_
  refine W.objInit hx hb hown (hts (.methodLink RX9 3 objectInit) (List.mem_of_getElem? (i := 1) rfl)) (hts (.instanceMethod objectInit) (List.mem_of_getElem? (i := 2) rfl)) (hts (.code objectInit ⟨#[0xb1]⟩ 1 none) (List.mem_of_getElem? (i := 3) rfl)) rfl (by rw [hml]; exact hl.1) rfl dX9_init_1 (Nat.le_of_ble_eq_true rfl) (Nat.le_of_ble_eq_true rfl) ?_
  refine W.eq (g2 := F0 m 4 ls []) rfl ?_
  refine lv_aload_n hx hb dX9_init_4 rfl (lv_at hl 0 rfl) ?_
  refine lv_iconst (v := 0) hx hb dX9_init_5 (by decide) ?_
  refine va_put (D := (dC, dI)) (ci := 10) (v := .int 0) (ty := .boolean) (C := RX9) (T := TX9) (N := 14) hx hb hts in_c_X9_init_X9 tyX9 tyX9_ok nmX9 hown hK hP hD hS 0 rfl rfl 0 (by decide) (hts (.fieldLink RX9 9 "ClaimBus$Transport" "open" "Z") (List.mem_of_getElem? (i := 4) rfl)) (fun _ h9 => h9) rfl (by decide +kernel) rfl rfl (Nat.le_of_ble_eq_true rfl) dX9_init_6 (fun H locs hP hD hS => ?_)
  replace hP : va_P (dC, dI) vwCl [(h0, .inr (10, [.int 0, .int 0, .int 0, .int 0, .int 0, .int 0, .int 0, .int 0, .int 0, .int 0, .int 0, .int 0, .null, .null]))] H := hP
  replace hD : va_D A [(h0, .inr (10, [.int 0, .int 0, .int 0, .int 0, .int 0, .int 0, .int 0, .int 0, .int 0, .int 0, .int 0, .int 0, .null, .null]))] := hD
  refine lv_aload_n hx hb dX9_init_9 rfl (lv_at hl 0 rfl) ?_
  refine lv_iconst (v := 0) hx hb dX9_init_10 (by decide) ?_
  refine va_put (D := (dC, dI)) (ci := 10) (v := .int 0) (ty := .int) (C := RX9) (T := TX9) (N := 14) hx hb hts in_c_X9_init_X9 tyX9 tyX9_ok nmX9 hown hK hP hD hS 0 rfl rfl 1 (by decide) (hts (.fieldLink RX9 15 "ClaimBus$Transport" "source" "I") (List.mem_of_getElem? (i := 5) rfl)) (fun _ h9 => h9) rfl (by decide +kernel) rfl rfl (Nat.le_of_ble_eq_true rfl) dX9_init_11 (fun H locs hP hD hS => ?_)
  replace hP : va_P (dC, dI) vwCl [(h0, .inr (10, [.int 0, .int 0, .int 0, .int 0, .int 0, .int 0, .int 0, .int 0, .int 0, .int 0, .int 0, .int 0, .null, .null]))] H := hP
  replace hD : va_D A [(h0, .inr (10, [.int 0, .int 0, .int 0, .int 0, .int 0, .int 0, .int 0, .int 0, .int 0, .int 0, .int 0, .int 0, .null, .null]))] := hD
  refine lv_aload_n hx hb dX9_init_14 rfl (lv_at hl 0 rfl) ?_
  refine lv_iconst (v := 0) hx hb dX9_init_15 (by decide) ?_
  refine va_put (D := (dC, dI)) (ci := 10) (v := .int 0) (ty := .int) (C := RX9) (T := TX9) (N := 14) hx hb hts in_c_X9_init_X9 tyX9 tyX9_ok nmX9 hown hK hP hD hS 0 rfl rfl 2 (by decide) (hts (.fieldLink RX9 19 "ClaimBus$Transport" "group" "I") (List.mem_of_getElem? (i := 6) rfl)) (fun _ h9 => h9) rfl (by decide +kernel) rfl rfl (Nat.le_of_ble_eq_true rfl) dX9_init_16 (fun H locs hP hD hS => ?_)
  replace hP : va_P (dC, dI) vwCl [(h0, .inr (10, [.int 0, .int 0, .int 0, .int 0, .int 0, .int 0, .int 0, .int 0, .int 0, .int 0, .int 0, .int 0, .null, .null]))] H := hP
  replace hD : va_D A [(h0, .inr (10, [.int 0, .int 0, .int 0, .int 0, .int 0, .int 0, .int 0, .int 0, .int 0, .int 0, .int 0, .int 0, .null, .null]))] := hD
  refine lv_aload_n hx hb dX9_init_19 rfl (lv_at hl 0 rfl) ?_
  refine lv_iconst (v := 0) hx hb dX9_init_20 (by decide) ?_
  refine va_put (D := (dC, dI)) (ci := 10) (v := .int 0) (ty := .int) (C := RX9) (T := TX9) (N := 14) hx hb hts in_c_X9_init_X9 tyX9 tyX9_ok nmX9 hown hK hP hD hS 0 rfl rfl 3 (by decide) (hts (.fieldLink RX9 22 "ClaimBus$Transport" "size" "I") (List.mem_of_getElem? (i := 7) rfl)) (fun _ h9 => h9) rfl (by decide +kernel) rfl rfl (Nat.le_of_ble_eq_true rfl) dX9_init_21 (fun H locs hP hD hS => ?_)
  replace hP : va_P (dC, dI) vwCl [(h0, .inr (10, [.int 0, .int 0, .int 0, .int 0, .int 0, .int 0, .int 0, .int 0, .int 0, .int 0, .int 0, .int 0, .null, .null]))] H := hP
  replace hD : va_D A [(h0, .inr (10, [.int 0, .int 0, .int 0, .int 0, .int 0, .int 0, .int 0, .int 0, .int 0, .int 0, .int 0, .int 0, .null, .null]))] := hD
  refine lv_aload_n hx hb dX9_init_24 rfl (lv_at hl 0 rfl) ?_
  refine lv_iconst (v := 0) hx hb dX9_init_25 (by decide) ?_
  refine va_put (D := (dC, dI)) (ci := 10) (v := .int 0) (ty := .int) (C := RX9) (T := TX9) (N := 14) hx hb hts in_c_X9_init_X9 tyX9 tyX9_ok nmX9 hown hK hP hD hS 0 rfl rfl 4 (by decide) (hts (.fieldLink RX9 25 "ClaimBus$Transport" "packets" "I") (List.mem_of_getElem? (i := 8) rfl)) (fun _ h9 => h9) rfl (by decide +kernel) rfl rfl (Nat.le_of_ble_eq_true rfl) dX9_init_26 (fun H locs hP hD hS => ?_)
  replace hP : va_P (dC, dI) vwCl [(h0, .inr (10, [.int 0, .int 0, .int 0, .int 0, .int 0, .int 0, .int 0, .int 0, .int 0, .int 0, .int 0, .int 0, .null, .null]))] H := hP
  replace hD : va_D A [(h0, .inr (10, [.int 0, .int 0, .int 0, .int 0, .int 0, .int 0, .int 0, .int 0, .int 0, .int 0, .int 0, .int 0, .null, .null]))] := hD
  refine lv_aload_n hx hb dX9_init_29 rfl (lv_at hl 0 rfl) ?_
  refine lv_iconst (v := 0) hx hb dX9_init_30 (by decide) ?_
  refine va_put (D := (dC, dI)) (ci := 10) (v := .int 0) (ty := .int) (C := RX9) (T := TX9) (N := 14) hx hb hts in_c_X9_init_X9 tyX9 tyX9_ok nmX9 hown hK hP hD hS 0 rfl rfl 5 (by decide) (hts (.fieldLink RX9 28 "ClaimBus$Transport" "window" "I") (List.mem_of_getElem? (i := 9) rfl)) (fun _ h9 => h9) rfl (by decide +kernel) rfl rfl (Nat.le_of_ble_eq_true rfl) dX9_init_31 (fun H locs hP hD hS => ?_)
  replace hP : va_P (dC, dI) vwCl [(h0, .inr (10, [.int 0, .int 0, .int 0, .int 0, .int 0, .int 0, .int 0, .int 0, .int 0, .int 0, .int 0, .int 0, .null, .null]))] H := hP
  replace hD : va_D A [(h0, .inr (10, [.int 0, .int 0, .int 0, .int 0, .int 0, .int 0, .int 0, .int 0, .int 0, .int 0, .int 0, .int 0, .null, .null]))] := hD
  refine lv_aload_n hx hb dX9_init_34 rfl (lv_at hl 0 rfl) ?_
  refine lv_iconst (v := 1) hx hb dX9_init_35 (by decide) ?_
  refine va_put (D := (dC, dI)) (ci := 10) (v := .int 1) (ty := .int) (C := RX9) (T := TX9) (N := 14) hx hb hts in_c_X9_init_X9 tyX9 tyX9_ok nmX9 hown hK hP hD hS 0 rfl rfl 6 (by decide) (hts (.fieldLink RX9 31 "ClaimBus$Transport" "expected" "I") (List.mem_of_getElem? (i := 10) rfl)) (fun _ h9 => h9) rfl (by decide +kernel) rfl rfl (Nat.le_of_ble_eq_true rfl) dX9_init_36 (fun H locs hP hD hS => ?_)
  replace hP : va_P (dC, dI) vwCl [(h0, .inr (10, [.int 0, .int 0, .int 0, .int 0, .int 0, .int 0, .int 1, .int 0, .int 0, .int 0, .int 0, .int 0, .null, .null]))] H := hP
  replace hD : va_D A [(h0, .inr (10, [.int 0, .int 0, .int 0, .int 0, .int 0, .int 0, .int 1, .int 0, .int 0, .int 0, .int 0, .int 0, .null, .null]))] := hD
  refine lv_aload_n hx hb dX9_init_39 rfl (lv_at hl 0 rfl) ?_
  refine lv_iconst (v := 0) hx hb dX9_init_40 (by decide) ?_
  refine va_put (D := (dC, dI)) (ci := 10) (v := .int 0) (ty := .int) (C := RX9) (T := TX9) (N := 14) hx hb hts in_c_X9_init_X9 tyX9 tyX9_ok nmX9 hown hK hP hD hS 0 rfl rfl 7 (by decide) (hts (.fieldLink RX9 34 "ClaimBus$Transport" "clearedTo" "I") (List.mem_of_getElem? (i := 11) rfl)) (fun _ h9 => h9) rfl (by decide +kernel) rfl rfl (Nat.le_of_ble_eq_true rfl) dX9_init_41 (fun H locs hP hD hS => ?_)
  replace hP : va_P (dC, dI) vwCl [(h0, .inr (10, [.int 0, .int 0, .int 0, .int 0, .int 0, .int 0, .int 1, .int 0, .int 0, .int 0, .int 0, .int 0, .null, .null]))] H := hP
  replace hD : va_D A [(h0, .inr (10, [.int 0, .int 0, .int 0, .int 0, .int 0, .int 0, .int 1, .int 0, .int 0, .int 0, .int 0, .int 0, .null, .null]))] := hD
  refine lv_aload_n hx hb dX9_init_44 rfl (lv_at hl 0 rfl) ?_
  refine lv_iconst (v := 0) hx hb dX9_init_45 (by decide) ?_
  refine va_put (D := (dC, dI)) (ci := 10) (v := .int 0) (ty := .int) (C := RX9) (T := TX9) (N := 14) hx hb hts in_c_X9_init_X9 tyX9 tyX9_ok nmX9 hown hK hP hD hS 0 rfl rfl 8 (by decide) (hts (.fieldLink RX9 37 "ClaimBus$Transport" "lastHeard" "I") (List.mem_of_getElem? (i := 12) rfl)) (fun _ h9 => h9) rfl (by decide +kernel) rfl rfl (Nat.le_of_ble_eq_true rfl) dX9_init_46 (fun H locs hP hD hS => ?_)
  replace hP : va_P (dC, dI) vwCl [(h0, .inr (10, [.int 0, .int 0, .int 0, .int 0, .int 0, .int 0, .int 1, .int 0, .int 0, .int 0, .int 0, .int 0, .null, .null]))] H := hP
  replace hD : va_D A [(h0, .inr (10, [.int 0, .int 0, .int 0, .int 0, .int 0, .int 0, .int 1, .int 0, .int 0, .int 0, .int 0, .int 0, .null, .null]))] := hD
  refine lv_aload_n hx hb dX9_init_49 rfl (lv_at hl 0 rfl) ?_
  refine lv_iconst (v := 0) hx hb dX9_init_50 (by decide) ?_
  refine va_put (D := (dC, dI)) (ci := 10) (v := .int 0) (ty := .int) (C := RX9) (T := TX9) (N := 14) hx hb hts in_c_X9_init_X9 tyX9 tyX9_ok nmX9 hown hK hP hD hS 0 rfl rfl 9 (by decide) (hts (.fieldLink RX9 40 "ClaimBus$Transport" "waits" "I") (List.mem_of_getElem? (i := 13) rfl)) (fun _ h9 => h9) rfl (by decide +kernel) rfl rfl (Nat.le_of_ble_eq_true rfl) dX9_init_51 (fun H locs hP hD hS => ?_)
  replace hP : va_P (dC, dI) vwCl [(h0, .inr (10, [.int 0, .int 0, .int 0, .int 0, .int 0, .int 0, .int 1, .int 0, .int 0, .int 0, .int 0, .int 0, .null, .null]))] H := hP
  replace hD : va_D A [(h0, .inr (10, [.int 0, .int 0, .int 0, .int 0, .int 0, .int 0, .int 1, .int 0, .int 0, .int 0, .int 0, .int 0, .null, .null]))] := hD
  refine lv_aload_n hx hb dX9_init_54 rfl (lv_at hl 0 rfl) ?_
  refine lv_iconst (v := 0) hx hb dX9_init_55 (by decide) ?_
  refine va_put (D := (dC, dI)) (ci := 10) (v := .int 0) (ty := .int) (C := RX9) (T := TX9) (N := 14) hx hb hts in_c_X9_init_X9 tyX9 tyX9_ok nmX9 hown hK hP hD hS 0 rfl rfl 10 (by decide) (hts (.fieldLink RX9 43 "ClaimBus$Transport" "sum" "I") (List.mem_of_getElem? (i := 14) rfl)) (fun _ h9 => h9) rfl (by decide +kernel) rfl rfl (Nat.le_of_ble_eq_true rfl) dX9_init_56 (fun H locs hP hD hS => ?_)
  replace hP : va_P (dC, dI) vwCl [(h0, .inr (10, [.int 0, .int 0, .int 0, .int 0, .int 0, .int 0, .int 1, .int 0, .int 0, .int 0, .int 0, .int 0, .null, .null]))] H := hP
  replace hD : va_D A [(h0, .inr (10, [.int 0, .int 0, .int 0, .int 0, .int 0, .int 0, .int 1, .int 0, .int 0, .int 0, .int 0, .int 0, .null, .null]))] := hD
  refine lv_aload_n hx hb dX9_init_59 rfl (lv_at hl 0 rfl) ?_
  refine lv_iconst (v := 1) hx hb dX9_init_60 (by decide) ?_
  refine va_put (D := (dC, dI)) (ci := 10) (v := .int 1) (ty := .boolean) (C := RX9) (T := TX9) (N := 14) hx hb hts in_c_X9_init_X9 tyX9 tyX9_ok nmX9 hown hK hP hD hS 0 rfl rfl 11 (by decide) (hts (.fieldLink RX9 46 "ClaimBus$Transport" "isAsSent" "Z") (List.mem_of_getElem? (i := 15) rfl)) (fun _ h9 => h9) rfl (by decide +kernel) rfl rfl (Nat.le_of_ble_eq_true rfl) dX9_init_61 (fun H locs hP hD hS => ?_)
  replace hP : va_P (dC, dI) vwCl [(h0, .inr (10, [.int 0, .int 0, .int 0, .int 0, .int 0, .int 0, .int 1, .int 0, .int 0, .int 0, .int 0, .int 1, .null, .null]))] H := hP
  replace hD : va_D A [(h0, .inr (10, [.int 0, .int 0, .int 0, .int 0, .int 0, .int 0, .int 1, .int 0, .int 0, .int 0, .int 0, .int 1, .null, .null]))] := hD
  refine lv_aload_n hx hb dX9_init_64 rfl (lv_at hl 0 rfl) ?_
  refine lv_null hx hb dX9_init_65 ?_
  refine va_put (D := (dC, dI)) (ci := 10) (v := .null) (ty := (.object "ClaimBus$Message")) (C := RX9) (T := TX9) (N := 14) hx hb hts in_c_X9_init_X9 tyX9 tyX9_ok nmX9 hown hK hP hD hS 0 rfl rfl 12 (by decide) (hts (.fieldLink RX9 49 "ClaimBus$Transport" "whole" "LClaimBus$Message;") (List.mem_of_getElem? (i := 16) rfl)) (fun _ h9 => h9) rfl (by decide +kernel) rfl rfl (Nat.le_of_ble_eq_true rfl) dX9_init_66 (fun H locs hP hD hS => ?_)
  replace hP : va_P (dC, dI) vwCl [(h0, .inr (10, [.int 0, .int 0, .int 0, .int 0, .int 0, .int 0, .int 1, .int 0, .int 0, .int 0, .int 0, .int 1, .null, .null]))] H := hP
  replace hD : va_D A [(h0, .inr (10, [.int 0, .int 0, .int 0, .int 0, .int 0, .int 0, .int 1, .int 0, .int 0, .int 0, .int 0, .int 1, .null, .null]))] := hD
  refine lv_aload_n hx hb dX9_init_69 rfl (lv_at hl 0 rfl) ?_
  refine lv_bipush (v := 42) hx hb dX9_init_70 (by decide) ?_
  refine va_newa (atype := .int) (ty := .int) (N' := 42) (a0 := (42, .inl (fun _ => 0))) hx hb (hts (.arrayClass .int) (List.mem_of_getElem? (i := 17) rfl)) rfl hK hP hD hS hA (fun _ => rfl) (by decide) (by decide) (Nat.le_of_ble_eq_true rfl) (Nat.le_of_ble_eq_true rfl) (Nat.le_of_ble_eq_true rfl) dX9_init_72 (fun q1 cA1 H hK hP hD hS => ?_)
  replace hK : va_K (dC, dI) vwCl [(cA1, .int)] s := hK
  replace hP : va_P (dC, dI) vwCl [(h0, .inr (10, [.int 0, .int 0, .int 0, .int 0, .int 0, .int 0, .int 1, .int 0, .int 0, .int 0, .int 0, .int 1, .null, .null])), (q1, .inl (cA1, 42, .inl (fun _ => 0)))] H := hP
  replace hD : va_D A [(h0, .inr (10, [.int 0, .int 0, .int 0, .int 0, .int 0, .int 0, .int 1, .int 0, .int 0, .int 0, .int 0, .int 1, .null, .null])), (q1, .inl (cA1, 42, .inl (fun _ => 0)))] := hD
  refine W.widen (k := 1) (n := 42) (Nat.le_of_ble_eq_true rfl) (Nat.le_of_ble_eq_true rfl) ?_
  refine va_putF (D := (dC, dI)) (ci := 10) (v := .ref q1) (ty := (.array .int)) (C := RX9) (T := TX9) (N := 14) hx hb hts in_c_X9_init_X9 tyX9 tyX9_ok nmX9 hown hK hP hD hS 0 rfl rfl 13 (by decide) (hts (.fieldLink RX9 53 "ClaimBus$Transport" "beginning" "[I") (List.mem_of_getElem? (i := 18) rfl)) (fun _ h9 => h9) rfl hin rfl (by decide +kernel) rfl rfl (Nat.le_of_ble_eq_true rfl) dX9_init_74 (fun H locs hP hD hS => ?_)
  replace hP : va_P (dC, dI) vwCl [(h0, .inr (10, [.int 0, .int 0, .int 0, .int 0, .int 0, .int 0, .int 1, .int 0, .int 0, .int 0, .int 0, .int 1, .null, .ref q1])), (q1, .inl (cA1, 42, .inl (fun _ => 0)))] H := hP
  replace hD : va_D A [(h0, .inr (10, [.int 0, .int 0, .int 0, .int 0, .int 0, .int 0, .int 1, .int 0, .int 0, .int 0, .int 0, .int 1, .null, .ref q1])), (q1, .inl (cA1, 42, .inl (fun _ => 0)))] := hD
  have hP9 := hP.sub (ws' := [(h0, .inr (10, [.int 0, .int 0, .int 0, .int 0, .int 0, .int 0, .int 1, .int 0, .int 0, .int 0, .int 0, .int 1, .null, .ref q1])), (q1, .inl (cA1, 42, .inl (fun _ => 0)))]) [0, 1] rfl
  have hD9 := hD.sub (ws' := [(h0, .inr (10, [.int 0, .int 0, .int 0, .int 0, .int 0, .int 0, .int 1, .int 0, .int 0, .int 0, .int 0, .int 1, .null, .ref q1])), (q1, .inl (cA1, 42, .inl (fun _ => 0)))]) [0, 1] (by decide +kernel) rfl
  have hK9 := hK.sub (tys' := [(cA1, .int)]) [0] rfl
  exact W.vret hx hb hr (fun t ht hW => ⟨⟨(), rfl, trivial, ⟨q1, cA1, by rw [ht]; exact hP9, va_K.moved hW.alike hK9, hD9⟩⟩, hS.F ht⟩) hS.2.2 dX9_init_77

noncomputable def tl_c_beginN : List Cond := wsX90 ++ (wsX10 ++ (wsX30 ++ (v_c_X1_source ++ (v_c_X1_cgN ++ (v_c_X1_byteAt_1 ++ (v_c_X1_byteAt_2 ++ (v_c_X1_byteAt_3 ++ (v_c_X1_byteAt_4))))))))
noncomputable def v_c_beginN : List Cond := .code yX9_begin cX9_begin 3 none :: ([.fieldLink RX9 9 "ClaimBus$Transport" "open" "Z", .initialized RX1, .methodLink RX9 57 yX1_source, .instanceMethod yX1_source, .selects RX1 yX1_source yX1_source, .fieldLink RX9 15 "ClaimBus$Transport" "source" "I", .methodLink RX9 62 yX1_controlGroup, .instanceMethod yX1_controlGroup, .selects RX1 yX1_controlGroup yX1_controlGroup, .fieldLink RX9 19 "ClaimBus$Transport" "group" "I", .methodLink RX9 65 yX1_byteAt, .instanceMethod yX1_byteAt, .selects RX1 yX1_byteAt yX1_byteAt, .fieldLink RX9 22 "ClaimBus$Transport" "size" "I", .fieldLink RX9 25 "ClaimBus$Transport" "packets" "I", .fieldLink RX9 28 "ClaimBus$Transport" "window" "I", .fieldLink RX9 31 "ClaimBus$Transport" "expected" "I", .fieldLink RX9 34 "ClaimBus$Transport" "clearedTo" "I", .fieldLink RX9 37 "ClaimBus$Transport" "lastHeard" "I", .fieldLink RX9 40 "ClaimBus$Transport" "waits" "I", .fieldLink RX9 43 "ClaimBus$Transport" "sum" "I", .fieldLink RX9 69 "ClaimBus$Frame" "whole" "LClaimBus$Message;", .fieldLink RX9 49 "ClaimBus$Transport" "whole" "LClaimBus$Message;", .fieldLink RX9 70 "ClaimBus$Message" "size" "I", .fieldLink RX9 73 "ClaimBus$Message" "group" "I", .fieldLink RX9 46 "ClaimBus$Transport" "isAsSent" "Z"] ++ tl_c_beginN)
theorem it_c_beginN : ∀ w ∈ tl_c_beginN, w ∈ v_c_beginN := fun w h => List.mem_cons_of_mem _ (List.mem_append_right _ h)
theorem in_c_beginN_X9 : ∀ w ∈ wsX90, w ∈ v_c_beginN := fun w h => it_c_beginN w (List.mem_append_left _ h)
theorem in_c_beginN_X1 : ∀ w ∈ wsX10, w ∈ v_c_beginN := fun w h => it_c_beginN w (List.mem_append_right _ (List.mem_append_left _ h))
theorem in_c_beginN_X3 : ∀ w ∈ wsX30, w ∈ v_c_beginN := fun w h => it_c_beginN w (List.mem_append_right _ (List.mem_append_right _ (List.mem_append_left _ h)))
theorem ic_c_beginN_c_X1_source : ∀ w ∈ v_c_X1_source, w ∈ v_c_beginN := fun w h => it_c_beginN w (List.mem_append_right _ (List.mem_append_right _ (List.mem_append_right _ (List.mem_append_left _ h))))
theorem ic_c_beginN_c_X1_cgN : ∀ w ∈ v_c_X1_cgN, w ∈ v_c_beginN := fun w h => it_c_beginN w (List.mem_append_right _ (List.mem_append_right _ (List.mem_append_right _ (List.mem_append_right _ (List.mem_append_left _ h)))))
theorem ic_c_beginN_c_X1_byteAt_1 : ∀ w ∈ v_c_X1_byteAt_1, w ∈ v_c_beginN := fun w h => it_c_beginN w (List.mem_append_right _ (List.mem_append_right _ (List.mem_append_right _ (List.mem_append_right _ (List.mem_append_right _ (List.mem_append_left _ h))))))
theorem ic_c_beginN_c_X1_byteAt_2 : ∀ w ∈ v_c_X1_byteAt_2, w ∈ v_c_beginN := fun w h => it_c_beginN w (List.mem_append_right _ (List.mem_append_right _ (List.mem_append_right _ (List.mem_append_right _ (List.mem_append_right _ (List.mem_append_right _ (List.mem_append_left _ h)))))))
theorem ic_c_beginN_c_X1_byteAt_3 : ∀ w ∈ v_c_X1_byteAt_3, w ∈ v_c_beginN := fun w h => it_c_beginN w (List.mem_append_right _ (List.mem_append_right _ (List.mem_append_right _ (List.mem_append_right _ (List.mem_append_right _ (List.mem_append_right _ (List.mem_append_right _ (List.mem_append_left _ h))))))))
theorem ic_c_beginN_c_X1_byteAt_4 : ∀ w ∈ v_c_X1_byteAt_4, w ∈ v_c_beginN := fun w h => it_c_beginN w (List.mem_append_right _ (List.mem_append_right _ (List.mem_append_right _ (List.mem_append_right _ (List.mem_append_right _ (List.mem_append_right _ (List.mem_append_right _ (List.mem_append_right _ (h)))))))))
theorem gt_c_beginN : ∀ w ∈ tl_c_beginN, goodWord w = true := List.forall_mem_append.mpr ⟨gw_wsX90, List.forall_mem_append.mpr ⟨gw_wsX10, List.forall_mem_append.mpr ⟨gw_wsX30, List.forall_mem_append.mpr ⟨gw_c_X1_source, List.forall_mem_append.mpr ⟨gw_c_X1_cgN, List.forall_mem_append.mpr ⟨gw_c_X1_byteAt_1, List.forall_mem_append.mpr ⟨gw_c_X1_byteAt_2, List.forall_mem_append.mpr ⟨gw_c_X1_byteAt_3, gw_c_X1_byteAt_4⟩⟩⟩⟩⟩⟩⟩⟩
theorem gw_c_beginN : ∀ w ∈ v_c_beginN, goodWord w = true := List.forall_mem_cons.mpr ⟨by decide +kernel, List.forall_mem_append.mpr ⟨List.all_eq_true.mp (by decide +kernel), gt_c_beginN⟩⟩
theorem g_c_beginN_c_X1_source_57 : GoodIn v_c_beginN (wsV RX9 57 RX1 yX1_source v_c_X1_source) := goodIn_app (goodIn_r [.methodLink RX9 57 yX1_source, .instanceMethod yX1_source, .selects RX1 yX1_source yX1_source, .initialized RX1] [3, 4, 5, 2] (by decide +kernel) (by decide +kernel)) (fun w h => ⟨ic_c_beginN_c_X1_source w h, good_of_word (gw_c_X1_source w h)⟩)
theorem g_c_beginN_c_X1_cgN_62 : GoodIn v_c_beginN (wsV RX9 62 RX1 yX1_controlGroup v_c_X1_cgN) := goodIn_app (goodIn_r [.methodLink RX9 62 yX1_controlGroup, .instanceMethod yX1_controlGroup, .selects RX1 yX1_controlGroup yX1_controlGroup, .initialized RX1] [7, 8, 9, 2] (by decide +kernel) (by decide +kernel)) (fun w h => ⟨ic_c_beginN_c_X1_cgN w h, good_of_word (gw_c_X1_cgN w h)⟩)
theorem g_c_beginN_c_X1_byteAt_1_65 : GoodIn v_c_beginN (wsV RX9 65 RX1 yX1_byteAt v_c_X1_byteAt_1) := goodIn_app (goodIn_r [.methodLink RX9 65 yX1_byteAt, .instanceMethod yX1_byteAt, .selects RX1 yX1_byteAt yX1_byteAt, .initialized RX1] [11, 12, 13, 2] (by decide +kernel) (by decide +kernel)) (fun w h => ⟨ic_c_beginN_c_X1_byteAt_1 w h, good_of_word (gw_c_X1_byteAt_1 w h)⟩)
theorem g_c_beginN_c_X1_byteAt_2_65 : GoodIn v_c_beginN (wsV RX9 65 RX1 yX1_byteAt v_c_X1_byteAt_2) := goodIn_app (goodIn_r [.methodLink RX9 65 yX1_byteAt, .instanceMethod yX1_byteAt, .selects RX1 yX1_byteAt yX1_byteAt, .initialized RX1] [11, 12, 13, 2] (by decide +kernel) (by decide +kernel)) (fun w h => ⟨ic_c_beginN_c_X1_byteAt_2 w h, good_of_word (gw_c_X1_byteAt_2 w h)⟩)
theorem g_c_beginN_c_X1_byteAt_3_65 : GoodIn v_c_beginN (wsV RX9 65 RX1 yX1_byteAt v_c_X1_byteAt_3) := goodIn_app (goodIn_r [.methodLink RX9 65 yX1_byteAt, .instanceMethod yX1_byteAt, .selects RX1 yX1_byteAt yX1_byteAt, .initialized RX1] [11, 12, 13, 2] (by decide +kernel) (by decide +kernel)) (fun w h => ⟨ic_c_beginN_c_X1_byteAt_3 w h, good_of_word (gw_c_X1_byteAt_3 w h)⟩)
theorem g_c_beginN_c_X1_byteAt_4_65 : GoodIn v_c_beginN (wsV RX9 65 RX1 yX1_byteAt v_c_X1_byteAt_4) := goodIn_app (goodIn_r [.methodLink RX9 65 yX1_byteAt, .instanceMethod yX1_byteAt, .selects RX1 yX1_byteAt yX1_byteAt, .initialized RX1] [11, 12, 13, 2] (by decide +kernel) (by decide +kernel)) (fun w h => ⟨ic_c_beginN_c_X1_byteAt_4 w h, good_of_word (gw_c_X1_byteAt_4 w h)⟩)
set_option maxHeartbeats 4000000 in
set_option maxRecDepth 100000 in
/-- Transport.begin -/
theorem c_beginN (l : Launch) (dC : Nat → ClassId) (dI : Nat → Nat → Nat) (tr : Nat) (j0 : Int32) (j1 : Int32) (j2 : Int32) (j3 : Int32) (j4 : Int32) (j5 : Int32) (j6 : Int32) (j7 : Int32) (j8 : Int32) (j9 : Int32) (j10 : Int32) (j11 : Int32) (tb : Nat) (h1 : Nat) (fi : Nat) (kk : Nat) (se : Nat) (mm : Nat) (mi : Nat) (mt : Nat) (mg : Nat) (ms : Nat) (sd : Int32) (tl : Nat) (sz : Nat) (hfi : fi < 536870912) (hkk : kk < 256) (hse : se < 256) (hms1 : 1 ≤ ms) (hmi : mi < 8) (hmt : mt < 256) (hmg : mg < 262144) (hms : ms < 1786) : Met l yX9_begin v_c_beginN ({ frames := 1, cells := 0, slots := 0, locals := 21 }) (va_Pc [.ref tr, .ref h1, .int (nI tl)] (fun U => U.heap.size = sz ∧ va_P (dC, dI) vwCl [(tr, .inr (10, [.int j0, .int j1, .int j2, .int j3, .int j4, .int j5, .int j6, .int j7, .int j8, .int j9, .int j10, .int j11, .null, .ref tb])), (h1, .inr (2, [.int (nI fi), .int (nI (kk + 256 * (ms % 256) + 65536 * (ms / 256) + 16777216 * ((ms + 6) / 7))), .int (nI (se + 256 * mg)), .ref mm])), (mm, .inr (4, [.int (nI mi), .int (nI mt), .int (nI mg), .int (nI ms), .int sd, .null]))] U.heap ∧ va_K (dC, dI) vwCl [] U ∧ va_D (fun _ => True) [(tr, .inr (10, [.int j0, .int j1, .int j2, .int j3, .int j4, .int j5, .int j6, .int j7, .int j8, .int j9, .int j10, .int j11, .null, .ref tb])), (h1, .inr (2, [.int (nI fi), .int (nI (kk + 256 * (ms % 256) + 65536 * (ms / 256) + 16777216 * ((ms + 6) / 7))), .int (nI (se + 256 * mg)), .ref mm])), (mm, .inr (4, [.int (nI mi), .int (nI mt), .int (nI mg), .int (nI ms), .int sd, .null]))] ∧ ev U)) (va_Qv (fun _ : Unit => True) (fun (_ : Unit) (t : State) => va_P (dC, dI) vwCl [(tr, .inr (10, [.int 1, .int (nI (fi % 256)), .int (nI mg), .int (nI ms), .int (nI ((ms + 6) / 7)), .int (nI se), .int 1, .int 0, .int (nI tl), .int 0, .int 0, .int 1, .ref mm, .ref tb])), (h1, .inr (2, [.int (nI fi), .int (nI (kk + 256 * (ms % 256) + 65536 * (ms / 256) + 16777216 * ((ms + 6) / 7))), .int (nI (se + 256 * mg)), .ref mm])), (mm, .inr (4, [.int (nI mi), .int (nI mt), .int (nI mg), .int (nI ms), .int sd, .null]))] t.heap ∧ va_K (dC, dI) vwCl [] t ∧ va_D (va_A [(tr, .inr (10, [.int j0, .int j1, .int j2, .int j3, .int j4, .int j5, .int j6, .int j7, .int j8, .int j9, .int j10, .int j11, .null, .ref tb])), (h1, .inr (2, [.int (nI fi), .int (nI (kk + 256 * (ms % 256) + 65536 * (ms / 256) + 16777216 * ((ms + 6) / 7))), .int (nI (se + 256 * mg)), .ref mm])), (mm, .inr (4, [.int (nI mi), .int (nI mt), .int (nI mg), .int (nI ms), .int sd, .null]))] sz) [(tr, .inr (10, [.int 1, .int (nI (fi % 256)), .int (nI mg), .int (nI ms), .int (nI ((ms + 6) / 7)), .int (nI se), .int 1, .int 0, .int (nI tl), .int 0, .int 0, .int 1, .ref mm, .ref tb])), (h1, .inr (2, [.int (nI fi), .int (nI (kk + 256 * (ms % 256) + 65536 * (ms / 256) + 16777216 * ((ms + 6) / 7))), .int (nI (se + 256 * mg)), .ref mm])), (mm, .inr (4, [.int (nI mi), .int (nI mt), .int (nI mg), .int (nI ms), .int sd, .null]))]) (va_A [(tr, .inr (10, [.int j0, .int j1, .int j2, .int j3, .int j4, .int j5, .int j6, .int j7, .int j8, .int j9, .int j10, .int j11, .null, .ref tb])), (h1, .inr (2, [.int (nI fi), .int (nI (kk + 256 * (ms % 256) + 65536 * (ms / 256) + 16777216 * ((ms + 6) / 7))), .int (nI (se + 256 * mg)), .ref mm])), (mm, .inr (4, [.int (nI mi), .int (nI mt), .int (nI mg), .int (nI ms), .int sd, .null]))] sz)) 0 0 (va_A [(tr, .inr (10, [.int j0, .int j1, .int j2, .int j3, .int j4, .int j5, .int j6, .int j7, .int j8, .int j9, .int j10, .int j11, .null, .ref tb])), (h1, .inr (2, [.int (nI fi), .int (nI (kk + 256 * (ms % 256) + 65536 * (ms / 256) + 16777216 * ((ms + 6) / 7))), .int (nI (se + 256 * mg)), .ref mm])), (mm, .inr (4, [.int (nI mi), .int (nI mt), .int (nI mg), .int (nI ms), .int sd, .null]))] sz) := by
  refine Met.ofW (cc := cX9_begin) (maxL := 3) (ret := none) (by decide) rfl ?_
  intro p e s m args below meth c s₁ B hml hv
  obtain ⟨rfl, hsz, hP, hK, hD0, hE⟩ := hv
  have hx := B.exec
  have hb := B.bytes
  have hr := B.returns
  have hts := atoms_spec (ws := v_c_beginN) B.pre
  have hown : s.vm.findClass RX9 = some m.cls := findClass_of_methodNamed B.named
  have hlocks := B.notSynchronized
  subst hsz
  have hD := hD0.self (sz := s.heap.size)
  generalize hAe : va_A [(tr, .inr (10, [.int j0, .int j1, .int j2, .int j3, .int j4, .int j5, .int j6, .int j7, .int j8, .int j9, .int j10, .int j11, .null, .ref tb])), (h1, .inr (2, [.int (nI fi), .int (nI (kk + 256 * (ms % 256) + 65536 * (ms / 256) + 16777216 * ((ms + 6) / 7))), .int (nI (se + 256 * mg)), .ref mm])), (mm, .inr (4, [.int (nI mi), .int (nI mt), .int (nI mg), .int (nI ms), .int sd, .null]))] s.heap.size = A at hD ⊢
  have hA : ∀ q : Nat, s.heap.size ≤ q → A q := fun q h => by rw [← hAe]; exact Or.inr h
  have hS : va_S A s.heap s.heap [] := va_S.rf
  replace hP : va_P (dC, dI) vwCl [(tr, .inr (10, [.int j0, .int j1, .int j2, .int j3, .int j4, .int j5, .int j6, .int j7, .int j8, .int j9, .int j10, .int j11, .null, .ref tb])), (h1, .inr (2, [.int (nI fi), .int (nI (kk + 256 * (ms % 256) + 65536 * (ms / 256) + 16777216 * ((ms + 6) / 7))), .int (nI (se + 256 * mg)), .ref mm])), (mm, .inr (4, [.int (nI mi), .int (nI mt), .int (nI mg), .int (nI ms), .int sd, .null]))] s.heap := hP
  have hl := lv_entry ([.ref tr, .ref h1, .int (nI tl)]) (n := 3) (Nat.le_of_ble_eq_true rfl)
  rw [lg_entry_eq]
  generalize (lg_sl ([.ref tr, .ref h1, .int (nI tl)]) ++ List.replicate (3 - (lg_sl ([.ref tr, .ref h1, .int (nI tl)])).length) Slot.unset).toArray = ls at hl ⊢
  replace hl : lv_has ls 3 [(0, .ref tr), (1, .ref h1), (2, .int (nI tl))] := hl
  obtain ⟨H, hH⟩ : ∃ z : Heap, z = s.heap := ⟨_, rfl⟩
  rw [← hH]
  replace hS : va_S A s.heap H [] := by rw [hH]; exact va_S.rf
  replace hP : va_P (dC, dI) vwCl [(tr, .inr (10, [.int j0, .int j1, .int j2, .int j3, .int j4, .int j5, .int j6, .int j7, .int j8, .int j9, .int j10, .int j11, .null, .ref tb])), (h1, .inr (2, [.int (nI fi), .int (nI (kk + 256 * (ms % 256) + 65536 * (ms / 256) + 16777216 * ((ms + 6) / 7))), .int (nI (se + 256 * mg)), .ref mm])), (mm, .inr (4, [.int (nI mi), .int (nI mt), .int (nI mg), .int (nI ms), .int sd, .null]))] H := by rw [hH]; exact hP
  clear hH
  refine lv_aload_n hx hb dX9_begin_0 rfl (lv_at hl 0 rfl) ?_
  refine lv_iconst (v := 1) hx hb dX9_begin_1 (by decide) ?_
  refine va_put (D := (dC, dI)) (ci := 10) (v := .int 1) (ty := .boolean) (C := RX9) (T := TX9) (N := 14) hx hb hts in_c_beginN_X9 tyX9 tyX9_ok nmX9 hown hK hP hD hS 0 rfl rfl 0 (by decide) (hts (.fieldLink RX9 9 "ClaimBus$Transport" "open" "Z") (List.mem_of_getElem? (i := 1) rfl)) (fun _ h9 => h9) rfl (by decide +kernel) rfl rfl (Nat.le_of_ble_eq_true rfl) dX9_begin_2 (fun H locs hP hD hS => ?_)
  replace hP : va_P (dC, dI) vwCl [(tr, .inr (10, [.int 1, .int j1, .int j2, .int j3, .int j4, .int j5, .int j6, .int j7, .int j8, .int j9, .int j10, .int j11, .null, .ref tb])), (h1, .inr (2, [.int (nI fi), .int (nI (kk + 256 * (ms % 256) + 65536 * (ms / 256) + 16777216 * ((ms + 6) / 7))), .int (nI (se + 256 * mg)), .ref mm])), (mm, .inr (4, [.int (nI mi), .int (nI mt), .int (nI mg), .int (nI ms), .int sd, .null]))] H := hP
  replace hD : va_D A [(tr, .inr (10, [.int 1, .int j1, .int j2, .int j3, .int j4, .int j5, .int j6, .int j7, .int j8, .int j9, .int j10, .int j11, .null, .ref tb])), (h1, .inr (2, [.int (nI fi), .int (nI (kk + 256 * (ms % 256) + 65536 * (ms / 256) + 16777216 * ((ms + 6) / 7))), .int (nI (se + 256 * mg)), .ref mm])), (mm, .inr (4, [.int (nI mi), .int (nI mt), .int (nI mg), .int (nI ms), .int sd, .null]))] := hD
  refine lv_aload_n hx hb dX9_begin_5 rfl (lv_at hl 0 rfl) ?_
  refine lv_aload_n hx hb dX9_begin_6 rfl (lv_at hl 1 rfl) ?_
  have hPc := hP.sub (ws' := [(h1, .inr (2, [.int (nI fi), .int (nI (kk + 256 * (ms % 256) + 65536 * (ms / 256) + 16777216 * ((ms + 6) / 7))), .int (nI (se + 256 * mg)), .ref mm]))]) [1] rfl
  have hDc := hD.sub (ws' := [(h1, .inr (2, [.int (nI fi), .int (nI (kk + 256 * (ms % 256) + 65536 * (ms / 256) + 16777216 * ((ms + 6) / 7))), .int (nI (se + 256 * mg)), .ref mm]))]) [1] (by decide +kernel) rfl
  have hKc := hK.sub (tys' := []) [] rfl
  have hFc := ro_free hS hA
  refine va_calli (va_runV (As := []) (rest := [.ref tr]) ⟨hx, hb, hml, hown, hts⟩ (c_X1_source l dC dI (h1) (fi) ((nI (kk + 256 * (ms % 256) + 65536 * (ms / 256) + 16777216 * ((ms + 6) / 7)))) ((nI (se + 256 * mg))) (mm) H.size hfi) (cwV 0 hts g_c_beginN_c_X1_source_57 rfl rfl rfl (by decide +kernel) ⟨Nat.le_of_ble_eq_true rfl, Nat.le_of_ble_eq_true rfl⟩) ⟨fun a U g mk q => by obtain ⟨q0, q1, qP, qK, qD, qE⟩ := q; exact ⟨q0, q1, qP, va_K.moved (u := U) (U := U.calling g mk a) (Vm.Alike.refl U.vm) qK, qD, ev.same (u := U) (U := U.calling g mk a) rfl qE⟩, va_recv hKc hPc (ci := 2) (q0 := 0) rfl rfl, fun U hU hW => ⟨rfl, by rw [hU], by rw [hU]; exact hPc, va_K.moved hW.alike hKc, hDc.weaken (fun _ _ _ _ => trivial), hE.warm hW⟩⟩ rfl rfl hl.1 rfl (lv_room (Nat.le_of_ble_eq_true rfl)) dX9_begin_7 ⟨Nat.le_of_ble_eq_true rfl, Nat.le_of_ble_eq_true rfl⟩) hS (fun q _ h => hFc q h) hFc (fun r_1 u t H1 locs ht hvm hw hB hz1 hk1 hS => ?_)
  clear hPc hDc hKc
  replace hP := ro_keep hP hk1
  generalize H1 = H at hP hS ⊢
  replace hP : va_P (dC, dI) vwCl [(tr, .inr (10, [.int 1, .int j1, .int j2, .int j3, .int j4, .int j5, .int j6, .int j7, .int j8, .int j9, .int j10, .int j11, .null, .ref tb])), (h1, .inr (2, [.int (nI fi), .int (nI (kk + 256 * (ms % 256) + 65536 * (ms / 256) + 16777216 * ((ms + 6) / 7))), .int (nI (se + 256 * mg)), .ref mm])), (mm, .inr (4, [.int (nI mi), .int (nI mt), .int (nI mg), .int (nI ms), .int sd, .null]))] H := hP
  have hw := hw.symm
  subst hw
  refine va_put (D := (dC, dI)) (ci := 10) (v := .int (nI (fi % 256))) (ty := .int) (C := RX9) (T := TX9) (N := 14) hx hb hts in_c_beginN_X9 tyX9 tyX9_ok nmX9 hown hK hP hD hS 0 rfl rfl 1 (by decide) (hts (.fieldLink RX9 15 "ClaimBus$Transport" "source" "I") (List.mem_of_getElem? (i := 6) rfl)) (fun _ h9 => h9) rfl (by decide +kernel) rfl rfl (Nat.le_of_ble_eq_true rfl) dX9_begin_10 (fun H locs hP hD hS => ?_)
  replace hP : va_P (dC, dI) vwCl [(tr, .inr (10, [.int 1, .int (nI (fi % 256)), .int j2, .int j3, .int j4, .int j5, .int j6, .int j7, .int j8, .int j9, .int j10, .int j11, .null, .ref tb])), (h1, .inr (2, [.int (nI fi), .int (nI (kk + 256 * (ms % 256) + 65536 * (ms / 256) + 16777216 * ((ms + 6) / 7))), .int (nI (se + 256 * mg)), .ref mm])), (mm, .inr (4, [.int (nI mi), .int (nI mt), .int (nI mg), .int (nI ms), .int sd, .null]))] H := hP
  replace hD : va_D A [(tr, .inr (10, [.int 1, .int (nI (fi % 256)), .int j2, .int j3, .int j4, .int j5, .int j6, .int j7, .int j8, .int j9, .int j10, .int j11, .null, .ref tb])), (h1, .inr (2, [.int (nI fi), .int (nI (kk + 256 * (ms % 256) + 65536 * (ms / 256) + 16777216 * ((ms + 6) / 7))), .int (nI (se + 256 * mg)), .ref mm])), (mm, .inr (4, [.int (nI mi), .int (nI mt), .int (nI mg), .int (nI ms), .int sd, .null]))] := hD
  refine lv_aload_n hx hb dX9_begin_13 rfl (lv_at hl 0 rfl) ?_
  refine lv_aload_n hx hb dX9_begin_14 rfl (lv_at hl 1 rfl) ?_
  have hPc := hP.sub (ws' := [(h1, .inr (2, [.int (nI fi), .int (nI (kk + 256 * (ms % 256) + 65536 * (ms / 256) + 16777216 * ((ms + 6) / 7))), .int (nI (se + 256 * mg)), .ref mm]))]) [1] rfl
  have hDc := hD.sub (ws' := [(h1, .inr (2, [.int (nI fi), .int (nI (kk + 256 * (ms % 256) + 65536 * (ms / 256) + 16777216 * ((ms + 6) / 7))), .int (nI (se + 256 * mg)), .ref mm]))]) [1] (by decide +kernel) rfl
  have hKc := hK.sub (tys' := []) [] rfl
  have hFc := ro_free hS hA
  refine va_calli (va_runV (As := []) (rest := [.ref tr]) ⟨hx, hb, hml, hown, hts⟩ (c_X1_cgN l dC dI (h1) (fi) ((kk + 256 * (ms % 256) + 65536 * (ms / 256) + 16777216 * ((ms + 6) / 7))) ((se + 256 * mg)) (mm) H.size hfi (by omega) (by omega)) (cwV 0 hts g_c_beginN_c_X1_cgN_62 rfl rfl rfl (by decide +kernel) ⟨Nat.le_of_ble_eq_true rfl, Nat.le_of_ble_eq_true rfl⟩) ⟨fun a U g mk q => by obtain ⟨q0, q1, qP, qK, qD, qE⟩ := q; exact ⟨q0, q1, qP, va_K.moved (u := U) (U := U.calling g mk a) (Vm.Alike.refl U.vm) qK, qD, ev.same (u := U) (U := U.calling g mk a) rfl qE⟩, va_recv hKc hPc (ci := 2) (q0 := 0) rfl rfl, fun U hU hW => ⟨rfl, by rw [hU], by rw [hU]; exact hPc, va_K.moved hW.alike hKc, hDc.weaken (fun _ _ _ _ => trivial), hE.warm hW⟩⟩ rfl rfl hl.1 rfl (lv_room (Nat.le_of_ble_eq_true rfl)) dX9_begin_15 ⟨Nat.le_of_ble_eq_true rfl, Nat.le_of_ble_eq_true rfl⟩) hS (fun q _ h => hFc q h) hFc (fun r_2 u t H1 locs ht hvm hw hB hz1 hk1 hS => ?_)
  clear hPc hDc hKc
  replace hP := ro_keep hP hk1
  generalize H1 = H at hP hS ⊢
  replace hP : va_P (dC, dI) vwCl [(tr, .inr (10, [.int 1, .int (nI (fi % 256)), .int j2, .int j3, .int j4, .int j5, .int j6, .int j7, .int j8, .int j9, .int j10, .int j11, .null, .ref tb])), (h1, .inr (2, [.int (nI fi), .int (nI (kk + 256 * (ms % 256) + 65536 * (ms / 256) + 16777216 * ((ms + 6) / 7))), .int (nI (se + 256 * mg)), .ref mm])), (mm, .inr (4, [.int (nI mi), .int (nI mt), .int (nI mg), .int (nI ms), .int sd, .null]))] H := hP
  have hw := hw.symm
  subst hw
  refine va_put (D := (dC, dI)) (ci := 10) (v := .int (nI ((se + 256 * mg) / 256))) (ty := .int) (C := RX9) (T := TX9) (N := 14) hx hb hts in_c_beginN_X9 tyX9 tyX9_ok nmX9 hown hK hP hD hS 0 rfl rfl 2 (by decide) (hts (.fieldLink RX9 19 "ClaimBus$Transport" "group" "I") (List.mem_of_getElem? (i := 10) rfl)) (fun _ h9 => h9) rfl (by decide +kernel) rfl rfl (Nat.le_of_ble_eq_true rfl) dX9_begin_18 (fun H locs hP hD hS => ?_)
  replace hP : va_P (dC, dI) vwCl [(tr, .inr (10, [.int 1, .int (nI (fi % 256)), .int (nI ((se + 256 * mg) / 256)), .int j3, .int j4, .int j5, .int j6, .int j7, .int j8, .int j9, .int j10, .int j11, .null, .ref tb])), (h1, .inr (2, [.int (nI fi), .int (nI (kk + 256 * (ms % 256) + 65536 * (ms / 256) + 16777216 * ((ms + 6) / 7))), .int (nI (se + 256 * mg)), .ref mm])), (mm, .inr (4, [.int (nI mi), .int (nI mt), .int (nI mg), .int (nI ms), .int sd, .null]))] H := hP
  replace hD : va_D A [(tr, .inr (10, [.int 1, .int (nI (fi % 256)), .int (nI ((se + 256 * mg) / 256)), .int j3, .int j4, .int j5, .int j6, .int j7, .int j8, .int j9, .int j10, .int j11, .null, .ref tb])), (h1, .inr (2, [.int (nI fi), .int (nI (kk + 256 * (ms % 256) + 65536 * (ms / 256) + 16777216 * ((ms + 6) / 7))), .int (nI (se + 256 * mg)), .ref mm])), (mm, .inr (4, [.int (nI mi), .int (nI mt), .int (nI mg), .int (nI ms), .int sd, .null]))] := hD
  refine lv_aload_n hx hb dX9_begin_21 rfl (lv_at hl 0 rfl) ?_
  refine lv_aload_n hx hb dX9_begin_22 rfl (lv_at hl 1 rfl) ?_
  refine lv_iconst (v := 1) hx hb dX9_begin_23 (by decide) ?_
  have hPc := hP.sub (ws' := [(h1, .inr (2, [.int (nI fi), .int (nI (kk + 256 * (ms % 256) + 65536 * (ms / 256) + 16777216 * ((ms + 6) / 7))), .int (nI (se + 256 * mg)), .ref mm]))]) [1] rfl
  have hDc := hD.sub (ws' := [(h1, .inr (2, [.int (nI fi), .int (nI (kk + 256 * (ms % 256) + 65536 * (ms / 256) + 16777216 * ((ms + 6) / 7))), .int (nI (se + 256 * mg)), .ref mm]))]) [1] (by decide +kernel) rfl
  have hKc := hK.sub (tys' := []) [] rfl
  have hFc := ro_free hS hA
  refine va_calli (va_runV (As := [.int 1]) (rest := [.ref tr]) ⟨hx, hb, hml, hown, hts⟩ (c_X1_byteAt_1 l dC dI (h1) (fi) ((kk + 256 * (ms % 256) + 65536 * (ms / 256) + 16777216 * ((ms + 6) / 7))) ((se + 256 * mg)) (mm) H.size hfi (by omega) (by omega)) (cwV 1 hts g_c_beginN_c_X1_byteAt_1_65 rfl rfl rfl (by decide +kernel) ⟨Nat.le_of_ble_eq_true rfl, Nat.le_of_ble_eq_true rfl⟩) ⟨fun a U g mk q => by obtain ⟨q0, q1, qP, qK, qD, qE⟩ := q; exact ⟨q0, q1, qP, va_K.moved (u := U) (U := U.calling g mk a) (Vm.Alike.refl U.vm) qK, qD, ev.same (u := U) (U := U.calling g mk a) rfl qE⟩, va_recv hKc hPc (ci := 2) (q0 := 0) rfl rfl, fun U hU hW => ⟨rfl, by rw [hU], by rw [hU]; exact hPc, va_K.moved hW.alike hKc, hDc.weaken (fun _ _ _ _ => trivial), hE.warm hW⟩⟩ rfl rfl hl.1 rfl (lv_room (Nat.le_of_ble_eq_true rfl)) dX9_begin_24 ⟨Nat.le_of_ble_eq_true rfl, Nat.le_of_ble_eq_true rfl⟩) hS (fun q _ h => hFc q h) hFc (fun r_3 u t H1 locs ht hvm hw hB hz1 hk1 hS => ?_)
  clear hPc hDc hKc
  replace hP := ro_keep hP hk1
  generalize H1 = H at hP hS ⊢
  replace hP : va_P (dC, dI) vwCl [(tr, .inr (10, [.int 1, .int (nI (fi % 256)), .int (nI ((se + 256 * mg) / 256)), .int j3, .int j4, .int j5, .int j6, .int j7, .int j8, .int j9, .int j10, .int j11, .null, .ref tb])), (h1, .inr (2, [.int (nI fi), .int (nI (kk + 256 * (ms % 256) + 65536 * (ms / 256) + 16777216 * ((ms + 6) / 7))), .int (nI (se + 256 * mg)), .ref mm])), (mm, .inr (4, [.int (nI mi), .int (nI mt), .int (nI mg), .int (nI ms), .int sd, .null]))] H := hP
  have hw := hw.symm
  subst hw
  refine lv_aload_n hx hb dX9_begin_27 rfl (lv_at hl 1 rfl) ?_
  refine lv_iconst (v := 2) hx hb dX9_begin_28 (by decide) ?_
  have hPc := hP.sub (ws' := [(h1, .inr (2, [.int (nI fi), .int (nI (kk + 256 * (ms % 256) + 65536 * (ms / 256) + 16777216 * ((ms + 6) / 7))), .int (nI (se + 256 * mg)), .ref mm]))]) [1] rfl
  have hDc := hD.sub (ws' := [(h1, .inr (2, [.int (nI fi), .int (nI (kk + 256 * (ms % 256) + 65536 * (ms / 256) + 16777216 * ((ms + 6) / 7))), .int (nI (se + 256 * mg)), .ref mm]))]) [1] (by decide +kernel) rfl
  have hKc := hK.sub (tys' := []) [] rfl
  have hFc := ro_free hS hA
  refine va_calli (va_runV (As := [.int 2]) (rest := [.int (nI ((kk + 256 * (ms % 256) + 65536 * (ms / 256) + 16777216 * ((ms + 6) / 7)) / 256 % 256)), .ref tr]) ⟨hx, hb, hml, hown, hts⟩ (c_X1_byteAt_2 l dC dI (h1) (fi) ((kk + 256 * (ms % 256) + 65536 * (ms / 256) + 16777216 * ((ms + 6) / 7))) ((se + 256 * mg)) (mm) H.size hfi (by omega) (by omega)) (cwV 1 hts g_c_beginN_c_X1_byteAt_2_65 rfl rfl rfl (by decide +kernel) ⟨Nat.le_of_ble_eq_true rfl, Nat.le_of_ble_eq_true rfl⟩) ⟨fun a U g mk q => by obtain ⟨q0, q1, qP, qK, qD, qE⟩ := q; exact ⟨q0, q1, qP, va_K.moved (u := U) (U := U.calling g mk a) (Vm.Alike.refl U.vm) qK, qD, ev.same (u := U) (U := U.calling g mk a) rfl qE⟩, va_recv hKc hPc (ci := 2) (q0 := 0) rfl rfl, fun U hU hW => ⟨rfl, by rw [hU], by rw [hU]; exact hPc, va_K.moved hW.alike hKc, hDc.weaken (fun _ _ _ _ => trivial), hE.warm hW⟩⟩ rfl rfl hl.1 rfl (lv_room (Nat.le_of_ble_eq_true rfl)) dX9_begin_29 ⟨Nat.le_of_ble_eq_true rfl, Nat.le_of_ble_eq_true rfl⟩) hS (fun q _ h => hFc q h) hFc (fun r_4 u t H1 locs ht hvm hw hB hz1 hk1 hS => ?_)
  clear hPc hDc hKc
  replace hP := ro_keep hP hk1
  generalize H1 = H at hP hS ⊢
  replace hP : va_P (dC, dI) vwCl [(tr, .inr (10, [.int 1, .int (nI (fi % 256)), .int (nI ((se + 256 * mg) / 256)), .int j3, .int j4, .int j5, .int j6, .int j7, .int j8, .int j9, .int j10, .int j11, .null, .ref tb])), (h1, .inr (2, [.int (nI fi), .int (nI (kk + 256 * (ms % 256) + 65536 * (ms / 256) + 16777216 * ((ms + 6) / 7))), .int (nI (se + 256 * mg)), .ref mm])), (mm, .inr (4, [.int (nI mi), .int (nI mt), .int (nI mg), .int (nI ms), .int sd, .null]))] H := hP
  have hw := hw.symm
  subst hw
  refine lv_bipush (v := 8) hx hb dX9_begin_32 (by decide) ?_
  refine lv_ishl hx hb dX9_begin_34 ?_
  refine lv_topi (fun x_5 ex_5 => ?_)
  obtain rfl : x_5 = (nI (256 * ((((ms) / 256)) % 256))) := ex_5.trans ((pk_shlN (n := ((kk + 256 * (ms % 256) + 65536 * (ms / 256) + 16777216 * ((ms + 6) / 7)) / 65536 % 256)) ((8 : Int32) &&& 31) 8 (by decide) (by omega)).trans (show nI (((kk + 256 * (ms % 256) + 65536 * (ms / 256) + 16777216 * ((ms + 6) / 7)) / 65536 % 256) * 2 ^ 8) = nI (256 * ((((ms) / 256)) % 256)) from congrArg nI (by omega)))
  refine lv_ior hx hb dX9_begin_35 ?_
  refine lv_topi (fun x_6 ex_6 => ?_)
  obtain rfl : x_6 = (nI (256 * ((((ms) / 256)) % 256) + ((ms) % 256))) := ex_6.trans ((q_or' ((kk + 256 * (ms % 256) + 65536 * (ms / 256) + 16777216 * ((ms + 6) / 7)) / 256 % 256) (256 * ((((ms) / 256)) % 256)) 8 (by omega) (by omega) (by omega)).trans (show nI (((kk + 256 * (ms % 256) + 65536 * (ms / 256) + 16777216 * ((ms + 6) / 7)) / 256 % 256) + (256 * ((((ms) / 256)) % 256))) = nI (256 * ((((ms) / 256)) % 256) + ((ms) % 256)) from congrArg nI (by omega)))
  refine va_put (D := (dC, dI)) (ci := 10) (v := .int (nI (256 * ((((ms) / 256)) % 256) + ((ms) % 256)))) (ty := .int) (C := RX9) (T := TX9) (N := 14) hx hb hts in_c_beginN_X9 tyX9 tyX9_ok nmX9 hown hK hP hD hS 0 rfl rfl 3 (by decide) (hts (.fieldLink RX9 22 "ClaimBus$Transport" "size" "I") (List.mem_of_getElem? (i := 14) rfl)) (fun _ h9 => h9) rfl (by decide +kernel) rfl rfl (Nat.le_of_ble_eq_true rfl) dX9_begin_36 (fun H locs hP hD hS => ?_)
  replace hP : va_P (dC, dI) vwCl [(tr, .inr (10, [.int 1, .int (nI (fi % 256)), .int (nI ((se + 256 * mg) / 256)), .int (nI (256 * ((((ms) / 256)) % 256) + ((ms) % 256))), .int j4, .int j5, .int j6, .int j7, .int j8, .int j9, .int j10, .int j11, .null, .ref tb])), (h1, .inr (2, [.int (nI fi), .int (nI (kk + 256 * (ms % 256) + 65536 * (ms / 256) + 16777216 * ((ms + 6) / 7))), .int (nI (se + 256 * mg)), .ref mm])), (mm, .inr (4, [.int (nI mi), .int (nI mt), .int (nI mg), .int (nI ms), .int sd, .null]))] H := hP
  replace hD : va_D A [(tr, .inr (10, [.int 1, .int (nI (fi % 256)), .int (nI ((se + 256 * mg) / 256)), .int (nI (256 * ((((ms) / 256)) % 256) + ((ms) % 256))), .int j4, .int j5, .int j6, .int j7, .int j8, .int j9, .int j10, .int j11, .null, .ref tb])), (h1, .inr (2, [.int (nI fi), .int (nI (kk + 256 * (ms % 256) + 65536 * (ms / 256) + 16777216 * ((ms + 6) / 7))), .int (nI (se + 256 * mg)), .ref mm])), (mm, .inr (4, [.int (nI mi), .int (nI mt), .int (nI mg), .int (nI ms), .int sd, .null]))] := hD
  refine lv_aload_n hx hb dX9_begin_39 rfl (lv_at hl 0 rfl) ?_
  refine lv_aload_n hx hb dX9_begin_40 rfl (lv_at hl 1 rfl) ?_
  refine lv_iconst (v := 3) hx hb dX9_begin_41 (by decide) ?_
  have hPc := hP.sub (ws' := [(h1, .inr (2, [.int (nI fi), .int (nI (kk + 256 * (ms % 256) + 65536 * (ms / 256) + 16777216 * ((ms + 6) / 7))), .int (nI (se + 256 * mg)), .ref mm]))]) [1] rfl
  have hDc := hD.sub (ws' := [(h1, .inr (2, [.int (nI fi), .int (nI (kk + 256 * (ms % 256) + 65536 * (ms / 256) + 16777216 * ((ms + 6) / 7))), .int (nI (se + 256 * mg)), .ref mm]))]) [1] (by decide +kernel) rfl
  have hKc := hK.sub (tys' := []) [] rfl
  have hFc := ro_free hS hA
  refine va_calli (va_runV (As := [.int 3]) (rest := [.ref tr]) ⟨hx, hb, hml, hown, hts⟩ (c_X1_byteAt_3 l dC dI (h1) (fi) ((kk + 256 * (ms % 256) + 65536 * (ms / 256) + 16777216 * ((ms + 6) / 7))) ((se + 256 * mg)) (mm) H.size hfi (by omega) (by omega)) (cwV 1 hts g_c_beginN_c_X1_byteAt_3_65 rfl rfl rfl (by decide +kernel) ⟨Nat.le_of_ble_eq_true rfl, Nat.le_of_ble_eq_true rfl⟩) ⟨fun a U g mk q => by obtain ⟨q0, q1, qP, qK, qD, qE⟩ := q; exact ⟨q0, q1, qP, va_K.moved (u := U) (U := U.calling g mk a) (Vm.Alike.refl U.vm) qK, qD, ev.same (u := U) (U := U.calling g mk a) rfl qE⟩, va_recv hKc hPc (ci := 2) (q0 := 0) rfl rfl, fun U hU hW => ⟨rfl, by rw [hU], by rw [hU]; exact hPc, va_K.moved hW.alike hKc, hDc.weaken (fun _ _ _ _ => trivial), hE.warm hW⟩⟩ rfl rfl hl.1 rfl (lv_room (Nat.le_of_ble_eq_true rfl)) dX9_begin_42 ⟨Nat.le_of_ble_eq_true rfl, Nat.le_of_ble_eq_true rfl⟩) hS (fun q _ h => hFc q h) hFc (fun r_7 u t H1 locs ht hvm hw hB hz1 hk1 hS => ?_)
  clear hPc hDc hKc
  replace hP := ro_keep hP hk1
  generalize H1 = H at hP hS ⊢
  replace hP : va_P (dC, dI) vwCl [(tr, .inr (10, [.int 1, .int (nI (fi % 256)), .int (nI ((se + 256 * mg) / 256)), .int (nI (256 * ((((ms) / 256)) % 256) + ((ms) % 256))), .int j4, .int j5, .int j6, .int j7, .int j8, .int j9, .int j10, .int j11, .null, .ref tb])), (h1, .inr (2, [.int (nI fi), .int (nI (kk + 256 * (ms % 256) + 65536 * (ms / 256) + 16777216 * ((ms + 6) / 7))), .int (nI (se + 256 * mg)), .ref mm])), (mm, .inr (4, [.int (nI mi), .int (nI mt), .int (nI mg), .int (nI ms), .int sd, .null]))] H := hP
  have hw := hw.symm
  subst hw
  refine va_put (D := (dC, dI)) (ci := 10) (v := .int (nI ((kk + 256 * (ms % 256) + 65536 * (ms / 256) + 16777216 * ((ms + 6) / 7)) / 16777216 % 256))) (ty := .int) (C := RX9) (T := TX9) (N := 14) hx hb hts in_c_beginN_X9 tyX9 tyX9_ok nmX9 hown hK hP hD hS 0 rfl rfl 4 (by decide) (hts (.fieldLink RX9 25 "ClaimBus$Transport" "packets" "I") (List.mem_of_getElem? (i := 15) rfl)) (fun _ h9 => h9) rfl (by decide +kernel) rfl rfl (Nat.le_of_ble_eq_true rfl) dX9_begin_45 (fun H locs hP hD hS => ?_)
  replace hP : va_P (dC, dI) vwCl [(tr, .inr (10, [.int 1, .int (nI (fi % 256)), .int (nI ((se + 256 * mg) / 256)), .int (nI (256 * ((((ms) / 256)) % 256) + ((ms) % 256))), .int (nI ((kk + 256 * (ms % 256) + 65536 * (ms / 256) + 16777216 * ((ms + 6) / 7)) / 16777216 % 256)), .int j5, .int j6, .int j7, .int j8, .int j9, .int j10, .int j11, .null, .ref tb])), (h1, .inr (2, [.int (nI fi), .int (nI (kk + 256 * (ms % 256) + 65536 * (ms / 256) + 16777216 * ((ms + 6) / 7))), .int (nI (se + 256 * mg)), .ref mm])), (mm, .inr (4, [.int (nI mi), .int (nI mt), .int (nI mg), .int (nI ms), .int sd, .null]))] H := hP
  replace hD : va_D A [(tr, .inr (10, [.int 1, .int (nI (fi % 256)), .int (nI ((se + 256 * mg) / 256)), .int (nI (256 * ((((ms) / 256)) % 256) + ((ms) % 256))), .int (nI ((kk + 256 * (ms % 256) + 65536 * (ms / 256) + 16777216 * ((ms + 6) / 7)) / 16777216 % 256)), .int j5, .int j6, .int j7, .int j8, .int j9, .int j10, .int j11, .null, .ref tb])), (h1, .inr (2, [.int (nI fi), .int (nI (kk + 256 * (ms % 256) + 65536 * (ms / 256) + 16777216 * ((ms + 6) / 7))), .int (nI (se + 256 * mg)), .ref mm])), (mm, .inr (4, [.int (nI mi), .int (nI mt), .int (nI mg), .int (nI ms), .int sd, .null]))] := hD
  refine lv_aload_n hx hb dX9_begin_48 rfl (lv_at hl 0 rfl) ?_
  refine lv_aload_n hx hb dX9_begin_49 rfl (lv_at hl 1 rfl) ?_
  refine lv_iconst (v := 4) hx hb dX9_begin_50 (by decide) ?_
  have hPc := hP.sub (ws' := [(h1, .inr (2, [.int (nI fi), .int (nI (kk + 256 * (ms % 256) + 65536 * (ms / 256) + 16777216 * ((ms + 6) / 7))), .int (nI (se + 256 * mg)), .ref mm]))]) [1] rfl
  have hDc := hD.sub (ws' := [(h1, .inr (2, [.int (nI fi), .int (nI (kk + 256 * (ms % 256) + 65536 * (ms / 256) + 16777216 * ((ms + 6) / 7))), .int (nI (se + 256 * mg)), .ref mm]))]) [1] (by decide +kernel) rfl
  have hKc := hK.sub (tys' := []) [] rfl
  have hFc := ro_free hS hA
  refine va_calli (va_runV (As := [.int 4]) (rest := [.ref tr]) ⟨hx, hb, hml, hown, hts⟩ (c_X1_byteAt_4 l dC dI (h1) (fi) ((kk + 256 * (ms % 256) + 65536 * (ms / 256) + 16777216 * ((ms + 6) / 7))) ((se + 256 * mg)) (mm) H.size hfi (by omega) (by omega)) (cwV 1 hts g_c_beginN_c_X1_byteAt_4_65 rfl rfl rfl (by decide +kernel) ⟨Nat.le_of_ble_eq_true rfl, Nat.le_of_ble_eq_true rfl⟩) ⟨fun a U g mk q => by obtain ⟨q0, q1, qP, qK, qD, qE⟩ := q; exact ⟨q0, q1, qP, va_K.moved (u := U) (U := U.calling g mk a) (Vm.Alike.refl U.vm) qK, qD, ev.same (u := U) (U := U.calling g mk a) rfl qE⟩, va_recv hKc hPc (ci := 2) (q0 := 0) rfl rfl, fun U hU hW => ⟨rfl, by rw [hU], by rw [hU]; exact hPc, va_K.moved hW.alike hKc, hDc.weaken (fun _ _ _ _ => trivial), hE.warm hW⟩⟩ rfl rfl hl.1 rfl (lv_room (Nat.le_of_ble_eq_true rfl)) dX9_begin_51 ⟨Nat.le_of_ble_eq_true rfl, Nat.le_of_ble_eq_true rfl⟩) hS (fun q _ h => hFc q h) hFc (fun r_8 u t H1 locs ht hvm hw hB hz1 hk1 hS => ?_)
  clear hPc hDc hKc
  replace hP := ro_keep hP hk1
  generalize H1 = H at hP hS ⊢
  replace hP : va_P (dC, dI) vwCl [(tr, .inr (10, [.int 1, .int (nI (fi % 256)), .int (nI ((se + 256 * mg) / 256)), .int (nI (256 * ((((ms) / 256)) % 256) + ((ms) % 256))), .int (nI ((kk + 256 * (ms % 256) + 65536 * (ms / 256) + 16777216 * ((ms + 6) / 7)) / 16777216 % 256)), .int j5, .int j6, .int j7, .int j8, .int j9, .int j10, .int j11, .null, .ref tb])), (h1, .inr (2, [.int (nI fi), .int (nI (kk + 256 * (ms % 256) + 65536 * (ms / 256) + 16777216 * ((ms + 6) / 7))), .int (nI (se + 256 * mg)), .ref mm])), (mm, .inr (4, [.int (nI mi), .int (nI mt), .int (nI mg), .int (nI ms), .int sd, .null]))] H := hP
  have hw := hw.symm
  subst hw
  refine va_put (D := (dC, dI)) (ci := 10) (v := .int (nI ((se + 256 * mg) / 1 % 256))) (ty := .int) (C := RX9) (T := TX9) (N := 14) hx hb hts in_c_beginN_X9 tyX9 tyX9_ok nmX9 hown hK hP hD hS 0 rfl rfl 5 (by decide) (hts (.fieldLink RX9 28 "ClaimBus$Transport" "window" "I") (List.mem_of_getElem? (i := 16) rfl)) (fun _ h9 => h9) rfl (by decide +kernel) rfl rfl (Nat.le_of_ble_eq_true rfl) dX9_begin_54 (fun H locs hP hD hS => ?_)
  replace hP : va_P (dC, dI) vwCl [(tr, .inr (10, [.int 1, .int (nI (fi % 256)), .int (nI ((se + 256 * mg) / 256)), .int (nI (256 * ((((ms) / 256)) % 256) + ((ms) % 256))), .int (nI ((kk + 256 * (ms % 256) + 65536 * (ms / 256) + 16777216 * ((ms + 6) / 7)) / 16777216 % 256)), .int (nI ((se + 256 * mg) / 1 % 256)), .int j6, .int j7, .int j8, .int j9, .int j10, .int j11, .null, .ref tb])), (h1, .inr (2, [.int (nI fi), .int (nI (kk + 256 * (ms % 256) + 65536 * (ms / 256) + 16777216 * ((ms + 6) / 7))), .int (nI (se + 256 * mg)), .ref mm])), (mm, .inr (4, [.int (nI mi), .int (nI mt), .int (nI mg), .int (nI ms), .int sd, .null]))] H := hP
  replace hD : va_D A [(tr, .inr (10, [.int 1, .int (nI (fi % 256)), .int (nI ((se + 256 * mg) / 256)), .int (nI (256 * ((((ms) / 256)) % 256) + ((ms) % 256))), .int (nI ((kk + 256 * (ms % 256) + 65536 * (ms / 256) + 16777216 * ((ms + 6) / 7)) / 16777216 % 256)), .int (nI ((se + 256 * mg) / 1 % 256)), .int j6, .int j7, .int j8, .int j9, .int j10, .int j11, .null, .ref tb])), (h1, .inr (2, [.int (nI fi), .int (nI (kk + 256 * (ms % 256) + 65536 * (ms / 256) + 16777216 * ((ms + 6) / 7))), .int (nI (se + 256 * mg)), .ref mm])), (mm, .inr (4, [.int (nI mi), .int (nI mt), .int (nI mg), .int (nI ms), .int sd, .null]))] := hD
  refine lv_aload_n hx hb dX9_begin_57 rfl (lv_at hl 0 rfl) ?_
  refine lv_iconst (v := 1) hx hb dX9_begin_58 (by decide) ?_
  refine va_put (D := (dC, dI)) (ci := 10) (v := .int 1) (ty := .int) (C := RX9) (T := TX9) (N := 14) hx hb hts in_c_beginN_X9 tyX9 tyX9_ok nmX9 hown hK hP hD hS 0 rfl rfl 6 (by decide) (hts (.fieldLink RX9 31 "ClaimBus$Transport" "expected" "I") (List.mem_of_getElem? (i := 17) rfl)) (fun _ h9 => h9) rfl (by decide +kernel) rfl rfl (Nat.le_of_ble_eq_true rfl) dX9_begin_59 (fun H locs hP hD hS => ?_)
  replace hP : va_P (dC, dI) vwCl [(tr, .inr (10, [.int 1, .int (nI (fi % 256)), .int (nI ((se + 256 * mg) / 256)), .int (nI (256 * ((((ms) / 256)) % 256) + ((ms) % 256))), .int (nI ((kk + 256 * (ms % 256) + 65536 * (ms / 256) + 16777216 * ((ms + 6) / 7)) / 16777216 % 256)), .int (nI ((se + 256 * mg) / 1 % 256)), .int 1, .int j7, .int j8, .int j9, .int j10, .int j11, .null, .ref tb])), (h1, .inr (2, [.int (nI fi), .int (nI (kk + 256 * (ms % 256) + 65536 * (ms / 256) + 16777216 * ((ms + 6) / 7))), .int (nI (se + 256 * mg)), .ref mm])), (mm, .inr (4, [.int (nI mi), .int (nI mt), .int (nI mg), .int (nI ms), .int sd, .null]))] H := hP
  replace hD : va_D A [(tr, .inr (10, [.int 1, .int (nI (fi % 256)), .int (nI ((se + 256 * mg) / 256)), .int (nI (256 * ((((ms) / 256)) % 256) + ((ms) % 256))), .int (nI ((kk + 256 * (ms % 256) + 65536 * (ms / 256) + 16777216 * ((ms + 6) / 7)) / 16777216 % 256)), .int (nI ((se + 256 * mg) / 1 % 256)), .int 1, .int j7, .int j8, .int j9, .int j10, .int j11, .null, .ref tb])), (h1, .inr (2, [.int (nI fi), .int (nI (kk + 256 * (ms % 256) + 65536 * (ms / 256) + 16777216 * ((ms + 6) / 7))), .int (nI (se + 256 * mg)), .ref mm])), (mm, .inr (4, [.int (nI mi), .int (nI mt), .int (nI mg), .int (nI ms), .int sd, .null]))] := hD
  refine lv_aload_n hx hb dX9_begin_62 rfl (lv_at hl 0 rfl) ?_
  refine lv_iconst (v := 0) hx hb dX9_begin_63 (by decide) ?_
  refine va_put (D := (dC, dI)) (ci := 10) (v := .int 0) (ty := .int) (C := RX9) (T := TX9) (N := 14) hx hb hts in_c_beginN_X9 tyX9 tyX9_ok nmX9 hown hK hP hD hS 0 rfl rfl 7 (by decide) (hts (.fieldLink RX9 34 "ClaimBus$Transport" "clearedTo" "I") (List.mem_of_getElem? (i := 18) rfl)) (fun _ h9 => h9) rfl (by decide +kernel) rfl rfl (Nat.le_of_ble_eq_true rfl) dX9_begin_64 (fun H locs hP hD hS => ?_)
  replace hP : va_P (dC, dI) vwCl [(tr, .inr (10, [.int 1, .int (nI (fi % 256)), .int (nI ((se + 256 * mg) / 256)), .int (nI (256 * ((((ms) / 256)) % 256) + ((ms) % 256))), .int (nI ((kk + 256 * (ms % 256) + 65536 * (ms / 256) + 16777216 * ((ms + 6) / 7)) / 16777216 % 256)), .int (nI ((se + 256 * mg) / 1 % 256)), .int 1, .int 0, .int j8, .int j9, .int j10, .int j11, .null, .ref tb])), (h1, .inr (2, [.int (nI fi), .int (nI (kk + 256 * (ms % 256) + 65536 * (ms / 256) + 16777216 * ((ms + 6) / 7))), .int (nI (se + 256 * mg)), .ref mm])), (mm, .inr (4, [.int (nI mi), .int (nI mt), .int (nI mg), .int (nI ms), .int sd, .null]))] H := hP
  replace hD : va_D A [(tr, .inr (10, [.int 1, .int (nI (fi % 256)), .int (nI ((se + 256 * mg) / 256)), .int (nI (256 * ((((ms) / 256)) % 256) + ((ms) % 256))), .int (nI ((kk + 256 * (ms % 256) + 65536 * (ms / 256) + 16777216 * ((ms + 6) / 7)) / 16777216 % 256)), .int (nI ((se + 256 * mg) / 1 % 256)), .int 1, .int 0, .int j8, .int j9, .int j10, .int j11, .null, .ref tb])), (h1, .inr (2, [.int (nI fi), .int (nI (kk + 256 * (ms % 256) + 65536 * (ms / 256) + 16777216 * ((ms + 6) / 7))), .int (nI (se + 256 * mg)), .ref mm])), (mm, .inr (4, [.int (nI mi), .int (nI mt), .int (nI mg), .int (nI ms), .int sd, .null]))] := hD
  refine lv_aload_n hx hb dX9_begin_67 rfl (lv_at hl 0 rfl) ?_
  refine lv_iload_n hx hb dX9_begin_68 rfl (lv_at hl 2 rfl) ?_
  refine va_put (D := (dC, dI)) (ci := 10) (v := .int (nI tl)) (ty := .int) (C := RX9) (T := TX9) (N := 14) hx hb hts in_c_beginN_X9 tyX9 tyX9_ok nmX9 hown hK hP hD hS 0 rfl rfl 8 (by decide) (hts (.fieldLink RX9 37 "ClaimBus$Transport" "lastHeard" "I") (List.mem_of_getElem? (i := 19) rfl)) (fun _ h9 => h9) rfl (by decide +kernel) rfl rfl (Nat.le_of_ble_eq_true rfl) dX9_begin_69 (fun H locs hP hD hS => ?_)
  replace hP : va_P (dC, dI) vwCl [(tr, .inr (10, [.int 1, .int (nI (fi % 256)), .int (nI ((se + 256 * mg) / 256)), .int (nI (256 * ((((ms) / 256)) % 256) + ((ms) % 256))), .int (nI ((kk + 256 * (ms % 256) + 65536 * (ms / 256) + 16777216 * ((ms + 6) / 7)) / 16777216 % 256)), .int (nI ((se + 256 * mg) / 1 % 256)), .int 1, .int 0, .int (nI tl), .int j9, .int j10, .int j11, .null, .ref tb])), (h1, .inr (2, [.int (nI fi), .int (nI (kk + 256 * (ms % 256) + 65536 * (ms / 256) + 16777216 * ((ms + 6) / 7))), .int (nI (se + 256 * mg)), .ref mm])), (mm, .inr (4, [.int (nI mi), .int (nI mt), .int (nI mg), .int (nI ms), .int sd, .null]))] H := hP
  replace hD : va_D A [(tr, .inr (10, [.int 1, .int (nI (fi % 256)), .int (nI ((se + 256 * mg) / 256)), .int (nI (256 * ((((ms) / 256)) % 256) + ((ms) % 256))), .int (nI ((kk + 256 * (ms % 256) + 65536 * (ms / 256) + 16777216 * ((ms + 6) / 7)) / 16777216 % 256)), .int (nI ((se + 256 * mg) / 1 % 256)), .int 1, .int 0, .int (nI tl), .int j9, .int j10, .int j11, .null, .ref tb])), (h1, .inr (2, [.int (nI fi), .int (nI (kk + 256 * (ms % 256) + 65536 * (ms / 256) + 16777216 * ((ms + 6) / 7))), .int (nI (se + 256 * mg)), .ref mm])), (mm, .inr (4, [.int (nI mi), .int (nI mt), .int (nI mg), .int (nI ms), .int sd, .null]))] := hD
  refine lv_aload_n hx hb dX9_begin_72 rfl (lv_at hl 0 rfl) ?_
  refine lv_iconst (v := 0) hx hb dX9_begin_73 (by decide) ?_
  refine va_put (D := (dC, dI)) (ci := 10) (v := .int 0) (ty := .int) (C := RX9) (T := TX9) (N := 14) hx hb hts in_c_beginN_X9 tyX9 tyX9_ok nmX9 hown hK hP hD hS 0 rfl rfl 9 (by decide) (hts (.fieldLink RX9 40 "ClaimBus$Transport" "waits" "I") (List.mem_of_getElem? (i := 20) rfl)) (fun _ h9 => h9) rfl (by decide +kernel) rfl rfl (Nat.le_of_ble_eq_true rfl) dX9_begin_74 (fun H locs hP hD hS => ?_)
  replace hP : va_P (dC, dI) vwCl [(tr, .inr (10, [.int 1, .int (nI (fi % 256)), .int (nI ((se + 256 * mg) / 256)), .int (nI (256 * ((((ms) / 256)) % 256) + ((ms) % 256))), .int (nI ((kk + 256 * (ms % 256) + 65536 * (ms / 256) + 16777216 * ((ms + 6) / 7)) / 16777216 % 256)), .int (nI ((se + 256 * mg) / 1 % 256)), .int 1, .int 0, .int (nI tl), .int 0, .int j10, .int j11, .null, .ref tb])), (h1, .inr (2, [.int (nI fi), .int (nI (kk + 256 * (ms % 256) + 65536 * (ms / 256) + 16777216 * ((ms + 6) / 7))), .int (nI (se + 256 * mg)), .ref mm])), (mm, .inr (4, [.int (nI mi), .int (nI mt), .int (nI mg), .int (nI ms), .int sd, .null]))] H := hP
  replace hD : va_D A [(tr, .inr (10, [.int 1, .int (nI (fi % 256)), .int (nI ((se + 256 * mg) / 256)), .int (nI (256 * ((((ms) / 256)) % 256) + ((ms) % 256))), .int (nI ((kk + 256 * (ms % 256) + 65536 * (ms / 256) + 16777216 * ((ms + 6) / 7)) / 16777216 % 256)), .int (nI ((se + 256 * mg) / 1 % 256)), .int 1, .int 0, .int (nI tl), .int 0, .int j10, .int j11, .null, .ref tb])), (h1, .inr (2, [.int (nI fi), .int (nI (kk + 256 * (ms % 256) + 65536 * (ms / 256) + 16777216 * ((ms + 6) / 7))), .int (nI (se + 256 * mg)), .ref mm])), (mm, .inr (4, [.int (nI mi), .int (nI mt), .int (nI mg), .int (nI ms), .int sd, .null]))] := hD
  refine lv_aload_n hx hb dX9_begin_77 rfl (lv_at hl 0 rfl) ?_
  refine lv_iconst (v := 0) hx hb dX9_begin_78 (by decide) ?_
  refine va_put (D := (dC, dI)) (ci := 10) (v := .int 0) (ty := .int) (C := RX9) (T := TX9) (N := 14) hx hb hts in_c_beginN_X9 tyX9 tyX9_ok nmX9 hown hK hP hD hS 0 rfl rfl 10 (by decide) (hts (.fieldLink RX9 43 "ClaimBus$Transport" "sum" "I") (List.mem_of_getElem? (i := 21) rfl)) (fun _ h9 => h9) rfl (by decide +kernel) rfl rfl (Nat.le_of_ble_eq_true rfl) dX9_begin_79 (fun H locs hP hD hS => ?_)
  replace hP : va_P (dC, dI) vwCl [(tr, .inr (10, [.int 1, .int (nI (fi % 256)), .int (nI ((se + 256 * mg) / 256)), .int (nI (256 * ((((ms) / 256)) % 256) + ((ms) % 256))), .int (nI ((kk + 256 * (ms % 256) + 65536 * (ms / 256) + 16777216 * ((ms + 6) / 7)) / 16777216 % 256)), .int (nI ((se + 256 * mg) / 1 % 256)), .int 1, .int 0, .int (nI tl), .int 0, .int 0, .int j11, .null, .ref tb])), (h1, .inr (2, [.int (nI fi), .int (nI (kk + 256 * (ms % 256) + 65536 * (ms / 256) + 16777216 * ((ms + 6) / 7))), .int (nI (se + 256 * mg)), .ref mm])), (mm, .inr (4, [.int (nI mi), .int (nI mt), .int (nI mg), .int (nI ms), .int sd, .null]))] H := hP
  replace hD : va_D A [(tr, .inr (10, [.int 1, .int (nI (fi % 256)), .int (nI ((se + 256 * mg) / 256)), .int (nI (256 * ((((ms) / 256)) % 256) + ((ms) % 256))), .int (nI ((kk + 256 * (ms % 256) + 65536 * (ms / 256) + 16777216 * ((ms + 6) / 7)) / 16777216 % 256)), .int (nI ((se + 256 * mg) / 1 % 256)), .int 1, .int 0, .int (nI tl), .int 0, .int 0, .int j11, .null, .ref tb])), (h1, .inr (2, [.int (nI fi), .int (nI (kk + 256 * (ms % 256) + 65536 * (ms / 256) + 16777216 * ((ms + 6) / 7))), .int (nI (se + 256 * mg)), .ref mm])), (mm, .inr (4, [.int (nI mi), .int (nI mt), .int (nI mg), .int (nI ms), .int sd, .null]))] := hD
  refine lv_aload_n hx hb dX9_begin_82 rfl (lv_at hl 0 rfl) ?_
  refine lv_aload_n hx hb dX9_begin_83 rfl (lv_at hl 1 rfl) ?_
  refine va_get (D := (dC, dI)) (ci := 2) (v := .ref mm) (C := RX1) (T := TX1) (N := 4) hx hb hts in_c_beginN_X1 hown hK hP 1 rfl rfl 3 (by decide) (hts (.fieldLink RX9 69 "ClaimBus$Frame" "whole" "LClaimBus$Message;") (List.mem_of_getElem? (i := 22) rfl)) (fun _ h9 => h9) rfl dX9_begin_84 ?_
  refine va_put (D := (dC, dI)) (ci := 10) (v := .ref mm) (ty := (.object "ClaimBus$Message")) (C := RX9) (T := TX9) (N := 14) hx hb hts in_c_beginN_X9 tyX9 tyX9_ok nmX9 hown hK hP hD hS 0 rfl rfl 12 (by decide) (hts (.fieldLink RX9 49 "ClaimBus$Transport" "whole" "LClaimBus$Message;") (List.mem_of_getElem? (i := 23) rfl)) (fun _ h9 => h9) rfl (by decide +kernel) rfl rfl (Nat.le_of_ble_eq_true rfl) dX9_begin_87 (fun H locs hP hD hS => ?_)
  replace hP : va_P (dC, dI) vwCl [(tr, .inr (10, [.int 1, .int (nI (fi % 256)), .int (nI ((se + 256 * mg) / 256)), .int (nI (256 * ((((ms) / 256)) % 256) + ((ms) % 256))), .int (nI ((kk + 256 * (ms % 256) + 65536 * (ms / 256) + 16777216 * ((ms + 6) / 7)) / 16777216 % 256)), .int (nI ((se + 256 * mg) / 1 % 256)), .int 1, .int 0, .int (nI tl), .int 0, .int 0, .int j11, .ref mm, .ref tb])), (h1, .inr (2, [.int (nI fi), .int (nI (kk + 256 * (ms % 256) + 65536 * (ms / 256) + 16777216 * ((ms + 6) / 7))), .int (nI (se + 256 * mg)), .ref mm])), (mm, .inr (4, [.int (nI mi), .int (nI mt), .int (nI mg), .int (nI ms), .int sd, .null]))] H := hP
  replace hD : va_D A [(tr, .inr (10, [.int 1, .int (nI (fi % 256)), .int (nI ((se + 256 * mg) / 256)), .int (nI (256 * ((((ms) / 256)) % 256) + ((ms) % 256))), .int (nI ((kk + 256 * (ms % 256) + 65536 * (ms / 256) + 16777216 * ((ms + 6) / 7)) / 16777216 % 256)), .int (nI ((se + 256 * mg) / 1 % 256)), .int 1, .int 0, .int (nI tl), .int 0, .int 0, .int j11, .ref mm, .ref tb])), (h1, .inr (2, [.int (nI fi), .int (nI (kk + 256 * (ms % 256) + 65536 * (ms / 256) + 16777216 * ((ms + 6) / 7))), .int (nI (se + 256 * mg)), .ref mm])), (mm, .inr (4, [.int (nI mi), .int (nI mt), .int (nI mg), .int (nI ms), .int sd, .null]))] := hD
  refine lv_aload_n hx hb dX9_begin_90 rfl (lv_at hl 0 rfl) ?_
  refine lv_aload_n hx hb dX9_begin_91 rfl (lv_at hl 0 rfl) ?_
  refine va_get (D := (dC, dI)) (ci := 10) (v := .ref mm) (C := RX9) (T := TX9) (N := 14) hx hb hts in_c_beginN_X9 hown hK hP 0 rfl rfl 12 (by decide) (hts (.fieldLink RX9 49 "ClaimBus$Transport" "whole" "LClaimBus$Message;") (List.mem_of_getElem? (i := 23) rfl)) (fun _ h9 => h9) rfl dX9_begin_92 ?_
  refine lv_ifnull hx hb dX9_begin_95 ?_
  refine lv_aload_n hx hb dX9_begin_98 rfl (lv_at hl 0 rfl) ?_
  refine va_get (D := (dC, dI)) (ci := 10) (v := .ref mm) (C := RX9) (T := TX9) (N := 14) hx hb hts in_c_beginN_X9 hown hK hP 0 rfl rfl 12 (by decide) (hts (.fieldLink RX9 49 "ClaimBus$Transport" "whole" "LClaimBus$Message;") (List.mem_of_getElem? (i := 23) rfl)) (fun _ h9 => h9) rfl dX9_begin_99 ?_
  refine va_get (D := (dC, dI)) (ci := 4) (v := .int (nI ms)) (C := RX3) (T := TX3) (N := 6) hx hb hts in_c_beginN_X3 hown hK hP 2 rfl rfl 3 (by decide) (hts (.fieldLink RX9 70 "ClaimBus$Message" "size" "I") (List.mem_of_getElem? (i := 24) rfl)) (fun _ h9 => h9) rfl dX9_begin_102 ?_
  refine lv_aload_n hx hb dX9_begin_105 rfl (lv_at hl 0 rfl) ?_
  refine va_get (D := (dC, dI)) (ci := 10) (v := .int (nI (256 * ((((ms) / 256)) % 256) + ((ms) % 256)))) (C := RX9) (T := TX9) (N := 14) hx hb hts in_c_beginN_X9 hown hK hP 0 rfl rfl 3 (by decide) (hts (.fieldLink RX9 22 "ClaimBus$Transport" "size" "I") (List.mem_of_getElem? (i := 14) rfl)) (fun _ h9 => h9) rfl dX9_begin_106 ?_
  refine lv_icmp_ne (tgt := 130) hx hb dX9_begin_109 (by decide) (fun c_9 => ?_) (fun c_9 => ?_)
  · exact absurd ((nI_eq (a := ms) (b := (256 * ((((ms) / 256)) % 256) + ((ms) % 256))) (by omega) (by omega)).mpr (by omega)) c_9
  refine lv_aload_n hx hb dX9_begin_112 rfl (lv_at hl 0 rfl) ?_
  refine va_get (D := (dC, dI)) (ci := 10) (v := .ref mm) (C := RX9) (T := TX9) (N := 14) hx hb hts in_c_beginN_X9 hown hK hP 0 rfl rfl 12 (by decide) (hts (.fieldLink RX9 49 "ClaimBus$Transport" "whole" "LClaimBus$Message;") (List.mem_of_getElem? (i := 23) rfl)) (fun _ h9 => h9) rfl dX9_begin_113 ?_
  refine va_get (D := (dC, dI)) (ci := 4) (v := .int (nI mg)) (C := RX3) (T := TX3) (N := 6) hx hb hts in_c_beginN_X3 hown hK hP 2 rfl rfl 2 (by decide) (hts (.fieldLink RX9 73 "ClaimBus$Message" "group" "I") (List.mem_of_getElem? (i := 25) rfl)) (fun _ h9 => h9) rfl dX9_begin_116 ?_
  refine lv_aload_n hx hb dX9_begin_119 rfl (lv_at hl 0 rfl) ?_
  refine va_get (D := (dC, dI)) (ci := 10) (v := .int (nI ((se + 256 * mg) / 256))) (C := RX9) (T := TX9) (N := 14) hx hb hts in_c_beginN_X9 hown hK hP 0 rfl rfl 2 (by decide) (hts (.fieldLink RX9 19 "ClaimBus$Transport" "group" "I") (List.mem_of_getElem? (i := 10) rfl)) (fun _ h9 => h9) rfl dX9_begin_120 ?_
  refine lv_icmp_ne (tgt := 130) hx hb dX9_begin_123 (by decide) (fun c_10 => ?_) (fun c_10 => ?_)
  · exact absurd ((nI_eq (a := mg) (b := ((se + 256 * mg) / 256)) (by omega) (by omega)).mpr (by omega)) c_10
  refine lv_iconst (v := 1) hx hb dX9_begin_126 (by decide) ?_
  refine lv_goto (tgt := 131) hx hb dX9_begin_127 (by decide) ?_
  refine va_put (D := (dC, dI)) (ci := 10) (v := .int 1) (ty := .boolean) (C := RX9) (T := TX9) (N := 14) hx hb hts in_c_beginN_X9 tyX9 tyX9_ok nmX9 hown hK hP hD hS 0 rfl rfl 11 (by decide) (hts (.fieldLink RX9 46 "ClaimBus$Transport" "isAsSent" "Z") (List.mem_of_getElem? (i := 26) rfl)) (fun _ h9 => h9) rfl (by decide +kernel) rfl rfl (Nat.le_of_ble_eq_true rfl) dX9_begin_131 (fun H locs hP hD hS => ?_)
  replace hP : va_P (dC, dI) vwCl [(tr, .inr (10, [.int 1, .int (nI (fi % 256)), .int (nI ((se + 256 * mg) / 256)), .int (nI (256 * ((((ms) / 256)) % 256) + ((ms) % 256))), .int (nI ((kk + 256 * (ms % 256) + 65536 * (ms / 256) + 16777216 * ((ms + 6) / 7)) / 16777216 % 256)), .int (nI ((se + 256 * mg) / 1 % 256)), .int 1, .int 0, .int (nI tl), .int 0, .int 0, .int 1, .ref mm, .ref tb])), (h1, .inr (2, [.int (nI fi), .int (nI (kk + 256 * (ms % 256) + 65536 * (ms / 256) + 16777216 * ((ms + 6) / 7))), .int (nI (se + 256 * mg)), .ref mm])), (mm, .inr (4, [.int (nI mi), .int (nI mt), .int (nI mg), .int (nI ms), .int sd, .null]))] H := hP
  replace hD : va_D A [(tr, .inr (10, [.int 1, .int (nI (fi % 256)), .int (nI ((se + 256 * mg) / 256)), .int (nI (256 * ((((ms) / 256)) % 256) + ((ms) % 256))), .int (nI ((kk + 256 * (ms % 256) + 65536 * (ms / 256) + 16777216 * ((ms + 6) / 7)) / 16777216 % 256)), .int (nI ((se + 256 * mg) / 1 % 256)), .int 1, .int 0, .int (nI tl), .int 0, .int 0, .int 1, .ref mm, .ref tb])), (h1, .inr (2, [.int (nI fi), .int (nI (kk + 256 * (ms % 256) + 65536 * (ms / 256) + 16777216 * ((ms + 6) / 7))), .int (nI (se + 256 * mg)), .ref mm])), (mm, .inr (4, [.int (nI mi), .int (nI mt), .int (nI mg), .int (nI ms), .int sd, .null]))] := hD
  rw [show ((nI ((se + 256 * mg) / 256)) : Int32) = (nI mg) from congrArg nI (show ((se + 256 * mg) / 256) = mg from by omega)] at hP hD
  rw [show ((nI (256 * ((((ms) / 256)) % 256) + ((ms) % 256))) : Int32) = (nI ms) from congrArg nI (show (256 * ((((ms) / 256)) % 256) + ((ms) % 256)) = ms from by omega)] at hP hD
  rw [show ((nI ((kk + 256 * (ms % 256) + 65536 * (ms / 256) + 16777216 * ((ms + 6) / 7)) / 16777216 % 256)) : Int32) = (nI ((ms + 6) / 7)) from congrArg nI (show ((kk + 256 * (ms % 256) + 65536 * (ms / 256) + 16777216 * ((ms + 6) / 7)) / 16777216 % 256) = ((ms + 6) / 7) from by omega)] at hP hD
  rw [show ((nI ((se + 256 * mg) / 1 % 256)) : Int32) = (nI se) from congrArg nI (show ((se + 256 * mg) / 1 % 256) = se from by omega)] at hP hD
  have hP9 := hP.sub (ws' := [(tr, .inr (10, [.int 1, .int (nI (fi % 256)), .int (nI mg), .int (nI ms), .int (nI ((ms + 6) / 7)), .int (nI se), .int 1, .int 0, .int (nI tl), .int 0, .int 0, .int 1, .ref mm, .ref tb])), (h1, .inr (2, [.int (nI fi), .int (nI (kk + 256 * (ms % 256) + 65536 * (ms / 256) + 16777216 * ((ms + 6) / 7))), .int (nI (se + 256 * mg)), .ref mm])), (mm, .inr (4, [.int (nI mi), .int (nI mt), .int (nI mg), .int (nI ms), .int sd, .null]))]) [0, 1, 2] rfl
  have hD9 := hD.sub (ws' := [(tr, .inr (10, [.int 1, .int (nI (fi % 256)), .int (nI mg), .int (nI ms), .int (nI ((ms + 6) / 7)), .int (nI se), .int 1, .int 0, .int (nI tl), .int 0, .int 0, .int 1, .ref mm, .ref tb])), (h1, .inr (2, [.int (nI fi), .int (nI (kk + 256 * (ms % 256) + 65536 * (ms / 256) + 16777216 * ((ms + 6) / 7))), .int (nI (se + 256 * mg)), .ref mm])), (mm, .inr (4, [.int (nI mi), .int (nI mt), .int (nI mg), .int (nI ms), .int sd, .null]))]) [0, 1, 2] (by decide +kernel) rfl
  have hK9 := hK.sub (tys' := []) [] rfl
  exact W.vret hx hb hr (fun t ht hW => ⟨⟨(), rfl, trivial, ⟨by rw [ht]; exact hP9, va_K.moved hW.alike hK9, hD9⟩⟩, hS.F ht⟩) hS.2.2 dX9_begin_134

noncomputable def tl_c_begin : List Cond := wsX90 ++ (wsX10 ++ (wsX30 ++ (v_c_X1_source ++ (v_c_X1_cgN ++ (v_c_X1_byteAt_1 ++ (v_c_X1_byteAt_2 ++ (v_c_X1_byteAt_3 ++ (v_c_X1_byteAt_4))))))))
noncomputable def v_c_begin : List Cond := .code yX9_begin cX9_begin 3 none :: ([.fieldLink RX9 9 "ClaimBus$Transport" "open" "Z", .initialized RX1, .methodLink RX9 57 yX1_source, .instanceMethod yX1_source, .selects RX1 yX1_source yX1_source, .fieldLink RX9 15 "ClaimBus$Transport" "source" "I", .methodLink RX9 62 yX1_controlGroup, .instanceMethod yX1_controlGroup, .selects RX1 yX1_controlGroup yX1_controlGroup, .fieldLink RX9 19 "ClaimBus$Transport" "group" "I", .methodLink RX9 65 yX1_byteAt, .instanceMethod yX1_byteAt, .selects RX1 yX1_byteAt yX1_byteAt, .fieldLink RX9 22 "ClaimBus$Transport" "size" "I", .fieldLink RX9 25 "ClaimBus$Transport" "packets" "I", .fieldLink RX9 28 "ClaimBus$Transport" "window" "I", .fieldLink RX9 31 "ClaimBus$Transport" "expected" "I", .fieldLink RX9 34 "ClaimBus$Transport" "clearedTo" "I", .fieldLink RX9 37 "ClaimBus$Transport" "lastHeard" "I", .fieldLink RX9 40 "ClaimBus$Transport" "waits" "I", .fieldLink RX9 43 "ClaimBus$Transport" "sum" "I", .fieldLink RX9 69 "ClaimBus$Frame" "whole" "LClaimBus$Message;", .fieldLink RX9 49 "ClaimBus$Transport" "whole" "LClaimBus$Message;", .fieldLink RX9 70 "ClaimBus$Message" "size" "I", .fieldLink RX9 73 "ClaimBus$Message" "group" "I", .fieldLink RX9 46 "ClaimBus$Transport" "isAsSent" "Z"] ++ tl_c_begin)
theorem it_c_begin : ∀ w ∈ tl_c_begin, w ∈ v_c_begin := fun w h => List.mem_cons_of_mem _ (List.mem_append_right _ h)
theorem in_c_begin_X9 : ∀ w ∈ wsX90, w ∈ v_c_begin := fun w h => it_c_begin w (List.mem_append_left _ h)
theorem in_c_begin_X1 : ∀ w ∈ wsX10, w ∈ v_c_begin := fun w h => it_c_begin w (List.mem_append_right _ (List.mem_append_left _ h))
theorem in_c_begin_X3 : ∀ w ∈ wsX30, w ∈ v_c_begin := fun w h => it_c_begin w (List.mem_append_right _ (List.mem_append_right _ (List.mem_append_left _ h)))
theorem ic_c_begin_c_X1_source : ∀ w ∈ v_c_X1_source, w ∈ v_c_begin := fun w h => it_c_begin w (List.mem_append_right _ (List.mem_append_right _ (List.mem_append_right _ (List.mem_append_left _ h))))
theorem ic_c_begin_c_X1_cgN : ∀ w ∈ v_c_X1_cgN, w ∈ v_c_begin := fun w h => it_c_begin w (List.mem_append_right _ (List.mem_append_right _ (List.mem_append_right _ (List.mem_append_right _ (List.mem_append_left _ h)))))
theorem ic_c_begin_c_X1_byteAt_1 : ∀ w ∈ v_c_X1_byteAt_1, w ∈ v_c_begin := fun w h => it_c_begin w (List.mem_append_right _ (List.mem_append_right _ (List.mem_append_right _ (List.mem_append_right _ (List.mem_append_right _ (List.mem_append_left _ h))))))
theorem ic_c_begin_c_X1_byteAt_2 : ∀ w ∈ v_c_X1_byteAt_2, w ∈ v_c_begin := fun w h => it_c_begin w (List.mem_append_right _ (List.mem_append_right _ (List.mem_append_right _ (List.mem_append_right _ (List.mem_append_right _ (List.mem_append_right _ (List.mem_append_left _ h)))))))
theorem ic_c_begin_c_X1_byteAt_3 : ∀ w ∈ v_c_X1_byteAt_3, w ∈ v_c_begin := fun w h => it_c_begin w (List.mem_append_right _ (List.mem_append_right _ (List.mem_append_right _ (List.mem_append_right _ (List.mem_append_right _ (List.mem_append_right _ (List.mem_append_right _ (List.mem_append_left _ h))))))))
theorem ic_c_begin_c_X1_byteAt_4 : ∀ w ∈ v_c_X1_byteAt_4, w ∈ v_c_begin := fun w h => it_c_begin w (List.mem_append_right _ (List.mem_append_right _ (List.mem_append_right _ (List.mem_append_right _ (List.mem_append_right _ (List.mem_append_right _ (List.mem_append_right _ (List.mem_append_right _ (h)))))))))
theorem gt_c_begin : ∀ w ∈ tl_c_begin, goodWord w = true := List.forall_mem_append.mpr ⟨gw_wsX90, List.forall_mem_append.mpr ⟨gw_wsX10, List.forall_mem_append.mpr ⟨gw_wsX30, List.forall_mem_append.mpr ⟨gw_c_X1_source, List.forall_mem_append.mpr ⟨gw_c_X1_cgN, List.forall_mem_append.mpr ⟨gw_c_X1_byteAt_1, List.forall_mem_append.mpr ⟨gw_c_X1_byteAt_2, List.forall_mem_append.mpr ⟨gw_c_X1_byteAt_3, gw_c_X1_byteAt_4⟩⟩⟩⟩⟩⟩⟩⟩
theorem gw_c_begin : ∀ w ∈ v_c_begin, goodWord w = true := List.forall_mem_cons.mpr ⟨by decide +kernel, List.forall_mem_append.mpr ⟨List.all_eq_true.mp (by decide +kernel), gt_c_begin⟩⟩
theorem g_c_begin_c_X1_source_57 : GoodIn v_c_begin (wsV RX9 57 RX1 yX1_source v_c_X1_source) := goodIn_app (goodIn_r [.methodLink RX9 57 yX1_source, .instanceMethod yX1_source, .selects RX1 yX1_source yX1_source, .initialized RX1] [3, 4, 5, 2] (by decide +kernel) (by decide +kernel)) (fun w h => ⟨ic_c_begin_c_X1_source w h, good_of_word (gw_c_X1_source w h)⟩)
theorem g_c_begin_c_X1_cgN_62 : GoodIn v_c_begin (wsV RX9 62 RX1 yX1_controlGroup v_c_X1_cgN) := goodIn_app (goodIn_r [.methodLink RX9 62 yX1_controlGroup, .instanceMethod yX1_controlGroup, .selects RX1 yX1_controlGroup yX1_controlGroup, .initialized RX1] [7, 8, 9, 2] (by decide +kernel) (by decide +kernel)) (fun w h => ⟨ic_c_begin_c_X1_cgN w h, good_of_word (gw_c_X1_cgN w h)⟩)
theorem g_c_begin_c_X1_byteAt_1_65 : GoodIn v_c_begin (wsV RX9 65 RX1 yX1_byteAt v_c_X1_byteAt_1) := goodIn_app (goodIn_r [.methodLink RX9 65 yX1_byteAt, .instanceMethod yX1_byteAt, .selects RX1 yX1_byteAt yX1_byteAt, .initialized RX1] [11, 12, 13, 2] (by decide +kernel) (by decide +kernel)) (fun w h => ⟨ic_c_begin_c_X1_byteAt_1 w h, good_of_word (gw_c_X1_byteAt_1 w h)⟩)
theorem g_c_begin_c_X1_byteAt_2_65 : GoodIn v_c_begin (wsV RX9 65 RX1 yX1_byteAt v_c_X1_byteAt_2) := goodIn_app (goodIn_r [.methodLink RX9 65 yX1_byteAt, .instanceMethod yX1_byteAt, .selects RX1 yX1_byteAt yX1_byteAt, .initialized RX1] [11, 12, 13, 2] (by decide +kernel) (by decide +kernel)) (fun w h => ⟨ic_c_begin_c_X1_byteAt_2 w h, good_of_word (gw_c_X1_byteAt_2 w h)⟩)
theorem g_c_begin_c_X1_byteAt_3_65 : GoodIn v_c_begin (wsV RX9 65 RX1 yX1_byteAt v_c_X1_byteAt_3) := goodIn_app (goodIn_r [.methodLink RX9 65 yX1_byteAt, .instanceMethod yX1_byteAt, .selects RX1 yX1_byteAt yX1_byteAt, .initialized RX1] [11, 12, 13, 2] (by decide +kernel) (by decide +kernel)) (fun w h => ⟨ic_c_begin_c_X1_byteAt_3 w h, good_of_word (gw_c_X1_byteAt_3 w h)⟩)
theorem g_c_begin_c_X1_byteAt_4_65 : GoodIn v_c_begin (wsV RX9 65 RX1 yX1_byteAt v_c_X1_byteAt_4) := goodIn_app (goodIn_r [.methodLink RX9 65 yX1_byteAt, .instanceMethod yX1_byteAt, .selects RX1 yX1_byteAt yX1_byteAt, .initialized RX1] [11, 12, 13, 2] (by decide +kernel) (by decide +kernel)) (fun w h => ⟨ic_c_begin_c_X1_byteAt_4 w h, good_of_word (gw_c_X1_byteAt_4 w h)⟩)
set_option maxHeartbeats 4000000 in
set_option maxRecDepth 100000 in
/-- Transport.begin -/
theorem c_begin (l : Launch) (dC : Nat → ClassId) (dI : Nat → Nat → Nat) (tr : Nat) (j0 : Int32) (j1 : Int32) (j2 : Int32) (j3 : Int32) (j4 : Int32) (j5 : Int32) (j6 : Int32) (j7 : Int32) (j8 : Int32) (j9 : Int32) (j10 : Int32) (j11 : Int32) (jw : Nat) (tb : Nat) (h1 : Nat) (fi : Nat) (kk : Nat) (se : Nat) (mm : Nat) (mi : Nat) (mt : Nat) (mg : Nat) (ms : Nat) (sd : Int32) (tl : Nat) (sz : Nat) (hfi : fi < 536870912) (hkk : kk < 256) (hse : se < 256) (hms1 : 1 ≤ ms) (hmi : mi < 8) (hmt : mt < 256) (hmg : mg < 262144) (hms : ms < 1786) : Met l yX9_begin v_c_begin ({ frames := 1, cells := 0, slots := 0, locals := 21 }) (va_Pc [.ref tr, .ref h1, .int (nI tl)] (fun U => U.heap.size = sz ∧ va_P (dC, dI) vwCl [(tr, .inr (10, [.int j0, .int j1, .int j2, .int j3, .int j4, .int j5, .int j6, .int j7, .int j8, .int j9, .int j10, .int j11, .ref jw, .ref tb])), (h1, .inr (2, [.int (nI fi), .int (nI (kk + 256 * (ms % 256) + 65536 * (ms / 256) + 16777216 * ((ms + 6) / 7))), .int (nI (se + 256 * mg)), .ref mm])), (mm, .inr (4, [.int (nI mi), .int (nI mt), .int (nI mg), .int (nI ms), .int sd, .null]))] U.heap ∧ va_K (dC, dI) vwCl [] U ∧ va_D (fun _ => True) [(tr, .inr (10, [.int j0, .int j1, .int j2, .int j3, .int j4, .int j5, .int j6, .int j7, .int j8, .int j9, .int j10, .int j11, .ref jw, .ref tb])), (h1, .inr (2, [.int (nI fi), .int (nI (kk + 256 * (ms % 256) + 65536 * (ms / 256) + 16777216 * ((ms + 6) / 7))), .int (nI (se + 256 * mg)), .ref mm])), (mm, .inr (4, [.int (nI mi), .int (nI mt), .int (nI mg), .int (nI ms), .int sd, .null]))] ∧ ev U)) (va_Qv (fun _ : Unit => True) (fun (_ : Unit) (t : State) => va_P (dC, dI) vwCl [(tr, .inr (10, [.int 1, .int (nI (fi % 256)), .int (nI mg), .int (nI ms), .int (nI ((ms + 6) / 7)), .int (nI se), .int 1, .int 0, .int (nI tl), .int 0, .int 0, .int 1, .ref mm, .ref tb])), (h1, .inr (2, [.int (nI fi), .int (nI (kk + 256 * (ms % 256) + 65536 * (ms / 256) + 16777216 * ((ms + 6) / 7))), .int (nI (se + 256 * mg)), .ref mm])), (mm, .inr (4, [.int (nI mi), .int (nI mt), .int (nI mg), .int (nI ms), .int sd, .null]))] t.heap ∧ va_K (dC, dI) vwCl [] t ∧ va_D (va_A [(tr, .inr (10, [.int j0, .int j1, .int j2, .int j3, .int j4, .int j5, .int j6, .int j7, .int j8, .int j9, .int j10, .int j11, .ref jw, .ref tb])), (h1, .inr (2, [.int (nI fi), .int (nI (kk + 256 * (ms % 256) + 65536 * (ms / 256) + 16777216 * ((ms + 6) / 7))), .int (nI (se + 256 * mg)), .ref mm])), (mm, .inr (4, [.int (nI mi), .int (nI mt), .int (nI mg), .int (nI ms), .int sd, .null]))] sz) [(tr, .inr (10, [.int 1, .int (nI (fi % 256)), .int (nI mg), .int (nI ms), .int (nI ((ms + 6) / 7)), .int (nI se), .int 1, .int 0, .int (nI tl), .int 0, .int 0, .int 1, .ref mm, .ref tb])), (h1, .inr (2, [.int (nI fi), .int (nI (kk + 256 * (ms % 256) + 65536 * (ms / 256) + 16777216 * ((ms + 6) / 7))), .int (nI (se + 256 * mg)), .ref mm])), (mm, .inr (4, [.int (nI mi), .int (nI mt), .int (nI mg), .int (nI ms), .int sd, .null]))]) (va_A [(tr, .inr (10, [.int j0, .int j1, .int j2, .int j3, .int j4, .int j5, .int j6, .int j7, .int j8, .int j9, .int j10, .int j11, .ref jw, .ref tb])), (h1, .inr (2, [.int (nI fi), .int (nI (kk + 256 * (ms % 256) + 65536 * (ms / 256) + 16777216 * ((ms + 6) / 7))), .int (nI (se + 256 * mg)), .ref mm])), (mm, .inr (4, [.int (nI mi), .int (nI mt), .int (nI mg), .int (nI ms), .int sd, .null]))] sz)) 0 0 (va_A [(tr, .inr (10, [.int j0, .int j1, .int j2, .int j3, .int j4, .int j5, .int j6, .int j7, .int j8, .int j9, .int j10, .int j11, .ref jw, .ref tb])), (h1, .inr (2, [.int (nI fi), .int (nI (kk + 256 * (ms % 256) + 65536 * (ms / 256) + 16777216 * ((ms + 6) / 7))), .int (nI (se + 256 * mg)), .ref mm])), (mm, .inr (4, [.int (nI mi), .int (nI mt), .int (nI mg), .int (nI ms), .int sd, .null]))] sz) := by
  refine Met.ofW (cc := cX9_begin) (maxL := 3) (ret := none) (by decide) rfl ?_
  intro p e s m args below meth c s₁ B hml hv
  obtain ⟨rfl, hsz, hP, hK, hD0, hE⟩ := hv
  have hx := B.exec
  have hb := B.bytes
  have hr := B.returns
  have hts := atoms_spec (ws := v_c_begin) B.pre
  have hown : s.vm.findClass RX9 = some m.cls := findClass_of_methodNamed B.named
  have hlocks := B.notSynchronized
  subst hsz
  have hD := hD0.self (sz := s.heap.size)
  generalize hAe : va_A [(tr, .inr (10, [.int j0, .int j1, .int j2, .int j3, .int j4, .int j5, .int j6, .int j7, .int j8, .int j9, .int j10, .int j11, .ref jw, .ref tb])), (h1, .inr (2, [.int (nI fi), .int (nI (kk + 256 * (ms % 256) + 65536 * (ms / 256) + 16777216 * ((ms + 6) / 7))), .int (nI (se + 256 * mg)), .ref mm])), (mm, .inr (4, [.int (nI mi), .int (nI mt), .int (nI mg), .int (nI ms), .int sd, .null]))] s.heap.size = A at hD ⊢
  have hA : ∀ q : Nat, s.heap.size ≤ q → A q := fun q h => by rw [← hAe]; exact Or.inr h
  have hS : va_S A s.heap s.heap [] := va_S.rf
  replace hP : va_P (dC, dI) vwCl [(tr, .inr (10, [.int j0, .int j1, .int j2, .int j3, .int j4, .int j5, .int j6, .int j7, .int j8, .int j9, .int j10, .int j11, .ref jw, .ref tb])), (h1, .inr (2, [.int (nI fi), .int (nI (kk + 256 * (ms % 256) + 65536 * (ms / 256) + 16777216 * ((ms + 6) / 7))), .int (nI (se + 256 * mg)), .ref mm])), (mm, .inr (4, [.int (nI mi), .int (nI mt), .int (nI mg), .int (nI ms), .int sd, .null]))] s.heap := hP
  have hl := lv_entry ([.ref tr, .ref h1, .int (nI tl)]) (n := 3) (Nat.le_of_ble_eq_true rfl)
  rw [lg_entry_eq]
  generalize (lg_sl ([.ref tr, .ref h1, .int (nI tl)]) ++ List.replicate (3 - (lg_sl ([.ref tr, .ref h1, .int (nI tl)])).length) Slot.unset).toArray = ls at hl ⊢
  replace hl : lv_has ls 3 [(0, .ref tr), (1, .ref h1), (2, .int (nI tl))] := hl
  obtain ⟨H, hH⟩ : ∃ z : Heap, z = s.heap := ⟨_, rfl⟩
  rw [← hH]
  replace hS : va_S A s.heap H [] := by rw [hH]; exact va_S.rf
  replace hP : va_P (dC, dI) vwCl [(tr, .inr (10, [.int j0, .int j1, .int j2, .int j3, .int j4, .int j5, .int j6, .int j7, .int j8, .int j9, .int j10, .int j11, .ref jw, .ref tb])), (h1, .inr (2, [.int (nI fi), .int (nI (kk + 256 * (ms % 256) + 65536 * (ms / 256) + 16777216 * ((ms + 6) / 7))), .int (nI (se + 256 * mg)), .ref mm])), (mm, .inr (4, [.int (nI mi), .int (nI mt), .int (nI mg), .int (nI ms), .int sd, .null]))] H := by rw [hH]; exact hP
  clear hH
  refine lv_aload_n hx hb dX9_begin_0 rfl (lv_at hl 0 rfl) ?_
  refine lv_iconst (v := 1) hx hb dX9_begin_1 (by decide) ?_
  refine va_put (D := (dC, dI)) (ci := 10) (v := .int 1) (ty := .boolean) (C := RX9) (T := TX9) (N := 14) hx hb hts in_c_begin_X9 tyX9 tyX9_ok nmX9 hown hK hP hD hS 0 rfl rfl 0 (by decide) (hts (.fieldLink RX9 9 "ClaimBus$Transport" "open" "Z") (List.mem_of_getElem? (i := 1) rfl)) (fun _ h9 => h9) rfl (by decide +kernel) rfl rfl (Nat.le_of_ble_eq_true rfl) dX9_begin_2 (fun H locs hP hD hS => ?_)
  replace hP : va_P (dC, dI) vwCl [(tr, .inr (10, [.int 1, .int j1, .int j2, .int j3, .int j4, .int j5, .int j6, .int j7, .int j8, .int j9, .int j10, .int j11, .ref jw, .ref tb])), (h1, .inr (2, [.int (nI fi), .int (nI (kk + 256 * (ms % 256) + 65536 * (ms / 256) + 16777216 * ((ms + 6) / 7))), .int (nI (se + 256 * mg)), .ref mm])), (mm, .inr (4, [.int (nI mi), .int (nI mt), .int (nI mg), .int (nI ms), .int sd, .null]))] H := hP
  replace hD : va_D A [(tr, .inr (10, [.int 1, .int j1, .int j2, .int j3, .int j4, .int j5, .int j6, .int j7, .int j8, .int j9, .int j10, .int j11, .ref jw, .ref tb])), (h1, .inr (2, [.int (nI fi), .int (nI (kk + 256 * (ms % 256) + 65536 * (ms / 256) + 16777216 * ((ms + 6) / 7))), .int (nI (se + 256 * mg)), .ref mm])), (mm, .inr (4, [.int (nI mi), .int (nI mt), .int (nI mg), .int (nI ms), .int sd, .null]))] := hD
  refine lv_aload_n hx hb dX9_begin_5 rfl (lv_at hl 0 rfl) ?_
  refine lv_aload_n hx hb dX9_begin_6 rfl (lv_at hl 1 rfl) ?_
  have hPc := hP.sub (ws' := [(h1, .inr (2, [.int (nI fi), .int (nI (kk + 256 * (ms % 256) + 65536 * (ms / 256) + 16777216 * ((ms + 6) / 7))), .int (nI (se + 256 * mg)), .ref mm]))]) [1] rfl
  have hDc := hD.sub (ws' := [(h1, .inr (2, [.int (nI fi), .int (nI (kk + 256 * (ms % 256) + 65536 * (ms / 256) + 16777216 * ((ms + 6) / 7))), .int (nI (se + 256 * mg)), .ref mm]))]) [1] (by decide +kernel) rfl
  have hKc := hK.sub (tys' := []) [] rfl
  have hFc := ro_free hS hA
  refine va_calli (va_runV (As := []) (rest := [.ref tr]) ⟨hx, hb, hml, hown, hts⟩ (c_X1_source l dC dI (h1) (fi) ((nI (kk + 256 * (ms % 256) + 65536 * (ms / 256) + 16777216 * ((ms + 6) / 7)))) ((nI (se + 256 * mg))) (mm) H.size hfi) (cwV 0 hts g_c_begin_c_X1_source_57 rfl rfl rfl (by decide +kernel) ⟨Nat.le_of_ble_eq_true rfl, Nat.le_of_ble_eq_true rfl⟩) ⟨fun a U g mk q => by obtain ⟨q0, q1, qP, qK, qD, qE⟩ := q; exact ⟨q0, q1, qP, va_K.moved (u := U) (U := U.calling g mk a) (Vm.Alike.refl U.vm) qK, qD, ev.same (u := U) (U := U.calling g mk a) rfl qE⟩, va_recv hKc hPc (ci := 2) (q0 := 0) rfl rfl, fun U hU hW => ⟨rfl, by rw [hU], by rw [hU]; exact hPc, va_K.moved hW.alike hKc, hDc.weaken (fun _ _ _ _ => trivial), hE.warm hW⟩⟩ rfl rfl hl.1 rfl (lv_room (Nat.le_of_ble_eq_true rfl)) dX9_begin_7 ⟨Nat.le_of_ble_eq_true rfl, Nat.le_of_ble_eq_true rfl⟩) hS (fun q _ h => hFc q h) hFc (fun r_1 u t H1 locs ht hvm hw hB hz1 hk1 hS => ?_)
  clear hPc hDc hKc
  replace hP := ro_keep hP hk1
  generalize H1 = H at hP hS ⊢
  replace hP : va_P (dC, dI) vwCl [(tr, .inr (10, [.int 1, .int j1, .int j2, .int j3, .int j4, .int j5, .int j6, .int j7, .int j8, .int j9, .int j10, .int j11, .ref jw, .ref tb])), (h1, .inr (2, [.int (nI fi), .int (nI (kk + 256 * (ms % 256) + 65536 * (ms / 256) + 16777216 * ((ms + 6) / 7))), .int (nI (se + 256 * mg)), .ref mm])), (mm, .inr (4, [.int (nI mi), .int (nI mt), .int (nI mg), .int (nI ms), .int sd, .null]))] H := hP
  have hw := hw.symm
  subst hw
  refine va_put (D := (dC, dI)) (ci := 10) (v := .int (nI (fi % 256))) (ty := .int) (C := RX9) (T := TX9) (N := 14) hx hb hts in_c_begin_X9 tyX9 tyX9_ok nmX9 hown hK hP hD hS 0 rfl rfl 1 (by decide) (hts (.fieldLink RX9 15 "ClaimBus$Transport" "source" "I") (List.mem_of_getElem? (i := 6) rfl)) (fun _ h9 => h9) rfl (by decide +kernel) rfl rfl (Nat.le_of_ble_eq_true rfl) dX9_begin_10 (fun H locs hP hD hS => ?_)
  replace hP : va_P (dC, dI) vwCl [(tr, .inr (10, [.int 1, .int (nI (fi % 256)), .int j2, .int j3, .int j4, .int j5, .int j6, .int j7, .int j8, .int j9, .int j10, .int j11, .ref jw, .ref tb])), (h1, .inr (2, [.int (nI fi), .int (nI (kk + 256 * (ms % 256) + 65536 * (ms / 256) + 16777216 * ((ms + 6) / 7))), .int (nI (se + 256 * mg)), .ref mm])), (mm, .inr (4, [.int (nI mi), .int (nI mt), .int (nI mg), .int (nI ms), .int sd, .null]))] H := hP
  replace hD : va_D A [(tr, .inr (10, [.int 1, .int (nI (fi % 256)), .int j2, .int j3, .int j4, .int j5, .int j6, .int j7, .int j8, .int j9, .int j10, .int j11, .ref jw, .ref tb])), (h1, .inr (2, [.int (nI fi), .int (nI (kk + 256 * (ms % 256) + 65536 * (ms / 256) + 16777216 * ((ms + 6) / 7))), .int (nI (se + 256 * mg)), .ref mm])), (mm, .inr (4, [.int (nI mi), .int (nI mt), .int (nI mg), .int (nI ms), .int sd, .null]))] := hD
  refine lv_aload_n hx hb dX9_begin_13 rfl (lv_at hl 0 rfl) ?_
  refine lv_aload_n hx hb dX9_begin_14 rfl (lv_at hl 1 rfl) ?_
  have hPc := hP.sub (ws' := [(h1, .inr (2, [.int (nI fi), .int (nI (kk + 256 * (ms % 256) + 65536 * (ms / 256) + 16777216 * ((ms + 6) / 7))), .int (nI (se + 256 * mg)), .ref mm]))]) [1] rfl
  have hDc := hD.sub (ws' := [(h1, .inr (2, [.int (nI fi), .int (nI (kk + 256 * (ms % 256) + 65536 * (ms / 256) + 16777216 * ((ms + 6) / 7))), .int (nI (se + 256 * mg)), .ref mm]))]) [1] (by decide +kernel) rfl
  have hKc := hK.sub (tys' := []) [] rfl
  have hFc := ro_free hS hA
  refine va_calli (va_runV (As := []) (rest := [.ref tr]) ⟨hx, hb, hml, hown, hts⟩ (c_X1_cgN l dC dI (h1) (fi) ((kk + 256 * (ms % 256) + 65536 * (ms / 256) + 16777216 * ((ms + 6) / 7))) ((se + 256 * mg)) (mm) H.size hfi (by omega) (by omega)) (cwV 0 hts g_c_begin_c_X1_cgN_62 rfl rfl rfl (by decide +kernel) ⟨Nat.le_of_ble_eq_true rfl, Nat.le_of_ble_eq_true rfl⟩) ⟨fun a U g mk q => by obtain ⟨q0, q1, qP, qK, qD, qE⟩ := q; exact ⟨q0, q1, qP, va_K.moved (u := U) (U := U.calling g mk a) (Vm.Alike.refl U.vm) qK, qD, ev.same (u := U) (U := U.calling g mk a) rfl qE⟩, va_recv hKc hPc (ci := 2) (q0 := 0) rfl rfl, fun U hU hW => ⟨rfl, by rw [hU], by rw [hU]; exact hPc, va_K.moved hW.alike hKc, hDc.weaken (fun _ _ _ _ => trivial), hE.warm hW⟩⟩ rfl rfl hl.1 rfl (lv_room (Nat.le_of_ble_eq_true rfl)) dX9_begin_15 ⟨Nat.le_of_ble_eq_true rfl, Nat.le_of_ble_eq_true rfl⟩) hS (fun q _ h => hFc q h) hFc (fun r_2 u t H1 locs ht hvm hw hB hz1 hk1 hS => ?_)
  clear hPc hDc hKc
  replace hP := ro_keep hP hk1
  generalize H1 = H at hP hS ⊢
  replace hP : va_P (dC, dI) vwCl [(tr, .inr (10, [.int 1, .int (nI (fi % 256)), .int j2, .int j3, .int j4, .int j5, .int j6, .int j7, .int j8, .int j9, .int j10, .int j11, .ref jw, .ref tb])), (h1, .inr (2, [.int (nI fi), .int (nI (kk + 256 * (ms % 256) + 65536 * (ms / 256) + 16777216 * ((ms + 6) / 7))), .int (nI (se + 256 * mg)), .ref mm])), (mm, .inr (4, [.int (nI mi), .int (nI mt), .int (nI mg), .int (nI ms), .int sd, .null]))] H := hP
  have hw := hw.symm
  subst hw
  refine va_put (D := (dC, dI)) (ci := 10) (v := .int (nI ((se + 256 * mg) / 256))) (ty := .int) (C := RX9) (T := TX9) (N := 14) hx hb hts in_c_begin_X9 tyX9 tyX9_ok nmX9 hown hK hP hD hS 0 rfl rfl 2 (by decide) (hts (.fieldLink RX9 19 "ClaimBus$Transport" "group" "I") (List.mem_of_getElem? (i := 10) rfl)) (fun _ h9 => h9) rfl (by decide +kernel) rfl rfl (Nat.le_of_ble_eq_true rfl) dX9_begin_18 (fun H locs hP hD hS => ?_)
  replace hP : va_P (dC, dI) vwCl [(tr, .inr (10, [.int 1, .int (nI (fi % 256)), .int (nI ((se + 256 * mg) / 256)), .int j3, .int j4, .int j5, .int j6, .int j7, .int j8, .int j9, .int j10, .int j11, .ref jw, .ref tb])), (h1, .inr (2, [.int (nI fi), .int (nI (kk + 256 * (ms % 256) + 65536 * (ms / 256) + 16777216 * ((ms + 6) / 7))), .int (nI (se + 256 * mg)), .ref mm])), (mm, .inr (4, [.int (nI mi), .int (nI mt), .int (nI mg), .int (nI ms), .int sd, .null]))] H := hP
  replace hD : va_D A [(tr, .inr (10, [.int 1, .int (nI (fi % 256)), .int (nI ((se + 256 * mg) / 256)), .int j3, .int j4, .int j5, .int j6, .int j7, .int j8, .int j9, .int j10, .int j11, .ref jw, .ref tb])), (h1, .inr (2, [.int (nI fi), .int (nI (kk + 256 * (ms % 256) + 65536 * (ms / 256) + 16777216 * ((ms + 6) / 7))), .int (nI (se + 256 * mg)), .ref mm])), (mm, .inr (4, [.int (nI mi), .int (nI mt), .int (nI mg), .int (nI ms), .int sd, .null]))] := hD
  refine lv_aload_n hx hb dX9_begin_21 rfl (lv_at hl 0 rfl) ?_
  refine lv_aload_n hx hb dX9_begin_22 rfl (lv_at hl 1 rfl) ?_
  refine lv_iconst (v := 1) hx hb dX9_begin_23 (by decide) ?_
  have hPc := hP.sub (ws' := [(h1, .inr (2, [.int (nI fi), .int (nI (kk + 256 * (ms % 256) + 65536 * (ms / 256) + 16777216 * ((ms + 6) / 7))), .int (nI (se + 256 * mg)), .ref mm]))]) [1] rfl
  have hDc := hD.sub (ws' := [(h1, .inr (2, [.int (nI fi), .int (nI (kk + 256 * (ms % 256) + 65536 * (ms / 256) + 16777216 * ((ms + 6) / 7))), .int (nI (se + 256 * mg)), .ref mm]))]) [1] (by decide +kernel) rfl
  have hKc := hK.sub (tys' := []) [] rfl
  have hFc := ro_free hS hA
  refine va_calli (va_runV (As := [.int 1]) (rest := [.ref tr]) ⟨hx, hb, hml, hown, hts⟩ (c_X1_byteAt_1 l dC dI (h1) (fi) ((kk + 256 * (ms % 256) + 65536 * (ms / 256) + 16777216 * ((ms + 6) / 7))) ((se + 256 * mg)) (mm) H.size hfi (by omega) (by omega)) (cwV 1 hts g_c_begin_c_X1_byteAt_1_65 rfl rfl rfl (by decide +kernel) ⟨Nat.le_of_ble_eq_true rfl, Nat.le_of_ble_eq_true rfl⟩) ⟨fun a U g mk q => by obtain ⟨q0, q1, qP, qK, qD, qE⟩ := q; exact ⟨q0, q1, qP, va_K.moved (u := U) (U := U.calling g mk a) (Vm.Alike.refl U.vm) qK, qD, ev.same (u := U) (U := U.calling g mk a) rfl qE⟩, va_recv hKc hPc (ci := 2) (q0 := 0) rfl rfl, fun U hU hW => ⟨rfl, by rw [hU], by rw [hU]; exact hPc, va_K.moved hW.alike hKc, hDc.weaken (fun _ _ _ _ => trivial), hE.warm hW⟩⟩ rfl rfl hl.1 rfl (lv_room (Nat.le_of_ble_eq_true rfl)) dX9_begin_24 ⟨Nat.le_of_ble_eq_true rfl, Nat.le_of_ble_eq_true rfl⟩) hS (fun q _ h => hFc q h) hFc (fun r_3 u t H1 locs ht hvm hw hB hz1 hk1 hS => ?_)
  clear hPc hDc hKc
  replace hP := ro_keep hP hk1
  generalize H1 = H at hP hS ⊢
  replace hP : va_P (dC, dI) vwCl [(tr, .inr (10, [.int 1, .int (nI (fi % 256)), .int (nI ((se + 256 * mg) / 256)), .int j3, .int j4, .int j5, .int j6, .int j7, .int j8, .int j9, .int j10, .int j11, .ref jw, .ref tb])), (h1, .inr (2, [.int (nI fi), .int (nI (kk + 256 * (ms % 256) + 65536 * (ms / 256) + 16777216 * ((ms + 6) / 7))), .int (nI (se + 256 * mg)), .ref mm])), (mm, .inr (4, [.int (nI mi), .int (nI mt), .int (nI mg), .int (nI ms), .int sd, .null]))] H := hP
  have hw := hw.symm
  subst hw
  refine lv_aload_n hx hb dX9_begin_27 rfl (lv_at hl 1 rfl) ?_
  refine lv_iconst (v := 2) hx hb dX9_begin_28 (by decide) ?_
  have hPc := hP.sub (ws' := [(h1, .inr (2, [.int (nI fi), .int (nI (kk + 256 * (ms % 256) + 65536 * (ms / 256) + 16777216 * ((ms + 6) / 7))), .int (nI (se + 256 * mg)), .ref mm]))]) [1] rfl
  have hDc := hD.sub (ws' := [(h1, .inr (2, [.int (nI fi), .int (nI (kk + 256 * (ms % 256) + 65536 * (ms / 256) + 16777216 * ((ms + 6) / 7))), .int (nI (se + 256 * mg)), .ref mm]))]) [1] (by decide +kernel) rfl
  have hKc := hK.sub (tys' := []) [] rfl
  have hFc := ro_free hS hA
  refine va_calli (va_runV (As := [.int 2]) (rest := [.int (nI ((kk + 256 * (ms % 256) + 65536 * (ms / 256) + 16777216 * ((ms + 6) / 7)) / 256 % 256)), .ref tr]) ⟨hx, hb, hml, hown, hts⟩ (c_X1_byteAt_2 l dC dI (h1) (fi) ((kk + 256 * (ms % 256) + 65536 * (ms / 256) + 16777216 * ((ms + 6) / 7))) ((se + 256 * mg)) (mm) H.size hfi (by omega) (by omega)) (cwV 1 hts g_c_begin_c_X1_byteAt_2_65 rfl rfl rfl (by decide +kernel) ⟨Nat.le_of_ble_eq_true rfl, Nat.le_of_ble_eq_true rfl⟩) ⟨fun a U g mk q => by obtain ⟨q0, q1, qP, qK, qD, qE⟩ := q; exact ⟨q0, q1, qP, va_K.moved (u := U) (U := U.calling g mk a) (Vm.Alike.refl U.vm) qK, qD, ev.same (u := U) (U := U.calling g mk a) rfl qE⟩, va_recv hKc hPc (ci := 2) (q0 := 0) rfl rfl, fun U hU hW => ⟨rfl, by rw [hU], by rw [hU]; exact hPc, va_K.moved hW.alike hKc, hDc.weaken (fun _ _ _ _ => trivial), hE.warm hW⟩⟩ rfl rfl hl.1 rfl (lv_room (Nat.le_of_ble_eq_true rfl)) dX9_begin_29 ⟨Nat.le_of_ble_eq_true rfl, Nat.le_of_ble_eq_true rfl⟩) hS (fun q _ h => hFc q h) hFc (fun r_4 u t H1 locs ht hvm hw hB hz1 hk1 hS => ?_)
  clear hPc hDc hKc
  replace hP := ro_keep hP hk1
  generalize H1 = H at hP hS ⊢
  replace hP : va_P (dC, dI) vwCl [(tr, .inr (10, [.int 1, .int (nI (fi % 256)), .int (nI ((se + 256 * mg) / 256)), .int j3, .int j4, .int j5, .int j6, .int j7, .int j8, .int j9, .int j10, .int j11, .ref jw, .ref tb])), (h1, .inr (2, [.int (nI fi), .int (nI (kk + 256 * (ms % 256) + 65536 * (ms / 256) + 16777216 * ((ms + 6) / 7))), .int (nI (se + 256 * mg)), .ref mm])), (mm, .inr (4, [.int (nI mi), .int (nI mt), .int (nI mg), .int (nI ms), .int sd, .null]))] H := hP
  have hw := hw.symm
  subst hw
  refine lv_bipush (v := 8) hx hb dX9_begin_32 (by decide) ?_
  refine lv_ishl hx hb dX9_begin_34 ?_
  refine lv_topi (fun x_5 ex_5 => ?_)
  obtain rfl : x_5 = (nI (256 * ((((ms) / 256)) % 256))) := ex_5.trans ((pk_shlN (n := ((kk + 256 * (ms % 256) + 65536 * (ms / 256) + 16777216 * ((ms + 6) / 7)) / 65536 % 256)) ((8 : Int32) &&& 31) 8 (by decide) (by omega)).trans (show nI (((kk + 256 * (ms % 256) + 65536 * (ms / 256) + 16777216 * ((ms + 6) / 7)) / 65536 % 256) * 2 ^ 8) = nI (256 * ((((ms) / 256)) % 256)) from congrArg nI (by omega)))
  refine lv_ior hx hb dX9_begin_35 ?_
  refine lv_topi (fun x_6 ex_6 => ?_)
  obtain rfl : x_6 = (nI (256 * ((((ms) / 256)) % 256) + ((ms) % 256))) := ex_6.trans ((q_or' ((kk + 256 * (ms % 256) + 65536 * (ms / 256) + 16777216 * ((ms + 6) / 7)) / 256 % 256) (256 * ((((ms) / 256)) % 256)) 8 (by omega) (by omega) (by omega)).trans (show nI (((kk + 256 * (ms % 256) + 65536 * (ms / 256) + 16777216 * ((ms + 6) / 7)) / 256 % 256) + (256 * ((((ms) / 256)) % 256))) = nI (256 * ((((ms) / 256)) % 256) + ((ms) % 256)) from congrArg nI (by omega)))
  refine va_put (D := (dC, dI)) (ci := 10) (v := .int (nI (256 * ((((ms) / 256)) % 256) + ((ms) % 256)))) (ty := .int) (C := RX9) (T := TX9) (N := 14) hx hb hts in_c_begin_X9 tyX9 tyX9_ok nmX9 hown hK hP hD hS 0 rfl rfl 3 (by decide) (hts (.fieldLink RX9 22 "ClaimBus$Transport" "size" "I") (List.mem_of_getElem? (i := 14) rfl)) (fun _ h9 => h9) rfl (by decide +kernel) rfl rfl (Nat.le_of_ble_eq_true rfl) dX9_begin_36 (fun H locs hP hD hS => ?_)
  replace hP : va_P (dC, dI) vwCl [(tr, .inr (10, [.int 1, .int (nI (fi % 256)), .int (nI ((se + 256 * mg) / 256)), .int (nI (256 * ((((ms) / 256)) % 256) + ((ms) % 256))), .int j4, .int j5, .int j6, .int j7, .int j8, .int j9, .int j10, .int j11, .ref jw, .ref tb])), (h1, .inr (2, [.int (nI fi), .int (nI (kk + 256 * (ms % 256) + 65536 * (ms / 256) + 16777216 * ((ms + 6) / 7))), .int (nI (se + 256 * mg)), .ref mm])), (mm, .inr (4, [.int (nI mi), .int (nI mt), .int (nI mg), .int (nI ms), .int sd, .null]))] H := hP
  replace hD : va_D A [(tr, .inr (10, [.int 1, .int (nI (fi % 256)), .int (nI ((se + 256 * mg) / 256)), .int (nI (256 * ((((ms) / 256)) % 256) + ((ms) % 256))), .int j4, .int j5, .int j6, .int j7, .int j8, .int j9, .int j10, .int j11, .ref jw, .ref tb])), (h1, .inr (2, [.int (nI fi), .int (nI (kk + 256 * (ms % 256) + 65536 * (ms / 256) + 16777216 * ((ms + 6) / 7))), .int (nI (se + 256 * mg)), .ref mm])), (mm, .inr (4, [.int (nI mi), .int (nI mt), .int (nI mg), .int (nI ms), .int sd, .null]))] := hD
  refine lv_aload_n hx hb dX9_begin_39 rfl (lv_at hl 0 rfl) ?_
  refine lv_aload_n hx hb dX9_begin_40 rfl (lv_at hl 1 rfl) ?_
  refine lv_iconst (v := 3) hx hb dX9_begin_41 (by decide) ?_
  have hPc := hP.sub (ws' := [(h1, .inr (2, [.int (nI fi), .int (nI (kk + 256 * (ms % 256) + 65536 * (ms / 256) + 16777216 * ((ms + 6) / 7))), .int (nI (se + 256 * mg)), .ref mm]))]) [1] rfl
  have hDc := hD.sub (ws' := [(h1, .inr (2, [.int (nI fi), .int (nI (kk + 256 * (ms % 256) + 65536 * (ms / 256) + 16777216 * ((ms + 6) / 7))), .int (nI (se + 256 * mg)), .ref mm]))]) [1] (by decide +kernel) rfl
  have hKc := hK.sub (tys' := []) [] rfl
  have hFc := ro_free hS hA
  refine va_calli (va_runV (As := [.int 3]) (rest := [.ref tr]) ⟨hx, hb, hml, hown, hts⟩ (c_X1_byteAt_3 l dC dI (h1) (fi) ((kk + 256 * (ms % 256) + 65536 * (ms / 256) + 16777216 * ((ms + 6) / 7))) ((se + 256 * mg)) (mm) H.size hfi (by omega) (by omega)) (cwV 1 hts g_c_begin_c_X1_byteAt_3_65 rfl rfl rfl (by decide +kernel) ⟨Nat.le_of_ble_eq_true rfl, Nat.le_of_ble_eq_true rfl⟩) ⟨fun a U g mk q => by obtain ⟨q0, q1, qP, qK, qD, qE⟩ := q; exact ⟨q0, q1, qP, va_K.moved (u := U) (U := U.calling g mk a) (Vm.Alike.refl U.vm) qK, qD, ev.same (u := U) (U := U.calling g mk a) rfl qE⟩, va_recv hKc hPc (ci := 2) (q0 := 0) rfl rfl, fun U hU hW => ⟨rfl, by rw [hU], by rw [hU]; exact hPc, va_K.moved hW.alike hKc, hDc.weaken (fun _ _ _ _ => trivial), hE.warm hW⟩⟩ rfl rfl hl.1 rfl (lv_room (Nat.le_of_ble_eq_true rfl)) dX9_begin_42 ⟨Nat.le_of_ble_eq_true rfl, Nat.le_of_ble_eq_true rfl⟩) hS (fun q _ h => hFc q h) hFc (fun r_7 u t H1 locs ht hvm hw hB hz1 hk1 hS => ?_)
  clear hPc hDc hKc
  replace hP := ro_keep hP hk1
  generalize H1 = H at hP hS ⊢
  replace hP : va_P (dC, dI) vwCl [(tr, .inr (10, [.int 1, .int (nI (fi % 256)), .int (nI ((se + 256 * mg) / 256)), .int (nI (256 * ((((ms) / 256)) % 256) + ((ms) % 256))), .int j4, .int j5, .int j6, .int j7, .int j8, .int j9, .int j10, .int j11, .ref jw, .ref tb])), (h1, .inr (2, [.int (nI fi), .int (nI (kk + 256 * (ms % 256) + 65536 * (ms / 256) + 16777216 * ((ms + 6) / 7))), .int (nI (se + 256 * mg)), .ref mm])), (mm, .inr (4, [.int (nI mi), .int (nI mt), .int (nI mg), .int (nI ms), .int sd, .null]))] H := hP
  have hw := hw.symm
  subst hw
  refine va_put (D := (dC, dI)) (ci := 10) (v := .int (nI ((kk + 256 * (ms % 256) + 65536 * (ms / 256) + 16777216 * ((ms + 6) / 7)) / 16777216 % 256))) (ty := .int) (C := RX9) (T := TX9) (N := 14) hx hb hts in_c_begin_X9 tyX9 tyX9_ok nmX9 hown hK hP hD hS 0 rfl rfl 4 (by decide) (hts (.fieldLink RX9 25 "ClaimBus$Transport" "packets" "I") (List.mem_of_getElem? (i := 15) rfl)) (fun _ h9 => h9) rfl (by decide +kernel) rfl rfl (Nat.le_of_ble_eq_true rfl) dX9_begin_45 (fun H locs hP hD hS => ?_)
  replace hP : va_P (dC, dI) vwCl [(tr, .inr (10, [.int 1, .int (nI (fi % 256)), .int (nI ((se + 256 * mg) / 256)), .int (nI (256 * ((((ms) / 256)) % 256) + ((ms) % 256))), .int (nI ((kk + 256 * (ms % 256) + 65536 * (ms / 256) + 16777216 * ((ms + 6) / 7)) / 16777216 % 256)), .int j5, .int j6, .int j7, .int j8, .int j9, .int j10, .int j11, .ref jw, .ref tb])), (h1, .inr (2, [.int (nI fi), .int (nI (kk + 256 * (ms % 256) + 65536 * (ms / 256) + 16777216 * ((ms + 6) / 7))), .int (nI (se + 256 * mg)), .ref mm])), (mm, .inr (4, [.int (nI mi), .int (nI mt), .int (nI mg), .int (nI ms), .int sd, .null]))] H := hP
  replace hD : va_D A [(tr, .inr (10, [.int 1, .int (nI (fi % 256)), .int (nI ((se + 256 * mg) / 256)), .int (nI (256 * ((((ms) / 256)) % 256) + ((ms) % 256))), .int (nI ((kk + 256 * (ms % 256) + 65536 * (ms / 256) + 16777216 * ((ms + 6) / 7)) / 16777216 % 256)), .int j5, .int j6, .int j7, .int j8, .int j9, .int j10, .int j11, .ref jw, .ref tb])), (h1, .inr (2, [.int (nI fi), .int (nI (kk + 256 * (ms % 256) + 65536 * (ms / 256) + 16777216 * ((ms + 6) / 7))), .int (nI (se + 256 * mg)), .ref mm])), (mm, .inr (4, [.int (nI mi), .int (nI mt), .int (nI mg), .int (nI ms), .int sd, .null]))] := hD
  refine lv_aload_n hx hb dX9_begin_48 rfl (lv_at hl 0 rfl) ?_
  refine lv_aload_n hx hb dX9_begin_49 rfl (lv_at hl 1 rfl) ?_
  refine lv_iconst (v := 4) hx hb dX9_begin_50 (by decide) ?_
  have hPc := hP.sub (ws' := [(h1, .inr (2, [.int (nI fi), .int (nI (kk + 256 * (ms % 256) + 65536 * (ms / 256) + 16777216 * ((ms + 6) / 7))), .int (nI (se + 256 * mg)), .ref mm]))]) [1] rfl
  have hDc := hD.sub (ws' := [(h1, .inr (2, [.int (nI fi), .int (nI (kk + 256 * (ms % 256) + 65536 * (ms / 256) + 16777216 * ((ms + 6) / 7))), .int (nI (se + 256 * mg)), .ref mm]))]) [1] (by decide +kernel) rfl
  have hKc := hK.sub (tys' := []) [] rfl
  have hFc := ro_free hS hA
  refine va_calli (va_runV (As := [.int 4]) (rest := [.ref tr]) ⟨hx, hb, hml, hown, hts⟩ (c_X1_byteAt_4 l dC dI (h1) (fi) ((kk + 256 * (ms % 256) + 65536 * (ms / 256) + 16777216 * ((ms + 6) / 7))) ((se + 256 * mg)) (mm) H.size hfi (by omega) (by omega)) (cwV 1 hts g_c_begin_c_X1_byteAt_4_65 rfl rfl rfl (by decide +kernel) ⟨Nat.le_of_ble_eq_true rfl, Nat.le_of_ble_eq_true rfl⟩) ⟨fun a U g mk q => by obtain ⟨q0, q1, qP, qK, qD, qE⟩ := q; exact ⟨q0, q1, qP, va_K.moved (u := U) (U := U.calling g mk a) (Vm.Alike.refl U.vm) qK, qD, ev.same (u := U) (U := U.calling g mk a) rfl qE⟩, va_recv hKc hPc (ci := 2) (q0 := 0) rfl rfl, fun U hU hW => ⟨rfl, by rw [hU], by rw [hU]; exact hPc, va_K.moved hW.alike hKc, hDc.weaken (fun _ _ _ _ => trivial), hE.warm hW⟩⟩ rfl rfl hl.1 rfl (lv_room (Nat.le_of_ble_eq_true rfl)) dX9_begin_51 ⟨Nat.le_of_ble_eq_true rfl, Nat.le_of_ble_eq_true rfl⟩) hS (fun q _ h => hFc q h) hFc (fun r_8 u t H1 locs ht hvm hw hB hz1 hk1 hS => ?_)
  clear hPc hDc hKc
  replace hP := ro_keep hP hk1
  generalize H1 = H at hP hS ⊢
  replace hP : va_P (dC, dI) vwCl [(tr, .inr (10, [.int 1, .int (nI (fi % 256)), .int (nI ((se + 256 * mg) / 256)), .int (nI (256 * ((((ms) / 256)) % 256) + ((ms) % 256))), .int (nI ((kk + 256 * (ms % 256) + 65536 * (ms / 256) + 16777216 * ((ms + 6) / 7)) / 16777216 % 256)), .int j5, .int j6, .int j7, .int j8, .int j9, .int j10, .int j11, .ref jw, .ref tb])), (h1, .inr (2, [.int (nI fi), .int (nI (kk + 256 * (ms % 256) + 65536 * (ms / 256) + 16777216 * ((ms + 6) / 7))), .int (nI (se + 256 * mg)), .ref mm])), (mm, .inr (4, [.int (nI mi), .int (nI mt), .int (nI mg), .int (nI ms), .int sd, .null]))] H := hP
  have hw := hw.symm
  subst hw
  refine va_put (D := (dC, dI)) (ci := 10) (v := .int (nI ((se + 256 * mg) / 1 % 256))) (ty := .int) (C := RX9) (T := TX9) (N := 14) hx hb hts in_c_begin_X9 tyX9 tyX9_ok nmX9 hown hK hP hD hS 0 rfl rfl 5 (by decide) (hts (.fieldLink RX9 28 "ClaimBus$Transport" "window" "I") (List.mem_of_getElem? (i := 16) rfl)) (fun _ h9 => h9) rfl (by decide +kernel) rfl rfl (Nat.le_of_ble_eq_true rfl) dX9_begin_54 (fun H locs hP hD hS => ?_)
  replace hP : va_P (dC, dI) vwCl [(tr, .inr (10, [.int 1, .int (nI (fi % 256)), .int (nI ((se + 256 * mg) / 256)), .int (nI (256 * ((((ms) / 256)) % 256) + ((ms) % 256))), .int (nI ((kk + 256 * (ms % 256) + 65536 * (ms / 256) + 16777216 * ((ms + 6) / 7)) / 16777216 % 256)), .int (nI ((se + 256 * mg) / 1 % 256)), .int j6, .int j7, .int j8, .int j9, .int j10, .int j11, .ref jw, .ref tb])), (h1, .inr (2, [.int (nI fi), .int (nI (kk + 256 * (ms % 256) + 65536 * (ms / 256) + 16777216 * ((ms + 6) / 7))), .int (nI (se + 256 * mg)), .ref mm])), (mm, .inr (4, [.int (nI mi), .int (nI mt), .int (nI mg), .int (nI ms), .int sd, .null]))] H := hP
  replace hD : va_D A [(tr, .inr (10, [.int 1, .int (nI (fi % 256)), .int (nI ((se + 256 * mg) / 256)), .int (nI (256 * ((((ms) / 256)) % 256) + ((ms) % 256))), .int (nI ((kk + 256 * (ms % 256) + 65536 * (ms / 256) + 16777216 * ((ms + 6) / 7)) / 16777216 % 256)), .int (nI ((se + 256 * mg) / 1 % 256)), .int j6, .int j7, .int j8, .int j9, .int j10, .int j11, .ref jw, .ref tb])), (h1, .inr (2, [.int (nI fi), .int (nI (kk + 256 * (ms % 256) + 65536 * (ms / 256) + 16777216 * ((ms + 6) / 7))), .int (nI (se + 256 * mg)), .ref mm])), (mm, .inr (4, [.int (nI mi), .int (nI mt), .int (nI mg), .int (nI ms), .int sd, .null]))] := hD
  refine lv_aload_n hx hb dX9_begin_57 rfl (lv_at hl 0 rfl) ?_
  refine lv_iconst (v := 1) hx hb dX9_begin_58 (by decide) ?_
  refine va_put (D := (dC, dI)) (ci := 10) (v := .int 1) (ty := .int) (C := RX9) (T := TX9) (N := 14) hx hb hts in_c_begin_X9 tyX9 tyX9_ok nmX9 hown hK hP hD hS 0 rfl rfl 6 (by decide) (hts (.fieldLink RX9 31 "ClaimBus$Transport" "expected" "I") (List.mem_of_getElem? (i := 17) rfl)) (fun _ h9 => h9) rfl (by decide +kernel) rfl rfl (Nat.le_of_ble_eq_true rfl) dX9_begin_59 (fun H locs hP hD hS => ?_)
  replace hP : va_P (dC, dI) vwCl [(tr, .inr (10, [.int 1, .int (nI (fi % 256)), .int (nI ((se + 256 * mg) / 256)), .int (nI (256 * ((((ms) / 256)) % 256) + ((ms) % 256))), .int (nI ((kk + 256 * (ms % 256) + 65536 * (ms / 256) + 16777216 * ((ms + 6) / 7)) / 16777216 % 256)), .int (nI ((se + 256 * mg) / 1 % 256)), .int 1, .int j7, .int j8, .int j9, .int j10, .int j11, .ref jw, .ref tb])), (h1, .inr (2, [.int (nI fi), .int (nI (kk + 256 * (ms % 256) + 65536 * (ms / 256) + 16777216 * ((ms + 6) / 7))), .int (nI (se + 256 * mg)), .ref mm])), (mm, .inr (4, [.int (nI mi), .int (nI mt), .int (nI mg), .int (nI ms), .int sd, .null]))] H := hP
  replace hD : va_D A [(tr, .inr (10, [.int 1, .int (nI (fi % 256)), .int (nI ((se + 256 * mg) / 256)), .int (nI (256 * ((((ms) / 256)) % 256) + ((ms) % 256))), .int (nI ((kk + 256 * (ms % 256) + 65536 * (ms / 256) + 16777216 * ((ms + 6) / 7)) / 16777216 % 256)), .int (nI ((se + 256 * mg) / 1 % 256)), .int 1, .int j7, .int j8, .int j9, .int j10, .int j11, .ref jw, .ref tb])), (h1, .inr (2, [.int (nI fi), .int (nI (kk + 256 * (ms % 256) + 65536 * (ms / 256) + 16777216 * ((ms + 6) / 7))), .int (nI (se + 256 * mg)), .ref mm])), (mm, .inr (4, [.int (nI mi), .int (nI mt), .int (nI mg), .int (nI ms), .int sd, .null]))] := hD
  refine lv_aload_n hx hb dX9_begin_62 rfl (lv_at hl 0 rfl) ?_
  refine lv_iconst (v := 0) hx hb dX9_begin_63 (by decide) ?_
  refine va_put (D := (dC, dI)) (ci := 10) (v := .int 0) (ty := .int) (C := RX9) (T := TX9) (N := 14) hx hb hts in_c_begin_X9 tyX9 tyX9_ok nmX9 hown hK hP hD hS 0 rfl rfl 7 (by decide) (hts (.fieldLink RX9 34 "ClaimBus$Transport" "clearedTo" "I") (List.mem_of_getElem? (i := 18) rfl)) (fun _ h9 => h9) rfl (by decide +kernel) rfl rfl (Nat.le_of_ble_eq_true rfl) dX9_begin_64 (fun H locs hP hD hS => ?_)
  replace hP : va_P (dC, dI) vwCl [(tr, .inr (10, [.int 1, .int (nI (fi % 256)), .int (nI ((se + 256 * mg) / 256)), .int (nI (256 * ((((ms) / 256)) % 256) + ((ms) % 256))), .int (nI ((kk + 256 * (ms % 256) + 65536 * (ms / 256) + 16777216 * ((ms + 6) / 7)) / 16777216 % 256)), .int (nI ((se + 256 * mg) / 1 % 256)), .int 1, .int 0, .int j8, .int j9, .int j10, .int j11, .ref jw, .ref tb])), (h1, .inr (2, [.int (nI fi), .int (nI (kk + 256 * (ms % 256) + 65536 * (ms / 256) + 16777216 * ((ms + 6) / 7))), .int (nI (se + 256 * mg)), .ref mm])), (mm, .inr (4, [.int (nI mi), .int (nI mt), .int (nI mg), .int (nI ms), .int sd, .null]))] H := hP
  replace hD : va_D A [(tr, .inr (10, [.int 1, .int (nI (fi % 256)), .int (nI ((se + 256 * mg) / 256)), .int (nI (256 * ((((ms) / 256)) % 256) + ((ms) % 256))), .int (nI ((kk + 256 * (ms % 256) + 65536 * (ms / 256) + 16777216 * ((ms + 6) / 7)) / 16777216 % 256)), .int (nI ((se + 256 * mg) / 1 % 256)), .int 1, .int 0, .int j8, .int j9, .int j10, .int j11, .ref jw, .ref tb])), (h1, .inr (2, [.int (nI fi), .int (nI (kk + 256 * (ms % 256) + 65536 * (ms / 256) + 16777216 * ((ms + 6) / 7))), .int (nI (se + 256 * mg)), .ref mm])), (mm, .inr (4, [.int (nI mi), .int (nI mt), .int (nI mg), .int (nI ms), .int sd, .null]))] := hD
  refine lv_aload_n hx hb dX9_begin_67 rfl (lv_at hl 0 rfl) ?_
  refine lv_iload_n hx hb dX9_begin_68 rfl (lv_at hl 2 rfl) ?_
  refine va_put (D := (dC, dI)) (ci := 10) (v := .int (nI tl)) (ty := .int) (C := RX9) (T := TX9) (N := 14) hx hb hts in_c_begin_X9 tyX9 tyX9_ok nmX9 hown hK hP hD hS 0 rfl rfl 8 (by decide) (hts (.fieldLink RX9 37 "ClaimBus$Transport" "lastHeard" "I") (List.mem_of_getElem? (i := 19) rfl)) (fun _ h9 => h9) rfl (by decide +kernel) rfl rfl (Nat.le_of_ble_eq_true rfl) dX9_begin_69 (fun H locs hP hD hS => ?_)
  replace hP : va_P (dC, dI) vwCl [(tr, .inr (10, [.int 1, .int (nI (fi % 256)), .int (nI ((se + 256 * mg) / 256)), .int (nI (256 * ((((ms) / 256)) % 256) + ((ms) % 256))), .int (nI ((kk + 256 * (ms % 256) + 65536 * (ms / 256) + 16777216 * ((ms + 6) / 7)) / 16777216 % 256)), .int (nI ((se + 256 * mg) / 1 % 256)), .int 1, .int 0, .int (nI tl), .int j9, .int j10, .int j11, .ref jw, .ref tb])), (h1, .inr (2, [.int (nI fi), .int (nI (kk + 256 * (ms % 256) + 65536 * (ms / 256) + 16777216 * ((ms + 6) / 7))), .int (nI (se + 256 * mg)), .ref mm])), (mm, .inr (4, [.int (nI mi), .int (nI mt), .int (nI mg), .int (nI ms), .int sd, .null]))] H := hP
  replace hD : va_D A [(tr, .inr (10, [.int 1, .int (nI (fi % 256)), .int (nI ((se + 256 * mg) / 256)), .int (nI (256 * ((((ms) / 256)) % 256) + ((ms) % 256))), .int (nI ((kk + 256 * (ms % 256) + 65536 * (ms / 256) + 16777216 * ((ms + 6) / 7)) / 16777216 % 256)), .int (nI ((se + 256 * mg) / 1 % 256)), .int 1, .int 0, .int (nI tl), .int j9, .int j10, .int j11, .ref jw, .ref tb])), (h1, .inr (2, [.int (nI fi), .int (nI (kk + 256 * (ms % 256) + 65536 * (ms / 256) + 16777216 * ((ms + 6) / 7))), .int (nI (se + 256 * mg)), .ref mm])), (mm, .inr (4, [.int (nI mi), .int (nI mt), .int (nI mg), .int (nI ms), .int sd, .null]))] := hD
  refine lv_aload_n hx hb dX9_begin_72 rfl (lv_at hl 0 rfl) ?_
  refine lv_iconst (v := 0) hx hb dX9_begin_73 (by decide) ?_
  refine va_put (D := (dC, dI)) (ci := 10) (v := .int 0) (ty := .int) (C := RX9) (T := TX9) (N := 14) hx hb hts in_c_begin_X9 tyX9 tyX9_ok nmX9 hown hK hP hD hS 0 rfl rfl 9 (by decide) (hts (.fieldLink RX9 40 "ClaimBus$Transport" "waits" "I") (List.mem_of_getElem? (i := 20) rfl)) (fun _ h9 => h9) rfl (by decide +kernel) rfl rfl (Nat.le_of_ble_eq_true rfl) dX9_begin_74 (fun H locs hP hD hS => ?_)
  replace hP : va_P (dC, dI) vwCl [(tr, .inr (10, [.int 1, .int (nI (fi % 256)), .int (nI ((se + 256 * mg) / 256)), .int (nI (256 * ((((ms) / 256)) % 256) + ((ms) % 256))), .int (nI ((kk + 256 * (ms % 256) + 65536 * (ms / 256) + 16777216 * ((ms + 6) / 7)) / 16777216 % 256)), .int (nI ((se + 256 * mg) / 1 % 256)), .int 1, .int 0, .int (nI tl), .int 0, .int j10, .int j11, .ref jw, .ref tb])), (h1, .inr (2, [.int (nI fi), .int (nI (kk + 256 * (ms % 256) + 65536 * (ms / 256) + 16777216 * ((ms + 6) / 7))), .int (nI (se + 256 * mg)), .ref mm])), (mm, .inr (4, [.int (nI mi), .int (nI mt), .int (nI mg), .int (nI ms), .int sd, .null]))] H := hP
  replace hD : va_D A [(tr, .inr (10, [.int 1, .int (nI (fi % 256)), .int (nI ((se + 256 * mg) / 256)), .int (nI (256 * ((((ms) / 256)) % 256) + ((ms) % 256))), .int (nI ((kk + 256 * (ms % 256) + 65536 * (ms / 256) + 16777216 * ((ms + 6) / 7)) / 16777216 % 256)), .int (nI ((se + 256 * mg) / 1 % 256)), .int 1, .int 0, .int (nI tl), .int 0, .int j10, .int j11, .ref jw, .ref tb])), (h1, .inr (2, [.int (nI fi), .int (nI (kk + 256 * (ms % 256) + 65536 * (ms / 256) + 16777216 * ((ms + 6) / 7))), .int (nI (se + 256 * mg)), .ref mm])), (mm, .inr (4, [.int (nI mi), .int (nI mt), .int (nI mg), .int (nI ms), .int sd, .null]))] := hD
  refine lv_aload_n hx hb dX9_begin_77 rfl (lv_at hl 0 rfl) ?_
  refine lv_iconst (v := 0) hx hb dX9_begin_78 (by decide) ?_
  refine va_put (D := (dC, dI)) (ci := 10) (v := .int 0) (ty := .int) (C := RX9) (T := TX9) (N := 14) hx hb hts in_c_begin_X9 tyX9 tyX9_ok nmX9 hown hK hP hD hS 0 rfl rfl 10 (by decide) (hts (.fieldLink RX9 43 "ClaimBus$Transport" "sum" "I") (List.mem_of_getElem? (i := 21) rfl)) (fun _ h9 => h9) rfl (by decide +kernel) rfl rfl (Nat.le_of_ble_eq_true rfl) dX9_begin_79 (fun H locs hP hD hS => ?_)
  replace hP : va_P (dC, dI) vwCl [(tr, .inr (10, [.int 1, .int (nI (fi % 256)), .int (nI ((se + 256 * mg) / 256)), .int (nI (256 * ((((ms) / 256)) % 256) + ((ms) % 256))), .int (nI ((kk + 256 * (ms % 256) + 65536 * (ms / 256) + 16777216 * ((ms + 6) / 7)) / 16777216 % 256)), .int (nI ((se + 256 * mg) / 1 % 256)), .int 1, .int 0, .int (nI tl), .int 0, .int 0, .int j11, .ref jw, .ref tb])), (h1, .inr (2, [.int (nI fi), .int (nI (kk + 256 * (ms % 256) + 65536 * (ms / 256) + 16777216 * ((ms + 6) / 7))), .int (nI (se + 256 * mg)), .ref mm])), (mm, .inr (4, [.int (nI mi), .int (nI mt), .int (nI mg), .int (nI ms), .int sd, .null]))] H := hP
  replace hD : va_D A [(tr, .inr (10, [.int 1, .int (nI (fi % 256)), .int (nI ((se + 256 * mg) / 256)), .int (nI (256 * ((((ms) / 256)) % 256) + ((ms) % 256))), .int (nI ((kk + 256 * (ms % 256) + 65536 * (ms / 256) + 16777216 * ((ms + 6) / 7)) / 16777216 % 256)), .int (nI ((se + 256 * mg) / 1 % 256)), .int 1, .int 0, .int (nI tl), .int 0, .int 0, .int j11, .ref jw, .ref tb])), (h1, .inr (2, [.int (nI fi), .int (nI (kk + 256 * (ms % 256) + 65536 * (ms / 256) + 16777216 * ((ms + 6) / 7))), .int (nI (se + 256 * mg)), .ref mm])), (mm, .inr (4, [.int (nI mi), .int (nI mt), .int (nI mg), .int (nI ms), .int sd, .null]))] := hD
  refine lv_aload_n hx hb dX9_begin_82 rfl (lv_at hl 0 rfl) ?_
  refine lv_aload_n hx hb dX9_begin_83 rfl (lv_at hl 1 rfl) ?_
  refine va_get (D := (dC, dI)) (ci := 2) (v := .ref mm) (C := RX1) (T := TX1) (N := 4) hx hb hts in_c_begin_X1 hown hK hP 1 rfl rfl 3 (by decide) (hts (.fieldLink RX9 69 "ClaimBus$Frame" "whole" "LClaimBus$Message;") (List.mem_of_getElem? (i := 22) rfl)) (fun _ h9 => h9) rfl dX9_begin_84 ?_
  refine va_put (D := (dC, dI)) (ci := 10) (v := .ref mm) (ty := (.object "ClaimBus$Message")) (C := RX9) (T := TX9) (N := 14) hx hb hts in_c_begin_X9 tyX9 tyX9_ok nmX9 hown hK hP hD hS 0 rfl rfl 12 (by decide) (hts (.fieldLink RX9 49 "ClaimBus$Transport" "whole" "LClaimBus$Message;") (List.mem_of_getElem? (i := 23) rfl)) (fun _ h9 => h9) rfl (by decide +kernel) rfl rfl (Nat.le_of_ble_eq_true rfl) dX9_begin_87 (fun H locs hP hD hS => ?_)
  replace hP : va_P (dC, dI) vwCl [(tr, .inr (10, [.int 1, .int (nI (fi % 256)), .int (nI ((se + 256 * mg) / 256)), .int (nI (256 * ((((ms) / 256)) % 256) + ((ms) % 256))), .int (nI ((kk + 256 * (ms % 256) + 65536 * (ms / 256) + 16777216 * ((ms + 6) / 7)) / 16777216 % 256)), .int (nI ((se + 256 * mg) / 1 % 256)), .int 1, .int 0, .int (nI tl), .int 0, .int 0, .int j11, .ref mm, .ref tb])), (h1, .inr (2, [.int (nI fi), .int (nI (kk + 256 * (ms % 256) + 65536 * (ms / 256) + 16777216 * ((ms + 6) / 7))), .int (nI (se + 256 * mg)), .ref mm])), (mm, .inr (4, [.int (nI mi), .int (nI mt), .int (nI mg), .int (nI ms), .int sd, .null]))] H := hP
  replace hD : va_D A [(tr, .inr (10, [.int 1, .int (nI (fi % 256)), .int (nI ((se + 256 * mg) / 256)), .int (nI (256 * ((((ms) / 256)) % 256) + ((ms) % 256))), .int (nI ((kk + 256 * (ms % 256) + 65536 * (ms / 256) + 16777216 * ((ms + 6) / 7)) / 16777216 % 256)), .int (nI ((se + 256 * mg) / 1 % 256)), .int 1, .int 0, .int (nI tl), .int 0, .int 0, .int j11, .ref mm, .ref tb])), (h1, .inr (2, [.int (nI fi), .int (nI (kk + 256 * (ms % 256) + 65536 * (ms / 256) + 16777216 * ((ms + 6) / 7))), .int (nI (se + 256 * mg)), .ref mm])), (mm, .inr (4, [.int (nI mi), .int (nI mt), .int (nI mg), .int (nI ms), .int sd, .null]))] := hD
  refine lv_aload_n hx hb dX9_begin_90 rfl (lv_at hl 0 rfl) ?_
  refine lv_aload_n hx hb dX9_begin_91 rfl (lv_at hl 0 rfl) ?_
  refine va_get (D := (dC, dI)) (ci := 10) (v := .ref mm) (C := RX9) (T := TX9) (N := 14) hx hb hts in_c_begin_X9 hown hK hP 0 rfl rfl 12 (by decide) (hts (.fieldLink RX9 49 "ClaimBus$Transport" "whole" "LClaimBus$Message;") (List.mem_of_getElem? (i := 23) rfl)) (fun _ h9 => h9) rfl dX9_begin_92 ?_
  refine lv_ifnull hx hb dX9_begin_95 ?_
  refine lv_aload_n hx hb dX9_begin_98 rfl (lv_at hl 0 rfl) ?_
  refine va_get (D := (dC, dI)) (ci := 10) (v := .ref mm) (C := RX9) (T := TX9) (N := 14) hx hb hts in_c_begin_X9 hown hK hP 0 rfl rfl 12 (by decide) (hts (.fieldLink RX9 49 "ClaimBus$Transport" "whole" "LClaimBus$Message;") (List.mem_of_getElem? (i := 23) rfl)) (fun _ h9 => h9) rfl dX9_begin_99 ?_
  refine va_get (D := (dC, dI)) (ci := 4) (v := .int (nI ms)) (C := RX3) (T := TX3) (N := 6) hx hb hts in_c_begin_X3 hown hK hP 2 rfl rfl 3 (by decide) (hts (.fieldLink RX9 70 "ClaimBus$Message" "size" "I") (List.mem_of_getElem? (i := 24) rfl)) (fun _ h9 => h9) rfl dX9_begin_102 ?_
  refine lv_aload_n hx hb dX9_begin_105 rfl (lv_at hl 0 rfl) ?_
  refine va_get (D := (dC, dI)) (ci := 10) (v := .int (nI (256 * ((((ms) / 256)) % 256) + ((ms) % 256)))) (C := RX9) (T := TX9) (N := 14) hx hb hts in_c_begin_X9 hown hK hP 0 rfl rfl 3 (by decide) (hts (.fieldLink RX9 22 "ClaimBus$Transport" "size" "I") (List.mem_of_getElem? (i := 14) rfl)) (fun _ h9 => h9) rfl dX9_begin_106 ?_
  refine lv_icmp_ne (tgt := 130) hx hb dX9_begin_109 (by decide) (fun c_9 => ?_) (fun c_9 => ?_)
  · exact absurd ((nI_eq (a := ms) (b := (256 * ((((ms) / 256)) % 256) + ((ms) % 256))) (by omega) (by omega)).mpr (by omega)) c_9
  refine lv_aload_n hx hb dX9_begin_112 rfl (lv_at hl 0 rfl) ?_
  refine va_get (D := (dC, dI)) (ci := 10) (v := .ref mm) (C := RX9) (T := TX9) (N := 14) hx hb hts in_c_begin_X9 hown hK hP 0 rfl rfl 12 (by decide) (hts (.fieldLink RX9 49 "ClaimBus$Transport" "whole" "LClaimBus$Message;") (List.mem_of_getElem? (i := 23) rfl)) (fun _ h9 => h9) rfl dX9_begin_113 ?_
  refine va_get (D := (dC, dI)) (ci := 4) (v := .int (nI mg)) (C := RX3) (T := TX3) (N := 6) hx hb hts in_c_begin_X3 hown hK hP 2 rfl rfl 2 (by decide) (hts (.fieldLink RX9 73 "ClaimBus$Message" "group" "I") (List.mem_of_getElem? (i := 25) rfl)) (fun _ h9 => h9) rfl dX9_begin_116 ?_
  refine lv_aload_n hx hb dX9_begin_119 rfl (lv_at hl 0 rfl) ?_
  refine va_get (D := (dC, dI)) (ci := 10) (v := .int (nI ((se + 256 * mg) / 256))) (C := RX9) (T := TX9) (N := 14) hx hb hts in_c_begin_X9 hown hK hP 0 rfl rfl 2 (by decide) (hts (.fieldLink RX9 19 "ClaimBus$Transport" "group" "I") (List.mem_of_getElem? (i := 10) rfl)) (fun _ h9 => h9) rfl dX9_begin_120 ?_
  refine lv_icmp_ne (tgt := 130) hx hb dX9_begin_123 (by decide) (fun c_10 => ?_) (fun c_10 => ?_)
  · exact absurd ((nI_eq (a := mg) (b := ((se + 256 * mg) / 256)) (by omega) (by omega)).mpr (by omega)) c_10
  refine lv_iconst (v := 1) hx hb dX9_begin_126 (by decide) ?_
  refine lv_goto (tgt := 131) hx hb dX9_begin_127 (by decide) ?_
  refine va_put (D := (dC, dI)) (ci := 10) (v := .int 1) (ty := .boolean) (C := RX9) (T := TX9) (N := 14) hx hb hts in_c_begin_X9 tyX9 tyX9_ok nmX9 hown hK hP hD hS 0 rfl rfl 11 (by decide) (hts (.fieldLink RX9 46 "ClaimBus$Transport" "isAsSent" "Z") (List.mem_of_getElem? (i := 26) rfl)) (fun _ h9 => h9) rfl (by decide +kernel) rfl rfl (Nat.le_of_ble_eq_true rfl) dX9_begin_131 (fun H locs hP hD hS => ?_)
  replace hP : va_P (dC, dI) vwCl [(tr, .inr (10, [.int 1, .int (nI (fi % 256)), .int (nI ((se + 256 * mg) / 256)), .int (nI (256 * ((((ms) / 256)) % 256) + ((ms) % 256))), .int (nI ((kk + 256 * (ms % 256) + 65536 * (ms / 256) + 16777216 * ((ms + 6) / 7)) / 16777216 % 256)), .int (nI ((se + 256 * mg) / 1 % 256)), .int 1, .int 0, .int (nI tl), .int 0, .int 0, .int 1, .ref mm, .ref tb])), (h1, .inr (2, [.int (nI fi), .int (nI (kk + 256 * (ms % 256) + 65536 * (ms / 256) + 16777216 * ((ms + 6) / 7))), .int (nI (se + 256 * mg)), .ref mm])), (mm, .inr (4, [.int (nI mi), .int (nI mt), .int (nI mg), .int (nI ms), .int sd, .null]))] H := hP
  replace hD : va_D A [(tr, .inr (10, [.int 1, .int (nI (fi % 256)), .int (nI ((se + 256 * mg) / 256)), .int (nI (256 * ((((ms) / 256)) % 256) + ((ms) % 256))), .int (nI ((kk + 256 * (ms % 256) + 65536 * (ms / 256) + 16777216 * ((ms + 6) / 7)) / 16777216 % 256)), .int (nI ((se + 256 * mg) / 1 % 256)), .int 1, .int 0, .int (nI tl), .int 0, .int 0, .int 1, .ref mm, .ref tb])), (h1, .inr (2, [.int (nI fi), .int (nI (kk + 256 * (ms % 256) + 65536 * (ms / 256) + 16777216 * ((ms + 6) / 7))), .int (nI (se + 256 * mg)), .ref mm])), (mm, .inr (4, [.int (nI mi), .int (nI mt), .int (nI mg), .int (nI ms), .int sd, .null]))] := hD
  rw [show ((nI ((se + 256 * mg) / 256)) : Int32) = (nI mg) from congrArg nI (show ((se + 256 * mg) / 256) = mg from by omega)] at hP hD
  rw [show ((nI (256 * ((((ms) / 256)) % 256) + ((ms) % 256))) : Int32) = (nI ms) from congrArg nI (show (256 * ((((ms) / 256)) % 256) + ((ms) % 256)) = ms from by omega)] at hP hD
  rw [show ((nI ((kk + 256 * (ms % 256) + 65536 * (ms / 256) + 16777216 * ((ms + 6) / 7)) / 16777216 % 256)) : Int32) = (nI ((ms + 6) / 7)) from congrArg nI (show ((kk + 256 * (ms % 256) + 65536 * (ms / 256) + 16777216 * ((ms + 6) / 7)) / 16777216 % 256) = ((ms + 6) / 7) from by omega)] at hP hD
  rw [show ((nI ((se + 256 * mg) / 1 % 256)) : Int32) = (nI se) from congrArg nI (show ((se + 256 * mg) / 1 % 256) = se from by omega)] at hP hD
  have hP9 := hP.sub (ws' := [(tr, .inr (10, [.int 1, .int (nI (fi % 256)), .int (nI mg), .int (nI ms), .int (nI ((ms + 6) / 7)), .int (nI se), .int 1, .int 0, .int (nI tl), .int 0, .int 0, .int 1, .ref mm, .ref tb])), (h1, .inr (2, [.int (nI fi), .int (nI (kk + 256 * (ms % 256) + 65536 * (ms / 256) + 16777216 * ((ms + 6) / 7))), .int (nI (se + 256 * mg)), .ref mm])), (mm, .inr (4, [.int (nI mi), .int (nI mt), .int (nI mg), .int (nI ms), .int sd, .null]))]) [0, 1, 2] rfl
  have hD9 := hD.sub (ws' := [(tr, .inr (10, [.int 1, .int (nI (fi % 256)), .int (nI mg), .int (nI ms), .int (nI ((ms + 6) / 7)), .int (nI se), .int 1, .int 0, .int (nI tl), .int 0, .int 0, .int 1, .ref mm, .ref tb])), (h1, .inr (2, [.int (nI fi), .int (nI (kk + 256 * (ms % 256) + 65536 * (ms / 256) + 16777216 * ((ms + 6) / 7))), .int (nI (se + 256 * mg)), .ref mm])), (mm, .inr (4, [.int (nI mi), .int (nI mt), .int (nI mg), .int (nI ms), .int sd, .null]))]) [0, 1, 2] (by decide +kernel) rfl
  have hK9 := hK.sub (tys' := []) [] rfl
  exact W.vret hx hb hr (fun t ht hW => ⟨⟨(), rfl, trivial, ⟨by rw [ht]; exact hP9, va_K.moved hW.alike hK9, hD9⟩⟩, hS.F ht⟩) hS.2.2 dX9_begin_134

noncomputable def tl_c_isWhole_y : List Cond := wsX90
noncomputable def v_c_isWhole_y : List Cond := .code yX9_isWhole cX9_isWhole 1 (some .boolean) :: ([.fieldLink RX9 31 "ClaimBus$Transport" "expected" "I", .fieldLink RX9 25 "ClaimBus$Transport" "packets" "I"] ++ tl_c_isWhole_y)
theorem it_c_isWhole_y : ∀ w ∈ tl_c_isWhole_y, w ∈ v_c_isWhole_y := fun w h => List.mem_cons_of_mem _ (List.mem_append_right _ h)
theorem in_c_isWhole_y_X9 : ∀ w ∈ wsX90, w ∈ v_c_isWhole_y := fun w h => it_c_isWhole_y w (h)
theorem gt_c_isWhole_y : ∀ w ∈ tl_c_isWhole_y, goodWord w = true := gw_wsX90
theorem gw_c_isWhole_y : ∀ w ∈ v_c_isWhole_y, goodWord w = true := List.forall_mem_cons.mpr ⟨by decide +kernel, List.forall_mem_append.mpr ⟨List.all_eq_true.mp (by decide +kernel), gt_c_isWhole_y⟩⟩
set_option maxHeartbeats 4000000 in
set_option maxRecDepth 100000 in
theorem c_isWhole_y (l : Launch) (dC : Nat → ClassId) (dI : Nat → Nat → Nat) (tr : Nat) (tso : Nat) (tg : Nat) (ts : Nat) (tp : Nat) (tw : Nat) (te : Nat) (tc : Nat) (tl : Nat) (tsu : Int32) (mm : Nat) (tb : Nat) (sz : Nat) (hte : te < 300) (htp : tp < 256) (h : tp < te) : Met l yX9_isWhole v_c_isWhole_y ({ frames := 0, cells := 0, slots := 0, locals := 0 }) (va_Pc [.ref tr] (fun U => U.heap.size = sz ∧ va_P (dC, dI) vwCl [(tr, .inr (10, [.int 1, .int (nI tso), .int (nI tg), .int (nI ts), .int (nI tp), .int (nI tw), .int (nI te), .int (nI tc), .int (nI tl), .int 0, .int tsu, .int 1, .ref mm, .ref tb]))] U.heap ∧ va_K (dC, dI) vwCl [] U ∧ va_D (fun _ => True) [(tr, .inr (10, [.int 1, .int (nI tso), .int (nI tg), .int (nI ts), .int (nI tp), .int (nI tw), .int (nI te), .int (nI tc), .int (nI tl), .int 0, .int tsu, .int 1, .ref mm, .ref tb]))] ∧ ev U)) (va_Qi (fun (r : Int32) (_ : Unit) => r = 1) (fun (_ : Unit) (_ : State) => True) (va_A [] sz)) 0 0 (va_A [] sz) := by
  refine Met.ofW (cc := cX9_isWhole) (maxL := 1) (ret := (some .boolean)) (by decide) rfl ?_
  intro p e s m args below meth c s₁ B hml hv
  obtain ⟨rfl, hsz, hP, hK, hD0, hE⟩ := hv
  have hx := B.exec
  have hb := B.bytes
  have hr := B.returns
  have hts := atoms_spec (ws := v_c_isWhole_y) B.pre
  have hown : s.vm.findClass RX9 = some m.cls := findClass_of_methodNamed B.named
  have hlocks := B.notSynchronized
  subst hsz
  have hD := hD0
  generalize hAe : va_A [] s.heap.size = A
  have hA : ∀ q : Nat, s.heap.size ≤ q → A q := fun q h => by rw [← hAe]; exact Or.inr h
  have hS : va_S A s.heap s.heap [] := va_S.rf
  replace hP : va_P (dC, dI) vwCl [(tr, .inr (10, [.int 1, .int (nI tso), .int (nI tg), .int (nI ts), .int (nI tp), .int (nI tw), .int (nI te), .int (nI tc), .int (nI tl), .int 0, .int tsu, .int 1, .ref mm, .ref tb]))] s.heap := hP
  have hl := lv_entry ([.ref tr]) (n := 1) (Nat.le_of_ble_eq_true rfl)
  rw [lg_entry_eq]
  generalize (lg_sl ([.ref tr]) ++ List.replicate (1 - (lg_sl ([.ref tr])).length) Slot.unset).toArray = ls at hl ⊢
  replace hl : lv_has ls 1 [(0, .ref tr)] := hl
  obtain ⟨H, hH⟩ : ∃ z : Heap, z = s.heap := ⟨_, rfl⟩
  rw [← hH]
  replace hS : va_S A s.heap H [] := by rw [hH]; exact va_S.rf
  replace hP : va_P (dC, dI) vwCl [(tr, .inr (10, [.int 1, .int (nI tso), .int (nI tg), .int (nI ts), .int (nI tp), .int (nI tw), .int (nI te), .int (nI tc), .int (nI tl), .int 0, .int tsu, .int 1, .ref mm, .ref tb]))] H := by rw [hH]; exact hP
  clear hH
  refine lv_aload_n hx hb dX9_isWhole_0 rfl (lv_at hl 0 rfl) ?_
  refine va_get (D := (dC, dI)) (ci := 10) (v := .int (nI te)) (C := RX9) (T := TX9) (N := 14) hx hb hts in_c_isWhole_y_X9 hown hK hP 0 rfl rfl 6 (by decide) (hts (.fieldLink RX9 31 "ClaimBus$Transport" "expected" "I") (List.mem_of_getElem? (i := 1) rfl)) (fun _ h9 => h9) rfl dX9_isWhole_1 ?_
  refine lv_aload_n hx hb dX9_isWhole_4 rfl (lv_at hl 0 rfl) ?_
  refine va_get (D := (dC, dI)) (ci := 10) (v := .int (nI tp)) (C := RX9) (T := TX9) (N := 14) hx hb hts in_c_isWhole_y_X9 hown hK hP 0 rfl rfl 4 (by decide) (hts (.fieldLink RX9 25 "ClaimBus$Transport" "packets" "I") (List.mem_of_getElem? (i := 2) rfl)) (fun _ h9 => h9) rfl dX9_isWhole_5 ?_
  refine lv_icmp_le (tgt := 15) hx hb dX9_isWhole_8 (by decide) (fun c_1 => ?_) (fun c_1 => ?_)
  · exact absurd ((nI_leI (a := te) (b := tp) (by omega) (by omega)).mp c_1) (by omega)
  refine lv_iconst (v := 1) hx hb dX9_isWhole_11 (by decide) ?_
  refine lv_goto (tgt := 16) hx hb dX9_isWhole_12 (by decide) ?_
  exact W.zret (v := 1) hx hb hr (by decide) (fun t ht hW => ⟨⟨1, (), rfl, rfl, trivial⟩, hS.F ht⟩) hS.2.2 dX9_isWhole_16

noncomputable def tl_c_isWhole_n : List Cond := wsX90
noncomputable def v_c_isWhole_n : List Cond := .code yX9_isWhole cX9_isWhole 1 (some .boolean) :: ([.fieldLink RX9 31 "ClaimBus$Transport" "expected" "I", .fieldLink RX9 25 "ClaimBus$Transport" "packets" "I"] ++ tl_c_isWhole_n)
theorem it_c_isWhole_n : ∀ w ∈ tl_c_isWhole_n, w ∈ v_c_isWhole_n := fun w h => List.mem_cons_of_mem _ (List.mem_append_right _ h)
theorem in_c_isWhole_n_X9 : ∀ w ∈ wsX90, w ∈ v_c_isWhole_n := fun w h => it_c_isWhole_n w (h)
theorem gt_c_isWhole_n : ∀ w ∈ tl_c_isWhole_n, goodWord w = true := gw_wsX90
theorem gw_c_isWhole_n : ∀ w ∈ v_c_isWhole_n, goodWord w = true := List.forall_mem_cons.mpr ⟨by decide +kernel, List.forall_mem_append.mpr ⟨List.all_eq_true.mp (by decide +kernel), gt_c_isWhole_n⟩⟩
set_option maxHeartbeats 4000000 in
set_option maxRecDepth 100000 in
theorem c_isWhole_n (l : Launch) (dC : Nat → ClassId) (dI : Nat → Nat → Nat) (tr : Nat) (tso : Nat) (tg : Nat) (ts : Nat) (tp : Nat) (tw : Nat) (te : Nat) (tc : Nat) (tl : Nat) (tsu : Int32) (mm : Nat) (tb : Nat) (sz : Nat) (hte : te < 300) (htp : tp < 256) (h : te ≤ tp) : Met l yX9_isWhole v_c_isWhole_n ({ frames := 0, cells := 0, slots := 0, locals := 0 }) (va_Pc [.ref tr] (fun U => U.heap.size = sz ∧ va_P (dC, dI) vwCl [(tr, .inr (10, [.int 1, .int (nI tso), .int (nI tg), .int (nI ts), .int (nI tp), .int (nI tw), .int (nI te), .int (nI tc), .int (nI tl), .int 0, .int tsu, .int 1, .ref mm, .ref tb]))] U.heap ∧ va_K (dC, dI) vwCl [] U ∧ va_D (fun _ => True) [(tr, .inr (10, [.int 1, .int (nI tso), .int (nI tg), .int (nI ts), .int (nI tp), .int (nI tw), .int (nI te), .int (nI tc), .int (nI tl), .int 0, .int tsu, .int 1, .ref mm, .ref tb]))] ∧ ev U)) (va_Qi (fun (r : Int32) (_ : Unit) => r = 0) (fun (_ : Unit) (_ : State) => True) (va_A [] sz)) 0 0 (va_A [] sz) := by
  refine Met.ofW (cc := cX9_isWhole) (maxL := 1) (ret := (some .boolean)) (by decide) rfl ?_
  intro p e s m args below meth c s₁ B hml hv
  obtain ⟨rfl, hsz, hP, hK, hD0, hE⟩ := hv
  have hx := B.exec
  have hb := B.bytes
  have hr := B.returns
  have hts := atoms_spec (ws := v_c_isWhole_n) B.pre
  have hown : s.vm.findClass RX9 = some m.cls := findClass_of_methodNamed B.named
  have hlocks := B.notSynchronized
  subst hsz
  have hD := hD0
  generalize hAe : va_A [] s.heap.size = A
  have hA : ∀ q : Nat, s.heap.size ≤ q → A q := fun q h => by rw [← hAe]; exact Or.inr h
  have hS : va_S A s.heap s.heap [] := va_S.rf
  replace hP : va_P (dC, dI) vwCl [(tr, .inr (10, [.int 1, .int (nI tso), .int (nI tg), .int (nI ts), .int (nI tp), .int (nI tw), .int (nI te), .int (nI tc), .int (nI tl), .int 0, .int tsu, .int 1, .ref mm, .ref tb]))] s.heap := hP
  have hl := lv_entry ([.ref tr]) (n := 1) (Nat.le_of_ble_eq_true rfl)
  rw [lg_entry_eq]
  generalize (lg_sl ([.ref tr]) ++ List.replicate (1 - (lg_sl ([.ref tr])).length) Slot.unset).toArray = ls at hl ⊢
  replace hl : lv_has ls 1 [(0, .ref tr)] := hl
  obtain ⟨H, hH⟩ : ∃ z : Heap, z = s.heap := ⟨_, rfl⟩
  rw [← hH]
  replace hS : va_S A s.heap H [] := by rw [hH]; exact va_S.rf
  replace hP : va_P (dC, dI) vwCl [(tr, .inr (10, [.int 1, .int (nI tso), .int (nI tg), .int (nI ts), .int (nI tp), .int (nI tw), .int (nI te), .int (nI tc), .int (nI tl), .int 0, .int tsu, .int 1, .ref mm, .ref tb]))] H := by rw [hH]; exact hP
  clear hH
  refine lv_aload_n hx hb dX9_isWhole_0 rfl (lv_at hl 0 rfl) ?_
  refine va_get (D := (dC, dI)) (ci := 10) (v := .int (nI te)) (C := RX9) (T := TX9) (N := 14) hx hb hts in_c_isWhole_n_X9 hown hK hP 0 rfl rfl 6 (by decide) (hts (.fieldLink RX9 31 "ClaimBus$Transport" "expected" "I") (List.mem_of_getElem? (i := 1) rfl)) (fun _ h9 => h9) rfl dX9_isWhole_1 ?_
  refine lv_aload_n hx hb dX9_isWhole_4 rfl (lv_at hl 0 rfl) ?_
  refine va_get (D := (dC, dI)) (ci := 10) (v := .int (nI tp)) (C := RX9) (T := TX9) (N := 14) hx hb hts in_c_isWhole_n_X9 hown hK hP 0 rfl rfl 4 (by decide) (hts (.fieldLink RX9 25 "ClaimBus$Transport" "packets" "I") (List.mem_of_getElem? (i := 2) rfl)) (fun _ h9 => h9) rfl dX9_isWhole_5 ?_
  refine lv_icmp_le (tgt := 15) hx hb dX9_isWhole_8 (by decide) (fun c_1 => ?_) (fun c_1 => ?_)
  rotate_left
  · exact absurd ((nI_leI (a := te) (b := tp) (by omega) (by omega)).mpr (by omega)) c_1
  refine lv_iconst (v := 0) hx hb dX9_isWhole_15 (by decide) ?_
  exact W.zret (v := 0) hx hb hr (by decide) (fun t ht hW => ⟨⟨0, (), rfl, rfl, trivial⟩, hS.F ht⟩) hS.2.2 dX9_isWhole_16

noncomputable def tl_c_takeByte : List Cond := wsX90 ++ (v_c_X3_byteAt)
noncomputable def v_c_takeByte : List Cond := .code yX9_takeByte cX9_takeByte 3 none :: ([.fieldLink RX9 43 "ClaimBus$Transport" "sum" "I", .fieldLink RX9 49 "ClaimBus$Transport" "whole" "LClaimBus$Message;", .initialized RX3, .methodLink RX9 78 yX3_byteAt, .instanceMethod yX3_byteAt, .selects RX3 yX3_byteAt yX3_byteAt, .fieldLink RX9 53 "ClaimBus$Transport" "beginning" "[I"] ++ tl_c_takeByte)
theorem it_c_takeByte : ∀ w ∈ tl_c_takeByte, w ∈ v_c_takeByte := fun w h => List.mem_cons_of_mem _ (List.mem_append_right _ h)
theorem in_c_takeByte_X9 : ∀ w ∈ wsX90, w ∈ v_c_takeByte := fun w h => it_c_takeByte w (List.mem_append_left _ h)
theorem ic_c_takeByte_c_X3_byteAt : ∀ w ∈ v_c_X3_byteAt, w ∈ v_c_takeByte := fun w h => it_c_takeByte w (List.mem_append_right _ (h))
theorem gt_c_takeByte : ∀ w ∈ tl_c_takeByte, goodWord w = true := List.forall_mem_append.mpr ⟨gw_wsX90, gw_c_X3_byteAt⟩
theorem gw_c_takeByte : ∀ w ∈ v_c_takeByte, goodWord w = true := List.forall_mem_cons.mpr ⟨by decide +kernel, List.forall_mem_append.mpr ⟨List.all_eq_true.mp (by decide +kernel), gt_c_takeByte⟩⟩
theorem g_c_takeByte_c_X3_byteAt_78 : GoodIn v_c_takeByte (wsV RX9 78 RX3 yX3_byteAt v_c_X3_byteAt) := goodIn_app (goodIn_r [.methodLink RX9 78 yX3_byteAt, .instanceMethod yX3_byteAt, .selects RX3 yX3_byteAt yX3_byteAt, .initialized RX3] [4, 5, 6, 3] (by decide +kernel) (by decide +kernel)) (fun w h => ⟨ic_c_takeByte_c_X3_byteAt w h, good_of_word (gw_c_X3_byteAt w h)⟩)
set_option maxHeartbeats 4000000 in
set_option maxRecDepth 100000 in
/-- Transport.takeByte of a byte as it was sent -/
theorem c_takeByte (l : Launch) (dC : Nat → ClassId) (dI : Nat → Nat → Nat) (tr : Nat) (tso : Nat) (tg : Nat) (ts : Nat) (tp : Nat) (tw : Nat) (te : Nat) (tc : Nat) (tl : Nat) (tsu : Int32) (mm : Nat) (tb : Nat) (cB : ClassId) (fb0 : Nat → Int32) (mi : Nat) (mt : Nat) (mg : Nat) (ms : Nat) (sd : Int32) (pl : Nat) (sz : Nat) (hmi : mi < 8) (hmt : mt < 256) (hmg : mg < 262144) (hms : ms < 1786) (hpl : pl < 1785) : Met l yX9_takeByte v_c_takeByte ({ frames := 1, cells := 0, slots := 0, locals := 22 }) (va_Pc [.ref tr, .int (nI pl), .int (bx sd ms pl)] (fun U => U.heap.size = sz ∧ va_P (dC, dI) vwCl [(tr, .inr (10, [.int 1, .int (nI tso), .int (nI tg), .int (nI ts), .int (nI tp), .int (nI tw), .int (nI te), .int (nI tc), .int (nI tl), .int 0, .int tsu, .int 1, .ref mm, .ref tb])), (tb, .inl (cB, 42, .inl fb0)), (mm, .inr (4, [.int (nI mi), .int (nI mt), .int (nI mg), .int (nI ms), .int sd, .null]))] U.heap ∧ va_K (dC, dI) vwCl [(cB, .int)] U ∧ va_D (fun _ => True) [(tr, .inr (10, [.int 1, .int (nI tso), .int (nI tg), .int (nI ts), .int (nI tp), .int (nI tw), .int (nI te), .int (nI tc), .int (nI tl), .int 0, .int tsu, .int 1, .ref mm, .ref tb])), (tb, .inl (cB, 42, .inl fb0)), (mm, .inr (4, [.int (nI mi), .int (nI mt), .int (nI mg), .int (nI ms), .int sd, .null]))] ∧ ev U)) (va_Qv (fun _ : Unit => True) (fun (_ : Unit) (t : State) => ∃ (fb2 : Nat → Int32), va_P (dC, dI) vwCl [(tr, .inr (10, [.int 1, .int (nI tso), .int (nI tg), .int (nI ts), .int (nI tp), .int (nI tw), .int (nI te), .int (nI tc), .int (nI tl), .int 0, .int (tsu + bx sd ms pl * nI (pl + 1)), .int 1, .ref mm, .ref tb])), (tb, .inl (cB, 42, .inl fb2)), (mm, .inr (4, [.int (nI mi), .int (nI mt), .int (nI mg), .int (nI ms), .int sd, .null]))] t.heap ∧ va_K (dC, dI) vwCl [(cB, .int)] t ∧ va_D (va_A [(tr, .inr (10, [.int 1, .int (nI tso), .int (nI tg), .int (nI ts), .int (nI tp), .int (nI tw), .int (nI te), .int (nI tc), .int (nI tl), .int 0, .int tsu, .int 1, .ref mm, .ref tb])), (tb, .inl (cB, 42, .inl fb0)), (mm, .inr (4, [.int (nI mi), .int (nI mt), .int (nI mg), .int (nI ms), .int sd, .null]))] sz) [(tr, .inr (10, [.int 1, .int (nI tso), .int (nI tg), .int (nI ts), .int (nI tp), .int (nI tw), .int (nI te), .int (nI tc), .int (nI tl), .int 0, .int (tsu + bx sd ms pl * nI (pl + 1)), .int 1, .ref mm, .ref tb])), (tb, .inl (cB, 42, .inl fb2)), (mm, .inr (4, [.int (nI mi), .int (nI mt), .int (nI mg), .int (nI ms), .int sd, .null]))]) (va_A [(tr, .inr (10, [.int 1, .int (nI tso), .int (nI tg), .int (nI ts), .int (nI tp), .int (nI tw), .int (nI te), .int (nI tc), .int (nI tl), .int 0, .int tsu, .int 1, .ref mm, .ref tb])), (tb, .inl (cB, 42, .inl fb0)), (mm, .inr (4, [.int (nI mi), .int (nI mt), .int (nI mg), .int (nI ms), .int sd, .null]))] sz)) 0 0 (va_A [(tr, .inr (10, [.int 1, .int (nI tso), .int (nI tg), .int (nI ts), .int (nI tp), .int (nI tw), .int (nI te), .int (nI tc), .int (nI tl), .int 0, .int tsu, .int 1, .ref mm, .ref tb])), (tb, .inl (cB, 42, .inl fb0)), (mm, .inr (4, [.int (nI mi), .int (nI mt), .int (nI mg), .int (nI ms), .int sd, .null]))] sz) := by
  refine Met.ofW (cc := cX9_takeByte) (maxL := 3) (ret := none) (by decide) rfl ?_
  intro p e s m args below meth c s₁ B hml hv
  obtain ⟨rfl, hsz, hP, hK, hD0, hE⟩ := hv
  have hx := B.exec
  have hb := B.bytes
  have hr := B.returns
  have hts := atoms_spec (ws := v_c_takeByte) B.pre
  have hown : s.vm.findClass RX9 = some m.cls := findClass_of_methodNamed B.named
  have hlocks := B.notSynchronized
  subst hsz
  have hD := hD0.self (sz := s.heap.size)
  generalize hAe : va_A [(tr, .inr (10, [.int 1, .int (nI tso), .int (nI tg), .int (nI ts), .int (nI tp), .int (nI tw), .int (nI te), .int (nI tc), .int (nI tl), .int 0, .int tsu, .int 1, .ref mm, .ref tb])), (tb, .inl (cB, 42, .inl fb0)), (mm, .inr (4, [.int (nI mi), .int (nI mt), .int (nI mg), .int (nI ms), .int sd, .null]))] s.heap.size = A at hD ⊢
  have hA : ∀ q : Nat, s.heap.size ≤ q → A q := fun q h => by rw [← hAe]; exact Or.inr h
  have hS : va_S A s.heap s.heap [] := va_S.rf
  replace hP : va_P (dC, dI) vwCl [(tr, .inr (10, [.int 1, .int (nI tso), .int (nI tg), .int (nI ts), .int (nI tp), .int (nI tw), .int (nI te), .int (nI tc), .int (nI tl), .int 0, .int tsu, .int 1, .ref mm, .ref tb])), (tb, .inl (cB, 42, .inl fb0)), (mm, .inr (4, [.int (nI mi), .int (nI mt), .int (nI mg), .int (nI ms), .int sd, .null]))] s.heap := hP
  have hl := lv_entry ([.ref tr, .int (nI pl), .int (bx sd ms pl)]) (n := 3) (Nat.le_of_ble_eq_true rfl)
  rw [lg_entry_eq]
  generalize (lg_sl ([.ref tr, .int (nI pl), .int (bx sd ms pl)]) ++ List.replicate (3 - (lg_sl ([.ref tr, .int (nI pl), .int (bx sd ms pl)])).length) Slot.unset).toArray = ls at hl ⊢
  replace hl : lv_has ls 3 [(0, .ref tr), (1, .int (nI pl)), (2, .int (bx sd ms pl))] := hl
  obtain ⟨H, hH⟩ : ∃ z : Heap, z = s.heap := ⟨_, rfl⟩
  rw [← hH]
  replace hS : va_S A s.heap H [] := by rw [hH]; exact va_S.rf
  replace hP : va_P (dC, dI) vwCl [(tr, .inr (10, [.int 1, .int (nI tso), .int (nI tg), .int (nI ts), .int (nI tp), .int (nI tw), .int (nI te), .int (nI tc), .int (nI tl), .int 0, .int tsu, .int 1, .ref mm, .ref tb])), (tb, .inl (cB, 42, .inl fb0)), (mm, .inr (4, [.int (nI mi), .int (nI mt), .int (nI mg), .int (nI ms), .int sd, .null]))] H := by rw [hH]; exact hP
  clear hH
  refine lv_aload_n hx hb dX9_takeByte_0 rfl (lv_at hl 0 rfl) ?_
  refine lv_dup hx hb dX9_takeByte_1 rfl ?_
  refine va_get (D := (dC, dI)) (ci := 10) (v := .int tsu) (C := RX9) (T := TX9) (N := 14) hx hb hts in_c_takeByte_X9 hown hK hP 0 rfl rfl 10 (by decide) (hts (.fieldLink RX9 43 "ClaimBus$Transport" "sum" "I") (List.mem_of_getElem? (i := 1) rfl)) (fun _ h9 => h9) rfl dX9_takeByte_2 ?_
  refine lv_iload_n hx hb dX9_takeByte_5 rfl (lv_at hl 2 rfl) ?_
  refine lv_iload_n hx hb dX9_takeByte_6 rfl (lv_at hl 1 rfl) ?_
  refine lv_iconst (v := 1) hx hb dX9_takeByte_7 (by decide) ?_
  refine lv_iadd hx hb dX9_takeByte_8 ?_
  refine lv_topi (fun x_1 ex_1 => ?_)
  obtain rfl : x_1 = (nI (pl + 1)) := ex_1.trans ((nI_add pl 1).trans (show nI (pl + 1) = nI (pl + 1) from congrArg nI (by omega)))
  refine lv_imul hx hb dX9_takeByte_9 ?_
  refine lv_iadd hx hb dX9_takeByte_10 ?_
  refine va_put (D := (dC, dI)) (ci := 10) (v := .int (tsu + ((bx sd ms pl) * (nI (pl + 1))))) (ty := .int) (C := RX9) (T := TX9) (N := 14) hx hb hts in_c_takeByte_X9 tyX9 tyX9_ok nmX9 hown hK hP hD hS 0 rfl rfl 10 (by decide) (hts (.fieldLink RX9 43 "ClaimBus$Transport" "sum" "I") (List.mem_of_getElem? (i := 1) rfl)) (fun _ h9 => h9) rfl (by decide +kernel) rfl rfl (Nat.le_of_ble_eq_true rfl) dX9_takeByte_11 (fun H locs hP hD hS => ?_)
  replace hP : va_P (dC, dI) vwCl [(tr, .inr (10, [.int 1, .int (nI tso), .int (nI tg), .int (nI ts), .int (nI tp), .int (nI tw), .int (nI te), .int (nI tc), .int (nI tl), .int 0, .int (tsu + ((bx sd ms pl) * (nI (pl + 1)))), .int 1, .ref mm, .ref tb])), (tb, .inl (cB, 42, .inl fb0)), (mm, .inr (4, [.int (nI mi), .int (nI mt), .int (nI mg), .int (nI ms), .int sd, .null]))] H := hP
  replace hD : va_D A [(tr, .inr (10, [.int 1, .int (nI tso), .int (nI tg), .int (nI ts), .int (nI tp), .int (nI tw), .int (nI te), .int (nI tc), .int (nI tl), .int 0, .int (tsu + ((bx sd ms pl) * (nI (pl + 1)))), .int 1, .ref mm, .ref tb])), (tb, .inl (cB, 42, .inl fb0)), (mm, .inr (4, [.int (nI mi), .int (nI mt), .int (nI mg), .int (nI ms), .int sd, .null]))] := hD
  refine lv_aload_n hx hb dX9_takeByte_14 rfl (lv_at hl 0 rfl) ?_
  refine va_get (D := (dC, dI)) (ci := 10) (v := .ref mm) (C := RX9) (T := TX9) (N := 14) hx hb hts in_c_takeByte_X9 hown hK hP 0 rfl rfl 12 (by decide) (hts (.fieldLink RX9 49 "ClaimBus$Transport" "whole" "LClaimBus$Message;") (List.mem_of_getElem? (i := 2) rfl)) (fun _ h9 => h9) rfl dX9_takeByte_15 ?_
  refine lv_ifnull hx hb dX9_takeByte_18 ?_
  refine lv_aload_n hx hb dX9_takeByte_21 rfl (lv_at hl 0 rfl) ?_
  refine va_get (D := (dC, dI)) (ci := 10) (v := .ref mm) (C := RX9) (T := TX9) (N := 14) hx hb hts in_c_takeByte_X9 hown hK hP 0 rfl rfl 12 (by decide) (hts (.fieldLink RX9 49 "ClaimBus$Transport" "whole" "LClaimBus$Message;") (List.mem_of_getElem? (i := 2) rfl)) (fun _ h9 => h9) rfl dX9_takeByte_22 ?_
  refine lv_iload_n hx hb dX9_takeByte_25 rfl (lv_at hl 1 rfl) ?_
  have hPc := hP.sub (ws' := [(mm, .inr (4, [.int (nI mi), .int (nI mt), .int (nI mg), .int (nI ms), .int sd, .null]))]) [2] rfl
  have hDc := hD.sub (ws' := [(mm, .inr (4, [.int (nI mi), .int (nI mt), .int (nI mg), .int (nI ms), .int sd, .null]))]) [2] (by decide +kernel) rfl
  have hKc := hK.sub (tys' := []) [] rfl
  have hFc := ro_free hS hA
  refine va_calli (va_runV (As := [.int (nI pl)]) (rest := []) ⟨hx, hb, hml, hown, hts⟩ (c_X3_byteAt l dC dI (mm) (mi) (mt) (mg) (ms) (sd) (pl) H.size hmi hmt hmg hms (by omega)) (cwV 1 hts g_c_takeByte_c_X3_byteAt_78 rfl rfl rfl (by decide +kernel) ⟨Nat.le_of_ble_eq_true rfl, Nat.le_of_ble_eq_true rfl⟩) ⟨fun a U g mk q => by obtain ⟨q0, q1, qP, qK, qD, qE⟩ := q; exact ⟨q0, q1, qP, va_K.moved (u := U) (U := U.calling g mk a) (Vm.Alike.refl U.vm) qK, qD, ev.same (u := U) (U := U.calling g mk a) rfl qE⟩, va_recv hKc hPc (ci := 4) (q0 := 0) rfl rfl, fun U hU hW => ⟨rfl, by rw [hU], by rw [hU]; exact hPc, va_K.moved hW.alike hKc, hDc.weaken (fun _ _ _ _ => trivial), hE.warm hW⟩⟩ rfl rfl hl.1 rfl (lv_room (Nat.le_of_ble_eq_true rfl)) dX9_takeByte_26 ⟨Nat.le_of_ble_eq_true rfl, Nat.le_of_ble_eq_true rfl⟩) hS (fun q _ h => hFc q h) hFc (fun r_2 u t H1 locs ht hvm hw hB hz1 hk1 hS => ?_)
  clear hPc hDc hKc
  replace hP := ro_keep hP hk1
  generalize H1 = H at hP hS ⊢
  replace hP : va_P (dC, dI) vwCl [(tr, .inr (10, [.int 1, .int (nI tso), .int (nI tg), .int (nI ts), .int (nI tp), .int (nI tw), .int (nI te), .int (nI tc), .int (nI tl), .int 0, .int (tsu + ((bx sd ms pl) * (nI (pl + 1)))), .int 1, .ref mm, .ref tb])), (tb, .inl (cB, 42, .inl fb0)), (mm, .inr (4, [.int (nI mi), .int (nI mt), .int (nI mg), .int (nI ms), .int sd, .null]))] H := hP
  have hw := hw.symm
  subst hw
  refine lv_iload_n hx hb dX9_takeByte_29 rfl (lv_at hl 2 rfl) ?_
  refine lv_icmp_eq (tgt := 38) hx hb dX9_takeByte_30 (by decide) (fun c_3 => ?_) (fun c_3 => ?_)
  rotate_left
  · exact absurd rfl c_3
  refine lv_iload_n hx hb dX9_takeByte_38 rfl (lv_at hl 1 rfl) ?_
  refine lv_if_lt (tgt := 58) hx hb dX9_takeByte_39 (by decide) (fun c_4 => ?_) (fun c_4 => ?_)
  · exact absurd ((nI_ltI (a := pl) (b := 0) (by omega) (by omega)).mp c_4) (by omega)
  refine lv_iload_n hx hb dX9_takeByte_42 rfl (lv_at hl 1 rfl) ?_
  refine lv_aload_n hx hb dX9_takeByte_43 rfl (lv_at hl 0 rfl) ?_
  refine va_get (D := (dC, dI)) (ci := 10) (v := .ref tb) (C := RX9) (T := TX9) (N := 14) hx hb hts in_c_takeByte_X9 hown hK hP 0 rfl rfl 13 (by decide) (hts (.fieldLink RX9 53 "ClaimBus$Transport" "beginning" "[I") (List.mem_of_getElem? (i := 7) rfl)) (fun _ h9 => h9) rfl dX9_takeByte_44 ?_
  refine va_alen hx hb hK hP 1 0 rfl rfl (v := 42) rfl dX9_takeByte_47 ?_
  refine lv_icmp_ge (tgt := 58) hx hb dX9_takeByte_48 (by decide) (fun c_5 => ?_) (fun c_5 => ?_)
  · have pc_5 : 42 ≤ pl := (nI_leI (a := 42) (b := pl) (by omega) (by omega)).mp c_5
    have hP9 := hP.sub (ws' := [(tr, .inr (10, [.int 1, .int (nI tso), .int (nI tg), .int (nI ts), .int (nI tp), .int (nI tw), .int (nI te), .int (nI tc), .int (nI tl), .int 0, .int (tsu + bx sd ms pl * nI (pl + 1)), .int 1, .ref mm, .ref tb])), (tb, .inl (cB, 42, .inl fb0)), (mm, .inr (4, [.int (nI mi), .int (nI mt), .int (nI mg), .int (nI ms), .int sd, .null]))]) [0, 1, 2] rfl
    have hD9 := hD.sub (ws' := [(tr, .inr (10, [.int 1, .int (nI tso), .int (nI tg), .int (nI ts), .int (nI tp), .int (nI tw), .int (nI te), .int (nI tc), .int (nI tl), .int 0, .int (tsu + bx sd ms pl * nI (pl + 1)), .int 1, .ref mm, .ref tb])), (tb, .inl (cB, 42, .inl fb0)), (mm, .inr (4, [.int (nI mi), .int (nI mt), .int (nI mg), .int (nI ms), .int sd, .null]))]) [0, 1, 2] (by decide +kernel) rfl
    have hK9 := hK.sub (tys' := [(cB, .int)]) [0] rfl
    exact W.vret hx hb hr (fun t ht hW => ⟨⟨(), rfl, trivial, ⟨fb0, by rw [ht]; exact hP9, va_K.moved hW.alike hK9, hD9⟩⟩, hS.F ht⟩) hS.2.2 dX9_takeByte_58
  · have pc_5 : ¬ 42 ≤ pl := fun h => c_5 ((nI_leI (a := 42) (b := pl) (by omega) (by omega)).mpr h)
    refine lv_aload_n hx hb dX9_takeByte_51 rfl (lv_at hl 0 rfl) ?_
    refine va_get (D := (dC, dI)) (ci := 10) (v := .ref tb) (C := RX9) (T := TX9) (N := 14) hx hb hts in_c_takeByte_X9 hown hK hP 0 rfl rfl 13 (by decide) (hts (.fieldLink RX9 53 "ClaimBus$Transport" "beginning" "[I") (List.mem_of_getElem? (i := 7) rfl)) (fun _ h9 => h9) rfl dX9_takeByte_52 ?_
    refine lv_iload_n hx hb dX9_takeByte_55 rfl (lv_at hl 1 rfl) ?_
    refine lv_iload_n hx hb dX9_takeByte_56 rfl (lv_at hl 2 rfl) ?_
    refine va_iast hx hb hK hP hD hS 1 0 rfl rfl (vp_in_nI (n := pl) (by omega) (by omega)) dX9_takeByte_57 (fun H locs hP hD hS => ?_)
    obtain ⟨f_6, ef_6⟩ : ∃ z : Nat → Int32, z = upd fb0 pl ((bx sd ms pl)) := ⟨_, rfl⟩
    rw [(nI_clamp (n := pl) (by omega))] at hP hD
    replace hP : va_P (dC, dI) vwCl [(tr, .inr (10, [.int 1, .int (nI tso), .int (nI tg), .int (nI ts), .int (nI tp), .int (nI tw), .int (nI te), .int (nI tc), .int (nI tl), .int 0, .int (tsu + ((bx sd ms pl) * (nI (pl + 1)))), .int 1, .ref mm, .ref tb])), (tb, .inl (cB, 42, .inl f_6)), (mm, .inr (4, [.int (nI mi), .int (nI mt), .int (nI mg), .int (nI ms), .int sd, .null]))] H := by rw [ef_6]; exact hP
    replace hD : va_D A [(tr, .inr (10, [.int 1, .int (nI tso), .int (nI tg), .int (nI ts), .int (nI tp), .int (nI tw), .int (nI te), .int (nI tc), .int (nI tl), .int 0, .int (tsu + ((bx sd ms pl) * (nI (pl + 1)))), .int 1, .ref mm, .ref tb])), (tb, .inl (cB, 42, .inl f_6)), (mm, .inr (4, [.int (nI mi), .int (nI mt), .int (nI mg), .int (nI ms), .int sd, .null]))] := by rw [ef_6]; exact hD
    have hP9 := hP.sub (ws' := [(tr, .inr (10, [.int 1, .int (nI tso), .int (nI tg), .int (nI ts), .int (nI tp), .int (nI tw), .int (nI te), .int (nI tc), .int (nI tl), .int 0, .int (tsu + bx sd ms pl * nI (pl + 1)), .int 1, .ref mm, .ref tb])), (tb, .inl (cB, 42, .inl f_6)), (mm, .inr (4, [.int (nI mi), .int (nI mt), .int (nI mg), .int (nI ms), .int sd, .null]))]) [0, 1, 2] rfl
    have hD9 := hD.sub (ws' := [(tr, .inr (10, [.int 1, .int (nI tso), .int (nI tg), .int (nI ts), .int (nI tp), .int (nI tw), .int (nI te), .int (nI tc), .int (nI tl), .int 0, .int (tsu + bx sd ms pl * nI (pl + 1)), .int 1, .ref mm, .ref tb])), (tb, .inl (cB, 42, .inl f_6)), (mm, .inr (4, [.int (nI mi), .int (nI mt), .int (nI mg), .int (nI ms), .int sd, .null]))]) [0, 1, 2] (by decide +kernel) rfl
    have hK9 := hK.sub (tys' := [(cB, .int)]) [0] rfl
    exact W.vret hx hb hr (fun t ht hW => ⟨⟨(), rfl, trivial, ⟨f_6, by rw [ht]; exact hP9, va_K.moved hW.alike hK9, hD9⟩⟩, hS.F ht⟩) hS.2.2 dX9_takeByte_58

noncomputable def tl_c_takePacket : List Cond := wsX90 ++ (v_c_X1_byteAt ++ (v_c_takeByte))
noncomputable def v_c_takePacket : List Cond := .code yX9_takePacket cX9_takePacket 5 none :: ([.fieldLink RX9 31 "ClaimBus$Transport" "expected" "I", .fieldLink RX9 37 "ClaimBus$Transport" "lastHeard" "I", .fieldLink RX9 22 "ClaimBus$Transport" "size" "I", .initialized RX1, .methodLink RX9 65 yX1_byteAt, .instanceMethod yX1_byteAt, .selects RX1 yX1_byteAt yX1_byteAt, .initialized RX9, .methodLink RX9 74 yX9_takeByte, .instanceMethod yX9_takeByte, .selects RX9 yX9_takeByte yX9_takeByte] ++ tl_c_takePacket)
theorem it_c_takePacket : ∀ w ∈ tl_c_takePacket, w ∈ v_c_takePacket := fun w h => List.mem_cons_of_mem _ (List.mem_append_right _ h)
theorem in_c_takePacket_X9 : ∀ w ∈ wsX90, w ∈ v_c_takePacket := fun w h => it_c_takePacket w (List.mem_append_left _ h)
theorem ic_c_takePacket_c_X1_byteAt : ∀ w ∈ v_c_X1_byteAt, w ∈ v_c_takePacket := fun w h => it_c_takePacket w (List.mem_append_right _ (List.mem_append_left _ h))
theorem ic_c_takePacket_c_takeByte : ∀ w ∈ v_c_takeByte, w ∈ v_c_takePacket := fun w h => it_c_takePacket w (List.mem_append_right _ (List.mem_append_right _ (h)))
theorem gt_c_takePacket : ∀ w ∈ tl_c_takePacket, goodWord w = true := List.forall_mem_append.mpr ⟨gw_wsX90, List.forall_mem_append.mpr ⟨gw_c_X1_byteAt, gw_c_takeByte⟩⟩
theorem gw_c_takePacket : ∀ w ∈ v_c_takePacket, goodWord w = true := List.forall_mem_cons.mpr ⟨by decide +kernel, List.forall_mem_append.mpr ⟨List.all_eq_true.mp (by decide +kernel), gt_c_takePacket⟩⟩
theorem g_c_takePacket_c_X1_byteAt_65 : GoodIn v_c_takePacket (wsV RX9 65 RX1 yX1_byteAt v_c_X1_byteAt) := goodIn_app (goodIn_r [.methodLink RX9 65 yX1_byteAt, .instanceMethod yX1_byteAt, .selects RX1 yX1_byteAt yX1_byteAt, .initialized RX1] [5, 6, 7, 4] (by decide +kernel) (by decide +kernel)) (fun w h => ⟨ic_c_takePacket_c_X1_byteAt w h, good_of_word (gw_c_X1_byteAt w h)⟩)
theorem g_c_takePacket_c_takeByte_74 : GoodIn v_c_takePacket (wsV RX9 74 RX9 yX9_takeByte v_c_takeByte) := goodIn_app (goodIn_r [.methodLink RX9 74 yX9_takeByte, .instanceMethod yX9_takeByte, .selects RX9 yX9_takeByte yX9_takeByte, .initialized RX9] [9, 10, 11, 8] (by decide +kernel) (by decide +kernel)) (fun w h => ⟨ic_c_takePacket_c_takeByte w h, good_of_word (gw_c_takeByte w h)⟩)
set_option maxHeartbeats 4000000 in
set_option maxRecDepth 100000 in
/-- Transport.takePacket -/
theorem c_takePacket (l : Launch) (dC : Nat → ClassId) (dI : Nat → Nat → Nat) (tr : Nat) (tso : Nat) (tg : Nat) (tp : Nat) (tw : Nat) (tc : Nat) (tl : Nat) (tsu : Int32) (mm : Nat) (tb : Nat) (e1 : Nat) (cB : ClassId) (fb0 : Nat → Int32) (mi : Nat) (mt : Nat) (mg : Nat) (ms : Nat) (sd : Int32) (h1 : Nat) (fi : Nat) (ff : Int32) (fo : Int32) (tm : Nat) (sz : Nat) (hmi : mi < 8) (hmt : mt < 256) (hmg : mg < 262144) (hms : ms < 1786) (hfi : fi < 536870912) (hfb : ∀ i, i < 7 → fb ff fo (i + 1) = bx sd ms (7 * e1 + i)) (he : 7 * e1 < ms) (htsu : tsu = sm sd ms (7 * e1)) : Met l yX9_takePacket v_c_takePacket ({ frames := 2, cells := 0, slots := 0, locals := 44 }) (va_Pc [.ref tr, .ref h1, .int (nI tm)] (fun U => U.heap.size = sz ∧ va_P (dC, dI) vwCl [(tr, .inr (10, [.int 1, .int (nI tso), .int (nI tg), .int (nI ms), .int (nI tp), .int (nI tw), .int (nI (e1 + 1)), .int (nI tc), .int (nI tl), .int 0, .int tsu, .int 1, .ref mm, .ref tb])), (h1, .inr (2, [.int (nI fi), .int ff, .int fo, .ref mm])), (tb, .inl (cB, 42, .inl fb0)), (mm, .inr (4, [.int (nI mi), .int (nI mt), .int (nI mg), .int (nI ms), .int sd, .null]))] U.heap ∧ va_K (dC, dI) vwCl [(cB, .int)] U ∧ va_D (fun _ => True) [(tr, .inr (10, [.int 1, .int (nI tso), .int (nI tg), .int (nI ms), .int (nI tp), .int (nI tw), .int (nI (e1 + 1)), .int (nI tc), .int (nI tl), .int 0, .int tsu, .int 1, .ref mm, .ref tb])), (h1, .inr (2, [.int (nI fi), .int ff, .int fo, .ref mm])), (tb, .inl (cB, 42, .inl fb0)), (mm, .inr (4, [.int (nI mi), .int (nI mt), .int (nI mg), .int (nI ms), .int sd, .null]))] ∧ ev U)) (va_Qv (fun _ : Unit => True) (fun (_ : Unit) (t : State) => ∃ (su2 : Int32) (fb2 : Nat → Int32), va_P (dC, dI) vwCl [(tr, .inr (10, [.int 1, .int (nI tso), .int (nI tg), .int (nI ms), .int (nI tp), .int (nI tw), .int (nI (e1 + 2)), .int (nI tc), .int (nI tm), .int 0, .int su2, .int 1, .ref mm, .ref tb])), (h1, .inr (2, [.int (nI fi), .int ff, .int fo, .ref mm])), (tb, .inl (cB, 42, .inl fb2)), (mm, .inr (4, [.int (nI mi), .int (nI mt), .int (nI mg), .int (nI ms), .int sd, .null]))] t.heap ∧ va_K (dC, dI) vwCl [(cB, .int)] t ∧ va_D (va_A [(tr, .inr (10, [.int 1, .int (nI tso), .int (nI tg), .int (nI ms), .int (nI tp), .int (nI tw), .int (nI (e1 + 1)), .int (nI tc), .int (nI tl), .int 0, .int tsu, .int 1, .ref mm, .ref tb])), (h1, .inr (2, [.int (nI fi), .int ff, .int fo, .ref mm])), (tb, .inl (cB, 42, .inl fb0)), (mm, .inr (4, [.int (nI mi), .int (nI mt), .int (nI mg), .int (nI ms), .int sd, .null]))] sz) [(tr, .inr (10, [.int 1, .int (nI tso), .int (nI tg), .int (nI ms), .int (nI tp), .int (nI tw), .int (nI (e1 + 2)), .int (nI tc), .int (nI tm), .int 0, .int su2, .int 1, .ref mm, .ref tb])), (h1, .inr (2, [.int (nI fi), .int ff, .int fo, .ref mm])), (tb, .inl (cB, 42, .inl fb2)), (mm, .inr (4, [.int (nI mi), .int (nI mt), .int (nI mg), .int (nI ms), .int sd, .null]))] ∧ (su2 = sm sd ms (min (7 * (e1 + 1)) ms))) (va_A [(tr, .inr (10, [.int 1, .int (nI tso), .int (nI tg), .int (nI ms), .int (nI tp), .int (nI tw), .int (nI (e1 + 1)), .int (nI tc), .int (nI tl), .int 0, .int tsu, .int 1, .ref mm, .ref tb])), (h1, .inr (2, [.int (nI fi), .int ff, .int fo, .ref mm])), (tb, .inl (cB, 42, .inl fb0)), (mm, .inr (4, [.int (nI mi), .int (nI mt), .int (nI mg), .int (nI ms), .int sd, .null]))] sz)) 0 0 (va_A [(tr, .inr (10, [.int 1, .int (nI tso), .int (nI tg), .int (nI ms), .int (nI tp), .int (nI tw), .int (nI (e1 + 1)), .int (nI tc), .int (nI tl), .int 0, .int tsu, .int 1, .ref mm, .ref tb])), (h1, .inr (2, [.int (nI fi), .int ff, .int fo, .ref mm])), (tb, .inl (cB, 42, .inl fb0)), (mm, .inr (4, [.int (nI mi), .int (nI mt), .int (nI mg), .int (nI ms), .int sd, .null]))] sz) := by
  refine Met.ofW (cc := cX9_takePacket) (maxL := 5) (ret := none) (by decide) rfl ?_
  intro p e s m args below meth c s₁ B hml hv
  obtain ⟨rfl, hsz, hP, hK, hD0, hE⟩ := hv
  have hx := B.exec
  have hb := B.bytes
  have hr := B.returns
  have hts := atoms_spec (ws := v_c_takePacket) B.pre
  have hown : s.vm.findClass RX9 = some m.cls := findClass_of_methodNamed B.named
  have hlocks := B.notSynchronized
  subst hsz
  have hD := hD0.self (sz := s.heap.size)
  generalize hAe : va_A [(tr, .inr (10, [.int 1, .int (nI tso), .int (nI tg), .int (nI ms), .int (nI tp), .int (nI tw), .int (nI (e1 + 1)), .int (nI tc), .int (nI tl), .int 0, .int tsu, .int 1, .ref mm, .ref tb])), (h1, .inr (2, [.int (nI fi), .int ff, .int fo, .ref mm])), (tb, .inl (cB, 42, .inl fb0)), (mm, .inr (4, [.int (nI mi), .int (nI mt), .int (nI mg), .int (nI ms), .int sd, .null]))] s.heap.size = A at hD ⊢
  have hA : ∀ q : Nat, s.heap.size ≤ q → A q := fun q h => by rw [← hAe]; exact Or.inr h
  have hS : va_S A s.heap s.heap [] := va_S.rf
  replace hP : va_P (dC, dI) vwCl [(tr, .inr (10, [.int 1, .int (nI tso), .int (nI tg), .int (nI ms), .int (nI tp), .int (nI tw), .int (nI (e1 + 1)), .int (nI tc), .int (nI tl), .int 0, .int tsu, .int 1, .ref mm, .ref tb])), (h1, .inr (2, [.int (nI fi), .int ff, .int fo, .ref mm])), (tb, .inl (cB, 42, .inl fb0)), (mm, .inr (4, [.int (nI mi), .int (nI mt), .int (nI mg), .int (nI ms), .int sd, .null]))] s.heap := hP
  have hl := lv_entry ([.ref tr, .ref h1, .int (nI tm)]) (n := 5) (Nat.le_of_ble_eq_true rfl)
  rw [lg_entry_eq]
  generalize (lg_sl ([.ref tr, .ref h1, .int (nI tm)]) ++ List.replicate (5 - (lg_sl ([.ref tr, .ref h1, .int (nI tm)])).length) Slot.unset).toArray = ls at hl ⊢
  replace hl : lv_has ls 5 [(0, .ref tr), (1, .ref h1), (2, .int (nI tm))] := hl
  obtain ⟨H, hH⟩ : ∃ z : Heap, z = s.heap := ⟨_, rfl⟩
  rw [← hH]
  replace hS : va_S A s.heap H [] := by rw [hH]; exact va_S.rf
  replace hP : va_P (dC, dI) vwCl [(tr, .inr (10, [.int 1, .int (nI tso), .int (nI tg), .int (nI ms), .int (nI tp), .int (nI tw), .int (nI (e1 + 1)), .int (nI tc), .int (nI tl), .int 0, .int tsu, .int 1, .ref mm, .ref tb])), (h1, .inr (2, [.int (nI fi), .int ff, .int fo, .ref mm])), (tb, .inl (cB, 42, .inl fb0)), (mm, .inr (4, [.int (nI mi), .int (nI mt), .int (nI mg), .int (nI ms), .int sd, .null]))] H := by rw [hH]; exact hP
  clear hH
  refine lv_aload_n hx hb dX9_takePacket_0 rfl (lv_at hl 0 rfl) ?_
  refine va_get (D := (dC, dI)) (ci := 10) (v := .int (nI (e1 + 1))) (C := RX9) (T := TX9) (N := 14) hx hb hts in_c_takePacket_X9 hown hK hP 0 rfl rfl 6 (by decide) (hts (.fieldLink RX9 31 "ClaimBus$Transport" "expected" "I") (List.mem_of_getElem? (i := 1) rfl)) (fun _ h9 => h9) rfl dX9_takePacket_1 ?_
  refine lv_iconst (v := 1) hx hb dX9_takePacket_4 (by decide) ?_
  refine lv_isub hx hb dX9_takePacket_5 ?_
  refine lv_topi (fun x_1 ex_1 => ?_)
  obtain rfl : x_1 = (nI e1) := ex_1.trans ((pk_sub (a := (e1 + 1)) (b := 1) (by omega)).trans (show nI ((e1 + 1) - 1) = nI (e1) from congrArg nI (by omega)))
  refine lv_bipush (v := 7) hx hb dX9_takePacket_6 (by decide) ?_
  refine lv_imul hx hb dX9_takePacket_8 ?_
  refine lv_topi (fun x_2 ex_2 => ?_)
  obtain rfl : x_2 = (nI (7 * e1)) := ex_2.trans ((pk_mul e1 7).trans (show nI (e1 * 7) = nI (7 * e1) from congrArg nI (by omega)))
  refine lv_istore_n (lv' := [(3, .int (nI (7 * e1))), (0, .ref tr), (1, .ref h1), (2, .int (nI tm))]) hx hb dX9_takePacket_9 rfl hl (by decide) rfl (fun ls hl => ?_)
  refine lv_iconst (v := 0) hx hb dX9_takePacket_10 (by decide) ?_
  refine lv_istore (lv' := [(4, .int 0), (3, .int (nI (7 * e1))), (0, .ref tr), (1, .ref h1), (2, .int (nI tm))]) hx hb dX9_takePacket_11 hl (by decide) rfl (fun ls hl => ?_)
  obtain ⟨n, i, hn, hi⟩ : ∃ n i : Nat, i + n = 7 ∧ i = 0 := ⟨7, 0, rfl, rfl⟩
  replace hl : lv_has ls 5 [(4, .int (nI i)), (0, .ref tr), (1, .ref h1), (2, .int (nI tm)), (3, .int (nI (7 * e1)))] := by rw [hi]; exact lv_sub hl [0, 2, 3, 4, 1] rfl
  obtain ⟨su, hsu0, hsu⟩ : ∃ z : Int32, z = tsu ∧ z = sm sd ms (7 * e1 + i) := ⟨tsu, rfl, htsu.trans (congrArg (sm sd ms) (by omega))⟩
  obtain ⟨g, hg⟩ : ∃ z : Nat → Int32, z = fb0 := ⟨_, rfl⟩
  replace hP : va_P (dC, dI) vwCl [(tr, .inr (10, [.int 1, .int (nI tso), .int (nI tg), .int (nI ms), .int (nI tp), .int (nI tw), .int (nI (e1 + 1)), .int (nI tc), .int (nI tl), .int 0, .int su, .int 1, .ref mm, .ref tb])), (h1, .inr (2, [.int (nI fi), .int ff, .int fo, .ref mm])), (tb, .inl (cB, 42, .inl g)), (mm, .inr (4, [.int (nI mi), .int (nI mt), .int (nI mg), .int (nI ms), .int sd, .null]))] H := by rw [hsu0, hg]; exact hP
  replace hD : va_D A [(tr, .inr (10, [.int 1, .int (nI tso), .int (nI tg), .int (nI ms), .int (nI tp), .int (nI tw), .int (nI (e1 + 1)), .int (nI tc), .int (nI tl), .int 0, .int su, .int 1, .ref mm, .ref tb])), (h1, .inr (2, [.int (nI fi), .int ff, .int fo, .ref mm])), (tb, .inl (cB, 42, .inl g)), (mm, .inr (4, [.int (nI mi), .int (nI mt), .int (nI mg), .int (nI ms), .int sd, .null]))] := by rw [hsu0, hg]; exact hD
  have hle : 7 * e1 + i ≤ ms := by omega
  clear hsu0 hg hi
  generalize ([] : List Loc) = locs at hS ⊢
  induction n generalizing i su g H locs ls with
  | zero =>
    refine lv_iload hx hb dX9_takePacket_13 (lv_at hl 0 rfl) ?_
    refine lv_bipush (v := 7) hx hb dX9_takePacket_15 (by decide) ?_
    refine lv_icmp_ge (tgt := 53) hx hb dX9_takePacket_17 (by decide) (fun c_3 => ?_) (fun c_3 => ?_)
    rotate_left
    · exact absurd ((nI_leI (a := 7) (b := i) (by omega) (by omega)).mpr (by omega)) c_3
    refine lv_aload_n hx hb dX9_takePacket_53 rfl (lv_at hl 1 rfl) ?_
    refine lv_dup hx hb dX9_takePacket_54 rfl ?_
    refine va_get (D := (dC, dI)) (ci := 10) (v := .int (nI (e1 + 1))) (C := RX9) (T := TX9) (N := 14) hx hb hts in_c_takePacket_X9 hown hK hP 0 rfl rfl 6 (by decide) (hts (.fieldLink RX9 31 "ClaimBus$Transport" "expected" "I") (List.mem_of_getElem? (i := 1) rfl)) (fun _ h9 => h9) rfl dX9_takePacket_55 ?_
    refine lv_iconst (v := 1) hx hb dX9_takePacket_58 (by decide) ?_
    refine lv_iadd hx hb dX9_takePacket_59 ?_
    refine lv_topi (fun x_4 ex_4 => ?_)
    obtain rfl : x_4 = (nI (e1 + 2)) := ex_4.trans ((nI_add (e1 + 1) 1).trans (show nI ((e1 + 1) + 1) = nI (e1 + 2) from congrArg nI (by omega)))
    refine va_put (D := (dC, dI)) (ci := 10) (v := .int (nI (e1 + 2))) (ty := .int) (C := RX9) (T := TX9) (N := 14) hx hb hts in_c_takePacket_X9 tyX9 tyX9_ok nmX9 hown hK hP hD hS 0 rfl rfl 6 (by decide) (hts (.fieldLink RX9 31 "ClaimBus$Transport" "expected" "I") (List.mem_of_getElem? (i := 1) rfl)) (fun _ h9 => h9) rfl (by decide +kernel) rfl rfl (Nat.le_of_ble_eq_true rfl) dX9_takePacket_60 (fun H locs hP hD hS => ?_)
    replace hP : va_P (dC, dI) vwCl [(tr, .inr (10, [.int 1, .int (nI tso), .int (nI tg), .int (nI ms), .int (nI tp), .int (nI tw), .int (nI (e1 + 2)), .int (nI tc), .int (nI tl), .int 0, .int su, .int 1, .ref mm, .ref tb])), (h1, .inr (2, [.int (nI fi), .int ff, .int fo, .ref mm])), (tb, .inl (cB, 42, .inl g)), (mm, .inr (4, [.int (nI mi), .int (nI mt), .int (nI mg), .int (nI ms), .int sd, .null]))] H := hP
    replace hD : va_D A [(tr, .inr (10, [.int 1, .int (nI tso), .int (nI tg), .int (nI ms), .int (nI tp), .int (nI tw), .int (nI (e1 + 2)), .int (nI tc), .int (nI tl), .int 0, .int su, .int 1, .ref mm, .ref tb])), (h1, .inr (2, [.int (nI fi), .int ff, .int fo, .ref mm])), (tb, .inl (cB, 42, .inl g)), (mm, .inr (4, [.int (nI mi), .int (nI mt), .int (nI mg), .int (nI ms), .int sd, .null]))] := hD
    refine lv_aload_n hx hb dX9_takePacket_63 rfl (lv_at hl 1 rfl) ?_
    refine lv_iload_n hx hb dX9_takePacket_64 rfl (lv_at hl 3 rfl) ?_
    refine va_put (D := (dC, dI)) (ci := 10) (v := .int (nI tm)) (ty := .int) (C := RX9) (T := TX9) (N := 14) hx hb hts in_c_takePacket_X9 tyX9 tyX9_ok nmX9 hown hK hP hD hS 0 rfl rfl 8 (by decide) (hts (.fieldLink RX9 37 "ClaimBus$Transport" "lastHeard" "I") (List.mem_of_getElem? (i := 2) rfl)) (fun _ h9 => h9) rfl (by decide +kernel) rfl rfl (Nat.le_of_ble_eq_true rfl) dX9_takePacket_65 (fun H locs hP hD hS => ?_)
    replace hP : va_P (dC, dI) vwCl [(tr, .inr (10, [.int 1, .int (nI tso), .int (nI tg), .int (nI ms), .int (nI tp), .int (nI tw), .int (nI (e1 + 2)), .int (nI tc), .int (nI tm), .int 0, .int su, .int 1, .ref mm, .ref tb])), (h1, .inr (2, [.int (nI fi), .int ff, .int fo, .ref mm])), (tb, .inl (cB, 42, .inl g)), (mm, .inr (4, [.int (nI mi), .int (nI mt), .int (nI mg), .int (nI ms), .int sd, .null]))] H := hP
    replace hD : va_D A [(tr, .inr (10, [.int 1, .int (nI tso), .int (nI tg), .int (nI ms), .int (nI tp), .int (nI tw), .int (nI (e1 + 2)), .int (nI tc), .int (nI tm), .int 0, .int su, .int 1, .ref mm, .ref tb])), (h1, .inr (2, [.int (nI fi), .int ff, .int fo, .ref mm])), (tb, .inl (cB, 42, .inl g)), (mm, .inr (4, [.int (nI mi), .int (nI mt), .int (nI mg), .int (nI ms), .int sd, .null]))] := hD
    have hP9 := hP.sub (ws' := [(tr, .inr (10, [.int 1, .int (nI tso), .int (nI tg), .int (nI ms), .int (nI tp), .int (nI tw), .int (nI (e1 + 2)), .int (nI tc), .int (nI tm), .int 0, .int su, .int 1, .ref mm, .ref tb])), (h1, .inr (2, [.int (nI fi), .int ff, .int fo, .ref mm])), (tb, .inl (cB, 42, .inl g)), (mm, .inr (4, [.int (nI mi), .int (nI mt), .int (nI mg), .int (nI ms), .int sd, .null]))]) [0, 1, 2, 3] rfl
    have hD9 := hD.sub (ws' := [(tr, .inr (10, [.int 1, .int (nI tso), .int (nI tg), .int (nI ms), .int (nI tp), .int (nI tw), .int (nI (e1 + 2)), .int (nI tc), .int (nI tm), .int 0, .int su, .int 1, .ref mm, .ref tb])), (h1, .inr (2, [.int (nI fi), .int ff, .int fo, .ref mm])), (tb, .inl (cB, 42, .inl g)), (mm, .inr (4, [.int (nI mi), .int (nI mt), .int (nI mg), .int (nI ms), .int sd, .null]))]) [0, 1, 2, 3] (by decide +kernel) rfl
    have hK9 := hK.sub (tys' := [(cB, .int)]) [0] rfl
    exact W.vret hx hb hr (fun t ht hW => ⟨⟨(), rfl, trivial, ⟨su, g, by rw [ht]; exact hP9, va_K.moved hW.alike hK9, hD9, hsu.trans (congrArg (sm sd ms) (by omega))⟩⟩, hS.F ht⟩) hS.2.2 dX9_takePacket_68
  | succ n ih =>
    refine lv_iload hx hb dX9_takePacket_13 (lv_at hl 0 rfl) ?_
    refine lv_bipush (v := 7) hx hb dX9_takePacket_15 (by decide) ?_
    refine lv_icmp_ge (tgt := 53) hx hb dX9_takePacket_17 (by decide) (fun c_5 => ?_) (fun c_5 => ?_)
    · exact absurd ((nI_leI (a := 7) (b := i) (by omega) (by omega)).mp c_5) (by omega)
    refine lv_iload_n hx hb dX9_takePacket_20 rfl (lv_at hl 4 rfl) ?_
    refine lv_iload hx hb dX9_takePacket_21 (lv_at hl 0 rfl) ?_
    refine lv_iadd hx hb dX9_takePacket_23 ?_
    refine lv_topi (fun x_6 ex_6 => ?_)
    obtain rfl : x_6 = (nI (7 * e1 + i)) := ex_6.trans ((nI_add (7 * e1) i).trans (show nI ((7 * e1) + i) = nI (7 * e1 + i) from congrArg nI (by omega)))
    refine lv_aload_n hx hb dX9_takePacket_24 rfl (lv_at hl 1 rfl) ?_
    refine va_get (D := (dC, dI)) (ci := 10) (v := .int (nI ms)) (C := RX9) (T := TX9) (N := 14) hx hb hts in_c_takePacket_X9 hown hK hP 0 rfl rfl 3 (by decide) (hts (.fieldLink RX9 22 "ClaimBus$Transport" "size" "I") (List.mem_of_getElem? (i := 3) rfl)) (fun _ h9 => h9) rfl dX9_takePacket_25 ?_
    refine lv_icmp_ge (tgt := 53) hx hb dX9_takePacket_28 (by decide) (fun c_7 => ?_) (fun c_7 => ?_)
    · have pc_7 : ms ≤ (7 * e1 + i) := (nI_leI (a := ms) (b := (7 * e1 + i)) (by omega) (by omega)).mp c_7
      refine lv_aload_n hx hb dX9_takePacket_53 rfl (lv_at hl 1 rfl) ?_
      refine lv_dup hx hb dX9_takePacket_54 rfl ?_
      refine va_get (D := (dC, dI)) (ci := 10) (v := .int (nI (e1 + 1))) (C := RX9) (T := TX9) (N := 14) hx hb hts in_c_takePacket_X9 hown hK hP 0 rfl rfl 6 (by decide) (hts (.fieldLink RX9 31 "ClaimBus$Transport" "expected" "I") (List.mem_of_getElem? (i := 1) rfl)) (fun _ h9 => h9) rfl dX9_takePacket_55 ?_
      refine lv_iconst (v := 1) hx hb dX9_takePacket_58 (by decide) ?_
      refine lv_iadd hx hb dX9_takePacket_59 ?_
      refine lv_topi (fun x_8 ex_8 => ?_)
      obtain rfl : x_8 = (nI (e1 + 2)) := ex_8.trans ((nI_add (e1 + 1) 1).trans (show nI ((e1 + 1) + 1) = nI (e1 + 2) from congrArg nI (by omega)))
      refine va_put (D := (dC, dI)) (ci := 10) (v := .int (nI (e1 + 2))) (ty := .int) (C := RX9) (T := TX9) (N := 14) hx hb hts in_c_takePacket_X9 tyX9 tyX9_ok nmX9 hown hK hP hD hS 0 rfl rfl 6 (by decide) (hts (.fieldLink RX9 31 "ClaimBus$Transport" "expected" "I") (List.mem_of_getElem? (i := 1) rfl)) (fun _ h9 => h9) rfl (by decide +kernel) rfl rfl (Nat.le_of_ble_eq_true rfl) dX9_takePacket_60 (fun H locs hP hD hS => ?_)
      replace hP : va_P (dC, dI) vwCl [(tr, .inr (10, [.int 1, .int (nI tso), .int (nI tg), .int (nI ms), .int (nI tp), .int (nI tw), .int (nI (e1 + 2)), .int (nI tc), .int (nI tl), .int 0, .int su, .int 1, .ref mm, .ref tb])), (h1, .inr (2, [.int (nI fi), .int ff, .int fo, .ref mm])), (tb, .inl (cB, 42, .inl g)), (mm, .inr (4, [.int (nI mi), .int (nI mt), .int (nI mg), .int (nI ms), .int sd, .null]))] H := hP
      replace hD : va_D A [(tr, .inr (10, [.int 1, .int (nI tso), .int (nI tg), .int (nI ms), .int (nI tp), .int (nI tw), .int (nI (e1 + 2)), .int (nI tc), .int (nI tl), .int 0, .int su, .int 1, .ref mm, .ref tb])), (h1, .inr (2, [.int (nI fi), .int ff, .int fo, .ref mm])), (tb, .inl (cB, 42, .inl g)), (mm, .inr (4, [.int (nI mi), .int (nI mt), .int (nI mg), .int (nI ms), .int sd, .null]))] := hD
      refine lv_aload_n hx hb dX9_takePacket_63 rfl (lv_at hl 1 rfl) ?_
      refine lv_iload_n hx hb dX9_takePacket_64 rfl (lv_at hl 3 rfl) ?_
      refine va_put (D := (dC, dI)) (ci := 10) (v := .int (nI tm)) (ty := .int) (C := RX9) (T := TX9) (N := 14) hx hb hts in_c_takePacket_X9 tyX9 tyX9_ok nmX9 hown hK hP hD hS 0 rfl rfl 8 (by decide) (hts (.fieldLink RX9 37 "ClaimBus$Transport" "lastHeard" "I") (List.mem_of_getElem? (i := 2) rfl)) (fun _ h9 => h9) rfl (by decide +kernel) rfl rfl (Nat.le_of_ble_eq_true rfl) dX9_takePacket_65 (fun H locs hP hD hS => ?_)
      replace hP : va_P (dC, dI) vwCl [(tr, .inr (10, [.int 1, .int (nI tso), .int (nI tg), .int (nI ms), .int (nI tp), .int (nI tw), .int (nI (e1 + 2)), .int (nI tc), .int (nI tm), .int 0, .int su, .int 1, .ref mm, .ref tb])), (h1, .inr (2, [.int (nI fi), .int ff, .int fo, .ref mm])), (tb, .inl (cB, 42, .inl g)), (mm, .inr (4, [.int (nI mi), .int (nI mt), .int (nI mg), .int (nI ms), .int sd, .null]))] H := hP
      replace hD : va_D A [(tr, .inr (10, [.int 1, .int (nI tso), .int (nI tg), .int (nI ms), .int (nI tp), .int (nI tw), .int (nI (e1 + 2)), .int (nI tc), .int (nI tm), .int 0, .int su, .int 1, .ref mm, .ref tb])), (h1, .inr (2, [.int (nI fi), .int ff, .int fo, .ref mm])), (tb, .inl (cB, 42, .inl g)), (mm, .inr (4, [.int (nI mi), .int (nI mt), .int (nI mg), .int (nI ms), .int sd, .null]))] := hD
      have hP9 := hP.sub (ws' := [(tr, .inr (10, [.int 1, .int (nI tso), .int (nI tg), .int (nI ms), .int (nI tp), .int (nI tw), .int (nI (e1 + 2)), .int (nI tc), .int (nI tm), .int 0, .int su, .int 1, .ref mm, .ref tb])), (h1, .inr (2, [.int (nI fi), .int ff, .int fo, .ref mm])), (tb, .inl (cB, 42, .inl g)), (mm, .inr (4, [.int (nI mi), .int (nI mt), .int (nI mg), .int (nI ms), .int sd, .null]))]) [0, 1, 2, 3] rfl
      have hD9 := hD.sub (ws' := [(tr, .inr (10, [.int 1, .int (nI tso), .int (nI tg), .int (nI ms), .int (nI tp), .int (nI tw), .int (nI (e1 + 2)), .int (nI tc), .int (nI tm), .int 0, .int su, .int 1, .ref mm, .ref tb])), (h1, .inr (2, [.int (nI fi), .int ff, .int fo, .ref mm])), (tb, .inl (cB, 42, .inl g)), (mm, .inr (4, [.int (nI mi), .int (nI mt), .int (nI mg), .int (nI ms), .int sd, .null]))]) [0, 1, 2, 3] (by decide +kernel) rfl
      have hK9 := hK.sub (tys' := [(cB, .int)]) [0] rfl
      exact W.vret hx hb hr (fun t ht hW => ⟨⟨(), rfl, trivial, ⟨su, g, by rw [ht]; exact hP9, va_K.moved hW.alike hK9, hD9, hsu.trans (congrArg (sm sd ms) (by omega))⟩⟩, hS.F ht⟩) hS.2.2 dX9_takePacket_68
    · have pc_7 : ¬ ms ≤ (7 * e1 + i) := fun h => c_7 ((nI_leI (a := ms) (b := (7 * e1 + i)) (by omega) (by omega)).mpr h)
      refine lv_aload_n hx hb dX9_takePacket_31 rfl (lv_at hl 1 rfl) ?_
      refine lv_iload_n hx hb dX9_takePacket_32 rfl (lv_at hl 4 rfl) ?_
      refine lv_iload hx hb dX9_takePacket_33 (lv_at hl 0 rfl) ?_
      refine lv_iadd hx hb dX9_takePacket_35 ?_
      refine lv_topi (fun x_9 ex_9 => ?_)
      obtain rfl : x_9 = (nI (7 * e1 + i)) := ex_9.trans ((nI_add (7 * e1) i).trans (show nI ((7 * e1) + i) = nI (7 * e1 + i) from congrArg nI (by omega)))
      refine lv_aload_n hx hb dX9_takePacket_36 rfl (lv_at hl 2 rfl) ?_
      refine lv_iload hx hb dX9_takePacket_37 (lv_at hl 0 rfl) ?_
      refine lv_iconst (v := 1) hx hb dX9_takePacket_39 (by decide) ?_
      refine lv_iadd hx hb dX9_takePacket_40 ?_
      refine lv_topi (fun x_10 ex_10 => ?_)
      obtain rfl : x_10 = (nI (i + 1)) := ex_10.trans ((nI_add i 1).trans (show nI (i + 1) = nI (i + 1) from congrArg nI (by omega)))
      have hPc := hP.sub (ws' := [(h1, .inr (2, [.int (nI fi), .int ff, .int fo, .ref mm]))]) [1] rfl
      have hDc := hD.sub (ws' := [(h1, .inr (2, [.int (nI fi), .int ff, .int fo, .ref mm]))]) [1] (by decide +kernel) rfl
      have hKc := hK.sub (tys' := []) [] rfl
      have hFc := ro_free hS hA
      refine va_calli (va_runV (As := [.int (nI (i + 1))]) (rest := [.int (nI (7 * e1 + i)), .ref tr]) ⟨hx, hb, hml, hown, hts⟩ (c_X1_byteAt l dC dI (h1) (fi) (ff) (fo) (mm) ((i + 1)) H.size hfi (by omega)) (cwV 1 hts g_c_takePacket_c_X1_byteAt_65 rfl rfl rfl (by decide +kernel) ⟨Nat.le_of_ble_eq_true rfl, Nat.le_of_ble_eq_true rfl⟩) ⟨fun a U g mk q => by obtain ⟨q0, q1, qP, qK, qD, qE⟩ := q; exact ⟨q0, q1, qP, va_K.moved (u := U) (U := U.calling g mk a) (Vm.Alike.refl U.vm) qK, qD, ev.same (u := U) (U := U.calling g mk a) rfl qE⟩, va_recv hKc hPc (ci := 2) (q0 := 0) rfl rfl, fun U hU hW => ⟨rfl, by rw [hU], by rw [hU]; exact hPc, va_K.moved hW.alike hKc, hDc.weaken (fun _ _ _ _ => trivial), hE.warm hW⟩⟩ rfl rfl hl.1 rfl (lv_room (Nat.le_of_ble_eq_true rfl)) dX9_takePacket_41 ⟨Nat.le_of_ble_eq_true rfl, Nat.le_of_ble_eq_true rfl⟩) hS (fun q _ h => hFc q h) hFc (fun r_11 u t H1 locs ht hvm hw hB hz1 hk1 hS => ?_)
      clear hPc hDc hKc
      replace hP := ro_keep hP hk1
      generalize H1 = H at hP hS ⊢
      replace hP : va_P (dC, dI) vwCl [(tr, .inr (10, [.int 1, .int (nI tso), .int (nI tg), .int (nI ms), .int (nI tp), .int (nI tw), .int (nI (e1 + 1)), .int (nI tc), .int (nI tl), .int 0, .int su, .int 1, .ref mm, .ref tb])), (h1, .inr (2, [.int (nI fi), .int ff, .int fo, .ref mm])), (tb, .inl (cB, 42, .inl g)), (mm, .inr (4, [.int (nI mi), .int (nI mt), .int (nI mg), .int (nI ms), .int sd, .null]))] H := hP
      have hw := hw.symm
      subst hw
      rw [hfb i (by omega)]
      have hPc := hP.sub (ws' := [(tr, .inr (10, [.int 1, .int (nI tso), .int (nI tg), .int (nI ms), .int (nI tp), .int (nI tw), .int (nI (e1 + 1)), .int (nI tc), .int (nI tl), .int 0, .int su, .int 1, .ref mm, .ref tb])), (tb, .inl (cB, 42, .inl g)), (mm, .inr (4, [.int (nI mi), .int (nI mt), .int (nI mg), .int (nI ms), .int sd, .null]))]) [0, 2, 3] rfl
      have hDc := hD.sub (ws' := [(tr, .inr (10, [.int 1, .int (nI tso), .int (nI tg), .int (nI ms), .int (nI tp), .int (nI tw), .int (nI (e1 + 1)), .int (nI tc), .int (nI tl), .int 0, .int su, .int 1, .ref mm, .ref tb])), (tb, .inl (cB, 42, .inl g)), (mm, .inr (4, [.int (nI mi), .int (nI mt), .int (nI mg), .int (nI ms), .int sd, .null]))]) [0, 2, 3] (by decide +kernel) rfl
      have hKc := hK.sub (tys' := [(cB, .int)]) [0] rfl
      have hFc := va_free (wc := [(tr, .inr (10, [.int 1, .int (nI tso), .int (nI tg), .int (nI ms), .int (nI tp), .int (nI tw), .int (nI (e1 + 1)), .int (nI tc), .int (nI tl), .int 0, .int su, .int 1, .ref mm, .ref tb])), (tb, .inl (cB, 42, .inl g)), (mm, .inr (4, [.int (nI mi), .int (nI mt), .int (nI mg), .int (nI ms), .int sd, .null]))]) hD hS hA [0, 2, 3] rfl
      refine va_callv (va_runV (As := [.int (nI (7 * e1 + i)), .int (bx sd ms (7 * e1 + i))]) (rest := []) ⟨hx, hb, hml, hown, hts⟩ (c_takeByte l dC dI (tr) (tso) (tg) (ms) (tp) (tw) ((e1 + 1)) (tc) (tl) (su) (mm) (tb) (cB) (g) (mi) (mt) (mg) (ms) (sd) ((7 * e1 + i)) H.size hmi hmt hmg hms (by omega)) (cwV 2 hts g_c_takePacket_c_takeByte_74 rfl rfl rfl (by decide +kernel) ⟨Nat.le_of_ble_eq_true rfl, Nat.le_of_ble_eq_true rfl⟩) ⟨fun a U g mk q => by obtain ⟨q0, q1, qP, qK, qD, qE⟩ := q; exact ⟨q0, q1, qP, va_K.moved (u := U) (U := U.calling g mk a) (Vm.Alike.refl U.vm) qK, qD, ev.same (u := U) (U := U.calling g mk a) rfl qE⟩, va_recv hKc hPc (ci := 10) (q0 := 0) rfl rfl, fun U hU hW => ⟨rfl, by rw [hU], by rw [hU]; exact hPc, va_K.moved hW.alike hKc, hDc.weaken (fun _ _ _ _ => trivial), hE.warm hW⟩⟩ rfl rfl hl.1 rfl (lv_room (Nat.le_of_ble_eq_true rfl)) dX9_takePacket_44 ⟨Nat.le_of_ble_eq_true rfl, Nat.le_of_ble_eq_true rfl⟩) hS (fun q _ h => hFc q h) hFc (fun u t H1 locs ht hvm hw hB hz1 hk1 hS => ?_)
      clear hPc hDc hKc
      obtain ⟨fb2_12, hP1, hK1, hD1⟩ := hB
      rw [ht] at hP1
      have hK1 := va_K.moved hvm.symm hK1
      obtain ⟨hP, hD⟩ := va_join (wr := [(h1, .inr (2, [.int (nI fi), .int ff, .int fo, .ref mm]))]) (w1 := [(tr, .inr (10, [.int 1, .int (nI tso), .int (nI tg), .int (nI ms), .int (nI tp), .int (nI tw), .int (nI (e1 + 1)), .int (nI tc), .int (nI tl), .int 0, .int (su + bx sd ms (7 * e1 + i) * nI ((7 * e1 + i) + 1)), .int 1, .ref mm, .ref tb])), (tb, .inl (cB, 42, .inl fb2_12)), (mm, .inr (4, [.int (nI mi), .int (nI mt), .int (nI mg), .int (nI ms), .int sd, .null]))]) hP hD [0, 2, 3] [1] rfl rfl (by decide +kernel) (by decide +kernel) hk1 hFc hP1 hD1
      generalize H1 = H at hP hS ⊢
      replace hP : va_P (dC, dI) vwCl [(h1, .inr (2, [.int (nI fi), .int ff, .int fo, .ref mm])), (tr, .inr (10, [.int 1, .int (nI tso), .int (nI tg), .int (nI ms), .int (nI tp), .int (nI tw), .int (nI (e1 + 1)), .int (nI tc), .int (nI tl), .int 0, .int (su + bx sd ms (7 * e1 + i) * nI ((7 * e1 + i) + 1)), .int 1, .ref mm, .ref tb])), (tb, .inl (cB, 42, .inl fb2_12)), (mm, .inr (4, [.int (nI mi), .int (nI mt), .int (nI mg), .int (nI ms), .int sd, .null]))] H := hP
      replace hD : va_D A [(h1, .inr (2, [.int (nI fi), .int ff, .int fo, .ref mm])), (tr, .inr (10, [.int 1, .int (nI tso), .int (nI tg), .int (nI ms), .int (nI tp), .int (nI tw), .int (nI (e1 + 1)), .int (nI tc), .int (nI tl), .int 0, .int (su + bx sd ms (7 * e1 + i) * nI ((7 * e1 + i) + 1)), .int 1, .ref mm, .ref tb])), (tb, .inl (cB, 42, .inl fb2_12)), (mm, .inr (4, [.int (nI mi), .int (nI mt), .int (nI mg), .int (nI ms), .int sd, .null]))] := hD
      clear hw
      refine lv_iinc (v := (nI (i + 1))) (lv' := [(4, .int (nI (i + 1))), (0, .ref tr), (1, .ref h1), (2, .int (nI tm)), (3, .int (nI (7 * e1)))]) hx hb dX9_takePacket_47 hl (k := 0) rfl ((nI_add i 1).trans (show nI (i + 1) = nI (i + 1) from congrArg nI (by omega))) (by decide) rfl (fun ls hl => ?_)
      refine lv_goto (tgt := 13) hx hb dX9_takePacket_50 (by decide) ?_
      replace hP := hP.sub (ws' := [(tr, .inr (10, [.int 1, .int (nI tso), .int (nI tg), .int (nI ms), .int (nI tp), .int (nI tw), .int (nI (e1 + 1)), .int (nI tc), .int (nI tl), .int 0, .int (su + bx sd ms (7 * e1 + i) * nI ((7 * e1 + i) + 1)), .int 1, .ref mm, .ref tb])), (h1, .inr (2, [.int (nI fi), .int ff, .int fo, .ref mm])), (tb, .inl (cB, 42, .inl fb2_12)), (mm, .inr (4, [.int (nI mi), .int (nI mt), .int (nI mg), .int (nI ms), .int sd, .null]))]) [1, 0, 2, 3] rfl
      replace hD := hD.sub (ws' := [(tr, .inr (10, [.int 1, .int (nI tso), .int (nI tg), .int (nI ms), .int (nI tp), .int (nI tw), .int (nI (e1 + 1)), .int (nI tc), .int (nI tl), .int 0, .int (su + bx sd ms (7 * e1 + i) * nI ((7 * e1 + i) + 1)), .int 1, .ref mm, .ref tb])), (h1, .inr (2, [.int (nI fi), .int ff, .int fo, .ref mm])), (tb, .inl (cB, 42, .inl fb2_12)), (mm, .inr (4, [.int (nI mi), .int (nI mt), .int (nI mg), .int (nI ms), .int sd, .null]))]) [1, 0, 2, 3] (by decide) rfl
      exact ih (i := i + 1) (su := (su + bx sd ms (7 * e1 + i) * nI ((7 * e1 + i) + 1))) (g := fb2_12) (hn := by omega) (hsu := by subst hsu; rfl) (hle := by omega) (hP := hP) (hD := hD) (hS := hS) (hl := lv_sub hl [0, 1, 2, 3, 4] rfl)

noncomputable def tl_c_enter : List Cond := wsX20
noncomputable def v_c_enter : List Cond := .code yX2_enter cX2_enter 6 none :: ([.fieldLink RX2 9 "ClaimBus$Inbox" "came" "I", .fieldLink RX2 19 "ClaimBus$Inbox" "log" "[I"] ++ tl_c_enter)
theorem it_c_enter : ∀ w ∈ tl_c_enter, w ∈ v_c_enter := fun w h => List.mem_cons_of_mem _ (List.mem_append_right _ h)
theorem in_c_enter_X2 : ∀ w ∈ wsX20, w ∈ v_c_enter := fun w h => it_c_enter w (h)
theorem gt_c_enter : ∀ w ∈ tl_c_enter, goodWord w = true := gw_wsX20
theorem gw_c_enter : ∀ w ∈ v_c_enter, goodWord w = true := List.forall_mem_cons.mpr ⟨by decide +kernel, List.forall_mem_append.mpr ⟨List.all_eq_true.mp (by decide +kernel), gt_c_enter⟩⟩
set_option maxHeartbeats 4000000 in
set_option maxRecDepth 100000 in
/-- Inbox.enter -/
theorem c_enter (l : Launch) (dC : Nat → ClassId) (dI : Nat → Nat → Nat) (ib : Nat) (nc : Nat) (lg : Nat) (lt : Nat) (cL : ClassId) (fL : Nat → Int32) (p0 : Int32) (p1 : Int32) (p2 : Int32) (p3 : Int32) (sz : Nat) (hnc : nc < 20) : Met l yX2_enter v_c_enter ({ frames := 0, cells := 0, slots := 0, locals := 0 }) (va_Pc [.ref ib, .int p0, .int p1, .int p2, .int p3] (fun U => U.heap.size = sz ∧ va_P (dC, dI) vwCl [(ib, .inr (3, [.int (nI nc), .int 0, .ref lg, .ref lt])), (lg, .inl (cL, 80, .inl fL))] U.heap ∧ va_K (dC, dI) vwCl [(cL, .int)] U ∧ va_D (fun _ => True) [(ib, .inr (3, [.int (nI nc), .int 0, .ref lg, .ref lt])), (lg, .inl (cL, 80, .inl fL))] ∧ ev U)) (va_Qv (fun _ : Unit => True) (fun (_ : Unit) (t : State) => ∃ (fL2 : Nat → Int32), va_P (dC, dI) vwCl [(ib, .inr (3, [.int (nI (nc + 1)), .int 0, .ref lg, .ref lt])), (lg, .inl (cL, 80, .inl fL2))] t.heap ∧ va_K (dC, dI) vwCl [(cL, .int)] t ∧ va_D (va_A [(ib, .inr (3, [.int (nI nc), .int 0, .ref lg, .ref lt])), (lg, .inl (cL, 80, .inl fL))] sz) [(ib, .inr (3, [.int (nI (nc + 1)), .int 0, .ref lg, .ref lt])), (lg, .inl (cL, 80, .inl fL2))] ∧ (fL2 (4 * nc) = p0) ∧ (fL2 (4 * nc + 1) = p1) ∧ (fL2 (4 * nc + 2) = p2) ∧ (fL2 (4 * nc + 3) = p3)) (va_A [(ib, .inr (3, [.int (nI nc), .int 0, .ref lg, .ref lt])), (lg, .inl (cL, 80, .inl fL))] sz)) 0 0 (va_A [(ib, .inr (3, [.int (nI nc), .int 0, .ref lg, .ref lt])), (lg, .inl (cL, 80, .inl fL))] sz) := by
  refine Met.ofW (cc := cX2_enter) (maxL := 6) (ret := none) (by decide) rfl ?_
  intro p e s m args below meth c s₁ B hml hv
  obtain ⟨rfl, hsz, hP, hK, hD0, hE⟩ := hv
  have hx := B.exec
  have hb := B.bytes
  have hr := B.returns
  have hts := atoms_spec (ws := v_c_enter) B.pre
  have hown : s.vm.findClass RX2 = some m.cls := findClass_of_methodNamed B.named
  have hlocks := B.notSynchronized
  subst hsz
  have hD := hD0.self (sz := s.heap.size)
  generalize hAe : va_A [(ib, .inr (3, [.int (nI nc), .int 0, .ref lg, .ref lt])), (lg, .inl (cL, 80, .inl fL))] s.heap.size = A at hD ⊢
  have hA : ∀ q : Nat, s.heap.size ≤ q → A q := fun q h => by rw [← hAe]; exact Or.inr h
  have hS : va_S A s.heap s.heap [] := va_S.rf
  replace hP : va_P (dC, dI) vwCl [(ib, .inr (3, [.int (nI nc), .int 0, .ref lg, .ref lt])), (lg, .inl (cL, 80, .inl fL))] s.heap := hP
  have hl := lv_entry ([.ref ib, .int p0, .int p1, .int p2, .int p3]) (n := 6) (Nat.le_of_ble_eq_true rfl)
  rw [lg_entry_eq]
  generalize (lg_sl ([.ref ib, .int p0, .int p1, .int p2, .int p3]) ++ List.replicate (6 - (lg_sl ([.ref ib, .int p0, .int p1, .int p2, .int p3])).length) Slot.unset).toArray = ls at hl ⊢
  replace hl : lv_has ls 6 [(0, .ref ib), (1, .int p0), (2, .int p1), (3, .int p2), (4, .int p3)] := hl
  obtain ⟨H, hH⟩ : ∃ z : Heap, z = s.heap := ⟨_, rfl⟩
  rw [← hH]
  replace hS : va_S A s.heap H [] := by rw [hH]; exact va_S.rf
  replace hP : va_P (dC, dI) vwCl [(ib, .inr (3, [.int (nI nc), .int 0, .ref lg, .ref lt])), (lg, .inl (cL, 80, .inl fL))] H := by rw [hH]; exact hP
  clear hH
  refine lv_aload_n hx hb dX2_enter_0 rfl (lv_at hl 0 rfl) ?_
  refine va_get (D := (dC, dI)) (ci := 3) (v := .int (nI nc)) (C := RX2) (T := TX2) (N := 4) hx hb hts in_c_enter_X2 hown hK hP 0 rfl rfl 0 (by decide) (hts (.fieldLink RX2 9 "ClaimBus$Inbox" "came" "I") (List.mem_of_getElem? (i := 1) rfl)) (fun _ h9 => h9) rfl dX2_enter_1 ?_
  refine lv_iconst (v := 4) hx hb dX2_enter_4 (by decide) ?_
  refine lv_imul hx hb dX2_enter_5 ?_
  refine lv_topi (fun x_1 ex_1 => ?_)
  obtain rfl : x_1 = (nI (4 * nc)) := ex_1.trans ((pk_mul nc 4).trans (show nI (nc * 4) = nI (4 * nc) from congrArg nI (by omega)))
  refine lv_istore (lv' := [(5, .int (nI (4 * nc))), (0, .ref ib), (1, .int p0), (2, .int p1), (3, .int p2), (4, .int p3)]) hx hb dX2_enter_6 hl (by decide) rfl (fun ls hl => ?_)
  refine lv_aload_n hx hb dX2_enter_8 rfl (lv_at hl 1 rfl) ?_
  refine va_get (D := (dC, dI)) (ci := 3) (v := .int (nI nc)) (C := RX2) (T := TX2) (N := 4) hx hb hts in_c_enter_X2 hown hK hP 0 rfl rfl 0 (by decide) (hts (.fieldLink RX2 9 "ClaimBus$Inbox" "came" "I") (List.mem_of_getElem? (i := 1) rfl)) (fun _ h9 => h9) rfl dX2_enter_9 ?_
  refine lv_bipush (v := 20) hx hb dX2_enter_12 (by decide) ?_
  refine lv_icmp_ge (tgt := 73) hx hb dX2_enter_14 (by decide) (fun c_2 => ?_) (fun c_2 => ?_)
  · exact absurd ((nI_leI (a := 20) (b := nc) (by omega) (by omega)).mp c_2) (by omega)
  refine lv_iload hx hb dX2_enter_17 (lv_at hl 0 rfl) ?_
  refine lv_if_lt (tgt := 73) hx hb dX2_enter_19 (by decide) (fun c_3 => ?_) (fun c_3 => ?_)
  · exact absurd ((nI_ltI (a := (4 * nc)) (b := 0) (by omega) (by omega)).mp c_3) (by omega)
  refine lv_iload hx hb dX2_enter_22 (lv_at hl 0 rfl) ?_
  refine lv_iconst (v := 3) hx hb dX2_enter_24 (by decide) ?_
  refine lv_iadd hx hb dX2_enter_25 ?_
  refine lv_topi (fun x_4 ex_4 => ?_)
  obtain rfl : x_4 = (nI (4 * nc + 3)) := ex_4.trans ((nI_add (4 * nc) 3).trans (show nI ((4 * nc) + 3) = nI (4 * nc + 3) from congrArg nI (by omega)))
  refine lv_aload_n hx hb dX2_enter_26 rfl (lv_at hl 1 rfl) ?_
  refine va_get (D := (dC, dI)) (ci := 3) (v := .ref lg) (C := RX2) (T := TX2) (N := 4) hx hb hts in_c_enter_X2 hown hK hP 0 rfl rfl 2 (by decide) (hts (.fieldLink RX2 19 "ClaimBus$Inbox" "log" "[I") (List.mem_of_getElem? (i := 2) rfl)) (fun _ h9 => h9) rfl dX2_enter_27 ?_
  refine va_alen hx hb hK hP 1 0 rfl rfl (v := 80) rfl dX2_enter_30 ?_
  refine lv_icmp_ge (tgt := 73) hx hb dX2_enter_31 (by decide) (fun c_5 => ?_) (fun c_5 => ?_)
  · exact absurd ((nI_leI (a := 80) (b := (4 * nc + 3)) (by omega) (by omega)).mp c_5) (by omega)
  refine lv_aload_n hx hb dX2_enter_34 rfl (lv_at hl 1 rfl) ?_
  refine va_get (D := (dC, dI)) (ci := 3) (v := .ref lg) (C := RX2) (T := TX2) (N := 4) hx hb hts in_c_enter_X2 hown hK hP 0 rfl rfl 2 (by decide) (hts (.fieldLink RX2 19 "ClaimBus$Inbox" "log" "[I") (List.mem_of_getElem? (i := 2) rfl)) (fun _ h9 => h9) rfl dX2_enter_35 ?_
  refine lv_iload hx hb dX2_enter_38 (lv_at hl 0 rfl) ?_
  refine lv_iload_n hx hb dX2_enter_40 rfl (lv_at hl 2 rfl) ?_
  refine va_iast hx hb hK hP hD hS 1 0 rfl rfl (vp_in_nI (n := (4 * nc)) (by omega) (by omega)) dX2_enter_41 (fun H locs hP hD hS => ?_)
  obtain ⟨f_6, ef_6⟩ : ∃ z : Nat → Int32, z = upd fL (4 * nc) (p0) := ⟨_, rfl⟩
  rw [(nI_clamp (n := (4 * nc)) (by omega))] at hP hD
  replace hP : va_P (dC, dI) vwCl [(ib, .inr (3, [.int (nI nc), .int 0, .ref lg, .ref lt])), (lg, .inl (cL, 80, .inl f_6))] H := by rw [ef_6]; exact hP
  replace hD : va_D A [(ib, .inr (3, [.int (nI nc), .int 0, .ref lg, .ref lt])), (lg, .inl (cL, 80, .inl f_6))] := by rw [ef_6]; exact hD
  refine lv_aload_n hx hb dX2_enter_42 rfl (lv_at hl 1 rfl) ?_
  refine va_get (D := (dC, dI)) (ci := 3) (v := .ref lg) (C := RX2) (T := TX2) (N := 4) hx hb hts in_c_enter_X2 hown hK hP 0 rfl rfl 2 (by decide) (hts (.fieldLink RX2 19 "ClaimBus$Inbox" "log" "[I") (List.mem_of_getElem? (i := 2) rfl)) (fun _ h9 => h9) rfl dX2_enter_43 ?_
  refine lv_iload hx hb dX2_enter_46 (lv_at hl 0 rfl) ?_
  refine lv_iconst (v := 1) hx hb dX2_enter_48 (by decide) ?_
  refine lv_iadd hx hb dX2_enter_49 ?_
  refine lv_topi (fun x_7 ex_7 => ?_)
  obtain rfl : x_7 = (nI (4 * nc + 1)) := ex_7.trans ((nI_add (4 * nc) 1).trans (show nI ((4 * nc) + 1) = nI (4 * nc + 1) from congrArg nI (by omega)))
  refine lv_iload_n hx hb dX2_enter_50 rfl (lv_at hl 3 rfl) ?_
  refine va_iast hx hb hK hP hD hS 1 0 rfl rfl (vp_in_nI (n := (4 * nc + 1)) (by omega) (by omega)) dX2_enter_51 (fun H locs hP hD hS => ?_)
  obtain ⟨f_8, ef_8⟩ : ∃ z : Nat → Int32, z = upd f_6 (4 * nc + 1) (p1) := ⟨_, rfl⟩
  rw [(nI_clamp (n := (4 * nc + 1)) (by omega))] at hP hD
  replace hP : va_P (dC, dI) vwCl [(ib, .inr (3, [.int (nI nc), .int 0, .ref lg, .ref lt])), (lg, .inl (cL, 80, .inl f_8))] H := by rw [ef_8]; exact hP
  replace hD : va_D A [(ib, .inr (3, [.int (nI nc), .int 0, .ref lg, .ref lt])), (lg, .inl (cL, 80, .inl f_8))] := by rw [ef_8]; exact hD
  refine lv_aload_n hx hb dX2_enter_52 rfl (lv_at hl 1 rfl) ?_
  refine va_get (D := (dC, dI)) (ci := 3) (v := .ref lg) (C := RX2) (T := TX2) (N := 4) hx hb hts in_c_enter_X2 hown hK hP 0 rfl rfl 2 (by decide) (hts (.fieldLink RX2 19 "ClaimBus$Inbox" "log" "[I") (List.mem_of_getElem? (i := 2) rfl)) (fun _ h9 => h9) rfl dX2_enter_53 ?_
  refine lv_iload hx hb dX2_enter_56 (lv_at hl 0 rfl) ?_
  refine lv_iconst (v := 2) hx hb dX2_enter_58 (by decide) ?_
  refine lv_iadd hx hb dX2_enter_59 ?_
  refine lv_topi (fun x_9 ex_9 => ?_)
  obtain rfl : x_9 = (nI (4 * nc + 2)) := ex_9.trans ((nI_add (4 * nc) 2).trans (show nI ((4 * nc) + 2) = nI (4 * nc + 2) from congrArg nI (by omega)))
  refine lv_iload_n hx hb dX2_enter_60 rfl (lv_at hl 4 rfl) ?_
  refine va_iast hx hb hK hP hD hS 1 0 rfl rfl (vp_in_nI (n := (4 * nc + 2)) (by omega) (by omega)) dX2_enter_61 (fun H locs hP hD hS => ?_)
  obtain ⟨f_10, ef_10⟩ : ∃ z : Nat → Int32, z = upd f_8 (4 * nc + 2) (p2) := ⟨_, rfl⟩
  rw [(nI_clamp (n := (4 * nc + 2)) (by omega))] at hP hD
  replace hP : va_P (dC, dI) vwCl [(ib, .inr (3, [.int (nI nc), .int 0, .ref lg, .ref lt])), (lg, .inl (cL, 80, .inl f_10))] H := by rw [ef_10]; exact hP
  replace hD : va_D A [(ib, .inr (3, [.int (nI nc), .int 0, .ref lg, .ref lt])), (lg, .inl (cL, 80, .inl f_10))] := by rw [ef_10]; exact hD
  refine lv_aload_n hx hb dX2_enter_62 rfl (lv_at hl 1 rfl) ?_
  refine va_get (D := (dC, dI)) (ci := 3) (v := .ref lg) (C := RX2) (T := TX2) (N := 4) hx hb hts in_c_enter_X2 hown hK hP 0 rfl rfl 2 (by decide) (hts (.fieldLink RX2 19 "ClaimBus$Inbox" "log" "[I") (List.mem_of_getElem? (i := 2) rfl)) (fun _ h9 => h9) rfl dX2_enter_63 ?_
  refine lv_iload hx hb dX2_enter_66 (lv_at hl 0 rfl) ?_
  refine lv_iconst (v := 3) hx hb dX2_enter_68 (by decide) ?_
  refine lv_iadd hx hb dX2_enter_69 ?_
  refine lv_topi (fun x_11 ex_11 => ?_)
  obtain rfl : x_11 = (nI (4 * nc + 3)) := ex_11.trans ((nI_add (4 * nc) 3).trans (show nI ((4 * nc) + 3) = nI (4 * nc + 3) from congrArg nI (by omega)))
  refine lv_iload hx hb dX2_enter_70 (lv_at hl 5 rfl) ?_
  refine va_iast hx hb hK hP hD hS 1 0 rfl rfl (vp_in_nI (n := (4 * nc + 3)) (by omega) (by omega)) dX2_enter_72 (fun H locs hP hD hS => ?_)
  obtain ⟨f_12, ef_12⟩ : ∃ z : Nat → Int32, z = upd f_10 (4 * nc + 3) (p3) := ⟨_, rfl⟩
  rw [(nI_clamp (n := (4 * nc + 3)) (by omega))] at hP hD
  replace hP : va_P (dC, dI) vwCl [(ib, .inr (3, [.int (nI nc), .int 0, .ref lg, .ref lt])), (lg, .inl (cL, 80, .inl f_12))] H := by rw [ef_12]; exact hP
  replace hD : va_D A [(ib, .inr (3, [.int (nI nc), .int 0, .ref lg, .ref lt])), (lg, .inl (cL, 80, .inl f_12))] := by rw [ef_12]; exact hD
  refine lv_aload_n hx hb dX2_enter_73 rfl (lv_at hl 1 rfl) ?_
  refine lv_dup hx hb dX2_enter_74 rfl ?_
  refine va_get (D := (dC, dI)) (ci := 3) (v := .int (nI nc)) (C := RX2) (T := TX2) (N := 4) hx hb hts in_c_enter_X2 hown hK hP 0 rfl rfl 0 (by decide) (hts (.fieldLink RX2 9 "ClaimBus$Inbox" "came" "I") (List.mem_of_getElem? (i := 1) rfl)) (fun _ h9 => h9) rfl dX2_enter_75 ?_
  refine lv_iconst (v := 1) hx hb dX2_enter_78 (by decide) ?_
  refine lv_iadd hx hb dX2_enter_79 ?_
  refine lv_topi (fun x_13 ex_13 => ?_)
  obtain rfl : x_13 = (nI (nc + 1)) := ex_13.trans ((nI_add nc 1).trans (show nI (nc + 1) = nI (nc + 1) from congrArg nI (by omega)))
  refine va_put (D := (dC, dI)) (ci := 3) (v := .int (nI (nc + 1))) (ty := .int) (C := RX2) (T := TX2) (N := 4) hx hb hts in_c_enter_X2 tyX2 tyX2_ok nmX2 hown hK hP hD hS 0 rfl rfl 0 (by decide) (hts (.fieldLink RX2 9 "ClaimBus$Inbox" "came" "I") (List.mem_of_getElem? (i := 1) rfl)) (fun _ h9 => h9) rfl (by decide +kernel) rfl rfl (Nat.le_of_ble_eq_true rfl) dX2_enter_80 (fun H locs hP hD hS => ?_)
  replace hP : va_P (dC, dI) vwCl [(ib, .inr (3, [.int (nI (nc + 1)), .int 0, .ref lg, .ref lt])), (lg, .inl (cL, 80, .inl f_12))] H := hP
  replace hD : va_D A [(ib, .inr (3, [.int (nI (nc + 1)), .int 0, .ref lg, .ref lt])), (lg, .inl (cL, 80, .inl f_12))] := hD
  have hP9 := hP.sub (ws' := [(ib, .inr (3, [.int (nI (nc + 1)), .int 0, .ref lg, .ref lt])), (lg, .inl (cL, 80, .inl f_12))]) [0, 1] rfl
  have hD9 := hD.sub (ws' := [(ib, .inr (3, [.int (nI (nc + 1)), .int 0, .ref lg, .ref lt])), (lg, .inl (cL, 80, .inl f_12))]) [0, 1] (by decide +kernel) rfl
  have hK9 := hK.sub (tys' := [(cL, .int)]) [0] rfl
  exact W.vret hx hb hr (fun t ht hW => ⟨⟨(), rfl, trivial, ⟨f_12, by rw [ht]; exact hP9, va_K.moved hW.alike hK9, hD9, by rw [ef_12, pk_un (by omega), ef_10, pk_un (by omega), ef_8, pk_un (by omega), ef_6, pk_us], by rw [ef_12, pk_un (by omega), ef_10, pk_un (by omega), ef_8, pk_us], by rw [ef_12, pk_un (by omega), ef_10, pk_us], by rw [ef_12, pk_us]⟩⟩, hS.F ht⟩) hS.2.2 dX2_enter_83

noncomputable def tl_c_takeMessage : List Cond := wsX90 ++ (v_c_enter)
noncomputable def v_c_takeMessage : List Cond := .code yX2_takeMessage cX2_takeMessage 3 none :: ([.fieldLink RX2 54 "ClaimBus$Transport" "source" "I", .fieldLink RX2 58 "ClaimBus$Transport" "group" "I", .fieldLink RX2 60 "ClaimBus$Transport" "size" "I", .fieldLink RX2 63 "ClaimBus$Transport" "sum" "I", .initialized RX2, .methodLink RX2 41 yX2_enter, .instanceMethod yX2_enter, .selects RX2 yX2_enter yX2_enter, .fieldLink RX2 66 "ClaimBus$Transport" "isAsSent" "Z", .constant RX2 45 (65226)] ++ tl_c_takeMessage)
theorem it_c_takeMessage : ∀ w ∈ tl_c_takeMessage, w ∈ v_c_takeMessage := fun w h => List.mem_cons_of_mem _ (List.mem_append_right _ h)
theorem in_c_takeMessage_X9 : ∀ w ∈ wsX90, w ∈ v_c_takeMessage := fun w h => it_c_takeMessage w (List.mem_append_left _ h)
theorem ic_c_takeMessage_c_enter : ∀ w ∈ v_c_enter, w ∈ v_c_takeMessage := fun w h => it_c_takeMessage w (List.mem_append_right _ (h))
theorem gt_c_takeMessage : ∀ w ∈ tl_c_takeMessage, goodWord w = true := List.forall_mem_append.mpr ⟨gw_wsX90, gw_c_enter⟩
theorem gw_c_takeMessage : ∀ w ∈ v_c_takeMessage, goodWord w = true := List.forall_mem_cons.mpr ⟨by decide +kernel, List.forall_mem_append.mpr ⟨List.all_eq_true.mp (by decide +kernel), gt_c_takeMessage⟩⟩
theorem g_c_takeMessage_c_enter_41 : GoodIn v_c_takeMessage (wsV RX2 41 RX2 yX2_enter v_c_enter) := goodIn_app (goodIn_r [.methodLink RX2 41 yX2_enter, .instanceMethod yX2_enter, .selects RX2 yX2_enter yX2_enter, .initialized RX2] [6, 7, 8, 5] (by decide +kernel) (by decide +kernel)) (fun w h => ⟨ic_c_takeMessage_c_enter w h, good_of_word (gw_c_enter w h)⟩)
set_option maxHeartbeats 4000000 in
set_option maxRecDepth 100000 in
/-- Inbox.takeMessage: no troubles -/
theorem c_takeMessage (l : Launch) (dC : Nat → ClassId) (dI : Nat → Nat → Nat) (ib : Nat) (nc : Nat) (lg : Nat) (lt : Nat) (cL : ClassId) (fL : Nat → Int32) (tr : Nat) (tso : Nat) (tg : Nat) (ts : Nat) (tp : Nat) (tw : Nat) (te : Nat) (tc : Nat) (tl : Nat) (tsu : Int32) (mm : Nat) (tb : Nat) (sz : Nat) (hnc : nc < 20) (htg : tg ≠ 65226) (htg2 : tg < 262144) : Met l yX2_takeMessage v_c_takeMessage ({ frames := 1, cells := 0, slots := 0, locals := 25 }) (va_Pc [.ref ib, .ref tr] (fun U => U.heap.size = sz ∧ va_P (dC, dI) vwCl [(ib, .inr (3, [.int (nI nc), .int 0, .ref lg, .ref lt])), (lg, .inl (cL, 80, .inl fL)), (tr, .inr (10, [.int 0, .int (nI tso), .int (nI tg), .int (nI ts), .int (nI tp), .int (nI tw), .int (nI te), .int (nI tc), .int (nI tl), .int 0, .int tsu, .int 1, .ref mm, .ref tb]))] U.heap ∧ va_K (dC, dI) vwCl [(cL, .int)] U ∧ va_D (fun _ => True) [(ib, .inr (3, [.int (nI nc), .int 0, .ref lg, .ref lt])), (lg, .inl (cL, 80, .inl fL)), (tr, .inr (10, [.int 0, .int (nI tso), .int (nI tg), .int (nI ts), .int (nI tp), .int (nI tw), .int (nI te), .int (nI tc), .int (nI tl), .int 0, .int tsu, .int 1, .ref mm, .ref tb]))] ∧ ev U)) (va_Qv (fun _ : Unit => True) (fun (_ : Unit) (t : State) => ∃ (fL2 : Nat → Int32), va_P (dC, dI) vwCl [(ib, .inr (3, [.int (nI (nc + 1)), .int 0, .ref lg, .ref lt])), (lg, .inl (cL, 80, .inl fL2)), (tr, .inr (10, [.int 0, .int (nI tso), .int (nI tg), .int (nI ts), .int (nI tp), .int (nI tw), .int (nI te), .int (nI tc), .int (nI tl), .int 0, .int tsu, .int 1, .ref mm, .ref tb]))] t.heap ∧ va_K (dC, dI) vwCl [(cL, .int)] t ∧ va_D (va_A [(ib, .inr (3, [.int (nI nc), .int 0, .ref lg, .ref lt])), (lg, .inl (cL, 80, .inl fL)), (tr, .inr (10, [.int 0, .int (nI tso), .int (nI tg), .int (nI ts), .int (nI tp), .int (nI tw), .int (nI te), .int (nI tc), .int (nI tl), .int 0, .int tsu, .int 1, .ref mm, .ref tb]))] sz) [(ib, .inr (3, [.int (nI (nc + 1)), .int 0, .ref lg, .ref lt])), (lg, .inl (cL, 80, .inl fL2)), (tr, .inr (10, [.int 0, .int (nI tso), .int (nI tg), .int (nI ts), .int (nI tp), .int (nI tw), .int (nI te), .int (nI tc), .int (nI tl), .int 0, .int tsu, .int 1, .ref mm, .ref tb]))] ∧ (fL2 (4 * nc) = (nI tso)) ∧ (fL2 (4 * nc + 1) = (nI tg)) ∧ (fL2 (4 * nc + 2) = (nI ts)) ∧ (fL2 (4 * nc + 3) = tsu)) (va_A [(ib, .inr (3, [.int (nI nc), .int 0, .ref lg, .ref lt])), (lg, .inl (cL, 80, .inl fL)), (tr, .inr (10, [.int 0, .int (nI tso), .int (nI tg), .int (nI ts), .int (nI tp), .int (nI tw), .int (nI te), .int (nI tc), .int (nI tl), .int 0, .int tsu, .int 1, .ref mm, .ref tb]))] sz)) 0 0 (va_A [(ib, .inr (3, [.int (nI nc), .int 0, .ref lg, .ref lt])), (lg, .inl (cL, 80, .inl fL)), (tr, .inr (10, [.int 0, .int (nI tso), .int (nI tg), .int (nI ts), .int (nI tp), .int (nI tw), .int (nI te), .int (nI tc), .int (nI tl), .int 0, .int tsu, .int 1, .ref mm, .ref tb]))] sz) := by
  refine Met.ofW (cc := cX2_takeMessage) (maxL := 3) (ret := none) (by decide) rfl ?_
  intro p e s m args below meth c s₁ B hml hv
  obtain ⟨rfl, hsz, hP, hK, hD0, hE⟩ := hv
  have hx := B.exec
  have hb := B.bytes
  have hr := B.returns
  have hts := atoms_spec (ws := v_c_takeMessage) B.pre
  have hown : s.vm.findClass RX2 = some m.cls := findClass_of_methodNamed B.named
  have hlocks := B.notSynchronized
  subst hsz
  have hD := hD0.self (sz := s.heap.size)
  generalize hAe : va_A [(ib, .inr (3, [.int (nI nc), .int 0, .ref lg, .ref lt])), (lg, .inl (cL, 80, .inl fL)), (tr, .inr (10, [.int 0, .int (nI tso), .int (nI tg), .int (nI ts), .int (nI tp), .int (nI tw), .int (nI te), .int (nI tc), .int (nI tl), .int 0, .int tsu, .int 1, .ref mm, .ref tb]))] s.heap.size = A at hD ⊢
  have hA : ∀ q : Nat, s.heap.size ≤ q → A q := fun q h => by rw [← hAe]; exact Or.inr h
  have hS : va_S A s.heap s.heap [] := va_S.rf
  replace hP : va_P (dC, dI) vwCl [(ib, .inr (3, [.int (nI nc), .int 0, .ref lg, .ref lt])), (lg, .inl (cL, 80, .inl fL)), (tr, .inr (10, [.int 0, .int (nI tso), .int (nI tg), .int (nI ts), .int (nI tp), .int (nI tw), .int (nI te), .int (nI tc), .int (nI tl), .int 0, .int tsu, .int 1, .ref mm, .ref tb]))] s.heap := hP
  have hl := lv_entry ([.ref ib, .ref tr]) (n := 3) (Nat.le_of_ble_eq_true rfl)
  rw [lg_entry_eq]
  generalize (lg_sl ([.ref ib, .ref tr]) ++ List.replicate (3 - (lg_sl ([.ref ib, .ref tr])).length) Slot.unset).toArray = ls at hl ⊢
  replace hl : lv_has ls 3 [(0, .ref ib), (1, .ref tr)] := hl
  obtain ⟨H, hH⟩ : ∃ z : Heap, z = s.heap := ⟨_, rfl⟩
  rw [← hH]
  replace hS : va_S A s.heap H [] := by rw [hH]; exact va_S.rf
  replace hP : va_P (dC, dI) vwCl [(ib, .inr (3, [.int (nI nc), .int 0, .ref lg, .ref lt])), (lg, .inl (cL, 80, .inl fL)), (tr, .inr (10, [.int 0, .int (nI tso), .int (nI tg), .int (nI ts), .int (nI tp), .int (nI tw), .int (nI te), .int (nI tc), .int (nI tl), .int 0, .int tsu, .int 1, .ref mm, .ref tb]))] H := by rw [hH]; exact hP
  clear hH
  refine lv_aload_n hx hb dX2_takeMessage_0 rfl (lv_at hl 0 rfl) ?_
  refine lv_aload_n hx hb dX2_takeMessage_1 rfl (lv_at hl 1 rfl) ?_
  refine va_get (D := (dC, dI)) (ci := 10) (v := .int (nI tso)) (C := RX9) (T := TX9) (N := 14) hx hb hts in_c_takeMessage_X9 hown hK hP 2 rfl rfl 1 (by decide) (hts (.fieldLink RX2 54 "ClaimBus$Transport" "source" "I") (List.mem_of_getElem? (i := 1) rfl)) (fun _ h9 => h9) rfl dX2_takeMessage_2 ?_
  refine lv_aload_n hx hb dX2_takeMessage_5 rfl (lv_at hl 1 rfl) ?_
  refine va_get (D := (dC, dI)) (ci := 10) (v := .int (nI tg)) (C := RX9) (T := TX9) (N := 14) hx hb hts in_c_takeMessage_X9 hown hK hP 2 rfl rfl 2 (by decide) (hts (.fieldLink RX2 58 "ClaimBus$Transport" "group" "I") (List.mem_of_getElem? (i := 2) rfl)) (fun _ h9 => h9) rfl dX2_takeMessage_6 ?_
  refine lv_aload_n hx hb dX2_takeMessage_9 rfl (lv_at hl 1 rfl) ?_
  refine va_get (D := (dC, dI)) (ci := 10) (v := .int (nI ts)) (C := RX9) (T := TX9) (N := 14) hx hb hts in_c_takeMessage_X9 hown hK hP 2 rfl rfl 3 (by decide) (hts (.fieldLink RX2 60 "ClaimBus$Transport" "size" "I") (List.mem_of_getElem? (i := 3) rfl)) (fun _ h9 => h9) rfl dX2_takeMessage_10 ?_
  refine lv_aload_n hx hb dX2_takeMessage_13 rfl (lv_at hl 1 rfl) ?_
  refine va_get (D := (dC, dI)) (ci := 10) (v := .int tsu) (C := RX9) (T := TX9) (N := 14) hx hb hts in_c_takeMessage_X9 hown hK hP 2 rfl rfl 10 (by decide) (hts (.fieldLink RX2 63 "ClaimBus$Transport" "sum" "I") (List.mem_of_getElem? (i := 4) rfl)) (fun _ h9 => h9) rfl dX2_takeMessage_14 ?_
  have hPc := hP.sub (ws' := [(ib, .inr (3, [.int (nI nc), .int 0, .ref lg, .ref lt])), (lg, .inl (cL, 80, .inl fL))]) [0, 1] rfl
  have hDc := hD.sub (ws' := [(ib, .inr (3, [.int (nI nc), .int 0, .ref lg, .ref lt])), (lg, .inl (cL, 80, .inl fL))]) [0, 1] (by decide +kernel) rfl
  have hKc := hK.sub (tys' := [(cL, .int)]) [0] rfl
  have hFc := va_free (wc := [(ib, .inr (3, [.int (nI nc), .int 0, .ref lg, .ref lt])), (lg, .inl (cL, 80, .inl fL))]) hD hS hA [0, 1] rfl
  refine va_callv (va_runV (As := [.int (nI tso), .int (nI tg), .int (nI ts), .int tsu]) (rest := []) ⟨hx, hb, hml, hown, hts⟩ (c_enter l dC dI (ib) (nc) (lg) (lt) (cL) (fL) ((nI tso)) ((nI tg)) ((nI ts)) (tsu) H.size hnc) (cwV 4 hts g_c_takeMessage_c_enter_41 rfl rfl rfl (by decide +kernel) ⟨Nat.le_of_ble_eq_true rfl, Nat.le_of_ble_eq_true rfl⟩) ⟨fun a U g mk q => by obtain ⟨q0, q1, qP, qK, qD, qE⟩ := q; exact ⟨q0, q1, qP, va_K.moved (u := U) (U := U.calling g mk a) (Vm.Alike.refl U.vm) qK, qD, ev.same (u := U) (U := U.calling g mk a) rfl qE⟩, va_recv hKc hPc (ci := 3) (q0 := 0) rfl rfl, fun U hU hW => ⟨rfl, by rw [hU], by rw [hU]; exact hPc, va_K.moved hW.alike hKc, hDc.weaken (fun _ _ _ _ => trivial), hE.warm hW⟩⟩ rfl rfl hl.1 rfl (lv_room (Nat.le_of_ble_eq_true rfl)) dX2_takeMessage_17 ⟨Nat.le_of_ble_eq_true rfl, Nat.le_of_ble_eq_true rfl⟩) hS (fun q _ h => hFc q h) hFc (fun u t H1 locs ht hvm hw hB hz1 hk1 hS => ?_)
  clear hPc hDc hKc
  obtain ⟨fL2_1, hP1, hK1, hD1, l0_1, l1_1, l2_1, l3_1⟩ := hB
  rw [ht] at hP1
  have hK1 := va_K.moved hvm.symm hK1
  obtain ⟨hP, hD⟩ := va_join (wr := [(tr, .inr (10, [.int 0, .int (nI tso), .int (nI tg), .int (nI ts), .int (nI tp), .int (nI tw), .int (nI te), .int (nI tc), .int (nI tl), .int 0, .int tsu, .int 1, .ref mm, .ref tb]))]) (w1 := [(ib, .inr (3, [.int (nI (nc + 1)), .int 0, .ref lg, .ref lt])), (lg, .inl (cL, 80, .inl fL2_1))]) hP hD [0, 1] [2] rfl rfl (by decide +kernel) (by decide +kernel) hk1 hFc hP1 hD1
  generalize H1 = H at hP hS ⊢
  replace hP : va_P (dC, dI) vwCl [(tr, .inr (10, [.int 0, .int (nI tso), .int (nI tg), .int (nI ts), .int (nI tp), .int (nI tw), .int (nI te), .int (nI tc), .int (nI tl), .int 0, .int tsu, .int 1, .ref mm, .ref tb])), (ib, .inr (3, [.int (nI (nc + 1)), .int 0, .ref lg, .ref lt])), (lg, .inl (cL, 80, .inl fL2_1))] H := hP
  replace hD : va_D A [(tr, .inr (10, [.int 0, .int (nI tso), .int (nI tg), .int (nI ts), .int (nI tp), .int (nI tw), .int (nI te), .int (nI tc), .int (nI tl), .int 0, .int tsu, .int 1, .ref mm, .ref tb])), (ib, .inr (3, [.int (nI (nc + 1)), .int 0, .ref lg, .ref lt])), (lg, .inl (cL, 80, .inl fL2_1))] := hD
  clear hw
  refine lv_aload_n hx hb dX2_takeMessage_20 rfl (lv_at hl 1 rfl) ?_
  refine va_get (D := (dC, dI)) (ci := 10) (v := .int 1) (C := RX9) (T := TX9) (N := 14) hx hb hts in_c_takeMessage_X9 hown hK hP 0 rfl rfl 11 (by decide) (hts (.fieldLink RX2 66 "ClaimBus$Transport" "isAsSent" "Z") (List.mem_of_getElem? (i := 9) rfl)) (fun _ h9 => h9) rfl dX2_takeMessage_21 ?_
  refine lv_if_ne (tgt := 32) hx hb dX2_takeMessage_24 (by decide) (fun c_2 => ?_) (fun c_2 => ?_)
  rotate_left
  · exact absurd c_2 (by decide)
  refine lv_aload_n hx hb dX2_takeMessage_32 rfl (lv_at hl 1 rfl) ?_
  refine va_get (D := (dC, dI)) (ci := 10) (v := .int (nI tg)) (C := RX9) (T := TX9) (N := 14) hx hb hts in_c_takeMessage_X9 hown hK hP 0 rfl rfl 2 (by decide) (hts (.fieldLink RX2 58 "ClaimBus$Transport" "group" "I") (List.mem_of_getElem? (i := 2) rfl)) (fun _ h9 => h9) rfl dX2_takeMessage_33 ?_
  refine lv_ldc hx hb hown (hts (.constant RX2 45 (65226)) (List.mem_of_getElem? (i := 10) rfl)) dX2_takeMessage_36 ?_
  refine lv_icmp_ne (tgt := 52) hx hb dX2_takeMessage_38 (by decide) (fun c_3 => ?_) (fun c_3 => ?_)
  rotate_left
  · exact absurd ((nI_eq (a := tg) (b := 65226) (by omega) (by omega)).mp c_3) (by omega)
  refine lv_null hx hb dX2_takeMessage_52 ?_
  refine lv_astore_nN (lv' := [(2, .null), (0, .ref ib), (1, .ref tr)]) hx hb dX2_takeMessage_53 rfl hl (by decide) rfl (fun ls hl => ?_)
  refine lv_aload_nN hx hb dX2_takeMessage_54 rfl (lv_at hl 0 rfl) ?_
  refine lv_ifnullN (tgt := 64) hx hb dX2_takeMessage_55 (by decide) ?_
  have hP9 := hP.sub (ws' := [(ib, .inr (3, [.int (nI (nc + 1)), .int 0, .ref lg, .ref lt])), (lg, .inl (cL, 80, .inl fL2_1)), (tr, .inr (10, [.int 0, .int (nI tso), .int (nI tg), .int (nI ts), .int (nI tp), .int (nI tw), .int (nI te), .int (nI tc), .int (nI tl), .int 0, .int tsu, .int 1, .ref mm, .ref tb]))]) [1, 2, 0] rfl
  have hD9 := hD.sub (ws' := [(ib, .inr (3, [.int (nI (nc + 1)), .int 0, .ref lg, .ref lt])), (lg, .inl (cL, 80, .inl fL2_1)), (tr, .inr (10, [.int 0, .int (nI tso), .int (nI tg), .int (nI ts), .int (nI tp), .int (nI tw), .int (nI te), .int (nI tc), .int (nI tl), .int 0, .int tsu, .int 1, .ref mm, .ref tb]))]) [1, 2, 0] (by decide +kernel) rfl
  have hK9 := hK.sub (tys' := [(cL, .int)]) [0] rfl
  exact W.vret hx hb hr (fun t ht hW => ⟨⟨(), rfl, trivial, ⟨fL2_1, by rw [ht]; exact hP9, va_K.moved hW.alike hK9, hD9, l0_1, l1_1, l2_1, l3_1⟩⟩, hS.F ht⟩) hS.2.2 dX2_takeMessage_64

noncomputable def tl_c_logged_0 : List Cond := wsX20
noncomputable def v_c_logged_0 : List Cond := .code yX2_logged cX2_logged 3 (some .int) :: ([.fieldLink RX2 9 "ClaimBus$Inbox" "came" "I", .fieldLink RX2 19 "ClaimBus$Inbox" "log" "[I"] ++ tl_c_logged_0)
theorem it_c_logged_0 : ∀ w ∈ tl_c_logged_0, w ∈ v_c_logged_0 := fun w h => List.mem_cons_of_mem _ (List.mem_append_right _ h)
theorem in_c_logged_0_X2 : ∀ w ∈ wsX20, w ∈ v_c_logged_0 := fun w h => it_c_logged_0 w (h)
theorem gt_c_logged_0 : ∀ w ∈ tl_c_logged_0, goodWord w = true := gw_wsX20
theorem gw_c_logged_0 : ∀ w ∈ v_c_logged_0, goodWord w = true := List.forall_mem_cons.mpr ⟨by decide +kernel, List.forall_mem_append.mpr ⟨List.all_eq_true.mp (by decide +kernel), gt_c_logged_0⟩⟩
set_option maxHeartbeats 4000000 in
set_option maxRecDepth 100000 in
theorem c_logged_0 (l : Launch) (dC : Nat → ClassId) (dI : Nat → Nat → Nat) (ib : Nat) (nc : Nat) (lg : Nat) (lt : Nat) (cL : ClassId) (fL : Nat → Int32) (p0 : Nat) (sz : Nat) (hp0 : p0 < nc) (hnc : nc ≤ 20) : Met l yX2_logged v_c_logged_0 ({ frames := 0, cells := 0, slots := 0, locals := 0 }) (va_Pc [.ref ib, .int (nI p0), .int 0] (fun U => U.heap.size = sz ∧ va_P (dC, dI) vwCl [(ib, .inr (3, [.int (nI nc), .int 0, .ref lg, .ref lt])), (lg, .inl (cL, 80, .inl fL))] U.heap ∧ va_K (dC, dI) vwCl [(cL, .int)] U ∧ va_D (fun _ => True) [(ib, .inr (3, [.int (nI nc), .int 0, .ref lg, .ref lt])), (lg, .inl (cL, 80, .inl fL))] ∧ ev U)) (va_Qi (fun (r : Int32) (_ : Unit) => r = fL (4 * p0)) (fun (_ : Unit) (_ : State) => True) (va_A [] sz)) 0 0 (va_A [] sz) := by
  refine Met.ofW (cc := cX2_logged) (maxL := 3) (ret := (some .int)) (by decide) rfl ?_
  intro p e s m args below meth c s₁ B hml hv
  obtain ⟨rfl, hsz, hP, hK, hD0, hE⟩ := hv
  have hx := B.exec
  have hb := B.bytes
  have hr := B.returns
  have hts := atoms_spec (ws := v_c_logged_0) B.pre
  have hown : s.vm.findClass RX2 = some m.cls := findClass_of_methodNamed B.named
  have hlocks := B.notSynchronized
  subst hsz
  have hD := hD0
  generalize hAe : va_A [] s.heap.size = A
  have hA : ∀ q : Nat, s.heap.size ≤ q → A q := fun q h => by rw [← hAe]; exact Or.inr h
  have hS : va_S A s.heap s.heap [] := va_S.rf
  replace hP : va_P (dC, dI) vwCl [(ib, .inr (3, [.int (nI nc), .int 0, .ref lg, .ref lt])), (lg, .inl (cL, 80, .inl fL))] s.heap := hP
  have hl := lv_entry ([.ref ib, .int (nI p0), .int 0]) (n := 3) (Nat.le_of_ble_eq_true rfl)
  rw [lg_entry_eq]
  generalize (lg_sl ([.ref ib, .int (nI p0), .int 0]) ++ List.replicate (3 - (lg_sl ([.ref ib, .int (nI p0), .int 0])).length) Slot.unset).toArray = ls at hl ⊢
  replace hl : lv_has ls 3 [(0, .ref ib), (1, .int (nI p0)), (2, .int 0)] := hl
  obtain ⟨H, hH⟩ : ∃ z : Heap, z = s.heap := ⟨_, rfl⟩
  rw [← hH]
  replace hS : va_S A s.heap H [] := by rw [hH]; exact va_S.rf
  replace hP : va_P (dC, dI) vwCl [(ib, .inr (3, [.int (nI nc), .int 0, .ref lg, .ref lt])), (lg, .inl (cL, 80, .inl fL))] H := by rw [hH]; exact hP
  clear hH
  refine lv_iload_n hx hb dX2_logged_0 rfl (lv_at hl 1 rfl) ?_
  refine lv_if_lt (tgt := 27) hx hb dX2_logged_1 (by decide) (fun c_1 => ?_) (fun c_1 => ?_)
  · exact absurd ((nI_ltI (a := p0) (b := 0) (by omega) (by omega)).mp c_1) (by omega)
  refine lv_iload_n hx hb dX2_logged_4 rfl (lv_at hl 1 rfl) ?_
  refine lv_bipush (v := 20) hx hb dX2_logged_5 (by decide) ?_
  refine lv_icmp_ge (tgt := 27) hx hb dX2_logged_7 (by decide) (fun c_2 => ?_) (fun c_2 => ?_)
  · exact absurd ((nI_leI (a := 20) (b := p0) (by omega) (by omega)).mp c_2) (by omega)
  refine lv_iload_n hx hb dX2_logged_10 rfl (lv_at hl 1 rfl) ?_
  refine lv_aload_n hx hb dX2_logged_11 rfl (lv_at hl 0 rfl) ?_
  refine va_get (D := (dC, dI)) (ci := 3) (v := .int (nI nc)) (C := RX2) (T := TX2) (N := 4) hx hb hts in_c_logged_0_X2 hown hK hP 0 rfl rfl 0 (by decide) (hts (.fieldLink RX2 9 "ClaimBus$Inbox" "came" "I") (List.mem_of_getElem? (i := 1) rfl)) (fun _ h9 => h9) rfl dX2_logged_12 ?_
  refine lv_icmp_ge (tgt := 27) hx hb dX2_logged_15 (by decide) (fun c_3 => ?_) (fun c_3 => ?_)
  · exact absurd ((nI_leI (a := nc) (b := p0) (by omega) (by omega)).mp c_3) (by omega)
  refine lv_iload_n hx hb dX2_logged_18 rfl (lv_at hl 2 rfl) ?_
  refine lv_if_lt (tgt := 27) hx hb dX2_logged_19 (by decide) (fun c_4 => ?_) (fun c_4 => ?_)
  · exact absurd c_4 (by decide)
  refine lv_iload_n hx hb dX2_logged_22 rfl (lv_at hl 2 rfl) ?_
  refine lv_iconst (v := 4) hx hb dX2_logged_23 (by decide) ?_
  refine lv_icmp_lt (tgt := 29) hx hb dX2_logged_24 (by decide) (fun c_5 => ?_) (fun c_5 => ?_)
  rotate_left
  · exact absurd (by decide) c_5
  refine lv_aload_n hx hb dX2_logged_29 rfl (lv_at hl 0 rfl) ?_
  refine va_get (D := (dC, dI)) (ci := 3) (v := .ref lg) (C := RX2) (T := TX2) (N := 4) hx hb hts in_c_logged_0_X2 hown hK hP 0 rfl rfl 2 (by decide) (hts (.fieldLink RX2 19 "ClaimBus$Inbox" "log" "[I") (List.mem_of_getElem? (i := 2) rfl)) (fun _ h9 => h9) rfl dX2_logged_30 ?_
  refine lv_iload_n hx hb dX2_logged_33 rfl (lv_at hl 1 rfl) ?_
  refine lv_iconst (v := 4) hx hb dX2_logged_34 (by decide) ?_
  refine lv_imul hx hb dX2_logged_35 ?_
  refine lv_topi (fun x_6 ex_6 => ?_)
  obtain rfl : x_6 = (nI (4 * p0)) := ex_6.trans ((pk_mul p0 4).trans (show nI (p0 * 4) = nI (4 * p0) from congrArg nI (by omega)))
  refine lv_iload_n hx hb dX2_logged_36 rfl (lv_at hl 2 rfl) ?_
  refine lv_iadd hx hb dX2_logged_37 ?_
  refine lv_topi (fun x_7 ex_7 => ?_)
  obtain rfl : x_7 = (nI (4 * p0)) := ex_7.trans ((nI_add (4 * p0) 0).trans (show nI ((4 * p0) + 0) = nI (4 * p0) from congrArg nI (by omega)))
  refine va_iald hx hb hK hP 1 0 rfl rfl (vp_in_nI (n := (4 * p0)) (by omega) (by omega)) dX2_logged_38 ?_
  refine W.eq (g2 := F0 m 39 ls [.int (fL (4 * p0))]) (by rw [(nI_clamp (n := (4 * p0)) (by omega))]) ?_
  exact W.iret (v := (fL (4 * p0))) hx hb hr (fun t ht hW => ⟨⟨(fL (4 * p0)), (), rfl, rfl, trivial⟩, hS.F ht⟩) hS.2.2 dX2_logged_39

noncomputable def tl_c_logged_1 : List Cond := wsX20
noncomputable def v_c_logged_1 : List Cond := .code yX2_logged cX2_logged 3 (some .int) :: ([.fieldLink RX2 9 "ClaimBus$Inbox" "came" "I", .fieldLink RX2 19 "ClaimBus$Inbox" "log" "[I"] ++ tl_c_logged_1)
theorem it_c_logged_1 : ∀ w ∈ tl_c_logged_1, w ∈ v_c_logged_1 := fun w h => List.mem_cons_of_mem _ (List.mem_append_right _ h)
theorem in_c_logged_1_X2 : ∀ w ∈ wsX20, w ∈ v_c_logged_1 := fun w h => it_c_logged_1 w (h)
theorem gt_c_logged_1 : ∀ w ∈ tl_c_logged_1, goodWord w = true := gw_wsX20
theorem gw_c_logged_1 : ∀ w ∈ v_c_logged_1, goodWord w = true := List.forall_mem_cons.mpr ⟨by decide +kernel, List.forall_mem_append.mpr ⟨List.all_eq_true.mp (by decide +kernel), gt_c_logged_1⟩⟩
set_option maxHeartbeats 4000000 in
set_option maxRecDepth 100000 in
theorem c_logged_1 (l : Launch) (dC : Nat → ClassId) (dI : Nat → Nat → Nat) (ib : Nat) (nc : Nat) (lg : Nat) (lt : Nat) (cL : ClassId) (fL : Nat → Int32) (p0 : Nat) (sz : Nat) (hp0 : p0 < nc) (hnc : nc ≤ 20) : Met l yX2_logged v_c_logged_1 ({ frames := 0, cells := 0, slots := 0, locals := 0 }) (va_Pc [.ref ib, .int (nI p0), .int 1] (fun U => U.heap.size = sz ∧ va_P (dC, dI) vwCl [(ib, .inr (3, [.int (nI nc), .int 0, .ref lg, .ref lt])), (lg, .inl (cL, 80, .inl fL))] U.heap ∧ va_K (dC, dI) vwCl [(cL, .int)] U ∧ va_D (fun _ => True) [(ib, .inr (3, [.int (nI nc), .int 0, .ref lg, .ref lt])), (lg, .inl (cL, 80, .inl fL))] ∧ ev U)) (va_Qi (fun (r : Int32) (_ : Unit) => r = fL (4 * p0 + 1)) (fun (_ : Unit) (_ : State) => True) (va_A [] sz)) 0 0 (va_A [] sz) := by
  refine Met.ofW (cc := cX2_logged) (maxL := 3) (ret := (some .int)) (by decide) rfl ?_
  intro p e s m args below meth c s₁ B hml hv
  obtain ⟨rfl, hsz, hP, hK, hD0, hE⟩ := hv
  have hx := B.exec
  have hb := B.bytes
  have hr := B.returns
  have hts := atoms_spec (ws := v_c_logged_1) B.pre
  have hown : s.vm.findClass RX2 = some m.cls := findClass_of_methodNamed B.named
  have hlocks := B.notSynchronized
  subst hsz
  have hD := hD0
  generalize hAe : va_A [] s.heap.size = A
  have hA : ∀ q : Nat, s.heap.size ≤ q → A q := fun q h => by rw [← hAe]; exact Or.inr h
  have hS : va_S A s.heap s.heap [] := va_S.rf
  replace hP : va_P (dC, dI) vwCl [(ib, .inr (3, [.int (nI nc), .int 0, .ref lg, .ref lt])), (lg, .inl (cL, 80, .inl fL))] s.heap := hP
  have hl := lv_entry ([.ref ib, .int (nI p0), .int 1]) (n := 3) (Nat.le_of_ble_eq_true rfl)
  rw [lg_entry_eq]
  generalize (lg_sl ([.ref ib, .int (nI p0), .int 1]) ++ List.replicate (3 - (lg_sl ([.ref ib, .int (nI p0), .int 1])).length) Slot.unset).toArray = ls at hl ⊢
  replace hl : lv_has ls 3 [(0, .ref ib), (1, .int (nI p0)), (2, .int 1)] := hl
  obtain ⟨H, hH⟩ : ∃ z : Heap, z = s.heap := ⟨_, rfl⟩
  rw [← hH]
  replace hS : va_S A s.heap H [] := by rw [hH]; exact va_S.rf
  replace hP : va_P (dC, dI) vwCl [(ib, .inr (3, [.int (nI nc), .int 0, .ref lg, .ref lt])), (lg, .inl (cL, 80, .inl fL))] H := by rw [hH]; exact hP
  clear hH
  refine lv_iload_n hx hb dX2_logged_0 rfl (lv_at hl 1 rfl) ?_
  refine lv_if_lt (tgt := 27) hx hb dX2_logged_1 (by decide) (fun c_1 => ?_) (fun c_1 => ?_)
  · exact absurd ((nI_ltI (a := p0) (b := 0) (by omega) (by omega)).mp c_1) (by omega)
  refine lv_iload_n hx hb dX2_logged_4 rfl (lv_at hl 1 rfl) ?_
  refine lv_bipush (v := 20) hx hb dX2_logged_5 (by decide) ?_
  refine lv_icmp_ge (tgt := 27) hx hb dX2_logged_7 (by decide) (fun c_2 => ?_) (fun c_2 => ?_)
  · exact absurd ((nI_leI (a := 20) (b := p0) (by omega) (by omega)).mp c_2) (by omega)
  refine lv_iload_n hx hb dX2_logged_10 rfl (lv_at hl 1 rfl) ?_
  refine lv_aload_n hx hb dX2_logged_11 rfl (lv_at hl 0 rfl) ?_
  refine va_get (D := (dC, dI)) (ci := 3) (v := .int (nI nc)) (C := RX2) (T := TX2) (N := 4) hx hb hts in_c_logged_1_X2 hown hK hP 0 rfl rfl 0 (by decide) (hts (.fieldLink RX2 9 "ClaimBus$Inbox" "came" "I") (List.mem_of_getElem? (i := 1) rfl)) (fun _ h9 => h9) rfl dX2_logged_12 ?_
  refine lv_icmp_ge (tgt := 27) hx hb dX2_logged_15 (by decide) (fun c_3 => ?_) (fun c_3 => ?_)
  · exact absurd ((nI_leI (a := nc) (b := p0) (by omega) (by omega)).mp c_3) (by omega)
  refine lv_iload_n hx hb dX2_logged_18 rfl (lv_at hl 2 rfl) ?_
  refine lv_if_lt (tgt := 27) hx hb dX2_logged_19 (by decide) (fun c_4 => ?_) (fun c_4 => ?_)
  · exact absurd c_4 (by decide)
  refine lv_iload_n hx hb dX2_logged_22 rfl (lv_at hl 2 rfl) ?_
  refine lv_iconst (v := 4) hx hb dX2_logged_23 (by decide) ?_
  refine lv_icmp_lt (tgt := 29) hx hb dX2_logged_24 (by decide) (fun c_5 => ?_) (fun c_5 => ?_)
  rotate_left
  · exact absurd (by decide) c_5
  refine lv_aload_n hx hb dX2_logged_29 rfl (lv_at hl 0 rfl) ?_
  refine va_get (D := (dC, dI)) (ci := 3) (v := .ref lg) (C := RX2) (T := TX2) (N := 4) hx hb hts in_c_logged_1_X2 hown hK hP 0 rfl rfl 2 (by decide) (hts (.fieldLink RX2 19 "ClaimBus$Inbox" "log" "[I") (List.mem_of_getElem? (i := 2) rfl)) (fun _ h9 => h9) rfl dX2_logged_30 ?_
  refine lv_iload_n hx hb dX2_logged_33 rfl (lv_at hl 1 rfl) ?_
  refine lv_iconst (v := 4) hx hb dX2_logged_34 (by decide) ?_
  refine lv_imul hx hb dX2_logged_35 ?_
  refine lv_topi (fun x_6 ex_6 => ?_)
  obtain rfl : x_6 = (nI (4 * p0)) := ex_6.trans ((pk_mul p0 4).trans (show nI (p0 * 4) = nI (4 * p0) from congrArg nI (by omega)))
  refine lv_iload_n hx hb dX2_logged_36 rfl (lv_at hl 2 rfl) ?_
  refine lv_iadd hx hb dX2_logged_37 ?_
  refine lv_topi (fun x_7 ex_7 => ?_)
  obtain rfl : x_7 = (nI (4 * p0 + 1)) := ex_7.trans ((nI_add (4 * p0) 1).trans (show nI ((4 * p0) + 1) = nI (4 * p0 + 1) from congrArg nI (by omega)))
  refine va_iald hx hb hK hP 1 0 rfl rfl (vp_in_nI (n := (4 * p0 + 1)) (by omega) (by omega)) dX2_logged_38 ?_
  refine W.eq (g2 := F0 m 39 ls [.int (fL (4 * p0 + 1))]) (by rw [(nI_clamp (n := (4 * p0 + 1)) (by omega))]) ?_
  exact W.iret (v := (fL (4 * p0 + 1))) hx hb hr (fun t ht hW => ⟨⟨(fL (4 * p0 + 1)), (), rfl, rfl, trivial⟩, hS.F ht⟩) hS.2.2 dX2_logged_39

noncomputable def tl_c_logged_2 : List Cond := wsX20
noncomputable def v_c_logged_2 : List Cond := .code yX2_logged cX2_logged 3 (some .int) :: ([.fieldLink RX2 9 "ClaimBus$Inbox" "came" "I", .fieldLink RX2 19 "ClaimBus$Inbox" "log" "[I"] ++ tl_c_logged_2)
theorem it_c_logged_2 : ∀ w ∈ tl_c_logged_2, w ∈ v_c_logged_2 := fun w h => List.mem_cons_of_mem _ (List.mem_append_right _ h)
theorem in_c_logged_2_X2 : ∀ w ∈ wsX20, w ∈ v_c_logged_2 := fun w h => it_c_logged_2 w (h)
theorem gt_c_logged_2 : ∀ w ∈ tl_c_logged_2, goodWord w = true := gw_wsX20
theorem gw_c_logged_2 : ∀ w ∈ v_c_logged_2, goodWord w = true := List.forall_mem_cons.mpr ⟨by decide +kernel, List.forall_mem_append.mpr ⟨List.all_eq_true.mp (by decide +kernel), gt_c_logged_2⟩⟩
set_option maxHeartbeats 4000000 in
set_option maxRecDepth 100000 in
theorem c_logged_2 (l : Launch) (dC : Nat → ClassId) (dI : Nat → Nat → Nat) (ib : Nat) (nc : Nat) (lg : Nat) (lt : Nat) (cL : ClassId) (fL : Nat → Int32) (p0 : Nat) (sz : Nat) (hp0 : p0 < nc) (hnc : nc ≤ 20) : Met l yX2_logged v_c_logged_2 ({ frames := 0, cells := 0, slots := 0, locals := 0 }) (va_Pc [.ref ib, .int (nI p0), .int 2] (fun U => U.heap.size = sz ∧ va_P (dC, dI) vwCl [(ib, .inr (3, [.int (nI nc), .int 0, .ref lg, .ref lt])), (lg, .inl (cL, 80, .inl fL))] U.heap ∧ va_K (dC, dI) vwCl [(cL, .int)] U ∧ va_D (fun _ => True) [(ib, .inr (3, [.int (nI nc), .int 0, .ref lg, .ref lt])), (lg, .inl (cL, 80, .inl fL))] ∧ ev U)) (va_Qi (fun (r : Int32) (_ : Unit) => r = fL (4 * p0 + 2)) (fun (_ : Unit) (_ : State) => True) (va_A [] sz)) 0 0 (va_A [] sz) := by
  refine Met.ofW (cc := cX2_logged) (maxL := 3) (ret := (some .int)) (by decide) rfl ?_
  intro p e s m args below meth c s₁ B hml hv
  obtain ⟨rfl, hsz, hP, hK, hD0, hE⟩ := hv
  have hx := B.exec
  have hb := B.bytes
  have hr := B.returns
  have hts := atoms_spec (ws := v_c_logged_2) B.pre
  have hown : s.vm.findClass RX2 = some m.cls := findClass_of_methodNamed B.named
  have hlocks := B.notSynchronized
  subst hsz
  have hD := hD0
  generalize hAe : va_A [] s.heap.size = A
  have hA : ∀ q : Nat, s.heap.size ≤ q → A q := fun q h => by rw [← hAe]; exact Or.inr h
  have hS : va_S A s.heap s.heap [] := va_S.rf
  replace hP : va_P (dC, dI) vwCl [(ib, .inr (3, [.int (nI nc), .int 0, .ref lg, .ref lt])), (lg, .inl (cL, 80, .inl fL))] s.heap := hP
  have hl := lv_entry ([.ref ib, .int (nI p0), .int 2]) (n := 3) (Nat.le_of_ble_eq_true rfl)
  rw [lg_entry_eq]
  generalize (lg_sl ([.ref ib, .int (nI p0), .int 2]) ++ List.replicate (3 - (lg_sl ([.ref ib, .int (nI p0), .int 2])).length) Slot.unset).toArray = ls at hl ⊢
  replace hl : lv_has ls 3 [(0, .ref ib), (1, .int (nI p0)), (2, .int 2)] := hl
  obtain ⟨H, hH⟩ : ∃ z : Heap, z = s.heap := ⟨_, rfl⟩
  rw [← hH]
  replace hS : va_S A s.heap H [] := by rw [hH]; exact va_S.rf
  replace hP : va_P (dC, dI) vwCl [(ib, .inr (3, [.int (nI nc), .int 0, .ref lg, .ref lt])), (lg, .inl (cL, 80, .inl fL))] H := by rw [hH]; exact hP
  clear hH
  refine lv_iload_n hx hb dX2_logged_0 rfl (lv_at hl 1 rfl) ?_
  refine lv_if_lt (tgt := 27) hx hb dX2_logged_1 (by decide) (fun c_1 => ?_) (fun c_1 => ?_)
  · exact absurd ((nI_ltI (a := p0) (b := 0) (by omega) (by omega)).mp c_1) (by omega)
  refine lv_iload_n hx hb dX2_logged_4 rfl (lv_at hl 1 rfl) ?_
  refine lv_bipush (v := 20) hx hb dX2_logged_5 (by decide) ?_
  refine lv_icmp_ge (tgt := 27) hx hb dX2_logged_7 (by decide) (fun c_2 => ?_) (fun c_2 => ?_)
  · exact absurd ((nI_leI (a := 20) (b := p0) (by omega) (by omega)).mp c_2) (by omega)
  refine lv_iload_n hx hb dX2_logged_10 rfl (lv_at hl 1 rfl) ?_
  refine lv_aload_n hx hb dX2_logged_11 rfl (lv_at hl 0 rfl) ?_
  refine va_get (D := (dC, dI)) (ci := 3) (v := .int (nI nc)) (C := RX2) (T := TX2) (N := 4) hx hb hts in_c_logged_2_X2 hown hK hP 0 rfl rfl 0 (by decide) (hts (.fieldLink RX2 9 "ClaimBus$Inbox" "came" "I") (List.mem_of_getElem? (i := 1) rfl)) (fun _ h9 => h9) rfl dX2_logged_12 ?_
  refine lv_icmp_ge (tgt := 27) hx hb dX2_logged_15 (by decide) (fun c_3 => ?_) (fun c_3 => ?_)
  · exact absurd ((nI_leI (a := nc) (b := p0) (by omega) (by omega)).mp c_3) (by omega)
  refine lv_iload_n hx hb dX2_logged_18 rfl (lv_at hl 2 rfl) ?_
  refine lv_if_lt (tgt := 27) hx hb dX2_logged_19 (by decide) (fun c_4 => ?_) (fun c_4 => ?_)
  · exact absurd c_4 (by decide)
  refine lv_iload_n hx hb dX2_logged_22 rfl (lv_at hl 2 rfl) ?_
  refine lv_iconst (v := 4) hx hb dX2_logged_23 (by decide) ?_
  refine lv_icmp_lt (tgt := 29) hx hb dX2_logged_24 (by decide) (fun c_5 => ?_) (fun c_5 => ?_)
  rotate_left
  · exact absurd (by decide) c_5
  refine lv_aload_n hx hb dX2_logged_29 rfl (lv_at hl 0 rfl) ?_
  refine va_get (D := (dC, dI)) (ci := 3) (v := .ref lg) (C := RX2) (T := TX2) (N := 4) hx hb hts in_c_logged_2_X2 hown hK hP 0 rfl rfl 2 (by decide) (hts (.fieldLink RX2 19 "ClaimBus$Inbox" "log" "[I") (List.mem_of_getElem? (i := 2) rfl)) (fun _ h9 => h9) rfl dX2_logged_30 ?_
  refine lv_iload_n hx hb dX2_logged_33 rfl (lv_at hl 1 rfl) ?_
  refine lv_iconst (v := 4) hx hb dX2_logged_34 (by decide) ?_
  refine lv_imul hx hb dX2_logged_35 ?_
  refine lv_topi (fun x_6 ex_6 => ?_)
  obtain rfl : x_6 = (nI (4 * p0)) := ex_6.trans ((pk_mul p0 4).trans (show nI (p0 * 4) = nI (4 * p0) from congrArg nI (by omega)))
  refine lv_iload_n hx hb dX2_logged_36 rfl (lv_at hl 2 rfl) ?_
  refine lv_iadd hx hb dX2_logged_37 ?_
  refine lv_topi (fun x_7 ex_7 => ?_)
  obtain rfl : x_7 = (nI (4 * p0 + 2)) := ex_7.trans ((nI_add (4 * p0) 2).trans (show nI ((4 * p0) + 2) = nI (4 * p0 + 2) from congrArg nI (by omega)))
  refine va_iald hx hb hK hP 1 0 rfl rfl (vp_in_nI (n := (4 * p0 + 2)) (by omega) (by omega)) dX2_logged_38 ?_
  refine W.eq (g2 := F0 m 39 ls [.int (fL (4 * p0 + 2))]) (by rw [(nI_clamp (n := (4 * p0 + 2)) (by omega))]) ?_
  exact W.iret (v := (fL (4 * p0 + 2))) hx hb hr (fun t ht hW => ⟨⟨(fL (4 * p0 + 2)), (), rfl, rfl, trivial⟩, hS.F ht⟩) hS.2.2 dX2_logged_39

noncomputable def tl_c_logged_3 : List Cond := wsX20
noncomputable def v_c_logged_3 : List Cond := .code yX2_logged cX2_logged 3 (some .int) :: ([.fieldLink RX2 9 "ClaimBus$Inbox" "came" "I", .fieldLink RX2 19 "ClaimBus$Inbox" "log" "[I"] ++ tl_c_logged_3)
theorem it_c_logged_3 : ∀ w ∈ tl_c_logged_3, w ∈ v_c_logged_3 := fun w h => List.mem_cons_of_mem _ (List.mem_append_right _ h)
theorem in_c_logged_3_X2 : ∀ w ∈ wsX20, w ∈ v_c_logged_3 := fun w h => it_c_logged_3 w (h)
theorem gt_c_logged_3 : ∀ w ∈ tl_c_logged_3, goodWord w = true := gw_wsX20
theorem gw_c_logged_3 : ∀ w ∈ v_c_logged_3, goodWord w = true := List.forall_mem_cons.mpr ⟨by decide +kernel, List.forall_mem_append.mpr ⟨List.all_eq_true.mp (by decide +kernel), gt_c_logged_3⟩⟩
set_option maxHeartbeats 4000000 in
set_option maxRecDepth 100000 in
theorem c_logged_3 (l : Launch) (dC : Nat → ClassId) (dI : Nat → Nat → Nat) (ib : Nat) (nc : Nat) (lg : Nat) (lt : Nat) (cL : ClassId) (fL : Nat → Int32) (p0 : Nat) (sz : Nat) (hp0 : p0 < nc) (hnc : nc ≤ 20) : Met l yX2_logged v_c_logged_3 ({ frames := 0, cells := 0, slots := 0, locals := 0 }) (va_Pc [.ref ib, .int (nI p0), .int 3] (fun U => U.heap.size = sz ∧ va_P (dC, dI) vwCl [(ib, .inr (3, [.int (nI nc), .int 0, .ref lg, .ref lt])), (lg, .inl (cL, 80, .inl fL))] U.heap ∧ va_K (dC, dI) vwCl [(cL, .int)] U ∧ va_D (fun _ => True) [(ib, .inr (3, [.int (nI nc), .int 0, .ref lg, .ref lt])), (lg, .inl (cL, 80, .inl fL))] ∧ ev U)) (va_Qi (fun (r : Int32) (_ : Unit) => r = fL (4 * p0 + 3)) (fun (_ : Unit) (_ : State) => True) (va_A [] sz)) 0 0 (va_A [] sz) := by
  refine Met.ofW (cc := cX2_logged) (maxL := 3) (ret := (some .int)) (by decide) rfl ?_
  intro p e s m args below meth c s₁ B hml hv
  obtain ⟨rfl, hsz, hP, hK, hD0, hE⟩ := hv
  have hx := B.exec
  have hb := B.bytes
  have hr := B.returns
  have hts := atoms_spec (ws := v_c_logged_3) B.pre
  have hown : s.vm.findClass RX2 = some m.cls := findClass_of_methodNamed B.named
  have hlocks := B.notSynchronized
  subst hsz
  have hD := hD0
  generalize hAe : va_A [] s.heap.size = A
  have hA : ∀ q : Nat, s.heap.size ≤ q → A q := fun q h => by rw [← hAe]; exact Or.inr h
  have hS : va_S A s.heap s.heap [] := va_S.rf
  replace hP : va_P (dC, dI) vwCl [(ib, .inr (3, [.int (nI nc), .int 0, .ref lg, .ref lt])), (lg, .inl (cL, 80, .inl fL))] s.heap := hP
  have hl := lv_entry ([.ref ib, .int (nI p0), .int 3]) (n := 3) (Nat.le_of_ble_eq_true rfl)
  rw [lg_entry_eq]
  generalize (lg_sl ([.ref ib, .int (nI p0), .int 3]) ++ List.replicate (3 - (lg_sl ([.ref ib, .int (nI p0), .int 3])).length) Slot.unset).toArray = ls at hl ⊢
  replace hl : lv_has ls 3 [(0, .ref ib), (1, .int (nI p0)), (2, .int 3)] := hl
  obtain ⟨H, hH⟩ : ∃ z : Heap, z = s.heap := ⟨_, rfl⟩
  rw [← hH]
  replace hS : va_S A s.heap H [] := by rw [hH]; exact va_S.rf
  replace hP : va_P (dC, dI) vwCl [(ib, .inr (3, [.int (nI nc), .int 0, .ref lg, .ref lt])), (lg, .inl (cL, 80, .inl fL))] H := by rw [hH]; exact hP
  clear hH
  refine lv_iload_n hx hb dX2_logged_0 rfl (lv_at hl 1 rfl) ?_
  refine lv_if_lt (tgt := 27) hx hb dX2_logged_1 (by decide) (fun c_1 => ?_) (fun c_1 => ?_)
  · exact absurd ((nI_ltI (a := p0) (b := 0) (by omega) (by omega)).mp c_1) (by omega)
  refine lv_iload_n hx hb dX2_logged_4 rfl (lv_at hl 1 rfl) ?_
  refine lv_bipush (v := 20) hx hb dX2_logged_5 (by decide) ?_
  refine lv_icmp_ge (tgt := 27) hx hb dX2_logged_7 (by decide) (fun c_2 => ?_) (fun c_2 => ?_)
  · exact absurd ((nI_leI (a := 20) (b := p0) (by omega) (by omega)).mp c_2) (by omega)
  refine lv_iload_n hx hb dX2_logged_10 rfl (lv_at hl 1 rfl) ?_
  refine lv_aload_n hx hb dX2_logged_11 rfl (lv_at hl 0 rfl) ?_
  refine va_get (D := (dC, dI)) (ci := 3) (v := .int (nI nc)) (C := RX2) (T := TX2) (N := 4) hx hb hts in_c_logged_3_X2 hown hK hP 0 rfl rfl 0 (by decide) (hts (.fieldLink RX2 9 "ClaimBus$Inbox" "came" "I") (List.mem_of_getElem? (i := 1) rfl)) (fun _ h9 => h9) rfl dX2_logged_12 ?_
  refine lv_icmp_ge (tgt := 27) hx hb dX2_logged_15 (by decide) (fun c_3 => ?_) (fun c_3 => ?_)
  · exact absurd ((nI_leI (a := nc) (b := p0) (by omega) (by omega)).mp c_3) (by omega)
  refine lv_iload_n hx hb dX2_logged_18 rfl (lv_at hl 2 rfl) ?_
  refine lv_if_lt (tgt := 27) hx hb dX2_logged_19 (by decide) (fun c_4 => ?_) (fun c_4 => ?_)
  · exact absurd c_4 (by decide)
  refine lv_iload_n hx hb dX2_logged_22 rfl (lv_at hl 2 rfl) ?_
  refine lv_iconst (v := 4) hx hb dX2_logged_23 (by decide) ?_
  refine lv_icmp_lt (tgt := 29) hx hb dX2_logged_24 (by decide) (fun c_5 => ?_) (fun c_5 => ?_)
  rotate_left
  · exact absurd (by decide) c_5
  refine lv_aload_n hx hb dX2_logged_29 rfl (lv_at hl 0 rfl) ?_
  refine va_get (D := (dC, dI)) (ci := 3) (v := .ref lg) (C := RX2) (T := TX2) (N := 4) hx hb hts in_c_logged_3_X2 hown hK hP 0 rfl rfl 2 (by decide) (hts (.fieldLink RX2 19 "ClaimBus$Inbox" "log" "[I") (List.mem_of_getElem? (i := 2) rfl)) (fun _ h9 => h9) rfl dX2_logged_30 ?_
  refine lv_iload_n hx hb dX2_logged_33 rfl (lv_at hl 1 rfl) ?_
  refine lv_iconst (v := 4) hx hb dX2_logged_34 (by decide) ?_
  refine lv_imul hx hb dX2_logged_35 ?_
  refine lv_topi (fun x_6 ex_6 => ?_)
  obtain rfl : x_6 = (nI (4 * p0)) := ex_6.trans ((pk_mul p0 4).trans (show nI (p0 * 4) = nI (4 * p0) from congrArg nI (by omega)))
  refine lv_iload_n hx hb dX2_logged_36 rfl (lv_at hl 2 rfl) ?_
  refine lv_iadd hx hb dX2_logged_37 ?_
  refine lv_topi (fun x_7 ex_7 => ?_)
  obtain rfl : x_7 = (nI (4 * p0 + 3)) := ex_7.trans ((nI_add (4 * p0) 3).trans (show nI ((4 * p0) + 3) = nI (4 * p0 + 3) from congrArg nI (by omega)))
  refine va_iald hx hb hK hP 1 0 rfl rfl (vp_in_nI (n := (4 * p0 + 3)) (by omega) (by omega)) dX2_logged_38 ?_
  refine W.eq (g2 := F0 m 39 ls [.int (fL (4 * p0 + 3))]) (by rw [(nI_clamp (n := (4 * p0 + 3)) (by omega))]) ?_
  exact W.iret (v := (fL (4 * p0 + 3))) hx hb hr (fun t ht hW => ⟨⟨(fL (4 * p0 + 3)), (), rfl, rfl, trivial⟩, hS.F ht⟩) hS.2.2 dX2_logged_39
