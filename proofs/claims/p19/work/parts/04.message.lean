noncomputable def v_c_X10_packN : List Cond := .code yX10_pack cX10_pack 4 (some .int) :: ([])
theorem gw_c_X10_packN : ∀ w ∈ v_c_X10_packN, goodWord w = true := List.forall_mem_cons.mpr ⟨by decide +kernel, List.all_eq_true.mp (by decide +kernel)⟩
set_option maxHeartbeats 4000000 in
set_option maxRecDepth 100000 in
theorem c_X10_packN (l : Launch) (dC : Nat → ClassId) (dI : Nat → Nat → Nat) (p0 : Nat) (p1 : Nat) (p2 : Nat) (p3 : Nat) (sz : Nat) (hp0 : p0 < 65536) (hp1 : p1 < 65536) (hp2 : p2 < 65536) (hp3 : p3 < 256) : Met l yX10_pack v_c_X10_packN ({ frames := 0, cells := 0, slots := 0, locals := 0 }) (va_Pc [.int (nI p0), .int (nI p1), .int (nI p2), .int (nI p3)] (fun U => U.heap.size = sz ∧ va_P (dC, dI) vwCl [] U.heap ∧ va_K (dC, dI) vwCl [] U ∧ va_D (fun _ => True) [] ∧ ev U)) (va_Qi (fun (r : Int32) (_ : Unit) => r = (nI (p0 % 256 + 256 * (p1 % 256) + 65536 * (p2 % 256) + 16777216 * p3))) (fun (_ : Unit) (_ : State) => True) (va_A [] sz)) 0 0 (va_A [] sz) := by
  refine Met.ofW (cc := cX10_pack) (maxL := 4) (ret := (some .int)) (by decide) rfl ?_
  intro p e s m args below meth c s₁ B hml hv
  obtain ⟨rfl, hsz, hP, hK, hD0, hE⟩ := hv
  have hx := B.exec
  have hb := B.bytes
  have hr := B.returns
  have hts := atoms_spec (ws := v_c_X10_packN) B.pre
  have hown : s.vm.findClass RX10 = some m.cls := findClass_of_methodNamed B.named
  have hlocks := B.notSynchronized
  subst hsz
  have hD := hD0
  generalize hAe : va_A [] s.heap.size = A
  have hA : ∀ q : Nat, s.heap.size ≤ q → A q := fun q h => by rw [← hAe]; exact Or.inr h
  have hS : va_S A s.heap s.heap [] := va_S.rf
  replace hP : va_P (dC, dI) vwCl [] s.heap := hP
  have hl := lv_entry ([.int (nI p0), .int (nI p1), .int (nI p2), .int (nI p3)]) (n := 4) (Nat.le_of_ble_eq_true rfl)
  rw [lg_entry_eq]
  generalize (lg_sl ([.int (nI p0), .int (nI p1), .int (nI p2), .int (nI p3)]) ++ List.replicate (4 - (lg_sl ([.int (nI p0), .int (nI p1), .int (nI p2), .int (nI p3)])).length) Slot.unset).toArray = ls at hl ⊢
  replace hl : lv_has ls 4 [(0, .int (nI p0)), (1, .int (nI p1)), (2, .int (nI p2)), (3, .int (nI p3))] := hl
  obtain ⟨H, hH⟩ : ∃ z : Heap, z = s.heap := ⟨_, rfl⟩
  rw [← hH]
  replace hS : va_S A s.heap H [] := by rw [hH]; exact va_S.rf
  replace hP : va_P (dC, dI) vwCl [] H := by rw [hH]; exact hP
  clear hH
  refine lv_iload_n hx hb dX10_pack_0 rfl (lv_at hl 0 rfl) ?_
  refine lv_sipush (v := 255) hx hb dX10_pack_1 (by decide) ?_
  refine lv_iand hx hb dX10_pack_4 ?_
  refine lv_topi (fun x_1 ex_1 => ?_)
  obtain rfl : x_1 = (nI (((p0) % 256))) := ex_1.trans ((pk_andN (n := p0) (m := 255) (by omega) 8 (by decide)).trans (show nI (p0 % 2 ^ 8) = nI (((p0) % 256)) from congrArg nI (by omega)))
  refine lv_iload_n hx hb dX10_pack_5 rfl (lv_at hl 1 rfl) ?_
  refine lv_sipush (v := 255) hx hb dX10_pack_6 (by decide) ?_
  refine lv_iand hx hb dX10_pack_9 ?_
  refine lv_topi (fun x_2 ex_2 => ?_)
  obtain rfl : x_2 = (nI (((p1) % 256))) := ex_2.trans ((pk_andN (n := p1) (m := 255) (by omega) 8 (by decide)).trans (show nI (p1 % 2 ^ 8) = nI (((p1) % 256)) from congrArg nI (by omega)))
  refine lv_bipush (v := 8) hx hb dX10_pack_10 (by decide) ?_
  refine lv_ishl hx hb dX10_pack_12 ?_
  refine lv_topi (fun x_3 ex_3 => ?_)
  obtain rfl : x_3 = (nI (256 * ((p1) % 256))) := ex_3.trans ((pk_shlN (n := (((p1) % 256))) ((8 : Int32) &&& 31) 8 (by decide) (by omega)).trans (show nI ((((p1) % 256)) * 2 ^ 8) = nI (256 * ((p1) % 256)) from congrArg nI (by omega)))
  refine lv_ior hx hb dX10_pack_13 ?_
  refine lv_topi (fun x_4 ex_4 => ?_)
  obtain rfl : x_4 = (nI (((p0) % 256) + 256 * ((p1) % 256))) := ex_4.trans ((q_or' (((p0) % 256)) (256 * ((p1) % 256)) 8 (by omega) (by omega) (by omega)).trans (show nI ((((p0) % 256)) + (256 * ((p1) % 256))) = nI (((p0) % 256) + 256 * ((p1) % 256)) from congrArg nI (by omega)))
  refine lv_iload_n hx hb dX10_pack_14 rfl (lv_at hl 2 rfl) ?_
  refine lv_sipush (v := 255) hx hb dX10_pack_15 (by decide) ?_
  refine lv_iand hx hb dX10_pack_18 ?_
  refine lv_topi (fun x_5 ex_5 => ?_)
  obtain rfl : x_5 = (nI (((p2) % 256))) := ex_5.trans ((pk_andN (n := p2) (m := 255) (by omega) 8 (by decide)).trans (show nI (p2 % 2 ^ 8) = nI (((p2) % 256)) from congrArg nI (by omega)))
  refine lv_bipush (v := 16) hx hb dX10_pack_19 (by decide) ?_
  refine lv_ishl hx hb dX10_pack_21 ?_
  refine lv_topi (fun x_6 ex_6 => ?_)
  obtain rfl : x_6 = (nI (65536 * ((p2) % 256))) := ex_6.trans ((pk_shlN (n := (((p2) % 256))) ((16 : Int32) &&& 31) 16 (by decide) (by omega)).trans (show nI ((((p2) % 256)) * 2 ^ 16) = nI (65536 * ((p2) % 256)) from congrArg nI (by omega)))
  refine lv_ior hx hb dX10_pack_22 ?_
  refine lv_topi (fun x_7 ex_7 => ?_)
  obtain rfl : x_7 = (nI (((p0) % 256) + 256 * ((p1) % 256) + 65536 * ((p2) % 256))) := ex_7.trans ((q_or' (((p0) % 256) + 256 * ((p1) % 256)) (65536 * ((p2) % 256)) 16 (by omega) (by omega) (by omega)).trans (show nI ((((p0) % 256) + 256 * ((p1) % 256)) + (65536 * ((p2) % 256))) = nI (((p0) % 256) + 256 * ((p1) % 256) + 65536 * ((p2) % 256)) from congrArg nI (by omega)))
  refine lv_iload_n hx hb dX10_pack_23 rfl (lv_at hl 3 rfl) ?_
  refine lv_bipush (v := 24) hx hb dX10_pack_24 (by decide) ?_
  refine lv_ishl hx hb dX10_pack_26 ?_
  refine lv_topi (fun x_8 ex_8 => ?_)
  obtain rfl : x_8 = (nI (16777216 * p3)) := ex_8.trans ((pk_shlN (n := p3) ((24 : Int32) &&& 31) 24 (by decide) (by omega)).trans (show nI (p3 * 2 ^ 24) = nI (16777216 * p3) from congrArg nI (by omega)))
  refine lv_ior hx hb dX10_pack_27 ?_
  refine lv_topi (fun x_9 ex_9 => ?_)
  obtain rfl : x_9 = (nI (((p0) % 256) + 256 * ((p1) % 256) + 65536 * ((p2) % 256) + 16777216 * p3)) := ex_9.trans ((q_or' (((p0) % 256) + 256 * ((p1) % 256) + 65536 * ((p2) % 256)) (16777216 * p3) 24 (by omega) (by omega) (by omega)).trans (show nI ((((p0) % 256) + 256 * ((p1) % 256) + 65536 * ((p2) % 256)) + (16777216 * p3)) = nI (((p0) % 256) + 256 * ((p1) % 256) + 65536 * ((p2) % 256) + 16777216 * p3) from congrArg nI (by omega)))
  exact W.iret (v := (nI (((p0) % 256) + 256 * ((p1) % 256) + 65536 * ((p2) % 256) + 16777216 * p3))) hx hb hr (fun t ht hW => ⟨⟨(nI (((p0) % 256) + 256 * ((p1) % 256) + 65536 * ((p2) % 256) + 16777216 * p3)), (), rfl, congrArg nI (show (((p0) % 256) + 256 * ((p1) % 256) + 65536 * ((p2) % 256) + 16777216 * p3) = (p0 % 256 + 256 * (p1 % 256) + 65536 * (p2 % 256) + 16777216 * p3) from by omega), trivial⟩, hS.F ht⟩) hS.2.2 dX10_pack_28

noncomputable def v_c_X10_pack : List Cond := .code yX10_pack cX10_pack 4 (some .int) :: ([])
theorem gw_c_X10_pack : ∀ w ∈ v_c_X10_pack, goodWord w = true := List.forall_mem_cons.mpr ⟨by decide +kernel, List.all_eq_true.mp (by decide +kernel)⟩
set_option maxHeartbeats 4000000 in
set_option maxRecDepth 100000 in
theorem c_X10_pack (l : Launch) (dC : Nat → ClassId) (dI : Nat → Nat → Nat) (p0 : Int32) (p1 : Int32) (p2 : Int32) (p3 : Int32) (sz : Nat)  : Met l yX10_pack v_c_X10_pack ({ frames := 0, cells := 0, slots := 0, locals := 0 }) (va_Pc [.int p0, .int p1, .int p2, .int p3] (fun U => U.heap.size = sz ∧ va_P (dC, dI) vwCl [] U.heap ∧ va_K (dC, dI) vwCl [] U ∧ va_D (fun _ => True) [] ∧ ev U)) (va_Qi (fun (r : Int32) (_ : Unit) => r = pk p0 p1 p2 p3) (fun (_ : Unit) (_ : State) => True) (va_A [] sz)) 0 0 (va_A [] sz) := by
  refine Met.ofW (cc := cX10_pack) (maxL := 4) (ret := (some .int)) (by decide) rfl ?_
  intro p e s m args below meth c s₁ B hml hv
  obtain ⟨rfl, hsz, hP, hK, hD0, hE⟩ := hv
  have hx := B.exec
  have hb := B.bytes
  have hr := B.returns
  have hts := atoms_spec (ws := v_c_X10_pack) B.pre
  have hown : s.vm.findClass RX10 = some m.cls := findClass_of_methodNamed B.named
  have hlocks := B.notSynchronized
  subst hsz
  have hD := hD0
  generalize hAe : va_A [] s.heap.size = A
  have hA : ∀ q : Nat, s.heap.size ≤ q → A q := fun q h => by rw [← hAe]; exact Or.inr h
  have hS : va_S A s.heap s.heap [] := va_S.rf
  replace hP : va_P (dC, dI) vwCl [] s.heap := hP
  have hl := lv_entry ([.int p0, .int p1, .int p2, .int p3]) (n := 4) (Nat.le_of_ble_eq_true rfl)
  rw [lg_entry_eq]
  generalize (lg_sl ([.int p0, .int p1, .int p2, .int p3]) ++ List.replicate (4 - (lg_sl ([.int p0, .int p1, .int p2, .int p3])).length) Slot.unset).toArray = ls at hl ⊢
  replace hl : lv_has ls 4 [(0, .int p0), (1, .int p1), (2, .int p2), (3, .int p3)] := hl
  obtain ⟨H, hH⟩ : ∃ z : Heap, z = s.heap := ⟨_, rfl⟩
  rw [← hH]
  replace hS : va_S A s.heap H [] := by rw [hH]; exact va_S.rf
  replace hP : va_P (dC, dI) vwCl [] H := by rw [hH]; exact hP
  clear hH
  refine lv_iload_n hx hb dX10_pack_0 rfl (lv_at hl 0 rfl) ?_
  refine lv_sipush (v := 255) hx hb dX10_pack_1 (by decide) ?_
  refine lv_iand hx hb dX10_pack_4 ?_
  refine lv_iload_n hx hb dX10_pack_5 rfl (lv_at hl 1 rfl) ?_
  refine lv_sipush (v := 255) hx hb dX10_pack_6 (by decide) ?_
  refine lv_iand hx hb dX10_pack_9 ?_
  refine lv_bipush (v := 8) hx hb dX10_pack_10 (by decide) ?_
  refine lv_ishl hx hb dX10_pack_12 ?_
  refine lv_ior hx hb dX10_pack_13 ?_
  refine lv_iload_n hx hb dX10_pack_14 rfl (lv_at hl 2 rfl) ?_
  refine lv_sipush (v := 255) hx hb dX10_pack_15 (by decide) ?_
  refine lv_iand hx hb dX10_pack_18 ?_
  refine lv_bipush (v := 16) hx hb dX10_pack_19 (by decide) ?_
  refine lv_ishl hx hb dX10_pack_21 ?_
  refine lv_ior hx hb dX10_pack_22 ?_
  refine lv_iload_n hx hb dX10_pack_23 rfl (lv_at hl 3 rfl) ?_
  refine lv_bipush (v := 24) hx hb dX10_pack_24 (by decide) ?_
  refine lv_ishl hx hb dX10_pack_26 ?_
  refine lv_ior hx hb dX10_pack_27 ?_
  exact W.iret (v := ((((p0 &&& 255) ||| ((p1 &&& 255) <<< ((8 : Int32) &&& 31))) ||| ((p2 &&& 255) <<< ((16 : Int32) &&& 31))) ||| (p3 <<< ((24 : Int32) &&& 31)))) hx hb hr (fun t ht hW => ⟨⟨((((p0 &&& 255) ||| ((p1 &&& 255) <<< ((8 : Int32) &&& 31))) ||| ((p2 &&& 255) <<< ((16 : Int32) &&& 31))) ||| (p3 <<< ((24 : Int32) &&& 31))), (), rfl, rfl, trivial⟩, hS.F ht⟩) hS.2.2 dX10_pack_28

noncomputable def v_c_X10_identifier : List Cond := .code yX10_identifier cX10_identifier 3 (some .int) :: ([.constant RX10 245 (469762048)])
theorem gw_c_X10_identifier : ∀ w ∈ v_c_X10_identifier, goodWord w = true := List.forall_mem_cons.mpr ⟨by decide +kernel, List.all_eq_true.mp (by decide +kernel)⟩
set_option maxHeartbeats 4000000 in
set_option maxRecDepth 100000 in
theorem c_X10_identifier (l : Launch) (dC : Nat → ClassId) (dI : Nat → Nat → Nat) (p0 : Nat) (p1 : Nat) (p2 : Nat) (sz : Nat) (h_p0 : p0 < 256) (h_p1 : p1 < 256) (h_p2 : p2 < 256) : Met l yX10_identifier v_c_X10_identifier ({ frames := 0, cells := 0, slots := 0, locals := 0 }) (va_Pc [.int (nI p0), .int (nI p1), .int (nI p2)] (fun U => U.heap.size = sz ∧ va_P (dC, dI) vwCl [] U.heap ∧ va_K (dC, dI) vwCl [] U ∧ va_D (fun _ => True) [] ∧ ev U)) (va_Qi (fun (r : Int32) (_ : Unit) => r = (nI (469762048 + 65536 * p0 + 256 * p1 + p2))) (fun (_ : Unit) (_ : State) => True) (va_A [] sz)) 0 0 (va_A [] sz) := by
  refine Met.ofW (cc := cX10_identifier) (maxL := 3) (ret := (some .int)) (by decide) rfl ?_
  intro p e s m args below meth c s₁ B hml hv
  obtain ⟨rfl, hsz, hP, hK, hD0, hE⟩ := hv
  have hx := B.exec
  have hb := B.bytes
  have hr := B.returns
  have hts := atoms_spec (ws := v_c_X10_identifier) B.pre
  have hown : s.vm.findClass RX10 = some m.cls := findClass_of_methodNamed B.named
  have hlocks := B.notSynchronized
  subst hsz
  have hD := hD0
  generalize hAe : va_A [] s.heap.size = A
  have hA : ∀ q : Nat, s.heap.size ≤ q → A q := fun q h => by rw [← hAe]; exact Or.inr h
  have hS : va_S A s.heap s.heap [] := va_S.rf
  replace hP : va_P (dC, dI) vwCl [] s.heap := hP
  have hl := lv_entry ([.int (nI p0), .int (nI p1), .int (nI p2)]) (n := 3) (Nat.le_of_ble_eq_true rfl)
  rw [lg_entry_eq]
  generalize (lg_sl ([.int (nI p0), .int (nI p1), .int (nI p2)]) ++ List.replicate (3 - (lg_sl ([.int (nI p0), .int (nI p1), .int (nI p2)])).length) Slot.unset).toArray = ls at hl ⊢
  replace hl : lv_has ls 3 [(0, .int (nI p0)), (1, .int (nI p1)), (2, .int (nI p2))] := hl
  obtain ⟨H, hH⟩ : ∃ z : Heap, z = s.heap := ⟨_, rfl⟩
  rw [← hH]
  replace hS : va_S A s.heap H [] := by rw [hH]; exact va_S.rf
  replace hP : va_P (dC, dI) vwCl [] H := by rw [hH]; exact hP
  clear hH
  refine lv_ldc hx hb hown (hts (.constant RX10 245 (469762048)) (List.mem_of_getElem? (i := 1) rfl)) dX10_identifier_0 ?_
  refine lv_iload_n hx hb dX10_identifier_2 rfl (lv_at hl 0 rfl) ?_
  refine lv_bipush (v := 16) hx hb dX10_identifier_3 (by decide) ?_
  refine lv_ishl hx hb dX10_identifier_5 ?_
  refine lv_topi (fun x_1 ex_1 => ?_)
  obtain rfl : x_1 = (nI (65536 * p0)) := ex_1.trans ((pk_shlN (n := p0) ((16 : Int32) &&& 31) 16 (by decide) (by omega)).trans (show nI (p0 * 2 ^ 16) = nI (65536 * p0) from congrArg nI (by omega)))
  refine lv_ior hx hb dX10_identifier_6 ?_
  refine lv_topi (fun x_2 ex_2 => ?_)
  obtain rfl : x_2 = (nI (65536 * p0 + 469762048)) := ex_2.trans ((q_or 469762048 (65536 * p0) 24 (by omega) (by omega) (by omega)).trans (show nI (469762048 + (65536 * p0)) = nI (65536 * p0 + 469762048) from congrArg nI (by omega)))
  refine lv_iload_n hx hb dX10_identifier_7 rfl (lv_at hl 1 rfl) ?_
  refine lv_bipush (v := 8) hx hb dX10_identifier_8 (by decide) ?_
  refine lv_ishl hx hb dX10_identifier_10 ?_
  refine lv_topi (fun x_3 ex_3 => ?_)
  obtain rfl : x_3 = (nI (256 * p1)) := ex_3.trans ((pk_shlN (n := p1) ((8 : Int32) &&& 31) 8 (by decide) (by omega)).trans (show nI (p1 * 2 ^ 8) = nI (256 * p1) from congrArg nI (by omega)))
  refine lv_ior hx hb dX10_identifier_11 ?_
  refine lv_topi (fun x_4 ex_4 => ?_)
  obtain rfl : x_4 = (nI (65536 * p0 + 256 * p1 + 469762048)) := ex_4.trans ((q_or (65536 * p0 + 469762048) (256 * p1) 16 (by omega) (by omega) (by omega)).trans (show nI ((65536 * p0 + 469762048) + (256 * p1)) = nI (65536 * p0 + 256 * p1 + 469762048) from congrArg nI (by omega)))
  refine lv_iload_n hx hb dX10_identifier_12 rfl (lv_at hl 2 rfl) ?_
  refine lv_ior hx hb dX10_identifier_13 ?_
  refine lv_topi (fun x_5 ex_5 => ?_)
  obtain rfl : x_5 = (nI (65536 * p0 + 256 * p1 + p2 + 469762048)) := ex_5.trans ((q_or (65536 * p0 + 256 * p1 + 469762048) p2 8 (by omega) (by omega) (by omega)).trans (show nI ((65536 * p0 + 256 * p1 + 469762048) + p2) = nI (65536 * p0 + 256 * p1 + p2 + 469762048) from congrArg nI (by omega)))
  exact W.iret (v := (nI (65536 * p0 + 256 * p1 + p2 + 469762048))) hx hb hr (fun t ht hW => ⟨⟨(nI (65536 * p0 + 256 * p1 + p2 + 469762048)), (), rfl, congrArg nI (show (65536 * p0 + 256 * p1 + p2 + 469762048) = (469762048 + 65536 * p0 + 256 * p1 + p2) from by omega), trivial⟩, hS.F ht⟩) hS.2.2 dX10_identifier_14

noncomputable def tl_c_X3_byteAt : List Cond := wsX30
noncomputable def v_c_X3_byteAt : List Cond := .code yX3_byteAt cX3_byteAt 3 (some .int) :: ([.fieldLink RX3 25 "ClaimBus$Message" "size" "I", .fieldLink RX3 9 "ClaimBus$Message" "troubles" "[I", .fieldLink RX3 28 "ClaimBus$Message" "seed" "I"] ++ tl_c_X3_byteAt)
theorem it_c_X3_byteAt : ∀ w ∈ tl_c_X3_byteAt, w ∈ v_c_X3_byteAt := fun w h => List.mem_cons_of_mem _ (List.mem_append_right _ h)
theorem in_c_X3_byteAt_X3 : ∀ w ∈ wsX30, w ∈ v_c_X3_byteAt := fun w h => it_c_X3_byteAt w (h)
theorem gt_c_X3_byteAt : ∀ w ∈ tl_c_X3_byteAt, goodWord w = true := gw_wsX30
theorem gw_c_X3_byteAt : ∀ w ∈ v_c_X3_byteAt, goodWord w = true := List.forall_mem_cons.mpr ⟨by decide +kernel, List.forall_mem_append.mpr ⟨List.all_eq_true.mp (by decide +kernel), gt_c_X3_byteAt⟩⟩
set_option maxHeartbeats 4000000 in
set_option maxRecDepth 100000 in
theorem c_X3_byteAt (l : Launch) (dC : Nat → ClassId) (dI : Nat → Nat → Nat) (h0 : Nat) (mi : Nat) (mt : Nat) (mg : Nat) (ms : Nat) (sd : Int32) (p0 : Nat) (sz : Nat) (hmi : mi < 8) (hmt : mt < 256) (hmg : mg < 262144) (hms : ms < 1786) (hp : p0 < 4096) : Met l yX3_byteAt v_c_X3_byteAt ({ frames := 0, cells := 0, slots := 0, locals := 0 }) (va_Pc [.ref h0, .int (nI p0)] (fun U => U.heap.size = sz ∧ va_P (dC, dI) vwCl [(h0, .inr (4, [.int (nI mi), .int (nI mt), .int (nI mg), .int (nI ms), .int sd, .null]))] U.heap ∧ va_K (dC, dI) vwCl [] U ∧ va_D (fun _ => True) [(h0, .inr (4, [.int (nI mi), .int (nI mt), .int (nI mg), .int (nI ms), .int sd, .null]))] ∧ ev U)) (va_Qi (fun (r : Int32) (_ : Unit) => r = bx sd ms p0) (fun (_ : Unit) (_ : State) => True) (va_A [] sz)) 0 0 (va_A [] sz) := by
  refine Met.ofW (cc := cX3_byteAt) (maxL := 3) (ret := (some .int)) (by decide) rfl ?_
  intro p e s m args below meth c s₁ B hml hv
  obtain ⟨rfl, hsz, hP, hK, hD0, hE⟩ := hv
  have hx := B.exec
  have hb := B.bytes
  have hr := B.returns
  have hts := atoms_spec (ws := v_c_X3_byteAt) B.pre
  have hown : s.vm.findClass RX3 = some m.cls := findClass_of_methodNamed B.named
  have hlocks := B.notSynchronized
  subst hsz
  have hD := hD0
  generalize hAe : va_A [] s.heap.size = A
  have hA : ∀ q : Nat, s.heap.size ≤ q → A q := fun q h => by rw [← hAe]; exact Or.inr h
  have hS : va_S A s.heap s.heap [] := va_S.rf
  replace hP : va_P (dC, dI) vwCl [(h0, .inr (4, [.int (nI mi), .int (nI mt), .int (nI mg), .int (nI ms), .int sd, .null]))] s.heap := hP
  have hl := lv_entry ([.ref h0, .int (nI p0)]) (n := 3) (Nat.le_of_ble_eq_true rfl)
  rw [lg_entry_eq]
  generalize (lg_sl ([.ref h0, .int (nI p0)]) ++ List.replicate (3 - (lg_sl ([.ref h0, .int (nI p0)])).length) Slot.unset).toArray = ls at hl ⊢
  replace hl : lv_has ls 3 [(0, .ref h0), (1, .int (nI p0))] := hl
  obtain ⟨H, hH⟩ : ∃ z : Heap, z = s.heap := ⟨_, rfl⟩
  rw [← hH]
  replace hS : va_S A s.heap H [] := by rw [hH]; exact va_S.rf
  replace hP : va_P (dC, dI) vwCl [(h0, .inr (4, [.int (nI mi), .int (nI mt), .int (nI mg), .int (nI ms), .int sd, .null]))] H := by rw [hH]; exact hP
  clear hH
  refine lv_iload_n hx hb dX3_byteAt_0 rfl (lv_at hl 1 rfl) ?_
  refine lv_if_lt (tgt := 12) hx hb dX3_byteAt_1 (by decide) (fun c_1 => ?_) (fun c_1 => ?_)
  · exact absurd ((nI_ltI (a := p0) (b := 0) (by omega) (by omega)).mp c_1) (by omega)
  refine lv_iload_n hx hb dX3_byteAt_4 rfl (lv_at hl 1 rfl) ?_
  refine lv_aload_n hx hb dX3_byteAt_5 rfl (lv_at hl 0 rfl) ?_
  refine va_get (D := (dC, dI)) (ci := 4) (v := .int (nI ms)) (C := RX3) (T := TX3) (N := 6) hx hb hts in_c_X3_byteAt_X3 hown hK hP 0 rfl rfl 3 (by decide) (hts (.fieldLink RX3 25 "ClaimBus$Message" "size" "I") (List.mem_of_getElem? (i := 1) rfl)) (fun _ h9 => h9) rfl dX3_byteAt_6 ?_
  refine lv_icmp_lt (tgt := 16) hx hb dX3_byteAt_9 (by decide) (fun c_2 => ?_) (fun c_2 => ?_)
  · have pc_2 : p0 < ms := (nI_ltI (a := p0) (b := ms) (by omega) (by omega)).mp c_2
    refine lv_aload_n hx hb dX3_byteAt_16 rfl (lv_at hl 0 rfl) ?_
    refine va_get (D := (dC, dI)) (ci := 4) (v := .null) (C := RX3) (T := TX3) (N := 6) hx hb hts in_c_X3_byteAt_X3 hown hK hP 0 rfl rfl 5 (by decide) (hts (.fieldLink RX3 9 "ClaimBus$Message" "troubles" "[I") (List.mem_of_getElem? (i := 2) rfl)) (fun _ h9 => h9) rfl dX3_byteAt_17 ?_
    refine lv_ifnonnullN hx hb dX3_byteAt_20 ?_
    refine lv_aload_n hx hb dX3_byteAt_23 rfl (lv_at hl 0 rfl) ?_
    refine va_get (D := (dC, dI)) (ci := 4) (v := .int sd) (C := RX3) (T := TX3) (N := 6) hx hb hts in_c_X3_byteAt_X3 hown hK hP 0 rfl rfl 4 (by decide) (hts (.fieldLink RX3 28 "ClaimBus$Message" "seed" "I") (List.mem_of_getElem? (i := 3) rfl)) (fun _ h9 => h9) rfl dX3_byteAt_24 ?_
    refine lv_iload_n hx hb dX3_byteAt_27 rfl (lv_at hl 1 rfl) ?_
    refine lv_iload_n hx hb dX3_byteAt_28 rfl (lv_at hl 1 rfl) ?_
    refine lv_imul hx hb dX3_byteAt_29 ?_
    refine lv_topi (fun x_3 ex_3 => ?_)
    obtain rfl : x_3 = (nI (((p0) * (p0)))) := ex_3.trans ((pk_mul p0 p0).trans (show nI (p0 * p0) = nI (((p0) * (p0))) from congrArg nI (by omega)))
    refine lv_iadd hx hb dX3_byteAt_30 ?_
    refine lv_iload_n hx hb dX3_byteAt_31 rfl (lv_at hl 1 rfl) ?_
    refine lv_sipush (v := 256) hx hb dX3_byteAt_32 (by decide) ?_
    refine lv_idiv hx hb dX3_byteAt_35 (by decide) ?_
    refine lv_topi (fun x_4 ex_4 => ?_)
    obtain rfl : x_4 = (nI (((p0) / 256))) := ex_4.trans ((pk_div (a := p0) (d := 256) (by omega) (by omega) (by omega)).trans (show nI (p0 / 256) = nI (((p0) / 256)) from congrArg nI (by omega)))
    refine lv_iadd hx hb dX3_byteAt_36 ?_
    refine lv_sipush (v := 255) hx hb dX3_byteAt_37 (by decide) ?_
    refine lv_iand hx hb dX3_byteAt_40 ?_
    exact W.iret (v := (((sd + (nI (((p0) * (p0))))) + (nI (((p0) / 256)))) &&& 255)) hx hb hr (fun t ht hW => ⟨⟨(((sd + (nI (((p0) * (p0))))) + (nI (((p0) / 256)))) &&& 255), (), rfl, (by unfold bx; rw [if_pos pc_2]; rfl), trivial⟩, hS.F ht⟩) hS.2.2 dX3_byteAt_41
  · have pc_2 : ¬ p0 < ms := fun h => c_2 ((nI_ltI (a := p0) (b := ms) (by omega) (by omega)).mpr h)
    refine lv_sipush (v := 255) hx hb dX3_byteAt_12 (by decide) ?_
    exact W.iret (v := 255) hx hb hr (fun t ht hW => ⟨⟨255, (), rfl, (by unfold bx; rw [if_neg pc_2]), trivial⟩, hS.F ht⟩) hS.2.2 dX3_byteAt_15

noncomputable def tl_c_X3_fourFrom : List Cond := v_c_X3_byteAt ++ (v_c_X10_pack)
noncomputable def v_c_X3_fourFrom : List Cond := .code yX3_fourFrom cX3_fourFrom 2 (some .int) :: ([.initialized RX3, .methodLink RX3 54 yX3_byteAt, .instanceMethod yX3_byteAt, .selects RX3 yX3_byteAt yX3_byteAt, .initialized RX10, .static yX10_pack] ++ tl_c_X3_fourFrom)
theorem it_c_X3_fourFrom : ∀ w ∈ tl_c_X3_fourFrom, w ∈ v_c_X3_fourFrom := fun w h => List.mem_cons_of_mem _ (List.mem_append_right _ h)
theorem ic_c_X3_fourFrom_c_X3_byteAt : ∀ w ∈ v_c_X3_byteAt, w ∈ v_c_X3_fourFrom := fun w h => it_c_X3_fourFrom w (List.mem_append_left _ h)
theorem ic_c_X3_fourFrom_c_X10_pack : ∀ w ∈ v_c_X10_pack, w ∈ v_c_X3_fourFrom := fun w h => it_c_X3_fourFrom w (List.mem_append_right _ (h))
theorem gt_c_X3_fourFrom : ∀ w ∈ tl_c_X3_fourFrom, goodWord w = true := List.forall_mem_append.mpr ⟨gw_c_X3_byteAt, gw_c_X10_pack⟩
theorem gw_c_X3_fourFrom : ∀ w ∈ v_c_X3_fourFrom, goodWord w = true := List.forall_mem_cons.mpr ⟨by decide +kernel, List.forall_mem_append.mpr ⟨List.all_eq_true.mp (by decide +kernel), gt_c_X3_fourFrom⟩⟩
theorem g_c_X3_fourFrom_c_X3_byteAt_54 : GoodIn v_c_X3_fourFrom (wsV RX3 54 RX3 yX3_byteAt v_c_X3_byteAt) := goodIn_app (goodIn_r [.methodLink RX3 54 yX3_byteAt, .instanceMethod yX3_byteAt, .selects RX3 yX3_byteAt yX3_byteAt, .initialized RX3] [2, 3, 4, 1] (by decide +kernel) (by decide +kernel)) (fun w h => ⟨ic_c_X3_fourFrom_c_X3_byteAt w h, good_of_word (gw_c_X3_byteAt w h)⟩)
theorem g_c_X3_fourFrom_c_X10_pack_50 : GoodIn v_c_X3_fourFrom v_c_X10_pack := fun w h => ⟨ic_c_X3_fourFrom_c_X10_pack w h, good_of_word (gw_c_X10_pack w h)⟩
set_option maxHeartbeats 4000000 in
set_option maxRecDepth 100000 in
theorem c_X3_fourFrom (l : Launch) (dC : Nat → ClassId) (dI : Nat → Nat → Nat) (h0 : Nat) (mi : Nat) (mt : Nat) (mg : Nat) (ms : Nat) (sd : Int32) (p0 : Nat) (sz : Nat) (hmi : mi < 8) (hmt : mt < 256) (hmg : mg < 262144) (hms : ms < 1786) (hp : p0 < 4000) : Met l yX3_fourFrom v_c_X3_fourFrom ({ frames := 1, cells := 0, slots := 0, locals := 23 }) (va_Pc [.ref h0, .int (nI p0)] (fun U => U.heap.size = sz ∧ va_P (dC, dI) vwCl [(h0, .inr (4, [.int (nI mi), .int (nI mt), .int (nI mg), .int (nI ms), .int sd, .null]))] U.heap ∧ va_K (dC, dI) vwCl [] U ∧ va_D (fun _ => True) [(h0, .inr (4, [.int (nI mi), .int (nI mt), .int (nI mg), .int (nI ms), .int sd, .null]))] ∧ ev U)) (va_Qi (fun (r : Int32) (_ : Unit) => r = pk (bx sd ms p0) (bx sd ms (p0 + 1)) (bx sd ms (p0 + 2)) (bx sd ms (p0 + 3))) (fun (_ : Unit) (_ : State) => True) (va_A [] sz)) 0 0 (va_A [] sz) := by
  refine Met.ofW (cc := cX3_fourFrom) (maxL := 2) (ret := (some .int)) (by decide) rfl ?_
  intro p e s m args below meth c s₁ B hml hv
  obtain ⟨rfl, hsz, hP, hK, hD0, hE⟩ := hv
  have hx := B.exec
  have hb := B.bytes
  have hr := B.returns
  have hts := atoms_spec (ws := v_c_X3_fourFrom) B.pre
  have hown : s.vm.findClass RX3 = some m.cls := findClass_of_methodNamed B.named
  have hlocks := B.notSynchronized
  subst hsz
  have hD := hD0
  generalize hAe : va_A [] s.heap.size = A
  have hA : ∀ q : Nat, s.heap.size ≤ q → A q := fun q h => by rw [← hAe]; exact Or.inr h
  have hS : va_S A s.heap s.heap [] := va_S.rf
  replace hP : va_P (dC, dI) vwCl [(h0, .inr (4, [.int (nI mi), .int (nI mt), .int (nI mg), .int (nI ms), .int sd, .null]))] s.heap := hP
  have hl := lv_entry ([.ref h0, .int (nI p0)]) (n := 2) (Nat.le_of_ble_eq_true rfl)
  rw [lg_entry_eq]
  generalize (lg_sl ([.ref h0, .int (nI p0)]) ++ List.replicate (2 - (lg_sl ([.ref h0, .int (nI p0)])).length) Slot.unset).toArray = ls at hl ⊢
  replace hl : lv_has ls 2 [(0, .ref h0), (1, .int (nI p0))] := hl
  obtain ⟨H, hH⟩ : ∃ z : Heap, z = s.heap := ⟨_, rfl⟩
  rw [← hH]
  replace hS : va_S A s.heap H [] := by rw [hH]; exact va_S.rf
  replace hP : va_P (dC, dI) vwCl [(h0, .inr (4, [.int (nI mi), .int (nI mt), .int (nI mg), .int (nI ms), .int sd, .null]))] H := by rw [hH]; exact hP
  clear hH
  refine lv_aload_n hx hb dX3_fourFrom_0 rfl (lv_at hl 0 rfl) ?_
  refine lv_iload_n hx hb dX3_fourFrom_1 rfl (lv_at hl 1 rfl) ?_
  have hPc := hP.sub (ws' := [(h0, .inr (4, [.int (nI mi), .int (nI mt), .int (nI mg), .int (nI ms), .int sd, .null]))]) [0] rfl
  have hDc := hD.sub (ws' := [(h0, .inr (4, [.int (nI mi), .int (nI mt), .int (nI mg), .int (nI ms), .int sd, .null]))]) [0] (by decide +kernel) rfl
  have hKc := hK.sub (tys' := []) [] rfl
  have hFc := ro_free hS hA
  refine va_calli (va_runV (As := [.int (nI p0)]) (rest := []) ⟨hx, hb, hml, hown, hts⟩ (c_X3_byteAt l dC dI (h0) (mi) (mt) (mg) (ms) (sd) (p0) H.size hmi hmt hmg hms (by omega)) (cwV 1 hts g_c_X3_fourFrom_c_X3_byteAt_54 rfl rfl rfl (by decide +kernel) ⟨Nat.le_of_ble_eq_true rfl, Nat.le_of_ble_eq_true rfl⟩) ⟨fun a U g mk q => by obtain ⟨q0, q1, qP, qK, qD, qE⟩ := q; exact ⟨q0, q1, qP, va_K.moved (u := U) (U := U.calling g mk a) (Vm.Alike.refl U.vm) qK, qD, ev.same (u := U) (U := U.calling g mk a) rfl qE⟩, va_recv hKc hPc (ci := 4) (q0 := 0) rfl rfl, fun U hU hW => ⟨rfl, by rw [hU], by rw [hU]; exact hPc, va_K.moved hW.alike hKc, hDc.weaken (fun _ _ _ _ => trivial), hE.warm hW⟩⟩ rfl rfl hl.1 rfl (lv_room (Nat.le_of_ble_eq_true rfl)) dX3_fourFrom_2 ⟨Nat.le_of_ble_eq_true rfl, Nat.le_of_ble_eq_true rfl⟩) hS (fun q _ h => hFc q h) hFc (fun r_1 u t H1 locs ht hvm hw hB hz1 hk1 hS => ?_)
  clear hPc hDc hKc
  replace hP := ro_keep hP hk1
  generalize H1 = H at hP hS ⊢
  replace hP : va_P (dC, dI) vwCl [(h0, .inr (4, [.int (nI mi), .int (nI mt), .int (nI mg), .int (nI ms), .int sd, .null]))] H := hP
  have hw := hw.symm
  subst hw
  refine lv_aload_n hx hb dX3_fourFrom_5 rfl (lv_at hl 0 rfl) ?_
  refine lv_iload_n hx hb dX3_fourFrom_6 rfl (lv_at hl 1 rfl) ?_
  refine lv_iconst (v := 1) hx hb dX3_fourFrom_7 (by decide) ?_
  refine lv_iadd hx hb dX3_fourFrom_8 ?_
  refine lv_topi (fun x_2 ex_2 => ?_)
  obtain rfl : x_2 = (nI (p0 + 1)) := ex_2.trans ((nI_add p0 1).trans (show nI (p0 + 1) = nI (p0 + 1) from congrArg nI (by omega)))
  have hPc := hP.sub (ws' := [(h0, .inr (4, [.int (nI mi), .int (nI mt), .int (nI mg), .int (nI ms), .int sd, .null]))]) [0] rfl
  have hDc := hD.sub (ws' := [(h0, .inr (4, [.int (nI mi), .int (nI mt), .int (nI mg), .int (nI ms), .int sd, .null]))]) [0] (by decide +kernel) rfl
  have hKc := hK.sub (tys' := []) [] rfl
  have hFc := ro_free hS hA
  refine va_calli (va_runV (As := [.int (nI (p0 + 1))]) (rest := [.int (bx sd ms p0)]) ⟨hx, hb, hml, hown, hts⟩ (c_X3_byteAt l dC dI (h0) (mi) (mt) (mg) (ms) (sd) ((p0 + 1)) H.size hmi hmt hmg hms (by omega)) (cwV 1 hts g_c_X3_fourFrom_c_X3_byteAt_54 rfl rfl rfl (by decide +kernel) ⟨Nat.le_of_ble_eq_true rfl, Nat.le_of_ble_eq_true rfl⟩) ⟨fun a U g mk q => by obtain ⟨q0, q1, qP, qK, qD, qE⟩ := q; exact ⟨q0, q1, qP, va_K.moved (u := U) (U := U.calling g mk a) (Vm.Alike.refl U.vm) qK, qD, ev.same (u := U) (U := U.calling g mk a) rfl qE⟩, va_recv hKc hPc (ci := 4) (q0 := 0) rfl rfl, fun U hU hW => ⟨rfl, by rw [hU], by rw [hU]; exact hPc, va_K.moved hW.alike hKc, hDc.weaken (fun _ _ _ _ => trivial), hE.warm hW⟩⟩ rfl rfl hl.1 rfl (lv_room (Nat.le_of_ble_eq_true rfl)) dX3_fourFrom_9 ⟨Nat.le_of_ble_eq_true rfl, Nat.le_of_ble_eq_true rfl⟩) hS (fun q _ h => hFc q h) hFc (fun r_3 u t H1 locs ht hvm hw hB hz1 hk1 hS => ?_)
  clear hPc hDc hKc
  replace hP := ro_keep hP hk1
  generalize H1 = H at hP hS ⊢
  replace hP : va_P (dC, dI) vwCl [(h0, .inr (4, [.int (nI mi), .int (nI mt), .int (nI mg), .int (nI ms), .int sd, .null]))] H := hP
  have hw := hw.symm
  subst hw
  refine lv_aload_n hx hb dX3_fourFrom_12 rfl (lv_at hl 0 rfl) ?_
  refine lv_iload_n hx hb dX3_fourFrom_13 rfl (lv_at hl 1 rfl) ?_
  refine lv_iconst (v := 2) hx hb dX3_fourFrom_14 (by decide) ?_
  refine lv_iadd hx hb dX3_fourFrom_15 ?_
  refine lv_topi (fun x_4 ex_4 => ?_)
  obtain rfl : x_4 = (nI (p0 + 2)) := ex_4.trans ((nI_add p0 2).trans (show nI (p0 + 2) = nI (p0 + 2) from congrArg nI (by omega)))
  have hPc := hP.sub (ws' := [(h0, .inr (4, [.int (nI mi), .int (nI mt), .int (nI mg), .int (nI ms), .int sd, .null]))]) [0] rfl
  have hDc := hD.sub (ws' := [(h0, .inr (4, [.int (nI mi), .int (nI mt), .int (nI mg), .int (nI ms), .int sd, .null]))]) [0] (by decide +kernel) rfl
  have hKc := hK.sub (tys' := []) [] rfl
  have hFc := ro_free hS hA
  refine va_calli (va_runV (As := [.int (nI (p0 + 2))]) (rest := [.int (bx sd ms (p0 + 1)), .int (bx sd ms p0)]) ⟨hx, hb, hml, hown, hts⟩ (c_X3_byteAt l dC dI (h0) (mi) (mt) (mg) (ms) (sd) ((p0 + 2)) H.size hmi hmt hmg hms (by omega)) (cwV 1 hts g_c_X3_fourFrom_c_X3_byteAt_54 rfl rfl rfl (by decide +kernel) ⟨Nat.le_of_ble_eq_true rfl, Nat.le_of_ble_eq_true rfl⟩) ⟨fun a U g mk q => by obtain ⟨q0, q1, qP, qK, qD, qE⟩ := q; exact ⟨q0, q1, qP, va_K.moved (u := U) (U := U.calling g mk a) (Vm.Alike.refl U.vm) qK, qD, ev.same (u := U) (U := U.calling g mk a) rfl qE⟩, va_recv hKc hPc (ci := 4) (q0 := 0) rfl rfl, fun U hU hW => ⟨rfl, by rw [hU], by rw [hU]; exact hPc, va_K.moved hW.alike hKc, hDc.weaken (fun _ _ _ _ => trivial), hE.warm hW⟩⟩ rfl rfl hl.1 rfl (lv_room (Nat.le_of_ble_eq_true rfl)) dX3_fourFrom_16 ⟨Nat.le_of_ble_eq_true rfl, Nat.le_of_ble_eq_true rfl⟩) hS (fun q _ h => hFc q h) hFc (fun r_5 u t H1 locs ht hvm hw hB hz1 hk1 hS => ?_)
  clear hPc hDc hKc
  replace hP := ro_keep hP hk1
  generalize H1 = H at hP hS ⊢
  replace hP : va_P (dC, dI) vwCl [(h0, .inr (4, [.int (nI mi), .int (nI mt), .int (nI mg), .int (nI ms), .int sd, .null]))] H := hP
  have hw := hw.symm
  subst hw
  refine lv_aload_n hx hb dX3_fourFrom_19 rfl (lv_at hl 0 rfl) ?_
  refine lv_iload_n hx hb dX3_fourFrom_20 rfl (lv_at hl 1 rfl) ?_
  refine lv_iconst (v := 3) hx hb dX3_fourFrom_21 (by decide) ?_
  refine lv_iadd hx hb dX3_fourFrom_22 ?_
  refine lv_topi (fun x_6 ex_6 => ?_)
  obtain rfl : x_6 = (nI (p0 + 3)) := ex_6.trans ((nI_add p0 3).trans (show nI (p0 + 3) = nI (p0 + 3) from congrArg nI (by omega)))
  have hPc := hP.sub (ws' := [(h0, .inr (4, [.int (nI mi), .int (nI mt), .int (nI mg), .int (nI ms), .int sd, .null]))]) [0] rfl
  have hDc := hD.sub (ws' := [(h0, .inr (4, [.int (nI mi), .int (nI mt), .int (nI mg), .int (nI ms), .int sd, .null]))]) [0] (by decide +kernel) rfl
  have hKc := hK.sub (tys' := []) [] rfl
  have hFc := ro_free hS hA
  refine va_calli (va_runV (As := [.int (nI (p0 + 3))]) (rest := [.int (bx sd ms (p0 + 2)), .int (bx sd ms (p0 + 1)), .int (bx sd ms p0)]) ⟨hx, hb, hml, hown, hts⟩ (c_X3_byteAt l dC dI (h0) (mi) (mt) (mg) (ms) (sd) ((p0 + 3)) H.size hmi hmt hmg hms (by omega)) (cwV 1 hts g_c_X3_fourFrom_c_X3_byteAt_54 rfl rfl rfl (by decide +kernel) ⟨Nat.le_of_ble_eq_true rfl, Nat.le_of_ble_eq_true rfl⟩) ⟨fun a U g mk q => by obtain ⟨q0, q1, qP, qK, qD, qE⟩ := q; exact ⟨q0, q1, qP, va_K.moved (u := U) (U := U.calling g mk a) (Vm.Alike.refl U.vm) qK, qD, ev.same (u := U) (U := U.calling g mk a) rfl qE⟩, va_recv hKc hPc (ci := 4) (q0 := 0) rfl rfl, fun U hU hW => ⟨rfl, by rw [hU], by rw [hU]; exact hPc, va_K.moved hW.alike hKc, hDc.weaken (fun _ _ _ _ => trivial), hE.warm hW⟩⟩ rfl rfl hl.1 rfl (lv_room (Nat.le_of_ble_eq_true rfl)) dX3_fourFrom_23 ⟨Nat.le_of_ble_eq_true rfl, Nat.le_of_ble_eq_true rfl⟩) hS (fun q _ h => hFc q h) hFc (fun r_7 u t H1 locs ht hvm hw hB hz1 hk1 hS => ?_)
  clear hPc hDc hKc
  replace hP := ro_keep hP hk1
  generalize H1 = H at hP hS ⊢
  replace hP : va_P (dC, dI) vwCl [(h0, .inr (4, [.int (nI mi), .int (nI mt), .int (nI mg), .int (nI ms), .int sd, .null]))] H := hP
  have hw := hw.symm
  subst hw
  have hPc := hP.sub (ws' := []) [] rfl
  have hDc := hD.sub (ws' := []) [] (by decide +kernel) rfl
  have hKc := hK.sub (tys' := []) [] rfl
  have hFc := ro_free hS hA
  refine va_calli (va_runSN (As := [.int (bx sd ms p0), .int (bx sd ms (p0 + 1)), .int (bx sd ms (p0 + 2)), .int (bx sd ms (p0 + 3))]) (rest := []) ⟨hx, hb, hml, hown, hts⟩ (c_X10_pack l dC dI ((bx sd ms p0)) ((bx sd ms (p0 + 1))) ((bx sd ms (p0 + 2))) ((bx sd ms (p0 + 3))) H.size) ⟨va_cnB 4 hts g_c_X3_fourFrom_c_X10_pack_50 rfl rfl rfl hE.n10 (hts (.initialized RX10) (List.mem_of_getElem? (i := 5) rfl)) (by decide +kernel) ⟨Nat.le_of_ble_eq_true rfl, Nat.le_of_ble_eq_true rfl⟩, (hts (.static yX10_pack) (List.mem_of_getElem? (i := 6) rfl)), trivial⟩ ⟨fun a U g mk q => by obtain ⟨q0, q1, qP, qK, qD, qE⟩ := q; exact ⟨q0, q1, qP, va_K.moved (u := U) (U := U.calling g mk a) (Vm.Alike.refl U.vm) qK, qD, ev.same (u := U) (U := U.calling g mk a) rfl qE⟩, fun U hU hW => ⟨rfl, by rw [hU], by rw [hU]; exact hPc, va_K.moved hW.alike hKc, hDc.weaken (fun _ _ _ _ => trivial), hE.warm hW⟩⟩ rfl rfl hl.1 rfl (lv_room (Nat.le_of_ble_eq_true rfl)) dX3_fourFrom_26 ⟨Nat.le_of_ble_eq_true rfl, Nat.le_of_ble_eq_true rfl⟩) hS (fun q _ h => hFc q h) hFc (fun r_8 u t H1 locs ht hvm hw hB hz1 hk1 hS => ?_)
  clear hPc hDc hKc
  replace hP := ro_keep hP hk1
  generalize H1 = H at hP hS ⊢
  replace hP : va_P (dC, dI) vwCl [(h0, .inr (4, [.int (nI mi), .int (nI mt), .int (nI mg), .int (nI ms), .int sd, .null]))] H := hP
  have hw := hw.symm
  subst hw
  exact W.iret (v := (pk (bx sd ms p0) (bx sd ms (p0 + 1)) (bx sd ms (p0 + 2)) (bx sd ms (p0 + 3)))) hx hb hr (fun t ht hW => ⟨⟨(pk (bx sd ms p0) (bx sd ms (p0 + 1)) (bx sd ms (p0 + 2)) (bx sd ms (p0 + 3))), (), rfl, rfl, trivial⟩, hS.F ht⟩) hS.2.2 dX3_fourFrom_29

noncomputable def tl_c_X3_packets : List Cond := wsX30
noncomputable def v_c_X3_packets : List Cond := .code yX3_packets cX3_packets 1 (some .int) :: ([.fieldLink RX3 25 "ClaimBus$Message" "size" "I"] ++ tl_c_X3_packets)
theorem it_c_X3_packets : ∀ w ∈ tl_c_X3_packets, w ∈ v_c_X3_packets := fun w h => List.mem_cons_of_mem _ (List.mem_append_right _ h)
theorem in_c_X3_packets_X3 : ∀ w ∈ wsX30, w ∈ v_c_X3_packets := fun w h => it_c_X3_packets w (h)
theorem gt_c_X3_packets : ∀ w ∈ tl_c_X3_packets, goodWord w = true := gw_wsX30
theorem gw_c_X3_packets : ∀ w ∈ v_c_X3_packets, goodWord w = true := List.forall_mem_cons.mpr ⟨by decide +kernel, List.forall_mem_append.mpr ⟨List.all_eq_true.mp (by decide +kernel), gt_c_X3_packets⟩⟩
set_option maxHeartbeats 4000000 in
set_option maxRecDepth 100000 in
theorem c_X3_packets (l : Launch) (dC : Nat → ClassId) (dI : Nat → Nat → Nat) (h0 : Nat) (mi : Nat) (mt : Nat) (mg : Nat) (ms : Nat) (sd : Int32) (sz : Nat) (hmi : mi < 8) (hmt : mt < 256) (hmg : mg < 262144) (hms : ms < 1786) : Met l yX3_packets v_c_X3_packets ({ frames := 0, cells := 0, slots := 0, locals := 0 }) (va_Pc [.ref h0] (fun U => U.heap.size = sz ∧ va_P (dC, dI) vwCl [(h0, .inr (4, [.int (nI mi), .int (nI mt), .int (nI mg), .int (nI ms), .int sd, .null]))] U.heap ∧ va_K (dC, dI) vwCl [] U ∧ va_D (fun _ => True) [(h0, .inr (4, [.int (nI mi), .int (nI mt), .int (nI mg), .int (nI ms), .int sd, .null]))] ∧ ev U)) (va_Qi (fun (r : Int32) (_ : Unit) => r = (nI ((ms + 6) / 7))) (fun (_ : Unit) (_ : State) => True) (va_A [] sz)) 0 0 (va_A [] sz) := by
  refine Met.ofW (cc := cX3_packets) (maxL := 1) (ret := (some .int)) (by decide) rfl ?_
  intro p e s m args below meth c s₁ B hml hv
  obtain ⟨rfl, hsz, hP, hK, hD0, hE⟩ := hv
  have hx := B.exec
  have hb := B.bytes
  have hr := B.returns
  have hts := atoms_spec (ws := v_c_X3_packets) B.pre
  have hown : s.vm.findClass RX3 = some m.cls := findClass_of_methodNamed B.named
  have hlocks := B.notSynchronized
  subst hsz
  have hD := hD0
  generalize hAe : va_A [] s.heap.size = A
  have hA : ∀ q : Nat, s.heap.size ≤ q → A q := fun q h => by rw [← hAe]; exact Or.inr h
  have hS : va_S A s.heap s.heap [] := va_S.rf
  replace hP : va_P (dC, dI) vwCl [(h0, .inr (4, [.int (nI mi), .int (nI mt), .int (nI mg), .int (nI ms), .int sd, .null]))] s.heap := hP
  have hl := lv_entry ([.ref h0]) (n := 1) (Nat.le_of_ble_eq_true rfl)
  rw [lg_entry_eq]
  generalize (lg_sl ([.ref h0]) ++ List.replicate (1 - (lg_sl ([.ref h0])).length) Slot.unset).toArray = ls at hl ⊢
  replace hl : lv_has ls 1 [(0, .ref h0)] := hl
  obtain ⟨H, hH⟩ : ∃ z : Heap, z = s.heap := ⟨_, rfl⟩
  rw [← hH]
  replace hS : va_S A s.heap H [] := by rw [hH]; exact va_S.rf
  replace hP : va_P (dC, dI) vwCl [(h0, .inr (4, [.int (nI mi), .int (nI mt), .int (nI mg), .int (nI ms), .int sd, .null]))] H := by rw [hH]; exact hP
  clear hH
  refine lv_aload_n hx hb dX3_packets_0 rfl (lv_at hl 0 rfl) ?_
  refine va_get (D := (dC, dI)) (ci := 4) (v := .int (nI ms)) (C := RX3) (T := TX3) (N := 6) hx hb hts in_c_X3_packets_X3 hown hK hP 0 rfl rfl 3 (by decide) (hts (.fieldLink RX3 25 "ClaimBus$Message" "size" "I") (List.mem_of_getElem? (i := 1) rfl)) (fun _ h9 => h9) rfl dX3_packets_1 ?_
  refine lv_bipush (v := 7) hx hb dX3_packets_4 (by decide) ?_
  refine lv_iadd hx hb dX3_packets_6 ?_
  refine lv_topi (fun x_1 ex_1 => ?_)
  obtain rfl : x_1 = (nI (ms + 7)) := ex_1.trans ((nI_add ms 7).trans (show nI (ms + 7) = nI (ms + 7) from congrArg nI (by omega)))
  refine lv_iconst (v := 1) hx hb dX3_packets_7 (by decide) ?_
  refine lv_isub hx hb dX3_packets_8 ?_
  refine lv_topi (fun x_2 ex_2 => ?_)
  obtain rfl : x_2 = (nI (ms + 6)) := ex_2.trans ((pk_sub (a := (ms + 7)) (b := 1) (by omega)).trans (show nI ((ms + 7) - 1) = nI (ms + 6) from congrArg nI (by omega)))
  refine lv_bipush (v := 7) hx hb dX3_packets_9 (by decide) ?_
  refine lv_idiv hx hb dX3_packets_11 (by decide) ?_
  refine lv_topi (fun x_3 ex_3 => ?_)
  obtain rfl : x_3 = (nI (((ms + 6) / 7))) := ex_3.trans ((pk_div (a := (ms + 6)) (d := 7) (by omega) (by omega) (by omega)).trans (show nI ((ms + 6) / 7) = nI (((ms + 6) / 7)) from congrArg nI (by omega)))
  exact W.iret (v := (nI (((ms + 6) / 7)))) hx hb hr (fun t ht hW => ⟨⟨(nI (((ms + 6) / 7))), (), rfl, congrArg nI (show (((ms + 6) / 7)) = ((ms + 6) / 7) from by omega), trivial⟩, hS.F ht⟩) hS.2.2 dX3_packets_12

noncomputable def tl_c_X3_writePacket : List Cond := wsX30 ++ (v_c_X3_fourFrom ++ (v_c_X10_identifier ++ (v_c_X1_write)))
noncomputable def v_c_X3_writePacket : List Cond := .code yX3_writePacket cX3_writePacket 6 none :: ([.initialized RX3, .methodLink RX3 32 yX3_fourFrom, .instanceMethod yX3_fourFrom, .selects RX3 yX3_fourFrom yX3_fourFrom, .fieldLink RX3 19 "ClaimBus$Message" "to" "I", .initialized RX10, .static yX10_identifier, .initialized RX1, .methodLink RX3 36 yX1_write, .instanceMethod yX1_write, .selects RX1 yX1_write yX1_write] ++ tl_c_X3_writePacket)
theorem it_c_X3_writePacket : ∀ w ∈ tl_c_X3_writePacket, w ∈ v_c_X3_writePacket := fun w h => List.mem_cons_of_mem _ (List.mem_append_right _ h)
theorem in_c_X3_writePacket_X3 : ∀ w ∈ wsX30, w ∈ v_c_X3_writePacket := fun w h => it_c_X3_writePacket w (List.mem_append_left _ h)
theorem ic_c_X3_writePacket_c_X3_fourFrom : ∀ w ∈ v_c_X3_fourFrom, w ∈ v_c_X3_writePacket := fun w h => it_c_X3_writePacket w (List.mem_append_right _ (List.mem_append_left _ h))
theorem ic_c_X3_writePacket_c_X10_identifier : ∀ w ∈ v_c_X10_identifier, w ∈ v_c_X3_writePacket := fun w h => it_c_X3_writePacket w (List.mem_append_right _ (List.mem_append_right _ (List.mem_append_left _ h)))
theorem ic_c_X3_writePacket_c_X1_write : ∀ w ∈ v_c_X1_write, w ∈ v_c_X3_writePacket := fun w h => it_c_X3_writePacket w (List.mem_append_right _ (List.mem_append_right _ (List.mem_append_right _ (h))))
theorem gt_c_X3_writePacket : ∀ w ∈ tl_c_X3_writePacket, goodWord w = true := List.forall_mem_append.mpr ⟨gw_wsX30, List.forall_mem_append.mpr ⟨gw_c_X3_fourFrom, List.forall_mem_append.mpr ⟨gw_c_X10_identifier, gw_c_X1_write⟩⟩⟩
theorem gw_c_X3_writePacket : ∀ w ∈ v_c_X3_writePacket, goodWord w = true := List.forall_mem_cons.mpr ⟨by decide +kernel, List.forall_mem_append.mpr ⟨List.all_eq_true.mp (by decide +kernel), gt_c_X3_writePacket⟩⟩
theorem g_c_X3_writePacket_c_X3_fourFrom_32 : GoodIn v_c_X3_writePacket (wsV RX3 32 RX3 yX3_fourFrom v_c_X3_fourFrom) := goodIn_app (goodIn_r [.methodLink RX3 32 yX3_fourFrom, .instanceMethod yX3_fourFrom, .selects RX3 yX3_fourFrom yX3_fourFrom, .initialized RX3] [2, 3, 4, 1] (by decide +kernel) (by decide +kernel)) (fun w h => ⟨ic_c_X3_writePacket_c_X3_fourFrom w h, good_of_word (gw_c_X3_fourFrom w h)⟩)
theorem g_c_X3_writePacket_c_X10_identifier_42 : GoodIn v_c_X3_writePacket v_c_X10_identifier := fun w h => ⟨ic_c_X3_writePacket_c_X10_identifier w h, good_of_word (gw_c_X10_identifier w h)⟩
theorem g_c_X3_writePacket_c_X1_write_36 : GoodIn v_c_X3_writePacket (wsV RX3 36 RX1 yX1_write v_c_X1_write) := goodIn_app (goodIn_r [.methodLink RX3 36 yX1_write, .instanceMethod yX1_write, .selects RX1 yX1_write yX1_write, .initialized RX1] [9, 10, 11, 8] (by decide +kernel) (by decide +kernel)) (fun w h => ⟨ic_c_X3_writePacket_c_X1_write w h, good_of_word (gw_c_X1_write w h)⟩)
set_option maxHeartbeats 4000000 in
set_option maxRecDepth 100000 in
/-- Message.writePacket -/
theorem c_X3_writePacket (l : Launch) (dC : Nat → ClassId) (dI : Nat → Nat → Nat) (h0 : Nat) (mi : Nat) (mt : Nat) (mg : Nat) (ms : Nat) (sd : Int32) (h1 : Nat) (fi : Nat) (ff : Int32) (fo : Int32) (fw : Nat) (ad : Nat) (nu : Nat) (sz : Nat) (hmi : mi < 8) (hmt : mt < 256) (hmg : mg < 262144) (hms : ms < 1786) (had : ad < 256) (hnu : 1 ≤ nu ∧ nu < 256) : Met l yX3_writePacket v_c_X3_writePacket ({ frames := 2, cells := 0, slots := 0, locals := 44 }) (va_Pc [.ref h0, .ref h1, .int (nI ad), .int (nI nu)] (fun U => U.heap.size = sz ∧ va_P (dC, dI) vwCl [(h0, .inr (4, [.int (nI mi), .int (nI mt), .int (nI mg), .int (nI ms), .int sd, .null])), (h1, .inr (2, [.int (nI fi), .int ff, .int fo, .ref fw]))] U.heap ∧ va_K (dC, dI) vwCl [] U ∧ va_D (fun _ => True) [(h0, .inr (4, [.int (nI mi), .int (nI mt), .int (nI mg), .int (nI ms), .int sd, .null])), (h1, .inr (2, [.int (nI fi), .int ff, .int fo, .ref fw]))] ∧ ev U)) (va_Qv (fun _ : Unit => True) (fun (_ : Unit) (t : State) => ∃ (zf : Int32) (zo : Int32), va_P (dC, dI) vwCl [(h0, .inr (4, [.int (nI mi), .int (nI mt), .int (nI mg), .int (nI ms), .int sd, .null])), (h1, .inr (2, [.int (nI (469762048 + 65536 * 235 + 256 * mt + ad)), .int zf, .int zo, .ref h0]))] t.heap ∧ va_K (dC, dI) vwCl [] t ∧ va_D (va_A [(h0, .inr (4, [.int (nI mi), .int (nI mt), .int (nI mg), .int (nI ms), .int sd, .null])), (h1, .inr (2, [.int (nI fi), .int ff, .int fo, .ref fw]))] sz) [(h0, .inr (4, [.int (nI mi), .int (nI mt), .int (nI mg), .int (nI ms), .int sd, .null])), (h1, .inr (2, [.int (nI (469762048 + 65536 * 235 + 256 * mt + ad)), .int zf, .int zo, .ref h0]))] ∧ (fb zf zo 0 = nI nu) ∧ (∀ i, i < 7 → fb zf zo (i + 1) = bx sd ms (7 * (nu - 1) + i))) (va_A [(h0, .inr (4, [.int (nI mi), .int (nI mt), .int (nI mg), .int (nI ms), .int sd, .null])), (h1, .inr (2, [.int (nI fi), .int ff, .int fo, .ref fw]))] sz)) 0 0 (va_A [(h0, .inr (4, [.int (nI mi), .int (nI mt), .int (nI mg), .int (nI ms), .int sd, .null])), (h1, .inr (2, [.int (nI fi), .int ff, .int fo, .ref fw]))] sz) := by
  refine Met.ofW (cc := cX3_writePacket) (maxL := 6) (ret := none) (by decide) rfl ?_
  intro p e s m args below meth c s₁ B hml hv
  obtain ⟨rfl, hsz, hP, hK, hD0, hE⟩ := hv
  have hx := B.exec
  have hb := B.bytes
  have hr := B.returns
  have hts := atoms_spec (ws := v_c_X3_writePacket) B.pre
  have hown : s.vm.findClass RX3 = some m.cls := findClass_of_methodNamed B.named
  have hlocks := B.notSynchronized
  subst hsz
  have hD := hD0.self (sz := s.heap.size)
  generalize hAe : va_A [(h0, .inr (4, [.int (nI mi), .int (nI mt), .int (nI mg), .int (nI ms), .int sd, .null])), (h1, .inr (2, [.int (nI fi), .int ff, .int fo, .ref fw]))] s.heap.size = A at hD ⊢
  have hA : ∀ q : Nat, s.heap.size ≤ q → A q := fun q h => by rw [← hAe]; exact Or.inr h
  have hS : va_S A s.heap s.heap [] := va_S.rf
  replace hP : va_P (dC, dI) vwCl [(h0, .inr (4, [.int (nI mi), .int (nI mt), .int (nI mg), .int (nI ms), .int sd, .null])), (h1, .inr (2, [.int (nI fi), .int ff, .int fo, .ref fw]))] s.heap := hP
  have hl := lv_entry ([.ref h0, .ref h1, .int (nI ad), .int (nI nu)]) (n := 6) (Nat.le_of_ble_eq_true rfl)
  rw [lg_entry_eq]
  generalize (lg_sl ([.ref h0, .ref h1, .int (nI ad), .int (nI nu)]) ++ List.replicate (6 - (lg_sl ([.ref h0, .ref h1, .int (nI ad), .int (nI nu)])).length) Slot.unset).toArray = ls at hl ⊢
  replace hl : lv_has ls 6 [(0, .ref h0), (1, .ref h1), (2, .int (nI ad)), (3, .int (nI nu))] := hl
  obtain ⟨H, hH⟩ : ∃ z : Heap, z = s.heap := ⟨_, rfl⟩
  rw [← hH]
  replace hS : va_S A s.heap H [] := by rw [hH]; exact va_S.rf
  replace hP : va_P (dC, dI) vwCl [(h0, .inr (4, [.int (nI mi), .int (nI mt), .int (nI mg), .int (nI ms), .int sd, .null])), (h1, .inr (2, [.int (nI fi), .int ff, .int fo, .ref fw]))] H := by rw [hH]; exact hP
  clear hH
  refine lv_iload_n hx hb dX3_writePacket_0 rfl (lv_at hl 3 rfl) ?_
  refine lv_iconst (v := 1) hx hb dX3_writePacket_1 (by decide) ?_
  refine lv_isub hx hb dX3_writePacket_2 ?_
  refine lv_topi (fun x_1 ex_1 => ?_)
  obtain rfl : x_1 = (nI (nu - 1)) := ex_1.trans ((pk_sub (a := nu) (b := 1) (by omega)).trans (show nI (nu - 1) = nI (nu - 1) from congrArg nI (by omega)))
  refine lv_bipush (v := 7) hx hb dX3_writePacket_3 (by decide) ?_
  refine lv_imul hx hb dX3_writePacket_5 ?_
  refine lv_topi (fun x_2 ex_2 => ?_)
  obtain rfl : x_2 = (nI (7 * nu - 7)) := ex_2.trans ((pk_mul (nu - 1) 7).trans (show nI ((nu - 1) * 7) = nI (7 * nu - 7) from congrArg nI (by omega)))
  refine lv_istore (lv' := [(4, .int (nI (7 * nu - 7))), (0, .ref h0), (1, .ref h1), (2, .int (nI ad)), (3, .int (nI nu))]) hx hb dX3_writePacket_6 hl (by decide) rfl (fun ls hl => ?_)
  refine lv_iload_n hx hb dX3_writePacket_8 rfl (lv_at hl 4 rfl) ?_
  refine lv_sipush (v := 255) hx hb dX3_writePacket_9 (by decide) ?_
  refine lv_iand hx hb dX3_writePacket_12 ?_
  refine lv_topi (fun x_3 ex_3 => ?_)
  obtain rfl : x_3 = (nI nu) := ex_3.trans ((pk_andN (n := nu) (m := 255) (by omega) 8 (by decide)).trans (show nI (nu % 2 ^ 8) = nI (nu) from congrArg nI (by omega)))
  refine lv_aload_n hx hb dX3_writePacket_13 rfl (lv_at hl 1 rfl) ?_
  refine lv_iload hx hb dX3_writePacket_14 (lv_at hl 0 rfl) ?_
  have hPc := hP.sub (ws' := [(h0, .inr (4, [.int (nI mi), .int (nI mt), .int (nI mg), .int (nI ms), .int sd, .null]))]) [0] rfl
  have hDc := hD.sub (ws' := [(h0, .inr (4, [.int (nI mi), .int (nI mt), .int (nI mg), .int (nI ms), .int sd, .null]))]) [0] (by decide +kernel) rfl
  have hKc := hK.sub (tys' := []) [] rfl
  have hFc := ro_free hS hA
  refine va_calli (va_runV (As := [.int (nI (7 * nu - 7))]) (rest := [.int (nI nu)]) ⟨hx, hb, hml, hown, hts⟩ (c_X3_fourFrom l dC dI (h0) (mi) (mt) (mg) (ms) (sd) ((7 * nu - 7)) H.size hmi hmt hmg hms (by omega)) (cwV 1 hts g_c_X3_writePacket_c_X3_fourFrom_32 rfl rfl rfl (by decide +kernel) ⟨Nat.le_of_ble_eq_true rfl, Nat.le_of_ble_eq_true rfl⟩) ⟨fun a U g mk q => by obtain ⟨q0, q1, qP, qK, qD, qE⟩ := q; exact ⟨q0, q1, qP, va_K.moved (u := U) (U := U.calling g mk a) (Vm.Alike.refl U.vm) qK, qD, ev.same (u := U) (U := U.calling g mk a) rfl qE⟩, va_recv hKc hPc (ci := 4) (q0 := 0) rfl rfl, fun U hU hW => ⟨rfl, by rw [hU], by rw [hU]; exact hPc, va_K.moved hW.alike hKc, hDc.weaken (fun _ _ _ _ => trivial), hE.warm hW⟩⟩ rfl rfl hl.1 rfl (lv_room (Nat.le_of_ble_eq_true rfl)) dX3_writePacket_16 ⟨Nat.le_of_ble_eq_true rfl, Nat.le_of_ble_eq_true rfl⟩) hS (fun q _ h => hFc q h) hFc (fun r_4 u t H1 locs ht hvm hw hB hz1 hk1 hS => ?_)
  clear hPc hDc hKc
  replace hP := ro_keep hP hk1
  generalize H1 = H at hP hS ⊢
  replace hP : va_P (dC, dI) vwCl [(h0, .inr (4, [.int (nI mi), .int (nI mt), .int (nI mg), .int (nI ms), .int sd, .null])), (h1, .inr (2, [.int (nI fi), .int ff, .int fo, .ref fw]))] H := hP
  have hw := hw.symm
  subst hw
  refine lv_bipush (v := 8) hx hb dX3_writePacket_19 (by decide) ?_
  refine lv_ishl hx hb dX3_writePacket_21 ?_
  refine lv_ior hx hb dX3_writePacket_22 ?_
  refine lv_istore (lv' := [(5, .int ((nI nu) ||| ((pk (bx sd ms (7 * nu - 7)) (bx sd ms ((7 * nu - 7) + 1)) (bx sd ms ((7 * nu - 7) + 2)) (bx sd ms ((7 * nu - 7) + 3))) <<< ((8 : Int32) &&& 31)))), (4, .int (nI (7 * nu - 7))), (0, .ref h0), (1, .ref h1), (2, .int (nI ad)), (3, .int (nI nu))]) hx hb dX3_writePacket_23 hl (by decide) rfl (fun ls hl => ?_)
  refine lv_aload_n hx hb dX3_writePacket_25 rfl (lv_at hl 3 rfl) ?_
  refine lv_sipush (v := 235) hx hb dX3_writePacket_26 (by decide) ?_
  refine lv_aload_n hx hb dX3_writePacket_29 rfl (lv_at hl 2 rfl) ?_
  refine va_get (D := (dC, dI)) (ci := 4) (v := .int (nI mt)) (C := RX3) (T := TX3) (N := 6) hx hb hts in_c_X3_writePacket_X3 hown hK hP 0 rfl rfl 1 (by decide) (hts (.fieldLink RX3 19 "ClaimBus$Message" "to" "I") (List.mem_of_getElem? (i := 5) rfl)) (fun _ h9 => h9) rfl dX3_writePacket_30 ?_
  refine lv_iload_n hx hb dX3_writePacket_33 rfl (lv_at hl 4 rfl) ?_
  have hPc := hP.sub (ws' := []) [] rfl
  have hDc := hD.sub (ws' := []) [] (by decide +kernel) rfl
  have hKc := hK.sub (tys' := []) [] rfl
  have hFc := ro_free hS hA
  refine va_calli (va_runSN (As := [.int 235, .int (nI mt), .int (nI ad)]) (rest := [.ref h1]) ⟨hx, hb, hml, hown, hts⟩ (c_X10_identifier l dC dI (235) (mt) (ad) H.size (by omega) hmt had) ⟨va_cnB 3 hts g_c_X3_writePacket_c_X10_identifier_42 rfl rfl rfl hE.n11 (hts (.initialized RX10) (List.mem_of_getElem? (i := 6) rfl)) (by decide +kernel) ⟨Nat.le_of_ble_eq_true rfl, Nat.le_of_ble_eq_true rfl⟩, (hts (.static yX10_identifier) (List.mem_of_getElem? (i := 7) rfl)), trivial⟩ ⟨fun a U g mk q => by obtain ⟨q0, q1, qP, qK, qD, qE⟩ := q; exact ⟨q0, q1, qP, va_K.moved (u := U) (U := U.calling g mk a) (Vm.Alike.refl U.vm) qK, qD, ev.same (u := U) (U := U.calling g mk a) rfl qE⟩, fun U hU hW => ⟨rfl, by rw [hU], by rw [hU]; exact hPc, va_K.moved hW.alike hKc, hDc.weaken (fun _ _ _ _ => trivial), hE.warm hW⟩⟩ rfl rfl hl.1 rfl (lv_room (Nat.le_of_ble_eq_true rfl)) dX3_writePacket_34 ⟨Nat.le_of_ble_eq_true rfl, Nat.le_of_ble_eq_true rfl⟩) hS (fun q _ h => hFc q h) hFc (fun r_5 u t H1 locs ht hvm hw hB hz1 hk1 hS => ?_)
  clear hPc hDc hKc
  replace hP := ro_keep hP hk1
  generalize H1 = H at hP hS ⊢
  replace hP : va_P (dC, dI) vwCl [(h0, .inr (4, [.int (nI mi), .int (nI mt), .int (nI mg), .int (nI ms), .int sd, .null])), (h1, .inr (2, [.int (nI fi), .int ff, .int fo, .ref fw]))] H := hP
  have hw := hw.symm
  subst hw
  refine lv_iload hx hb dX3_writePacket_37 (lv_at hl 0 rfl) ?_
  refine lv_aload_n hx hb dX3_writePacket_39 rfl (lv_at hl 2 rfl) ?_
  refine lv_iload hx hb dX3_writePacket_40 (lv_at hl 1 rfl) ?_
  refine lv_iconst (v := 3) hx hb dX3_writePacket_42 (by decide) ?_
  refine lv_iadd hx hb dX3_writePacket_43 ?_
  refine lv_topi (fun x_6 ex_6 => ?_)
  obtain rfl : x_6 = (nI (7 * nu - 4)) := ex_6.trans ((nI_add (7 * nu - 7) 3).trans (show nI ((7 * nu - 7) + 3) = nI (7 * nu - 4) from congrArg nI (by omega)))
  have hPc := hP.sub (ws' := [(h0, .inr (4, [.int (nI mi), .int (nI mt), .int (nI mg), .int (nI ms), .int sd, .null]))]) [0] rfl
  have hDc := hD.sub (ws' := [(h0, .inr (4, [.int (nI mi), .int (nI mt), .int (nI mg), .int (nI ms), .int sd, .null]))]) [0] (by decide +kernel) rfl
  have hKc := hK.sub (tys' := []) [] rfl
  have hFc := ro_free hS hA
  refine va_calli (va_runV (As := [.int (nI (7 * nu - 4))]) (rest := [.int ((nI nu) ||| ((pk (bx sd ms (7 * nu - 7)) (bx sd ms ((7 * nu - 7) + 1)) (bx sd ms ((7 * nu - 7) + 2)) (bx sd ms ((7 * nu - 7) + 3))) <<< ((8 : Int32) &&& 31))), .int (nI (469762048 + 65536 * 235 + 256 * mt + ad)), .ref h1]) ⟨hx, hb, hml, hown, hts⟩ (c_X3_fourFrom l dC dI (h0) (mi) (mt) (mg) (ms) (sd) ((7 * nu - 4)) H.size hmi hmt hmg hms (by omega)) (cwV 1 hts g_c_X3_writePacket_c_X3_fourFrom_32 rfl rfl rfl (by decide +kernel) ⟨Nat.le_of_ble_eq_true rfl, Nat.le_of_ble_eq_true rfl⟩) ⟨fun a U g mk q => by obtain ⟨q0, q1, qP, qK, qD, qE⟩ := q; exact ⟨q0, q1, qP, va_K.moved (u := U) (U := U.calling g mk a) (Vm.Alike.refl U.vm) qK, qD, ev.same (u := U) (U := U.calling g mk a) rfl qE⟩, va_recv hKc hPc (ci := 4) (q0 := 0) rfl rfl, fun U hU hW => ⟨rfl, by rw [hU], by rw [hU]; exact hPc, va_K.moved hW.alike hKc, hDc.weaken (fun _ _ _ _ => trivial), hE.warm hW⟩⟩ rfl rfl hl.1 rfl (lv_room (Nat.le_of_ble_eq_true rfl)) dX3_writePacket_44 ⟨Nat.le_of_ble_eq_true rfl, Nat.le_of_ble_eq_true rfl⟩) hS (fun q _ h => hFc q h) hFc (fun r_7 u t H1 locs ht hvm hw hB hz1 hk1 hS => ?_)
  clear hPc hDc hKc
  replace hP := ro_keep hP hk1
  generalize H1 = H at hP hS ⊢
  replace hP : va_P (dC, dI) vwCl [(h0, .inr (4, [.int (nI mi), .int (nI mt), .int (nI mg), .int (nI ms), .int sd, .null])), (h1, .inr (2, [.int (nI fi), .int ff, .int fo, .ref fw]))] H := hP
  have hw := hw.symm
  subst hw
  refine lv_aload_n hx hb dX3_writePacket_47 rfl (lv_at hl 2 rfl) ?_
  have hPc := hP.sub (ws' := [(h1, .inr (2, [.int (nI fi), .int ff, .int fo, .ref fw]))]) [1] rfl
  have hDc := hD.sub (ws' := [(h1, .inr (2, [.int (nI fi), .int ff, .int fo, .ref fw]))]) [1] (by decide +kernel) rfl
  have hKc := hK.sub (tys' := []) [] rfl
  have hFc := va_free (wc := [(h1, .inr (2, [.int (nI fi), .int ff, .int fo, .ref fw]))]) hD hS hA [1] rfl
  refine va_callv (va_runV (As := [.int (nI (469762048 + 65536 * 235 + 256 * mt + ad)), .int ((nI nu) ||| ((pk (bx sd ms (7 * nu - 7)) (bx sd ms ((7 * nu - 7) + 1)) (bx sd ms ((7 * nu - 7) + 2)) (bx sd ms ((7 * nu - 7) + 3))) <<< ((8 : Int32) &&& 31))), .int (pk (bx sd ms (7 * nu - 4)) (bx sd ms ((7 * nu - 4) + 1)) (bx sd ms ((7 * nu - 4) + 2)) (bx sd ms ((7 * nu - 4) + 3))), .ref h0]) (rest := []) ⟨hx, hb, hml, hown, hts⟩ (c_X1_write l dC dI (h1) (fi) (ff) (fo) (fw) ((469762048 + 65536 * 235 + 256 * mt + ad)) (((nI nu) ||| ((pk (bx sd ms (7 * nu - 7)) (bx sd ms ((7 * nu - 7) + 1)) (bx sd ms ((7 * nu - 7) + 2)) (bx sd ms ((7 * nu - 7) + 3))) <<< ((8 : Int32) &&& 31)))) ((pk (bx sd ms (7 * nu - 4)) (bx sd ms ((7 * nu - 4) + 1)) (bx sd ms ((7 * nu - 4) + 2)) (bx sd ms ((7 * nu - 4) + 3)))) (h0) H.size) (cwV 4 hts g_c_X3_writePacket_c_X1_write_36 rfl rfl rfl (by decide +kernel) ⟨Nat.le_of_ble_eq_true rfl, Nat.le_of_ble_eq_true rfl⟩) ⟨fun a U g mk q => by obtain ⟨q0, q1, qP, qK, qD, qE⟩ := q; exact ⟨q0, q1, qP, va_K.moved (u := U) (U := U.calling g mk a) (Vm.Alike.refl U.vm) qK, qD, ev.same (u := U) (U := U.calling g mk a) rfl qE⟩, va_recv hKc hPc (ci := 2) (q0 := 0) rfl rfl, fun U hU hW => ⟨rfl, by rw [hU], by rw [hU]; exact hPc, va_K.moved hW.alike hKc, hDc.weaken (fun _ _ _ _ => trivial), hE.warm hW⟩⟩ rfl rfl hl.1 rfl (lv_room (Nat.le_of_ble_eq_true rfl)) dX3_writePacket_48 ⟨Nat.le_of_ble_eq_true rfl, Nat.le_of_ble_eq_true rfl⟩) hS (fun q _ h => hFc q h) hFc (fun u t H1 locs ht hvm hw hB hz1 hk1 hS => ?_)
  clear hPc hDc hKc
  obtain ⟨hP1, hK1, hD1⟩ := hB
  rw [ht] at hP1
  have hK1 := va_K.moved hvm.symm hK1
  obtain ⟨hP, hD⟩ := va_join (wr := [(h0, .inr (4, [.int (nI mi), .int (nI mt), .int (nI mg), .int (nI ms), .int sd, .null]))]) (w1 := [(h1, .inr (2, [.int (nI (469762048 + 65536 * 235 + 256 * mt + ad)), .int ((nI nu) ||| ((pk (bx sd ms (7 * nu - 7)) (bx sd ms ((7 * nu - 7) + 1)) (bx sd ms ((7 * nu - 7) + 2)) (bx sd ms ((7 * nu - 7) + 3))) <<< ((8 : Int32) &&& 31))), .int (pk (bx sd ms (7 * nu - 4)) (bx sd ms ((7 * nu - 4) + 1)) (bx sd ms ((7 * nu - 4) + 2)) (bx sd ms ((7 * nu - 4) + 3))), .ref h0]))]) hP hD [1] [0] rfl rfl (by decide +kernel) (by decide +kernel) hk1 hFc hP1 hD1
  generalize H1 = H at hP hS ⊢
  replace hP : va_P (dC, dI) vwCl [(h0, .inr (4, [.int (nI mi), .int (nI mt), .int (nI mg), .int (nI ms), .int sd, .null])), (h1, .inr (2, [.int (nI (469762048 + 65536 * 235 + 256 * mt + ad)), .int ((nI nu) ||| ((pk (bx sd ms (7 * nu - 7)) (bx sd ms ((7 * nu - 7) + 1)) (bx sd ms ((7 * nu - 7) + 2)) (bx sd ms ((7 * nu - 7) + 3))) <<< ((8 : Int32) &&& 31))), .int (pk (bx sd ms (7 * nu - 4)) (bx sd ms ((7 * nu - 4) + 1)) (bx sd ms ((7 * nu - 4) + 2)) (bx sd ms ((7 * nu - 4) + 3))), .ref h0]))] H := hP
  replace hD : va_D A [(h0, .inr (4, [.int (nI mi), .int (nI mt), .int (nI mg), .int (nI ms), .int sd, .null])), (h1, .inr (2, [.int (nI (469762048 + 65536 * 235 + 256 * mt + ad)), .int ((nI nu) ||| ((pk (bx sd ms (7 * nu - 7)) (bx sd ms ((7 * nu - 7) + 1)) (bx sd ms ((7 * nu - 7) + 2)) (bx sd ms ((7 * nu - 7) + 3))) <<< ((8 : Int32) &&& 31))), .int (pk (bx sd ms (7 * nu - 4)) (bx sd ms ((7 * nu - 4) + 1)) (bx sd ms ((7 * nu - 4) + 2)) (bx sd ms ((7 * nu - 4) + 3))), .ref h0]))] := hD
  clear hw
  have hP9 := hP.sub (ws' := [(h0, .inr (4, [.int (nI mi), .int (nI mt), .int (nI mg), .int (nI ms), .int sd, .null])), (h1, .inr (2, [.int (nI (469762048 + 65536 * 235 + 256 * mt + ad)), .int ((nI nu) ||| ((pk (bx sd ms (7 * nu - 7)) (bx sd ms ((7 * nu - 7) + 1)) (bx sd ms ((7 * nu - 7) + 2)) (bx sd ms ((7 * nu - 7) + 3))) <<< ((8 : Int32) &&& 31))), .int (pk (bx sd ms (7 * nu - 4)) (bx sd ms ((7 * nu - 4) + 1)) (bx sd ms ((7 * nu - 4) + 2)) (bx sd ms ((7 * nu - 4) + 3))), .ref h0]))]) [0, 1] rfl
  have hD9 := hD.sub (ws' := [(h0, .inr (4, [.int (nI mi), .int (nI mt), .int (nI mg), .int (nI ms), .int sd, .null])), (h1, .inr (2, [.int (nI (469762048 + 65536 * 235 + 256 * mt + ad)), .int ((nI nu) ||| ((pk (bx sd ms (7 * nu - 7)) (bx sd ms ((7 * nu - 7) + 1)) (bx sd ms ((7 * nu - 7) + 2)) (bx sd ms ((7 * nu - 7) + 3))) <<< ((8 : Int32) &&& 31))), .int (pk (bx sd ms (7 * nu - 4)) (bx sd ms ((7 * nu - 4) + 1)) (bx sd ms ((7 * nu - 4) + 2)) (bx sd ms ((7 * nu - 4) + 3))), .ref h0]))]) [0, 1] (by decide +kernel) rfl
  have hK9 := hK.sub (tys' := []) [] rfl
  exact W.vret hx hb hr (fun t ht hW => ⟨⟨(), rfl, trivial, ⟨((nI nu) ||| ((pk (bx sd ms (7 * nu - 7)) (bx sd ms ((7 * nu - 7) + 1)) (bx sd ms ((7 * nu - 7) + 2)) (bx sd ms ((7 * nu - 7) + 3))) <<< ((8 : Int32) &&& 31))), (pk (bx sd ms (7 * nu - 4)) (bx sd ms ((7 * nu - 4) + 1)) (bx sd ms ((7 * nu - 4) + 2)) (bx sd ms ((7 * nu - 4) + 3))), by rw [ht]; exact hP9, va_K.moved hW.alike hK9, hD9, (pkt_bytes sd ms (7 * nu - 7) (7 * nu - 4) nu (by omega) (by omega)).1, fun i hi => ((pkt_bytes sd ms (7 * nu - 7) (7 * nu - 4) nu (by omega) (by omega)).2 i hi).trans (congrArg (bx sd ms) (by omega))⟩⟩, hS.F ht⟩) hS.2.2 dX3_writePacket_51

noncomputable def tl_c_X3_writeControl_16 : List Cond := wsX30 ++ (v_c_X3_packets ++ (v_c_X10_packN ++ (v_c_X1_write)))
noncomputable def v_c_X3_writeControl_16 : List Cond := .code yX3_writeControl cX3_writeControl 9 none :: ([.fieldLink RX3 25 "ClaimBus$Message" "size" "I", .initialized RX3, .methodLink RX3 46 yX3_packets, .instanceMethod yX3_packets, .selects RX3 yX3_packets yX3_packets, .initialized RX10, .static yX10_pack, .fieldLink RX3 22 "ClaimBus$Message" "group" "I", .initialized RX1, .methodLink RX3 36 yX1_write, .instanceMethod yX1_write, .selects RX1 yX1_write yX1_write] ++ tl_c_X3_writeControl_16)
theorem it_c_X3_writeControl_16 : ∀ w ∈ tl_c_X3_writeControl_16, w ∈ v_c_X3_writeControl_16 := fun w h => List.mem_cons_of_mem _ (List.mem_append_right _ h)
theorem in_c_X3_writeControl_16_X3 : ∀ w ∈ wsX30, w ∈ v_c_X3_writeControl_16 := fun w h => it_c_X3_writeControl_16 w (List.mem_append_left _ h)
theorem ic_c_X3_writeControl_16_c_X3_packets : ∀ w ∈ v_c_X3_packets, w ∈ v_c_X3_writeControl_16 := fun w h => it_c_X3_writeControl_16 w (List.mem_append_right _ (List.mem_append_left _ h))
theorem ic_c_X3_writeControl_16_c_X10_packN : ∀ w ∈ v_c_X10_packN, w ∈ v_c_X3_writeControl_16 := fun w h => it_c_X3_writeControl_16 w (List.mem_append_right _ (List.mem_append_right _ (List.mem_append_left _ h)))
theorem ic_c_X3_writeControl_16_c_X1_write : ∀ w ∈ v_c_X1_write, w ∈ v_c_X3_writeControl_16 := fun w h => it_c_X3_writeControl_16 w (List.mem_append_right _ (List.mem_append_right _ (List.mem_append_right _ (h))))
theorem gt_c_X3_writeControl_16 : ∀ w ∈ tl_c_X3_writeControl_16, goodWord w = true := List.forall_mem_append.mpr ⟨gw_wsX30, List.forall_mem_append.mpr ⟨gw_c_X3_packets, List.forall_mem_append.mpr ⟨gw_c_X10_packN, gw_c_X1_write⟩⟩⟩
theorem gw_c_X3_writeControl_16 : ∀ w ∈ v_c_X3_writeControl_16, goodWord w = true := List.forall_mem_cons.mpr ⟨by decide +kernel, List.forall_mem_append.mpr ⟨List.all_eq_true.mp (by decide +kernel), gt_c_X3_writeControl_16⟩⟩
theorem g_c_X3_writeControl_16_c_X3_packets_46 : GoodIn v_c_X3_writeControl_16 (wsV RX3 46 RX3 yX3_packets v_c_X3_packets) := goodIn_app (goodIn_r [.methodLink RX3 46 yX3_packets, .instanceMethod yX3_packets, .selects RX3 yX3_packets yX3_packets, .initialized RX3] [3, 4, 5, 2] (by decide +kernel) (by decide +kernel)) (fun w h => ⟨ic_c_X3_writeControl_16_c_X3_packets w h, good_of_word (gw_c_X3_packets w h)⟩)
theorem g_c_X3_writeControl_16_c_X10_packN_50 : GoodIn v_c_X3_writeControl_16 v_c_X10_packN := fun w h => ⟨ic_c_X3_writeControl_16_c_X10_packN w h, good_of_word (gw_c_X10_packN w h)⟩
theorem g_c_X3_writeControl_16_c_X1_write_36 : GoodIn v_c_X3_writeControl_16 (wsV RX3 36 RX1 yX1_write v_c_X1_write) := goodIn_app (goodIn_r [.methodLink RX3 36 yX1_write, .instanceMethod yX1_write, .selects RX1 yX1_write yX1_write, .initialized RX1] [10, 11, 12, 9] (by decide +kernel) (by decide +kernel)) (fun w h => ⟨ic_c_X3_writeControl_16_c_X1_write w h, good_of_word (gw_c_X1_write w h)⟩)
set_option maxHeartbeats 4000000 in
set_option maxRecDepth 100000 in
/-- Message.writeControl 16 -/
theorem c_X3_writeControl_16 (l : Launch) (dC : Nat → ClassId) (dI : Nat → Nat → Nat) (h0 : Nat) (mi : Nat) (mt : Nat) (mg : Nat) (ms : Nat) (sd : Int32) (h1 : Nat) (fi : Nat) (ff : Int32) (fo : Int32) (fw : Nat) (id : Nat) (se : Nat) (th : Nat) (sz : Nat) (hmi : mi < 8) (hmt : mt < 256) (hmg : mg < 262144) (hms : ms < 1786) (h_se : se < 256) (h_th : th < 256) : Met l yX3_writeControl v_c_X3_writeControl_16 ({ frames := 1, cells := 0, slots := 0, locals := 24 }) (va_Pc [.ref h0, .ref h1, .int (nI id), .int 16, .int (nI se), .int (nI th)] (fun U => U.heap.size = sz ∧ va_P (dC, dI) vwCl [(h0, .inr (4, [.int (nI mi), .int (nI mt), .int (nI mg), .int (nI ms), .int sd, .null])), (h1, .inr (2, [.int (nI fi), .int ff, .int fo, .ref fw]))] U.heap ∧ va_K (dC, dI) vwCl [] U ∧ va_D (fun _ => True) [(h0, .inr (4, [.int (nI mi), .int (nI mt), .int (nI mg), .int (nI ms), .int sd, .null])), (h1, .inr (2, [.int (nI fi), .int ff, .int fo, .ref fw]))] ∧ ev U)) (va_Qv (fun _ : Unit => True) (fun (_ : Unit) (t : State) => va_P (dC, dI) vwCl [(h0, .inr (4, [.int (nI mi), .int (nI mt), .int (nI mg), .int (nI ms), .int sd, .null])), (h1, .inr (2, [.int (nI id), .int (nI (16 + 256 * (ms % 256) + 65536 * (ms / 256) + 16777216 * ((ms + 6) / 7))), .int (nI (se + 256 * mg)), .ref h0]))] t.heap ∧ va_K (dC, dI) vwCl [] t ∧ va_D (va_A [(h0, .inr (4, [.int (nI mi), .int (nI mt), .int (nI mg), .int (nI ms), .int sd, .null])), (h1, .inr (2, [.int (nI fi), .int ff, .int fo, .ref fw]))] sz) [(h0, .inr (4, [.int (nI mi), .int (nI mt), .int (nI mg), .int (nI ms), .int sd, .null])), (h1, .inr (2, [.int (nI id), .int (nI (16 + 256 * (ms % 256) + 65536 * (ms / 256) + 16777216 * ((ms + 6) / 7))), .int (nI (se + 256 * mg)), .ref h0]))]) (va_A [(h0, .inr (4, [.int (nI mi), .int (nI mt), .int (nI mg), .int (nI ms), .int sd, .null])), (h1, .inr (2, [.int (nI fi), .int ff, .int fo, .ref fw]))] sz)) 0 0 (va_A [(h0, .inr (4, [.int (nI mi), .int (nI mt), .int (nI mg), .int (nI ms), .int sd, .null])), (h1, .inr (2, [.int (nI fi), .int ff, .int fo, .ref fw]))] sz) := by
  refine Met.ofW (cc := cX3_writeControl) (maxL := 9) (ret := none) (by decide) rfl ?_
  intro p e s m args below meth c s₁ B hml hv
  obtain ⟨rfl, hsz, hP, hK, hD0, hE⟩ := hv
  have hx := B.exec
  have hb := B.bytes
  have hr := B.returns
  have hts := atoms_spec (ws := v_c_X3_writeControl_16) B.pre
  have hown : s.vm.findClass RX3 = some m.cls := findClass_of_methodNamed B.named
  have hlocks := B.notSynchronized
  subst hsz
  have hD := hD0.self (sz := s.heap.size)
  generalize hAe : va_A [(h0, .inr (4, [.int (nI mi), .int (nI mt), .int (nI mg), .int (nI ms), .int sd, .null])), (h1, .inr (2, [.int (nI fi), .int ff, .int fo, .ref fw]))] s.heap.size = A at hD ⊢
  have hA : ∀ q : Nat, s.heap.size ≤ q → A q := fun q h => by rw [← hAe]; exact Or.inr h
  have hS : va_S A s.heap s.heap [] := va_S.rf
  replace hP : va_P (dC, dI) vwCl [(h0, .inr (4, [.int (nI mi), .int (nI mt), .int (nI mg), .int (nI ms), .int sd, .null])), (h1, .inr (2, [.int (nI fi), .int ff, .int fo, .ref fw]))] s.heap := hP
  have hl := lv_entry ([.ref h0, .ref h1, .int (nI id), .int 16, .int (nI se), .int (nI th)]) (n := 9) (Nat.le_of_ble_eq_true rfl)
  rw [lg_entry_eq]
  generalize (lg_sl ([.ref h0, .ref h1, .int (nI id), .int 16, .int (nI se), .int (nI th)]) ++ List.replicate (9 - (lg_sl ([.ref h0, .ref h1, .int (nI id), .int 16, .int (nI se), .int (nI th)])).length) Slot.unset).toArray = ls at hl ⊢
  replace hl : lv_has ls 9 [(0, .ref h0), (1, .ref h1), (2, .int (nI id)), (3, .int 16), (4, .int (nI se)), (5, .int (nI th))] := hl
  obtain ⟨H, hH⟩ : ∃ z : Heap, z = s.heap := ⟨_, rfl⟩
  rw [← hH]
  replace hS : va_S A s.heap H [] := by rw [hH]; exact va_S.rf
  replace hP : va_P (dC, dI) vwCl [(h0, .inr (4, [.int (nI mi), .int (nI mt), .int (nI mg), .int (nI ms), .int sd, .null])), (h1, .inr (2, [.int (nI fi), .int ff, .int fo, .ref fw]))] H := by rw [hH]; exact hP
  clear hH
  refine lv_iload_n hx hb dX3_writeControl_0 rfl (lv_at hl 3 rfl) ?_
  refine lv_bipush (v := 17) hx hb dX3_writeControl_1 (by decide) ?_
  refine lv_icmp_eq (tgt := 17) hx hb dX3_writeControl_3 (by decide) (fun c_1 => ?_) (fun c_1 => ?_)
  · exact absurd c_1 (by decide)
  refine lv_iload_n hx hb dX3_writeControl_6 rfl (lv_at hl 3 rfl) ?_
  refine lv_sipush (v := 255) hx hb dX3_writeControl_7 (by decide) ?_
  refine lv_icmp_eq (tgt := 17) hx hb dX3_writeControl_10 (by decide) (fun c_2 => ?_) (fun c_2 => ?_)
  · exact absurd c_2 (by decide)
  refine lv_iconst (v := 1) hx hb dX3_writeControl_13 (by decide) ?_
  refine lv_goto (tgt := 18) hx hb dX3_writeControl_14 (by decide) ?_
  refine lv_istore (lv' := [(6, .int 1), (0, .ref h0), (1, .ref h1), (2, .int (nI id)), (3, .int 16), (4, .int (nI se)), (5, .int (nI th))]) hx hb dX3_writeControl_18 hl (by decide) rfl (fun ls hl => ?_)
  refine lv_iload hx hb dX3_writeControl_20 (lv_at hl 0 rfl) ?_
  refine lv_if_eq (tgt := 47) hx hb dX3_writeControl_22 (by decide) (fun c_3 => ?_) (fun c_3 => ?_)
  · exact absurd c_3 (by decide)
  refine lv_iload_n hx hb dX3_writeControl_25 rfl (lv_at hl 4 rfl) ?_
  refine lv_aload_n hx hb dX3_writeControl_26 rfl (lv_at hl 1 rfl) ?_
  refine va_get (D := (dC, dI)) (ci := 4) (v := .int (nI ms)) (C := RX3) (T := TX3) (N := 6) hx hb hts in_c_X3_writeControl_16_X3 hown hK hP 0 rfl rfl 3 (by decide) (hts (.fieldLink RX3 25 "ClaimBus$Message" "size" "I") (List.mem_of_getElem? (i := 1) rfl)) (fun _ h9 => h9) rfl dX3_writeControl_27 ?_
  refine lv_aload_n hx hb dX3_writeControl_30 rfl (lv_at hl 1 rfl) ?_
  refine va_get (D := (dC, dI)) (ci := 4) (v := .int (nI ms)) (C := RX3) (T := TX3) (N := 6) hx hb hts in_c_X3_writeControl_16_X3 hown hK hP 0 rfl rfl 3 (by decide) (hts (.fieldLink RX3 25 "ClaimBus$Message" "size" "I") (List.mem_of_getElem? (i := 1) rfl)) (fun _ h9 => h9) rfl dX3_writeControl_31 ?_
  refine lv_bipush (v := 8) hx hb dX3_writeControl_34 (by decide) ?_
  refine lv_ishr hx hb dX3_writeControl_36 ?_
  refine lv_topi (fun x_4 ex_4 => ?_)
  obtain rfl : x_4 = (nI (((ms) / 256))) := ex_4.trans ((pk_shrN (n := ms) (by omega) ((8 : Int32) &&& 31) 8 (by decide)).trans (show nI (ms / 2 ^ 8) = nI (((ms) / 256)) from congrArg nI (by omega)))
  refine lv_aload_n hx hb dX3_writeControl_37 rfl (lv_at hl 1 rfl) ?_
  have hPc := hP.sub (ws' := [(h0, .inr (4, [.int (nI mi), .int (nI mt), .int (nI mg), .int (nI ms), .int sd, .null]))]) [0] rfl
  have hDc := hD.sub (ws' := [(h0, .inr (4, [.int (nI mi), .int (nI mt), .int (nI mg), .int (nI ms), .int sd, .null]))]) [0] (by decide +kernel) rfl
  have hKc := hK.sub (tys' := []) [] rfl
  have hFc := ro_free hS hA
  refine va_calli (va_runV (As := []) (rest := [.int (nI (((ms) / 256))), .int (nI ms), .int 16]) ⟨hx, hb, hml, hown, hts⟩ (c_X3_packets l dC dI (h0) (mi) (mt) (mg) (ms) (sd) H.size hmi hmt hmg hms) (cwV 0 hts g_c_X3_writeControl_16_c_X3_packets_46 rfl rfl rfl (by decide +kernel) ⟨Nat.le_of_ble_eq_true rfl, Nat.le_of_ble_eq_true rfl⟩) ⟨fun a U g mk q => by obtain ⟨q0, q1, qP, qK, qD, qE⟩ := q; exact ⟨q0, q1, qP, va_K.moved (u := U) (U := U.calling g mk a) (Vm.Alike.refl U.vm) qK, qD, ev.same (u := U) (U := U.calling g mk a) rfl qE⟩, va_recv hKc hPc (ci := 4) (q0 := 0) rfl rfl, fun U hU hW => ⟨rfl, by rw [hU], by rw [hU]; exact hPc, va_K.moved hW.alike hKc, hDc.weaken (fun _ _ _ _ => trivial), hE.warm hW⟩⟩ rfl rfl hl.1 rfl (lv_room (Nat.le_of_ble_eq_true rfl)) dX3_writeControl_38 ⟨Nat.le_of_ble_eq_true rfl, Nat.le_of_ble_eq_true rfl⟩) hS (fun q _ h => hFc q h) hFc (fun r_5 u t H1 locs ht hvm hw hB hz1 hk1 hS => ?_)
  clear hPc hDc hKc
  replace hP := ro_keep hP hk1
  generalize H1 = H at hP hS ⊢
  replace hP : va_P (dC, dI) vwCl [(h0, .inr (4, [.int (nI mi), .int (nI mt), .int (nI mg), .int (nI ms), .int sd, .null])), (h1, .inr (2, [.int (nI fi), .int ff, .int fo, .ref fw]))] H := hP
  have hw := hw.symm
  subst hw
  have hPc := hP.sub (ws' := []) [] rfl
  have hDc := hD.sub (ws' := []) [] (by decide +kernel) rfl
  have hKc := hK.sub (tys' := []) [] rfl
  have hFc := ro_free hS hA
  refine va_calli (va_runSN (As := [.int 16, .int (nI ms), .int (nI (((ms) / 256))), .int (nI ((ms + 6) / 7))]) (rest := []) ⟨hx, hb, hml, hown, hts⟩ (c_X10_packN l dC dI (16) (ms) ((((ms) / 256))) (((ms + 6) / 7)) H.size (by omega) (by omega) (by omega) (by omega)) ⟨va_cnB 4 hts g_c_X3_writeControl_16_c_X10_packN_50 rfl rfl rfl hE.n10 (hts (.initialized RX10) (List.mem_of_getElem? (i := 6) rfl)) (by decide +kernel) ⟨Nat.le_of_ble_eq_true rfl, Nat.le_of_ble_eq_true rfl⟩, (hts (.static yX10_pack) (List.mem_of_getElem? (i := 7) rfl)), trivial⟩ ⟨fun a U g mk q => by obtain ⟨q0, q1, qP, qK, qD, qE⟩ := q; exact ⟨q0, q1, qP, va_K.moved (u := U) (U := U.calling g mk a) (Vm.Alike.refl U.vm) qK, qD, ev.same (u := U) (U := U.calling g mk a) rfl qE⟩, fun U hU hW => ⟨rfl, by rw [hU], by rw [hU]; exact hPc, va_K.moved hW.alike hKc, hDc.weaken (fun _ _ _ _ => trivial), hE.warm hW⟩⟩ rfl rfl hl.1 rfl (lv_room (Nat.le_of_ble_eq_true rfl)) dX3_writeControl_41 ⟨Nat.le_of_ble_eq_true rfl, Nat.le_of_ble_eq_true rfl⟩) hS (fun q _ h => hFc q h) hFc (fun r_6 u t H1 locs ht hvm hw hB hz1 hk1 hS => ?_)
  clear hPc hDc hKc
  replace hP := ro_keep hP hk1
  generalize H1 = H at hP hS ⊢
  replace hP : va_P (dC, dI) vwCl [(h0, .inr (4, [.int (nI mi), .int (nI mt), .int (nI mg), .int (nI ms), .int sd, .null])), (h1, .inr (2, [.int (nI fi), .int ff, .int fo, .ref fw]))] H := hP
  have hw := hw.symm
  subst hw
  refine lv_goto (tgt := 58) hx hb dX3_writeControl_44 (by decide) ?_
  refine lv_istore (lv' := [(7, .int (nI (16 % 256 + 256 * (ms % 256) + 65536 * ((((ms) / 256)) % 256) + 16777216 * ((ms + 6) / 7)))), (6, .int 1), (0, .ref h0), (1, .ref h1), (2, .int (nI id)), (3, .int 16), (4, .int (nI se)), (5, .int (nI th))]) hx hb dX3_writeControl_58 hl (by decide) rfl (fun ls hl => ?_)
  refine lv_iload hx hb dX3_writeControl_60 (lv_at hl 1 rfl) ?_
  refine lv_if_eq (tgt := 70) hx hb dX3_writeControl_62 (by decide) (fun c_7 => ?_) (fun c_7 => ?_)
  · exact absurd c_7 (by decide)
  refine lv_iload hx hb dX3_writeControl_65 (lv_at hl 6 rfl) ?_
  refine lv_goto (tgt := 73) hx hb dX3_writeControl_67 (by decide) ?_
  refine lv_istore (lv' := [(8, .int (nI se)), (7, .int (nI (16 % 256 + 256 * (ms % 256) + 65536 * ((((ms) / 256)) % 256) + 16777216 * ((ms + 6) / 7)))), (6, .int 1), (0, .ref h0), (1, .ref h1), (2, .int (nI id)), (3, .int 16), (4, .int (nI se)), (5, .int (nI th))]) hx hb dX3_writeControl_73 hl (by decide) rfl (fun ls hl => ?_)
  refine lv_aload_n hx hb dX3_writeControl_75 rfl (lv_at hl 4 rfl) ?_
  refine lv_iload_n hx hb dX3_writeControl_76 rfl (lv_at hl 5 rfl) ?_
  refine lv_iload hx hb dX3_writeControl_77 (lv_at hl 1 rfl) ?_
  refine lv_iload hx hb dX3_writeControl_79 (lv_at hl 0 rfl) ?_
  refine lv_aload_n hx hb dX3_writeControl_81 rfl (lv_at hl 3 rfl) ?_
  refine va_get (D := (dC, dI)) (ci := 4) (v := .int (nI mg)) (C := RX3) (T := TX3) (N := 6) hx hb hts in_c_X3_writeControl_16_X3 hown hK hP 0 rfl rfl 2 (by decide) (hts (.fieldLink RX3 22 "ClaimBus$Message" "group" "I") (List.mem_of_getElem? (i := 8) rfl)) (fun _ h9 => h9) rfl dX3_writeControl_82 ?_
  refine lv_bipush (v := 8) hx hb dX3_writeControl_85 (by decide) ?_
  refine lv_ishl hx hb dX3_writeControl_87 ?_
  refine lv_topi (fun x_8 ex_8 => ?_)
  obtain rfl : x_8 = (nI (256 * mg)) := ex_8.trans ((pk_shlN (n := mg) ((8 : Int32) &&& 31) 8 (by decide) (by omega)).trans (show nI (mg * 2 ^ 8) = nI (256 * mg) from congrArg nI (by omega)))
  refine lv_ior hx hb dX3_writeControl_88 ?_
  refine lv_topi (fun x_9 ex_9 => ?_)
  obtain rfl : x_9 = (nI (256 * mg + se)) := ex_9.trans ((q_or' se (256 * mg) 8 (by omega) (by omega) (by omega)).trans (show nI (se + (256 * mg)) = nI (256 * mg + se) from congrArg nI (by omega)))
  refine lv_aload_n hx hb dX3_writeControl_89 rfl (lv_at hl 3 rfl) ?_
  have hPc := hP.sub (ws' := [(h1, .inr (2, [.int (nI fi), .int ff, .int fo, .ref fw]))]) [1] rfl
  have hDc := hD.sub (ws' := [(h1, .inr (2, [.int (nI fi), .int ff, .int fo, .ref fw]))]) [1] (by decide +kernel) rfl
  have hKc := hK.sub (tys' := []) [] rfl
  have hFc := va_free (wc := [(h1, .inr (2, [.int (nI fi), .int ff, .int fo, .ref fw]))]) hD hS hA [1] rfl
  refine va_callv (va_runV (As := [.int (nI id), .int (nI (16 % 256 + 256 * (ms % 256) + 65536 * ((((ms) / 256)) % 256) + 16777216 * ((ms + 6) / 7))), .int (nI (256 * mg + se)), .ref h0]) (rest := []) ⟨hx, hb, hml, hown, hts⟩ (c_X1_write l dC dI (h1) (fi) (ff) (fo) (fw) (id) ((nI (16 % 256 + 256 * (ms % 256) + 65536 * ((((ms) / 256)) % 256) + 16777216 * ((ms + 6) / 7)))) ((nI (256 * mg + se))) (h0) H.size) (cwV 4 hts g_c_X3_writeControl_16_c_X1_write_36 rfl rfl rfl (by decide +kernel) ⟨Nat.le_of_ble_eq_true rfl, Nat.le_of_ble_eq_true rfl⟩) ⟨fun a U g mk q => by obtain ⟨q0, q1, qP, qK, qD, qE⟩ := q; exact ⟨q0, q1, qP, va_K.moved (u := U) (U := U.calling g mk a) (Vm.Alike.refl U.vm) qK, qD, ev.same (u := U) (U := U.calling g mk a) rfl qE⟩, va_recv hKc hPc (ci := 2) (q0 := 0) rfl rfl, fun U hU hW => ⟨rfl, by rw [hU], by rw [hU]; exact hPc, va_K.moved hW.alike hKc, hDc.weaken (fun _ _ _ _ => trivial), hE.warm hW⟩⟩ rfl rfl hl.1 rfl (lv_room (Nat.le_of_ble_eq_true rfl)) dX3_writeControl_90 ⟨Nat.le_of_ble_eq_true rfl, Nat.le_of_ble_eq_true rfl⟩) hS (fun q _ h => hFc q h) hFc (fun u t H1 locs ht hvm hw hB hz1 hk1 hS => ?_)
  clear hPc hDc hKc
  obtain ⟨hP1, hK1, hD1⟩ := hB
  rw [ht] at hP1
  have hK1 := va_K.moved hvm.symm hK1
  obtain ⟨hP, hD⟩ := va_join (wr := [(h0, .inr (4, [.int (nI mi), .int (nI mt), .int (nI mg), .int (nI ms), .int sd, .null]))]) (w1 := [(h1, .inr (2, [.int (nI id), .int (nI (16 % 256 + 256 * (ms % 256) + 65536 * ((((ms) / 256)) % 256) + 16777216 * ((ms + 6) / 7))), .int (nI (256 * mg + se)), .ref h0]))]) hP hD [1] [0] rfl rfl (by decide +kernel) (by decide +kernel) hk1 hFc hP1 hD1
  generalize H1 = H at hP hS ⊢
  replace hP : va_P (dC, dI) vwCl [(h0, .inr (4, [.int (nI mi), .int (nI mt), .int (nI mg), .int (nI ms), .int sd, .null])), (h1, .inr (2, [.int (nI id), .int (nI (16 % 256 + 256 * (ms % 256) + 65536 * ((((ms) / 256)) % 256) + 16777216 * ((ms + 6) / 7))), .int (nI (256 * mg + se)), .ref h0]))] H := hP
  replace hD : va_D A [(h0, .inr (4, [.int (nI mi), .int (nI mt), .int (nI mg), .int (nI ms), .int sd, .null])), (h1, .inr (2, [.int (nI id), .int (nI (16 % 256 + 256 * (ms % 256) + 65536 * ((((ms) / 256)) % 256) + 16777216 * ((ms + 6) / 7))), .int (nI (256 * mg + se)), .ref h0]))] := hD
  clear hw
  rw [show ((nI (16 % 256 + 256 * (ms % 256) + 65536 * ((((ms) / 256)) % 256) + 16777216 * ((ms + 6) / 7))) : Int32) = (nI (16 + 256 * (ms % 256) + 65536 * (ms / 256) + 16777216 * ((ms + 6) / 7))) from congrArg nI (show (16 % 256 + 256 * (ms % 256) + 65536 * ((((ms) / 256)) % 256) + 16777216 * ((ms + 6) / 7)) = (16 + 256 * (ms % 256) + 65536 * (ms / 256) + 16777216 * ((ms + 6) / 7)) from by omega)] at hP hD
  rw [show ((nI (256 * mg + se)) : Int32) = (nI (se + 256 * mg)) from congrArg nI (show (256 * mg + se) = (se + 256 * mg) from by omega)] at hP hD
  have hP9 := hP.sub (ws' := [(h0, .inr (4, [.int (nI mi), .int (nI mt), .int (nI mg), .int (nI ms), .int sd, .null])), (h1, .inr (2, [.int (nI id), .int (nI (16 + 256 * (ms % 256) + 65536 * (ms / 256) + 16777216 * ((ms + 6) / 7))), .int (nI (se + 256 * mg)), .ref h0]))]) [0, 1] rfl
  have hD9 := hD.sub (ws' := [(h0, .inr (4, [.int (nI mi), .int (nI mt), .int (nI mg), .int (nI ms), .int sd, .null])), (h1, .inr (2, [.int (nI id), .int (nI (16 + 256 * (ms % 256) + 65536 * (ms / 256) + 16777216 * ((ms + 6) / 7))), .int (nI (se + 256 * mg)), .ref h0]))]) [0, 1] (by decide +kernel) rfl
  have hK9 := hK.sub (tys' := []) [] rfl
  exact W.vret hx hb hr (fun t ht hW => ⟨⟨(), rfl, trivial, ⟨by rw [ht]; exact hP9, va_K.moved hW.alike hK9, hD9⟩⟩, hS.F ht⟩) hS.2.2 dX3_writeControl_93

noncomputable def tl_c_X3_writeControl_19 : List Cond := wsX30 ++ (v_c_X3_packets ++ (v_c_X10_packN ++ (v_c_X1_write)))
noncomputable def v_c_X3_writeControl_19 : List Cond := .code yX3_writeControl cX3_writeControl 9 none :: ([.fieldLink RX3 25 "ClaimBus$Message" "size" "I", .initialized RX3, .methodLink RX3 46 yX3_packets, .instanceMethod yX3_packets, .selects RX3 yX3_packets yX3_packets, .initialized RX10, .static yX10_pack, .fieldLink RX3 22 "ClaimBus$Message" "group" "I", .initialized RX1, .methodLink RX3 36 yX1_write, .instanceMethod yX1_write, .selects RX1 yX1_write yX1_write] ++ tl_c_X3_writeControl_19)
theorem it_c_X3_writeControl_19 : ∀ w ∈ tl_c_X3_writeControl_19, w ∈ v_c_X3_writeControl_19 := fun w h => List.mem_cons_of_mem _ (List.mem_append_right _ h)
theorem in_c_X3_writeControl_19_X3 : ∀ w ∈ wsX30, w ∈ v_c_X3_writeControl_19 := fun w h => it_c_X3_writeControl_19 w (List.mem_append_left _ h)
theorem ic_c_X3_writeControl_19_c_X3_packets : ∀ w ∈ v_c_X3_packets, w ∈ v_c_X3_writeControl_19 := fun w h => it_c_X3_writeControl_19 w (List.mem_append_right _ (List.mem_append_left _ h))
theorem ic_c_X3_writeControl_19_c_X10_packN : ∀ w ∈ v_c_X10_packN, w ∈ v_c_X3_writeControl_19 := fun w h => it_c_X3_writeControl_19 w (List.mem_append_right _ (List.mem_append_right _ (List.mem_append_left _ h)))
theorem ic_c_X3_writeControl_19_c_X1_write : ∀ w ∈ v_c_X1_write, w ∈ v_c_X3_writeControl_19 := fun w h => it_c_X3_writeControl_19 w (List.mem_append_right _ (List.mem_append_right _ (List.mem_append_right _ (h))))
theorem gt_c_X3_writeControl_19 : ∀ w ∈ tl_c_X3_writeControl_19, goodWord w = true := List.forall_mem_append.mpr ⟨gw_wsX30, List.forall_mem_append.mpr ⟨gw_c_X3_packets, List.forall_mem_append.mpr ⟨gw_c_X10_packN, gw_c_X1_write⟩⟩⟩
theorem gw_c_X3_writeControl_19 : ∀ w ∈ v_c_X3_writeControl_19, goodWord w = true := List.forall_mem_cons.mpr ⟨by decide +kernel, List.forall_mem_append.mpr ⟨List.all_eq_true.mp (by decide +kernel), gt_c_X3_writeControl_19⟩⟩
theorem g_c_X3_writeControl_19_c_X3_packets_46 : GoodIn v_c_X3_writeControl_19 (wsV RX3 46 RX3 yX3_packets v_c_X3_packets) := goodIn_app (goodIn_r [.methodLink RX3 46 yX3_packets, .instanceMethod yX3_packets, .selects RX3 yX3_packets yX3_packets, .initialized RX3] [3, 4, 5, 2] (by decide +kernel) (by decide +kernel)) (fun w h => ⟨ic_c_X3_writeControl_19_c_X3_packets w h, good_of_word (gw_c_X3_packets w h)⟩)
theorem g_c_X3_writeControl_19_c_X10_packN_50 : GoodIn v_c_X3_writeControl_19 v_c_X10_packN := fun w h => ⟨ic_c_X3_writeControl_19_c_X10_packN w h, good_of_word (gw_c_X10_packN w h)⟩
theorem g_c_X3_writeControl_19_c_X1_write_36 : GoodIn v_c_X3_writeControl_19 (wsV RX3 36 RX1 yX1_write v_c_X1_write) := goodIn_app (goodIn_r [.methodLink RX3 36 yX1_write, .instanceMethod yX1_write, .selects RX1 yX1_write yX1_write, .initialized RX1] [10, 11, 12, 9] (by decide +kernel) (by decide +kernel)) (fun w h => ⟨ic_c_X3_writeControl_19_c_X1_write w h, good_of_word (gw_c_X1_write w h)⟩)
set_option maxHeartbeats 4000000 in
set_option maxRecDepth 100000 in
/-- Message.writeControl 19 -/
theorem c_X3_writeControl_19 (l : Launch) (dC : Nat → ClassId) (dI : Nat → Nat → Nat) (h0 : Nat) (mi : Nat) (mt : Nat) (mg : Nat) (ms : Nat) (sd : Int32) (h1 : Nat) (fi : Nat) (ff : Int32) (fo : Int32) (fw : Nat) (id : Nat) (se : Nat) (th : Nat) (sz : Nat) (hmi : mi < 8) (hmt : mt < 256) (hmg : mg < 262144) (hms : ms < 1786) (h_se : se < 256) (h_th : th < 256) : Met l yX3_writeControl v_c_X3_writeControl_19 ({ frames := 1, cells := 0, slots := 0, locals := 24 }) (va_Pc [.ref h0, .ref h1, .int (nI id), .int 19, .int (nI se), .int (nI th)] (fun U => U.heap.size = sz ∧ va_P (dC, dI) vwCl [(h0, .inr (4, [.int (nI mi), .int (nI mt), .int (nI mg), .int (nI ms), .int sd, .null])), (h1, .inr (2, [.int (nI fi), .int ff, .int fo, .ref fw]))] U.heap ∧ va_K (dC, dI) vwCl [] U ∧ va_D (fun _ => True) [(h0, .inr (4, [.int (nI mi), .int (nI mt), .int (nI mg), .int (nI ms), .int sd, .null])), (h1, .inr (2, [.int (nI fi), .int ff, .int fo, .ref fw]))] ∧ ev U)) (va_Qv (fun _ : Unit => True) (fun (_ : Unit) (t : State) => va_P (dC, dI) vwCl [(h0, .inr (4, [.int (nI mi), .int (nI mt), .int (nI mg), .int (nI ms), .int sd, .null])), (h1, .inr (2, [.int (nI id), .int (nI (19 + 256 * (ms % 256) + 65536 * (ms / 256) + 16777216 * ((ms + 6) / 7))), .int (nI (se + 256 * mg)), .ref h0]))] t.heap ∧ va_K (dC, dI) vwCl [] t ∧ va_D (va_A [(h0, .inr (4, [.int (nI mi), .int (nI mt), .int (nI mg), .int (nI ms), .int sd, .null])), (h1, .inr (2, [.int (nI fi), .int ff, .int fo, .ref fw]))] sz) [(h0, .inr (4, [.int (nI mi), .int (nI mt), .int (nI mg), .int (nI ms), .int sd, .null])), (h1, .inr (2, [.int (nI id), .int (nI (19 + 256 * (ms % 256) + 65536 * (ms / 256) + 16777216 * ((ms + 6) / 7))), .int (nI (se + 256 * mg)), .ref h0]))]) (va_A [(h0, .inr (4, [.int (nI mi), .int (nI mt), .int (nI mg), .int (nI ms), .int sd, .null])), (h1, .inr (2, [.int (nI fi), .int ff, .int fo, .ref fw]))] sz)) 0 0 (va_A [(h0, .inr (4, [.int (nI mi), .int (nI mt), .int (nI mg), .int (nI ms), .int sd, .null])), (h1, .inr (2, [.int (nI fi), .int ff, .int fo, .ref fw]))] sz) := by
  refine Met.ofW (cc := cX3_writeControl) (maxL := 9) (ret := none) (by decide) rfl ?_
  intro p e s m args below meth c s₁ B hml hv
  obtain ⟨rfl, hsz, hP, hK, hD0, hE⟩ := hv
  have hx := B.exec
  have hb := B.bytes
  have hr := B.returns
  have hts := atoms_spec (ws := v_c_X3_writeControl_19) B.pre
  have hown : s.vm.findClass RX3 = some m.cls := findClass_of_methodNamed B.named
  have hlocks := B.notSynchronized
  subst hsz
  have hD := hD0.self (sz := s.heap.size)
  generalize hAe : va_A [(h0, .inr (4, [.int (nI mi), .int (nI mt), .int (nI mg), .int (nI ms), .int sd, .null])), (h1, .inr (2, [.int (nI fi), .int ff, .int fo, .ref fw]))] s.heap.size = A at hD ⊢
  have hA : ∀ q : Nat, s.heap.size ≤ q → A q := fun q h => by rw [← hAe]; exact Or.inr h
  have hS : va_S A s.heap s.heap [] := va_S.rf
  replace hP : va_P (dC, dI) vwCl [(h0, .inr (4, [.int (nI mi), .int (nI mt), .int (nI mg), .int (nI ms), .int sd, .null])), (h1, .inr (2, [.int (nI fi), .int ff, .int fo, .ref fw]))] s.heap := hP
  have hl := lv_entry ([.ref h0, .ref h1, .int (nI id), .int 19, .int (nI se), .int (nI th)]) (n := 9) (Nat.le_of_ble_eq_true rfl)
  rw [lg_entry_eq]
  generalize (lg_sl ([.ref h0, .ref h1, .int (nI id), .int 19, .int (nI se), .int (nI th)]) ++ List.replicate (9 - (lg_sl ([.ref h0, .ref h1, .int (nI id), .int 19, .int (nI se), .int (nI th)])).length) Slot.unset).toArray = ls at hl ⊢
  replace hl : lv_has ls 9 [(0, .ref h0), (1, .ref h1), (2, .int (nI id)), (3, .int 19), (4, .int (nI se)), (5, .int (nI th))] := hl
  obtain ⟨H, hH⟩ : ∃ z : Heap, z = s.heap := ⟨_, rfl⟩
  rw [← hH]
  replace hS : va_S A s.heap H [] := by rw [hH]; exact va_S.rf
  replace hP : va_P (dC, dI) vwCl [(h0, .inr (4, [.int (nI mi), .int (nI mt), .int (nI mg), .int (nI ms), .int sd, .null])), (h1, .inr (2, [.int (nI fi), .int ff, .int fo, .ref fw]))] H := by rw [hH]; exact hP
  clear hH
  refine lv_iload_n hx hb dX3_writeControl_0 rfl (lv_at hl 3 rfl) ?_
  refine lv_bipush (v := 17) hx hb dX3_writeControl_1 (by decide) ?_
  refine lv_icmp_eq (tgt := 17) hx hb dX3_writeControl_3 (by decide) (fun c_1 => ?_) (fun c_1 => ?_)
  · exact absurd c_1 (by decide)
  refine lv_iload_n hx hb dX3_writeControl_6 rfl (lv_at hl 3 rfl) ?_
  refine lv_sipush (v := 255) hx hb dX3_writeControl_7 (by decide) ?_
  refine lv_icmp_eq (tgt := 17) hx hb dX3_writeControl_10 (by decide) (fun c_2 => ?_) (fun c_2 => ?_)
  · exact absurd c_2 (by decide)
  refine lv_iconst (v := 1) hx hb dX3_writeControl_13 (by decide) ?_
  refine lv_goto (tgt := 18) hx hb dX3_writeControl_14 (by decide) ?_
  refine lv_istore (lv' := [(6, .int 1), (0, .ref h0), (1, .ref h1), (2, .int (nI id)), (3, .int 19), (4, .int (nI se)), (5, .int (nI th))]) hx hb dX3_writeControl_18 hl (by decide) rfl (fun ls hl => ?_)
  refine lv_iload hx hb dX3_writeControl_20 (lv_at hl 0 rfl) ?_
  refine lv_if_eq (tgt := 47) hx hb dX3_writeControl_22 (by decide) (fun c_3 => ?_) (fun c_3 => ?_)
  · exact absurd c_3 (by decide)
  refine lv_iload_n hx hb dX3_writeControl_25 rfl (lv_at hl 4 rfl) ?_
  refine lv_aload_n hx hb dX3_writeControl_26 rfl (lv_at hl 1 rfl) ?_
  refine va_get (D := (dC, dI)) (ci := 4) (v := .int (nI ms)) (C := RX3) (T := TX3) (N := 6) hx hb hts in_c_X3_writeControl_19_X3 hown hK hP 0 rfl rfl 3 (by decide) (hts (.fieldLink RX3 25 "ClaimBus$Message" "size" "I") (List.mem_of_getElem? (i := 1) rfl)) (fun _ h9 => h9) rfl dX3_writeControl_27 ?_
  refine lv_aload_n hx hb dX3_writeControl_30 rfl (lv_at hl 1 rfl) ?_
  refine va_get (D := (dC, dI)) (ci := 4) (v := .int (nI ms)) (C := RX3) (T := TX3) (N := 6) hx hb hts in_c_X3_writeControl_19_X3 hown hK hP 0 rfl rfl 3 (by decide) (hts (.fieldLink RX3 25 "ClaimBus$Message" "size" "I") (List.mem_of_getElem? (i := 1) rfl)) (fun _ h9 => h9) rfl dX3_writeControl_31 ?_
  refine lv_bipush (v := 8) hx hb dX3_writeControl_34 (by decide) ?_
  refine lv_ishr hx hb dX3_writeControl_36 ?_
  refine lv_topi (fun x_4 ex_4 => ?_)
  obtain rfl : x_4 = (nI (((ms) / 256))) := ex_4.trans ((pk_shrN (n := ms) (by omega) ((8 : Int32) &&& 31) 8 (by decide)).trans (show nI (ms / 2 ^ 8) = nI (((ms) / 256)) from congrArg nI (by omega)))
  refine lv_aload_n hx hb dX3_writeControl_37 rfl (lv_at hl 1 rfl) ?_
  have hPc := hP.sub (ws' := [(h0, .inr (4, [.int (nI mi), .int (nI mt), .int (nI mg), .int (nI ms), .int sd, .null]))]) [0] rfl
  have hDc := hD.sub (ws' := [(h0, .inr (4, [.int (nI mi), .int (nI mt), .int (nI mg), .int (nI ms), .int sd, .null]))]) [0] (by decide +kernel) rfl
  have hKc := hK.sub (tys' := []) [] rfl
  have hFc := ro_free hS hA
  refine va_calli (va_runV (As := []) (rest := [.int (nI (((ms) / 256))), .int (nI ms), .int 19]) ⟨hx, hb, hml, hown, hts⟩ (c_X3_packets l dC dI (h0) (mi) (mt) (mg) (ms) (sd) H.size hmi hmt hmg hms) (cwV 0 hts g_c_X3_writeControl_19_c_X3_packets_46 rfl rfl rfl (by decide +kernel) ⟨Nat.le_of_ble_eq_true rfl, Nat.le_of_ble_eq_true rfl⟩) ⟨fun a U g mk q => by obtain ⟨q0, q1, qP, qK, qD, qE⟩ := q; exact ⟨q0, q1, qP, va_K.moved (u := U) (U := U.calling g mk a) (Vm.Alike.refl U.vm) qK, qD, ev.same (u := U) (U := U.calling g mk a) rfl qE⟩, va_recv hKc hPc (ci := 4) (q0 := 0) rfl rfl, fun U hU hW => ⟨rfl, by rw [hU], by rw [hU]; exact hPc, va_K.moved hW.alike hKc, hDc.weaken (fun _ _ _ _ => trivial), hE.warm hW⟩⟩ rfl rfl hl.1 rfl (lv_room (Nat.le_of_ble_eq_true rfl)) dX3_writeControl_38 ⟨Nat.le_of_ble_eq_true rfl, Nat.le_of_ble_eq_true rfl⟩) hS (fun q _ h => hFc q h) hFc (fun r_5 u t H1 locs ht hvm hw hB hz1 hk1 hS => ?_)
  clear hPc hDc hKc
  replace hP := ro_keep hP hk1
  generalize H1 = H at hP hS ⊢
  replace hP : va_P (dC, dI) vwCl [(h0, .inr (4, [.int (nI mi), .int (nI mt), .int (nI mg), .int (nI ms), .int sd, .null])), (h1, .inr (2, [.int (nI fi), .int ff, .int fo, .ref fw]))] H := hP
  have hw := hw.symm
  subst hw
  have hPc := hP.sub (ws' := []) [] rfl
  have hDc := hD.sub (ws' := []) [] (by decide +kernel) rfl
  have hKc := hK.sub (tys' := []) [] rfl
  have hFc := ro_free hS hA
  refine va_calli (va_runSN (As := [.int 19, .int (nI ms), .int (nI (((ms) / 256))), .int (nI ((ms + 6) / 7))]) (rest := []) ⟨hx, hb, hml, hown, hts⟩ (c_X10_packN l dC dI (19) (ms) ((((ms) / 256))) (((ms + 6) / 7)) H.size (by omega) (by omega) (by omega) (by omega)) ⟨va_cnB 4 hts g_c_X3_writeControl_19_c_X10_packN_50 rfl rfl rfl hE.n10 (hts (.initialized RX10) (List.mem_of_getElem? (i := 6) rfl)) (by decide +kernel) ⟨Nat.le_of_ble_eq_true rfl, Nat.le_of_ble_eq_true rfl⟩, (hts (.static yX10_pack) (List.mem_of_getElem? (i := 7) rfl)), trivial⟩ ⟨fun a U g mk q => by obtain ⟨q0, q1, qP, qK, qD, qE⟩ := q; exact ⟨q0, q1, qP, va_K.moved (u := U) (U := U.calling g mk a) (Vm.Alike.refl U.vm) qK, qD, ev.same (u := U) (U := U.calling g mk a) rfl qE⟩, fun U hU hW => ⟨rfl, by rw [hU], by rw [hU]; exact hPc, va_K.moved hW.alike hKc, hDc.weaken (fun _ _ _ _ => trivial), hE.warm hW⟩⟩ rfl rfl hl.1 rfl (lv_room (Nat.le_of_ble_eq_true rfl)) dX3_writeControl_41 ⟨Nat.le_of_ble_eq_true rfl, Nat.le_of_ble_eq_true rfl⟩) hS (fun q _ h => hFc q h) hFc (fun r_6 u t H1 locs ht hvm hw hB hz1 hk1 hS => ?_)
  clear hPc hDc hKc
  replace hP := ro_keep hP hk1
  generalize H1 = H at hP hS ⊢
  replace hP : va_P (dC, dI) vwCl [(h0, .inr (4, [.int (nI mi), .int (nI mt), .int (nI mg), .int (nI ms), .int sd, .null])), (h1, .inr (2, [.int (nI fi), .int ff, .int fo, .ref fw]))] H := hP
  have hw := hw.symm
  subst hw
  refine lv_goto (tgt := 58) hx hb dX3_writeControl_44 (by decide) ?_
  refine lv_istore (lv' := [(7, .int (nI (19 % 256 + 256 * (ms % 256) + 65536 * ((((ms) / 256)) % 256) + 16777216 * ((ms + 6) / 7)))), (6, .int 1), (0, .ref h0), (1, .ref h1), (2, .int (nI id)), (3, .int 19), (4, .int (nI se)), (5, .int (nI th))]) hx hb dX3_writeControl_58 hl (by decide) rfl (fun ls hl => ?_)
  refine lv_iload hx hb dX3_writeControl_60 (lv_at hl 1 rfl) ?_
  refine lv_if_eq (tgt := 70) hx hb dX3_writeControl_62 (by decide) (fun c_7 => ?_) (fun c_7 => ?_)
  · exact absurd c_7 (by decide)
  refine lv_iload hx hb dX3_writeControl_65 (lv_at hl 6 rfl) ?_
  refine lv_goto (tgt := 73) hx hb dX3_writeControl_67 (by decide) ?_
  refine lv_istore (lv' := [(8, .int (nI se)), (7, .int (nI (19 % 256 + 256 * (ms % 256) + 65536 * ((((ms) / 256)) % 256) + 16777216 * ((ms + 6) / 7)))), (6, .int 1), (0, .ref h0), (1, .ref h1), (2, .int (nI id)), (3, .int 19), (4, .int (nI se)), (5, .int (nI th))]) hx hb dX3_writeControl_73 hl (by decide) rfl (fun ls hl => ?_)
  refine lv_aload_n hx hb dX3_writeControl_75 rfl (lv_at hl 4 rfl) ?_
  refine lv_iload_n hx hb dX3_writeControl_76 rfl (lv_at hl 5 rfl) ?_
  refine lv_iload hx hb dX3_writeControl_77 (lv_at hl 1 rfl) ?_
  refine lv_iload hx hb dX3_writeControl_79 (lv_at hl 0 rfl) ?_
  refine lv_aload_n hx hb dX3_writeControl_81 rfl (lv_at hl 3 rfl) ?_
  refine va_get (D := (dC, dI)) (ci := 4) (v := .int (nI mg)) (C := RX3) (T := TX3) (N := 6) hx hb hts in_c_X3_writeControl_19_X3 hown hK hP 0 rfl rfl 2 (by decide) (hts (.fieldLink RX3 22 "ClaimBus$Message" "group" "I") (List.mem_of_getElem? (i := 8) rfl)) (fun _ h9 => h9) rfl dX3_writeControl_82 ?_
  refine lv_bipush (v := 8) hx hb dX3_writeControl_85 (by decide) ?_
  refine lv_ishl hx hb dX3_writeControl_87 ?_
  refine lv_topi (fun x_8 ex_8 => ?_)
  obtain rfl : x_8 = (nI (256 * mg)) := ex_8.trans ((pk_shlN (n := mg) ((8 : Int32) &&& 31) 8 (by decide) (by omega)).trans (show nI (mg * 2 ^ 8) = nI (256 * mg) from congrArg nI (by omega)))
  refine lv_ior hx hb dX3_writeControl_88 ?_
  refine lv_topi (fun x_9 ex_9 => ?_)
  obtain rfl : x_9 = (nI (256 * mg + se)) := ex_9.trans ((q_or' se (256 * mg) 8 (by omega) (by omega) (by omega)).trans (show nI (se + (256 * mg)) = nI (256 * mg + se) from congrArg nI (by omega)))
  refine lv_aload_n hx hb dX3_writeControl_89 rfl (lv_at hl 3 rfl) ?_
  have hPc := hP.sub (ws' := [(h1, .inr (2, [.int (nI fi), .int ff, .int fo, .ref fw]))]) [1] rfl
  have hDc := hD.sub (ws' := [(h1, .inr (2, [.int (nI fi), .int ff, .int fo, .ref fw]))]) [1] (by decide +kernel) rfl
  have hKc := hK.sub (tys' := []) [] rfl
  have hFc := va_free (wc := [(h1, .inr (2, [.int (nI fi), .int ff, .int fo, .ref fw]))]) hD hS hA [1] rfl
  refine va_callv (va_runV (As := [.int (nI id), .int (nI (19 % 256 + 256 * (ms % 256) + 65536 * ((((ms) / 256)) % 256) + 16777216 * ((ms + 6) / 7))), .int (nI (256 * mg + se)), .ref h0]) (rest := []) ⟨hx, hb, hml, hown, hts⟩ (c_X1_write l dC dI (h1) (fi) (ff) (fo) (fw) (id) ((nI (19 % 256 + 256 * (ms % 256) + 65536 * ((((ms) / 256)) % 256) + 16777216 * ((ms + 6) / 7)))) ((nI (256 * mg + se))) (h0) H.size) (cwV 4 hts g_c_X3_writeControl_19_c_X1_write_36 rfl rfl rfl (by decide +kernel) ⟨Nat.le_of_ble_eq_true rfl, Nat.le_of_ble_eq_true rfl⟩) ⟨fun a U g mk q => by obtain ⟨q0, q1, qP, qK, qD, qE⟩ := q; exact ⟨q0, q1, qP, va_K.moved (u := U) (U := U.calling g mk a) (Vm.Alike.refl U.vm) qK, qD, ev.same (u := U) (U := U.calling g mk a) rfl qE⟩, va_recv hKc hPc (ci := 2) (q0 := 0) rfl rfl, fun U hU hW => ⟨rfl, by rw [hU], by rw [hU]; exact hPc, va_K.moved hW.alike hKc, hDc.weaken (fun _ _ _ _ => trivial), hE.warm hW⟩⟩ rfl rfl hl.1 rfl (lv_room (Nat.le_of_ble_eq_true rfl)) dX3_writeControl_90 ⟨Nat.le_of_ble_eq_true rfl, Nat.le_of_ble_eq_true rfl⟩) hS (fun q _ h => hFc q h) hFc (fun u t H1 locs ht hvm hw hB hz1 hk1 hS => ?_)
  clear hPc hDc hKc
  obtain ⟨hP1, hK1, hD1⟩ := hB
  rw [ht] at hP1
  have hK1 := va_K.moved hvm.symm hK1
  obtain ⟨hP, hD⟩ := va_join (wr := [(h0, .inr (4, [.int (nI mi), .int (nI mt), .int (nI mg), .int (nI ms), .int sd, .null]))]) (w1 := [(h1, .inr (2, [.int (nI id), .int (nI (19 % 256 + 256 * (ms % 256) + 65536 * ((((ms) / 256)) % 256) + 16777216 * ((ms + 6) / 7))), .int (nI (256 * mg + se)), .ref h0]))]) hP hD [1] [0] rfl rfl (by decide +kernel) (by decide +kernel) hk1 hFc hP1 hD1
  generalize H1 = H at hP hS ⊢
  replace hP : va_P (dC, dI) vwCl [(h0, .inr (4, [.int (nI mi), .int (nI mt), .int (nI mg), .int (nI ms), .int sd, .null])), (h1, .inr (2, [.int (nI id), .int (nI (19 % 256 + 256 * (ms % 256) + 65536 * ((((ms) / 256)) % 256) + 16777216 * ((ms + 6) / 7))), .int (nI (256 * mg + se)), .ref h0]))] H := hP
  replace hD : va_D A [(h0, .inr (4, [.int (nI mi), .int (nI mt), .int (nI mg), .int (nI ms), .int sd, .null])), (h1, .inr (2, [.int (nI id), .int (nI (19 % 256 + 256 * (ms % 256) + 65536 * ((((ms) / 256)) % 256) + 16777216 * ((ms + 6) / 7))), .int (nI (256 * mg + se)), .ref h0]))] := hD
  clear hw
  rw [show ((nI (19 % 256 + 256 * (ms % 256) + 65536 * ((((ms) / 256)) % 256) + 16777216 * ((ms + 6) / 7))) : Int32) = (nI (19 + 256 * (ms % 256) + 65536 * (ms / 256) + 16777216 * ((ms + 6) / 7))) from congrArg nI (show (19 % 256 + 256 * (ms % 256) + 65536 * ((((ms) / 256)) % 256) + 16777216 * ((ms + 6) / 7)) = (19 + 256 * (ms % 256) + 65536 * (ms / 256) + 16777216 * ((ms + 6) / 7)) from by omega)] at hP hD
  rw [show ((nI (256 * mg + se)) : Int32) = (nI (se + 256 * mg)) from congrArg nI (show (256 * mg + se) = (se + 256 * mg) from by omega)] at hP hD
  have hP9 := hP.sub (ws' := [(h0, .inr (4, [.int (nI mi), .int (nI mt), .int (nI mg), .int (nI ms), .int sd, .null])), (h1, .inr (2, [.int (nI id), .int (nI (19 + 256 * (ms % 256) + 65536 * (ms / 256) + 16777216 * ((ms + 6) / 7))), .int (nI (se + 256 * mg)), .ref h0]))]) [0, 1] rfl
  have hD9 := hD.sub (ws' := [(h0, .inr (4, [.int (nI mi), .int (nI mt), .int (nI mg), .int (nI ms), .int sd, .null])), (h1, .inr (2, [.int (nI id), .int (nI (19 + 256 * (ms % 256) + 65536 * (ms / 256) + 16777216 * ((ms + 6) / 7))), .int (nI (se + 256 * mg)), .ref h0]))]) [0, 1] (by decide +kernel) rfl
  have hK9 := hK.sub (tys' := []) [] rfl
  exact W.vret hx hb hr (fun t ht hW => ⟨⟨(), rfl, trivial, ⟨by rw [ht]; exact hP9, va_K.moved hW.alike hK9, hD9⟩⟩, hS.F ht⟩) hS.2.2 dX3_writeControl_93

noncomputable def tl_c_X3_writeControl_32 : List Cond := wsX30 ++ (v_c_X3_packets ++ (v_c_X10_packN ++ (v_c_X1_write)))
noncomputable def v_c_X3_writeControl_32 : List Cond := .code yX3_writeControl cX3_writeControl 9 none :: ([.fieldLink RX3 25 "ClaimBus$Message" "size" "I", .initialized RX3, .methodLink RX3 46 yX3_packets, .instanceMethod yX3_packets, .selects RX3 yX3_packets yX3_packets, .initialized RX10, .static yX10_pack, .fieldLink RX3 22 "ClaimBus$Message" "group" "I", .initialized RX1, .methodLink RX3 36 yX1_write, .instanceMethod yX1_write, .selects RX1 yX1_write yX1_write] ++ tl_c_X3_writeControl_32)
theorem it_c_X3_writeControl_32 : ∀ w ∈ tl_c_X3_writeControl_32, w ∈ v_c_X3_writeControl_32 := fun w h => List.mem_cons_of_mem _ (List.mem_append_right _ h)
theorem in_c_X3_writeControl_32_X3 : ∀ w ∈ wsX30, w ∈ v_c_X3_writeControl_32 := fun w h => it_c_X3_writeControl_32 w (List.mem_append_left _ h)
theorem ic_c_X3_writeControl_32_c_X3_packets : ∀ w ∈ v_c_X3_packets, w ∈ v_c_X3_writeControl_32 := fun w h => it_c_X3_writeControl_32 w (List.mem_append_right _ (List.mem_append_left _ h))
theorem ic_c_X3_writeControl_32_c_X10_packN : ∀ w ∈ v_c_X10_packN, w ∈ v_c_X3_writeControl_32 := fun w h => it_c_X3_writeControl_32 w (List.mem_append_right _ (List.mem_append_right _ (List.mem_append_left _ h)))
theorem ic_c_X3_writeControl_32_c_X1_write : ∀ w ∈ v_c_X1_write, w ∈ v_c_X3_writeControl_32 := fun w h => it_c_X3_writeControl_32 w (List.mem_append_right _ (List.mem_append_right _ (List.mem_append_right _ (h))))
theorem gt_c_X3_writeControl_32 : ∀ w ∈ tl_c_X3_writeControl_32, goodWord w = true := List.forall_mem_append.mpr ⟨gw_wsX30, List.forall_mem_append.mpr ⟨gw_c_X3_packets, List.forall_mem_append.mpr ⟨gw_c_X10_packN, gw_c_X1_write⟩⟩⟩
theorem gw_c_X3_writeControl_32 : ∀ w ∈ v_c_X3_writeControl_32, goodWord w = true := List.forall_mem_cons.mpr ⟨by decide +kernel, List.forall_mem_append.mpr ⟨List.all_eq_true.mp (by decide +kernel), gt_c_X3_writeControl_32⟩⟩
theorem g_c_X3_writeControl_32_c_X3_packets_46 : GoodIn v_c_X3_writeControl_32 (wsV RX3 46 RX3 yX3_packets v_c_X3_packets) := goodIn_app (goodIn_r [.methodLink RX3 46 yX3_packets, .instanceMethod yX3_packets, .selects RX3 yX3_packets yX3_packets, .initialized RX3] [3, 4, 5, 2] (by decide +kernel) (by decide +kernel)) (fun w h => ⟨ic_c_X3_writeControl_32_c_X3_packets w h, good_of_word (gw_c_X3_packets w h)⟩)
theorem g_c_X3_writeControl_32_c_X10_packN_50 : GoodIn v_c_X3_writeControl_32 v_c_X10_packN := fun w h => ⟨ic_c_X3_writeControl_32_c_X10_packN w h, good_of_word (gw_c_X10_packN w h)⟩
theorem g_c_X3_writeControl_32_c_X1_write_36 : GoodIn v_c_X3_writeControl_32 (wsV RX3 36 RX1 yX1_write v_c_X1_write) := goodIn_app (goodIn_r [.methodLink RX3 36 yX1_write, .instanceMethod yX1_write, .selects RX1 yX1_write yX1_write, .initialized RX1] [10, 11, 12, 9] (by decide +kernel) (by decide +kernel)) (fun w h => ⟨ic_c_X3_writeControl_32_c_X1_write w h, good_of_word (gw_c_X1_write w h)⟩)
set_option maxHeartbeats 4000000 in
set_option maxRecDepth 100000 in
/-- Message.writeControl 32 -/
theorem c_X3_writeControl_32 (l : Launch) (dC : Nat → ClassId) (dI : Nat → Nat → Nat) (h0 : Nat) (mi : Nat) (mt : Nat) (mg : Nat) (ms : Nat) (sd : Int32) (h1 : Nat) (fi : Nat) (ff : Int32) (fo : Int32) (fw : Nat) (id : Nat) (se : Nat) (th : Nat) (sz : Nat) (hmi : mi < 8) (hmt : mt < 256) (hmg : mg < 262144) (hms : ms < 1786) (h_se : se < 256) (h_th : th < 256) : Met l yX3_writeControl v_c_X3_writeControl_32 ({ frames := 1, cells := 0, slots := 0, locals := 24 }) (va_Pc [.ref h0, .ref h1, .int (nI id), .int 32, .int (nI se), .int (nI th)] (fun U => U.heap.size = sz ∧ va_P (dC, dI) vwCl [(h0, .inr (4, [.int (nI mi), .int (nI mt), .int (nI mg), .int (nI ms), .int sd, .null])), (h1, .inr (2, [.int (nI fi), .int ff, .int fo, .ref fw]))] U.heap ∧ va_K (dC, dI) vwCl [] U ∧ va_D (fun _ => True) [(h0, .inr (4, [.int (nI mi), .int (nI mt), .int (nI mg), .int (nI ms), .int sd, .null])), (h1, .inr (2, [.int (nI fi), .int ff, .int fo, .ref fw]))] ∧ ev U)) (va_Qv (fun _ : Unit => True) (fun (_ : Unit) (t : State) => va_P (dC, dI) vwCl [(h0, .inr (4, [.int (nI mi), .int (nI mt), .int (nI mg), .int (nI ms), .int sd, .null])), (h1, .inr (2, [.int (nI id), .int (nI (32 + 256 * (ms % 256) + 65536 * (ms / 256) + 16777216 * ((ms + 6) / 7))), .int (nI (se + 256 * mg)), .ref h0]))] t.heap ∧ va_K (dC, dI) vwCl [] t ∧ va_D (va_A [(h0, .inr (4, [.int (nI mi), .int (nI mt), .int (nI mg), .int (nI ms), .int sd, .null])), (h1, .inr (2, [.int (nI fi), .int ff, .int fo, .ref fw]))] sz) [(h0, .inr (4, [.int (nI mi), .int (nI mt), .int (nI mg), .int (nI ms), .int sd, .null])), (h1, .inr (2, [.int (nI id), .int (nI (32 + 256 * (ms % 256) + 65536 * (ms / 256) + 16777216 * ((ms + 6) / 7))), .int (nI (se + 256 * mg)), .ref h0]))]) (va_A [(h0, .inr (4, [.int (nI mi), .int (nI mt), .int (nI mg), .int (nI ms), .int sd, .null])), (h1, .inr (2, [.int (nI fi), .int ff, .int fo, .ref fw]))] sz)) 0 0 (va_A [(h0, .inr (4, [.int (nI mi), .int (nI mt), .int (nI mg), .int (nI ms), .int sd, .null])), (h1, .inr (2, [.int (nI fi), .int ff, .int fo, .ref fw]))] sz) := by
  refine Met.ofW (cc := cX3_writeControl) (maxL := 9) (ret := none) (by decide) rfl ?_
  intro p e s m args below meth c s₁ B hml hv
  obtain ⟨rfl, hsz, hP, hK, hD0, hE⟩ := hv
  have hx := B.exec
  have hb := B.bytes
  have hr := B.returns
  have hts := atoms_spec (ws := v_c_X3_writeControl_32) B.pre
  have hown : s.vm.findClass RX3 = some m.cls := findClass_of_methodNamed B.named
  have hlocks := B.notSynchronized
  subst hsz
  have hD := hD0.self (sz := s.heap.size)
  generalize hAe : va_A [(h0, .inr (4, [.int (nI mi), .int (nI mt), .int (nI mg), .int (nI ms), .int sd, .null])), (h1, .inr (2, [.int (nI fi), .int ff, .int fo, .ref fw]))] s.heap.size = A at hD ⊢
  have hA : ∀ q : Nat, s.heap.size ≤ q → A q := fun q h => by rw [← hAe]; exact Or.inr h
  have hS : va_S A s.heap s.heap [] := va_S.rf
  replace hP : va_P (dC, dI) vwCl [(h0, .inr (4, [.int (nI mi), .int (nI mt), .int (nI mg), .int (nI ms), .int sd, .null])), (h1, .inr (2, [.int (nI fi), .int ff, .int fo, .ref fw]))] s.heap := hP
  have hl := lv_entry ([.ref h0, .ref h1, .int (nI id), .int 32, .int (nI se), .int (nI th)]) (n := 9) (Nat.le_of_ble_eq_true rfl)
  rw [lg_entry_eq]
  generalize (lg_sl ([.ref h0, .ref h1, .int (nI id), .int 32, .int (nI se), .int (nI th)]) ++ List.replicate (9 - (lg_sl ([.ref h0, .ref h1, .int (nI id), .int 32, .int (nI se), .int (nI th)])).length) Slot.unset).toArray = ls at hl ⊢
  replace hl : lv_has ls 9 [(0, .ref h0), (1, .ref h1), (2, .int (nI id)), (3, .int 32), (4, .int (nI se)), (5, .int (nI th))] := hl
  obtain ⟨H, hH⟩ : ∃ z : Heap, z = s.heap := ⟨_, rfl⟩
  rw [← hH]
  replace hS : va_S A s.heap H [] := by rw [hH]; exact va_S.rf
  replace hP : va_P (dC, dI) vwCl [(h0, .inr (4, [.int (nI mi), .int (nI mt), .int (nI mg), .int (nI ms), .int sd, .null])), (h1, .inr (2, [.int (nI fi), .int ff, .int fo, .ref fw]))] H := by rw [hH]; exact hP
  clear hH
  refine lv_iload_n hx hb dX3_writeControl_0 rfl (lv_at hl 3 rfl) ?_
  refine lv_bipush (v := 17) hx hb dX3_writeControl_1 (by decide) ?_
  refine lv_icmp_eq (tgt := 17) hx hb dX3_writeControl_3 (by decide) (fun c_1 => ?_) (fun c_1 => ?_)
  · exact absurd c_1 (by decide)
  refine lv_iload_n hx hb dX3_writeControl_6 rfl (lv_at hl 3 rfl) ?_
  refine lv_sipush (v := 255) hx hb dX3_writeControl_7 (by decide) ?_
  refine lv_icmp_eq (tgt := 17) hx hb dX3_writeControl_10 (by decide) (fun c_2 => ?_) (fun c_2 => ?_)
  · exact absurd c_2 (by decide)
  refine lv_iconst (v := 1) hx hb dX3_writeControl_13 (by decide) ?_
  refine lv_goto (tgt := 18) hx hb dX3_writeControl_14 (by decide) ?_
  refine lv_istore (lv' := [(6, .int 1), (0, .ref h0), (1, .ref h1), (2, .int (nI id)), (3, .int 32), (4, .int (nI se)), (5, .int (nI th))]) hx hb dX3_writeControl_18 hl (by decide) rfl (fun ls hl => ?_)
  refine lv_iload hx hb dX3_writeControl_20 (lv_at hl 0 rfl) ?_
  refine lv_if_eq (tgt := 47) hx hb dX3_writeControl_22 (by decide) (fun c_3 => ?_) (fun c_3 => ?_)
  · exact absurd c_3 (by decide)
  refine lv_iload_n hx hb dX3_writeControl_25 rfl (lv_at hl 4 rfl) ?_
  refine lv_aload_n hx hb dX3_writeControl_26 rfl (lv_at hl 1 rfl) ?_
  refine va_get (D := (dC, dI)) (ci := 4) (v := .int (nI ms)) (C := RX3) (T := TX3) (N := 6) hx hb hts in_c_X3_writeControl_32_X3 hown hK hP 0 rfl rfl 3 (by decide) (hts (.fieldLink RX3 25 "ClaimBus$Message" "size" "I") (List.mem_of_getElem? (i := 1) rfl)) (fun _ h9 => h9) rfl dX3_writeControl_27 ?_
  refine lv_aload_n hx hb dX3_writeControl_30 rfl (lv_at hl 1 rfl) ?_
  refine va_get (D := (dC, dI)) (ci := 4) (v := .int (nI ms)) (C := RX3) (T := TX3) (N := 6) hx hb hts in_c_X3_writeControl_32_X3 hown hK hP 0 rfl rfl 3 (by decide) (hts (.fieldLink RX3 25 "ClaimBus$Message" "size" "I") (List.mem_of_getElem? (i := 1) rfl)) (fun _ h9 => h9) rfl dX3_writeControl_31 ?_
  refine lv_bipush (v := 8) hx hb dX3_writeControl_34 (by decide) ?_
  refine lv_ishr hx hb dX3_writeControl_36 ?_
  refine lv_topi (fun x_4 ex_4 => ?_)
  obtain rfl : x_4 = (nI (((ms) / 256))) := ex_4.trans ((pk_shrN (n := ms) (by omega) ((8 : Int32) &&& 31) 8 (by decide)).trans (show nI (ms / 2 ^ 8) = nI (((ms) / 256)) from congrArg nI (by omega)))
  refine lv_aload_n hx hb dX3_writeControl_37 rfl (lv_at hl 1 rfl) ?_
  have hPc := hP.sub (ws' := [(h0, .inr (4, [.int (nI mi), .int (nI mt), .int (nI mg), .int (nI ms), .int sd, .null]))]) [0] rfl
  have hDc := hD.sub (ws' := [(h0, .inr (4, [.int (nI mi), .int (nI mt), .int (nI mg), .int (nI ms), .int sd, .null]))]) [0] (by decide +kernel) rfl
  have hKc := hK.sub (tys' := []) [] rfl
  have hFc := ro_free hS hA
  refine va_calli (va_runV (As := []) (rest := [.int (nI (((ms) / 256))), .int (nI ms), .int 32]) ⟨hx, hb, hml, hown, hts⟩ (c_X3_packets l dC dI (h0) (mi) (mt) (mg) (ms) (sd) H.size hmi hmt hmg hms) (cwV 0 hts g_c_X3_writeControl_32_c_X3_packets_46 rfl rfl rfl (by decide +kernel) ⟨Nat.le_of_ble_eq_true rfl, Nat.le_of_ble_eq_true rfl⟩) ⟨fun a U g mk q => by obtain ⟨q0, q1, qP, qK, qD, qE⟩ := q; exact ⟨q0, q1, qP, va_K.moved (u := U) (U := U.calling g mk a) (Vm.Alike.refl U.vm) qK, qD, ev.same (u := U) (U := U.calling g mk a) rfl qE⟩, va_recv hKc hPc (ci := 4) (q0 := 0) rfl rfl, fun U hU hW => ⟨rfl, by rw [hU], by rw [hU]; exact hPc, va_K.moved hW.alike hKc, hDc.weaken (fun _ _ _ _ => trivial), hE.warm hW⟩⟩ rfl rfl hl.1 rfl (lv_room (Nat.le_of_ble_eq_true rfl)) dX3_writeControl_38 ⟨Nat.le_of_ble_eq_true rfl, Nat.le_of_ble_eq_true rfl⟩) hS (fun q _ h => hFc q h) hFc (fun r_5 u t H1 locs ht hvm hw hB hz1 hk1 hS => ?_)
  clear hPc hDc hKc
  replace hP := ro_keep hP hk1
  generalize H1 = H at hP hS ⊢
  replace hP : va_P (dC, dI) vwCl [(h0, .inr (4, [.int (nI mi), .int (nI mt), .int (nI mg), .int (nI ms), .int sd, .null])), (h1, .inr (2, [.int (nI fi), .int ff, .int fo, .ref fw]))] H := hP
  have hw := hw.symm
  subst hw
  have hPc := hP.sub (ws' := []) [] rfl
  have hDc := hD.sub (ws' := []) [] (by decide +kernel) rfl
  have hKc := hK.sub (tys' := []) [] rfl
  have hFc := ro_free hS hA
  refine va_calli (va_runSN (As := [.int 32, .int (nI ms), .int (nI (((ms) / 256))), .int (nI ((ms + 6) / 7))]) (rest := []) ⟨hx, hb, hml, hown, hts⟩ (c_X10_packN l dC dI (32) (ms) ((((ms) / 256))) (((ms + 6) / 7)) H.size (by omega) (by omega) (by omega) (by omega)) ⟨va_cnB 4 hts g_c_X3_writeControl_32_c_X10_packN_50 rfl rfl rfl hE.n10 (hts (.initialized RX10) (List.mem_of_getElem? (i := 6) rfl)) (by decide +kernel) ⟨Nat.le_of_ble_eq_true rfl, Nat.le_of_ble_eq_true rfl⟩, (hts (.static yX10_pack) (List.mem_of_getElem? (i := 7) rfl)), trivial⟩ ⟨fun a U g mk q => by obtain ⟨q0, q1, qP, qK, qD, qE⟩ := q; exact ⟨q0, q1, qP, va_K.moved (u := U) (U := U.calling g mk a) (Vm.Alike.refl U.vm) qK, qD, ev.same (u := U) (U := U.calling g mk a) rfl qE⟩, fun U hU hW => ⟨rfl, by rw [hU], by rw [hU]; exact hPc, va_K.moved hW.alike hKc, hDc.weaken (fun _ _ _ _ => trivial), hE.warm hW⟩⟩ rfl rfl hl.1 rfl (lv_room (Nat.le_of_ble_eq_true rfl)) dX3_writeControl_41 ⟨Nat.le_of_ble_eq_true rfl, Nat.le_of_ble_eq_true rfl⟩) hS (fun q _ h => hFc q h) hFc (fun r_6 u t H1 locs ht hvm hw hB hz1 hk1 hS => ?_)
  clear hPc hDc hKc
  replace hP := ro_keep hP hk1
  generalize H1 = H at hP hS ⊢
  replace hP : va_P (dC, dI) vwCl [(h0, .inr (4, [.int (nI mi), .int (nI mt), .int (nI mg), .int (nI ms), .int sd, .null])), (h1, .inr (2, [.int (nI fi), .int ff, .int fo, .ref fw]))] H := hP
  have hw := hw.symm
  subst hw
  refine lv_goto (tgt := 58) hx hb dX3_writeControl_44 (by decide) ?_
  refine lv_istore (lv' := [(7, .int (nI (32 % 256 + 256 * (ms % 256) + 65536 * ((((ms) / 256)) % 256) + 16777216 * ((ms + 6) / 7)))), (6, .int 1), (0, .ref h0), (1, .ref h1), (2, .int (nI id)), (3, .int 32), (4, .int (nI se)), (5, .int (nI th))]) hx hb dX3_writeControl_58 hl (by decide) rfl (fun ls hl => ?_)
  refine lv_iload hx hb dX3_writeControl_60 (lv_at hl 1 rfl) ?_
  refine lv_if_eq (tgt := 70) hx hb dX3_writeControl_62 (by decide) (fun c_7 => ?_) (fun c_7 => ?_)
  · exact absurd c_7 (by decide)
  refine lv_iload hx hb dX3_writeControl_65 (lv_at hl 6 rfl) ?_
  refine lv_goto (tgt := 73) hx hb dX3_writeControl_67 (by decide) ?_
  refine lv_istore (lv' := [(8, .int (nI se)), (7, .int (nI (32 % 256 + 256 * (ms % 256) + 65536 * ((((ms) / 256)) % 256) + 16777216 * ((ms + 6) / 7)))), (6, .int 1), (0, .ref h0), (1, .ref h1), (2, .int (nI id)), (3, .int 32), (4, .int (nI se)), (5, .int (nI th))]) hx hb dX3_writeControl_73 hl (by decide) rfl (fun ls hl => ?_)
  refine lv_aload_n hx hb dX3_writeControl_75 rfl (lv_at hl 4 rfl) ?_
  refine lv_iload_n hx hb dX3_writeControl_76 rfl (lv_at hl 5 rfl) ?_
  refine lv_iload hx hb dX3_writeControl_77 (lv_at hl 1 rfl) ?_
  refine lv_iload hx hb dX3_writeControl_79 (lv_at hl 0 rfl) ?_
  refine lv_aload_n hx hb dX3_writeControl_81 rfl (lv_at hl 3 rfl) ?_
  refine va_get (D := (dC, dI)) (ci := 4) (v := .int (nI mg)) (C := RX3) (T := TX3) (N := 6) hx hb hts in_c_X3_writeControl_32_X3 hown hK hP 0 rfl rfl 2 (by decide) (hts (.fieldLink RX3 22 "ClaimBus$Message" "group" "I") (List.mem_of_getElem? (i := 8) rfl)) (fun _ h9 => h9) rfl dX3_writeControl_82 ?_
  refine lv_bipush (v := 8) hx hb dX3_writeControl_85 (by decide) ?_
  refine lv_ishl hx hb dX3_writeControl_87 ?_
  refine lv_topi (fun x_8 ex_8 => ?_)
  obtain rfl : x_8 = (nI (256 * mg)) := ex_8.trans ((pk_shlN (n := mg) ((8 : Int32) &&& 31) 8 (by decide) (by omega)).trans (show nI (mg * 2 ^ 8) = nI (256 * mg) from congrArg nI (by omega)))
  refine lv_ior hx hb dX3_writeControl_88 ?_
  refine lv_topi (fun x_9 ex_9 => ?_)
  obtain rfl : x_9 = (nI (256 * mg + se)) := ex_9.trans ((q_or' se (256 * mg) 8 (by omega) (by omega) (by omega)).trans (show nI (se + (256 * mg)) = nI (256 * mg + se) from congrArg nI (by omega)))
  refine lv_aload_n hx hb dX3_writeControl_89 rfl (lv_at hl 3 rfl) ?_
  have hPc := hP.sub (ws' := [(h1, .inr (2, [.int (nI fi), .int ff, .int fo, .ref fw]))]) [1] rfl
  have hDc := hD.sub (ws' := [(h1, .inr (2, [.int (nI fi), .int ff, .int fo, .ref fw]))]) [1] (by decide +kernel) rfl
  have hKc := hK.sub (tys' := []) [] rfl
  have hFc := va_free (wc := [(h1, .inr (2, [.int (nI fi), .int ff, .int fo, .ref fw]))]) hD hS hA [1] rfl
  refine va_callv (va_runV (As := [.int (nI id), .int (nI (32 % 256 + 256 * (ms % 256) + 65536 * ((((ms) / 256)) % 256) + 16777216 * ((ms + 6) / 7))), .int (nI (256 * mg + se)), .ref h0]) (rest := []) ⟨hx, hb, hml, hown, hts⟩ (c_X1_write l dC dI (h1) (fi) (ff) (fo) (fw) (id) ((nI (32 % 256 + 256 * (ms % 256) + 65536 * ((((ms) / 256)) % 256) + 16777216 * ((ms + 6) / 7)))) ((nI (256 * mg + se))) (h0) H.size) (cwV 4 hts g_c_X3_writeControl_32_c_X1_write_36 rfl rfl rfl (by decide +kernel) ⟨Nat.le_of_ble_eq_true rfl, Nat.le_of_ble_eq_true rfl⟩) ⟨fun a U g mk q => by obtain ⟨q0, q1, qP, qK, qD, qE⟩ := q; exact ⟨q0, q1, qP, va_K.moved (u := U) (U := U.calling g mk a) (Vm.Alike.refl U.vm) qK, qD, ev.same (u := U) (U := U.calling g mk a) rfl qE⟩, va_recv hKc hPc (ci := 2) (q0 := 0) rfl rfl, fun U hU hW => ⟨rfl, by rw [hU], by rw [hU]; exact hPc, va_K.moved hW.alike hKc, hDc.weaken (fun _ _ _ _ => trivial), hE.warm hW⟩⟩ rfl rfl hl.1 rfl (lv_room (Nat.le_of_ble_eq_true rfl)) dX3_writeControl_90 ⟨Nat.le_of_ble_eq_true rfl, Nat.le_of_ble_eq_true rfl⟩) hS (fun q _ h => hFc q h) hFc (fun u t H1 locs ht hvm hw hB hz1 hk1 hS => ?_)
  clear hPc hDc hKc
  obtain ⟨hP1, hK1, hD1⟩ := hB
  rw [ht] at hP1
  have hK1 := va_K.moved hvm.symm hK1
  obtain ⟨hP, hD⟩ := va_join (wr := [(h0, .inr (4, [.int (nI mi), .int (nI mt), .int (nI mg), .int (nI ms), .int sd, .null]))]) (w1 := [(h1, .inr (2, [.int (nI id), .int (nI (32 % 256 + 256 * (ms % 256) + 65536 * ((((ms) / 256)) % 256) + 16777216 * ((ms + 6) / 7))), .int (nI (256 * mg + se)), .ref h0]))]) hP hD [1] [0] rfl rfl (by decide +kernel) (by decide +kernel) hk1 hFc hP1 hD1
  generalize H1 = H at hP hS ⊢
  replace hP : va_P (dC, dI) vwCl [(h0, .inr (4, [.int (nI mi), .int (nI mt), .int (nI mg), .int (nI ms), .int sd, .null])), (h1, .inr (2, [.int (nI id), .int (nI (32 % 256 + 256 * (ms % 256) + 65536 * ((((ms) / 256)) % 256) + 16777216 * ((ms + 6) / 7))), .int (nI (256 * mg + se)), .ref h0]))] H := hP
  replace hD : va_D A [(h0, .inr (4, [.int (nI mi), .int (nI mt), .int (nI mg), .int (nI ms), .int sd, .null])), (h1, .inr (2, [.int (nI id), .int (nI (32 % 256 + 256 * (ms % 256) + 65536 * ((((ms) / 256)) % 256) + 16777216 * ((ms + 6) / 7))), .int (nI (256 * mg + se)), .ref h0]))] := hD
  clear hw
  rw [show ((nI (32 % 256 + 256 * (ms % 256) + 65536 * ((((ms) / 256)) % 256) + 16777216 * ((ms + 6) / 7))) : Int32) = (nI (32 + 256 * (ms % 256) + 65536 * (ms / 256) + 16777216 * ((ms + 6) / 7))) from congrArg nI (show (32 % 256 + 256 * (ms % 256) + 65536 * ((((ms) / 256)) % 256) + 16777216 * ((ms + 6) / 7)) = (32 + 256 * (ms % 256) + 65536 * (ms / 256) + 16777216 * ((ms + 6) / 7)) from by omega)] at hP hD
  rw [show ((nI (256 * mg + se)) : Int32) = (nI (se + 256 * mg)) from congrArg nI (show (256 * mg + se) = (se + 256 * mg) from by omega)] at hP hD
  have hP9 := hP.sub (ws' := [(h0, .inr (4, [.int (nI mi), .int (nI mt), .int (nI mg), .int (nI ms), .int sd, .null])), (h1, .inr (2, [.int (nI id), .int (nI (32 + 256 * (ms % 256) + 65536 * (ms / 256) + 16777216 * ((ms + 6) / 7))), .int (nI (se + 256 * mg)), .ref h0]))]) [0, 1] rfl
  have hD9 := hD.sub (ws' := [(h0, .inr (4, [.int (nI mi), .int (nI mt), .int (nI mg), .int (nI ms), .int sd, .null])), (h1, .inr (2, [.int (nI id), .int (nI (32 + 256 * (ms % 256) + 65536 * (ms / 256) + 16777216 * ((ms + 6) / 7))), .int (nI (se + 256 * mg)), .ref h0]))]) [0, 1] (by decide +kernel) rfl
  have hK9 := hK.sub (tys' := []) [] rfl
  exact W.vret hx hb hr (fun t ht hW => ⟨⟨(), rfl, trivial, ⟨by rw [ht]; exact hP9, va_K.moved hW.alike hK9, hD9⟩⟩, hS.F ht⟩) hS.2.2 dX3_writeControl_93

noncomputable def tl_c_X3_writeControl_17 : List Cond := wsX30 ++ (v_c_X10_packN ++ (v_c_X1_write))
noncomputable def v_c_X3_writeControl_17 : List Cond := .code yX3_writeControl cX3_writeControl 9 none :: ([.initialized RX10, .static yX10_pack, .fieldLink RX3 22 "ClaimBus$Message" "group" "I", .initialized RX1, .methodLink RX3 36 yX1_write, .instanceMethod yX1_write, .selects RX1 yX1_write yX1_write] ++ tl_c_X3_writeControl_17)
theorem it_c_X3_writeControl_17 : ∀ w ∈ tl_c_X3_writeControl_17, w ∈ v_c_X3_writeControl_17 := fun w h => List.mem_cons_of_mem _ (List.mem_append_right _ h)
theorem in_c_X3_writeControl_17_X3 : ∀ w ∈ wsX30, w ∈ v_c_X3_writeControl_17 := fun w h => it_c_X3_writeControl_17 w (List.mem_append_left _ h)
theorem ic_c_X3_writeControl_17_c_X10_packN : ∀ w ∈ v_c_X10_packN, w ∈ v_c_X3_writeControl_17 := fun w h => it_c_X3_writeControl_17 w (List.mem_append_right _ (List.mem_append_left _ h))
theorem ic_c_X3_writeControl_17_c_X1_write : ∀ w ∈ v_c_X1_write, w ∈ v_c_X3_writeControl_17 := fun w h => it_c_X3_writeControl_17 w (List.mem_append_right _ (List.mem_append_right _ (h)))
theorem gt_c_X3_writeControl_17 : ∀ w ∈ tl_c_X3_writeControl_17, goodWord w = true := List.forall_mem_append.mpr ⟨gw_wsX30, List.forall_mem_append.mpr ⟨gw_c_X10_packN, gw_c_X1_write⟩⟩
theorem gw_c_X3_writeControl_17 : ∀ w ∈ v_c_X3_writeControl_17, goodWord w = true := List.forall_mem_cons.mpr ⟨by decide +kernel, List.forall_mem_append.mpr ⟨List.all_eq_true.mp (by decide +kernel), gt_c_X3_writeControl_17⟩⟩
theorem g_c_X3_writeControl_17_c_X10_packN_50 : GoodIn v_c_X3_writeControl_17 v_c_X10_packN := fun w h => ⟨ic_c_X3_writeControl_17_c_X10_packN w h, good_of_word (gw_c_X10_packN w h)⟩
theorem g_c_X3_writeControl_17_c_X1_write_36 : GoodIn v_c_X3_writeControl_17 (wsV RX3 36 RX1 yX1_write v_c_X1_write) := goodIn_app (goodIn_r [.methodLink RX3 36 yX1_write, .instanceMethod yX1_write, .selects RX1 yX1_write yX1_write, .initialized RX1] [5, 6, 7, 4] (by decide +kernel) (by decide +kernel)) (fun w h => ⟨ic_c_X3_writeControl_17_c_X1_write w h, good_of_word (gw_c_X1_write w h)⟩)
set_option maxHeartbeats 4000000 in
set_option maxRecDepth 100000 in
/-- Message.writeControl 17 -/
theorem c_X3_writeControl_17 (l : Launch) (dC : Nat → ClassId) (dI : Nat → Nat → Nat) (h0 : Nat) (mi : Nat) (mt : Nat) (mg : Nat) (ms : Nat) (sd : Int32) (h1 : Nat) (fi : Nat) (ff : Int32) (fo : Int32) (fw : Nat) (id : Nat) (se : Nat) (th : Nat) (sz : Nat) (hmi : mi < 8) (hmt : mt < 256) (hmg : mg < 262144) (hms : ms < 1786) (h_se : se < 256) (h_th : th < 256) : Met l yX3_writeControl v_c_X3_writeControl_17 ({ frames := 1, cells := 0, slots := 0, locals := 24 }) (va_Pc [.ref h0, .ref h1, .int (nI id), .int 17, .int (nI se), .int (nI th)] (fun U => U.heap.size = sz ∧ va_P (dC, dI) vwCl [(h0, .inr (4, [.int (nI mi), .int (nI mt), .int (nI mg), .int (nI ms), .int sd, .null])), (h1, .inr (2, [.int (nI fi), .int ff, .int fo, .ref fw]))] U.heap ∧ va_K (dC, dI) vwCl [] U ∧ va_D (fun _ => True) [(h0, .inr (4, [.int (nI mi), .int (nI mt), .int (nI mg), .int (nI ms), .int sd, .null])), (h1, .inr (2, [.int (nI fi), .int ff, .int fo, .ref fw]))] ∧ ev U)) (va_Qv (fun _ : Unit => True) (fun (_ : Unit) (t : State) => va_P (dC, dI) vwCl [(h0, .inr (4, [.int (nI mi), .int (nI mt), .int (nI mg), .int (nI ms), .int sd, .null])), (h1, .inr (2, [.int (nI id), .int (nI (17 + 256 * se + 65536 * th + 4278190080)), .int (nI (255 + 256 * mg)), .ref h0]))] t.heap ∧ va_K (dC, dI) vwCl [] t ∧ va_D (va_A [(h0, .inr (4, [.int (nI mi), .int (nI mt), .int (nI mg), .int (nI ms), .int sd, .null])), (h1, .inr (2, [.int (nI fi), .int ff, .int fo, .ref fw]))] sz) [(h0, .inr (4, [.int (nI mi), .int (nI mt), .int (nI mg), .int (nI ms), .int sd, .null])), (h1, .inr (2, [.int (nI id), .int (nI (17 + 256 * se + 65536 * th + 4278190080)), .int (nI (255 + 256 * mg)), .ref h0]))]) (va_A [(h0, .inr (4, [.int (nI mi), .int (nI mt), .int (nI mg), .int (nI ms), .int sd, .null])), (h1, .inr (2, [.int (nI fi), .int ff, .int fo, .ref fw]))] sz)) 0 0 (va_A [(h0, .inr (4, [.int (nI mi), .int (nI mt), .int (nI mg), .int (nI ms), .int sd, .null])), (h1, .inr (2, [.int (nI fi), .int ff, .int fo, .ref fw]))] sz) := by
  refine Met.ofW (cc := cX3_writeControl) (maxL := 9) (ret := none) (by decide) rfl ?_
  intro p e s m args below meth c s₁ B hml hv
  obtain ⟨rfl, hsz, hP, hK, hD0, hE⟩ := hv
  have hx := B.exec
  have hb := B.bytes
  have hr := B.returns
  have hts := atoms_spec (ws := v_c_X3_writeControl_17) B.pre
  have hown : s.vm.findClass RX3 = some m.cls := findClass_of_methodNamed B.named
  have hlocks := B.notSynchronized
  subst hsz
  have hD := hD0.self (sz := s.heap.size)
  generalize hAe : va_A [(h0, .inr (4, [.int (nI mi), .int (nI mt), .int (nI mg), .int (nI ms), .int sd, .null])), (h1, .inr (2, [.int (nI fi), .int ff, .int fo, .ref fw]))] s.heap.size = A at hD ⊢
  have hA : ∀ q : Nat, s.heap.size ≤ q → A q := fun q h => by rw [← hAe]; exact Or.inr h
  have hS : va_S A s.heap s.heap [] := va_S.rf
  replace hP : va_P (dC, dI) vwCl [(h0, .inr (4, [.int (nI mi), .int (nI mt), .int (nI mg), .int (nI ms), .int sd, .null])), (h1, .inr (2, [.int (nI fi), .int ff, .int fo, .ref fw]))] s.heap := hP
  have hl := lv_entry ([.ref h0, .ref h1, .int (nI id), .int 17, .int (nI se), .int (nI th)]) (n := 9) (Nat.le_of_ble_eq_true rfl)
  rw [lg_entry_eq]
  generalize (lg_sl ([.ref h0, .ref h1, .int (nI id), .int 17, .int (nI se), .int (nI th)]) ++ List.replicate (9 - (lg_sl ([.ref h0, .ref h1, .int (nI id), .int 17, .int (nI se), .int (nI th)])).length) Slot.unset).toArray = ls at hl ⊢
  replace hl : lv_has ls 9 [(0, .ref h0), (1, .ref h1), (2, .int (nI id)), (3, .int 17), (4, .int (nI se)), (5, .int (nI th))] := hl
  obtain ⟨H, hH⟩ : ∃ z : Heap, z = s.heap := ⟨_, rfl⟩
  rw [← hH]
  replace hS : va_S A s.heap H [] := by rw [hH]; exact va_S.rf
  replace hP : va_P (dC, dI) vwCl [(h0, .inr (4, [.int (nI mi), .int (nI mt), .int (nI mg), .int (nI ms), .int sd, .null])), (h1, .inr (2, [.int (nI fi), .int ff, .int fo, .ref fw]))] H := by rw [hH]; exact hP
  clear hH
  refine lv_iload_n hx hb dX3_writeControl_0 rfl (lv_at hl 3 rfl) ?_
  refine lv_bipush (v := 17) hx hb dX3_writeControl_1 (by decide) ?_
  refine lv_icmp_eq (tgt := 17) hx hb dX3_writeControl_3 (by decide) (fun c_1 => ?_) (fun c_1 => ?_)
  rotate_left
  · exact absurd (by decide) c_1
  refine lv_iconst (v := 0) hx hb dX3_writeControl_17 (by decide) ?_
  refine lv_istore (lv' := [(6, .int 0), (0, .ref h0), (1, .ref h1), (2, .int (nI id)), (3, .int 17), (4, .int (nI se)), (5, .int (nI th))]) hx hb dX3_writeControl_18 hl (by decide) rfl (fun ls hl => ?_)
  refine lv_iload hx hb dX3_writeControl_20 (lv_at hl 0 rfl) ?_
  refine lv_if_eq (tgt := 47) hx hb dX3_writeControl_22 (by decide) (fun c_2 => ?_) (fun c_2 => ?_)
  rotate_left
  · exact absurd (by decide) c_2
  refine lv_iload_n hx hb dX3_writeControl_47 rfl (lv_at hl 4 rfl) ?_
  refine lv_iload hx hb dX3_writeControl_48 (lv_at hl 5 rfl) ?_
  refine lv_iload hx hb dX3_writeControl_50 (lv_at hl 6 rfl) ?_
  refine lv_sipush (v := 255) hx hb dX3_writeControl_52 (by decide) ?_
  have hPc := hP.sub (ws' := []) [] rfl
  have hDc := hD.sub (ws' := []) [] (by decide +kernel) rfl
  have hKc := hK.sub (tys' := []) [] rfl
  have hFc := ro_free hS hA
  refine va_calli (va_runSN (As := [.int 17, .int (nI se), .int (nI th), .int 255]) (rest := []) ⟨hx, hb, hml, hown, hts⟩ (c_X10_packN l dC dI (17) (se) (th) (255) H.size (by omega) (by omega) (by omega) (by omega)) ⟨va_cnB 4 hts g_c_X3_writeControl_17_c_X10_packN_50 rfl rfl rfl hE.n10 (hts (.initialized RX10) (List.mem_of_getElem? (i := 1) rfl)) (by decide +kernel) ⟨Nat.le_of_ble_eq_true rfl, Nat.le_of_ble_eq_true rfl⟩, (hts (.static yX10_pack) (List.mem_of_getElem? (i := 2) rfl)), trivial⟩ ⟨fun a U g mk q => by obtain ⟨q0, q1, qP, qK, qD, qE⟩ := q; exact ⟨q0, q1, qP, va_K.moved (u := U) (U := U.calling g mk a) (Vm.Alike.refl U.vm) qK, qD, ev.same (u := U) (U := U.calling g mk a) rfl qE⟩, fun U hU hW => ⟨rfl, by rw [hU], by rw [hU]; exact hPc, va_K.moved hW.alike hKc, hDc.weaken (fun _ _ _ _ => trivial), hE.warm hW⟩⟩ rfl rfl hl.1 rfl (lv_room (Nat.le_of_ble_eq_true rfl)) dX3_writeControl_55 ⟨Nat.le_of_ble_eq_true rfl, Nat.le_of_ble_eq_true rfl⟩) hS (fun q _ h => hFc q h) hFc (fun r_3 u t H1 locs ht hvm hw hB hz1 hk1 hS => ?_)
  clear hPc hDc hKc
  replace hP := ro_keep hP hk1
  generalize H1 = H at hP hS ⊢
  replace hP : va_P (dC, dI) vwCl [(h0, .inr (4, [.int (nI mi), .int (nI mt), .int (nI mg), .int (nI ms), .int sd, .null])), (h1, .inr (2, [.int (nI fi), .int ff, .int fo, .ref fw]))] H := hP
  have hw := hw.symm
  subst hw
  refine lv_istore (lv' := [(7, .int (nI (17 % 256 + 256 * (se % 256) + 65536 * (th % 256) + 16777216 * 255))), (6, .int 0), (0, .ref h0), (1, .ref h1), (2, .int (nI id)), (3, .int 17), (4, .int (nI se)), (5, .int (nI th))]) hx hb dX3_writeControl_58 hl (by decide) rfl (fun ls hl => ?_)
  refine lv_iload hx hb dX3_writeControl_60 (lv_at hl 1 rfl) ?_
  refine lv_if_eq (tgt := 70) hx hb dX3_writeControl_62 (by decide) (fun c_4 => ?_) (fun c_4 => ?_)
  rotate_left
  · exact absurd (by decide) c_4
  refine lv_sipush (v := 255) hx hb dX3_writeControl_70 (by decide) ?_
  refine lv_istore (lv' := [(8, .int 255), (7, .int (nI (17 % 256 + 256 * (se % 256) + 65536 * (th % 256) + 16777216 * 255))), (6, .int 0), (0, .ref h0), (1, .ref h1), (2, .int (nI id)), (3, .int 17), (4, .int (nI se)), (5, .int (nI th))]) hx hb dX3_writeControl_73 hl (by decide) rfl (fun ls hl => ?_)
  refine lv_aload_n hx hb dX3_writeControl_75 rfl (lv_at hl 4 rfl) ?_
  refine lv_iload_n hx hb dX3_writeControl_76 rfl (lv_at hl 5 rfl) ?_
  refine lv_iload hx hb dX3_writeControl_77 (lv_at hl 1 rfl) ?_
  refine lv_iload hx hb dX3_writeControl_79 (lv_at hl 0 rfl) ?_
  refine lv_aload_n hx hb dX3_writeControl_81 rfl (lv_at hl 3 rfl) ?_
  refine va_get (D := (dC, dI)) (ci := 4) (v := .int (nI mg)) (C := RX3) (T := TX3) (N := 6) hx hb hts in_c_X3_writeControl_17_X3 hown hK hP 0 rfl rfl 2 (by decide) (hts (.fieldLink RX3 22 "ClaimBus$Message" "group" "I") (List.mem_of_getElem? (i := 3) rfl)) (fun _ h9 => h9) rfl dX3_writeControl_82 ?_
  refine lv_bipush (v := 8) hx hb dX3_writeControl_85 (by decide) ?_
  refine lv_ishl hx hb dX3_writeControl_87 ?_
  refine lv_topi (fun x_5 ex_5 => ?_)
  obtain rfl : x_5 = (nI (256 * mg)) := ex_5.trans ((pk_shlN (n := mg) ((8 : Int32) &&& 31) 8 (by decide) (by omega)).trans (show nI (mg * 2 ^ 8) = nI (256 * mg) from congrArg nI (by omega)))
  refine lv_ior hx hb dX3_writeControl_88 ?_
  refine lv_topi (fun x_6 ex_6 => ?_)
  obtain rfl : x_6 = (nI (256 * mg + 255)) := ex_6.trans ((q_or' 255 (256 * mg) 8 (by omega) (by omega) (by omega)).trans (show nI (255 + (256 * mg)) = nI (256 * mg + 255) from congrArg nI (by omega)))
  refine lv_aload_n hx hb dX3_writeControl_89 rfl (lv_at hl 3 rfl) ?_
  have hPc := hP.sub (ws' := [(h1, .inr (2, [.int (nI fi), .int ff, .int fo, .ref fw]))]) [1] rfl
  have hDc := hD.sub (ws' := [(h1, .inr (2, [.int (nI fi), .int ff, .int fo, .ref fw]))]) [1] (by decide +kernel) rfl
  have hKc := hK.sub (tys' := []) [] rfl
  have hFc := va_free (wc := [(h1, .inr (2, [.int (nI fi), .int ff, .int fo, .ref fw]))]) hD hS hA [1] rfl
  refine va_callv (va_runV (As := [.int (nI id), .int (nI (17 % 256 + 256 * (se % 256) + 65536 * (th % 256) + 16777216 * 255)), .int (nI (256 * mg + 255)), .ref h0]) (rest := []) ⟨hx, hb, hml, hown, hts⟩ (c_X1_write l dC dI (h1) (fi) (ff) (fo) (fw) (id) ((nI (17 % 256 + 256 * (se % 256) + 65536 * (th % 256) + 16777216 * 255))) ((nI (256 * mg + 255))) (h0) H.size) (cwV 4 hts g_c_X3_writeControl_17_c_X1_write_36 rfl rfl rfl (by decide +kernel) ⟨Nat.le_of_ble_eq_true rfl, Nat.le_of_ble_eq_true rfl⟩) ⟨fun a U g mk q => by obtain ⟨q0, q1, qP, qK, qD, qE⟩ := q; exact ⟨q0, q1, qP, va_K.moved (u := U) (U := U.calling g mk a) (Vm.Alike.refl U.vm) qK, qD, ev.same (u := U) (U := U.calling g mk a) rfl qE⟩, va_recv hKc hPc (ci := 2) (q0 := 0) rfl rfl, fun U hU hW => ⟨rfl, by rw [hU], by rw [hU]; exact hPc, va_K.moved hW.alike hKc, hDc.weaken (fun _ _ _ _ => trivial), hE.warm hW⟩⟩ rfl rfl hl.1 rfl (lv_room (Nat.le_of_ble_eq_true rfl)) dX3_writeControl_90 ⟨Nat.le_of_ble_eq_true rfl, Nat.le_of_ble_eq_true rfl⟩) hS (fun q _ h => hFc q h) hFc (fun u t H1 locs ht hvm hw hB hz1 hk1 hS => ?_)
  clear hPc hDc hKc
  obtain ⟨hP1, hK1, hD1⟩ := hB
  rw [ht] at hP1
  have hK1 := va_K.moved hvm.symm hK1
  obtain ⟨hP, hD⟩ := va_join (wr := [(h0, .inr (4, [.int (nI mi), .int (nI mt), .int (nI mg), .int (nI ms), .int sd, .null]))]) (w1 := [(h1, .inr (2, [.int (nI id), .int (nI (17 % 256 + 256 * (se % 256) + 65536 * (th % 256) + 16777216 * 255)), .int (nI (256 * mg + 255)), .ref h0]))]) hP hD [1] [0] rfl rfl (by decide +kernel) (by decide +kernel) hk1 hFc hP1 hD1
  generalize H1 = H at hP hS ⊢
  replace hP : va_P (dC, dI) vwCl [(h0, .inr (4, [.int (nI mi), .int (nI mt), .int (nI mg), .int (nI ms), .int sd, .null])), (h1, .inr (2, [.int (nI id), .int (nI (17 % 256 + 256 * (se % 256) + 65536 * (th % 256) + 16777216 * 255)), .int (nI (256 * mg + 255)), .ref h0]))] H := hP
  replace hD : va_D A [(h0, .inr (4, [.int (nI mi), .int (nI mt), .int (nI mg), .int (nI ms), .int sd, .null])), (h1, .inr (2, [.int (nI id), .int (nI (17 % 256 + 256 * (se % 256) + 65536 * (th % 256) + 16777216 * 255)), .int (nI (256 * mg + 255)), .ref h0]))] := hD
  clear hw
  rw [show ((nI (17 % 256 + 256 * (se % 256) + 65536 * (th % 256) + 16777216 * 255)) : Int32) = (nI (17 + 256 * se + 65536 * th + 4278190080)) from congrArg nI (show (17 % 256 + 256 * (se % 256) + 65536 * (th % 256) + 16777216 * 255) = (17 + 256 * se + 65536 * th + 4278190080) from by omega)] at hP hD
  rw [show ((nI (256 * mg + 255)) : Int32) = (nI (255 + 256 * mg)) from congrArg nI (show (256 * mg + 255) = (255 + 256 * mg) from by omega)] at hP hD
  have hP9 := hP.sub (ws' := [(h0, .inr (4, [.int (nI mi), .int (nI mt), .int (nI mg), .int (nI ms), .int sd, .null])), (h1, .inr (2, [.int (nI id), .int (nI (17 + 256 * se + 65536 * th + 4278190080)), .int (nI (255 + 256 * mg)), .ref h0]))]) [0, 1] rfl
  have hD9 := hD.sub (ws' := [(h0, .inr (4, [.int (nI mi), .int (nI mt), .int (nI mg), .int (nI ms), .int sd, .null])), (h1, .inr (2, [.int (nI id), .int (nI (17 + 256 * se + 65536 * th + 4278190080)), .int (nI (255 + 256 * mg)), .ref h0]))]) [0, 1] (by decide +kernel) rfl
  have hK9 := hK.sub (tys' := []) [] rfl
  exact W.vret hx hb hr (fun t ht hW => ⟨⟨(), rfl, trivial, ⟨by rw [ht]; exact hP9, va_K.moved hW.alike hK9, hD9⟩⟩, hS.F ht⟩) hS.2.2 dX3_writeControl_93

noncomputable def tl_c_X3_writePacketN : List Cond := wsX30 ++ (v_c_X3_fourFrom ++ (v_c_X10_identifier ++ (v_c_X1_write0)))
noncomputable def v_c_X3_writePacketN : List Cond := .code yX3_writePacket cX3_writePacket 6 none :: ([.initialized RX3, .methodLink RX3 32 yX3_fourFrom, .instanceMethod yX3_fourFrom, .selects RX3 yX3_fourFrom yX3_fourFrom, .fieldLink RX3 19 "ClaimBus$Message" "to" "I", .initialized RX10, .static yX10_identifier, .initialized RX1, .methodLink RX3 36 yX1_write, .instanceMethod yX1_write, .selects RX1 yX1_write yX1_write] ++ tl_c_X3_writePacketN)
theorem it_c_X3_writePacketN : ∀ w ∈ tl_c_X3_writePacketN, w ∈ v_c_X3_writePacketN := fun w h => List.mem_cons_of_mem _ (List.mem_append_right _ h)
theorem in_c_X3_writePacketN_X3 : ∀ w ∈ wsX30, w ∈ v_c_X3_writePacketN := fun w h => it_c_X3_writePacketN w (List.mem_append_left _ h)
theorem ic_c_X3_writePacketN_c_X3_fourFrom : ∀ w ∈ v_c_X3_fourFrom, w ∈ v_c_X3_writePacketN := fun w h => it_c_X3_writePacketN w (List.mem_append_right _ (List.mem_append_left _ h))
theorem ic_c_X3_writePacketN_c_X10_identifier : ∀ w ∈ v_c_X10_identifier, w ∈ v_c_X3_writePacketN := fun w h => it_c_X3_writePacketN w (List.mem_append_right _ (List.mem_append_right _ (List.mem_append_left _ h)))
theorem ic_c_X3_writePacketN_c_X1_write0 : ∀ w ∈ v_c_X1_write0, w ∈ v_c_X3_writePacketN := fun w h => it_c_X3_writePacketN w (List.mem_append_right _ (List.mem_append_right _ (List.mem_append_right _ (h))))
theorem gt_c_X3_writePacketN : ∀ w ∈ tl_c_X3_writePacketN, goodWord w = true := List.forall_mem_append.mpr ⟨gw_wsX30, List.forall_mem_append.mpr ⟨gw_c_X3_fourFrom, List.forall_mem_append.mpr ⟨gw_c_X10_identifier, gw_c_X1_write0⟩⟩⟩
theorem gw_c_X3_writePacketN : ∀ w ∈ v_c_X3_writePacketN, goodWord w = true := List.forall_mem_cons.mpr ⟨by decide +kernel, List.forall_mem_append.mpr ⟨List.all_eq_true.mp (by decide +kernel), gt_c_X3_writePacketN⟩⟩
theorem g_c_X3_writePacketN_c_X3_fourFrom_32 : GoodIn v_c_X3_writePacketN (wsV RX3 32 RX3 yX3_fourFrom v_c_X3_fourFrom) := goodIn_app (goodIn_r [.methodLink RX3 32 yX3_fourFrom, .instanceMethod yX3_fourFrom, .selects RX3 yX3_fourFrom yX3_fourFrom, .initialized RX3] [2, 3, 4, 1] (by decide +kernel) (by decide +kernel)) (fun w h => ⟨ic_c_X3_writePacketN_c_X3_fourFrom w h, good_of_word (gw_c_X3_fourFrom w h)⟩)
theorem g_c_X3_writePacketN_c_X10_identifier_42 : GoodIn v_c_X3_writePacketN v_c_X10_identifier := fun w h => ⟨ic_c_X3_writePacketN_c_X10_identifier w h, good_of_word (gw_c_X10_identifier w h)⟩
theorem g_c_X3_writePacketN_c_X1_write0_36 : GoodIn v_c_X3_writePacketN (wsV RX3 36 RX1 yX1_write v_c_X1_write0) := goodIn_app (goodIn_r [.methodLink RX3 36 yX1_write, .instanceMethod yX1_write, .selects RX1 yX1_write yX1_write, .initialized RX1] [9, 10, 11, 8] (by decide +kernel) (by decide +kernel)) (fun w h => ⟨ic_c_X3_writePacketN_c_X1_write0 w h, good_of_word (gw_c_X1_write0 w h)⟩)
set_option maxHeartbeats 4000000 in
set_option maxRecDepth 100000 in
/-- Message.writePacket -/
theorem c_X3_writePacketN (l : Launch) (dC : Nat → ClassId) (dI : Nat → Nat → Nat) (h0 : Nat) (mi : Nat) (mt : Nat) (mg : Nat) (ms : Nat) (sd : Int32) (h1 : Nat) (fi : Nat) (ff : Int32) (fo : Int32) (ad : Nat) (nu : Nat) (sz : Nat) (hmi : mi < 8) (hmt : mt < 256) (hmg : mg < 262144) (hms : ms < 1786) (had : ad < 256) (hnu : 1 ≤ nu ∧ nu < 256) : Met l yX3_writePacket v_c_X3_writePacketN ({ frames := 2, cells := 0, slots := 0, locals := 44 }) (va_Pc [.ref h0, .ref h1, .int (nI ad), .int (nI nu)] (fun U => U.heap.size = sz ∧ va_P (dC, dI) vwCl [(h0, .inr (4, [.int (nI mi), .int (nI mt), .int (nI mg), .int (nI ms), .int sd, .null])), (h1, .inr (2, [.int (nI fi), .int ff, .int fo, .null]))] U.heap ∧ va_K (dC, dI) vwCl [] U ∧ va_D (fun _ => True) [(h0, .inr (4, [.int (nI mi), .int (nI mt), .int (nI mg), .int (nI ms), .int sd, .null])), (h1, .inr (2, [.int (nI fi), .int ff, .int fo, .null]))] ∧ ev U)) (va_Qv (fun _ : Unit => True) (fun (_ : Unit) (t : State) => ∃ (zf : Int32) (zo : Int32), va_P (dC, dI) vwCl [(h0, .inr (4, [.int (nI mi), .int (nI mt), .int (nI mg), .int (nI ms), .int sd, .null])), (h1, .inr (2, [.int (nI (469762048 + 65536 * 235 + 256 * mt + ad)), .int zf, .int zo, .ref h0]))] t.heap ∧ va_K (dC, dI) vwCl [] t ∧ va_D (va_A [(h0, .inr (4, [.int (nI mi), .int (nI mt), .int (nI mg), .int (nI ms), .int sd, .null])), (h1, .inr (2, [.int (nI fi), .int ff, .int fo, .null]))] sz) [(h0, .inr (4, [.int (nI mi), .int (nI mt), .int (nI mg), .int (nI ms), .int sd, .null])), (h1, .inr (2, [.int (nI (469762048 + 65536 * 235 + 256 * mt + ad)), .int zf, .int zo, .ref h0]))] ∧ (fb zf zo 0 = nI nu) ∧ (∀ i, i < 7 → fb zf zo (i + 1) = bx sd ms (7 * (nu - 1) + i))) (va_A [(h0, .inr (4, [.int (nI mi), .int (nI mt), .int (nI mg), .int (nI ms), .int sd, .null])), (h1, .inr (2, [.int (nI fi), .int ff, .int fo, .null]))] sz)) 0 0 (va_A [(h0, .inr (4, [.int (nI mi), .int (nI mt), .int (nI mg), .int (nI ms), .int sd, .null])), (h1, .inr (2, [.int (nI fi), .int ff, .int fo, .null]))] sz) := by
  refine Met.ofW (cc := cX3_writePacket) (maxL := 6) (ret := none) (by decide) rfl ?_
  intro p e s m args below meth c s₁ B hml hv
  obtain ⟨rfl, hsz, hP, hK, hD0, hE⟩ := hv
  have hx := B.exec
  have hb := B.bytes
  have hr := B.returns
  have hts := atoms_spec (ws := v_c_X3_writePacketN) B.pre
  have hown : s.vm.findClass RX3 = some m.cls := findClass_of_methodNamed B.named
  have hlocks := B.notSynchronized
  subst hsz
  have hD := hD0.self (sz := s.heap.size)
  generalize hAe : va_A [(h0, .inr (4, [.int (nI mi), .int (nI mt), .int (nI mg), .int (nI ms), .int sd, .null])), (h1, .inr (2, [.int (nI fi), .int ff, .int fo, .null]))] s.heap.size = A at hD ⊢
  have hA : ∀ q : Nat, s.heap.size ≤ q → A q := fun q h => by rw [← hAe]; exact Or.inr h
  have hS : va_S A s.heap s.heap [] := va_S.rf
  replace hP : va_P (dC, dI) vwCl [(h0, .inr (4, [.int (nI mi), .int (nI mt), .int (nI mg), .int (nI ms), .int sd, .null])), (h1, .inr (2, [.int (nI fi), .int ff, .int fo, .null]))] s.heap := hP
  have hl := lv_entry ([.ref h0, .ref h1, .int (nI ad), .int (nI nu)]) (n := 6) (Nat.le_of_ble_eq_true rfl)
  rw [lg_entry_eq]
  generalize (lg_sl ([.ref h0, .ref h1, .int (nI ad), .int (nI nu)]) ++ List.replicate (6 - (lg_sl ([.ref h0, .ref h1, .int (nI ad), .int (nI nu)])).length) Slot.unset).toArray = ls at hl ⊢
  replace hl : lv_has ls 6 [(0, .ref h0), (1, .ref h1), (2, .int (nI ad)), (3, .int (nI nu))] := hl
  obtain ⟨H, hH⟩ : ∃ z : Heap, z = s.heap := ⟨_, rfl⟩
  rw [← hH]
  replace hS : va_S A s.heap H [] := by rw [hH]; exact va_S.rf
  replace hP : va_P (dC, dI) vwCl [(h0, .inr (4, [.int (nI mi), .int (nI mt), .int (nI mg), .int (nI ms), .int sd, .null])), (h1, .inr (2, [.int (nI fi), .int ff, .int fo, .null]))] H := by rw [hH]; exact hP
  clear hH
  refine lv_iload_n hx hb dX3_writePacket_0 rfl (lv_at hl 3 rfl) ?_
  refine lv_iconst (v := 1) hx hb dX3_writePacket_1 (by decide) ?_
  refine lv_isub hx hb dX3_writePacket_2 ?_
  refine lv_topi (fun x_1 ex_1 => ?_)
  obtain rfl : x_1 = (nI (nu - 1)) := ex_1.trans ((pk_sub (a := nu) (b := 1) (by omega)).trans (show nI (nu - 1) = nI (nu - 1) from congrArg nI (by omega)))
  refine lv_bipush (v := 7) hx hb dX3_writePacket_3 (by decide) ?_
  refine lv_imul hx hb dX3_writePacket_5 ?_
  refine lv_topi (fun x_2 ex_2 => ?_)
  obtain rfl : x_2 = (nI (7 * nu - 7)) := ex_2.trans ((pk_mul (nu - 1) 7).trans (show nI ((nu - 1) * 7) = nI (7 * nu - 7) from congrArg nI (by omega)))
  refine lv_istore (lv' := [(4, .int (nI (7 * nu - 7))), (0, .ref h0), (1, .ref h1), (2, .int (nI ad)), (3, .int (nI nu))]) hx hb dX3_writePacket_6 hl (by decide) rfl (fun ls hl => ?_)
  refine lv_iload_n hx hb dX3_writePacket_8 rfl (lv_at hl 4 rfl) ?_
  refine lv_sipush (v := 255) hx hb dX3_writePacket_9 (by decide) ?_
  refine lv_iand hx hb dX3_writePacket_12 ?_
  refine lv_topi (fun x_3 ex_3 => ?_)
  obtain rfl : x_3 = (nI nu) := ex_3.trans ((pk_andN (n := nu) (m := 255) (by omega) 8 (by decide)).trans (show nI (nu % 2 ^ 8) = nI (nu) from congrArg nI (by omega)))
  refine lv_aload_n hx hb dX3_writePacket_13 rfl (lv_at hl 1 rfl) ?_
  refine lv_iload hx hb dX3_writePacket_14 (lv_at hl 0 rfl) ?_
  have hPc := hP.sub (ws' := [(h0, .inr (4, [.int (nI mi), .int (nI mt), .int (nI mg), .int (nI ms), .int sd, .null]))]) [0] rfl
  have hDc := hD.sub (ws' := [(h0, .inr (4, [.int (nI mi), .int (nI mt), .int (nI mg), .int (nI ms), .int sd, .null]))]) [0] (by decide +kernel) rfl
  have hKc := hK.sub (tys' := []) [] rfl
  have hFc := ro_free hS hA
  refine va_calli (va_runV (As := [.int (nI (7 * nu - 7))]) (rest := [.int (nI nu)]) ⟨hx, hb, hml, hown, hts⟩ (c_X3_fourFrom l dC dI (h0) (mi) (mt) (mg) (ms) (sd) ((7 * nu - 7)) H.size hmi hmt hmg hms (by omega)) (cwV 1 hts g_c_X3_writePacketN_c_X3_fourFrom_32 rfl rfl rfl (by decide +kernel) ⟨Nat.le_of_ble_eq_true rfl, Nat.le_of_ble_eq_true rfl⟩) ⟨fun a U g mk q => by obtain ⟨q0, q1, qP, qK, qD, qE⟩ := q; exact ⟨q0, q1, qP, va_K.moved (u := U) (U := U.calling g mk a) (Vm.Alike.refl U.vm) qK, qD, ev.same (u := U) (U := U.calling g mk a) rfl qE⟩, va_recv hKc hPc (ci := 4) (q0 := 0) rfl rfl, fun U hU hW => ⟨rfl, by rw [hU], by rw [hU]; exact hPc, va_K.moved hW.alike hKc, hDc.weaken (fun _ _ _ _ => trivial), hE.warm hW⟩⟩ rfl rfl hl.1 rfl (lv_room (Nat.le_of_ble_eq_true rfl)) dX3_writePacket_16 ⟨Nat.le_of_ble_eq_true rfl, Nat.le_of_ble_eq_true rfl⟩) hS (fun q _ h => hFc q h) hFc (fun r_4 u t H1 locs ht hvm hw hB hz1 hk1 hS => ?_)
  clear hPc hDc hKc
  replace hP := ro_keep hP hk1
  generalize H1 = H at hP hS ⊢
  replace hP : va_P (dC, dI) vwCl [(h0, .inr (4, [.int (nI mi), .int (nI mt), .int (nI mg), .int (nI ms), .int sd, .null])), (h1, .inr (2, [.int (nI fi), .int ff, .int fo, .null]))] H := hP
  have hw := hw.symm
  subst hw
  refine lv_bipush (v := 8) hx hb dX3_writePacket_19 (by decide) ?_
  refine lv_ishl hx hb dX3_writePacket_21 ?_
  refine lv_ior hx hb dX3_writePacket_22 ?_
  refine lv_istore (lv' := [(5, .int ((nI nu) ||| ((pk (bx sd ms (7 * nu - 7)) (bx sd ms ((7 * nu - 7) + 1)) (bx sd ms ((7 * nu - 7) + 2)) (bx sd ms ((7 * nu - 7) + 3))) <<< ((8 : Int32) &&& 31)))), (4, .int (nI (7 * nu - 7))), (0, .ref h0), (1, .ref h1), (2, .int (nI ad)), (3, .int (nI nu))]) hx hb dX3_writePacket_23 hl (by decide) rfl (fun ls hl => ?_)
  refine lv_aload_n hx hb dX3_writePacket_25 rfl (lv_at hl 3 rfl) ?_
  refine lv_sipush (v := 235) hx hb dX3_writePacket_26 (by decide) ?_
  refine lv_aload_n hx hb dX3_writePacket_29 rfl (lv_at hl 2 rfl) ?_
  refine va_get (D := (dC, dI)) (ci := 4) (v := .int (nI mt)) (C := RX3) (T := TX3) (N := 6) hx hb hts in_c_X3_writePacketN_X3 hown hK hP 0 rfl rfl 1 (by decide) (hts (.fieldLink RX3 19 "ClaimBus$Message" "to" "I") (List.mem_of_getElem? (i := 5) rfl)) (fun _ h9 => h9) rfl dX3_writePacket_30 ?_
  refine lv_iload_n hx hb dX3_writePacket_33 rfl (lv_at hl 4 rfl) ?_
  have hPc := hP.sub (ws' := []) [] rfl
  have hDc := hD.sub (ws' := []) [] (by decide +kernel) rfl
  have hKc := hK.sub (tys' := []) [] rfl
  have hFc := ro_free hS hA
  refine va_calli (va_runSN (As := [.int 235, .int (nI mt), .int (nI ad)]) (rest := [.ref h1]) ⟨hx, hb, hml, hown, hts⟩ (c_X10_identifier l dC dI (235) (mt) (ad) H.size (by omega) hmt had) ⟨va_cnB 3 hts g_c_X3_writePacketN_c_X10_identifier_42 rfl rfl rfl hE.n11 (hts (.initialized RX10) (List.mem_of_getElem? (i := 6) rfl)) (by decide +kernel) ⟨Nat.le_of_ble_eq_true rfl, Nat.le_of_ble_eq_true rfl⟩, (hts (.static yX10_identifier) (List.mem_of_getElem? (i := 7) rfl)), trivial⟩ ⟨fun a U g mk q => by obtain ⟨q0, q1, qP, qK, qD, qE⟩ := q; exact ⟨q0, q1, qP, va_K.moved (u := U) (U := U.calling g mk a) (Vm.Alike.refl U.vm) qK, qD, ev.same (u := U) (U := U.calling g mk a) rfl qE⟩, fun U hU hW => ⟨rfl, by rw [hU], by rw [hU]; exact hPc, va_K.moved hW.alike hKc, hDc.weaken (fun _ _ _ _ => trivial), hE.warm hW⟩⟩ rfl rfl hl.1 rfl (lv_room (Nat.le_of_ble_eq_true rfl)) dX3_writePacket_34 ⟨Nat.le_of_ble_eq_true rfl, Nat.le_of_ble_eq_true rfl⟩) hS (fun q _ h => hFc q h) hFc (fun r_5 u t H1 locs ht hvm hw hB hz1 hk1 hS => ?_)
  clear hPc hDc hKc
  replace hP := ro_keep hP hk1
  generalize H1 = H at hP hS ⊢
  replace hP : va_P (dC, dI) vwCl [(h0, .inr (4, [.int (nI mi), .int (nI mt), .int (nI mg), .int (nI ms), .int sd, .null])), (h1, .inr (2, [.int (nI fi), .int ff, .int fo, .null]))] H := hP
  have hw := hw.symm
  subst hw
  refine lv_iload hx hb dX3_writePacket_37 (lv_at hl 0 rfl) ?_
  refine lv_aload_n hx hb dX3_writePacket_39 rfl (lv_at hl 2 rfl) ?_
  refine lv_iload hx hb dX3_writePacket_40 (lv_at hl 1 rfl) ?_
  refine lv_iconst (v := 3) hx hb dX3_writePacket_42 (by decide) ?_
  refine lv_iadd hx hb dX3_writePacket_43 ?_
  refine lv_topi (fun x_6 ex_6 => ?_)
  obtain rfl : x_6 = (nI (7 * nu - 4)) := ex_6.trans ((nI_add (7 * nu - 7) 3).trans (show nI ((7 * nu - 7) + 3) = nI (7 * nu - 4) from congrArg nI (by omega)))
  have hPc := hP.sub (ws' := [(h0, .inr (4, [.int (nI mi), .int (nI mt), .int (nI mg), .int (nI ms), .int sd, .null]))]) [0] rfl
  have hDc := hD.sub (ws' := [(h0, .inr (4, [.int (nI mi), .int (nI mt), .int (nI mg), .int (nI ms), .int sd, .null]))]) [0] (by decide +kernel) rfl
  have hKc := hK.sub (tys' := []) [] rfl
  have hFc := ro_free hS hA
  refine va_calli (va_runV (As := [.int (nI (7 * nu - 4))]) (rest := [.int ((nI nu) ||| ((pk (bx sd ms (7 * nu - 7)) (bx sd ms ((7 * nu - 7) + 1)) (bx sd ms ((7 * nu - 7) + 2)) (bx sd ms ((7 * nu - 7) + 3))) <<< ((8 : Int32) &&& 31))), .int (nI (469762048 + 65536 * 235 + 256 * mt + ad)), .ref h1]) ⟨hx, hb, hml, hown, hts⟩ (c_X3_fourFrom l dC dI (h0) (mi) (mt) (mg) (ms) (sd) ((7 * nu - 4)) H.size hmi hmt hmg hms (by omega)) (cwV 1 hts g_c_X3_writePacketN_c_X3_fourFrom_32 rfl rfl rfl (by decide +kernel) ⟨Nat.le_of_ble_eq_true rfl, Nat.le_of_ble_eq_true rfl⟩) ⟨fun a U g mk q => by obtain ⟨q0, q1, qP, qK, qD, qE⟩ := q; exact ⟨q0, q1, qP, va_K.moved (u := U) (U := U.calling g mk a) (Vm.Alike.refl U.vm) qK, qD, ev.same (u := U) (U := U.calling g mk a) rfl qE⟩, va_recv hKc hPc (ci := 4) (q0 := 0) rfl rfl, fun U hU hW => ⟨rfl, by rw [hU], by rw [hU]; exact hPc, va_K.moved hW.alike hKc, hDc.weaken (fun _ _ _ _ => trivial), hE.warm hW⟩⟩ rfl rfl hl.1 rfl (lv_room (Nat.le_of_ble_eq_true rfl)) dX3_writePacket_44 ⟨Nat.le_of_ble_eq_true rfl, Nat.le_of_ble_eq_true rfl⟩) hS (fun q _ h => hFc q h) hFc (fun r_7 u t H1 locs ht hvm hw hB hz1 hk1 hS => ?_)
  clear hPc hDc hKc
  replace hP := ro_keep hP hk1
  generalize H1 = H at hP hS ⊢
  replace hP : va_P (dC, dI) vwCl [(h0, .inr (4, [.int (nI mi), .int (nI mt), .int (nI mg), .int (nI ms), .int sd, .null])), (h1, .inr (2, [.int (nI fi), .int ff, .int fo, .null]))] H := hP
  have hw := hw.symm
  subst hw
  refine lv_aload_n hx hb dX3_writePacket_47 rfl (lv_at hl 2 rfl) ?_
  have hPc := hP.sub (ws' := [(h1, .inr (2, [.int (nI fi), .int ff, .int fo, .null]))]) [1] rfl
  have hDc := hD.sub (ws' := [(h1, .inr (2, [.int (nI fi), .int ff, .int fo, .null]))]) [1] (by decide +kernel) rfl
  have hKc := hK.sub (tys' := []) [] rfl
  have hFc := va_free (wc := [(h1, .inr (2, [.int (nI fi), .int ff, .int fo, .null]))]) hD hS hA [1] rfl
  refine va_callv (va_runV (As := [.int (nI (469762048 + 65536 * 235 + 256 * mt + ad)), .int ((nI nu) ||| ((pk (bx sd ms (7 * nu - 7)) (bx sd ms ((7 * nu - 7) + 1)) (bx sd ms ((7 * nu - 7) + 2)) (bx sd ms ((7 * nu - 7) + 3))) <<< ((8 : Int32) &&& 31))), .int (pk (bx sd ms (7 * nu - 4)) (bx sd ms ((7 * nu - 4) + 1)) (bx sd ms ((7 * nu - 4) + 2)) (bx sd ms ((7 * nu - 4) + 3))), .ref h0]) (rest := []) ⟨hx, hb, hml, hown, hts⟩ (c_X1_write0 l dC dI (h1) (fi) (ff) (fo) ((469762048 + 65536 * 235 + 256 * mt + ad)) (((nI nu) ||| ((pk (bx sd ms (7 * nu - 7)) (bx sd ms ((7 * nu - 7) + 1)) (bx sd ms ((7 * nu - 7) + 2)) (bx sd ms ((7 * nu - 7) + 3))) <<< ((8 : Int32) &&& 31)))) ((pk (bx sd ms (7 * nu - 4)) (bx sd ms ((7 * nu - 4) + 1)) (bx sd ms ((7 * nu - 4) + 2)) (bx sd ms ((7 * nu - 4) + 3)))) (h0) H.size) (cwV 4 hts g_c_X3_writePacketN_c_X1_write0_36 rfl rfl rfl (by decide +kernel) ⟨Nat.le_of_ble_eq_true rfl, Nat.le_of_ble_eq_true rfl⟩) ⟨fun a U g mk q => by obtain ⟨q0, q1, qP, qK, qD, qE⟩ := q; exact ⟨q0, q1, qP, va_K.moved (u := U) (U := U.calling g mk a) (Vm.Alike.refl U.vm) qK, qD, ev.same (u := U) (U := U.calling g mk a) rfl qE⟩, va_recv hKc hPc (ci := 2) (q0 := 0) rfl rfl, fun U hU hW => ⟨rfl, by rw [hU], by rw [hU]; exact hPc, va_K.moved hW.alike hKc, hDc.weaken (fun _ _ _ _ => trivial), hE.warm hW⟩⟩ rfl rfl hl.1 rfl (lv_room (Nat.le_of_ble_eq_true rfl)) dX3_writePacket_48 ⟨Nat.le_of_ble_eq_true rfl, Nat.le_of_ble_eq_true rfl⟩) hS (fun q _ h => hFc q h) hFc (fun u t H1 locs ht hvm hw hB hz1 hk1 hS => ?_)
  clear hPc hDc hKc
  obtain ⟨hP1, hK1, hD1⟩ := hB
  rw [ht] at hP1
  have hK1 := va_K.moved hvm.symm hK1
  obtain ⟨hP, hD⟩ := va_join (wr := [(h0, .inr (4, [.int (nI mi), .int (nI mt), .int (nI mg), .int (nI ms), .int sd, .null]))]) (w1 := [(h1, .inr (2, [.int (nI (469762048 + 65536 * 235 + 256 * mt + ad)), .int ((nI nu) ||| ((pk (bx sd ms (7 * nu - 7)) (bx sd ms ((7 * nu - 7) + 1)) (bx sd ms ((7 * nu - 7) + 2)) (bx sd ms ((7 * nu - 7) + 3))) <<< ((8 : Int32) &&& 31))), .int (pk (bx sd ms (7 * nu - 4)) (bx sd ms ((7 * nu - 4) + 1)) (bx sd ms ((7 * nu - 4) + 2)) (bx sd ms ((7 * nu - 4) + 3))), .ref h0]))]) hP hD [1] [0] rfl rfl (by decide +kernel) (by decide +kernel) hk1 hFc hP1 hD1
  generalize H1 = H at hP hS ⊢
  replace hP : va_P (dC, dI) vwCl [(h0, .inr (4, [.int (nI mi), .int (nI mt), .int (nI mg), .int (nI ms), .int sd, .null])), (h1, .inr (2, [.int (nI (469762048 + 65536 * 235 + 256 * mt + ad)), .int ((nI nu) ||| ((pk (bx sd ms (7 * nu - 7)) (bx sd ms ((7 * nu - 7) + 1)) (bx sd ms ((7 * nu - 7) + 2)) (bx sd ms ((7 * nu - 7) + 3))) <<< ((8 : Int32) &&& 31))), .int (pk (bx sd ms (7 * nu - 4)) (bx sd ms ((7 * nu - 4) + 1)) (bx sd ms ((7 * nu - 4) + 2)) (bx sd ms ((7 * nu - 4) + 3))), .ref h0]))] H := hP
  replace hD : va_D A [(h0, .inr (4, [.int (nI mi), .int (nI mt), .int (nI mg), .int (nI ms), .int sd, .null])), (h1, .inr (2, [.int (nI (469762048 + 65536 * 235 + 256 * mt + ad)), .int ((nI nu) ||| ((pk (bx sd ms (7 * nu - 7)) (bx sd ms ((7 * nu - 7) + 1)) (bx sd ms ((7 * nu - 7) + 2)) (bx sd ms ((7 * nu - 7) + 3))) <<< ((8 : Int32) &&& 31))), .int (pk (bx sd ms (7 * nu - 4)) (bx sd ms ((7 * nu - 4) + 1)) (bx sd ms ((7 * nu - 4) + 2)) (bx sd ms ((7 * nu - 4) + 3))), .ref h0]))] := hD
  clear hw
  have hP9 := hP.sub (ws' := [(h0, .inr (4, [.int (nI mi), .int (nI mt), .int (nI mg), .int (nI ms), .int sd, .null])), (h1, .inr (2, [.int (nI (469762048 + 65536 * 235 + 256 * mt + ad)), .int ((nI nu) ||| ((pk (bx sd ms (7 * nu - 7)) (bx sd ms ((7 * nu - 7) + 1)) (bx sd ms ((7 * nu - 7) + 2)) (bx sd ms ((7 * nu - 7) + 3))) <<< ((8 : Int32) &&& 31))), .int (pk (bx sd ms (7 * nu - 4)) (bx sd ms ((7 * nu - 4) + 1)) (bx sd ms ((7 * nu - 4) + 2)) (bx sd ms ((7 * nu - 4) + 3))), .ref h0]))]) [0, 1] rfl
  have hD9 := hD.sub (ws' := [(h0, .inr (4, [.int (nI mi), .int (nI mt), .int (nI mg), .int (nI ms), .int sd, .null])), (h1, .inr (2, [.int (nI (469762048 + 65536 * 235 + 256 * mt + ad)), .int ((nI nu) ||| ((pk (bx sd ms (7 * nu - 7)) (bx sd ms ((7 * nu - 7) + 1)) (bx sd ms ((7 * nu - 7) + 2)) (bx sd ms ((7 * nu - 7) + 3))) <<< ((8 : Int32) &&& 31))), .int (pk (bx sd ms (7 * nu - 4)) (bx sd ms ((7 * nu - 4) + 1)) (bx sd ms ((7 * nu - 4) + 2)) (bx sd ms ((7 * nu - 4) + 3))), .ref h0]))]) [0, 1] (by decide +kernel) rfl
  have hK9 := hK.sub (tys' := []) [] rfl
  exact W.vret hx hb hr (fun t ht hW => ⟨⟨(), rfl, trivial, ⟨((nI nu) ||| ((pk (bx sd ms (7 * nu - 7)) (bx sd ms ((7 * nu - 7) + 1)) (bx sd ms ((7 * nu - 7) + 2)) (bx sd ms ((7 * nu - 7) + 3))) <<< ((8 : Int32) &&& 31))), (pk (bx sd ms (7 * nu - 4)) (bx sd ms ((7 * nu - 4) + 1)) (bx sd ms ((7 * nu - 4) + 2)) (bx sd ms ((7 * nu - 4) + 3))), by rw [ht]; exact hP9, va_K.moved hW.alike hK9, hD9, (pkt_bytes sd ms (7 * nu - 7) (7 * nu - 4) nu (by omega) (by omega)).1, fun i hi => ((pkt_bytes sd ms (7 * nu - 7) (7 * nu - 4) nu (by omega) (by omega)).2 i hi).trans (congrArg (bx sd ms) (by omega))⟩⟩, hS.F ht⟩) hS.2.2 dX3_writePacket_51

noncomputable def tl_c_X3_writeControl_16N : List Cond := wsX30 ++ (v_c_X3_packets ++ (v_c_X10_packN ++ (v_c_X1_write0)))
noncomputable def v_c_X3_writeControl_16N : List Cond := .code yX3_writeControl cX3_writeControl 9 none :: ([.fieldLink RX3 25 "ClaimBus$Message" "size" "I", .initialized RX3, .methodLink RX3 46 yX3_packets, .instanceMethod yX3_packets, .selects RX3 yX3_packets yX3_packets, .initialized RX10, .static yX10_pack, .fieldLink RX3 22 "ClaimBus$Message" "group" "I", .initialized RX1, .methodLink RX3 36 yX1_write, .instanceMethod yX1_write, .selects RX1 yX1_write yX1_write] ++ tl_c_X3_writeControl_16N)
theorem it_c_X3_writeControl_16N : ∀ w ∈ tl_c_X3_writeControl_16N, w ∈ v_c_X3_writeControl_16N := fun w h => List.mem_cons_of_mem _ (List.mem_append_right _ h)
theorem in_c_X3_writeControl_16N_X3 : ∀ w ∈ wsX30, w ∈ v_c_X3_writeControl_16N := fun w h => it_c_X3_writeControl_16N w (List.mem_append_left _ h)
theorem ic_c_X3_writeControl_16N_c_X3_packets : ∀ w ∈ v_c_X3_packets, w ∈ v_c_X3_writeControl_16N := fun w h => it_c_X3_writeControl_16N w (List.mem_append_right _ (List.mem_append_left _ h))
theorem ic_c_X3_writeControl_16N_c_X10_packN : ∀ w ∈ v_c_X10_packN, w ∈ v_c_X3_writeControl_16N := fun w h => it_c_X3_writeControl_16N w (List.mem_append_right _ (List.mem_append_right _ (List.mem_append_left _ h)))
theorem ic_c_X3_writeControl_16N_c_X1_write0 : ∀ w ∈ v_c_X1_write0, w ∈ v_c_X3_writeControl_16N := fun w h => it_c_X3_writeControl_16N w (List.mem_append_right _ (List.mem_append_right _ (List.mem_append_right _ (h))))
theorem gt_c_X3_writeControl_16N : ∀ w ∈ tl_c_X3_writeControl_16N, goodWord w = true := List.forall_mem_append.mpr ⟨gw_wsX30, List.forall_mem_append.mpr ⟨gw_c_X3_packets, List.forall_mem_append.mpr ⟨gw_c_X10_packN, gw_c_X1_write0⟩⟩⟩
theorem gw_c_X3_writeControl_16N : ∀ w ∈ v_c_X3_writeControl_16N, goodWord w = true := List.forall_mem_cons.mpr ⟨by decide +kernel, List.forall_mem_append.mpr ⟨List.all_eq_true.mp (by decide +kernel), gt_c_X3_writeControl_16N⟩⟩
theorem g_c_X3_writeControl_16N_c_X3_packets_46 : GoodIn v_c_X3_writeControl_16N (wsV RX3 46 RX3 yX3_packets v_c_X3_packets) := goodIn_app (goodIn_r [.methodLink RX3 46 yX3_packets, .instanceMethod yX3_packets, .selects RX3 yX3_packets yX3_packets, .initialized RX3] [3, 4, 5, 2] (by decide +kernel) (by decide +kernel)) (fun w h => ⟨ic_c_X3_writeControl_16N_c_X3_packets w h, good_of_word (gw_c_X3_packets w h)⟩)
theorem g_c_X3_writeControl_16N_c_X10_packN_50 : GoodIn v_c_X3_writeControl_16N v_c_X10_packN := fun w h => ⟨ic_c_X3_writeControl_16N_c_X10_packN w h, good_of_word (gw_c_X10_packN w h)⟩
theorem g_c_X3_writeControl_16N_c_X1_write0_36 : GoodIn v_c_X3_writeControl_16N (wsV RX3 36 RX1 yX1_write v_c_X1_write0) := goodIn_app (goodIn_r [.methodLink RX3 36 yX1_write, .instanceMethod yX1_write, .selects RX1 yX1_write yX1_write, .initialized RX1] [10, 11, 12, 9] (by decide +kernel) (by decide +kernel)) (fun w h => ⟨ic_c_X3_writeControl_16N_c_X1_write0 w h, good_of_word (gw_c_X1_write0 w h)⟩)
set_option maxHeartbeats 4000000 in
set_option maxRecDepth 100000 in
/-- Message.writeControl 16 -/
theorem c_X3_writeControl_16N (l : Launch) (dC : Nat → ClassId) (dI : Nat → Nat → Nat) (h0 : Nat) (mi : Nat) (mt : Nat) (mg : Nat) (ms : Nat) (sd : Int32) (h1 : Nat) (fi : Nat) (ff : Int32) (fo : Int32) (id : Nat) (se : Nat) (th : Nat) (sz : Nat) (hmi : mi < 8) (hmt : mt < 256) (hmg : mg < 262144) (hms : ms < 1786) (h_se : se < 256) (h_th : th < 256) : Met l yX3_writeControl v_c_X3_writeControl_16N ({ frames := 1, cells := 0, slots := 0, locals := 24 }) (va_Pc [.ref h0, .ref h1, .int (nI id), .int 16, .int (nI se), .int (nI th)] (fun U => U.heap.size = sz ∧ va_P (dC, dI) vwCl [(h0, .inr (4, [.int (nI mi), .int (nI mt), .int (nI mg), .int (nI ms), .int sd, .null])), (h1, .inr (2, [.int (nI fi), .int ff, .int fo, .null]))] U.heap ∧ va_K (dC, dI) vwCl [] U ∧ va_D (fun _ => True) [(h0, .inr (4, [.int (nI mi), .int (nI mt), .int (nI mg), .int (nI ms), .int sd, .null])), (h1, .inr (2, [.int (nI fi), .int ff, .int fo, .null]))] ∧ ev U)) (va_Qv (fun _ : Unit => True) (fun (_ : Unit) (t : State) => va_P (dC, dI) vwCl [(h0, .inr (4, [.int (nI mi), .int (nI mt), .int (nI mg), .int (nI ms), .int sd, .null])), (h1, .inr (2, [.int (nI id), .int (nI (16 + 256 * (ms % 256) + 65536 * (ms / 256) + 16777216 * ((ms + 6) / 7))), .int (nI (se + 256 * mg)), .ref h0]))] t.heap ∧ va_K (dC, dI) vwCl [] t ∧ va_D (va_A [(h0, .inr (4, [.int (nI mi), .int (nI mt), .int (nI mg), .int (nI ms), .int sd, .null])), (h1, .inr (2, [.int (nI fi), .int ff, .int fo, .null]))] sz) [(h0, .inr (4, [.int (nI mi), .int (nI mt), .int (nI mg), .int (nI ms), .int sd, .null])), (h1, .inr (2, [.int (nI id), .int (nI (16 + 256 * (ms % 256) + 65536 * (ms / 256) + 16777216 * ((ms + 6) / 7))), .int (nI (se + 256 * mg)), .ref h0]))]) (va_A [(h0, .inr (4, [.int (nI mi), .int (nI mt), .int (nI mg), .int (nI ms), .int sd, .null])), (h1, .inr (2, [.int (nI fi), .int ff, .int fo, .null]))] sz)) 0 0 (va_A [(h0, .inr (4, [.int (nI mi), .int (nI mt), .int (nI mg), .int (nI ms), .int sd, .null])), (h1, .inr (2, [.int (nI fi), .int ff, .int fo, .null]))] sz) := by
  refine Met.ofW (cc := cX3_writeControl) (maxL := 9) (ret := none) (by decide) rfl ?_
  intro p e s m args below meth c s₁ B hml hv
  obtain ⟨rfl, hsz, hP, hK, hD0, hE⟩ := hv
  have hx := B.exec
  have hb := B.bytes
  have hr := B.returns
  have hts := atoms_spec (ws := v_c_X3_writeControl_16N) B.pre
  have hown : s.vm.findClass RX3 = some m.cls := findClass_of_methodNamed B.named
  have hlocks := B.notSynchronized
  subst hsz
  have hD := hD0.self (sz := s.heap.size)
  generalize hAe : va_A [(h0, .inr (4, [.int (nI mi), .int (nI mt), .int (nI mg), .int (nI ms), .int sd, .null])), (h1, .inr (2, [.int (nI fi), .int ff, .int fo, .null]))] s.heap.size = A at hD ⊢
  have hA : ∀ q : Nat, s.heap.size ≤ q → A q := fun q h => by rw [← hAe]; exact Or.inr h
  have hS : va_S A s.heap s.heap [] := va_S.rf
  replace hP : va_P (dC, dI) vwCl [(h0, .inr (4, [.int (nI mi), .int (nI mt), .int (nI mg), .int (nI ms), .int sd, .null])), (h1, .inr (2, [.int (nI fi), .int ff, .int fo, .null]))] s.heap := hP
  have hl := lv_entry ([.ref h0, .ref h1, .int (nI id), .int 16, .int (nI se), .int (nI th)]) (n := 9) (Nat.le_of_ble_eq_true rfl)
  rw [lg_entry_eq]
  generalize (lg_sl ([.ref h0, .ref h1, .int (nI id), .int 16, .int (nI se), .int (nI th)]) ++ List.replicate (9 - (lg_sl ([.ref h0, .ref h1, .int (nI id), .int 16, .int (nI se), .int (nI th)])).length) Slot.unset).toArray = ls at hl ⊢
  replace hl : lv_has ls 9 [(0, .ref h0), (1, .ref h1), (2, .int (nI id)), (3, .int 16), (4, .int (nI se)), (5, .int (nI th))] := hl
  obtain ⟨H, hH⟩ : ∃ z : Heap, z = s.heap := ⟨_, rfl⟩
  rw [← hH]
  replace hS : va_S A s.heap H [] := by rw [hH]; exact va_S.rf
  replace hP : va_P (dC, dI) vwCl [(h0, .inr (4, [.int (nI mi), .int (nI mt), .int (nI mg), .int (nI ms), .int sd, .null])), (h1, .inr (2, [.int (nI fi), .int ff, .int fo, .null]))] H := by rw [hH]; exact hP
  clear hH
  refine lv_iload_n hx hb dX3_writeControl_0 rfl (lv_at hl 3 rfl) ?_
  refine lv_bipush (v := 17) hx hb dX3_writeControl_1 (by decide) ?_
  refine lv_icmp_eq (tgt := 17) hx hb dX3_writeControl_3 (by decide) (fun c_1 => ?_) (fun c_1 => ?_)
  · exact absurd c_1 (by decide)
  refine lv_iload_n hx hb dX3_writeControl_6 rfl (lv_at hl 3 rfl) ?_
  refine lv_sipush (v := 255) hx hb dX3_writeControl_7 (by decide) ?_
  refine lv_icmp_eq (tgt := 17) hx hb dX3_writeControl_10 (by decide) (fun c_2 => ?_) (fun c_2 => ?_)
  · exact absurd c_2 (by decide)
  refine lv_iconst (v := 1) hx hb dX3_writeControl_13 (by decide) ?_
  refine lv_goto (tgt := 18) hx hb dX3_writeControl_14 (by decide) ?_
  refine lv_istore (lv' := [(6, .int 1), (0, .ref h0), (1, .ref h1), (2, .int (nI id)), (3, .int 16), (4, .int (nI se)), (5, .int (nI th))]) hx hb dX3_writeControl_18 hl (by decide) rfl (fun ls hl => ?_)
  refine lv_iload hx hb dX3_writeControl_20 (lv_at hl 0 rfl) ?_
  refine lv_if_eq (tgt := 47) hx hb dX3_writeControl_22 (by decide) (fun c_3 => ?_) (fun c_3 => ?_)
  · exact absurd c_3 (by decide)
  refine lv_iload_n hx hb dX3_writeControl_25 rfl (lv_at hl 4 rfl) ?_
  refine lv_aload_n hx hb dX3_writeControl_26 rfl (lv_at hl 1 rfl) ?_
  refine va_get (D := (dC, dI)) (ci := 4) (v := .int (nI ms)) (C := RX3) (T := TX3) (N := 6) hx hb hts in_c_X3_writeControl_16N_X3 hown hK hP 0 rfl rfl 3 (by decide) (hts (.fieldLink RX3 25 "ClaimBus$Message" "size" "I") (List.mem_of_getElem? (i := 1) rfl)) (fun _ h9 => h9) rfl dX3_writeControl_27 ?_
  refine lv_aload_n hx hb dX3_writeControl_30 rfl (lv_at hl 1 rfl) ?_
  refine va_get (D := (dC, dI)) (ci := 4) (v := .int (nI ms)) (C := RX3) (T := TX3) (N := 6) hx hb hts in_c_X3_writeControl_16N_X3 hown hK hP 0 rfl rfl 3 (by decide) (hts (.fieldLink RX3 25 "ClaimBus$Message" "size" "I") (List.mem_of_getElem? (i := 1) rfl)) (fun _ h9 => h9) rfl dX3_writeControl_31 ?_
  refine lv_bipush (v := 8) hx hb dX3_writeControl_34 (by decide) ?_
  refine lv_ishr hx hb dX3_writeControl_36 ?_
  refine lv_topi (fun x_4 ex_4 => ?_)
  obtain rfl : x_4 = (nI (((ms) / 256))) := ex_4.trans ((pk_shrN (n := ms) (by omega) ((8 : Int32) &&& 31) 8 (by decide)).trans (show nI (ms / 2 ^ 8) = nI (((ms) / 256)) from congrArg nI (by omega)))
  refine lv_aload_n hx hb dX3_writeControl_37 rfl (lv_at hl 1 rfl) ?_
  have hPc := hP.sub (ws' := [(h0, .inr (4, [.int (nI mi), .int (nI mt), .int (nI mg), .int (nI ms), .int sd, .null]))]) [0] rfl
  have hDc := hD.sub (ws' := [(h0, .inr (4, [.int (nI mi), .int (nI mt), .int (nI mg), .int (nI ms), .int sd, .null]))]) [0] (by decide +kernel) rfl
  have hKc := hK.sub (tys' := []) [] rfl
  have hFc := ro_free hS hA
  refine va_calli (va_runV (As := []) (rest := [.int (nI (((ms) / 256))), .int (nI ms), .int 16]) ⟨hx, hb, hml, hown, hts⟩ (c_X3_packets l dC dI (h0) (mi) (mt) (mg) (ms) (sd) H.size hmi hmt hmg hms) (cwV 0 hts g_c_X3_writeControl_16N_c_X3_packets_46 rfl rfl rfl (by decide +kernel) ⟨Nat.le_of_ble_eq_true rfl, Nat.le_of_ble_eq_true rfl⟩) ⟨fun a U g mk q => by obtain ⟨q0, q1, qP, qK, qD, qE⟩ := q; exact ⟨q0, q1, qP, va_K.moved (u := U) (U := U.calling g mk a) (Vm.Alike.refl U.vm) qK, qD, ev.same (u := U) (U := U.calling g mk a) rfl qE⟩, va_recv hKc hPc (ci := 4) (q0 := 0) rfl rfl, fun U hU hW => ⟨rfl, by rw [hU], by rw [hU]; exact hPc, va_K.moved hW.alike hKc, hDc.weaken (fun _ _ _ _ => trivial), hE.warm hW⟩⟩ rfl rfl hl.1 rfl (lv_room (Nat.le_of_ble_eq_true rfl)) dX3_writeControl_38 ⟨Nat.le_of_ble_eq_true rfl, Nat.le_of_ble_eq_true rfl⟩) hS (fun q _ h => hFc q h) hFc (fun r_5 u t H1 locs ht hvm hw hB hz1 hk1 hS => ?_)
  clear hPc hDc hKc
  replace hP := ro_keep hP hk1
  generalize H1 = H at hP hS ⊢
  replace hP : va_P (dC, dI) vwCl [(h0, .inr (4, [.int (nI mi), .int (nI mt), .int (nI mg), .int (nI ms), .int sd, .null])), (h1, .inr (2, [.int (nI fi), .int ff, .int fo, .null]))] H := hP
  have hw := hw.symm
  subst hw
  have hPc := hP.sub (ws' := []) [] rfl
  have hDc := hD.sub (ws' := []) [] (by decide +kernel) rfl
  have hKc := hK.sub (tys' := []) [] rfl
  have hFc := ro_free hS hA
  refine va_calli (va_runSN (As := [.int 16, .int (nI ms), .int (nI (((ms) / 256))), .int (nI ((ms + 6) / 7))]) (rest := []) ⟨hx, hb, hml, hown, hts⟩ (c_X10_packN l dC dI (16) (ms) ((((ms) / 256))) (((ms + 6) / 7)) H.size (by omega) (by omega) (by omega) (by omega)) ⟨va_cnB 4 hts g_c_X3_writeControl_16N_c_X10_packN_50 rfl rfl rfl hE.n10 (hts (.initialized RX10) (List.mem_of_getElem? (i := 6) rfl)) (by decide +kernel) ⟨Nat.le_of_ble_eq_true rfl, Nat.le_of_ble_eq_true rfl⟩, (hts (.static yX10_pack) (List.mem_of_getElem? (i := 7) rfl)), trivial⟩ ⟨fun a U g mk q => by obtain ⟨q0, q1, qP, qK, qD, qE⟩ := q; exact ⟨q0, q1, qP, va_K.moved (u := U) (U := U.calling g mk a) (Vm.Alike.refl U.vm) qK, qD, ev.same (u := U) (U := U.calling g mk a) rfl qE⟩, fun U hU hW => ⟨rfl, by rw [hU], by rw [hU]; exact hPc, va_K.moved hW.alike hKc, hDc.weaken (fun _ _ _ _ => trivial), hE.warm hW⟩⟩ rfl rfl hl.1 rfl (lv_room (Nat.le_of_ble_eq_true rfl)) dX3_writeControl_41 ⟨Nat.le_of_ble_eq_true rfl, Nat.le_of_ble_eq_true rfl⟩) hS (fun q _ h => hFc q h) hFc (fun r_6 u t H1 locs ht hvm hw hB hz1 hk1 hS => ?_)
  clear hPc hDc hKc
  replace hP := ro_keep hP hk1
  generalize H1 = H at hP hS ⊢
  replace hP : va_P (dC, dI) vwCl [(h0, .inr (4, [.int (nI mi), .int (nI mt), .int (nI mg), .int (nI ms), .int sd, .null])), (h1, .inr (2, [.int (nI fi), .int ff, .int fo, .null]))] H := hP
  have hw := hw.symm
  subst hw
  refine lv_goto (tgt := 58) hx hb dX3_writeControl_44 (by decide) ?_
  refine lv_istore (lv' := [(7, .int (nI (16 % 256 + 256 * (ms % 256) + 65536 * ((((ms) / 256)) % 256) + 16777216 * ((ms + 6) / 7)))), (6, .int 1), (0, .ref h0), (1, .ref h1), (2, .int (nI id)), (3, .int 16), (4, .int (nI se)), (5, .int (nI th))]) hx hb dX3_writeControl_58 hl (by decide) rfl (fun ls hl => ?_)
  refine lv_iload hx hb dX3_writeControl_60 (lv_at hl 1 rfl) ?_
  refine lv_if_eq (tgt := 70) hx hb dX3_writeControl_62 (by decide) (fun c_7 => ?_) (fun c_7 => ?_)
  · exact absurd c_7 (by decide)
  refine lv_iload hx hb dX3_writeControl_65 (lv_at hl 6 rfl) ?_
  refine lv_goto (tgt := 73) hx hb dX3_writeControl_67 (by decide) ?_
  refine lv_istore (lv' := [(8, .int (nI se)), (7, .int (nI (16 % 256 + 256 * (ms % 256) + 65536 * ((((ms) / 256)) % 256) + 16777216 * ((ms + 6) / 7)))), (6, .int 1), (0, .ref h0), (1, .ref h1), (2, .int (nI id)), (3, .int 16), (4, .int (nI se)), (5, .int (nI th))]) hx hb dX3_writeControl_73 hl (by decide) rfl (fun ls hl => ?_)
  refine lv_aload_n hx hb dX3_writeControl_75 rfl (lv_at hl 4 rfl) ?_
  refine lv_iload_n hx hb dX3_writeControl_76 rfl (lv_at hl 5 rfl) ?_
  refine lv_iload hx hb dX3_writeControl_77 (lv_at hl 1 rfl) ?_
  refine lv_iload hx hb dX3_writeControl_79 (lv_at hl 0 rfl) ?_
  refine lv_aload_n hx hb dX3_writeControl_81 rfl (lv_at hl 3 rfl) ?_
  refine va_get (D := (dC, dI)) (ci := 4) (v := .int (nI mg)) (C := RX3) (T := TX3) (N := 6) hx hb hts in_c_X3_writeControl_16N_X3 hown hK hP 0 rfl rfl 2 (by decide) (hts (.fieldLink RX3 22 "ClaimBus$Message" "group" "I") (List.mem_of_getElem? (i := 8) rfl)) (fun _ h9 => h9) rfl dX3_writeControl_82 ?_
  refine lv_bipush (v := 8) hx hb dX3_writeControl_85 (by decide) ?_
  refine lv_ishl hx hb dX3_writeControl_87 ?_
  refine lv_topi (fun x_8 ex_8 => ?_)
  obtain rfl : x_8 = (nI (256 * mg)) := ex_8.trans ((pk_shlN (n := mg) ((8 : Int32) &&& 31) 8 (by decide) (by omega)).trans (show nI (mg * 2 ^ 8) = nI (256 * mg) from congrArg nI (by omega)))
  refine lv_ior hx hb dX3_writeControl_88 ?_
  refine lv_topi (fun x_9 ex_9 => ?_)
  obtain rfl : x_9 = (nI (256 * mg + se)) := ex_9.trans ((q_or' se (256 * mg) 8 (by omega) (by omega) (by omega)).trans (show nI (se + (256 * mg)) = nI (256 * mg + se) from congrArg nI (by omega)))
  refine lv_aload_n hx hb dX3_writeControl_89 rfl (lv_at hl 3 rfl) ?_
  have hPc := hP.sub (ws' := [(h1, .inr (2, [.int (nI fi), .int ff, .int fo, .null]))]) [1] rfl
  have hDc := hD.sub (ws' := [(h1, .inr (2, [.int (nI fi), .int ff, .int fo, .null]))]) [1] (by decide +kernel) rfl
  have hKc := hK.sub (tys' := []) [] rfl
  have hFc := va_free (wc := [(h1, .inr (2, [.int (nI fi), .int ff, .int fo, .null]))]) hD hS hA [1] rfl
  refine va_callv (va_runV (As := [.int (nI id), .int (nI (16 % 256 + 256 * (ms % 256) + 65536 * ((((ms) / 256)) % 256) + 16777216 * ((ms + 6) / 7))), .int (nI (256 * mg + se)), .ref h0]) (rest := []) ⟨hx, hb, hml, hown, hts⟩ (c_X1_write0 l dC dI (h1) (fi) (ff) (fo) (id) ((nI (16 % 256 + 256 * (ms % 256) + 65536 * ((((ms) / 256)) % 256) + 16777216 * ((ms + 6) / 7)))) ((nI (256 * mg + se))) (h0) H.size) (cwV 4 hts g_c_X3_writeControl_16N_c_X1_write0_36 rfl rfl rfl (by decide +kernel) ⟨Nat.le_of_ble_eq_true rfl, Nat.le_of_ble_eq_true rfl⟩) ⟨fun a U g mk q => by obtain ⟨q0, q1, qP, qK, qD, qE⟩ := q; exact ⟨q0, q1, qP, va_K.moved (u := U) (U := U.calling g mk a) (Vm.Alike.refl U.vm) qK, qD, ev.same (u := U) (U := U.calling g mk a) rfl qE⟩, va_recv hKc hPc (ci := 2) (q0 := 0) rfl rfl, fun U hU hW => ⟨rfl, by rw [hU], by rw [hU]; exact hPc, va_K.moved hW.alike hKc, hDc.weaken (fun _ _ _ _ => trivial), hE.warm hW⟩⟩ rfl rfl hl.1 rfl (lv_room (Nat.le_of_ble_eq_true rfl)) dX3_writeControl_90 ⟨Nat.le_of_ble_eq_true rfl, Nat.le_of_ble_eq_true rfl⟩) hS (fun q _ h => hFc q h) hFc (fun u t H1 locs ht hvm hw hB hz1 hk1 hS => ?_)
  clear hPc hDc hKc
  obtain ⟨hP1, hK1, hD1⟩ := hB
  rw [ht] at hP1
  have hK1 := va_K.moved hvm.symm hK1
  obtain ⟨hP, hD⟩ := va_join (wr := [(h0, .inr (4, [.int (nI mi), .int (nI mt), .int (nI mg), .int (nI ms), .int sd, .null]))]) (w1 := [(h1, .inr (2, [.int (nI id), .int (nI (16 % 256 + 256 * (ms % 256) + 65536 * ((((ms) / 256)) % 256) + 16777216 * ((ms + 6) / 7))), .int (nI (256 * mg + se)), .ref h0]))]) hP hD [1] [0] rfl rfl (by decide +kernel) (by decide +kernel) hk1 hFc hP1 hD1
  generalize H1 = H at hP hS ⊢
  replace hP : va_P (dC, dI) vwCl [(h0, .inr (4, [.int (nI mi), .int (nI mt), .int (nI mg), .int (nI ms), .int sd, .null])), (h1, .inr (2, [.int (nI id), .int (nI (16 % 256 + 256 * (ms % 256) + 65536 * ((((ms) / 256)) % 256) + 16777216 * ((ms + 6) / 7))), .int (nI (256 * mg + se)), .ref h0]))] H := hP
  replace hD : va_D A [(h0, .inr (4, [.int (nI mi), .int (nI mt), .int (nI mg), .int (nI ms), .int sd, .null])), (h1, .inr (2, [.int (nI id), .int (nI (16 % 256 + 256 * (ms % 256) + 65536 * ((((ms) / 256)) % 256) + 16777216 * ((ms + 6) / 7))), .int (nI (256 * mg + se)), .ref h0]))] := hD
  clear hw
  rw [show ((nI (16 % 256 + 256 * (ms % 256) + 65536 * ((((ms) / 256)) % 256) + 16777216 * ((ms + 6) / 7))) : Int32) = (nI (16 + 256 * (ms % 256) + 65536 * (ms / 256) + 16777216 * ((ms + 6) / 7))) from congrArg nI (show (16 % 256 + 256 * (ms % 256) + 65536 * ((((ms) / 256)) % 256) + 16777216 * ((ms + 6) / 7)) = (16 + 256 * (ms % 256) + 65536 * (ms / 256) + 16777216 * ((ms + 6) / 7)) from by omega)] at hP hD
  rw [show ((nI (256 * mg + se)) : Int32) = (nI (se + 256 * mg)) from congrArg nI (show (256 * mg + se) = (se + 256 * mg) from by omega)] at hP hD
  have hP9 := hP.sub (ws' := [(h0, .inr (4, [.int (nI mi), .int (nI mt), .int (nI mg), .int (nI ms), .int sd, .null])), (h1, .inr (2, [.int (nI id), .int (nI (16 + 256 * (ms % 256) + 65536 * (ms / 256) + 16777216 * ((ms + 6) / 7))), .int (nI (se + 256 * mg)), .ref h0]))]) [0, 1] rfl
  have hD9 := hD.sub (ws' := [(h0, .inr (4, [.int (nI mi), .int (nI mt), .int (nI mg), .int (nI ms), .int sd, .null])), (h1, .inr (2, [.int (nI id), .int (nI (16 + 256 * (ms % 256) + 65536 * (ms / 256) + 16777216 * ((ms + 6) / 7))), .int (nI (se + 256 * mg)), .ref h0]))]) [0, 1] (by decide +kernel) rfl
  have hK9 := hK.sub (tys' := []) [] rfl
  exact W.vret hx hb hr (fun t ht hW => ⟨⟨(), rfl, trivial, ⟨by rw [ht]; exact hP9, va_K.moved hW.alike hK9, hD9⟩⟩, hS.F ht⟩) hS.2.2 dX3_writeControl_93

noncomputable def tl_c_X3_writeControl_19N : List Cond := wsX30 ++ (v_c_X3_packets ++ (v_c_X10_packN ++ (v_c_X1_write0)))
noncomputable def v_c_X3_writeControl_19N : List Cond := .code yX3_writeControl cX3_writeControl 9 none :: ([.fieldLink RX3 25 "ClaimBus$Message" "size" "I", .initialized RX3, .methodLink RX3 46 yX3_packets, .instanceMethod yX3_packets, .selects RX3 yX3_packets yX3_packets, .initialized RX10, .static yX10_pack, .fieldLink RX3 22 "ClaimBus$Message" "group" "I", .initialized RX1, .methodLink RX3 36 yX1_write, .instanceMethod yX1_write, .selects RX1 yX1_write yX1_write] ++ tl_c_X3_writeControl_19N)
theorem it_c_X3_writeControl_19N : ∀ w ∈ tl_c_X3_writeControl_19N, w ∈ v_c_X3_writeControl_19N := fun w h => List.mem_cons_of_mem _ (List.mem_append_right _ h)
theorem in_c_X3_writeControl_19N_X3 : ∀ w ∈ wsX30, w ∈ v_c_X3_writeControl_19N := fun w h => it_c_X3_writeControl_19N w (List.mem_append_left _ h)
theorem ic_c_X3_writeControl_19N_c_X3_packets : ∀ w ∈ v_c_X3_packets, w ∈ v_c_X3_writeControl_19N := fun w h => it_c_X3_writeControl_19N w (List.mem_append_right _ (List.mem_append_left _ h))
theorem ic_c_X3_writeControl_19N_c_X10_packN : ∀ w ∈ v_c_X10_packN, w ∈ v_c_X3_writeControl_19N := fun w h => it_c_X3_writeControl_19N w (List.mem_append_right _ (List.mem_append_right _ (List.mem_append_left _ h)))
theorem ic_c_X3_writeControl_19N_c_X1_write0 : ∀ w ∈ v_c_X1_write0, w ∈ v_c_X3_writeControl_19N := fun w h => it_c_X3_writeControl_19N w (List.mem_append_right _ (List.mem_append_right _ (List.mem_append_right _ (h))))
theorem gt_c_X3_writeControl_19N : ∀ w ∈ tl_c_X3_writeControl_19N, goodWord w = true := List.forall_mem_append.mpr ⟨gw_wsX30, List.forall_mem_append.mpr ⟨gw_c_X3_packets, List.forall_mem_append.mpr ⟨gw_c_X10_packN, gw_c_X1_write0⟩⟩⟩
theorem gw_c_X3_writeControl_19N : ∀ w ∈ v_c_X3_writeControl_19N, goodWord w = true := List.forall_mem_cons.mpr ⟨by decide +kernel, List.forall_mem_append.mpr ⟨List.all_eq_true.mp (by decide +kernel), gt_c_X3_writeControl_19N⟩⟩
theorem g_c_X3_writeControl_19N_c_X3_packets_46 : GoodIn v_c_X3_writeControl_19N (wsV RX3 46 RX3 yX3_packets v_c_X3_packets) := goodIn_app (goodIn_r [.methodLink RX3 46 yX3_packets, .instanceMethod yX3_packets, .selects RX3 yX3_packets yX3_packets, .initialized RX3] [3, 4, 5, 2] (by decide +kernel) (by decide +kernel)) (fun w h => ⟨ic_c_X3_writeControl_19N_c_X3_packets w h, good_of_word (gw_c_X3_packets w h)⟩)
theorem g_c_X3_writeControl_19N_c_X10_packN_50 : GoodIn v_c_X3_writeControl_19N v_c_X10_packN := fun w h => ⟨ic_c_X3_writeControl_19N_c_X10_packN w h, good_of_word (gw_c_X10_packN w h)⟩
theorem g_c_X3_writeControl_19N_c_X1_write0_36 : GoodIn v_c_X3_writeControl_19N (wsV RX3 36 RX1 yX1_write v_c_X1_write0) := goodIn_app (goodIn_r [.methodLink RX3 36 yX1_write, .instanceMethod yX1_write, .selects RX1 yX1_write yX1_write, .initialized RX1] [10, 11, 12, 9] (by decide +kernel) (by decide +kernel)) (fun w h => ⟨ic_c_X3_writeControl_19N_c_X1_write0 w h, good_of_word (gw_c_X1_write0 w h)⟩)
set_option maxHeartbeats 4000000 in
set_option maxRecDepth 100000 in
/-- Message.writeControl 19 -/
theorem c_X3_writeControl_19N (l : Launch) (dC : Nat → ClassId) (dI : Nat → Nat → Nat) (h0 : Nat) (mi : Nat) (mt : Nat) (mg : Nat) (ms : Nat) (sd : Int32) (h1 : Nat) (fi : Nat) (ff : Int32) (fo : Int32) (id : Nat) (se : Nat) (th : Nat) (sz : Nat) (hmi : mi < 8) (hmt : mt < 256) (hmg : mg < 262144) (hms : ms < 1786) (h_se : se < 256) (h_th : th < 256) : Met l yX3_writeControl v_c_X3_writeControl_19N ({ frames := 1, cells := 0, slots := 0, locals := 24 }) (va_Pc [.ref h0, .ref h1, .int (nI id), .int 19, .int (nI se), .int (nI th)] (fun U => U.heap.size = sz ∧ va_P (dC, dI) vwCl [(h0, .inr (4, [.int (nI mi), .int (nI mt), .int (nI mg), .int (nI ms), .int sd, .null])), (h1, .inr (2, [.int (nI fi), .int ff, .int fo, .null]))] U.heap ∧ va_K (dC, dI) vwCl [] U ∧ va_D (fun _ => True) [(h0, .inr (4, [.int (nI mi), .int (nI mt), .int (nI mg), .int (nI ms), .int sd, .null])), (h1, .inr (2, [.int (nI fi), .int ff, .int fo, .null]))] ∧ ev U)) (va_Qv (fun _ : Unit => True) (fun (_ : Unit) (t : State) => va_P (dC, dI) vwCl [(h0, .inr (4, [.int (nI mi), .int (nI mt), .int (nI mg), .int (nI ms), .int sd, .null])), (h1, .inr (2, [.int (nI id), .int (nI (19 + 256 * (ms % 256) + 65536 * (ms / 256) + 16777216 * ((ms + 6) / 7))), .int (nI (se + 256 * mg)), .ref h0]))] t.heap ∧ va_K (dC, dI) vwCl [] t ∧ va_D (va_A [(h0, .inr (4, [.int (nI mi), .int (nI mt), .int (nI mg), .int (nI ms), .int sd, .null])), (h1, .inr (2, [.int (nI fi), .int ff, .int fo, .null]))] sz) [(h0, .inr (4, [.int (nI mi), .int (nI mt), .int (nI mg), .int (nI ms), .int sd, .null])), (h1, .inr (2, [.int (nI id), .int (nI (19 + 256 * (ms % 256) + 65536 * (ms / 256) + 16777216 * ((ms + 6) / 7))), .int (nI (se + 256 * mg)), .ref h0]))]) (va_A [(h0, .inr (4, [.int (nI mi), .int (nI mt), .int (nI mg), .int (nI ms), .int sd, .null])), (h1, .inr (2, [.int (nI fi), .int ff, .int fo, .null]))] sz)) 0 0 (va_A [(h0, .inr (4, [.int (nI mi), .int (nI mt), .int (nI mg), .int (nI ms), .int sd, .null])), (h1, .inr (2, [.int (nI fi), .int ff, .int fo, .null]))] sz) := by
  refine Met.ofW (cc := cX3_writeControl) (maxL := 9) (ret := none) (by decide) rfl ?_
  intro p e s m args below meth c s₁ B hml hv
  obtain ⟨rfl, hsz, hP, hK, hD0, hE⟩ := hv
  have hx := B.exec
  have hb := B.bytes
  have hr := B.returns
  have hts := atoms_spec (ws := v_c_X3_writeControl_19N) B.pre
  have hown : s.vm.findClass RX3 = some m.cls := findClass_of_methodNamed B.named
  have hlocks := B.notSynchronized
  subst hsz
  have hD := hD0.self (sz := s.heap.size)
  generalize hAe : va_A [(h0, .inr (4, [.int (nI mi), .int (nI mt), .int (nI mg), .int (nI ms), .int sd, .null])), (h1, .inr (2, [.int (nI fi), .int ff, .int fo, .null]))] s.heap.size = A at hD ⊢
  have hA : ∀ q : Nat, s.heap.size ≤ q → A q := fun q h => by rw [← hAe]; exact Or.inr h
  have hS : va_S A s.heap s.heap [] := va_S.rf
  replace hP : va_P (dC, dI) vwCl [(h0, .inr (4, [.int (nI mi), .int (nI mt), .int (nI mg), .int (nI ms), .int sd, .null])), (h1, .inr (2, [.int (nI fi), .int ff, .int fo, .null]))] s.heap := hP
  have hl := lv_entry ([.ref h0, .ref h1, .int (nI id), .int 19, .int (nI se), .int (nI th)]) (n := 9) (Nat.le_of_ble_eq_true rfl)
  rw [lg_entry_eq]
  generalize (lg_sl ([.ref h0, .ref h1, .int (nI id), .int 19, .int (nI se), .int (nI th)]) ++ List.replicate (9 - (lg_sl ([.ref h0, .ref h1, .int (nI id), .int 19, .int (nI se), .int (nI th)])).length) Slot.unset).toArray = ls at hl ⊢
  replace hl : lv_has ls 9 [(0, .ref h0), (1, .ref h1), (2, .int (nI id)), (3, .int 19), (4, .int (nI se)), (5, .int (nI th))] := hl
  obtain ⟨H, hH⟩ : ∃ z : Heap, z = s.heap := ⟨_, rfl⟩
  rw [← hH]
  replace hS : va_S A s.heap H [] := by rw [hH]; exact va_S.rf
  replace hP : va_P (dC, dI) vwCl [(h0, .inr (4, [.int (nI mi), .int (nI mt), .int (nI mg), .int (nI ms), .int sd, .null])), (h1, .inr (2, [.int (nI fi), .int ff, .int fo, .null]))] H := by rw [hH]; exact hP
  clear hH
  refine lv_iload_n hx hb dX3_writeControl_0 rfl (lv_at hl 3 rfl) ?_
  refine lv_bipush (v := 17) hx hb dX3_writeControl_1 (by decide) ?_
  refine lv_icmp_eq (tgt := 17) hx hb dX3_writeControl_3 (by decide) (fun c_1 => ?_) (fun c_1 => ?_)
  · exact absurd c_1 (by decide)
  refine lv_iload_n hx hb dX3_writeControl_6 rfl (lv_at hl 3 rfl) ?_
  refine lv_sipush (v := 255) hx hb dX3_writeControl_7 (by decide) ?_
  refine lv_icmp_eq (tgt := 17) hx hb dX3_writeControl_10 (by decide) (fun c_2 => ?_) (fun c_2 => ?_)
  · exact absurd c_2 (by decide)
  refine lv_iconst (v := 1) hx hb dX3_writeControl_13 (by decide) ?_
  refine lv_goto (tgt := 18) hx hb dX3_writeControl_14 (by decide) ?_
  refine lv_istore (lv' := [(6, .int 1), (0, .ref h0), (1, .ref h1), (2, .int (nI id)), (3, .int 19), (4, .int (nI se)), (5, .int (nI th))]) hx hb dX3_writeControl_18 hl (by decide) rfl (fun ls hl => ?_)
  refine lv_iload hx hb dX3_writeControl_20 (lv_at hl 0 rfl) ?_
  refine lv_if_eq (tgt := 47) hx hb dX3_writeControl_22 (by decide) (fun c_3 => ?_) (fun c_3 => ?_)
  · exact absurd c_3 (by decide)
  refine lv_iload_n hx hb dX3_writeControl_25 rfl (lv_at hl 4 rfl) ?_
  refine lv_aload_n hx hb dX3_writeControl_26 rfl (lv_at hl 1 rfl) ?_
  refine va_get (D := (dC, dI)) (ci := 4) (v := .int (nI ms)) (C := RX3) (T := TX3) (N := 6) hx hb hts in_c_X3_writeControl_19N_X3 hown hK hP 0 rfl rfl 3 (by decide) (hts (.fieldLink RX3 25 "ClaimBus$Message" "size" "I") (List.mem_of_getElem? (i := 1) rfl)) (fun _ h9 => h9) rfl dX3_writeControl_27 ?_
  refine lv_aload_n hx hb dX3_writeControl_30 rfl (lv_at hl 1 rfl) ?_
  refine va_get (D := (dC, dI)) (ci := 4) (v := .int (nI ms)) (C := RX3) (T := TX3) (N := 6) hx hb hts in_c_X3_writeControl_19N_X3 hown hK hP 0 rfl rfl 3 (by decide) (hts (.fieldLink RX3 25 "ClaimBus$Message" "size" "I") (List.mem_of_getElem? (i := 1) rfl)) (fun _ h9 => h9) rfl dX3_writeControl_31 ?_
  refine lv_bipush (v := 8) hx hb dX3_writeControl_34 (by decide) ?_
  refine lv_ishr hx hb dX3_writeControl_36 ?_
  refine lv_topi (fun x_4 ex_4 => ?_)
  obtain rfl : x_4 = (nI (((ms) / 256))) := ex_4.trans ((pk_shrN (n := ms) (by omega) ((8 : Int32) &&& 31) 8 (by decide)).trans (show nI (ms / 2 ^ 8) = nI (((ms) / 256)) from congrArg nI (by omega)))
  refine lv_aload_n hx hb dX3_writeControl_37 rfl (lv_at hl 1 rfl) ?_
  have hPc := hP.sub (ws' := [(h0, .inr (4, [.int (nI mi), .int (nI mt), .int (nI mg), .int (nI ms), .int sd, .null]))]) [0] rfl
  have hDc := hD.sub (ws' := [(h0, .inr (4, [.int (nI mi), .int (nI mt), .int (nI mg), .int (nI ms), .int sd, .null]))]) [0] (by decide +kernel) rfl
  have hKc := hK.sub (tys' := []) [] rfl
  have hFc := ro_free hS hA
  refine va_calli (va_runV (As := []) (rest := [.int (nI (((ms) / 256))), .int (nI ms), .int 19]) ⟨hx, hb, hml, hown, hts⟩ (c_X3_packets l dC dI (h0) (mi) (mt) (mg) (ms) (sd) H.size hmi hmt hmg hms) (cwV 0 hts g_c_X3_writeControl_19N_c_X3_packets_46 rfl rfl rfl (by decide +kernel) ⟨Nat.le_of_ble_eq_true rfl, Nat.le_of_ble_eq_true rfl⟩) ⟨fun a U g mk q => by obtain ⟨q0, q1, qP, qK, qD, qE⟩ := q; exact ⟨q0, q1, qP, va_K.moved (u := U) (U := U.calling g mk a) (Vm.Alike.refl U.vm) qK, qD, ev.same (u := U) (U := U.calling g mk a) rfl qE⟩, va_recv hKc hPc (ci := 4) (q0 := 0) rfl rfl, fun U hU hW => ⟨rfl, by rw [hU], by rw [hU]; exact hPc, va_K.moved hW.alike hKc, hDc.weaken (fun _ _ _ _ => trivial), hE.warm hW⟩⟩ rfl rfl hl.1 rfl (lv_room (Nat.le_of_ble_eq_true rfl)) dX3_writeControl_38 ⟨Nat.le_of_ble_eq_true rfl, Nat.le_of_ble_eq_true rfl⟩) hS (fun q _ h => hFc q h) hFc (fun r_5 u t H1 locs ht hvm hw hB hz1 hk1 hS => ?_)
  clear hPc hDc hKc
  replace hP := ro_keep hP hk1
  generalize H1 = H at hP hS ⊢
  replace hP : va_P (dC, dI) vwCl [(h0, .inr (4, [.int (nI mi), .int (nI mt), .int (nI mg), .int (nI ms), .int sd, .null])), (h1, .inr (2, [.int (nI fi), .int ff, .int fo, .null]))] H := hP
  have hw := hw.symm
  subst hw
  have hPc := hP.sub (ws' := []) [] rfl
  have hDc := hD.sub (ws' := []) [] (by decide +kernel) rfl
  have hKc := hK.sub (tys' := []) [] rfl
  have hFc := ro_free hS hA
  refine va_calli (va_runSN (As := [.int 19, .int (nI ms), .int (nI (((ms) / 256))), .int (nI ((ms + 6) / 7))]) (rest := []) ⟨hx, hb, hml, hown, hts⟩ (c_X10_packN l dC dI (19) (ms) ((((ms) / 256))) (((ms + 6) / 7)) H.size (by omega) (by omega) (by omega) (by omega)) ⟨va_cnB 4 hts g_c_X3_writeControl_19N_c_X10_packN_50 rfl rfl rfl hE.n10 (hts (.initialized RX10) (List.mem_of_getElem? (i := 6) rfl)) (by decide +kernel) ⟨Nat.le_of_ble_eq_true rfl, Nat.le_of_ble_eq_true rfl⟩, (hts (.static yX10_pack) (List.mem_of_getElem? (i := 7) rfl)), trivial⟩ ⟨fun a U g mk q => by obtain ⟨q0, q1, qP, qK, qD, qE⟩ := q; exact ⟨q0, q1, qP, va_K.moved (u := U) (U := U.calling g mk a) (Vm.Alike.refl U.vm) qK, qD, ev.same (u := U) (U := U.calling g mk a) rfl qE⟩, fun U hU hW => ⟨rfl, by rw [hU], by rw [hU]; exact hPc, va_K.moved hW.alike hKc, hDc.weaken (fun _ _ _ _ => trivial), hE.warm hW⟩⟩ rfl rfl hl.1 rfl (lv_room (Nat.le_of_ble_eq_true rfl)) dX3_writeControl_41 ⟨Nat.le_of_ble_eq_true rfl, Nat.le_of_ble_eq_true rfl⟩) hS (fun q _ h => hFc q h) hFc (fun r_6 u t H1 locs ht hvm hw hB hz1 hk1 hS => ?_)
  clear hPc hDc hKc
  replace hP := ro_keep hP hk1
  generalize H1 = H at hP hS ⊢
  replace hP : va_P (dC, dI) vwCl [(h0, .inr (4, [.int (nI mi), .int (nI mt), .int (nI mg), .int (nI ms), .int sd, .null])), (h1, .inr (2, [.int (nI fi), .int ff, .int fo, .null]))] H := hP
  have hw := hw.symm
  subst hw
  refine lv_goto (tgt := 58) hx hb dX3_writeControl_44 (by decide) ?_
  refine lv_istore (lv' := [(7, .int (nI (19 % 256 + 256 * (ms % 256) + 65536 * ((((ms) / 256)) % 256) + 16777216 * ((ms + 6) / 7)))), (6, .int 1), (0, .ref h0), (1, .ref h1), (2, .int (nI id)), (3, .int 19), (4, .int (nI se)), (5, .int (nI th))]) hx hb dX3_writeControl_58 hl (by decide) rfl (fun ls hl => ?_)
  refine lv_iload hx hb dX3_writeControl_60 (lv_at hl 1 rfl) ?_
  refine lv_if_eq (tgt := 70) hx hb dX3_writeControl_62 (by decide) (fun c_7 => ?_) (fun c_7 => ?_)
  · exact absurd c_7 (by decide)
  refine lv_iload hx hb dX3_writeControl_65 (lv_at hl 6 rfl) ?_
  refine lv_goto (tgt := 73) hx hb dX3_writeControl_67 (by decide) ?_
  refine lv_istore (lv' := [(8, .int (nI se)), (7, .int (nI (19 % 256 + 256 * (ms % 256) + 65536 * ((((ms) / 256)) % 256) + 16777216 * ((ms + 6) / 7)))), (6, .int 1), (0, .ref h0), (1, .ref h1), (2, .int (nI id)), (3, .int 19), (4, .int (nI se)), (5, .int (nI th))]) hx hb dX3_writeControl_73 hl (by decide) rfl (fun ls hl => ?_)
  refine lv_aload_n hx hb dX3_writeControl_75 rfl (lv_at hl 4 rfl) ?_
  refine lv_iload_n hx hb dX3_writeControl_76 rfl (lv_at hl 5 rfl) ?_
  refine lv_iload hx hb dX3_writeControl_77 (lv_at hl 1 rfl) ?_
  refine lv_iload hx hb dX3_writeControl_79 (lv_at hl 0 rfl) ?_
  refine lv_aload_n hx hb dX3_writeControl_81 rfl (lv_at hl 3 rfl) ?_
  refine va_get (D := (dC, dI)) (ci := 4) (v := .int (nI mg)) (C := RX3) (T := TX3) (N := 6) hx hb hts in_c_X3_writeControl_19N_X3 hown hK hP 0 rfl rfl 2 (by decide) (hts (.fieldLink RX3 22 "ClaimBus$Message" "group" "I") (List.mem_of_getElem? (i := 8) rfl)) (fun _ h9 => h9) rfl dX3_writeControl_82 ?_
  refine lv_bipush (v := 8) hx hb dX3_writeControl_85 (by decide) ?_
  refine lv_ishl hx hb dX3_writeControl_87 ?_
  refine lv_topi (fun x_8 ex_8 => ?_)
  obtain rfl : x_8 = (nI (256 * mg)) := ex_8.trans ((pk_shlN (n := mg) ((8 : Int32) &&& 31) 8 (by decide) (by omega)).trans (show nI (mg * 2 ^ 8) = nI (256 * mg) from congrArg nI (by omega)))
  refine lv_ior hx hb dX3_writeControl_88 ?_
  refine lv_topi (fun x_9 ex_9 => ?_)
  obtain rfl : x_9 = (nI (256 * mg + se)) := ex_9.trans ((q_or' se (256 * mg) 8 (by omega) (by omega) (by omega)).trans (show nI (se + (256 * mg)) = nI (256 * mg + se) from congrArg nI (by omega)))
  refine lv_aload_n hx hb dX3_writeControl_89 rfl (lv_at hl 3 rfl) ?_
  have hPc := hP.sub (ws' := [(h1, .inr (2, [.int (nI fi), .int ff, .int fo, .null]))]) [1] rfl
  have hDc := hD.sub (ws' := [(h1, .inr (2, [.int (nI fi), .int ff, .int fo, .null]))]) [1] (by decide +kernel) rfl
  have hKc := hK.sub (tys' := []) [] rfl
  have hFc := va_free (wc := [(h1, .inr (2, [.int (nI fi), .int ff, .int fo, .null]))]) hD hS hA [1] rfl
  refine va_callv (va_runV (As := [.int (nI id), .int (nI (19 % 256 + 256 * (ms % 256) + 65536 * ((((ms) / 256)) % 256) + 16777216 * ((ms + 6) / 7))), .int (nI (256 * mg + se)), .ref h0]) (rest := []) ⟨hx, hb, hml, hown, hts⟩ (c_X1_write0 l dC dI (h1) (fi) (ff) (fo) (id) ((nI (19 % 256 + 256 * (ms % 256) + 65536 * ((((ms) / 256)) % 256) + 16777216 * ((ms + 6) / 7)))) ((nI (256 * mg + se))) (h0) H.size) (cwV 4 hts g_c_X3_writeControl_19N_c_X1_write0_36 rfl rfl rfl (by decide +kernel) ⟨Nat.le_of_ble_eq_true rfl, Nat.le_of_ble_eq_true rfl⟩) ⟨fun a U g mk q => by obtain ⟨q0, q1, qP, qK, qD, qE⟩ := q; exact ⟨q0, q1, qP, va_K.moved (u := U) (U := U.calling g mk a) (Vm.Alike.refl U.vm) qK, qD, ev.same (u := U) (U := U.calling g mk a) rfl qE⟩, va_recv hKc hPc (ci := 2) (q0 := 0) rfl rfl, fun U hU hW => ⟨rfl, by rw [hU], by rw [hU]; exact hPc, va_K.moved hW.alike hKc, hDc.weaken (fun _ _ _ _ => trivial), hE.warm hW⟩⟩ rfl rfl hl.1 rfl (lv_room (Nat.le_of_ble_eq_true rfl)) dX3_writeControl_90 ⟨Nat.le_of_ble_eq_true rfl, Nat.le_of_ble_eq_true rfl⟩) hS (fun q _ h => hFc q h) hFc (fun u t H1 locs ht hvm hw hB hz1 hk1 hS => ?_)
  clear hPc hDc hKc
  obtain ⟨hP1, hK1, hD1⟩ := hB
  rw [ht] at hP1
  have hK1 := va_K.moved hvm.symm hK1
  obtain ⟨hP, hD⟩ := va_join (wr := [(h0, .inr (4, [.int (nI mi), .int (nI mt), .int (nI mg), .int (nI ms), .int sd, .null]))]) (w1 := [(h1, .inr (2, [.int (nI id), .int (nI (19 % 256 + 256 * (ms % 256) + 65536 * ((((ms) / 256)) % 256) + 16777216 * ((ms + 6) / 7))), .int (nI (256 * mg + se)), .ref h0]))]) hP hD [1] [0] rfl rfl (by decide +kernel) (by decide +kernel) hk1 hFc hP1 hD1
  generalize H1 = H at hP hS ⊢
  replace hP : va_P (dC, dI) vwCl [(h0, .inr (4, [.int (nI mi), .int (nI mt), .int (nI mg), .int (nI ms), .int sd, .null])), (h1, .inr (2, [.int (nI id), .int (nI (19 % 256 + 256 * (ms % 256) + 65536 * ((((ms) / 256)) % 256) + 16777216 * ((ms + 6) / 7))), .int (nI (256 * mg + se)), .ref h0]))] H := hP
  replace hD : va_D A [(h0, .inr (4, [.int (nI mi), .int (nI mt), .int (nI mg), .int (nI ms), .int sd, .null])), (h1, .inr (2, [.int (nI id), .int (nI (19 % 256 + 256 * (ms % 256) + 65536 * ((((ms) / 256)) % 256) + 16777216 * ((ms + 6) / 7))), .int (nI (256 * mg + se)), .ref h0]))] := hD
  clear hw
  rw [show ((nI (19 % 256 + 256 * (ms % 256) + 65536 * ((((ms) / 256)) % 256) + 16777216 * ((ms + 6) / 7))) : Int32) = (nI (19 + 256 * (ms % 256) + 65536 * (ms / 256) + 16777216 * ((ms + 6) / 7))) from congrArg nI (show (19 % 256 + 256 * (ms % 256) + 65536 * ((((ms) / 256)) % 256) + 16777216 * ((ms + 6) / 7)) = (19 + 256 * (ms % 256) + 65536 * (ms / 256) + 16777216 * ((ms + 6) / 7)) from by omega)] at hP hD
  rw [show ((nI (256 * mg + se)) : Int32) = (nI (se + 256 * mg)) from congrArg nI (show (256 * mg + se) = (se + 256 * mg) from by omega)] at hP hD
  have hP9 := hP.sub (ws' := [(h0, .inr (4, [.int (nI mi), .int (nI mt), .int (nI mg), .int (nI ms), .int sd, .null])), (h1, .inr (2, [.int (nI id), .int (nI (19 + 256 * (ms % 256) + 65536 * (ms / 256) + 16777216 * ((ms + 6) / 7))), .int (nI (se + 256 * mg)), .ref h0]))]) [0, 1] rfl
  have hD9 := hD.sub (ws' := [(h0, .inr (4, [.int (nI mi), .int (nI mt), .int (nI mg), .int (nI ms), .int sd, .null])), (h1, .inr (2, [.int (nI id), .int (nI (19 + 256 * (ms % 256) + 65536 * (ms / 256) + 16777216 * ((ms + 6) / 7))), .int (nI (se + 256 * mg)), .ref h0]))]) [0, 1] (by decide +kernel) rfl
  have hK9 := hK.sub (tys' := []) [] rfl
  exact W.vret hx hb hr (fun t ht hW => ⟨⟨(), rfl, trivial, ⟨by rw [ht]; exact hP9, va_K.moved hW.alike hK9, hD9⟩⟩, hS.F ht⟩) hS.2.2 dX3_writeControl_93

noncomputable def tl_c_X3_writeControl_32N : List Cond := wsX30 ++ (v_c_X3_packets ++ (v_c_X10_packN ++ (v_c_X1_write0)))
noncomputable def v_c_X3_writeControl_32N : List Cond := .code yX3_writeControl cX3_writeControl 9 none :: ([.fieldLink RX3 25 "ClaimBus$Message" "size" "I", .initialized RX3, .methodLink RX3 46 yX3_packets, .instanceMethod yX3_packets, .selects RX3 yX3_packets yX3_packets, .initialized RX10, .static yX10_pack, .fieldLink RX3 22 "ClaimBus$Message" "group" "I", .initialized RX1, .methodLink RX3 36 yX1_write, .instanceMethod yX1_write, .selects RX1 yX1_write yX1_write] ++ tl_c_X3_writeControl_32N)
theorem it_c_X3_writeControl_32N : ∀ w ∈ tl_c_X3_writeControl_32N, w ∈ v_c_X3_writeControl_32N := fun w h => List.mem_cons_of_mem _ (List.mem_append_right _ h)
theorem in_c_X3_writeControl_32N_X3 : ∀ w ∈ wsX30, w ∈ v_c_X3_writeControl_32N := fun w h => it_c_X3_writeControl_32N w (List.mem_append_left _ h)
theorem ic_c_X3_writeControl_32N_c_X3_packets : ∀ w ∈ v_c_X3_packets, w ∈ v_c_X3_writeControl_32N := fun w h => it_c_X3_writeControl_32N w (List.mem_append_right _ (List.mem_append_left _ h))
theorem ic_c_X3_writeControl_32N_c_X10_packN : ∀ w ∈ v_c_X10_packN, w ∈ v_c_X3_writeControl_32N := fun w h => it_c_X3_writeControl_32N w (List.mem_append_right _ (List.mem_append_right _ (List.mem_append_left _ h)))
theorem ic_c_X3_writeControl_32N_c_X1_write0 : ∀ w ∈ v_c_X1_write0, w ∈ v_c_X3_writeControl_32N := fun w h => it_c_X3_writeControl_32N w (List.mem_append_right _ (List.mem_append_right _ (List.mem_append_right _ (h))))
theorem gt_c_X3_writeControl_32N : ∀ w ∈ tl_c_X3_writeControl_32N, goodWord w = true := List.forall_mem_append.mpr ⟨gw_wsX30, List.forall_mem_append.mpr ⟨gw_c_X3_packets, List.forall_mem_append.mpr ⟨gw_c_X10_packN, gw_c_X1_write0⟩⟩⟩
theorem gw_c_X3_writeControl_32N : ∀ w ∈ v_c_X3_writeControl_32N, goodWord w = true := List.forall_mem_cons.mpr ⟨by decide +kernel, List.forall_mem_append.mpr ⟨List.all_eq_true.mp (by decide +kernel), gt_c_X3_writeControl_32N⟩⟩
theorem g_c_X3_writeControl_32N_c_X3_packets_46 : GoodIn v_c_X3_writeControl_32N (wsV RX3 46 RX3 yX3_packets v_c_X3_packets) := goodIn_app (goodIn_r [.methodLink RX3 46 yX3_packets, .instanceMethod yX3_packets, .selects RX3 yX3_packets yX3_packets, .initialized RX3] [3, 4, 5, 2] (by decide +kernel) (by decide +kernel)) (fun w h => ⟨ic_c_X3_writeControl_32N_c_X3_packets w h, good_of_word (gw_c_X3_packets w h)⟩)
theorem g_c_X3_writeControl_32N_c_X10_packN_50 : GoodIn v_c_X3_writeControl_32N v_c_X10_packN := fun w h => ⟨ic_c_X3_writeControl_32N_c_X10_packN w h, good_of_word (gw_c_X10_packN w h)⟩
theorem g_c_X3_writeControl_32N_c_X1_write0_36 : GoodIn v_c_X3_writeControl_32N (wsV RX3 36 RX1 yX1_write v_c_X1_write0) := goodIn_app (goodIn_r [.methodLink RX3 36 yX1_write, .instanceMethod yX1_write, .selects RX1 yX1_write yX1_write, .initialized RX1] [10, 11, 12, 9] (by decide +kernel) (by decide +kernel)) (fun w h => ⟨ic_c_X3_writeControl_32N_c_X1_write0 w h, good_of_word (gw_c_X1_write0 w h)⟩)
set_option maxHeartbeats 4000000 in
set_option maxRecDepth 100000 in
/-- Message.writeControl 32 -/
theorem c_X3_writeControl_32N (l : Launch) (dC : Nat → ClassId) (dI : Nat → Nat → Nat) (h0 : Nat) (mi : Nat) (mt : Nat) (mg : Nat) (ms : Nat) (sd : Int32) (h1 : Nat) (fi : Nat) (ff : Int32) (fo : Int32) (id : Nat) (se : Nat) (th : Nat) (sz : Nat) (hmi : mi < 8) (hmt : mt < 256) (hmg : mg < 262144) (hms : ms < 1786) (h_se : se < 256) (h_th : th < 256) : Met l yX3_writeControl v_c_X3_writeControl_32N ({ frames := 1, cells := 0, slots := 0, locals := 24 }) (va_Pc [.ref h0, .ref h1, .int (nI id), .int 32, .int (nI se), .int (nI th)] (fun U => U.heap.size = sz ∧ va_P (dC, dI) vwCl [(h0, .inr (4, [.int (nI mi), .int (nI mt), .int (nI mg), .int (nI ms), .int sd, .null])), (h1, .inr (2, [.int (nI fi), .int ff, .int fo, .null]))] U.heap ∧ va_K (dC, dI) vwCl [] U ∧ va_D (fun _ => True) [(h0, .inr (4, [.int (nI mi), .int (nI mt), .int (nI mg), .int (nI ms), .int sd, .null])), (h1, .inr (2, [.int (nI fi), .int ff, .int fo, .null]))] ∧ ev U)) (va_Qv (fun _ : Unit => True) (fun (_ : Unit) (t : State) => va_P (dC, dI) vwCl [(h0, .inr (4, [.int (nI mi), .int (nI mt), .int (nI mg), .int (nI ms), .int sd, .null])), (h1, .inr (2, [.int (nI id), .int (nI (32 + 256 * (ms % 256) + 65536 * (ms / 256) + 16777216 * ((ms + 6) / 7))), .int (nI (se + 256 * mg)), .ref h0]))] t.heap ∧ va_K (dC, dI) vwCl [] t ∧ va_D (va_A [(h0, .inr (4, [.int (nI mi), .int (nI mt), .int (nI mg), .int (nI ms), .int sd, .null])), (h1, .inr (2, [.int (nI fi), .int ff, .int fo, .null]))] sz) [(h0, .inr (4, [.int (nI mi), .int (nI mt), .int (nI mg), .int (nI ms), .int sd, .null])), (h1, .inr (2, [.int (nI id), .int (nI (32 + 256 * (ms % 256) + 65536 * (ms / 256) + 16777216 * ((ms + 6) / 7))), .int (nI (se + 256 * mg)), .ref h0]))]) (va_A [(h0, .inr (4, [.int (nI mi), .int (nI mt), .int (nI mg), .int (nI ms), .int sd, .null])), (h1, .inr (2, [.int (nI fi), .int ff, .int fo, .null]))] sz)) 0 0 (va_A [(h0, .inr (4, [.int (nI mi), .int (nI mt), .int (nI mg), .int (nI ms), .int sd, .null])), (h1, .inr (2, [.int (nI fi), .int ff, .int fo, .null]))] sz) := by
  refine Met.ofW (cc := cX3_writeControl) (maxL := 9) (ret := none) (by decide) rfl ?_
  intro p e s m args below meth c s₁ B hml hv
  obtain ⟨rfl, hsz, hP, hK, hD0, hE⟩ := hv
  have hx := B.exec
  have hb := B.bytes
  have hr := B.returns
  have hts := atoms_spec (ws := v_c_X3_writeControl_32N) B.pre
  have hown : s.vm.findClass RX3 = some m.cls := findClass_of_methodNamed B.named
  have hlocks := B.notSynchronized
  subst hsz
  have hD := hD0.self (sz := s.heap.size)
  generalize hAe : va_A [(h0, .inr (4, [.int (nI mi), .int (nI mt), .int (nI mg), .int (nI ms), .int sd, .null])), (h1, .inr (2, [.int (nI fi), .int ff, .int fo, .null]))] s.heap.size = A at hD ⊢
  have hA : ∀ q : Nat, s.heap.size ≤ q → A q := fun q h => by rw [← hAe]; exact Or.inr h
  have hS : va_S A s.heap s.heap [] := va_S.rf
  replace hP : va_P (dC, dI) vwCl [(h0, .inr (4, [.int (nI mi), .int (nI mt), .int (nI mg), .int (nI ms), .int sd, .null])), (h1, .inr (2, [.int (nI fi), .int ff, .int fo, .null]))] s.heap := hP
  have hl := lv_entry ([.ref h0, .ref h1, .int (nI id), .int 32, .int (nI se), .int (nI th)]) (n := 9) (Nat.le_of_ble_eq_true rfl)
  rw [lg_entry_eq]
  generalize (lg_sl ([.ref h0, .ref h1, .int (nI id), .int 32, .int (nI se), .int (nI th)]) ++ List.replicate (9 - (lg_sl ([.ref h0, .ref h1, .int (nI id), .int 32, .int (nI se), .int (nI th)])).length) Slot.unset).toArray = ls at hl ⊢
  replace hl : lv_has ls 9 [(0, .ref h0), (1, .ref h1), (2, .int (nI id)), (3, .int 32), (4, .int (nI se)), (5, .int (nI th))] := hl
  obtain ⟨H, hH⟩ : ∃ z : Heap, z = s.heap := ⟨_, rfl⟩
  rw [← hH]
  replace hS : va_S A s.heap H [] := by rw [hH]; exact va_S.rf
  replace hP : va_P (dC, dI) vwCl [(h0, .inr (4, [.int (nI mi), .int (nI mt), .int (nI mg), .int (nI ms), .int sd, .null])), (h1, .inr (2, [.int (nI fi), .int ff, .int fo, .null]))] H := by rw [hH]; exact hP
  clear hH
  refine lv_iload_n hx hb dX3_writeControl_0 rfl (lv_at hl 3 rfl) ?_
  refine lv_bipush (v := 17) hx hb dX3_writeControl_1 (by decide) ?_
  refine lv_icmp_eq (tgt := 17) hx hb dX3_writeControl_3 (by decide) (fun c_1 => ?_) (fun c_1 => ?_)
  · exact absurd c_1 (by decide)
  refine lv_iload_n hx hb dX3_writeControl_6 rfl (lv_at hl 3 rfl) ?_
  refine lv_sipush (v := 255) hx hb dX3_writeControl_7 (by decide) ?_
  refine lv_icmp_eq (tgt := 17) hx hb dX3_writeControl_10 (by decide) (fun c_2 => ?_) (fun c_2 => ?_)
  · exact absurd c_2 (by decide)
  refine lv_iconst (v := 1) hx hb dX3_writeControl_13 (by decide) ?_
  refine lv_goto (tgt := 18) hx hb dX3_writeControl_14 (by decide) ?_
  refine lv_istore (lv' := [(6, .int 1), (0, .ref h0), (1, .ref h1), (2, .int (nI id)), (3, .int 32), (4, .int (nI se)), (5, .int (nI th))]) hx hb dX3_writeControl_18 hl (by decide) rfl (fun ls hl => ?_)
  refine lv_iload hx hb dX3_writeControl_20 (lv_at hl 0 rfl) ?_
  refine lv_if_eq (tgt := 47) hx hb dX3_writeControl_22 (by decide) (fun c_3 => ?_) (fun c_3 => ?_)
  · exact absurd c_3 (by decide)
  refine lv_iload_n hx hb dX3_writeControl_25 rfl (lv_at hl 4 rfl) ?_
  refine lv_aload_n hx hb dX3_writeControl_26 rfl (lv_at hl 1 rfl) ?_
  refine va_get (D := (dC, dI)) (ci := 4) (v := .int (nI ms)) (C := RX3) (T := TX3) (N := 6) hx hb hts in_c_X3_writeControl_32N_X3 hown hK hP 0 rfl rfl 3 (by decide) (hts (.fieldLink RX3 25 "ClaimBus$Message" "size" "I") (List.mem_of_getElem? (i := 1) rfl)) (fun _ h9 => h9) rfl dX3_writeControl_27 ?_
  refine lv_aload_n hx hb dX3_writeControl_30 rfl (lv_at hl 1 rfl) ?_
  refine va_get (D := (dC, dI)) (ci := 4) (v := .int (nI ms)) (C := RX3) (T := TX3) (N := 6) hx hb hts in_c_X3_writeControl_32N_X3 hown hK hP 0 rfl rfl 3 (by decide) (hts (.fieldLink RX3 25 "ClaimBus$Message" "size" "I") (List.mem_of_getElem? (i := 1) rfl)) (fun _ h9 => h9) rfl dX3_writeControl_31 ?_
  refine lv_bipush (v := 8) hx hb dX3_writeControl_34 (by decide) ?_
  refine lv_ishr hx hb dX3_writeControl_36 ?_
  refine lv_topi (fun x_4 ex_4 => ?_)
  obtain rfl : x_4 = (nI (((ms) / 256))) := ex_4.trans ((pk_shrN (n := ms) (by omega) ((8 : Int32) &&& 31) 8 (by decide)).trans (show nI (ms / 2 ^ 8) = nI (((ms) / 256)) from congrArg nI (by omega)))
  refine lv_aload_n hx hb dX3_writeControl_37 rfl (lv_at hl 1 rfl) ?_
  have hPc := hP.sub (ws' := [(h0, .inr (4, [.int (nI mi), .int (nI mt), .int (nI mg), .int (nI ms), .int sd, .null]))]) [0] rfl
  have hDc := hD.sub (ws' := [(h0, .inr (4, [.int (nI mi), .int (nI mt), .int (nI mg), .int (nI ms), .int sd, .null]))]) [0] (by decide +kernel) rfl
  have hKc := hK.sub (tys' := []) [] rfl
  have hFc := ro_free hS hA
  refine va_calli (va_runV (As := []) (rest := [.int (nI (((ms) / 256))), .int (nI ms), .int 32]) ⟨hx, hb, hml, hown, hts⟩ (c_X3_packets l dC dI (h0) (mi) (mt) (mg) (ms) (sd) H.size hmi hmt hmg hms) (cwV 0 hts g_c_X3_writeControl_32N_c_X3_packets_46 rfl rfl rfl (by decide +kernel) ⟨Nat.le_of_ble_eq_true rfl, Nat.le_of_ble_eq_true rfl⟩) ⟨fun a U g mk q => by obtain ⟨q0, q1, qP, qK, qD, qE⟩ := q; exact ⟨q0, q1, qP, va_K.moved (u := U) (U := U.calling g mk a) (Vm.Alike.refl U.vm) qK, qD, ev.same (u := U) (U := U.calling g mk a) rfl qE⟩, va_recv hKc hPc (ci := 4) (q0 := 0) rfl rfl, fun U hU hW => ⟨rfl, by rw [hU], by rw [hU]; exact hPc, va_K.moved hW.alike hKc, hDc.weaken (fun _ _ _ _ => trivial), hE.warm hW⟩⟩ rfl rfl hl.1 rfl (lv_room (Nat.le_of_ble_eq_true rfl)) dX3_writeControl_38 ⟨Nat.le_of_ble_eq_true rfl, Nat.le_of_ble_eq_true rfl⟩) hS (fun q _ h => hFc q h) hFc (fun r_5 u t H1 locs ht hvm hw hB hz1 hk1 hS => ?_)
  clear hPc hDc hKc
  replace hP := ro_keep hP hk1
  generalize H1 = H at hP hS ⊢
  replace hP : va_P (dC, dI) vwCl [(h0, .inr (4, [.int (nI mi), .int (nI mt), .int (nI mg), .int (nI ms), .int sd, .null])), (h1, .inr (2, [.int (nI fi), .int ff, .int fo, .null]))] H := hP
  have hw := hw.symm
  subst hw
  have hPc := hP.sub (ws' := []) [] rfl
  have hDc := hD.sub (ws' := []) [] (by decide +kernel) rfl
  have hKc := hK.sub (tys' := []) [] rfl
  have hFc := ro_free hS hA
  refine va_calli (va_runSN (As := [.int 32, .int (nI ms), .int (nI (((ms) / 256))), .int (nI ((ms + 6) / 7))]) (rest := []) ⟨hx, hb, hml, hown, hts⟩ (c_X10_packN l dC dI (32) (ms) ((((ms) / 256))) (((ms + 6) / 7)) H.size (by omega) (by omega) (by omega) (by omega)) ⟨va_cnB 4 hts g_c_X3_writeControl_32N_c_X10_packN_50 rfl rfl rfl hE.n10 (hts (.initialized RX10) (List.mem_of_getElem? (i := 6) rfl)) (by decide +kernel) ⟨Nat.le_of_ble_eq_true rfl, Nat.le_of_ble_eq_true rfl⟩, (hts (.static yX10_pack) (List.mem_of_getElem? (i := 7) rfl)), trivial⟩ ⟨fun a U g mk q => by obtain ⟨q0, q1, qP, qK, qD, qE⟩ := q; exact ⟨q0, q1, qP, va_K.moved (u := U) (U := U.calling g mk a) (Vm.Alike.refl U.vm) qK, qD, ev.same (u := U) (U := U.calling g mk a) rfl qE⟩, fun U hU hW => ⟨rfl, by rw [hU], by rw [hU]; exact hPc, va_K.moved hW.alike hKc, hDc.weaken (fun _ _ _ _ => trivial), hE.warm hW⟩⟩ rfl rfl hl.1 rfl (lv_room (Nat.le_of_ble_eq_true rfl)) dX3_writeControl_41 ⟨Nat.le_of_ble_eq_true rfl, Nat.le_of_ble_eq_true rfl⟩) hS (fun q _ h => hFc q h) hFc (fun r_6 u t H1 locs ht hvm hw hB hz1 hk1 hS => ?_)
  clear hPc hDc hKc
  replace hP := ro_keep hP hk1
  generalize H1 = H at hP hS ⊢
  replace hP : va_P (dC, dI) vwCl [(h0, .inr (4, [.int (nI mi), .int (nI mt), .int (nI mg), .int (nI ms), .int sd, .null])), (h1, .inr (2, [.int (nI fi), .int ff, .int fo, .null]))] H := hP
  have hw := hw.symm
  subst hw
  refine lv_goto (tgt := 58) hx hb dX3_writeControl_44 (by decide) ?_
  refine lv_istore (lv' := [(7, .int (nI (32 % 256 + 256 * (ms % 256) + 65536 * ((((ms) / 256)) % 256) + 16777216 * ((ms + 6) / 7)))), (6, .int 1), (0, .ref h0), (1, .ref h1), (2, .int (nI id)), (3, .int 32), (4, .int (nI se)), (5, .int (nI th))]) hx hb dX3_writeControl_58 hl (by decide) rfl (fun ls hl => ?_)
  refine lv_iload hx hb dX3_writeControl_60 (lv_at hl 1 rfl) ?_
  refine lv_if_eq (tgt := 70) hx hb dX3_writeControl_62 (by decide) (fun c_7 => ?_) (fun c_7 => ?_)
  · exact absurd c_7 (by decide)
  refine lv_iload hx hb dX3_writeControl_65 (lv_at hl 6 rfl) ?_
  refine lv_goto (tgt := 73) hx hb dX3_writeControl_67 (by decide) ?_
  refine lv_istore (lv' := [(8, .int (nI se)), (7, .int (nI (32 % 256 + 256 * (ms % 256) + 65536 * ((((ms) / 256)) % 256) + 16777216 * ((ms + 6) / 7)))), (6, .int 1), (0, .ref h0), (1, .ref h1), (2, .int (nI id)), (3, .int 32), (4, .int (nI se)), (5, .int (nI th))]) hx hb dX3_writeControl_73 hl (by decide) rfl (fun ls hl => ?_)
  refine lv_aload_n hx hb dX3_writeControl_75 rfl (lv_at hl 4 rfl) ?_
  refine lv_iload_n hx hb dX3_writeControl_76 rfl (lv_at hl 5 rfl) ?_
  refine lv_iload hx hb dX3_writeControl_77 (lv_at hl 1 rfl) ?_
  refine lv_iload hx hb dX3_writeControl_79 (lv_at hl 0 rfl) ?_
  refine lv_aload_n hx hb dX3_writeControl_81 rfl (lv_at hl 3 rfl) ?_
  refine va_get (D := (dC, dI)) (ci := 4) (v := .int (nI mg)) (C := RX3) (T := TX3) (N := 6) hx hb hts in_c_X3_writeControl_32N_X3 hown hK hP 0 rfl rfl 2 (by decide) (hts (.fieldLink RX3 22 "ClaimBus$Message" "group" "I") (List.mem_of_getElem? (i := 8) rfl)) (fun _ h9 => h9) rfl dX3_writeControl_82 ?_
  refine lv_bipush (v := 8) hx hb dX3_writeControl_85 (by decide) ?_
  refine lv_ishl hx hb dX3_writeControl_87 ?_
  refine lv_topi (fun x_8 ex_8 => ?_)
  obtain rfl : x_8 = (nI (256 * mg)) := ex_8.trans ((pk_shlN (n := mg) ((8 : Int32) &&& 31) 8 (by decide) (by omega)).trans (show nI (mg * 2 ^ 8) = nI (256 * mg) from congrArg nI (by omega)))
  refine lv_ior hx hb dX3_writeControl_88 ?_
  refine lv_topi (fun x_9 ex_9 => ?_)
  obtain rfl : x_9 = (nI (256 * mg + se)) := ex_9.trans ((q_or' se (256 * mg) 8 (by omega) (by omega) (by omega)).trans (show nI (se + (256 * mg)) = nI (256 * mg + se) from congrArg nI (by omega)))
  refine lv_aload_n hx hb dX3_writeControl_89 rfl (lv_at hl 3 rfl) ?_
  have hPc := hP.sub (ws' := [(h1, .inr (2, [.int (nI fi), .int ff, .int fo, .null]))]) [1] rfl
  have hDc := hD.sub (ws' := [(h1, .inr (2, [.int (nI fi), .int ff, .int fo, .null]))]) [1] (by decide +kernel) rfl
  have hKc := hK.sub (tys' := []) [] rfl
  have hFc := va_free (wc := [(h1, .inr (2, [.int (nI fi), .int ff, .int fo, .null]))]) hD hS hA [1] rfl
  refine va_callv (va_runV (As := [.int (nI id), .int (nI (32 % 256 + 256 * (ms % 256) + 65536 * ((((ms) / 256)) % 256) + 16777216 * ((ms + 6) / 7))), .int (nI (256 * mg + se)), .ref h0]) (rest := []) ⟨hx, hb, hml, hown, hts⟩ (c_X1_write0 l dC dI (h1) (fi) (ff) (fo) (id) ((nI (32 % 256 + 256 * (ms % 256) + 65536 * ((((ms) / 256)) % 256) + 16777216 * ((ms + 6) / 7)))) ((nI (256 * mg + se))) (h0) H.size) (cwV 4 hts g_c_X3_writeControl_32N_c_X1_write0_36 rfl rfl rfl (by decide +kernel) ⟨Nat.le_of_ble_eq_true rfl, Nat.le_of_ble_eq_true rfl⟩) ⟨fun a U g mk q => by obtain ⟨q0, q1, qP, qK, qD, qE⟩ := q; exact ⟨q0, q1, qP, va_K.moved (u := U) (U := U.calling g mk a) (Vm.Alike.refl U.vm) qK, qD, ev.same (u := U) (U := U.calling g mk a) rfl qE⟩, va_recv hKc hPc (ci := 2) (q0 := 0) rfl rfl, fun U hU hW => ⟨rfl, by rw [hU], by rw [hU]; exact hPc, va_K.moved hW.alike hKc, hDc.weaken (fun _ _ _ _ => trivial), hE.warm hW⟩⟩ rfl rfl hl.1 rfl (lv_room (Nat.le_of_ble_eq_true rfl)) dX3_writeControl_90 ⟨Nat.le_of_ble_eq_true rfl, Nat.le_of_ble_eq_true rfl⟩) hS (fun q _ h => hFc q h) hFc (fun u t H1 locs ht hvm hw hB hz1 hk1 hS => ?_)
  clear hPc hDc hKc
  obtain ⟨hP1, hK1, hD1⟩ := hB
  rw [ht] at hP1
  have hK1 := va_K.moved hvm.symm hK1
  obtain ⟨hP, hD⟩ := va_join (wr := [(h0, .inr (4, [.int (nI mi), .int (nI mt), .int (nI mg), .int (nI ms), .int sd, .null]))]) (w1 := [(h1, .inr (2, [.int (nI id), .int (nI (32 % 256 + 256 * (ms % 256) + 65536 * ((((ms) / 256)) % 256) + 16777216 * ((ms + 6) / 7))), .int (nI (256 * mg + se)), .ref h0]))]) hP hD [1] [0] rfl rfl (by decide +kernel) (by decide +kernel) hk1 hFc hP1 hD1
  generalize H1 = H at hP hS ⊢
  replace hP : va_P (dC, dI) vwCl [(h0, .inr (4, [.int (nI mi), .int (nI mt), .int (nI mg), .int (nI ms), .int sd, .null])), (h1, .inr (2, [.int (nI id), .int (nI (32 % 256 + 256 * (ms % 256) + 65536 * ((((ms) / 256)) % 256) + 16777216 * ((ms + 6) / 7))), .int (nI (256 * mg + se)), .ref h0]))] H := hP
  replace hD : va_D A [(h0, .inr (4, [.int (nI mi), .int (nI mt), .int (nI mg), .int (nI ms), .int sd, .null])), (h1, .inr (2, [.int (nI id), .int (nI (32 % 256 + 256 * (ms % 256) + 65536 * ((((ms) / 256)) % 256) + 16777216 * ((ms + 6) / 7))), .int (nI (256 * mg + se)), .ref h0]))] := hD
  clear hw
  rw [show ((nI (32 % 256 + 256 * (ms % 256) + 65536 * ((((ms) / 256)) % 256) + 16777216 * ((ms + 6) / 7))) : Int32) = (nI (32 + 256 * (ms % 256) + 65536 * (ms / 256) + 16777216 * ((ms + 6) / 7))) from congrArg nI (show (32 % 256 + 256 * (ms % 256) + 65536 * ((((ms) / 256)) % 256) + 16777216 * ((ms + 6) / 7)) = (32 + 256 * (ms % 256) + 65536 * (ms / 256) + 16777216 * ((ms + 6) / 7)) from by omega)] at hP hD
  rw [show ((nI (256 * mg + se)) : Int32) = (nI (se + 256 * mg)) from congrArg nI (show (256 * mg + se) = (se + 256 * mg) from by omega)] at hP hD
  have hP9 := hP.sub (ws' := [(h0, .inr (4, [.int (nI mi), .int (nI mt), .int (nI mg), .int (nI ms), .int sd, .null])), (h1, .inr (2, [.int (nI id), .int (nI (32 + 256 * (ms % 256) + 65536 * (ms / 256) + 16777216 * ((ms + 6) / 7))), .int (nI (se + 256 * mg)), .ref h0]))]) [0, 1] rfl
  have hD9 := hD.sub (ws' := [(h0, .inr (4, [.int (nI mi), .int (nI mt), .int (nI mg), .int (nI ms), .int sd, .null])), (h1, .inr (2, [.int (nI id), .int (nI (32 + 256 * (ms % 256) + 65536 * (ms / 256) + 16777216 * ((ms + 6) / 7))), .int (nI (se + 256 * mg)), .ref h0]))]) [0, 1] (by decide +kernel) rfl
  have hK9 := hK.sub (tys' := []) [] rfl
  exact W.vret hx hb hr (fun t ht hW => ⟨⟨(), rfl, trivial, ⟨by rw [ht]; exact hP9, va_K.moved hW.alike hK9, hD9⟩⟩, hS.F ht⟩) hS.2.2 dX3_writeControl_93

noncomputable def tl_c_X3_writeControl_17N : List Cond := wsX30 ++ (v_c_X10_packN ++ (v_c_X1_write0))
noncomputable def v_c_X3_writeControl_17N : List Cond := .code yX3_writeControl cX3_writeControl 9 none :: ([.initialized RX10, .static yX10_pack, .fieldLink RX3 22 "ClaimBus$Message" "group" "I", .initialized RX1, .methodLink RX3 36 yX1_write, .instanceMethod yX1_write, .selects RX1 yX1_write yX1_write] ++ tl_c_X3_writeControl_17N)
theorem it_c_X3_writeControl_17N : ∀ w ∈ tl_c_X3_writeControl_17N, w ∈ v_c_X3_writeControl_17N := fun w h => List.mem_cons_of_mem _ (List.mem_append_right _ h)
theorem in_c_X3_writeControl_17N_X3 : ∀ w ∈ wsX30, w ∈ v_c_X3_writeControl_17N := fun w h => it_c_X3_writeControl_17N w (List.mem_append_left _ h)
theorem ic_c_X3_writeControl_17N_c_X10_packN : ∀ w ∈ v_c_X10_packN, w ∈ v_c_X3_writeControl_17N := fun w h => it_c_X3_writeControl_17N w (List.mem_append_right _ (List.mem_append_left _ h))
theorem ic_c_X3_writeControl_17N_c_X1_write0 : ∀ w ∈ v_c_X1_write0, w ∈ v_c_X3_writeControl_17N := fun w h => it_c_X3_writeControl_17N w (List.mem_append_right _ (List.mem_append_right _ (h)))
theorem gt_c_X3_writeControl_17N : ∀ w ∈ tl_c_X3_writeControl_17N, goodWord w = true := List.forall_mem_append.mpr ⟨gw_wsX30, List.forall_mem_append.mpr ⟨gw_c_X10_packN, gw_c_X1_write0⟩⟩
theorem gw_c_X3_writeControl_17N : ∀ w ∈ v_c_X3_writeControl_17N, goodWord w = true := List.forall_mem_cons.mpr ⟨by decide +kernel, List.forall_mem_append.mpr ⟨List.all_eq_true.mp (by decide +kernel), gt_c_X3_writeControl_17N⟩⟩
theorem g_c_X3_writeControl_17N_c_X10_packN_50 : GoodIn v_c_X3_writeControl_17N v_c_X10_packN := fun w h => ⟨ic_c_X3_writeControl_17N_c_X10_packN w h, good_of_word (gw_c_X10_packN w h)⟩
theorem g_c_X3_writeControl_17N_c_X1_write0_36 : GoodIn v_c_X3_writeControl_17N (wsV RX3 36 RX1 yX1_write v_c_X1_write0) := goodIn_app (goodIn_r [.methodLink RX3 36 yX1_write, .instanceMethod yX1_write, .selects RX1 yX1_write yX1_write, .initialized RX1] [5, 6, 7, 4] (by decide +kernel) (by decide +kernel)) (fun w h => ⟨ic_c_X3_writeControl_17N_c_X1_write0 w h, good_of_word (gw_c_X1_write0 w h)⟩)
set_option maxHeartbeats 4000000 in
set_option maxRecDepth 100000 in
/-- Message.writeControl 17 -/
theorem c_X3_writeControl_17N (l : Launch) (dC : Nat → ClassId) (dI : Nat → Nat → Nat) (h0 : Nat) (mi : Nat) (mt : Nat) (mg : Nat) (ms : Nat) (sd : Int32) (h1 : Nat) (fi : Nat) (ff : Int32) (fo : Int32) (id : Nat) (se : Nat) (th : Nat) (sz : Nat) (hmi : mi < 8) (hmt : mt < 256) (hmg : mg < 262144) (hms : ms < 1786) (h_se : se < 256) (h_th : th < 256) : Met l yX3_writeControl v_c_X3_writeControl_17N ({ frames := 1, cells := 0, slots := 0, locals := 24 }) (va_Pc [.ref h0, .ref h1, .int (nI id), .int 17, .int (nI se), .int (nI th)] (fun U => U.heap.size = sz ∧ va_P (dC, dI) vwCl [(h0, .inr (4, [.int (nI mi), .int (nI mt), .int (nI mg), .int (nI ms), .int sd, .null])), (h1, .inr (2, [.int (nI fi), .int ff, .int fo, .null]))] U.heap ∧ va_K (dC, dI) vwCl [] U ∧ va_D (fun _ => True) [(h0, .inr (4, [.int (nI mi), .int (nI mt), .int (nI mg), .int (nI ms), .int sd, .null])), (h1, .inr (2, [.int (nI fi), .int ff, .int fo, .null]))] ∧ ev U)) (va_Qv (fun _ : Unit => True) (fun (_ : Unit) (t : State) => va_P (dC, dI) vwCl [(h0, .inr (4, [.int (nI mi), .int (nI mt), .int (nI mg), .int (nI ms), .int sd, .null])), (h1, .inr (2, [.int (nI id), .int (nI (17 + 256 * se + 65536 * th + 4278190080)), .int (nI (255 + 256 * mg)), .ref h0]))] t.heap ∧ va_K (dC, dI) vwCl [] t ∧ va_D (va_A [(h0, .inr (4, [.int (nI mi), .int (nI mt), .int (nI mg), .int (nI ms), .int sd, .null])), (h1, .inr (2, [.int (nI fi), .int ff, .int fo, .null]))] sz) [(h0, .inr (4, [.int (nI mi), .int (nI mt), .int (nI mg), .int (nI ms), .int sd, .null])), (h1, .inr (2, [.int (nI id), .int (nI (17 + 256 * se + 65536 * th + 4278190080)), .int (nI (255 + 256 * mg)), .ref h0]))]) (va_A [(h0, .inr (4, [.int (nI mi), .int (nI mt), .int (nI mg), .int (nI ms), .int sd, .null])), (h1, .inr (2, [.int (nI fi), .int ff, .int fo, .null]))] sz)) 0 0 (va_A [(h0, .inr (4, [.int (nI mi), .int (nI mt), .int (nI mg), .int (nI ms), .int sd, .null])), (h1, .inr (2, [.int (nI fi), .int ff, .int fo, .null]))] sz) := by
  refine Met.ofW (cc := cX3_writeControl) (maxL := 9) (ret := none) (by decide) rfl ?_
  intro p e s m args below meth c s₁ B hml hv
  obtain ⟨rfl, hsz, hP, hK, hD0, hE⟩ := hv
  have hx := B.exec
  have hb := B.bytes
  have hr := B.returns
  have hts := atoms_spec (ws := v_c_X3_writeControl_17N) B.pre
  have hown : s.vm.findClass RX3 = some m.cls := findClass_of_methodNamed B.named
  have hlocks := B.notSynchronized
  subst hsz
  have hD := hD0.self (sz := s.heap.size)
  generalize hAe : va_A [(h0, .inr (4, [.int (nI mi), .int (nI mt), .int (nI mg), .int (nI ms), .int sd, .null])), (h1, .inr (2, [.int (nI fi), .int ff, .int fo, .null]))] s.heap.size = A at hD ⊢
  have hA : ∀ q : Nat, s.heap.size ≤ q → A q := fun q h => by rw [← hAe]; exact Or.inr h
  have hS : va_S A s.heap s.heap [] := va_S.rf
  replace hP : va_P (dC, dI) vwCl [(h0, .inr (4, [.int (nI mi), .int (nI mt), .int (nI mg), .int (nI ms), .int sd, .null])), (h1, .inr (2, [.int (nI fi), .int ff, .int fo, .null]))] s.heap := hP
  have hl := lv_entry ([.ref h0, .ref h1, .int (nI id), .int 17, .int (nI se), .int (nI th)]) (n := 9) (Nat.le_of_ble_eq_true rfl)
  rw [lg_entry_eq]
  generalize (lg_sl ([.ref h0, .ref h1, .int (nI id), .int 17, .int (nI se), .int (nI th)]) ++ List.replicate (9 - (lg_sl ([.ref h0, .ref h1, .int (nI id), .int 17, .int (nI se), .int (nI th)])).length) Slot.unset).toArray = ls at hl ⊢
  replace hl : lv_has ls 9 [(0, .ref h0), (1, .ref h1), (2, .int (nI id)), (3, .int 17), (4, .int (nI se)), (5, .int (nI th))] := hl
  obtain ⟨H, hH⟩ : ∃ z : Heap, z = s.heap := ⟨_, rfl⟩
  rw [← hH]
  replace hS : va_S A s.heap H [] := by rw [hH]; exact va_S.rf
  replace hP : va_P (dC, dI) vwCl [(h0, .inr (4, [.int (nI mi), .int (nI mt), .int (nI mg), .int (nI ms), .int sd, .null])), (h1, .inr (2, [.int (nI fi), .int ff, .int fo, .null]))] H := by rw [hH]; exact hP
  clear hH
  refine lv_iload_n hx hb dX3_writeControl_0 rfl (lv_at hl 3 rfl) ?_
  refine lv_bipush (v := 17) hx hb dX3_writeControl_1 (by decide) ?_
  refine lv_icmp_eq (tgt := 17) hx hb dX3_writeControl_3 (by decide) (fun c_1 => ?_) (fun c_1 => ?_)
  rotate_left
  · exact absurd (by decide) c_1
  refine lv_iconst (v := 0) hx hb dX3_writeControl_17 (by decide) ?_
  refine lv_istore (lv' := [(6, .int 0), (0, .ref h0), (1, .ref h1), (2, .int (nI id)), (3, .int 17), (4, .int (nI se)), (5, .int (nI th))]) hx hb dX3_writeControl_18 hl (by decide) rfl (fun ls hl => ?_)
  refine lv_iload hx hb dX3_writeControl_20 (lv_at hl 0 rfl) ?_
  refine lv_if_eq (tgt := 47) hx hb dX3_writeControl_22 (by decide) (fun c_2 => ?_) (fun c_2 => ?_)
  rotate_left
  · exact absurd (by decide) c_2
  refine lv_iload_n hx hb dX3_writeControl_47 rfl (lv_at hl 4 rfl) ?_
  refine lv_iload hx hb dX3_writeControl_48 (lv_at hl 5 rfl) ?_
  refine lv_iload hx hb dX3_writeControl_50 (lv_at hl 6 rfl) ?_
  refine lv_sipush (v := 255) hx hb dX3_writeControl_52 (by decide) ?_
  have hPc := hP.sub (ws' := []) [] rfl
  have hDc := hD.sub (ws' := []) [] (by decide +kernel) rfl
  have hKc := hK.sub (tys' := []) [] rfl
  have hFc := ro_free hS hA
  refine va_calli (va_runSN (As := [.int 17, .int (nI se), .int (nI th), .int 255]) (rest := []) ⟨hx, hb, hml, hown, hts⟩ (c_X10_packN l dC dI (17) (se) (th) (255) H.size (by omega) (by omega) (by omega) (by omega)) ⟨va_cnB 4 hts g_c_X3_writeControl_17N_c_X10_packN_50 rfl rfl rfl hE.n10 (hts (.initialized RX10) (List.mem_of_getElem? (i := 1) rfl)) (by decide +kernel) ⟨Nat.le_of_ble_eq_true rfl, Nat.le_of_ble_eq_true rfl⟩, (hts (.static yX10_pack) (List.mem_of_getElem? (i := 2) rfl)), trivial⟩ ⟨fun a U g mk q => by obtain ⟨q0, q1, qP, qK, qD, qE⟩ := q; exact ⟨q0, q1, qP, va_K.moved (u := U) (U := U.calling g mk a) (Vm.Alike.refl U.vm) qK, qD, ev.same (u := U) (U := U.calling g mk a) rfl qE⟩, fun U hU hW => ⟨rfl, by rw [hU], by rw [hU]; exact hPc, va_K.moved hW.alike hKc, hDc.weaken (fun _ _ _ _ => trivial), hE.warm hW⟩⟩ rfl rfl hl.1 rfl (lv_room (Nat.le_of_ble_eq_true rfl)) dX3_writeControl_55 ⟨Nat.le_of_ble_eq_true rfl, Nat.le_of_ble_eq_true rfl⟩) hS (fun q _ h => hFc q h) hFc (fun r_3 u t H1 locs ht hvm hw hB hz1 hk1 hS => ?_)
  clear hPc hDc hKc
  replace hP := ro_keep hP hk1
  generalize H1 = H at hP hS ⊢
  replace hP : va_P (dC, dI) vwCl [(h0, .inr (4, [.int (nI mi), .int (nI mt), .int (nI mg), .int (nI ms), .int sd, .null])), (h1, .inr (2, [.int (nI fi), .int ff, .int fo, .null]))] H := hP
  have hw := hw.symm
  subst hw
  refine lv_istore (lv' := [(7, .int (nI (17 % 256 + 256 * (se % 256) + 65536 * (th % 256) + 16777216 * 255))), (6, .int 0), (0, .ref h0), (1, .ref h1), (2, .int (nI id)), (3, .int 17), (4, .int (nI se)), (5, .int (nI th))]) hx hb dX3_writeControl_58 hl (by decide) rfl (fun ls hl => ?_)
  refine lv_iload hx hb dX3_writeControl_60 (lv_at hl 1 rfl) ?_
  refine lv_if_eq (tgt := 70) hx hb dX3_writeControl_62 (by decide) (fun c_4 => ?_) (fun c_4 => ?_)
  rotate_left
  · exact absurd (by decide) c_4
  refine lv_sipush (v := 255) hx hb dX3_writeControl_70 (by decide) ?_
  refine lv_istore (lv' := [(8, .int 255), (7, .int (nI (17 % 256 + 256 * (se % 256) + 65536 * (th % 256) + 16777216 * 255))), (6, .int 0), (0, .ref h0), (1, .ref h1), (2, .int (nI id)), (3, .int 17), (4, .int (nI se)), (5, .int (nI th))]) hx hb dX3_writeControl_73 hl (by decide) rfl (fun ls hl => ?_)
  refine lv_aload_n hx hb dX3_writeControl_75 rfl (lv_at hl 4 rfl) ?_
  refine lv_iload_n hx hb dX3_writeControl_76 rfl (lv_at hl 5 rfl) ?_
  refine lv_iload hx hb dX3_writeControl_77 (lv_at hl 1 rfl) ?_
  refine lv_iload hx hb dX3_writeControl_79 (lv_at hl 0 rfl) ?_
  refine lv_aload_n hx hb dX3_writeControl_81 rfl (lv_at hl 3 rfl) ?_
  refine va_get (D := (dC, dI)) (ci := 4) (v := .int (nI mg)) (C := RX3) (T := TX3) (N := 6) hx hb hts in_c_X3_writeControl_17N_X3 hown hK hP 0 rfl rfl 2 (by decide) (hts (.fieldLink RX3 22 "ClaimBus$Message" "group" "I") (List.mem_of_getElem? (i := 3) rfl)) (fun _ h9 => h9) rfl dX3_writeControl_82 ?_
  refine lv_bipush (v := 8) hx hb dX3_writeControl_85 (by decide) ?_
  refine lv_ishl hx hb dX3_writeControl_87 ?_
  refine lv_topi (fun x_5 ex_5 => ?_)
  obtain rfl : x_5 = (nI (256 * mg)) := ex_5.trans ((pk_shlN (n := mg) ((8 : Int32) &&& 31) 8 (by decide) (by omega)).trans (show nI (mg * 2 ^ 8) = nI (256 * mg) from congrArg nI (by omega)))
  refine lv_ior hx hb dX3_writeControl_88 ?_
  refine lv_topi (fun x_6 ex_6 => ?_)
  obtain rfl : x_6 = (nI (256 * mg + 255)) := ex_6.trans ((q_or' 255 (256 * mg) 8 (by omega) (by omega) (by omega)).trans (show nI (255 + (256 * mg)) = nI (256 * mg + 255) from congrArg nI (by omega)))
  refine lv_aload_n hx hb dX3_writeControl_89 rfl (lv_at hl 3 rfl) ?_
  have hPc := hP.sub (ws' := [(h1, .inr (2, [.int (nI fi), .int ff, .int fo, .null]))]) [1] rfl
  have hDc := hD.sub (ws' := [(h1, .inr (2, [.int (nI fi), .int ff, .int fo, .null]))]) [1] (by decide +kernel) rfl
  have hKc := hK.sub (tys' := []) [] rfl
  have hFc := va_free (wc := [(h1, .inr (2, [.int (nI fi), .int ff, .int fo, .null]))]) hD hS hA [1] rfl
  refine va_callv (va_runV (As := [.int (nI id), .int (nI (17 % 256 + 256 * (se % 256) + 65536 * (th % 256) + 16777216 * 255)), .int (nI (256 * mg + 255)), .ref h0]) (rest := []) ⟨hx, hb, hml, hown, hts⟩ (c_X1_write0 l dC dI (h1) (fi) (ff) (fo) (id) ((nI (17 % 256 + 256 * (se % 256) + 65536 * (th % 256) + 16777216 * 255))) ((nI (256 * mg + 255))) (h0) H.size) (cwV 4 hts g_c_X3_writeControl_17N_c_X1_write0_36 rfl rfl rfl (by decide +kernel) ⟨Nat.le_of_ble_eq_true rfl, Nat.le_of_ble_eq_true rfl⟩) ⟨fun a U g mk q => by obtain ⟨q0, q1, qP, qK, qD, qE⟩ := q; exact ⟨q0, q1, qP, va_K.moved (u := U) (U := U.calling g mk a) (Vm.Alike.refl U.vm) qK, qD, ev.same (u := U) (U := U.calling g mk a) rfl qE⟩, va_recv hKc hPc (ci := 2) (q0 := 0) rfl rfl, fun U hU hW => ⟨rfl, by rw [hU], by rw [hU]; exact hPc, va_K.moved hW.alike hKc, hDc.weaken (fun _ _ _ _ => trivial), hE.warm hW⟩⟩ rfl rfl hl.1 rfl (lv_room (Nat.le_of_ble_eq_true rfl)) dX3_writeControl_90 ⟨Nat.le_of_ble_eq_true rfl, Nat.le_of_ble_eq_true rfl⟩) hS (fun q _ h => hFc q h) hFc (fun u t H1 locs ht hvm hw hB hz1 hk1 hS => ?_)
  clear hPc hDc hKc
  obtain ⟨hP1, hK1, hD1⟩ := hB
  rw [ht] at hP1
  have hK1 := va_K.moved hvm.symm hK1
  obtain ⟨hP, hD⟩ := va_join (wr := [(h0, .inr (4, [.int (nI mi), .int (nI mt), .int (nI mg), .int (nI ms), .int sd, .null]))]) (w1 := [(h1, .inr (2, [.int (nI id), .int (nI (17 % 256 + 256 * (se % 256) + 65536 * (th % 256) + 16777216 * 255)), .int (nI (256 * mg + 255)), .ref h0]))]) hP hD [1] [0] rfl rfl (by decide +kernel) (by decide +kernel) hk1 hFc hP1 hD1
  generalize H1 = H at hP hS ⊢
  replace hP : va_P (dC, dI) vwCl [(h0, .inr (4, [.int (nI mi), .int (nI mt), .int (nI mg), .int (nI ms), .int sd, .null])), (h1, .inr (2, [.int (nI id), .int (nI (17 % 256 + 256 * (se % 256) + 65536 * (th % 256) + 16777216 * 255)), .int (nI (256 * mg + 255)), .ref h0]))] H := hP
  replace hD : va_D A [(h0, .inr (4, [.int (nI mi), .int (nI mt), .int (nI mg), .int (nI ms), .int sd, .null])), (h1, .inr (2, [.int (nI id), .int (nI (17 % 256 + 256 * (se % 256) + 65536 * (th % 256) + 16777216 * 255)), .int (nI (256 * mg + 255)), .ref h0]))] := hD
  clear hw
  rw [show ((nI (17 % 256 + 256 * (se % 256) + 65536 * (th % 256) + 16777216 * 255)) : Int32) = (nI (17 + 256 * se + 65536 * th + 4278190080)) from congrArg nI (show (17 % 256 + 256 * (se % 256) + 65536 * (th % 256) + 16777216 * 255) = (17 + 256 * se + 65536 * th + 4278190080) from by omega)] at hP hD
  rw [show ((nI (256 * mg + 255)) : Int32) = (nI (255 + 256 * mg)) from congrArg nI (show (256 * mg + 255) = (255 + 256 * mg) from by omega)] at hP hD
  have hP9 := hP.sub (ws' := [(h0, .inr (4, [.int (nI mi), .int (nI mt), .int (nI mg), .int (nI ms), .int sd, .null])), (h1, .inr (2, [.int (nI id), .int (nI (17 + 256 * se + 65536 * th + 4278190080)), .int (nI (255 + 256 * mg)), .ref h0]))]) [0, 1] rfl
  have hD9 := hD.sub (ws' := [(h0, .inr (4, [.int (nI mi), .int (nI mt), .int (nI mg), .int (nI ms), .int sd, .null])), (h1, .inr (2, [.int (nI id), .int (nI (17 + 256 * se + 65536 * th + 4278190080)), .int (nI (255 + 256 * mg)), .ref h0]))]) [0, 1] (by decide +kernel) rfl
  have hK9 := hK.sub (tys' := []) [] rfl
  exact W.vret hx hb hr (fun t ht hW => ⟨⟨(), rfl, trivial, ⟨by rw [ht]; exact hP9, va_K.moved hW.alike hK9, hD9⟩⟩, hS.F ht⟩) hS.2.2 dX3_writeControl_93
