theorem df_Jx4a65c : ∀ j, j < 3 → defaultValue (tyJx4a65c j) = vp_V [.int 0, .null, .int 0] j := fun j hj => by
  match j, hj with
  | 0, _ => rfl
  | 1, _ => rfl
  | 2, _ => rfl
  | n + 3, h => exact absurd h (by omega)

theorem df_X0 : ∀ j, j < 2 → defaultValue (tyX0 j) = vp_V [.null, .null] j := fun j hj => by
  match j, hj with
  | 0, _ => rfl
  | 1, _ => rfl
  | n + 2, h => exact absurd h (by omega)

theorem df_X1 : ∀ j, j < 4 → defaultValue (tyX1 j) = vp_V [.int 0, .int 0, .int 0, .null] j := fun j hj => by
  match j, hj with
  | 0, _ => rfl
  | 1, _ => rfl
  | 2, _ => rfl
  | 3, _ => rfl
  | n + 4, h => exact absurd h (by omega)

theorem df_X2 : ∀ j, j < 4 → defaultValue (tyX2 j) = vp_V [.int 0, .int 0, .null, .null] j := fun j hj => by
  match j, hj with
  | 0, _ => rfl
  | 1, _ => rfl
  | 2, _ => rfl
  | 3, _ => rfl
  | n + 4, h => exact absurd h (by omega)

theorem df_X3 : ∀ j, j < 6 → defaultValue (tyX3 j) = vp_V [.int 0, .int 0, .int 0, .int 0, .int 0, .null] j := fun j hj => by
  match j, hj with
  | 0, _ => rfl
  | 1, _ => rfl
  | 2, _ => rfl
  | 3, _ => rfl
  | 4, _ => rfl
  | 5, _ => rfl
  | n + 6, h => exact absurd h (by omega)

theorem df_X4 : ∀ j, j < 18 → defaultValue (tyX4 j) = vp_V [.int 0, .int 0, .int 0, .int 0, .int 0, .null, .null, .null, .null, .null, .null, .null, .int 0, .int 0, .int 0, .int 0, .int 0, .int 0] j := fun j hj => by
  match j, hj with
  | 0, _ => rfl
  | 1, _ => rfl
  | 2, _ => rfl
  | 3, _ => rfl
  | 4, _ => rfl
  | 5, _ => rfl
  | 6, _ => rfl
  | 7, _ => rfl
  | 8, _ => rfl
  | 9, _ => rfl
  | 10, _ => rfl
  | 11, _ => rfl
  | 12, _ => rfl
  | 13, _ => rfl
  | 14, _ => rfl
  | 15, _ => rfl
  | 16, _ => rfl
  | 17, _ => rfl
  | n + 18, h => exact absurd h (by omega)

theorem df_X5 : ∀ j, j < 12 → defaultValue (tyX5 j) = vp_V [.int 0, .int 0, .null, .null, .null, .int 0, .int 0, .int 0, .int 0, .int 0, .null, .int 0] j := fun j hj => by
  match j, hj with
  | 0, _ => rfl
  | 1, _ => rfl
  | 2, _ => rfl
  | 3, _ => rfl
  | 4, _ => rfl
  | 5, _ => rfl
  | 6, _ => rfl
  | 7, _ => rfl
  | 8, _ => rfl
  | 9, _ => rfl
  | 10, _ => rfl
  | 11, _ => rfl
  | n + 12, h => exact absurd h (by omega)

theorem df_X6 : ∀ j, j < 4 → defaultValue (tyX6 j) = vp_V [.int 0, .int 0, .int 0, .null] j := fun j hj => by
  match j, hj with
  | 0, _ => rfl
  | 1, _ => rfl
  | 2, _ => rfl
  | 3, _ => rfl
  | n + 4, h => exact absurd h (by omega)

theorem df_X7 : ∀ j, j < 2 → defaultValue (tyX7 j) = vp_V [.null, .null] j := fun j hj => by
  match j, hj with
  | 0, _ => rfl
  | 1, _ => rfl
  | n + 2, h => exact absurd h (by omega)

theorem df_X8 : ∀ j, j < 1 → defaultValue (tyX8 j) = vp_V [.null] j := fun j hj => by
  match j, hj with
  | 0, _ => rfl
  | n + 1, h => exact absurd h (by omega)

theorem df_X9 : ∀ j, j < 14 → defaultValue (tyX9 j) = vp_V [.int 0, .int 0, .int 0, .int 0, .int 0, .int 0, .int 0, .int 0, .int 0, .int 0, .int 0, .int 0, .null, .null] j := fun j hj => by
  match j, hj with
  | 0, _ => rfl
  | 1, _ => rfl
  | 2, _ => rfl
  | 3, _ => rfl
  | 4, _ => rfl
  | 5, _ => rfl
  | 6, _ => rfl
  | 7, _ => rfl
  | 8, _ => rfl
  | 9, _ => rfl
  | 10, _ => rfl
  | 11, _ => rfl
  | 12, _ => rfl
  | 13, _ => rfl
  | n + 14, h => exact absurd h (by omega)

theorem df_X10 : ∀ j, j < 8 → defaultValue (tyX10 j) = vp_V [.null, .null, .null, .int 0, .int 0, .int 0, .int 0, .int 0] j := fun j hj => by
  match j, hj with
  | 0, _ => rfl
  | 1, _ => rfl
  | 2, _ => rfl
  | 3, _ => rfl
  | 4, _ => rfl
  | 5, _ => rfl
  | 6, _ => rfl
  | 7, _ => rfl
  | n + 8, h => exact absurd h (by omega)

noncomputable def tl_c_X1_write : List Cond := wsX10
noncomputable def v_c_X1_write : List Cond := .code yX1_write cX1_write 5 none :: ([.fieldLink RX1 9 "ClaimBus$Frame" "identifier" "I", .fieldLink RX1 15 "ClaimBus$Frame" "first" "I", .fieldLink RX1 18 "ClaimBus$Frame" "others" "I", .fieldLink RX1 21 "ClaimBus$Frame" "whole" "LClaimBus$Message;"] ++ tl_c_X1_write)
theorem it_c_X1_write : ∀ w ∈ tl_c_X1_write, w ∈ v_c_X1_write := fun w h => List.mem_cons_of_mem _ (List.mem_append_right _ h)
theorem in_c_X1_write_X1 : ∀ w ∈ wsX10, w ∈ v_c_X1_write := fun w h => it_c_X1_write w (h)
theorem gt_c_X1_write : ∀ w ∈ tl_c_X1_write, goodWord w = true := gw_wsX10
theorem gw_c_X1_write : ∀ w ∈ v_c_X1_write, goodWord w = true := List.forall_mem_cons.mpr ⟨by decide +kernel, List.forall_mem_append.mpr ⟨List.all_eq_true.mp (by decide +kernel), gt_c_X1_write⟩⟩
set_option maxHeartbeats 4000000 in
set_option maxRecDepth 100000 in
/-- Frame.write -/
theorem c_X1_write (l : Launch) (dC : Nat → ClassId) (dI : Nat → Nat → Nat) (h0 : Nat) (fi : Nat) (ff : Int32) (fo : Int32) (fw : Nat) (p0 : Nat) (p1 : Int32) (p2 : Int32) (q3 : Nat) (sz : Nat)  : Met l yX1_write v_c_X1_write ({ frames := 0, cells := 0, slots := 0, locals := 0 }) (va_Pc [.ref h0, .int (nI p0), .int p1, .int p2, .ref q3] (fun U => U.heap.size = sz ∧ va_P (dC, dI) vwCl [(h0, .inr (2, [.int (nI fi), .int ff, .int fo, .ref fw]))] U.heap ∧ va_K (dC, dI) vwCl [] U ∧ va_D (fun _ => True) [(h0, .inr (2, [.int (nI fi), .int ff, .int fo, .ref fw]))] ∧ ev U)) (va_Qv (fun _ : Unit => True) (fun (_ : Unit) (t : State) => va_P (dC, dI) vwCl [(h0, .inr (2, [.int (nI p0), .int p1, .int p2, .ref q3]))] t.heap ∧ va_K (dC, dI) vwCl [] t ∧ va_D (va_A [(h0, .inr (2, [.int (nI fi), .int ff, .int fo, .ref fw]))] sz) [(h0, .inr (2, [.int (nI p0), .int p1, .int p2, .ref q3]))]) (va_A [(h0, .inr (2, [.int (nI fi), .int ff, .int fo, .ref fw]))] sz)) 0 0 (va_A [(h0, .inr (2, [.int (nI fi), .int ff, .int fo, .ref fw]))] sz) := by
  refine Met.ofW (cc := cX1_write) (maxL := 5) (ret := none) (by decide) rfl ?_
  intro p e s m args below meth c s₁ B hml hv
  obtain ⟨rfl, hsz, hP, hK, hD0, hE⟩ := hv
  have hx := B.exec
  have hb := B.bytes
  have hr := B.returns
  have hts := atoms_spec (ws := v_c_X1_write) B.pre
  have hown : s.vm.findClass RX1 = some m.cls := findClass_of_methodNamed B.named
  have hlocks := B.notSynchronized
  subst hsz
  have hD := hD0.self (sz := s.heap.size)
  generalize hAe : va_A [(h0, .inr (2, [.int (nI fi), .int ff, .int fo, .ref fw]))] s.heap.size = A at hD ⊢
  have hA : ∀ q : Nat, s.heap.size ≤ q → A q := fun q h => by rw [← hAe]; exact Or.inr h
  have hS : va_S A s.heap s.heap [] := va_S.rf
  replace hP : va_P (dC, dI) vwCl [(h0, .inr (2, [.int (nI fi), .int ff, .int fo, .ref fw]))] s.heap := hP
  have hl := lv_entry ([.ref h0, .int (nI p0), .int p1, .int p2, .ref q3]) (n := 5) (Nat.le_of_ble_eq_true rfl)
  rw [lg_entry_eq]
  generalize (lg_sl ([.ref h0, .int (nI p0), .int p1, .int p2, .ref q3]) ++ List.replicate (5 - (lg_sl ([.ref h0, .int (nI p0), .int p1, .int p2, .ref q3])).length) Slot.unset).toArray = ls at hl ⊢
  replace hl : lv_has ls 5 [(0, .ref h0), (1, .int (nI p0)), (2, .int p1), (3, .int p2), (4, .ref q3)] := hl
  obtain ⟨H, hH⟩ : ∃ z : Heap, z = s.heap := ⟨_, rfl⟩
  rw [← hH]
  replace hS : va_S A s.heap H [] := by rw [hH]; exact va_S.rf
  replace hP : va_P (dC, dI) vwCl [(h0, .inr (2, [.int (nI fi), .int ff, .int fo, .ref fw]))] H := by rw [hH]; exact hP
  clear hH
  refine lv_aload_n hx hb dX1_write_0 rfl (lv_at hl 0 rfl) ?_
  refine lv_iload_n hx hb dX1_write_1 rfl (lv_at hl 1 rfl) ?_
  refine va_put (D := (dC, dI)) (ci := 2) (v := .int (nI p0)) (ty := .int) (C := RX1) (T := TX1) (N := 4) hx hb hts in_c_X1_write_X1 tyX1 tyX1_ok nmX1 hown hK hP hD hS 0 rfl rfl 0 (by decide) (hts (.fieldLink RX1 9 "ClaimBus$Frame" "identifier" "I") (List.mem_of_getElem? (i := 1) rfl)) (fun _ h9 => h9) rfl (by decide +kernel) rfl rfl (Nat.le_of_ble_eq_true rfl) dX1_write_2 (fun H locs hP hD hS => ?_)
  replace hP : va_P (dC, dI) vwCl [(h0, .inr (2, [.int (nI p0), .int ff, .int fo, .ref fw]))] H := hP
  replace hD : va_D A [(h0, .inr (2, [.int (nI p0), .int ff, .int fo, .ref fw]))] := hD
  refine lv_aload_n hx hb dX1_write_5 rfl (lv_at hl 0 rfl) ?_
  refine lv_iload_n hx hb dX1_write_6 rfl (lv_at hl 2 rfl) ?_
  refine va_put (D := (dC, dI)) (ci := 2) (v := .int p1) (ty := .int) (C := RX1) (T := TX1) (N := 4) hx hb hts in_c_X1_write_X1 tyX1 tyX1_ok nmX1 hown hK hP hD hS 0 rfl rfl 1 (by decide) (hts (.fieldLink RX1 15 "ClaimBus$Frame" "first" "I") (List.mem_of_getElem? (i := 2) rfl)) (fun _ h9 => h9) rfl (by decide +kernel) rfl rfl (Nat.le_of_ble_eq_true rfl) dX1_write_7 (fun H locs hP hD hS => ?_)
  replace hP : va_P (dC, dI) vwCl [(h0, .inr (2, [.int (nI p0), .int p1, .int fo, .ref fw]))] H := hP
  replace hD : va_D A [(h0, .inr (2, [.int (nI p0), .int p1, .int fo, .ref fw]))] := hD
  refine lv_aload_n hx hb dX1_write_10 rfl (lv_at hl 0 rfl) ?_
  refine lv_iload_n hx hb dX1_write_11 rfl (lv_at hl 3 rfl) ?_
  refine va_put (D := (dC, dI)) (ci := 2) (v := .int p2) (ty := .int) (C := RX1) (T := TX1) (N := 4) hx hb hts in_c_X1_write_X1 tyX1 tyX1_ok nmX1 hown hK hP hD hS 0 rfl rfl 2 (by decide) (hts (.fieldLink RX1 18 "ClaimBus$Frame" "others" "I") (List.mem_of_getElem? (i := 3) rfl)) (fun _ h9 => h9) rfl (by decide +kernel) rfl rfl (Nat.le_of_ble_eq_true rfl) dX1_write_12 (fun H locs hP hD hS => ?_)
  replace hP : va_P (dC, dI) vwCl [(h0, .inr (2, [.int (nI p0), .int p1, .int p2, .ref fw]))] H := hP
  replace hD : va_D A [(h0, .inr (2, [.int (nI p0), .int p1, .int p2, .ref fw]))] := hD
  refine lv_aload_n hx hb dX1_write_15 rfl (lv_at hl 0 rfl) ?_
  refine lv_aload hx hb dX1_write_16 (lv_at hl 4 rfl) ?_
  refine va_put (D := (dC, dI)) (ci := 2) (v := .ref q3) (ty := (.object "ClaimBus$Message")) (C := RX1) (T := TX1) (N := 4) hx hb hts in_c_X1_write_X1 tyX1 tyX1_ok nmX1 hown hK hP hD hS 0 rfl rfl 3 (by decide) (hts (.fieldLink RX1 21 "ClaimBus$Frame" "whole" "LClaimBus$Message;") (List.mem_of_getElem? (i := 4) rfl)) (fun _ h9 => h9) rfl (by decide +kernel) rfl rfl (Nat.le_of_ble_eq_true rfl) dX1_write_18 (fun H locs hP hD hS => ?_)
  replace hP : va_P (dC, dI) vwCl [(h0, .inr (2, [.int (nI p0), .int p1, .int p2, .ref q3]))] H := hP
  replace hD : va_D A [(h0, .inr (2, [.int (nI p0), .int p1, .int p2, .ref q3]))] := hD
  have hP9 := hP.sub (ws' := [(h0, .inr (2, [.int (nI p0), .int p1, .int p2, .ref q3]))]) [0] rfl
  have hD9 := hD.sub (ws' := [(h0, .inr (2, [.int (nI p0), .int p1, .int p2, .ref q3]))]) [0] (by decide +kernel) rfl
  have hK9 := hK.sub (tys' := []) [] rfl
  exact W.vret hx hb hr (fun t ht hW => ⟨⟨(), rfl, trivial, ⟨by rw [ht]; exact hP9, va_K.moved hW.alike hK9, hD9⟩⟩, hS.F ht⟩) hS.2.2 dX1_write_21

noncomputable def tl_c_X1_takeOver : List Cond := wsX10 ++ (v_c_X1_write)
noncomputable def v_c_X1_takeOver : List Cond := .code yX1_takeOver cX1_takeOver 2 none :: ([.fieldLink RX1 9 "ClaimBus$Frame" "identifier" "I", .fieldLink RX1 15 "ClaimBus$Frame" "first" "I", .fieldLink RX1 18 "ClaimBus$Frame" "others" "I", .fieldLink RX1 21 "ClaimBus$Frame" "whole" "LClaimBus$Message;", .initialized RX1, .methodLink RX1 25 yX1_write, .instanceMethod yX1_write, .selects RX1 yX1_write yX1_write] ++ tl_c_X1_takeOver)
theorem it_c_X1_takeOver : ∀ w ∈ tl_c_X1_takeOver, w ∈ v_c_X1_takeOver := fun w h => List.mem_cons_of_mem _ (List.mem_append_right _ h)
theorem in_c_X1_takeOver_X1 : ∀ w ∈ wsX10, w ∈ v_c_X1_takeOver := fun w h => it_c_X1_takeOver w (List.mem_append_left _ h)
theorem ic_c_X1_takeOver_c_X1_write : ∀ w ∈ v_c_X1_write, w ∈ v_c_X1_takeOver := fun w h => it_c_X1_takeOver w (List.mem_append_right _ (h))
theorem gt_c_X1_takeOver : ∀ w ∈ tl_c_X1_takeOver, goodWord w = true := List.forall_mem_append.mpr ⟨gw_wsX10, gw_c_X1_write⟩
theorem gw_c_X1_takeOver : ∀ w ∈ v_c_X1_takeOver, goodWord w = true := List.forall_mem_cons.mpr ⟨by decide +kernel, List.forall_mem_append.mpr ⟨List.all_eq_true.mp (by decide +kernel), gt_c_X1_takeOver⟩⟩
theorem g_c_X1_takeOver_c_X1_write_25 : GoodIn v_c_X1_takeOver (wsV RX1 25 RX1 yX1_write v_c_X1_write) := goodIn_app (goodIn_r [.methodLink RX1 25 yX1_write, .instanceMethod yX1_write, .selects RX1 yX1_write yX1_write, .initialized RX1] [6, 7, 8, 5] (by decide +kernel) (by decide +kernel)) (fun w h => ⟨ic_c_X1_takeOver_c_X1_write w h, good_of_word (gw_c_X1_write w h)⟩)
set_option maxHeartbeats 4000000 in
set_option maxRecDepth 100000 in
/-- Frame.takeOver -/
theorem c_X1_takeOver (l : Launch) (dC : Nat → ClassId) (dI : Nat → Nat → Nat) (h0 : Nat) (fi : Nat) (ff : Int32) (fo : Int32) (fw : Nat) (h1 : Nat) (gi : Nat) (gf : Int32) (go : Int32) (q3 : Nat) (sz : Nat)  : Met l yX1_takeOver v_c_X1_takeOver ({ frames := 1, cells := 0, slots := 0, locals := 24 }) (va_Pc [.ref h0, .ref h1] (fun U => U.heap.size = sz ∧ va_P (dC, dI) vwCl [(h0, .inr (2, [.int (nI fi), .int ff, .int fo, .ref fw])), (h1, .inr (2, [.int (nI gi), .int gf, .int go, .ref q3]))] U.heap ∧ va_K (dC, dI) vwCl [] U ∧ va_D (fun _ => True) [(h0, .inr (2, [.int (nI fi), .int ff, .int fo, .ref fw])), (h1, .inr (2, [.int (nI gi), .int gf, .int go, .ref q3]))] ∧ ev U)) (va_Qv (fun _ : Unit => True) (fun (_ : Unit) (t : State) => va_P (dC, dI) vwCl [(h0, .inr (2, [.int (nI gi), .int gf, .int go, .ref q3])), (h1, .inr (2, [.int (nI gi), .int gf, .int go, .ref q3]))] t.heap ∧ va_K (dC, dI) vwCl [] t ∧ va_D (va_A [(h0, .inr (2, [.int (nI fi), .int ff, .int fo, .ref fw])), (h1, .inr (2, [.int (nI gi), .int gf, .int go, .ref q3]))] sz) [(h0, .inr (2, [.int (nI gi), .int gf, .int go, .ref q3])), (h1, .inr (2, [.int (nI gi), .int gf, .int go, .ref q3]))]) (va_A [(h0, .inr (2, [.int (nI fi), .int ff, .int fo, .ref fw])), (h1, .inr (2, [.int (nI gi), .int gf, .int go, .ref q3]))] sz)) 0 0 (va_A [(h0, .inr (2, [.int (nI fi), .int ff, .int fo, .ref fw])), (h1, .inr (2, [.int (nI gi), .int gf, .int go, .ref q3]))] sz) := by
  refine Met.ofW (cc := cX1_takeOver) (maxL := 2) (ret := none) (by decide) rfl ?_
  intro p e s m args below meth c s₁ B hml hv
  obtain ⟨rfl, hsz, hP, hK, hD0, hE⟩ := hv
  have hx := B.exec
  have hb := B.bytes
  have hr := B.returns
  have hts := atoms_spec (ws := v_c_X1_takeOver) B.pre
  have hown : s.vm.findClass RX1 = some m.cls := findClass_of_methodNamed B.named
  have hlocks := B.notSynchronized
  subst hsz
  have hD := hD0.self (sz := s.heap.size)
  generalize hAe : va_A [(h0, .inr (2, [.int (nI fi), .int ff, .int fo, .ref fw])), (h1, .inr (2, [.int (nI gi), .int gf, .int go, .ref q3]))] s.heap.size = A at hD ⊢
  have hA : ∀ q : Nat, s.heap.size ≤ q → A q := fun q h => by rw [← hAe]; exact Or.inr h
  have hS : va_S A s.heap s.heap [] := va_S.rf
  replace hP : va_P (dC, dI) vwCl [(h0, .inr (2, [.int (nI fi), .int ff, .int fo, .ref fw])), (h1, .inr (2, [.int (nI gi), .int gf, .int go, .ref q3]))] s.heap := hP
  have hl := lv_entry ([.ref h0, .ref h1]) (n := 2) (Nat.le_of_ble_eq_true rfl)
  rw [lg_entry_eq]
  generalize (lg_sl ([.ref h0, .ref h1]) ++ List.replicate (2 - (lg_sl ([.ref h0, .ref h1])).length) Slot.unset).toArray = ls at hl ⊢
  replace hl : lv_has ls 2 [(0, .ref h0), (1, .ref h1)] := hl
  obtain ⟨H, hH⟩ : ∃ z : Heap, z = s.heap := ⟨_, rfl⟩
  rw [← hH]
  replace hS : va_S A s.heap H [] := by rw [hH]; exact va_S.rf
  replace hP : va_P (dC, dI) vwCl [(h0, .inr (2, [.int (nI fi), .int ff, .int fo, .ref fw])), (h1, .inr (2, [.int (nI gi), .int gf, .int go, .ref q3]))] H := by rw [hH]; exact hP
  clear hH
  refine lv_aload_n hx hb dX1_takeOver_0 rfl (lv_at hl 0 rfl) ?_
  refine lv_aload_n hx hb dX1_takeOver_1 rfl (lv_at hl 1 rfl) ?_
  refine va_get (D := (dC, dI)) (ci := 2) (v := .int (nI gi)) (C := RX1) (T := TX1) (N := 4) hx hb hts in_c_X1_takeOver_X1 hown hK hP 1 rfl rfl 0 (by decide) (hts (.fieldLink RX1 9 "ClaimBus$Frame" "identifier" "I") (List.mem_of_getElem? (i := 1) rfl)) (fun _ h9 => h9) rfl dX1_takeOver_2 ?_
  refine lv_aload_n hx hb dX1_takeOver_5 rfl (lv_at hl 1 rfl) ?_
  refine va_get (D := (dC, dI)) (ci := 2) (v := .int gf) (C := RX1) (T := TX1) (N := 4) hx hb hts in_c_X1_takeOver_X1 hown hK hP 1 rfl rfl 1 (by decide) (hts (.fieldLink RX1 15 "ClaimBus$Frame" "first" "I") (List.mem_of_getElem? (i := 2) rfl)) (fun _ h9 => h9) rfl dX1_takeOver_6 ?_
  refine lv_aload_n hx hb dX1_takeOver_9 rfl (lv_at hl 1 rfl) ?_
  refine va_get (D := (dC, dI)) (ci := 2) (v := .int go) (C := RX1) (T := TX1) (N := 4) hx hb hts in_c_X1_takeOver_X1 hown hK hP 1 rfl rfl 2 (by decide) (hts (.fieldLink RX1 18 "ClaimBus$Frame" "others" "I") (List.mem_of_getElem? (i := 3) rfl)) (fun _ h9 => h9) rfl dX1_takeOver_10 ?_
  refine lv_aload_n hx hb dX1_takeOver_13 rfl (lv_at hl 1 rfl) ?_
  refine va_get (D := (dC, dI)) (ci := 2) (v := .ref q3) (C := RX1) (T := TX1) (N := 4) hx hb hts in_c_X1_takeOver_X1 hown hK hP 1 rfl rfl 3 (by decide) (hts (.fieldLink RX1 21 "ClaimBus$Frame" "whole" "LClaimBus$Message;") (List.mem_of_getElem? (i := 4) rfl)) (fun _ h9 => h9) rfl dX1_takeOver_14 ?_
  have hPc := hP.sub (ws' := [(h0, .inr (2, [.int (nI fi), .int ff, .int fo, .ref fw]))]) [0] rfl
  have hDc := hD.sub (ws' := [(h0, .inr (2, [.int (nI fi), .int ff, .int fo, .ref fw]))]) [0] (by decide +kernel) rfl
  have hKc := hK.sub (tys' := []) [] rfl
  have hFc := va_free (wc := [(h0, .inr (2, [.int (nI fi), .int ff, .int fo, .ref fw]))]) hD hS hA [0] rfl
  refine va_callv (va_runV (As := [.int (nI gi), .int gf, .int go, .ref q3]) (rest := []) ⟨hx, hb, hml, hown, hts⟩ (c_X1_write l dC dI (h0) (fi) (ff) (fo) (fw) (gi) (gf) (go) (q3) H.size) (cwV 4 hts g_c_X1_takeOver_c_X1_write_25 rfl rfl rfl (by decide +kernel) ⟨Nat.le_of_ble_eq_true rfl, Nat.le_of_ble_eq_true rfl⟩) ⟨fun a U g mk q => by obtain ⟨q0, q1, qP, qK, qD, qE⟩ := q; exact ⟨q0, q1, qP, va_K.moved (u := U) (U := U.calling g mk a) (Vm.Alike.refl U.vm) qK, qD, ev.same (u := U) (U := U.calling g mk a) rfl qE⟩, va_recv hKc hPc (ci := 2) (q0 := 0) rfl rfl, fun U hU hW => ⟨rfl, by rw [hU], by rw [hU]; exact hPc, va_K.moved hW.alike hKc, hDc.weaken (fun _ _ _ _ => trivial), hE.warm hW⟩⟩ rfl rfl hl.1 rfl (lv_room (Nat.le_of_ble_eq_true rfl)) dX1_takeOver_17 ⟨Nat.le_of_ble_eq_true rfl, Nat.le_of_ble_eq_true rfl⟩) hS (fun q _ h => hFc q h) hFc (fun u t H1 locs ht hvm hw hB hz1 hk1 hS => ?_)
  clear hPc hDc hKc
  obtain ⟨hP1, hK1, hD1⟩ := hB
  rw [ht] at hP1
  have hK1 := va_K.moved hvm.symm hK1
  obtain ⟨hP, hD⟩ := va_join (wr := [(h1, .inr (2, [.int (nI gi), .int gf, .int go, .ref q3]))]) (w1 := [(h0, .inr (2, [.int (nI gi), .int gf, .int go, .ref q3]))]) hP hD [0] [1] rfl rfl (by decide +kernel) (by decide +kernel) hk1 hFc hP1 hD1
  generalize H1 = H at hP hS ⊢
  replace hP : va_P (dC, dI) vwCl [(h1, .inr (2, [.int (nI gi), .int gf, .int go, .ref q3])), (h0, .inr (2, [.int (nI gi), .int gf, .int go, .ref q3]))] H := hP
  replace hD : va_D A [(h1, .inr (2, [.int (nI gi), .int gf, .int go, .ref q3])), (h0, .inr (2, [.int (nI gi), .int gf, .int go, .ref q3]))] := hD
  clear hw
  have hP9 := hP.sub (ws' := [(h0, .inr (2, [.int (nI gi), .int gf, .int go, .ref q3])), (h1, .inr (2, [.int (nI gi), .int gf, .int go, .ref q3]))]) [1, 0] rfl
  have hD9 := hD.sub (ws' := [(h0, .inr (2, [.int (nI gi), .int gf, .int go, .ref q3])), (h1, .inr (2, [.int (nI gi), .int gf, .int go, .ref q3]))]) [1, 0] (by decide +kernel) rfl
  have hK9 := hK.sub (tys' := []) [] rfl
  exact W.vret hx hb hr (fun t ht hW => ⟨⟨(), rfl, trivial, ⟨by rw [ht]; exact hP9, va_K.moved hW.alike hK9, hD9⟩⟩, hS.F ht⟩) hS.2.2 dX1_takeOver_20

noncomputable def tl_c_X1_write0 : List Cond := wsX10
noncomputable def v_c_X1_write0 : List Cond := .code yX1_write cX1_write 5 none :: ([.fieldLink RX1 9 "ClaimBus$Frame" "identifier" "I", .fieldLink RX1 15 "ClaimBus$Frame" "first" "I", .fieldLink RX1 18 "ClaimBus$Frame" "others" "I", .fieldLink RX1 21 "ClaimBus$Frame" "whole" "LClaimBus$Message;"] ++ tl_c_X1_write0)
theorem it_c_X1_write0 : ∀ w ∈ tl_c_X1_write0, w ∈ v_c_X1_write0 := fun w h => List.mem_cons_of_mem _ (List.mem_append_right _ h)
theorem in_c_X1_write0_X1 : ∀ w ∈ wsX10, w ∈ v_c_X1_write0 := fun w h => it_c_X1_write0 w (h)
theorem gt_c_X1_write0 : ∀ w ∈ tl_c_X1_write0, goodWord w = true := gw_wsX10
theorem gw_c_X1_write0 : ∀ w ∈ v_c_X1_write0, goodWord w = true := List.forall_mem_cons.mpr ⟨by decide +kernel, List.forall_mem_append.mpr ⟨List.all_eq_true.mp (by decide +kernel), gt_c_X1_write0⟩⟩
set_option maxHeartbeats 4000000 in
set_option maxRecDepth 100000 in
/-- Frame.write -/
theorem c_X1_write0 (l : Launch) (dC : Nat → ClassId) (dI : Nat → Nat → Nat) (h0 : Nat) (fi : Nat) (ff : Int32) (fo : Int32) (p0 : Nat) (p1 : Int32) (p2 : Int32) (q3 : Nat) (sz : Nat)  : Met l yX1_write v_c_X1_write0 ({ frames := 0, cells := 0, slots := 0, locals := 0 }) (va_Pc [.ref h0, .int (nI p0), .int p1, .int p2, .ref q3] (fun U => U.heap.size = sz ∧ va_P (dC, dI) vwCl [(h0, .inr (2, [.int (nI fi), .int ff, .int fo, .null]))] U.heap ∧ va_K (dC, dI) vwCl [] U ∧ va_D (fun _ => True) [(h0, .inr (2, [.int (nI fi), .int ff, .int fo, .null]))] ∧ ev U)) (va_Qv (fun _ : Unit => True) (fun (_ : Unit) (t : State) => va_P (dC, dI) vwCl [(h0, .inr (2, [.int (nI p0), .int p1, .int p2, .ref q3]))] t.heap ∧ va_K (dC, dI) vwCl [] t ∧ va_D (va_A [(h0, .inr (2, [.int (nI fi), .int ff, .int fo, .null]))] sz) [(h0, .inr (2, [.int (nI p0), .int p1, .int p2, .ref q3]))]) (va_A [(h0, .inr (2, [.int (nI fi), .int ff, .int fo, .null]))] sz)) 0 0 (va_A [(h0, .inr (2, [.int (nI fi), .int ff, .int fo, .null]))] sz) := by
  refine Met.ofW (cc := cX1_write) (maxL := 5) (ret := none) (by decide) rfl ?_
  intro p e s m args below meth c s₁ B hml hv
  obtain ⟨rfl, hsz, hP, hK, hD0, hE⟩ := hv
  have hx := B.exec
  have hb := B.bytes
  have hr := B.returns
  have hts := atoms_spec (ws := v_c_X1_write0) B.pre
  have hown : s.vm.findClass RX1 = some m.cls := findClass_of_methodNamed B.named
  have hlocks := B.notSynchronized
  subst hsz
  have hD := hD0.self (sz := s.heap.size)
  generalize hAe : va_A [(h0, .inr (2, [.int (nI fi), .int ff, .int fo, .null]))] s.heap.size = A at hD ⊢
  have hA : ∀ q : Nat, s.heap.size ≤ q → A q := fun q h => by rw [← hAe]; exact Or.inr h
  have hS : va_S A s.heap s.heap [] := va_S.rf
  replace hP : va_P (dC, dI) vwCl [(h0, .inr (2, [.int (nI fi), .int ff, .int fo, .null]))] s.heap := hP
  have hl := lv_entry ([.ref h0, .int (nI p0), .int p1, .int p2, .ref q3]) (n := 5) (Nat.le_of_ble_eq_true rfl)
  rw [lg_entry_eq]
  generalize (lg_sl ([.ref h0, .int (nI p0), .int p1, .int p2, .ref q3]) ++ List.replicate (5 - (lg_sl ([.ref h0, .int (nI p0), .int p1, .int p2, .ref q3])).length) Slot.unset).toArray = ls at hl ⊢
  replace hl : lv_has ls 5 [(0, .ref h0), (1, .int (nI p0)), (2, .int p1), (3, .int p2), (4, .ref q3)] := hl
  obtain ⟨H, hH⟩ : ∃ z : Heap, z = s.heap := ⟨_, rfl⟩
  rw [← hH]
  replace hS : va_S A s.heap H [] := by rw [hH]; exact va_S.rf
  replace hP : va_P (dC, dI) vwCl [(h0, .inr (2, [.int (nI fi), .int ff, .int fo, .null]))] H := by rw [hH]; exact hP
  clear hH
  refine lv_aload_n hx hb dX1_write_0 rfl (lv_at hl 0 rfl) ?_
  refine lv_iload_n hx hb dX1_write_1 rfl (lv_at hl 1 rfl) ?_
  refine va_put (D := (dC, dI)) (ci := 2) (v := .int (nI p0)) (ty := .int) (C := RX1) (T := TX1) (N := 4) hx hb hts in_c_X1_write0_X1 tyX1 tyX1_ok nmX1 hown hK hP hD hS 0 rfl rfl 0 (by decide) (hts (.fieldLink RX1 9 "ClaimBus$Frame" "identifier" "I") (List.mem_of_getElem? (i := 1) rfl)) (fun _ h9 => h9) rfl (by decide +kernel) rfl rfl (Nat.le_of_ble_eq_true rfl) dX1_write_2 (fun H locs hP hD hS => ?_)
  replace hP : va_P (dC, dI) vwCl [(h0, .inr (2, [.int (nI p0), .int ff, .int fo, .null]))] H := hP
  replace hD : va_D A [(h0, .inr (2, [.int (nI p0), .int ff, .int fo, .null]))] := hD
  refine lv_aload_n hx hb dX1_write_5 rfl (lv_at hl 0 rfl) ?_
  refine lv_iload_n hx hb dX1_write_6 rfl (lv_at hl 2 rfl) ?_
  refine va_put (D := (dC, dI)) (ci := 2) (v := .int p1) (ty := .int) (C := RX1) (T := TX1) (N := 4) hx hb hts in_c_X1_write0_X1 tyX1 tyX1_ok nmX1 hown hK hP hD hS 0 rfl rfl 1 (by decide) (hts (.fieldLink RX1 15 "ClaimBus$Frame" "first" "I") (List.mem_of_getElem? (i := 2) rfl)) (fun _ h9 => h9) rfl (by decide +kernel) rfl rfl (Nat.le_of_ble_eq_true rfl) dX1_write_7 (fun H locs hP hD hS => ?_)
  replace hP : va_P (dC, dI) vwCl [(h0, .inr (2, [.int (nI p0), .int p1, .int fo, .null]))] H := hP
  replace hD : va_D A [(h0, .inr (2, [.int (nI p0), .int p1, .int fo, .null]))] := hD
  refine lv_aload_n hx hb dX1_write_10 rfl (lv_at hl 0 rfl) ?_
  refine lv_iload_n hx hb dX1_write_11 rfl (lv_at hl 3 rfl) ?_
  refine va_put (D := (dC, dI)) (ci := 2) (v := .int p2) (ty := .int) (C := RX1) (T := TX1) (N := 4) hx hb hts in_c_X1_write0_X1 tyX1 tyX1_ok nmX1 hown hK hP hD hS 0 rfl rfl 2 (by decide) (hts (.fieldLink RX1 18 "ClaimBus$Frame" "others" "I") (List.mem_of_getElem? (i := 3) rfl)) (fun _ h9 => h9) rfl (by decide +kernel) rfl rfl (Nat.le_of_ble_eq_true rfl) dX1_write_12 (fun H locs hP hD hS => ?_)
  replace hP : va_P (dC, dI) vwCl [(h0, .inr (2, [.int (nI p0), .int p1, .int p2, .null]))] H := hP
  replace hD : va_D A [(h0, .inr (2, [.int (nI p0), .int p1, .int p2, .null]))] := hD
  refine lv_aload_n hx hb dX1_write_15 rfl (lv_at hl 0 rfl) ?_
  refine lv_aload hx hb dX1_write_16 (lv_at hl 4 rfl) ?_
  refine va_put (D := (dC, dI)) (ci := 2) (v := .ref q3) (ty := (.object "ClaimBus$Message")) (C := RX1) (T := TX1) (N := 4) hx hb hts in_c_X1_write0_X1 tyX1 tyX1_ok nmX1 hown hK hP hD hS 0 rfl rfl 3 (by decide) (hts (.fieldLink RX1 21 "ClaimBus$Frame" "whole" "LClaimBus$Message;") (List.mem_of_getElem? (i := 4) rfl)) (fun _ h9 => h9) rfl (by decide +kernel) rfl rfl (Nat.le_of_ble_eq_true rfl) dX1_write_18 (fun H locs hP hD hS => ?_)
  replace hP : va_P (dC, dI) vwCl [(h0, .inr (2, [.int (nI p0), .int p1, .int p2, .ref q3]))] H := hP
  replace hD : va_D A [(h0, .inr (2, [.int (nI p0), .int p1, .int p2, .ref q3]))] := hD
  have hP9 := hP.sub (ws' := [(h0, .inr (2, [.int (nI p0), .int p1, .int p2, .ref q3]))]) [0] rfl
  have hD9 := hD.sub (ws' := [(h0, .inr (2, [.int (nI p0), .int p1, .int p2, .ref q3]))]) [0] (by decide +kernel) rfl
  have hK9 := hK.sub (tys' := []) [] rfl
  exact W.vret hx hb hr (fun t ht hW => ⟨⟨(), rfl, trivial, ⟨by rw [ht]; exact hP9, va_K.moved hW.alike hK9, hD9⟩⟩, hS.F ht⟩) hS.2.2 dX1_write_21

noncomputable def tl_c_X1_takeOver0 : List Cond := wsX10 ++ (v_c_X1_write0)
noncomputable def v_c_X1_takeOver0 : List Cond := .code yX1_takeOver cX1_takeOver 2 none :: ([.fieldLink RX1 9 "ClaimBus$Frame" "identifier" "I", .fieldLink RX1 15 "ClaimBus$Frame" "first" "I", .fieldLink RX1 18 "ClaimBus$Frame" "others" "I", .fieldLink RX1 21 "ClaimBus$Frame" "whole" "LClaimBus$Message;", .initialized RX1, .methodLink RX1 25 yX1_write, .instanceMethod yX1_write, .selects RX1 yX1_write yX1_write] ++ tl_c_X1_takeOver0)
theorem it_c_X1_takeOver0 : ∀ w ∈ tl_c_X1_takeOver0, w ∈ v_c_X1_takeOver0 := fun w h => List.mem_cons_of_mem _ (List.mem_append_right _ h)
theorem in_c_X1_takeOver0_X1 : ∀ w ∈ wsX10, w ∈ v_c_X1_takeOver0 := fun w h => it_c_X1_takeOver0 w (List.mem_append_left _ h)
theorem ic_c_X1_takeOver0_c_X1_write0 : ∀ w ∈ v_c_X1_write0, w ∈ v_c_X1_takeOver0 := fun w h => it_c_X1_takeOver0 w (List.mem_append_right _ (h))
theorem gt_c_X1_takeOver0 : ∀ w ∈ tl_c_X1_takeOver0, goodWord w = true := List.forall_mem_append.mpr ⟨gw_wsX10, gw_c_X1_write0⟩
theorem gw_c_X1_takeOver0 : ∀ w ∈ v_c_X1_takeOver0, goodWord w = true := List.forall_mem_cons.mpr ⟨by decide +kernel, List.forall_mem_append.mpr ⟨List.all_eq_true.mp (by decide +kernel), gt_c_X1_takeOver0⟩⟩
theorem g_c_X1_takeOver0_c_X1_write0_25 : GoodIn v_c_X1_takeOver0 (wsV RX1 25 RX1 yX1_write v_c_X1_write0) := goodIn_app (goodIn_r [.methodLink RX1 25 yX1_write, .instanceMethod yX1_write, .selects RX1 yX1_write yX1_write, .initialized RX1] [6, 7, 8, 5] (by decide +kernel) (by decide +kernel)) (fun w h => ⟨ic_c_X1_takeOver0_c_X1_write0 w h, good_of_word (gw_c_X1_write0 w h)⟩)
set_option maxHeartbeats 4000000 in
set_option maxRecDepth 100000 in
/-- Frame.takeOver -/
theorem c_X1_takeOver0 (l : Launch) (dC : Nat → ClassId) (dI : Nat → Nat → Nat) (h0 : Nat) (fi : Nat) (ff : Int32) (fo : Int32) (h1 : Nat) (gi : Nat) (gf : Int32) (go : Int32) (q3 : Nat) (sz : Nat)  : Met l yX1_takeOver v_c_X1_takeOver0 ({ frames := 1, cells := 0, slots := 0, locals := 24 }) (va_Pc [.ref h0, .ref h1] (fun U => U.heap.size = sz ∧ va_P (dC, dI) vwCl [(h0, .inr (2, [.int (nI fi), .int ff, .int fo, .null])), (h1, .inr (2, [.int (nI gi), .int gf, .int go, .ref q3]))] U.heap ∧ va_K (dC, dI) vwCl [] U ∧ va_D (fun _ => True) [(h0, .inr (2, [.int (nI fi), .int ff, .int fo, .null])), (h1, .inr (2, [.int (nI gi), .int gf, .int go, .ref q3]))] ∧ ev U)) (va_Qv (fun _ : Unit => True) (fun (_ : Unit) (t : State) => va_P (dC, dI) vwCl [(h0, .inr (2, [.int (nI gi), .int gf, .int go, .ref q3])), (h1, .inr (2, [.int (nI gi), .int gf, .int go, .ref q3]))] t.heap ∧ va_K (dC, dI) vwCl [] t ∧ va_D (va_A [(h0, .inr (2, [.int (nI fi), .int ff, .int fo, .null])), (h1, .inr (2, [.int (nI gi), .int gf, .int go, .ref q3]))] sz) [(h0, .inr (2, [.int (nI gi), .int gf, .int go, .ref q3])), (h1, .inr (2, [.int (nI gi), .int gf, .int go, .ref q3]))]) (va_A [(h0, .inr (2, [.int (nI fi), .int ff, .int fo, .null])), (h1, .inr (2, [.int (nI gi), .int gf, .int go, .ref q3]))] sz)) 0 0 (va_A [(h0, .inr (2, [.int (nI fi), .int ff, .int fo, .null])), (h1, .inr (2, [.int (nI gi), .int gf, .int go, .ref q3]))] sz) := by
  refine Met.ofW (cc := cX1_takeOver) (maxL := 2) (ret := none) (by decide) rfl ?_
  intro p e s m args below meth c s₁ B hml hv
  obtain ⟨rfl, hsz, hP, hK, hD0, hE⟩ := hv
  have hx := B.exec
  have hb := B.bytes
  have hr := B.returns
  have hts := atoms_spec (ws := v_c_X1_takeOver0) B.pre
  have hown : s.vm.findClass RX1 = some m.cls := findClass_of_methodNamed B.named
  have hlocks := B.notSynchronized
  subst hsz
  have hD := hD0.self (sz := s.heap.size)
  generalize hAe : va_A [(h0, .inr (2, [.int (nI fi), .int ff, .int fo, .null])), (h1, .inr (2, [.int (nI gi), .int gf, .int go, .ref q3]))] s.heap.size = A at hD ⊢
  have hA : ∀ q : Nat, s.heap.size ≤ q → A q := fun q h => by rw [← hAe]; exact Or.inr h
  have hS : va_S A s.heap s.heap [] := va_S.rf
  replace hP : va_P (dC, dI) vwCl [(h0, .inr (2, [.int (nI fi), .int ff, .int fo, .null])), (h1, .inr (2, [.int (nI gi), .int gf, .int go, .ref q3]))] s.heap := hP
  have hl := lv_entry ([.ref h0, .ref h1]) (n := 2) (Nat.le_of_ble_eq_true rfl)
  rw [lg_entry_eq]
  generalize (lg_sl ([.ref h0, .ref h1]) ++ List.replicate (2 - (lg_sl ([.ref h0, .ref h1])).length) Slot.unset).toArray = ls at hl ⊢
  replace hl : lv_has ls 2 [(0, .ref h0), (1, .ref h1)] := hl
  obtain ⟨H, hH⟩ : ∃ z : Heap, z = s.heap := ⟨_, rfl⟩
  rw [← hH]
  replace hS : va_S A s.heap H [] := by rw [hH]; exact va_S.rf
  replace hP : va_P (dC, dI) vwCl [(h0, .inr (2, [.int (nI fi), .int ff, .int fo, .null])), (h1, .inr (2, [.int (nI gi), .int gf, .int go, .ref q3]))] H := by rw [hH]; exact hP
  clear hH
  refine lv_aload_n hx hb dX1_takeOver_0 rfl (lv_at hl 0 rfl) ?_
  refine lv_aload_n hx hb dX1_takeOver_1 rfl (lv_at hl 1 rfl) ?_
  refine va_get (D := (dC, dI)) (ci := 2) (v := .int (nI gi)) (C := RX1) (T := TX1) (N := 4) hx hb hts in_c_X1_takeOver0_X1 hown hK hP 1 rfl rfl 0 (by decide) (hts (.fieldLink RX1 9 "ClaimBus$Frame" "identifier" "I") (List.mem_of_getElem? (i := 1) rfl)) (fun _ h9 => h9) rfl dX1_takeOver_2 ?_
  refine lv_aload_n hx hb dX1_takeOver_5 rfl (lv_at hl 1 rfl) ?_
  refine va_get (D := (dC, dI)) (ci := 2) (v := .int gf) (C := RX1) (T := TX1) (N := 4) hx hb hts in_c_X1_takeOver0_X1 hown hK hP 1 rfl rfl 1 (by decide) (hts (.fieldLink RX1 15 "ClaimBus$Frame" "first" "I") (List.mem_of_getElem? (i := 2) rfl)) (fun _ h9 => h9) rfl dX1_takeOver_6 ?_
  refine lv_aload_n hx hb dX1_takeOver_9 rfl (lv_at hl 1 rfl) ?_
  refine va_get (D := (dC, dI)) (ci := 2) (v := .int go) (C := RX1) (T := TX1) (N := 4) hx hb hts in_c_X1_takeOver0_X1 hown hK hP 1 rfl rfl 2 (by decide) (hts (.fieldLink RX1 18 "ClaimBus$Frame" "others" "I") (List.mem_of_getElem? (i := 3) rfl)) (fun _ h9 => h9) rfl dX1_takeOver_10 ?_
  refine lv_aload_n hx hb dX1_takeOver_13 rfl (lv_at hl 1 rfl) ?_
  refine va_get (D := (dC, dI)) (ci := 2) (v := .ref q3) (C := RX1) (T := TX1) (N := 4) hx hb hts in_c_X1_takeOver0_X1 hown hK hP 1 rfl rfl 3 (by decide) (hts (.fieldLink RX1 21 "ClaimBus$Frame" "whole" "LClaimBus$Message;") (List.mem_of_getElem? (i := 4) rfl)) (fun _ h9 => h9) rfl dX1_takeOver_14 ?_
  have hPc := hP.sub (ws' := [(h0, .inr (2, [.int (nI fi), .int ff, .int fo, .null]))]) [0] rfl
  have hDc := hD.sub (ws' := [(h0, .inr (2, [.int (nI fi), .int ff, .int fo, .null]))]) [0] (by decide +kernel) rfl
  have hKc := hK.sub (tys' := []) [] rfl
  have hFc := va_free (wc := [(h0, .inr (2, [.int (nI fi), .int ff, .int fo, .null]))]) hD hS hA [0] rfl
  refine va_callv (va_runV (As := [.int (nI gi), .int gf, .int go, .ref q3]) (rest := []) ⟨hx, hb, hml, hown, hts⟩ (c_X1_write0 l dC dI (h0) (fi) (ff) (fo) (gi) (gf) (go) (q3) H.size) (cwV 4 hts g_c_X1_takeOver0_c_X1_write0_25 rfl rfl rfl (by decide +kernel) ⟨Nat.le_of_ble_eq_true rfl, Nat.le_of_ble_eq_true rfl⟩) ⟨fun a U g mk q => by obtain ⟨q0, q1, qP, qK, qD, qE⟩ := q; exact ⟨q0, q1, qP, va_K.moved (u := U) (U := U.calling g mk a) (Vm.Alike.refl U.vm) qK, qD, ev.same (u := U) (U := U.calling g mk a) rfl qE⟩, va_recv hKc hPc (ci := 2) (q0 := 0) rfl rfl, fun U hU hW => ⟨rfl, by rw [hU], by rw [hU]; exact hPc, va_K.moved hW.alike hKc, hDc.weaken (fun _ _ _ _ => trivial), hE.warm hW⟩⟩ rfl rfl hl.1 rfl (lv_room (Nat.le_of_ble_eq_true rfl)) dX1_takeOver_17 ⟨Nat.le_of_ble_eq_true rfl, Nat.le_of_ble_eq_true rfl⟩) hS (fun q _ h => hFc q h) hFc (fun u t H1 locs ht hvm hw hB hz1 hk1 hS => ?_)
  clear hPc hDc hKc
  obtain ⟨hP1, hK1, hD1⟩ := hB
  rw [ht] at hP1
  have hK1 := va_K.moved hvm.symm hK1
  obtain ⟨hP, hD⟩ := va_join (wr := [(h1, .inr (2, [.int (nI gi), .int gf, .int go, .ref q3]))]) (w1 := [(h0, .inr (2, [.int (nI gi), .int gf, .int go, .ref q3]))]) hP hD [0] [1] rfl rfl (by decide +kernel) (by decide +kernel) hk1 hFc hP1 hD1
  generalize H1 = H at hP hS ⊢
  replace hP : va_P (dC, dI) vwCl [(h1, .inr (2, [.int (nI gi), .int gf, .int go, .ref q3])), (h0, .inr (2, [.int (nI gi), .int gf, .int go, .ref q3]))] H := hP
  replace hD : va_D A [(h1, .inr (2, [.int (nI gi), .int gf, .int go, .ref q3])), (h0, .inr (2, [.int (nI gi), .int gf, .int go, .ref q3]))] := hD
  clear hw
  have hP9 := hP.sub (ws' := [(h0, .inr (2, [.int (nI gi), .int gf, .int go, .ref q3])), (h1, .inr (2, [.int (nI gi), .int gf, .int go, .ref q3]))]) [1, 0] rfl
  have hD9 := hD.sub (ws' := [(h0, .inr (2, [.int (nI gi), .int gf, .int go, .ref q3])), (h1, .inr (2, [.int (nI gi), .int gf, .int go, .ref q3]))]) [1, 0] (by decide +kernel) rfl
  have hK9 := hK.sub (tys' := []) [] rfl
  exact W.vret hx hb hr (fun t ht hW => ⟨⟨(), rfl, trivial, ⟨by rw [ht]; exact hP9, va_K.moved hW.alike hK9, hD9⟩⟩, hS.F ht⟩) hS.2.2 dX1_takeOver_20

noncomputable def tl_c_X1_source : List Cond := wsX10
noncomputable def v_c_X1_source : List Cond := .code yX1_source cX1_source 1 (some .int) :: ([.fieldLink RX1 9 "ClaimBus$Frame" "identifier" "I"] ++ tl_c_X1_source)
theorem it_c_X1_source : ∀ w ∈ tl_c_X1_source, w ∈ v_c_X1_source := fun w h => List.mem_cons_of_mem _ (List.mem_append_right _ h)
theorem in_c_X1_source_X1 : ∀ w ∈ wsX10, w ∈ v_c_X1_source := fun w h => it_c_X1_source w (h)
theorem gt_c_X1_source : ∀ w ∈ tl_c_X1_source, goodWord w = true := gw_wsX10
theorem gw_c_X1_source : ∀ w ∈ v_c_X1_source, goodWord w = true := List.forall_mem_cons.mpr ⟨by decide +kernel, List.forall_mem_append.mpr ⟨List.all_eq_true.mp (by decide +kernel), gt_c_X1_source⟩⟩
set_option maxHeartbeats 4000000 in
set_option maxRecDepth 100000 in
theorem c_X1_source (l : Launch) (dC : Nat → ClassId) (dI : Nat → Nat → Nat) (h0 : Nat) (fi : Nat) (ff : Int32) (fo : Int32) (fw : Nat) (sz : Nat) (hfi : fi < 536870912) : Met l yX1_source v_c_X1_source ({ frames := 0, cells := 0, slots := 0, locals := 0 }) (va_Pc [.ref h0] (fun U => U.heap.size = sz ∧ va_P (dC, dI) vwCl [(h0, .inr (2, [.int (nI fi), .int ff, .int fo, .ref fw]))] U.heap ∧ va_K (dC, dI) vwCl [] U ∧ va_D (fun _ => True) [(h0, .inr (2, [.int (nI fi), .int ff, .int fo, .ref fw]))] ∧ ev U)) (va_Qi (fun (r : Int32) (_ : Unit) => r = nI (fi % 256)) (fun (_ : Unit) (_ : State) => True) (va_A [] sz)) 0 0 (va_A [] sz) := by
  refine Met.ofW (cc := cX1_source) (maxL := 1) (ret := (some .int)) (by decide) rfl ?_
  intro p e s m args below meth c s₁ B hml hv
  obtain ⟨rfl, hsz, hP, hK, hD0, hE⟩ := hv
  have hx := B.exec
  have hb := B.bytes
  have hr := B.returns
  have hts := atoms_spec (ws := v_c_X1_source) B.pre
  have hown : s.vm.findClass RX1 = some m.cls := findClass_of_methodNamed B.named
  have hlocks := B.notSynchronized
  subst hsz
  have hD := hD0
  generalize hAe : va_A [] s.heap.size = A
  have hA : ∀ q : Nat, s.heap.size ≤ q → A q := fun q h => by rw [← hAe]; exact Or.inr h
  have hS : va_S A s.heap s.heap [] := va_S.rf
  replace hP : va_P (dC, dI) vwCl [(h0, .inr (2, [.int (nI fi), .int ff, .int fo, .ref fw]))] s.heap := hP
  have hl := lv_entry ([.ref h0]) (n := 1) (Nat.le_of_ble_eq_true rfl)
  rw [lg_entry_eq]
  generalize (lg_sl ([.ref h0]) ++ List.replicate (1 - (lg_sl ([.ref h0])).length) Slot.unset).toArray = ls at hl ⊢
  replace hl : lv_has ls 1 [(0, .ref h0)] := hl
  obtain ⟨H, hH⟩ : ∃ z : Heap, z = s.heap := ⟨_, rfl⟩
  rw [← hH]
  replace hS : va_S A s.heap H [] := by rw [hH]; exact va_S.rf
  replace hP : va_P (dC, dI) vwCl [(h0, .inr (2, [.int (nI fi), .int ff, .int fo, .ref fw]))] H := by rw [hH]; exact hP
  clear hH
  refine lv_aload_n hx hb dX1_source_0 rfl (lv_at hl 0 rfl) ?_
  refine va_get (D := (dC, dI)) (ci := 2) (v := .int (nI fi)) (C := RX1) (T := TX1) (N := 4) hx hb hts in_c_X1_source_X1 hown hK hP 0 rfl rfl 0 (by decide) (hts (.fieldLink RX1 9 "ClaimBus$Frame" "identifier" "I") (List.mem_of_getElem? (i := 1) rfl)) (fun _ h9 => h9) rfl dX1_source_1 ?_
  refine lv_sipush (v := 255) hx hb dX1_source_4 (by decide) ?_
  refine lv_iand hx hb dX1_source_7 ?_
  refine lv_topi (fun x_1 ex_1 => ?_)
  obtain rfl : x_1 = (nI (((fi) % 256))) := ex_1.trans ((pk_andN (n := fi) (m := 255) (by omega) 8 (by decide)).trans (show nI (fi % 2 ^ 8) = nI (((fi) % 256)) from congrArg nI (by omega)))
  exact W.iret (v := (nI (((fi) % 256)))) hx hb hr (fun t ht hW => ⟨⟨(nI (((fi) % 256))), (), rfl, rfl, trivial⟩, hS.F ht⟩) hS.2.2 dX1_source_8

noncomputable def tl_c_X1_controlGroup : List Cond := wsX10
noncomputable def v_c_X1_controlGroup : List Cond := .code yX1_controlGroup cX1_controlGroup 1 (some .int) :: ([.fieldLink RX1 18 "ClaimBus$Frame" "others" "I"] ++ tl_c_X1_controlGroup)
theorem it_c_X1_controlGroup : ∀ w ∈ tl_c_X1_controlGroup, w ∈ v_c_X1_controlGroup := fun w h => List.mem_cons_of_mem _ (List.mem_append_right _ h)
theorem in_c_X1_controlGroup_X1 : ∀ w ∈ wsX10, w ∈ v_c_X1_controlGroup := fun w h => it_c_X1_controlGroup w (h)
theorem gt_c_X1_controlGroup : ∀ w ∈ tl_c_X1_controlGroup, goodWord w = true := gw_wsX10
theorem gw_c_X1_controlGroup : ∀ w ∈ v_c_X1_controlGroup, goodWord w = true := List.forall_mem_cons.mpr ⟨by decide +kernel, List.forall_mem_append.mpr ⟨List.all_eq_true.mp (by decide +kernel), gt_c_X1_controlGroup⟩⟩
set_option maxHeartbeats 4000000 in
set_option maxRecDepth 100000 in
theorem c_X1_controlGroup (l : Launch) (dC : Nat → ClassId) (dI : Nat → Nat → Nat) (h0 : Nat) (fi : Nat) (ff : Int32) (fo : Int32) (fw : Nat) (sz : Nat) (hfi : fi < 536870912) : Met l yX1_controlGroup v_c_X1_controlGroup ({ frames := 0, cells := 0, slots := 0, locals := 0 }) (va_Pc [.ref h0] (fun U => U.heap.size = sz ∧ va_P (dC, dI) vwCl [(h0, .inr (2, [.int (nI fi), .int ff, .int fo, .ref fw]))] U.heap ∧ va_K (dC, dI) vwCl [] U ∧ va_D (fun _ => True) [(h0, .inr (2, [.int (nI fi), .int ff, .int fo, .ref fw]))] ∧ ev U)) (va_Qi (fun (r : Int32) (_ : Unit) => r = (fo.toUInt32 >>> ((8 : Int32).toUInt32 &&& Int32.toUInt32 31)).toInt32) (fun (_ : Unit) (_ : State) => True) (va_A [] sz)) 0 0 (va_A [] sz) := by
  refine Met.ofW (cc := cX1_controlGroup) (maxL := 1) (ret := (some .int)) (by decide) rfl ?_
  intro p e s m args below meth c s₁ B hml hv
  obtain ⟨rfl, hsz, hP, hK, hD0, hE⟩ := hv
  have hx := B.exec
  have hb := B.bytes
  have hr := B.returns
  have hts := atoms_spec (ws := v_c_X1_controlGroup) B.pre
  have hown : s.vm.findClass RX1 = some m.cls := findClass_of_methodNamed B.named
  have hlocks := B.notSynchronized
  subst hsz
  have hD := hD0
  generalize hAe : va_A [] s.heap.size = A
  have hA : ∀ q : Nat, s.heap.size ≤ q → A q := fun q h => by rw [← hAe]; exact Or.inr h
  have hS : va_S A s.heap s.heap [] := va_S.rf
  replace hP : va_P (dC, dI) vwCl [(h0, .inr (2, [.int (nI fi), .int ff, .int fo, .ref fw]))] s.heap := hP
  have hl := lv_entry ([.ref h0]) (n := 1) (Nat.le_of_ble_eq_true rfl)
  rw [lg_entry_eq]
  generalize (lg_sl ([.ref h0]) ++ List.replicate (1 - (lg_sl ([.ref h0])).length) Slot.unset).toArray = ls at hl ⊢
  replace hl : lv_has ls 1 [(0, .ref h0)] := hl
  obtain ⟨H, hH⟩ : ∃ z : Heap, z = s.heap := ⟨_, rfl⟩
  rw [← hH]
  replace hS : va_S A s.heap H [] := by rw [hH]; exact va_S.rf
  replace hP : va_P (dC, dI) vwCl [(h0, .inr (2, [.int (nI fi), .int ff, .int fo, .ref fw]))] H := by rw [hH]; exact hP
  clear hH
  refine lv_aload_n hx hb dX1_controlGroup_0 rfl (lv_at hl 0 rfl) ?_
  refine va_get (D := (dC, dI)) (ci := 2) (v := .int fo) (C := RX1) (T := TX1) (N := 4) hx hb hts in_c_X1_controlGroup_X1 hown hK hP 0 rfl rfl 2 (by decide) (hts (.fieldLink RX1 18 "ClaimBus$Frame" "others" "I") (List.mem_of_getElem? (i := 1) rfl)) (fun _ h9 => h9) rfl dX1_controlGroup_1 ?_
  refine lv_bipush (v := 8) hx hb dX1_controlGroup_4 (by decide) ?_
  refine lv_iushr hx hb dX1_controlGroup_6 rfl ?_
  exact W.iret (v := ((fo.toUInt32 >>> ((8 : Int32).toUInt32 &&& Int32.toUInt32 31)).toInt32)) hx hb hr (fun t ht hW => ⟨⟨((fo.toUInt32 >>> ((8 : Int32).toUInt32 &&& Int32.toUInt32 31)).toInt32), (), rfl, rfl, trivial⟩, hS.F ht⟩) hS.2.2 dX1_controlGroup_7

noncomputable def tl_c_X1_byteAt : List Cond := wsX10
noncomputable def v_c_X1_byteAt : List Cond := .code yX1_byteAt cX1_byteAt 2 (some .int) :: ([.fieldLink RX1 18 "ClaimBus$Frame" "others" "I", .fieldLink RX1 15 "ClaimBus$Frame" "first" "I"] ++ tl_c_X1_byteAt)
theorem it_c_X1_byteAt : ∀ w ∈ tl_c_X1_byteAt, w ∈ v_c_X1_byteAt := fun w h => List.mem_cons_of_mem _ (List.mem_append_right _ h)
theorem in_c_X1_byteAt_X1 : ∀ w ∈ wsX10, w ∈ v_c_X1_byteAt := fun w h => it_c_X1_byteAt w (h)
theorem gt_c_X1_byteAt : ∀ w ∈ tl_c_X1_byteAt, goodWord w = true := gw_wsX10
theorem gw_c_X1_byteAt : ∀ w ∈ v_c_X1_byteAt, goodWord w = true := List.forall_mem_cons.mpr ⟨by decide +kernel, List.forall_mem_append.mpr ⟨List.all_eq_true.mp (by decide +kernel), gt_c_X1_byteAt⟩⟩
set_option maxHeartbeats 4000000 in
set_option maxRecDepth 100000 in
theorem c_X1_byteAt (l : Launch) (dC : Nat → ClassId) (dI : Nat → Nat → Nat) (h0 : Nat) (fi : Nat) (ff : Int32) (fo : Int32) (fw : Nat) (k : Nat) (sz : Nat) (hfi : fi < 536870912) (hk : k < 8) : Met l yX1_byteAt v_c_X1_byteAt ({ frames := 0, cells := 0, slots := 0, locals := 0 }) (va_Pc [.ref h0, .int (nI k)] (fun U => U.heap.size = sz ∧ va_P (dC, dI) vwCl [(h0, .inr (2, [.int (nI fi), .int ff, .int fo, .ref fw]))] U.heap ∧ va_K (dC, dI) vwCl [] U ∧ va_D (fun _ => True) [(h0, .inr (2, [.int (nI fi), .int ff, .int fo, .ref fw]))] ∧ ev U)) (va_Qi (fun (r : Int32) (_ : Unit) => r = fb ff fo k) (fun (_ : Unit) (_ : State) => True) (va_A [] sz)) 0 0 (va_A [] sz) := by
  refine Met.ofW (cc := cX1_byteAt) (maxL := 2) (ret := (some .int)) (by decide) rfl ?_
  intro p e s m args below meth c s₁ B hml hv
  obtain ⟨rfl, hsz, hP, hK, hD0, hE⟩ := hv
  have hx := B.exec
  have hb := B.bytes
  have hr := B.returns
  have hts := atoms_spec (ws := v_c_X1_byteAt) B.pre
  have hown : s.vm.findClass RX1 = some m.cls := findClass_of_methodNamed B.named
  have hlocks := B.notSynchronized
  subst hsz
  have hD := hD0
  generalize hAe : va_A [] s.heap.size = A
  have hA : ∀ q : Nat, s.heap.size ≤ q → A q := fun q h => by rw [← hAe]; exact Or.inr h
  have hS : va_S A s.heap s.heap [] := va_S.rf
  replace hP : va_P (dC, dI) vwCl [(h0, .inr (2, [.int (nI fi), .int ff, .int fo, .ref fw]))] s.heap := hP
  have hl := lv_entry ([.ref h0, .int (nI k)]) (n := 2) (Nat.le_of_ble_eq_true rfl)
  rw [lg_entry_eq]
  generalize (lg_sl ([.ref h0, .int (nI k)]) ++ List.replicate (2 - (lg_sl ([.ref h0, .int (nI k)])).length) Slot.unset).toArray = ls at hl ⊢
  replace hl : lv_has ls 2 [(0, .ref h0), (1, .int (nI k))] := hl
  obtain ⟨H, hH⟩ : ∃ z : Heap, z = s.heap := ⟨_, rfl⟩
  rw [← hH]
  replace hS : va_S A s.heap H [] := by rw [hH]; exact va_S.rf
  replace hP : va_P (dC, dI) vwCl [(h0, .inr (2, [.int (nI fi), .int ff, .int fo, .ref fw]))] H := by rw [hH]; exact hP
  clear hH
  refine lv_iload_n hx hb dX1_byteAt_0 rfl (lv_at hl 1 rfl) ?_
  refine lv_iconst (v := 4) hx hb dX1_byteAt_1 (by decide) ?_
  refine lv_icmp_ge (tgt := 21) hx hb dX1_byteAt_2 (by decide) (fun c_1 => ?_) (fun c_1 => ?_)
  · have pc_1 : 4 ≤ k := (nI_leI (a := 4) (b := k) (by omega) (by omega)).mp c_1
    refine lv_aload_n hx hb dX1_byteAt_21 rfl (lv_at hl 0 rfl) ?_
    refine va_get (D := (dC, dI)) (ci := 2) (v := .int fo) (C := RX1) (T := TX1) (N := 4) hx hb hts in_c_X1_byteAt_X1 hown hK hP 0 rfl rfl 2 (by decide) (hts (.fieldLink RX1 18 "ClaimBus$Frame" "others" "I") (List.mem_of_getElem? (i := 1) rfl)) (fun _ h9 => h9) rfl dX1_byteAt_22 ?_
    refine lv_bipush (v := 8) hx hb dX1_byteAt_25 (by decide) ?_
    refine lv_iload_n hx hb dX1_byteAt_27 rfl (lv_at hl 1 rfl) ?_
    refine lv_iconst (v := 4) hx hb dX1_byteAt_28 (by decide) ?_
    refine lv_isub hx hb dX1_byteAt_29 ?_
    refine lv_topi (fun x_2 ex_2 => ?_)
    obtain rfl : x_2 = (nI (k - 4)) := ex_2.trans ((pk_sub (a := k) (b := 4) (by omega)).trans (show nI (k - 4) = nI (k - 4) from congrArg nI (by omega)))
    refine lv_imul hx hb dX1_byteAt_30 ?_
    refine lv_topi (fun x_3 ex_3 => ?_)
    obtain rfl : x_3 = (nI (8 * k - 32)) := ex_3.trans ((pk_mul 8 (k - 4)).trans (show nI (8 * (k - 4)) = nI (8 * k - 32) from congrArg nI (by omega)))
    refine lv_iushr hx hb dX1_byteAt_31 rfl ?_
    refine lv_sipush (v := 255) hx hb dX1_byteAt_32 (by decide) ?_
    refine lv_iand hx hb dX1_byteAt_35 ?_
    exact W.iret (v := (((fo.toUInt32 >>> (((nI (8 * k - 32)) : Int32).toUInt32 &&& Int32.toUInt32 31)).toInt32) &&& 255)) hx hb hr (fun t ht hW => ⟨⟨(((fo.toUInt32 >>> (((nI (8 * k - 32)) : Int32).toUInt32 &&& Int32.toUInt32 31)).toInt32) &&& 255), (), rfl, (by unfold fb; rw [if_neg (by omega), show 8 * (k - 4) = 8 * k - 32 from by omega]), trivial⟩, hS.F ht⟩) hS.2.2 dX1_byteAt_36
  · have pc_1 : ¬ 4 ≤ k := fun h => c_1 ((nI_leI (a := 4) (b := k) (by omega) (by omega)).mpr h)
    refine lv_aload_n hx hb dX1_byteAt_5 rfl (lv_at hl 0 rfl) ?_
    refine va_get (D := (dC, dI)) (ci := 2) (v := .int ff) (C := RX1) (T := TX1) (N := 4) hx hb hts in_c_X1_byteAt_X1 hown hK hP 0 rfl rfl 1 (by decide) (hts (.fieldLink RX1 15 "ClaimBus$Frame" "first" "I") (List.mem_of_getElem? (i := 2) rfl)) (fun _ h9 => h9) rfl dX1_byteAt_6 ?_
    refine lv_bipush (v := 8) hx hb dX1_byteAt_9 (by decide) ?_
    refine lv_iload_n hx hb dX1_byteAt_11 rfl (lv_at hl 1 rfl) ?_
    refine lv_imul hx hb dX1_byteAt_12 ?_
    refine lv_topi (fun x_4 ex_4 => ?_)
    obtain rfl : x_4 = (nI (8 * k)) := ex_4.trans ((pk_mul 8 k).trans (show nI (8 * k) = nI (8 * k) from congrArg nI (by omega)))
    refine lv_iushr hx hb dX1_byteAt_13 rfl ?_
    refine lv_sipush (v := 255) hx hb dX1_byteAt_14 (by decide) ?_
    refine lv_iand hx hb dX1_byteAt_17 ?_
    refine lv_goto (tgt := 36) hx hb dX1_byteAt_18 (by decide) ?_
    exact W.iret (v := (((ff.toUInt32 >>> (((nI (8 * k)) : Int32).toUInt32 &&& Int32.toUInt32 31)).toInt32) &&& 255)) hx hb hr (fun t ht hW => ⟨⟨(((ff.toUInt32 >>> (((nI (8 * k)) : Int32).toUInt32 &&& Int32.toUInt32 31)).toInt32) &&& 255), (), rfl, (by unfold fb; rw [if_pos (by omega)]), trivial⟩, hS.F ht⟩) hS.2.2 dX1_byteAt_36

noncomputable def tl_c_X1_isOf_y : List Cond := wsX10
noncomputable def v_c_X1_isOf_y : List Cond := .code yX1_isOf cX1_isOf 2 (some .boolean) :: ([.fieldLink RX1 9 "ClaimBus$Frame" "identifier" "I"] ++ tl_c_X1_isOf_y)
theorem it_c_X1_isOf_y : ∀ w ∈ tl_c_X1_isOf_y, w ∈ v_c_X1_isOf_y := fun w h => List.mem_cons_of_mem _ (List.mem_append_right _ h)
theorem in_c_X1_isOf_y_X1 : ∀ w ∈ wsX10, w ∈ v_c_X1_isOf_y := fun w h => it_c_X1_isOf_y w (h)
theorem gt_c_X1_isOf_y : ∀ w ∈ tl_c_X1_isOf_y, goodWord w = true := gw_wsX10
theorem gw_c_X1_isOf_y : ∀ w ∈ v_c_X1_isOf_y, goodWord w = true := List.forall_mem_cons.mpr ⟨by decide +kernel, List.forall_mem_append.mpr ⟨List.all_eq_true.mp (by decide +kernel), gt_c_X1_isOf_y⟩⟩
set_option maxHeartbeats 4000000 in
set_option maxRecDepth 100000 in
theorem c_X1_isOf_y (l : Launch) (dC : Nat → ClassId) (dI : Nat → Nat → Nat) (h0 : Nat) (fi : Nat) (ff : Int32) (fo : Int32) (fw : Nat) (p0 : Nat) (sz : Nat) (hfi : fi < 536870912) (hp : fi / 65536 % 1024 = p0) (hp2 : p0 < 1024) : Met l yX1_isOf v_c_X1_isOf_y ({ frames := 0, cells := 0, slots := 0, locals := 0 }) (va_Pc [.ref h0, .int (nI p0)] (fun U => U.heap.size = sz ∧ va_P (dC, dI) vwCl [(h0, .inr (2, [.int (nI fi), .int ff, .int fo, .ref fw]))] U.heap ∧ va_K (dC, dI) vwCl [] U ∧ va_D (fun _ => True) [(h0, .inr (2, [.int (nI fi), .int ff, .int fo, .ref fw]))] ∧ ev U)) (va_Qi (fun (r : Int32) (_ : Unit) => r = 1) (fun (_ : Unit) (_ : State) => True) (va_A [] sz)) 0 0 (va_A [] sz) := by
  refine Met.ofW (cc := cX1_isOf) (maxL := 2) (ret := (some .boolean)) (by decide) rfl ?_
  intro p e s m args below meth c s₁ B hml hv
  obtain ⟨rfl, hsz, hP, hK, hD0, hE⟩ := hv
  have hx := B.exec
  have hb := B.bytes
  have hr := B.returns
  have hts := atoms_spec (ws := v_c_X1_isOf_y) B.pre
  have hown : s.vm.findClass RX1 = some m.cls := findClass_of_methodNamed B.named
  have hlocks := B.notSynchronized
  subst hsz
  have hD := hD0
  generalize hAe : va_A [] s.heap.size = A
  have hA : ∀ q : Nat, s.heap.size ≤ q → A q := fun q h => by rw [← hAe]; exact Or.inr h
  have hS : va_S A s.heap s.heap [] := va_S.rf
  replace hP : va_P (dC, dI) vwCl [(h0, .inr (2, [.int (nI fi), .int ff, .int fo, .ref fw]))] s.heap := hP
  have hl := lv_entry ([.ref h0, .int (nI p0)]) (n := 2) (Nat.le_of_ble_eq_true rfl)
  rw [lg_entry_eq]
  generalize (lg_sl ([.ref h0, .int (nI p0)]) ++ List.replicate (2 - (lg_sl ([.ref h0, .int (nI p0)])).length) Slot.unset).toArray = ls at hl ⊢
  replace hl : lv_has ls 2 [(0, .ref h0), (1, .int (nI p0))] := hl
  obtain ⟨H, hH⟩ : ∃ z : Heap, z = s.heap := ⟨_, rfl⟩
  rw [← hH]
  replace hS : va_S A s.heap H [] := by rw [hH]; exact va_S.rf
  replace hP : va_P (dC, dI) vwCl [(h0, .inr (2, [.int (nI fi), .int ff, .int fo, .ref fw]))] H := by rw [hH]; exact hP
  clear hH
  refine lv_aload_n hx hb dX1_isOf_0 rfl (lv_at hl 0 rfl) ?_
  refine va_get (D := (dC, dI)) (ci := 2) (v := .int (nI fi)) (C := RX1) (T := TX1) (N := 4) hx hb hts in_c_X1_isOf_y_X1 hown hK hP 0 rfl rfl 0 (by decide) (hts (.fieldLink RX1 9 "ClaimBus$Frame" "identifier" "I") (List.mem_of_getElem? (i := 1) rfl)) (fun _ h9 => h9) rfl dX1_isOf_1 ?_
  refine lv_bipush (v := 16) hx hb dX1_isOf_4 (by decide) ?_
  refine lv_iushr (v := (nI (((fi) / 65536)))) hx hb dX1_isOf_6 ((pk_ushrN (n := fi) (by omega) (16 : Int32) 16 (by decide)).trans (show nI (fi / 2 ^ 16) = nI (((fi) / 65536)) from congrArg nI (by omega))) ?_
  refine lv_sipush (v := 1023) hx hb dX1_isOf_7 (by decide) ?_
  refine lv_iand hx hb dX1_isOf_10 ?_
  refine lv_topi (fun x_1 ex_1 => ?_)
  obtain rfl : x_1 = (nI (((((fi) / 65536)) % 1024))) := ex_1.trans ((pk_andN (n := (((fi) / 65536))) (m := 1023) (by omega) 10 (by decide)).trans (show nI ((((fi) / 65536)) % 2 ^ 10) = nI (((((fi) / 65536)) % 1024)) from congrArg nI (by omega)))
  refine lv_iload_n hx hb dX1_isOf_11 rfl (lv_at hl 1 rfl) ?_
  refine lv_icmp_ne (tgt := 19) hx hb dX1_isOf_12 (by decide) (fun c_2 => ?_) (fun c_2 => ?_)
  · exact absurd ((nI_eq (a := (((((fi) / 65536)) % 1024))) (b := p0) (by omega) (by omega)).mpr (by omega)) c_2
  refine lv_iconst (v := 1) hx hb dX1_isOf_15 (by decide) ?_
  refine lv_goto (tgt := 20) hx hb dX1_isOf_16 (by decide) ?_
  exact W.zret (v := 1) hx hb hr (by decide) (fun t ht hW => ⟨⟨1, (), rfl, rfl, trivial⟩, hS.F ht⟩) hS.2.2 dX1_isOf_20

noncomputable def tl_c_X1_isOf_n : List Cond := wsX10
noncomputable def v_c_X1_isOf_n : List Cond := .code yX1_isOf cX1_isOf 2 (some .boolean) :: ([.fieldLink RX1 9 "ClaimBus$Frame" "identifier" "I"] ++ tl_c_X1_isOf_n)
theorem it_c_X1_isOf_n : ∀ w ∈ tl_c_X1_isOf_n, w ∈ v_c_X1_isOf_n := fun w h => List.mem_cons_of_mem _ (List.mem_append_right _ h)
theorem in_c_X1_isOf_n_X1 : ∀ w ∈ wsX10, w ∈ v_c_X1_isOf_n := fun w h => it_c_X1_isOf_n w (h)
theorem gt_c_X1_isOf_n : ∀ w ∈ tl_c_X1_isOf_n, goodWord w = true := gw_wsX10
theorem gw_c_X1_isOf_n : ∀ w ∈ v_c_X1_isOf_n, goodWord w = true := List.forall_mem_cons.mpr ⟨by decide +kernel, List.forall_mem_append.mpr ⟨List.all_eq_true.mp (by decide +kernel), gt_c_X1_isOf_n⟩⟩
set_option maxHeartbeats 4000000 in
set_option maxRecDepth 100000 in
theorem c_X1_isOf_n (l : Launch) (dC : Nat → ClassId) (dI : Nat → Nat → Nat) (h0 : Nat) (fi : Nat) (ff : Int32) (fo : Int32) (fw : Nat) (p0 : Nat) (sz : Nat) (hfi : fi < 536870912) (hp : fi / 65536 % 1024 ≠ p0) (hp2 : p0 < 1024) : Met l yX1_isOf v_c_X1_isOf_n ({ frames := 0, cells := 0, slots := 0, locals := 0 }) (va_Pc [.ref h0, .int (nI p0)] (fun U => U.heap.size = sz ∧ va_P (dC, dI) vwCl [(h0, .inr (2, [.int (nI fi), .int ff, .int fo, .ref fw]))] U.heap ∧ va_K (dC, dI) vwCl [] U ∧ va_D (fun _ => True) [(h0, .inr (2, [.int (nI fi), .int ff, .int fo, .ref fw]))] ∧ ev U)) (va_Qi (fun (r : Int32) (_ : Unit) => r = 0) (fun (_ : Unit) (_ : State) => True) (va_A [] sz)) 0 0 (va_A [] sz) := by
  refine Met.ofW (cc := cX1_isOf) (maxL := 2) (ret := (some .boolean)) (by decide) rfl ?_
  intro p e s m args below meth c s₁ B hml hv
  obtain ⟨rfl, hsz, hP, hK, hD0, hE⟩ := hv
  have hx := B.exec
  have hb := B.bytes
  have hr := B.returns
  have hts := atoms_spec (ws := v_c_X1_isOf_n) B.pre
  have hown : s.vm.findClass RX1 = some m.cls := findClass_of_methodNamed B.named
  have hlocks := B.notSynchronized
  subst hsz
  have hD := hD0
  generalize hAe : va_A [] s.heap.size = A
  have hA : ∀ q : Nat, s.heap.size ≤ q → A q := fun q h => by rw [← hAe]; exact Or.inr h
  have hS : va_S A s.heap s.heap [] := va_S.rf
  replace hP : va_P (dC, dI) vwCl [(h0, .inr (2, [.int (nI fi), .int ff, .int fo, .ref fw]))] s.heap := hP
  have hl := lv_entry ([.ref h0, .int (nI p0)]) (n := 2) (Nat.le_of_ble_eq_true rfl)
  rw [lg_entry_eq]
  generalize (lg_sl ([.ref h0, .int (nI p0)]) ++ List.replicate (2 - (lg_sl ([.ref h0, .int (nI p0)])).length) Slot.unset).toArray = ls at hl ⊢
  replace hl : lv_has ls 2 [(0, .ref h0), (1, .int (nI p0))] := hl
  obtain ⟨H, hH⟩ : ∃ z : Heap, z = s.heap := ⟨_, rfl⟩
  rw [← hH]
  replace hS : va_S A s.heap H [] := by rw [hH]; exact va_S.rf
  replace hP : va_P (dC, dI) vwCl [(h0, .inr (2, [.int (nI fi), .int ff, .int fo, .ref fw]))] H := by rw [hH]; exact hP
  clear hH
  refine lv_aload_n hx hb dX1_isOf_0 rfl (lv_at hl 0 rfl) ?_
  refine va_get (D := (dC, dI)) (ci := 2) (v := .int (nI fi)) (C := RX1) (T := TX1) (N := 4) hx hb hts in_c_X1_isOf_n_X1 hown hK hP 0 rfl rfl 0 (by decide) (hts (.fieldLink RX1 9 "ClaimBus$Frame" "identifier" "I") (List.mem_of_getElem? (i := 1) rfl)) (fun _ h9 => h9) rfl dX1_isOf_1 ?_
  refine lv_bipush (v := 16) hx hb dX1_isOf_4 (by decide) ?_
  refine lv_iushr (v := (nI (((fi) / 65536)))) hx hb dX1_isOf_6 ((pk_ushrN (n := fi) (by omega) (16 : Int32) 16 (by decide)).trans (show nI (fi / 2 ^ 16) = nI (((fi) / 65536)) from congrArg nI (by omega))) ?_
  refine lv_sipush (v := 1023) hx hb dX1_isOf_7 (by decide) ?_
  refine lv_iand hx hb dX1_isOf_10 ?_
  refine lv_topi (fun x_1 ex_1 => ?_)
  obtain rfl : x_1 = (nI (((((fi) / 65536)) % 1024))) := ex_1.trans ((pk_andN (n := (((fi) / 65536))) (m := 1023) (by omega) 10 (by decide)).trans (show nI ((((fi) / 65536)) % 2 ^ 10) = nI (((((fi) / 65536)) % 1024)) from congrArg nI (by omega)))
  refine lv_iload_n hx hb dX1_isOf_11 rfl (lv_at hl 1 rfl) ?_
  refine lv_icmp_ne (tgt := 19) hx hb dX1_isOf_12 (by decide) (fun c_2 => ?_) (fun c_2 => ?_)
  rotate_left
  · exact absurd ((nI_eq (a := (((((fi) / 65536)) % 1024))) (b := p0) (by omega) (by omega)).mp c_2) (by omega)
  refine lv_iconst (v := 0) hx hb dX1_isOf_19 (by decide) ?_
  exact W.zret (v := 0) hx hb hr (by decide) (fun t ht hW => ⟨⟨0, (), rfl, rfl, trivial⟩, hS.F ht⟩) hS.2.2 dX1_isOf_20

noncomputable def tl_c_X1_isForAll_y : List Cond := wsX10
noncomputable def v_c_X1_isForAll_y : List Cond := .code yX1_isForAll cX1_isForAll 1 (some .boolean) :: ([.fieldLink RX1 9 "ClaimBus$Frame" "identifier" "I"] ++ tl_c_X1_isForAll_y)
theorem it_c_X1_isForAll_y : ∀ w ∈ tl_c_X1_isForAll_y, w ∈ v_c_X1_isForAll_y := fun w h => List.mem_cons_of_mem _ (List.mem_append_right _ h)
theorem in_c_X1_isForAll_y_X1 : ∀ w ∈ wsX10, w ∈ v_c_X1_isForAll_y := fun w h => it_c_X1_isForAll_y w (h)
theorem gt_c_X1_isForAll_y : ∀ w ∈ tl_c_X1_isForAll_y, goodWord w = true := gw_wsX10
theorem gw_c_X1_isForAll_y : ∀ w ∈ v_c_X1_isForAll_y, goodWord w = true := List.forall_mem_cons.mpr ⟨by decide +kernel, List.forall_mem_append.mpr ⟨List.all_eq_true.mp (by decide +kernel), gt_c_X1_isForAll_y⟩⟩
set_option maxHeartbeats 4000000 in
set_option maxRecDepth 100000 in
theorem c_X1_isForAll_y (l : Launch) (dC : Nat → ClassId) (dI : Nat → Nat → Nat) (h0 : Nat) (fi : Nat) (ff : Int32) (fo : Int32) (fw : Nat) (sz : Nat) (hfi : fi < 536870912) (hp : fi / 256 % 256 = 255) : Met l yX1_isForAll v_c_X1_isForAll_y ({ frames := 0, cells := 0, slots := 0, locals := 0 }) (va_Pc [.ref h0] (fun U => U.heap.size = sz ∧ va_P (dC, dI) vwCl [(h0, .inr (2, [.int (nI fi), .int ff, .int fo, .ref fw]))] U.heap ∧ va_K (dC, dI) vwCl [] U ∧ va_D (fun _ => True) [(h0, .inr (2, [.int (nI fi), .int ff, .int fo, .ref fw]))] ∧ ev U)) (va_Qi (fun (r : Int32) (_ : Unit) => r = 1) (fun (_ : Unit) (_ : State) => True) (va_A [] sz)) 0 0 (va_A [] sz) := by
  refine Met.ofW (cc := cX1_isForAll) (maxL := 1) (ret := (some .boolean)) (by decide) rfl ?_
  intro p e s m args below meth c s₁ B hml hv
  obtain ⟨rfl, hsz, hP, hK, hD0, hE⟩ := hv
  have hx := B.exec
  have hb := B.bytes
  have hr := B.returns
  have hts := atoms_spec (ws := v_c_X1_isForAll_y) B.pre
  have hown : s.vm.findClass RX1 = some m.cls := findClass_of_methodNamed B.named
  have hlocks := B.notSynchronized
  subst hsz
  have hD := hD0
  generalize hAe : va_A [] s.heap.size = A
  have hA : ∀ q : Nat, s.heap.size ≤ q → A q := fun q h => by rw [← hAe]; exact Or.inr h
  have hS : va_S A s.heap s.heap [] := va_S.rf
  replace hP : va_P (dC, dI) vwCl [(h0, .inr (2, [.int (nI fi), .int ff, .int fo, .ref fw]))] s.heap := hP
  have hl := lv_entry ([.ref h0]) (n := 1) (Nat.le_of_ble_eq_true rfl)
  rw [lg_entry_eq]
  generalize (lg_sl ([.ref h0]) ++ List.replicate (1 - (lg_sl ([.ref h0])).length) Slot.unset).toArray = ls at hl ⊢
  replace hl : lv_has ls 1 [(0, .ref h0)] := hl
  obtain ⟨H, hH⟩ : ∃ z : Heap, z = s.heap := ⟨_, rfl⟩
  rw [← hH]
  replace hS : va_S A s.heap H [] := by rw [hH]; exact va_S.rf
  replace hP : va_P (dC, dI) vwCl [(h0, .inr (2, [.int (nI fi), .int ff, .int fo, .ref fw]))] H := by rw [hH]; exact hP
  clear hH
  refine lv_aload_n hx hb dX1_isForAll_0 rfl (lv_at hl 0 rfl) ?_
  refine va_get (D := (dC, dI)) (ci := 2) (v := .int (nI fi)) (C := RX1) (T := TX1) (N := 4) hx hb hts in_c_X1_isForAll_y_X1 hown hK hP 0 rfl rfl 0 (by decide) (hts (.fieldLink RX1 9 "ClaimBus$Frame" "identifier" "I") (List.mem_of_getElem? (i := 1) rfl)) (fun _ h9 => h9) rfl dX1_isForAll_1 ?_
  refine lv_bipush (v := 8) hx hb dX1_isForAll_4 (by decide) ?_
  refine lv_iushr (v := (nI (((fi) / 256)))) hx hb dX1_isForAll_6 ((pk_ushrN (n := fi) (by omega) (8 : Int32) 8 (by decide)).trans (show nI (fi / 2 ^ 8) = nI (((fi) / 256)) from congrArg nI (by omega))) ?_
  refine lv_sipush (v := 255) hx hb dX1_isForAll_7 (by decide) ?_
  refine lv_iand hx hb dX1_isForAll_10 ?_
  refine lv_topi (fun x_1 ex_1 => ?_)
  obtain rfl : x_1 = (nI (((((fi) / 256)) % 256))) := ex_1.trans ((pk_andN (n := (((fi) / 256))) (m := 255) (by omega) 8 (by decide)).trans (show nI ((((fi) / 256)) % 2 ^ 8) = nI (((((fi) / 256)) % 256)) from congrArg nI (by omega)))
  refine lv_sipush (v := 255) hx hb dX1_isForAll_11 (by decide) ?_
  refine lv_icmp_ne (tgt := 21) hx hb dX1_isForAll_14 (by decide) (fun c_2 => ?_) (fun c_2 => ?_)
  · exact absurd ((nI_eq (a := (((((fi) / 256)) % 256))) (b := 255) (by omega) (by omega)).mpr (by omega)) c_2
  refine lv_iconst (v := 1) hx hb dX1_isForAll_17 (by decide) ?_
  refine lv_goto (tgt := 22) hx hb dX1_isForAll_18 (by decide) ?_
  exact W.zret (v := 1) hx hb hr (by decide) (fun t ht hW => ⟨⟨1, (), rfl, rfl, trivial⟩, hS.F ht⟩) hS.2.2 dX1_isForAll_22

noncomputable def tl_c_X1_isForAll_n : List Cond := wsX10
noncomputable def v_c_X1_isForAll_n : List Cond := .code yX1_isForAll cX1_isForAll 1 (some .boolean) :: ([.fieldLink RX1 9 "ClaimBus$Frame" "identifier" "I"] ++ tl_c_X1_isForAll_n)
theorem it_c_X1_isForAll_n : ∀ w ∈ tl_c_X1_isForAll_n, w ∈ v_c_X1_isForAll_n := fun w h => List.mem_cons_of_mem _ (List.mem_append_right _ h)
theorem in_c_X1_isForAll_n_X1 : ∀ w ∈ wsX10, w ∈ v_c_X1_isForAll_n := fun w h => it_c_X1_isForAll_n w (h)
theorem gt_c_X1_isForAll_n : ∀ w ∈ tl_c_X1_isForAll_n, goodWord w = true := gw_wsX10
theorem gw_c_X1_isForAll_n : ∀ w ∈ v_c_X1_isForAll_n, goodWord w = true := List.forall_mem_cons.mpr ⟨by decide +kernel, List.forall_mem_append.mpr ⟨List.all_eq_true.mp (by decide +kernel), gt_c_X1_isForAll_n⟩⟩
set_option maxHeartbeats 4000000 in
set_option maxRecDepth 100000 in
theorem c_X1_isForAll_n (l : Launch) (dC : Nat → ClassId) (dI : Nat → Nat → Nat) (h0 : Nat) (fi : Nat) (ff : Int32) (fo : Int32) (fw : Nat) (sz : Nat) (hfi : fi < 536870912) (hp : fi / 256 % 256 ≠ 255) : Met l yX1_isForAll v_c_X1_isForAll_n ({ frames := 0, cells := 0, slots := 0, locals := 0 }) (va_Pc [.ref h0] (fun U => U.heap.size = sz ∧ va_P (dC, dI) vwCl [(h0, .inr (2, [.int (nI fi), .int ff, .int fo, .ref fw]))] U.heap ∧ va_K (dC, dI) vwCl [] U ∧ va_D (fun _ => True) [(h0, .inr (2, [.int (nI fi), .int ff, .int fo, .ref fw]))] ∧ ev U)) (va_Qi (fun (r : Int32) (_ : Unit) => r = 0) (fun (_ : Unit) (_ : State) => True) (va_A [] sz)) 0 0 (va_A [] sz) := by
  refine Met.ofW (cc := cX1_isForAll) (maxL := 1) (ret := (some .boolean)) (by decide) rfl ?_
  intro p e s m args below meth c s₁ B hml hv
  obtain ⟨rfl, hsz, hP, hK, hD0, hE⟩ := hv
  have hx := B.exec
  have hb := B.bytes
  have hr := B.returns
  have hts := atoms_spec (ws := v_c_X1_isForAll_n) B.pre
  have hown : s.vm.findClass RX1 = some m.cls := findClass_of_methodNamed B.named
  have hlocks := B.notSynchronized
  subst hsz
  have hD := hD0
  generalize hAe : va_A [] s.heap.size = A
  have hA : ∀ q : Nat, s.heap.size ≤ q → A q := fun q h => by rw [← hAe]; exact Or.inr h
  have hS : va_S A s.heap s.heap [] := va_S.rf
  replace hP : va_P (dC, dI) vwCl [(h0, .inr (2, [.int (nI fi), .int ff, .int fo, .ref fw]))] s.heap := hP
  have hl := lv_entry ([.ref h0]) (n := 1) (Nat.le_of_ble_eq_true rfl)
  rw [lg_entry_eq]
  generalize (lg_sl ([.ref h0]) ++ List.replicate (1 - (lg_sl ([.ref h0])).length) Slot.unset).toArray = ls at hl ⊢
  replace hl : lv_has ls 1 [(0, .ref h0)] := hl
  obtain ⟨H, hH⟩ : ∃ z : Heap, z = s.heap := ⟨_, rfl⟩
  rw [← hH]
  replace hS : va_S A s.heap H [] := by rw [hH]; exact va_S.rf
  replace hP : va_P (dC, dI) vwCl [(h0, .inr (2, [.int (nI fi), .int ff, .int fo, .ref fw]))] H := by rw [hH]; exact hP
  clear hH
  refine lv_aload_n hx hb dX1_isForAll_0 rfl (lv_at hl 0 rfl) ?_
  refine va_get (D := (dC, dI)) (ci := 2) (v := .int (nI fi)) (C := RX1) (T := TX1) (N := 4) hx hb hts in_c_X1_isForAll_n_X1 hown hK hP 0 rfl rfl 0 (by decide) (hts (.fieldLink RX1 9 "ClaimBus$Frame" "identifier" "I") (List.mem_of_getElem? (i := 1) rfl)) (fun _ h9 => h9) rfl dX1_isForAll_1 ?_
  refine lv_bipush (v := 8) hx hb dX1_isForAll_4 (by decide) ?_
  refine lv_iushr (v := (nI (((fi) / 256)))) hx hb dX1_isForAll_6 ((pk_ushrN (n := fi) (by omega) (8 : Int32) 8 (by decide)).trans (show nI (fi / 2 ^ 8) = nI (((fi) / 256)) from congrArg nI (by omega))) ?_
  refine lv_sipush (v := 255) hx hb dX1_isForAll_7 (by decide) ?_
  refine lv_iand hx hb dX1_isForAll_10 ?_
  refine lv_topi (fun x_1 ex_1 => ?_)
  obtain rfl : x_1 = (nI (((((fi) / 256)) % 256))) := ex_1.trans ((pk_andN (n := (((fi) / 256))) (m := 255) (by omega) 8 (by decide)).trans (show nI ((((fi) / 256)) % 2 ^ 8) = nI (((((fi) / 256)) % 256)) from congrArg nI (by omega)))
  refine lv_sipush (v := 255) hx hb dX1_isForAll_11 (by decide) ?_
  refine lv_icmp_ne (tgt := 21) hx hb dX1_isForAll_14 (by decide) (fun c_2 => ?_) (fun c_2 => ?_)
  rotate_left
  · exact absurd ((nI_eq (a := (((((fi) / 256)) % 256))) (b := 255) (by omega) (by omega)).mp c_2) (by omega)
  refine lv_iconst (v := 0) hx hb dX1_isForAll_21 (by decide) ?_
  exact W.zret (v := 0) hx hb hr (by decide) (fun t ht hW => ⟨⟨0, (), rfl, rfl, trivial⟩, hS.F ht⟩) hS.2.2 dX1_isForAll_22

noncomputable def tl_c_X1_isFor_a : List Cond := wsX10
noncomputable def v_c_X1_isFor_a : List Cond := .code yX1_isFor cX1_isFor 4 (some .boolean) :: ([.fieldLink RX1 9 "ClaimBus$Frame" "identifier" "I"] ++ tl_c_X1_isFor_a)
theorem it_c_X1_isFor_a : ∀ w ∈ tl_c_X1_isFor_a, w ∈ v_c_X1_isFor_a := fun w h => List.mem_cons_of_mem _ (List.mem_append_right _ h)
theorem in_c_X1_isFor_a_X1 : ∀ w ∈ wsX10, w ∈ v_c_X1_isFor_a := fun w h => it_c_X1_isFor_a w (h)
theorem gt_c_X1_isFor_a : ∀ w ∈ tl_c_X1_isFor_a, goodWord w = true := gw_wsX10
theorem gw_c_X1_isFor_a : ∀ w ∈ v_c_X1_isFor_a, goodWord w = true := List.forall_mem_cons.mpr ⟨by decide +kernel, List.forall_mem_append.mpr ⟨List.all_eq_true.mp (by decide +kernel), gt_c_X1_isFor_a⟩⟩
set_option maxHeartbeats 4000000 in
set_option maxRecDepth 100000 in
theorem c_X1_isFor_a (l : Launch) (dC : Nat → ClassId) (dI : Nat → Nat → Nat) (h0 : Nat) (fi : Nat) (ff : Int32) (fo : Int32) (fw : Nat) (p0 : Nat) (sz : Nat) (hfi : fi < 536870912) (hp : fi / 256 % 256 = 255) (hp2 : fi / 65536 % 256 < 240) (hp3 : p0 < 256) : Met l yX1_isFor v_c_X1_isFor_a ({ frames := 0, cells := 0, slots := 0, locals := 0 }) (va_Pc [.ref h0, .int (nI p0)] (fun U => U.heap.size = sz ∧ va_P (dC, dI) vwCl [(h0, .inr (2, [.int (nI fi), .int ff, .int fo, .ref fw]))] U.heap ∧ va_K (dC, dI) vwCl [] U ∧ va_D (fun _ => True) [(h0, .inr (2, [.int (nI fi), .int ff, .int fo, .ref fw]))] ∧ ev U)) (va_Qi (fun (r : Int32) (_ : Unit) => r = 1) (fun (_ : Unit) (_ : State) => True) (va_A [] sz)) 0 0 (va_A [] sz) := by
  refine Met.ofW (cc := cX1_isFor) (maxL := 4) (ret := (some .boolean)) (by decide) rfl ?_
  intro p e s m args below meth c s₁ B hml hv
  obtain ⟨rfl, hsz, hP, hK, hD0, hE⟩ := hv
  have hx := B.exec
  have hb := B.bytes
  have hr := B.returns
  have hts := atoms_spec (ws := v_c_X1_isFor_a) B.pre
  have hown : s.vm.findClass RX1 = some m.cls := findClass_of_methodNamed B.named
  have hlocks := B.notSynchronized
  subst hsz
  have hD := hD0
  generalize hAe : va_A [] s.heap.size = A
  have hA : ∀ q : Nat, s.heap.size ≤ q → A q := fun q h => by rw [← hAe]; exact Or.inr h
  have hS : va_S A s.heap s.heap [] := va_S.rf
  replace hP : va_P (dC, dI) vwCl [(h0, .inr (2, [.int (nI fi), .int ff, .int fo, .ref fw]))] s.heap := hP
  have hl := lv_entry ([.ref h0, .int (nI p0)]) (n := 4) (Nat.le_of_ble_eq_true rfl)
  rw [lg_entry_eq]
  generalize (lg_sl ([.ref h0, .int (nI p0)]) ++ List.replicate (4 - (lg_sl ([.ref h0, .int (nI p0)])).length) Slot.unset).toArray = ls at hl ⊢
  replace hl : lv_has ls 4 [(0, .ref h0), (1, .int (nI p0))] := hl
  obtain ⟨H, hH⟩ : ∃ z : Heap, z = s.heap := ⟨_, rfl⟩
  rw [← hH]
  replace hS : va_S A s.heap H [] := by rw [hH]; exact va_S.rf
  replace hP : va_P (dC, dI) vwCl [(h0, .inr (2, [.int (nI fi), .int ff, .int fo, .ref fw]))] H := by rw [hH]; exact hP
  clear hH
  refine lv_aload_n hx hb dX1_isFor_0 rfl (lv_at hl 0 rfl) ?_
  refine va_get (D := (dC, dI)) (ci := 2) (v := .int (nI fi)) (C := RX1) (T := TX1) (N := 4) hx hb hts in_c_X1_isFor_a_X1 hown hK hP 0 rfl rfl 0 (by decide) (hts (.fieldLink RX1 9 "ClaimBus$Frame" "identifier" "I") (List.mem_of_getElem? (i := 1) rfl)) (fun _ h9 => h9) rfl dX1_isFor_1 ?_
  refine lv_bipush (v := 8) hx hb dX1_isFor_4 (by decide) ?_
  refine lv_iushr (v := (nI (((fi) / 256)))) hx hb dX1_isFor_6 ((pk_ushrN (n := fi) (by omega) (8 : Int32) 8 (by decide)).trans (show nI (fi / 2 ^ 8) = nI (((fi) / 256)) from congrArg nI (by omega))) ?_
  refine lv_sipush (v := 255) hx hb dX1_isFor_7 (by decide) ?_
  refine lv_iand hx hb dX1_isFor_10 ?_
  refine lv_topi (fun x_1 ex_1 => ?_)
  obtain rfl : x_1 = (nI (((((fi) / 256)) % 256))) := ex_1.trans ((pk_andN (n := (((fi) / 256))) (m := 255) (by omega) 8 (by decide)).trans (show nI ((((fi) / 256)) % 2 ^ 8) = nI (((((fi) / 256)) % 256)) from congrArg nI (by omega)))
  refine lv_istore_n (lv' := [(2, .int (nI (((((fi) / 256)) % 256)))), (0, .ref h0), (1, .int (nI p0))]) hx hb dX1_isFor_11 rfl hl (by decide) rfl (fun ls hl => ?_)
  refine lv_aload_n hx hb dX1_isFor_12 rfl (lv_at hl 1 rfl) ?_
  refine va_get (D := (dC, dI)) (ci := 2) (v := .int (nI fi)) (C := RX1) (T := TX1) (N := 4) hx hb hts in_c_X1_isFor_a_X1 hown hK hP 0 rfl rfl 0 (by decide) (hts (.fieldLink RX1 9 "ClaimBus$Frame" "identifier" "I") (List.mem_of_getElem? (i := 1) rfl)) (fun _ h9 => h9) rfl dX1_isFor_13 ?_
  refine lv_bipush (v := 16) hx hb dX1_isFor_16 (by decide) ?_
  refine lv_iushr (v := (nI (((fi) / 65536)))) hx hb dX1_isFor_18 ((pk_ushrN (n := fi) (by omega) (16 : Int32) 16 (by decide)).trans (show nI (fi / 2 ^ 16) = nI (((fi) / 65536)) from congrArg nI (by omega))) ?_
  refine lv_sipush (v := 255) hx hb dX1_isFor_19 (by decide) ?_
  refine lv_iand hx hb dX1_isFor_22 ?_
  refine lv_topi (fun x_2 ex_2 => ?_)
  obtain rfl : x_2 = (nI (((((fi) / 65536)) % 256))) := ex_2.trans ((pk_andN (n := (((fi) / 65536))) (m := 255) (by omega) 8 (by decide)).trans (show nI ((((fi) / 65536)) % 2 ^ 8) = nI (((((fi) / 65536)) % 256)) from congrArg nI (by omega)))
  refine lv_sipush (v := 240) hx hb dX1_isFor_23 (by decide) ?_
  refine lv_icmp_ge (tgt := 33) hx hb dX1_isFor_26 (by decide) (fun c_3 => ?_) (fun c_3 => ?_)
  · exact absurd ((nI_leI (a := 240) (b := (((((fi) / 65536)) % 256))) (by omega) (by omega)).mp c_3) (by omega)
  refine lv_iconst (v := 1) hx hb dX1_isFor_29 (by decide) ?_
  refine lv_goto (tgt := 34) hx hb dX1_isFor_30 (by decide) ?_
  refine lv_istore_n (lv' := [(3, .int 1), (2, .int (nI (((((fi) / 256)) % 256)))), (0, .ref h0), (1, .int (nI p0))]) hx hb dX1_isFor_34 rfl hl (by decide) rfl (fun ls hl => ?_)
  refine lv_iload_n hx hb dX1_isFor_35 rfl (lv_at hl 0 rfl) ?_
  refine lv_if_eq (tgt := 51) hx hb dX1_isFor_36 (by decide) (fun c_4 => ?_) (fun c_4 => ?_)
  · exact absurd c_4 (by decide)
  refine lv_iload_n hx hb dX1_isFor_39 rfl (lv_at hl 1 rfl) ?_
  refine lv_sipush (v := 255) hx hb dX1_isFor_40 (by decide) ?_
  refine lv_icmp_eq (tgt := 51) hx hb dX1_isFor_43 (by decide) (fun c_5 => ?_) (fun c_5 => ?_)
  rotate_left
  · exact absurd ((nI_eq (a := (((((fi) / 256)) % 256))) (b := 255) (by omega) (by omega)).mpr (by omega)) c_5
  refine lv_iconst (v := 1) hx hb dX1_isFor_51 (by decide) ?_
  refine lv_goto (tgt := 56) hx hb dX1_isFor_52 (by decide) ?_
  exact W.zret (v := 1) hx hb hr (by decide) (fun t ht hW => ⟨⟨1, (), rfl, rfl, trivial⟩, hS.F ht⟩) hS.2.2 dX1_isFor_56

noncomputable def tl_c_X1_isFor_o : List Cond := wsX10
noncomputable def v_c_X1_isFor_o : List Cond := .code yX1_isFor cX1_isFor 4 (some .boolean) :: ([.fieldLink RX1 9 "ClaimBus$Frame" "identifier" "I"] ++ tl_c_X1_isFor_o)
theorem it_c_X1_isFor_o : ∀ w ∈ tl_c_X1_isFor_o, w ∈ v_c_X1_isFor_o := fun w h => List.mem_cons_of_mem _ (List.mem_append_right _ h)
theorem in_c_X1_isFor_o_X1 : ∀ w ∈ wsX10, w ∈ v_c_X1_isFor_o := fun w h => it_c_X1_isFor_o w (h)
theorem gt_c_X1_isFor_o : ∀ w ∈ tl_c_X1_isFor_o, goodWord w = true := gw_wsX10
theorem gw_c_X1_isFor_o : ∀ w ∈ v_c_X1_isFor_o, goodWord w = true := List.forall_mem_cons.mpr ⟨by decide +kernel, List.forall_mem_append.mpr ⟨List.all_eq_true.mp (by decide +kernel), gt_c_X1_isFor_o⟩⟩
set_option maxHeartbeats 4000000 in
set_option maxRecDepth 100000 in
theorem c_X1_isFor_o (l : Launch) (dC : Nat → ClassId) (dI : Nat → Nat → Nat) (h0 : Nat) (fi : Nat) (ff : Int32) (fo : Int32) (fw : Nat) (p0 : Nat) (sz : Nat) (hfi : fi < 536870912) (hp : fi / 256 % 256 = p0) (hp0 : p0 ≠ 255) (hp2 : fi / 65536 % 256 < 240) (hp3 : p0 < 256) : Met l yX1_isFor v_c_X1_isFor_o ({ frames := 0, cells := 0, slots := 0, locals := 0 }) (va_Pc [.ref h0, .int (nI p0)] (fun U => U.heap.size = sz ∧ va_P (dC, dI) vwCl [(h0, .inr (2, [.int (nI fi), .int ff, .int fo, .ref fw]))] U.heap ∧ va_K (dC, dI) vwCl [] U ∧ va_D (fun _ => True) [(h0, .inr (2, [.int (nI fi), .int ff, .int fo, .ref fw]))] ∧ ev U)) (va_Qi (fun (r : Int32) (_ : Unit) => r = 1) (fun (_ : Unit) (_ : State) => True) (va_A [] sz)) 0 0 (va_A [] sz) := by
  refine Met.ofW (cc := cX1_isFor) (maxL := 4) (ret := (some .boolean)) (by decide) rfl ?_
  intro p e s m args below meth c s₁ B hml hv
  obtain ⟨rfl, hsz, hP, hK, hD0, hE⟩ := hv
  have hx := B.exec
  have hb := B.bytes
  have hr := B.returns
  have hts := atoms_spec (ws := v_c_X1_isFor_o) B.pre
  have hown : s.vm.findClass RX1 = some m.cls := findClass_of_methodNamed B.named
  have hlocks := B.notSynchronized
  subst hsz
  have hD := hD0
  generalize hAe : va_A [] s.heap.size = A
  have hA : ∀ q : Nat, s.heap.size ≤ q → A q := fun q h => by rw [← hAe]; exact Or.inr h
  have hS : va_S A s.heap s.heap [] := va_S.rf
  replace hP : va_P (dC, dI) vwCl [(h0, .inr (2, [.int (nI fi), .int ff, .int fo, .ref fw]))] s.heap := hP
  have hl := lv_entry ([.ref h0, .int (nI p0)]) (n := 4) (Nat.le_of_ble_eq_true rfl)
  rw [lg_entry_eq]
  generalize (lg_sl ([.ref h0, .int (nI p0)]) ++ List.replicate (4 - (lg_sl ([.ref h0, .int (nI p0)])).length) Slot.unset).toArray = ls at hl ⊢
  replace hl : lv_has ls 4 [(0, .ref h0), (1, .int (nI p0))] := hl
  obtain ⟨H, hH⟩ : ∃ z : Heap, z = s.heap := ⟨_, rfl⟩
  rw [← hH]
  replace hS : va_S A s.heap H [] := by rw [hH]; exact va_S.rf
  replace hP : va_P (dC, dI) vwCl [(h0, .inr (2, [.int (nI fi), .int ff, .int fo, .ref fw]))] H := by rw [hH]; exact hP
  clear hH
  refine lv_aload_n hx hb dX1_isFor_0 rfl (lv_at hl 0 rfl) ?_
  refine va_get (D := (dC, dI)) (ci := 2) (v := .int (nI fi)) (C := RX1) (T := TX1) (N := 4) hx hb hts in_c_X1_isFor_o_X1 hown hK hP 0 rfl rfl 0 (by decide) (hts (.fieldLink RX1 9 "ClaimBus$Frame" "identifier" "I") (List.mem_of_getElem? (i := 1) rfl)) (fun _ h9 => h9) rfl dX1_isFor_1 ?_
  refine lv_bipush (v := 8) hx hb dX1_isFor_4 (by decide) ?_
  refine lv_iushr (v := (nI (((fi) / 256)))) hx hb dX1_isFor_6 ((pk_ushrN (n := fi) (by omega) (8 : Int32) 8 (by decide)).trans (show nI (fi / 2 ^ 8) = nI (((fi) / 256)) from congrArg nI (by omega))) ?_
  refine lv_sipush (v := 255) hx hb dX1_isFor_7 (by decide) ?_
  refine lv_iand hx hb dX1_isFor_10 ?_
  refine lv_topi (fun x_1 ex_1 => ?_)
  obtain rfl : x_1 = (nI (((((fi) / 256)) % 256))) := ex_1.trans ((pk_andN (n := (((fi) / 256))) (m := 255) (by omega) 8 (by decide)).trans (show nI ((((fi) / 256)) % 2 ^ 8) = nI (((((fi) / 256)) % 256)) from congrArg nI (by omega)))
  refine lv_istore_n (lv' := [(2, .int (nI (((((fi) / 256)) % 256)))), (0, .ref h0), (1, .int (nI p0))]) hx hb dX1_isFor_11 rfl hl (by decide) rfl (fun ls hl => ?_)
  refine lv_aload_n hx hb dX1_isFor_12 rfl (lv_at hl 1 rfl) ?_
  refine va_get (D := (dC, dI)) (ci := 2) (v := .int (nI fi)) (C := RX1) (T := TX1) (N := 4) hx hb hts in_c_X1_isFor_o_X1 hown hK hP 0 rfl rfl 0 (by decide) (hts (.fieldLink RX1 9 "ClaimBus$Frame" "identifier" "I") (List.mem_of_getElem? (i := 1) rfl)) (fun _ h9 => h9) rfl dX1_isFor_13 ?_
  refine lv_bipush (v := 16) hx hb dX1_isFor_16 (by decide) ?_
  refine lv_iushr (v := (nI (((fi) / 65536)))) hx hb dX1_isFor_18 ((pk_ushrN (n := fi) (by omega) (16 : Int32) 16 (by decide)).trans (show nI (fi / 2 ^ 16) = nI (((fi) / 65536)) from congrArg nI (by omega))) ?_
  refine lv_sipush (v := 255) hx hb dX1_isFor_19 (by decide) ?_
  refine lv_iand hx hb dX1_isFor_22 ?_
  refine lv_topi (fun x_2 ex_2 => ?_)
  obtain rfl : x_2 = (nI (((((fi) / 65536)) % 256))) := ex_2.trans ((pk_andN (n := (((fi) / 65536))) (m := 255) (by omega) 8 (by decide)).trans (show nI ((((fi) / 65536)) % 2 ^ 8) = nI (((((fi) / 65536)) % 256)) from congrArg nI (by omega)))
  refine lv_sipush (v := 240) hx hb dX1_isFor_23 (by decide) ?_
  refine lv_icmp_ge (tgt := 33) hx hb dX1_isFor_26 (by decide) (fun c_3 => ?_) (fun c_3 => ?_)
  · exact absurd ((nI_leI (a := 240) (b := (((((fi) / 65536)) % 256))) (by omega) (by omega)).mp c_3) (by omega)
  refine lv_iconst (v := 1) hx hb dX1_isFor_29 (by decide) ?_
  refine lv_goto (tgt := 34) hx hb dX1_isFor_30 (by decide) ?_
  refine lv_istore_n (lv' := [(3, .int 1), (2, .int (nI (((((fi) / 256)) % 256)))), (0, .ref h0), (1, .int (nI p0))]) hx hb dX1_isFor_34 rfl hl (by decide) rfl (fun ls hl => ?_)
  refine lv_iload_n hx hb dX1_isFor_35 rfl (lv_at hl 0 rfl) ?_
  refine lv_if_eq (tgt := 51) hx hb dX1_isFor_36 (by decide) (fun c_4 => ?_) (fun c_4 => ?_)
  · exact absurd c_4 (by decide)
  refine lv_iload_n hx hb dX1_isFor_39 rfl (lv_at hl 1 rfl) ?_
  refine lv_sipush (v := 255) hx hb dX1_isFor_40 (by decide) ?_
  refine lv_icmp_eq (tgt := 51) hx hb dX1_isFor_43 (by decide) (fun c_5 => ?_) (fun c_5 => ?_)
  · exact absurd ((nI_eq (a := (((((fi) / 256)) % 256))) (b := 255) (by omega) (by omega)).mp c_5) (by omega)
  refine lv_iload_n hx hb dX1_isFor_46 rfl (lv_at hl 1 rfl) ?_
  refine lv_iload_n hx hb dX1_isFor_47 rfl (lv_at hl 3 rfl) ?_
  refine lv_icmp_ne (tgt := 55) hx hb dX1_isFor_48 (by decide) (fun c_6 => ?_) (fun c_6 => ?_)
  · exact absurd ((nI_eq (a := (((((fi) / 256)) % 256))) (b := p0) (by omega) (by omega)).mpr (by omega)) c_6
  refine lv_iconst (v := 1) hx hb dX1_isFor_51 (by decide) ?_
  refine lv_goto (tgt := 56) hx hb dX1_isFor_52 (by decide) ?_
  exact W.zret (v := 1) hx hb hr (by decide) (fun t ht hW => ⟨⟨1, (), rfl, rfl, trivial⟩, hS.F ht⟩) hS.2.2 dX1_isFor_56

noncomputable def tl_c_X1_writeN : List Cond := wsX10
noncomputable def v_c_X1_writeN : List Cond := .code yX1_write cX1_write 5 none :: ([.fieldLink RX1 9 "ClaimBus$Frame" "identifier" "I", .fieldLink RX1 15 "ClaimBus$Frame" "first" "I", .fieldLink RX1 18 "ClaimBus$Frame" "others" "I", .fieldLink RX1 21 "ClaimBus$Frame" "whole" "LClaimBus$Message;"] ++ tl_c_X1_writeN)
theorem it_c_X1_writeN : ∀ w ∈ tl_c_X1_writeN, w ∈ v_c_X1_writeN := fun w h => List.mem_cons_of_mem _ (List.mem_append_right _ h)
theorem in_c_X1_writeN_X1 : ∀ w ∈ wsX10, w ∈ v_c_X1_writeN := fun w h => it_c_X1_writeN w (h)
theorem gt_c_X1_writeN : ∀ w ∈ tl_c_X1_writeN, goodWord w = true := gw_wsX10
theorem gw_c_X1_writeN : ∀ w ∈ v_c_X1_writeN, goodWord w = true := List.forall_mem_cons.mpr ⟨by decide +kernel, List.forall_mem_append.mpr ⟨List.all_eq_true.mp (by decide +kernel), gt_c_X1_writeN⟩⟩
set_option maxHeartbeats 4000000 in
set_option maxRecDepth 100000 in
/-- Frame.write -/
theorem c_X1_writeN (l : Launch) (dC : Nat → ClassId) (dI : Nat → Nat → Nat) (h0 : Nat) (fi : Nat) (ff : Int32) (fo : Int32) (fw : Nat) (p0 : Nat) (p1 : Int32) (p2 : Int32) (sz : Nat)  : Met l yX1_write v_c_X1_writeN ({ frames := 0, cells := 0, slots := 0, locals := 0 }) (va_Pc [.ref h0, .int (nI p0), .int p1, .int p2, .null] (fun U => U.heap.size = sz ∧ va_P (dC, dI) vwCl [(h0, .inr (2, [.int (nI fi), .int ff, .int fo, .ref fw]))] U.heap ∧ va_K (dC, dI) vwCl [] U ∧ va_D (fun _ => True) [(h0, .inr (2, [.int (nI fi), .int ff, .int fo, .ref fw]))] ∧ ev U)) (va_Qv (fun _ : Unit => True) (fun (_ : Unit) (t : State) => va_P (dC, dI) vwCl [(h0, .inr (2, [.int (nI p0), .int p1, .int p2, .null]))] t.heap ∧ va_K (dC, dI) vwCl [] t ∧ va_D (va_A [(h0, .inr (2, [.int (nI fi), .int ff, .int fo, .ref fw]))] sz) [(h0, .inr (2, [.int (nI p0), .int p1, .int p2, .null]))]) (va_A [(h0, .inr (2, [.int (nI fi), .int ff, .int fo, .ref fw]))] sz)) 0 0 (va_A [(h0, .inr (2, [.int (nI fi), .int ff, .int fo, .ref fw]))] sz) := by
  refine Met.ofW (cc := cX1_write) (maxL := 5) (ret := none) (by decide) rfl ?_
  intro p e s m args below meth c s₁ B hml hv
  obtain ⟨rfl, hsz, hP, hK, hD0, hE⟩ := hv
  have hx := B.exec
  have hb := B.bytes
  have hr := B.returns
  have hts := atoms_spec (ws := v_c_X1_writeN) B.pre
  have hown : s.vm.findClass RX1 = some m.cls := findClass_of_methodNamed B.named
  have hlocks := B.notSynchronized
  subst hsz
  have hD := hD0.self (sz := s.heap.size)
  generalize hAe : va_A [(h0, .inr (2, [.int (nI fi), .int ff, .int fo, .ref fw]))] s.heap.size = A at hD ⊢
  have hA : ∀ q : Nat, s.heap.size ≤ q → A q := fun q h => by rw [← hAe]; exact Or.inr h
  have hS : va_S A s.heap s.heap [] := va_S.rf
  replace hP : va_P (dC, dI) vwCl [(h0, .inr (2, [.int (nI fi), .int ff, .int fo, .ref fw]))] s.heap := hP
  have hl := lv_entry ([.ref h0, .int (nI p0), .int p1, .int p2, .null]) (n := 5) (Nat.le_of_ble_eq_true rfl)
  rw [lg_entry_eq]
  generalize (lg_sl ([.ref h0, .int (nI p0), .int p1, .int p2, .null]) ++ List.replicate (5 - (lg_sl ([.ref h0, .int (nI p0), .int p1, .int p2, .null])).length) Slot.unset).toArray = ls at hl ⊢
  replace hl : lv_has ls 5 [(0, .ref h0), (1, .int (nI p0)), (2, .int p1), (3, .int p2), (4, .null)] := hl
  obtain ⟨H, hH⟩ : ∃ z : Heap, z = s.heap := ⟨_, rfl⟩
  rw [← hH]
  replace hS : va_S A s.heap H [] := by rw [hH]; exact va_S.rf
  replace hP : va_P (dC, dI) vwCl [(h0, .inr (2, [.int (nI fi), .int ff, .int fo, .ref fw]))] H := by rw [hH]; exact hP
  clear hH
  refine lv_aload_n hx hb dX1_write_0 rfl (lv_at hl 0 rfl) ?_
  refine lv_iload_n hx hb dX1_write_1 rfl (lv_at hl 1 rfl) ?_
  refine va_put (D := (dC, dI)) (ci := 2) (v := .int (nI p0)) (ty := .int) (C := RX1) (T := TX1) (N := 4) hx hb hts in_c_X1_writeN_X1 tyX1 tyX1_ok nmX1 hown hK hP hD hS 0 rfl rfl 0 (by decide) (hts (.fieldLink RX1 9 "ClaimBus$Frame" "identifier" "I") (List.mem_of_getElem? (i := 1) rfl)) (fun _ h9 => h9) rfl (by decide +kernel) rfl rfl (Nat.le_of_ble_eq_true rfl) dX1_write_2 (fun H locs hP hD hS => ?_)
  replace hP : va_P (dC, dI) vwCl [(h0, .inr (2, [.int (nI p0), .int ff, .int fo, .ref fw]))] H := hP
  replace hD : va_D A [(h0, .inr (2, [.int (nI p0), .int ff, .int fo, .ref fw]))] := hD
  refine lv_aload_n hx hb dX1_write_5 rfl (lv_at hl 0 rfl) ?_
  refine lv_iload_n hx hb dX1_write_6 rfl (lv_at hl 2 rfl) ?_
  refine va_put (D := (dC, dI)) (ci := 2) (v := .int p1) (ty := .int) (C := RX1) (T := TX1) (N := 4) hx hb hts in_c_X1_writeN_X1 tyX1 tyX1_ok nmX1 hown hK hP hD hS 0 rfl rfl 1 (by decide) (hts (.fieldLink RX1 15 "ClaimBus$Frame" "first" "I") (List.mem_of_getElem? (i := 2) rfl)) (fun _ h9 => h9) rfl (by decide +kernel) rfl rfl (Nat.le_of_ble_eq_true rfl) dX1_write_7 (fun H locs hP hD hS => ?_)
  replace hP : va_P (dC, dI) vwCl [(h0, .inr (2, [.int (nI p0), .int p1, .int fo, .ref fw]))] H := hP
  replace hD : va_D A [(h0, .inr (2, [.int (nI p0), .int p1, .int fo, .ref fw]))] := hD
  refine lv_aload_n hx hb dX1_write_10 rfl (lv_at hl 0 rfl) ?_
  refine lv_iload_n hx hb dX1_write_11 rfl (lv_at hl 3 rfl) ?_
  refine va_put (D := (dC, dI)) (ci := 2) (v := .int p2) (ty := .int) (C := RX1) (T := TX1) (N := 4) hx hb hts in_c_X1_writeN_X1 tyX1 tyX1_ok nmX1 hown hK hP hD hS 0 rfl rfl 2 (by decide) (hts (.fieldLink RX1 18 "ClaimBus$Frame" "others" "I") (List.mem_of_getElem? (i := 3) rfl)) (fun _ h9 => h9) rfl (by decide +kernel) rfl rfl (Nat.le_of_ble_eq_true rfl) dX1_write_12 (fun H locs hP hD hS => ?_)
  replace hP : va_P (dC, dI) vwCl [(h0, .inr (2, [.int (nI p0), .int p1, .int p2, .ref fw]))] H := hP
  replace hD : va_D A [(h0, .inr (2, [.int (nI p0), .int p1, .int p2, .ref fw]))] := hD
  refine lv_aload_n hx hb dX1_write_15 rfl (lv_at hl 0 rfl) ?_
  refine lv_aloadN hx hb dX1_write_16 (lv_at hl 4 rfl) ?_
  refine va_put (D := (dC, dI)) (ci := 2) (v := .null) (ty := (.object "ClaimBus$Message")) (C := RX1) (T := TX1) (N := 4) hx hb hts in_c_X1_writeN_X1 tyX1 tyX1_ok nmX1 hown hK hP hD hS 0 rfl rfl 3 (by decide) (hts (.fieldLink RX1 21 "ClaimBus$Frame" "whole" "LClaimBus$Message;") (List.mem_of_getElem? (i := 4) rfl)) (fun _ h9 => h9) rfl (by decide +kernel) rfl rfl (Nat.le_of_ble_eq_true rfl) dX1_write_18 (fun H locs hP hD hS => ?_)
  replace hP : va_P (dC, dI) vwCl [(h0, .inr (2, [.int (nI p0), .int p1, .int p2, .null]))] H := hP
  replace hD : va_D A [(h0, .inr (2, [.int (nI p0), .int p1, .int p2, .null]))] := hD
  have hP9 := hP.sub (ws' := [(h0, .inr (2, [.int (nI p0), .int p1, .int p2, .null]))]) [0] rfl
  have hD9 := hD.sub (ws' := [(h0, .inr (2, [.int (nI p0), .int p1, .int p2, .null]))]) [0] (by decide +kernel) rfl
  have hK9 := hK.sub (tys' := []) [] rfl
  exact W.vret hx hb hr (fun t ht hW => ⟨⟨(), rfl, trivial, ⟨by rw [ht]; exact hP9, va_K.moved hW.alike hK9, hD9⟩⟩, hS.F ht⟩) hS.2.2 dX1_write_21

noncomputable def tl_c_X1_takeOverN : List Cond := wsX10 ++ (v_c_X1_writeN)
noncomputable def v_c_X1_takeOverN : List Cond := .code yX1_takeOver cX1_takeOver 2 none :: ([.fieldLink RX1 9 "ClaimBus$Frame" "identifier" "I", .fieldLink RX1 15 "ClaimBus$Frame" "first" "I", .fieldLink RX1 18 "ClaimBus$Frame" "others" "I", .fieldLink RX1 21 "ClaimBus$Frame" "whole" "LClaimBus$Message;", .initialized RX1, .methodLink RX1 25 yX1_write, .instanceMethod yX1_write, .selects RX1 yX1_write yX1_write] ++ tl_c_X1_takeOverN)
theorem it_c_X1_takeOverN : ∀ w ∈ tl_c_X1_takeOverN, w ∈ v_c_X1_takeOverN := fun w h => List.mem_cons_of_mem _ (List.mem_append_right _ h)
theorem in_c_X1_takeOverN_X1 : ∀ w ∈ wsX10, w ∈ v_c_X1_takeOverN := fun w h => it_c_X1_takeOverN w (List.mem_append_left _ h)
theorem ic_c_X1_takeOverN_c_X1_writeN : ∀ w ∈ v_c_X1_writeN, w ∈ v_c_X1_takeOverN := fun w h => it_c_X1_takeOverN w (List.mem_append_right _ (h))
theorem gt_c_X1_takeOverN : ∀ w ∈ tl_c_X1_takeOverN, goodWord w = true := List.forall_mem_append.mpr ⟨gw_wsX10, gw_c_X1_writeN⟩
theorem gw_c_X1_takeOverN : ∀ w ∈ v_c_X1_takeOverN, goodWord w = true := List.forall_mem_cons.mpr ⟨by decide +kernel, List.forall_mem_append.mpr ⟨List.all_eq_true.mp (by decide +kernel), gt_c_X1_takeOverN⟩⟩
theorem g_c_X1_takeOverN_c_X1_writeN_25 : GoodIn v_c_X1_takeOverN (wsV RX1 25 RX1 yX1_write v_c_X1_writeN) := goodIn_app (goodIn_r [.methodLink RX1 25 yX1_write, .instanceMethod yX1_write, .selects RX1 yX1_write yX1_write, .initialized RX1] [6, 7, 8, 5] (by decide +kernel) (by decide +kernel)) (fun w h => ⟨ic_c_X1_takeOverN_c_X1_writeN w h, good_of_word (gw_c_X1_writeN w h)⟩)
set_option maxHeartbeats 4000000 in
set_option maxRecDepth 100000 in
/-- Frame.takeOver -/
theorem c_X1_takeOverN (l : Launch) (dC : Nat → ClassId) (dI : Nat → Nat → Nat) (h0 : Nat) (fi : Nat) (ff : Int32) (fo : Int32) (fw : Nat) (h1 : Nat) (gi : Nat) (gf : Int32) (go : Int32) (sz : Nat)  : Met l yX1_takeOver v_c_X1_takeOverN ({ frames := 1, cells := 0, slots := 0, locals := 24 }) (va_Pc [.ref h0, .ref h1] (fun U => U.heap.size = sz ∧ va_P (dC, dI) vwCl [(h0, .inr (2, [.int (nI fi), .int ff, .int fo, .ref fw])), (h1, .inr (2, [.int (nI gi), .int gf, .int go, .null]))] U.heap ∧ va_K (dC, dI) vwCl [] U ∧ va_D (fun _ => True) [(h0, .inr (2, [.int (nI fi), .int ff, .int fo, .ref fw])), (h1, .inr (2, [.int (nI gi), .int gf, .int go, .null]))] ∧ ev U)) (va_Qv (fun _ : Unit => True) (fun (_ : Unit) (t : State) => va_P (dC, dI) vwCl [(h0, .inr (2, [.int (nI gi), .int gf, .int go, .null])), (h1, .inr (2, [.int (nI gi), .int gf, .int go, .null]))] t.heap ∧ va_K (dC, dI) vwCl [] t ∧ va_D (va_A [(h0, .inr (2, [.int (nI fi), .int ff, .int fo, .ref fw])), (h1, .inr (2, [.int (nI gi), .int gf, .int go, .null]))] sz) [(h0, .inr (2, [.int (nI gi), .int gf, .int go, .null])), (h1, .inr (2, [.int (nI gi), .int gf, .int go, .null]))]) (va_A [(h0, .inr (2, [.int (nI fi), .int ff, .int fo, .ref fw])), (h1, .inr (2, [.int (nI gi), .int gf, .int go, .null]))] sz)) 0 0 (va_A [(h0, .inr (2, [.int (nI fi), .int ff, .int fo, .ref fw])), (h1, .inr (2, [.int (nI gi), .int gf, .int go, .null]))] sz) := by
  refine Met.ofW (cc := cX1_takeOver) (maxL := 2) (ret := none) (by decide) rfl ?_
  intro p e s m args below meth c s₁ B hml hv
  obtain ⟨rfl, hsz, hP, hK, hD0, hE⟩ := hv
  have hx := B.exec
  have hb := B.bytes
  have hr := B.returns
  have hts := atoms_spec (ws := v_c_X1_takeOverN) B.pre
  have hown : s.vm.findClass RX1 = some m.cls := findClass_of_methodNamed B.named
  have hlocks := B.notSynchronized
  subst hsz
  have hD := hD0.self (sz := s.heap.size)
  generalize hAe : va_A [(h0, .inr (2, [.int (nI fi), .int ff, .int fo, .ref fw])), (h1, .inr (2, [.int (nI gi), .int gf, .int go, .null]))] s.heap.size = A at hD ⊢
  have hA : ∀ q : Nat, s.heap.size ≤ q → A q := fun q h => by rw [← hAe]; exact Or.inr h
  have hS : va_S A s.heap s.heap [] := va_S.rf
  replace hP : va_P (dC, dI) vwCl [(h0, .inr (2, [.int (nI fi), .int ff, .int fo, .ref fw])), (h1, .inr (2, [.int (nI gi), .int gf, .int go, .null]))] s.heap := hP
  have hl := lv_entry ([.ref h0, .ref h1]) (n := 2) (Nat.le_of_ble_eq_true rfl)
  rw [lg_entry_eq]
  generalize (lg_sl ([.ref h0, .ref h1]) ++ List.replicate (2 - (lg_sl ([.ref h0, .ref h1])).length) Slot.unset).toArray = ls at hl ⊢
  replace hl : lv_has ls 2 [(0, .ref h0), (1, .ref h1)] := hl
  obtain ⟨H, hH⟩ : ∃ z : Heap, z = s.heap := ⟨_, rfl⟩
  rw [← hH]
  replace hS : va_S A s.heap H [] := by rw [hH]; exact va_S.rf
  replace hP : va_P (dC, dI) vwCl [(h0, .inr (2, [.int (nI fi), .int ff, .int fo, .ref fw])), (h1, .inr (2, [.int (nI gi), .int gf, .int go, .null]))] H := by rw [hH]; exact hP
  clear hH
  refine lv_aload_n hx hb dX1_takeOver_0 rfl (lv_at hl 0 rfl) ?_
  refine lv_aload_n hx hb dX1_takeOver_1 rfl (lv_at hl 1 rfl) ?_
  refine va_get (D := (dC, dI)) (ci := 2) (v := .int (nI gi)) (C := RX1) (T := TX1) (N := 4) hx hb hts in_c_X1_takeOverN_X1 hown hK hP 1 rfl rfl 0 (by decide) (hts (.fieldLink RX1 9 "ClaimBus$Frame" "identifier" "I") (List.mem_of_getElem? (i := 1) rfl)) (fun _ h9 => h9) rfl dX1_takeOver_2 ?_
  refine lv_aload_n hx hb dX1_takeOver_5 rfl (lv_at hl 1 rfl) ?_
  refine va_get (D := (dC, dI)) (ci := 2) (v := .int gf) (C := RX1) (T := TX1) (N := 4) hx hb hts in_c_X1_takeOverN_X1 hown hK hP 1 rfl rfl 1 (by decide) (hts (.fieldLink RX1 15 "ClaimBus$Frame" "first" "I") (List.mem_of_getElem? (i := 2) rfl)) (fun _ h9 => h9) rfl dX1_takeOver_6 ?_
  refine lv_aload_n hx hb dX1_takeOver_9 rfl (lv_at hl 1 rfl) ?_
  refine va_get (D := (dC, dI)) (ci := 2) (v := .int go) (C := RX1) (T := TX1) (N := 4) hx hb hts in_c_X1_takeOverN_X1 hown hK hP 1 rfl rfl 2 (by decide) (hts (.fieldLink RX1 18 "ClaimBus$Frame" "others" "I") (List.mem_of_getElem? (i := 3) rfl)) (fun _ h9 => h9) rfl dX1_takeOver_10 ?_
  refine lv_aload_n hx hb dX1_takeOver_13 rfl (lv_at hl 1 rfl) ?_
  refine va_get (D := (dC, dI)) (ci := 2) (v := .null) (C := RX1) (T := TX1) (N := 4) hx hb hts in_c_X1_takeOverN_X1 hown hK hP 1 rfl rfl 3 (by decide) (hts (.fieldLink RX1 21 "ClaimBus$Frame" "whole" "LClaimBus$Message;") (List.mem_of_getElem? (i := 4) rfl)) (fun _ h9 => h9) rfl dX1_takeOver_14 ?_
  have hPc := hP.sub (ws' := [(h0, .inr (2, [.int (nI fi), .int ff, .int fo, .ref fw]))]) [0] rfl
  have hDc := hD.sub (ws' := [(h0, .inr (2, [.int (nI fi), .int ff, .int fo, .ref fw]))]) [0] (by decide +kernel) rfl
  have hKc := hK.sub (tys' := []) [] rfl
  have hFc := va_free (wc := [(h0, .inr (2, [.int (nI fi), .int ff, .int fo, .ref fw]))]) hD hS hA [0] rfl
  refine va_callv (va_runV (As := [.int (nI gi), .int gf, .int go, .null]) (rest := []) ⟨hx, hb, hml, hown, hts⟩ (c_X1_writeN l dC dI (h0) (fi) (ff) (fo) (fw) (gi) (gf) (go) H.size) (cwV 4 hts g_c_X1_takeOverN_c_X1_writeN_25 rfl rfl rfl (by decide +kernel) ⟨Nat.le_of_ble_eq_true rfl, Nat.le_of_ble_eq_true rfl⟩) ⟨fun a U g mk q => by obtain ⟨q0, q1, qP, qK, qD, qE⟩ := q; exact ⟨q0, q1, qP, va_K.moved (u := U) (U := U.calling g mk a) (Vm.Alike.refl U.vm) qK, qD, ev.same (u := U) (U := U.calling g mk a) rfl qE⟩, va_recv hKc hPc (ci := 2) (q0 := 0) rfl rfl, fun U hU hW => ⟨rfl, by rw [hU], by rw [hU]; exact hPc, va_K.moved hW.alike hKc, hDc.weaken (fun _ _ _ _ => trivial), hE.warm hW⟩⟩ rfl rfl hl.1 rfl (lv_room (Nat.le_of_ble_eq_true rfl)) dX1_takeOver_17 ⟨Nat.le_of_ble_eq_true rfl, Nat.le_of_ble_eq_true rfl⟩) hS (fun q _ h => hFc q h) hFc (fun u t H1 locs ht hvm hw hB hz1 hk1 hS => ?_)
  clear hPc hDc hKc
  obtain ⟨hP1, hK1, hD1⟩ := hB
  rw [ht] at hP1
  have hK1 := va_K.moved hvm.symm hK1
  obtain ⟨hP, hD⟩ := va_join (wr := [(h1, .inr (2, [.int (nI gi), .int gf, .int go, .null]))]) (w1 := [(h0, .inr (2, [.int (nI gi), .int gf, .int go, .null]))]) hP hD [0] [1] rfl rfl (by decide +kernel) (by decide +kernel) hk1 hFc hP1 hD1
  generalize H1 = H at hP hS ⊢
  replace hP : va_P (dC, dI) vwCl [(h1, .inr (2, [.int (nI gi), .int gf, .int go, .null])), (h0, .inr (2, [.int (nI gi), .int gf, .int go, .null]))] H := hP
  replace hD : va_D A [(h1, .inr (2, [.int (nI gi), .int gf, .int go, .null])), (h0, .inr (2, [.int (nI gi), .int gf, .int go, .null]))] := hD
  clear hw
  have hP9 := hP.sub (ws' := [(h0, .inr (2, [.int (nI gi), .int gf, .int go, .null])), (h1, .inr (2, [.int (nI gi), .int gf, .int go, .null]))]) [1, 0] rfl
  have hD9 := hD.sub (ws' := [(h0, .inr (2, [.int (nI gi), .int gf, .int go, .null])), (h1, .inr (2, [.int (nI gi), .int gf, .int go, .null]))]) [1, 0] (by decide +kernel) rfl
  have hK9 := hK.sub (tys' := []) [] rfl
  exact W.vret hx hb hr (fun t ht hW => ⟨⟨(), rfl, trivial, ⟨by rw [ht]; exact hP9, va_K.moved hW.alike hK9, hD9⟩⟩, hS.F ht⟩) hS.2.2 dX1_takeOver_20

noncomputable def tl_c_X1_writeN0 : List Cond := wsX10
noncomputable def v_c_X1_writeN0 : List Cond := .code yX1_write cX1_write 5 none :: ([.fieldLink RX1 9 "ClaimBus$Frame" "identifier" "I", .fieldLink RX1 15 "ClaimBus$Frame" "first" "I", .fieldLink RX1 18 "ClaimBus$Frame" "others" "I", .fieldLink RX1 21 "ClaimBus$Frame" "whole" "LClaimBus$Message;"] ++ tl_c_X1_writeN0)
theorem it_c_X1_writeN0 : ∀ w ∈ tl_c_X1_writeN0, w ∈ v_c_X1_writeN0 := fun w h => List.mem_cons_of_mem _ (List.mem_append_right _ h)
theorem in_c_X1_writeN0_X1 : ∀ w ∈ wsX10, w ∈ v_c_X1_writeN0 := fun w h => it_c_X1_writeN0 w (h)
theorem gt_c_X1_writeN0 : ∀ w ∈ tl_c_X1_writeN0, goodWord w = true := gw_wsX10
theorem gw_c_X1_writeN0 : ∀ w ∈ v_c_X1_writeN0, goodWord w = true := List.forall_mem_cons.mpr ⟨by decide +kernel, List.forall_mem_append.mpr ⟨List.all_eq_true.mp (by decide +kernel), gt_c_X1_writeN0⟩⟩
set_option maxHeartbeats 4000000 in
set_option maxRecDepth 100000 in
/-- Frame.write -/
theorem c_X1_writeN0 (l : Launch) (dC : Nat → ClassId) (dI : Nat → Nat → Nat) (h0 : Nat) (fi : Nat) (ff : Int32) (fo : Int32) (p0 : Nat) (p1 : Int32) (p2 : Int32) (sz : Nat)  : Met l yX1_write v_c_X1_writeN0 ({ frames := 0, cells := 0, slots := 0, locals := 0 }) (va_Pc [.ref h0, .int (nI p0), .int p1, .int p2, .null] (fun U => U.heap.size = sz ∧ va_P (dC, dI) vwCl [(h0, .inr (2, [.int (nI fi), .int ff, .int fo, .null]))] U.heap ∧ va_K (dC, dI) vwCl [] U ∧ va_D (fun _ => True) [(h0, .inr (2, [.int (nI fi), .int ff, .int fo, .null]))] ∧ ev U)) (va_Qv (fun _ : Unit => True) (fun (_ : Unit) (t : State) => va_P (dC, dI) vwCl [(h0, .inr (2, [.int (nI p0), .int p1, .int p2, .null]))] t.heap ∧ va_K (dC, dI) vwCl [] t ∧ va_D (va_A [(h0, .inr (2, [.int (nI fi), .int ff, .int fo, .null]))] sz) [(h0, .inr (2, [.int (nI p0), .int p1, .int p2, .null]))]) (va_A [(h0, .inr (2, [.int (nI fi), .int ff, .int fo, .null]))] sz)) 0 0 (va_A [(h0, .inr (2, [.int (nI fi), .int ff, .int fo, .null]))] sz) := by
  refine Met.ofW (cc := cX1_write) (maxL := 5) (ret := none) (by decide) rfl ?_
  intro p e s m args below meth c s₁ B hml hv
  obtain ⟨rfl, hsz, hP, hK, hD0, hE⟩ := hv
  have hx := B.exec
  have hb := B.bytes
  have hr := B.returns
  have hts := atoms_spec (ws := v_c_X1_writeN0) B.pre
  have hown : s.vm.findClass RX1 = some m.cls := findClass_of_methodNamed B.named
  have hlocks := B.notSynchronized
  subst hsz
  have hD := hD0.self (sz := s.heap.size)
  generalize hAe : va_A [(h0, .inr (2, [.int (nI fi), .int ff, .int fo, .null]))] s.heap.size = A at hD ⊢
  have hA : ∀ q : Nat, s.heap.size ≤ q → A q := fun q h => by rw [← hAe]; exact Or.inr h
  have hS : va_S A s.heap s.heap [] := va_S.rf
  replace hP : va_P (dC, dI) vwCl [(h0, .inr (2, [.int (nI fi), .int ff, .int fo, .null]))] s.heap := hP
  have hl := lv_entry ([.ref h0, .int (nI p0), .int p1, .int p2, .null]) (n := 5) (Nat.le_of_ble_eq_true rfl)
  rw [lg_entry_eq]
  generalize (lg_sl ([.ref h0, .int (nI p0), .int p1, .int p2, .null]) ++ List.replicate (5 - (lg_sl ([.ref h0, .int (nI p0), .int p1, .int p2, .null])).length) Slot.unset).toArray = ls at hl ⊢
  replace hl : lv_has ls 5 [(0, .ref h0), (1, .int (nI p0)), (2, .int p1), (3, .int p2), (4, .null)] := hl
  obtain ⟨H, hH⟩ : ∃ z : Heap, z = s.heap := ⟨_, rfl⟩
  rw [← hH]
  replace hS : va_S A s.heap H [] := by rw [hH]; exact va_S.rf
  replace hP : va_P (dC, dI) vwCl [(h0, .inr (2, [.int (nI fi), .int ff, .int fo, .null]))] H := by rw [hH]; exact hP
  clear hH
  refine lv_aload_n hx hb dX1_write_0 rfl (lv_at hl 0 rfl) ?_
  refine lv_iload_n hx hb dX1_write_1 rfl (lv_at hl 1 rfl) ?_
  refine va_put (D := (dC, dI)) (ci := 2) (v := .int (nI p0)) (ty := .int) (C := RX1) (T := TX1) (N := 4) hx hb hts in_c_X1_writeN0_X1 tyX1 tyX1_ok nmX1 hown hK hP hD hS 0 rfl rfl 0 (by decide) (hts (.fieldLink RX1 9 "ClaimBus$Frame" "identifier" "I") (List.mem_of_getElem? (i := 1) rfl)) (fun _ h9 => h9) rfl (by decide +kernel) rfl rfl (Nat.le_of_ble_eq_true rfl) dX1_write_2 (fun H locs hP hD hS => ?_)
  replace hP : va_P (dC, dI) vwCl [(h0, .inr (2, [.int (nI p0), .int ff, .int fo, .null]))] H := hP
  replace hD : va_D A [(h0, .inr (2, [.int (nI p0), .int ff, .int fo, .null]))] := hD
  refine lv_aload_n hx hb dX1_write_5 rfl (lv_at hl 0 rfl) ?_
  refine lv_iload_n hx hb dX1_write_6 rfl (lv_at hl 2 rfl) ?_
  refine va_put (D := (dC, dI)) (ci := 2) (v := .int p1) (ty := .int) (C := RX1) (T := TX1) (N := 4) hx hb hts in_c_X1_writeN0_X1 tyX1 tyX1_ok nmX1 hown hK hP hD hS 0 rfl rfl 1 (by decide) (hts (.fieldLink RX1 15 "ClaimBus$Frame" "first" "I") (List.mem_of_getElem? (i := 2) rfl)) (fun _ h9 => h9) rfl (by decide +kernel) rfl rfl (Nat.le_of_ble_eq_true rfl) dX1_write_7 (fun H locs hP hD hS => ?_)
  replace hP : va_P (dC, dI) vwCl [(h0, .inr (2, [.int (nI p0), .int p1, .int fo, .null]))] H := hP
  replace hD : va_D A [(h0, .inr (2, [.int (nI p0), .int p1, .int fo, .null]))] := hD
  refine lv_aload_n hx hb dX1_write_10 rfl (lv_at hl 0 rfl) ?_
  refine lv_iload_n hx hb dX1_write_11 rfl (lv_at hl 3 rfl) ?_
  refine va_put (D := (dC, dI)) (ci := 2) (v := .int p2) (ty := .int) (C := RX1) (T := TX1) (N := 4) hx hb hts in_c_X1_writeN0_X1 tyX1 tyX1_ok nmX1 hown hK hP hD hS 0 rfl rfl 2 (by decide) (hts (.fieldLink RX1 18 "ClaimBus$Frame" "others" "I") (List.mem_of_getElem? (i := 3) rfl)) (fun _ h9 => h9) rfl (by decide +kernel) rfl rfl (Nat.le_of_ble_eq_true rfl) dX1_write_12 (fun H locs hP hD hS => ?_)
  replace hP : va_P (dC, dI) vwCl [(h0, .inr (2, [.int (nI p0), .int p1, .int p2, .null]))] H := hP
  replace hD : va_D A [(h0, .inr (2, [.int (nI p0), .int p1, .int p2, .null]))] := hD
  refine lv_aload_n hx hb dX1_write_15 rfl (lv_at hl 0 rfl) ?_
  refine lv_aloadN hx hb dX1_write_16 (lv_at hl 4 rfl) ?_
  refine va_put (D := (dC, dI)) (ci := 2) (v := .null) (ty := (.object "ClaimBus$Message")) (C := RX1) (T := TX1) (N := 4) hx hb hts in_c_X1_writeN0_X1 tyX1 tyX1_ok nmX1 hown hK hP hD hS 0 rfl rfl 3 (by decide) (hts (.fieldLink RX1 21 "ClaimBus$Frame" "whole" "LClaimBus$Message;") (List.mem_of_getElem? (i := 4) rfl)) (fun _ h9 => h9) rfl (by decide +kernel) rfl rfl (Nat.le_of_ble_eq_true rfl) dX1_write_18 (fun H locs hP hD hS => ?_)
  replace hP : va_P (dC, dI) vwCl [(h0, .inr (2, [.int (nI p0), .int p1, .int p2, .null]))] H := hP
  replace hD : va_D A [(h0, .inr (2, [.int (nI p0), .int p1, .int p2, .null]))] := hD
  have hP9 := hP.sub (ws' := [(h0, .inr (2, [.int (nI p0), .int p1, .int p2, .null]))]) [0] rfl
  have hD9 := hD.sub (ws' := [(h0, .inr (2, [.int (nI p0), .int p1, .int p2, .null]))]) [0] (by decide +kernel) rfl
  have hK9 := hK.sub (tys' := []) [] rfl
  exact W.vret hx hb hr (fun t ht hW => ⟨⟨(), rfl, trivial, ⟨by rw [ht]; exact hP9, va_K.moved hW.alike hK9, hD9⟩⟩, hS.F ht⟩) hS.2.2 dX1_write_21

noncomputable def tl_c_X1_takeOverN0 : List Cond := wsX10 ++ (v_c_X1_writeN0)
noncomputable def v_c_X1_takeOverN0 : List Cond := .code yX1_takeOver cX1_takeOver 2 none :: ([.fieldLink RX1 9 "ClaimBus$Frame" "identifier" "I", .fieldLink RX1 15 "ClaimBus$Frame" "first" "I", .fieldLink RX1 18 "ClaimBus$Frame" "others" "I", .fieldLink RX1 21 "ClaimBus$Frame" "whole" "LClaimBus$Message;", .initialized RX1, .methodLink RX1 25 yX1_write, .instanceMethod yX1_write, .selects RX1 yX1_write yX1_write] ++ tl_c_X1_takeOverN0)
theorem it_c_X1_takeOverN0 : ∀ w ∈ tl_c_X1_takeOverN0, w ∈ v_c_X1_takeOverN0 := fun w h => List.mem_cons_of_mem _ (List.mem_append_right _ h)
theorem in_c_X1_takeOverN0_X1 : ∀ w ∈ wsX10, w ∈ v_c_X1_takeOverN0 := fun w h => it_c_X1_takeOverN0 w (List.mem_append_left _ h)
theorem ic_c_X1_takeOverN0_c_X1_writeN0 : ∀ w ∈ v_c_X1_writeN0, w ∈ v_c_X1_takeOverN0 := fun w h => it_c_X1_takeOverN0 w (List.mem_append_right _ (h))
theorem gt_c_X1_takeOverN0 : ∀ w ∈ tl_c_X1_takeOverN0, goodWord w = true := List.forall_mem_append.mpr ⟨gw_wsX10, gw_c_X1_writeN0⟩
theorem gw_c_X1_takeOverN0 : ∀ w ∈ v_c_X1_takeOverN0, goodWord w = true := List.forall_mem_cons.mpr ⟨by decide +kernel, List.forall_mem_append.mpr ⟨List.all_eq_true.mp (by decide +kernel), gt_c_X1_takeOverN0⟩⟩
theorem g_c_X1_takeOverN0_c_X1_writeN0_25 : GoodIn v_c_X1_takeOverN0 (wsV RX1 25 RX1 yX1_write v_c_X1_writeN0) := goodIn_app (goodIn_r [.methodLink RX1 25 yX1_write, .instanceMethod yX1_write, .selects RX1 yX1_write yX1_write, .initialized RX1] [6, 7, 8, 5] (by decide +kernel) (by decide +kernel)) (fun w h => ⟨ic_c_X1_takeOverN0_c_X1_writeN0 w h, good_of_word (gw_c_X1_writeN0 w h)⟩)
set_option maxHeartbeats 4000000 in
set_option maxRecDepth 100000 in
/-- Frame.takeOver -/
theorem c_X1_takeOverN0 (l : Launch) (dC : Nat → ClassId) (dI : Nat → Nat → Nat) (h0 : Nat) (fi : Nat) (ff : Int32) (fo : Int32) (h1 : Nat) (gi : Nat) (gf : Int32) (go : Int32) (sz : Nat)  : Met l yX1_takeOver v_c_X1_takeOverN0 ({ frames := 1, cells := 0, slots := 0, locals := 24 }) (va_Pc [.ref h0, .ref h1] (fun U => U.heap.size = sz ∧ va_P (dC, dI) vwCl [(h0, .inr (2, [.int (nI fi), .int ff, .int fo, .null])), (h1, .inr (2, [.int (nI gi), .int gf, .int go, .null]))] U.heap ∧ va_K (dC, dI) vwCl [] U ∧ va_D (fun _ => True) [(h0, .inr (2, [.int (nI fi), .int ff, .int fo, .null])), (h1, .inr (2, [.int (nI gi), .int gf, .int go, .null]))] ∧ ev U)) (va_Qv (fun _ : Unit => True) (fun (_ : Unit) (t : State) => va_P (dC, dI) vwCl [(h0, .inr (2, [.int (nI gi), .int gf, .int go, .null])), (h1, .inr (2, [.int (nI gi), .int gf, .int go, .null]))] t.heap ∧ va_K (dC, dI) vwCl [] t ∧ va_D (va_A [(h0, .inr (2, [.int (nI fi), .int ff, .int fo, .null])), (h1, .inr (2, [.int (nI gi), .int gf, .int go, .null]))] sz) [(h0, .inr (2, [.int (nI gi), .int gf, .int go, .null])), (h1, .inr (2, [.int (nI gi), .int gf, .int go, .null]))]) (va_A [(h0, .inr (2, [.int (nI fi), .int ff, .int fo, .null])), (h1, .inr (2, [.int (nI gi), .int gf, .int go, .null]))] sz)) 0 0 (va_A [(h0, .inr (2, [.int (nI fi), .int ff, .int fo, .null])), (h1, .inr (2, [.int (nI gi), .int gf, .int go, .null]))] sz) := by
  refine Met.ofW (cc := cX1_takeOver) (maxL := 2) (ret := none) (by decide) rfl ?_
  intro p e s m args below meth c s₁ B hml hv
  obtain ⟨rfl, hsz, hP, hK, hD0, hE⟩ := hv
  have hx := B.exec
  have hb := B.bytes
  have hr := B.returns
  have hts := atoms_spec (ws := v_c_X1_takeOverN0) B.pre
  have hown : s.vm.findClass RX1 = some m.cls := findClass_of_methodNamed B.named
  have hlocks := B.notSynchronized
  subst hsz
  have hD := hD0.self (sz := s.heap.size)
  generalize hAe : va_A [(h0, .inr (2, [.int (nI fi), .int ff, .int fo, .null])), (h1, .inr (2, [.int (nI gi), .int gf, .int go, .null]))] s.heap.size = A at hD ⊢
  have hA : ∀ q : Nat, s.heap.size ≤ q → A q := fun q h => by rw [← hAe]; exact Or.inr h
  have hS : va_S A s.heap s.heap [] := va_S.rf
  replace hP : va_P (dC, dI) vwCl [(h0, .inr (2, [.int (nI fi), .int ff, .int fo, .null])), (h1, .inr (2, [.int (nI gi), .int gf, .int go, .null]))] s.heap := hP
  have hl := lv_entry ([.ref h0, .ref h1]) (n := 2) (Nat.le_of_ble_eq_true rfl)
  rw [lg_entry_eq]
  generalize (lg_sl ([.ref h0, .ref h1]) ++ List.replicate (2 - (lg_sl ([.ref h0, .ref h1])).length) Slot.unset).toArray = ls at hl ⊢
  replace hl : lv_has ls 2 [(0, .ref h0), (1, .ref h1)] := hl
  obtain ⟨H, hH⟩ : ∃ z : Heap, z = s.heap := ⟨_, rfl⟩
  rw [← hH]
  replace hS : va_S A s.heap H [] := by rw [hH]; exact va_S.rf
  replace hP : va_P (dC, dI) vwCl [(h0, .inr (2, [.int (nI fi), .int ff, .int fo, .null])), (h1, .inr (2, [.int (nI gi), .int gf, .int go, .null]))] H := by rw [hH]; exact hP
  clear hH
  refine lv_aload_n hx hb dX1_takeOver_0 rfl (lv_at hl 0 rfl) ?_
  refine lv_aload_n hx hb dX1_takeOver_1 rfl (lv_at hl 1 rfl) ?_
  refine va_get (D := (dC, dI)) (ci := 2) (v := .int (nI gi)) (C := RX1) (T := TX1) (N := 4) hx hb hts in_c_X1_takeOverN0_X1 hown hK hP 1 rfl rfl 0 (by decide) (hts (.fieldLink RX1 9 "ClaimBus$Frame" "identifier" "I") (List.mem_of_getElem? (i := 1) rfl)) (fun _ h9 => h9) rfl dX1_takeOver_2 ?_
  refine lv_aload_n hx hb dX1_takeOver_5 rfl (lv_at hl 1 rfl) ?_
  refine va_get (D := (dC, dI)) (ci := 2) (v := .int gf) (C := RX1) (T := TX1) (N := 4) hx hb hts in_c_X1_takeOverN0_X1 hown hK hP 1 rfl rfl 1 (by decide) (hts (.fieldLink RX1 15 "ClaimBus$Frame" "first" "I") (List.mem_of_getElem? (i := 2) rfl)) (fun _ h9 => h9) rfl dX1_takeOver_6 ?_
  refine lv_aload_n hx hb dX1_takeOver_9 rfl (lv_at hl 1 rfl) ?_
  refine va_get (D := (dC, dI)) (ci := 2) (v := .int go) (C := RX1) (T := TX1) (N := 4) hx hb hts in_c_X1_takeOverN0_X1 hown hK hP 1 rfl rfl 2 (by decide) (hts (.fieldLink RX1 18 "ClaimBus$Frame" "others" "I") (List.mem_of_getElem? (i := 3) rfl)) (fun _ h9 => h9) rfl dX1_takeOver_10 ?_
  refine lv_aload_n hx hb dX1_takeOver_13 rfl (lv_at hl 1 rfl) ?_
  refine va_get (D := (dC, dI)) (ci := 2) (v := .null) (C := RX1) (T := TX1) (N := 4) hx hb hts in_c_X1_takeOverN0_X1 hown hK hP 1 rfl rfl 3 (by decide) (hts (.fieldLink RX1 21 "ClaimBus$Frame" "whole" "LClaimBus$Message;") (List.mem_of_getElem? (i := 4) rfl)) (fun _ h9 => h9) rfl dX1_takeOver_14 ?_
  have hPc := hP.sub (ws' := [(h0, .inr (2, [.int (nI fi), .int ff, .int fo, .null]))]) [0] rfl
  have hDc := hD.sub (ws' := [(h0, .inr (2, [.int (nI fi), .int ff, .int fo, .null]))]) [0] (by decide +kernel) rfl
  have hKc := hK.sub (tys' := []) [] rfl
  have hFc := va_free (wc := [(h0, .inr (2, [.int (nI fi), .int ff, .int fo, .null]))]) hD hS hA [0] rfl
  refine va_callv (va_runV (As := [.int (nI gi), .int gf, .int go, .null]) (rest := []) ⟨hx, hb, hml, hown, hts⟩ (c_X1_writeN0 l dC dI (h0) (fi) (ff) (fo) (gi) (gf) (go) H.size) (cwV 4 hts g_c_X1_takeOverN0_c_X1_writeN0_25 rfl rfl rfl (by decide +kernel) ⟨Nat.le_of_ble_eq_true rfl, Nat.le_of_ble_eq_true rfl⟩) ⟨fun a U g mk q => by obtain ⟨q0, q1, qP, qK, qD, qE⟩ := q; exact ⟨q0, q1, qP, va_K.moved (u := U) (U := U.calling g mk a) (Vm.Alike.refl U.vm) qK, qD, ev.same (u := U) (U := U.calling g mk a) rfl qE⟩, va_recv hKc hPc (ci := 2) (q0 := 0) rfl rfl, fun U hU hW => ⟨rfl, by rw [hU], by rw [hU]; exact hPc, va_K.moved hW.alike hKc, hDc.weaken (fun _ _ _ _ => trivial), hE.warm hW⟩⟩ rfl rfl hl.1 rfl (lv_room (Nat.le_of_ble_eq_true rfl)) dX1_takeOver_17 ⟨Nat.le_of_ble_eq_true rfl, Nat.le_of_ble_eq_true rfl⟩) hS (fun q _ h => hFc q h) hFc (fun u t H1 locs ht hvm hw hB hz1 hk1 hS => ?_)
  clear hPc hDc hKc
  obtain ⟨hP1, hK1, hD1⟩ := hB
  rw [ht] at hP1
  have hK1 := va_K.moved hvm.symm hK1
  obtain ⟨hP, hD⟩ := va_join (wr := [(h1, .inr (2, [.int (nI gi), .int gf, .int go, .null]))]) (w1 := [(h0, .inr (2, [.int (nI gi), .int gf, .int go, .null]))]) hP hD [0] [1] rfl rfl (by decide +kernel) (by decide +kernel) hk1 hFc hP1 hD1
  generalize H1 = H at hP hS ⊢
  replace hP : va_P (dC, dI) vwCl [(h1, .inr (2, [.int (nI gi), .int gf, .int go, .null])), (h0, .inr (2, [.int (nI gi), .int gf, .int go, .null]))] H := hP
  replace hD : va_D A [(h1, .inr (2, [.int (nI gi), .int gf, .int go, .null])), (h0, .inr (2, [.int (nI gi), .int gf, .int go, .null]))] := hD
  clear hw
  have hP9 := hP.sub (ws' := [(h0, .inr (2, [.int (nI gi), .int gf, .int go, .null])), (h1, .inr (2, [.int (nI gi), .int gf, .int go, .null]))]) [1, 0] rfl
  have hD9 := hD.sub (ws' := [(h0, .inr (2, [.int (nI gi), .int gf, .int go, .null])), (h1, .inr (2, [.int (nI gi), .int gf, .int go, .null]))]) [1, 0] (by decide +kernel) rfl
  have hK9 := hK.sub (tys' := []) [] rfl
  exact W.vret hx hb hr (fun t ht hW => ⟨⟨(), rfl, trivial, ⟨by rw [ht]; exact hP9, va_K.moved hW.alike hK9, hD9⟩⟩, hS.F ht⟩) hS.2.2 dX1_takeOver_20

noncomputable def tl_c_X1_sourceN : List Cond := wsX10
noncomputable def v_c_X1_sourceN : List Cond := .code yX1_source cX1_source 1 (some .int) :: ([.fieldLink RX1 9 "ClaimBus$Frame" "identifier" "I"] ++ tl_c_X1_sourceN)
theorem it_c_X1_sourceN : ∀ w ∈ tl_c_X1_sourceN, w ∈ v_c_X1_sourceN := fun w h => List.mem_cons_of_mem _ (List.mem_append_right _ h)
theorem in_c_X1_sourceN_X1 : ∀ w ∈ wsX10, w ∈ v_c_X1_sourceN := fun w h => it_c_X1_sourceN w (h)
theorem gt_c_X1_sourceN : ∀ w ∈ tl_c_X1_sourceN, goodWord w = true := gw_wsX10
theorem gw_c_X1_sourceN : ∀ w ∈ v_c_X1_sourceN, goodWord w = true := List.forall_mem_cons.mpr ⟨by decide +kernel, List.forall_mem_append.mpr ⟨List.all_eq_true.mp (by decide +kernel), gt_c_X1_sourceN⟩⟩
set_option maxHeartbeats 4000000 in
set_option maxRecDepth 100000 in
theorem c_X1_sourceN (l : Launch) (dC : Nat → ClassId) (dI : Nat → Nat → Nat) (h0 : Nat) (fi : Nat) (ff : Int32) (fo : Int32) (sz : Nat) (hfi : fi < 536870912) : Met l yX1_source v_c_X1_sourceN ({ frames := 0, cells := 0, slots := 0, locals := 0 }) (va_Pc [.ref h0] (fun U => U.heap.size = sz ∧ va_P (dC, dI) vwCl [(h0, .inr (2, [.int (nI fi), .int ff, .int fo, .null]))] U.heap ∧ va_K (dC, dI) vwCl [] U ∧ va_D (fun _ => True) [(h0, .inr (2, [.int (nI fi), .int ff, .int fo, .null]))] ∧ ev U)) (va_Qi (fun (r : Int32) (_ : Unit) => r = nI (fi % 256)) (fun (_ : Unit) (_ : State) => True) (va_A [] sz)) 0 0 (va_A [] sz) := by
  refine Met.ofW (cc := cX1_source) (maxL := 1) (ret := (some .int)) (by decide) rfl ?_
  intro p e s m args below meth c s₁ B hml hv
  obtain ⟨rfl, hsz, hP, hK, hD0, hE⟩ := hv
  have hx := B.exec
  have hb := B.bytes
  have hr := B.returns
  have hts := atoms_spec (ws := v_c_X1_sourceN) B.pre
  have hown : s.vm.findClass RX1 = some m.cls := findClass_of_methodNamed B.named
  have hlocks := B.notSynchronized
  subst hsz
  have hD := hD0
  generalize hAe : va_A [] s.heap.size = A
  have hA : ∀ q : Nat, s.heap.size ≤ q → A q := fun q h => by rw [← hAe]; exact Or.inr h
  have hS : va_S A s.heap s.heap [] := va_S.rf
  replace hP : va_P (dC, dI) vwCl [(h0, .inr (2, [.int (nI fi), .int ff, .int fo, .null]))] s.heap := hP
  have hl := lv_entry ([.ref h0]) (n := 1) (Nat.le_of_ble_eq_true rfl)
  rw [lg_entry_eq]
  generalize (lg_sl ([.ref h0]) ++ List.replicate (1 - (lg_sl ([.ref h0])).length) Slot.unset).toArray = ls at hl ⊢
  replace hl : lv_has ls 1 [(0, .ref h0)] := hl
  obtain ⟨H, hH⟩ : ∃ z : Heap, z = s.heap := ⟨_, rfl⟩
  rw [← hH]
  replace hS : va_S A s.heap H [] := by rw [hH]; exact va_S.rf
  replace hP : va_P (dC, dI) vwCl [(h0, .inr (2, [.int (nI fi), .int ff, .int fo, .null]))] H := by rw [hH]; exact hP
  clear hH
  refine lv_aload_n hx hb dX1_source_0 rfl (lv_at hl 0 rfl) ?_
  refine va_get (D := (dC, dI)) (ci := 2) (v := .int (nI fi)) (C := RX1) (T := TX1) (N := 4) hx hb hts in_c_X1_sourceN_X1 hown hK hP 0 rfl rfl 0 (by decide) (hts (.fieldLink RX1 9 "ClaimBus$Frame" "identifier" "I") (List.mem_of_getElem? (i := 1) rfl)) (fun _ h9 => h9) rfl dX1_source_1 ?_
  refine lv_sipush (v := 255) hx hb dX1_source_4 (by decide) ?_
  refine lv_iand hx hb dX1_source_7 ?_
  refine lv_topi (fun x_1 ex_1 => ?_)
  obtain rfl : x_1 = (nI (((fi) % 256))) := ex_1.trans ((pk_andN (n := fi) (m := 255) (by omega) 8 (by decide)).trans (show nI (fi % 2 ^ 8) = nI (((fi) % 256)) from congrArg nI (by omega)))
  exact W.iret (v := (nI (((fi) % 256)))) hx hb hr (fun t ht hW => ⟨⟨(nI (((fi) % 256))), (), rfl, rfl, trivial⟩, hS.F ht⟩) hS.2.2 dX1_source_8

noncomputable def tl_c_X1_controlGroupN : List Cond := wsX10
noncomputable def v_c_X1_controlGroupN : List Cond := .code yX1_controlGroup cX1_controlGroup 1 (some .int) :: ([.fieldLink RX1 18 "ClaimBus$Frame" "others" "I"] ++ tl_c_X1_controlGroupN)
theorem it_c_X1_controlGroupN : ∀ w ∈ tl_c_X1_controlGroupN, w ∈ v_c_X1_controlGroupN := fun w h => List.mem_cons_of_mem _ (List.mem_append_right _ h)
theorem in_c_X1_controlGroupN_X1 : ∀ w ∈ wsX10, w ∈ v_c_X1_controlGroupN := fun w h => it_c_X1_controlGroupN w (h)
theorem gt_c_X1_controlGroupN : ∀ w ∈ tl_c_X1_controlGroupN, goodWord w = true := gw_wsX10
theorem gw_c_X1_controlGroupN : ∀ w ∈ v_c_X1_controlGroupN, goodWord w = true := List.forall_mem_cons.mpr ⟨by decide +kernel, List.forall_mem_append.mpr ⟨List.all_eq_true.mp (by decide +kernel), gt_c_X1_controlGroupN⟩⟩
set_option maxHeartbeats 4000000 in
set_option maxRecDepth 100000 in
theorem c_X1_controlGroupN (l : Launch) (dC : Nat → ClassId) (dI : Nat → Nat → Nat) (h0 : Nat) (fi : Nat) (ff : Int32) (fo : Int32) (sz : Nat) (hfi : fi < 536870912) : Met l yX1_controlGroup v_c_X1_controlGroupN ({ frames := 0, cells := 0, slots := 0, locals := 0 }) (va_Pc [.ref h0] (fun U => U.heap.size = sz ∧ va_P (dC, dI) vwCl [(h0, .inr (2, [.int (nI fi), .int ff, .int fo, .null]))] U.heap ∧ va_K (dC, dI) vwCl [] U ∧ va_D (fun _ => True) [(h0, .inr (2, [.int (nI fi), .int ff, .int fo, .null]))] ∧ ev U)) (va_Qi (fun (r : Int32) (_ : Unit) => r = (fo.toUInt32 >>> ((8 : Int32).toUInt32 &&& Int32.toUInt32 31)).toInt32) (fun (_ : Unit) (_ : State) => True) (va_A [] sz)) 0 0 (va_A [] sz) := by
  refine Met.ofW (cc := cX1_controlGroup) (maxL := 1) (ret := (some .int)) (by decide) rfl ?_
  intro p e s m args below meth c s₁ B hml hv
  obtain ⟨rfl, hsz, hP, hK, hD0, hE⟩ := hv
  have hx := B.exec
  have hb := B.bytes
  have hr := B.returns
  have hts := atoms_spec (ws := v_c_X1_controlGroupN) B.pre
  have hown : s.vm.findClass RX1 = some m.cls := findClass_of_methodNamed B.named
  have hlocks := B.notSynchronized
  subst hsz
  have hD := hD0
  generalize hAe : va_A [] s.heap.size = A
  have hA : ∀ q : Nat, s.heap.size ≤ q → A q := fun q h => by rw [← hAe]; exact Or.inr h
  have hS : va_S A s.heap s.heap [] := va_S.rf
  replace hP : va_P (dC, dI) vwCl [(h0, .inr (2, [.int (nI fi), .int ff, .int fo, .null]))] s.heap := hP
  have hl := lv_entry ([.ref h0]) (n := 1) (Nat.le_of_ble_eq_true rfl)
  rw [lg_entry_eq]
  generalize (lg_sl ([.ref h0]) ++ List.replicate (1 - (lg_sl ([.ref h0])).length) Slot.unset).toArray = ls at hl ⊢
  replace hl : lv_has ls 1 [(0, .ref h0)] := hl
  obtain ⟨H, hH⟩ : ∃ z : Heap, z = s.heap := ⟨_, rfl⟩
  rw [← hH]
  replace hS : va_S A s.heap H [] := by rw [hH]; exact va_S.rf
  replace hP : va_P (dC, dI) vwCl [(h0, .inr (2, [.int (nI fi), .int ff, .int fo, .null]))] H := by rw [hH]; exact hP
  clear hH
  refine lv_aload_n hx hb dX1_controlGroup_0 rfl (lv_at hl 0 rfl) ?_
  refine va_get (D := (dC, dI)) (ci := 2) (v := .int fo) (C := RX1) (T := TX1) (N := 4) hx hb hts in_c_X1_controlGroupN_X1 hown hK hP 0 rfl rfl 2 (by decide) (hts (.fieldLink RX1 18 "ClaimBus$Frame" "others" "I") (List.mem_of_getElem? (i := 1) rfl)) (fun _ h9 => h9) rfl dX1_controlGroup_1 ?_
  refine lv_bipush (v := 8) hx hb dX1_controlGroup_4 (by decide) ?_
  refine lv_iushr hx hb dX1_controlGroup_6 rfl ?_
  exact W.iret (v := ((fo.toUInt32 >>> ((8 : Int32).toUInt32 &&& Int32.toUInt32 31)).toInt32)) hx hb hr (fun t ht hW => ⟨⟨((fo.toUInt32 >>> ((8 : Int32).toUInt32 &&& Int32.toUInt32 31)).toInt32), (), rfl, rfl, trivial⟩, hS.F ht⟩) hS.2.2 dX1_controlGroup_7

noncomputable def tl_c_X1_byteAtN : List Cond := wsX10
noncomputable def v_c_X1_byteAtN : List Cond := .code yX1_byteAt cX1_byteAt 2 (some .int) :: ([.fieldLink RX1 18 "ClaimBus$Frame" "others" "I", .fieldLink RX1 15 "ClaimBus$Frame" "first" "I"] ++ tl_c_X1_byteAtN)
theorem it_c_X1_byteAtN : ∀ w ∈ tl_c_X1_byteAtN, w ∈ v_c_X1_byteAtN := fun w h => List.mem_cons_of_mem _ (List.mem_append_right _ h)
theorem in_c_X1_byteAtN_X1 : ∀ w ∈ wsX10, w ∈ v_c_X1_byteAtN := fun w h => it_c_X1_byteAtN w (h)
theorem gt_c_X1_byteAtN : ∀ w ∈ tl_c_X1_byteAtN, goodWord w = true := gw_wsX10
theorem gw_c_X1_byteAtN : ∀ w ∈ v_c_X1_byteAtN, goodWord w = true := List.forall_mem_cons.mpr ⟨by decide +kernel, List.forall_mem_append.mpr ⟨List.all_eq_true.mp (by decide +kernel), gt_c_X1_byteAtN⟩⟩
set_option maxHeartbeats 4000000 in
set_option maxRecDepth 100000 in
theorem c_X1_byteAtN (l : Launch) (dC : Nat → ClassId) (dI : Nat → Nat → Nat) (h0 : Nat) (fi : Nat) (ff : Int32) (fo : Int32) (k : Nat) (sz : Nat) (hfi : fi < 536870912) (hk : k < 8) : Met l yX1_byteAt v_c_X1_byteAtN ({ frames := 0, cells := 0, slots := 0, locals := 0 }) (va_Pc [.ref h0, .int (nI k)] (fun U => U.heap.size = sz ∧ va_P (dC, dI) vwCl [(h0, .inr (2, [.int (nI fi), .int ff, .int fo, .null]))] U.heap ∧ va_K (dC, dI) vwCl [] U ∧ va_D (fun _ => True) [(h0, .inr (2, [.int (nI fi), .int ff, .int fo, .null]))] ∧ ev U)) (va_Qi (fun (r : Int32) (_ : Unit) => r = fb ff fo k) (fun (_ : Unit) (_ : State) => True) (va_A [] sz)) 0 0 (va_A [] sz) := by
  refine Met.ofW (cc := cX1_byteAt) (maxL := 2) (ret := (some .int)) (by decide) rfl ?_
  intro p e s m args below meth c s₁ B hml hv
  obtain ⟨rfl, hsz, hP, hK, hD0, hE⟩ := hv
  have hx := B.exec
  have hb := B.bytes
  have hr := B.returns
  have hts := atoms_spec (ws := v_c_X1_byteAtN) B.pre
  have hown : s.vm.findClass RX1 = some m.cls := findClass_of_methodNamed B.named
  have hlocks := B.notSynchronized
  subst hsz
  have hD := hD0
  generalize hAe : va_A [] s.heap.size = A
  have hA : ∀ q : Nat, s.heap.size ≤ q → A q := fun q h => by rw [← hAe]; exact Or.inr h
  have hS : va_S A s.heap s.heap [] := va_S.rf
  replace hP : va_P (dC, dI) vwCl [(h0, .inr (2, [.int (nI fi), .int ff, .int fo, .null]))] s.heap := hP
  have hl := lv_entry ([.ref h0, .int (nI k)]) (n := 2) (Nat.le_of_ble_eq_true rfl)
  rw [lg_entry_eq]
  generalize (lg_sl ([.ref h0, .int (nI k)]) ++ List.replicate (2 - (lg_sl ([.ref h0, .int (nI k)])).length) Slot.unset).toArray = ls at hl ⊢
  replace hl : lv_has ls 2 [(0, .ref h0), (1, .int (nI k))] := hl
  obtain ⟨H, hH⟩ : ∃ z : Heap, z = s.heap := ⟨_, rfl⟩
  rw [← hH]
  replace hS : va_S A s.heap H [] := by rw [hH]; exact va_S.rf
  replace hP : va_P (dC, dI) vwCl [(h0, .inr (2, [.int (nI fi), .int ff, .int fo, .null]))] H := by rw [hH]; exact hP
  clear hH
  refine lv_iload_n hx hb dX1_byteAt_0 rfl (lv_at hl 1 rfl) ?_
  refine lv_iconst (v := 4) hx hb dX1_byteAt_1 (by decide) ?_
  refine lv_icmp_ge (tgt := 21) hx hb dX1_byteAt_2 (by decide) (fun c_1 => ?_) (fun c_1 => ?_)
  · have pc_1 : 4 ≤ k := (nI_leI (a := 4) (b := k) (by omega) (by omega)).mp c_1
    refine lv_aload_n hx hb dX1_byteAt_21 rfl (lv_at hl 0 rfl) ?_
    refine va_get (D := (dC, dI)) (ci := 2) (v := .int fo) (C := RX1) (T := TX1) (N := 4) hx hb hts in_c_X1_byteAtN_X1 hown hK hP 0 rfl rfl 2 (by decide) (hts (.fieldLink RX1 18 "ClaimBus$Frame" "others" "I") (List.mem_of_getElem? (i := 1) rfl)) (fun _ h9 => h9) rfl dX1_byteAt_22 ?_
    refine lv_bipush (v := 8) hx hb dX1_byteAt_25 (by decide) ?_
    refine lv_iload_n hx hb dX1_byteAt_27 rfl (lv_at hl 1 rfl) ?_
    refine lv_iconst (v := 4) hx hb dX1_byteAt_28 (by decide) ?_
    refine lv_isub hx hb dX1_byteAt_29 ?_
    refine lv_topi (fun x_2 ex_2 => ?_)
    obtain rfl : x_2 = (nI (k - 4)) := ex_2.trans ((pk_sub (a := k) (b := 4) (by omega)).trans (show nI (k - 4) = nI (k - 4) from congrArg nI (by omega)))
    refine lv_imul hx hb dX1_byteAt_30 ?_
    refine lv_topi (fun x_3 ex_3 => ?_)
    obtain rfl : x_3 = (nI (8 * k - 32)) := ex_3.trans ((pk_mul 8 (k - 4)).trans (show nI (8 * (k - 4)) = nI (8 * k - 32) from congrArg nI (by omega)))
    refine lv_iushr hx hb dX1_byteAt_31 rfl ?_
    refine lv_sipush (v := 255) hx hb dX1_byteAt_32 (by decide) ?_
    refine lv_iand hx hb dX1_byteAt_35 ?_
    exact W.iret (v := (((fo.toUInt32 >>> (((nI (8 * k - 32)) : Int32).toUInt32 &&& Int32.toUInt32 31)).toInt32) &&& 255)) hx hb hr (fun t ht hW => ⟨⟨(((fo.toUInt32 >>> (((nI (8 * k - 32)) : Int32).toUInt32 &&& Int32.toUInt32 31)).toInt32) &&& 255), (), rfl, (by unfold fb; rw [if_neg (by omega), show 8 * (k - 4) = 8 * k - 32 from by omega]), trivial⟩, hS.F ht⟩) hS.2.2 dX1_byteAt_36
  · have pc_1 : ¬ 4 ≤ k := fun h => c_1 ((nI_leI (a := 4) (b := k) (by omega) (by omega)).mpr h)
    refine lv_aload_n hx hb dX1_byteAt_5 rfl (lv_at hl 0 rfl) ?_
    refine va_get (D := (dC, dI)) (ci := 2) (v := .int ff) (C := RX1) (T := TX1) (N := 4) hx hb hts in_c_X1_byteAtN_X1 hown hK hP 0 rfl rfl 1 (by decide) (hts (.fieldLink RX1 15 "ClaimBus$Frame" "first" "I") (List.mem_of_getElem? (i := 2) rfl)) (fun _ h9 => h9) rfl dX1_byteAt_6 ?_
    refine lv_bipush (v := 8) hx hb dX1_byteAt_9 (by decide) ?_
    refine lv_iload_n hx hb dX1_byteAt_11 rfl (lv_at hl 1 rfl) ?_
    refine lv_imul hx hb dX1_byteAt_12 ?_
    refine lv_topi (fun x_4 ex_4 => ?_)
    obtain rfl : x_4 = (nI (8 * k)) := ex_4.trans ((pk_mul 8 k).trans (show nI (8 * k) = nI (8 * k) from congrArg nI (by omega)))
    refine lv_iushr hx hb dX1_byteAt_13 rfl ?_
    refine lv_sipush (v := 255) hx hb dX1_byteAt_14 (by decide) ?_
    refine lv_iand hx hb dX1_byteAt_17 ?_
    refine lv_goto (tgt := 36) hx hb dX1_byteAt_18 (by decide) ?_
    exact W.iret (v := (((ff.toUInt32 >>> (((nI (8 * k)) : Int32).toUInt32 &&& Int32.toUInt32 31)).toInt32) &&& 255)) hx hb hr (fun t ht hW => ⟨⟨(((ff.toUInt32 >>> (((nI (8 * k)) : Int32).toUInt32 &&& Int32.toUInt32 31)).toInt32) &&& 255), (), rfl, (by unfold fb; rw [if_pos (by omega)]), trivial⟩, hS.F ht⟩) hS.2.2 dX1_byteAt_36

noncomputable def tl_c_X1_isOf_yN : List Cond := wsX10
noncomputable def v_c_X1_isOf_yN : List Cond := .code yX1_isOf cX1_isOf 2 (some .boolean) :: ([.fieldLink RX1 9 "ClaimBus$Frame" "identifier" "I"] ++ tl_c_X1_isOf_yN)
theorem it_c_X1_isOf_yN : ∀ w ∈ tl_c_X1_isOf_yN, w ∈ v_c_X1_isOf_yN := fun w h => List.mem_cons_of_mem _ (List.mem_append_right _ h)
theorem in_c_X1_isOf_yN_X1 : ∀ w ∈ wsX10, w ∈ v_c_X1_isOf_yN := fun w h => it_c_X1_isOf_yN w (h)
theorem gt_c_X1_isOf_yN : ∀ w ∈ tl_c_X1_isOf_yN, goodWord w = true := gw_wsX10
theorem gw_c_X1_isOf_yN : ∀ w ∈ v_c_X1_isOf_yN, goodWord w = true := List.forall_mem_cons.mpr ⟨by decide +kernel, List.forall_mem_append.mpr ⟨List.all_eq_true.mp (by decide +kernel), gt_c_X1_isOf_yN⟩⟩
set_option maxHeartbeats 4000000 in
set_option maxRecDepth 100000 in
theorem c_X1_isOf_yN (l : Launch) (dC : Nat → ClassId) (dI : Nat → Nat → Nat) (h0 : Nat) (fi : Nat) (ff : Int32) (fo : Int32) (p0 : Nat) (sz : Nat) (hfi : fi < 536870912) (hp : fi / 65536 % 1024 = p0) (hp2 : p0 < 1024) : Met l yX1_isOf v_c_X1_isOf_yN ({ frames := 0, cells := 0, slots := 0, locals := 0 }) (va_Pc [.ref h0, .int (nI p0)] (fun U => U.heap.size = sz ∧ va_P (dC, dI) vwCl [(h0, .inr (2, [.int (nI fi), .int ff, .int fo, .null]))] U.heap ∧ va_K (dC, dI) vwCl [] U ∧ va_D (fun _ => True) [(h0, .inr (2, [.int (nI fi), .int ff, .int fo, .null]))] ∧ ev U)) (va_Qi (fun (r : Int32) (_ : Unit) => r = 1) (fun (_ : Unit) (_ : State) => True) (va_A [] sz)) 0 0 (va_A [] sz) := by
  refine Met.ofW (cc := cX1_isOf) (maxL := 2) (ret := (some .boolean)) (by decide) rfl ?_
  intro p e s m args below meth c s₁ B hml hv
  obtain ⟨rfl, hsz, hP, hK, hD0, hE⟩ := hv
  have hx := B.exec
  have hb := B.bytes
  have hr := B.returns
  have hts := atoms_spec (ws := v_c_X1_isOf_yN) B.pre
  have hown : s.vm.findClass RX1 = some m.cls := findClass_of_methodNamed B.named
  have hlocks := B.notSynchronized
  subst hsz
  have hD := hD0
  generalize hAe : va_A [] s.heap.size = A
  have hA : ∀ q : Nat, s.heap.size ≤ q → A q := fun q h => by rw [← hAe]; exact Or.inr h
  have hS : va_S A s.heap s.heap [] := va_S.rf
  replace hP : va_P (dC, dI) vwCl [(h0, .inr (2, [.int (nI fi), .int ff, .int fo, .null]))] s.heap := hP
  have hl := lv_entry ([.ref h0, .int (nI p0)]) (n := 2) (Nat.le_of_ble_eq_true rfl)
  rw [lg_entry_eq]
  generalize (lg_sl ([.ref h0, .int (nI p0)]) ++ List.replicate (2 - (lg_sl ([.ref h0, .int (nI p0)])).length) Slot.unset).toArray = ls at hl ⊢
  replace hl : lv_has ls 2 [(0, .ref h0), (1, .int (nI p0))] := hl
  obtain ⟨H, hH⟩ : ∃ z : Heap, z = s.heap := ⟨_, rfl⟩
  rw [← hH]
  replace hS : va_S A s.heap H [] := by rw [hH]; exact va_S.rf
  replace hP : va_P (dC, dI) vwCl [(h0, .inr (2, [.int (nI fi), .int ff, .int fo, .null]))] H := by rw [hH]; exact hP
  clear hH
  refine lv_aload_n hx hb dX1_isOf_0 rfl (lv_at hl 0 rfl) ?_
  refine va_get (D := (dC, dI)) (ci := 2) (v := .int (nI fi)) (C := RX1) (T := TX1) (N := 4) hx hb hts in_c_X1_isOf_yN_X1 hown hK hP 0 rfl rfl 0 (by decide) (hts (.fieldLink RX1 9 "ClaimBus$Frame" "identifier" "I") (List.mem_of_getElem? (i := 1) rfl)) (fun _ h9 => h9) rfl dX1_isOf_1 ?_
  refine lv_bipush (v := 16) hx hb dX1_isOf_4 (by decide) ?_
  refine lv_iushr (v := (nI (((fi) / 65536)))) hx hb dX1_isOf_6 ((pk_ushrN (n := fi) (by omega) (16 : Int32) 16 (by decide)).trans (show nI (fi / 2 ^ 16) = nI (((fi) / 65536)) from congrArg nI (by omega))) ?_
  refine lv_sipush (v := 1023) hx hb dX1_isOf_7 (by decide) ?_
  refine lv_iand hx hb dX1_isOf_10 ?_
  refine lv_topi (fun x_1 ex_1 => ?_)
  obtain rfl : x_1 = (nI (((((fi) / 65536)) % 1024))) := ex_1.trans ((pk_andN (n := (((fi) / 65536))) (m := 1023) (by omega) 10 (by decide)).trans (show nI ((((fi) / 65536)) % 2 ^ 10) = nI (((((fi) / 65536)) % 1024)) from congrArg nI (by omega)))
  refine lv_iload_n hx hb dX1_isOf_11 rfl (lv_at hl 1 rfl) ?_
  refine lv_icmp_ne (tgt := 19) hx hb dX1_isOf_12 (by decide) (fun c_2 => ?_) (fun c_2 => ?_)
  · exact absurd ((nI_eq (a := (((((fi) / 65536)) % 1024))) (b := p0) (by omega) (by omega)).mpr (by omega)) c_2
  refine lv_iconst (v := 1) hx hb dX1_isOf_15 (by decide) ?_
  refine lv_goto (tgt := 20) hx hb dX1_isOf_16 (by decide) ?_
  exact W.zret (v := 1) hx hb hr (by decide) (fun t ht hW => ⟨⟨1, (), rfl, rfl, trivial⟩, hS.F ht⟩) hS.2.2 dX1_isOf_20

noncomputable def tl_c_X1_isOf_nN : List Cond := wsX10
noncomputable def v_c_X1_isOf_nN : List Cond := .code yX1_isOf cX1_isOf 2 (some .boolean) :: ([.fieldLink RX1 9 "ClaimBus$Frame" "identifier" "I"] ++ tl_c_X1_isOf_nN)
theorem it_c_X1_isOf_nN : ∀ w ∈ tl_c_X1_isOf_nN, w ∈ v_c_X1_isOf_nN := fun w h => List.mem_cons_of_mem _ (List.mem_append_right _ h)
theorem in_c_X1_isOf_nN_X1 : ∀ w ∈ wsX10, w ∈ v_c_X1_isOf_nN := fun w h => it_c_X1_isOf_nN w (h)
theorem gt_c_X1_isOf_nN : ∀ w ∈ tl_c_X1_isOf_nN, goodWord w = true := gw_wsX10
theorem gw_c_X1_isOf_nN : ∀ w ∈ v_c_X1_isOf_nN, goodWord w = true := List.forall_mem_cons.mpr ⟨by decide +kernel, List.forall_mem_append.mpr ⟨List.all_eq_true.mp (by decide +kernel), gt_c_X1_isOf_nN⟩⟩
set_option maxHeartbeats 4000000 in
set_option maxRecDepth 100000 in
theorem c_X1_isOf_nN (l : Launch) (dC : Nat → ClassId) (dI : Nat → Nat → Nat) (h0 : Nat) (fi : Nat) (ff : Int32) (fo : Int32) (p0 : Nat) (sz : Nat) (hfi : fi < 536870912) (hp : fi / 65536 % 1024 ≠ p0) (hp2 : p0 < 1024) : Met l yX1_isOf v_c_X1_isOf_nN ({ frames := 0, cells := 0, slots := 0, locals := 0 }) (va_Pc [.ref h0, .int (nI p0)] (fun U => U.heap.size = sz ∧ va_P (dC, dI) vwCl [(h0, .inr (2, [.int (nI fi), .int ff, .int fo, .null]))] U.heap ∧ va_K (dC, dI) vwCl [] U ∧ va_D (fun _ => True) [(h0, .inr (2, [.int (nI fi), .int ff, .int fo, .null]))] ∧ ev U)) (va_Qi (fun (r : Int32) (_ : Unit) => r = 0) (fun (_ : Unit) (_ : State) => True) (va_A [] sz)) 0 0 (va_A [] sz) := by
  refine Met.ofW (cc := cX1_isOf) (maxL := 2) (ret := (some .boolean)) (by decide) rfl ?_
  intro p e s m args below meth c s₁ B hml hv
  obtain ⟨rfl, hsz, hP, hK, hD0, hE⟩ := hv
  have hx := B.exec
  have hb := B.bytes
  have hr := B.returns
  have hts := atoms_spec (ws := v_c_X1_isOf_nN) B.pre
  have hown : s.vm.findClass RX1 = some m.cls := findClass_of_methodNamed B.named
  have hlocks := B.notSynchronized
  subst hsz
  have hD := hD0
  generalize hAe : va_A [] s.heap.size = A
  have hA : ∀ q : Nat, s.heap.size ≤ q → A q := fun q h => by rw [← hAe]; exact Or.inr h
  have hS : va_S A s.heap s.heap [] := va_S.rf
  replace hP : va_P (dC, dI) vwCl [(h0, .inr (2, [.int (nI fi), .int ff, .int fo, .null]))] s.heap := hP
  have hl := lv_entry ([.ref h0, .int (nI p0)]) (n := 2) (Nat.le_of_ble_eq_true rfl)
  rw [lg_entry_eq]
  generalize (lg_sl ([.ref h0, .int (nI p0)]) ++ List.replicate (2 - (lg_sl ([.ref h0, .int (nI p0)])).length) Slot.unset).toArray = ls at hl ⊢
  replace hl : lv_has ls 2 [(0, .ref h0), (1, .int (nI p0))] := hl
  obtain ⟨H, hH⟩ : ∃ z : Heap, z = s.heap := ⟨_, rfl⟩
  rw [← hH]
  replace hS : va_S A s.heap H [] := by rw [hH]; exact va_S.rf
  replace hP : va_P (dC, dI) vwCl [(h0, .inr (2, [.int (nI fi), .int ff, .int fo, .null]))] H := by rw [hH]; exact hP
  clear hH
  refine lv_aload_n hx hb dX1_isOf_0 rfl (lv_at hl 0 rfl) ?_
  refine va_get (D := (dC, dI)) (ci := 2) (v := .int (nI fi)) (C := RX1) (T := TX1) (N := 4) hx hb hts in_c_X1_isOf_nN_X1 hown hK hP 0 rfl rfl 0 (by decide) (hts (.fieldLink RX1 9 "ClaimBus$Frame" "identifier" "I") (List.mem_of_getElem? (i := 1) rfl)) (fun _ h9 => h9) rfl dX1_isOf_1 ?_
  refine lv_bipush (v := 16) hx hb dX1_isOf_4 (by decide) ?_
  refine lv_iushr (v := (nI (((fi) / 65536)))) hx hb dX1_isOf_6 ((pk_ushrN (n := fi) (by omega) (16 : Int32) 16 (by decide)).trans (show nI (fi / 2 ^ 16) = nI (((fi) / 65536)) from congrArg nI (by omega))) ?_
  refine lv_sipush (v := 1023) hx hb dX1_isOf_7 (by decide) ?_
  refine lv_iand hx hb dX1_isOf_10 ?_
  refine lv_topi (fun x_1 ex_1 => ?_)
  obtain rfl : x_1 = (nI (((((fi) / 65536)) % 1024))) := ex_1.trans ((pk_andN (n := (((fi) / 65536))) (m := 1023) (by omega) 10 (by decide)).trans (show nI ((((fi) / 65536)) % 2 ^ 10) = nI (((((fi) / 65536)) % 1024)) from congrArg nI (by omega)))
  refine lv_iload_n hx hb dX1_isOf_11 rfl (lv_at hl 1 rfl) ?_
  refine lv_icmp_ne (tgt := 19) hx hb dX1_isOf_12 (by decide) (fun c_2 => ?_) (fun c_2 => ?_)
  rotate_left
  · exact absurd ((nI_eq (a := (((((fi) / 65536)) % 1024))) (b := p0) (by omega) (by omega)).mp c_2) (by omega)
  refine lv_iconst (v := 0) hx hb dX1_isOf_19 (by decide) ?_
  exact W.zret (v := 0) hx hb hr (by decide) (fun t ht hW => ⟨⟨0, (), rfl, rfl, trivial⟩, hS.F ht⟩) hS.2.2 dX1_isOf_20

noncomputable def tl_c_X1_isForAll_yN : List Cond := wsX10
noncomputable def v_c_X1_isForAll_yN : List Cond := .code yX1_isForAll cX1_isForAll 1 (some .boolean) :: ([.fieldLink RX1 9 "ClaimBus$Frame" "identifier" "I"] ++ tl_c_X1_isForAll_yN)
theorem it_c_X1_isForAll_yN : ∀ w ∈ tl_c_X1_isForAll_yN, w ∈ v_c_X1_isForAll_yN := fun w h => List.mem_cons_of_mem _ (List.mem_append_right _ h)
theorem in_c_X1_isForAll_yN_X1 : ∀ w ∈ wsX10, w ∈ v_c_X1_isForAll_yN := fun w h => it_c_X1_isForAll_yN w (h)
theorem gt_c_X1_isForAll_yN : ∀ w ∈ tl_c_X1_isForAll_yN, goodWord w = true := gw_wsX10
theorem gw_c_X1_isForAll_yN : ∀ w ∈ v_c_X1_isForAll_yN, goodWord w = true := List.forall_mem_cons.mpr ⟨by decide +kernel, List.forall_mem_append.mpr ⟨List.all_eq_true.mp (by decide +kernel), gt_c_X1_isForAll_yN⟩⟩
set_option maxHeartbeats 4000000 in
set_option maxRecDepth 100000 in
theorem c_X1_isForAll_yN (l : Launch) (dC : Nat → ClassId) (dI : Nat → Nat → Nat) (h0 : Nat) (fi : Nat) (ff : Int32) (fo : Int32) (sz : Nat) (hfi : fi < 536870912) (hp : fi / 256 % 256 = 255) : Met l yX1_isForAll v_c_X1_isForAll_yN ({ frames := 0, cells := 0, slots := 0, locals := 0 }) (va_Pc [.ref h0] (fun U => U.heap.size = sz ∧ va_P (dC, dI) vwCl [(h0, .inr (2, [.int (nI fi), .int ff, .int fo, .null]))] U.heap ∧ va_K (dC, dI) vwCl [] U ∧ va_D (fun _ => True) [(h0, .inr (2, [.int (nI fi), .int ff, .int fo, .null]))] ∧ ev U)) (va_Qi (fun (r : Int32) (_ : Unit) => r = 1) (fun (_ : Unit) (_ : State) => True) (va_A [] sz)) 0 0 (va_A [] sz) := by
  refine Met.ofW (cc := cX1_isForAll) (maxL := 1) (ret := (some .boolean)) (by decide) rfl ?_
  intro p e s m args below meth c s₁ B hml hv
  obtain ⟨rfl, hsz, hP, hK, hD0, hE⟩ := hv
  have hx := B.exec
  have hb := B.bytes
  have hr := B.returns
  have hts := atoms_spec (ws := v_c_X1_isForAll_yN) B.pre
  have hown : s.vm.findClass RX1 = some m.cls := findClass_of_methodNamed B.named
  have hlocks := B.notSynchronized
  subst hsz
  have hD := hD0
  generalize hAe : va_A [] s.heap.size = A
  have hA : ∀ q : Nat, s.heap.size ≤ q → A q := fun q h => by rw [← hAe]; exact Or.inr h
  have hS : va_S A s.heap s.heap [] := va_S.rf
  replace hP : va_P (dC, dI) vwCl [(h0, .inr (2, [.int (nI fi), .int ff, .int fo, .null]))] s.heap := hP
  have hl := lv_entry ([.ref h0]) (n := 1) (Nat.le_of_ble_eq_true rfl)
  rw [lg_entry_eq]
  generalize (lg_sl ([.ref h0]) ++ List.replicate (1 - (lg_sl ([.ref h0])).length) Slot.unset).toArray = ls at hl ⊢
  replace hl : lv_has ls 1 [(0, .ref h0)] := hl
  obtain ⟨H, hH⟩ : ∃ z : Heap, z = s.heap := ⟨_, rfl⟩
  rw [← hH]
  replace hS : va_S A s.heap H [] := by rw [hH]; exact va_S.rf
  replace hP : va_P (dC, dI) vwCl [(h0, .inr (2, [.int (nI fi), .int ff, .int fo, .null]))] H := by rw [hH]; exact hP
  clear hH
  refine lv_aload_n hx hb dX1_isForAll_0 rfl (lv_at hl 0 rfl) ?_
  refine va_get (D := (dC, dI)) (ci := 2) (v := .int (nI fi)) (C := RX1) (T := TX1) (N := 4) hx hb hts in_c_X1_isForAll_yN_X1 hown hK hP 0 rfl rfl 0 (by decide) (hts (.fieldLink RX1 9 "ClaimBus$Frame" "identifier" "I") (List.mem_of_getElem? (i := 1) rfl)) (fun _ h9 => h9) rfl dX1_isForAll_1 ?_
  refine lv_bipush (v := 8) hx hb dX1_isForAll_4 (by decide) ?_
  refine lv_iushr (v := (nI (((fi) / 256)))) hx hb dX1_isForAll_6 ((pk_ushrN (n := fi) (by omega) (8 : Int32) 8 (by decide)).trans (show nI (fi / 2 ^ 8) = nI (((fi) / 256)) from congrArg nI (by omega))) ?_
  refine lv_sipush (v := 255) hx hb dX1_isForAll_7 (by decide) ?_
  refine lv_iand hx hb dX1_isForAll_10 ?_
  refine lv_topi (fun x_1 ex_1 => ?_)
  obtain rfl : x_1 = (nI (((((fi) / 256)) % 256))) := ex_1.trans ((pk_andN (n := (((fi) / 256))) (m := 255) (by omega) 8 (by decide)).trans (show nI ((((fi) / 256)) % 2 ^ 8) = nI (((((fi) / 256)) % 256)) from congrArg nI (by omega)))
  refine lv_sipush (v := 255) hx hb dX1_isForAll_11 (by decide) ?_
  refine lv_icmp_ne (tgt := 21) hx hb dX1_isForAll_14 (by decide) (fun c_2 => ?_) (fun c_2 => ?_)
  · exact absurd ((nI_eq (a := (((((fi) / 256)) % 256))) (b := 255) (by omega) (by omega)).mpr (by omega)) c_2
  refine lv_iconst (v := 1) hx hb dX1_isForAll_17 (by decide) ?_
  refine lv_goto (tgt := 22) hx hb dX1_isForAll_18 (by decide) ?_
  exact W.zret (v := 1) hx hb hr (by decide) (fun t ht hW => ⟨⟨1, (), rfl, rfl, trivial⟩, hS.F ht⟩) hS.2.2 dX1_isForAll_22

noncomputable def tl_c_X1_isForAll_nN : List Cond := wsX10
noncomputable def v_c_X1_isForAll_nN : List Cond := .code yX1_isForAll cX1_isForAll 1 (some .boolean) :: ([.fieldLink RX1 9 "ClaimBus$Frame" "identifier" "I"] ++ tl_c_X1_isForAll_nN)
theorem it_c_X1_isForAll_nN : ∀ w ∈ tl_c_X1_isForAll_nN, w ∈ v_c_X1_isForAll_nN := fun w h => List.mem_cons_of_mem _ (List.mem_append_right _ h)
theorem in_c_X1_isForAll_nN_X1 : ∀ w ∈ wsX10, w ∈ v_c_X1_isForAll_nN := fun w h => it_c_X1_isForAll_nN w (h)
theorem gt_c_X1_isForAll_nN : ∀ w ∈ tl_c_X1_isForAll_nN, goodWord w = true := gw_wsX10
theorem gw_c_X1_isForAll_nN : ∀ w ∈ v_c_X1_isForAll_nN, goodWord w = true := List.forall_mem_cons.mpr ⟨by decide +kernel, List.forall_mem_append.mpr ⟨List.all_eq_true.mp (by decide +kernel), gt_c_X1_isForAll_nN⟩⟩
set_option maxHeartbeats 4000000 in
set_option maxRecDepth 100000 in
theorem c_X1_isForAll_nN (l : Launch) (dC : Nat → ClassId) (dI : Nat → Nat → Nat) (h0 : Nat) (fi : Nat) (ff : Int32) (fo : Int32) (sz : Nat) (hfi : fi < 536870912) (hp : fi / 256 % 256 ≠ 255) : Met l yX1_isForAll v_c_X1_isForAll_nN ({ frames := 0, cells := 0, slots := 0, locals := 0 }) (va_Pc [.ref h0] (fun U => U.heap.size = sz ∧ va_P (dC, dI) vwCl [(h0, .inr (2, [.int (nI fi), .int ff, .int fo, .null]))] U.heap ∧ va_K (dC, dI) vwCl [] U ∧ va_D (fun _ => True) [(h0, .inr (2, [.int (nI fi), .int ff, .int fo, .null]))] ∧ ev U)) (va_Qi (fun (r : Int32) (_ : Unit) => r = 0) (fun (_ : Unit) (_ : State) => True) (va_A [] sz)) 0 0 (va_A [] sz) := by
  refine Met.ofW (cc := cX1_isForAll) (maxL := 1) (ret := (some .boolean)) (by decide) rfl ?_
  intro p e s m args below meth c s₁ B hml hv
  obtain ⟨rfl, hsz, hP, hK, hD0, hE⟩ := hv
  have hx := B.exec
  have hb := B.bytes
  have hr := B.returns
  have hts := atoms_spec (ws := v_c_X1_isForAll_nN) B.pre
  have hown : s.vm.findClass RX1 = some m.cls := findClass_of_methodNamed B.named
  have hlocks := B.notSynchronized
  subst hsz
  have hD := hD0
  generalize hAe : va_A [] s.heap.size = A
  have hA : ∀ q : Nat, s.heap.size ≤ q → A q := fun q h => by rw [← hAe]; exact Or.inr h
  have hS : va_S A s.heap s.heap [] := va_S.rf
  replace hP : va_P (dC, dI) vwCl [(h0, .inr (2, [.int (nI fi), .int ff, .int fo, .null]))] s.heap := hP
  have hl := lv_entry ([.ref h0]) (n := 1) (Nat.le_of_ble_eq_true rfl)
  rw [lg_entry_eq]
  generalize (lg_sl ([.ref h0]) ++ List.replicate (1 - (lg_sl ([.ref h0])).length) Slot.unset).toArray = ls at hl ⊢
  replace hl : lv_has ls 1 [(0, .ref h0)] := hl
  obtain ⟨H, hH⟩ : ∃ z : Heap, z = s.heap := ⟨_, rfl⟩
  rw [← hH]
  replace hS : va_S A s.heap H [] := by rw [hH]; exact va_S.rf
  replace hP : va_P (dC, dI) vwCl [(h0, .inr (2, [.int (nI fi), .int ff, .int fo, .null]))] H := by rw [hH]; exact hP
  clear hH
  refine lv_aload_n hx hb dX1_isForAll_0 rfl (lv_at hl 0 rfl) ?_
  refine va_get (D := (dC, dI)) (ci := 2) (v := .int (nI fi)) (C := RX1) (T := TX1) (N := 4) hx hb hts in_c_X1_isForAll_nN_X1 hown hK hP 0 rfl rfl 0 (by decide) (hts (.fieldLink RX1 9 "ClaimBus$Frame" "identifier" "I") (List.mem_of_getElem? (i := 1) rfl)) (fun _ h9 => h9) rfl dX1_isForAll_1 ?_
  refine lv_bipush (v := 8) hx hb dX1_isForAll_4 (by decide) ?_
  refine lv_iushr (v := (nI (((fi) / 256)))) hx hb dX1_isForAll_6 ((pk_ushrN (n := fi) (by omega) (8 : Int32) 8 (by decide)).trans (show nI (fi / 2 ^ 8) = nI (((fi) / 256)) from congrArg nI (by omega))) ?_
  refine lv_sipush (v := 255) hx hb dX1_isForAll_7 (by decide) ?_
  refine lv_iand hx hb dX1_isForAll_10 ?_
  refine lv_topi (fun x_1 ex_1 => ?_)
  obtain rfl : x_1 = (nI (((((fi) / 256)) % 256))) := ex_1.trans ((pk_andN (n := (((fi) / 256))) (m := 255) (by omega) 8 (by decide)).trans (show nI ((((fi) / 256)) % 2 ^ 8) = nI (((((fi) / 256)) % 256)) from congrArg nI (by omega)))
  refine lv_sipush (v := 255) hx hb dX1_isForAll_11 (by decide) ?_
  refine lv_icmp_ne (tgt := 21) hx hb dX1_isForAll_14 (by decide) (fun c_2 => ?_) (fun c_2 => ?_)
  rotate_left
  · exact absurd ((nI_eq (a := (((((fi) / 256)) % 256))) (b := 255) (by omega) (by omega)).mp c_2) (by omega)
  refine lv_iconst (v := 0) hx hb dX1_isForAll_21 (by decide) ?_
  exact W.zret (v := 0) hx hb hr (by decide) (fun t ht hW => ⟨⟨0, (), rfl, rfl, trivial⟩, hS.F ht⟩) hS.2.2 dX1_isForAll_22

noncomputable def tl_c_X1_isFor_aN : List Cond := wsX10
noncomputable def v_c_X1_isFor_aN : List Cond := .code yX1_isFor cX1_isFor 4 (some .boolean) :: ([.fieldLink RX1 9 "ClaimBus$Frame" "identifier" "I"] ++ tl_c_X1_isFor_aN)
theorem it_c_X1_isFor_aN : ∀ w ∈ tl_c_X1_isFor_aN, w ∈ v_c_X1_isFor_aN := fun w h => List.mem_cons_of_mem _ (List.mem_append_right _ h)
theorem in_c_X1_isFor_aN_X1 : ∀ w ∈ wsX10, w ∈ v_c_X1_isFor_aN := fun w h => it_c_X1_isFor_aN w (h)
theorem gt_c_X1_isFor_aN : ∀ w ∈ tl_c_X1_isFor_aN, goodWord w = true := gw_wsX10
theorem gw_c_X1_isFor_aN : ∀ w ∈ v_c_X1_isFor_aN, goodWord w = true := List.forall_mem_cons.mpr ⟨by decide +kernel, List.forall_mem_append.mpr ⟨List.all_eq_true.mp (by decide +kernel), gt_c_X1_isFor_aN⟩⟩
set_option maxHeartbeats 4000000 in
set_option maxRecDepth 100000 in
theorem c_X1_isFor_aN (l : Launch) (dC : Nat → ClassId) (dI : Nat → Nat → Nat) (h0 : Nat) (fi : Nat) (ff : Int32) (fo : Int32) (p0 : Nat) (sz : Nat) (hfi : fi < 536870912) (hp : fi / 256 % 256 = 255) (hp2 : fi / 65536 % 256 < 240) (hp3 : p0 < 256) : Met l yX1_isFor v_c_X1_isFor_aN ({ frames := 0, cells := 0, slots := 0, locals := 0 }) (va_Pc [.ref h0, .int (nI p0)] (fun U => U.heap.size = sz ∧ va_P (dC, dI) vwCl [(h0, .inr (2, [.int (nI fi), .int ff, .int fo, .null]))] U.heap ∧ va_K (dC, dI) vwCl [] U ∧ va_D (fun _ => True) [(h0, .inr (2, [.int (nI fi), .int ff, .int fo, .null]))] ∧ ev U)) (va_Qi (fun (r : Int32) (_ : Unit) => r = 1) (fun (_ : Unit) (_ : State) => True) (va_A [] sz)) 0 0 (va_A [] sz) := by
  refine Met.ofW (cc := cX1_isFor) (maxL := 4) (ret := (some .boolean)) (by decide) rfl ?_
  intro p e s m args below meth c s₁ B hml hv
  obtain ⟨rfl, hsz, hP, hK, hD0, hE⟩ := hv
  have hx := B.exec
  have hb := B.bytes
  have hr := B.returns
  have hts := atoms_spec (ws := v_c_X1_isFor_aN) B.pre
  have hown : s.vm.findClass RX1 = some m.cls := findClass_of_methodNamed B.named
  have hlocks := B.notSynchronized
  subst hsz
  have hD := hD0
  generalize hAe : va_A [] s.heap.size = A
  have hA : ∀ q : Nat, s.heap.size ≤ q → A q := fun q h => by rw [← hAe]; exact Or.inr h
  have hS : va_S A s.heap s.heap [] := va_S.rf
  replace hP : va_P (dC, dI) vwCl [(h0, .inr (2, [.int (nI fi), .int ff, .int fo, .null]))] s.heap := hP
  have hl := lv_entry ([.ref h0, .int (nI p0)]) (n := 4) (Nat.le_of_ble_eq_true rfl)
  rw [lg_entry_eq]
  generalize (lg_sl ([.ref h0, .int (nI p0)]) ++ List.replicate (4 - (lg_sl ([.ref h0, .int (nI p0)])).length) Slot.unset).toArray = ls at hl ⊢
  replace hl : lv_has ls 4 [(0, .ref h0), (1, .int (nI p0))] := hl
  obtain ⟨H, hH⟩ : ∃ z : Heap, z = s.heap := ⟨_, rfl⟩
  rw [← hH]
  replace hS : va_S A s.heap H [] := by rw [hH]; exact va_S.rf
  replace hP : va_P (dC, dI) vwCl [(h0, .inr (2, [.int (nI fi), .int ff, .int fo, .null]))] H := by rw [hH]; exact hP
  clear hH
  refine lv_aload_n hx hb dX1_isFor_0 rfl (lv_at hl 0 rfl) ?_
  refine va_get (D := (dC, dI)) (ci := 2) (v := .int (nI fi)) (C := RX1) (T := TX1) (N := 4) hx hb hts in_c_X1_isFor_aN_X1 hown hK hP 0 rfl rfl 0 (by decide) (hts (.fieldLink RX1 9 "ClaimBus$Frame" "identifier" "I") (List.mem_of_getElem? (i := 1) rfl)) (fun _ h9 => h9) rfl dX1_isFor_1 ?_
  refine lv_bipush (v := 8) hx hb dX1_isFor_4 (by decide) ?_
  refine lv_iushr (v := (nI (((fi) / 256)))) hx hb dX1_isFor_6 ((pk_ushrN (n := fi) (by omega) (8 : Int32) 8 (by decide)).trans (show nI (fi / 2 ^ 8) = nI (((fi) / 256)) from congrArg nI (by omega))) ?_
  refine lv_sipush (v := 255) hx hb dX1_isFor_7 (by decide) ?_
  refine lv_iand hx hb dX1_isFor_10 ?_
  refine lv_topi (fun x_1 ex_1 => ?_)
  obtain rfl : x_1 = (nI (((((fi) / 256)) % 256))) := ex_1.trans ((pk_andN (n := (((fi) / 256))) (m := 255) (by omega) 8 (by decide)).trans (show nI ((((fi) / 256)) % 2 ^ 8) = nI (((((fi) / 256)) % 256)) from congrArg nI (by omega)))
  refine lv_istore_n (lv' := [(2, .int (nI (((((fi) / 256)) % 256)))), (0, .ref h0), (1, .int (nI p0))]) hx hb dX1_isFor_11 rfl hl (by decide) rfl (fun ls hl => ?_)
  refine lv_aload_n hx hb dX1_isFor_12 rfl (lv_at hl 1 rfl) ?_
  refine va_get (D := (dC, dI)) (ci := 2) (v := .int (nI fi)) (C := RX1) (T := TX1) (N := 4) hx hb hts in_c_X1_isFor_aN_X1 hown hK hP 0 rfl rfl 0 (by decide) (hts (.fieldLink RX1 9 "ClaimBus$Frame" "identifier" "I") (List.mem_of_getElem? (i := 1) rfl)) (fun _ h9 => h9) rfl dX1_isFor_13 ?_
  refine lv_bipush (v := 16) hx hb dX1_isFor_16 (by decide) ?_
  refine lv_iushr (v := (nI (((fi) / 65536)))) hx hb dX1_isFor_18 ((pk_ushrN (n := fi) (by omega) (16 : Int32) 16 (by decide)).trans (show nI (fi / 2 ^ 16) = nI (((fi) / 65536)) from congrArg nI (by omega))) ?_
  refine lv_sipush (v := 255) hx hb dX1_isFor_19 (by decide) ?_
  refine lv_iand hx hb dX1_isFor_22 ?_
  refine lv_topi (fun x_2 ex_2 => ?_)
  obtain rfl : x_2 = (nI (((((fi) / 65536)) % 256))) := ex_2.trans ((pk_andN (n := (((fi) / 65536))) (m := 255) (by omega) 8 (by decide)).trans (show nI ((((fi) / 65536)) % 2 ^ 8) = nI (((((fi) / 65536)) % 256)) from congrArg nI (by omega)))
  refine lv_sipush (v := 240) hx hb dX1_isFor_23 (by decide) ?_
  refine lv_icmp_ge (tgt := 33) hx hb dX1_isFor_26 (by decide) (fun c_3 => ?_) (fun c_3 => ?_)
  · exact absurd ((nI_leI (a := 240) (b := (((((fi) / 65536)) % 256))) (by omega) (by omega)).mp c_3) (by omega)
  refine lv_iconst (v := 1) hx hb dX1_isFor_29 (by decide) ?_
  refine lv_goto (tgt := 34) hx hb dX1_isFor_30 (by decide) ?_
  refine lv_istore_n (lv' := [(3, .int 1), (2, .int (nI (((((fi) / 256)) % 256)))), (0, .ref h0), (1, .int (nI p0))]) hx hb dX1_isFor_34 rfl hl (by decide) rfl (fun ls hl => ?_)
  refine lv_iload_n hx hb dX1_isFor_35 rfl (lv_at hl 0 rfl) ?_
  refine lv_if_eq (tgt := 51) hx hb dX1_isFor_36 (by decide) (fun c_4 => ?_) (fun c_4 => ?_)
  · exact absurd c_4 (by decide)
  refine lv_iload_n hx hb dX1_isFor_39 rfl (lv_at hl 1 rfl) ?_
  refine lv_sipush (v := 255) hx hb dX1_isFor_40 (by decide) ?_
  refine lv_icmp_eq (tgt := 51) hx hb dX1_isFor_43 (by decide) (fun c_5 => ?_) (fun c_5 => ?_)
  rotate_left
  · exact absurd ((nI_eq (a := (((((fi) / 256)) % 256))) (b := 255) (by omega) (by omega)).mpr (by omega)) c_5
  refine lv_iconst (v := 1) hx hb dX1_isFor_51 (by decide) ?_
  refine lv_goto (tgt := 56) hx hb dX1_isFor_52 (by decide) ?_
  exact W.zret (v := 1) hx hb hr (by decide) (fun t ht hW => ⟨⟨1, (), rfl, rfl, trivial⟩, hS.F ht⟩) hS.2.2 dX1_isFor_56

noncomputable def tl_c_X1_isFor_oN : List Cond := wsX10
noncomputable def v_c_X1_isFor_oN : List Cond := .code yX1_isFor cX1_isFor 4 (some .boolean) :: ([.fieldLink RX1 9 "ClaimBus$Frame" "identifier" "I"] ++ tl_c_X1_isFor_oN)
theorem it_c_X1_isFor_oN : ∀ w ∈ tl_c_X1_isFor_oN, w ∈ v_c_X1_isFor_oN := fun w h => List.mem_cons_of_mem _ (List.mem_append_right _ h)
theorem in_c_X1_isFor_oN_X1 : ∀ w ∈ wsX10, w ∈ v_c_X1_isFor_oN := fun w h => it_c_X1_isFor_oN w (h)
theorem gt_c_X1_isFor_oN : ∀ w ∈ tl_c_X1_isFor_oN, goodWord w = true := gw_wsX10
theorem gw_c_X1_isFor_oN : ∀ w ∈ v_c_X1_isFor_oN, goodWord w = true := List.forall_mem_cons.mpr ⟨by decide +kernel, List.forall_mem_append.mpr ⟨List.all_eq_true.mp (by decide +kernel), gt_c_X1_isFor_oN⟩⟩
set_option maxHeartbeats 4000000 in
set_option maxRecDepth 100000 in
theorem c_X1_isFor_oN (l : Launch) (dC : Nat → ClassId) (dI : Nat → Nat → Nat) (h0 : Nat) (fi : Nat) (ff : Int32) (fo : Int32) (p0 : Nat) (sz : Nat) (hfi : fi < 536870912) (hp : fi / 256 % 256 = p0) (hp0 : p0 ≠ 255) (hp2 : fi / 65536 % 256 < 240) (hp3 : p0 < 256) : Met l yX1_isFor v_c_X1_isFor_oN ({ frames := 0, cells := 0, slots := 0, locals := 0 }) (va_Pc [.ref h0, .int (nI p0)] (fun U => U.heap.size = sz ∧ va_P (dC, dI) vwCl [(h0, .inr (2, [.int (nI fi), .int ff, .int fo, .null]))] U.heap ∧ va_K (dC, dI) vwCl [] U ∧ va_D (fun _ => True) [(h0, .inr (2, [.int (nI fi), .int ff, .int fo, .null]))] ∧ ev U)) (va_Qi (fun (r : Int32) (_ : Unit) => r = 1) (fun (_ : Unit) (_ : State) => True) (va_A [] sz)) 0 0 (va_A [] sz) := by
  refine Met.ofW (cc := cX1_isFor) (maxL := 4) (ret := (some .boolean)) (by decide) rfl ?_
  intro p e s m args below meth c s₁ B hml hv
  obtain ⟨rfl, hsz, hP, hK, hD0, hE⟩ := hv
  have hx := B.exec
  have hb := B.bytes
  have hr := B.returns
  have hts := atoms_spec (ws := v_c_X1_isFor_oN) B.pre
  have hown : s.vm.findClass RX1 = some m.cls := findClass_of_methodNamed B.named
  have hlocks := B.notSynchronized
  subst hsz
  have hD := hD0
  generalize hAe : va_A [] s.heap.size = A
  have hA : ∀ q : Nat, s.heap.size ≤ q → A q := fun q h => by rw [← hAe]; exact Or.inr h
  have hS : va_S A s.heap s.heap [] := va_S.rf
  replace hP : va_P (dC, dI) vwCl [(h0, .inr (2, [.int (nI fi), .int ff, .int fo, .null]))] s.heap := hP
  have hl := lv_entry ([.ref h0, .int (nI p0)]) (n := 4) (Nat.le_of_ble_eq_true rfl)
  rw [lg_entry_eq]
  generalize (lg_sl ([.ref h0, .int (nI p0)]) ++ List.replicate (4 - (lg_sl ([.ref h0, .int (nI p0)])).length) Slot.unset).toArray = ls at hl ⊢
  replace hl : lv_has ls 4 [(0, .ref h0), (1, .int (nI p0))] := hl
  obtain ⟨H, hH⟩ : ∃ z : Heap, z = s.heap := ⟨_, rfl⟩
  rw [← hH]
  replace hS : va_S A s.heap H [] := by rw [hH]; exact va_S.rf
  replace hP : va_P (dC, dI) vwCl [(h0, .inr (2, [.int (nI fi), .int ff, .int fo, .null]))] H := by rw [hH]; exact hP
  clear hH
  refine lv_aload_n hx hb dX1_isFor_0 rfl (lv_at hl 0 rfl) ?_
  refine va_get (D := (dC, dI)) (ci := 2) (v := .int (nI fi)) (C := RX1) (T := TX1) (N := 4) hx hb hts in_c_X1_isFor_oN_X1 hown hK hP 0 rfl rfl 0 (by decide) (hts (.fieldLink RX1 9 "ClaimBus$Frame" "identifier" "I") (List.mem_of_getElem? (i := 1) rfl)) (fun _ h9 => h9) rfl dX1_isFor_1 ?_
  refine lv_bipush (v := 8) hx hb dX1_isFor_4 (by decide) ?_
  refine lv_iushr (v := (nI (((fi) / 256)))) hx hb dX1_isFor_6 ((pk_ushrN (n := fi) (by omega) (8 : Int32) 8 (by decide)).trans (show nI (fi / 2 ^ 8) = nI (((fi) / 256)) from congrArg nI (by omega))) ?_
  refine lv_sipush (v := 255) hx hb dX1_isFor_7 (by decide) ?_
  refine lv_iand hx hb dX1_isFor_10 ?_
  refine lv_topi (fun x_1 ex_1 => ?_)
  obtain rfl : x_1 = (nI (((((fi) / 256)) % 256))) := ex_1.trans ((pk_andN (n := (((fi) / 256))) (m := 255) (by omega) 8 (by decide)).trans (show nI ((((fi) / 256)) % 2 ^ 8) = nI (((((fi) / 256)) % 256)) from congrArg nI (by omega)))
  refine lv_istore_n (lv' := [(2, .int (nI (((((fi) / 256)) % 256)))), (0, .ref h0), (1, .int (nI p0))]) hx hb dX1_isFor_11 rfl hl (by decide) rfl (fun ls hl => ?_)
  refine lv_aload_n hx hb dX1_isFor_12 rfl (lv_at hl 1 rfl) ?_
  refine va_get (D := (dC, dI)) (ci := 2) (v := .int (nI fi)) (C := RX1) (T := TX1) (N := 4) hx hb hts in_c_X1_isFor_oN_X1 hown hK hP 0 rfl rfl 0 (by decide) (hts (.fieldLink RX1 9 "ClaimBus$Frame" "identifier" "I") (List.mem_of_getElem? (i := 1) rfl)) (fun _ h9 => h9) rfl dX1_isFor_13 ?_
  refine lv_bipush (v := 16) hx hb dX1_isFor_16 (by decide) ?_
  refine lv_iushr (v := (nI (((fi) / 65536)))) hx hb dX1_isFor_18 ((pk_ushrN (n := fi) (by omega) (16 : Int32) 16 (by decide)).trans (show nI (fi / 2 ^ 16) = nI (((fi) / 65536)) from congrArg nI (by omega))) ?_
  refine lv_sipush (v := 255) hx hb dX1_isFor_19 (by decide) ?_
  refine lv_iand hx hb dX1_isFor_22 ?_
  refine lv_topi (fun x_2 ex_2 => ?_)
  obtain rfl : x_2 = (nI (((((fi) / 65536)) % 256))) := ex_2.trans ((pk_andN (n := (((fi) / 65536))) (m := 255) (by omega) 8 (by decide)).trans (show nI ((((fi) / 65536)) % 2 ^ 8) = nI (((((fi) / 65536)) % 256)) from congrArg nI (by omega)))
  refine lv_sipush (v := 240) hx hb dX1_isFor_23 (by decide) ?_
  refine lv_icmp_ge (tgt := 33) hx hb dX1_isFor_26 (by decide) (fun c_3 => ?_) (fun c_3 => ?_)
  · exact absurd ((nI_leI (a := 240) (b := (((((fi) / 65536)) % 256))) (by omega) (by omega)).mp c_3) (by omega)
  refine lv_iconst (v := 1) hx hb dX1_isFor_29 (by decide) ?_
  refine lv_goto (tgt := 34) hx hb dX1_isFor_30 (by decide) ?_
  refine lv_istore_n (lv' := [(3, .int 1), (2, .int (nI (((((fi) / 256)) % 256)))), (0, .ref h0), (1, .int (nI p0))]) hx hb dX1_isFor_34 rfl hl (by decide) rfl (fun ls hl => ?_)
  refine lv_iload_n hx hb dX1_isFor_35 rfl (lv_at hl 0 rfl) ?_
  refine lv_if_eq (tgt := 51) hx hb dX1_isFor_36 (by decide) (fun c_4 => ?_) (fun c_4 => ?_)
  · exact absurd c_4 (by decide)
  refine lv_iload_n hx hb dX1_isFor_39 rfl (lv_at hl 1 rfl) ?_
  refine lv_sipush (v := 255) hx hb dX1_isFor_40 (by decide) ?_
  refine lv_icmp_eq (tgt := 51) hx hb dX1_isFor_43 (by decide) (fun c_5 => ?_) (fun c_5 => ?_)
  · exact absurd ((nI_eq (a := (((((fi) / 256)) % 256))) (b := 255) (by omega) (by omega)).mp c_5) (by omega)
  refine lv_iload_n hx hb dX1_isFor_46 rfl (lv_at hl 1 rfl) ?_
  refine lv_iload_n hx hb dX1_isFor_47 rfl (lv_at hl 3 rfl) ?_
  refine lv_icmp_ne (tgt := 55) hx hb dX1_isFor_48 (by decide) (fun c_6 => ?_) (fun c_6 => ?_)
  · exact absurd ((nI_eq (a := (((((fi) / 256)) % 256))) (b := p0) (by omega) (by omega)).mpr (by omega)) c_6
  refine lv_iconst (v := 1) hx hb dX1_isFor_51 (by decide) ?_
  refine lv_goto (tgt := 56) hx hb dX1_isFor_52 (by decide) ?_
  exact W.zret (v := 1) hx hb hr (by decide) (fun t ht hW => ⟨⟨1, (), rfl, rfl, trivial⟩, hS.F ht⟩) hS.2.2 dX1_isFor_56

noncomputable def tl_c_X1_byteAt_0 : List Cond := wsX10
noncomputable def v_c_X1_byteAt_0 : List Cond := .code yX1_byteAt cX1_byteAt 2 (some .int) :: ([.fieldLink RX1 15 "ClaimBus$Frame" "first" "I"] ++ tl_c_X1_byteAt_0)
theorem it_c_X1_byteAt_0 : ∀ w ∈ tl_c_X1_byteAt_0, w ∈ v_c_X1_byteAt_0 := fun w h => List.mem_cons_of_mem _ (List.mem_append_right _ h)
theorem in_c_X1_byteAt_0_X1 : ∀ w ∈ wsX10, w ∈ v_c_X1_byteAt_0 := fun w h => it_c_X1_byteAt_0 w (h)
theorem gt_c_X1_byteAt_0 : ∀ w ∈ tl_c_X1_byteAt_0, goodWord w = true := gw_wsX10
theorem gw_c_X1_byteAt_0 : ∀ w ∈ v_c_X1_byteAt_0, goodWord w = true := List.forall_mem_cons.mpr ⟨by decide +kernel, List.forall_mem_append.mpr ⟨List.all_eq_true.mp (by decide +kernel), gt_c_X1_byteAt_0⟩⟩
set_option maxHeartbeats 4000000 in
set_option maxRecDepth 100000 in
theorem c_X1_byteAt_0 (l : Launch) (dC : Nat → ClassId) (dI : Nat → Nat → Nat) (h0 : Nat) (fi : Nat) (ff : Nat) (fo : Nat) (fw : Nat) (sz : Nat) (hfi : fi < 536870912) (hff : ff < 4294967296) (hfo : fo < 4294967296) : Met l yX1_byteAt v_c_X1_byteAt_0 ({ frames := 0, cells := 0, slots := 0, locals := 0 }) (va_Pc [.ref h0, .int 0] (fun U => U.heap.size = sz ∧ va_P (dC, dI) vwCl [(h0, .inr (2, [.int (nI fi), .int (nI ff), .int (nI fo), .ref fw]))] U.heap ∧ va_K (dC, dI) vwCl [] U ∧ va_D (fun _ => True) [(h0, .inr (2, [.int (nI fi), .int (nI ff), .int (nI fo), .ref fw]))] ∧ ev U)) (va_Qi (fun (r : Int32) (_ : Unit) => r = (nI (ff / 1 % 256))) (fun (_ : Unit) (_ : State) => True) (va_A [] sz)) 0 0 (va_A [] sz) := by
  refine Met.ofW (cc := cX1_byteAt) (maxL := 2) (ret := (some .int)) (by decide) rfl ?_
  intro p e s m args below meth c s₁ B hml hv
  obtain ⟨rfl, hsz, hP, hK, hD0, hE⟩ := hv
  have hx := B.exec
  have hb := B.bytes
  have hr := B.returns
  have hts := atoms_spec (ws := v_c_X1_byteAt_0) B.pre
  have hown : s.vm.findClass RX1 = some m.cls := findClass_of_methodNamed B.named
  have hlocks := B.notSynchronized
  subst hsz
  have hD := hD0
  generalize hAe : va_A [] s.heap.size = A
  have hA : ∀ q : Nat, s.heap.size ≤ q → A q := fun q h => by rw [← hAe]; exact Or.inr h
  have hS : va_S A s.heap s.heap [] := va_S.rf
  replace hP : va_P (dC, dI) vwCl [(h0, .inr (2, [.int (nI fi), .int (nI ff), .int (nI fo), .ref fw]))] s.heap := hP
  have hl := lv_entry ([.ref h0, .int 0]) (n := 2) (Nat.le_of_ble_eq_true rfl)
  rw [lg_entry_eq]
  generalize (lg_sl ([.ref h0, .int 0]) ++ List.replicate (2 - (lg_sl ([.ref h0, .int 0])).length) Slot.unset).toArray = ls at hl ⊢
  replace hl : lv_has ls 2 [(0, .ref h0), (1, .int 0)] := hl
  obtain ⟨H, hH⟩ : ∃ z : Heap, z = s.heap := ⟨_, rfl⟩
  rw [← hH]
  replace hS : va_S A s.heap H [] := by rw [hH]; exact va_S.rf
  replace hP : va_P (dC, dI) vwCl [(h0, .inr (2, [.int (nI fi), .int (nI ff), .int (nI fo), .ref fw]))] H := by rw [hH]; exact hP
  clear hH
  refine lv_iload_n hx hb dX1_byteAt_0 rfl (lv_at hl 1 rfl) ?_
  refine lv_iconst (v := 4) hx hb dX1_byteAt_1 (by decide) ?_
  refine lv_icmp_ge (tgt := 21) hx hb dX1_byteAt_2 (by decide) (fun c_1 => ?_) (fun c_1 => ?_)
  · exact absurd c_1 (by decide)
  refine lv_aload_n hx hb dX1_byteAt_5 rfl (lv_at hl 0 rfl) ?_
  refine va_get (D := (dC, dI)) (ci := 2) (v := .int (nI ff)) (C := RX1) (T := TX1) (N := 4) hx hb hts in_c_X1_byteAt_0_X1 hown hK hP 0 rfl rfl 1 (by decide) (hts (.fieldLink RX1 15 "ClaimBus$Frame" "first" "I") (List.mem_of_getElem? (i := 1) rfl)) (fun _ h9 => h9) rfl dX1_byteAt_6 ?_
  refine lv_bipush (v := 8) hx hb dX1_byteAt_9 (by decide) ?_
  refine lv_iload_n hx hb dX1_byteAt_11 rfl (lv_at hl 1 rfl) ?_
  refine lv_imul hx hb dX1_byteAt_12 ?_
  refine lv_topi (fun x_2 ex_2 => ?_)
  obtain rfl : x_2 = 0 := ex_2.trans (by decide)
  refine lv_iushr (v := (nI ff)) hx hb dX1_byteAt_13 ((pk_ushrN (n := ff) (by omega) (0 : Int32) 0 (by decide)).trans (show nI (ff / 2 ^ 0) = nI (ff) from congrArg nI (by omega))) ?_
  refine lv_sipush (v := 255) hx hb dX1_byteAt_14 (by decide) ?_
  refine lv_iand hx hb dX1_byteAt_17 ?_
  refine lv_topi (fun x_3 ex_3 => ?_)
  obtain rfl : x_3 = (nI (((ff) % 256))) := ex_3.trans ((pk_andN (n := ff) (m := 255) (by omega) 8 (by decide)).trans (show nI (ff % 2 ^ 8) = nI (((ff) % 256)) from congrArg nI (by omega)))
  refine lv_goto (tgt := 36) hx hb dX1_byteAt_18 (by decide) ?_
  exact W.iret (v := (nI (((ff) % 256)))) hx hb hr (fun t ht hW => ⟨⟨(nI (((ff) % 256))), (), rfl, congrArg nI (show (((ff) % 256)) = (ff / 1 % 256) from by omega), trivial⟩, hS.F ht⟩) hS.2.2 dX1_byteAt_36

noncomputable def tl_c_X1_byteAt_1 : List Cond := wsX10
noncomputable def v_c_X1_byteAt_1 : List Cond := .code yX1_byteAt cX1_byteAt 2 (some .int) :: ([.fieldLink RX1 15 "ClaimBus$Frame" "first" "I"] ++ tl_c_X1_byteAt_1)
theorem it_c_X1_byteAt_1 : ∀ w ∈ tl_c_X1_byteAt_1, w ∈ v_c_X1_byteAt_1 := fun w h => List.mem_cons_of_mem _ (List.mem_append_right _ h)
theorem in_c_X1_byteAt_1_X1 : ∀ w ∈ wsX10, w ∈ v_c_X1_byteAt_1 := fun w h => it_c_X1_byteAt_1 w (h)
theorem gt_c_X1_byteAt_1 : ∀ w ∈ tl_c_X1_byteAt_1, goodWord w = true := gw_wsX10
theorem gw_c_X1_byteAt_1 : ∀ w ∈ v_c_X1_byteAt_1, goodWord w = true := List.forall_mem_cons.mpr ⟨by decide +kernel, List.forall_mem_append.mpr ⟨List.all_eq_true.mp (by decide +kernel), gt_c_X1_byteAt_1⟩⟩
set_option maxHeartbeats 4000000 in
set_option maxRecDepth 100000 in
theorem c_X1_byteAt_1 (l : Launch) (dC : Nat → ClassId) (dI : Nat → Nat → Nat) (h0 : Nat) (fi : Nat) (ff : Nat) (fo : Nat) (fw : Nat) (sz : Nat) (hfi : fi < 536870912) (hff : ff < 4294967296) (hfo : fo < 4294967296) : Met l yX1_byteAt v_c_X1_byteAt_1 ({ frames := 0, cells := 0, slots := 0, locals := 0 }) (va_Pc [.ref h0, .int 1] (fun U => U.heap.size = sz ∧ va_P (dC, dI) vwCl [(h0, .inr (2, [.int (nI fi), .int (nI ff), .int (nI fo), .ref fw]))] U.heap ∧ va_K (dC, dI) vwCl [] U ∧ va_D (fun _ => True) [(h0, .inr (2, [.int (nI fi), .int (nI ff), .int (nI fo), .ref fw]))] ∧ ev U)) (va_Qi (fun (r : Int32) (_ : Unit) => r = (nI (ff / 256 % 256))) (fun (_ : Unit) (_ : State) => True) (va_A [] sz)) 0 0 (va_A [] sz) := by
  refine Met.ofW (cc := cX1_byteAt) (maxL := 2) (ret := (some .int)) (by decide) rfl ?_
  intro p e s m args below meth c s₁ B hml hv
  obtain ⟨rfl, hsz, hP, hK, hD0, hE⟩ := hv
  have hx := B.exec
  have hb := B.bytes
  have hr := B.returns
  have hts := atoms_spec (ws := v_c_X1_byteAt_1) B.pre
  have hown : s.vm.findClass RX1 = some m.cls := findClass_of_methodNamed B.named
  have hlocks := B.notSynchronized
  subst hsz
  have hD := hD0
  generalize hAe : va_A [] s.heap.size = A
  have hA : ∀ q : Nat, s.heap.size ≤ q → A q := fun q h => by rw [← hAe]; exact Or.inr h
  have hS : va_S A s.heap s.heap [] := va_S.rf
  replace hP : va_P (dC, dI) vwCl [(h0, .inr (2, [.int (nI fi), .int (nI ff), .int (nI fo), .ref fw]))] s.heap := hP
  have hl := lv_entry ([.ref h0, .int 1]) (n := 2) (Nat.le_of_ble_eq_true rfl)
  rw [lg_entry_eq]
  generalize (lg_sl ([.ref h0, .int 1]) ++ List.replicate (2 - (lg_sl ([.ref h0, .int 1])).length) Slot.unset).toArray = ls at hl ⊢
  replace hl : lv_has ls 2 [(0, .ref h0), (1, .int 1)] := hl
  obtain ⟨H, hH⟩ : ∃ z : Heap, z = s.heap := ⟨_, rfl⟩
  rw [← hH]
  replace hS : va_S A s.heap H [] := by rw [hH]; exact va_S.rf
  replace hP : va_P (dC, dI) vwCl [(h0, .inr (2, [.int (nI fi), .int (nI ff), .int (nI fo), .ref fw]))] H := by rw [hH]; exact hP
  clear hH
  refine lv_iload_n hx hb dX1_byteAt_0 rfl (lv_at hl 1 rfl) ?_
  refine lv_iconst (v := 4) hx hb dX1_byteAt_1 (by decide) ?_
  refine lv_icmp_ge (tgt := 21) hx hb dX1_byteAt_2 (by decide) (fun c_1 => ?_) (fun c_1 => ?_)
  · exact absurd c_1 (by decide)
  refine lv_aload_n hx hb dX1_byteAt_5 rfl (lv_at hl 0 rfl) ?_
  refine va_get (D := (dC, dI)) (ci := 2) (v := .int (nI ff)) (C := RX1) (T := TX1) (N := 4) hx hb hts in_c_X1_byteAt_1_X1 hown hK hP 0 rfl rfl 1 (by decide) (hts (.fieldLink RX1 15 "ClaimBus$Frame" "first" "I") (List.mem_of_getElem? (i := 1) rfl)) (fun _ h9 => h9) rfl dX1_byteAt_6 ?_
  refine lv_bipush (v := 8) hx hb dX1_byteAt_9 (by decide) ?_
  refine lv_iload_n hx hb dX1_byteAt_11 rfl (lv_at hl 1 rfl) ?_
  refine lv_imul hx hb dX1_byteAt_12 ?_
  refine lv_topi (fun x_2 ex_2 => ?_)
  obtain rfl : x_2 = 8 := ex_2.trans (by decide)
  refine lv_iushr (v := (nI (((ff) / 256)))) hx hb dX1_byteAt_13 ((pk_ushrN (n := ff) (by omega) (8 : Int32) 8 (by decide)).trans (show nI (ff / 2 ^ 8) = nI (((ff) / 256)) from congrArg nI (by omega))) ?_
  refine lv_sipush (v := 255) hx hb dX1_byteAt_14 (by decide) ?_
  refine lv_iand hx hb dX1_byteAt_17 ?_
  refine lv_topi (fun x_3 ex_3 => ?_)
  obtain rfl : x_3 = (nI (((((ff) / 256)) % 256))) := ex_3.trans ((pk_andN (n := (((ff) / 256))) (m := 255) (by omega) 8 (by decide)).trans (show nI ((((ff) / 256)) % 2 ^ 8) = nI (((((ff) / 256)) % 256)) from congrArg nI (by omega)))
  refine lv_goto (tgt := 36) hx hb dX1_byteAt_18 (by decide) ?_
  exact W.iret (v := (nI (((((ff) / 256)) % 256)))) hx hb hr (fun t ht hW => ⟨⟨(nI (((((ff) / 256)) % 256))), (), rfl, congrArg nI (show (((((ff) / 256)) % 256)) = (ff / 256 % 256) from by omega), trivial⟩, hS.F ht⟩) hS.2.2 dX1_byteAt_36

noncomputable def tl_c_X1_byteAt_2 : List Cond := wsX10
noncomputable def v_c_X1_byteAt_2 : List Cond := .code yX1_byteAt cX1_byteAt 2 (some .int) :: ([.fieldLink RX1 15 "ClaimBus$Frame" "first" "I"] ++ tl_c_X1_byteAt_2)
theorem it_c_X1_byteAt_2 : ∀ w ∈ tl_c_X1_byteAt_2, w ∈ v_c_X1_byteAt_2 := fun w h => List.mem_cons_of_mem _ (List.mem_append_right _ h)
theorem in_c_X1_byteAt_2_X1 : ∀ w ∈ wsX10, w ∈ v_c_X1_byteAt_2 := fun w h => it_c_X1_byteAt_2 w (h)
theorem gt_c_X1_byteAt_2 : ∀ w ∈ tl_c_X1_byteAt_2, goodWord w = true := gw_wsX10
theorem gw_c_X1_byteAt_2 : ∀ w ∈ v_c_X1_byteAt_2, goodWord w = true := List.forall_mem_cons.mpr ⟨by decide +kernel, List.forall_mem_append.mpr ⟨List.all_eq_true.mp (by decide +kernel), gt_c_X1_byteAt_2⟩⟩
set_option maxHeartbeats 4000000 in
set_option maxRecDepth 100000 in
theorem c_X1_byteAt_2 (l : Launch) (dC : Nat → ClassId) (dI : Nat → Nat → Nat) (h0 : Nat) (fi : Nat) (ff : Nat) (fo : Nat) (fw : Nat) (sz : Nat) (hfi : fi < 536870912) (hff : ff < 4294967296) (hfo : fo < 4294967296) : Met l yX1_byteAt v_c_X1_byteAt_2 ({ frames := 0, cells := 0, slots := 0, locals := 0 }) (va_Pc [.ref h0, .int 2] (fun U => U.heap.size = sz ∧ va_P (dC, dI) vwCl [(h0, .inr (2, [.int (nI fi), .int (nI ff), .int (nI fo), .ref fw]))] U.heap ∧ va_K (dC, dI) vwCl [] U ∧ va_D (fun _ => True) [(h0, .inr (2, [.int (nI fi), .int (nI ff), .int (nI fo), .ref fw]))] ∧ ev U)) (va_Qi (fun (r : Int32) (_ : Unit) => r = (nI (ff / 65536 % 256))) (fun (_ : Unit) (_ : State) => True) (va_A [] sz)) 0 0 (va_A [] sz) := by
  refine Met.ofW (cc := cX1_byteAt) (maxL := 2) (ret := (some .int)) (by decide) rfl ?_
  intro p e s m args below meth c s₁ B hml hv
  obtain ⟨rfl, hsz, hP, hK, hD0, hE⟩ := hv
  have hx := B.exec
  have hb := B.bytes
  have hr := B.returns
  have hts := atoms_spec (ws := v_c_X1_byteAt_2) B.pre
  have hown : s.vm.findClass RX1 = some m.cls := findClass_of_methodNamed B.named
  have hlocks := B.notSynchronized
  subst hsz
  have hD := hD0
  generalize hAe : va_A [] s.heap.size = A
  have hA : ∀ q : Nat, s.heap.size ≤ q → A q := fun q h => by rw [← hAe]; exact Or.inr h
  have hS : va_S A s.heap s.heap [] := va_S.rf
  replace hP : va_P (dC, dI) vwCl [(h0, .inr (2, [.int (nI fi), .int (nI ff), .int (nI fo), .ref fw]))] s.heap := hP
  have hl := lv_entry ([.ref h0, .int 2]) (n := 2) (Nat.le_of_ble_eq_true rfl)
  rw [lg_entry_eq]
  generalize (lg_sl ([.ref h0, .int 2]) ++ List.replicate (2 - (lg_sl ([.ref h0, .int 2])).length) Slot.unset).toArray = ls at hl ⊢
  replace hl : lv_has ls 2 [(0, .ref h0), (1, .int 2)] := hl
  obtain ⟨H, hH⟩ : ∃ z : Heap, z = s.heap := ⟨_, rfl⟩
  rw [← hH]
  replace hS : va_S A s.heap H [] := by rw [hH]; exact va_S.rf
  replace hP : va_P (dC, dI) vwCl [(h0, .inr (2, [.int (nI fi), .int (nI ff), .int (nI fo), .ref fw]))] H := by rw [hH]; exact hP
  clear hH
  refine lv_iload_n hx hb dX1_byteAt_0 rfl (lv_at hl 1 rfl) ?_
  refine lv_iconst (v := 4) hx hb dX1_byteAt_1 (by decide) ?_
  refine lv_icmp_ge (tgt := 21) hx hb dX1_byteAt_2 (by decide) (fun c_1 => ?_) (fun c_1 => ?_)
  · exact absurd c_1 (by decide)
  refine lv_aload_n hx hb dX1_byteAt_5 rfl (lv_at hl 0 rfl) ?_
  refine va_get (D := (dC, dI)) (ci := 2) (v := .int (nI ff)) (C := RX1) (T := TX1) (N := 4) hx hb hts in_c_X1_byteAt_2_X1 hown hK hP 0 rfl rfl 1 (by decide) (hts (.fieldLink RX1 15 "ClaimBus$Frame" "first" "I") (List.mem_of_getElem? (i := 1) rfl)) (fun _ h9 => h9) rfl dX1_byteAt_6 ?_
  refine lv_bipush (v := 8) hx hb dX1_byteAt_9 (by decide) ?_
  refine lv_iload_n hx hb dX1_byteAt_11 rfl (lv_at hl 1 rfl) ?_
  refine lv_imul hx hb dX1_byteAt_12 ?_
  refine lv_topi (fun x_2 ex_2 => ?_)
  obtain rfl : x_2 = 16 := ex_2.trans (by decide)
  refine lv_iushr (v := (nI (((ff) / 65536)))) hx hb dX1_byteAt_13 ((pk_ushrN (n := ff) (by omega) (16 : Int32) 16 (by decide)).trans (show nI (ff / 2 ^ 16) = nI (((ff) / 65536)) from congrArg nI (by omega))) ?_
  refine lv_sipush (v := 255) hx hb dX1_byteAt_14 (by decide) ?_
  refine lv_iand hx hb dX1_byteAt_17 ?_
  refine lv_topi (fun x_3 ex_3 => ?_)
  obtain rfl : x_3 = (nI (((((ff) / 65536)) % 256))) := ex_3.trans ((pk_andN (n := (((ff) / 65536))) (m := 255) (by omega) 8 (by decide)).trans (show nI ((((ff) / 65536)) % 2 ^ 8) = nI (((((ff) / 65536)) % 256)) from congrArg nI (by omega)))
  refine lv_goto (tgt := 36) hx hb dX1_byteAt_18 (by decide) ?_
  exact W.iret (v := (nI (((((ff) / 65536)) % 256)))) hx hb hr (fun t ht hW => ⟨⟨(nI (((((ff) / 65536)) % 256))), (), rfl, congrArg nI (show (((((ff) / 65536)) % 256)) = (ff / 65536 % 256) from by omega), trivial⟩, hS.F ht⟩) hS.2.2 dX1_byteAt_36

noncomputable def tl_c_X1_byteAt_3 : List Cond := wsX10
noncomputable def v_c_X1_byteAt_3 : List Cond := .code yX1_byteAt cX1_byteAt 2 (some .int) :: ([.fieldLink RX1 15 "ClaimBus$Frame" "first" "I"] ++ tl_c_X1_byteAt_3)
theorem it_c_X1_byteAt_3 : ∀ w ∈ tl_c_X1_byteAt_3, w ∈ v_c_X1_byteAt_3 := fun w h => List.mem_cons_of_mem _ (List.mem_append_right _ h)
theorem in_c_X1_byteAt_3_X1 : ∀ w ∈ wsX10, w ∈ v_c_X1_byteAt_3 := fun w h => it_c_X1_byteAt_3 w (h)
theorem gt_c_X1_byteAt_3 : ∀ w ∈ tl_c_X1_byteAt_3, goodWord w = true := gw_wsX10
theorem gw_c_X1_byteAt_3 : ∀ w ∈ v_c_X1_byteAt_3, goodWord w = true := List.forall_mem_cons.mpr ⟨by decide +kernel, List.forall_mem_append.mpr ⟨List.all_eq_true.mp (by decide +kernel), gt_c_X1_byteAt_3⟩⟩
set_option maxHeartbeats 4000000 in
set_option maxRecDepth 100000 in
theorem c_X1_byteAt_3 (l : Launch) (dC : Nat → ClassId) (dI : Nat → Nat → Nat) (h0 : Nat) (fi : Nat) (ff : Nat) (fo : Nat) (fw : Nat) (sz : Nat) (hfi : fi < 536870912) (hff : ff < 4294967296) (hfo : fo < 4294967296) : Met l yX1_byteAt v_c_X1_byteAt_3 ({ frames := 0, cells := 0, slots := 0, locals := 0 }) (va_Pc [.ref h0, .int 3] (fun U => U.heap.size = sz ∧ va_P (dC, dI) vwCl [(h0, .inr (2, [.int (nI fi), .int (nI ff), .int (nI fo), .ref fw]))] U.heap ∧ va_K (dC, dI) vwCl [] U ∧ va_D (fun _ => True) [(h0, .inr (2, [.int (nI fi), .int (nI ff), .int (nI fo), .ref fw]))] ∧ ev U)) (va_Qi (fun (r : Int32) (_ : Unit) => r = (nI (ff / 16777216 % 256))) (fun (_ : Unit) (_ : State) => True) (va_A [] sz)) 0 0 (va_A [] sz) := by
  refine Met.ofW (cc := cX1_byteAt) (maxL := 2) (ret := (some .int)) (by decide) rfl ?_
  intro p e s m args below meth c s₁ B hml hv
  obtain ⟨rfl, hsz, hP, hK, hD0, hE⟩ := hv
  have hx := B.exec
  have hb := B.bytes
  have hr := B.returns
  have hts := atoms_spec (ws := v_c_X1_byteAt_3) B.pre
  have hown : s.vm.findClass RX1 = some m.cls := findClass_of_methodNamed B.named
  have hlocks := B.notSynchronized
  subst hsz
  have hD := hD0
  generalize hAe : va_A [] s.heap.size = A
  have hA : ∀ q : Nat, s.heap.size ≤ q → A q := fun q h => by rw [← hAe]; exact Or.inr h
  have hS : va_S A s.heap s.heap [] := va_S.rf
  replace hP : va_P (dC, dI) vwCl [(h0, .inr (2, [.int (nI fi), .int (nI ff), .int (nI fo), .ref fw]))] s.heap := hP
  have hl := lv_entry ([.ref h0, .int 3]) (n := 2) (Nat.le_of_ble_eq_true rfl)
  rw [lg_entry_eq]
  generalize (lg_sl ([.ref h0, .int 3]) ++ List.replicate (2 - (lg_sl ([.ref h0, .int 3])).length) Slot.unset).toArray = ls at hl ⊢
  replace hl : lv_has ls 2 [(0, .ref h0), (1, .int 3)] := hl
  obtain ⟨H, hH⟩ : ∃ z : Heap, z = s.heap := ⟨_, rfl⟩
  rw [← hH]
  replace hS : va_S A s.heap H [] := by rw [hH]; exact va_S.rf
  replace hP : va_P (dC, dI) vwCl [(h0, .inr (2, [.int (nI fi), .int (nI ff), .int (nI fo), .ref fw]))] H := by rw [hH]; exact hP
  clear hH
  refine lv_iload_n hx hb dX1_byteAt_0 rfl (lv_at hl 1 rfl) ?_
  refine lv_iconst (v := 4) hx hb dX1_byteAt_1 (by decide) ?_
  refine lv_icmp_ge (tgt := 21) hx hb dX1_byteAt_2 (by decide) (fun c_1 => ?_) (fun c_1 => ?_)
  · exact absurd c_1 (by decide)
  refine lv_aload_n hx hb dX1_byteAt_5 rfl (lv_at hl 0 rfl) ?_
  refine va_get (D := (dC, dI)) (ci := 2) (v := .int (nI ff)) (C := RX1) (T := TX1) (N := 4) hx hb hts in_c_X1_byteAt_3_X1 hown hK hP 0 rfl rfl 1 (by decide) (hts (.fieldLink RX1 15 "ClaimBus$Frame" "first" "I") (List.mem_of_getElem? (i := 1) rfl)) (fun _ h9 => h9) rfl dX1_byteAt_6 ?_
  refine lv_bipush (v := 8) hx hb dX1_byteAt_9 (by decide) ?_
  refine lv_iload_n hx hb dX1_byteAt_11 rfl (lv_at hl 1 rfl) ?_
  refine lv_imul hx hb dX1_byteAt_12 ?_
  refine lv_topi (fun x_2 ex_2 => ?_)
  obtain rfl : x_2 = 24 := ex_2.trans (by decide)
  refine lv_iushr (v := (nI (((ff) / 16777216)))) hx hb dX1_byteAt_13 ((pk_ushrN (n := ff) (by omega) (24 : Int32) 24 (by decide)).trans (show nI (ff / 2 ^ 24) = nI (((ff) / 16777216)) from congrArg nI (by omega))) ?_
  refine lv_sipush (v := 255) hx hb dX1_byteAt_14 (by decide) ?_
  refine lv_iand hx hb dX1_byteAt_17 ?_
  refine lv_topi (fun x_3 ex_3 => ?_)
  obtain rfl : x_3 = (nI (((((ff) / 16777216)) % 256))) := ex_3.trans ((pk_andN (n := (((ff) / 16777216))) (m := 255) (by omega) 8 (by decide)).trans (show nI ((((ff) / 16777216)) % 2 ^ 8) = nI (((((ff) / 16777216)) % 256)) from congrArg nI (by omega)))
  refine lv_goto (tgt := 36) hx hb dX1_byteAt_18 (by decide) ?_
  exact W.iret (v := (nI (((((ff) / 16777216)) % 256)))) hx hb hr (fun t ht hW => ⟨⟨(nI (((((ff) / 16777216)) % 256))), (), rfl, congrArg nI (show (((((ff) / 16777216)) % 256)) = (ff / 16777216 % 256) from by omega), trivial⟩, hS.F ht⟩) hS.2.2 dX1_byteAt_36

noncomputable def tl_c_X1_byteAt_4 : List Cond := wsX10
noncomputable def v_c_X1_byteAt_4 : List Cond := .code yX1_byteAt cX1_byteAt 2 (some .int) :: ([.fieldLink RX1 18 "ClaimBus$Frame" "others" "I"] ++ tl_c_X1_byteAt_4)
theorem it_c_X1_byteAt_4 : ∀ w ∈ tl_c_X1_byteAt_4, w ∈ v_c_X1_byteAt_4 := fun w h => List.mem_cons_of_mem _ (List.mem_append_right _ h)
theorem in_c_X1_byteAt_4_X1 : ∀ w ∈ wsX10, w ∈ v_c_X1_byteAt_4 := fun w h => it_c_X1_byteAt_4 w (h)
theorem gt_c_X1_byteAt_4 : ∀ w ∈ tl_c_X1_byteAt_4, goodWord w = true := gw_wsX10
theorem gw_c_X1_byteAt_4 : ∀ w ∈ v_c_X1_byteAt_4, goodWord w = true := List.forall_mem_cons.mpr ⟨by decide +kernel, List.forall_mem_append.mpr ⟨List.all_eq_true.mp (by decide +kernel), gt_c_X1_byteAt_4⟩⟩
set_option maxHeartbeats 4000000 in
set_option maxRecDepth 100000 in
theorem c_X1_byteAt_4 (l : Launch) (dC : Nat → ClassId) (dI : Nat → Nat → Nat) (h0 : Nat) (fi : Nat) (ff : Nat) (fo : Nat) (fw : Nat) (sz : Nat) (hfi : fi < 536870912) (hff : ff < 4294967296) (hfo : fo < 4294967296) : Met l yX1_byteAt v_c_X1_byteAt_4 ({ frames := 0, cells := 0, slots := 0, locals := 0 }) (va_Pc [.ref h0, .int 4] (fun U => U.heap.size = sz ∧ va_P (dC, dI) vwCl [(h0, .inr (2, [.int (nI fi), .int (nI ff), .int (nI fo), .ref fw]))] U.heap ∧ va_K (dC, dI) vwCl [] U ∧ va_D (fun _ => True) [(h0, .inr (2, [.int (nI fi), .int (nI ff), .int (nI fo), .ref fw]))] ∧ ev U)) (va_Qi (fun (r : Int32) (_ : Unit) => r = (nI (fo / 1 % 256))) (fun (_ : Unit) (_ : State) => True) (va_A [] sz)) 0 0 (va_A [] sz) := by
  refine Met.ofW (cc := cX1_byteAt) (maxL := 2) (ret := (some .int)) (by decide) rfl ?_
  intro p e s m args below meth c s₁ B hml hv
  obtain ⟨rfl, hsz, hP, hK, hD0, hE⟩ := hv
  have hx := B.exec
  have hb := B.bytes
  have hr := B.returns
  have hts := atoms_spec (ws := v_c_X1_byteAt_4) B.pre
  have hown : s.vm.findClass RX1 = some m.cls := findClass_of_methodNamed B.named
  have hlocks := B.notSynchronized
  subst hsz
  have hD := hD0
  generalize hAe : va_A [] s.heap.size = A
  have hA : ∀ q : Nat, s.heap.size ≤ q → A q := fun q h => by rw [← hAe]; exact Or.inr h
  have hS : va_S A s.heap s.heap [] := va_S.rf
  replace hP : va_P (dC, dI) vwCl [(h0, .inr (2, [.int (nI fi), .int (nI ff), .int (nI fo), .ref fw]))] s.heap := hP
  have hl := lv_entry ([.ref h0, .int 4]) (n := 2) (Nat.le_of_ble_eq_true rfl)
  rw [lg_entry_eq]
  generalize (lg_sl ([.ref h0, .int 4]) ++ List.replicate (2 - (lg_sl ([.ref h0, .int 4])).length) Slot.unset).toArray = ls at hl ⊢
  replace hl : lv_has ls 2 [(0, .ref h0), (1, .int 4)] := hl
  obtain ⟨H, hH⟩ : ∃ z : Heap, z = s.heap := ⟨_, rfl⟩
  rw [← hH]
  replace hS : va_S A s.heap H [] := by rw [hH]; exact va_S.rf
  replace hP : va_P (dC, dI) vwCl [(h0, .inr (2, [.int (nI fi), .int (nI ff), .int (nI fo), .ref fw]))] H := by rw [hH]; exact hP
  clear hH
  refine lv_iload_n hx hb dX1_byteAt_0 rfl (lv_at hl 1 rfl) ?_
  refine lv_iconst (v := 4) hx hb dX1_byteAt_1 (by decide) ?_
  refine lv_icmp_ge (tgt := 21) hx hb dX1_byteAt_2 (by decide) (fun c_1 => ?_) (fun c_1 => ?_)
  rotate_left
  · exact absurd (by decide) c_1
  refine lv_aload_n hx hb dX1_byteAt_21 rfl (lv_at hl 0 rfl) ?_
  refine va_get (D := (dC, dI)) (ci := 2) (v := .int (nI fo)) (C := RX1) (T := TX1) (N := 4) hx hb hts in_c_X1_byteAt_4_X1 hown hK hP 0 rfl rfl 2 (by decide) (hts (.fieldLink RX1 18 "ClaimBus$Frame" "others" "I") (List.mem_of_getElem? (i := 1) rfl)) (fun _ h9 => h9) rfl dX1_byteAt_22 ?_
  refine lv_bipush (v := 8) hx hb dX1_byteAt_25 (by decide) ?_
  refine lv_iload_n hx hb dX1_byteAt_27 rfl (lv_at hl 1 rfl) ?_
  refine lv_iconst (v := 4) hx hb dX1_byteAt_28 (by decide) ?_
  refine lv_isub hx hb dX1_byteAt_29 ?_
  refine lv_topi (fun x_2 ex_2 => ?_)
  obtain rfl : x_2 = 0 := ex_2.trans (by decide)
  refine lv_imul hx hb dX1_byteAt_30 ?_
  refine lv_topi (fun x_3 ex_3 => ?_)
  obtain rfl : x_3 = 0 := ex_3.trans (by decide)
  refine lv_iushr (v := (nI fo)) hx hb dX1_byteAt_31 ((pk_ushrN (n := fo) (by omega) (0 : Int32) 0 (by decide)).trans (show nI (fo / 2 ^ 0) = nI (fo) from congrArg nI (by omega))) ?_
  refine lv_sipush (v := 255) hx hb dX1_byteAt_32 (by decide) ?_
  refine lv_iand hx hb dX1_byteAt_35 ?_
  refine lv_topi (fun x_4 ex_4 => ?_)
  obtain rfl : x_4 = (nI (((fo) % 256))) := ex_4.trans ((pk_andN (n := fo) (m := 255) (by omega) 8 (by decide)).trans (show nI (fo % 2 ^ 8) = nI (((fo) % 256)) from congrArg nI (by omega)))
  exact W.iret (v := (nI (((fo) % 256)))) hx hb hr (fun t ht hW => ⟨⟨(nI (((fo) % 256))), (), rfl, congrArg nI (show (((fo) % 256)) = (fo / 1 % 256) from by omega), trivial⟩, hS.F ht⟩) hS.2.2 dX1_byteAt_36

noncomputable def tl_c_X1_byteAt_5 : List Cond := wsX10
noncomputable def v_c_X1_byteAt_5 : List Cond := .code yX1_byteAt cX1_byteAt 2 (some .int) :: ([.fieldLink RX1 18 "ClaimBus$Frame" "others" "I"] ++ tl_c_X1_byteAt_5)
theorem it_c_X1_byteAt_5 : ∀ w ∈ tl_c_X1_byteAt_5, w ∈ v_c_X1_byteAt_5 := fun w h => List.mem_cons_of_mem _ (List.mem_append_right _ h)
theorem in_c_X1_byteAt_5_X1 : ∀ w ∈ wsX10, w ∈ v_c_X1_byteAt_5 := fun w h => it_c_X1_byteAt_5 w (h)
theorem gt_c_X1_byteAt_5 : ∀ w ∈ tl_c_X1_byteAt_5, goodWord w = true := gw_wsX10
theorem gw_c_X1_byteAt_5 : ∀ w ∈ v_c_X1_byteAt_5, goodWord w = true := List.forall_mem_cons.mpr ⟨by decide +kernel, List.forall_mem_append.mpr ⟨List.all_eq_true.mp (by decide +kernel), gt_c_X1_byteAt_5⟩⟩
set_option maxHeartbeats 4000000 in
set_option maxRecDepth 100000 in
theorem c_X1_byteAt_5 (l : Launch) (dC : Nat → ClassId) (dI : Nat → Nat → Nat) (h0 : Nat) (fi : Nat) (ff : Nat) (fo : Nat) (fw : Nat) (sz : Nat) (hfi : fi < 536870912) (hff : ff < 4294967296) (hfo : fo < 4294967296) : Met l yX1_byteAt v_c_X1_byteAt_5 ({ frames := 0, cells := 0, slots := 0, locals := 0 }) (va_Pc [.ref h0, .int 5] (fun U => U.heap.size = sz ∧ va_P (dC, dI) vwCl [(h0, .inr (2, [.int (nI fi), .int (nI ff), .int (nI fo), .ref fw]))] U.heap ∧ va_K (dC, dI) vwCl [] U ∧ va_D (fun _ => True) [(h0, .inr (2, [.int (nI fi), .int (nI ff), .int (nI fo), .ref fw]))] ∧ ev U)) (va_Qi (fun (r : Int32) (_ : Unit) => r = (nI (fo / 256 % 256))) (fun (_ : Unit) (_ : State) => True) (va_A [] sz)) 0 0 (va_A [] sz) := by
  refine Met.ofW (cc := cX1_byteAt) (maxL := 2) (ret := (some .int)) (by decide) rfl ?_
  intro p e s m args below meth c s₁ B hml hv
  obtain ⟨rfl, hsz, hP, hK, hD0, hE⟩ := hv
  have hx := B.exec
  have hb := B.bytes
  have hr := B.returns
  have hts := atoms_spec (ws := v_c_X1_byteAt_5) B.pre
  have hown : s.vm.findClass RX1 = some m.cls := findClass_of_methodNamed B.named
  have hlocks := B.notSynchronized
  subst hsz
  have hD := hD0
  generalize hAe : va_A [] s.heap.size = A
  have hA : ∀ q : Nat, s.heap.size ≤ q → A q := fun q h => by rw [← hAe]; exact Or.inr h
  have hS : va_S A s.heap s.heap [] := va_S.rf
  replace hP : va_P (dC, dI) vwCl [(h0, .inr (2, [.int (nI fi), .int (nI ff), .int (nI fo), .ref fw]))] s.heap := hP
  have hl := lv_entry ([.ref h0, .int 5]) (n := 2) (Nat.le_of_ble_eq_true rfl)
  rw [lg_entry_eq]
  generalize (lg_sl ([.ref h0, .int 5]) ++ List.replicate (2 - (lg_sl ([.ref h0, .int 5])).length) Slot.unset).toArray = ls at hl ⊢
  replace hl : lv_has ls 2 [(0, .ref h0), (1, .int 5)] := hl
  obtain ⟨H, hH⟩ : ∃ z : Heap, z = s.heap := ⟨_, rfl⟩
  rw [← hH]
  replace hS : va_S A s.heap H [] := by rw [hH]; exact va_S.rf
  replace hP : va_P (dC, dI) vwCl [(h0, .inr (2, [.int (nI fi), .int (nI ff), .int (nI fo), .ref fw]))] H := by rw [hH]; exact hP
  clear hH
  refine lv_iload_n hx hb dX1_byteAt_0 rfl (lv_at hl 1 rfl) ?_
  refine lv_iconst (v := 4) hx hb dX1_byteAt_1 (by decide) ?_
  refine lv_icmp_ge (tgt := 21) hx hb dX1_byteAt_2 (by decide) (fun c_1 => ?_) (fun c_1 => ?_)
  rotate_left
  · exact absurd (by decide) c_1
  refine lv_aload_n hx hb dX1_byteAt_21 rfl (lv_at hl 0 rfl) ?_
  refine va_get (D := (dC, dI)) (ci := 2) (v := .int (nI fo)) (C := RX1) (T := TX1) (N := 4) hx hb hts in_c_X1_byteAt_5_X1 hown hK hP 0 rfl rfl 2 (by decide) (hts (.fieldLink RX1 18 "ClaimBus$Frame" "others" "I") (List.mem_of_getElem? (i := 1) rfl)) (fun _ h9 => h9) rfl dX1_byteAt_22 ?_
  refine lv_bipush (v := 8) hx hb dX1_byteAt_25 (by decide) ?_
  refine lv_iload_n hx hb dX1_byteAt_27 rfl (lv_at hl 1 rfl) ?_
  refine lv_iconst (v := 4) hx hb dX1_byteAt_28 (by decide) ?_
  refine lv_isub hx hb dX1_byteAt_29 ?_
  refine lv_topi (fun x_2 ex_2 => ?_)
  obtain rfl : x_2 = 1 := ex_2.trans (by decide)
  refine lv_imul hx hb dX1_byteAt_30 ?_
  refine lv_topi (fun x_3 ex_3 => ?_)
  obtain rfl : x_3 = 8 := ex_3.trans (by decide)
  refine lv_iushr (v := (nI (((fo) / 256)))) hx hb dX1_byteAt_31 ((pk_ushrN (n := fo) (by omega) (8 : Int32) 8 (by decide)).trans (show nI (fo / 2 ^ 8) = nI (((fo) / 256)) from congrArg nI (by omega))) ?_
  refine lv_sipush (v := 255) hx hb dX1_byteAt_32 (by decide) ?_
  refine lv_iand hx hb dX1_byteAt_35 ?_
  refine lv_topi (fun x_4 ex_4 => ?_)
  obtain rfl : x_4 = (nI (((((fo) / 256)) % 256))) := ex_4.trans ((pk_andN (n := (((fo) / 256))) (m := 255) (by omega) 8 (by decide)).trans (show nI ((((fo) / 256)) % 2 ^ 8) = nI (((((fo) / 256)) % 256)) from congrArg nI (by omega)))
  exact W.iret (v := (nI (((((fo) / 256)) % 256)))) hx hb hr (fun t ht hW => ⟨⟨(nI (((((fo) / 256)) % 256))), (), rfl, congrArg nI (show (((((fo) / 256)) % 256)) = (fo / 256 % 256) from by omega), trivial⟩, hS.F ht⟩) hS.2.2 dX1_byteAt_36

noncomputable def tl_c_X1_byteAt_6 : List Cond := wsX10
noncomputable def v_c_X1_byteAt_6 : List Cond := .code yX1_byteAt cX1_byteAt 2 (some .int) :: ([.fieldLink RX1 18 "ClaimBus$Frame" "others" "I"] ++ tl_c_X1_byteAt_6)
theorem it_c_X1_byteAt_6 : ∀ w ∈ tl_c_X1_byteAt_6, w ∈ v_c_X1_byteAt_6 := fun w h => List.mem_cons_of_mem _ (List.mem_append_right _ h)
theorem in_c_X1_byteAt_6_X1 : ∀ w ∈ wsX10, w ∈ v_c_X1_byteAt_6 := fun w h => it_c_X1_byteAt_6 w (h)
theorem gt_c_X1_byteAt_6 : ∀ w ∈ tl_c_X1_byteAt_6, goodWord w = true := gw_wsX10
theorem gw_c_X1_byteAt_6 : ∀ w ∈ v_c_X1_byteAt_6, goodWord w = true := List.forall_mem_cons.mpr ⟨by decide +kernel, List.forall_mem_append.mpr ⟨List.all_eq_true.mp (by decide +kernel), gt_c_X1_byteAt_6⟩⟩
set_option maxHeartbeats 4000000 in
set_option maxRecDepth 100000 in
theorem c_X1_byteAt_6 (l : Launch) (dC : Nat → ClassId) (dI : Nat → Nat → Nat) (h0 : Nat) (fi : Nat) (ff : Nat) (fo : Nat) (fw : Nat) (sz : Nat) (hfi : fi < 536870912) (hff : ff < 4294967296) (hfo : fo < 4294967296) : Met l yX1_byteAt v_c_X1_byteAt_6 ({ frames := 0, cells := 0, slots := 0, locals := 0 }) (va_Pc [.ref h0, .int 6] (fun U => U.heap.size = sz ∧ va_P (dC, dI) vwCl [(h0, .inr (2, [.int (nI fi), .int (nI ff), .int (nI fo), .ref fw]))] U.heap ∧ va_K (dC, dI) vwCl [] U ∧ va_D (fun _ => True) [(h0, .inr (2, [.int (nI fi), .int (nI ff), .int (nI fo), .ref fw]))] ∧ ev U)) (va_Qi (fun (r : Int32) (_ : Unit) => r = (nI (fo / 65536 % 256))) (fun (_ : Unit) (_ : State) => True) (va_A [] sz)) 0 0 (va_A [] sz) := by
  refine Met.ofW (cc := cX1_byteAt) (maxL := 2) (ret := (some .int)) (by decide) rfl ?_
  intro p e s m args below meth c s₁ B hml hv
  obtain ⟨rfl, hsz, hP, hK, hD0, hE⟩ := hv
  have hx := B.exec
  have hb := B.bytes
  have hr := B.returns
  have hts := atoms_spec (ws := v_c_X1_byteAt_6) B.pre
  have hown : s.vm.findClass RX1 = some m.cls := findClass_of_methodNamed B.named
  have hlocks := B.notSynchronized
  subst hsz
  have hD := hD0
  generalize hAe : va_A [] s.heap.size = A
  have hA : ∀ q : Nat, s.heap.size ≤ q → A q := fun q h => by rw [← hAe]; exact Or.inr h
  have hS : va_S A s.heap s.heap [] := va_S.rf
  replace hP : va_P (dC, dI) vwCl [(h0, .inr (2, [.int (nI fi), .int (nI ff), .int (nI fo), .ref fw]))] s.heap := hP
  have hl := lv_entry ([.ref h0, .int 6]) (n := 2) (Nat.le_of_ble_eq_true rfl)
  rw [lg_entry_eq]
  generalize (lg_sl ([.ref h0, .int 6]) ++ List.replicate (2 - (lg_sl ([.ref h0, .int 6])).length) Slot.unset).toArray = ls at hl ⊢
  replace hl : lv_has ls 2 [(0, .ref h0), (1, .int 6)] := hl
  obtain ⟨H, hH⟩ : ∃ z : Heap, z = s.heap := ⟨_, rfl⟩
  rw [← hH]
  replace hS : va_S A s.heap H [] := by rw [hH]; exact va_S.rf
  replace hP : va_P (dC, dI) vwCl [(h0, .inr (2, [.int (nI fi), .int (nI ff), .int (nI fo), .ref fw]))] H := by rw [hH]; exact hP
  clear hH
  refine lv_iload_n hx hb dX1_byteAt_0 rfl (lv_at hl 1 rfl) ?_
  refine lv_iconst (v := 4) hx hb dX1_byteAt_1 (by decide) ?_
  refine lv_icmp_ge (tgt := 21) hx hb dX1_byteAt_2 (by decide) (fun c_1 => ?_) (fun c_1 => ?_)
  rotate_left
  · exact absurd (by decide) c_1
  refine lv_aload_n hx hb dX1_byteAt_21 rfl (lv_at hl 0 rfl) ?_
  refine va_get (D := (dC, dI)) (ci := 2) (v := .int (nI fo)) (C := RX1) (T := TX1) (N := 4) hx hb hts in_c_X1_byteAt_6_X1 hown hK hP 0 rfl rfl 2 (by decide) (hts (.fieldLink RX1 18 "ClaimBus$Frame" "others" "I") (List.mem_of_getElem? (i := 1) rfl)) (fun _ h9 => h9) rfl dX1_byteAt_22 ?_
  refine lv_bipush (v := 8) hx hb dX1_byteAt_25 (by decide) ?_
  refine lv_iload_n hx hb dX1_byteAt_27 rfl (lv_at hl 1 rfl) ?_
  refine lv_iconst (v := 4) hx hb dX1_byteAt_28 (by decide) ?_
  refine lv_isub hx hb dX1_byteAt_29 ?_
  refine lv_topi (fun x_2 ex_2 => ?_)
  obtain rfl : x_2 = 2 := ex_2.trans (by decide)
  refine lv_imul hx hb dX1_byteAt_30 ?_
  refine lv_topi (fun x_3 ex_3 => ?_)
  obtain rfl : x_3 = 16 := ex_3.trans (by decide)
  refine lv_iushr (v := (nI (((fo) / 65536)))) hx hb dX1_byteAt_31 ((pk_ushrN (n := fo) (by omega) (16 : Int32) 16 (by decide)).trans (show nI (fo / 2 ^ 16) = nI (((fo) / 65536)) from congrArg nI (by omega))) ?_
  refine lv_sipush (v := 255) hx hb dX1_byteAt_32 (by decide) ?_
  refine lv_iand hx hb dX1_byteAt_35 ?_
  refine lv_topi (fun x_4 ex_4 => ?_)
  obtain rfl : x_4 = (nI (((((fo) / 65536)) % 256))) := ex_4.trans ((pk_andN (n := (((fo) / 65536))) (m := 255) (by omega) 8 (by decide)).trans (show nI ((((fo) / 65536)) % 2 ^ 8) = nI (((((fo) / 65536)) % 256)) from congrArg nI (by omega)))
  exact W.iret (v := (nI (((((fo) / 65536)) % 256)))) hx hb hr (fun t ht hW => ⟨⟨(nI (((((fo) / 65536)) % 256))), (), rfl, congrArg nI (show (((((fo) / 65536)) % 256)) = (fo / 65536 % 256) from by omega), trivial⟩, hS.F ht⟩) hS.2.2 dX1_byteAt_36

noncomputable def tl_c_X1_byteAt_7 : List Cond := wsX10
noncomputable def v_c_X1_byteAt_7 : List Cond := .code yX1_byteAt cX1_byteAt 2 (some .int) :: ([.fieldLink RX1 18 "ClaimBus$Frame" "others" "I"] ++ tl_c_X1_byteAt_7)
theorem it_c_X1_byteAt_7 : ∀ w ∈ tl_c_X1_byteAt_7, w ∈ v_c_X1_byteAt_7 := fun w h => List.mem_cons_of_mem _ (List.mem_append_right _ h)
theorem in_c_X1_byteAt_7_X1 : ∀ w ∈ wsX10, w ∈ v_c_X1_byteAt_7 := fun w h => it_c_X1_byteAt_7 w (h)
theorem gt_c_X1_byteAt_7 : ∀ w ∈ tl_c_X1_byteAt_7, goodWord w = true := gw_wsX10
theorem gw_c_X1_byteAt_7 : ∀ w ∈ v_c_X1_byteAt_7, goodWord w = true := List.forall_mem_cons.mpr ⟨by decide +kernel, List.forall_mem_append.mpr ⟨List.all_eq_true.mp (by decide +kernel), gt_c_X1_byteAt_7⟩⟩
set_option maxHeartbeats 4000000 in
set_option maxRecDepth 100000 in
theorem c_X1_byteAt_7 (l : Launch) (dC : Nat → ClassId) (dI : Nat → Nat → Nat) (h0 : Nat) (fi : Nat) (ff : Nat) (fo : Nat) (fw : Nat) (sz : Nat) (hfi : fi < 536870912) (hff : ff < 4294967296) (hfo : fo < 4294967296) : Met l yX1_byteAt v_c_X1_byteAt_7 ({ frames := 0, cells := 0, slots := 0, locals := 0 }) (va_Pc [.ref h0, .int 7] (fun U => U.heap.size = sz ∧ va_P (dC, dI) vwCl [(h0, .inr (2, [.int (nI fi), .int (nI ff), .int (nI fo), .ref fw]))] U.heap ∧ va_K (dC, dI) vwCl [] U ∧ va_D (fun _ => True) [(h0, .inr (2, [.int (nI fi), .int (nI ff), .int (nI fo), .ref fw]))] ∧ ev U)) (va_Qi (fun (r : Int32) (_ : Unit) => r = (nI (fo / 16777216 % 256))) (fun (_ : Unit) (_ : State) => True) (va_A [] sz)) 0 0 (va_A [] sz) := by
  refine Met.ofW (cc := cX1_byteAt) (maxL := 2) (ret := (some .int)) (by decide) rfl ?_
  intro p e s m args below meth c s₁ B hml hv
  obtain ⟨rfl, hsz, hP, hK, hD0, hE⟩ := hv
  have hx := B.exec
  have hb := B.bytes
  have hr := B.returns
  have hts := atoms_spec (ws := v_c_X1_byteAt_7) B.pre
  have hown : s.vm.findClass RX1 = some m.cls := findClass_of_methodNamed B.named
  have hlocks := B.notSynchronized
  subst hsz
  have hD := hD0
  generalize hAe : va_A [] s.heap.size = A
  have hA : ∀ q : Nat, s.heap.size ≤ q → A q := fun q h => by rw [← hAe]; exact Or.inr h
  have hS : va_S A s.heap s.heap [] := va_S.rf
  replace hP : va_P (dC, dI) vwCl [(h0, .inr (2, [.int (nI fi), .int (nI ff), .int (nI fo), .ref fw]))] s.heap := hP
  have hl := lv_entry ([.ref h0, .int 7]) (n := 2) (Nat.le_of_ble_eq_true rfl)
  rw [lg_entry_eq]
  generalize (lg_sl ([.ref h0, .int 7]) ++ List.replicate (2 - (lg_sl ([.ref h0, .int 7])).length) Slot.unset).toArray = ls at hl ⊢
  replace hl : lv_has ls 2 [(0, .ref h0), (1, .int 7)] := hl
  obtain ⟨H, hH⟩ : ∃ z : Heap, z = s.heap := ⟨_, rfl⟩
  rw [← hH]
  replace hS : va_S A s.heap H [] := by rw [hH]; exact va_S.rf
  replace hP : va_P (dC, dI) vwCl [(h0, .inr (2, [.int (nI fi), .int (nI ff), .int (nI fo), .ref fw]))] H := by rw [hH]; exact hP
  clear hH
  refine lv_iload_n hx hb dX1_byteAt_0 rfl (lv_at hl 1 rfl) ?_
  refine lv_iconst (v := 4) hx hb dX1_byteAt_1 (by decide) ?_
  refine lv_icmp_ge (tgt := 21) hx hb dX1_byteAt_2 (by decide) (fun c_1 => ?_) (fun c_1 => ?_)
  rotate_left
  · exact absurd (by decide) c_1
  refine lv_aload_n hx hb dX1_byteAt_21 rfl (lv_at hl 0 rfl) ?_
  refine va_get (D := (dC, dI)) (ci := 2) (v := .int (nI fo)) (C := RX1) (T := TX1) (N := 4) hx hb hts in_c_X1_byteAt_7_X1 hown hK hP 0 rfl rfl 2 (by decide) (hts (.fieldLink RX1 18 "ClaimBus$Frame" "others" "I") (List.mem_of_getElem? (i := 1) rfl)) (fun _ h9 => h9) rfl dX1_byteAt_22 ?_
  refine lv_bipush (v := 8) hx hb dX1_byteAt_25 (by decide) ?_
  refine lv_iload_n hx hb dX1_byteAt_27 rfl (lv_at hl 1 rfl) ?_
  refine lv_iconst (v := 4) hx hb dX1_byteAt_28 (by decide) ?_
  refine lv_isub hx hb dX1_byteAt_29 ?_
  refine lv_topi (fun x_2 ex_2 => ?_)
  obtain rfl : x_2 = 3 := ex_2.trans (by decide)
  refine lv_imul hx hb dX1_byteAt_30 ?_
  refine lv_topi (fun x_3 ex_3 => ?_)
  obtain rfl : x_3 = 24 := ex_3.trans (by decide)
  refine lv_iushr (v := (nI (((fo) / 16777216)))) hx hb dX1_byteAt_31 ((pk_ushrN (n := fo) (by omega) (24 : Int32) 24 (by decide)).trans (show nI (fo / 2 ^ 24) = nI (((fo) / 16777216)) from congrArg nI (by omega))) ?_
  refine lv_sipush (v := 255) hx hb dX1_byteAt_32 (by decide) ?_
  refine lv_iand hx hb dX1_byteAt_35 ?_
  refine lv_topi (fun x_4 ex_4 => ?_)
  obtain rfl : x_4 = (nI (((((fo) / 16777216)) % 256))) := ex_4.trans ((pk_andN (n := (((fo) / 16777216))) (m := 255) (by omega) 8 (by decide)).trans (show nI ((((fo) / 16777216)) % 2 ^ 8) = nI (((((fo) / 16777216)) % 256)) from congrArg nI (by omega)))
  exact W.iret (v := (nI (((((fo) / 16777216)) % 256)))) hx hb hr (fun t ht hW => ⟨⟨(nI (((((fo) / 16777216)) % 256))), (), rfl, congrArg nI (show (((((fo) / 16777216)) % 256)) = (fo / 16777216 % 256) from by omega), trivial⟩, hS.F ht⟩) hS.2.2 dX1_byteAt_36

noncomputable def tl_c_X1_cgN : List Cond := wsX10
noncomputable def v_c_X1_cgN : List Cond := .code yX1_controlGroup cX1_controlGroup 1 (some .int) :: ([.fieldLink RX1 18 "ClaimBus$Frame" "others" "I"] ++ tl_c_X1_cgN)
theorem it_c_X1_cgN : ∀ w ∈ tl_c_X1_cgN, w ∈ v_c_X1_cgN := fun w h => List.mem_cons_of_mem _ (List.mem_append_right _ h)
theorem in_c_X1_cgN_X1 : ∀ w ∈ wsX10, w ∈ v_c_X1_cgN := fun w h => it_c_X1_cgN w (h)
theorem gt_c_X1_cgN : ∀ w ∈ tl_c_X1_cgN, goodWord w = true := gw_wsX10
theorem gw_c_X1_cgN : ∀ w ∈ v_c_X1_cgN, goodWord w = true := List.forall_mem_cons.mpr ⟨by decide +kernel, List.forall_mem_append.mpr ⟨List.all_eq_true.mp (by decide +kernel), gt_c_X1_cgN⟩⟩
set_option maxHeartbeats 4000000 in
set_option maxRecDepth 100000 in
theorem c_X1_cgN (l : Launch) (dC : Nat → ClassId) (dI : Nat → Nat → Nat) (h0 : Nat) (fi : Nat) (ff : Nat) (fo : Nat) (fw : Nat) (sz : Nat) (hfi : fi < 536870912) (hff : ff < 4294967296) (hfo : fo < 4294967296) : Met l yX1_controlGroup v_c_X1_cgN ({ frames := 0, cells := 0, slots := 0, locals := 0 }) (va_Pc [.ref h0] (fun U => U.heap.size = sz ∧ va_P (dC, dI) vwCl [(h0, .inr (2, [.int (nI fi), .int (nI ff), .int (nI fo), .ref fw]))] U.heap ∧ va_K (dC, dI) vwCl [] U ∧ va_D (fun _ => True) [(h0, .inr (2, [.int (nI fi), .int (nI ff), .int (nI fo), .ref fw]))] ∧ ev U)) (va_Qi (fun (r : Int32) (_ : Unit) => r = (nI (fo / 256))) (fun (_ : Unit) (_ : State) => True) (va_A [] sz)) 0 0 (va_A [] sz) := by
  refine Met.ofW (cc := cX1_controlGroup) (maxL := 1) (ret := (some .int)) (by decide) rfl ?_
  intro p e s m args below meth c s₁ B hml hv
  obtain ⟨rfl, hsz, hP, hK, hD0, hE⟩ := hv
  have hx := B.exec
  have hb := B.bytes
  have hr := B.returns
  have hts := atoms_spec (ws := v_c_X1_cgN) B.pre
  have hown : s.vm.findClass RX1 = some m.cls := findClass_of_methodNamed B.named
  have hlocks := B.notSynchronized
  subst hsz
  have hD := hD0
  generalize hAe : va_A [] s.heap.size = A
  have hA : ∀ q : Nat, s.heap.size ≤ q → A q := fun q h => by rw [← hAe]; exact Or.inr h
  have hS : va_S A s.heap s.heap [] := va_S.rf
  replace hP : va_P (dC, dI) vwCl [(h0, .inr (2, [.int (nI fi), .int (nI ff), .int (nI fo), .ref fw]))] s.heap := hP
  have hl := lv_entry ([.ref h0]) (n := 1) (Nat.le_of_ble_eq_true rfl)
  rw [lg_entry_eq]
  generalize (lg_sl ([.ref h0]) ++ List.replicate (1 - (lg_sl ([.ref h0])).length) Slot.unset).toArray = ls at hl ⊢
  replace hl : lv_has ls 1 [(0, .ref h0)] := hl
  obtain ⟨H, hH⟩ : ∃ z : Heap, z = s.heap := ⟨_, rfl⟩
  rw [← hH]
  replace hS : va_S A s.heap H [] := by rw [hH]; exact va_S.rf
  replace hP : va_P (dC, dI) vwCl [(h0, .inr (2, [.int (nI fi), .int (nI ff), .int (nI fo), .ref fw]))] H := by rw [hH]; exact hP
  clear hH
  refine lv_aload_n hx hb dX1_controlGroup_0 rfl (lv_at hl 0 rfl) ?_
  refine va_get (D := (dC, dI)) (ci := 2) (v := .int (nI fo)) (C := RX1) (T := TX1) (N := 4) hx hb hts in_c_X1_cgN_X1 hown hK hP 0 rfl rfl 2 (by decide) (hts (.fieldLink RX1 18 "ClaimBus$Frame" "others" "I") (List.mem_of_getElem? (i := 1) rfl)) (fun _ h9 => h9) rfl dX1_controlGroup_1 ?_
  refine lv_bipush (v := 8) hx hb dX1_controlGroup_4 (by decide) ?_
  refine lv_iushr (v := (nI (((fo) / 256)))) hx hb dX1_controlGroup_6 ((pk_ushrN (n := fo) (by omega) (8 : Int32) 8 (by decide)).trans (show nI (fo / 2 ^ 8) = nI (((fo) / 256)) from congrArg nI (by omega))) ?_
  exact W.iret (v := (nI (((fo) / 256)))) hx hb hr (fun t ht hW => ⟨⟨(nI (((fo) / 256))), (), rfl, congrArg nI (show (((fo) / 256)) = (fo / 256) from by omega), trivial⟩, hS.F ht⟩) hS.2.2 dX1_controlGroup_7
