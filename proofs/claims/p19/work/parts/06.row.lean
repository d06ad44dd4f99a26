noncomputable def tl_c_lengthen : List Cond := wsX50
noncomputable def v_c_lengthen : List Cond := .code yX5_lengthen cX5_lengthen 2 none :: ([.fieldLink RX5 15 "ClaimBus$Row" "tail" "LClaimBus$Chunk;", .fieldLink RX5 9 "ClaimBus$Row" "head" "LClaimBus$Chunk;", .fieldLink RX5 18 "ClaimBus$Row" "headPlace" "I", .fieldLink RX5 22 "ClaimBus$Row" "tailPlace" "I"] ++ tl_c_lengthen)
theorem it_c_lengthen : ∀ w ∈ tl_c_lengthen, w ∈ v_c_lengthen := fun w h => List.mem_cons_of_mem _ (List.mem_append_right _ h)
theorem in_c_lengthen_X5 : ∀ w ∈ wsX50, w ∈ v_c_lengthen := fun w h => it_c_lengthen w (h)
theorem gt_c_lengthen : ∀ w ∈ tl_c_lengthen, goodWord w = true := gw_wsX50
theorem gw_c_lengthen : ∀ w ∈ v_c_lengthen, goodWord w = true := List.forall_mem_cons.mpr ⟨by decide +kernel, List.forall_mem_append.mpr ⟨List.all_eq_true.mp (by decide +kernel), gt_c_lengthen⟩⟩
set_option maxHeartbeats 4000000 in
set_option maxRecDepth 100000 in
theorem c_lengthen (l : Launch) (dC : Nat → ClassId) (dI : Nat → Nat → Nat) (r : Nat) (rh : Int32) (rl : Int32) (st : Nat) (rf : Nat) (hp : Int32) (tp : Int32) (ck : Nat) (sz : Nat)  : Met l yX5_lengthen v_c_lengthen ({ frames := 0, cells := 0, slots := 0, locals := 0 }) (va_Pc [.ref r, .ref ck] (fun U => U.heap.size = sz ∧ va_P (dC, dI) vwCl [(r, .inr (6, [.int rh, .int rl, .ref st, .null, .null, .int hp, .int tp, .int 0, .int 0, .int 0, .ref rf, .int 0]))] U.heap ∧ va_K (dC, dI) vwCl [] U ∧ va_D (fun _ => True) [(r, .inr (6, [.int rh, .int rl, .ref st, .null, .null, .int hp, .int tp, .int 0, .int 0, .int 0, .ref rf, .int 0]))] ∧ ev U)) (va_Qv (fun _ : Unit => True) (fun (_ : Unit) (t : State) => va_P (dC, dI) vwCl [(r, .inr (6, [.int rh, .int rl, .ref st, .ref ck, .ref ck, .int 0, .int 0, .int 0, .int 0, .int 0, .ref rf, .int 0]))] t.heap ∧ va_K (dC, dI) vwCl [] t ∧ va_D (va_A [(r, .inr (6, [.int rh, .int rl, .ref st, .null, .null, .int hp, .int tp, .int 0, .int 0, .int 0, .ref rf, .int 0]))] sz) [(r, .inr (6, [.int rh, .int rl, .ref st, .ref ck, .ref ck, .int 0, .int 0, .int 0, .int 0, .int 0, .ref rf, .int 0]))]) (va_A [(r, .inr (6, [.int rh, .int rl, .ref st, .null, .null, .int hp, .int tp, .int 0, .int 0, .int 0, .ref rf, .int 0]))] sz)) 0 0 (va_A [(r, .inr (6, [.int rh, .int rl, .ref st, .null, .null, .int hp, .int tp, .int 0, .int 0, .int 0, .ref rf, .int 0]))] sz) := by
  refine Met.ofW (cc := cX5_lengthen) (maxL := 2) (ret := none) (by decide) rfl ?_
  intro p e s m args below meth c s₁ B hml hv
  obtain ⟨rfl, hsz, hP, hK, hD0, hE⟩ := hv
  have hx := B.exec
  have hb := B.bytes
  have hr := B.returns
  have hts := atoms_spec (ws := v_c_lengthen) B.pre
  have hown : s.vm.findClass RX5 = some m.cls := findClass_of_methodNamed B.named
  have hlocks := B.notSynchronized
  subst hsz
  have hD := hD0.self (sz := s.heap.size)
  generalize hAe : va_A [(r, .inr (6, [.int rh, .int rl, .ref st, .null, .null, .int hp, .int tp, .int 0, .int 0, .int 0, .ref rf, .int 0]))] s.heap.size = A at hD ⊢
  have hA : ∀ q : Nat, s.heap.size ≤ q → A q := fun q h => by rw [← hAe]; exact Or.inr h
  have hS : va_S A s.heap s.heap [] := va_S.rf
  replace hP : va_P (dC, dI) vwCl [(r, .inr (6, [.int rh, .int rl, .ref st, .null, .null, .int hp, .int tp, .int 0, .int 0, .int 0, .ref rf, .int 0]))] s.heap := hP
  have hl := lv_entry ([.ref r, .ref ck]) (n := 2) (Nat.le_of_ble_eq_true rfl)
  rw [lg_entry_eq]
  generalize (lg_sl ([.ref r, .ref ck]) ++ List.replicate (2 - (lg_sl ([.ref r, .ref ck])).length) Slot.unset).toArray = ls at hl ⊢
  replace hl : lv_has ls 2 [(0, .ref r), (1, .ref ck)] := hl
  obtain ⟨H, hH⟩ : ∃ z : Heap, z = s.heap := ⟨_, rfl⟩
  rw [← hH]
  replace hS : va_S A s.heap H [] := by rw [hH]; exact va_S.rf
  replace hP : va_P (dC, dI) vwCl [(r, .inr (6, [.int rh, .int rl, .ref st, .null, .null, .int hp, .int tp, .int 0, .int 0, .int 0, .ref rf, .int 0]))] H := by rw [hH]; exact hP
  clear hH
  refine lv_aload_n hx hb dX5_lengthen_0 rfl (lv_at hl 0 rfl) ?_
  refine va_get (D := (dC, dI)) (ci := 6) (v := .null) (C := RX5) (T := TX5) (N := 12) hx hb hts in_c_lengthen_X5 hown hK hP 0 rfl rfl 4 (by decide) (hts (.fieldLink RX5 15 "ClaimBus$Row" "tail" "LClaimBus$Chunk;") (List.mem_of_getElem? (i := 1) rfl)) (fun _ h9 => h9) rfl dX5_lengthen_1 ?_
  refine lv_ifnonnullN hx hb dX5_lengthen_4 ?_
  refine lv_aload_n hx hb dX5_lengthen_7 rfl (lv_at hl 0 rfl) ?_
  refine lv_aload_n hx hb dX5_lengthen_8 rfl (lv_at hl 1 rfl) ?_
  refine va_put (D := (dC, dI)) (ci := 6) (v := .ref ck) (ty := (.object "ClaimBus$Chunk")) (C := RX5) (T := TX5) (N := 12) hx hb hts in_c_lengthen_X5 tyX5 tyX5_ok nmX5 hown hK hP hD hS 0 rfl rfl 3 (by decide) (hts (.fieldLink RX5 9 "ClaimBus$Row" "head" "LClaimBus$Chunk;") (List.mem_of_getElem? (i := 2) rfl)) (fun _ h9 => h9) rfl (by decide +kernel) rfl rfl (Nat.le_of_ble_eq_true rfl) dX5_lengthen_9 (fun H locs hP hD hS => ?_)
  replace hP : va_P (dC, dI) vwCl [(r, .inr (6, [.int rh, .int rl, .ref st, .ref ck, .null, .int hp, .int tp, .int 0, .int 0, .int 0, .ref rf, .int 0]))] H := hP
  replace hD : va_D A [(r, .inr (6, [.int rh, .int rl, .ref st, .ref ck, .null, .int hp, .int tp, .int 0, .int 0, .int 0, .ref rf, .int 0]))] := hD
  refine lv_aload_n hx hb dX5_lengthen_12 rfl (lv_at hl 0 rfl) ?_
  refine lv_iconst (v := 0) hx hb dX5_lengthen_13 (by decide) ?_
  refine va_put (D := (dC, dI)) (ci := 6) (v := .int 0) (ty := .int) (C := RX5) (T := TX5) (N := 12) hx hb hts in_c_lengthen_X5 tyX5 tyX5_ok nmX5 hown hK hP hD hS 0 rfl rfl 5 (by decide) (hts (.fieldLink RX5 18 "ClaimBus$Row" "headPlace" "I") (List.mem_of_getElem? (i := 3) rfl)) (fun _ h9 => h9) rfl (by decide +kernel) rfl rfl (Nat.le_of_ble_eq_true rfl) dX5_lengthen_14 (fun H locs hP hD hS => ?_)
  replace hP : va_P (dC, dI) vwCl [(r, .inr (6, [.int rh, .int rl, .ref st, .ref ck, .null, .int 0, .int tp, .int 0, .int 0, .int 0, .ref rf, .int 0]))] H := hP
  replace hD : va_D A [(r, .inr (6, [.int rh, .int rl, .ref st, .ref ck, .null, .int 0, .int tp, .int 0, .int 0, .int 0, .ref rf, .int 0]))] := hD
  refine lv_goto (tgt := 28) hx hb dX5_lengthen_17 (by decide) ?_
  refine lv_aload_n hx hb dX5_lengthen_28 rfl (lv_at hl 0 rfl) ?_
  refine lv_aload_n hx hb dX5_lengthen_29 rfl (lv_at hl 1 rfl) ?_
  refine va_put (D := (dC, dI)) (ci := 6) (v := .ref ck) (ty := (.object "ClaimBus$Chunk")) (C := RX5) (T := TX5) (N := 12) hx hb hts in_c_lengthen_X5 tyX5 tyX5_ok nmX5 hown hK hP hD hS 0 rfl rfl 4 (by decide) (hts (.fieldLink RX5 15 "ClaimBus$Row" "tail" "LClaimBus$Chunk;") (List.mem_of_getElem? (i := 1) rfl)) (fun _ h9 => h9) rfl (by decide +kernel) rfl rfl (Nat.le_of_ble_eq_true rfl) dX5_lengthen_30 (fun H locs hP hD hS => ?_)
  replace hP : va_P (dC, dI) vwCl [(r, .inr (6, [.int rh, .int rl, .ref st, .ref ck, .ref ck, .int 0, .int tp, .int 0, .int 0, .int 0, .ref rf, .int 0]))] H := hP
  replace hD : va_D A [(r, .inr (6, [.int rh, .int rl, .ref st, .ref ck, .ref ck, .int 0, .int tp, .int 0, .int 0, .int 0, .ref rf, .int 0]))] := hD
  refine lv_aload_n hx hb dX5_lengthen_33 rfl (lv_at hl 0 rfl) ?_
  refine lv_iconst (v := 0) hx hb dX5_lengthen_34 (by decide) ?_
  refine va_put (D := (dC, dI)) (ci := 6) (v := .int 0) (ty := .int) (C := RX5) (T := TX5) (N := 12) hx hb hts in_c_lengthen_X5 tyX5 tyX5_ok nmX5 hown hK hP hD hS 0 rfl rfl 6 (by decide) (hts (.fieldLink RX5 22 "ClaimBus$Row" "tailPlace" "I") (List.mem_of_getElem? (i := 4) rfl)) (fun _ h9 => h9) rfl (by decide +kernel) rfl rfl (Nat.le_of_ble_eq_true rfl) dX5_lengthen_35 (fun H locs hP hD hS => ?_)
  replace hP : va_P (dC, dI) vwCl [(r, .inr (6, [.int rh, .int rl, .ref st, .ref ck, .ref ck, .int 0, .int 0, .int 0, .int 0, .int 0, .ref rf, .int 0]))] H := hP
  replace hD : va_D A [(r, .inr (6, [.int rh, .int rl, .ref st, .ref ck, .ref ck, .int 0, .int 0, .int 0, .int 0, .int 0, .ref rf, .int 0]))] := hD
  have hP9 := hP.sub (ws' := [(r, .inr (6, [.int rh, .int rl, .ref st, .ref ck, .ref ck, .int 0, .int 0, .int 0, .int 0, .int 0, .ref rf, .int 0]))]) [0] rfl
  have hD9 := hD.sub (ws' := [(r, .inr (6, [.int rh, .int rl, .ref st, .ref ck, .ref ck, .int 0, .int 0, .int 0, .int 0, .int 0, .ref rf, .int 0]))]) [0] (by decide +kernel) rfl
  have hK9 := hK.sub (tys' := []) [] rfl
  exact W.vret hx hb hr (fun t ht hW => ⟨⟨(), rfl, trivial, ⟨by rw [ht]; exact hP9, va_K.moved hW.alike hK9, hD9⟩⟩, hS.F ht⟩) hS.2.2 dX5_lengthen_38

noncomputable def tl_c_len_e : List Cond := wsX50
noncomputable def v_c_len_e : List Cond := .code yX5_length cX5_length 1 (some .int) :: ([.fieldLink RX5 31 "ClaimBus$Row" "claimWaits" "Z", .fieldLink RX5 25 "ClaimBus$Row" "frames" "I"] ++ tl_c_len_e)
theorem it_c_len_e : ∀ w ∈ tl_c_len_e, w ∈ v_c_len_e := fun w h => List.mem_cons_of_mem _ (List.mem_append_right _ h)
theorem in_c_len_e_X5 : ∀ w ∈ wsX50, w ∈ v_c_len_e := fun w h => it_c_len_e w (h)
theorem gt_c_len_e : ∀ w ∈ tl_c_len_e, goodWord w = true := gw_wsX50
theorem gw_c_len_e : ∀ w ∈ v_c_len_e, goodWord w = true := List.forall_mem_cons.mpr ⟨by decide +kernel, List.forall_mem_append.mpr ⟨List.all_eq_true.mp (by decide +kernel), gt_c_len_e⟩⟩
set_option maxHeartbeats 4000000 in
set_option maxRecDepth 100000 in
theorem c_len_e (l : Launch) (dC : Nat → ClassId) (dI : Nat → Nat → Nat) (r : Nat) (rh : Int32) (rl : Int32) (st : Nat) (rf : Nat) (hp : Int32) (tp : Int32) (sz : Nat)  : Met l yX5_length v_c_len_e ({ frames := 0, cells := 0, slots := 0, locals := 0 }) (va_Pc [.ref r] (fun U => U.heap.size = sz ∧ va_P (dC, dI) vwCl [(r, .inr (6, [.int rh, .int rl, .ref st, .null, .null, .int hp, .int tp, .int 0, .int 0, .int 0, .ref rf, .int 0]))] U.heap ∧ va_K (dC, dI) vwCl [] U ∧ va_D (fun _ => True) [(r, .inr (6, [.int rh, .int rl, .ref st, .null, .null, .int hp, .int tp, .int 0, .int 0, .int 0, .ref rf, .int 0]))] ∧ ev U)) (va_Qi (fun (r : Int32) (_ : Unit) => r = 0) (fun (_ : Unit) (_ : State) => True) (va_A [] sz)) 0 0 (va_A [] sz) := by
  refine Met.ofW (cc := cX5_length) (maxL := 1) (ret := (some .int)) (by decide) rfl ?_
  intro p e s m args below meth c s₁ B hml hv
  obtain ⟨rfl, hsz, hP, hK, hD0, hE⟩ := hv
  have hx := B.exec
  have hb := B.bytes
  have hr := B.returns
  have hts := atoms_spec (ws := v_c_len_e) B.pre
  have hown : s.vm.findClass RX5 = some m.cls := findClass_of_methodNamed B.named
  have hlocks := B.notSynchronized
  subst hsz
  have hD := hD0
  generalize hAe : va_A [] s.heap.size = A
  have hA : ∀ q : Nat, s.heap.size ≤ q → A q := fun q h => by rw [← hAe]; exact Or.inr h
  have hS : va_S A s.heap s.heap [] := va_S.rf
  replace hP : va_P (dC, dI) vwCl [(r, .inr (6, [.int rh, .int rl, .ref st, .null, .null, .int hp, .int tp, .int 0, .int 0, .int 0, .ref rf, .int 0]))] s.heap := hP
  have hl := lv_entry ([.ref r]) (n := 1) (Nat.le_of_ble_eq_true rfl)
  rw [lg_entry_eq]
  generalize (lg_sl ([.ref r]) ++ List.replicate (1 - (lg_sl ([.ref r])).length) Slot.unset).toArray = ls at hl ⊢
  replace hl : lv_has ls 1 [(0, .ref r)] := hl
  obtain ⟨H, hH⟩ : ∃ z : Heap, z = s.heap := ⟨_, rfl⟩
  rw [← hH]
  replace hS : va_S A s.heap H [] := by rw [hH]; exact va_S.rf
  replace hP : va_P (dC, dI) vwCl [(r, .inr (6, [.int rh, .int rl, .ref st, .null, .null, .int hp, .int tp, .int 0, .int 0, .int 0, .ref rf, .int 0]))] H := by rw [hH]; exact hP
  clear hH
  refine lv_aload_n hx hb dX5_length_0 rfl (lv_at hl 0 rfl) ?_
  refine va_get (D := (dC, dI)) (ci := 6) (v := .int 0) (C := RX5) (T := TX5) (N := 12) hx hb hts in_c_len_e_X5 hown hK hP 0 rfl rfl 9 (by decide) (hts (.fieldLink RX5 31 "ClaimBus$Row" "claimWaits" "Z") (List.mem_of_getElem? (i := 1) rfl)) (fun _ h9 => h9) rfl dX5_length_1 ?_
  refine lv_if_eq (tgt := 16) hx hb dX5_length_4 (by decide) (fun c_1 => ?_) (fun c_1 => ?_)
  rotate_left
  · exact absurd (by decide) c_1
  refine lv_aload_n hx hb dX5_length_16 rfl (lv_at hl 0 rfl) ?_
  refine va_get (D := (dC, dI)) (ci := 6) (v := .int 0) (C := RX5) (T := TX5) (N := 12) hx hb hts in_c_len_e_X5 hown hK hP 0 rfl rfl 7 (by decide) (hts (.fieldLink RX5 25 "ClaimBus$Row" "frames" "I") (List.mem_of_getElem? (i := 2) rfl)) (fun _ h9 => h9) rfl dX5_length_17 ?_
  exact W.iret (v := 0) hx hb hr (fun t ht hW => ⟨⟨0, (), rfl, rfl, trivial⟩, hS.F ht⟩) hS.2.2 dX5_length_20

noncomputable def tl_c_len_c : List Cond := wsX50
noncomputable def v_c_len_c : List Cond := .code yX5_length cX5_length 1 (some .int) :: ([.fieldLink RX5 31 "ClaimBus$Row" "claimWaits" "Z", .fieldLink RX5 25 "ClaimBus$Row" "frames" "I"] ++ tl_c_len_c)
theorem it_c_len_c : ∀ w ∈ tl_c_len_c, w ∈ v_c_len_c := fun w h => List.mem_cons_of_mem _ (List.mem_append_right _ h)
theorem in_c_len_c_X5 : ∀ w ∈ wsX50, w ∈ v_c_len_c := fun w h => it_c_len_c w (h)
theorem gt_c_len_c : ∀ w ∈ tl_c_len_c, goodWord w = true := gw_wsX50
theorem gw_c_len_c : ∀ w ∈ v_c_len_c, goodWord w = true := List.forall_mem_cons.mpr ⟨by decide +kernel, List.forall_mem_append.mpr ⟨List.all_eq_true.mp (by decide +kernel), gt_c_len_c⟩⟩
set_option maxHeartbeats 4000000 in
set_option maxRecDepth 100000 in
theorem c_len_c (l : Launch) (dC : Nat → ClassId) (dI : Nat → Nat → Nat) (r : Nat) (rh : Int32) (rl : Int32) (st : Nat) (rf : Nat) (hp : Int32) (tp : Int32) (sz : Nat)  : Met l yX5_length v_c_len_c ({ frames := 0, cells := 0, slots := 0, locals := 0 }) (va_Pc [.ref r] (fun U => U.heap.size = sz ∧ va_P (dC, dI) vwCl [(r, .inr (6, [.int rh, .int rl, .ref st, .null, .null, .int hp, .int tp, .int 0, .int 0, .int 1, .ref rf, .int 0]))] U.heap ∧ va_K (dC, dI) vwCl [] U ∧ va_D (fun _ => True) [(r, .inr (6, [.int rh, .int rl, .ref st, .null, .null, .int hp, .int tp, .int 0, .int 0, .int 1, .ref rf, .int 0]))] ∧ ev U)) (va_Qi (fun (r : Int32) (_ : Unit) => r = 1) (fun (_ : Unit) (_ : State) => True) (va_A [] sz)) 0 0 (va_A [] sz) := by
  refine Met.ofW (cc := cX5_length) (maxL := 1) (ret := (some .int)) (by decide) rfl ?_
  intro p e s m args below meth c s₁ B hml hv
  obtain ⟨rfl, hsz, hP, hK, hD0, hE⟩ := hv
  have hx := B.exec
  have hb := B.bytes
  have hr := B.returns
  have hts := atoms_spec (ws := v_c_len_c) B.pre
  have hown : s.vm.findClass RX5 = some m.cls := findClass_of_methodNamed B.named
  have hlocks := B.notSynchronized
  subst hsz
  have hD := hD0
  generalize hAe : va_A [] s.heap.size = A
  have hA : ∀ q : Nat, s.heap.size ≤ q → A q := fun q h => by rw [← hAe]; exact Or.inr h
  have hS : va_S A s.heap s.heap [] := va_S.rf
  replace hP : va_P (dC, dI) vwCl [(r, .inr (6, [.int rh, .int rl, .ref st, .null, .null, .int hp, .int tp, .int 0, .int 0, .int 1, .ref rf, .int 0]))] s.heap := hP
  have hl := lv_entry ([.ref r]) (n := 1) (Nat.le_of_ble_eq_true rfl)
  rw [lg_entry_eq]
  generalize (lg_sl ([.ref r]) ++ List.replicate (1 - (lg_sl ([.ref r])).length) Slot.unset).toArray = ls at hl ⊢
  replace hl : lv_has ls 1 [(0, .ref r)] := hl
  obtain ⟨H, hH⟩ : ∃ z : Heap, z = s.heap := ⟨_, rfl⟩
  rw [← hH]
  replace hS : va_S A s.heap H [] := by rw [hH]; exact va_S.rf
  replace hP : va_P (dC, dI) vwCl [(r, .inr (6, [.int rh, .int rl, .ref st, .null, .null, .int hp, .int tp, .int 0, .int 0, .int 1, .ref rf, .int 0]))] H := by rw [hH]; exact hP
  clear hH
  refine lv_aload_n hx hb dX5_length_0 rfl (lv_at hl 0 rfl) ?_
  refine va_get (D := (dC, dI)) (ci := 6) (v := .int 1) (C := RX5) (T := TX5) (N := 12) hx hb hts in_c_len_c_X5 hown hK hP 0 rfl rfl 9 (by decide) (hts (.fieldLink RX5 31 "ClaimBus$Row" "claimWaits" "Z") (List.mem_of_getElem? (i := 1) rfl)) (fun _ h9 => h9) rfl dX5_length_1 ?_
  refine lv_if_eq (tgt := 16) hx hb dX5_length_4 (by decide) (fun c_1 => ?_) (fun c_1 => ?_)
  · exact absurd c_1 (by decide)
  refine lv_aload_n hx hb dX5_length_7 rfl (lv_at hl 0 rfl) ?_
  refine va_get (D := (dC, dI)) (ci := 6) (v := .int 0) (C := RX5) (T := TX5) (N := 12) hx hb hts in_c_len_c_X5 hown hK hP 0 rfl rfl 7 (by decide) (hts (.fieldLink RX5 25 "ClaimBus$Row" "frames" "I") (List.mem_of_getElem? (i := 2) rfl)) (fun _ h9 => h9) rfl dX5_length_8 ?_
  refine lv_iconst (v := 1) hx hb dX5_length_11 (by decide) ?_
  refine lv_iadd hx hb dX5_length_12 ?_
  refine lv_topi (fun x_2 ex_2 => ?_)
  obtain rfl : x_2 = 1 := ex_2.trans (by decide)
  refine lv_goto (tgt := 20) hx hb dX5_length_13 (by decide) ?_
  exact W.iret (v := 1) hx hb hr (fun t ht hW => ⟨⟨1, (), rfl, rfl, trivial⟩, hS.F ht⟩) hS.2.2 dX5_length_20

noncomputable def tl_c_len_f : List Cond := wsX50
noncomputable def v_c_len_f : List Cond := .code yX5_length cX5_length 1 (some .int) :: ([.fieldLink RX5 31 "ClaimBus$Row" "claimWaits" "Z", .fieldLink RX5 25 "ClaimBus$Row" "frames" "I"] ++ tl_c_len_f)
theorem it_c_len_f : ∀ w ∈ tl_c_len_f, w ∈ v_c_len_f := fun w h => List.mem_cons_of_mem _ (List.mem_append_right _ h)
theorem in_c_len_f_X5 : ∀ w ∈ wsX50, w ∈ v_c_len_f := fun w h => it_c_len_f w (h)
theorem gt_c_len_f : ∀ w ∈ tl_c_len_f, goodWord w = true := gw_wsX50
theorem gw_c_len_f : ∀ w ∈ v_c_len_f, goodWord w = true := List.forall_mem_cons.mpr ⟨by decide +kernel, List.forall_mem_append.mpr ⟨List.all_eq_true.mp (by decide +kernel), gt_c_len_f⟩⟩
set_option maxHeartbeats 4000000 in
set_option maxRecDepth 100000 in
theorem c_len_f (l : Launch) (dC : Nat → ClassId) (dI : Nat → Nat → Nat) (r : Nat) (rh : Int32) (rl : Int32) (st : Nat) (rf : Nat) (nf : Nat) (ng : Nat) (ck : Nat) (sz : Nat)  : Met l yX5_length v_c_len_f ({ frames := 0, cells := 0, slots := 0, locals := 0 }) (va_Pc [.ref r] (fun U => U.heap.size = sz ∧ va_P (dC, dI) vwCl [(r, .inr (6, [.int rh, .int rl, .ref st, .ref ck, .ref ck, .int 0, .int 1, .int (nI nf), .int (nI ng), .int 0, .ref rf, .int 0]))] U.heap ∧ va_K (dC, dI) vwCl [] U ∧ va_D (fun _ => True) [(r, .inr (6, [.int rh, .int rl, .ref st, .ref ck, .ref ck, .int 0, .int 1, .int (nI nf), .int (nI ng), .int 0, .ref rf, .int 0]))] ∧ ev U)) (va_Qi (fun (r : Int32) (_ : Unit) => r = (nI nf)) (fun (_ : Unit) (_ : State) => True) (va_A [] sz)) 0 0 (va_A [] sz) := by
  refine Met.ofW (cc := cX5_length) (maxL := 1) (ret := (some .int)) (by decide) rfl ?_
  intro p e s m args below meth c s₁ B hml hv
  obtain ⟨rfl, hsz, hP, hK, hD0, hE⟩ := hv
  have hx := B.exec
  have hb := B.bytes
  have hr := B.returns
  have hts := atoms_spec (ws := v_c_len_f) B.pre
  have hown : s.vm.findClass RX5 = some m.cls := findClass_of_methodNamed B.named
  have hlocks := B.notSynchronized
  subst hsz
  have hD := hD0
  generalize hAe : va_A [] s.heap.size = A
  have hA : ∀ q : Nat, s.heap.size ≤ q → A q := fun q h => by rw [← hAe]; exact Or.inr h
  have hS : va_S A s.heap s.heap [] := va_S.rf
  replace hP : va_P (dC, dI) vwCl [(r, .inr (6, [.int rh, .int rl, .ref st, .ref ck, .ref ck, .int 0, .int 1, .int (nI nf), .int (nI ng), .int 0, .ref rf, .int 0]))] s.heap := hP
  have hl := lv_entry ([.ref r]) (n := 1) (Nat.le_of_ble_eq_true rfl)
  rw [lg_entry_eq]
  generalize (lg_sl ([.ref r]) ++ List.replicate (1 - (lg_sl ([.ref r])).length) Slot.unset).toArray = ls at hl ⊢
  replace hl : lv_has ls 1 [(0, .ref r)] := hl
  obtain ⟨H, hH⟩ : ∃ z : Heap, z = s.heap := ⟨_, rfl⟩
  rw [← hH]
  replace hS : va_S A s.heap H [] := by rw [hH]; exact va_S.rf
  replace hP : va_P (dC, dI) vwCl [(r, .inr (6, [.int rh, .int rl, .ref st, .ref ck, .ref ck, .int 0, .int 1, .int (nI nf), .int (nI ng), .int 0, .ref rf, .int 0]))] H := by rw [hH]; exact hP
  clear hH
  refine lv_aload_n hx hb dX5_length_0 rfl (lv_at hl 0 rfl) ?_
  refine va_get (D := (dC, dI)) (ci := 6) (v := .int 0) (C := RX5) (T := TX5) (N := 12) hx hb hts in_c_len_f_X5 hown hK hP 0 rfl rfl 9 (by decide) (hts (.fieldLink RX5 31 "ClaimBus$Row" "claimWaits" "Z") (List.mem_of_getElem? (i := 1) rfl)) (fun _ h9 => h9) rfl dX5_length_1 ?_
  refine lv_if_eq (tgt := 16) hx hb dX5_length_4 (by decide) (fun c_1 => ?_) (fun c_1 => ?_)
  rotate_left
  · exact absurd (by decide) c_1
  refine lv_aload_n hx hb dX5_length_16 rfl (lv_at hl 0 rfl) ?_
  refine va_get (D := (dC, dI)) (ci := 6) (v := .int (nI nf)) (C := RX5) (T := TX5) (N := 12) hx hb hts in_c_len_f_X5 hown hK hP 0 rfl rfl 7 (by decide) (hts (.fieldLink RX5 25 "ClaimBus$Row" "frames" "I") (List.mem_of_getElem? (i := 2) rfl)) (fun _ h9 => h9) rfl dX5_length_17 ?_
  exact W.iret (v := (nI nf)) hx hb hr (fun t ht hW => ⟨⟨(nI nf), (), rfl, rfl, trivial⟩, hS.F ht⟩) hS.2.2 dX5_length_20

noncomputable def tl_c_putClaim : List Cond := wsX50
noncomputable def v_c_putClaim : List Cond := .code yX5_putClaim cX5_putClaim 1 none :: ([.fieldLink RX5 31 "ClaimBus$Row" "claimWaits" "Z", .fieldLink RX5 42 "ClaimBus$Row" "firstIsWritten" "Z"] ++ tl_c_putClaim)
theorem it_c_putClaim : ∀ w ∈ tl_c_putClaim, w ∈ v_c_putClaim := fun w h => List.mem_cons_of_mem _ (List.mem_append_right _ h)
theorem in_c_putClaim_X5 : ∀ w ∈ wsX50, w ∈ v_c_putClaim := fun w h => it_c_putClaim w (h)
theorem gt_c_putClaim : ∀ w ∈ tl_c_putClaim, goodWord w = true := gw_wsX50
theorem gw_c_putClaim : ∀ w ∈ v_c_putClaim, goodWord w = true := List.forall_mem_cons.mpr ⟨by decide +kernel, List.forall_mem_append.mpr ⟨List.all_eq_true.mp (by decide +kernel), gt_c_putClaim⟩⟩
set_option maxHeartbeats 4000000 in
set_option maxRecDepth 100000 in
theorem c_putClaim (l : Launch) (dC : Nat → ClassId) (dI : Nat → Nat → Nat) (r : Nat) (rh : Int32) (rl : Int32) (st : Nat) (rf : Nat) (hp : Int32) (tp : Int32) (sz : Nat)  : Met l yX5_putClaim v_c_putClaim ({ frames := 0, cells := 0, slots := 0, locals := 0 }) (va_Pc [.ref r] (fun U => U.heap.size = sz ∧ va_P (dC, dI) vwCl [(r, .inr (6, [.int rh, .int rl, .ref st, .null, .null, .int hp, .int tp, .int 0, .int 0, .int 0, .ref rf, .int 0]))] U.heap ∧ va_K (dC, dI) vwCl [] U ∧ va_D (fun _ => True) [(r, .inr (6, [.int rh, .int rl, .ref st, .null, .null, .int hp, .int tp, .int 0, .int 0, .int 0, .ref rf, .int 0]))] ∧ ev U)) (va_Qv (fun _ : Unit => True) (fun (_ : Unit) (t : State) => va_P (dC, dI) vwCl [(r, .inr (6, [.int rh, .int rl, .ref st, .null, .null, .int hp, .int tp, .int 0, .int 0, .int 1, .ref rf, .int 0]))] t.heap ∧ va_K (dC, dI) vwCl [] t ∧ va_D (va_A [(r, .inr (6, [.int rh, .int rl, .ref st, .null, .null, .int hp, .int tp, .int 0, .int 0, .int 0, .ref rf, .int 0]))] sz) [(r, .inr (6, [.int rh, .int rl, .ref st, .null, .null, .int hp, .int tp, .int 0, .int 0, .int 1, .ref rf, .int 0]))]) (va_A [(r, .inr (6, [.int rh, .int rl, .ref st, .null, .null, .int hp, .int tp, .int 0, .int 0, .int 0, .ref rf, .int 0]))] sz)) 0 0 (va_A [(r, .inr (6, [.int rh, .int rl, .ref st, .null, .null, .int hp, .int tp, .int 0, .int 0, .int 0, .ref rf, .int 0]))] sz) := by
  refine Met.ofW (cc := cX5_putClaim) (maxL := 1) (ret := none) (by decide) rfl ?_
  intro p e s m args below meth c s₁ B hml hv
  obtain ⟨rfl, hsz, hP, hK, hD0, hE⟩ := hv
  have hx := B.exec
  have hb := B.bytes
  have hr := B.returns
  have hts := atoms_spec (ws := v_c_putClaim) B.pre
  have hown : s.vm.findClass RX5 = some m.cls := findClass_of_methodNamed B.named
  have hlocks := B.notSynchronized
  subst hsz
  have hD := hD0.self (sz := s.heap.size)
  generalize hAe : va_A [(r, .inr (6, [.int rh, .int rl, .ref st, .null, .null, .int hp, .int tp, .int 0, .int 0, .int 0, .ref rf, .int 0]))] s.heap.size = A at hD ⊢
  have hA : ∀ q : Nat, s.heap.size ≤ q → A q := fun q h => by rw [← hAe]; exact Or.inr h
  have hS : va_S A s.heap s.heap [] := va_S.rf
  replace hP : va_P (dC, dI) vwCl [(r, .inr (6, [.int rh, .int rl, .ref st, .null, .null, .int hp, .int tp, .int 0, .int 0, .int 0, .ref rf, .int 0]))] s.heap := hP
  have hl := lv_entry ([.ref r]) (n := 1) (Nat.le_of_ble_eq_true rfl)
  rw [lg_entry_eq]
  generalize (lg_sl ([.ref r]) ++ List.replicate (1 - (lg_sl ([.ref r])).length) Slot.unset).toArray = ls at hl ⊢
  replace hl : lv_has ls 1 [(0, .ref r)] := hl
  obtain ⟨H, hH⟩ : ∃ z : Heap, z = s.heap := ⟨_, rfl⟩
  rw [← hH]
  replace hS : va_S A s.heap H [] := by rw [hH]; exact va_S.rf
  replace hP : va_P (dC, dI) vwCl [(r, .inr (6, [.int rh, .int rl, .ref st, .null, .null, .int hp, .int tp, .int 0, .int 0, .int 0, .ref rf, .int 0]))] H := by rw [hH]; exact hP
  clear hH
  refine lv_aload_n hx hb dX5_putClaim_0 rfl (lv_at hl 0 rfl) ?_
  refine va_get (D := (dC, dI)) (ci := 6) (v := .int 0) (C := RX5) (T := TX5) (N := 12) hx hb hts in_c_putClaim_X5 hown hK hP 0 rfl rfl 9 (by decide) (hts (.fieldLink RX5 31 "ClaimBus$Row" "claimWaits" "Z") (List.mem_of_getElem? (i := 1) rfl)) (fun _ h9 => h9) rfl dX5_putClaim_1 ?_
  refine lv_if_ne (tgt := 17) hx hb dX5_putClaim_4 (by decide) (fun c_1 => ?_) (fun c_1 => ?_)
  · exact absurd c_1 (by decide)
  refine lv_aload_n hx hb dX5_putClaim_7 rfl (lv_at hl 0 rfl) ?_
  refine lv_iconst (v := 1) hx hb dX5_putClaim_8 (by decide) ?_
  refine va_put (D := (dC, dI)) (ci := 6) (v := .int 1) (ty := .boolean) (C := RX5) (T := TX5) (N := 12) hx hb hts in_c_putClaim_X5 tyX5 tyX5_ok nmX5 hown hK hP hD hS 0 rfl rfl 9 (by decide) (hts (.fieldLink RX5 31 "ClaimBus$Row" "claimWaits" "Z") (List.mem_of_getElem? (i := 1) rfl)) (fun _ h9 => h9) rfl (by decide +kernel) rfl rfl (Nat.le_of_ble_eq_true rfl) dX5_putClaim_9 (fun H locs hP hD hS => ?_)
  replace hP : va_P (dC, dI) vwCl [(r, .inr (6, [.int rh, .int rl, .ref st, .null, .null, .int hp, .int tp, .int 0, .int 0, .int 1, .ref rf, .int 0]))] H := hP
  replace hD : va_D A [(r, .inr (6, [.int rh, .int rl, .ref st, .null, .null, .int hp, .int tp, .int 0, .int 0, .int 1, .ref rf, .int 0]))] := hD
  refine lv_aload_n hx hb dX5_putClaim_12 rfl (lv_at hl 0 rfl) ?_
  refine lv_iconst (v := 0) hx hb dX5_putClaim_13 (by decide) ?_
  refine va_put (D := (dC, dI)) (ci := 6) (v := .int 0) (ty := .boolean) (C := RX5) (T := TX5) (N := 12) hx hb hts in_c_putClaim_X5 tyX5 tyX5_ok nmX5 hown hK hP hD hS 0 rfl rfl 11 (by decide) (hts (.fieldLink RX5 42 "ClaimBus$Row" "firstIsWritten" "Z") (List.mem_of_getElem? (i := 2) rfl)) (fun _ h9 => h9) rfl (by decide +kernel) rfl rfl (Nat.le_of_ble_eq_true rfl) dX5_putClaim_14 (fun H locs hP hD hS => ?_)
  replace hP : va_P (dC, dI) vwCl [(r, .inr (6, [.int rh, .int rl, .ref st, .null, .null, .int hp, .int tp, .int 0, .int 0, .int 1, .ref rf, .int 0]))] H := hP
  replace hD : va_D A [(r, .inr (6, [.int rh, .int rl, .ref st, .null, .null, .int hp, .int tp, .int 0, .int 0, .int 1, .ref rf, .int 0]))] := hD
  have hP9 := hP.sub (ws' := [(r, .inr (6, [.int rh, .int rl, .ref st, .null, .null, .int hp, .int tp, .int 0, .int 0, .int 1, .ref rf, .int 0]))]) [0] rfl
  have hD9 := hD.sub (ws' := [(r, .inr (6, [.int rh, .int rl, .ref st, .null, .null, .int hp, .int tp, .int 0, .int 0, .int 1, .ref rf, .int 0]))]) [0] (by decide +kernel) rfl
  have hK9 := hK.sub (tys' := []) [] rfl
  exact W.vret hx hb hr (fun t ht hW => ⟨⟨(), rfl, trivial, ⟨by rw [ht]; exact hP9, va_K.moved hW.alike hK9, hD9⟩⟩, hS.F ht⟩) hS.2.2 dX5_putClaim_17

noncomputable def tl_c_put_n : List Cond := wsX50 ++ (wsX00 ++ (wsX30 ++ (v_c_lend_n ++ (v_c_X0_init ++ (v_c_lengthen)))))
noncomputable def v_c_put_n : List Cond := .code yX5_put cX5_put 8 none :: ([.fieldLink RX5 15 "ClaimBus$Row" "tail" "LClaimBus$Chunk;", .fieldLink RX5 51 "ClaimBus$Row" "store" "LClaimBus$Store;", .initialized RX7, .methodLink RX5 57 yX7_lend, .instanceMethod yX7_lend, .selects RX7 yX7_lend yX7_lend, .classLink RX5 55 RX0, .instantiable RX0 2, .initialized RX0, .instanceMethod yX0_init, .initialized RX5, .methodLink RX5 64 yX5_lengthen, .instanceMethod yX5_lengthen, .selects RX5 yX5_lengthen yX5_lengthen, .fieldLink RX5 68 "ClaimBus$Message" "index" "I", .fieldLink RX5 22 "ClaimBus$Row" "tailPlace" "I", .fieldLink RX5 73 "ClaimBus$Chunk" "entries" "[J", .constantLong RX5 77 (4294967295), .fieldLink RX5 25 "ClaimBus$Row" "frames" "I"] ++ tl_c_put_n)
theorem it_c_put_n : ∀ w ∈ tl_c_put_n, w ∈ v_c_put_n := fun w h => List.mem_cons_of_mem _ (List.mem_append_right _ h)
theorem in_c_put_n_X5 : ∀ w ∈ wsX50, w ∈ v_c_put_n := fun w h => it_c_put_n w (List.mem_append_left _ h)
theorem in_c_put_n_X0 : ∀ w ∈ wsX00, w ∈ v_c_put_n := fun w h => it_c_put_n w (List.mem_append_right _ (List.mem_append_left _ h))
theorem in_c_put_n_X3 : ∀ w ∈ wsX30, w ∈ v_c_put_n := fun w h => it_c_put_n w (List.mem_append_right _ (List.mem_append_right _ (List.mem_append_left _ h)))
theorem ic_c_put_n_c_lend_n : ∀ w ∈ v_c_lend_n, w ∈ v_c_put_n := fun w h => it_c_put_n w (List.mem_append_right _ (List.mem_append_right _ (List.mem_append_right _ (List.mem_append_left _ h))))
theorem ic_c_put_n_c_X0_init : ∀ w ∈ v_c_X0_init, w ∈ v_c_put_n := fun w h => it_c_put_n w (List.mem_append_right _ (List.mem_append_right _ (List.mem_append_right _ (List.mem_append_right _ (List.mem_append_left _ h)))))
theorem ic_c_put_n_c_lengthen : ∀ w ∈ v_c_lengthen, w ∈ v_c_put_n := fun w h => it_c_put_n w (List.mem_append_right _ (List.mem_append_right _ (List.mem_append_right _ (List.mem_append_right _ (List.mem_append_right _ (h))))))
theorem gt_c_put_n : ∀ w ∈ tl_c_put_n, goodWord w = true := List.forall_mem_append.mpr ⟨gw_wsX50, List.forall_mem_append.mpr ⟨gw_wsX00, List.forall_mem_append.mpr ⟨gw_wsX30, List.forall_mem_append.mpr ⟨gw_c_lend_n, List.forall_mem_append.mpr ⟨gw_c_X0_init, gw_c_lengthen⟩⟩⟩⟩⟩
theorem gw_c_put_n : ∀ w ∈ v_c_put_n, goodWord w = true := List.forall_mem_cons.mpr ⟨by decide +kernel, List.forall_mem_append.mpr ⟨List.all_eq_true.mp (by decide +kernel), gt_c_put_n⟩⟩
theorem g_c_put_n_c_lend_n_57 : GoodIn v_c_put_n (wsV RX5 57 RX7 yX7_lend v_c_lend_n) := goodIn_app (goodIn_r [.methodLink RX5 57 yX7_lend, .instanceMethod yX7_lend, .selects RX7 yX7_lend yX7_lend, .initialized RX7] [4, 5, 6, 3] (by decide +kernel) (by decide +kernel)) (fun w h => ⟨ic_c_put_n_c_lend_n w h, good_of_word (gw_c_lend_n w h)⟩)
theorem g_c_put_n_c_X0_init_63 : GoodIn v_c_put_n v_c_X0_init := fun w h => ⟨ic_c_put_n_c_X0_init w h, good_of_word (gw_c_X0_init w h)⟩
theorem g_c_put_n_c_lengthen_64 : GoodIn v_c_put_n (wsV RX5 64 RX5 yX5_lengthen v_c_lengthen) := goodIn_app (goodIn_r [.methodLink RX5 64 yX5_lengthen, .instanceMethod yX5_lengthen, .selects RX5 yX5_lengthen yX5_lengthen, .initialized RX5] [12, 13, 14, 11] (by decide +kernel) (by decide +kernel)) (fun w h => ⟨ic_c_put_n_c_lengthen w h, good_of_word (gw_c_lengthen w h)⟩)
set_option maxHeartbeats 4000000 in
set_option maxRecDepth 100000 in
/-- Row.put on an empty row -/
theorem c_put_n (l : Launch) (dC : Nat → ClassId) (dI : Nat → Nat → Nat) (r : Nat) (rh : Int32) (rl : Int32) (st : Nat) (rf : Nat) (hp : Int32) (tp : Int32) (ml : Nat) (mm : Nat) (mi : Nat) (mt : Nat) (mg : Nat) (ms : Nat) (sd : Int32) (to : Nat) (ki : Nat) (se : Nat) (th : Nat) (sz : Nat) (h_to : to < 256) (h_ki : ki < 256) (h_se : se < 256) (h_th : th < 256) (hmi : mi < 8) (hki : ki ≠ 235) : Met l yX5_put v_c_put_n ({ frames := 2, cells := 2, slots := 130, locals := 33 }) (va_Pc [.ref r, .ref mm, .int (nI to), .int (nI ki), .int (nI se), .int (nI th)] (fun U => U.heap.size = sz ∧ va_P (dC, dI) vwCl [(r, .inr (6, [.int rh, .int rl, .ref st, .null, .null, .int hp, .int tp, .int 0, .int 0, .int 0, .ref rf, .int 0])), (st, .inr (8, [.ref ml, .null])), (mm, .inr (4, [.int (nI mi), .int (nI mt), .int (nI mg), .int (nI ms), .int sd, .null]))] U.heap ∧ va_K (dC, dI) vwCl [] U ∧ va_D (fun _ => True) [(r, .inr (6, [.int rh, .int rl, .ref st, .null, .null, .int hp, .int tp, .int 0, .int 0, .int 0, .ref rf, .int 0])), (st, .inr (8, [.ref ml, .null])), (mm, .inr (4, [.int (nI mi), .int (nI mt), .int (nI mg), .int (nI ms), .int sd, .null]))] ∧ ev U)) (va_Qv (fun _ : Unit => True) (fun (_ : Unit) (t : State) => ∃ (ck : Nat) (ce : Nat) (cJ : ClassId) (fE2 : Nat → Int64), va_P (dC, dI) vwCl [(r, .inr (6, [.int rh, .int rl, .ref st, .ref ck, .ref ck, .int 0, .int 1, .int 1, .int 0, .int 0, .ref rf, .int 0])), (st, .inr (8, [.ref ml, .null])), (ck, .inr (1, [.ref ce, .null])), (ce, .inl (cJ, 128, .inr (.inl fE2))), (mm, .inr (4, [.int (nI mi), .int (nI mt), .int (nI mg), .int (nI ms), .int sd, .null]))] t.heap ∧ va_K (dC, dI) vwCl [(cJ, .long)] t ∧ va_D (va_A [(r, .inr (6, [.int rh, .int rl, .ref st, .null, .null, .int hp, .int tp, .int 0, .int 0, .int 0, .ref rf, .int 0])), (st, .inr (8, [.ref ml, .null])), (mm, .inr (4, [.int (nI mi), .int (nI mt), .int (nI mg), .int (nI ms), .int sd, .null]))] sz) [(r, .inr (6, [.int rh, .int rl, .ref st, .ref ck, .ref ck, .int 0, .int 1, .int 1, .int 0, .int 0, .ref rf, .int 0])), (st, .inr (8, [.ref ml, .null])), (ck, .inr (1, [.ref ce, .null])), (ce, .inl (cJ, 128, .inr (.inl fE2))), (mm, .inr (4, [.int (nI mi), .int (nI mt), .int (nI mg), .int (nI ms), .int sd, .null]))] ∧ ((fE2 0).toInt32 = (nI (16777216 * to + 65536 * ki + 256 * se + th))) ∧ ((fE2 0 >>> ((32 : Int32).toInt64 &&& 63)).toInt32 = (nI mi))) (va_A [(r, .inr (6, [.int rh, .int rl, .ref st, .null, .null, .int hp, .int tp, .int 0, .int 0, .int 0, .ref rf, .int 0])), (st, .inr (8, [.ref ml, .null])), (mm, .inr (4, [.int (nI mi), .int (nI mt), .int (nI mg), .int (nI ms), .int sd, .null]))] sz)) 2 130 (va_A [(r, .inr (6, [.int rh, .int rl, .ref st, .null, .null, .int hp, .int tp, .int 0, .int 0, .int 0, .ref rf, .int 0])), (st, .inr (8, [.ref ml, .null])), (mm, .inr (4, [.int (nI mi), .int (nI mt), .int (nI mg), .int (nI ms), .int sd, .null]))] sz) := by
  refine Met.ofW (cc := cX5_put) (maxL := 8) (ret := none) (by decide) rfl ?_
  intro p e s m args below meth c s₁ B hml hv
  obtain ⟨rfl, hsz, hP, hK, hD0, hE⟩ := hv
  have hx := B.exec
  have hb := B.bytes
  have hr := B.returns
  have hts := atoms_spec (ws := v_c_put_n) B.pre
  have hown : s.vm.findClass RX5 = some m.cls := findClass_of_methodNamed B.named
  have hlocks := B.notSynchronized
  subst hsz
  have hD := hD0.self (sz := s.heap.size)
  generalize hAe : va_A [(r, .inr (6, [.int rh, .int rl, .ref st, .null, .null, .int hp, .int tp, .int 0, .int 0, .int 0, .ref rf, .int 0])), (st, .inr (8, [.ref ml, .null])), (mm, .inr (4, [.int (nI mi), .int (nI mt), .int (nI mg), .int (nI ms), .int sd, .null]))] s.heap.size = A at hD ⊢
  have hA : ∀ q : Nat, s.heap.size ≤ q → A q := fun q h => by rw [← hAe]; exact Or.inr h
  have hS : va_S A s.heap s.heap [] := va_S.rf
  replace hP : va_P (dC, dI) vwCl [(r, .inr (6, [.int rh, .int rl, .ref st, .null, .null, .int hp, .int tp, .int 0, .int 0, .int 0, .ref rf, .int 0])), (st, .inr (8, [.ref ml, .null])), (mm, .inr (4, [.int (nI mi), .int (nI mt), .int (nI mg), .int (nI ms), .int sd, .null]))] s.heap := hP
  have hl := lv_entry ([.ref r, .ref mm, .int (nI to), .int (nI ki), .int (nI se), .int (nI th)]) (n := 8) (Nat.le_of_ble_eq_true rfl)
  rw [lg_entry_eq]
  generalize (lg_sl ([.ref r, .ref mm, .int (nI to), .int (nI ki), .int (nI se), .int (nI th)]) ++ List.replicate (8 - (lg_sl ([.ref r, .ref mm, .int (nI to), .int (nI ki), .int (nI se), .int (nI th)])).length) Slot.unset).toArray = ls at hl ⊢
  replace hl : lv_has ls 8 [(0, .ref r), (1, .ref mm), (2, .int (nI to)), (3, .int (nI ki)), (4, .int (nI se)), (5, .int (nI th))] := hl
  obtain ⟨H, hH⟩ : ∃ z : Heap, z = s.heap := ⟨_, rfl⟩
  rw [← hH]
  replace hS : va_S A s.heap H [] := by rw [hH]; exact va_S.rf
  replace hP : va_P (dC, dI) vwCl [(r, .inr (6, [.int rh, .int rl, .ref st, .null, .null, .int hp, .int tp, .int 0, .int 0, .int 0, .ref rf, .int 0])), (st, .inr (8, [.ref ml, .null])), (mm, .inr (4, [.int (nI mi), .int (nI mt), .int (nI mg), .int (nI ms), .int sd, .null]))] H := by rw [hH]; exact hP
  clear hH
  refine lv_aload_n hx hb dX5_put_0 rfl (lv_at hl 0 rfl) ?_
  refine va_get (D := (dC, dI)) (ci := 6) (v := .null) (C := RX5) (T := TX5) (N := 12) hx hb hts in_c_put_n_X5 hown hK hP 0 rfl rfl 4 (by decide) (hts (.fieldLink RX5 15 "ClaimBus$Row" "tail" "LClaimBus$Chunk;") (List.mem_of_getElem? (i := 1) rfl)) (fun _ h9 => h9) rfl dX5_put_1 ?_
  refine lv_ifnullN (tgt := 17) hx hb dX5_put_4 (by decide) ?_
  refine lv_aload_n hx hb dX5_put_17 rfl (lv_at hl 0 rfl) ?_
  refine va_get (D := (dC, dI)) (ci := 6) (v := .ref st) (C := RX5) (T := TX5) (N := 12) hx hb hts in_c_put_n_X5 hown hK hP 0 rfl rfl 2 (by decide) (hts (.fieldLink RX5 51 "ClaimBus$Row" "store" "LClaimBus$Store;") (List.mem_of_getElem? (i := 2) rfl)) (fun _ h9 => h9) rfl dX5_put_18 ?_
  have hPc := hP.sub (ws' := [(st, .inr (8, [.ref ml, .null]))]) [1] rfl
  have hDc := hD.sub (ws' := [(st, .inr (8, [.ref ml, .null]))]) [1] (by decide +kernel) rfl
  have hKc := hK.sub (tys' := []) [] rfl
  have hFc := ro_free hS hA
  refine va_callq (va_runV (As := []) (rest := []) ⟨hx, hb, hml, hown, hts⟩ (c_lend_n l dC dI (st) (ml) H.size) (cwV 0 hts g_c_put_n_c_lend_n_57 rfl rfl rfl (by decide +kernel) ⟨Nat.le_of_ble_eq_true rfl, Nat.le_of_ble_eq_true rfl⟩) ⟨fun a U g mk q => by obtain ⟨q0, q1, qP, qK, qD, qE⟩ := q; exact ⟨q0, q1, qP, va_K.moved (u := U) (U := U.calling g mk a) (Vm.Alike.refl U.vm) qK, qD, ev.same (u := U) (U := U.calling g mk a) rfl qE⟩, va_recv hKc hPc (ci := 8) (q0 := 0) rfl rfl, fun U hU hW => ⟨rfl, by rw [hU], by rw [hU]; exact hPc, va_K.moved hW.alike hKc, hDc.weaken (fun _ _ _ _ => trivial), hE.warm hW⟩⟩ rfl rfl hl.1 rfl (lv_room (Nat.le_of_ble_eq_true rfl)) dX5_put_21 ⟨Nat.le_of_ble_eq_true rfl, Nat.le_of_ble_eq_true rfl⟩) hS (fun q _ h => hFc q h) hFc (fun r_1 u t H1 locs ht hvm hw hB hz1 hk1 hS => ?_)
  clear hPc hDc hKc
  replace hP := ro_keep hP hk1
  generalize H1 = H at hP hS ⊢
  replace hP : va_P (dC, dI) vwCl [(r, .inr (6, [.int rh, .int rl, .ref st, .null, .null, .int hp, .int tp, .int 0, .int 0, .int 0, .ref rf, .int 0])), (st, .inr (8, [.ref ml, .null])), (mm, .inr (4, [.int (nI mi), .int (nI mt), .int (nI mg), .int (nI ms), .int sd, .null]))] H := hP
  have hw := hw.symm
  subst hw
  refine W.eq (g2 := F0 m 24 ls [.null]) rfl ?_
  refine lv_astoreN (lv' := [(6, .null), (0, .ref r), (1, .ref mm), (2, .int (nI to)), (3, .int (nI ki)), (4, .int (nI se)), (5, .int (nI th))]) hx hb dX5_put_24 hl (by decide) rfl (fun ls hl => ?_)
  refine lv_aload_n hx hb dX5_put_26 rfl (lv_at hl 1 rfl) ?_
  refine lv_aloadN hx hb dX5_put_27 (lv_at hl 0 rfl) ?_
  refine lv_ifnonnullN hx hb dX5_put_29 ?_
  refine va_new (ci := 1) (fs := [.null, .null]) (C := RX0) (T := TX0) (N := 2) hx hb hts in_c_put_n_X0 tyX0 tyX0_ok hown (hts (.classLink RX5 55 RX0) (List.mem_of_getElem? (i := 7) rfl)) (hts (.instantiable RX0 2) (List.mem_of_getElem? (i := 8) rfl)) (hts (.initialized RX0) (List.mem_of_getElem? (i := 9) rfl)) hK hP hD hS hA rfl df_X0 (Nat.le_of_ble_eq_true rfl) (Nat.le_of_ble_eq_true rfl) dX5_put_32 (fun q2 H hP hD hS => ?_)
  replace hP : va_P (dC, dI) vwCl [(r, .inr (6, [.int rh, .int rl, .ref st, .null, .null, .int hp, .int tp, .int 0, .int 0, .int 0, .ref rf, .int 0])), (st, .inr (8, [.ref ml, .null])), (mm, .inr (4, [.int (nI mi), .int (nI mt), .int (nI mg), .int (nI ms), .int sd, .null])), (q2, .inr (1, [.null, .null]))] H := hP
  replace hD : va_D A [(r, .inr (6, [.int rh, .int rl, .ref st, .null, .null, .int hp, .int tp, .int 0, .int 0, .int 0, .ref rf, .int 0])), (st, .inr (8, [.ref ml, .null])), (mm, .inr (4, [.int (nI mi), .int (nI mt), .int (nI mg), .int (nI ms), .int sd, .null])), (q2, .inr (1, [.null, .null]))] := hD
  refine W.widen (k := 1) (n := 2) (Nat.le_of_ble_eq_true rfl) (Nat.le_of_ble_eq_true rfl) ?_
  refine lv_dup hx hb dX5_put_35 rfl ?_
  have hPc := hP.sub (ws' := [(q2, .inr (1, [.null, .null]))]) [3] rfl
  have hDc := hD.sub (ws' := [(q2, .inr (1, [.null, .null]))]) [3] (by decide +kernel) rfl
  have hKc := hK.sub (tys' := []) [] rfl
  have hFc := va_free (wc := [(q2, .inr (1, [.null, .null]))]) hD hS hA [3] rfl
  refine va_callv (va_runIN (As := []) (rest := [.ref q2, .ref r]) ⟨hx, hb, hml, hown, hts⟩ (c_X0_init l dC dI (q2) H.size) ⟨va_cnB 0 hts g_c_put_n_c_X0_init_63 rfl rfl rfl hE.n6 (hts (.initialized RX0) (List.mem_of_getElem? (i := 9) rfl)) (by decide +kernel) ⟨Nat.le_of_ble_eq_true rfl, Nat.le_of_ble_eq_true rfl⟩, rfl, (hts (.instanceMethod yX0_init) (List.mem_of_getElem? (i := 10) rfl))⟩ ⟨fun a U g mk q => by obtain ⟨q0, q1, qP, qK, qD, qE⟩ := q; exact ⟨q0, q1, qP, va_K.moved (u := U) (U := U.calling g mk a) (Vm.Alike.refl U.vm) qK, qD, ev.same (u := U) (U := U.calling g mk a) rfl qE⟩, fun U hU hW => ⟨rfl, by rw [hU], by rw [hU]; exact hPc, va_K.moved hW.alike hKc, hDc.weaken (fun _ _ _ _ => trivial), hE.warm hW⟩⟩ rfl rfl hl.1 rfl (lv_room (Nat.le_of_ble_eq_true rfl)) dX5_put_36 ⟨Nat.le_of_ble_eq_true rfl, Nat.le_of_ble_eq_true rfl⟩) hS (fun q _ h => hFc q h) hFc (fun u t H1 locs ht hvm hw hB hz1 hk1 hS => ?_)
  clear hPc hDc hKc
  obtain ⟨ce_3, cJ_3, hP1, hK1, hD1⟩ := hB
  rw [ht] at hP1
  have hK1 := va_K.moved hvm.symm hK1
  obtain ⟨hP, hD⟩ := va_join (wr := [(r, .inr (6, [.int rh, .int rl, .ref st, .null, .null, .int hp, .int tp, .int 0, .int 0, .int 0, .ref rf, .int 0])), (st, .inr (8, [.ref ml, .null])), (mm, .inr (4, [.int (nI mi), .int (nI mt), .int (nI mg), .int (nI ms), .int sd, .null]))]) (w1 := [(q2, .inr (1, [.ref ce_3, .null])), (ce_3, .inl (cJ_3, 128, .inr (.inl (fun _ => 0))))]) hP hD [3] [0, 1, 2] rfl rfl (by decide +kernel) (by decide +kernel) hk1 hFc hP1 hD1
  replace hK := hK.app hK1
  replace hK : va_K (dC, dI) vwCl [(cJ_3, .long)] s := hK
  generalize H1 = H at hP hS ⊢
  replace hP : va_P (dC, dI) vwCl [(r, .inr (6, [.int rh, .int rl, .ref st, .null, .null, .int hp, .int tp, .int 0, .int 0, .int 0, .ref rf, .int 0])), (st, .inr (8, [.ref ml, .null])), (mm, .inr (4, [.int (nI mi), .int (nI mt), .int (nI mg), .int (nI ms), .int sd, .null])), (q2, .inr (1, [.ref ce_3, .null])), (ce_3, .inl (cJ_3, 128, .inr (.inl (fun _ => 0))))] H := hP
  replace hD : va_D A [(r, .inr (6, [.int rh, .int rl, .ref st, .null, .null, .int hp, .int tp, .int 0, .int 0, .int 0, .ref rf, .int 0])), (st, .inr (8, [.ref ml, .null])), (mm, .inr (4, [.int (nI mi), .int (nI mt), .int (nI mg), .int (nI ms), .int sd, .null])), (q2, .inr (1, [.ref ce_3, .null])), (ce_3, .inl (cJ_3, 128, .inr (.inl (fun _ => 0))))] := hD
  refine W.widen (k := 2) (n := 130) (Nat.le_of_ble_eq_true rfl) (Nat.le_of_ble_eq_true rfl) ?_
  clear hw
  refine lv_goto (tgt := 44) hx hb dX5_put_39 (by decide) ?_
  have hPc := hP.sub (ws' := [(r, .inr (6, [.int rh, .int rl, .ref st, .null, .null, .int hp, .int tp, .int 0, .int 0, .int 0, .ref rf, .int 0]))]) [0] rfl
  have hDc := hD.sub (ws' := [(r, .inr (6, [.int rh, .int rl, .ref st, .null, .null, .int hp, .int tp, .int 0, .int 0, .int 0, .ref rf, .int 0]))]) [0] (by decide +kernel) rfl
  have hKc := hK.sub (tys' := []) [] rfl
  have hFc := va_free (wc := [(r, .inr (6, [.int rh, .int rl, .ref st, .null, .null, .int hp, .int tp, .int 0, .int 0, .int 0, .ref rf, .int 0]))]) hD hS hA [0] rfl
  refine va_callv (va_runV (As := [.ref q2]) (rest := []) ⟨hx, hb, hml, hown, hts⟩ (c_lengthen l dC dI (r) (rh) (rl) (st) (rf) (hp) (tp) (q2) H.size) (cwV 1 hts g_c_put_n_c_lengthen_64 rfl rfl rfl (by decide +kernel) ⟨Nat.le_of_ble_eq_true rfl, Nat.le_of_ble_eq_true rfl⟩) ⟨fun a U g mk q => by obtain ⟨q0, q1, qP, qK, qD, qE⟩ := q; exact ⟨q0, q1, qP, va_K.moved (u := U) (U := U.calling g mk a) (Vm.Alike.refl U.vm) qK, qD, ev.same (u := U) (U := U.calling g mk a) rfl qE⟩, va_recv hKc hPc (ci := 6) (q0 := 0) rfl rfl, fun U hU hW => ⟨rfl, by rw [hU], by rw [hU]; exact hPc, va_K.moved hW.alike hKc, hDc.weaken (fun _ _ _ _ => trivial), hE.warm hW⟩⟩ rfl rfl hl.1 rfl (lv_room (Nat.le_of_ble_eq_true rfl)) dX5_put_44 ⟨Nat.le_of_ble_eq_true rfl, Nat.le_of_ble_eq_true rfl⟩) hS (fun q _ h => hFc q h) hFc (fun u t H1 locs ht hvm hw hB hz1 hk1 hS => ?_)
  clear hPc hDc hKc
  obtain ⟨hP1, hK1, hD1⟩ := hB
  rw [ht] at hP1
  have hK1 := va_K.moved hvm.symm hK1
  obtain ⟨hP, hD⟩ := va_join (wr := [(st, .inr (8, [.ref ml, .null])), (mm, .inr (4, [.int (nI mi), .int (nI mt), .int (nI mg), .int (nI ms), .int sd, .null])), (q2, .inr (1, [.ref ce_3, .null])), (ce_3, .inl (cJ_3, 128, .inr (.inl (fun _ => 0))))]) (w1 := [(r, .inr (6, [.int rh, .int rl, .ref st, .ref q2, .ref q2, .int 0, .int 0, .int 0, .int 0, .int 0, .ref rf, .int 0]))]) hP hD [0] [1, 2, 3, 4] rfl rfl (by decide +kernel) (by decide +kernel) hk1 hFc hP1 hD1
  generalize H1 = H at hP hS ⊢
  replace hP : va_P (dC, dI) vwCl [(st, .inr (8, [.ref ml, .null])), (mm, .inr (4, [.int (nI mi), .int (nI mt), .int (nI mg), .int (nI ms), .int sd, .null])), (q2, .inr (1, [.ref ce_3, .null])), (ce_3, .inl (cJ_3, 128, .inr (.inl (fun _ => 0)))), (r, .inr (6, [.int rh, .int rl, .ref st, .ref q2, .ref q2, .int 0, .int 0, .int 0, .int 0, .int 0, .ref rf, .int 0]))] H := hP
  replace hD : va_D A [(st, .inr (8, [.ref ml, .null])), (mm, .inr (4, [.int (nI mi), .int (nI mt), .int (nI mg), .int (nI ms), .int sd, .null])), (q2, .inr (1, [.ref ce_3, .null])), (ce_3, .inl (cJ_3, 128, .inr (.inl (fun _ => 0)))), (r, .inr (6, [.int rh, .int rl, .ref st, .ref q2, .ref q2, .int 0, .int 0, .int 0, .int 0, .int 0, .ref rf, .int 0]))] := hD
  clear hw
  refine lv_aload_n hx hb dX5_put_47 rfl (lv_at hl 2 rfl) ?_
  refine lv_ifnonnull (tgt := 55) hx hb dX5_put_48 (by decide) ?_
  refine lv_aload_n hx hb dX5_put_55 rfl (lv_at hl 2 rfl) ?_
  refine va_get (D := (dC, dI)) (ci := 4) (v := .int (nI mi)) (C := RX3) (T := TX3) (N := 6) hx hb hts in_c_put_n_X3 hown hK hP 1 rfl rfl 0 (by decide) (hts (.fieldLink RX5 68 "ClaimBus$Message" "index" "I") (List.mem_of_getElem? (i := 15) rfl)) (fun _ h9 => h9) rfl dX5_put_56 ?_
  refine lv_istore (lv' := [(6, .int (nI mi)), (0, .ref r), (1, .ref mm), (2, .int (nI to)), (3, .int (nI ki)), (4, .int (nI se)), (5, .int (nI th))]) hx hb dX5_put_59 hl (by decide) rfl (fun ls hl => ?_)
  refine lv_iload_n hx hb dX5_put_61 rfl (lv_at hl 3 rfl) ?_
  refine lv_bipush (v := 24) hx hb dX5_put_62 (by decide) ?_
  refine lv_ishl hx hb dX5_put_64 ?_
  refine lv_topi (fun x_5 ex_5 => ?_)
  obtain rfl : x_5 = (nI (16777216 * to)) := ex_5.trans ((pk_shlN (n := to) ((24 : Int32) &&& 31) 24 (by decide) (by omega)).trans (show nI (to * 2 ^ 24) = nI (16777216 * to) from congrArg nI (by omega)))
  refine lv_iload_n hx hb dX5_put_65 rfl (lv_at hl 4 rfl) ?_
  refine lv_sipush (v := 255) hx hb dX5_put_66 (by decide) ?_
  refine lv_iand hx hb dX5_put_69 ?_
  refine lv_topi (fun x_6 ex_6 => ?_)
  obtain rfl : x_6 = (nI ki) := ex_6.trans ((pk_andN (n := ki) (m := 255) (by omega) 8 (by decide)).trans (show nI (ki % 2 ^ 8) = nI (ki) from congrArg nI (by omega)))
  refine lv_bipush (v := 16) hx hb dX5_put_70 (by decide) ?_
  refine lv_ishl hx hb dX5_put_72 ?_
  refine lv_topi (fun x_7 ex_7 => ?_)
  obtain rfl : x_7 = (nI (65536 * ki)) := ex_7.trans ((pk_shlN (n := ki) ((16 : Int32) &&& 31) 16 (by decide) (by omega)).trans (show nI (ki * 2 ^ 16) = nI (65536 * ki) from congrArg nI (by omega)))
  refine lv_ior hx hb dX5_put_73 ?_
  refine lv_topi (fun x_8 ex_8 => ?_)
  obtain rfl : x_8 = (nI (65536 * ki + 16777216 * to)) := ex_8.trans ((q_or (16777216 * to) (65536 * ki) 24 (by omega) (by omega) (by omega)).trans (show nI ((16777216 * to) + (65536 * ki)) = nI (65536 * ki + 16777216 * to) from congrArg nI (by omega)))
  refine lv_iload hx hb dX5_put_74 (lv_at hl 5 rfl) ?_
  refine lv_sipush (v := 255) hx hb dX5_put_76 (by decide) ?_
  refine lv_iand hx hb dX5_put_79 ?_
  refine lv_topi (fun x_9 ex_9 => ?_)
  obtain rfl : x_9 = (nI se) := ex_9.trans ((pk_andN (n := se) (m := 255) (by omega) 8 (by decide)).trans (show nI (se % 2 ^ 8) = nI (se) from congrArg nI (by omega)))
  refine lv_bipush (v := 8) hx hb dX5_put_80 (by decide) ?_
  refine lv_ishl hx hb dX5_put_82 ?_
  refine lv_topi (fun x_10 ex_10 => ?_)
  obtain rfl : x_10 = (nI (256 * se)) := ex_10.trans ((pk_shlN (n := se) ((8 : Int32) &&& 31) 8 (by decide) (by omega)).trans (show nI (se * 2 ^ 8) = nI (256 * se) from congrArg nI (by omega)))
  refine lv_ior hx hb dX5_put_83 ?_
  refine lv_topi (fun x_11 ex_11 => ?_)
  obtain rfl : x_11 = (nI (65536 * ki + 256 * se + 16777216 * to)) := ex_11.trans ((q_or (65536 * ki + 16777216 * to) (256 * se) 16 (by omega) (by omega) (by omega)).trans (show nI ((65536 * ki + 16777216 * to) + (256 * se)) = nI (65536 * ki + 256 * se + 16777216 * to) from congrArg nI (by omega)))
  refine lv_iload hx hb dX5_put_84 (lv_at hl 6 rfl) ?_
  refine lv_sipush (v := 255) hx hb dX5_put_86 (by decide) ?_
  refine lv_iand hx hb dX5_put_89 ?_
  refine lv_topi (fun x_12 ex_12 => ?_)
  obtain rfl : x_12 = (nI th) := ex_12.trans ((pk_andN (n := th) (m := 255) (by omega) 8 (by decide)).trans (show nI (th % 2 ^ 8) = nI (th) from congrArg nI (by omega)))
  refine lv_ior hx hb dX5_put_90 ?_
  refine lv_topi (fun x_13 ex_13 => ?_)
  obtain rfl : x_13 = (nI (65536 * ki + 256 * se + th + 16777216 * to)) := ex_13.trans ((q_or (65536 * ki + 256 * se + 16777216 * to) th 8 (by omega) (by omega) (by omega)).trans (show nI ((65536 * ki + 256 * se + 16777216 * to) + th) = nI (65536 * ki + 256 * se + th + 16777216 * to) from congrArg nI (by omega)))
  refine lv_istore (lv' := [(7, .int (nI (65536 * ki + 256 * se + th + 16777216 * to))), (6, .int (nI mi)), (0, .ref r), (1, .ref mm), (2, .int (nI to)), (3, .int (nI ki)), (4, .int (nI se)), (5, .int (nI th))]) hx hb dX5_put_91 hl (by decide) rfl (fun ls hl => ?_)
  refine lv_aload_n hx hb dX5_put_93 rfl (lv_at hl 2 rfl) ?_
  refine va_get (D := (dC, dI)) (ci := 6) (v := .ref q2) (C := RX5) (T := TX5) (N := 12) hx hb hts in_c_put_n_X5 hown hK hP 4 rfl rfl 4 (by decide) (hts (.fieldLink RX5 15 "ClaimBus$Row" "tail" "LClaimBus$Chunk;") (List.mem_of_getElem? (i := 1) rfl)) (fun _ h9 => h9) rfl dX5_put_94 ?_
  refine lv_ifnull hx hb dX5_put_97 ?_
  refine lv_aload_n hx hb dX5_put_100 rfl (lv_at hl 2 rfl) ?_
  refine va_get (D := (dC, dI)) (ci := 6) (v := .int 0) (C := RX5) (T := TX5) (N := 12) hx hb hts in_c_put_n_X5 hown hK hP 4 rfl rfl 6 (by decide) (hts (.fieldLink RX5 22 "ClaimBus$Row" "tailPlace" "I") (List.mem_of_getElem? (i := 16) rfl)) (fun _ h9 => h9) rfl dX5_put_101 ?_
  refine lv_if_lt (tgt := 180) hx hb dX5_put_104 (by decide) (fun c_14 => ?_) (fun c_14 => ?_)
  · exact absurd c_14 (by decide)
  refine lv_aload_n hx hb dX5_put_107 rfl (lv_at hl 2 rfl) ?_
  refine va_get (D := (dC, dI)) (ci := 6) (v := .int 0) (C := RX5) (T := TX5) (N := 12) hx hb hts in_c_put_n_X5 hown hK hP 4 rfl rfl 6 (by decide) (hts (.fieldLink RX5 22 "ClaimBus$Row" "tailPlace" "I") (List.mem_of_getElem? (i := 16) rfl)) (fun _ h9 => h9) rfl dX5_put_108 ?_
  refine lv_aload_n hx hb dX5_put_111 rfl (lv_at hl 2 rfl) ?_
  refine va_get (D := (dC, dI)) (ci := 6) (v := .ref q2) (C := RX5) (T := TX5) (N := 12) hx hb hts in_c_put_n_X5 hown hK hP 4 rfl rfl 4 (by decide) (hts (.fieldLink RX5 15 "ClaimBus$Row" "tail" "LClaimBus$Chunk;") (List.mem_of_getElem? (i := 1) rfl)) (fun _ h9 => h9) rfl dX5_put_112 ?_
  refine va_get (D := (dC, dI)) (ci := 1) (v := .ref ce_3) (C := RX0) (T := TX0) (N := 2) hx hb hts in_c_put_n_X0 hown hK hP 2 rfl rfl 0 (by decide) (hts (.fieldLink RX5 73 "ClaimBus$Chunk" "entries" "[J") (List.mem_of_getElem? (i := 17) rfl)) (fun _ h9 => h9) rfl dX5_put_115 ?_
  refine va_alen hx hb hK hP 3 0 rfl rfl (v := 128) rfl dX5_put_118 ?_
  refine lv_icmp_ge (tgt := 180) hx hb dX5_put_119 (by decide) (fun c_15 => ?_) (fun c_15 => ?_)
  · exact absurd c_15 (by decide)
  refine lv_aload_n hx hb dX5_put_122 rfl (lv_at hl 2 rfl) ?_
  refine va_get (D := (dC, dI)) (ci := 6) (v := .ref q2) (C := RX5) (T := TX5) (N := 12) hx hb hts in_c_put_n_X5 hown hK hP 4 rfl rfl 4 (by decide) (hts (.fieldLink RX5 15 "ClaimBus$Row" "tail" "LClaimBus$Chunk;") (List.mem_of_getElem? (i := 1) rfl)) (fun _ h9 => h9) rfl dX5_put_123 ?_
  refine va_get (D := (dC, dI)) (ci := 1) (v := .ref ce_3) (C := RX0) (T := TX0) (N := 2) hx hb hts in_c_put_n_X0 hown hK hP 2 rfl rfl 0 (by decide) (hts (.fieldLink RX5 73 "ClaimBus$Chunk" "entries" "[J") (List.mem_of_getElem? (i := 17) rfl)) (fun _ h9 => h9) rfl dX5_put_126 ?_
  refine lv_aload_n hx hb dX5_put_129 rfl (lv_at hl 2 rfl) ?_
  refine va_get (D := (dC, dI)) (ci := 6) (v := .int 0) (C := RX5) (T := TX5) (N := 12) hx hb hts in_c_put_n_X5 hown hK hP 4 rfl rfl 6 (by decide) (hts (.fieldLink RX5 22 "ClaimBus$Row" "tailPlace" "I") (List.mem_of_getElem? (i := 16) rfl)) (fun _ h9 => h9) rfl dX5_put_130 ?_
  refine lv_iload hx hb dX5_put_133 (lv_at hl 1 rfl) ?_
  refine lv_i2l hx hb dX5_put_135 rfl ?_
  refine lv_bipush (v := 32) hx hb dX5_put_136 (by decide) ?_
  refine lv_lshl hx hb dX5_put_138 rfl ?_
  refine lv_iload hx hb dX5_put_139 (lv_at hl 0 rfl) ?_
  refine lv_i2l hx hb dX5_put_141 rfl ?_
  refine lv_ldc2 hx hb hown (hts (.constantLong RX5 77 (4294967295)) (List.mem_of_getElem? (i := 18) rfl)) dX5_put_142 ?_
  refine lv_land hx hb dX5_put_145 ?_
  refine lv_lor hx hb dX5_put_146 ?_
  refine va_last hx hb hK hP hD hS 3 0 rfl rfl (vp_in_nI (n := 0) (by omega) (by omega)) dX5_put_147 (fun H locs hP hD hS => ?_)
  obtain ⟨f_16, ef_16⟩ : ∃ z : Nat → Int64, z = vp_updL (fun _ => 0) 0 (((((nI mi).toInt64) <<< ((32 : Int32).toInt64 &&& 63)) ||| (((nI (65536 * ki + 256 * se + th + 16777216 * to)).toInt64) &&& 4294967295))) := ⟨_, rfl⟩
  rw [(show Int32.toNatClampNeg (0 : Int32) = 0 by decide)] at hP hD
  replace hP : va_P (dC, dI) vwCl [(st, .inr (8, [.ref ml, .null])), (mm, .inr (4, [.int (nI mi), .int (nI mt), .int (nI mg), .int (nI ms), .int sd, .null])), (q2, .inr (1, [.ref ce_3, .null])), (ce_3, .inl (cJ_3, 128, .inr (.inl f_16))), (r, .inr (6, [.int rh, .int rl, .ref st, .ref q2, .ref q2, .int 0, .int 0, .int 0, .int 0, .int 0, .ref rf, .int 0]))] H := by rw [ef_16]; exact hP
  replace hD : va_D A [(st, .inr (8, [.ref ml, .null])), (mm, .inr (4, [.int (nI mi), .int (nI mt), .int (nI mg), .int (nI ms), .int sd, .null])), (q2, .inr (1, [.ref ce_3, .null])), (ce_3, .inl (cJ_3, 128, .inr (.inl f_16))), (r, .inr (6, [.int rh, .int rl, .ref st, .ref q2, .ref q2, .int 0, .int 0, .int 0, .int 0, .int 0, .ref rf, .int 0]))] := by rw [ef_16]; exact hD
  refine lv_aload_n hx hb dX5_put_148 rfl (lv_at hl 2 rfl) ?_
  refine lv_dup hx hb dX5_put_149 rfl ?_
  refine va_get (D := (dC, dI)) (ci := 6) (v := .int 0) (C := RX5) (T := TX5) (N := 12) hx hb hts in_c_put_n_X5 hown hK hP 4 rfl rfl 6 (by decide) (hts (.fieldLink RX5 22 "ClaimBus$Row" "tailPlace" "I") (List.mem_of_getElem? (i := 16) rfl)) (fun _ h9 => h9) rfl dX5_put_150 ?_
  refine lv_iconst (v := 1) hx hb dX5_put_153 (by decide) ?_
  refine lv_iadd hx hb dX5_put_154 ?_
  refine lv_topi (fun x_17 ex_17 => ?_)
  obtain rfl : x_17 = 1 := ex_17.trans (by decide)
  refine va_put (D := (dC, dI)) (ci := 6) (v := .int 1) (ty := .int) (C := RX5) (T := TX5) (N := 12) hx hb hts in_c_put_n_X5 tyX5 tyX5_ok nmX5 hown hK hP hD hS 4 rfl rfl 6 (by decide) (hts (.fieldLink RX5 22 "ClaimBus$Row" "tailPlace" "I") (List.mem_of_getElem? (i := 16) rfl)) (fun _ h9 => h9) rfl (by decide +kernel) rfl rfl (Nat.le_of_ble_eq_true rfl) dX5_put_155 (fun H locs hP hD hS => ?_)
  replace hP : va_P (dC, dI) vwCl [(st, .inr (8, [.ref ml, .null])), (mm, .inr (4, [.int (nI mi), .int (nI mt), .int (nI mg), .int (nI ms), .int sd, .null])), (q2, .inr (1, [.ref ce_3, .null])), (ce_3, .inl (cJ_3, 128, .inr (.inl f_16))), (r, .inr (6, [.int rh, .int rl, .ref st, .ref q2, .ref q2, .int 0, .int 1, .int 0, .int 0, .int 0, .ref rf, .int 0]))] H := hP
  replace hD : va_D A [(st, .inr (8, [.ref ml, .null])), (mm, .inr (4, [.int (nI mi), .int (nI mt), .int (nI mg), .int (nI ms), .int sd, .null])), (q2, .inr (1, [.ref ce_3, .null])), (ce_3, .inl (cJ_3, 128, .inr (.inl f_16))), (r, .inr (6, [.int rh, .int rl, .ref st, .ref q2, .ref q2, .int 0, .int 1, .int 0, .int 0, .int 0, .ref rf, .int 0]))] := hD
  refine lv_aload_n hx hb dX5_put_158 rfl (lv_at hl 2 rfl) ?_
  refine lv_dup hx hb dX5_put_159 rfl ?_
  refine va_get (D := (dC, dI)) (ci := 6) (v := .int 0) (C := RX5) (T := TX5) (N := 12) hx hb hts in_c_put_n_X5 hown hK hP 4 rfl rfl 7 (by decide) (hts (.fieldLink RX5 25 "ClaimBus$Row" "frames" "I") (List.mem_of_getElem? (i := 19) rfl)) (fun _ h9 => h9) rfl dX5_put_160 ?_
  refine lv_iload_n hx hb dX5_put_163 rfl (lv_at hl 5 rfl) ?_
  refine lv_sipush (v := 235) hx hb dX5_put_164 (by decide) ?_
  refine lv_icmp_ne (tgt := 175) hx hb dX5_put_167 (by decide) (fun c_18 => ?_) (fun c_18 => ?_)
  rotate_left
  · exact absurd ((nI_eq (a := ki) (b := 235) (by omega) (by omega)).mp c_18) (by omega)
  refine lv_iconst (v := 1) hx hb dX5_put_175 (by decide) ?_
  refine lv_iadd hx hb dX5_put_176 ?_
  refine lv_topi (fun x_19 ex_19 => ?_)
  obtain rfl : x_19 = 1 := ex_19.trans (by decide)
  refine va_put (D := (dC, dI)) (ci := 6) (v := .int 1) (ty := .int) (C := RX5) (T := TX5) (N := 12) hx hb hts in_c_put_n_X5 tyX5 tyX5_ok nmX5 hown hK hP hD hS 4 rfl rfl 7 (by decide) (hts (.fieldLink RX5 25 "ClaimBus$Row" "frames" "I") (List.mem_of_getElem? (i := 19) rfl)) (fun _ h9 => h9) rfl (by decide +kernel) rfl rfl (Nat.le_of_ble_eq_true rfl) dX5_put_177 (fun H locs hP hD hS => ?_)
  replace hP : va_P (dC, dI) vwCl [(st, .inr (8, [.ref ml, .null])), (mm, .inr (4, [.int (nI mi), .int (nI mt), .int (nI mg), .int (nI ms), .int sd, .null])), (q2, .inr (1, [.ref ce_3, .null])), (ce_3, .inl (cJ_3, 128, .inr (.inl f_16))), (r, .inr (6, [.int rh, .int rl, .ref st, .ref q2, .ref q2, .int 0, .int 1, .int 1, .int 0, .int 0, .ref rf, .int 0]))] H := hP
  replace hD : va_D A [(st, .inr (8, [.ref ml, .null])), (mm, .inr (4, [.int (nI mi), .int (nI mt), .int (nI mg), .int (nI ms), .int sd, .null])), (q2, .inr (1, [.ref ce_3, .null])), (ce_3, .inl (cJ_3, 128, .inr (.inl f_16))), (r, .inr (6, [.int rh, .int rl, .ref st, .ref q2, .ref q2, .int 0, .int 1, .int 1, .int 0, .int 0, .ref rf, .int 0]))] := hD
  have hP9 := hP.sub (ws' := [(r, .inr (6, [.int rh, .int rl, .ref st, .ref q2, .ref q2, .int 0, .int 1, .int 1, .int 0, .int 0, .ref rf, .int 0])), (st, .inr (8, [.ref ml, .null])), (q2, .inr (1, [.ref ce_3, .null])), (ce_3, .inl (cJ_3, 128, .inr (.inl f_16))), (mm, .inr (4, [.int (nI mi), .int (nI mt), .int (nI mg), .int (nI ms), .int sd, .null]))]) [4, 0, 2, 3, 1] rfl
  have hD9 := hD.sub (ws' := [(r, .inr (6, [.int rh, .int rl, .ref st, .ref q2, .ref q2, .int 0, .int 1, .int 1, .int 0, .int 0, .ref rf, .int 0])), (st, .inr (8, [.ref ml, .null])), (q2, .inr (1, [.ref ce_3, .null])), (ce_3, .inl (cJ_3, 128, .inr (.inl f_16))), (mm, .inr (4, [.int (nI mi), .int (nI mt), .int (nI mg), .int (nI ms), .int sd, .null]))]) [4, 0, 2, 3, 1] (by decide +kernel) rfl
  have hK9 := hK.sub (tys' := [(cJ_3, .long)]) [0] rfl
  exact W.vret hx hb hr (fun t ht hW => ⟨⟨(), rfl, trivial, ⟨q2, ce_3, cJ_3, f_16, by rw [ht]; exact hP9, va_K.moved hW.alike hK9, hD9, by rw [ef_16, show vp_updL (fun _ => 0) 0 (((((nI mi).toInt64) <<< ((32 : Int32).toInt64 &&& 63)) ||| (((nI (65536 * ki + 256 * se + th + 16777216 * to)).toInt64) &&& 4294967295))) 0 = ((((nI mi).toInt64) <<< ((32 : Int32).toInt64 &&& 63)) ||| (((nI (65536 * ki + 256 * se + th + 16777216 * to)).toInt64) &&& 4294967295)) from pk_uLs]; exact (ent_lo _ _).trans (congrArg nI (by omega)), by rw [ef_16, show vp_updL (fun _ => 0) 0 (((((nI mi).toInt64) <<< ((32 : Int32).toInt64 &&& 63)) ||| (((nI (65536 * ki + 256 * se + th + 16777216 * to)).toInt64) &&& 4294967295))) 0 = ((((nI mi).toInt64) <<< ((32 : Int32).toInt64 &&& 63)) ||| (((nI (65536 * ki + 256 * se + th + 16777216 * to)).toInt64) &&& 4294967295)) from pk_uLs]; exact ent_hi _ _⟩⟩, hS.F ht⟩) hS.2.2 dX5_put_180

noncomputable def tl_c_put_np : List Cond := wsX50 ++ (wsX00 ++ (wsX30 ++ (v_c_lend_n ++ (v_c_X0_init ++ (v_c_lengthen)))))
noncomputable def v_c_put_np : List Cond := .code yX5_put cX5_put 8 none :: ([.fieldLink RX5 15 "ClaimBus$Row" "tail" "LClaimBus$Chunk;", .fieldLink RX5 51 "ClaimBus$Row" "store" "LClaimBus$Store;", .initialized RX7, .methodLink RX5 57 yX7_lend, .instanceMethod yX7_lend, .selects RX7 yX7_lend yX7_lend, .classLink RX5 55 RX0, .instantiable RX0 2, .initialized RX0, .instanceMethod yX0_init, .initialized RX5, .methodLink RX5 64 yX5_lengthen, .instanceMethod yX5_lengthen, .selects RX5 yX5_lengthen yX5_lengthen, .fieldLink RX5 68 "ClaimBus$Message" "index" "I", .fieldLink RX5 22 "ClaimBus$Row" "tailPlace" "I", .fieldLink RX5 73 "ClaimBus$Chunk" "entries" "[J", .constantLong RX5 77 (4294967295), .fieldLink RX5 25 "ClaimBus$Row" "frames" "I"] ++ tl_c_put_np)
theorem it_c_put_np : ∀ w ∈ tl_c_put_np, w ∈ v_c_put_np := fun w h => List.mem_cons_of_mem _ (List.mem_append_right _ h)
theorem in_c_put_np_X5 : ∀ w ∈ wsX50, w ∈ v_c_put_np := fun w h => it_c_put_np w (List.mem_append_left _ h)
theorem in_c_put_np_X0 : ∀ w ∈ wsX00, w ∈ v_c_put_np := fun w h => it_c_put_np w (List.mem_append_right _ (List.mem_append_left _ h))
theorem in_c_put_np_X3 : ∀ w ∈ wsX30, w ∈ v_c_put_np := fun w h => it_c_put_np w (List.mem_append_right _ (List.mem_append_right _ (List.mem_append_left _ h)))
theorem ic_c_put_np_c_lend_n : ∀ w ∈ v_c_lend_n, w ∈ v_c_put_np := fun w h => it_c_put_np w (List.mem_append_right _ (List.mem_append_right _ (List.mem_append_right _ (List.mem_append_left _ h))))
theorem ic_c_put_np_c_X0_init : ∀ w ∈ v_c_X0_init, w ∈ v_c_put_np := fun w h => it_c_put_np w (List.mem_append_right _ (List.mem_append_right _ (List.mem_append_right _ (List.mem_append_right _ (List.mem_append_left _ h)))))
theorem ic_c_put_np_c_lengthen : ∀ w ∈ v_c_lengthen, w ∈ v_c_put_np := fun w h => it_c_put_np w (List.mem_append_right _ (List.mem_append_right _ (List.mem_append_right _ (List.mem_append_right _ (List.mem_append_right _ (h))))))
theorem gt_c_put_np : ∀ w ∈ tl_c_put_np, goodWord w = true := List.forall_mem_append.mpr ⟨gw_wsX50, List.forall_mem_append.mpr ⟨gw_wsX00, List.forall_mem_append.mpr ⟨gw_wsX30, List.forall_mem_append.mpr ⟨gw_c_lend_n, List.forall_mem_append.mpr ⟨gw_c_X0_init, gw_c_lengthen⟩⟩⟩⟩⟩
theorem gw_c_put_np : ∀ w ∈ v_c_put_np, goodWord w = true := List.forall_mem_cons.mpr ⟨by decide +kernel, List.forall_mem_append.mpr ⟨List.all_eq_true.mp (by decide +kernel), gt_c_put_np⟩⟩
theorem g_c_put_np_c_lend_n_57 : GoodIn v_c_put_np (wsV RX5 57 RX7 yX7_lend v_c_lend_n) := goodIn_app (goodIn_r [.methodLink RX5 57 yX7_lend, .instanceMethod yX7_lend, .selects RX7 yX7_lend yX7_lend, .initialized RX7] [4, 5, 6, 3] (by decide +kernel) (by decide +kernel)) (fun w h => ⟨ic_c_put_np_c_lend_n w h, good_of_word (gw_c_lend_n w h)⟩)
theorem g_c_put_np_c_X0_init_63 : GoodIn v_c_put_np v_c_X0_init := fun w h => ⟨ic_c_put_np_c_X0_init w h, good_of_word (gw_c_X0_init w h)⟩
theorem g_c_put_np_c_lengthen_64 : GoodIn v_c_put_np (wsV RX5 64 RX5 yX5_lengthen v_c_lengthen) := goodIn_app (goodIn_r [.methodLink RX5 64 yX5_lengthen, .instanceMethod yX5_lengthen, .selects RX5 yX5_lengthen yX5_lengthen, .initialized RX5] [12, 13, 14, 11] (by decide +kernel) (by decide +kernel)) (fun w h => ⟨ic_c_put_np_c_lengthen w h, good_of_word (gw_c_lengthen w h)⟩)
set_option maxHeartbeats 4000000 in
set_option maxRecDepth 100000 in
/-- Row.put on an empty row -/
theorem c_put_np (l : Launch) (dC : Nat → ClassId) (dI : Nat → Nat → Nat) (r : Nat) (rh : Int32) (rl : Int32) (st : Nat) (rf : Nat) (hp : Int32) (tp : Int32) (ml : Nat) (mm : Nat) (mi : Nat) (mt : Nat) (mg : Nat) (ms : Nat) (sd : Int32) (to : Nat) (ki : Nat) (se : Nat) (th : Nat) (sz : Nat) (h_to : to < 256) (h_ki : ki < 256) (h_se : se < 256) (h_th : th < 256) (hmi : mi < 8) (hki : ki = 235) : Met l yX5_put v_c_put_np ({ frames := 2, cells := 2, slots := 130, locals := 33 }) (va_Pc [.ref r, .ref mm, .int (nI to), .int (nI ki), .int (nI se), .int (nI th)] (fun U => U.heap.size = sz ∧ va_P (dC, dI) vwCl [(r, .inr (6, [.int rh, .int rl, .ref st, .null, .null, .int hp, .int tp, .int 0, .int 0, .int 0, .ref rf, .int 0])), (st, .inr (8, [.ref ml, .null])), (mm, .inr (4, [.int (nI mi), .int (nI mt), .int (nI mg), .int (nI ms), .int sd, .null]))] U.heap ∧ va_K (dC, dI) vwCl [] U ∧ va_D (fun _ => True) [(r, .inr (6, [.int rh, .int rl, .ref st, .null, .null, .int hp, .int tp, .int 0, .int 0, .int 0, .ref rf, .int 0])), (st, .inr (8, [.ref ml, .null])), (mm, .inr (4, [.int (nI mi), .int (nI mt), .int (nI mg), .int (nI ms), .int sd, .null]))] ∧ ev U)) (va_Qv (fun _ : Unit => True) (fun (_ : Unit) (t : State) => ∃ (ck : Nat) (ce : Nat) (cJ : ClassId) (fE2 : Nat → Int64), va_P (dC, dI) vwCl [(r, .inr (6, [.int rh, .int rl, .ref st, .ref ck, .ref ck, .int 0, .int 1, .int (nI se), .int 0, .int 0, .ref rf, .int 0])), (st, .inr (8, [.ref ml, .null])), (ck, .inr (1, [.ref ce, .null])), (ce, .inl (cJ, 128, .inr (.inl fE2))), (mm, .inr (4, [.int (nI mi), .int (nI mt), .int (nI mg), .int (nI ms), .int sd, .null]))] t.heap ∧ va_K (dC, dI) vwCl [(cJ, .long)] t ∧ va_D (va_A [(r, .inr (6, [.int rh, .int rl, .ref st, .null, .null, .int hp, .int tp, .int 0, .int 0, .int 0, .ref rf, .int 0])), (st, .inr (8, [.ref ml, .null])), (mm, .inr (4, [.int (nI mi), .int (nI mt), .int (nI mg), .int (nI ms), .int sd, .null]))] sz) [(r, .inr (6, [.int rh, .int rl, .ref st, .ref ck, .ref ck, .int 0, .int 1, .int (nI se), .int 0, .int 0, .ref rf, .int 0])), (st, .inr (8, [.ref ml, .null])), (ck, .inr (1, [.ref ce, .null])), (ce, .inl (cJ, 128, .inr (.inl fE2))), (mm, .inr (4, [.int (nI mi), .int (nI mt), .int (nI mg), .int (nI ms), .int sd, .null]))] ∧ ((fE2 0).toInt32 = (nI (16777216 * to + 65536 * ki + 256 * se + th))) ∧ ((fE2 0 >>> ((32 : Int32).toInt64 &&& 63)).toInt32 = (nI mi))) (va_A [(r, .inr (6, [.int rh, .int rl, .ref st, .null, .null, .int hp, .int tp, .int 0, .int 0, .int 0, .ref rf, .int 0])), (st, .inr (8, [.ref ml, .null])), (mm, .inr (4, [.int (nI mi), .int (nI mt), .int (nI mg), .int (nI ms), .int sd, .null]))] sz)) 2 130 (va_A [(r, .inr (6, [.int rh, .int rl, .ref st, .null, .null, .int hp, .int tp, .int 0, .int 0, .int 0, .ref rf, .int 0])), (st, .inr (8, [.ref ml, .null])), (mm, .inr (4, [.int (nI mi), .int (nI mt), .int (nI mg), .int (nI ms), .int sd, .null]))] sz) := by
  refine Met.ofW (cc := cX5_put) (maxL := 8) (ret := none) (by decide) rfl ?_
  intro p e s m args below meth c s₁ B hml hv
  obtain ⟨rfl, hsz, hP, hK, hD0, hE⟩ := hv
  have hx := B.exec
  have hb := B.bytes
  have hr := B.returns
  have hts := atoms_spec (ws := v_c_put_np) B.pre
  have hown : s.vm.findClass RX5 = some m.cls := findClass_of_methodNamed B.named
  have hlocks := B.notSynchronized
  subst hsz
  have hD := hD0.self (sz := s.heap.size)
  generalize hAe : va_A [(r, .inr (6, [.int rh, .int rl, .ref st, .null, .null, .int hp, .int tp, .int 0, .int 0, .int 0, .ref rf, .int 0])), (st, .inr (8, [.ref ml, .null])), (mm, .inr (4, [.int (nI mi), .int (nI mt), .int (nI mg), .int (nI ms), .int sd, .null]))] s.heap.size = A at hD ⊢
  have hA : ∀ q : Nat, s.heap.size ≤ q → A q := fun q h => by rw [← hAe]; exact Or.inr h
  have hS : va_S A s.heap s.heap [] := va_S.rf
  replace hP : va_P (dC, dI) vwCl [(r, .inr (6, [.int rh, .int rl, .ref st, .null, .null, .int hp, .int tp, .int 0, .int 0, .int 0, .ref rf, .int 0])), (st, .inr (8, [.ref ml, .null])), (mm, .inr (4, [.int (nI mi), .int (nI mt), .int (nI mg), .int (nI ms), .int sd, .null]))] s.heap := hP
  have hl := lv_entry ([.ref r, .ref mm, .int (nI to), .int (nI ki), .int (nI se), .int (nI th)]) (n := 8) (Nat.le_of_ble_eq_true rfl)
  rw [lg_entry_eq]
  generalize (lg_sl ([.ref r, .ref mm, .int (nI to), .int (nI ki), .int (nI se), .int (nI th)]) ++ List.replicate (8 - (lg_sl ([.ref r, .ref mm, .int (nI to), .int (nI ki), .int (nI se), .int (nI th)])).length) Slot.unset).toArray = ls at hl ⊢
  replace hl : lv_has ls 8 [(0, .ref r), (1, .ref mm), (2, .int (nI to)), (3, .int (nI ki)), (4, .int (nI se)), (5, .int (nI th))] := hl
  obtain ⟨H, hH⟩ : ∃ z : Heap, z = s.heap := ⟨_, rfl⟩
  rw [← hH]
  replace hS : va_S A s.heap H [] := by rw [hH]; exact va_S.rf
  replace hP : va_P (dC, dI) vwCl [(r, .inr (6, [.int rh, .int rl, .ref st, .null, .null, .int hp, .int tp, .int 0, .int 0, .int 0, .ref rf, .int 0])), (st, .inr (8, [.ref ml, .null])), (mm, .inr (4, [.int (nI mi), .int (nI mt), .int (nI mg), .int (nI ms), .int sd, .null]))] H := by rw [hH]; exact hP
  clear hH
  refine lv_aload_n hx hb dX5_put_0 rfl (lv_at hl 0 rfl) ?_
  refine va_get (D := (dC, dI)) (ci := 6) (v := .null) (C := RX5) (T := TX5) (N := 12) hx hb hts in_c_put_np_X5 hown hK hP 0 rfl rfl 4 (by decide) (hts (.fieldLink RX5 15 "ClaimBus$Row" "tail" "LClaimBus$Chunk;") (List.mem_of_getElem? (i := 1) rfl)) (fun _ h9 => h9) rfl dX5_put_1 ?_
  refine lv_ifnullN (tgt := 17) hx hb dX5_put_4 (by decide) ?_
  refine lv_aload_n hx hb dX5_put_17 rfl (lv_at hl 0 rfl) ?_
  refine va_get (D := (dC, dI)) (ci := 6) (v := .ref st) (C := RX5) (T := TX5) (N := 12) hx hb hts in_c_put_np_X5 hown hK hP 0 rfl rfl 2 (by decide) (hts (.fieldLink RX5 51 "ClaimBus$Row" "store" "LClaimBus$Store;") (List.mem_of_getElem? (i := 2) rfl)) (fun _ h9 => h9) rfl dX5_put_18 ?_
  have hPc := hP.sub (ws' := [(st, .inr (8, [.ref ml, .null]))]) [1] rfl
  have hDc := hD.sub (ws' := [(st, .inr (8, [.ref ml, .null]))]) [1] (by decide +kernel) rfl
  have hKc := hK.sub (tys' := []) [] rfl
  have hFc := ro_free hS hA
  refine va_callq (va_runV (As := []) (rest := []) ⟨hx, hb, hml, hown, hts⟩ (c_lend_n l dC dI (st) (ml) H.size) (cwV 0 hts g_c_put_np_c_lend_n_57 rfl rfl rfl (by decide +kernel) ⟨Nat.le_of_ble_eq_true rfl, Nat.le_of_ble_eq_true rfl⟩) ⟨fun a U g mk q => by obtain ⟨q0, q1, qP, qK, qD, qE⟩ := q; exact ⟨q0, q1, qP, va_K.moved (u := U) (U := U.calling g mk a) (Vm.Alike.refl U.vm) qK, qD, ev.same (u := U) (U := U.calling g mk a) rfl qE⟩, va_recv hKc hPc (ci := 8) (q0 := 0) rfl rfl, fun U hU hW => ⟨rfl, by rw [hU], by rw [hU]; exact hPc, va_K.moved hW.alike hKc, hDc.weaken (fun _ _ _ _ => trivial), hE.warm hW⟩⟩ rfl rfl hl.1 rfl (lv_room (Nat.le_of_ble_eq_true rfl)) dX5_put_21 ⟨Nat.le_of_ble_eq_true rfl, Nat.le_of_ble_eq_true rfl⟩) hS (fun q _ h => hFc q h) hFc (fun r_1 u t H1 locs ht hvm hw hB hz1 hk1 hS => ?_)
  clear hPc hDc hKc
  replace hP := ro_keep hP hk1
  generalize H1 = H at hP hS ⊢
  replace hP : va_P (dC, dI) vwCl [(r, .inr (6, [.int rh, .int rl, .ref st, .null, .null, .int hp, .int tp, .int 0, .int 0, .int 0, .ref rf, .int 0])), (st, .inr (8, [.ref ml, .null])), (mm, .inr (4, [.int (nI mi), .int (nI mt), .int (nI mg), .int (nI ms), .int sd, .null]))] H := hP
  have hw := hw.symm
  subst hw
  refine W.eq (g2 := F0 m 24 ls [.null]) rfl ?_
  refine lv_astoreN (lv' := [(6, .null), (0, .ref r), (1, .ref mm), (2, .int (nI to)), (3, .int (nI ki)), (4, .int (nI se)), (5, .int (nI th))]) hx hb dX5_put_24 hl (by decide) rfl (fun ls hl => ?_)
  refine lv_aload_n hx hb dX5_put_26 rfl (lv_at hl 1 rfl) ?_
  refine lv_aloadN hx hb dX5_put_27 (lv_at hl 0 rfl) ?_
  refine lv_ifnonnullN hx hb dX5_put_29 ?_
  refine va_new (ci := 1) (fs := [.null, .null]) (C := RX0) (T := TX0) (N := 2) hx hb hts in_c_put_np_X0 tyX0 tyX0_ok hown (hts (.classLink RX5 55 RX0) (List.mem_of_getElem? (i := 7) rfl)) (hts (.instantiable RX0 2) (List.mem_of_getElem? (i := 8) rfl)) (hts (.initialized RX0) (List.mem_of_getElem? (i := 9) rfl)) hK hP hD hS hA rfl df_X0 (Nat.le_of_ble_eq_true rfl) (Nat.le_of_ble_eq_true rfl) dX5_put_32 (fun q2 H hP hD hS => ?_)
  replace hP : va_P (dC, dI) vwCl [(r, .inr (6, [.int rh, .int rl, .ref st, .null, .null, .int hp, .int tp, .int 0, .int 0, .int 0, .ref rf, .int 0])), (st, .inr (8, [.ref ml, .null])), (mm, .inr (4, [.int (nI mi), .int (nI mt), .int (nI mg), .int (nI ms), .int sd, .null])), (q2, .inr (1, [.null, .null]))] H := hP
  replace hD : va_D A [(r, .inr (6, [.int rh, .int rl, .ref st, .null, .null, .int hp, .int tp, .int 0, .int 0, .int 0, .ref rf, .int 0])), (st, .inr (8, [.ref ml, .null])), (mm, .inr (4, [.int (nI mi), .int (nI mt), .int (nI mg), .int (nI ms), .int sd, .null])), (q2, .inr (1, [.null, .null]))] := hD
  refine W.widen (k := 1) (n := 2) (Nat.le_of_ble_eq_true rfl) (Nat.le_of_ble_eq_true rfl) ?_
  refine lv_dup hx hb dX5_put_35 rfl ?_
  have hPc := hP.sub (ws' := [(q2, .inr (1, [.null, .null]))]) [3] rfl
  have hDc := hD.sub (ws' := [(q2, .inr (1, [.null, .null]))]) [3] (by decide +kernel) rfl
  have hKc := hK.sub (tys' := []) [] rfl
  have hFc := va_free (wc := [(q2, .inr (1, [.null, .null]))]) hD hS hA [3] rfl
  refine va_callv (va_runIN (As := []) (rest := [.ref q2, .ref r]) ⟨hx, hb, hml, hown, hts⟩ (c_X0_init l dC dI (q2) H.size) ⟨va_cnB 0 hts g_c_put_np_c_X0_init_63 rfl rfl rfl hE.n6 (hts (.initialized RX0) (List.mem_of_getElem? (i := 9) rfl)) (by decide +kernel) ⟨Nat.le_of_ble_eq_true rfl, Nat.le_of_ble_eq_true rfl⟩, rfl, (hts (.instanceMethod yX0_init) (List.mem_of_getElem? (i := 10) rfl))⟩ ⟨fun a U g mk q => by obtain ⟨q0, q1, qP, qK, qD, qE⟩ := q; exact ⟨q0, q1, qP, va_K.moved (u := U) (U := U.calling g mk a) (Vm.Alike.refl U.vm) qK, qD, ev.same (u := U) (U := U.calling g mk a) rfl qE⟩, fun U hU hW => ⟨rfl, by rw [hU], by rw [hU]; exact hPc, va_K.moved hW.alike hKc, hDc.weaken (fun _ _ _ _ => trivial), hE.warm hW⟩⟩ rfl rfl hl.1 rfl (lv_room (Nat.le_of_ble_eq_true rfl)) dX5_put_36 ⟨Nat.le_of_ble_eq_true rfl, Nat.le_of_ble_eq_true rfl⟩) hS (fun q _ h => hFc q h) hFc (fun u t H1 locs ht hvm hw hB hz1 hk1 hS => ?_)
  clear hPc hDc hKc
  obtain ⟨ce_3, cJ_3, hP1, hK1, hD1⟩ := hB
  rw [ht] at hP1
  have hK1 := va_K.moved hvm.symm hK1
  obtain ⟨hP, hD⟩ := va_join (wr := [(r, .inr (6, [.int rh, .int rl, .ref st, .null, .null, .int hp, .int tp, .int 0, .int 0, .int 0, .ref rf, .int 0])), (st, .inr (8, [.ref ml, .null])), (mm, .inr (4, [.int (nI mi), .int (nI mt), .int (nI mg), .int (nI ms), .int sd, .null]))]) (w1 := [(q2, .inr (1, [.ref ce_3, .null])), (ce_3, .inl (cJ_3, 128, .inr (.inl (fun _ => 0))))]) hP hD [3] [0, 1, 2] rfl rfl (by decide +kernel) (by decide +kernel) hk1 hFc hP1 hD1
  replace hK := hK.app hK1
  replace hK : va_K (dC, dI) vwCl [(cJ_3, .long)] s := hK
  generalize H1 = H at hP hS ⊢
  replace hP : va_P (dC, dI) vwCl [(r, .inr (6, [.int rh, .int rl, .ref st, .null, .null, .int hp, .int tp, .int 0, .int 0, .int 0, .ref rf, .int 0])), (st, .inr (8, [.ref ml, .null])), (mm, .inr (4, [.int (nI mi), .int (nI mt), .int (nI mg), .int (nI ms), .int sd, .null])), (q2, .inr (1, [.ref ce_3, .null])), (ce_3, .inl (cJ_3, 128, .inr (.inl (fun _ => 0))))] H := hP
  replace hD : va_D A [(r, .inr (6, [.int rh, .int rl, .ref st, .null, .null, .int hp, .int tp, .int 0, .int 0, .int 0, .ref rf, .int 0])), (st, .inr (8, [.ref ml, .null])), (mm, .inr (4, [.int (nI mi), .int (nI mt), .int (nI mg), .int (nI ms), .int sd, .null])), (q2, .inr (1, [.ref ce_3, .null])), (ce_3, .inl (cJ_3, 128, .inr (.inl (fun _ => 0))))] := hD
  refine W.widen (k := 2) (n := 130) (Nat.le_of_ble_eq_true rfl) (Nat.le_of_ble_eq_true rfl) ?_
  clear hw
  refine lv_goto (tgt := 44) hx hb dX5_put_39 (by decide) ?_
  have hPc := hP.sub (ws' := [(r, .inr (6, [.int rh, .int rl, .ref st, .null, .null, .int hp, .int tp, .int 0, .int 0, .int 0, .ref rf, .int 0]))]) [0] rfl
  have hDc := hD.sub (ws' := [(r, .inr (6, [.int rh, .int rl, .ref st, .null, .null, .int hp, .int tp, .int 0, .int 0, .int 0, .ref rf, .int 0]))]) [0] (by decide +kernel) rfl
  have hKc := hK.sub (tys' := []) [] rfl
  have hFc := va_free (wc := [(r, .inr (6, [.int rh, .int rl, .ref st, .null, .null, .int hp, .int tp, .int 0, .int 0, .int 0, .ref rf, .int 0]))]) hD hS hA [0] rfl
  refine va_callv (va_runV (As := [.ref q2]) (rest := []) ⟨hx, hb, hml, hown, hts⟩ (c_lengthen l dC dI (r) (rh) (rl) (st) (rf) (hp) (tp) (q2) H.size) (cwV 1 hts g_c_put_np_c_lengthen_64 rfl rfl rfl (by decide +kernel) ⟨Nat.le_of_ble_eq_true rfl, Nat.le_of_ble_eq_true rfl⟩) ⟨fun a U g mk q => by obtain ⟨q0, q1, qP, qK, qD, qE⟩ := q; exact ⟨q0, q1, qP, va_K.moved (u := U) (U := U.calling g mk a) (Vm.Alike.refl U.vm) qK, qD, ev.same (u := U) (U := U.calling g mk a) rfl qE⟩, va_recv hKc hPc (ci := 6) (q0 := 0) rfl rfl, fun U hU hW => ⟨rfl, by rw [hU], by rw [hU]; exact hPc, va_K.moved hW.alike hKc, hDc.weaken (fun _ _ _ _ => trivial), hE.warm hW⟩⟩ rfl rfl hl.1 rfl (lv_room (Nat.le_of_ble_eq_true rfl)) dX5_put_44 ⟨Nat.le_of_ble_eq_true rfl, Nat.le_of_ble_eq_true rfl⟩) hS (fun q _ h => hFc q h) hFc (fun u t H1 locs ht hvm hw hB hz1 hk1 hS => ?_)
  clear hPc hDc hKc
  obtain ⟨hP1, hK1, hD1⟩ := hB
  rw [ht] at hP1
  have hK1 := va_K.moved hvm.symm hK1
  obtain ⟨hP, hD⟩ := va_join (wr := [(st, .inr (8, [.ref ml, .null])), (mm, .inr (4, [.int (nI mi), .int (nI mt), .int (nI mg), .int (nI ms), .int sd, .null])), (q2, .inr (1, [.ref ce_3, .null])), (ce_3, .inl (cJ_3, 128, .inr (.inl (fun _ => 0))))]) (w1 := [(r, .inr (6, [.int rh, .int rl, .ref st, .ref q2, .ref q2, .int 0, .int 0, .int 0, .int 0, .int 0, .ref rf, .int 0]))]) hP hD [0] [1, 2, 3, 4] rfl rfl (by decide +kernel) (by decide +kernel) hk1 hFc hP1 hD1
  generalize H1 = H at hP hS ⊢
  replace hP : va_P (dC, dI) vwCl [(st, .inr (8, [.ref ml, .null])), (mm, .inr (4, [.int (nI mi), .int (nI mt), .int (nI mg), .int (nI ms), .int sd, .null])), (q2, .inr (1, [.ref ce_3, .null])), (ce_3, .inl (cJ_3, 128, .inr (.inl (fun _ => 0)))), (r, .inr (6, [.int rh, .int rl, .ref st, .ref q2, .ref q2, .int 0, .int 0, .int 0, .int 0, .int 0, .ref rf, .int 0]))] H := hP
  replace hD : va_D A [(st, .inr (8, [.ref ml, .null])), (mm, .inr (4, [.int (nI mi), .int (nI mt), .int (nI mg), .int (nI ms), .int sd, .null])), (q2, .inr (1, [.ref ce_3, .null])), (ce_3, .inl (cJ_3, 128, .inr (.inl (fun _ => 0)))), (r, .inr (6, [.int rh, .int rl, .ref st, .ref q2, .ref q2, .int 0, .int 0, .int 0, .int 0, .int 0, .ref rf, .int 0]))] := hD
  clear hw
  refine lv_aload_n hx hb dX5_put_47 rfl (lv_at hl 2 rfl) ?_
  refine lv_ifnonnull (tgt := 55) hx hb dX5_put_48 (by decide) ?_
  refine lv_aload_n hx hb dX5_put_55 rfl (lv_at hl 2 rfl) ?_
  refine va_get (D := (dC, dI)) (ci := 4) (v := .int (nI mi)) (C := RX3) (T := TX3) (N := 6) hx hb hts in_c_put_np_X3 hown hK hP 1 rfl rfl 0 (by decide) (hts (.fieldLink RX5 68 "ClaimBus$Message" "index" "I") (List.mem_of_getElem? (i := 15) rfl)) (fun _ h9 => h9) rfl dX5_put_56 ?_
  refine lv_istore (lv' := [(6, .int (nI mi)), (0, .ref r), (1, .ref mm), (2, .int (nI to)), (3, .int (nI ki)), (4, .int (nI se)), (5, .int (nI th))]) hx hb dX5_put_59 hl (by decide) rfl (fun ls hl => ?_)
  refine lv_iload_n hx hb dX5_put_61 rfl (lv_at hl 3 rfl) ?_
  refine lv_bipush (v := 24) hx hb dX5_put_62 (by decide) ?_
  refine lv_ishl hx hb dX5_put_64 ?_
  refine lv_topi (fun x_5 ex_5 => ?_)
  obtain rfl : x_5 = (nI (16777216 * to)) := ex_5.trans ((pk_shlN (n := to) ((24 : Int32) &&& 31) 24 (by decide) (by omega)).trans (show nI (to * 2 ^ 24) = nI (16777216 * to) from congrArg nI (by omega)))
  refine lv_iload_n hx hb dX5_put_65 rfl (lv_at hl 4 rfl) ?_
  refine lv_sipush (v := 255) hx hb dX5_put_66 (by decide) ?_
  refine lv_iand hx hb dX5_put_69 ?_
  refine lv_topi (fun x_6 ex_6 => ?_)
  obtain rfl : x_6 = (nI ki) := ex_6.trans ((pk_andN (n := ki) (m := 255) (by omega) 8 (by decide)).trans (show nI (ki % 2 ^ 8) = nI (ki) from congrArg nI (by omega)))
  refine lv_bipush (v := 16) hx hb dX5_put_70 (by decide) ?_
  refine lv_ishl hx hb dX5_put_72 ?_
  refine lv_topi (fun x_7 ex_7 => ?_)
  obtain rfl : x_7 = (nI (65536 * ki)) := ex_7.trans ((pk_shlN (n := ki) ((16 : Int32) &&& 31) 16 (by decide) (by omega)).trans (show nI (ki * 2 ^ 16) = nI (65536 * ki) from congrArg nI (by omega)))
  refine lv_ior hx hb dX5_put_73 ?_
  refine lv_topi (fun x_8 ex_8 => ?_)
  obtain rfl : x_8 = (nI (65536 * ki + 16777216 * to)) := ex_8.trans ((q_or (16777216 * to) (65536 * ki) 24 (by omega) (by omega) (by omega)).trans (show nI ((16777216 * to) + (65536 * ki)) = nI (65536 * ki + 16777216 * to) from congrArg nI (by omega)))
  refine lv_iload hx hb dX5_put_74 (lv_at hl 5 rfl) ?_
  refine lv_sipush (v := 255) hx hb dX5_put_76 (by decide) ?_
  refine lv_iand hx hb dX5_put_79 ?_
  refine lv_topi (fun x_9 ex_9 => ?_)
  obtain rfl : x_9 = (nI se) := ex_9.trans ((pk_andN (n := se) (m := 255) (by omega) 8 (by decide)).trans (show nI (se % 2 ^ 8) = nI (se) from congrArg nI (by omega)))
  refine lv_bipush (v := 8) hx hb dX5_put_80 (by decide) ?_
  refine lv_ishl hx hb dX5_put_82 ?_
  refine lv_topi (fun x_10 ex_10 => ?_)
  obtain rfl : x_10 = (nI (256 * se)) := ex_10.trans ((pk_shlN (n := se) ((8 : Int32) &&& 31) 8 (by decide) (by omega)).trans (show nI (se * 2 ^ 8) = nI (256 * se) from congrArg nI (by omega)))
  refine lv_ior hx hb dX5_put_83 ?_
  refine lv_topi (fun x_11 ex_11 => ?_)
  obtain rfl : x_11 = (nI (65536 * ki + 256 * se + 16777216 * to)) := ex_11.trans ((q_or (65536 * ki + 16777216 * to) (256 * se) 16 (by omega) (by omega) (by omega)).trans (show nI ((65536 * ki + 16777216 * to) + (256 * se)) = nI (65536 * ki + 256 * se + 16777216 * to) from congrArg nI (by omega)))
  refine lv_iload hx hb dX5_put_84 (lv_at hl 6 rfl) ?_
  refine lv_sipush (v := 255) hx hb dX5_put_86 (by decide) ?_
  refine lv_iand hx hb dX5_put_89 ?_
  refine lv_topi (fun x_12 ex_12 => ?_)
  obtain rfl : x_12 = (nI th) := ex_12.trans ((pk_andN (n := th) (m := 255) (by omega) 8 (by decide)).trans (show nI (th % 2 ^ 8) = nI (th) from congrArg nI (by omega)))
  refine lv_ior hx hb dX5_put_90 ?_
  refine lv_topi (fun x_13 ex_13 => ?_)
  obtain rfl : x_13 = (nI (65536 * ki + 256 * se + th + 16777216 * to)) := ex_13.trans ((q_or (65536 * ki + 256 * se + 16777216 * to) th 8 (by omega) (by omega) (by omega)).trans (show nI ((65536 * ki + 256 * se + 16777216 * to) + th) = nI (65536 * ki + 256 * se + th + 16777216 * to) from congrArg nI (by omega)))
  refine lv_istore (lv' := [(7, .int (nI (65536 * ki + 256 * se + th + 16777216 * to))), (6, .int (nI mi)), (0, .ref r), (1, .ref mm), (2, .int (nI to)), (3, .int (nI ki)), (4, .int (nI se)), (5, .int (nI th))]) hx hb dX5_put_91 hl (by decide) rfl (fun ls hl => ?_)
  refine lv_aload_n hx hb dX5_put_93 rfl (lv_at hl 2 rfl) ?_
  refine va_get (D := (dC, dI)) (ci := 6) (v := .ref q2) (C := RX5) (T := TX5) (N := 12) hx hb hts in_c_put_np_X5 hown hK hP 4 rfl rfl 4 (by decide) (hts (.fieldLink RX5 15 "ClaimBus$Row" "tail" "LClaimBus$Chunk;") (List.mem_of_getElem? (i := 1) rfl)) (fun _ h9 => h9) rfl dX5_put_94 ?_
  refine lv_ifnull hx hb dX5_put_97 ?_
  refine lv_aload_n hx hb dX5_put_100 rfl (lv_at hl 2 rfl) ?_
  refine va_get (D := (dC, dI)) (ci := 6) (v := .int 0) (C := RX5) (T := TX5) (N := 12) hx hb hts in_c_put_np_X5 hown hK hP 4 rfl rfl 6 (by decide) (hts (.fieldLink RX5 22 "ClaimBus$Row" "tailPlace" "I") (List.mem_of_getElem? (i := 16) rfl)) (fun _ h9 => h9) rfl dX5_put_101 ?_
  refine lv_if_lt (tgt := 180) hx hb dX5_put_104 (by decide) (fun c_14 => ?_) (fun c_14 => ?_)
  · exact absurd c_14 (by decide)
  refine lv_aload_n hx hb dX5_put_107 rfl (lv_at hl 2 rfl) ?_
  refine va_get (D := (dC, dI)) (ci := 6) (v := .int 0) (C := RX5) (T := TX5) (N := 12) hx hb hts in_c_put_np_X5 hown hK hP 4 rfl rfl 6 (by decide) (hts (.fieldLink RX5 22 "ClaimBus$Row" "tailPlace" "I") (List.mem_of_getElem? (i := 16) rfl)) (fun _ h9 => h9) rfl dX5_put_108 ?_
  refine lv_aload_n hx hb dX5_put_111 rfl (lv_at hl 2 rfl) ?_
  refine va_get (D := (dC, dI)) (ci := 6) (v := .ref q2) (C := RX5) (T := TX5) (N := 12) hx hb hts in_c_put_np_X5 hown hK hP 4 rfl rfl 4 (by decide) (hts (.fieldLink RX5 15 "ClaimBus$Row" "tail" "LClaimBus$Chunk;") (List.mem_of_getElem? (i := 1) rfl)) (fun _ h9 => h9) rfl dX5_put_112 ?_
  refine va_get (D := (dC, dI)) (ci := 1) (v := .ref ce_3) (C := RX0) (T := TX0) (N := 2) hx hb hts in_c_put_np_X0 hown hK hP 2 rfl rfl 0 (by decide) (hts (.fieldLink RX5 73 "ClaimBus$Chunk" "entries" "[J") (List.mem_of_getElem? (i := 17) rfl)) (fun _ h9 => h9) rfl dX5_put_115 ?_
  refine va_alen hx hb hK hP 3 0 rfl rfl (v := 128) rfl dX5_put_118 ?_
  refine lv_icmp_ge (tgt := 180) hx hb dX5_put_119 (by decide) (fun c_15 => ?_) (fun c_15 => ?_)
  · exact absurd c_15 (by decide)
  refine lv_aload_n hx hb dX5_put_122 rfl (lv_at hl 2 rfl) ?_
  refine va_get (D := (dC, dI)) (ci := 6) (v := .ref q2) (C := RX5) (T := TX5) (N := 12) hx hb hts in_c_put_np_X5 hown hK hP 4 rfl rfl 4 (by decide) (hts (.fieldLink RX5 15 "ClaimBus$Row" "tail" "LClaimBus$Chunk;") (List.mem_of_getElem? (i := 1) rfl)) (fun _ h9 => h9) rfl dX5_put_123 ?_
  refine va_get (D := (dC, dI)) (ci := 1) (v := .ref ce_3) (C := RX0) (T := TX0) (N := 2) hx hb hts in_c_put_np_X0 hown hK hP 2 rfl rfl 0 (by decide) (hts (.fieldLink RX5 73 "ClaimBus$Chunk" "entries" "[J") (List.mem_of_getElem? (i := 17) rfl)) (fun _ h9 => h9) rfl dX5_put_126 ?_
  refine lv_aload_n hx hb dX5_put_129 rfl (lv_at hl 2 rfl) ?_
  refine va_get (D := (dC, dI)) (ci := 6) (v := .int 0) (C := RX5) (T := TX5) (N := 12) hx hb hts in_c_put_np_X5 hown hK hP 4 rfl rfl 6 (by decide) (hts (.fieldLink RX5 22 "ClaimBus$Row" "tailPlace" "I") (List.mem_of_getElem? (i := 16) rfl)) (fun _ h9 => h9) rfl dX5_put_130 ?_
  refine lv_iload hx hb dX5_put_133 (lv_at hl 1 rfl) ?_
  refine lv_i2l hx hb dX5_put_135 rfl ?_
  refine lv_bipush (v := 32) hx hb dX5_put_136 (by decide) ?_
  refine lv_lshl hx hb dX5_put_138 rfl ?_
  refine lv_iload hx hb dX5_put_139 (lv_at hl 0 rfl) ?_
  refine lv_i2l hx hb dX5_put_141 rfl ?_
  refine lv_ldc2 hx hb hown (hts (.constantLong RX5 77 (4294967295)) (List.mem_of_getElem? (i := 18) rfl)) dX5_put_142 ?_
  refine lv_land hx hb dX5_put_145 ?_
  refine lv_lor hx hb dX5_put_146 ?_
  refine va_last hx hb hK hP hD hS 3 0 rfl rfl (vp_in_nI (n := 0) (by omega) (by omega)) dX5_put_147 (fun H locs hP hD hS => ?_)
  obtain ⟨f_16, ef_16⟩ : ∃ z : Nat → Int64, z = vp_updL (fun _ => 0) 0 (((((nI mi).toInt64) <<< ((32 : Int32).toInt64 &&& 63)) ||| (((nI (65536 * ki + 256 * se + th + 16777216 * to)).toInt64) &&& 4294967295))) := ⟨_, rfl⟩
  rw [(show Int32.toNatClampNeg (0 : Int32) = 0 by decide)] at hP hD
  replace hP : va_P (dC, dI) vwCl [(st, .inr (8, [.ref ml, .null])), (mm, .inr (4, [.int (nI mi), .int (nI mt), .int (nI mg), .int (nI ms), .int sd, .null])), (q2, .inr (1, [.ref ce_3, .null])), (ce_3, .inl (cJ_3, 128, .inr (.inl f_16))), (r, .inr (6, [.int rh, .int rl, .ref st, .ref q2, .ref q2, .int 0, .int 0, .int 0, .int 0, .int 0, .ref rf, .int 0]))] H := by rw [ef_16]; exact hP
  replace hD : va_D A [(st, .inr (8, [.ref ml, .null])), (mm, .inr (4, [.int (nI mi), .int (nI mt), .int (nI mg), .int (nI ms), .int sd, .null])), (q2, .inr (1, [.ref ce_3, .null])), (ce_3, .inl (cJ_3, 128, .inr (.inl f_16))), (r, .inr (6, [.int rh, .int rl, .ref st, .ref q2, .ref q2, .int 0, .int 0, .int 0, .int 0, .int 0, .ref rf, .int 0]))] := by rw [ef_16]; exact hD
  refine lv_aload_n hx hb dX5_put_148 rfl (lv_at hl 2 rfl) ?_
  refine lv_dup hx hb dX5_put_149 rfl ?_
  refine va_get (D := (dC, dI)) (ci := 6) (v := .int 0) (C := RX5) (T := TX5) (N := 12) hx hb hts in_c_put_np_X5 hown hK hP 4 rfl rfl 6 (by decide) (hts (.fieldLink RX5 22 "ClaimBus$Row" "tailPlace" "I") (List.mem_of_getElem? (i := 16) rfl)) (fun _ h9 => h9) rfl dX5_put_150 ?_
  refine lv_iconst (v := 1) hx hb dX5_put_153 (by decide) ?_
  refine lv_iadd hx hb dX5_put_154 ?_
  refine lv_topi (fun x_17 ex_17 => ?_)
  obtain rfl : x_17 = 1 := ex_17.trans (by decide)
  refine va_put (D := (dC, dI)) (ci := 6) (v := .int 1) (ty := .int) (C := RX5) (T := TX5) (N := 12) hx hb hts in_c_put_np_X5 tyX5 tyX5_ok nmX5 hown hK hP hD hS 4 rfl rfl 6 (by decide) (hts (.fieldLink RX5 22 "ClaimBus$Row" "tailPlace" "I") (List.mem_of_getElem? (i := 16) rfl)) (fun _ h9 => h9) rfl (by decide +kernel) rfl rfl (Nat.le_of_ble_eq_true rfl) dX5_put_155 (fun H locs hP hD hS => ?_)
  replace hP : va_P (dC, dI) vwCl [(st, .inr (8, [.ref ml, .null])), (mm, .inr (4, [.int (nI mi), .int (nI mt), .int (nI mg), .int (nI ms), .int sd, .null])), (q2, .inr (1, [.ref ce_3, .null])), (ce_3, .inl (cJ_3, 128, .inr (.inl f_16))), (r, .inr (6, [.int rh, .int rl, .ref st, .ref q2, .ref q2, .int 0, .int 1, .int 0, .int 0, .int 0, .ref rf, .int 0]))] H := hP
  replace hD : va_D A [(st, .inr (8, [.ref ml, .null])), (mm, .inr (4, [.int (nI mi), .int (nI mt), .int (nI mg), .int (nI ms), .int sd, .null])), (q2, .inr (1, [.ref ce_3, .null])), (ce_3, .inl (cJ_3, 128, .inr (.inl f_16))), (r, .inr (6, [.int rh, .int rl, .ref st, .ref q2, .ref q2, .int 0, .int 1, .int 0, .int 0, .int 0, .ref rf, .int 0]))] := hD
  refine lv_aload_n hx hb dX5_put_158 rfl (lv_at hl 2 rfl) ?_
  refine lv_dup hx hb dX5_put_159 rfl ?_
  refine va_get (D := (dC, dI)) (ci := 6) (v := .int 0) (C := RX5) (T := TX5) (N := 12) hx hb hts in_c_put_np_X5 hown hK hP 4 rfl rfl 7 (by decide) (hts (.fieldLink RX5 25 "ClaimBus$Row" "frames" "I") (List.mem_of_getElem? (i := 19) rfl)) (fun _ h9 => h9) rfl dX5_put_160 ?_
  refine lv_iload_n hx hb dX5_put_163 rfl (lv_at hl 5 rfl) ?_
  refine lv_sipush (v := 235) hx hb dX5_put_164 (by decide) ?_
  refine lv_icmp_ne (tgt := 175) hx hb dX5_put_167 (by decide) (fun c_18 => ?_) (fun c_18 => ?_)
  · exact absurd ((nI_eq (a := ki) (b := 235) (by omega) (by omega)).mpr (by omega)) c_18
  refine lv_iload hx hb dX5_put_170 (lv_at hl 6 rfl) ?_
  refine lv_goto (tgt := 176) hx hb dX5_put_172 (by decide) ?_
  refine lv_iadd hx hb dX5_put_176 ?_
  refine lv_topi (fun x_19 ex_19 => ?_)
  obtain rfl : x_19 = (nI se) := ex_19.trans ((nI_add 0 se).trans (show nI (0 + se) = nI (se) from congrArg nI (by omega)))
  refine va_put (D := (dC, dI)) (ci := 6) (v := .int (nI se)) (ty := .int) (C := RX5) (T := TX5) (N := 12) hx hb hts in_c_put_np_X5 tyX5 tyX5_ok nmX5 hown hK hP hD hS 4 rfl rfl 7 (by decide) (hts (.fieldLink RX5 25 "ClaimBus$Row" "frames" "I") (List.mem_of_getElem? (i := 19) rfl)) (fun _ h9 => h9) rfl (by decide +kernel) rfl rfl (Nat.le_of_ble_eq_true rfl) dX5_put_177 (fun H locs hP hD hS => ?_)
  replace hP : va_P (dC, dI) vwCl [(st, .inr (8, [.ref ml, .null])), (mm, .inr (4, [.int (nI mi), .int (nI mt), .int (nI mg), .int (nI ms), .int sd, .null])), (q2, .inr (1, [.ref ce_3, .null])), (ce_3, .inl (cJ_3, 128, .inr (.inl f_16))), (r, .inr (6, [.int rh, .int rl, .ref st, .ref q2, .ref q2, .int 0, .int 1, .int (nI se), .int 0, .int 0, .ref rf, .int 0]))] H := hP
  replace hD : va_D A [(st, .inr (8, [.ref ml, .null])), (mm, .inr (4, [.int (nI mi), .int (nI mt), .int (nI mg), .int (nI ms), .int sd, .null])), (q2, .inr (1, [.ref ce_3, .null])), (ce_3, .inl (cJ_3, 128, .inr (.inl f_16))), (r, .inr (6, [.int rh, .int rl, .ref st, .ref q2, .ref q2, .int 0, .int 1, .int (nI se), .int 0, .int 0, .ref rf, .int 0]))] := hD
  have hP9 := hP.sub (ws' := [(r, .inr (6, [.int rh, .int rl, .ref st, .ref q2, .ref q2, .int 0, .int 1, .int (nI se), .int 0, .int 0, .ref rf, .int 0])), (st, .inr (8, [.ref ml, .null])), (q2, .inr (1, [.ref ce_3, .null])), (ce_3, .inl (cJ_3, 128, .inr (.inl f_16))), (mm, .inr (4, [.int (nI mi), .int (nI mt), .int (nI mg), .int (nI ms), .int sd, .null]))]) [4, 0, 2, 3, 1] rfl
  have hD9 := hD.sub (ws' := [(r, .inr (6, [.int rh, .int rl, .ref st, .ref q2, .ref q2, .int 0, .int 1, .int (nI se), .int 0, .int 0, .ref rf, .int 0])), (st, .inr (8, [.ref ml, .null])), (q2, .inr (1, [.ref ce_3, .null])), (ce_3, .inl (cJ_3, 128, .inr (.inl f_16))), (mm, .inr (4, [.int (nI mi), .int (nI mt), .int (nI mg), .int (nI ms), .int sd, .null]))]) [4, 0, 2, 3, 1] (by decide +kernel) rfl
  have hK9 := hK.sub (tys' := [(cJ_3, .long)]) [0] rfl
  exact W.vret hx hb hr (fun t ht hW => ⟨⟨(), rfl, trivial, ⟨q2, ce_3, cJ_3, f_16, by rw [ht]; exact hP9, va_K.moved hW.alike hK9, hD9, by rw [ef_16, show vp_updL (fun _ => 0) 0 (((((nI mi).toInt64) <<< ((32 : Int32).toInt64 &&& 63)) ||| (((nI (65536 * ki + 256 * se + th + 16777216 * to)).toInt64) &&& 4294967295))) 0 = ((((nI mi).toInt64) <<< ((32 : Int32).toInt64 &&& 63)) ||| (((nI (65536 * ki + 256 * se + th + 16777216 * to)).toInt64) &&& 4294967295)) from pk_uLs]; exact (ent_lo _ _).trans (congrArg nI (by omega)), by rw [ef_16, show vp_updL (fun _ => 0) 0 (((((nI mi).toInt64) <<< ((32 : Int32).toInt64 &&& 63)) ||| (((nI (65536 * ki + 256 * se + th + 16777216 * to)).toInt64) &&& 4294967295))) 0 = ((((nI mi).toInt64) <<< ((32 : Int32).toInt64 &&& 63)) ||| (((nI (65536 * ki + 256 * se + th + 16777216 * to)).toInt64) &&& 4294967295)) from pk_uLs]; exact ent_hi _ _⟩⟩, hS.F ht⟩) hS.2.2 dX5_put_180

noncomputable def tl_c_put_c : List Cond := wsX50 ++ (wsX30 ++ (wsX00 ++ (v_c_lend_c ++ (v_c_lengthen))))
noncomputable def v_c_put_c : List Cond := .code yX5_put cX5_put 8 none :: ([.fieldLink RX5 15 "ClaimBus$Row" "tail" "LClaimBus$Chunk;", .fieldLink RX5 51 "ClaimBus$Row" "store" "LClaimBus$Store;", .initialized RX7, .methodLink RX5 57 yX7_lend, .instanceMethod yX7_lend, .selects RX7 yX7_lend yX7_lend, .initialized RX5, .methodLink RX5 64 yX5_lengthen, .instanceMethod yX5_lengthen, .selects RX5 yX5_lengthen yX5_lengthen, .fieldLink RX5 68 "ClaimBus$Message" "index" "I", .fieldLink RX5 22 "ClaimBus$Row" "tailPlace" "I", .fieldLink RX5 73 "ClaimBus$Chunk" "entries" "[J", .constantLong RX5 77 (4294967295), .fieldLink RX5 25 "ClaimBus$Row" "frames" "I"] ++ tl_c_put_c)
theorem it_c_put_c : ∀ w ∈ tl_c_put_c, w ∈ v_c_put_c := fun w h => List.mem_cons_of_mem _ (List.mem_append_right _ h)
theorem in_c_put_c_X5 : ∀ w ∈ wsX50, w ∈ v_c_put_c := fun w h => it_c_put_c w (List.mem_append_left _ h)
theorem in_c_put_c_X3 : ∀ w ∈ wsX30, w ∈ v_c_put_c := fun w h => it_c_put_c w (List.mem_append_right _ (List.mem_append_left _ h))
theorem in_c_put_c_X0 : ∀ w ∈ wsX00, w ∈ v_c_put_c := fun w h => it_c_put_c w (List.mem_append_right _ (List.mem_append_right _ (List.mem_append_left _ h)))
theorem ic_c_put_c_c_lend_c : ∀ w ∈ v_c_lend_c, w ∈ v_c_put_c := fun w h => it_c_put_c w (List.mem_append_right _ (List.mem_append_right _ (List.mem_append_right _ (List.mem_append_left _ h))))
theorem ic_c_put_c_c_lengthen : ∀ w ∈ v_c_lengthen, w ∈ v_c_put_c := fun w h => it_c_put_c w (List.mem_append_right _ (List.mem_append_right _ (List.mem_append_right _ (List.mem_append_right _ (h)))))
theorem gt_c_put_c : ∀ w ∈ tl_c_put_c, goodWord w = true := List.forall_mem_append.mpr ⟨gw_wsX50, List.forall_mem_append.mpr ⟨gw_wsX30, List.forall_mem_append.mpr ⟨gw_wsX00, List.forall_mem_append.mpr ⟨gw_c_lend_c, gw_c_lengthen⟩⟩⟩⟩
theorem gw_c_put_c : ∀ w ∈ v_c_put_c, goodWord w = true := List.forall_mem_cons.mpr ⟨by decide +kernel, List.forall_mem_append.mpr ⟨List.all_eq_true.mp (by decide +kernel), gt_c_put_c⟩⟩
theorem g_c_put_c_c_lend_c_57 : GoodIn v_c_put_c (wsV RX5 57 RX7 yX7_lend v_c_lend_c) := goodIn_app (goodIn_r [.methodLink RX5 57 yX7_lend, .instanceMethod yX7_lend, .selects RX7 yX7_lend yX7_lend, .initialized RX7] [4, 5, 6, 3] (by decide +kernel) (by decide +kernel)) (fun w h => ⟨ic_c_put_c_c_lend_c w h, good_of_word (gw_c_lend_c w h)⟩)
theorem g_c_put_c_c_lengthen_64 : GoodIn v_c_put_c (wsV RX5 64 RX5 yX5_lengthen v_c_lengthen) := goodIn_app (goodIn_r [.methodLink RX5 64 yX5_lengthen, .instanceMethod yX5_lengthen, .selects RX5 yX5_lengthen yX5_lengthen, .initialized RX5] [8, 9, 10, 7] (by decide +kernel) (by decide +kernel)) (fun w h => ⟨ic_c_put_c_c_lengthen w h, good_of_word (gw_c_lengthen w h)⟩)
set_option maxHeartbeats 4000000 in
set_option maxRecDepth 100000 in
/-- Row.put on an empty row -/
theorem c_put_c (l : Launch) (dC : Nat → ClassId) (dI : Nat → Nat → Nat) (r : Nat) (rh : Int32) (rl : Int32) (st : Nat) (rf : Nat) (hp : Int32) (tp : Int32) (ml : Nat) (ck : Nat) (ce : Nat) (cJ : ClassId) (fE : Nat → Int64) (mm : Nat) (mi : Nat) (mt : Nat) (mg : Nat) (ms : Nat) (sd : Int32) (to : Nat) (ki : Nat) (se : Nat) (th : Nat) (sz : Nat) (h_to : to < 256) (h_ki : ki < 256) (h_se : se < 256) (h_th : th < 256) (hmi : mi < 8) (hki : ki ≠ 235) : Met l yX5_put v_c_put_c ({ frames := 1, cells := 0, slots := 0, locals := 21 }) (va_Pc [.ref r, .ref mm, .int (nI to), .int (nI ki), .int (nI se), .int (nI th)] (fun U => U.heap.size = sz ∧ va_P (dC, dI) vwCl [(r, .inr (6, [.int rh, .int rl, .ref st, .null, .null, .int hp, .int tp, .int 0, .int 0, .int 0, .ref rf, .int 0])), (st, .inr (8, [.ref ml, .ref ck])), (ck, .inr (1, [.ref ce, .null])), (ce, .inl (cJ, 128, .inr (.inl fE))), (mm, .inr (4, [.int (nI mi), .int (nI mt), .int (nI mg), .int (nI ms), .int sd, .null]))] U.heap ∧ va_K (dC, dI) vwCl [(cJ, .long)] U ∧ va_D (fun _ => True) [(r, .inr (6, [.int rh, .int rl, .ref st, .null, .null, .int hp, .int tp, .int 0, .int 0, .int 0, .ref rf, .int 0])), (st, .inr (8, [.ref ml, .ref ck])), (ck, .inr (1, [.ref ce, .null])), (ce, .inl (cJ, 128, .inr (.inl fE))), (mm, .inr (4, [.int (nI mi), .int (nI mt), .int (nI mg), .int (nI ms), .int sd, .null]))] ∧ ev U)) (va_Qv (fun _ : Unit => True) (fun (_ : Unit) (t : State) => ∃ (fE2 : Nat → Int64), va_P (dC, dI) vwCl [(r, .inr (6, [.int rh, .int rl, .ref st, .ref ck, .ref ck, .int 0, .int 1, .int 1, .int 0, .int 0, .ref rf, .int 0])), (st, .inr (8, [.ref ml, .null])), (ck, .inr (1, [.ref ce, .null])), (ce, .inl (cJ, 128, .inr (.inl fE2))), (mm, .inr (4, [.int (nI mi), .int (nI mt), .int (nI mg), .int (nI ms), .int sd, .null]))] t.heap ∧ va_K (dC, dI) vwCl [(cJ, .long)] t ∧ va_D (va_A [(r, .inr (6, [.int rh, .int rl, .ref st, .null, .null, .int hp, .int tp, .int 0, .int 0, .int 0, .ref rf, .int 0])), (st, .inr (8, [.ref ml, .ref ck])), (ck, .inr (1, [.ref ce, .null])), (ce, .inl (cJ, 128, .inr (.inl fE))), (mm, .inr (4, [.int (nI mi), .int (nI mt), .int (nI mg), .int (nI ms), .int sd, .null]))] sz) [(r, .inr (6, [.int rh, .int rl, .ref st, .ref ck, .ref ck, .int 0, .int 1, .int 1, .int 0, .int 0, .ref rf, .int 0])), (st, .inr (8, [.ref ml, .null])), (ck, .inr (1, [.ref ce, .null])), (ce, .inl (cJ, 128, .inr (.inl fE2))), (mm, .inr (4, [.int (nI mi), .int (nI mt), .int (nI mg), .int (nI ms), .int sd, .null]))] ∧ ((fE2 0).toInt32 = (nI (16777216 * to + 65536 * ki + 256 * se + th))) ∧ ((fE2 0 >>> ((32 : Int32).toInt64 &&& 63)).toInt32 = (nI mi))) (va_A [(r, .inr (6, [.int rh, .int rl, .ref st, .null, .null, .int hp, .int tp, .int 0, .int 0, .int 0, .ref rf, .int 0])), (st, .inr (8, [.ref ml, .ref ck])), (ck, .inr (1, [.ref ce, .null])), (ce, .inl (cJ, 128, .inr (.inl fE))), (mm, .inr (4, [.int (nI mi), .int (nI mt), .int (nI mg), .int (nI ms), .int sd, .null]))] sz)) 0 0 (va_A [(r, .inr (6, [.int rh, .int rl, .ref st, .null, .null, .int hp, .int tp, .int 0, .int 0, .int 0, .ref rf, .int 0])), (st, .inr (8, [.ref ml, .ref ck])), (ck, .inr (1, [.ref ce, .null])), (ce, .inl (cJ, 128, .inr (.inl fE))), (mm, .inr (4, [.int (nI mi), .int (nI mt), .int (nI mg), .int (nI ms), .int sd, .null]))] sz) := by
  refine Met.ofW (cc := cX5_put) (maxL := 8) (ret := none) (by decide) rfl ?_
  intro p e s m args below meth c s₁ B hml hv
  obtain ⟨rfl, hsz, hP, hK, hD0, hE⟩ := hv
  have hx := B.exec
  have hb := B.bytes
  have hr := B.returns
  have hts := atoms_spec (ws := v_c_put_c) B.pre
  have hown : s.vm.findClass RX5 = some m.cls := findClass_of_methodNamed B.named
  have hlocks := B.notSynchronized
  subst hsz
  have hD := hD0.self (sz := s.heap.size)
  generalize hAe : va_A [(r, .inr (6, [.int rh, .int rl, .ref st, .null, .null, .int hp, .int tp, .int 0, .int 0, .int 0, .ref rf, .int 0])), (st, .inr (8, [.ref ml, .ref ck])), (ck, .inr (1, [.ref ce, .null])), (ce, .inl (cJ, 128, .inr (.inl fE))), (mm, .inr (4, [.int (nI mi), .int (nI mt), .int (nI mg), .int (nI ms), .int sd, .null]))] s.heap.size = A at hD ⊢
  have hA : ∀ q : Nat, s.heap.size ≤ q → A q := fun q h => by rw [← hAe]; exact Or.inr h
  have hS : va_S A s.heap s.heap [] := va_S.rf
  replace hP : va_P (dC, dI) vwCl [(r, .inr (6, [.int rh, .int rl, .ref st, .null, .null, .int hp, .int tp, .int 0, .int 0, .int 0, .ref rf, .int 0])), (st, .inr (8, [.ref ml, .ref ck])), (ck, .inr (1, [.ref ce, .null])), (ce, .inl (cJ, 128, .inr (.inl fE))), (mm, .inr (4, [.int (nI mi), .int (nI mt), .int (nI mg), .int (nI ms), .int sd, .null]))] s.heap := hP
  have hl := lv_entry ([.ref r, .ref mm, .int (nI to), .int (nI ki), .int (nI se), .int (nI th)]) (n := 8) (Nat.le_of_ble_eq_true rfl)
  rw [lg_entry_eq]
  generalize (lg_sl ([.ref r, .ref mm, .int (nI to), .int (nI ki), .int (nI se), .int (nI th)]) ++ List.replicate (8 - (lg_sl ([.ref r, .ref mm, .int (nI to), .int (nI ki), .int (nI se), .int (nI th)])).length) Slot.unset).toArray = ls at hl ⊢
  replace hl : lv_has ls 8 [(0, .ref r), (1, .ref mm), (2, .int (nI to)), (3, .int (nI ki)), (4, .int (nI se)), (5, .int (nI th))] := hl
  obtain ⟨H, hH⟩ : ∃ z : Heap, z = s.heap := ⟨_, rfl⟩
  rw [← hH]
  replace hS : va_S A s.heap H [] := by rw [hH]; exact va_S.rf
  replace hP : va_P (dC, dI) vwCl [(r, .inr (6, [.int rh, .int rl, .ref st, .null, .null, .int hp, .int tp, .int 0, .int 0, .int 0, .ref rf, .int 0])), (st, .inr (8, [.ref ml, .ref ck])), (ck, .inr (1, [.ref ce, .null])), (ce, .inl (cJ, 128, .inr (.inl fE))), (mm, .inr (4, [.int (nI mi), .int (nI mt), .int (nI mg), .int (nI ms), .int sd, .null]))] H := by rw [hH]; exact hP
  clear hH
  refine lv_aload_n hx hb dX5_put_0 rfl (lv_at hl 0 rfl) ?_
  refine va_get (D := (dC, dI)) (ci := 6) (v := .null) (C := RX5) (T := TX5) (N := 12) hx hb hts in_c_put_c_X5 hown hK hP 0 rfl rfl 4 (by decide) (hts (.fieldLink RX5 15 "ClaimBus$Row" "tail" "LClaimBus$Chunk;") (List.mem_of_getElem? (i := 1) rfl)) (fun _ h9 => h9) rfl dX5_put_1 ?_
  refine lv_ifnullN (tgt := 17) hx hb dX5_put_4 (by decide) ?_
  refine lv_aload_n hx hb dX5_put_17 rfl (lv_at hl 0 rfl) ?_
  refine va_get (D := (dC, dI)) (ci := 6) (v := .ref st) (C := RX5) (T := TX5) (N := 12) hx hb hts in_c_put_c_X5 hown hK hP 0 rfl rfl 2 (by decide) (hts (.fieldLink RX5 51 "ClaimBus$Row" "store" "LClaimBus$Store;") (List.mem_of_getElem? (i := 2) rfl)) (fun _ h9 => h9) rfl dX5_put_18 ?_
  have hPc := hP.sub (ws' := [(st, .inr (8, [.ref ml, .ref ck])), (ck, .inr (1, [.ref ce, .null]))]) [1, 2] rfl
  have hDc := hD.sub (ws' := [(st, .inr (8, [.ref ml, .ref ck])), (ck, .inr (1, [.ref ce, .null]))]) [1, 2] (by decide +kernel) rfl
  have hKc := hK.sub (tys' := []) [] rfl
  have hFc := va_free (wc := [(st, .inr (8, [.ref ml, .ref ck])), (ck, .inr (1, [.ref ce, .null]))]) hD hS hA [1, 2] rfl
  refine va_callq (va_runV (As := []) (rest := []) ⟨hx, hb, hml, hown, hts⟩ (c_lend_c l dC dI (st) (ml) (ck) (ce) H.size) (cwV 0 hts g_c_put_c_c_lend_c_57 rfl rfl rfl (by decide +kernel) ⟨Nat.le_of_ble_eq_true rfl, Nat.le_of_ble_eq_true rfl⟩) ⟨fun a U g mk q => by obtain ⟨q0, q1, qP, qK, qD, qE⟩ := q; exact ⟨q0, q1, qP, va_K.moved (u := U) (U := U.calling g mk a) (Vm.Alike.refl U.vm) qK, qD, ev.same (u := U) (U := U.calling g mk a) rfl qE⟩, va_recv hKc hPc (ci := 8) (q0 := 0) rfl rfl, fun U hU hW => ⟨rfl, by rw [hU], by rw [hU]; exact hPc, va_K.moved hW.alike hKc, hDc.weaken (fun _ _ _ _ => trivial), hE.warm hW⟩⟩ rfl rfl hl.1 rfl (lv_room (Nat.le_of_ble_eq_true rfl)) dX5_put_21 ⟨Nat.le_of_ble_eq_true rfl, Nat.le_of_ble_eq_true rfl⟩) hS (fun q _ h => hFc q h) hFc (fun r_1 u t H1 locs ht hvm hw hB hz1 hk1 hS => ?_)
  clear hPc hDc hKc
  obtain ⟨hP1, hK1, hD1⟩ := hB
  rw [ht] at hP1
  have hK1 := va_K.moved hvm.symm hK1
  obtain ⟨hP, hD⟩ := va_join (wr := [(r, .inr (6, [.int rh, .int rl, .ref st, .null, .null, .int hp, .int tp, .int 0, .int 0, .int 0, .ref rf, .int 0])), (ce, .inl (cJ, 128, .inr (.inl fE))), (mm, .inr (4, [.int (nI mi), .int (nI mt), .int (nI mg), .int (nI ms), .int sd, .null]))]) (w1 := [(st, .inr (8, [.ref ml, .null])), (ck, .inr (1, [.ref ce, .null]))]) hP hD [1, 2] [0, 3, 4] rfl rfl (by decide +kernel) (by decide +kernel) hk1 hFc hP1 hD1
  generalize H1 = H at hP hS ⊢
  replace hP : va_P (dC, dI) vwCl [(r, .inr (6, [.int rh, .int rl, .ref st, .null, .null, .int hp, .int tp, .int 0, .int 0, .int 0, .ref rf, .int 0])), (ce, .inl (cJ, 128, .inr (.inl fE))), (mm, .inr (4, [.int (nI mi), .int (nI mt), .int (nI mg), .int (nI ms), .int sd, .null])), (st, .inr (8, [.ref ml, .null])), (ck, .inr (1, [.ref ce, .null]))] H := hP
  replace hD : va_D A [(r, .inr (6, [.int rh, .int rl, .ref st, .null, .null, .int hp, .int tp, .int 0, .int 0, .int 0, .ref rf, .int 0])), (ce, .inl (cJ, 128, .inr (.inl fE))), (mm, .inr (4, [.int (nI mi), .int (nI mt), .int (nI mg), .int (nI ms), .int sd, .null])), (st, .inr (8, [.ref ml, .null])), (ck, .inr (1, [.ref ce, .null]))] := hD
  have hw := hw.symm
  subst hw
  refine W.eq (g2 := F0 m 24 ls [.ref ck]) rfl ?_
  refine lv_astore (lv' := [(6, .ref ck), (0, .ref r), (1, .ref mm), (2, .int (nI to)), (3, .int (nI ki)), (4, .int (nI se)), (5, .int (nI th))]) hx hb dX5_put_24 hl (by decide) rfl (fun ls hl => ?_)
  refine lv_aload_n hx hb dX5_put_26 rfl (lv_at hl 1 rfl) ?_
  refine lv_aload hx hb dX5_put_27 (lv_at hl 0 rfl) ?_
  refine lv_ifnonnull (tgt := 42) hx hb dX5_put_29 (by decide) ?_
  refine lv_aload hx hb dX5_put_42 (lv_at hl 0 rfl) ?_
  have hPc := hP.sub (ws' := [(r, .inr (6, [.int rh, .int rl, .ref st, .null, .null, .int hp, .int tp, .int 0, .int 0, .int 0, .ref rf, .int 0]))]) [0] rfl
  have hDc := hD.sub (ws' := [(r, .inr (6, [.int rh, .int rl, .ref st, .null, .null, .int hp, .int tp, .int 0, .int 0, .int 0, .ref rf, .int 0]))]) [0] (by decide +kernel) rfl
  have hKc := hK.sub (tys' := []) [] rfl
  have hFc := va_free (wc := [(r, .inr (6, [.int rh, .int rl, .ref st, .null, .null, .int hp, .int tp, .int 0, .int 0, .int 0, .ref rf, .int 0]))]) hD hS hA [0] rfl
  refine va_callv (va_runV (As := [.ref ck]) (rest := []) ⟨hx, hb, hml, hown, hts⟩ (c_lengthen l dC dI (r) (rh) (rl) (st) (rf) (hp) (tp) (ck) H.size) (cwV 1 hts g_c_put_c_c_lengthen_64 rfl rfl rfl (by decide +kernel) ⟨Nat.le_of_ble_eq_true rfl, Nat.le_of_ble_eq_true rfl⟩) ⟨fun a U g mk q => by obtain ⟨q0, q1, qP, qK, qD, qE⟩ := q; exact ⟨q0, q1, qP, va_K.moved (u := U) (U := U.calling g mk a) (Vm.Alike.refl U.vm) qK, qD, ev.same (u := U) (U := U.calling g mk a) rfl qE⟩, va_recv hKc hPc (ci := 6) (q0 := 0) rfl rfl, fun U hU hW => ⟨rfl, by rw [hU], by rw [hU]; exact hPc, va_K.moved hW.alike hKc, hDc.weaken (fun _ _ _ _ => trivial), hE.warm hW⟩⟩ rfl rfl hl.1 rfl (lv_room (Nat.le_of_ble_eq_true rfl)) dX5_put_44 ⟨Nat.le_of_ble_eq_true rfl, Nat.le_of_ble_eq_true rfl⟩) hS (fun q _ h => hFc q h) hFc (fun u t H1 locs ht hvm hw hB hz1 hk1 hS => ?_)
  clear hPc hDc hKc
  obtain ⟨hP1, hK1, hD1⟩ := hB
  rw [ht] at hP1
  have hK1 := va_K.moved hvm.symm hK1
  obtain ⟨hP, hD⟩ := va_join (wr := [(ce, .inl (cJ, 128, .inr (.inl fE))), (mm, .inr (4, [.int (nI mi), .int (nI mt), .int (nI mg), .int (nI ms), .int sd, .null])), (st, .inr (8, [.ref ml, .null])), (ck, .inr (1, [.ref ce, .null]))]) (w1 := [(r, .inr (6, [.int rh, .int rl, .ref st, .ref ck, .ref ck, .int 0, .int 0, .int 0, .int 0, .int 0, .ref rf, .int 0]))]) hP hD [0] [1, 2, 3, 4] rfl rfl (by decide +kernel) (by decide +kernel) hk1 hFc hP1 hD1
  generalize H1 = H at hP hS ⊢
  replace hP : va_P (dC, dI) vwCl [(ce, .inl (cJ, 128, .inr (.inl fE))), (mm, .inr (4, [.int (nI mi), .int (nI mt), .int (nI mg), .int (nI ms), .int sd, .null])), (st, .inr (8, [.ref ml, .null])), (ck, .inr (1, [.ref ce, .null])), (r, .inr (6, [.int rh, .int rl, .ref st, .ref ck, .ref ck, .int 0, .int 0, .int 0, .int 0, .int 0, .ref rf, .int 0]))] H := hP
  replace hD : va_D A [(ce, .inl (cJ, 128, .inr (.inl fE))), (mm, .inr (4, [.int (nI mi), .int (nI mt), .int (nI mg), .int (nI ms), .int sd, .null])), (st, .inr (8, [.ref ml, .null])), (ck, .inr (1, [.ref ce, .null])), (r, .inr (6, [.int rh, .int rl, .ref st, .ref ck, .ref ck, .int 0, .int 0, .int 0, .int 0, .int 0, .ref rf, .int 0]))] := hD
  clear hw
  refine lv_aload_n hx hb dX5_put_47 rfl (lv_at hl 2 rfl) ?_
  refine lv_ifnonnull (tgt := 55) hx hb dX5_put_48 (by decide) ?_
  refine lv_aload_n hx hb dX5_put_55 rfl (lv_at hl 2 rfl) ?_
  refine va_get (D := (dC, dI)) (ci := 4) (v := .int (nI mi)) (C := RX3) (T := TX3) (N := 6) hx hb hts in_c_put_c_X3 hown hK hP 1 rfl rfl 0 (by decide) (hts (.fieldLink RX5 68 "ClaimBus$Message" "index" "I") (List.mem_of_getElem? (i := 11) rfl)) (fun _ h9 => h9) rfl dX5_put_56 ?_
  refine lv_istore (lv' := [(6, .int (nI mi)), (0, .ref r), (1, .ref mm), (2, .int (nI to)), (3, .int (nI ki)), (4, .int (nI se)), (5, .int (nI th))]) hx hb dX5_put_59 hl (by decide) rfl (fun ls hl => ?_)
  refine lv_iload_n hx hb dX5_put_61 rfl (lv_at hl 3 rfl) ?_
  refine lv_bipush (v := 24) hx hb dX5_put_62 (by decide) ?_
  refine lv_ishl hx hb dX5_put_64 ?_
  refine lv_topi (fun x_3 ex_3 => ?_)
  obtain rfl : x_3 = (nI (16777216 * to)) := ex_3.trans ((pk_shlN (n := to) ((24 : Int32) &&& 31) 24 (by decide) (by omega)).trans (show nI (to * 2 ^ 24) = nI (16777216 * to) from congrArg nI (by omega)))
  refine lv_iload_n hx hb dX5_put_65 rfl (lv_at hl 4 rfl) ?_
  refine lv_sipush (v := 255) hx hb dX5_put_66 (by decide) ?_
  refine lv_iand hx hb dX5_put_69 ?_
  refine lv_topi (fun x_4 ex_4 => ?_)
  obtain rfl : x_4 = (nI ki) := ex_4.trans ((pk_andN (n := ki) (m := 255) (by omega) 8 (by decide)).trans (show nI (ki % 2 ^ 8) = nI (ki) from congrArg nI (by omega)))
  refine lv_bipush (v := 16) hx hb dX5_put_70 (by decide) ?_
  refine lv_ishl hx hb dX5_put_72 ?_
  refine lv_topi (fun x_5 ex_5 => ?_)
  obtain rfl : x_5 = (nI (65536 * ki)) := ex_5.trans ((pk_shlN (n := ki) ((16 : Int32) &&& 31) 16 (by decide) (by omega)).trans (show nI (ki * 2 ^ 16) = nI (65536 * ki) from congrArg nI (by omega)))
  refine lv_ior hx hb dX5_put_73 ?_
  refine lv_topi (fun x_6 ex_6 => ?_)
  obtain rfl : x_6 = (nI (65536 * ki + 16777216 * to)) := ex_6.trans ((q_or (16777216 * to) (65536 * ki) 24 (by omega) (by omega) (by omega)).trans (show nI ((16777216 * to) + (65536 * ki)) = nI (65536 * ki + 16777216 * to) from congrArg nI (by omega)))
  refine lv_iload hx hb dX5_put_74 (lv_at hl 5 rfl) ?_
  refine lv_sipush (v := 255) hx hb dX5_put_76 (by decide) ?_
  refine lv_iand hx hb dX5_put_79 ?_
  refine lv_topi (fun x_7 ex_7 => ?_)
  obtain rfl : x_7 = (nI se) := ex_7.trans ((pk_andN (n := se) (m := 255) (by omega) 8 (by decide)).trans (show nI (se % 2 ^ 8) = nI (se) from congrArg nI (by omega)))
  refine lv_bipush (v := 8) hx hb dX5_put_80 (by decide) ?_
  refine lv_ishl hx hb dX5_put_82 ?_
  refine lv_topi (fun x_8 ex_8 => ?_)
  obtain rfl : x_8 = (nI (256 * se)) := ex_8.trans ((pk_shlN (n := se) ((8 : Int32) &&& 31) 8 (by decide) (by omega)).trans (show nI (se * 2 ^ 8) = nI (256 * se) from congrArg nI (by omega)))
  refine lv_ior hx hb dX5_put_83 ?_
  refine lv_topi (fun x_9 ex_9 => ?_)
  obtain rfl : x_9 = (nI (65536 * ki + 256 * se + 16777216 * to)) := ex_9.trans ((q_or (65536 * ki + 16777216 * to) (256 * se) 16 (by omega) (by omega) (by omega)).trans (show nI ((65536 * ki + 16777216 * to) + (256 * se)) = nI (65536 * ki + 256 * se + 16777216 * to) from congrArg nI (by omega)))
  refine lv_iload hx hb dX5_put_84 (lv_at hl 6 rfl) ?_
  refine lv_sipush (v := 255) hx hb dX5_put_86 (by decide) ?_
  refine lv_iand hx hb dX5_put_89 ?_
  refine lv_topi (fun x_10 ex_10 => ?_)
  obtain rfl : x_10 = (nI th) := ex_10.trans ((pk_andN (n := th) (m := 255) (by omega) 8 (by decide)).trans (show nI (th % 2 ^ 8) = nI (th) from congrArg nI (by omega)))
  refine lv_ior hx hb dX5_put_90 ?_
  refine lv_topi (fun x_11 ex_11 => ?_)
  obtain rfl : x_11 = (nI (65536 * ki + 256 * se + th + 16777216 * to)) := ex_11.trans ((q_or (65536 * ki + 256 * se + 16777216 * to) th 8 (by omega) (by omega) (by omega)).trans (show nI ((65536 * ki + 256 * se + 16777216 * to) + th) = nI (65536 * ki + 256 * se + th + 16777216 * to) from congrArg nI (by omega)))
  refine lv_istore (lv' := [(7, .int (nI (65536 * ki + 256 * se + th + 16777216 * to))), (6, .int (nI mi)), (0, .ref r), (1, .ref mm), (2, .int (nI to)), (3, .int (nI ki)), (4, .int (nI se)), (5, .int (nI th))]) hx hb dX5_put_91 hl (by decide) rfl (fun ls hl => ?_)
  refine lv_aload_n hx hb dX5_put_93 rfl (lv_at hl 2 rfl) ?_
  refine va_get (D := (dC, dI)) (ci := 6) (v := .ref ck) (C := RX5) (T := TX5) (N := 12) hx hb hts in_c_put_c_X5 hown hK hP 4 rfl rfl 4 (by decide) (hts (.fieldLink RX5 15 "ClaimBus$Row" "tail" "LClaimBus$Chunk;") (List.mem_of_getElem? (i := 1) rfl)) (fun _ h9 => h9) rfl dX5_put_94 ?_
  refine lv_ifnull hx hb dX5_put_97 ?_
  refine lv_aload_n hx hb dX5_put_100 rfl (lv_at hl 2 rfl) ?_
  refine va_get (D := (dC, dI)) (ci := 6) (v := .int 0) (C := RX5) (T := TX5) (N := 12) hx hb hts in_c_put_c_X5 hown hK hP 4 rfl rfl 6 (by decide) (hts (.fieldLink RX5 22 "ClaimBus$Row" "tailPlace" "I") (List.mem_of_getElem? (i := 12) rfl)) (fun _ h9 => h9) rfl dX5_put_101 ?_
  refine lv_if_lt (tgt := 180) hx hb dX5_put_104 (by decide) (fun c_12 => ?_) (fun c_12 => ?_)
  · exact absurd c_12 (by decide)
  refine lv_aload_n hx hb dX5_put_107 rfl (lv_at hl 2 rfl) ?_
  refine va_get (D := (dC, dI)) (ci := 6) (v := .int 0) (C := RX5) (T := TX5) (N := 12) hx hb hts in_c_put_c_X5 hown hK hP 4 rfl rfl 6 (by decide) (hts (.fieldLink RX5 22 "ClaimBus$Row" "tailPlace" "I") (List.mem_of_getElem? (i := 12) rfl)) (fun _ h9 => h9) rfl dX5_put_108 ?_
  refine lv_aload_n hx hb dX5_put_111 rfl (lv_at hl 2 rfl) ?_
  refine va_get (D := (dC, dI)) (ci := 6) (v := .ref ck) (C := RX5) (T := TX5) (N := 12) hx hb hts in_c_put_c_X5 hown hK hP 4 rfl rfl 4 (by decide) (hts (.fieldLink RX5 15 "ClaimBus$Row" "tail" "LClaimBus$Chunk;") (List.mem_of_getElem? (i := 1) rfl)) (fun _ h9 => h9) rfl dX5_put_112 ?_
  refine va_get (D := (dC, dI)) (ci := 1) (v := .ref ce) (C := RX0) (T := TX0) (N := 2) hx hb hts in_c_put_c_X0 hown hK hP 3 rfl rfl 0 (by decide) (hts (.fieldLink RX5 73 "ClaimBus$Chunk" "entries" "[J") (List.mem_of_getElem? (i := 13) rfl)) (fun _ h9 => h9) rfl dX5_put_115 ?_
  refine va_alen hx hb hK hP 0 0 rfl rfl (v := 128) rfl dX5_put_118 ?_
  refine lv_icmp_ge (tgt := 180) hx hb dX5_put_119 (by decide) (fun c_13 => ?_) (fun c_13 => ?_)
  · exact absurd c_13 (by decide)
  refine lv_aload_n hx hb dX5_put_122 rfl (lv_at hl 2 rfl) ?_
  refine va_get (D := (dC, dI)) (ci := 6) (v := .ref ck) (C := RX5) (T := TX5) (N := 12) hx hb hts in_c_put_c_X5 hown hK hP 4 rfl rfl 4 (by decide) (hts (.fieldLink RX5 15 "ClaimBus$Row" "tail" "LClaimBus$Chunk;") (List.mem_of_getElem? (i := 1) rfl)) (fun _ h9 => h9) rfl dX5_put_123 ?_
  refine va_get (D := (dC, dI)) (ci := 1) (v := .ref ce) (C := RX0) (T := TX0) (N := 2) hx hb hts in_c_put_c_X0 hown hK hP 3 rfl rfl 0 (by decide) (hts (.fieldLink RX5 73 "ClaimBus$Chunk" "entries" "[J") (List.mem_of_getElem? (i := 13) rfl)) (fun _ h9 => h9) rfl dX5_put_126 ?_
  refine lv_aload_n hx hb dX5_put_129 rfl (lv_at hl 2 rfl) ?_
  refine va_get (D := (dC, dI)) (ci := 6) (v := .int 0) (C := RX5) (T := TX5) (N := 12) hx hb hts in_c_put_c_X5 hown hK hP 4 rfl rfl 6 (by decide) (hts (.fieldLink RX5 22 "ClaimBus$Row" "tailPlace" "I") (List.mem_of_getElem? (i := 12) rfl)) (fun _ h9 => h9) rfl dX5_put_130 ?_
  refine lv_iload hx hb dX5_put_133 (lv_at hl 1 rfl) ?_
  refine lv_i2l hx hb dX5_put_135 rfl ?_
  refine lv_bipush (v := 32) hx hb dX5_put_136 (by decide) ?_
  refine lv_lshl hx hb dX5_put_138 rfl ?_
  refine lv_iload hx hb dX5_put_139 (lv_at hl 0 rfl) ?_
  refine lv_i2l hx hb dX5_put_141 rfl ?_
  refine lv_ldc2 hx hb hown (hts (.constantLong RX5 77 (4294967295)) (List.mem_of_getElem? (i := 14) rfl)) dX5_put_142 ?_
  refine lv_land hx hb dX5_put_145 ?_
  refine lv_lor hx hb dX5_put_146 ?_
  refine va_last hx hb hK hP hD hS 0 0 rfl rfl (vp_in_nI (n := 0) (by omega) (by omega)) dX5_put_147 (fun H locs hP hD hS => ?_)
  obtain ⟨f_14, ef_14⟩ : ∃ z : Nat → Int64, z = vp_updL fE 0 (((((nI mi).toInt64) <<< ((32 : Int32).toInt64 &&& 63)) ||| (((nI (65536 * ki + 256 * se + th + 16777216 * to)).toInt64) &&& 4294967295))) := ⟨_, rfl⟩
  rw [(show Int32.toNatClampNeg (0 : Int32) = 0 by decide)] at hP hD
  replace hP : va_P (dC, dI) vwCl [(ce, .inl (cJ, 128, .inr (.inl f_14))), (mm, .inr (4, [.int (nI mi), .int (nI mt), .int (nI mg), .int (nI ms), .int sd, .null])), (st, .inr (8, [.ref ml, .null])), (ck, .inr (1, [.ref ce, .null])), (r, .inr (6, [.int rh, .int rl, .ref st, .ref ck, .ref ck, .int 0, .int 0, .int 0, .int 0, .int 0, .ref rf, .int 0]))] H := by rw [ef_14]; exact hP
  replace hD : va_D A [(ce, .inl (cJ, 128, .inr (.inl f_14))), (mm, .inr (4, [.int (nI mi), .int (nI mt), .int (nI mg), .int (nI ms), .int sd, .null])), (st, .inr (8, [.ref ml, .null])), (ck, .inr (1, [.ref ce, .null])), (r, .inr (6, [.int rh, .int rl, .ref st, .ref ck, .ref ck, .int 0, .int 0, .int 0, .int 0, .int 0, .ref rf, .int 0]))] := by rw [ef_14]; exact hD
  refine lv_aload_n hx hb dX5_put_148 rfl (lv_at hl 2 rfl) ?_
  refine lv_dup hx hb dX5_put_149 rfl ?_
  refine va_get (D := (dC, dI)) (ci := 6) (v := .int 0) (C := RX5) (T := TX5) (N := 12) hx hb hts in_c_put_c_X5 hown hK hP 4 rfl rfl 6 (by decide) (hts (.fieldLink RX5 22 "ClaimBus$Row" "tailPlace" "I") (List.mem_of_getElem? (i := 12) rfl)) (fun _ h9 => h9) rfl dX5_put_150 ?_
  refine lv_iconst (v := 1) hx hb dX5_put_153 (by decide) ?_
  refine lv_iadd hx hb dX5_put_154 ?_
  refine lv_topi (fun x_15 ex_15 => ?_)
  obtain rfl : x_15 = 1 := ex_15.trans (by decide)
  refine va_put (D := (dC, dI)) (ci := 6) (v := .int 1) (ty := .int) (C := RX5) (T := TX5) (N := 12) hx hb hts in_c_put_c_X5 tyX5 tyX5_ok nmX5 hown hK hP hD hS 4 rfl rfl 6 (by decide) (hts (.fieldLink RX5 22 "ClaimBus$Row" "tailPlace" "I") (List.mem_of_getElem? (i := 12) rfl)) (fun _ h9 => h9) rfl (by decide +kernel) rfl rfl (Nat.le_of_ble_eq_true rfl) dX5_put_155 (fun H locs hP hD hS => ?_)
  replace hP : va_P (dC, dI) vwCl [(ce, .inl (cJ, 128, .inr (.inl f_14))), (mm, .inr (4, [.int (nI mi), .int (nI mt), .int (nI mg), .int (nI ms), .int sd, .null])), (st, .inr (8, [.ref ml, .null])), (ck, .inr (1, [.ref ce, .null])), (r, .inr (6, [.int rh, .int rl, .ref st, .ref ck, .ref ck, .int 0, .int 1, .int 0, .int 0, .int 0, .ref rf, .int 0]))] H := hP
  replace hD : va_D A [(ce, .inl (cJ, 128, .inr (.inl f_14))), (mm, .inr (4, [.int (nI mi), .int (nI mt), .int (nI mg), .int (nI ms), .int sd, .null])), (st, .inr (8, [.ref ml, .null])), (ck, .inr (1, [.ref ce, .null])), (r, .inr (6, [.int rh, .int rl, .ref st, .ref ck, .ref ck, .int 0, .int 1, .int 0, .int 0, .int 0, .ref rf, .int 0]))] := hD
  refine lv_aload_n hx hb dX5_put_158 rfl (lv_at hl 2 rfl) ?_
  refine lv_dup hx hb dX5_put_159 rfl ?_
  refine va_get (D := (dC, dI)) (ci := 6) (v := .int 0) (C := RX5) (T := TX5) (N := 12) hx hb hts in_c_put_c_X5 hown hK hP 4 rfl rfl 7 (by decide) (hts (.fieldLink RX5 25 "ClaimBus$Row" "frames" "I") (List.mem_of_getElem? (i := 15) rfl)) (fun _ h9 => h9) rfl dX5_put_160 ?_
  refine lv_iload_n hx hb dX5_put_163 rfl (lv_at hl 5 rfl) ?_
  refine lv_sipush (v := 235) hx hb dX5_put_164 (by decide) ?_
  refine lv_icmp_ne (tgt := 175) hx hb dX5_put_167 (by decide) (fun c_16 => ?_) (fun c_16 => ?_)
  rotate_left
  · exact absurd ((nI_eq (a := ki) (b := 235) (by omega) (by omega)).mp c_16) (by omega)
  refine lv_iconst (v := 1) hx hb dX5_put_175 (by decide) ?_
  refine lv_iadd hx hb dX5_put_176 ?_
  refine lv_topi (fun x_17 ex_17 => ?_)
  obtain rfl : x_17 = 1 := ex_17.trans (by decide)
  refine va_put (D := (dC, dI)) (ci := 6) (v := .int 1) (ty := .int) (C := RX5) (T := TX5) (N := 12) hx hb hts in_c_put_c_X5 tyX5 tyX5_ok nmX5 hown hK hP hD hS 4 rfl rfl 7 (by decide) (hts (.fieldLink RX5 25 "ClaimBus$Row" "frames" "I") (List.mem_of_getElem? (i := 15) rfl)) (fun _ h9 => h9) rfl (by decide +kernel) rfl rfl (Nat.le_of_ble_eq_true rfl) dX5_put_177 (fun H locs hP hD hS => ?_)
  replace hP : va_P (dC, dI) vwCl [(ce, .inl (cJ, 128, .inr (.inl f_14))), (mm, .inr (4, [.int (nI mi), .int (nI mt), .int (nI mg), .int (nI ms), .int sd, .null])), (st, .inr (8, [.ref ml, .null])), (ck, .inr (1, [.ref ce, .null])), (r, .inr (6, [.int rh, .int rl, .ref st, .ref ck, .ref ck, .int 0, .int 1, .int 1, .int 0, .int 0, .ref rf, .int 0]))] H := hP
  replace hD : va_D A [(ce, .inl (cJ, 128, .inr (.inl f_14))), (mm, .inr (4, [.int (nI mi), .int (nI mt), .int (nI mg), .int (nI ms), .int sd, .null])), (st, .inr (8, [.ref ml, .null])), (ck, .inr (1, [.ref ce, .null])), (r, .inr (6, [.int rh, .int rl, .ref st, .ref ck, .ref ck, .int 0, .int 1, .int 1, .int 0, .int 0, .ref rf, .int 0]))] := hD
  have hP9 := hP.sub (ws' := [(r, .inr (6, [.int rh, .int rl, .ref st, .ref ck, .ref ck, .int 0, .int 1, .int 1, .int 0, .int 0, .ref rf, .int 0])), (st, .inr (8, [.ref ml, .null])), (ck, .inr (1, [.ref ce, .null])), (ce, .inl (cJ, 128, .inr (.inl f_14))), (mm, .inr (4, [.int (nI mi), .int (nI mt), .int (nI mg), .int (nI ms), .int sd, .null]))]) [4, 2, 3, 0, 1] rfl
  have hD9 := hD.sub (ws' := [(r, .inr (6, [.int rh, .int rl, .ref st, .ref ck, .ref ck, .int 0, .int 1, .int 1, .int 0, .int 0, .ref rf, .int 0])), (st, .inr (8, [.ref ml, .null])), (ck, .inr (1, [.ref ce, .null])), (ce, .inl (cJ, 128, .inr (.inl f_14))), (mm, .inr (4, [.int (nI mi), .int (nI mt), .int (nI mg), .int (nI ms), .int sd, .null]))]) [4, 2, 3, 0, 1] (by decide +kernel) rfl
  have hK9 := hK.sub (tys' := [(cJ, .long)]) [0] rfl
  exact W.vret hx hb hr (fun t ht hW => ⟨⟨(), rfl, trivial, ⟨f_14, by rw [ht]; exact hP9, va_K.moved hW.alike hK9, hD9, by rw [ef_14, show vp_updL fE 0 (((((nI mi).toInt64) <<< ((32 : Int32).toInt64 &&& 63)) ||| (((nI (65536 * ki + 256 * se + th + 16777216 * to)).toInt64) &&& 4294967295))) 0 = ((((nI mi).toInt64) <<< ((32 : Int32).toInt64 &&& 63)) ||| (((nI (65536 * ki + 256 * se + th + 16777216 * to)).toInt64) &&& 4294967295)) from pk_uLs]; exact (ent_lo _ _).trans (congrArg nI (by omega)), by rw [ef_14, show vp_updL fE 0 (((((nI mi).toInt64) <<< ((32 : Int32).toInt64 &&& 63)) ||| (((nI (65536 * ki + 256 * se + th + 16777216 * to)).toInt64) &&& 4294967295))) 0 = ((((nI mi).toInt64) <<< ((32 : Int32).toInt64 &&& 63)) ||| (((nI (65536 * ki + 256 * se + th + 16777216 * to)).toInt64) &&& 4294967295)) from pk_uLs]; exact ent_hi _ _⟩⟩, hS.F ht⟩) hS.2.2 dX5_put_180

noncomputable def tl_c_put_cp : List Cond := wsX50 ++ (wsX30 ++ (wsX00 ++ (v_c_lend_c ++ (v_c_lengthen))))
noncomputable def v_c_put_cp : List Cond := .code yX5_put cX5_put 8 none :: ([.fieldLink RX5 15 "ClaimBus$Row" "tail" "LClaimBus$Chunk;", .fieldLink RX5 51 "ClaimBus$Row" "store" "LClaimBus$Store;", .initialized RX7, .methodLink RX5 57 yX7_lend, .instanceMethod yX7_lend, .selects RX7 yX7_lend yX7_lend, .initialized RX5, .methodLink RX5 64 yX5_lengthen, .instanceMethod yX5_lengthen, .selects RX5 yX5_lengthen yX5_lengthen, .fieldLink RX5 68 "ClaimBus$Message" "index" "I", .fieldLink RX5 22 "ClaimBus$Row" "tailPlace" "I", .fieldLink RX5 73 "ClaimBus$Chunk" "entries" "[J", .constantLong RX5 77 (4294967295), .fieldLink RX5 25 "ClaimBus$Row" "frames" "I"] ++ tl_c_put_cp)
theorem it_c_put_cp : ∀ w ∈ tl_c_put_cp, w ∈ v_c_put_cp := fun w h => List.mem_cons_of_mem _ (List.mem_append_right _ h)
theorem in_c_put_cp_X5 : ∀ w ∈ wsX50, w ∈ v_c_put_cp := fun w h => it_c_put_cp w (List.mem_append_left _ h)
theorem in_c_put_cp_X3 : ∀ w ∈ wsX30, w ∈ v_c_put_cp := fun w h => it_c_put_cp w (List.mem_append_right _ (List.mem_append_left _ h))
theorem in_c_put_cp_X0 : ∀ w ∈ wsX00, w ∈ v_c_put_cp := fun w h => it_c_put_cp w (List.mem_append_right _ (List.mem_append_right _ (List.mem_append_left _ h)))
theorem ic_c_put_cp_c_lend_c : ∀ w ∈ v_c_lend_c, w ∈ v_c_put_cp := fun w h => it_c_put_cp w (List.mem_append_right _ (List.mem_append_right _ (List.mem_append_right _ (List.mem_append_left _ h))))
theorem ic_c_put_cp_c_lengthen : ∀ w ∈ v_c_lengthen, w ∈ v_c_put_cp := fun w h => it_c_put_cp w (List.mem_append_right _ (List.mem_append_right _ (List.mem_append_right _ (List.mem_append_right _ (h)))))
theorem gt_c_put_cp : ∀ w ∈ tl_c_put_cp, goodWord w = true := List.forall_mem_append.mpr ⟨gw_wsX50, List.forall_mem_append.mpr ⟨gw_wsX30, List.forall_mem_append.mpr ⟨gw_wsX00, List.forall_mem_append.mpr ⟨gw_c_lend_c, gw_c_lengthen⟩⟩⟩⟩
theorem gw_c_put_cp : ∀ w ∈ v_c_put_cp, goodWord w = true := List.forall_mem_cons.mpr ⟨by decide +kernel, List.forall_mem_append.mpr ⟨List.all_eq_true.mp (by decide +kernel), gt_c_put_cp⟩⟩
theorem g_c_put_cp_c_lend_c_57 : GoodIn v_c_put_cp (wsV RX5 57 RX7 yX7_lend v_c_lend_c) := goodIn_app (goodIn_r [.methodLink RX5 57 yX7_lend, .instanceMethod yX7_lend, .selects RX7 yX7_lend yX7_lend, .initialized RX7] [4, 5, 6, 3] (by decide +kernel) (by decide +kernel)) (fun w h => ⟨ic_c_put_cp_c_lend_c w h, good_of_word (gw_c_lend_c w h)⟩)
theorem g_c_put_cp_c_lengthen_64 : GoodIn v_c_put_cp (wsV RX5 64 RX5 yX5_lengthen v_c_lengthen) := goodIn_app (goodIn_r [.methodLink RX5 64 yX5_lengthen, .instanceMethod yX5_lengthen, .selects RX5 yX5_lengthen yX5_lengthen, .initialized RX5] [8, 9, 10, 7] (by decide +kernel) (by decide +kernel)) (fun w h => ⟨ic_c_put_cp_c_lengthen w h, good_of_word (gw_c_lengthen w h)⟩)
set_option maxHeartbeats 4000000 in
set_option maxRecDepth 100000 in
/-- Row.put on an empty row -/
theorem c_put_cp (l : Launch) (dC : Nat → ClassId) (dI : Nat → Nat → Nat) (r : Nat) (rh : Int32) (rl : Int32) (st : Nat) (rf : Nat) (hp : Int32) (tp : Int32) (ml : Nat) (ck : Nat) (ce : Nat) (cJ : ClassId) (fE : Nat → Int64) (mm : Nat) (mi : Nat) (mt : Nat) (mg : Nat) (ms : Nat) (sd : Int32) (to : Nat) (ki : Nat) (se : Nat) (th : Nat) (sz : Nat) (h_to : to < 256) (h_ki : ki < 256) (h_se : se < 256) (h_th : th < 256) (hmi : mi < 8) (hki : ki = 235) : Met l yX5_put v_c_put_cp ({ frames := 1, cells := 0, slots := 0, locals := 21 }) (va_Pc [.ref r, .ref mm, .int (nI to), .int (nI ki), .int (nI se), .int (nI th)] (fun U => U.heap.size = sz ∧ va_P (dC, dI) vwCl [(r, .inr (6, [.int rh, .int rl, .ref st, .null, .null, .int hp, .int tp, .int 0, .int 0, .int 0, .ref rf, .int 0])), (st, .inr (8, [.ref ml, .ref ck])), (ck, .inr (1, [.ref ce, .null])), (ce, .inl (cJ, 128, .inr (.inl fE))), (mm, .inr (4, [.int (nI mi), .int (nI mt), .int (nI mg), .int (nI ms), .int sd, .null]))] U.heap ∧ va_K (dC, dI) vwCl [(cJ, .long)] U ∧ va_D (fun _ => True) [(r, .inr (6, [.int rh, .int rl, .ref st, .null, .null, .int hp, .int tp, .int 0, .int 0, .int 0, .ref rf, .int 0])), (st, .inr (8, [.ref ml, .ref ck])), (ck, .inr (1, [.ref ce, .null])), (ce, .inl (cJ, 128, .inr (.inl fE))), (mm, .inr (4, [.int (nI mi), .int (nI mt), .int (nI mg), .int (nI ms), .int sd, .null]))] ∧ ev U)) (va_Qv (fun _ : Unit => True) (fun (_ : Unit) (t : State) => ∃ (fE2 : Nat → Int64), va_P (dC, dI) vwCl [(r, .inr (6, [.int rh, .int rl, .ref st, .ref ck, .ref ck, .int 0, .int 1, .int (nI se), .int 0, .int 0, .ref rf, .int 0])), (st, .inr (8, [.ref ml, .null])), (ck, .inr (1, [.ref ce, .null])), (ce, .inl (cJ, 128, .inr (.inl fE2))), (mm, .inr (4, [.int (nI mi), .int (nI mt), .int (nI mg), .int (nI ms), .int sd, .null]))] t.heap ∧ va_K (dC, dI) vwCl [(cJ, .long)] t ∧ va_D (va_A [(r, .inr (6, [.int rh, .int rl, .ref st, .null, .null, .int hp, .int tp, .int 0, .int 0, .int 0, .ref rf, .int 0])), (st, .inr (8, [.ref ml, .ref ck])), (ck, .inr (1, [.ref ce, .null])), (ce, .inl (cJ, 128, .inr (.inl fE))), (mm, .inr (4, [.int (nI mi), .int (nI mt), .int (nI mg), .int (nI ms), .int sd, .null]))] sz) [(r, .inr (6, [.int rh, .int rl, .ref st, .ref ck, .ref ck, .int 0, .int 1, .int (nI se), .int 0, .int 0, .ref rf, .int 0])), (st, .inr (8, [.ref ml, .null])), (ck, .inr (1, [.ref ce, .null])), (ce, .inl (cJ, 128, .inr (.inl fE2))), (mm, .inr (4, [.int (nI mi), .int (nI mt), .int (nI mg), .int (nI ms), .int sd, .null]))] ∧ ((fE2 0).toInt32 = (nI (16777216 * to + 65536 * ki + 256 * se + th))) ∧ ((fE2 0 >>> ((32 : Int32).toInt64 &&& 63)).toInt32 = (nI mi))) (va_A [(r, .inr (6, [.int rh, .int rl, .ref st, .null, .null, .int hp, .int tp, .int 0, .int 0, .int 0, .ref rf, .int 0])), (st, .inr (8, [.ref ml, .ref ck])), (ck, .inr (1, [.ref ce, .null])), (ce, .inl (cJ, 128, .inr (.inl fE))), (mm, .inr (4, [.int (nI mi), .int (nI mt), .int (nI mg), .int (nI ms), .int sd, .null]))] sz)) 0 0 (va_A [(r, .inr (6, [.int rh, .int rl, .ref st, .null, .null, .int hp, .int tp, .int 0, .int 0, .int 0, .ref rf, .int 0])), (st, .inr (8, [.ref ml, .ref ck])), (ck, .inr (1, [.ref ce, .null])), (ce, .inl (cJ, 128, .inr (.inl fE))), (mm, .inr (4, [.int (nI mi), .int (nI mt), .int (nI mg), .int (nI ms), .int sd, .null]))] sz) := by
  refine Met.ofW (cc := cX5_put) (maxL := 8) (ret := none) (by decide) rfl ?_
  intro p e s m args below meth c s₁ B hml hv
  obtain ⟨rfl, hsz, hP, hK, hD0, hE⟩ := hv
  have hx := B.exec
  have hb := B.bytes
  have hr := B.returns
  have hts := atoms_spec (ws := v_c_put_cp) B.pre
  have hown : s.vm.findClass RX5 = some m.cls := findClass_of_methodNamed B.named
  have hlocks := B.notSynchronized
  subst hsz
  have hD := hD0.self (sz := s.heap.size)
  generalize hAe : va_A [(r, .inr (6, [.int rh, .int rl, .ref st, .null, .null, .int hp, .int tp, .int 0, .int 0, .int 0, .ref rf, .int 0])), (st, .inr (8, [.ref ml, .ref ck])), (ck, .inr (1, [.ref ce, .null])), (ce, .inl (cJ, 128, .inr (.inl fE))), (mm, .inr (4, [.int (nI mi), .int (nI mt), .int (nI mg), .int (nI ms), .int sd, .null]))] s.heap.size = A at hD ⊢
  have hA : ∀ q : Nat, s.heap.size ≤ q → A q := fun q h => by rw [← hAe]; exact Or.inr h
  have hS : va_S A s.heap s.heap [] := va_S.rf
  replace hP : va_P (dC, dI) vwCl [(r, .inr (6, [.int rh, .int rl, .ref st, .null, .null, .int hp, .int tp, .int 0, .int 0, .int 0, .ref rf, .int 0])), (st, .inr (8, [.ref ml, .ref ck])), (ck, .inr (1, [.ref ce, .null])), (ce, .inl (cJ, 128, .inr (.inl fE))), (mm, .inr (4, [.int (nI mi), .int (nI mt), .int (nI mg), .int (nI ms), .int sd, .null]))] s.heap := hP
  have hl := lv_entry ([.ref r, .ref mm, .int (nI to), .int (nI ki), .int (nI se), .int (nI th)]) (n := 8) (Nat.le_of_ble_eq_true rfl)
  rw [lg_entry_eq]
  generalize (lg_sl ([.ref r, .ref mm, .int (nI to), .int (nI ki), .int (nI se), .int (nI th)]) ++ List.replicate (8 - (lg_sl ([.ref r, .ref mm, .int (nI to), .int (nI ki), .int (nI se), .int (nI th)])).length) Slot.unset).toArray = ls at hl ⊢
  replace hl : lv_has ls 8 [(0, .ref r), (1, .ref mm), (2, .int (nI to)), (3, .int (nI ki)), (4, .int (nI se)), (5, .int (nI th))] := hl
  obtain ⟨H, hH⟩ : ∃ z : Heap, z = s.heap := ⟨_, rfl⟩
  rw [← hH]
  replace hS : va_S A s.heap H [] := by rw [hH]; exact va_S.rf
  replace hP : va_P (dC, dI) vwCl [(r, .inr (6, [.int rh, .int rl, .ref st, .null, .null, .int hp, .int tp, .int 0, .int 0, .int 0, .ref rf, .int 0])), (st, .inr (8, [.ref ml, .ref ck])), (ck, .inr (1, [.ref ce, .null])), (ce, .inl (cJ, 128, .inr (.inl fE))), (mm, .inr (4, [.int (nI mi), .int (nI mt), .int (nI mg), .int (nI ms), .int sd, .null]))] H := by rw [hH]; exact hP
  clear hH
  refine lv_aload_n hx hb dX5_put_0 rfl (lv_at hl 0 rfl) ?_
  refine va_get (D := (dC, dI)) (ci := 6) (v := .null) (C := RX5) (T := TX5) (N := 12) hx hb hts in_c_put_cp_X5 hown hK hP 0 rfl rfl 4 (by decide) (hts (.fieldLink RX5 15 "ClaimBus$Row" "tail" "LClaimBus$Chunk;") (List.mem_of_getElem? (i := 1) rfl)) (fun _ h9 => h9) rfl dX5_put_1 ?_
  refine lv_ifnullN (tgt := 17) hx hb dX5_put_4 (by decide) ?_
  refine lv_aload_n hx hb dX5_put_17 rfl (lv_at hl 0 rfl) ?_
  refine va_get (D := (dC, dI)) (ci := 6) (v := .ref st) (C := RX5) (T := TX5) (N := 12) hx hb hts in_c_put_cp_X5 hown hK hP 0 rfl rfl 2 (by decide) (hts (.fieldLink RX5 51 "ClaimBus$Row" "store" "LClaimBus$Store;") (List.mem_of_getElem? (i := 2) rfl)) (fun _ h9 => h9) rfl dX5_put_18 ?_
  have hPc := hP.sub (ws' := [(st, .inr (8, [.ref ml, .ref ck])), (ck, .inr (1, [.ref ce, .null]))]) [1, 2] rfl
  have hDc := hD.sub (ws' := [(st, .inr (8, [.ref ml, .ref ck])), (ck, .inr (1, [.ref ce, .null]))]) [1, 2] (by decide +kernel) rfl
  have hKc := hK.sub (tys' := []) [] rfl
  have hFc := va_free (wc := [(st, .inr (8, [.ref ml, .ref ck])), (ck, .inr (1, [.ref ce, .null]))]) hD hS hA [1, 2] rfl
  refine va_callq (va_runV (As := []) (rest := []) ⟨hx, hb, hml, hown, hts⟩ (c_lend_c l dC dI (st) (ml) (ck) (ce) H.size) (cwV 0 hts g_c_put_cp_c_lend_c_57 rfl rfl rfl (by decide +kernel) ⟨Nat.le_of_ble_eq_true rfl, Nat.le_of_ble_eq_true rfl⟩) ⟨fun a U g mk q => by obtain ⟨q0, q1, qP, qK, qD, qE⟩ := q; exact ⟨q0, q1, qP, va_K.moved (u := U) (U := U.calling g mk a) (Vm.Alike.refl U.vm) qK, qD, ev.same (u := U) (U := U.calling g mk a) rfl qE⟩, va_recv hKc hPc (ci := 8) (q0 := 0) rfl rfl, fun U hU hW => ⟨rfl, by rw [hU], by rw [hU]; exact hPc, va_K.moved hW.alike hKc, hDc.weaken (fun _ _ _ _ => trivial), hE.warm hW⟩⟩ rfl rfl hl.1 rfl (lv_room (Nat.le_of_ble_eq_true rfl)) dX5_put_21 ⟨Nat.le_of_ble_eq_true rfl, Nat.le_of_ble_eq_true rfl⟩) hS (fun q _ h => hFc q h) hFc (fun r_1 u t H1 locs ht hvm hw hB hz1 hk1 hS => ?_)
  clear hPc hDc hKc
  obtain ⟨hP1, hK1, hD1⟩ := hB
  rw [ht] at hP1
  have hK1 := va_K.moved hvm.symm hK1
  obtain ⟨hP, hD⟩ := va_join (wr := [(r, .inr (6, [.int rh, .int rl, .ref st, .null, .null, .int hp, .int tp, .int 0, .int 0, .int 0, .ref rf, .int 0])), (ce, .inl (cJ, 128, .inr (.inl fE))), (mm, .inr (4, [.int (nI mi), .int (nI mt), .int (nI mg), .int (nI ms), .int sd, .null]))]) (w1 := [(st, .inr (8, [.ref ml, .null])), (ck, .inr (1, [.ref ce, .null]))]) hP hD [1, 2] [0, 3, 4] rfl rfl (by decide +kernel) (by decide +kernel) hk1 hFc hP1 hD1
  generalize H1 = H at hP hS ⊢
  replace hP : va_P (dC, dI) vwCl [(r, .inr (6, [.int rh, .int rl, .ref st, .null, .null, .int hp, .int tp, .int 0, .int 0, .int 0, .ref rf, .int 0])), (ce, .inl (cJ, 128, .inr (.inl fE))), (mm, .inr (4, [.int (nI mi), .int (nI mt), .int (nI mg), .int (nI ms), .int sd, .null])), (st, .inr (8, [.ref ml, .null])), (ck, .inr (1, [.ref ce, .null]))] H := hP
  replace hD : va_D A [(r, .inr (6, [.int rh, .int rl, .ref st, .null, .null, .int hp, .int tp, .int 0, .int 0, .int 0, .ref rf, .int 0])), (ce, .inl (cJ, 128, .inr (.inl fE))), (mm, .inr (4, [.int (nI mi), .int (nI mt), .int (nI mg), .int (nI ms), .int sd, .null])), (st, .inr (8, [.ref ml, .null])), (ck, .inr (1, [.ref ce, .null]))] := hD
  have hw := hw.symm
  subst hw
  refine W.eq (g2 := F0 m 24 ls [.ref ck]) rfl ?_
  refine lv_astore (lv' := [(6, .ref ck), (0, .ref r), (1, .ref mm), (2, .int (nI to)), (3, .int (nI ki)), (4, .int (nI se)), (5, .int (nI th))]) hx hb dX5_put_24 hl (by decide) rfl (fun ls hl => ?_)
  refine lv_aload_n hx hb dX5_put_26 rfl (lv_at hl 1 rfl) ?_
  refine lv_aload hx hb dX5_put_27 (lv_at hl 0 rfl) ?_
  refine lv_ifnonnull (tgt := 42) hx hb dX5_put_29 (by decide) ?_
  refine lv_aload hx hb dX5_put_42 (lv_at hl 0 rfl) ?_
  have hPc := hP.sub (ws' := [(r, .inr (6, [.int rh, .int rl, .ref st, .null, .null, .int hp, .int tp, .int 0, .int 0, .int 0, .ref rf, .int 0]))]) [0] rfl
  have hDc := hD.sub (ws' := [(r, .inr (6, [.int rh, .int rl, .ref st, .null, .null, .int hp, .int tp, .int 0, .int 0, .int 0, .ref rf, .int 0]))]) [0] (by decide +kernel) rfl
  have hKc := hK.sub (tys' := []) [] rfl
  have hFc := va_free (wc := [(r, .inr (6, [.int rh, .int rl, .ref st, .null, .null, .int hp, .int tp, .int 0, .int 0, .int 0, .ref rf, .int 0]))]) hD hS hA [0] rfl
  refine va_callv (va_runV (As := [.ref ck]) (rest := []) ⟨hx, hb, hml, hown, hts⟩ (c_lengthen l dC dI (r) (rh) (rl) (st) (rf) (hp) (tp) (ck) H.size) (cwV 1 hts g_c_put_cp_c_lengthen_64 rfl rfl rfl (by decide +kernel) ⟨Nat.le_of_ble_eq_true rfl, Nat.le_of_ble_eq_true rfl⟩) ⟨fun a U g mk q => by obtain ⟨q0, q1, qP, qK, qD, qE⟩ := q; exact ⟨q0, q1, qP, va_K.moved (u := U) (U := U.calling g mk a) (Vm.Alike.refl U.vm) qK, qD, ev.same (u := U) (U := U.calling g mk a) rfl qE⟩, va_recv hKc hPc (ci := 6) (q0 := 0) rfl rfl, fun U hU hW => ⟨rfl, by rw [hU], by rw [hU]; exact hPc, va_K.moved hW.alike hKc, hDc.weaken (fun _ _ _ _ => trivial), hE.warm hW⟩⟩ rfl rfl hl.1 rfl (lv_room (Nat.le_of_ble_eq_true rfl)) dX5_put_44 ⟨Nat.le_of_ble_eq_true rfl, Nat.le_of_ble_eq_true rfl⟩) hS (fun q _ h => hFc q h) hFc (fun u t H1 locs ht hvm hw hB hz1 hk1 hS => ?_)
  clear hPc hDc hKc
  obtain ⟨hP1, hK1, hD1⟩ := hB
  rw [ht] at hP1
  have hK1 := va_K.moved hvm.symm hK1
  obtain ⟨hP, hD⟩ := va_join (wr := [(ce, .inl (cJ, 128, .inr (.inl fE))), (mm, .inr (4, [.int (nI mi), .int (nI mt), .int (nI mg), .int (nI ms), .int sd, .null])), (st, .inr (8, [.ref ml, .null])), (ck, .inr (1, [.ref ce, .null]))]) (w1 := [(r, .inr (6, [.int rh, .int rl, .ref st, .ref ck, .ref ck, .int 0, .int 0, .int 0, .int 0, .int 0, .ref rf, .int 0]))]) hP hD [0] [1, 2, 3, 4] rfl rfl (by decide +kernel) (by decide +kernel) hk1 hFc hP1 hD1
  generalize H1 = H at hP hS ⊢
  replace hP : va_P (dC, dI) vwCl [(ce, .inl (cJ, 128, .inr (.inl fE))), (mm, .inr (4, [.int (nI mi), .int (nI mt), .int (nI mg), .int (nI ms), .int sd, .null])), (st, .inr (8, [.ref ml, .null])), (ck, .inr (1, [.ref ce, .null])), (r, .inr (6, [.int rh, .int rl, .ref st, .ref ck, .ref ck, .int 0, .int 0, .int 0, .int 0, .int 0, .ref rf, .int 0]))] H := hP
  replace hD : va_D A [(ce, .inl (cJ, 128, .inr (.inl fE))), (mm, .inr (4, [.int (nI mi), .int (nI mt), .int (nI mg), .int (nI ms), .int sd, .null])), (st, .inr (8, [.ref ml, .null])), (ck, .inr (1, [.ref ce, .null])), (r, .inr (6, [.int rh, .int rl, .ref st, .ref ck, .ref ck, .int 0, .int 0, .int 0, .int 0, .int 0, .ref rf, .int 0]))] := hD
  clear hw
  refine lv_aload_n hx hb dX5_put_47 rfl (lv_at hl 2 rfl) ?_
  refine lv_ifnonnull (tgt := 55) hx hb dX5_put_48 (by decide) ?_
  refine lv_aload_n hx hb dX5_put_55 rfl (lv_at hl 2 rfl) ?_
  refine va_get (D := (dC, dI)) (ci := 4) (v := .int (nI mi)) (C := RX3) (T := TX3) (N := 6) hx hb hts in_c_put_cp_X3 hown hK hP 1 rfl rfl 0 (by decide) (hts (.fieldLink RX5 68 "ClaimBus$Message" "index" "I") (List.mem_of_getElem? (i := 11) rfl)) (fun _ h9 => h9) rfl dX5_put_56 ?_
  refine lv_istore (lv' := [(6, .int (nI mi)), (0, .ref r), (1, .ref mm), (2, .int (nI to)), (3, .int (nI ki)), (4, .int (nI se)), (5, .int (nI th))]) hx hb dX5_put_59 hl (by decide) rfl (fun ls hl => ?_)
  refine lv_iload_n hx hb dX5_put_61 rfl (lv_at hl 3 rfl) ?_
  refine lv_bipush (v := 24) hx hb dX5_put_62 (by decide) ?_
  refine lv_ishl hx hb dX5_put_64 ?_
  refine lv_topi (fun x_3 ex_3 => ?_)
  obtain rfl : x_3 = (nI (16777216 * to)) := ex_3.trans ((pk_shlN (n := to) ((24 : Int32) &&& 31) 24 (by decide) (by omega)).trans (show nI (to * 2 ^ 24) = nI (16777216 * to) from congrArg nI (by omega)))
  refine lv_iload_n hx hb dX5_put_65 rfl (lv_at hl 4 rfl) ?_
  refine lv_sipush (v := 255) hx hb dX5_put_66 (by decide) ?_
  refine lv_iand hx hb dX5_put_69 ?_
  refine lv_topi (fun x_4 ex_4 => ?_)
  obtain rfl : x_4 = (nI ki) := ex_4.trans ((pk_andN (n := ki) (m := 255) (by omega) 8 (by decide)).trans (show nI (ki % 2 ^ 8) = nI (ki) from congrArg nI (by omega)))
  refine lv_bipush (v := 16) hx hb dX5_put_70 (by decide) ?_
  refine lv_ishl hx hb dX5_put_72 ?_
  refine lv_topi (fun x_5 ex_5 => ?_)
  obtain rfl : x_5 = (nI (65536 * ki)) := ex_5.trans ((pk_shlN (n := ki) ((16 : Int32) &&& 31) 16 (by decide) (by omega)).trans (show nI (ki * 2 ^ 16) = nI (65536 * ki) from congrArg nI (by omega)))
  refine lv_ior hx hb dX5_put_73 ?_
  refine lv_topi (fun x_6 ex_6 => ?_)
  obtain rfl : x_6 = (nI (65536 * ki + 16777216 * to)) := ex_6.trans ((q_or (16777216 * to) (65536 * ki) 24 (by omega) (by omega) (by omega)).trans (show nI ((16777216 * to) + (65536 * ki)) = nI (65536 * ki + 16777216 * to) from congrArg nI (by omega)))
  refine lv_iload hx hb dX5_put_74 (lv_at hl 5 rfl) ?_
  refine lv_sipush (v := 255) hx hb dX5_put_76 (by decide) ?_
  refine lv_iand hx hb dX5_put_79 ?_
  refine lv_topi (fun x_7 ex_7 => ?_)
  obtain rfl : x_7 = (nI se) := ex_7.trans ((pk_andN (n := se) (m := 255) (by omega) 8 (by decide)).trans (show nI (se % 2 ^ 8) = nI (se) from congrArg nI (by omega)))
  refine lv_bipush (v := 8) hx hb dX5_put_80 (by decide) ?_
  refine lv_ishl hx hb dX5_put_82 ?_
  refine lv_topi (fun x_8 ex_8 => ?_)
  obtain rfl : x_8 = (nI (256 * se)) := ex_8.trans ((pk_shlN (n := se) ((8 : Int32) &&& 31) 8 (by decide) (by omega)).trans (show nI (se * 2 ^ 8) = nI (256 * se) from congrArg nI (by omega)))
  refine lv_ior hx hb dX5_put_83 ?_
  refine lv_topi (fun x_9 ex_9 => ?_)
  obtain rfl : x_9 = (nI (65536 * ki + 256 * se + 16777216 * to)) := ex_9.trans ((q_or (65536 * ki + 16777216 * to) (256 * se) 16 (by omega) (by omega) (by omega)).trans (show nI ((65536 * ki + 16777216 * to) + (256 * se)) = nI (65536 * ki + 256 * se + 16777216 * to) from congrArg nI (by omega)))
  refine lv_iload hx hb dX5_put_84 (lv_at hl 6 rfl) ?_
  refine lv_sipush (v := 255) hx hb dX5_put_86 (by decide) ?_
  refine lv_iand hx hb dX5_put_89 ?_
  refine lv_topi (fun x_10 ex_10 => ?_)
  obtain rfl : x_10 = (nI th) := ex_10.trans ((pk_andN (n := th) (m := 255) (by omega) 8 (by decide)).trans (show nI (th % 2 ^ 8) = nI (th) from congrArg nI (by omega)))
  refine lv_ior hx hb dX5_put_90 ?_
  refine lv_topi (fun x_11 ex_11 => ?_)
  obtain rfl : x_11 = (nI (65536 * ki + 256 * se + th + 16777216 * to)) := ex_11.trans ((q_or (65536 * ki + 256 * se + 16777216 * to) th 8 (by omega) (by omega) (by omega)).trans (show nI ((65536 * ki + 256 * se + 16777216 * to) + th) = nI (65536 * ki + 256 * se + th + 16777216 * to) from congrArg nI (by omega)))
  refine lv_istore (lv' := [(7, .int (nI (65536 * ki + 256 * se + th + 16777216 * to))), (6, .int (nI mi)), (0, .ref r), (1, .ref mm), (2, .int (nI to)), (3, .int (nI ki)), (4, .int (nI se)), (5, .int (nI th))]) hx hb dX5_put_91 hl (by decide) rfl (fun ls hl => ?_)
  refine lv_aload_n hx hb dX5_put_93 rfl (lv_at hl 2 rfl) ?_
  refine va_get (D := (dC, dI)) (ci := 6) (v := .ref ck) (C := RX5) (T := TX5) (N := 12) hx hb hts in_c_put_cp_X5 hown hK hP 4 rfl rfl 4 (by decide) (hts (.fieldLink RX5 15 "ClaimBus$Row" "tail" "LClaimBus$Chunk;") (List.mem_of_getElem? (i := 1) rfl)) (fun _ h9 => h9) rfl dX5_put_94 ?_
  refine lv_ifnull hx hb dX5_put_97 ?_
  refine lv_aload_n hx hb dX5_put_100 rfl (lv_at hl 2 rfl) ?_
  refine va_get (D := (dC, dI)) (ci := 6) (v := .int 0) (C := RX5) (T := TX5) (N := 12) hx hb hts in_c_put_cp_X5 hown hK hP 4 rfl rfl 6 (by decide) (hts (.fieldLink RX5 22 "ClaimBus$Row" "tailPlace" "I") (List.mem_of_getElem? (i := 12) rfl)) (fun _ h9 => h9) rfl dX5_put_101 ?_
  refine lv_if_lt (tgt := 180) hx hb dX5_put_104 (by decide) (fun c_12 => ?_) (fun c_12 => ?_)
  · exact absurd c_12 (by decide)
  refine lv_aload_n hx hb dX5_put_107 rfl (lv_at hl 2 rfl) ?_
  refine va_get (D := (dC, dI)) (ci := 6) (v := .int 0) (C := RX5) (T := TX5) (N := 12) hx hb hts in_c_put_cp_X5 hown hK hP 4 rfl rfl 6 (by decide) (hts (.fieldLink RX5 22 "ClaimBus$Row" "tailPlace" "I") (List.mem_of_getElem? (i := 12) rfl)) (fun _ h9 => h9) rfl dX5_put_108 ?_
  refine lv_aload_n hx hb dX5_put_111 rfl (lv_at hl 2 rfl) ?_
  refine va_get (D := (dC, dI)) (ci := 6) (v := .ref ck) (C := RX5) (T := TX5) (N := 12) hx hb hts in_c_put_cp_X5 hown hK hP 4 rfl rfl 4 (by decide) (hts (.fieldLink RX5 15 "ClaimBus$Row" "tail" "LClaimBus$Chunk;") (List.mem_of_getElem? (i := 1) rfl)) (fun _ h9 => h9) rfl dX5_put_112 ?_
  refine va_get (D := (dC, dI)) (ci := 1) (v := .ref ce) (C := RX0) (T := TX0) (N := 2) hx hb hts in_c_put_cp_X0 hown hK hP 3 rfl rfl 0 (by decide) (hts (.fieldLink RX5 73 "ClaimBus$Chunk" "entries" "[J") (List.mem_of_getElem? (i := 13) rfl)) (fun _ h9 => h9) rfl dX5_put_115 ?_
  refine va_alen hx hb hK hP 0 0 rfl rfl (v := 128) rfl dX5_put_118 ?_
  refine lv_icmp_ge (tgt := 180) hx hb dX5_put_119 (by decide) (fun c_13 => ?_) (fun c_13 => ?_)
  · exact absurd c_13 (by decide)
  refine lv_aload_n hx hb dX5_put_122 rfl (lv_at hl 2 rfl) ?_
  refine va_get (D := (dC, dI)) (ci := 6) (v := .ref ck) (C := RX5) (T := TX5) (N := 12) hx hb hts in_c_put_cp_X5 hown hK hP 4 rfl rfl 4 (by decide) (hts (.fieldLink RX5 15 "ClaimBus$Row" "tail" "LClaimBus$Chunk;") (List.mem_of_getElem? (i := 1) rfl)) (fun _ h9 => h9) rfl dX5_put_123 ?_
  refine va_get (D := (dC, dI)) (ci := 1) (v := .ref ce) (C := RX0) (T := TX0) (N := 2) hx hb hts in_c_put_cp_X0 hown hK hP 3 rfl rfl 0 (by decide) (hts (.fieldLink RX5 73 "ClaimBus$Chunk" "entries" "[J") (List.mem_of_getElem? (i := 13) rfl)) (fun _ h9 => h9) rfl dX5_put_126 ?_
  refine lv_aload_n hx hb dX5_put_129 rfl (lv_at hl 2 rfl) ?_
  refine va_get (D := (dC, dI)) (ci := 6) (v := .int 0) (C := RX5) (T := TX5) (N := 12) hx hb hts in_c_put_cp_X5 hown hK hP 4 rfl rfl 6 (by decide) (hts (.fieldLink RX5 22 "ClaimBus$Row" "tailPlace" "I") (List.mem_of_getElem? (i := 12) rfl)) (fun _ h9 => h9) rfl dX5_put_130 ?_
  refine lv_iload hx hb dX5_put_133 (lv_at hl 1 rfl) ?_
  refine lv_i2l hx hb dX5_put_135 rfl ?_
  refine lv_bipush (v := 32) hx hb dX5_put_136 (by decide) ?_
  refine lv_lshl hx hb dX5_put_138 rfl ?_
  refine lv_iload hx hb dX5_put_139 (lv_at hl 0 rfl) ?_
  refine lv_i2l hx hb dX5_put_141 rfl ?_
  refine lv_ldc2 hx hb hown (hts (.constantLong RX5 77 (4294967295)) (List.mem_of_getElem? (i := 14) rfl)) dX5_put_142 ?_
  refine lv_land hx hb dX5_put_145 ?_
  refine lv_lor hx hb dX5_put_146 ?_
  refine va_last hx hb hK hP hD hS 0 0 rfl rfl (vp_in_nI (n := 0) (by omega) (by omega)) dX5_put_147 (fun H locs hP hD hS => ?_)
  obtain ⟨f_14, ef_14⟩ : ∃ z : Nat → Int64, z = vp_updL fE 0 (((((nI mi).toInt64) <<< ((32 : Int32).toInt64 &&& 63)) ||| (((nI (65536 * ki + 256 * se + th + 16777216 * to)).toInt64) &&& 4294967295))) := ⟨_, rfl⟩
  rw [(show Int32.toNatClampNeg (0 : Int32) = 0 by decide)] at hP hD
  replace hP : va_P (dC, dI) vwCl [(ce, .inl (cJ, 128, .inr (.inl f_14))), (mm, .inr (4, [.int (nI mi), .int (nI mt), .int (nI mg), .int (nI ms), .int sd, .null])), (st, .inr (8, [.ref ml, .null])), (ck, .inr (1, [.ref ce, .null])), (r, .inr (6, [.int rh, .int rl, .ref st, .ref ck, .ref ck, .int 0, .int 0, .int 0, .int 0, .int 0, .ref rf, .int 0]))] H := by rw [ef_14]; exact hP
  replace hD : va_D A [(ce, .inl (cJ, 128, .inr (.inl f_14))), (mm, .inr (4, [.int (nI mi), .int (nI mt), .int (nI mg), .int (nI ms), .int sd, .null])), (st, .inr (8, [.ref ml, .null])), (ck, .inr (1, [.ref ce, .null])), (r, .inr (6, [.int rh, .int rl, .ref st, .ref ck, .ref ck, .int 0, .int 0, .int 0, .int 0, .int 0, .ref rf, .int 0]))] := by rw [ef_14]; exact hD
  refine lv_aload_n hx hb dX5_put_148 rfl (lv_at hl 2 rfl) ?_
  refine lv_dup hx hb dX5_put_149 rfl ?_
  refine va_get (D := (dC, dI)) (ci := 6) (v := .int 0) (C := RX5) (T := TX5) (N := 12) hx hb hts in_c_put_cp_X5 hown hK hP 4 rfl rfl 6 (by decide) (hts (.fieldLink RX5 22 "ClaimBus$Row" "tailPlace" "I") (List.mem_of_getElem? (i := 12) rfl)) (fun _ h9 => h9) rfl dX5_put_150 ?_
  refine lv_iconst (v := 1) hx hb dX5_put_153 (by decide) ?_
  refine lv_iadd hx hb dX5_put_154 ?_
  refine lv_topi (fun x_15 ex_15 => ?_)
  obtain rfl : x_15 = 1 := ex_15.trans (by decide)
  refine va_put (D := (dC, dI)) (ci := 6) (v := .int 1) (ty := .int) (C := RX5) (T := TX5) (N := 12) hx hb hts in_c_put_cp_X5 tyX5 tyX5_ok nmX5 hown hK hP hD hS 4 rfl rfl 6 (by decide) (hts (.fieldLink RX5 22 "ClaimBus$Row" "tailPlace" "I") (List.mem_of_getElem? (i := 12) rfl)) (fun _ h9 => h9) rfl (by decide +kernel) rfl rfl (Nat.le_of_ble_eq_true rfl) dX5_put_155 (fun H locs hP hD hS => ?_)
  replace hP : va_P (dC, dI) vwCl [(ce, .inl (cJ, 128, .inr (.inl f_14))), (mm, .inr (4, [.int (nI mi), .int (nI mt), .int (nI mg), .int (nI ms), .int sd, .null])), (st, .inr (8, [.ref ml, .null])), (ck, .inr (1, [.ref ce, .null])), (r, .inr (6, [.int rh, .int rl, .ref st, .ref ck, .ref ck, .int 0, .int 1, .int 0, .int 0, .int 0, .ref rf, .int 0]))] H := hP
  replace hD : va_D A [(ce, .inl (cJ, 128, .inr (.inl f_14))), (mm, .inr (4, [.int (nI mi), .int (nI mt), .int (nI mg), .int (nI ms), .int sd, .null])), (st, .inr (8, [.ref ml, .null])), (ck, .inr (1, [.ref ce, .null])), (r, .inr (6, [.int rh, .int rl, .ref st, .ref ck, .ref ck, .int 0, .int 1, .int 0, .int 0, .int 0, .ref rf, .int 0]))] := hD
  refine lv_aload_n hx hb dX5_put_158 rfl (lv_at hl 2 rfl) ?_
  refine lv_dup hx hb dX5_put_159 rfl ?_
  refine va_get (D := (dC, dI)) (ci := 6) (v := .int 0) (C := RX5) (T := TX5) (N := 12) hx hb hts in_c_put_cp_X5 hown hK hP 4 rfl rfl 7 (by decide) (hts (.fieldLink RX5 25 "ClaimBus$Row" "frames" "I") (List.mem_of_getElem? (i := 15) rfl)) (fun _ h9 => h9) rfl dX5_put_160 ?_
  refine lv_iload_n hx hb dX5_put_163 rfl (lv_at hl 5 rfl) ?_
  refine lv_sipush (v := 235) hx hb dX5_put_164 (by decide) ?_
  refine lv_icmp_ne (tgt := 175) hx hb dX5_put_167 (by decide) (fun c_16 => ?_) (fun c_16 => ?_)
  · exact absurd ((nI_eq (a := ki) (b := 235) (by omega) (by omega)).mpr (by omega)) c_16
  refine lv_iload hx hb dX5_put_170 (lv_at hl 6 rfl) ?_
  refine lv_goto (tgt := 176) hx hb dX5_put_172 (by decide) ?_
  refine lv_iadd hx hb dX5_put_176 ?_
  refine lv_topi (fun x_17 ex_17 => ?_)
  obtain rfl : x_17 = (nI se) := ex_17.trans ((nI_add 0 se).trans (show nI (0 + se) = nI (se) from congrArg nI (by omega)))
  refine va_put (D := (dC, dI)) (ci := 6) (v := .int (nI se)) (ty := .int) (C := RX5) (T := TX5) (N := 12) hx hb hts in_c_put_cp_X5 tyX5 tyX5_ok nmX5 hown hK hP hD hS 4 rfl rfl 7 (by decide) (hts (.fieldLink RX5 25 "ClaimBus$Row" "frames" "I") (List.mem_of_getElem? (i := 15) rfl)) (fun _ h9 => h9) rfl (by decide +kernel) rfl rfl (Nat.le_of_ble_eq_true rfl) dX5_put_177 (fun H locs hP hD hS => ?_)
  replace hP : va_P (dC, dI) vwCl [(ce, .inl (cJ, 128, .inr (.inl f_14))), (mm, .inr (4, [.int (nI mi), .int (nI mt), .int (nI mg), .int (nI ms), .int sd, .null])), (st, .inr (8, [.ref ml, .null])), (ck, .inr (1, [.ref ce, .null])), (r, .inr (6, [.int rh, .int rl, .ref st, .ref ck, .ref ck, .int 0, .int 1, .int (nI se), .int 0, .int 0, .ref rf, .int 0]))] H := hP
  replace hD : va_D A [(ce, .inl (cJ, 128, .inr (.inl f_14))), (mm, .inr (4, [.int (nI mi), .int (nI mt), .int (nI mg), .int (nI ms), .int sd, .null])), (st, .inr (8, [.ref ml, .null])), (ck, .inr (1, [.ref ce, .null])), (r, .inr (6, [.int rh, .int rl, .ref st, .ref ck, .ref ck, .int 0, .int 1, .int (nI se), .int 0, .int 0, .ref rf, .int 0]))] := hD
  have hP9 := hP.sub (ws' := [(r, .inr (6, [.int rh, .int rl, .ref st, .ref ck, .ref ck, .int 0, .int 1, .int (nI se), .int 0, .int 0, .ref rf, .int 0])), (st, .inr (8, [.ref ml, .null])), (ck, .inr (1, [.ref ce, .null])), (ce, .inl (cJ, 128, .inr (.inl f_14))), (mm, .inr (4, [.int (nI mi), .int (nI mt), .int (nI mg), .int (nI ms), .int sd, .null]))]) [4, 2, 3, 0, 1] rfl
  have hD9 := hD.sub (ws' := [(r, .inr (6, [.int rh, .int rl, .ref st, .ref ck, .ref ck, .int 0, .int 1, .int (nI se), .int 0, .int 0, .ref rf, .int 0])), (st, .inr (8, [.ref ml, .null])), (ck, .inr (1, [.ref ce, .null])), (ce, .inl (cJ, 128, .inr (.inl f_14))), (mm, .inr (4, [.int (nI mi), .int (nI mt), .int (nI mg), .int (nI ms), .int sd, .null]))]) [4, 2, 3, 0, 1] (by decide +kernel) rfl
  have hK9 := hK.sub (tys' := [(cJ, .long)]) [0] rfl
  exact W.vret hx hb hr (fun t ht hW => ⟨⟨(), rfl, trivial, ⟨f_14, by rw [ht]; exact hP9, va_K.moved hW.alike hK9, hD9, by rw [ef_14, show vp_updL fE 0 (((((nI mi).toInt64) <<< ((32 : Int32).toInt64 &&& 63)) ||| (((nI (65536 * ki + 256 * se + th + 16777216 * to)).toInt64) &&& 4294967295))) 0 = ((((nI mi).toInt64) <<< ((32 : Int32).toInt64 &&& 63)) ||| (((nI (65536 * ki + 256 * se + th + 16777216 * to)).toInt64) &&& 4294967295)) from pk_uLs]; exact (ent_lo _ _).trans (congrArg nI (by omega)), by rw [ef_14, show vp_updL fE 0 (((((nI mi).toInt64) <<< ((32 : Int32).toInt64 &&& 63)) ||| (((nI (65536 * ki + 256 * se + th + 16777216 * to)).toInt64) &&& 4294967295))) 0 = ((((nI mi).toInt64) <<< ((32 : Int32).toInt64 &&& 63)) ||| (((nI (65536 * ki + 256 * se + th + 16777216 * to)).toInt64) &&& 4294967295)) from pk_uLs]; exact ent_hi _ _⟩⟩, hS.F ht⟩) hS.2.2 dX5_put_180

noncomputable def tl_c_firstEntry : List Cond := wsX50 ++ (wsX00)
noncomputable def v_c_firstEntry : List Cond := .code yX5_firstEntry cX5_firstEntry 2 (some .long) :: ([.fieldLink RX5 9 "ClaimBus$Row" "head" "LClaimBus$Chunk;", .fieldLink RX5 18 "ClaimBus$Row" "headPlace" "I", .fieldLink RX5 73 "ClaimBus$Chunk" "entries" "[J"] ++ tl_c_firstEntry)
theorem it_c_firstEntry : ∀ w ∈ tl_c_firstEntry, w ∈ v_c_firstEntry := fun w h => List.mem_cons_of_mem _ (List.mem_append_right _ h)
theorem in_c_firstEntry_X5 : ∀ w ∈ wsX50, w ∈ v_c_firstEntry := fun w h => it_c_firstEntry w (List.mem_append_left _ h)
theorem in_c_firstEntry_X0 : ∀ w ∈ wsX00, w ∈ v_c_firstEntry := fun w h => it_c_firstEntry w (List.mem_append_right _ (h))
theorem gt_c_firstEntry : ∀ w ∈ tl_c_firstEntry, goodWord w = true := List.forall_mem_append.mpr ⟨gw_wsX50, gw_wsX00⟩
theorem gw_c_firstEntry : ∀ w ∈ v_c_firstEntry, goodWord w = true := List.forall_mem_cons.mpr ⟨by decide +kernel, List.forall_mem_append.mpr ⟨List.all_eq_true.mp (by decide +kernel), gt_c_firstEntry⟩⟩
set_option maxHeartbeats 4000000 in
set_option maxRecDepth 100000 in
theorem c_firstEntry (l : Launch) (dC : Nat → ClassId) (dI : Nat → Nat → Nat) (r : Nat) (rh : Int32) (rl : Int32) (st : Nat) (rf : Nat) (nf : Nat) (ng : Nat) (ck : Nat) (ce : Nat) (cJ : ClassId) (fE : Nat → Int64) (sz : Nat)  : Met l yX5_firstEntry v_c_firstEntry ({ frames := 0, cells := 0, slots := 0, locals := 0 }) (va_Pc [.ref r] (fun U => U.heap.size = sz ∧ va_P (dC, dI) vwCl [(r, .inr (6, [.int rh, .int rl, .ref st, .ref ck, .ref ck, .int 0, .int 1, .int (nI nf), .int (nI ng), .int 0, .ref rf, .int 0])), (ck, .inr (1, [.ref ce, .null])), (ce, .inl (cJ, 128, .inr (.inl fE)))] U.heap ∧ va_K (dC, dI) vwCl [(cJ, .long)] U ∧ va_D (fun _ => True) [(r, .inr (6, [.int rh, .int rl, .ref st, .ref ck, .ref ck, .int 0, .int 1, .int (nI nf), .int (nI ng), .int 0, .ref rf, .int 0])), (ck, .inr (1, [.ref ce, .null])), (ce, .inl (cJ, 128, .inr (.inl fE)))] ∧ ev U)) (va_Ql (fun (r : Int64) (_ : Unit) => r = fE 0) (fun (_ : Unit) (_ : State) => True) (va_A [] sz)) 0 0 (va_A [] sz) := by
  refine Met.ofW (cc := cX5_firstEntry) (maxL := 2) (ret := (some .long)) (by decide) rfl ?_
  intro p e s m args below meth c s₁ B hml hv
  obtain ⟨rfl, hsz, hP, hK, hD0, hE⟩ := hv
  have hx := B.exec
  have hb := B.bytes
  have hr := B.returns
  have hts := atoms_spec (ws := v_c_firstEntry) B.pre
  have hown : s.vm.findClass RX5 = some m.cls := findClass_of_methodNamed B.named
  have hlocks := B.notSynchronized
  subst hsz
  have hD := hD0
  generalize hAe : va_A [] s.heap.size = A
  have hA : ∀ q : Nat, s.heap.size ≤ q → A q := fun q h => by rw [← hAe]; exact Or.inr h
  have hS : va_S A s.heap s.heap [] := va_S.rf
  replace hP : va_P (dC, dI) vwCl [(r, .inr (6, [.int rh, .int rl, .ref st, .ref ck, .ref ck, .int 0, .int 1, .int (nI nf), .int (nI ng), .int 0, .ref rf, .int 0])), (ck, .inr (1, [.ref ce, .null])), (ce, .inl (cJ, 128, .inr (.inl fE)))] s.heap := hP
  have hl := lv_entry ([.ref r]) (n := 2) (Nat.le_of_ble_eq_true rfl)
  rw [lg_entry_eq]
  generalize (lg_sl ([.ref r]) ++ List.replicate (2 - (lg_sl ([.ref r])).length) Slot.unset).toArray = ls at hl ⊢
  replace hl : lv_has ls 2 [(0, .ref r)] := hl
  obtain ⟨H, hH⟩ : ∃ z : Heap, z = s.heap := ⟨_, rfl⟩
  rw [← hH]
  replace hS : va_S A s.heap H [] := by rw [hH]; exact va_S.rf
  replace hP : va_P (dC, dI) vwCl [(r, .inr (6, [.int rh, .int rl, .ref st, .ref ck, .ref ck, .int 0, .int 1, .int (nI nf), .int (nI ng), .int 0, .ref rf, .int 0])), (ck, .inr (1, [.ref ce, .null])), (ce, .inl (cJ, 128, .inr (.inl fE)))] H := by rw [hH]; exact hP
  clear hH
  refine lv_aload_n hx hb dX5_firstEntry_0 rfl (lv_at hl 0 rfl) ?_
  refine va_get (D := (dC, dI)) (ci := 6) (v := .ref ck) (C := RX5) (T := TX5) (N := 12) hx hb hts in_c_firstEntry_X5 hown hK hP 0 rfl rfl 3 (by decide) (hts (.fieldLink RX5 9 "ClaimBus$Row" "head" "LClaimBus$Chunk;") (List.mem_of_getElem? (i := 1) rfl)) (fun _ h9 => h9) rfl dX5_firstEntry_1 ?_
  refine lv_ifnull hx hb dX5_firstEntry_4 ?_
  refine lv_aload_n hx hb dX5_firstEntry_7 rfl (lv_at hl 0 rfl) ?_
  refine va_get (D := (dC, dI)) (ci := 6) (v := .int 0) (C := RX5) (T := TX5) (N := 12) hx hb hts in_c_firstEntry_X5 hown hK hP 0 rfl rfl 5 (by decide) (hts (.fieldLink RX5 18 "ClaimBus$Row" "headPlace" "I") (List.mem_of_getElem? (i := 2) rfl)) (fun _ h9 => h9) rfl dX5_firstEntry_8 ?_
  refine lv_if_lt (tgt := 33) hx hb dX5_firstEntry_11 (by decide) (fun c_1 => ?_) (fun c_1 => ?_)
  · exact absurd c_1 (by decide)
  refine lv_aload_n hx hb dX5_firstEntry_14 rfl (lv_at hl 0 rfl) ?_
  refine va_get (D := (dC, dI)) (ci := 6) (v := .int 0) (C := RX5) (T := TX5) (N := 12) hx hb hts in_c_firstEntry_X5 hown hK hP 0 rfl rfl 5 (by decide) (hts (.fieldLink RX5 18 "ClaimBus$Row" "headPlace" "I") (List.mem_of_getElem? (i := 2) rfl)) (fun _ h9 => h9) rfl dX5_firstEntry_15 ?_
  refine lv_aload_n hx hb dX5_firstEntry_18 rfl (lv_at hl 0 rfl) ?_
  refine va_get (D := (dC, dI)) (ci := 6) (v := .ref ck) (C := RX5) (T := TX5) (N := 12) hx hb hts in_c_firstEntry_X5 hown hK hP 0 rfl rfl 3 (by decide) (hts (.fieldLink RX5 9 "ClaimBus$Row" "head" "LClaimBus$Chunk;") (List.mem_of_getElem? (i := 1) rfl)) (fun _ h9 => h9) rfl dX5_firstEntry_19 ?_
  refine va_get (D := (dC, dI)) (ci := 1) (v := .ref ce) (C := RX0) (T := TX0) (N := 2) hx hb hts in_c_firstEntry_X0 hown hK hP 1 rfl rfl 0 (by decide) (hts (.fieldLink RX5 73 "ClaimBus$Chunk" "entries" "[J") (List.mem_of_getElem? (i := 3) rfl)) (fun _ h9 => h9) rfl dX5_firstEntry_22 ?_
  refine va_alen hx hb hK hP 2 0 rfl rfl (v := 128) rfl dX5_firstEntry_25 ?_
  refine lv_icmp_ge (tgt := 33) hx hb dX5_firstEntry_26 (by decide) (fun c_2 => ?_) (fun c_2 => ?_)
  · exact absurd c_2 (by decide)
  refine lv_iconst (v := 1) hx hb dX5_firstEntry_29 (by decide) ?_
  refine lv_goto (tgt := 34) hx hb dX5_firstEntry_30 (by decide) ?_
  refine lv_istore_n (lv' := [(1, .int 1), (0, .ref r)]) hx hb dX5_firstEntry_34 rfl hl (by decide) rfl (fun ls hl => ?_)
  refine lv_iload_n hx hb dX5_firstEntry_35 rfl (lv_at hl 0 rfl) ?_
  refine lv_if_eq (tgt := 54) hx hb dX5_firstEntry_36 (by decide) (fun c_3 => ?_) (fun c_3 => ?_)
  · exact absurd c_3 (by decide)
  refine lv_aload_n hx hb dX5_firstEntry_39 rfl (lv_at hl 1 rfl) ?_
  refine va_get (D := (dC, dI)) (ci := 6) (v := .ref ck) (C := RX5) (T := TX5) (N := 12) hx hb hts in_c_firstEntry_X5 hown hK hP 0 rfl rfl 3 (by decide) (hts (.fieldLink RX5 9 "ClaimBus$Row" "head" "LClaimBus$Chunk;") (List.mem_of_getElem? (i := 1) rfl)) (fun _ h9 => h9) rfl dX5_firstEntry_40 ?_
  refine va_get (D := (dC, dI)) (ci := 1) (v := .ref ce) (C := RX0) (T := TX0) (N := 2) hx hb hts in_c_firstEntry_X0 hown hK hP 1 rfl rfl 0 (by decide) (hts (.fieldLink RX5 73 "ClaimBus$Chunk" "entries" "[J") (List.mem_of_getElem? (i := 3) rfl)) (fun _ h9 => h9) rfl dX5_firstEntry_43 ?_
  refine lv_aload_n hx hb dX5_firstEntry_46 rfl (lv_at hl 1 rfl) ?_
  refine va_get (D := (dC, dI)) (ci := 6) (v := .int 0) (C := RX5) (T := TX5) (N := 12) hx hb hts in_c_firstEntry_X5 hown hK hP 0 rfl rfl 5 (by decide) (hts (.fieldLink RX5 18 "ClaimBus$Row" "headPlace" "I") (List.mem_of_getElem? (i := 2) rfl)) (fun _ h9 => h9) rfl dX5_firstEntry_47 ?_
  refine va_lald hx hb hK hP 2 0 rfl rfl (vp_in_nI (n := 0) (by omega) (by omega)) dX5_firstEntry_50 ?_
  refine W.eq (g2 := F0 m 51 ls [.long (fE 0)]) (by rw [(show Int32.toNatClampNeg (0 : Int32) = 0 by decide)]) ?_
  refine lv_goto (tgt := 55) hx hb dX5_firstEntry_51 (by decide) ?_
  exact W.lret (v := (fE 0)) hx hb hr (fun t ht hW => ⟨⟨(fE 0), (), rfl, rfl, trivial⟩, hS.F ht⟩) hS.2.2 dX5_firstEntry_55

noncomputable def tl_c_writeFirst_w : List Cond := wsX50 ++ (v_c_firstEntry ++ (v_c_messageAt_null ++ (v_c_X10_identifier ++ (v_c_X3_writeControl_16))))
noncomputable def v_c_writeFirst_w : List Cond := .code yX5_writeFirst cX5_writeFirst 8 none :: ([.fieldLink RX5 31 "ClaimBus$Row" "claimWaits" "Z", .initialized RX5, .methodLink RX5 95 yX5_firstEntry, .instanceMethod yX5_firstEntry, .selects RX5 yX5_firstEntry yX5_firstEntry, .fieldLink RX5 51 "ClaimBus$Row" "store" "LClaimBus$Store;", .initialized RX7, .methodLink RX5 99 yX7_messageAt, .instanceMethod yX7_messageAt, .selects RX7 yX7_messageAt yX7_messageAt, .fieldLink RX5 38 "ClaimBus$Row" "first" "LClaimBus$Frame;", .initialized RX10, .static yX10_identifier, .initialized RX3, .methodLink RX5 119 yX3_writeControl, .instanceMethod yX3_writeControl, .selects RX3 yX3_writeControl yX3_writeControl] ++ tl_c_writeFirst_w)
theorem it_c_writeFirst_w : ∀ w ∈ tl_c_writeFirst_w, w ∈ v_c_writeFirst_w := fun w h => List.mem_cons_of_mem _ (List.mem_append_right _ h)
theorem in_c_writeFirst_w_X5 : ∀ w ∈ wsX50, w ∈ v_c_writeFirst_w := fun w h => it_c_writeFirst_w w (List.mem_append_left _ h)
theorem ic_c_writeFirst_w_c_firstEntry : ∀ w ∈ v_c_firstEntry, w ∈ v_c_writeFirst_w := fun w h => it_c_writeFirst_w w (List.mem_append_right _ (List.mem_append_left _ h))
theorem ic_c_writeFirst_w_c_messageAt_null : ∀ w ∈ v_c_messageAt_null, w ∈ v_c_writeFirst_w := fun w h => it_c_writeFirst_w w (List.mem_append_right _ (List.mem_append_right _ (List.mem_append_left _ h)))
theorem ic_c_writeFirst_w_c_X10_identifier : ∀ w ∈ v_c_X10_identifier, w ∈ v_c_writeFirst_w := fun w h => it_c_writeFirst_w w (List.mem_append_right _ (List.mem_append_right _ (List.mem_append_right _ (List.mem_append_left _ h))))
theorem ic_c_writeFirst_w_c_X3_writeControl_16 : ∀ w ∈ v_c_X3_writeControl_16, w ∈ v_c_writeFirst_w := fun w h => it_c_writeFirst_w w (List.mem_append_right _ (List.mem_append_right _ (List.mem_append_right _ (List.mem_append_right _ (h)))))
theorem gt_c_writeFirst_w : ∀ w ∈ tl_c_writeFirst_w, goodWord w = true := List.forall_mem_append.mpr ⟨gw_wsX50, List.forall_mem_append.mpr ⟨gw_c_firstEntry, List.forall_mem_append.mpr ⟨gw_c_messageAt_null, List.forall_mem_append.mpr ⟨gw_c_X10_identifier, gw_c_X3_writeControl_16⟩⟩⟩⟩
theorem gw_c_writeFirst_w : ∀ w ∈ v_c_writeFirst_w, goodWord w = true := List.forall_mem_cons.mpr ⟨by decide +kernel, List.forall_mem_append.mpr ⟨List.all_eq_true.mp (by decide +kernel), gt_c_writeFirst_w⟩⟩
theorem g_c_writeFirst_w_c_firstEntry_95 : GoodIn v_c_writeFirst_w (wsV RX5 95 RX5 yX5_firstEntry v_c_firstEntry) := goodIn_app (goodIn_r [.methodLink RX5 95 yX5_firstEntry, .instanceMethod yX5_firstEntry, .selects RX5 yX5_firstEntry yX5_firstEntry, .initialized RX5] [3, 4, 5, 2] (by decide +kernel) (by decide +kernel)) (fun w h => ⟨ic_c_writeFirst_w_c_firstEntry w h, good_of_word (gw_c_firstEntry w h)⟩)
theorem g_c_writeFirst_w_c_messageAt_null_99 : GoodIn v_c_writeFirst_w (wsV RX5 99 RX7 yX7_messageAt v_c_messageAt_null) := goodIn_app (goodIn_r [.methodLink RX5 99 yX7_messageAt, .instanceMethod yX7_messageAt, .selects RX7 yX7_messageAt yX7_messageAt, .initialized RX7] [8, 9, 10, 7] (by decide +kernel) (by decide +kernel)) (fun w h => ⟨ic_c_writeFirst_w_c_messageAt_null w h, good_of_word (gw_c_messageAt_null w h)⟩)
theorem g_c_writeFirst_w_c_X10_identifier_103 : GoodIn v_c_writeFirst_w v_c_X10_identifier := fun w h => ⟨ic_c_writeFirst_w_c_X10_identifier w h, good_of_word (gw_c_X10_identifier w h)⟩
theorem g_c_writeFirst_w_c_X3_writeControl_16_119 : GoodIn v_c_writeFirst_w (wsV RX5 119 RX3 yX3_writeControl v_c_X3_writeControl_16) := goodIn_app (goodIn_r [.methodLink RX5 119 yX3_writeControl, .instanceMethod yX3_writeControl, .selects RX3 yX3_writeControl yX3_writeControl, .initialized RX3] [15, 16, 17, 14] (by decide +kernel) (by decide +kernel)) (fun w h => ⟨ic_c_writeFirst_w_c_X3_writeControl_16 w h, good_of_word (gw_c_X3_writeControl_16 w h)⟩)
set_option maxHeartbeats 4000000 in
set_option maxRecDepth 100000 in
theorem c_writeFirst_w (l : Launch) (dC : Nat → ClassId) (dI : Nat → Nat → Nat) (r : Nat) (rh : Int32) (rl : Int32) (st : Nat) (rf : Nat) (nf : Nat) (ng : Nat) (ck : Nat) (ce : Nat) (cJ : ClassId) (fE : Nat → Int64) (ml : Nat) (mc : Nat) (ed : Nat) (sz0 : Nat) (cO : ClassId) (fe : Nat → Option Nat) (mm : Nat) (mi : Nat) (mt : Nat) (mg : Nat) (ms : Nat) (sd : Int32) (fi : Nat) (ff : Int32) (fo : Int32) (fw : Nat) (to : Nat) (se : Nat) (th : Nat) (ad : Nat) (sz : Nat) (hmi : mi < 8) (hmt : mt < 256) (hmg : mg < 262144) (hms : ms < 1786) (h_to : to < 256) (h_se : se < 256) (h_th : th < 256) (h_ad : ad < 256) (hel : fe mi = some mm) (hsz : mi < sz0) (hsz2 : sz0 ≤ 10) (hnf : 1 ≤ nf) (hlo : (fE 0).toInt32 = (nI (16777216 * to + 65536 * 16 + 256 * se + th))) (hhi : (fE 0 >>> ((32 : Int32).toInt64 &&& 63)).toInt32 = (nI mi)) : Met l yX5_writeFirst v_c_writeFirst_w ({ frames := 4, cells := 0, slots := 0, locals := 85 }) (va_Pc [.ref r, .int (nI ad)] (fun U => U.heap.size = sz ∧ va_P (dC, dI) vwCl [(r, .inr (6, [.int rh, .int rl, .ref st, .ref ck, .ref ck, .int 0, .int 1, .int (nI nf), .int (nI ng), .int 0, .ref rf, .int 0])), (st, .inr (8, [.ref ml, .null])), (ml, .inr (0, [.int (nI mc), .ref ed, .int (nI sz0)])), (ed, .inl (cO, 10, .inr (.inr (.inr (.inr fe))))), (ck, .inr (1, [.ref ce, .null])), (ce, .inl (cJ, 128, .inr (.inl fE))), (mm, .inr (4, [.int (nI mi), .int (nI mt), .int (nI mg), .int (nI ms), .int sd, .null])), (rf, .inr (2, [.int (nI fi), .int ff, .int fo, .ref fw]))] U.heap ∧ va_K (dC, dI) vwCl [(cO, (.object "java/lang/Object")), (cJ, .long)] U ∧ va_D (fun _ => True) [(r, .inr (6, [.int rh, .int rl, .ref st, .ref ck, .ref ck, .int 0, .int 1, .int (nI nf), .int (nI ng), .int 0, .ref rf, .int 0])), (st, .inr (8, [.ref ml, .null])), (ml, .inr (0, [.int (nI mc), .ref ed, .int (nI sz0)])), (ed, .inl (cO, 10, .inr (.inr (.inr (.inr fe))))), (ck, .inr (1, [.ref ce, .null])), (ce, .inl (cJ, 128, .inr (.inl fE))), (mm, .inr (4, [.int (nI mi), .int (nI mt), .int (nI mg), .int (nI ms), .int sd, .null])), (rf, .inr (2, [.int (nI fi), .int ff, .int fo, .ref fw]))] ∧ ev U)) (va_Qv (fun _ : Unit => True) (fun (_ : Unit) (t : State) => va_P (dC, dI) vwCl [(r, .inr (6, [.int rh, .int rl, .ref st, .ref ck, .ref ck, .int 0, .int 1, .int (nI nf), .int (nI ng), .int 0, .ref rf, .int 0])), (st, .inr (8, [.ref ml, .null])), (ml, .inr (0, [.int (nI mc), .ref ed, .int (nI sz0)])), (ed, .inl (cO, 10, .inr (.inr (.inr (.inr fe))))), (ck, .inr (1, [.ref ce, .null])), (ce, .inl (cJ, 128, .inr (.inl fE))), (mm, .inr (4, [.int (nI mi), .int (nI mt), .int (nI mg), .int (nI ms), .int sd, .null])), (rf, .inr (2, [.int (nI (469762048 + 65536 * 236 + 256 * to + ad)), .int (nI (16 + 256 * (ms % 256) + 65536 * (ms / 256) + 16777216 * ((ms + 6) / 7))), .int (nI (se + 256 * mg)), .ref mm]))] t.heap ∧ va_K (dC, dI) vwCl [(cO, (.object "java/lang/Object")), (cJ, .long)] t ∧ va_D (va_A [(r, .inr (6, [.int rh, .int rl, .ref st, .ref ck, .ref ck, .int 0, .int 1, .int (nI nf), .int (nI ng), .int 0, .ref rf, .int 0])), (st, .inr (8, [.ref ml, .null])), (ml, .inr (0, [.int (nI mc), .ref ed, .int (nI sz0)])), (ed, .inl (cO, 10, .inr (.inr (.inr (.inr fe))))), (ck, .inr (1, [.ref ce, .null])), (ce, .inl (cJ, 128, .inr (.inl fE))), (mm, .inr (4, [.int (nI mi), .int (nI mt), .int (nI mg), .int (nI ms), .int sd, .null])), (rf, .inr (2, [.int (nI fi), .int ff, .int fo, .ref fw]))] sz) [(r, .inr (6, [.int rh, .int rl, .ref st, .ref ck, .ref ck, .int 0, .int 1, .int (nI nf), .int (nI ng), .int 0, .ref rf, .int 0])), (st, .inr (8, [.ref ml, .null])), (ml, .inr (0, [.int (nI mc), .ref ed, .int (nI sz0)])), (ed, .inl (cO, 10, .inr (.inr (.inr (.inr fe))))), (ck, .inr (1, [.ref ce, .null])), (ce, .inl (cJ, 128, .inr (.inl fE))), (mm, .inr (4, [.int (nI mi), .int (nI mt), .int (nI mg), .int (nI ms), .int sd, .null])), (rf, .inr (2, [.int (nI (469762048 + 65536 * 236 + 256 * to + ad)), .int (nI (16 + 256 * (ms % 256) + 65536 * (ms / 256) + 16777216 * ((ms + 6) / 7))), .int (nI (se + 256 * mg)), .ref mm]))]) (va_A [(r, .inr (6, [.int rh, .int rl, .ref st, .ref ck, .ref ck, .int 0, .int 1, .int (nI nf), .int (nI ng), .int 0, .ref rf, .int 0])), (st, .inr (8, [.ref ml, .null])), (ml, .inr (0, [.int (nI mc), .ref ed, .int (nI sz0)])), (ed, .inl (cO, 10, .inr (.inr (.inr (.inr fe))))), (ck, .inr (1, [.ref ce, .null])), (ce, .inl (cJ, 128, .inr (.inl fE))), (mm, .inr (4, [.int (nI mi), .int (nI mt), .int (nI mg), .int (nI ms), .int sd, .null])), (rf, .inr (2, [.int (nI fi), .int ff, .int fo, .ref fw]))] sz)) 0 0 (va_A [(r, .inr (6, [.int rh, .int rl, .ref st, .ref ck, .ref ck, .int 0, .int 1, .int (nI nf), .int (nI ng), .int 0, .ref rf, .int 0])), (st, .inr (8, [.ref ml, .null])), (ml, .inr (0, [.int (nI mc), .ref ed, .int (nI sz0)])), (ed, .inl (cO, 10, .inr (.inr (.inr (.inr fe))))), (ck, .inr (1, [.ref ce, .null])), (ce, .inl (cJ, 128, .inr (.inl fE))), (mm, .inr (4, [.int (nI mi), .int (nI mt), .int (nI mg), .int (nI ms), .int sd, .null])), (rf, .inr (2, [.int (nI fi), .int ff, .int fo, .ref fw]))] sz) := by
  refine Met.ofW (cc := cX5_writeFirst) (maxL := 8) (ret := none) (by decide) rfl ?_
  intro p e s m args below meth c s₁ B hml hv
  obtain ⟨rfl, hsz, hP, hK, hD0, hE⟩ := hv
  have hx := B.exec
  have hb := B.bytes
  have hr := B.returns
  have hts := atoms_spec (ws := v_c_writeFirst_w) B.pre
  have hown : s.vm.findClass RX5 = some m.cls := findClass_of_methodNamed B.named
  have hlocks := B.notSynchronized
  subst hsz
  have hD := hD0.self (sz := s.heap.size)
  generalize hAe : va_A [(r, .inr (6, [.int rh, .int rl, .ref st, .ref ck, .ref ck, .int 0, .int 1, .int (nI nf), .int (nI ng), .int 0, .ref rf, .int 0])), (st, .inr (8, [.ref ml, .null])), (ml, .inr (0, [.int (nI mc), .ref ed, .int (nI sz0)])), (ed, .inl (cO, 10, .inr (.inr (.inr (.inr fe))))), (ck, .inr (1, [.ref ce, .null])), (ce, .inl (cJ, 128, .inr (.inl fE))), (mm, .inr (4, [.int (nI mi), .int (nI mt), .int (nI mg), .int (nI ms), .int sd, .null])), (rf, .inr (2, [.int (nI fi), .int ff, .int fo, .ref fw]))] s.heap.size = A at hD ⊢
  have hA : ∀ q : Nat, s.heap.size ≤ q → A q := fun q h => by rw [← hAe]; exact Or.inr h
  have hS : va_S A s.heap s.heap [] := va_S.rf
  replace hP : va_P (dC, dI) vwCl [(r, .inr (6, [.int rh, .int rl, .ref st, .ref ck, .ref ck, .int 0, .int 1, .int (nI nf), .int (nI ng), .int 0, .ref rf, .int 0])), (st, .inr (8, [.ref ml, .null])), (ml, .inr (0, [.int (nI mc), .ref ed, .int (nI sz0)])), (ed, .inl (cO, 10, .inr (.inr (.inr (.inr fe))))), (ck, .inr (1, [.ref ce, .null])), (ce, .inl (cJ, 128, .inr (.inl fE))), (mm, .inr (4, [.int (nI mi), .int (nI mt), .int (nI mg), .int (nI ms), .int sd, .null])), (rf, .inr (2, [.int (nI fi), .int ff, .int fo, .ref fw]))] s.heap := hP
  have hl := lv_entry ([.ref r, .int (nI ad)]) (n := 8) (Nat.le_of_ble_eq_true rfl)
  rw [lg_entry_eq]
  generalize (lg_sl ([.ref r, .int (nI ad)]) ++ List.replicate (8 - (lg_sl ([.ref r, .int (nI ad)])).length) Slot.unset).toArray = ls at hl ⊢
  replace hl : lv_has ls 8 [(0, .ref r), (1, .int (nI ad))] := hl
  obtain ⟨H, hH⟩ : ∃ z : Heap, z = s.heap := ⟨_, rfl⟩
  rw [← hH]
  replace hS : va_S A s.heap H [] := by rw [hH]; exact va_S.rf
  replace hP : va_P (dC, dI) vwCl [(r, .inr (6, [.int rh, .int rl, .ref st, .ref ck, .ref ck, .int 0, .int 1, .int (nI nf), .int (nI ng), .int 0, .ref rf, .int 0])), (st, .inr (8, [.ref ml, .null])), (ml, .inr (0, [.int (nI mc), .ref ed, .int (nI sz0)])), (ed, .inl (cO, 10, .inr (.inr (.inr (.inr fe))))), (ck, .inr (1, [.ref ce, .null])), (ce, .inl (cJ, 128, .inr (.inl fE))), (mm, .inr (4, [.int (nI mi), .int (nI mt), .int (nI mg), .int (nI ms), .int sd, .null])), (rf, .inr (2, [.int (nI fi), .int ff, .int fo, .ref fw]))] H := by rw [hH]; exact hP
  clear hH
  refine lv_aload_n hx hb dX5_writeFirst_0 rfl (lv_at hl 0 rfl) ?_
  refine va_get (D := (dC, dI)) (ci := 6) (v := .int 0) (C := RX5) (T := TX5) (N := 12) hx hb hts in_c_writeFirst_w_X5 hown hK hP 0 rfl rfl 9 (by decide) (hts (.fieldLink RX5 31 "ClaimBus$Row" "claimWaits" "Z") (List.mem_of_getElem? (i := 1) rfl)) (fun _ h9 => h9) rfl dX5_writeFirst_1 ?_
  refine lv_if_eq (tgt := 28) hx hb dX5_writeFirst_4 (by decide) (fun c_1 => ?_) (fun c_1 => ?_)
  rotate_left
  · exact absurd (by decide) c_1
  refine lv_aload_n hx hb dX5_writeFirst_28 rfl (lv_at hl 0 rfl) ?_
  have hPc := hP.sub (ws' := [(r, .inr (6, [.int rh, .int rl, .ref st, .ref ck, .ref ck, .int 0, .int 1, .int (nI nf), .int (nI ng), .int 0, .ref rf, .int 0])), (ck, .inr (1, [.ref ce, .null])), (ce, .inl (cJ, 128, .inr (.inl fE)))]) [0, 4, 5] rfl
  have hDc := hD.sub (ws' := [(r, .inr (6, [.int rh, .int rl, .ref st, .ref ck, .ref ck, .int 0, .int 1, .int (nI nf), .int (nI ng), .int 0, .ref rf, .int 0])), (ck, .inr (1, [.ref ce, .null])), (ce, .inl (cJ, 128, .inr (.inl fE)))]) [0, 4, 5] (by decide +kernel) rfl
  have hKc := hK.sub (tys' := [(cJ, .long)]) [1] rfl
  have hFc := ro_free hS hA
  refine va_calll (va_runV (As := []) (rest := []) ⟨hx, hb, hml, hown, hts⟩ (c_firstEntry l dC dI (r) (rh) (rl) (st) (rf) (nf) (ng) (ck) (ce) (cJ) (fE) H.size) (cwV 0 hts g_c_writeFirst_w_c_firstEntry_95 rfl rfl rfl (by decide +kernel) ⟨Nat.le_of_ble_eq_true rfl, Nat.le_of_ble_eq_true rfl⟩) ⟨fun a U g mk q => by obtain ⟨q0, q1, qP, qK, qD, qE⟩ := q; exact ⟨q0, q1, qP, va_K.moved (u := U) (U := U.calling g mk a) (Vm.Alike.refl U.vm) qK, qD, ev.same (u := U) (U := U.calling g mk a) rfl qE⟩, va_recv hKc hPc (ci := 6) (q0 := 0) rfl rfl, fun U hU hW => ⟨rfl, by rw [hU], by rw [hU]; exact hPc, va_K.moved hW.alike hKc, hDc.weaken (fun _ _ _ _ => trivial), hE.warm hW⟩⟩ rfl rfl hl.1 rfl (lv_room (Nat.le_of_ble_eq_true rfl)) dX5_writeFirst_29 ⟨Nat.le_of_ble_eq_true rfl, Nat.le_of_ble_eq_true rfl⟩) hS (fun q _ h => hFc q h) hFc (fun r_2 u t H1 locs ht hvm hw hB hz1 hk1 hS => ?_)
  clear hPc hDc hKc
  replace hP := ro_keep hP hk1
  generalize H1 = H at hP hS ⊢
  replace hP : va_P (dC, dI) vwCl [(r, .inr (6, [.int rh, .int rl, .ref st, .ref ck, .ref ck, .int 0, .int 1, .int (nI nf), .int (nI ng), .int 0, .ref rf, .int 0])), (st, .inr (8, [.ref ml, .null])), (ml, .inr (0, [.int (nI mc), .ref ed, .int (nI sz0)])), (ed, .inl (cO, 10, .inr (.inr (.inr (.inr fe))))), (ck, .inr (1, [.ref ce, .null])), (ce, .inl (cJ, 128, .inr (.inl fE))), (mm, .inr (4, [.int (nI mi), .int (nI mt), .int (nI mg), .int (nI ms), .int sd, .null])), (rf, .inr (2, [.int (nI fi), .int ff, .int fo, .ref fw]))] H := hP
  have hw := hw.symm
  subst hw
  refine lv_lstore_n (lv' := [(2, .long (fE 0)), (0, .ref r), (1, .int (nI ad))]) hx hb dX5_writeFirst_32 rfl hl (by decide) rfl (fun ls hl => ?_)
  refine lv_aload_n hx hb dX5_writeFirst_33 rfl (lv_at hl 1 rfl) ?_
  refine va_get (D := (dC, dI)) (ci := 6) (v := .ref st) (C := RX5) (T := TX5) (N := 12) hx hb hts in_c_writeFirst_w_X5 hown hK hP 0 rfl rfl 2 (by decide) (hts (.fieldLink RX5 51 "ClaimBus$Row" "store" "LClaimBus$Store;") (List.mem_of_getElem? (i := 6) rfl)) (fun _ h9 => h9) rfl dX5_writeFirst_34 ?_
  refine lv_lload_n hx hb dX5_writeFirst_37 rfl (lv_at hl 0 rfl) ?_
  refine lv_bipush (v := 32) hx hb dX5_writeFirst_38 (by decide) ?_
  refine lv_lshr hx hb dX5_writeFirst_40 rfl ?_
  refine lv_l2i hx hb dX5_writeFirst_41 rfl ?_
  rw [hhi]
  have hPc := hP.sub (ws' := [(st, .inr (8, [.ref ml, .null])), (ml, .inr (0, [.int (nI mc), .ref ed, .int (nI sz0)])), (ed, .inl (cO, 10, .inr (.inr (.inr (.inr fe))))), (mm, .inr (4, [.int (nI mi), .int (nI mt), .int (nI mg), .int (nI ms), .int sd, .null]))]) [1, 2, 3, 6] rfl
  have hDc := hD.sub (ws' := [(st, .inr (8, [.ref ml, .null])), (ml, .inr (0, [.int (nI mc), .ref ed, .int (nI sz0)])), (ed, .inl (cO, 10, .inr (.inr (.inr (.inr fe))))), (mm, .inr (4, [.int (nI mi), .int (nI mt), .int (nI mg), .int (nI ms), .int sd, .null]))]) [1, 2, 3, 6] (by decide +kernel) rfl
  have hKc := hK.sub (tys' := [(cO, (.object "java/lang/Object"))]) [0] rfl
  have hFc := ro_free hS hA
  refine va_callq (va_runV (As := [.int (nI mi)]) (rest := []) ⟨hx, hb, hml, hown, hts⟩ (c_messageAt_null l dC dI (st) (ml) (mc) (ed) (sz0) (cO) (fe) (mm) (mi) (mt) (mg) (ms) (sd) (mi) H.size hel hsz hsz2) (cwV 1 hts g_c_writeFirst_w_c_messageAt_null_99 rfl rfl rfl (by decide +kernel) ⟨Nat.le_of_ble_eq_true rfl, Nat.le_of_ble_eq_true rfl⟩) ⟨fun a U g mk q => by obtain ⟨q0, q1, qP, qK, qD, qE⟩ := q; exact ⟨q0, q1, qP, va_K.moved (u := U) (U := U.calling g mk a) (Vm.Alike.refl U.vm) qK, qD, ev.same (u := U) (U := U.calling g mk a) rfl qE⟩, va_recv hKc hPc (ci := 8) (q0 := 0) rfl rfl, fun U hU hW => ⟨rfl, by rw [hU], by rw [hU]; exact hPc, va_K.moved hW.alike hKc, hDc.weaken (fun _ _ _ _ => trivial), hE.warm hW⟩⟩ rfl rfl hl.1 rfl (lv_room (Nat.le_of_ble_eq_true rfl)) dX5_writeFirst_42 ⟨Nat.le_of_ble_eq_true rfl, Nat.le_of_ble_eq_true rfl⟩) hS (fun q _ h => hFc q h) hFc (fun r_3 u t H1 locs ht hvm hw hB hz1 hk1 hS => ?_)
  clear hPc hDc hKc
  replace hP := ro_keep hP hk1
  generalize H1 = H at hP hS ⊢
  replace hP : va_P (dC, dI) vwCl [(r, .inr (6, [.int rh, .int rl, .ref st, .ref ck, .ref ck, .int 0, .int 1, .int (nI nf), .int (nI ng), .int 0, .ref rf, .int 0])), (st, .inr (8, [.ref ml, .null])), (ml, .inr (0, [.int (nI mc), .ref ed, .int (nI sz0)])), (ed, .inl (cO, 10, .inr (.inr (.inr (.inr fe))))), (ck, .inr (1, [.ref ce, .null])), (ce, .inl (cJ, 128, .inr (.inl fE))), (mm, .inr (4, [.int (nI mi), .int (nI mt), .int (nI mg), .int (nI ms), .int sd, .null])), (rf, .inr (2, [.int (nI fi), .int ff, .int fo, .ref fw]))] H := hP
  have hw := hw.symm
  subst hw
  refine W.eq (g2 := F0 m 45 ls [.ref mm]) rfl ?_
  refine lv_astore (lv' := [(4, .ref mm), (2, .long (fE 0)), (0, .ref r), (1, .int (nI ad))]) hx hb dX5_writeFirst_45 hl (by decide) rfl (fun ls hl => ?_)
  refine lv_lload_n hx hb dX5_writeFirst_47 rfl (lv_at hl 1 rfl) ?_
  refine lv_l2i hx hb dX5_writeFirst_48 rfl ?_
  rw [hlo]
  refine lv_istore (lv' := [(5, .int (nI (16777216 * to + 65536 * 16 + 256 * se + th))), (4, .ref mm), (2, .long (fE 0)), (0, .ref r), (1, .int (nI ad))]) hx hb dX5_writeFirst_49 hl (by decide) rfl (fun ls hl => ?_)
  refine lv_iload hx hb dX5_writeFirst_51 (lv_at hl 0 rfl) ?_
  refine lv_bipush (v := 24) hx hb dX5_writeFirst_53 (by decide) ?_
  refine lv_iushr (v := (nI to)) hx hb dX5_writeFirst_55 ((pk_ushrN (n := (16777216 * to + 65536 * 16 + 256 * se + th)) (by omega) (24 : Int32) 24 (by decide)).trans (show nI ((16777216 * to + 65536 * 16 + 256 * se + th) / 2 ^ 24) = nI (to) from congrArg nI (by omega))) ?_
  refine lv_istore (lv' := [(6, .int (nI to)), (5, .int (nI (16777216 * to + 65536 * 16 + 256 * se + th))), (4, .ref mm), (2, .long (fE 0)), (0, .ref r), (1, .int (nI ad))]) hx hb dX5_writeFirst_56 hl (by decide) rfl (fun ls hl => ?_)
  refine lv_iload hx hb dX5_writeFirst_58 (lv_at hl 1 rfl) ?_
  refine lv_bipush (v := 16) hx hb dX5_writeFirst_60 (by decide) ?_
  refine lv_iushr (v := (nI (256 * to + 16))) hx hb dX5_writeFirst_62 ((pk_ushrN (n := (16777216 * to + 65536 * 16 + 256 * se + th)) (by omega) (16 : Int32) 16 (by decide)).trans (show nI ((16777216 * to + 65536 * 16 + 256 * se + th) / 2 ^ 16) = nI (256 * to + 16) from congrArg nI (by omega))) ?_
  refine lv_sipush (v := 255) hx hb dX5_writeFirst_63 (by decide) ?_
  refine lv_iand hx hb dX5_writeFirst_66 ?_
  refine lv_topi (fun x_4 ex_4 => ?_)
  obtain rfl : x_4 = 16 := ex_4.trans ((pk_andN (n := (256 * to + 16)) (m := 255) (by omega) 8 (by decide)).trans (show nI ((256 * to + 16) % 2 ^ 8) = nI (16) from congrArg nI (by omega)))
  refine lv_istore (lv' := [(7, .int 16), (6, .int (nI to)), (5, .int (nI (16777216 * to + 65536 * 16 + 256 * se + th))), (4, .ref mm), (2, .long (fE 0)), (0, .ref r), (1, .int (nI ad))]) hx hb dX5_writeFirst_67 hl (by decide) rfl (fun ls hl => ?_)
  refine lv_aload hx hb dX5_writeFirst_69 (lv_at hl 3 rfl) ?_
  refine lv_ifnonnull (tgt := 106) hx hb dX5_writeFirst_71 (by decide) ?_
  refine lv_iload hx hb dX5_writeFirst_106 (lv_at hl 0 rfl) ?_
  refine lv_if_ne (tgt := 124) hx hb dX5_writeFirst_108 (by decide) (fun c_5 => ?_) (fun c_5 => ?_)
  rotate_left
  · exact absurd c_5 (by decide)
  refine lv_iload hx hb dX5_writeFirst_124 (lv_at hl 0 rfl) ?_
  refine lv_sipush (v := 235) hx hb dX5_writeFirst_126 (by decide) ?_
  refine lv_icmp_ne (tgt := 156) hx hb dX5_writeFirst_129 (by decide) (fun c_6 => ?_) (fun c_6 => ?_)
  rotate_left
  · exact absurd c_6 (by decide)
  refine lv_aload hx hb dX5_writeFirst_156 (lv_at hl 3 rfl) ?_
  refine lv_aload_n hx hb dX5_writeFirst_158 rfl (lv_at hl 5 rfl) ?_
  refine va_get (D := (dC, dI)) (ci := 6) (v := .ref rf) (C := RX5) (T := TX5) (N := 12) hx hb hts in_c_writeFirst_w_X5 hown hK hP 0 rfl rfl 10 (by decide) (hts (.fieldLink RX5 38 "ClaimBus$Row" "first" "LClaimBus$Frame;") (List.mem_of_getElem? (i := 11) rfl)) (fun _ h9 => h9) rfl dX5_writeFirst_159 ?_
  refine lv_sipush (v := 236) hx hb dX5_writeFirst_162 (by decide) ?_
  refine lv_iload hx hb dX5_writeFirst_165 (lv_at hl 1 rfl) ?_
  refine lv_iload_n hx hb dX5_writeFirst_167 rfl (lv_at hl 6 rfl) ?_
  have hPc := hP.sub (ws' := []) [] rfl
  have hDc := hD.sub (ws' := []) [] (by decide +kernel) rfl
  have hKc := hK.sub (tys' := []) [] rfl
  have hFc := ro_free hS hA
  refine va_calli (va_runSN (As := [.int 236, .int (nI to), .int (nI ad)]) (rest := [.ref rf, .ref mm]) ⟨hx, hb, hml, hown, hts⟩ (c_X10_identifier l dC dI (236) (to) (ad) H.size (by omega) h_to h_ad) ⟨va_cnB 3 hts g_c_writeFirst_w_c_X10_identifier_103 rfl rfl rfl hE.n8 (hts (.initialized RX10) (List.mem_of_getElem? (i := 12) rfl)) (by decide +kernel) ⟨Nat.le_of_ble_eq_true rfl, Nat.le_of_ble_eq_true rfl⟩, (hts (.static yX10_identifier) (List.mem_of_getElem? (i := 13) rfl)), trivial⟩ ⟨fun a U g mk q => by obtain ⟨q0, q1, qP, qK, qD, qE⟩ := q; exact ⟨q0, q1, qP, va_K.moved (u := U) (U := U.calling g mk a) (Vm.Alike.refl U.vm) qK, qD, ev.same (u := U) (U := U.calling g mk a) rfl qE⟩, fun U hU hW => ⟨rfl, by rw [hU], by rw [hU]; exact hPc, va_K.moved hW.alike hKc, hDc.weaken (fun _ _ _ _ => trivial), hE.warm hW⟩⟩ rfl rfl hl.1 rfl (lv_room (Nat.le_of_ble_eq_true rfl)) dX5_writeFirst_168 ⟨Nat.le_of_ble_eq_true rfl, Nat.le_of_ble_eq_true rfl⟩) hS (fun q _ h => hFc q h) hFc (fun r_7 u t H1 locs ht hvm hw hB hz1 hk1 hS => ?_)
  clear hPc hDc hKc
  replace hP := ro_keep hP hk1
  generalize H1 = H at hP hS ⊢
  replace hP : va_P (dC, dI) vwCl [(r, .inr (6, [.int rh, .int rl, .ref st, .ref ck, .ref ck, .int 0, .int 1, .int (nI nf), .int (nI ng), .int 0, .ref rf, .int 0])), (st, .inr (8, [.ref ml, .null])), (ml, .inr (0, [.int (nI mc), .ref ed, .int (nI sz0)])), (ed, .inl (cO, 10, .inr (.inr (.inr (.inr fe))))), (ck, .inr (1, [.ref ce, .null])), (ce, .inl (cJ, 128, .inr (.inl fE))), (mm, .inr (4, [.int (nI mi), .int (nI mt), .int (nI mg), .int (nI ms), .int sd, .null])), (rf, .inr (2, [.int (nI fi), .int ff, .int fo, .ref fw]))] H := hP
  have hw := hw.symm
  subst hw
  refine lv_iload hx hb dX5_writeFirst_171 (lv_at hl 0 rfl) ?_
  refine lv_iload hx hb dX5_writeFirst_173 (lv_at hl 2 rfl) ?_
  refine lv_bipush (v := 8) hx hb dX5_writeFirst_175 (by decide) ?_
  refine lv_iushr (v := (nI (se + 65536 * to + 4096))) hx hb dX5_writeFirst_177 ((pk_ushrN (n := (16777216 * to + 65536 * 16 + 256 * se + th)) (by omega) (8 : Int32) 8 (by decide)).trans (show nI ((16777216 * to + 65536 * 16 + 256 * se + th) / 2 ^ 8) = nI (se + 65536 * to + 4096) from congrArg nI (by omega))) ?_
  refine lv_sipush (v := 255) hx hb dX5_writeFirst_178 (by decide) ?_
  refine lv_iand hx hb dX5_writeFirst_181 ?_
  refine lv_topi (fun x_8 ex_8 => ?_)
  obtain rfl : x_8 = (nI se) := ex_8.trans ((pk_andN (n := (se + 65536 * to + 4096)) (m := 255) (by omega) 8 (by decide)).trans (show nI ((se + 65536 * to + 4096) % 2 ^ 8) = nI (se) from congrArg nI (by omega)))
  refine lv_iload hx hb dX5_writeFirst_182 (lv_at hl 2 rfl) ?_
  refine lv_sipush (v := 255) hx hb dX5_writeFirst_184 (by decide) ?_
  refine lv_iand hx hb dX5_writeFirst_187 ?_
  refine lv_topi (fun x_9 ex_9 => ?_)
  obtain rfl : x_9 = (nI th) := ex_9.trans ((pk_andN (n := (16777216 * to + 65536 * 16 + 256 * se + th)) (m := 255) (by omega) 8 (by decide)).trans (show nI ((16777216 * to + 65536 * 16 + 256 * se + th) % 2 ^ 8) = nI (th) from congrArg nI (by omega)))
  have hPc := hP.sub (ws' := [(mm, .inr (4, [.int (nI mi), .int (nI mt), .int (nI mg), .int (nI ms), .int sd, .null])), (rf, .inr (2, [.int (nI fi), .int ff, .int fo, .ref fw]))]) [6, 7] rfl
  have hDc := hD.sub (ws' := [(mm, .inr (4, [.int (nI mi), .int (nI mt), .int (nI mg), .int (nI ms), .int sd, .null])), (rf, .inr (2, [.int (nI fi), .int ff, .int fo, .ref fw]))]) [6, 7] (by decide +kernel) rfl
  have hKc := hK.sub (tys' := []) [] rfl
  have hFc := va_free (wc := [(mm, .inr (4, [.int (nI mi), .int (nI mt), .int (nI mg), .int (nI ms), .int sd, .null])), (rf, .inr (2, [.int (nI fi), .int ff, .int fo, .ref fw]))]) hD hS hA [6, 7] rfl
  refine va_callv (va_runV (As := [.ref rf, .int (nI (469762048 + 65536 * 236 + 256 * to + ad)), .int 16, .int (nI se), .int (nI th)]) (rest := []) ⟨hx, hb, hml, hown, hts⟩ (c_X3_writeControl_16 l dC dI (mm) (mi) (mt) (mg) (ms) (sd) (rf) (fi) (ff) (fo) (fw) ((469762048 + 65536 * 236 + 256 * to + ad)) (se) (th) H.size hmi hmt hmg hms h_se h_th) (cwV 5 hts g_c_writeFirst_w_c_X3_writeControl_16_119 rfl rfl rfl (by decide +kernel) ⟨Nat.le_of_ble_eq_true rfl, Nat.le_of_ble_eq_true rfl⟩) ⟨fun a U g mk q => by obtain ⟨q0, q1, qP, qK, qD, qE⟩ := q; exact ⟨q0, q1, qP, va_K.moved (u := U) (U := U.calling g mk a) (Vm.Alike.refl U.vm) qK, qD, ev.same (u := U) (U := U.calling g mk a) rfl qE⟩, va_recv hKc hPc (ci := 4) (q0 := 0) rfl rfl, fun U hU hW => ⟨rfl, by rw [hU], by rw [hU]; exact hPc, va_K.moved hW.alike hKc, hDc.weaken (fun _ _ _ _ => trivial), hE.warm hW⟩⟩ rfl rfl hl.1 rfl (lv_room (Nat.le_of_ble_eq_true rfl)) dX5_writeFirst_188 ⟨Nat.le_of_ble_eq_true rfl, Nat.le_of_ble_eq_true rfl⟩) hS (fun q _ h => hFc q h) hFc (fun u t H1 locs ht hvm hw hB hz1 hk1 hS => ?_)
  clear hPc hDc hKc
  obtain ⟨hP1, hK1, hD1⟩ := hB
  rw [ht] at hP1
  have hK1 := va_K.moved hvm.symm hK1
  obtain ⟨hP, hD⟩ := va_join (wr := [(r, .inr (6, [.int rh, .int rl, .ref st, .ref ck, .ref ck, .int 0, .int 1, .int (nI nf), .int (nI ng), .int 0, .ref rf, .int 0])), (st, .inr (8, [.ref ml, .null])), (ml, .inr (0, [.int (nI mc), .ref ed, .int (nI sz0)])), (ed, .inl (cO, 10, .inr (.inr (.inr (.inr fe))))), (ck, .inr (1, [.ref ce, .null])), (ce, .inl (cJ, 128, .inr (.inl fE)))]) (w1 := [(mm, .inr (4, [.int (nI mi), .int (nI mt), .int (nI mg), .int (nI ms), .int sd, .null])), (rf, .inr (2, [.int (nI (469762048 + 65536 * 236 + 256 * to + ad)), .int (nI (16 + 256 * (ms % 256) + 65536 * (ms / 256) + 16777216 * ((ms + 6) / 7))), .int (nI (se + 256 * mg)), .ref mm]))]) hP hD [6, 7] [0, 1, 2, 3, 4, 5] rfl rfl (by decide +kernel) (by decide +kernel) hk1 hFc hP1 hD1
  generalize H1 = H at hP hS ⊢
  replace hP : va_P (dC, dI) vwCl [(r, .inr (6, [.int rh, .int rl, .ref st, .ref ck, .ref ck, .int 0, .int 1, .int (nI nf), .int (nI ng), .int 0, .ref rf, .int 0])), (st, .inr (8, [.ref ml, .null])), (ml, .inr (0, [.int (nI mc), .ref ed, .int (nI sz0)])), (ed, .inl (cO, 10, .inr (.inr (.inr (.inr fe))))), (ck, .inr (1, [.ref ce, .null])), (ce, .inl (cJ, 128, .inr (.inl fE))), (mm, .inr (4, [.int (nI mi), .int (nI mt), .int (nI mg), .int (nI ms), .int sd, .null])), (rf, .inr (2, [.int (nI (469762048 + 65536 * 236 + 256 * to + ad)), .int (nI (16 + 256 * (ms % 256) + 65536 * (ms / 256) + 16777216 * ((ms + 6) / 7))), .int (nI (se + 256 * mg)), .ref mm]))] H := hP
  replace hD : va_D A [(r, .inr (6, [.int rh, .int rl, .ref st, .ref ck, .ref ck, .int 0, .int 1, .int (nI nf), .int (nI ng), .int 0, .ref rf, .int 0])), (st, .inr (8, [.ref ml, .null])), (ml, .inr (0, [.int (nI mc), .ref ed, .int (nI sz0)])), (ed, .inl (cO, 10, .inr (.inr (.inr (.inr fe))))), (ck, .inr (1, [.ref ce, .null])), (ce, .inl (cJ, 128, .inr (.inl fE))), (mm, .inr (4, [.int (nI mi), .int (nI mt), .int (nI mg), .int (nI ms), .int sd, .null])), (rf, .inr (2, [.int (nI (469762048 + 65536 * 236 + 256 * to + ad)), .int (nI (16 + 256 * (ms % 256) + 65536 * (ms / 256) + 16777216 * ((ms + 6) / 7))), .int (nI (se + 256 * mg)), .ref mm]))] := hD
  clear hw
  have hP9 := hP.sub (ws' := [(r, .inr (6, [.int rh, .int rl, .ref st, .ref ck, .ref ck, .int 0, .int 1, .int (nI nf), .int (nI ng), .int 0, .ref rf, .int 0])), (st, .inr (8, [.ref ml, .null])), (ml, .inr (0, [.int (nI mc), .ref ed, .int (nI sz0)])), (ed, .inl (cO, 10, .inr (.inr (.inr (.inr fe))))), (ck, .inr (1, [.ref ce, .null])), (ce, .inl (cJ, 128, .inr (.inl fE))), (mm, .inr (4, [.int (nI mi), .int (nI mt), .int (nI mg), .int (nI ms), .int sd, .null])), (rf, .inr (2, [.int (nI (469762048 + 65536 * 236 + 256 * to + ad)), .int (nI (16 + 256 * (ms % 256) + 65536 * (ms / 256) + 16777216 * ((ms + 6) / 7))), .int (nI (se + 256 * mg)), .ref mm]))]) [0, 1, 2, 3, 4, 5, 6, 7] rfl
  have hD9 := hD.sub (ws' := [(r, .inr (6, [.int rh, .int rl, .ref st, .ref ck, .ref ck, .int 0, .int 1, .int (nI nf), .int (nI ng), .int 0, .ref rf, .int 0])), (st, .inr (8, [.ref ml, .null])), (ml, .inr (0, [.int (nI mc), .ref ed, .int (nI sz0)])), (ed, .inl (cO, 10, .inr (.inr (.inr (.inr fe))))), (ck, .inr (1, [.ref ce, .null])), (ce, .inl (cJ, 128, .inr (.inl fE))), (mm, .inr (4, [.int (nI mi), .int (nI mt), .int (nI mg), .int (nI ms), .int sd, .null])), (rf, .inr (2, [.int (nI (469762048 + 65536 * 236 + 256 * to + ad)), .int (nI (16 + 256 * (ms % 256) + 65536 * (ms / 256) + 16777216 * ((ms + 6) / 7))), .int (nI (se + 256 * mg)), .ref mm]))]) [0, 1, 2, 3, 4, 5, 6, 7] (by decide +kernel) rfl
  have hK9 := hK.sub (tys' := [(cO, (.object "java/lang/Object")), (cJ, .long)]) [0, 1] rfl
  exact W.vret hx hb hr (fun t ht hW => ⟨⟨(), rfl, trivial, ⟨by rw [ht]; exact hP9, va_K.moved hW.alike hK9, hD9⟩⟩, hS.F ht⟩) hS.2.2 dX5_writeFirst_191

noncomputable def tl_c_first_w : List Cond := wsX50 ++ (v_c_len_f ++ (v_c_writeFirst_w))
noncomputable def v_c_first_w : List Cond := .code yX5_first cX5_first 2 (some (.object "ClaimBus$Frame")) :: ([.initialized RX5, .methodLink RX5 82 yX5_length, .instanceMethod yX5_length, .selects RX5 yX5_length yX5_length, .fieldLink RX5 42 "ClaimBus$Row" "firstIsWritten" "Z", .methodLink RX5 86 yX5_writeFirst, .instanceMethod yX5_writeFirst, .selects RX5 yX5_writeFirst yX5_writeFirst, .fieldLink RX5 38 "ClaimBus$Row" "first" "LClaimBus$Frame;"] ++ tl_c_first_w)
theorem it_c_first_w : ∀ w ∈ tl_c_first_w, w ∈ v_c_first_w := fun w h => List.mem_cons_of_mem _ (List.mem_append_right _ h)
theorem in_c_first_w_X5 : ∀ w ∈ wsX50, w ∈ v_c_first_w := fun w h => it_c_first_w w (List.mem_append_left _ h)
theorem ic_c_first_w_c_len_f : ∀ w ∈ v_c_len_f, w ∈ v_c_first_w := fun w h => it_c_first_w w (List.mem_append_right _ (List.mem_append_left _ h))
theorem ic_c_first_w_c_writeFirst_w : ∀ w ∈ v_c_writeFirst_w, w ∈ v_c_first_w := fun w h => it_c_first_w w (List.mem_append_right _ (List.mem_append_right _ (h)))
theorem gt_c_first_w : ∀ w ∈ tl_c_first_w, goodWord w = true := List.forall_mem_append.mpr ⟨gw_wsX50, List.forall_mem_append.mpr ⟨gw_c_len_f, gw_c_writeFirst_w⟩⟩
theorem gw_c_first_w : ∀ w ∈ v_c_first_w, goodWord w = true := List.forall_mem_cons.mpr ⟨by decide +kernel, List.forall_mem_append.mpr ⟨List.all_eq_true.mp (by decide +kernel), gt_c_first_w⟩⟩
theorem g_c_first_w_c_len_f_82 : GoodIn v_c_first_w (wsV RX5 82 RX5 yX5_length v_c_len_f) := goodIn_app (goodIn_r [.methodLink RX5 82 yX5_length, .instanceMethod yX5_length, .selects RX5 yX5_length yX5_length, .initialized RX5] [2, 3, 4, 1] (by decide +kernel) (by decide +kernel)) (fun w h => ⟨ic_c_first_w_c_len_f w h, good_of_word (gw_c_len_f w h)⟩)
theorem g_c_first_w_c_writeFirst_w_86 : GoodIn v_c_first_w (wsV RX5 86 RX5 yX5_writeFirst v_c_writeFirst_w) := goodIn_app (goodIn_r [.methodLink RX5 86 yX5_writeFirst, .instanceMethod yX5_writeFirst, .selects RX5 yX5_writeFirst yX5_writeFirst, .initialized RX5] [6, 7, 8, 1] (by decide +kernel) (by decide +kernel)) (fun w h => ⟨ic_c_first_w_c_writeFirst_w w h, good_of_word (gw_c_writeFirst_w w h)⟩)
set_option maxHeartbeats 4000000 in
set_option maxRecDepth 100000 in
theorem c_first_w (l : Launch) (dC : Nat → ClassId) (dI : Nat → Nat → Nat) (r : Nat) (rh : Int32) (rl : Int32) (st : Nat) (rf : Nat) (nf : Nat) (ng : Nat) (ck : Nat) (ce : Nat) (cJ : ClassId) (fE : Nat → Int64) (ml : Nat) (mc : Nat) (ed : Nat) (sz0 : Nat) (cO : ClassId) (fe : Nat → Option Nat) (mm : Nat) (mi : Nat) (mt : Nat) (mg : Nat) (ms : Nat) (sd : Int32) (fi : Nat) (ff : Int32) (fo : Int32) (fw : Nat) (to : Nat) (se : Nat) (th : Nat) (ad : Nat) (sz : Nat) (hmi : mi < 8) (hmt : mt < 256) (hmg : mg < 262144) (hms : ms < 1786) (h_to : to < 256) (h_se : se < 256) (h_th : th < 256) (h_ad : ad < 256) (hel : fe mi = some mm) (hsz : mi < sz0) (hsz2 : sz0 ≤ 10) (hnf : 1 ≤ nf) (hlo : (fE 0).toInt32 = (nI (16777216 * to + 65536 * 16 + 256 * se + th))) (hhi : (fE 0 >>> ((32 : Int32).toInt64 &&& 63)).toInt32 = (nI mi)) (hnf3 : nf < 300) : Met l yX5_first v_c_first_w ({ frames := 5, cells := 0, slots := 0, locals := 112 }) (va_Pc [.ref r, .int (nI ad)] (fun U => U.heap.size = sz ∧ va_P (dC, dI) vwCl [(r, .inr (6, [.int rh, .int rl, .ref st, .ref ck, .ref ck, .int 0, .int 1, .int (nI nf), .int (nI ng), .int 0, .ref rf, .int 0])), (st, .inr (8, [.ref ml, .null])), (ml, .inr (0, [.int (nI mc), .ref ed, .int (nI sz0)])), (ed, .inl (cO, 10, .inr (.inr (.inr (.inr fe))))), (ck, .inr (1, [.ref ce, .null])), (ce, .inl (cJ, 128, .inr (.inl fE))), (mm, .inr (4, [.int (nI mi), .int (nI mt), .int (nI mg), .int (nI ms), .int sd, .null])), (rf, .inr (2, [.int (nI fi), .int ff, .int fo, .ref fw]))] U.heap ∧ va_K (dC, dI) vwCl [(cO, (.object "java/lang/Object")), (cJ, .long)] U ∧ va_D (fun _ => True) [(r, .inr (6, [.int rh, .int rl, .ref st, .ref ck, .ref ck, .int 0, .int 1, .int (nI nf), .int (nI ng), .int 0, .ref rf, .int 0])), (st, .inr (8, [.ref ml, .null])), (ml, .inr (0, [.int (nI mc), .ref ed, .int (nI sz0)])), (ed, .inl (cO, 10, .inr (.inr (.inr (.inr fe))))), (ck, .inr (1, [.ref ce, .null])), (ce, .inl (cJ, 128, .inr (.inl fE))), (mm, .inr (4, [.int (nI mi), .int (nI mt), .int (nI mg), .int (nI ms), .int sd, .null])), (rf, .inr (2, [.int (nI fi), .int ff, .int fo, .ref fw]))] ∧ ev U)) (va_Qq (fun (r : Option Nat) (_ : Unit) => r = some rf) (fun (_ : Unit) (t : State) => va_P (dC, dI) vwCl [(r, .inr (6, [.int rh, .int rl, .ref st, .ref ck, .ref ck, .int 0, .int 1, .int (nI nf), .int (nI ng), .int 0, .ref rf, .int 1])), (st, .inr (8, [.ref ml, .null])), (ml, .inr (0, [.int (nI mc), .ref ed, .int (nI sz0)])), (ed, .inl (cO, 10, .inr (.inr (.inr (.inr fe))))), (ck, .inr (1, [.ref ce, .null])), (ce, .inl (cJ, 128, .inr (.inl fE))), (mm, .inr (4, [.int (nI mi), .int (nI mt), .int (nI mg), .int (nI ms), .int sd, .null])), (rf, .inr (2, [.int (nI (469762048 + 65536 * 236 + 256 * to + ad)), .int (nI (16 + 256 * (ms % 256) + 65536 * (ms / 256) + 16777216 * ((ms + 6) / 7))), .int (nI (se + 256 * mg)), .ref mm]))] t.heap ∧ va_K (dC, dI) vwCl [(cO, (.object "java/lang/Object")), (cJ, .long)] t ∧ va_D (va_A [(r, .inr (6, [.int rh, .int rl, .ref st, .ref ck, .ref ck, .int 0, .int 1, .int (nI nf), .int (nI ng), .int 0, .ref rf, .int 0])), (st, .inr (8, [.ref ml, .null])), (ml, .inr (0, [.int (nI mc), .ref ed, .int (nI sz0)])), (ed, .inl (cO, 10, .inr (.inr (.inr (.inr fe))))), (ck, .inr (1, [.ref ce, .null])), (ce, .inl (cJ, 128, .inr (.inl fE))), (mm, .inr (4, [.int (nI mi), .int (nI mt), .int (nI mg), .int (nI ms), .int sd, .null])), (rf, .inr (2, [.int (nI fi), .int ff, .int fo, .ref fw]))] sz) [(r, .inr (6, [.int rh, .int rl, .ref st, .ref ck, .ref ck, .int 0, .int 1, .int (nI nf), .int (nI ng), .int 0, .ref rf, .int 1])), (st, .inr (8, [.ref ml, .null])), (ml, .inr (0, [.int (nI mc), .ref ed, .int (nI sz0)])), (ed, .inl (cO, 10, .inr (.inr (.inr (.inr fe))))), (ck, .inr (1, [.ref ce, .null])), (ce, .inl (cJ, 128, .inr (.inl fE))), (mm, .inr (4, [.int (nI mi), .int (nI mt), .int (nI mg), .int (nI ms), .int sd, .null])), (rf, .inr (2, [.int (nI (469762048 + 65536 * 236 + 256 * to + ad)), .int (nI (16 + 256 * (ms % 256) + 65536 * (ms / 256) + 16777216 * ((ms + 6) / 7))), .int (nI (se + 256 * mg)), .ref mm]))]) (va_A [(r, .inr (6, [.int rh, .int rl, .ref st, .ref ck, .ref ck, .int 0, .int 1, .int (nI nf), .int (nI ng), .int 0, .ref rf, .int 0])), (st, .inr (8, [.ref ml, .null])), (ml, .inr (0, [.int (nI mc), .ref ed, .int (nI sz0)])), (ed, .inl (cO, 10, .inr (.inr (.inr (.inr fe))))), (ck, .inr (1, [.ref ce, .null])), (ce, .inl (cJ, 128, .inr (.inl fE))), (mm, .inr (4, [.int (nI mi), .int (nI mt), .int (nI mg), .int (nI ms), .int sd, .null])), (rf, .inr (2, [.int (nI fi), .int ff, .int fo, .ref fw]))] sz)) 0 0 (va_A [(r, .inr (6, [.int rh, .int rl, .ref st, .ref ck, .ref ck, .int 0, .int 1, .int (nI nf), .int (nI ng), .int 0, .ref rf, .int 0])), (st, .inr (8, [.ref ml, .null])), (ml, .inr (0, [.int (nI mc), .ref ed, .int (nI sz0)])), (ed, .inl (cO, 10, .inr (.inr (.inr (.inr fe))))), (ck, .inr (1, [.ref ce, .null])), (ce, .inl (cJ, 128, .inr (.inl fE))), (mm, .inr (4, [.int (nI mi), .int (nI mt), .int (nI mg), .int (nI ms), .int sd, .null])), (rf, .inr (2, [.int (nI fi), .int ff, .int fo, .ref fw]))] sz) := by
  refine Met.ofW (cc := cX5_first) (maxL := 2) (ret := (some (.object "ClaimBus$Frame"))) (by decide) rfl ?_
  intro p e s m args below meth c s₁ B hml hv
  obtain ⟨rfl, hsz, hP, hK, hD0, hE⟩ := hv
  have hx := B.exec
  have hb := B.bytes
  have hr := B.returns
  have hts := atoms_spec (ws := v_c_first_w) B.pre
  have hown : s.vm.findClass RX5 = some m.cls := findClass_of_methodNamed B.named
  have hlocks := B.notSynchronized
  subst hsz
  have hD := hD0.self (sz := s.heap.size)
  generalize hAe : va_A [(r, .inr (6, [.int rh, .int rl, .ref st, .ref ck, .ref ck, .int 0, .int 1, .int (nI nf), .int (nI ng), .int 0, .ref rf, .int 0])), (st, .inr (8, [.ref ml, .null])), (ml, .inr (0, [.int (nI mc), .ref ed, .int (nI sz0)])), (ed, .inl (cO, 10, .inr (.inr (.inr (.inr fe))))), (ck, .inr (1, [.ref ce, .null])), (ce, .inl (cJ, 128, .inr (.inl fE))), (mm, .inr (4, [.int (nI mi), .int (nI mt), .int (nI mg), .int (nI ms), .int sd, .null])), (rf, .inr (2, [.int (nI fi), .int ff, .int fo, .ref fw]))] s.heap.size = A at hD ⊢
  have hA : ∀ q : Nat, s.heap.size ≤ q → A q := fun q h => by rw [← hAe]; exact Or.inr h
  have hS : va_S A s.heap s.heap [] := va_S.rf
  replace hP : va_P (dC, dI) vwCl [(r, .inr (6, [.int rh, .int rl, .ref st, .ref ck, .ref ck, .int 0, .int 1, .int (nI nf), .int (nI ng), .int 0, .ref rf, .int 0])), (st, .inr (8, [.ref ml, .null])), (ml, .inr (0, [.int (nI mc), .ref ed, .int (nI sz0)])), (ed, .inl (cO, 10, .inr (.inr (.inr (.inr fe))))), (ck, .inr (1, [.ref ce, .null])), (ce, .inl (cJ, 128, .inr (.inl fE))), (mm, .inr (4, [.int (nI mi), .int (nI mt), .int (nI mg), .int (nI ms), .int sd, .null])), (rf, .inr (2, [.int (nI fi), .int ff, .int fo, .ref fw]))] s.heap := hP
  have hl := lv_entry ([.ref r, .int (nI ad)]) (n := 2) (Nat.le_of_ble_eq_true rfl)
  rw [lg_entry_eq]
  generalize (lg_sl ([.ref r, .int (nI ad)]) ++ List.replicate (2 - (lg_sl ([.ref r, .int (nI ad)])).length) Slot.unset).toArray = ls at hl ⊢
  replace hl : lv_has ls 2 [(0, .ref r), (1, .int (nI ad))] := hl
  obtain ⟨H, hH⟩ : ∃ z : Heap, z = s.heap := ⟨_, rfl⟩
  rw [← hH]
  replace hS : va_S A s.heap H [] := by rw [hH]; exact va_S.rf
  replace hP : va_P (dC, dI) vwCl [(r, .inr (6, [.int rh, .int rl, .ref st, .ref ck, .ref ck, .int 0, .int 1, .int (nI nf), .int (nI ng), .int 0, .ref rf, .int 0])), (st, .inr (8, [.ref ml, .null])), (ml, .inr (0, [.int (nI mc), .ref ed, .int (nI sz0)])), (ed, .inl (cO, 10, .inr (.inr (.inr (.inr fe))))), (ck, .inr (1, [.ref ce, .null])), (ce, .inl (cJ, 128, .inr (.inl fE))), (mm, .inr (4, [.int (nI mi), .int (nI mt), .int (nI mg), .int (nI ms), .int sd, .null])), (rf, .inr (2, [.int (nI fi), .int ff, .int fo, .ref fw]))] H := by rw [hH]; exact hP
  clear hH
  refine lv_aload_n hx hb dX5_first_0 rfl (lv_at hl 0 rfl) ?_
  have hPc := hP.sub (ws' := [(r, .inr (6, [.int rh, .int rl, .ref st, .ref ck, .ref ck, .int 0, .int 1, .int (nI nf), .int (nI ng), .int 0, .ref rf, .int 0]))]) [0] rfl
  have hDc := hD.sub (ws' := [(r, .inr (6, [.int rh, .int rl, .ref st, .ref ck, .ref ck, .int 0, .int 1, .int (nI nf), .int (nI ng), .int 0, .ref rf, .int 0]))]) [0] (by decide +kernel) rfl
  have hKc := hK.sub (tys' := []) [] rfl
  have hFc := ro_free hS hA
  refine va_calli (va_runV (As := []) (rest := []) ⟨hx, hb, hml, hown, hts⟩ (c_len_f l dC dI (r) (rh) (rl) (st) (rf) (nf) (ng) (ck) H.size) (cwV 0 hts g_c_first_w_c_len_f_82 rfl rfl rfl (by decide +kernel) ⟨Nat.le_of_ble_eq_true rfl, Nat.le_of_ble_eq_true rfl⟩) ⟨fun a U g mk q => by obtain ⟨q0, q1, qP, qK, qD, qE⟩ := q; exact ⟨q0, q1, qP, va_K.moved (u := U) (U := U.calling g mk a) (Vm.Alike.refl U.vm) qK, qD, ev.same (u := U) (U := U.calling g mk a) rfl qE⟩, va_recv hKc hPc (ci := 6) (q0 := 0) rfl rfl, fun U hU hW => ⟨rfl, by rw [hU], by rw [hU]; exact hPc, va_K.moved hW.alike hKc, hDc.weaken (fun _ _ _ _ => trivial), hE.warm hW⟩⟩ rfl rfl hl.1 rfl (lv_room (Nat.le_of_ble_eq_true rfl)) dX5_first_1 ⟨Nat.le_of_ble_eq_true rfl, Nat.le_of_ble_eq_true rfl⟩) hS (fun q _ h => hFc q h) hFc (fun r_1 u t H1 locs ht hvm hw hB hz1 hk1 hS => ?_)
  clear hPc hDc hKc
  replace hP := ro_keep hP hk1
  generalize H1 = H at hP hS ⊢
  replace hP : va_P (dC, dI) vwCl [(r, .inr (6, [.int rh, .int rl, .ref st, .ref ck, .ref ck, .int 0, .int 1, .int (nI nf), .int (nI ng), .int 0, .ref rf, .int 0])), (st, .inr (8, [.ref ml, .null])), (ml, .inr (0, [.int (nI mc), .ref ed, .int (nI sz0)])), (ed, .inl (cO, 10, .inr (.inr (.inr (.inr fe))))), (ck, .inr (1, [.ref ce, .null])), (ce, .inl (cJ, 128, .inr (.inl fE))), (mm, .inr (4, [.int (nI mi), .int (nI mt), .int (nI mg), .int (nI ms), .int sd, .null])), (rf, .inr (2, [.int (nI fi), .int ff, .int fo, .ref fw]))] H := hP
  have hw := hw.symm
  subst hw
  refine lv_if_ne (tgt := 9) hx hb dX5_first_4 (by decide) (fun c_2 => ?_) (fun c_2 => ?_)
  rotate_left
  · exact absurd ((nI_eq (a := nf) (b := 0) (by omega) (by omega)).mp c_2) (by omega)
  refine lv_aload_n hx hb dX5_first_9 rfl (lv_at hl 0 rfl) ?_
  refine va_get (D := (dC, dI)) (ci := 6) (v := .int 0) (C := RX5) (T := TX5) (N := 12) hx hb hts in_c_first_w_X5 hown hK hP 0 rfl rfl 11 (by decide) (hts (.fieldLink RX5 42 "ClaimBus$Row" "firstIsWritten" "Z") (List.mem_of_getElem? (i := 5) rfl)) (fun _ h9 => h9) rfl dX5_first_10 ?_
  refine lv_if_ne (tgt := 26) hx hb dX5_first_13 (by decide) (fun c_3 => ?_) (fun c_3 => ?_)
  · exact absurd c_3 (by decide)
  refine lv_aload_n hx hb dX5_first_16 rfl (lv_at hl 0 rfl) ?_
  refine lv_iload_n hx hb dX5_first_17 rfl (lv_at hl 1 rfl) ?_
  have hPc := hP.sub (ws' := [(r, .inr (6, [.int rh, .int rl, .ref st, .ref ck, .ref ck, .int 0, .int 1, .int (nI nf), .int (nI ng), .int 0, .ref rf, .int 0])), (st, .inr (8, [.ref ml, .null])), (ml, .inr (0, [.int (nI mc), .ref ed, .int (nI sz0)])), (ed, .inl (cO, 10, .inr (.inr (.inr (.inr fe))))), (ck, .inr (1, [.ref ce, .null])), (ce, .inl (cJ, 128, .inr (.inl fE))), (mm, .inr (4, [.int (nI mi), .int (nI mt), .int (nI mg), .int (nI ms), .int sd, .null])), (rf, .inr (2, [.int (nI fi), .int ff, .int fo, .ref fw]))]) [0, 1, 2, 3, 4, 5, 6, 7] rfl
  have hDc := hD.sub (ws' := [(r, .inr (6, [.int rh, .int rl, .ref st, .ref ck, .ref ck, .int 0, .int 1, .int (nI nf), .int (nI ng), .int 0, .ref rf, .int 0])), (st, .inr (8, [.ref ml, .null])), (ml, .inr (0, [.int (nI mc), .ref ed, .int (nI sz0)])), (ed, .inl (cO, 10, .inr (.inr (.inr (.inr fe))))), (ck, .inr (1, [.ref ce, .null])), (ce, .inl (cJ, 128, .inr (.inl fE))), (mm, .inr (4, [.int (nI mi), .int (nI mt), .int (nI mg), .int (nI ms), .int sd, .null])), (rf, .inr (2, [.int (nI fi), .int ff, .int fo, .ref fw]))]) [0, 1, 2, 3, 4, 5, 6, 7] (by decide +kernel) rfl
  have hKc := hK.sub (tys' := [(cO, (.object "java/lang/Object")), (cJ, .long)]) [0, 1] rfl
  have hFc := va_free (wc := [(r, .inr (6, [.int rh, .int rl, .ref st, .ref ck, .ref ck, .int 0, .int 1, .int (nI nf), .int (nI ng), .int 0, .ref rf, .int 0])), (st, .inr (8, [.ref ml, .null])), (ml, .inr (0, [.int (nI mc), .ref ed, .int (nI sz0)])), (ed, .inl (cO, 10, .inr (.inr (.inr (.inr fe))))), (ck, .inr (1, [.ref ce, .null])), (ce, .inl (cJ, 128, .inr (.inl fE))), (mm, .inr (4, [.int (nI mi), .int (nI mt), .int (nI mg), .int (nI ms), .int sd, .null])), (rf, .inr (2, [.int (nI fi), .int ff, .int fo, .ref fw]))]) hD hS hA [0, 1, 2, 3, 4, 5, 6, 7] rfl
  refine va_callv (va_runV (As := [.int (nI ad)]) (rest := []) ⟨hx, hb, hml, hown, hts⟩ (c_writeFirst_w l dC dI (r) (rh) (rl) (st) (rf) (nf) (ng) (ck) (ce) (cJ) (fE) (ml) (mc) (ed) (sz0) (cO) (fe) (mm) (mi) (mt) (mg) (ms) (sd) (fi) (ff) (fo) (fw) (to) (se) (th) (ad) H.size hmi hmt hmg hms h_to h_se h_th h_ad hel hsz hsz2 hnf hlo hhi) (cwV 1 hts g_c_first_w_c_writeFirst_w_86 rfl rfl rfl (by decide +kernel) ⟨Nat.le_of_ble_eq_true rfl, Nat.le_of_ble_eq_true rfl⟩) ⟨fun a U g mk q => by obtain ⟨q0, q1, qP, qK, qD, qE⟩ := q; exact ⟨q0, q1, qP, va_K.moved (u := U) (U := U.calling g mk a) (Vm.Alike.refl U.vm) qK, qD, ev.same (u := U) (U := U.calling g mk a) rfl qE⟩, va_recv hKc hPc (ci := 6) (q0 := 0) rfl rfl, fun U hU hW => ⟨rfl, by rw [hU], by rw [hU]; exact hPc, va_K.moved hW.alike hKc, hDc.weaken (fun _ _ _ _ => trivial), hE.warm hW⟩⟩ rfl rfl hl.1 rfl (lv_room (Nat.le_of_ble_eq_true rfl)) dX5_first_18 ⟨Nat.le_of_ble_eq_true rfl, Nat.le_of_ble_eq_true rfl⟩) hS (fun q _ h => hFc q h) hFc (fun u t H1 locs ht hvm hw hB hz1 hk1 hS => ?_)
  clear hPc hDc hKc
  obtain ⟨hP1, hK1, hD1⟩ := hB
  rw [ht] at hP1
  have hK1 := va_K.moved hvm.symm hK1
  obtain ⟨hP, hD⟩ := va_join (wr := []) (w1 := [(r, .inr (6, [.int rh, .int rl, .ref st, .ref ck, .ref ck, .int 0, .int 1, .int (nI nf), .int (nI ng), .int 0, .ref rf, .int 0])), (st, .inr (8, [.ref ml, .null])), (ml, .inr (0, [.int (nI mc), .ref ed, .int (nI sz0)])), (ed, .inl (cO, 10, .inr (.inr (.inr (.inr fe))))), (ck, .inr (1, [.ref ce, .null])), (ce, .inl (cJ, 128, .inr (.inl fE))), (mm, .inr (4, [.int (nI mi), .int (nI mt), .int (nI mg), .int (nI ms), .int sd, .null])), (rf, .inr (2, [.int (nI (469762048 + 65536 * 236 + 256 * to + ad)), .int (nI (16 + 256 * (ms % 256) + 65536 * (ms / 256) + 16777216 * ((ms + 6) / 7))), .int (nI (se + 256 * mg)), .ref mm]))]) hP hD [0, 1, 2, 3, 4, 5, 6, 7] [] rfl rfl (by decide +kernel) (by decide +kernel) hk1 hFc hP1 hD1
  generalize H1 = H at hP hS ⊢
  replace hP : va_P (dC, dI) vwCl [(r, .inr (6, [.int rh, .int rl, .ref st, .ref ck, .ref ck, .int 0, .int 1, .int (nI nf), .int (nI ng), .int 0, .ref rf, .int 0])), (st, .inr (8, [.ref ml, .null])), (ml, .inr (0, [.int (nI mc), .ref ed, .int (nI sz0)])), (ed, .inl (cO, 10, .inr (.inr (.inr (.inr fe))))), (ck, .inr (1, [.ref ce, .null])), (ce, .inl (cJ, 128, .inr (.inl fE))), (mm, .inr (4, [.int (nI mi), .int (nI mt), .int (nI mg), .int (nI ms), .int sd, .null])), (rf, .inr (2, [.int (nI (469762048 + 65536 * 236 + 256 * to + ad)), .int (nI (16 + 256 * (ms % 256) + 65536 * (ms / 256) + 16777216 * ((ms + 6) / 7))), .int (nI (se + 256 * mg)), .ref mm]))] H := hP
  replace hD : va_D A [(r, .inr (6, [.int rh, .int rl, .ref st, .ref ck, .ref ck, .int 0, .int 1, .int (nI nf), .int (nI ng), .int 0, .ref rf, .int 0])), (st, .inr (8, [.ref ml, .null])), (ml, .inr (0, [.int (nI mc), .ref ed, .int (nI sz0)])), (ed, .inl (cO, 10, .inr (.inr (.inr (.inr fe))))), (ck, .inr (1, [.ref ce, .null])), (ce, .inl (cJ, 128, .inr (.inl fE))), (mm, .inr (4, [.int (nI mi), .int (nI mt), .int (nI mg), .int (nI ms), .int sd, .null])), (rf, .inr (2, [.int (nI (469762048 + 65536 * 236 + 256 * to + ad)), .int (nI (16 + 256 * (ms % 256) + 65536 * (ms / 256) + 16777216 * ((ms + 6) / 7))), .int (nI (se + 256 * mg)), .ref mm]))] := hD
  clear hw
  refine lv_aload_n hx hb dX5_first_21 rfl (lv_at hl 0 rfl) ?_
  refine lv_iconst (v := 1) hx hb dX5_first_22 (by decide) ?_
  refine va_put (D := (dC, dI)) (ci := 6) (v := .int 1) (ty := .boolean) (C := RX5) (T := TX5) (N := 12) hx hb hts in_c_first_w_X5 tyX5 tyX5_ok nmX5 hown hK hP hD hS 0 rfl rfl 11 (by decide) (hts (.fieldLink RX5 42 "ClaimBus$Row" "firstIsWritten" "Z") (List.mem_of_getElem? (i := 5) rfl)) (fun _ h9 => h9) rfl (by decide +kernel) rfl rfl (Nat.le_of_ble_eq_true rfl) dX5_first_23 (fun H locs hP hD hS => ?_)
  replace hP : va_P (dC, dI) vwCl [(r, .inr (6, [.int rh, .int rl, .ref st, .ref ck, .ref ck, .int 0, .int 1, .int (nI nf), .int (nI ng), .int 0, .ref rf, .int 1])), (st, .inr (8, [.ref ml, .null])), (ml, .inr (0, [.int (nI mc), .ref ed, .int (nI sz0)])), (ed, .inl (cO, 10, .inr (.inr (.inr (.inr fe))))), (ck, .inr (1, [.ref ce, .null])), (ce, .inl (cJ, 128, .inr (.inl fE))), (mm, .inr (4, [.int (nI mi), .int (nI mt), .int (nI mg), .int (nI ms), .int sd, .null])), (rf, .inr (2, [.int (nI (469762048 + 65536 * 236 + 256 * to + ad)), .int (nI (16 + 256 * (ms % 256) + 65536 * (ms / 256) + 16777216 * ((ms + 6) / 7))), .int (nI (se + 256 * mg)), .ref mm]))] H := hP
  replace hD : va_D A [(r, .inr (6, [.int rh, .int rl, .ref st, .ref ck, .ref ck, .int 0, .int 1, .int (nI nf), .int (nI ng), .int 0, .ref rf, .int 1])), (st, .inr (8, [.ref ml, .null])), (ml, .inr (0, [.int (nI mc), .ref ed, .int (nI sz0)])), (ed, .inl (cO, 10, .inr (.inr (.inr (.inr fe))))), (ck, .inr (1, [.ref ce, .null])), (ce, .inl (cJ, 128, .inr (.inl fE))), (mm, .inr (4, [.int (nI mi), .int (nI mt), .int (nI mg), .int (nI ms), .int sd, .null])), (rf, .inr (2, [.int (nI (469762048 + 65536 * 236 + 256 * to + ad)), .int (nI (16 + 256 * (ms % 256) + 65536 * (ms / 256) + 16777216 * ((ms + 6) / 7))), .int (nI (se + 256 * mg)), .ref mm]))] := hD
  refine lv_aload_n hx hb dX5_first_26 rfl (lv_at hl 0 rfl) ?_
  refine va_get (D := (dC, dI)) (ci := 6) (v := .ref rf) (C := RX5) (T := TX5) (N := 12) hx hb hts in_c_first_w_X5 hown hK hP 0 rfl rfl 10 (by decide) (hts (.fieldLink RX5 38 "ClaimBus$Row" "first" "LClaimBus$Frame;") (List.mem_of_getElem? (i := 9) rfl)) (fun _ h9 => h9) rfl dX5_first_27 ?_
  have hP9 := hP.sub (ws' := [(r, .inr (6, [.int rh, .int rl, .ref st, .ref ck, .ref ck, .int 0, .int 1, .int (nI nf), .int (nI ng), .int 0, .ref rf, .int 1])), (st, .inr (8, [.ref ml, .null])), (ml, .inr (0, [.int (nI mc), .ref ed, .int (nI sz0)])), (ed, .inl (cO, 10, .inr (.inr (.inr (.inr fe))))), (ck, .inr (1, [.ref ce, .null])), (ce, .inl (cJ, 128, .inr (.inl fE))), (mm, .inr (4, [.int (nI mi), .int (nI mt), .int (nI mg), .int (nI ms), .int sd, .null])), (rf, .inr (2, [.int (nI (469762048 + 65536 * 236 + 256 * to + ad)), .int (nI (16 + 256 * (ms % 256) + 65536 * (ms / 256) + 16777216 * ((ms + 6) / 7))), .int (nI (se + 256 * mg)), .ref mm]))]) [0, 1, 2, 3, 4, 5, 6, 7] rfl
  have hD9 := hD.sub (ws' := [(r, .inr (6, [.int rh, .int rl, .ref st, .ref ck, .ref ck, .int 0, .int 1, .int (nI nf), .int (nI ng), .int 0, .ref rf, .int 1])), (st, .inr (8, [.ref ml, .null])), (ml, .inr (0, [.int (nI mc), .ref ed, .int (nI sz0)])), (ed, .inl (cO, 10, .inr (.inr (.inr (.inr fe))))), (ck, .inr (1, [.ref ce, .null])), (ce, .inl (cJ, 128, .inr (.inl fE))), (mm, .inr (4, [.int (nI mi), .int (nI mt), .int (nI mg), .int (nI ms), .int sd, .null])), (rf, .inr (2, [.int (nI (469762048 + 65536 * 236 + 256 * to + ad)), .int (nI (16 + 256 * (ms % 256) + 65536 * (ms / 256) + 16777216 * ((ms + 6) / 7))), .int (nI (se + 256 * mg)), .ref mm]))]) [0, 1, 2, 3, 4, 5, 6, 7] (by decide +kernel) rfl
  have hK9 := hK.sub (tys' := [(cO, (.object "java/lang/Object")), (cJ, .long)]) [0, 1] rfl
  exact W.aret (v := .ref rf) hx hb hr (Or.inl ⟨_, rfl⟩) (Or.inr ⟨_, rfl⟩) (fun t ht hW => ⟨⟨some rf, (), rfl, rfl, ⟨by rw [ht]; exact hP9, va_K.moved hW.alike hK9, hD9⟩⟩, hS.F ht⟩) hS.2.2 dX5_first_30

noncomputable def tl_c_writeFirst_d : List Cond := wsX50 ++ (v_c_firstEntry ++ (v_c_messageAt_null ++ (v_c_X10_identifier ++ (v_c_X3_writeControl_19))))
noncomputable def v_c_writeFirst_d : List Cond := .code yX5_writeFirst cX5_writeFirst 8 none :: ([.fieldLink RX5 31 "ClaimBus$Row" "claimWaits" "Z", .initialized RX5, .methodLink RX5 95 yX5_firstEntry, .instanceMethod yX5_firstEntry, .selects RX5 yX5_firstEntry yX5_firstEntry, .fieldLink RX5 51 "ClaimBus$Row" "store" "LClaimBus$Store;", .initialized RX7, .methodLink RX5 99 yX7_messageAt, .instanceMethod yX7_messageAt, .selects RX7 yX7_messageAt yX7_messageAt, .fieldLink RX5 38 "ClaimBus$Row" "first" "LClaimBus$Frame;", .initialized RX10, .static yX10_identifier, .initialized RX3, .methodLink RX5 119 yX3_writeControl, .instanceMethod yX3_writeControl, .selects RX3 yX3_writeControl yX3_writeControl] ++ tl_c_writeFirst_d)
theorem it_c_writeFirst_d : ∀ w ∈ tl_c_writeFirst_d, w ∈ v_c_writeFirst_d := fun w h => List.mem_cons_of_mem _ (List.mem_append_right _ h)
theorem in_c_writeFirst_d_X5 : ∀ w ∈ wsX50, w ∈ v_c_writeFirst_d := fun w h => it_c_writeFirst_d w (List.mem_append_left _ h)
theorem ic_c_writeFirst_d_c_firstEntry : ∀ w ∈ v_c_firstEntry, w ∈ v_c_writeFirst_d := fun w h => it_c_writeFirst_d w (List.mem_append_right _ (List.mem_append_left _ h))
theorem ic_c_writeFirst_d_c_messageAt_null : ∀ w ∈ v_c_messageAt_null, w ∈ v_c_writeFirst_d := fun w h => it_c_writeFirst_d w (List.mem_append_right _ (List.mem_append_right _ (List.mem_append_left _ h)))
theorem ic_c_writeFirst_d_c_X10_identifier : ∀ w ∈ v_c_X10_identifier, w ∈ v_c_writeFirst_d := fun w h => it_c_writeFirst_d w (List.mem_append_right _ (List.mem_append_right _ (List.mem_append_right _ (List.mem_append_left _ h))))
theorem ic_c_writeFirst_d_c_X3_writeControl_19 : ∀ w ∈ v_c_X3_writeControl_19, w ∈ v_c_writeFirst_d := fun w h => it_c_writeFirst_d w (List.mem_append_right _ (List.mem_append_right _ (List.mem_append_right _ (List.mem_append_right _ (h)))))
theorem gt_c_writeFirst_d : ∀ w ∈ tl_c_writeFirst_d, goodWord w = true := List.forall_mem_append.mpr ⟨gw_wsX50, List.forall_mem_append.mpr ⟨gw_c_firstEntry, List.forall_mem_append.mpr ⟨gw_c_messageAt_null, List.forall_mem_append.mpr ⟨gw_c_X10_identifier, gw_c_X3_writeControl_19⟩⟩⟩⟩
theorem gw_c_writeFirst_d : ∀ w ∈ v_c_writeFirst_d, goodWord w = true := List.forall_mem_cons.mpr ⟨by decide +kernel, List.forall_mem_append.mpr ⟨List.all_eq_true.mp (by decide +kernel), gt_c_writeFirst_d⟩⟩
theorem g_c_writeFirst_d_c_firstEntry_95 : GoodIn v_c_writeFirst_d (wsV RX5 95 RX5 yX5_firstEntry v_c_firstEntry) := goodIn_app (goodIn_r [.methodLink RX5 95 yX5_firstEntry, .instanceMethod yX5_firstEntry, .selects RX5 yX5_firstEntry yX5_firstEntry, .initialized RX5] [3, 4, 5, 2] (by decide +kernel) (by decide +kernel)) (fun w h => ⟨ic_c_writeFirst_d_c_firstEntry w h, good_of_word (gw_c_firstEntry w h)⟩)
theorem g_c_writeFirst_d_c_messageAt_null_99 : GoodIn v_c_writeFirst_d (wsV RX5 99 RX7 yX7_messageAt v_c_messageAt_null) := goodIn_app (goodIn_r [.methodLink RX5 99 yX7_messageAt, .instanceMethod yX7_messageAt, .selects RX7 yX7_messageAt yX7_messageAt, .initialized RX7] [8, 9, 10, 7] (by decide +kernel) (by decide +kernel)) (fun w h => ⟨ic_c_writeFirst_d_c_messageAt_null w h, good_of_word (gw_c_messageAt_null w h)⟩)
theorem g_c_writeFirst_d_c_X10_identifier_103 : GoodIn v_c_writeFirst_d v_c_X10_identifier := fun w h => ⟨ic_c_writeFirst_d_c_X10_identifier w h, good_of_word (gw_c_X10_identifier w h)⟩
theorem g_c_writeFirst_d_c_X3_writeControl_19_119 : GoodIn v_c_writeFirst_d (wsV RX5 119 RX3 yX3_writeControl v_c_X3_writeControl_19) := goodIn_app (goodIn_r [.methodLink RX5 119 yX3_writeControl, .instanceMethod yX3_writeControl, .selects RX3 yX3_writeControl yX3_writeControl, .initialized RX3] [15, 16, 17, 14] (by decide +kernel) (by decide +kernel)) (fun w h => ⟨ic_c_writeFirst_d_c_X3_writeControl_19 w h, good_of_word (gw_c_X3_writeControl_19 w h)⟩)
set_option maxHeartbeats 4000000 in
set_option maxRecDepth 100000 in
theorem c_writeFirst_d (l : Launch) (dC : Nat → ClassId) (dI : Nat → Nat → Nat) (r : Nat) (rh : Int32) (rl : Int32) (st : Nat) (rf : Nat) (nf : Nat) (ng : Nat) (ck : Nat) (ce : Nat) (cJ : ClassId) (fE : Nat → Int64) (ml : Nat) (mc : Nat) (ed : Nat) (sz0 : Nat) (cO : ClassId) (fe : Nat → Option Nat) (mm : Nat) (mi : Nat) (mt : Nat) (mg : Nat) (ms : Nat) (sd : Int32) (fi : Nat) (ff : Int32) (fo : Int32) (fw : Nat) (to : Nat) (se : Nat) (th : Nat) (ad : Nat) (sz : Nat) (hmi : mi < 8) (hmt : mt < 256) (hmg : mg < 262144) (hms : ms < 1786) (h_to : to < 256) (h_se : se < 256) (h_th : th < 256) (h_ad : ad < 256) (hel : fe mi = some mm) (hsz : mi < sz0) (hsz2 : sz0 ≤ 10) (hnf : 1 ≤ nf) (hlo : (fE 0).toInt32 = (nI (16777216 * to + 65536 * 19 + 256 * se + th))) (hhi : (fE 0 >>> ((32 : Int32).toInt64 &&& 63)).toInt32 = (nI mi)) : Met l yX5_writeFirst v_c_writeFirst_d ({ frames := 4, cells := 0, slots := 0, locals := 85 }) (va_Pc [.ref r, .int (nI ad)] (fun U => U.heap.size = sz ∧ va_P (dC, dI) vwCl [(r, .inr (6, [.int rh, .int rl, .ref st, .ref ck, .ref ck, .int 0, .int 1, .int (nI nf), .int (nI ng), .int 0, .ref rf, .int 0])), (st, .inr (8, [.ref ml, .null])), (ml, .inr (0, [.int (nI mc), .ref ed, .int (nI sz0)])), (ed, .inl (cO, 10, .inr (.inr (.inr (.inr fe))))), (ck, .inr (1, [.ref ce, .null])), (ce, .inl (cJ, 128, .inr (.inl fE))), (mm, .inr (4, [.int (nI mi), .int (nI mt), .int (nI mg), .int (nI ms), .int sd, .null])), (rf, .inr (2, [.int (nI fi), .int ff, .int fo, .ref fw]))] U.heap ∧ va_K (dC, dI) vwCl [(cO, (.object "java/lang/Object")), (cJ, .long)] U ∧ va_D (fun _ => True) [(r, .inr (6, [.int rh, .int rl, .ref st, .ref ck, .ref ck, .int 0, .int 1, .int (nI nf), .int (nI ng), .int 0, .ref rf, .int 0])), (st, .inr (8, [.ref ml, .null])), (ml, .inr (0, [.int (nI mc), .ref ed, .int (nI sz0)])), (ed, .inl (cO, 10, .inr (.inr (.inr (.inr fe))))), (ck, .inr (1, [.ref ce, .null])), (ce, .inl (cJ, 128, .inr (.inl fE))), (mm, .inr (4, [.int (nI mi), .int (nI mt), .int (nI mg), .int (nI ms), .int sd, .null])), (rf, .inr (2, [.int (nI fi), .int ff, .int fo, .ref fw]))] ∧ ev U)) (va_Qv (fun _ : Unit => True) (fun (_ : Unit) (t : State) => va_P (dC, dI) vwCl [(r, .inr (6, [.int rh, .int rl, .ref st, .ref ck, .ref ck, .int 0, .int 1, .int (nI nf), .int (nI ng), .int 0, .ref rf, .int 0])), (st, .inr (8, [.ref ml, .null])), (ml, .inr (0, [.int (nI mc), .ref ed, .int (nI sz0)])), (ed, .inl (cO, 10, .inr (.inr (.inr (.inr fe))))), (ck, .inr (1, [.ref ce, .null])), (ce, .inl (cJ, 128, .inr (.inl fE))), (mm, .inr (4, [.int (nI mi), .int (nI mt), .int (nI mg), .int (nI ms), .int sd, .null])), (rf, .inr (2, [.int (nI (469762048 + 65536 * 236 + 256 * to + ad)), .int (nI (19 + 256 * (ms % 256) + 65536 * (ms / 256) + 16777216 * ((ms + 6) / 7))), .int (nI (se + 256 * mg)), .ref mm]))] t.heap ∧ va_K (dC, dI) vwCl [(cO, (.object "java/lang/Object")), (cJ, .long)] t ∧ va_D (va_A [(r, .inr (6, [.int rh, .int rl, .ref st, .ref ck, .ref ck, .int 0, .int 1, .int (nI nf), .int (nI ng), .int 0, .ref rf, .int 0])), (st, .inr (8, [.ref ml, .null])), (ml, .inr (0, [.int (nI mc), .ref ed, .int (nI sz0)])), (ed, .inl (cO, 10, .inr (.inr (.inr (.inr fe))))), (ck, .inr (1, [.ref ce, .null])), (ce, .inl (cJ, 128, .inr (.inl fE))), (mm, .inr (4, [.int (nI mi), .int (nI mt), .int (nI mg), .int (nI ms), .int sd, .null])), (rf, .inr (2, [.int (nI fi), .int ff, .int fo, .ref fw]))] sz) [(r, .inr (6, [.int rh, .int rl, .ref st, .ref ck, .ref ck, .int 0, .int 1, .int (nI nf), .int (nI ng), .int 0, .ref rf, .int 0])), (st, .inr (8, [.ref ml, .null])), (ml, .inr (0, [.int (nI mc), .ref ed, .int (nI sz0)])), (ed, .inl (cO, 10, .inr (.inr (.inr (.inr fe))))), (ck, .inr (1, [.ref ce, .null])), (ce, .inl (cJ, 128, .inr (.inl fE))), (mm, .inr (4, [.int (nI mi), .int (nI mt), .int (nI mg), .int (nI ms), .int sd, .null])), (rf, .inr (2, [.int (nI (469762048 + 65536 * 236 + 256 * to + ad)), .int (nI (19 + 256 * (ms % 256) + 65536 * (ms / 256) + 16777216 * ((ms + 6) / 7))), .int (nI (se + 256 * mg)), .ref mm]))]) (va_A [(r, .inr (6, [.int rh, .int rl, .ref st, .ref ck, .ref ck, .int 0, .int 1, .int (nI nf), .int (nI ng), .int 0, .ref rf, .int 0])), (st, .inr (8, [.ref ml, .null])), (ml, .inr (0, [.int (nI mc), .ref ed, .int (nI sz0)])), (ed, .inl (cO, 10, .inr (.inr (.inr (.inr fe))))), (ck, .inr (1, [.ref ce, .null])), (ce, .inl (cJ, 128, .inr (.inl fE))), (mm, .inr (4, [.int (nI mi), .int (nI mt), .int (nI mg), .int (nI ms), .int sd, .null])), (rf, .inr (2, [.int (nI fi), .int ff, .int fo, .ref fw]))] sz)) 0 0 (va_A [(r, .inr (6, [.int rh, .int rl, .ref st, .ref ck, .ref ck, .int 0, .int 1, .int (nI nf), .int (nI ng), .int 0, .ref rf, .int 0])), (st, .inr (8, [.ref ml, .null])), (ml, .inr (0, [.int (nI mc), .ref ed, .int (nI sz0)])), (ed, .inl (cO, 10, .inr (.inr (.inr (.inr fe))))), (ck, .inr (1, [.ref ce, .null])), (ce, .inl (cJ, 128, .inr (.inl fE))), (mm, .inr (4, [.int (nI mi), .int (nI mt), .int (nI mg), .int (nI ms), .int sd, .null])), (rf, .inr (2, [.int (nI fi), .int ff, .int fo, .ref fw]))] sz) := by
  refine Met.ofW (cc := cX5_writeFirst) (maxL := 8) (ret := none) (by decide) rfl ?_
  intro p e s m args below meth c s₁ B hml hv
  obtain ⟨rfl, hsz, hP, hK, hD0, hE⟩ := hv
  have hx := B.exec
  have hb := B.bytes
  have hr := B.returns
  have hts := atoms_spec (ws := v_c_writeFirst_d) B.pre
  have hown : s.vm.findClass RX5 = some m.cls := findClass_of_methodNamed B.named
  have hlocks := B.notSynchronized
  subst hsz
  have hD := hD0.self (sz := s.heap.size)
  generalize hAe : va_A [(r, .inr (6, [.int rh, .int rl, .ref st, .ref ck, .ref ck, .int 0, .int 1, .int (nI nf), .int (nI ng), .int 0, .ref rf, .int 0])), (st, .inr (8, [.ref ml, .null])), (ml, .inr (0, [.int (nI mc), .ref ed, .int (nI sz0)])), (ed, .inl (cO, 10, .inr (.inr (.inr (.inr fe))))), (ck, .inr (1, [.ref ce, .null])), (ce, .inl (cJ, 128, .inr (.inl fE))), (mm, .inr (4, [.int (nI mi), .int (nI mt), .int (nI mg), .int (nI ms), .int sd, .null])), (rf, .inr (2, [.int (nI fi), .int ff, .int fo, .ref fw]))] s.heap.size = A at hD ⊢
  have hA : ∀ q : Nat, s.heap.size ≤ q → A q := fun q h => by rw [← hAe]; exact Or.inr h
  have hS : va_S A s.heap s.heap [] := va_S.rf
  replace hP : va_P (dC, dI) vwCl [(r, .inr (6, [.int rh, .int rl, .ref st, .ref ck, .ref ck, .int 0, .int 1, .int (nI nf), .int (nI ng), .int 0, .ref rf, .int 0])), (st, .inr (8, [.ref ml, .null])), (ml, .inr (0, [.int (nI mc), .ref ed, .int (nI sz0)])), (ed, .inl (cO, 10, .inr (.inr (.inr (.inr fe))))), (ck, .inr (1, [.ref ce, .null])), (ce, .inl (cJ, 128, .inr (.inl fE))), (mm, .inr (4, [.int (nI mi), .int (nI mt), .int (nI mg), .int (nI ms), .int sd, .null])), (rf, .inr (2, [.int (nI fi), .int ff, .int fo, .ref fw]))] s.heap := hP
  have hl := lv_entry ([.ref r, .int (nI ad)]) (n := 8) (Nat.le_of_ble_eq_true rfl)
  rw [lg_entry_eq]
  generalize (lg_sl ([.ref r, .int (nI ad)]) ++ List.replicate (8 - (lg_sl ([.ref r, .int (nI ad)])).length) Slot.unset).toArray = ls at hl ⊢
  replace hl : lv_has ls 8 [(0, .ref r), (1, .int (nI ad))] := hl
  obtain ⟨H, hH⟩ : ∃ z : Heap, z = s.heap := ⟨_, rfl⟩
  rw [← hH]
  replace hS : va_S A s.heap H [] := by rw [hH]; exact va_S.rf
  replace hP : va_P (dC, dI) vwCl [(r, .inr (6, [.int rh, .int rl, .ref st, .ref ck, .ref ck, .int 0, .int 1, .int (nI nf), .int (nI ng), .int 0, .ref rf, .int 0])), (st, .inr (8, [.ref ml, .null])), (ml, .inr (0, [.int (nI mc), .ref ed, .int (nI sz0)])), (ed, .inl (cO, 10, .inr (.inr (.inr (.inr fe))))), (ck, .inr (1, [.ref ce, .null])), (ce, .inl (cJ, 128, .inr (.inl fE))), (mm, .inr (4, [.int (nI mi), .int (nI mt), .int (nI mg), .int (nI ms), .int sd, .null])), (rf, .inr (2, [.int (nI fi), .int ff, .int fo, .ref fw]))] H := by rw [hH]; exact hP
  clear hH
  refine lv_aload_n hx hb dX5_writeFirst_0 rfl (lv_at hl 0 rfl) ?_
  refine va_get (D := (dC, dI)) (ci := 6) (v := .int 0) (C := RX5) (T := TX5) (N := 12) hx hb hts in_c_writeFirst_d_X5 hown hK hP 0 rfl rfl 9 (by decide) (hts (.fieldLink RX5 31 "ClaimBus$Row" "claimWaits" "Z") (List.mem_of_getElem? (i := 1) rfl)) (fun _ h9 => h9) rfl dX5_writeFirst_1 ?_
  refine lv_if_eq (tgt := 28) hx hb dX5_writeFirst_4 (by decide) (fun c_1 => ?_) (fun c_1 => ?_)
  rotate_left
  · exact absurd (by decide) c_1
  refine lv_aload_n hx hb dX5_writeFirst_28 rfl (lv_at hl 0 rfl) ?_
  have hPc := hP.sub (ws' := [(r, .inr (6, [.int rh, .int rl, .ref st, .ref ck, .ref ck, .int 0, .int 1, .int (nI nf), .int (nI ng), .int 0, .ref rf, .int 0])), (ck, .inr (1, [.ref ce, .null])), (ce, .inl (cJ, 128, .inr (.inl fE)))]) [0, 4, 5] rfl
  have hDc := hD.sub (ws' := [(r, .inr (6, [.int rh, .int rl, .ref st, .ref ck, .ref ck, .int 0, .int 1, .int (nI nf), .int (nI ng), .int 0, .ref rf, .int 0])), (ck, .inr (1, [.ref ce, .null])), (ce, .inl (cJ, 128, .inr (.inl fE)))]) [0, 4, 5] (by decide +kernel) rfl
  have hKc := hK.sub (tys' := [(cJ, .long)]) [1] rfl
  have hFc := ro_free hS hA
  refine va_calll (va_runV (As := []) (rest := []) ⟨hx, hb, hml, hown, hts⟩ (c_firstEntry l dC dI (r) (rh) (rl) (st) (rf) (nf) (ng) (ck) (ce) (cJ) (fE) H.size) (cwV 0 hts g_c_writeFirst_d_c_firstEntry_95 rfl rfl rfl (by decide +kernel) ⟨Nat.le_of_ble_eq_true rfl, Nat.le_of_ble_eq_true rfl⟩) ⟨fun a U g mk q => by obtain ⟨q0, q1, qP, qK, qD, qE⟩ := q; exact ⟨q0, q1, qP, va_K.moved (u := U) (U := U.calling g mk a) (Vm.Alike.refl U.vm) qK, qD, ev.same (u := U) (U := U.calling g mk a) rfl qE⟩, va_recv hKc hPc (ci := 6) (q0 := 0) rfl rfl, fun U hU hW => ⟨rfl, by rw [hU], by rw [hU]; exact hPc, va_K.moved hW.alike hKc, hDc.weaken (fun _ _ _ _ => trivial), hE.warm hW⟩⟩ rfl rfl hl.1 rfl (lv_room (Nat.le_of_ble_eq_true rfl)) dX5_writeFirst_29 ⟨Nat.le_of_ble_eq_true rfl, Nat.le_of_ble_eq_true rfl⟩) hS (fun q _ h => hFc q h) hFc (fun r_2 u t H1 locs ht hvm hw hB hz1 hk1 hS => ?_)
  clear hPc hDc hKc
  replace hP := ro_keep hP hk1
  generalize H1 = H at hP hS ⊢
  replace hP : va_P (dC, dI) vwCl [(r, .inr (6, [.int rh, .int rl, .ref st, .ref ck, .ref ck, .int 0, .int 1, .int (nI nf), .int (nI ng), .int 0, .ref rf, .int 0])), (st, .inr (8, [.ref ml, .null])), (ml, .inr (0, [.int (nI mc), .ref ed, .int (nI sz0)])), (ed, .inl (cO, 10, .inr (.inr (.inr (.inr fe))))), (ck, .inr (1, [.ref ce, .null])), (ce, .inl (cJ, 128, .inr (.inl fE))), (mm, .inr (4, [.int (nI mi), .int (nI mt), .int (nI mg), .int (nI ms), .int sd, .null])), (rf, .inr (2, [.int (nI fi), .int ff, .int fo, .ref fw]))] H := hP
  have hw := hw.symm
  subst hw
  refine lv_lstore_n (lv' := [(2, .long (fE 0)), (0, .ref r), (1, .int (nI ad))]) hx hb dX5_writeFirst_32 rfl hl (by decide) rfl (fun ls hl => ?_)
  refine lv_aload_n hx hb dX5_writeFirst_33 rfl (lv_at hl 1 rfl) ?_
  refine va_get (D := (dC, dI)) (ci := 6) (v := .ref st) (C := RX5) (T := TX5) (N := 12) hx hb hts in_c_writeFirst_d_X5 hown hK hP 0 rfl rfl 2 (by decide) (hts (.fieldLink RX5 51 "ClaimBus$Row" "store" "LClaimBus$Store;") (List.mem_of_getElem? (i := 6) rfl)) (fun _ h9 => h9) rfl dX5_writeFirst_34 ?_
  refine lv_lload_n hx hb dX5_writeFirst_37 rfl (lv_at hl 0 rfl) ?_
  refine lv_bipush (v := 32) hx hb dX5_writeFirst_38 (by decide) ?_
  refine lv_lshr hx hb dX5_writeFirst_40 rfl ?_
  refine lv_l2i hx hb dX5_writeFirst_41 rfl ?_
  rw [hhi]
  have hPc := hP.sub (ws' := [(st, .inr (8, [.ref ml, .null])), (ml, .inr (0, [.int (nI mc), .ref ed, .int (nI sz0)])), (ed, .inl (cO, 10, .inr (.inr (.inr (.inr fe))))), (mm, .inr (4, [.int (nI mi), .int (nI mt), .int (nI mg), .int (nI ms), .int sd, .null]))]) [1, 2, 3, 6] rfl
  have hDc := hD.sub (ws' := [(st, .inr (8, [.ref ml, .null])), (ml, .inr (0, [.int (nI mc), .ref ed, .int (nI sz0)])), (ed, .inl (cO, 10, .inr (.inr (.inr (.inr fe))))), (mm, .inr (4, [.int (nI mi), .int (nI mt), .int (nI mg), .int (nI ms), .int sd, .null]))]) [1, 2, 3, 6] (by decide +kernel) rfl
  have hKc := hK.sub (tys' := [(cO, (.object "java/lang/Object"))]) [0] rfl
  have hFc := ro_free hS hA
  refine va_callq (va_runV (As := [.int (nI mi)]) (rest := []) ⟨hx, hb, hml, hown, hts⟩ (c_messageAt_null l dC dI (st) (ml) (mc) (ed) (sz0) (cO) (fe) (mm) (mi) (mt) (mg) (ms) (sd) (mi) H.size hel hsz hsz2) (cwV 1 hts g_c_writeFirst_d_c_messageAt_null_99 rfl rfl rfl (by decide +kernel) ⟨Nat.le_of_ble_eq_true rfl, Nat.le_of_ble_eq_true rfl⟩) ⟨fun a U g mk q => by obtain ⟨q0, q1, qP, qK, qD, qE⟩ := q; exact ⟨q0, q1, qP, va_K.moved (u := U) (U := U.calling g mk a) (Vm.Alike.refl U.vm) qK, qD, ev.same (u := U) (U := U.calling g mk a) rfl qE⟩, va_recv hKc hPc (ci := 8) (q0 := 0) rfl rfl, fun U hU hW => ⟨rfl, by rw [hU], by rw [hU]; exact hPc, va_K.moved hW.alike hKc, hDc.weaken (fun _ _ _ _ => trivial), hE.warm hW⟩⟩ rfl rfl hl.1 rfl (lv_room (Nat.le_of_ble_eq_true rfl)) dX5_writeFirst_42 ⟨Nat.le_of_ble_eq_true rfl, Nat.le_of_ble_eq_true rfl⟩) hS (fun q _ h => hFc q h) hFc (fun r_3 u t H1 locs ht hvm hw hB hz1 hk1 hS => ?_)
  clear hPc hDc hKc
  replace hP := ro_keep hP hk1
  generalize H1 = H at hP hS ⊢
  replace hP : va_P (dC, dI) vwCl [(r, .inr (6, [.int rh, .int rl, .ref st, .ref ck, .ref ck, .int 0, .int 1, .int (nI nf), .int (nI ng), .int 0, .ref rf, .int 0])), (st, .inr (8, [.ref ml, .null])), (ml, .inr (0, [.int (nI mc), .ref ed, .int (nI sz0)])), (ed, .inl (cO, 10, .inr (.inr (.inr (.inr fe))))), (ck, .inr (1, [.ref ce, .null])), (ce, .inl (cJ, 128, .inr (.inl fE))), (mm, .inr (4, [.int (nI mi), .int (nI mt), .int (nI mg), .int (nI ms), .int sd, .null])), (rf, .inr (2, [.int (nI fi), .int ff, .int fo, .ref fw]))] H := hP
  have hw := hw.symm
  subst hw
  refine W.eq (g2 := F0 m 45 ls [.ref mm]) rfl ?_
  refine lv_astore (lv' := [(4, .ref mm), (2, .long (fE 0)), (0, .ref r), (1, .int (nI ad))]) hx hb dX5_writeFirst_45 hl (by decide) rfl (fun ls hl => ?_)
  refine lv_lload_n hx hb dX5_writeFirst_47 rfl (lv_at hl 1 rfl) ?_
  refine lv_l2i hx hb dX5_writeFirst_48 rfl ?_
  rw [hlo]
  refine lv_istore (lv' := [(5, .int (nI (16777216 * to + 65536 * 19 + 256 * se + th))), (4, .ref mm), (2, .long (fE 0)), (0, .ref r), (1, .int (nI ad))]) hx hb dX5_writeFirst_49 hl (by decide) rfl (fun ls hl => ?_)
  refine lv_iload hx hb dX5_writeFirst_51 (lv_at hl 0 rfl) ?_
  refine lv_bipush (v := 24) hx hb dX5_writeFirst_53 (by decide) ?_
  refine lv_iushr (v := (nI to)) hx hb dX5_writeFirst_55 ((pk_ushrN (n := (16777216 * to + 65536 * 19 + 256 * se + th)) (by omega) (24 : Int32) 24 (by decide)).trans (show nI ((16777216 * to + 65536 * 19 + 256 * se + th) / 2 ^ 24) = nI (to) from congrArg nI (by omega))) ?_
  refine lv_istore (lv' := [(6, .int (nI to)), (5, .int (nI (16777216 * to + 65536 * 19 + 256 * se + th))), (4, .ref mm), (2, .long (fE 0)), (0, .ref r), (1, .int (nI ad))]) hx hb dX5_writeFirst_56 hl (by decide) rfl (fun ls hl => ?_)
  refine lv_iload hx hb dX5_writeFirst_58 (lv_at hl 1 rfl) ?_
  refine lv_bipush (v := 16) hx hb dX5_writeFirst_60 (by decide) ?_
  refine lv_iushr (v := (nI (256 * to + 19))) hx hb dX5_writeFirst_62 ((pk_ushrN (n := (16777216 * to + 65536 * 19 + 256 * se + th)) (by omega) (16 : Int32) 16 (by decide)).trans (show nI ((16777216 * to + 65536 * 19 + 256 * se + th) / 2 ^ 16) = nI (256 * to + 19) from congrArg nI (by omega))) ?_
  refine lv_sipush (v := 255) hx hb dX5_writeFirst_63 (by decide) ?_
  refine lv_iand hx hb dX5_writeFirst_66 ?_
  refine lv_topi (fun x_4 ex_4 => ?_)
  obtain rfl : x_4 = 19 := ex_4.trans ((pk_andN (n := (256 * to + 19)) (m := 255) (by omega) 8 (by decide)).trans (show nI ((256 * to + 19) % 2 ^ 8) = nI (19) from congrArg nI (by omega)))
  refine lv_istore (lv' := [(7, .int 19), (6, .int (nI to)), (5, .int (nI (16777216 * to + 65536 * 19 + 256 * se + th))), (4, .ref mm), (2, .long (fE 0)), (0, .ref r), (1, .int (nI ad))]) hx hb dX5_writeFirst_67 hl (by decide) rfl (fun ls hl => ?_)
  refine lv_aload hx hb dX5_writeFirst_69 (lv_at hl 3 rfl) ?_
  refine lv_ifnonnull (tgt := 106) hx hb dX5_writeFirst_71 (by decide) ?_
  refine lv_iload hx hb dX5_writeFirst_106 (lv_at hl 0 rfl) ?_
  refine lv_if_ne (tgt := 124) hx hb dX5_writeFirst_108 (by decide) (fun c_5 => ?_) (fun c_5 => ?_)
  rotate_left
  · exact absurd c_5 (by decide)
  refine lv_iload hx hb dX5_writeFirst_124 (lv_at hl 0 rfl) ?_
  refine lv_sipush (v := 235) hx hb dX5_writeFirst_126 (by decide) ?_
  refine lv_icmp_ne (tgt := 156) hx hb dX5_writeFirst_129 (by decide) (fun c_6 => ?_) (fun c_6 => ?_)
  rotate_left
  · exact absurd c_6 (by decide)
  refine lv_aload hx hb dX5_writeFirst_156 (lv_at hl 3 rfl) ?_
  refine lv_aload_n hx hb dX5_writeFirst_158 rfl (lv_at hl 5 rfl) ?_
  refine va_get (D := (dC, dI)) (ci := 6) (v := .ref rf) (C := RX5) (T := TX5) (N := 12) hx hb hts in_c_writeFirst_d_X5 hown hK hP 0 rfl rfl 10 (by decide) (hts (.fieldLink RX5 38 "ClaimBus$Row" "first" "LClaimBus$Frame;") (List.mem_of_getElem? (i := 11) rfl)) (fun _ h9 => h9) rfl dX5_writeFirst_159 ?_
  refine lv_sipush (v := 236) hx hb dX5_writeFirst_162 (by decide) ?_
  refine lv_iload hx hb dX5_writeFirst_165 (lv_at hl 1 rfl) ?_
  refine lv_iload_n hx hb dX5_writeFirst_167 rfl (lv_at hl 6 rfl) ?_
  have hPc := hP.sub (ws' := []) [] rfl
  have hDc := hD.sub (ws' := []) [] (by decide +kernel) rfl
  have hKc := hK.sub (tys' := []) [] rfl
  have hFc := ro_free hS hA
  refine va_calli (va_runSN (As := [.int 236, .int (nI to), .int (nI ad)]) (rest := [.ref rf, .ref mm]) ⟨hx, hb, hml, hown, hts⟩ (c_X10_identifier l dC dI (236) (to) (ad) H.size (by omega) h_to h_ad) ⟨va_cnB 3 hts g_c_writeFirst_d_c_X10_identifier_103 rfl rfl rfl hE.n8 (hts (.initialized RX10) (List.mem_of_getElem? (i := 12) rfl)) (by decide +kernel) ⟨Nat.le_of_ble_eq_true rfl, Nat.le_of_ble_eq_true rfl⟩, (hts (.static yX10_identifier) (List.mem_of_getElem? (i := 13) rfl)), trivial⟩ ⟨fun a U g mk q => by obtain ⟨q0, q1, qP, qK, qD, qE⟩ := q; exact ⟨q0, q1, qP, va_K.moved (u := U) (U := U.calling g mk a) (Vm.Alike.refl U.vm) qK, qD, ev.same (u := U) (U := U.calling g mk a) rfl qE⟩, fun U hU hW => ⟨rfl, by rw [hU], by rw [hU]; exact hPc, va_K.moved hW.alike hKc, hDc.weaken (fun _ _ _ _ => trivial), hE.warm hW⟩⟩ rfl rfl hl.1 rfl (lv_room (Nat.le_of_ble_eq_true rfl)) dX5_writeFirst_168 ⟨Nat.le_of_ble_eq_true rfl, Nat.le_of_ble_eq_true rfl⟩) hS (fun q _ h => hFc q h) hFc (fun r_7 u t H1 locs ht hvm hw hB hz1 hk1 hS => ?_)
  clear hPc hDc hKc
  replace hP := ro_keep hP hk1
  generalize H1 = H at hP hS ⊢
  replace hP : va_P (dC, dI) vwCl [(r, .inr (6, [.int rh, .int rl, .ref st, .ref ck, .ref ck, .int 0, .int 1, .int (nI nf), .int (nI ng), .int 0, .ref rf, .int 0])), (st, .inr (8, [.ref ml, .null])), (ml, .inr (0, [.int (nI mc), .ref ed, .int (nI sz0)])), (ed, .inl (cO, 10, .inr (.inr (.inr (.inr fe))))), (ck, .inr (1, [.ref ce, .null])), (ce, .inl (cJ, 128, .inr (.inl fE))), (mm, .inr (4, [.int (nI mi), .int (nI mt), .int (nI mg), .int (nI ms), .int sd, .null])), (rf, .inr (2, [.int (nI fi), .int ff, .int fo, .ref fw]))] H := hP
  have hw := hw.symm
  subst hw
  refine lv_iload hx hb dX5_writeFirst_171 (lv_at hl 0 rfl) ?_
  refine lv_iload hx hb dX5_writeFirst_173 (lv_at hl 2 rfl) ?_
  refine lv_bipush (v := 8) hx hb dX5_writeFirst_175 (by decide) ?_
  refine lv_iushr (v := (nI (se + 65536 * to + 4864))) hx hb dX5_writeFirst_177 ((pk_ushrN (n := (16777216 * to + 65536 * 19 + 256 * se + th)) (by omega) (8 : Int32) 8 (by decide)).trans (show nI ((16777216 * to + 65536 * 19 + 256 * se + th) / 2 ^ 8) = nI (se + 65536 * to + 4864) from congrArg nI (by omega))) ?_
  refine lv_sipush (v := 255) hx hb dX5_writeFirst_178 (by decide) ?_
  refine lv_iand hx hb dX5_writeFirst_181 ?_
  refine lv_topi (fun x_8 ex_8 => ?_)
  obtain rfl : x_8 = (nI se) := ex_8.trans ((pk_andN (n := (se + 65536 * to + 4864)) (m := 255) (by omega) 8 (by decide)).trans (show nI ((se + 65536 * to + 4864) % 2 ^ 8) = nI (se) from congrArg nI (by omega)))
  refine lv_iload hx hb dX5_writeFirst_182 (lv_at hl 2 rfl) ?_
  refine lv_sipush (v := 255) hx hb dX5_writeFirst_184 (by decide) ?_
  refine lv_iand hx hb dX5_writeFirst_187 ?_
  refine lv_topi (fun x_9 ex_9 => ?_)
  obtain rfl : x_9 = (nI th) := ex_9.trans ((pk_andN (n := (16777216 * to + 65536 * 19 + 256 * se + th)) (m := 255) (by omega) 8 (by decide)).trans (show nI ((16777216 * to + 65536 * 19 + 256 * se + th) % 2 ^ 8) = nI (th) from congrArg nI (by omega)))
  have hPc := hP.sub (ws' := [(mm, .inr (4, [.int (nI mi), .int (nI mt), .int (nI mg), .int (nI ms), .int sd, .null])), (rf, .inr (2, [.int (nI fi), .int ff, .int fo, .ref fw]))]) [6, 7] rfl
  have hDc := hD.sub (ws' := [(mm, .inr (4, [.int (nI mi), .int (nI mt), .int (nI mg), .int (nI ms), .int sd, .null])), (rf, .inr (2, [.int (nI fi), .int ff, .int fo, .ref fw]))]) [6, 7] (by decide +kernel) rfl
  have hKc := hK.sub (tys' := []) [] rfl
  have hFc := va_free (wc := [(mm, .inr (4, [.int (nI mi), .int (nI mt), .int (nI mg), .int (nI ms), .int sd, .null])), (rf, .inr (2, [.int (nI fi), .int ff, .int fo, .ref fw]))]) hD hS hA [6, 7] rfl
  refine va_callv (va_runV (As := [.ref rf, .int (nI (469762048 + 65536 * 236 + 256 * to + ad)), .int 19, .int (nI se), .int (nI th)]) (rest := []) ⟨hx, hb, hml, hown, hts⟩ (c_X3_writeControl_19 l dC dI (mm) (mi) (mt) (mg) (ms) (sd) (rf) (fi) (ff) (fo) (fw) ((469762048 + 65536 * 236 + 256 * to + ad)) (se) (th) H.size hmi hmt hmg hms h_se h_th) (cwV 5 hts g_c_writeFirst_d_c_X3_writeControl_19_119 rfl rfl rfl (by decide +kernel) ⟨Nat.le_of_ble_eq_true rfl, Nat.le_of_ble_eq_true rfl⟩) ⟨fun a U g mk q => by obtain ⟨q0, q1, qP, qK, qD, qE⟩ := q; exact ⟨q0, q1, qP, va_K.moved (u := U) (U := U.calling g mk a) (Vm.Alike.refl U.vm) qK, qD, ev.same (u := U) (U := U.calling g mk a) rfl qE⟩, va_recv hKc hPc (ci := 4) (q0 := 0) rfl rfl, fun U hU hW => ⟨rfl, by rw [hU], by rw [hU]; exact hPc, va_K.moved hW.alike hKc, hDc.weaken (fun _ _ _ _ => trivial), hE.warm hW⟩⟩ rfl rfl hl.1 rfl (lv_room (Nat.le_of_ble_eq_true rfl)) dX5_writeFirst_188 ⟨Nat.le_of_ble_eq_true rfl, Nat.le_of_ble_eq_true rfl⟩) hS (fun q _ h => hFc q h) hFc (fun u t H1 locs ht hvm hw hB hz1 hk1 hS => ?_)
  clear hPc hDc hKc
  obtain ⟨hP1, hK1, hD1⟩ := hB
  rw [ht] at hP1
  have hK1 := va_K.moved hvm.symm hK1
  obtain ⟨hP, hD⟩ := va_join (wr := [(r, .inr (6, [.int rh, .int rl, .ref st, .ref ck, .ref ck, .int 0, .int 1, .int (nI nf), .int (nI ng), .int 0, .ref rf, .int 0])), (st, .inr (8, [.ref ml, .null])), (ml, .inr (0, [.int (nI mc), .ref ed, .int (nI sz0)])), (ed, .inl (cO, 10, .inr (.inr (.inr (.inr fe))))), (ck, .inr (1, [.ref ce, .null])), (ce, .inl (cJ, 128, .inr (.inl fE)))]) (w1 := [(mm, .inr (4, [.int (nI mi), .int (nI mt), .int (nI mg), .int (nI ms), .int sd, .null])), (rf, .inr (2, [.int (nI (469762048 + 65536 * 236 + 256 * to + ad)), .int (nI (19 + 256 * (ms % 256) + 65536 * (ms / 256) + 16777216 * ((ms + 6) / 7))), .int (nI (se + 256 * mg)), .ref mm]))]) hP hD [6, 7] [0, 1, 2, 3, 4, 5] rfl rfl (by decide +kernel) (by decide +kernel) hk1 hFc hP1 hD1
  generalize H1 = H at hP hS ⊢
  replace hP : va_P (dC, dI) vwCl [(r, .inr (6, [.int rh, .int rl, .ref st, .ref ck, .ref ck, .int 0, .int 1, .int (nI nf), .int (nI ng), .int 0, .ref rf, .int 0])), (st, .inr (8, [.ref ml, .null])), (ml, .inr (0, [.int (nI mc), .ref ed, .int (nI sz0)])), (ed, .inl (cO, 10, .inr (.inr (.inr (.inr fe))))), (ck, .inr (1, [.ref ce, .null])), (ce, .inl (cJ, 128, .inr (.inl fE))), (mm, .inr (4, [.int (nI mi), .int (nI mt), .int (nI mg), .int (nI ms), .int sd, .null])), (rf, .inr (2, [.int (nI (469762048 + 65536 * 236 + 256 * to + ad)), .int (nI (19 + 256 * (ms % 256) + 65536 * (ms / 256) + 16777216 * ((ms + 6) / 7))), .int (nI (se + 256 * mg)), .ref mm]))] H := hP
  replace hD : va_D A [(r, .inr (6, [.int rh, .int rl, .ref st, .ref ck, .ref ck, .int 0, .int 1, .int (nI nf), .int (nI ng), .int 0, .ref rf, .int 0])), (st, .inr (8, [.ref ml, .null])), (ml, .inr (0, [.int (nI mc), .ref ed, .int (nI sz0)])), (ed, .inl (cO, 10, .inr (.inr (.inr (.inr fe))))), (ck, .inr (1, [.ref ce, .null])), (ce, .inl (cJ, 128, .inr (.inl fE))), (mm, .inr (4, [.int (nI mi), .int (nI mt), .int (nI mg), .int (nI ms), .int sd, .null])), (rf, .inr (2, [.int (nI (469762048 + 65536 * 236 + 256 * to + ad)), .int (nI (19 + 256 * (ms % 256) + 65536 * (ms / 256) + 16777216 * ((ms + 6) / 7))), .int (nI (se + 256 * mg)), .ref mm]))] := hD
  clear hw
  have hP9 := hP.sub (ws' := [(r, .inr (6, [.int rh, .int rl, .ref st, .ref ck, .ref ck, .int 0, .int 1, .int (nI nf), .int (nI ng), .int 0, .ref rf, .int 0])), (st, .inr (8, [.ref ml, .null])), (ml, .inr (0, [.int (nI mc), .ref ed, .int (nI sz0)])), (ed, .inl (cO, 10, .inr (.inr (.inr (.inr fe))))), (ck, .inr (1, [.ref ce, .null])), (ce, .inl (cJ, 128, .inr (.inl fE))), (mm, .inr (4, [.int (nI mi), .int (nI mt), .int (nI mg), .int (nI ms), .int sd, .null])), (rf, .inr (2, [.int (nI (469762048 + 65536 * 236 + 256 * to + ad)), .int (nI (19 + 256 * (ms % 256) + 65536 * (ms / 256) + 16777216 * ((ms + 6) / 7))), .int (nI (se + 256 * mg)), .ref mm]))]) [0, 1, 2, 3, 4, 5, 6, 7] rfl
  have hD9 := hD.sub (ws' := [(r, .inr (6, [.int rh, .int rl, .ref st, .ref ck, .ref ck, .int 0, .int 1, .int (nI nf), .int (nI ng), .int 0, .ref rf, .int 0])), (st, .inr (8, [.ref ml, .null])), (ml, .inr (0, [.int (nI mc), .ref ed, .int (nI sz0)])), (ed, .inl (cO, 10, .inr (.inr (.inr (.inr fe))))), (ck, .inr (1, [.ref ce, .null])), (ce, .inl (cJ, 128, .inr (.inl fE))), (mm, .inr (4, [.int (nI mi), .int (nI mt), .int (nI mg), .int (nI ms), .int sd, .null])), (rf, .inr (2, [.int (nI (469762048 + 65536 * 236 + 256 * to + ad)), .int (nI (19 + 256 * (ms % 256) + 65536 * (ms / 256) + 16777216 * ((ms + 6) / 7))), .int (nI (se + 256 * mg)), .ref mm]))]) [0, 1, 2, 3, 4, 5, 6, 7] (by decide +kernel) rfl
  have hK9 := hK.sub (tys' := [(cO, (.object "java/lang/Object")), (cJ, .long)]) [0, 1] rfl
  exact W.vret hx hb hr (fun t ht hW => ⟨⟨(), rfl, trivial, ⟨by rw [ht]; exact hP9, va_K.moved hW.alike hK9, hD9⟩⟩, hS.F ht⟩) hS.2.2 dX5_writeFirst_191

noncomputable def tl_c_first_d : List Cond := wsX50 ++ (v_c_len_f ++ (v_c_writeFirst_d))
noncomputable def v_c_first_d : List Cond := .code yX5_first cX5_first 2 (some (.object "ClaimBus$Frame")) :: ([.initialized RX5, .methodLink RX5 82 yX5_length, .instanceMethod yX5_length, .selects RX5 yX5_length yX5_length, .fieldLink RX5 42 "ClaimBus$Row" "firstIsWritten" "Z", .methodLink RX5 86 yX5_writeFirst, .instanceMethod yX5_writeFirst, .selects RX5 yX5_writeFirst yX5_writeFirst, .fieldLink RX5 38 "ClaimBus$Row" "first" "LClaimBus$Frame;"] ++ tl_c_first_d)
theorem it_c_first_d : ∀ w ∈ tl_c_first_d, w ∈ v_c_first_d := fun w h => List.mem_cons_of_mem _ (List.mem_append_right _ h)
theorem in_c_first_d_X5 : ∀ w ∈ wsX50, w ∈ v_c_first_d := fun w h => it_c_first_d w (List.mem_append_left _ h)
theorem ic_c_first_d_c_len_f : ∀ w ∈ v_c_len_f, w ∈ v_c_first_d := fun w h => it_c_first_d w (List.mem_append_right _ (List.mem_append_left _ h))
theorem ic_c_first_d_c_writeFirst_d : ∀ w ∈ v_c_writeFirst_d, w ∈ v_c_first_d := fun w h => it_c_first_d w (List.mem_append_right _ (List.mem_append_right _ (h)))
theorem gt_c_first_d : ∀ w ∈ tl_c_first_d, goodWord w = true := List.forall_mem_append.mpr ⟨gw_wsX50, List.forall_mem_append.mpr ⟨gw_c_len_f, gw_c_writeFirst_d⟩⟩
theorem gw_c_first_d : ∀ w ∈ v_c_first_d, goodWord w = true := List.forall_mem_cons.mpr ⟨by decide +kernel, List.forall_mem_append.mpr ⟨List.all_eq_true.mp (by decide +kernel), gt_c_first_d⟩⟩
theorem g_c_first_d_c_len_f_82 : GoodIn v_c_first_d (wsV RX5 82 RX5 yX5_length v_c_len_f) := goodIn_app (goodIn_r [.methodLink RX5 82 yX5_length, .instanceMethod yX5_length, .selects RX5 yX5_length yX5_length, .initialized RX5] [2, 3, 4, 1] (by decide +kernel) (by decide +kernel)) (fun w h => ⟨ic_c_first_d_c_len_f w h, good_of_word (gw_c_len_f w h)⟩)
theorem g_c_first_d_c_writeFirst_d_86 : GoodIn v_c_first_d (wsV RX5 86 RX5 yX5_writeFirst v_c_writeFirst_d) := goodIn_app (goodIn_r [.methodLink RX5 86 yX5_writeFirst, .instanceMethod yX5_writeFirst, .selects RX5 yX5_writeFirst yX5_writeFirst, .initialized RX5] [6, 7, 8, 1] (by decide +kernel) (by decide +kernel)) (fun w h => ⟨ic_c_first_d_c_writeFirst_d w h, good_of_word (gw_c_writeFirst_d w h)⟩)
set_option maxHeartbeats 4000000 in
set_option maxRecDepth 100000 in
theorem c_first_d (l : Launch) (dC : Nat → ClassId) (dI : Nat → Nat → Nat) (r : Nat) (rh : Int32) (rl : Int32) (st : Nat) (rf : Nat) (nf : Nat) (ng : Nat) (ck : Nat) (ce : Nat) (cJ : ClassId) (fE : Nat → Int64) (ml : Nat) (mc : Nat) (ed : Nat) (sz0 : Nat) (cO : ClassId) (fe : Nat → Option Nat) (mm : Nat) (mi : Nat) (mt : Nat) (mg : Nat) (ms : Nat) (sd : Int32) (fi : Nat) (ff : Int32) (fo : Int32) (fw : Nat) (to : Nat) (se : Nat) (th : Nat) (ad : Nat) (sz : Nat) (hmi : mi < 8) (hmt : mt < 256) (hmg : mg < 262144) (hms : ms < 1786) (h_to : to < 256) (h_se : se < 256) (h_th : th < 256) (h_ad : ad < 256) (hel : fe mi = some mm) (hsz : mi < sz0) (hsz2 : sz0 ≤ 10) (hnf : 1 ≤ nf) (hlo : (fE 0).toInt32 = (nI (16777216 * to + 65536 * 19 + 256 * se + th))) (hhi : (fE 0 >>> ((32 : Int32).toInt64 &&& 63)).toInt32 = (nI mi)) (hnf3 : nf < 300) : Met l yX5_first v_c_first_d ({ frames := 5, cells := 0, slots := 0, locals := 112 }) (va_Pc [.ref r, .int (nI ad)] (fun U => U.heap.size = sz ∧ va_P (dC, dI) vwCl [(r, .inr (6, [.int rh, .int rl, .ref st, .ref ck, .ref ck, .int 0, .int 1, .int (nI nf), .int (nI ng), .int 0, .ref rf, .int 0])), (st, .inr (8, [.ref ml, .null])), (ml, .inr (0, [.int (nI mc), .ref ed, .int (nI sz0)])), (ed, .inl (cO, 10, .inr (.inr (.inr (.inr fe))))), (ck, .inr (1, [.ref ce, .null])), (ce, .inl (cJ, 128, .inr (.inl fE))), (mm, .inr (4, [.int (nI mi), .int (nI mt), .int (nI mg), .int (nI ms), .int sd, .null])), (rf, .inr (2, [.int (nI fi), .int ff, .int fo, .ref fw]))] U.heap ∧ va_K (dC, dI) vwCl [(cO, (.object "java/lang/Object")), (cJ, .long)] U ∧ va_D (fun _ => True) [(r, .inr (6, [.int rh, .int rl, .ref st, .ref ck, .ref ck, .int 0, .int 1, .int (nI nf), .int (nI ng), .int 0, .ref rf, .int 0])), (st, .inr (8, [.ref ml, .null])), (ml, .inr (0, [.int (nI mc), .ref ed, .int (nI sz0)])), (ed, .inl (cO, 10, .inr (.inr (.inr (.inr fe))))), (ck, .inr (1, [.ref ce, .null])), (ce, .inl (cJ, 128, .inr (.inl fE))), (mm, .inr (4, [.int (nI mi), .int (nI mt), .int (nI mg), .int (nI ms), .int sd, .null])), (rf, .inr (2, [.int (nI fi), .int ff, .int fo, .ref fw]))] ∧ ev U)) (va_Qq (fun (r : Option Nat) (_ : Unit) => r = some rf) (fun (_ : Unit) (t : State) => va_P (dC, dI) vwCl [(r, .inr (6, [.int rh, .int rl, .ref st, .ref ck, .ref ck, .int 0, .int 1, .int (nI nf), .int (nI ng), .int 0, .ref rf, .int 1])), (st, .inr (8, [.ref ml, .null])), (ml, .inr (0, [.int (nI mc), .ref ed, .int (nI sz0)])), (ed, .inl (cO, 10, .inr (.inr (.inr (.inr fe))))), (ck, .inr (1, [.ref ce, .null])), (ce, .inl (cJ, 128, .inr (.inl fE))), (mm, .inr (4, [.int (nI mi), .int (nI mt), .int (nI mg), .int (nI ms), .int sd, .null])), (rf, .inr (2, [.int (nI (469762048 + 65536 * 236 + 256 * to + ad)), .int (nI (19 + 256 * (ms % 256) + 65536 * (ms / 256) + 16777216 * ((ms + 6) / 7))), .int (nI (se + 256 * mg)), .ref mm]))] t.heap ∧ va_K (dC, dI) vwCl [(cO, (.object "java/lang/Object")), (cJ, .long)] t ∧ va_D (va_A [(r, .inr (6, [.int rh, .int rl, .ref st, .ref ck, .ref ck, .int 0, .int 1, .int (nI nf), .int (nI ng), .int 0, .ref rf, .int 0])), (st, .inr (8, [.ref ml, .null])), (ml, .inr (0, [.int (nI mc), .ref ed, .int (nI sz0)])), (ed, .inl (cO, 10, .inr (.inr (.inr (.inr fe))))), (ck, .inr (1, [.ref ce, .null])), (ce, .inl (cJ, 128, .inr (.inl fE))), (mm, .inr (4, [.int (nI mi), .int (nI mt), .int (nI mg), .int (nI ms), .int sd, .null])), (rf, .inr (2, [.int (nI fi), .int ff, .int fo, .ref fw]))] sz) [(r, .inr (6, [.int rh, .int rl, .ref st, .ref ck, .ref ck, .int 0, .int 1, .int (nI nf), .int (nI ng), .int 0, .ref rf, .int 1])), (st, .inr (8, [.ref ml, .null])), (ml, .inr (0, [.int (nI mc), .ref ed, .int (nI sz0)])), (ed, .inl (cO, 10, .inr (.inr (.inr (.inr fe))))), (ck, .inr (1, [.ref ce, .null])), (ce, .inl (cJ, 128, .inr (.inl fE))), (mm, .inr (4, [.int (nI mi), .int (nI mt), .int (nI mg), .int (nI ms), .int sd, .null])), (rf, .inr (2, [.int (nI (469762048 + 65536 * 236 + 256 * to + ad)), .int (nI (19 + 256 * (ms % 256) + 65536 * (ms / 256) + 16777216 * ((ms + 6) / 7))), .int (nI (se + 256 * mg)), .ref mm]))]) (va_A [(r, .inr (6, [.int rh, .int rl, .ref st, .ref ck, .ref ck, .int 0, .int 1, .int (nI nf), .int (nI ng), .int 0, .ref rf, .int 0])), (st, .inr (8, [.ref ml, .null])), (ml, .inr (0, [.int (nI mc), .ref ed, .int (nI sz0)])), (ed, .inl (cO, 10, .inr (.inr (.inr (.inr fe))))), (ck, .inr (1, [.ref ce, .null])), (ce, .inl (cJ, 128, .inr (.inl fE))), (mm, .inr (4, [.int (nI mi), .int (nI mt), .int (nI mg), .int (nI ms), .int sd, .null])), (rf, .inr (2, [.int (nI fi), .int ff, .int fo, .ref fw]))] sz)) 0 0 (va_A [(r, .inr (6, [.int rh, .int rl, .ref st, .ref ck, .ref ck, .int 0, .int 1, .int (nI nf), .int (nI ng), .int 0, .ref rf, .int 0])), (st, .inr (8, [.ref ml, .null])), (ml, .inr (0, [.int (nI mc), .ref ed, .int (nI sz0)])), (ed, .inl (cO, 10, .inr (.inr (.inr (.inr fe))))), (ck, .inr (1, [.ref ce, .null])), (ce, .inl (cJ, 128, .inr (.inl fE))), (mm, .inr (4, [.int (nI mi), .int (nI mt), .int (nI mg), .int (nI ms), .int sd, .null])), (rf, .inr (2, [.int (nI fi), .int ff, .int fo, .ref fw]))] sz) := by
  refine Met.ofW (cc := cX5_first) (maxL := 2) (ret := (some (.object "ClaimBus$Frame"))) (by decide) rfl ?_
  intro p e s m args below meth c s₁ B hml hv
  obtain ⟨rfl, hsz, hP, hK, hD0, hE⟩ := hv
  have hx := B.exec
  have hb := B.bytes
  have hr := B.returns
  have hts := atoms_spec (ws := v_c_first_d) B.pre
  have hown : s.vm.findClass RX5 = some m.cls := findClass_of_methodNamed B.named
  have hlocks := B.notSynchronized
  subst hsz
  have hD := hD0.self (sz := s.heap.size)
  generalize hAe : va_A [(r, .inr (6, [.int rh, .int rl, .ref st, .ref ck, .ref ck, .int 0, .int 1, .int (nI nf), .int (nI ng), .int 0, .ref rf, .int 0])), (st, .inr (8, [.ref ml, .null])), (ml, .inr (0, [.int (nI mc), .ref ed, .int (nI sz0)])), (ed, .inl (cO, 10, .inr (.inr (.inr (.inr fe))))), (ck, .inr (1, [.ref ce, .null])), (ce, .inl (cJ, 128, .inr (.inl fE))), (mm, .inr (4, [.int (nI mi), .int (nI mt), .int (nI mg), .int (nI ms), .int sd, .null])), (rf, .inr (2, [.int (nI fi), .int ff, .int fo, .ref fw]))] s.heap.size = A at hD ⊢
  have hA : ∀ q : Nat, s.heap.size ≤ q → A q := fun q h => by rw [← hAe]; exact Or.inr h
  have hS : va_S A s.heap s.heap [] := va_S.rf
  replace hP : va_P (dC, dI) vwCl [(r, .inr (6, [.int rh, .int rl, .ref st, .ref ck, .ref ck, .int 0, .int 1, .int (nI nf), .int (nI ng), .int 0, .ref rf, .int 0])), (st, .inr (8, [.ref ml, .null])), (ml, .inr (0, [.int (nI mc), .ref ed, .int (nI sz0)])), (ed, .inl (cO, 10, .inr (.inr (.inr (.inr fe))))), (ck, .inr (1, [.ref ce, .null])), (ce, .inl (cJ, 128, .inr (.inl fE))), (mm, .inr (4, [.int (nI mi), .int (nI mt), .int (nI mg), .int (nI ms), .int sd, .null])), (rf, .inr (2, [.int (nI fi), .int ff, .int fo, .ref fw]))] s.heap := hP
  have hl := lv_entry ([.ref r, .int (nI ad)]) (n := 2) (Nat.le_of_ble_eq_true rfl)
  rw [lg_entry_eq]
  generalize (lg_sl ([.ref r, .int (nI ad)]) ++ List.replicate (2 - (lg_sl ([.ref r, .int (nI ad)])).length) Slot.unset).toArray = ls at hl ⊢
  replace hl : lv_has ls 2 [(0, .ref r), (1, .int (nI ad))] := hl
  obtain ⟨H, hH⟩ : ∃ z : Heap, z = s.heap := ⟨_, rfl⟩
  rw [← hH]
  replace hS : va_S A s.heap H [] := by rw [hH]; exact va_S.rf
  replace hP : va_P (dC, dI) vwCl [(r, .inr (6, [.int rh, .int rl, .ref st, .ref ck, .ref ck, .int 0, .int 1, .int (nI nf), .int (nI ng), .int 0, .ref rf, .int 0])), (st, .inr (8, [.ref ml, .null])), (ml, .inr (0, [.int (nI mc), .ref ed, .int (nI sz0)])), (ed, .inl (cO, 10, .inr (.inr (.inr (.inr fe))))), (ck, .inr (1, [.ref ce, .null])), (ce, .inl (cJ, 128, .inr (.inl fE))), (mm, .inr (4, [.int (nI mi), .int (nI mt), .int (nI mg), .int (nI ms), .int sd, .null])), (rf, .inr (2, [.int (nI fi), .int ff, .int fo, .ref fw]))] H := by rw [hH]; exact hP
  clear hH
  refine lv_aload_n hx hb dX5_first_0 rfl (lv_at hl 0 rfl) ?_
  have hPc := hP.sub (ws' := [(r, .inr (6, [.int rh, .int rl, .ref st, .ref ck, .ref ck, .int 0, .int 1, .int (nI nf), .int (nI ng), .int 0, .ref rf, .int 0]))]) [0] rfl
  have hDc := hD.sub (ws' := [(r, .inr (6, [.int rh, .int rl, .ref st, .ref ck, .ref ck, .int 0, .int 1, .int (nI nf), .int (nI ng), .int 0, .ref rf, .int 0]))]) [0] (by decide +kernel) rfl
  have hKc := hK.sub (tys' := []) [] rfl
  have hFc := ro_free hS hA
  refine va_calli (va_runV (As := []) (rest := []) ⟨hx, hb, hml, hown, hts⟩ (c_len_f l dC dI (r) (rh) (rl) (st) (rf) (nf) (ng) (ck) H.size) (cwV 0 hts g_c_first_d_c_len_f_82 rfl rfl rfl (by decide +kernel) ⟨Nat.le_of_ble_eq_true rfl, Nat.le_of_ble_eq_true rfl⟩) ⟨fun a U g mk q => by obtain ⟨q0, q1, qP, qK, qD, qE⟩ := q; exact ⟨q0, q1, qP, va_K.moved (u := U) (U := U.calling g mk a) (Vm.Alike.refl U.vm) qK, qD, ev.same (u := U) (U := U.calling g mk a) rfl qE⟩, va_recv hKc hPc (ci := 6) (q0 := 0) rfl rfl, fun U hU hW => ⟨rfl, by rw [hU], by rw [hU]; exact hPc, va_K.moved hW.alike hKc, hDc.weaken (fun _ _ _ _ => trivial), hE.warm hW⟩⟩ rfl rfl hl.1 rfl (lv_room (Nat.le_of_ble_eq_true rfl)) dX5_first_1 ⟨Nat.le_of_ble_eq_true rfl, Nat.le_of_ble_eq_true rfl⟩) hS (fun q _ h => hFc q h) hFc (fun r_1 u t H1 locs ht hvm hw hB hz1 hk1 hS => ?_)
  clear hPc hDc hKc
  replace hP := ro_keep hP hk1
  generalize H1 = H at hP hS ⊢
  replace hP : va_P (dC, dI) vwCl [(r, .inr (6, [.int rh, .int rl, .ref st, .ref ck, .ref ck, .int 0, .int 1, .int (nI nf), .int (nI ng), .int 0, .ref rf, .int 0])), (st, .inr (8, [.ref ml, .null])), (ml, .inr (0, [.int (nI mc), .ref ed, .int (nI sz0)])), (ed, .inl (cO, 10, .inr (.inr (.inr (.inr fe))))), (ck, .inr (1, [.ref ce, .null])), (ce, .inl (cJ, 128, .inr (.inl fE))), (mm, .inr (4, [.int (nI mi), .int (nI mt), .int (nI mg), .int (nI ms), .int sd, .null])), (rf, .inr (2, [.int (nI fi), .int ff, .int fo, .ref fw]))] H := hP
  have hw := hw.symm
  subst hw
  refine lv_if_ne (tgt := 9) hx hb dX5_first_4 (by decide) (fun c_2 => ?_) (fun c_2 => ?_)
  rotate_left
  · exact absurd ((nI_eq (a := nf) (b := 0) (by omega) (by omega)).mp c_2) (by omega)
  refine lv_aload_n hx hb dX5_first_9 rfl (lv_at hl 0 rfl) ?_
  refine va_get (D := (dC, dI)) (ci := 6) (v := .int 0) (C := RX5) (T := TX5) (N := 12) hx hb hts in_c_first_d_X5 hown hK hP 0 rfl rfl 11 (by decide) (hts (.fieldLink RX5 42 "ClaimBus$Row" "firstIsWritten" "Z") (List.mem_of_getElem? (i := 5) rfl)) (fun _ h9 => h9) rfl dX5_first_10 ?_
  refine lv_if_ne (tgt := 26) hx hb dX5_first_13 (by decide) (fun c_3 => ?_) (fun c_3 => ?_)
  · exact absurd c_3 (by decide)
  refine lv_aload_n hx hb dX5_first_16 rfl (lv_at hl 0 rfl) ?_
  refine lv_iload_n hx hb dX5_first_17 rfl (lv_at hl 1 rfl) ?_
  have hPc := hP.sub (ws' := [(r, .inr (6, [.int rh, .int rl, .ref st, .ref ck, .ref ck, .int 0, .int 1, .int (nI nf), .int (nI ng), .int 0, .ref rf, .int 0])), (st, .inr (8, [.ref ml, .null])), (ml, .inr (0, [.int (nI mc), .ref ed, .int (nI sz0)])), (ed, .inl (cO, 10, .inr (.inr (.inr (.inr fe))))), (ck, .inr (1, [.ref ce, .null])), (ce, .inl (cJ, 128, .inr (.inl fE))), (mm, .inr (4, [.int (nI mi), .int (nI mt), .int (nI mg), .int (nI ms), .int sd, .null])), (rf, .inr (2, [.int (nI fi), .int ff, .int fo, .ref fw]))]) [0, 1, 2, 3, 4, 5, 6, 7] rfl
  have hDc := hD.sub (ws' := [(r, .inr (6, [.int rh, .int rl, .ref st, .ref ck, .ref ck, .int 0, .int 1, .int (nI nf), .int (nI ng), .int 0, .ref rf, .int 0])), (st, .inr (8, [.ref ml, .null])), (ml, .inr (0, [.int (nI mc), .ref ed, .int (nI sz0)])), (ed, .inl (cO, 10, .inr (.inr (.inr (.inr fe))))), (ck, .inr (1, [.ref ce, .null])), (ce, .inl (cJ, 128, .inr (.inl fE))), (mm, .inr (4, [.int (nI mi), .int (nI mt), .int (nI mg), .int (nI ms), .int sd, .null])), (rf, .inr (2, [.int (nI fi), .int ff, .int fo, .ref fw]))]) [0, 1, 2, 3, 4, 5, 6, 7] (by decide +kernel) rfl
  have hKc := hK.sub (tys' := [(cO, (.object "java/lang/Object")), (cJ, .long)]) [0, 1] rfl
  have hFc := va_free (wc := [(r, .inr (6, [.int rh, .int rl, .ref st, .ref ck, .ref ck, .int 0, .int 1, .int (nI nf), .int (nI ng), .int 0, .ref rf, .int 0])), (st, .inr (8, [.ref ml, .null])), (ml, .inr (0, [.int (nI mc), .ref ed, .int (nI sz0)])), (ed, .inl (cO, 10, .inr (.inr (.inr (.inr fe))))), (ck, .inr (1, [.ref ce, .null])), (ce, .inl (cJ, 128, .inr (.inl fE))), (mm, .inr (4, [.int (nI mi), .int (nI mt), .int (nI mg), .int (nI ms), .int sd, .null])), (rf, .inr (2, [.int (nI fi), .int ff, .int fo, .ref fw]))]) hD hS hA [0, 1, 2, 3, 4, 5, 6, 7] rfl
  refine va_callv (va_runV (As := [.int (nI ad)]) (rest := []) ⟨hx, hb, hml, hown, hts⟩ (c_writeFirst_d l dC dI (r) (rh) (rl) (st) (rf) (nf) (ng) (ck) (ce) (cJ) (fE) (ml) (mc) (ed) (sz0) (cO) (fe) (mm) (mi) (mt) (mg) (ms) (sd) (fi) (ff) (fo) (fw) (to) (se) (th) (ad) H.size hmi hmt hmg hms h_to h_se h_th h_ad hel hsz hsz2 hnf hlo hhi) (cwV 1 hts g_c_first_d_c_writeFirst_d_86 rfl rfl rfl (by decide +kernel) ⟨Nat.le_of_ble_eq_true rfl, Nat.le_of_ble_eq_true rfl⟩) ⟨fun a U g mk q => by obtain ⟨q0, q1, qP, qK, qD, qE⟩ := q; exact ⟨q0, q1, qP, va_K.moved (u := U) (U := U.calling g mk a) (Vm.Alike.refl U.vm) qK, qD, ev.same (u := U) (U := U.calling g mk a) rfl qE⟩, va_recv hKc hPc (ci := 6) (q0 := 0) rfl rfl, fun U hU hW => ⟨rfl, by rw [hU], by rw [hU]; exact hPc, va_K.moved hW.alike hKc, hDc.weaken (fun _ _ _ _ => trivial), hE.warm hW⟩⟩ rfl rfl hl.1 rfl (lv_room (Nat.le_of_ble_eq_true rfl)) dX5_first_18 ⟨Nat.le_of_ble_eq_true rfl, Nat.le_of_ble_eq_true rfl⟩) hS (fun q _ h => hFc q h) hFc (fun u t H1 locs ht hvm hw hB hz1 hk1 hS => ?_)
  clear hPc hDc hKc
  obtain ⟨hP1, hK1, hD1⟩ := hB
  rw [ht] at hP1
  have hK1 := va_K.moved hvm.symm hK1
  obtain ⟨hP, hD⟩ := va_join (wr := []) (w1 := [(r, .inr (6, [.int rh, .int rl, .ref st, .ref ck, .ref ck, .int 0, .int 1, .int (nI nf), .int (nI ng), .int 0, .ref rf, .int 0])), (st, .inr (8, [.ref ml, .null])), (ml, .inr (0, [.int (nI mc), .ref ed, .int (nI sz0)])), (ed, .inl (cO, 10, .inr (.inr (.inr (.inr fe))))), (ck, .inr (1, [.ref ce, .null])), (ce, .inl (cJ, 128, .inr (.inl fE))), (mm, .inr (4, [.int (nI mi), .int (nI mt), .int (nI mg), .int (nI ms), .int sd, .null])), (rf, .inr (2, [.int (nI (469762048 + 65536 * 236 + 256 * to + ad)), .int (nI (19 + 256 * (ms % 256) + 65536 * (ms / 256) + 16777216 * ((ms + 6) / 7))), .int (nI (se + 256 * mg)), .ref mm]))]) hP hD [0, 1, 2, 3, 4, 5, 6, 7] [] rfl rfl (by decide +kernel) (by decide +kernel) hk1 hFc hP1 hD1
  generalize H1 = H at hP hS ⊢
  replace hP : va_P (dC, dI) vwCl [(r, .inr (6, [.int rh, .int rl, .ref st, .ref ck, .ref ck, .int 0, .int 1, .int (nI nf), .int (nI ng), .int 0, .ref rf, .int 0])), (st, .inr (8, [.ref ml, .null])), (ml, .inr (0, [.int (nI mc), .ref ed, .int (nI sz0)])), (ed, .inl (cO, 10, .inr (.inr (.inr (.inr fe))))), (ck, .inr (1, [.ref ce, .null])), (ce, .inl (cJ, 128, .inr (.inl fE))), (mm, .inr (4, [.int (nI mi), .int (nI mt), .int (nI mg), .int (nI ms), .int sd, .null])), (rf, .inr (2, [.int (nI (469762048 + 65536 * 236 + 256 * to + ad)), .int (nI (19 + 256 * (ms % 256) + 65536 * (ms / 256) + 16777216 * ((ms + 6) / 7))), .int (nI (se + 256 * mg)), .ref mm]))] H := hP
  replace hD : va_D A [(r, .inr (6, [.int rh, .int rl, .ref st, .ref ck, .ref ck, .int 0, .int 1, .int (nI nf), .int (nI ng), .int 0, .ref rf, .int 0])), (st, .inr (8, [.ref ml, .null])), (ml, .inr (0, [.int (nI mc), .ref ed, .int (nI sz0)])), (ed, .inl (cO, 10, .inr (.inr (.inr (.inr fe))))), (ck, .inr (1, [.ref ce, .null])), (ce, .inl (cJ, 128, .inr (.inl fE))), (mm, .inr (4, [.int (nI mi), .int (nI mt), .int (nI mg), .int (nI ms), .int sd, .null])), (rf, .inr (2, [.int (nI (469762048 + 65536 * 236 + 256 * to + ad)), .int (nI (19 + 256 * (ms % 256) + 65536 * (ms / 256) + 16777216 * ((ms + 6) / 7))), .int (nI (se + 256 * mg)), .ref mm]))] := hD
  clear hw
  refine lv_aload_n hx hb dX5_first_21 rfl (lv_at hl 0 rfl) ?_
  refine lv_iconst (v := 1) hx hb dX5_first_22 (by decide) ?_
  refine va_put (D := (dC, dI)) (ci := 6) (v := .int 1) (ty := .boolean) (C := RX5) (T := TX5) (N := 12) hx hb hts in_c_first_d_X5 tyX5 tyX5_ok nmX5 hown hK hP hD hS 0 rfl rfl 11 (by decide) (hts (.fieldLink RX5 42 "ClaimBus$Row" "firstIsWritten" "Z") (List.mem_of_getElem? (i := 5) rfl)) (fun _ h9 => h9) rfl (by decide +kernel) rfl rfl (Nat.le_of_ble_eq_true rfl) dX5_first_23 (fun H locs hP hD hS => ?_)
  replace hP : va_P (dC, dI) vwCl [(r, .inr (6, [.int rh, .int rl, .ref st, .ref ck, .ref ck, .int 0, .int 1, .int (nI nf), .int (nI ng), .int 0, .ref rf, .int 1])), (st, .inr (8, [.ref ml, .null])), (ml, .inr (0, [.int (nI mc), .ref ed, .int (nI sz0)])), (ed, .inl (cO, 10, .inr (.inr (.inr (.inr fe))))), (ck, .inr (1, [.ref ce, .null])), (ce, .inl (cJ, 128, .inr (.inl fE))), (mm, .inr (4, [.int (nI mi), .int (nI mt), .int (nI mg), .int (nI ms), .int sd, .null])), (rf, .inr (2, [.int (nI (469762048 + 65536 * 236 + 256 * to + ad)), .int (nI (19 + 256 * (ms % 256) + 65536 * (ms / 256) + 16777216 * ((ms + 6) / 7))), .int (nI (se + 256 * mg)), .ref mm]))] H := hP
  replace hD : va_D A [(r, .inr (6, [.int rh, .int rl, .ref st, .ref ck, .ref ck, .int 0, .int 1, .int (nI nf), .int (nI ng), .int 0, .ref rf, .int 1])), (st, .inr (8, [.ref ml, .null])), (ml, .inr (0, [.int (nI mc), .ref ed, .int (nI sz0)])), (ed, .inl (cO, 10, .inr (.inr (.inr (.inr fe))))), (ck, .inr (1, [.ref ce, .null])), (ce, .inl (cJ, 128, .inr (.inl fE))), (mm, .inr (4, [.int (nI mi), .int (nI mt), .int (nI mg), .int (nI ms), .int sd, .null])), (rf, .inr (2, [.int (nI (469762048 + 65536 * 236 + 256 * to + ad)), .int (nI (19 + 256 * (ms % 256) + 65536 * (ms / 256) + 16777216 * ((ms + 6) / 7))), .int (nI (se + 256 * mg)), .ref mm]))] := hD
  refine lv_aload_n hx hb dX5_first_26 rfl (lv_at hl 0 rfl) ?_
  refine va_get (D := (dC, dI)) (ci := 6) (v := .ref rf) (C := RX5) (T := TX5) (N := 12) hx hb hts in_c_first_d_X5 hown hK hP 0 rfl rfl 10 (by decide) (hts (.fieldLink RX5 38 "ClaimBus$Row" "first" "LClaimBus$Frame;") (List.mem_of_getElem? (i := 9) rfl)) (fun _ h9 => h9) rfl dX5_first_27 ?_
  have hP9 := hP.sub (ws' := [(r, .inr (6, [.int rh, .int rl, .ref st, .ref ck, .ref ck, .int 0, .int 1, .int (nI nf), .int (nI ng), .int 0, .ref rf, .int 1])), (st, .inr (8, [.ref ml, .null])), (ml, .inr (0, [.int (nI mc), .ref ed, .int (nI sz0)])), (ed, .inl (cO, 10, .inr (.inr (.inr (.inr fe))))), (ck, .inr (1, [.ref ce, .null])), (ce, .inl (cJ, 128, .inr (.inl fE))), (mm, .inr (4, [.int (nI mi), .int (nI mt), .int (nI mg), .int (nI ms), .int sd, .null])), (rf, .inr (2, [.int (nI (469762048 + 65536 * 236 + 256 * to + ad)), .int (nI (19 + 256 * (ms % 256) + 65536 * (ms / 256) + 16777216 * ((ms + 6) / 7))), .int (nI (se + 256 * mg)), .ref mm]))]) [0, 1, 2, 3, 4, 5, 6, 7] rfl
  have hD9 := hD.sub (ws' := [(r, .inr (6, [.int rh, .int rl, .ref st, .ref ck, .ref ck, .int 0, .int 1, .int (nI nf), .int (nI ng), .int 0, .ref rf, .int 1])), (st, .inr (8, [.ref ml, .null])), (ml, .inr (0, [.int (nI mc), .ref ed, .int (nI sz0)])), (ed, .inl (cO, 10, .inr (.inr (.inr (.inr fe))))), (ck, .inr (1, [.ref ce, .null])), (ce, .inl (cJ, 128, .inr (.inl fE))), (mm, .inr (4, [.int (nI mi), .int (nI mt), .int (nI mg), .int (nI ms), .int sd, .null])), (rf, .inr (2, [.int (nI (469762048 + 65536 * 236 + 256 * to + ad)), .int (nI (19 + 256 * (ms % 256) + 65536 * (ms / 256) + 16777216 * ((ms + 6) / 7))), .int (nI (se + 256 * mg)), .ref mm]))]) [0, 1, 2, 3, 4, 5, 6, 7] (by decide +kernel) rfl
  have hK9 := hK.sub (tys' := [(cO, (.object "java/lang/Object")), (cJ, .long)]) [0, 1] rfl
  exact W.aret (v := .ref rf) hx hb hr (Or.inl ⟨_, rfl⟩) (Or.inr ⟨_, rfl⟩) (fun t ht hW => ⟨⟨some rf, (), rfl, rfl, ⟨by rw [ht]; exact hP9, va_K.moved hW.alike hK9, hD9⟩⟩, hS.F ht⟩) hS.2.2 dX5_first_30

noncomputable def tl_c_writeFirst_a : List Cond := wsX50 ++ (v_c_firstEntry ++ (v_c_messageAt_null ++ (v_c_X10_identifier ++ (v_c_X3_writeControl_32))))
noncomputable def v_c_writeFirst_a : List Cond := .code yX5_writeFirst cX5_writeFirst 8 none :: ([.fieldLink RX5 31 "ClaimBus$Row" "claimWaits" "Z", .initialized RX5, .methodLink RX5 95 yX5_firstEntry, .instanceMethod yX5_firstEntry, .selects RX5 yX5_firstEntry yX5_firstEntry, .fieldLink RX5 51 "ClaimBus$Row" "store" "LClaimBus$Store;", .initialized RX7, .methodLink RX5 99 yX7_messageAt, .instanceMethod yX7_messageAt, .selects RX7 yX7_messageAt yX7_messageAt, .fieldLink RX5 38 "ClaimBus$Row" "first" "LClaimBus$Frame;", .initialized RX10, .static yX10_identifier, .initialized RX3, .methodLink RX5 119 yX3_writeControl, .instanceMethod yX3_writeControl, .selects RX3 yX3_writeControl yX3_writeControl] ++ tl_c_writeFirst_a)
theorem it_c_writeFirst_a : ∀ w ∈ tl_c_writeFirst_a, w ∈ v_c_writeFirst_a := fun w h => List.mem_cons_of_mem _ (List.mem_append_right _ h)
theorem in_c_writeFirst_a_X5 : ∀ w ∈ wsX50, w ∈ v_c_writeFirst_a := fun w h => it_c_writeFirst_a w (List.mem_append_left _ h)
theorem ic_c_writeFirst_a_c_firstEntry : ∀ w ∈ v_c_firstEntry, w ∈ v_c_writeFirst_a := fun w h => it_c_writeFirst_a w (List.mem_append_right _ (List.mem_append_left _ h))
theorem ic_c_writeFirst_a_c_messageAt_null : ∀ w ∈ v_c_messageAt_null, w ∈ v_c_writeFirst_a := fun w h => it_c_writeFirst_a w (List.mem_append_right _ (List.mem_append_right _ (List.mem_append_left _ h)))
theorem ic_c_writeFirst_a_c_X10_identifier : ∀ w ∈ v_c_X10_identifier, w ∈ v_c_writeFirst_a := fun w h => it_c_writeFirst_a w (List.mem_append_right _ (List.mem_append_right _ (List.mem_append_right _ (List.mem_append_left _ h))))
theorem ic_c_writeFirst_a_c_X3_writeControl_32 : ∀ w ∈ v_c_X3_writeControl_32, w ∈ v_c_writeFirst_a := fun w h => it_c_writeFirst_a w (List.mem_append_right _ (List.mem_append_right _ (List.mem_append_right _ (List.mem_append_right _ (h)))))
theorem gt_c_writeFirst_a : ∀ w ∈ tl_c_writeFirst_a, goodWord w = true := List.forall_mem_append.mpr ⟨gw_wsX50, List.forall_mem_append.mpr ⟨gw_c_firstEntry, List.forall_mem_append.mpr ⟨gw_c_messageAt_null, List.forall_mem_append.mpr ⟨gw_c_X10_identifier, gw_c_X3_writeControl_32⟩⟩⟩⟩
theorem gw_c_writeFirst_a : ∀ w ∈ v_c_writeFirst_a, goodWord w = true := List.forall_mem_cons.mpr ⟨by decide +kernel, List.forall_mem_append.mpr ⟨List.all_eq_true.mp (by decide +kernel), gt_c_writeFirst_a⟩⟩
theorem g_c_writeFirst_a_c_firstEntry_95 : GoodIn v_c_writeFirst_a (wsV RX5 95 RX5 yX5_firstEntry v_c_firstEntry) := goodIn_app (goodIn_r [.methodLink RX5 95 yX5_firstEntry, .instanceMethod yX5_firstEntry, .selects RX5 yX5_firstEntry yX5_firstEntry, .initialized RX5] [3, 4, 5, 2] (by decide +kernel) (by decide +kernel)) (fun w h => ⟨ic_c_writeFirst_a_c_firstEntry w h, good_of_word (gw_c_firstEntry w h)⟩)
theorem g_c_writeFirst_a_c_messageAt_null_99 : GoodIn v_c_writeFirst_a (wsV RX5 99 RX7 yX7_messageAt v_c_messageAt_null) := goodIn_app (goodIn_r [.methodLink RX5 99 yX7_messageAt, .instanceMethod yX7_messageAt, .selects RX7 yX7_messageAt yX7_messageAt, .initialized RX7] [8, 9, 10, 7] (by decide +kernel) (by decide +kernel)) (fun w h => ⟨ic_c_writeFirst_a_c_messageAt_null w h, good_of_word (gw_c_messageAt_null w h)⟩)
theorem g_c_writeFirst_a_c_X10_identifier_103 : GoodIn v_c_writeFirst_a v_c_X10_identifier := fun w h => ⟨ic_c_writeFirst_a_c_X10_identifier w h, good_of_word (gw_c_X10_identifier w h)⟩
theorem g_c_writeFirst_a_c_X3_writeControl_32_119 : GoodIn v_c_writeFirst_a (wsV RX5 119 RX3 yX3_writeControl v_c_X3_writeControl_32) := goodIn_app (goodIn_r [.methodLink RX5 119 yX3_writeControl, .instanceMethod yX3_writeControl, .selects RX3 yX3_writeControl yX3_writeControl, .initialized RX3] [15, 16, 17, 14] (by decide +kernel) (by decide +kernel)) (fun w h => ⟨ic_c_writeFirst_a_c_X3_writeControl_32 w h, good_of_word (gw_c_X3_writeControl_32 w h)⟩)
set_option maxHeartbeats 4000000 in
set_option maxRecDepth 100000 in
theorem c_writeFirst_a (l : Launch) (dC : Nat → ClassId) (dI : Nat → Nat → Nat) (r : Nat) (rh : Int32) (rl : Int32) (st : Nat) (rf : Nat) (nf : Nat) (ng : Nat) (ck : Nat) (ce : Nat) (cJ : ClassId) (fE : Nat → Int64) (ml : Nat) (mc : Nat) (ed : Nat) (sz0 : Nat) (cO : ClassId) (fe : Nat → Option Nat) (mm : Nat) (mi : Nat) (mt : Nat) (mg : Nat) (ms : Nat) (sd : Int32) (fi : Nat) (ff : Int32) (fo : Int32) (fw : Nat) (to : Nat) (se : Nat) (th : Nat) (ad : Nat) (sz : Nat) (hmi : mi < 8) (hmt : mt < 256) (hmg : mg < 262144) (hms : ms < 1786) (h_to : to < 256) (h_se : se < 256) (h_th : th < 256) (h_ad : ad < 256) (hel : fe mi = some mm) (hsz : mi < sz0) (hsz2 : sz0 ≤ 10) (hnf : 1 ≤ nf) (hlo : (fE 0).toInt32 = (nI (16777216 * to + 65536 * 32 + 256 * se + th))) (hhi : (fE 0 >>> ((32 : Int32).toInt64 &&& 63)).toInt32 = (nI mi)) : Met l yX5_writeFirst v_c_writeFirst_a ({ frames := 4, cells := 0, slots := 0, locals := 85 }) (va_Pc [.ref r, .int (nI ad)] (fun U => U.heap.size = sz ∧ va_P (dC, dI) vwCl [(r, .inr (6, [.int rh, .int rl, .ref st, .ref ck, .ref ck, .int 0, .int 1, .int (nI nf), .int (nI ng), .int 0, .ref rf, .int 0])), (st, .inr (8, [.ref ml, .null])), (ml, .inr (0, [.int (nI mc), .ref ed, .int (nI sz0)])), (ed, .inl (cO, 10, .inr (.inr (.inr (.inr fe))))), (ck, .inr (1, [.ref ce, .null])), (ce, .inl (cJ, 128, .inr (.inl fE))), (mm, .inr (4, [.int (nI mi), .int (nI mt), .int (nI mg), .int (nI ms), .int sd, .null])), (rf, .inr (2, [.int (nI fi), .int ff, .int fo, .ref fw]))] U.heap ∧ va_K (dC, dI) vwCl [(cO, (.object "java/lang/Object")), (cJ, .long)] U ∧ va_D (fun _ => True) [(r, .inr (6, [.int rh, .int rl, .ref st, .ref ck, .ref ck, .int 0, .int 1, .int (nI nf), .int (nI ng), .int 0, .ref rf, .int 0])), (st, .inr (8, [.ref ml, .null])), (ml, .inr (0, [.int (nI mc), .ref ed, .int (nI sz0)])), (ed, .inl (cO, 10, .inr (.inr (.inr (.inr fe))))), (ck, .inr (1, [.ref ce, .null])), (ce, .inl (cJ, 128, .inr (.inl fE))), (mm, .inr (4, [.int (nI mi), .int (nI mt), .int (nI mg), .int (nI ms), .int sd, .null])), (rf, .inr (2, [.int (nI fi), .int ff, .int fo, .ref fw]))] ∧ ev U)) (va_Qv (fun _ : Unit => True) (fun (_ : Unit) (t : State) => va_P (dC, dI) vwCl [(r, .inr (6, [.int rh, .int rl, .ref st, .ref ck, .ref ck, .int 0, .int 1, .int (nI nf), .int (nI ng), .int 0, .ref rf, .int 0])), (st, .inr (8, [.ref ml, .null])), (ml, .inr (0, [.int (nI mc), .ref ed, .int (nI sz0)])), (ed, .inl (cO, 10, .inr (.inr (.inr (.inr fe))))), (ck, .inr (1, [.ref ce, .null])), (ce, .inl (cJ, 128, .inr (.inl fE))), (mm, .inr (4, [.int (nI mi), .int (nI mt), .int (nI mg), .int (nI ms), .int sd, .null])), (rf, .inr (2, [.int (nI (469762048 + 65536 * 236 + 256 * to + ad)), .int (nI (32 + 256 * (ms % 256) + 65536 * (ms / 256) + 16777216 * ((ms + 6) / 7))), .int (nI (se + 256 * mg)), .ref mm]))] t.heap ∧ va_K (dC, dI) vwCl [(cO, (.object "java/lang/Object")), (cJ, .long)] t ∧ va_D (va_A [(r, .inr (6, [.int rh, .int rl, .ref st, .ref ck, .ref ck, .int 0, .int 1, .int (nI nf), .int (nI ng), .int 0, .ref rf, .int 0])), (st, .inr (8, [.ref ml, .null])), (ml, .inr (0, [.int (nI mc), .ref ed, .int (nI sz0)])), (ed, .inl (cO, 10, .inr (.inr (.inr (.inr fe))))), (ck, .inr (1, [.ref ce, .null])), (ce, .inl (cJ, 128, .inr (.inl fE))), (mm, .inr (4, [.int (nI mi), .int (nI mt), .int (nI mg), .int (nI ms), .int sd, .null])), (rf, .inr (2, [.int (nI fi), .int ff, .int fo, .ref fw]))] sz) [(r, .inr (6, [.int rh, .int rl, .ref st, .ref ck, .ref ck, .int 0, .int 1, .int (nI nf), .int (nI ng), .int 0, .ref rf, .int 0])), (st, .inr (8, [.ref ml, .null])), (ml, .inr (0, [.int (nI mc), .ref ed, .int (nI sz0)])), (ed, .inl (cO, 10, .inr (.inr (.inr (.inr fe))))), (ck, .inr (1, [.ref ce, .null])), (ce, .inl (cJ, 128, .inr (.inl fE))), (mm, .inr (4, [.int (nI mi), .int (nI mt), .int (nI mg), .int (nI ms), .int sd, .null])), (rf, .inr (2, [.int (nI (469762048 + 65536 * 236 + 256 * to + ad)), .int (nI (32 + 256 * (ms % 256) + 65536 * (ms / 256) + 16777216 * ((ms + 6) / 7))), .int (nI (se + 256 * mg)), .ref mm]))]) (va_A [(r, .inr (6, [.int rh, .int rl, .ref st, .ref ck, .ref ck, .int 0, .int 1, .int (nI nf), .int (nI ng), .int 0, .ref rf, .int 0])), (st, .inr (8, [.ref ml, .null])), (ml, .inr (0, [.int (nI mc), .ref ed, .int (nI sz0)])), (ed, .inl (cO, 10, .inr (.inr (.inr (.inr fe))))), (ck, .inr (1, [.ref ce, .null])), (ce, .inl (cJ, 128, .inr (.inl fE))), (mm, .inr (4, [.int (nI mi), .int (nI mt), .int (nI mg), .int (nI ms), .int sd, .null])), (rf, .inr (2, [.int (nI fi), .int ff, .int fo, .ref fw]))] sz)) 0 0 (va_A [(r, .inr (6, [.int rh, .int rl, .ref st, .ref ck, .ref ck, .int 0, .int 1, .int (nI nf), .int (nI ng), .int 0, .ref rf, .int 0])), (st, .inr (8, [.ref ml, .null])), (ml, .inr (0, [.int (nI mc), .ref ed, .int (nI sz0)])), (ed, .inl (cO, 10, .inr (.inr (.inr (.inr fe))))), (ck, .inr (1, [.ref ce, .null])), (ce, .inl (cJ, 128, .inr (.inl fE))), (mm, .inr (4, [.int (nI mi), .int (nI mt), .int (nI mg), .int (nI ms), .int sd, .null])), (rf, .inr (2, [.int (nI fi), .int ff, .int fo, .ref fw]))] sz) := by
  refine Met.ofW (cc := cX5_writeFirst) (maxL := 8) (ret := none) (by decide) rfl ?_
  intro p e s m args below meth c s₁ B hml hv
  obtain ⟨rfl, hsz, hP, hK, hD0, hE⟩ := hv
  have hx := B.exec
  have hb := B.bytes
  have hr := B.returns
  have hts := atoms_spec (ws := v_c_writeFirst_a) B.pre
  have hown : s.vm.findClass RX5 = some m.cls := findClass_of_methodNamed B.named
  have hlocks := B.notSynchronized
  subst hsz
  have hD := hD0.self (sz := s.heap.size)
  generalize hAe : va_A [(r, .inr (6, [.int rh, .int rl, .ref st, .ref ck, .ref ck, .int 0, .int 1, .int (nI nf), .int (nI ng), .int 0, .ref rf, .int 0])), (st, .inr (8, [.ref ml, .null])), (ml, .inr (0, [.int (nI mc), .ref ed, .int (nI sz0)])), (ed, .inl (cO, 10, .inr (.inr (.inr (.inr fe))))), (ck, .inr (1, [.ref ce, .null])), (ce, .inl (cJ, 128, .inr (.inl fE))), (mm, .inr (4, [.int (nI mi), .int (nI mt), .int (nI mg), .int (nI ms), .int sd, .null])), (rf, .inr (2, [.int (nI fi), .int ff, .int fo, .ref fw]))] s.heap.size = A at hD ⊢
  have hA : ∀ q : Nat, s.heap.size ≤ q → A q := fun q h => by rw [← hAe]; exact Or.inr h
  have hS : va_S A s.heap s.heap [] := va_S.rf
  replace hP : va_P (dC, dI) vwCl [(r, .inr (6, [.int rh, .int rl, .ref st, .ref ck, .ref ck, .int 0, .int 1, .int (nI nf), .int (nI ng), .int 0, .ref rf, .int 0])), (st, .inr (8, [.ref ml, .null])), (ml, .inr (0, [.int (nI mc), .ref ed, .int (nI sz0)])), (ed, .inl (cO, 10, .inr (.inr (.inr (.inr fe))))), (ck, .inr (1, [.ref ce, .null])), (ce, .inl (cJ, 128, .inr (.inl fE))), (mm, .inr (4, [.int (nI mi), .int (nI mt), .int (nI mg), .int (nI ms), .int sd, .null])), (rf, .inr (2, [.int (nI fi), .int ff, .int fo, .ref fw]))] s.heap := hP
  have hl := lv_entry ([.ref r, .int (nI ad)]) (n := 8) (Nat.le_of_ble_eq_true rfl)
  rw [lg_entry_eq]
  generalize (lg_sl ([.ref r, .int (nI ad)]) ++ List.replicate (8 - (lg_sl ([.ref r, .int (nI ad)])).length) Slot.unset).toArray = ls at hl ⊢
  replace hl : lv_has ls 8 [(0, .ref r), (1, .int (nI ad))] := hl
  obtain ⟨H, hH⟩ : ∃ z : Heap, z = s.heap := ⟨_, rfl⟩
  rw [← hH]
  replace hS : va_S A s.heap H [] := by rw [hH]; exact va_S.rf
  replace hP : va_P (dC, dI) vwCl [(r, .inr (6, [.int rh, .int rl, .ref st, .ref ck, .ref ck, .int 0, .int 1, .int (nI nf), .int (nI ng), .int 0, .ref rf, .int 0])), (st, .inr (8, [.ref ml, .null])), (ml, .inr (0, [.int (nI mc), .ref ed, .int (nI sz0)])), (ed, .inl (cO, 10, .inr (.inr (.inr (.inr fe))))), (ck, .inr (1, [.ref ce, .null])), (ce, .inl (cJ, 128, .inr (.inl fE))), (mm, .inr (4, [.int (nI mi), .int (nI mt), .int (nI mg), .int (nI ms), .int sd, .null])), (rf, .inr (2, [.int (nI fi), .int ff, .int fo, .ref fw]))] H := by rw [hH]; exact hP
  clear hH
  refine lv_aload_n hx hb dX5_writeFirst_0 rfl (lv_at hl 0 rfl) ?_
  refine va_get (D := (dC, dI)) (ci := 6) (v := .int 0) (C := RX5) (T := TX5) (N := 12) hx hb hts in_c_writeFirst_a_X5 hown hK hP 0 rfl rfl 9 (by decide) (hts (.fieldLink RX5 31 "ClaimBus$Row" "claimWaits" "Z") (List.mem_of_getElem? (i := 1) rfl)) (fun _ h9 => h9) rfl dX5_writeFirst_1 ?_
  refine lv_if_eq (tgt := 28) hx hb dX5_writeFirst_4 (by decide) (fun c_1 => ?_) (fun c_1 => ?_)
  rotate_left
  · exact absurd (by decide) c_1
  refine lv_aload_n hx hb dX5_writeFirst_28 rfl (lv_at hl 0 rfl) ?_
  have hPc := hP.sub (ws' := [(r, .inr (6, [.int rh, .int rl, .ref st, .ref ck, .ref ck, .int 0, .int 1, .int (nI nf), .int (nI ng), .int 0, .ref rf, .int 0])), (ck, .inr (1, [.ref ce, .null])), (ce, .inl (cJ, 128, .inr (.inl fE)))]) [0, 4, 5] rfl
  have hDc := hD.sub (ws' := [(r, .inr (6, [.int rh, .int rl, .ref st, .ref ck, .ref ck, .int 0, .int 1, .int (nI nf), .int (nI ng), .int 0, .ref rf, .int 0])), (ck, .inr (1, [.ref ce, .null])), (ce, .inl (cJ, 128, .inr (.inl fE)))]) [0, 4, 5] (by decide +kernel) rfl
  have hKc := hK.sub (tys' := [(cJ, .long)]) [1] rfl
  have hFc := ro_free hS hA
  refine va_calll (va_runV (As := []) (rest := []) ⟨hx, hb, hml, hown, hts⟩ (c_firstEntry l dC dI (r) (rh) (rl) (st) (rf) (nf) (ng) (ck) (ce) (cJ) (fE) H.size) (cwV 0 hts g_c_writeFirst_a_c_firstEntry_95 rfl rfl rfl (by decide +kernel) ⟨Nat.le_of_ble_eq_true rfl, Nat.le_of_ble_eq_true rfl⟩) ⟨fun a U g mk q => by obtain ⟨q0, q1, qP, qK, qD, qE⟩ := q; exact ⟨q0, q1, qP, va_K.moved (u := U) (U := U.calling g mk a) (Vm.Alike.refl U.vm) qK, qD, ev.same (u := U) (U := U.calling g mk a) rfl qE⟩, va_recv hKc hPc (ci := 6) (q0 := 0) rfl rfl, fun U hU hW => ⟨rfl, by rw [hU], by rw [hU]; exact hPc, va_K.moved hW.alike hKc, hDc.weaken (fun _ _ _ _ => trivial), hE.warm hW⟩⟩ rfl rfl hl.1 rfl (lv_room (Nat.le_of_ble_eq_true rfl)) dX5_writeFirst_29 ⟨Nat.le_of_ble_eq_true rfl, Nat.le_of_ble_eq_true rfl⟩) hS (fun q _ h => hFc q h) hFc (fun r_2 u t H1 locs ht hvm hw hB hz1 hk1 hS => ?_)
  clear hPc hDc hKc
  replace hP := ro_keep hP hk1
  generalize H1 = H at hP hS ⊢
  replace hP : va_P (dC, dI) vwCl [(r, .inr (6, [.int rh, .int rl, .ref st, .ref ck, .ref ck, .int 0, .int 1, .int (nI nf), .int (nI ng), .int 0, .ref rf, .int 0])), (st, .inr (8, [.ref ml, .null])), (ml, .inr (0, [.int (nI mc), .ref ed, .int (nI sz0)])), (ed, .inl (cO, 10, .inr (.inr (.inr (.inr fe))))), (ck, .inr (1, [.ref ce, .null])), (ce, .inl (cJ, 128, .inr (.inl fE))), (mm, .inr (4, [.int (nI mi), .int (nI mt), .int (nI mg), .int (nI ms), .int sd, .null])), (rf, .inr (2, [.int (nI fi), .int ff, .int fo, .ref fw]))] H := hP
  have hw := hw.symm
  subst hw
  refine lv_lstore_n (lv' := [(2, .long (fE 0)), (0, .ref r), (1, .int (nI ad))]) hx hb dX5_writeFirst_32 rfl hl (by decide) rfl (fun ls hl => ?_)
  refine lv_aload_n hx hb dX5_writeFirst_33 rfl (lv_at hl 1 rfl) ?_
  refine va_get (D := (dC, dI)) (ci := 6) (v := .ref st) (C := RX5) (T := TX5) (N := 12) hx hb hts in_c_writeFirst_a_X5 hown hK hP 0 rfl rfl 2 (by decide) (hts (.fieldLink RX5 51 "ClaimBus$Row" "store" "LClaimBus$Store;") (List.mem_of_getElem? (i := 6) rfl)) (fun _ h9 => h9) rfl dX5_writeFirst_34 ?_
  refine lv_lload_n hx hb dX5_writeFirst_37 rfl (lv_at hl 0 rfl) ?_
  refine lv_bipush (v := 32) hx hb dX5_writeFirst_38 (by decide) ?_
  refine lv_lshr hx hb dX5_writeFirst_40 rfl ?_
  refine lv_l2i hx hb dX5_writeFirst_41 rfl ?_
  rw [hhi]
  have hPc := hP.sub (ws' := [(st, .inr (8, [.ref ml, .null])), (ml, .inr (0, [.int (nI mc), .ref ed, .int (nI sz0)])), (ed, .inl (cO, 10, .inr (.inr (.inr (.inr fe))))), (mm, .inr (4, [.int (nI mi), .int (nI mt), .int (nI mg), .int (nI ms), .int sd, .null]))]) [1, 2, 3, 6] rfl
  have hDc := hD.sub (ws' := [(st, .inr (8, [.ref ml, .null])), (ml, .inr (0, [.int (nI mc), .ref ed, .int (nI sz0)])), (ed, .inl (cO, 10, .inr (.inr (.inr (.inr fe))))), (mm, .inr (4, [.int (nI mi), .int (nI mt), .int (nI mg), .int (nI ms), .int sd, .null]))]) [1, 2, 3, 6] (by decide +kernel) rfl
  have hKc := hK.sub (tys' := [(cO, (.object "java/lang/Object"))]) [0] rfl
  have hFc := ro_free hS hA
  refine va_callq (va_runV (As := [.int (nI mi)]) (rest := []) ⟨hx, hb, hml, hown, hts⟩ (c_messageAt_null l dC dI (st) (ml) (mc) (ed) (sz0) (cO) (fe) (mm) (mi) (mt) (mg) (ms) (sd) (mi) H.size hel hsz hsz2) (cwV 1 hts g_c_writeFirst_a_c_messageAt_null_99 rfl rfl rfl (by decide +kernel) ⟨Nat.le_of_ble_eq_true rfl, Nat.le_of_ble_eq_true rfl⟩) ⟨fun a U g mk q => by obtain ⟨q0, q1, qP, qK, qD, qE⟩ := q; exact ⟨q0, q1, qP, va_K.moved (u := U) (U := U.calling g mk a) (Vm.Alike.refl U.vm) qK, qD, ev.same (u := U) (U := U.calling g mk a) rfl qE⟩, va_recv hKc hPc (ci := 8) (q0 := 0) rfl rfl, fun U hU hW => ⟨rfl, by rw [hU], by rw [hU]; exact hPc, va_K.moved hW.alike hKc, hDc.weaken (fun _ _ _ _ => trivial), hE.warm hW⟩⟩ rfl rfl hl.1 rfl (lv_room (Nat.le_of_ble_eq_true rfl)) dX5_writeFirst_42 ⟨Nat.le_of_ble_eq_true rfl, Nat.le_of_ble_eq_true rfl⟩) hS (fun q _ h => hFc q h) hFc (fun r_3 u t H1 locs ht hvm hw hB hz1 hk1 hS => ?_)
  clear hPc hDc hKc
  replace hP := ro_keep hP hk1
  generalize H1 = H at hP hS ⊢
  replace hP : va_P (dC, dI) vwCl [(r, .inr (6, [.int rh, .int rl, .ref st, .ref ck, .ref ck, .int 0, .int 1, .int (nI nf), .int (nI ng), .int 0, .ref rf, .int 0])), (st, .inr (8, [.ref ml, .null])), (ml, .inr (0, [.int (nI mc), .ref ed, .int (nI sz0)])), (ed, .inl (cO, 10, .inr (.inr (.inr (.inr fe))))), (ck, .inr (1, [.ref ce, .null])), (ce, .inl (cJ, 128, .inr (.inl fE))), (mm, .inr (4, [.int (nI mi), .int (nI mt), .int (nI mg), .int (nI ms), .int sd, .null])), (rf, .inr (2, [.int (nI fi), .int ff, .int fo, .ref fw]))] H := hP
  have hw := hw.symm
  subst hw
  refine W.eq (g2 := F0 m 45 ls [.ref mm]) rfl ?_
  refine lv_astore (lv' := [(4, .ref mm), (2, .long (fE 0)), (0, .ref r), (1, .int (nI ad))]) hx hb dX5_writeFirst_45 hl (by decide) rfl (fun ls hl => ?_)
  refine lv_lload_n hx hb dX5_writeFirst_47 rfl (lv_at hl 1 rfl) ?_
  refine lv_l2i hx hb dX5_writeFirst_48 rfl ?_
  rw [hlo]
  refine lv_istore (lv' := [(5, .int (nI (16777216 * to + 65536 * 32 + 256 * se + th))), (4, .ref mm), (2, .long (fE 0)), (0, .ref r), (1, .int (nI ad))]) hx hb dX5_writeFirst_49 hl (by decide) rfl (fun ls hl => ?_)
  refine lv_iload hx hb dX5_writeFirst_51 (lv_at hl 0 rfl) ?_
  refine lv_bipush (v := 24) hx hb dX5_writeFirst_53 (by decide) ?_
  refine lv_iushr (v := (nI to)) hx hb dX5_writeFirst_55 ((pk_ushrN (n := (16777216 * to + 65536 * 32 + 256 * se + th)) (by omega) (24 : Int32) 24 (by decide)).trans (show nI ((16777216 * to + 65536 * 32 + 256 * se + th) / 2 ^ 24) = nI (to) from congrArg nI (by omega))) ?_
  refine lv_istore (lv' := [(6, .int (nI to)), (5, .int (nI (16777216 * to + 65536 * 32 + 256 * se + th))), (4, .ref mm), (2, .long (fE 0)), (0, .ref r), (1, .int (nI ad))]) hx hb dX5_writeFirst_56 hl (by decide) rfl (fun ls hl => ?_)
  refine lv_iload hx hb dX5_writeFirst_58 (lv_at hl 1 rfl) ?_
  refine lv_bipush (v := 16) hx hb dX5_writeFirst_60 (by decide) ?_
  refine lv_iushr (v := (nI (256 * to + 32))) hx hb dX5_writeFirst_62 ((pk_ushrN (n := (16777216 * to + 65536 * 32 + 256 * se + th)) (by omega) (16 : Int32) 16 (by decide)).trans (show nI ((16777216 * to + 65536 * 32 + 256 * se + th) / 2 ^ 16) = nI (256 * to + 32) from congrArg nI (by omega))) ?_
  refine lv_sipush (v := 255) hx hb dX5_writeFirst_63 (by decide) ?_
  refine lv_iand hx hb dX5_writeFirst_66 ?_
  refine lv_topi (fun x_4 ex_4 => ?_)
  obtain rfl : x_4 = 32 := ex_4.trans ((pk_andN (n := (256 * to + 32)) (m := 255) (by omega) 8 (by decide)).trans (show nI ((256 * to + 32) % 2 ^ 8) = nI (32) from congrArg nI (by omega)))
  refine lv_istore (lv' := [(7, .int 32), (6, .int (nI to)), (5, .int (nI (16777216 * to + 65536 * 32 + 256 * se + th))), (4, .ref mm), (2, .long (fE 0)), (0, .ref r), (1, .int (nI ad))]) hx hb dX5_writeFirst_67 hl (by decide) rfl (fun ls hl => ?_)
  refine lv_aload hx hb dX5_writeFirst_69 (lv_at hl 3 rfl) ?_
  refine lv_ifnonnull (tgt := 106) hx hb dX5_writeFirst_71 (by decide) ?_
  refine lv_iload hx hb dX5_writeFirst_106 (lv_at hl 0 rfl) ?_
  refine lv_if_ne (tgt := 124) hx hb dX5_writeFirst_108 (by decide) (fun c_5 => ?_) (fun c_5 => ?_)
  rotate_left
  · exact absurd c_5 (by decide)
  refine lv_iload hx hb dX5_writeFirst_124 (lv_at hl 0 rfl) ?_
  refine lv_sipush (v := 235) hx hb dX5_writeFirst_126 (by decide) ?_
  refine lv_icmp_ne (tgt := 156) hx hb dX5_writeFirst_129 (by decide) (fun c_6 => ?_) (fun c_6 => ?_)
  rotate_left
  · exact absurd c_6 (by decide)
  refine lv_aload hx hb dX5_writeFirst_156 (lv_at hl 3 rfl) ?_
  refine lv_aload_n hx hb dX5_writeFirst_158 rfl (lv_at hl 5 rfl) ?_
  refine va_get (D := (dC, dI)) (ci := 6) (v := .ref rf) (C := RX5) (T := TX5) (N := 12) hx hb hts in_c_writeFirst_a_X5 hown hK hP 0 rfl rfl 10 (by decide) (hts (.fieldLink RX5 38 "ClaimBus$Row" "first" "LClaimBus$Frame;") (List.mem_of_getElem? (i := 11) rfl)) (fun _ h9 => h9) rfl dX5_writeFirst_159 ?_
  refine lv_sipush (v := 236) hx hb dX5_writeFirst_162 (by decide) ?_
  refine lv_iload hx hb dX5_writeFirst_165 (lv_at hl 1 rfl) ?_
  refine lv_iload_n hx hb dX5_writeFirst_167 rfl (lv_at hl 6 rfl) ?_
  have hPc := hP.sub (ws' := []) [] rfl
  have hDc := hD.sub (ws' := []) [] (by decide +kernel) rfl
  have hKc := hK.sub (tys' := []) [] rfl
  have hFc := ro_free hS hA
  refine va_calli (va_runSN (As := [.int 236, .int (nI to), .int (nI ad)]) (rest := [.ref rf, .ref mm]) ⟨hx, hb, hml, hown, hts⟩ (c_X10_identifier l dC dI (236) (to) (ad) H.size (by omega) h_to h_ad) ⟨va_cnB 3 hts g_c_writeFirst_a_c_X10_identifier_103 rfl rfl rfl hE.n8 (hts (.initialized RX10) (List.mem_of_getElem? (i := 12) rfl)) (by decide +kernel) ⟨Nat.le_of_ble_eq_true rfl, Nat.le_of_ble_eq_true rfl⟩, (hts (.static yX10_identifier) (List.mem_of_getElem? (i := 13) rfl)), trivial⟩ ⟨fun a U g mk q => by obtain ⟨q0, q1, qP, qK, qD, qE⟩ := q; exact ⟨q0, q1, qP, va_K.moved (u := U) (U := U.calling g mk a) (Vm.Alike.refl U.vm) qK, qD, ev.same (u := U) (U := U.calling g mk a) rfl qE⟩, fun U hU hW => ⟨rfl, by rw [hU], by rw [hU]; exact hPc, va_K.moved hW.alike hKc, hDc.weaken (fun _ _ _ _ => trivial), hE.warm hW⟩⟩ rfl rfl hl.1 rfl (lv_room (Nat.le_of_ble_eq_true rfl)) dX5_writeFirst_168 ⟨Nat.le_of_ble_eq_true rfl, Nat.le_of_ble_eq_true rfl⟩) hS (fun q _ h => hFc q h) hFc (fun r_7 u t H1 locs ht hvm hw hB hz1 hk1 hS => ?_)
  clear hPc hDc hKc
  replace hP := ro_keep hP hk1
  generalize H1 = H at hP hS ⊢
  replace hP : va_P (dC, dI) vwCl [(r, .inr (6, [.int rh, .int rl, .ref st, .ref ck, .ref ck, .int 0, .int 1, .int (nI nf), .int (nI ng), .int 0, .ref rf, .int 0])), (st, .inr (8, [.ref ml, .null])), (ml, .inr (0, [.int (nI mc), .ref ed, .int (nI sz0)])), (ed, .inl (cO, 10, .inr (.inr (.inr (.inr fe))))), (ck, .inr (1, [.ref ce, .null])), (ce, .inl (cJ, 128, .inr (.inl fE))), (mm, .inr (4, [.int (nI mi), .int (nI mt), .int (nI mg), .int (nI ms), .int sd, .null])), (rf, .inr (2, [.int (nI fi), .int ff, .int fo, .ref fw]))] H := hP
  have hw := hw.symm
  subst hw
  refine lv_iload hx hb dX5_writeFirst_171 (lv_at hl 0 rfl) ?_
  refine lv_iload hx hb dX5_writeFirst_173 (lv_at hl 2 rfl) ?_
  refine lv_bipush (v := 8) hx hb dX5_writeFirst_175 (by decide) ?_
  refine lv_iushr (v := (nI (se + 65536 * to + 8192))) hx hb dX5_writeFirst_177 ((pk_ushrN (n := (16777216 * to + 65536 * 32 + 256 * se + th)) (by omega) (8 : Int32) 8 (by decide)).trans (show nI ((16777216 * to + 65536 * 32 + 256 * se + th) / 2 ^ 8) = nI (se + 65536 * to + 8192) from congrArg nI (by omega))) ?_
  refine lv_sipush (v := 255) hx hb dX5_writeFirst_178 (by decide) ?_
  refine lv_iand hx hb dX5_writeFirst_181 ?_
  refine lv_topi (fun x_8 ex_8 => ?_)
  obtain rfl : x_8 = (nI se) := ex_8.trans ((pk_andN (n := (se + 65536 * to + 8192)) (m := 255) (by omega) 8 (by decide)).trans (show nI ((se + 65536 * to + 8192) % 2 ^ 8) = nI (se) from congrArg nI (by omega)))
  refine lv_iload hx hb dX5_writeFirst_182 (lv_at hl 2 rfl) ?_
  refine lv_sipush (v := 255) hx hb dX5_writeFirst_184 (by decide) ?_
  refine lv_iand hx hb dX5_writeFirst_187 ?_
  refine lv_topi (fun x_9 ex_9 => ?_)
  obtain rfl : x_9 = (nI th) := ex_9.trans ((pk_andN (n := (16777216 * to + 65536 * 32 + 256 * se + th)) (m := 255) (by omega) 8 (by decide)).trans (show nI ((16777216 * to + 65536 * 32 + 256 * se + th) % 2 ^ 8) = nI (th) from congrArg nI (by omega)))
  have hPc := hP.sub (ws' := [(mm, .inr (4, [.int (nI mi), .int (nI mt), .int (nI mg), .int (nI ms), .int sd, .null])), (rf, .inr (2, [.int (nI fi), .int ff, .int fo, .ref fw]))]) [6, 7] rfl
  have hDc := hD.sub (ws' := [(mm, .inr (4, [.int (nI mi), .int (nI mt), .int (nI mg), .int (nI ms), .int sd, .null])), (rf, .inr (2, [.int (nI fi), .int ff, .int fo, .ref fw]))]) [6, 7] (by decide +kernel) rfl
  have hKc := hK.sub (tys' := []) [] rfl
  have hFc := va_free (wc := [(mm, .inr (4, [.int (nI mi), .int (nI mt), .int (nI mg), .int (nI ms), .int sd, .null])), (rf, .inr (2, [.int (nI fi), .int ff, .int fo, .ref fw]))]) hD hS hA [6, 7] rfl
  refine va_callv (va_runV (As := [.ref rf, .int (nI (469762048 + 65536 * 236 + 256 * to + ad)), .int 32, .int (nI se), .int (nI th)]) (rest := []) ⟨hx, hb, hml, hown, hts⟩ (c_X3_writeControl_32 l dC dI (mm) (mi) (mt) (mg) (ms) (sd) (rf) (fi) (ff) (fo) (fw) ((469762048 + 65536 * 236 + 256 * to + ad)) (se) (th) H.size hmi hmt hmg hms h_se h_th) (cwV 5 hts g_c_writeFirst_a_c_X3_writeControl_32_119 rfl rfl rfl (by decide +kernel) ⟨Nat.le_of_ble_eq_true rfl, Nat.le_of_ble_eq_true rfl⟩) ⟨fun a U g mk q => by obtain ⟨q0, q1, qP, qK, qD, qE⟩ := q; exact ⟨q0, q1, qP, va_K.moved (u := U) (U := U.calling g mk a) (Vm.Alike.refl U.vm) qK, qD, ev.same (u := U) (U := U.calling g mk a) rfl qE⟩, va_recv hKc hPc (ci := 4) (q0 := 0) rfl rfl, fun U hU hW => ⟨rfl, by rw [hU], by rw [hU]; exact hPc, va_K.moved hW.alike hKc, hDc.weaken (fun _ _ _ _ => trivial), hE.warm hW⟩⟩ rfl rfl hl.1 rfl (lv_room (Nat.le_of_ble_eq_true rfl)) dX5_writeFirst_188 ⟨Nat.le_of_ble_eq_true rfl, Nat.le_of_ble_eq_true rfl⟩) hS (fun q _ h => hFc q h) hFc (fun u t H1 locs ht hvm hw hB hz1 hk1 hS => ?_)
  clear hPc hDc hKc
  obtain ⟨hP1, hK1, hD1⟩ := hB
  rw [ht] at hP1
  have hK1 := va_K.moved hvm.symm hK1
  obtain ⟨hP, hD⟩ := va_join (wr := [(r, .inr (6, [.int rh, .int rl, .ref st, .ref ck, .ref ck, .int 0, .int 1, .int (nI nf), .int (nI ng), .int 0, .ref rf, .int 0])), (st, .inr (8, [.ref ml, .null])), (ml, .inr (0, [.int (nI mc), .ref ed, .int (nI sz0)])), (ed, .inl (cO, 10, .inr (.inr (.inr (.inr fe))))), (ck, .inr (1, [.ref ce, .null])), (ce, .inl (cJ, 128, .inr (.inl fE)))]) (w1 := [(mm, .inr (4, [.int (nI mi), .int (nI mt), .int (nI mg), .int (nI ms), .int sd, .null])), (rf, .inr (2, [.int (nI (469762048 + 65536 * 236 + 256 * to + ad)), .int (nI (32 + 256 * (ms % 256) + 65536 * (ms / 256) + 16777216 * ((ms + 6) / 7))), .int (nI (se + 256 * mg)), .ref mm]))]) hP hD [6, 7] [0, 1, 2, 3, 4, 5] rfl rfl (by decide +kernel) (by decide +kernel) hk1 hFc hP1 hD1
  generalize H1 = H at hP hS ⊢
  replace hP : va_P (dC, dI) vwCl [(r, .inr (6, [.int rh, .int rl, .ref st, .ref ck, .ref ck, .int 0, .int 1, .int (nI nf), .int (nI ng), .int 0, .ref rf, .int 0])), (st, .inr (8, [.ref ml, .null])), (ml, .inr (0, [.int (nI mc), .ref ed, .int (nI sz0)])), (ed, .inl (cO, 10, .inr (.inr (.inr (.inr fe))))), (ck, .inr (1, [.ref ce, .null])), (ce, .inl (cJ, 128, .inr (.inl fE))), (mm, .inr (4, [.int (nI mi), .int (nI mt), .int (nI mg), .int (nI ms), .int sd, .null])), (rf, .inr (2, [.int (nI (469762048 + 65536 * 236 + 256 * to + ad)), .int (nI (32 + 256 * (ms % 256) + 65536 * (ms / 256) + 16777216 * ((ms + 6) / 7))), .int (nI (se + 256 * mg)), .ref mm]))] H := hP
  replace hD : va_D A [(r, .inr (6, [.int rh, .int rl, .ref st, .ref ck, .ref ck, .int 0, .int 1, .int (nI nf), .int (nI ng), .int 0, .ref rf, .int 0])), (st, .inr (8, [.ref ml, .null])), (ml, .inr (0, [.int (nI mc), .ref ed, .int (nI sz0)])), (ed, .inl (cO, 10, .inr (.inr (.inr (.inr fe))))), (ck, .inr (1, [.ref ce, .null])), (ce, .inl (cJ, 128, .inr (.inl fE))), (mm, .inr (4, [.int (nI mi), .int (nI mt), .int (nI mg), .int (nI ms), .int sd, .null])), (rf, .inr (2, [.int (nI (469762048 + 65536 * 236 + 256 * to + ad)), .int (nI (32 + 256 * (ms % 256) + 65536 * (ms / 256) + 16777216 * ((ms + 6) / 7))), .int (nI (se + 256 * mg)), .ref mm]))] := hD
  clear hw
  have hP9 := hP.sub (ws' := [(r, .inr (6, [.int rh, .int rl, .ref st, .ref ck, .ref ck, .int 0, .int 1, .int (nI nf), .int (nI ng), .int 0, .ref rf, .int 0])), (st, .inr (8, [.ref ml, .null])), (ml, .inr (0, [.int (nI mc), .ref ed, .int (nI sz0)])), (ed, .inl (cO, 10, .inr (.inr (.inr (.inr fe))))), (ck, .inr (1, [.ref ce, .null])), (ce, .inl (cJ, 128, .inr (.inl fE))), (mm, .inr (4, [.int (nI mi), .int (nI mt), .int (nI mg), .int (nI ms), .int sd, .null])), (rf, .inr (2, [.int (nI (469762048 + 65536 * 236 + 256 * to + ad)), .int (nI (32 + 256 * (ms % 256) + 65536 * (ms / 256) + 16777216 * ((ms + 6) / 7))), .int (nI (se + 256 * mg)), .ref mm]))]) [0, 1, 2, 3, 4, 5, 6, 7] rfl
  have hD9 := hD.sub (ws' := [(r, .inr (6, [.int rh, .int rl, .ref st, .ref ck, .ref ck, .int 0, .int 1, .int (nI nf), .int (nI ng), .int 0, .ref rf, .int 0])), (st, .inr (8, [.ref ml, .null])), (ml, .inr (0, [.int (nI mc), .ref ed, .int (nI sz0)])), (ed, .inl (cO, 10, .inr (.inr (.inr (.inr fe))))), (ck, .inr (1, [.ref ce, .null])), (ce, .inl (cJ, 128, .inr (.inl fE))), (mm, .inr (4, [.int (nI mi), .int (nI mt), .int (nI mg), .int (nI ms), .int sd, .null])), (rf, .inr (2, [.int (nI (469762048 + 65536 * 236 + 256 * to + ad)), .int (nI (32 + 256 * (ms % 256) + 65536 * (ms / 256) + 16777216 * ((ms + 6) / 7))), .int (nI (se + 256 * mg)), .ref mm]))]) [0, 1, 2, 3, 4, 5, 6, 7] (by decide +kernel) rfl
  have hK9 := hK.sub (tys' := [(cO, (.object "java/lang/Object")), (cJ, .long)]) [0, 1] rfl
  exact W.vret hx hb hr (fun t ht hW => ⟨⟨(), rfl, trivial, ⟨by rw [ht]; exact hP9, va_K.moved hW.alike hK9, hD9⟩⟩, hS.F ht⟩) hS.2.2 dX5_writeFirst_191

noncomputable def tl_c_first_a : List Cond := wsX50 ++ (v_c_len_f ++ (v_c_writeFirst_a))
noncomputable def v_c_first_a : List Cond := .code yX5_first cX5_first 2 (some (.object "ClaimBus$Frame")) :: ([.initialized RX5, .methodLink RX5 82 yX5_length, .instanceMethod yX5_length, .selects RX5 yX5_length yX5_length, .fieldLink RX5 42 "ClaimBus$Row" "firstIsWritten" "Z", .methodLink RX5 86 yX5_writeFirst, .instanceMethod yX5_writeFirst, .selects RX5 yX5_writeFirst yX5_writeFirst, .fieldLink RX5 38 "ClaimBus$Row" "first" "LClaimBus$Frame;"] ++ tl_c_first_a)
theorem it_c_first_a : ∀ w ∈ tl_c_first_a, w ∈ v_c_first_a := fun w h => List.mem_cons_of_mem _ (List.mem_append_right _ h)
theorem in_c_first_a_X5 : ∀ w ∈ wsX50, w ∈ v_c_first_a := fun w h => it_c_first_a w (List.mem_append_left _ h)
theorem ic_c_first_a_c_len_f : ∀ w ∈ v_c_len_f, w ∈ v_c_first_a := fun w h => it_c_first_a w (List.mem_append_right _ (List.mem_append_left _ h))
theorem ic_c_first_a_c_writeFirst_a : ∀ w ∈ v_c_writeFirst_a, w ∈ v_c_first_a := fun w h => it_c_first_a w (List.mem_append_right _ (List.mem_append_right _ (h)))
theorem gt_c_first_a : ∀ w ∈ tl_c_first_a, goodWord w = true := List.forall_mem_append.mpr ⟨gw_wsX50, List.forall_mem_append.mpr ⟨gw_c_len_f, gw_c_writeFirst_a⟩⟩
theorem gw_c_first_a : ∀ w ∈ v_c_first_a, goodWord w = true := List.forall_mem_cons.mpr ⟨by decide +kernel, List.forall_mem_append.mpr ⟨List.all_eq_true.mp (by decide +kernel), gt_c_first_a⟩⟩
theorem g_c_first_a_c_len_f_82 : GoodIn v_c_first_a (wsV RX5 82 RX5 yX5_length v_c_len_f) := goodIn_app (goodIn_r [.methodLink RX5 82 yX5_length, .instanceMethod yX5_length, .selects RX5 yX5_length yX5_length, .initialized RX5] [2, 3, 4, 1] (by decide +kernel) (by decide +kernel)) (fun w h => ⟨ic_c_first_a_c_len_f w h, good_of_word (gw_c_len_f w h)⟩)
theorem g_c_first_a_c_writeFirst_a_86 : GoodIn v_c_first_a (wsV RX5 86 RX5 yX5_writeFirst v_c_writeFirst_a) := goodIn_app (goodIn_r [.methodLink RX5 86 yX5_writeFirst, .instanceMethod yX5_writeFirst, .selects RX5 yX5_writeFirst yX5_writeFirst, .initialized RX5] [6, 7, 8, 1] (by decide +kernel) (by decide +kernel)) (fun w h => ⟨ic_c_first_a_c_writeFirst_a w h, good_of_word (gw_c_writeFirst_a w h)⟩)
set_option maxHeartbeats 4000000 in
set_option maxRecDepth 100000 in
theorem c_first_a (l : Launch) (dC : Nat → ClassId) (dI : Nat → Nat → Nat) (r : Nat) (rh : Int32) (rl : Int32) (st : Nat) (rf : Nat) (nf : Nat) (ng : Nat) (ck : Nat) (ce : Nat) (cJ : ClassId) (fE : Nat → Int64) (ml : Nat) (mc : Nat) (ed : Nat) (sz0 : Nat) (cO : ClassId) (fe : Nat → Option Nat) (mm : Nat) (mi : Nat) (mt : Nat) (mg : Nat) (ms : Nat) (sd : Int32) (fi : Nat) (ff : Int32) (fo : Int32) (fw : Nat) (to : Nat) (se : Nat) (th : Nat) (ad : Nat) (sz : Nat) (hmi : mi < 8) (hmt : mt < 256) (hmg : mg < 262144) (hms : ms < 1786) (h_to : to < 256) (h_se : se < 256) (h_th : th < 256) (h_ad : ad < 256) (hel : fe mi = some mm) (hsz : mi < sz0) (hsz2 : sz0 ≤ 10) (hnf : 1 ≤ nf) (hlo : (fE 0).toInt32 = (nI (16777216 * to + 65536 * 32 + 256 * se + th))) (hhi : (fE 0 >>> ((32 : Int32).toInt64 &&& 63)).toInt32 = (nI mi)) (hnf3 : nf < 300) : Met l yX5_first v_c_first_a ({ frames := 5, cells := 0, slots := 0, locals := 112 }) (va_Pc [.ref r, .int (nI ad)] (fun U => U.heap.size = sz ∧ va_P (dC, dI) vwCl [(r, .inr (6, [.int rh, .int rl, .ref st, .ref ck, .ref ck, .int 0, .int 1, .int (nI nf), .int (nI ng), .int 0, .ref rf, .int 0])), (st, .inr (8, [.ref ml, .null])), (ml, .inr (0, [.int (nI mc), .ref ed, .int (nI sz0)])), (ed, .inl (cO, 10, .inr (.inr (.inr (.inr fe))))), (ck, .inr (1, [.ref ce, .null])), (ce, .inl (cJ, 128, .inr (.inl fE))), (mm, .inr (4, [.int (nI mi), .int (nI mt), .int (nI mg), .int (nI ms), .int sd, .null])), (rf, .inr (2, [.int (nI fi), .int ff, .int fo, .ref fw]))] U.heap ∧ va_K (dC, dI) vwCl [(cO, (.object "java/lang/Object")), (cJ, .long)] U ∧ va_D (fun _ => True) [(r, .inr (6, [.int rh, .int rl, .ref st, .ref ck, .ref ck, .int 0, .int 1, .int (nI nf), .int (nI ng), .int 0, .ref rf, .int 0])), (st, .inr (8, [.ref ml, .null])), (ml, .inr (0, [.int (nI mc), .ref ed, .int (nI sz0)])), (ed, .inl (cO, 10, .inr (.inr (.inr (.inr fe))))), (ck, .inr (1, [.ref ce, .null])), (ce, .inl (cJ, 128, .inr (.inl fE))), (mm, .inr (4, [.int (nI mi), .int (nI mt), .int (nI mg), .int (nI ms), .int sd, .null])), (rf, .inr (2, [.int (nI fi), .int ff, .int fo, .ref fw]))] ∧ ev U)) (va_Qq (fun (r : Option Nat) (_ : Unit) => r = some rf) (fun (_ : Unit) (t : State) => va_P (dC, dI) vwCl [(r, .inr (6, [.int rh, .int rl, .ref st, .ref ck, .ref ck, .int 0, .int 1, .int (nI nf), .int (nI ng), .int 0, .ref rf, .int 1])), (st, .inr (8, [.ref ml, .null])), (ml, .inr (0, [.int (nI mc), .ref ed, .int (nI sz0)])), (ed, .inl (cO, 10, .inr (.inr (.inr (.inr fe))))), (ck, .inr (1, [.ref ce, .null])), (ce, .inl (cJ, 128, .inr (.inl fE))), (mm, .inr (4, [.int (nI mi), .int (nI mt), .int (nI mg), .int (nI ms), .int sd, .null])), (rf, .inr (2, [.int (nI (469762048 + 65536 * 236 + 256 * to + ad)), .int (nI (32 + 256 * (ms % 256) + 65536 * (ms / 256) + 16777216 * ((ms + 6) / 7))), .int (nI (se + 256 * mg)), .ref mm]))] t.heap ∧ va_K (dC, dI) vwCl [(cO, (.object "java/lang/Object")), (cJ, .long)] t ∧ va_D (va_A [(r, .inr (6, [.int rh, .int rl, .ref st, .ref ck, .ref ck, .int 0, .int 1, .int (nI nf), .int (nI ng), .int 0, .ref rf, .int 0])), (st, .inr (8, [.ref ml, .null])), (ml, .inr (0, [.int (nI mc), .ref ed, .int (nI sz0)])), (ed, .inl (cO, 10, .inr (.inr (.inr (.inr fe))))), (ck, .inr (1, [.ref ce, .null])), (ce, .inl (cJ, 128, .inr (.inl fE))), (mm, .inr (4, [.int (nI mi), .int (nI mt), .int (nI mg), .int (nI ms), .int sd, .null])), (rf, .inr (2, [.int (nI fi), .int ff, .int fo, .ref fw]))] sz) [(r, .inr (6, [.int rh, .int rl, .ref st, .ref ck, .ref ck, .int 0, .int 1, .int (nI nf), .int (nI ng), .int 0, .ref rf, .int 1])), (st, .inr (8, [.ref ml, .null])), (ml, .inr (0, [.int (nI mc), .ref ed, .int (nI sz0)])), (ed, .inl (cO, 10, .inr (.inr (.inr (.inr fe))))), (ck, .inr (1, [.ref ce, .null])), (ce, .inl (cJ, 128, .inr (.inl fE))), (mm, .inr (4, [.int (nI mi), .int (nI mt), .int (nI mg), .int (nI ms), .int sd, .null])), (rf, .inr (2, [.int (nI (469762048 + 65536 * 236 + 256 * to + ad)), .int (nI (32 + 256 * (ms % 256) + 65536 * (ms / 256) + 16777216 * ((ms + 6) / 7))), .int (nI (se + 256 * mg)), .ref mm]))]) (va_A [(r, .inr (6, [.int rh, .int rl, .ref st, .ref ck, .ref ck, .int 0, .int 1, .int (nI nf), .int (nI ng), .int 0, .ref rf, .int 0])), (st, .inr (8, [.ref ml, .null])), (ml, .inr (0, [.int (nI mc), .ref ed, .int (nI sz0)])), (ed, .inl (cO, 10, .inr (.inr (.inr (.inr fe))))), (ck, .inr (1, [.ref ce, .null])), (ce, .inl (cJ, 128, .inr (.inl fE))), (mm, .inr (4, [.int (nI mi), .int (nI mt), .int (nI mg), .int (nI ms), .int sd, .null])), (rf, .inr (2, [.int (nI fi), .int ff, .int fo, .ref fw]))] sz)) 0 0 (va_A [(r, .inr (6, [.int rh, .int rl, .ref st, .ref ck, .ref ck, .int 0, .int 1, .int (nI nf), .int (nI ng), .int 0, .ref rf, .int 0])), (st, .inr (8, [.ref ml, .null])), (ml, .inr (0, [.int (nI mc), .ref ed, .int (nI sz0)])), (ed, .inl (cO, 10, .inr (.inr (.inr (.inr fe))))), (ck, .inr (1, [.ref ce, .null])), (ce, .inl (cJ, 128, .inr (.inl fE))), (mm, .inr (4, [.int (nI mi), .int (nI mt), .int (nI mg), .int (nI ms), .int sd, .null])), (rf, .inr (2, [.int (nI fi), .int ff, .int fo, .ref fw]))] sz) := by
  refine Met.ofW (cc := cX5_first) (maxL := 2) (ret := (some (.object "ClaimBus$Frame"))) (by decide) rfl ?_
  intro p e s m args below meth c s₁ B hml hv
  obtain ⟨rfl, hsz, hP, hK, hD0, hE⟩ := hv
  have hx := B.exec
  have hb := B.bytes
  have hr := B.returns
  have hts := atoms_spec (ws := v_c_first_a) B.pre
  have hown : s.vm.findClass RX5 = some m.cls := findClass_of_methodNamed B.named
  have hlocks := B.notSynchronized
  subst hsz
  have hD := hD0.self (sz := s.heap.size)
  generalize hAe : va_A [(r, .inr (6, [.int rh, .int rl, .ref st, .ref ck, .ref ck, .int 0, .int 1, .int (nI nf), .int (nI ng), .int 0, .ref rf, .int 0])), (st, .inr (8, [.ref ml, .null])), (ml, .inr (0, [.int (nI mc), .ref ed, .int (nI sz0)])), (ed, .inl (cO, 10, .inr (.inr (.inr (.inr fe))))), (ck, .inr (1, [.ref ce, .null])), (ce, .inl (cJ, 128, .inr (.inl fE))), (mm, .inr (4, [.int (nI mi), .int (nI mt), .int (nI mg), .int (nI ms), .int sd, .null])), (rf, .inr (2, [.int (nI fi), .int ff, .int fo, .ref fw]))] s.heap.size = A at hD ⊢
  have hA : ∀ q : Nat, s.heap.size ≤ q → A q := fun q h => by rw [← hAe]; exact Or.inr h
  have hS : va_S A s.heap s.heap [] := va_S.rf
  replace hP : va_P (dC, dI) vwCl [(r, .inr (6, [.int rh, .int rl, .ref st, .ref ck, .ref ck, .int 0, .int 1, .int (nI nf), .int (nI ng), .int 0, .ref rf, .int 0])), (st, .inr (8, [.ref ml, .null])), (ml, .inr (0, [.int (nI mc), .ref ed, .int (nI sz0)])), (ed, .inl (cO, 10, .inr (.inr (.inr (.inr fe))))), (ck, .inr (1, [.ref ce, .null])), (ce, .inl (cJ, 128, .inr (.inl fE))), (mm, .inr (4, [.int (nI mi), .int (nI mt), .int (nI mg), .int (nI ms), .int sd, .null])), (rf, .inr (2, [.int (nI fi), .int ff, .int fo, .ref fw]))] s.heap := hP
  have hl := lv_entry ([.ref r, .int (nI ad)]) (n := 2) (Nat.le_of_ble_eq_true rfl)
  rw [lg_entry_eq]
  generalize (lg_sl ([.ref r, .int (nI ad)]) ++ List.replicate (2 - (lg_sl ([.ref r, .int (nI ad)])).length) Slot.unset).toArray = ls at hl ⊢
  replace hl : lv_has ls 2 [(0, .ref r), (1, .int (nI ad))] := hl
  obtain ⟨H, hH⟩ : ∃ z : Heap, z = s.heap := ⟨_, rfl⟩
  rw [← hH]
  replace hS : va_S A s.heap H [] := by rw [hH]; exact va_S.rf
  replace hP : va_P (dC, dI) vwCl [(r, .inr (6, [.int rh, .int rl, .ref st, .ref ck, .ref ck, .int 0, .int 1, .int (nI nf), .int (nI ng), .int 0, .ref rf, .int 0])), (st, .inr (8, [.ref ml, .null])), (ml, .inr (0, [.int (nI mc), .ref ed, .int (nI sz0)])), (ed, .inl (cO, 10, .inr (.inr (.inr (.inr fe))))), (ck, .inr (1, [.ref ce, .null])), (ce, .inl (cJ, 128, .inr (.inl fE))), (mm, .inr (4, [.int (nI mi), .int (nI mt), .int (nI mg), .int (nI ms), .int sd, .null])), (rf, .inr (2, [.int (nI fi), .int ff, .int fo, .ref fw]))] H := by rw [hH]; exact hP
  clear hH
  refine lv_aload_n hx hb dX5_first_0 rfl (lv_at hl 0 rfl) ?_
  have hPc := hP.sub (ws' := [(r, .inr (6, [.int rh, .int rl, .ref st, .ref ck, .ref ck, .int 0, .int 1, .int (nI nf), .int (nI ng), .int 0, .ref rf, .int 0]))]) [0] rfl
  have hDc := hD.sub (ws' := [(r, .inr (6, [.int rh, .int rl, .ref st, .ref ck, .ref ck, .int 0, .int 1, .int (nI nf), .int (nI ng), .int 0, .ref rf, .int 0]))]) [0] (by decide +kernel) rfl
  have hKc := hK.sub (tys' := []) [] rfl
  have hFc := ro_free hS hA
  refine va_calli (va_runV (As := []) (rest := []) ⟨hx, hb, hml, hown, hts⟩ (c_len_f l dC dI (r) (rh) (rl) (st) (rf) (nf) (ng) (ck) H.size) (cwV 0 hts g_c_first_a_c_len_f_82 rfl rfl rfl (by decide +kernel) ⟨Nat.le_of_ble_eq_true rfl, Nat.le_of_ble_eq_true rfl⟩) ⟨fun a U g mk q => by obtain ⟨q0, q1, qP, qK, qD, qE⟩ := q; exact ⟨q0, q1, qP, va_K.moved (u := U) (U := U.calling g mk a) (Vm.Alike.refl U.vm) qK, qD, ev.same (u := U) (U := U.calling g mk a) rfl qE⟩, va_recv hKc hPc (ci := 6) (q0 := 0) rfl rfl, fun U hU hW => ⟨rfl, by rw [hU], by rw [hU]; exact hPc, va_K.moved hW.alike hKc, hDc.weaken (fun _ _ _ _ => trivial), hE.warm hW⟩⟩ rfl rfl hl.1 rfl (lv_room (Nat.le_of_ble_eq_true rfl)) dX5_first_1 ⟨Nat.le_of_ble_eq_true rfl, Nat.le_of_ble_eq_true rfl⟩) hS (fun q _ h => hFc q h) hFc (fun r_1 u t H1 locs ht hvm hw hB hz1 hk1 hS => ?_)
  clear hPc hDc hKc
  replace hP := ro_keep hP hk1
  generalize H1 = H at hP hS ⊢
  replace hP : va_P (dC, dI) vwCl [(r, .inr (6, [.int rh, .int rl, .ref st, .ref ck, .ref ck, .int 0, .int 1, .int (nI nf), .int (nI ng), .int 0, .ref rf, .int 0])), (st, .inr (8, [.ref ml, .null])), (ml, .inr (0, [.int (nI mc), .ref ed, .int (nI sz0)])), (ed, .inl (cO, 10, .inr (.inr (.inr (.inr fe))))), (ck, .inr (1, [.ref ce, .null])), (ce, .inl (cJ, 128, .inr (.inl fE))), (mm, .inr (4, [.int (nI mi), .int (nI mt), .int (nI mg), .int (nI ms), .int sd, .null])), (rf, .inr (2, [.int (nI fi), .int ff, .int fo, .ref fw]))] H := hP
  have hw := hw.symm
  subst hw
  refine lv_if_ne (tgt := 9) hx hb dX5_first_4 (by decide) (fun c_2 => ?_) (fun c_2 => ?_)
  rotate_left
  · exact absurd ((nI_eq (a := nf) (b := 0) (by omega) (by omega)).mp c_2) (by omega)
  refine lv_aload_n hx hb dX5_first_9 rfl (lv_at hl 0 rfl) ?_
  refine va_get (D := (dC, dI)) (ci := 6) (v := .int 0) (C := RX5) (T := TX5) (N := 12) hx hb hts in_c_first_a_X5 hown hK hP 0 rfl rfl 11 (by decide) (hts (.fieldLink RX5 42 "ClaimBus$Row" "firstIsWritten" "Z") (List.mem_of_getElem? (i := 5) rfl)) (fun _ h9 => h9) rfl dX5_first_10 ?_
  refine lv_if_ne (tgt := 26) hx hb dX5_first_13 (by decide) (fun c_3 => ?_) (fun c_3 => ?_)
  · exact absurd c_3 (by decide)
  refine lv_aload_n hx hb dX5_first_16 rfl (lv_at hl 0 rfl) ?_
  refine lv_iload_n hx hb dX5_first_17 rfl (lv_at hl 1 rfl) ?_
  have hPc := hP.sub (ws' := [(r, .inr (6, [.int rh, .int rl, .ref st, .ref ck, .ref ck, .int 0, .int 1, .int (nI nf), .int (nI ng), .int 0, .ref rf, .int 0])), (st, .inr (8, [.ref ml, .null])), (ml, .inr (0, [.int (nI mc), .ref ed, .int (nI sz0)])), (ed, .inl (cO, 10, .inr (.inr (.inr (.inr fe))))), (ck, .inr (1, [.ref ce, .null])), (ce, .inl (cJ, 128, .inr (.inl fE))), (mm, .inr (4, [.int (nI mi), .int (nI mt), .int (nI mg), .int (nI ms), .int sd, .null])), (rf, .inr (2, [.int (nI fi), .int ff, .int fo, .ref fw]))]) [0, 1, 2, 3, 4, 5, 6, 7] rfl
  have hDc := hD.sub (ws' := [(r, .inr (6, [.int rh, .int rl, .ref st, .ref ck, .ref ck, .int 0, .int 1, .int (nI nf), .int (nI ng), .int 0, .ref rf, .int 0])), (st, .inr (8, [.ref ml, .null])), (ml, .inr (0, [.int (nI mc), .ref ed, .int (nI sz0)])), (ed, .inl (cO, 10, .inr (.inr (.inr (.inr fe))))), (ck, .inr (1, [.ref ce, .null])), (ce, .inl (cJ, 128, .inr (.inl fE))), (mm, .inr (4, [.int (nI mi), .int (nI mt), .int (nI mg), .int (nI ms), .int sd, .null])), (rf, .inr (2, [.int (nI fi), .int ff, .int fo, .ref fw]))]) [0, 1, 2, 3, 4, 5, 6, 7] (by decide +kernel) rfl
  have hKc := hK.sub (tys' := [(cO, (.object "java/lang/Object")), (cJ, .long)]) [0, 1] rfl
  have hFc := va_free (wc := [(r, .inr (6, [.int rh, .int rl, .ref st, .ref ck, .ref ck, .int 0, .int 1, .int (nI nf), .int (nI ng), .int 0, .ref rf, .int 0])), (st, .inr (8, [.ref ml, .null])), (ml, .inr (0, [.int (nI mc), .ref ed, .int (nI sz0)])), (ed, .inl (cO, 10, .inr (.inr (.inr (.inr fe))))), (ck, .inr (1, [.ref ce, .null])), (ce, .inl (cJ, 128, .inr (.inl fE))), (mm, .inr (4, [.int (nI mi), .int (nI mt), .int (nI mg), .int (nI ms), .int sd, .null])), (rf, .inr (2, [.int (nI fi), .int ff, .int fo, .ref fw]))]) hD hS hA [0, 1, 2, 3, 4, 5, 6, 7] rfl
  refine va_callv (va_runV (As := [.int (nI ad)]) (rest := []) ⟨hx, hb, hml, hown, hts⟩ (c_writeFirst_a l dC dI (r) (rh) (rl) (st) (rf) (nf) (ng) (ck) (ce) (cJ) (fE) (ml) (mc) (ed) (sz0) (cO) (fe) (mm) (mi) (mt) (mg) (ms) (sd) (fi) (ff) (fo) (fw) (to) (se) (th) (ad) H.size hmi hmt hmg hms h_to h_se h_th h_ad hel hsz hsz2 hnf hlo hhi) (cwV 1 hts g_c_first_a_c_writeFirst_a_86 rfl rfl rfl (by decide +kernel) ⟨Nat.le_of_ble_eq_true rfl, Nat.le_of_ble_eq_true rfl⟩) ⟨fun a U g mk q => by obtain ⟨q0, q1, qP, qK, qD, qE⟩ := q; exact ⟨q0, q1, qP, va_K.moved (u := U) (U := U.calling g mk a) (Vm.Alike.refl U.vm) qK, qD, ev.same (u := U) (U := U.calling g mk a) rfl qE⟩, va_recv hKc hPc (ci := 6) (q0 := 0) rfl rfl, fun U hU hW => ⟨rfl, by rw [hU], by rw [hU]; exact hPc, va_K.moved hW.alike hKc, hDc.weaken (fun _ _ _ _ => trivial), hE.warm hW⟩⟩ rfl rfl hl.1 rfl (lv_room (Nat.le_of_ble_eq_true rfl)) dX5_first_18 ⟨Nat.le_of_ble_eq_true rfl, Nat.le_of_ble_eq_true rfl⟩) hS (fun q _ h => hFc q h) hFc (fun u t H1 locs ht hvm hw hB hz1 hk1 hS => ?_)
  clear hPc hDc hKc
  obtain ⟨hP1, hK1, hD1⟩ := hB
  rw [ht] at hP1
  have hK1 := va_K.moved hvm.symm hK1
  obtain ⟨hP, hD⟩ := va_join (wr := []) (w1 := [(r, .inr (6, [.int rh, .int rl, .ref st, .ref ck, .ref ck, .int 0, .int 1, .int (nI nf), .int (nI ng), .int 0, .ref rf, .int 0])), (st, .inr (8, [.ref ml, .null])), (ml, .inr (0, [.int (nI mc), .ref ed, .int (nI sz0)])), (ed, .inl (cO, 10, .inr (.inr (.inr (.inr fe))))), (ck, .inr (1, [.ref ce, .null])), (ce, .inl (cJ, 128, .inr (.inl fE))), (mm, .inr (4, [.int (nI mi), .int (nI mt), .int (nI mg), .int (nI ms), .int sd, .null])), (rf, .inr (2, [.int (nI (469762048 + 65536 * 236 + 256 * to + ad)), .int (nI (32 + 256 * (ms % 256) + 65536 * (ms / 256) + 16777216 * ((ms + 6) / 7))), .int (nI (se + 256 * mg)), .ref mm]))]) hP hD [0, 1, 2, 3, 4, 5, 6, 7] [] rfl rfl (by decide +kernel) (by decide +kernel) hk1 hFc hP1 hD1
  generalize H1 = H at hP hS ⊢
  replace hP : va_P (dC, dI) vwCl [(r, .inr (6, [.int rh, .int rl, .ref st, .ref ck, .ref ck, .int 0, .int 1, .int (nI nf), .int (nI ng), .int 0, .ref rf, .int 0])), (st, .inr (8, [.ref ml, .null])), (ml, .inr (0, [.int (nI mc), .ref ed, .int (nI sz0)])), (ed, .inl (cO, 10, .inr (.inr (.inr (.inr fe))))), (ck, .inr (1, [.ref ce, .null])), (ce, .inl (cJ, 128, .inr (.inl fE))), (mm, .inr (4, [.int (nI mi), .int (nI mt), .int (nI mg), .int (nI ms), .int sd, .null])), (rf, .inr (2, [.int (nI (469762048 + 65536 * 236 + 256 * to + ad)), .int (nI (32 + 256 * (ms % 256) + 65536 * (ms / 256) + 16777216 * ((ms + 6) / 7))), .int (nI (se + 256 * mg)), .ref mm]))] H := hP
  replace hD : va_D A [(r, .inr (6, [.int rh, .int rl, .ref st, .ref ck, .ref ck, .int 0, .int 1, .int (nI nf), .int (nI ng), .int 0, .ref rf, .int 0])), (st, .inr (8, [.ref ml, .null])), (ml, .inr (0, [.int (nI mc), .ref ed, .int (nI sz0)])), (ed, .inl (cO, 10, .inr (.inr (.inr (.inr fe))))), (ck, .inr (1, [.ref ce, .null])), (ce, .inl (cJ, 128, .inr (.inl fE))), (mm, .inr (4, [.int (nI mi), .int (nI mt), .int (nI mg), .int (nI ms), .int sd, .null])), (rf, .inr (2, [.int (nI (469762048 + 65536 * 236 + 256 * to + ad)), .int (nI (32 + 256 * (ms % 256) + 65536 * (ms / 256) + 16777216 * ((ms + 6) / 7))), .int (nI (se + 256 * mg)), .ref mm]))] := hD
  clear hw
  refine lv_aload_n hx hb dX5_first_21 rfl (lv_at hl 0 rfl) ?_
  refine lv_iconst (v := 1) hx hb dX5_first_22 (by decide) ?_
  refine va_put (D := (dC, dI)) (ci := 6) (v := .int 1) (ty := .boolean) (C := RX5) (T := TX5) (N := 12) hx hb hts in_c_first_a_X5 tyX5 tyX5_ok nmX5 hown hK hP hD hS 0 rfl rfl 11 (by decide) (hts (.fieldLink RX5 42 "ClaimBus$Row" "firstIsWritten" "Z") (List.mem_of_getElem? (i := 5) rfl)) (fun _ h9 => h9) rfl (by decide +kernel) rfl rfl (Nat.le_of_ble_eq_true rfl) dX5_first_23 (fun H locs hP hD hS => ?_)
  replace hP : va_P (dC, dI) vwCl [(r, .inr (6, [.int rh, .int rl, .ref st, .ref ck, .ref ck, .int 0, .int 1, .int (nI nf), .int (nI ng), .int 0, .ref rf, .int 1])), (st, .inr (8, [.ref ml, .null])), (ml, .inr (0, [.int (nI mc), .ref ed, .int (nI sz0)])), (ed, .inl (cO, 10, .inr (.inr (.inr (.inr fe))))), (ck, .inr (1, [.ref ce, .null])), (ce, .inl (cJ, 128, .inr (.inl fE))), (mm, .inr (4, [.int (nI mi), .int (nI mt), .int (nI mg), .int (nI ms), .int sd, .null])), (rf, .inr (2, [.int (nI (469762048 + 65536 * 236 + 256 * to + ad)), .int (nI (32 + 256 * (ms % 256) + 65536 * (ms / 256) + 16777216 * ((ms + 6) / 7))), .int (nI (se + 256 * mg)), .ref mm]))] H := hP
  replace hD : va_D A [(r, .inr (6, [.int rh, .int rl, .ref st, .ref ck, .ref ck, .int 0, .int 1, .int (nI nf), .int (nI ng), .int 0, .ref rf, .int 1])), (st, .inr (8, [.ref ml, .null])), (ml, .inr (0, [.int (nI mc), .ref ed, .int (nI sz0)])), (ed, .inl (cO, 10, .inr (.inr (.inr (.inr fe))))), (ck, .inr (1, [.ref ce, .null])), (ce, .inl (cJ, 128, .inr (.inl fE))), (mm, .inr (4, [.int (nI mi), .int (nI mt), .int (nI mg), .int (nI ms), .int sd, .null])), (rf, .inr (2, [.int (nI (469762048 + 65536 * 236 + 256 * to + ad)), .int (nI (32 + 256 * (ms % 256) + 65536 * (ms / 256) + 16777216 * ((ms + 6) / 7))), .int (nI (se + 256 * mg)), .ref mm]))] := hD
  refine lv_aload_n hx hb dX5_first_26 rfl (lv_at hl 0 rfl) ?_
  refine va_get (D := (dC, dI)) (ci := 6) (v := .ref rf) (C := RX5) (T := TX5) (N := 12) hx hb hts in_c_first_a_X5 hown hK hP 0 rfl rfl 10 (by decide) (hts (.fieldLink RX5 38 "ClaimBus$Row" "first" "LClaimBus$Frame;") (List.mem_of_getElem? (i := 9) rfl)) (fun _ h9 => h9) rfl dX5_first_27 ?_
  have hP9 := hP.sub (ws' := [(r, .inr (6, [.int rh, .int rl, .ref st, .ref ck, .ref ck, .int 0, .int 1, .int (nI nf), .int (nI ng), .int 0, .ref rf, .int 1])), (st, .inr (8, [.ref ml, .null])), (ml, .inr (0, [.int (nI mc), .ref ed, .int (nI sz0)])), (ed, .inl (cO, 10, .inr (.inr (.inr (.inr fe))))), (ck, .inr (1, [.ref ce, .null])), (ce, .inl (cJ, 128, .inr (.inl fE))), (mm, .inr (4, [.int (nI mi), .int (nI mt), .int (nI mg), .int (nI ms), .int sd, .null])), (rf, .inr (2, [.int (nI (469762048 + 65536 * 236 + 256 * to + ad)), .int (nI (32 + 256 * (ms % 256) + 65536 * (ms / 256) + 16777216 * ((ms + 6) / 7))), .int (nI (se + 256 * mg)), .ref mm]))]) [0, 1, 2, 3, 4, 5, 6, 7] rfl
  have hD9 := hD.sub (ws' := [(r, .inr (6, [.int rh, .int rl, .ref st, .ref ck, .ref ck, .int 0, .int 1, .int (nI nf), .int (nI ng), .int 0, .ref rf, .int 1])), (st, .inr (8, [.ref ml, .null])), (ml, .inr (0, [.int (nI mc), .ref ed, .int (nI sz0)])), (ed, .inl (cO, 10, .inr (.inr (.inr (.inr fe))))), (ck, .inr (1, [.ref ce, .null])), (ce, .inl (cJ, 128, .inr (.inl fE))), (mm, .inr (4, [.int (nI mi), .int (nI mt), .int (nI mg), .int (nI ms), .int sd, .null])), (rf, .inr (2, [.int (nI (469762048 + 65536 * 236 + 256 * to + ad)), .int (nI (32 + 256 * (ms % 256) + 65536 * (ms / 256) + 16777216 * ((ms + 6) / 7))), .int (nI (se + 256 * mg)), .ref mm]))]) [0, 1, 2, 3, 4, 5, 6, 7] (by decide +kernel) rfl
  have hK9 := hK.sub (tys' := [(cO, (.object "java/lang/Object")), (cJ, .long)]) [0, 1] rfl
  exact W.aret (v := .ref rf) hx hb hr (Or.inl ⟨_, rfl⟩) (Or.inr ⟨_, rfl⟩) (fun t ht hW => ⟨⟨some rf, (), rfl, rfl, ⟨by rw [ht]; exact hP9, va_K.moved hW.alike hK9, hD9⟩⟩, hS.F ht⟩) hS.2.2 dX5_first_30

noncomputable def tl_c_writeFirst_c : List Cond := wsX50 ++ (v_c_firstEntry ++ (v_c_messageAt_null ++ (v_c_X10_identifier ++ (v_c_X3_writeControl_17))))
noncomputable def v_c_writeFirst_c : List Cond := .code yX5_writeFirst cX5_writeFirst 8 none :: ([.fieldLink RX5 31 "ClaimBus$Row" "claimWaits" "Z", .initialized RX5, .methodLink RX5 95 yX5_firstEntry, .instanceMethod yX5_firstEntry, .selects RX5 yX5_firstEntry yX5_firstEntry, .fieldLink RX5 51 "ClaimBus$Row" "store" "LClaimBus$Store;", .initialized RX7, .methodLink RX5 99 yX7_messageAt, .instanceMethod yX7_messageAt, .selects RX7 yX7_messageAt yX7_messageAt, .fieldLink RX5 38 "ClaimBus$Row" "first" "LClaimBus$Frame;", .initialized RX10, .static yX10_identifier, .initialized RX3, .methodLink RX5 119 yX3_writeControl, .instanceMethod yX3_writeControl, .selects RX3 yX3_writeControl yX3_writeControl] ++ tl_c_writeFirst_c)
theorem it_c_writeFirst_c : ∀ w ∈ tl_c_writeFirst_c, w ∈ v_c_writeFirst_c := fun w h => List.mem_cons_of_mem _ (List.mem_append_right _ h)
theorem in_c_writeFirst_c_X5 : ∀ w ∈ wsX50, w ∈ v_c_writeFirst_c := fun w h => it_c_writeFirst_c w (List.mem_append_left _ h)
theorem ic_c_writeFirst_c_c_firstEntry : ∀ w ∈ v_c_firstEntry, w ∈ v_c_writeFirst_c := fun w h => it_c_writeFirst_c w (List.mem_append_right _ (List.mem_append_left _ h))
theorem ic_c_writeFirst_c_c_messageAt_null : ∀ w ∈ v_c_messageAt_null, w ∈ v_c_writeFirst_c := fun w h => it_c_writeFirst_c w (List.mem_append_right _ (List.mem_append_right _ (List.mem_append_left _ h)))
theorem ic_c_writeFirst_c_c_X10_identifier : ∀ w ∈ v_c_X10_identifier, w ∈ v_c_writeFirst_c := fun w h => it_c_writeFirst_c w (List.mem_append_right _ (List.mem_append_right _ (List.mem_append_right _ (List.mem_append_left _ h))))
theorem ic_c_writeFirst_c_c_X3_writeControl_17 : ∀ w ∈ v_c_X3_writeControl_17, w ∈ v_c_writeFirst_c := fun w h => it_c_writeFirst_c w (List.mem_append_right _ (List.mem_append_right _ (List.mem_append_right _ (List.mem_append_right _ (h)))))
theorem gt_c_writeFirst_c : ∀ w ∈ tl_c_writeFirst_c, goodWord w = true := List.forall_mem_append.mpr ⟨gw_wsX50, List.forall_mem_append.mpr ⟨gw_c_firstEntry, List.forall_mem_append.mpr ⟨gw_c_messageAt_null, List.forall_mem_append.mpr ⟨gw_c_X10_identifier, gw_c_X3_writeControl_17⟩⟩⟩⟩
theorem gw_c_writeFirst_c : ∀ w ∈ v_c_writeFirst_c, goodWord w = true := List.forall_mem_cons.mpr ⟨by decide +kernel, List.forall_mem_append.mpr ⟨List.all_eq_true.mp (by decide +kernel), gt_c_writeFirst_c⟩⟩
theorem g_c_writeFirst_c_c_firstEntry_95 : GoodIn v_c_writeFirst_c (wsV RX5 95 RX5 yX5_firstEntry v_c_firstEntry) := goodIn_app (goodIn_r [.methodLink RX5 95 yX5_firstEntry, .instanceMethod yX5_firstEntry, .selects RX5 yX5_firstEntry yX5_firstEntry, .initialized RX5] [3, 4, 5, 2] (by decide +kernel) (by decide +kernel)) (fun w h => ⟨ic_c_writeFirst_c_c_firstEntry w h, good_of_word (gw_c_firstEntry w h)⟩)
theorem g_c_writeFirst_c_c_messageAt_null_99 : GoodIn v_c_writeFirst_c (wsV RX5 99 RX7 yX7_messageAt v_c_messageAt_null) := goodIn_app (goodIn_r [.methodLink RX5 99 yX7_messageAt, .instanceMethod yX7_messageAt, .selects RX7 yX7_messageAt yX7_messageAt, .initialized RX7] [8, 9, 10, 7] (by decide +kernel) (by decide +kernel)) (fun w h => ⟨ic_c_writeFirst_c_c_messageAt_null w h, good_of_word (gw_c_messageAt_null w h)⟩)
theorem g_c_writeFirst_c_c_X10_identifier_103 : GoodIn v_c_writeFirst_c v_c_X10_identifier := fun w h => ⟨ic_c_writeFirst_c_c_X10_identifier w h, good_of_word (gw_c_X10_identifier w h)⟩
theorem g_c_writeFirst_c_c_X3_writeControl_17_119 : GoodIn v_c_writeFirst_c (wsV RX5 119 RX3 yX3_writeControl v_c_X3_writeControl_17) := goodIn_app (goodIn_r [.methodLink RX5 119 yX3_writeControl, .instanceMethod yX3_writeControl, .selects RX3 yX3_writeControl yX3_writeControl, .initialized RX3] [15, 16, 17, 14] (by decide +kernel) (by decide +kernel)) (fun w h => ⟨ic_c_writeFirst_c_c_X3_writeControl_17 w h, good_of_word (gw_c_X3_writeControl_17 w h)⟩)
set_option maxHeartbeats 4000000 in
set_option maxRecDepth 100000 in
theorem c_writeFirst_c (l : Launch) (dC : Nat → ClassId) (dI : Nat → Nat → Nat) (r : Nat) (rh : Int32) (rl : Int32) (st : Nat) (rf : Nat) (nf : Nat) (ng : Nat) (ck : Nat) (ce : Nat) (cJ : ClassId) (fE : Nat → Int64) (ml : Nat) (mc : Nat) (ed : Nat) (sz0 : Nat) (cO : ClassId) (fe : Nat → Option Nat) (mm : Nat) (mi : Nat) (mt : Nat) (mg : Nat) (ms : Nat) (sd : Int32) (fi : Nat) (ff : Int32) (fo : Int32) (fw : Nat) (to : Nat) (se : Nat) (th : Nat) (ad : Nat) (sz : Nat) (hmi : mi < 8) (hmt : mt < 256) (hmg : mg < 262144) (hms : ms < 1786) (h_to : to < 256) (h_se : se < 256) (h_th : th < 256) (h_ad : ad < 256) (hel : fe mi = some mm) (hsz : mi < sz0) (hsz2 : sz0 ≤ 10) (hnf : 1 ≤ nf) (hlo : (fE 0).toInt32 = (nI (16777216 * to + 65536 * 17 + 256 * se + th))) (hhi : (fE 0 >>> ((32 : Int32).toInt64 &&& 63)).toInt32 = (nI mi)) : Met l yX5_writeFirst v_c_writeFirst_c ({ frames := 4, cells := 0, slots := 0, locals := 85 }) (va_Pc [.ref r, .int (nI ad)] (fun U => U.heap.size = sz ∧ va_P (dC, dI) vwCl [(r, .inr (6, [.int rh, .int rl, .ref st, .ref ck, .ref ck, .int 0, .int 1, .int (nI nf), .int (nI ng), .int 0, .ref rf, .int 0])), (st, .inr (8, [.ref ml, .null])), (ml, .inr (0, [.int (nI mc), .ref ed, .int (nI sz0)])), (ed, .inl (cO, 10, .inr (.inr (.inr (.inr fe))))), (ck, .inr (1, [.ref ce, .null])), (ce, .inl (cJ, 128, .inr (.inl fE))), (mm, .inr (4, [.int (nI mi), .int (nI mt), .int (nI mg), .int (nI ms), .int sd, .null])), (rf, .inr (2, [.int (nI fi), .int ff, .int fo, .ref fw]))] U.heap ∧ va_K (dC, dI) vwCl [(cO, (.object "java/lang/Object")), (cJ, .long)] U ∧ va_D (fun _ => True) [(r, .inr (6, [.int rh, .int rl, .ref st, .ref ck, .ref ck, .int 0, .int 1, .int (nI nf), .int (nI ng), .int 0, .ref rf, .int 0])), (st, .inr (8, [.ref ml, .null])), (ml, .inr (0, [.int (nI mc), .ref ed, .int (nI sz0)])), (ed, .inl (cO, 10, .inr (.inr (.inr (.inr fe))))), (ck, .inr (1, [.ref ce, .null])), (ce, .inl (cJ, 128, .inr (.inl fE))), (mm, .inr (4, [.int (nI mi), .int (nI mt), .int (nI mg), .int (nI ms), .int sd, .null])), (rf, .inr (2, [.int (nI fi), .int ff, .int fo, .ref fw]))] ∧ ev U)) (va_Qv (fun _ : Unit => True) (fun (_ : Unit) (t : State) => va_P (dC, dI) vwCl [(r, .inr (6, [.int rh, .int rl, .ref st, .ref ck, .ref ck, .int 0, .int 1, .int (nI nf), .int (nI ng), .int 0, .ref rf, .int 0])), (st, .inr (8, [.ref ml, .null])), (ml, .inr (0, [.int (nI mc), .ref ed, .int (nI sz0)])), (ed, .inl (cO, 10, .inr (.inr (.inr (.inr fe))))), (ck, .inr (1, [.ref ce, .null])), (ce, .inl (cJ, 128, .inr (.inl fE))), (mm, .inr (4, [.int (nI mi), .int (nI mt), .int (nI mg), .int (nI ms), .int sd, .null])), (rf, .inr (2, [.int (nI (469762048 + 65536 * 236 + 256 * to + ad)), .int (nI (17 + 256 * se + 65536 * th + 4278190080)), .int (nI (255 + 256 * mg)), .ref mm]))] t.heap ∧ va_K (dC, dI) vwCl [(cO, (.object "java/lang/Object")), (cJ, .long)] t ∧ va_D (va_A [(r, .inr (6, [.int rh, .int rl, .ref st, .ref ck, .ref ck, .int 0, .int 1, .int (nI nf), .int (nI ng), .int 0, .ref rf, .int 0])), (st, .inr (8, [.ref ml, .null])), (ml, .inr (0, [.int (nI mc), .ref ed, .int (nI sz0)])), (ed, .inl (cO, 10, .inr (.inr (.inr (.inr fe))))), (ck, .inr (1, [.ref ce, .null])), (ce, .inl (cJ, 128, .inr (.inl fE))), (mm, .inr (4, [.int (nI mi), .int (nI mt), .int (nI mg), .int (nI ms), .int sd, .null])), (rf, .inr (2, [.int (nI fi), .int ff, .int fo, .ref fw]))] sz) [(r, .inr (6, [.int rh, .int rl, .ref st, .ref ck, .ref ck, .int 0, .int 1, .int (nI nf), .int (nI ng), .int 0, .ref rf, .int 0])), (st, .inr (8, [.ref ml, .null])), (ml, .inr (0, [.int (nI mc), .ref ed, .int (nI sz0)])), (ed, .inl (cO, 10, .inr (.inr (.inr (.inr fe))))), (ck, .inr (1, [.ref ce, .null])), (ce, .inl (cJ, 128, .inr (.inl fE))), (mm, .inr (4, [.int (nI mi), .int (nI mt), .int (nI mg), .int (nI ms), .int sd, .null])), (rf, .inr (2, [.int (nI (469762048 + 65536 * 236 + 256 * to + ad)), .int (nI (17 + 256 * se + 65536 * th + 4278190080)), .int (nI (255 + 256 * mg)), .ref mm]))]) (va_A [(r, .inr (6, [.int rh, .int rl, .ref st, .ref ck, .ref ck, .int 0, .int 1, .int (nI nf), .int (nI ng), .int 0, .ref rf, .int 0])), (st, .inr (8, [.ref ml, .null])), (ml, .inr (0, [.int (nI mc), .ref ed, .int (nI sz0)])), (ed, .inl (cO, 10, .inr (.inr (.inr (.inr fe))))), (ck, .inr (1, [.ref ce, .null])), (ce, .inl (cJ, 128, .inr (.inl fE))), (mm, .inr (4, [.int (nI mi), .int (nI mt), .int (nI mg), .int (nI ms), .int sd, .null])), (rf, .inr (2, [.int (nI fi), .int ff, .int fo, .ref fw]))] sz)) 0 0 (va_A [(r, .inr (6, [.int rh, .int rl, .ref st, .ref ck, .ref ck, .int 0, .int 1, .int (nI nf), .int (nI ng), .int 0, .ref rf, .int 0])), (st, .inr (8, [.ref ml, .null])), (ml, .inr (0, [.int (nI mc), .ref ed, .int (nI sz0)])), (ed, .inl (cO, 10, .inr (.inr (.inr (.inr fe))))), (ck, .inr (1, [.ref ce, .null])), (ce, .inl (cJ, 128, .inr (.inl fE))), (mm, .inr (4, [.int (nI mi), .int (nI mt), .int (nI mg), .int (nI ms), .int sd, .null])), (rf, .inr (2, [.int (nI fi), .int ff, .int fo, .ref fw]))] sz) := by
  refine Met.ofW (cc := cX5_writeFirst) (maxL := 8) (ret := none) (by decide) rfl ?_
  intro p e s m args below meth c s₁ B hml hv
  obtain ⟨rfl, hsz, hP, hK, hD0, hE⟩ := hv
  have hx := B.exec
  have hb := B.bytes
  have hr := B.returns
  have hts := atoms_spec (ws := v_c_writeFirst_c) B.pre
  have hown : s.vm.findClass RX5 = some m.cls := findClass_of_methodNamed B.named
  have hlocks := B.notSynchronized
  subst hsz
  have hD := hD0.self (sz := s.heap.size)
  generalize hAe : va_A [(r, .inr (6, [.int rh, .int rl, .ref st, .ref ck, .ref ck, .int 0, .int 1, .int (nI nf), .int (nI ng), .int 0, .ref rf, .int 0])), (st, .inr (8, [.ref ml, .null])), (ml, .inr (0, [.int (nI mc), .ref ed, .int (nI sz0)])), (ed, .inl (cO, 10, .inr (.inr (.inr (.inr fe))))), (ck, .inr (1, [.ref ce, .null])), (ce, .inl (cJ, 128, .inr (.inl fE))), (mm, .inr (4, [.int (nI mi), .int (nI mt), .int (nI mg), .int (nI ms), .int sd, .null])), (rf, .inr (2, [.int (nI fi), .int ff, .int fo, .ref fw]))] s.heap.size = A at hD ⊢
  have hA : ∀ q : Nat, s.heap.size ≤ q → A q := fun q h => by rw [← hAe]; exact Or.inr h
  have hS : va_S A s.heap s.heap [] := va_S.rf
  replace hP : va_P (dC, dI) vwCl [(r, .inr (6, [.int rh, .int rl, .ref st, .ref ck, .ref ck, .int 0, .int 1, .int (nI nf), .int (nI ng), .int 0, .ref rf, .int 0])), (st, .inr (8, [.ref ml, .null])), (ml, .inr (0, [.int (nI mc), .ref ed, .int (nI sz0)])), (ed, .inl (cO, 10, .inr (.inr (.inr (.inr fe))))), (ck, .inr (1, [.ref ce, .null])), (ce, .inl (cJ, 128, .inr (.inl fE))), (mm, .inr (4, [.int (nI mi), .int (nI mt), .int (nI mg), .int (nI ms), .int sd, .null])), (rf, .inr (2, [.int (nI fi), .int ff, .int fo, .ref fw]))] s.heap := hP
  have hl := lv_entry ([.ref r, .int (nI ad)]) (n := 8) (Nat.le_of_ble_eq_true rfl)
  rw [lg_entry_eq]
  generalize (lg_sl ([.ref r, .int (nI ad)]) ++ List.replicate (8 - (lg_sl ([.ref r, .int (nI ad)])).length) Slot.unset).toArray = ls at hl ⊢
  replace hl : lv_has ls 8 [(0, .ref r), (1, .int (nI ad))] := hl
  obtain ⟨H, hH⟩ : ∃ z : Heap, z = s.heap := ⟨_, rfl⟩
  rw [← hH]
  replace hS : va_S A s.heap H [] := by rw [hH]; exact va_S.rf
  replace hP : va_P (dC, dI) vwCl [(r, .inr (6, [.int rh, .int rl, .ref st, .ref ck, .ref ck, .int 0, .int 1, .int (nI nf), .int (nI ng), .int 0, .ref rf, .int 0])), (st, .inr (8, [.ref ml, .null])), (ml, .inr (0, [.int (nI mc), .ref ed, .int (nI sz0)])), (ed, .inl (cO, 10, .inr (.inr (.inr (.inr fe))))), (ck, .inr (1, [.ref ce, .null])), (ce, .inl (cJ, 128, .inr (.inl fE))), (mm, .inr (4, [.int (nI mi), .int (nI mt), .int (nI mg), .int (nI ms), .int sd, .null])), (rf, .inr (2, [.int (nI fi), .int ff, .int fo, .ref fw]))] H := by rw [hH]; exact hP
  clear hH
  refine lv_aload_n hx hb dX5_writeFirst_0 rfl (lv_at hl 0 rfl) ?_
  refine va_get (D := (dC, dI)) (ci := 6) (v := .int 0) (C := RX5) (T := TX5) (N := 12) hx hb hts in_c_writeFirst_c_X5 hown hK hP 0 rfl rfl 9 (by decide) (hts (.fieldLink RX5 31 "ClaimBus$Row" "claimWaits" "Z") (List.mem_of_getElem? (i := 1) rfl)) (fun _ h9 => h9) rfl dX5_writeFirst_1 ?_
  refine lv_if_eq (tgt := 28) hx hb dX5_writeFirst_4 (by decide) (fun c_1 => ?_) (fun c_1 => ?_)
  rotate_left
  · exact absurd (by decide) c_1
  refine lv_aload_n hx hb dX5_writeFirst_28 rfl (lv_at hl 0 rfl) ?_
  have hPc := hP.sub (ws' := [(r, .inr (6, [.int rh, .int rl, .ref st, .ref ck, .ref ck, .int 0, .int 1, .int (nI nf), .int (nI ng), .int 0, .ref rf, .int 0])), (ck, .inr (1, [.ref ce, .null])), (ce, .inl (cJ, 128, .inr (.inl fE)))]) [0, 4, 5] rfl
  have hDc := hD.sub (ws' := [(r, .inr (6, [.int rh, .int rl, .ref st, .ref ck, .ref ck, .int 0, .int 1, .int (nI nf), .int (nI ng), .int 0, .ref rf, .int 0])), (ck, .inr (1, [.ref ce, .null])), (ce, .inl (cJ, 128, .inr (.inl fE)))]) [0, 4, 5] (by decide +kernel) rfl
  have hKc := hK.sub (tys' := [(cJ, .long)]) [1] rfl
  have hFc := ro_free hS hA
  refine va_calll (va_runV (As := []) (rest := []) ⟨hx, hb, hml, hown, hts⟩ (c_firstEntry l dC dI (r) (rh) (rl) (st) (rf) (nf) (ng) (ck) (ce) (cJ) (fE) H.size) (cwV 0 hts g_c_writeFirst_c_c_firstEntry_95 rfl rfl rfl (by decide +kernel) ⟨Nat.le_of_ble_eq_true rfl, Nat.le_of_ble_eq_true rfl⟩) ⟨fun a U g mk q => by obtain ⟨q0, q1, qP, qK, qD, qE⟩ := q; exact ⟨q0, q1, qP, va_K.moved (u := U) (U := U.calling g mk a) (Vm.Alike.refl U.vm) qK, qD, ev.same (u := U) (U := U.calling g mk a) rfl qE⟩, va_recv hKc hPc (ci := 6) (q0 := 0) rfl rfl, fun U hU hW => ⟨rfl, by rw [hU], by rw [hU]; exact hPc, va_K.moved hW.alike hKc, hDc.weaken (fun _ _ _ _ => trivial), hE.warm hW⟩⟩ rfl rfl hl.1 rfl (lv_room (Nat.le_of_ble_eq_true rfl)) dX5_writeFirst_29 ⟨Nat.le_of_ble_eq_true rfl, Nat.le_of_ble_eq_true rfl⟩) hS (fun q _ h => hFc q h) hFc (fun r_2 u t H1 locs ht hvm hw hB hz1 hk1 hS => ?_)
  clear hPc hDc hKc
  replace hP := ro_keep hP hk1
  generalize H1 = H at hP hS ⊢
  replace hP : va_P (dC, dI) vwCl [(r, .inr (6, [.int rh, .int rl, .ref st, .ref ck, .ref ck, .int 0, .int 1, .int (nI nf), .int (nI ng), .int 0, .ref rf, .int 0])), (st, .inr (8, [.ref ml, .null])), (ml, .inr (0, [.int (nI mc), .ref ed, .int (nI sz0)])), (ed, .inl (cO, 10, .inr (.inr (.inr (.inr fe))))), (ck, .inr (1, [.ref ce, .null])), (ce, .inl (cJ, 128, .inr (.inl fE))), (mm, .inr (4, [.int (nI mi), .int (nI mt), .int (nI mg), .int (nI ms), .int sd, .null])), (rf, .inr (2, [.int (nI fi), .int ff, .int fo, .ref fw]))] H := hP
  have hw := hw.symm
  subst hw
  refine lv_lstore_n (lv' := [(2, .long (fE 0)), (0, .ref r), (1, .int (nI ad))]) hx hb dX5_writeFirst_32 rfl hl (by decide) rfl (fun ls hl => ?_)
  refine lv_aload_n hx hb dX5_writeFirst_33 rfl (lv_at hl 1 rfl) ?_
  refine va_get (D := (dC, dI)) (ci := 6) (v := .ref st) (C := RX5) (T := TX5) (N := 12) hx hb hts in_c_writeFirst_c_X5 hown hK hP 0 rfl rfl 2 (by decide) (hts (.fieldLink RX5 51 "ClaimBus$Row" "store" "LClaimBus$Store;") (List.mem_of_getElem? (i := 6) rfl)) (fun _ h9 => h9) rfl dX5_writeFirst_34 ?_
  refine lv_lload_n hx hb dX5_writeFirst_37 rfl (lv_at hl 0 rfl) ?_
  refine lv_bipush (v := 32) hx hb dX5_writeFirst_38 (by decide) ?_
  refine lv_lshr hx hb dX5_writeFirst_40 rfl ?_
  refine lv_l2i hx hb dX5_writeFirst_41 rfl ?_
  rw [hhi]
  have hPc := hP.sub (ws' := [(st, .inr (8, [.ref ml, .null])), (ml, .inr (0, [.int (nI mc), .ref ed, .int (nI sz0)])), (ed, .inl (cO, 10, .inr (.inr (.inr (.inr fe))))), (mm, .inr (4, [.int (nI mi), .int (nI mt), .int (nI mg), .int (nI ms), .int sd, .null]))]) [1, 2, 3, 6] rfl
  have hDc := hD.sub (ws' := [(st, .inr (8, [.ref ml, .null])), (ml, .inr (0, [.int (nI mc), .ref ed, .int (nI sz0)])), (ed, .inl (cO, 10, .inr (.inr (.inr (.inr fe))))), (mm, .inr (4, [.int (nI mi), .int (nI mt), .int (nI mg), .int (nI ms), .int sd, .null]))]) [1, 2, 3, 6] (by decide +kernel) rfl
  have hKc := hK.sub (tys' := [(cO, (.object "java/lang/Object"))]) [0] rfl
  have hFc := ro_free hS hA
  refine va_callq (va_runV (As := [.int (nI mi)]) (rest := []) ⟨hx, hb, hml, hown, hts⟩ (c_messageAt_null l dC dI (st) (ml) (mc) (ed) (sz0) (cO) (fe) (mm) (mi) (mt) (mg) (ms) (sd) (mi) H.size hel hsz hsz2) (cwV 1 hts g_c_writeFirst_c_c_messageAt_null_99 rfl rfl rfl (by decide +kernel) ⟨Nat.le_of_ble_eq_true rfl, Nat.le_of_ble_eq_true rfl⟩) ⟨fun a U g mk q => by obtain ⟨q0, q1, qP, qK, qD, qE⟩ := q; exact ⟨q0, q1, qP, va_K.moved (u := U) (U := U.calling g mk a) (Vm.Alike.refl U.vm) qK, qD, ev.same (u := U) (U := U.calling g mk a) rfl qE⟩, va_recv hKc hPc (ci := 8) (q0 := 0) rfl rfl, fun U hU hW => ⟨rfl, by rw [hU], by rw [hU]; exact hPc, va_K.moved hW.alike hKc, hDc.weaken (fun _ _ _ _ => trivial), hE.warm hW⟩⟩ rfl rfl hl.1 rfl (lv_room (Nat.le_of_ble_eq_true rfl)) dX5_writeFirst_42 ⟨Nat.le_of_ble_eq_true rfl, Nat.le_of_ble_eq_true rfl⟩) hS (fun q _ h => hFc q h) hFc (fun r_3 u t H1 locs ht hvm hw hB hz1 hk1 hS => ?_)
  clear hPc hDc hKc
  replace hP := ro_keep hP hk1
  generalize H1 = H at hP hS ⊢
  replace hP : va_P (dC, dI) vwCl [(r, .inr (6, [.int rh, .int rl, .ref st, .ref ck, .ref ck, .int 0, .int 1, .int (nI nf), .int (nI ng), .int 0, .ref rf, .int 0])), (st, .inr (8, [.ref ml, .null])), (ml, .inr (0, [.int (nI mc), .ref ed, .int (nI sz0)])), (ed, .inl (cO, 10, .inr (.inr (.inr (.inr fe))))), (ck, .inr (1, [.ref ce, .null])), (ce, .inl (cJ, 128, .inr (.inl fE))), (mm, .inr (4, [.int (nI mi), .int (nI mt), .int (nI mg), .int (nI ms), .int sd, .null])), (rf, .inr (2, [.int (nI fi), .int ff, .int fo, .ref fw]))] H := hP
  have hw := hw.symm
  subst hw
  refine W.eq (g2 := F0 m 45 ls [.ref mm]) rfl ?_
  refine lv_astore (lv' := [(4, .ref mm), (2, .long (fE 0)), (0, .ref r), (1, .int (nI ad))]) hx hb dX5_writeFirst_45 hl (by decide) rfl (fun ls hl => ?_)
  refine lv_lload_n hx hb dX5_writeFirst_47 rfl (lv_at hl 1 rfl) ?_
  refine lv_l2i hx hb dX5_writeFirst_48 rfl ?_
  rw [hlo]
  refine lv_istore (lv' := [(5, .int (nI (16777216 * to + 65536 * 17 + 256 * se + th))), (4, .ref mm), (2, .long (fE 0)), (0, .ref r), (1, .int (nI ad))]) hx hb dX5_writeFirst_49 hl (by decide) rfl (fun ls hl => ?_)
  refine lv_iload hx hb dX5_writeFirst_51 (lv_at hl 0 rfl) ?_
  refine lv_bipush (v := 24) hx hb dX5_writeFirst_53 (by decide) ?_
  refine lv_iushr (v := (nI to)) hx hb dX5_writeFirst_55 ((pk_ushrN (n := (16777216 * to + 65536 * 17 + 256 * se + th)) (by omega) (24 : Int32) 24 (by decide)).trans (show nI ((16777216 * to + 65536 * 17 + 256 * se + th) / 2 ^ 24) = nI (to) from congrArg nI (by omega))) ?_
  refine lv_istore (lv' := [(6, .int (nI to)), (5, .int (nI (16777216 * to + 65536 * 17 + 256 * se + th))), (4, .ref mm), (2, .long (fE 0)), (0, .ref r), (1, .int (nI ad))]) hx hb dX5_writeFirst_56 hl (by decide) rfl (fun ls hl => ?_)
  refine lv_iload hx hb dX5_writeFirst_58 (lv_at hl 1 rfl) ?_
  refine lv_bipush (v := 16) hx hb dX5_writeFirst_60 (by decide) ?_
  refine lv_iushr (v := (nI (256 * to + 17))) hx hb dX5_writeFirst_62 ((pk_ushrN (n := (16777216 * to + 65536 * 17 + 256 * se + th)) (by omega) (16 : Int32) 16 (by decide)).trans (show nI ((16777216 * to + 65536 * 17 + 256 * se + th) / 2 ^ 16) = nI (256 * to + 17) from congrArg nI (by omega))) ?_
  refine lv_sipush (v := 255) hx hb dX5_writeFirst_63 (by decide) ?_
  refine lv_iand hx hb dX5_writeFirst_66 ?_
  refine lv_topi (fun x_4 ex_4 => ?_)
  obtain rfl : x_4 = 17 := ex_4.trans ((pk_andN (n := (256 * to + 17)) (m := 255) (by omega) 8 (by decide)).trans (show nI ((256 * to + 17) % 2 ^ 8) = nI (17) from congrArg nI (by omega)))
  refine lv_istore (lv' := [(7, .int 17), (6, .int (nI to)), (5, .int (nI (16777216 * to + 65536 * 17 + 256 * se + th))), (4, .ref mm), (2, .long (fE 0)), (0, .ref r), (1, .int (nI ad))]) hx hb dX5_writeFirst_67 hl (by decide) rfl (fun ls hl => ?_)
  refine lv_aload hx hb dX5_writeFirst_69 (lv_at hl 3 rfl) ?_
  refine lv_ifnonnull (tgt := 106) hx hb dX5_writeFirst_71 (by decide) ?_
  refine lv_iload hx hb dX5_writeFirst_106 (lv_at hl 0 rfl) ?_
  refine lv_if_ne (tgt := 124) hx hb dX5_writeFirst_108 (by decide) (fun c_5 => ?_) (fun c_5 => ?_)
  rotate_left
  · exact absurd c_5 (by decide)
  refine lv_iload hx hb dX5_writeFirst_124 (lv_at hl 0 rfl) ?_
  refine lv_sipush (v := 235) hx hb dX5_writeFirst_126 (by decide) ?_
  refine lv_icmp_ne (tgt := 156) hx hb dX5_writeFirst_129 (by decide) (fun c_6 => ?_) (fun c_6 => ?_)
  rotate_left
  · exact absurd c_6 (by decide)
  refine lv_aload hx hb dX5_writeFirst_156 (lv_at hl 3 rfl) ?_
  refine lv_aload_n hx hb dX5_writeFirst_158 rfl (lv_at hl 5 rfl) ?_
  refine va_get (D := (dC, dI)) (ci := 6) (v := .ref rf) (C := RX5) (T := TX5) (N := 12) hx hb hts in_c_writeFirst_c_X5 hown hK hP 0 rfl rfl 10 (by decide) (hts (.fieldLink RX5 38 "ClaimBus$Row" "first" "LClaimBus$Frame;") (List.mem_of_getElem? (i := 11) rfl)) (fun _ h9 => h9) rfl dX5_writeFirst_159 ?_
  refine lv_sipush (v := 236) hx hb dX5_writeFirst_162 (by decide) ?_
  refine lv_iload hx hb dX5_writeFirst_165 (lv_at hl 1 rfl) ?_
  refine lv_iload_n hx hb dX5_writeFirst_167 rfl (lv_at hl 6 rfl) ?_
  have hPc := hP.sub (ws' := []) [] rfl
  have hDc := hD.sub (ws' := []) [] (by decide +kernel) rfl
  have hKc := hK.sub (tys' := []) [] rfl
  have hFc := ro_free hS hA
  refine va_calli (va_runSN (As := [.int 236, .int (nI to), .int (nI ad)]) (rest := [.ref rf, .ref mm]) ⟨hx, hb, hml, hown, hts⟩ (c_X10_identifier l dC dI (236) (to) (ad) H.size (by omega) h_to h_ad) ⟨va_cnB 3 hts g_c_writeFirst_c_c_X10_identifier_103 rfl rfl rfl hE.n8 (hts (.initialized RX10) (List.mem_of_getElem? (i := 12) rfl)) (by decide +kernel) ⟨Nat.le_of_ble_eq_true rfl, Nat.le_of_ble_eq_true rfl⟩, (hts (.static yX10_identifier) (List.mem_of_getElem? (i := 13) rfl)), trivial⟩ ⟨fun a U g mk q => by obtain ⟨q0, q1, qP, qK, qD, qE⟩ := q; exact ⟨q0, q1, qP, va_K.moved (u := U) (U := U.calling g mk a) (Vm.Alike.refl U.vm) qK, qD, ev.same (u := U) (U := U.calling g mk a) rfl qE⟩, fun U hU hW => ⟨rfl, by rw [hU], by rw [hU]; exact hPc, va_K.moved hW.alike hKc, hDc.weaken (fun _ _ _ _ => trivial), hE.warm hW⟩⟩ rfl rfl hl.1 rfl (lv_room (Nat.le_of_ble_eq_true rfl)) dX5_writeFirst_168 ⟨Nat.le_of_ble_eq_true rfl, Nat.le_of_ble_eq_true rfl⟩) hS (fun q _ h => hFc q h) hFc (fun r_7 u t H1 locs ht hvm hw hB hz1 hk1 hS => ?_)
  clear hPc hDc hKc
  replace hP := ro_keep hP hk1
  generalize H1 = H at hP hS ⊢
  replace hP : va_P (dC, dI) vwCl [(r, .inr (6, [.int rh, .int rl, .ref st, .ref ck, .ref ck, .int 0, .int 1, .int (nI nf), .int (nI ng), .int 0, .ref rf, .int 0])), (st, .inr (8, [.ref ml, .null])), (ml, .inr (0, [.int (nI mc), .ref ed, .int (nI sz0)])), (ed, .inl (cO, 10, .inr (.inr (.inr (.inr fe))))), (ck, .inr (1, [.ref ce, .null])), (ce, .inl (cJ, 128, .inr (.inl fE))), (mm, .inr (4, [.int (nI mi), .int (nI mt), .int (nI mg), .int (nI ms), .int sd, .null])), (rf, .inr (2, [.int (nI fi), .int ff, .int fo, .ref fw]))] H := hP
  have hw := hw.symm
  subst hw
  refine lv_iload hx hb dX5_writeFirst_171 (lv_at hl 0 rfl) ?_
  refine lv_iload hx hb dX5_writeFirst_173 (lv_at hl 2 rfl) ?_
  refine lv_bipush (v := 8) hx hb dX5_writeFirst_175 (by decide) ?_
  refine lv_iushr (v := (nI (se + 65536 * to + 4352))) hx hb dX5_writeFirst_177 ((pk_ushrN (n := (16777216 * to + 65536 * 17 + 256 * se + th)) (by omega) (8 : Int32) 8 (by decide)).trans (show nI ((16777216 * to + 65536 * 17 + 256 * se + th) / 2 ^ 8) = nI (se + 65536 * to + 4352) from congrArg nI (by omega))) ?_
  refine lv_sipush (v := 255) hx hb dX5_writeFirst_178 (by decide) ?_
  refine lv_iand hx hb dX5_writeFirst_181 ?_
  refine lv_topi (fun x_8 ex_8 => ?_)
  obtain rfl : x_8 = (nI se) := ex_8.trans ((pk_andN (n := (se + 65536 * to + 4352)) (m := 255) (by omega) 8 (by decide)).trans (show nI ((se + 65536 * to + 4352) % 2 ^ 8) = nI (se) from congrArg nI (by omega)))
  refine lv_iload hx hb dX5_writeFirst_182 (lv_at hl 2 rfl) ?_
  refine lv_sipush (v := 255) hx hb dX5_writeFirst_184 (by decide) ?_
  refine lv_iand hx hb dX5_writeFirst_187 ?_
  refine lv_topi (fun x_9 ex_9 => ?_)
  obtain rfl : x_9 = (nI th) := ex_9.trans ((pk_andN (n := (16777216 * to + 65536 * 17 + 256 * se + th)) (m := 255) (by omega) 8 (by decide)).trans (show nI ((16777216 * to + 65536 * 17 + 256 * se + th) % 2 ^ 8) = nI (th) from congrArg nI (by omega)))
  have hPc := hP.sub (ws' := [(mm, .inr (4, [.int (nI mi), .int (nI mt), .int (nI mg), .int (nI ms), .int sd, .null])), (rf, .inr (2, [.int (nI fi), .int ff, .int fo, .ref fw]))]) [6, 7] rfl
  have hDc := hD.sub (ws' := [(mm, .inr (4, [.int (nI mi), .int (nI mt), .int (nI mg), .int (nI ms), .int sd, .null])), (rf, .inr (2, [.int (nI fi), .int ff, .int fo, .ref fw]))]) [6, 7] (by decide +kernel) rfl
  have hKc := hK.sub (tys' := []) [] rfl
  have hFc := va_free (wc := [(mm, .inr (4, [.int (nI mi), .int (nI mt), .int (nI mg), .int (nI ms), .int sd, .null])), (rf, .inr (2, [.int (nI fi), .int ff, .int fo, .ref fw]))]) hD hS hA [6, 7] rfl
  refine va_callv (va_runV (As := [.ref rf, .int (nI (469762048 + 65536 * 236 + 256 * to + ad)), .int 17, .int (nI se), .int (nI th)]) (rest := []) ⟨hx, hb, hml, hown, hts⟩ (c_X3_writeControl_17 l dC dI (mm) (mi) (mt) (mg) (ms) (sd) (rf) (fi) (ff) (fo) (fw) ((469762048 + 65536 * 236 + 256 * to + ad)) (se) (th) H.size hmi hmt hmg hms h_se h_th) (cwV 5 hts g_c_writeFirst_c_c_X3_writeControl_17_119 rfl rfl rfl (by decide +kernel) ⟨Nat.le_of_ble_eq_true rfl, Nat.le_of_ble_eq_true rfl⟩) ⟨fun a U g mk q => by obtain ⟨q0, q1, qP, qK, qD, qE⟩ := q; exact ⟨q0, q1, qP, va_K.moved (u := U) (U := U.calling g mk a) (Vm.Alike.refl U.vm) qK, qD, ev.same (u := U) (U := U.calling g mk a) rfl qE⟩, va_recv hKc hPc (ci := 4) (q0 := 0) rfl rfl, fun U hU hW => ⟨rfl, by rw [hU], by rw [hU]; exact hPc, va_K.moved hW.alike hKc, hDc.weaken (fun _ _ _ _ => trivial), hE.warm hW⟩⟩ rfl rfl hl.1 rfl (lv_room (Nat.le_of_ble_eq_true rfl)) dX5_writeFirst_188 ⟨Nat.le_of_ble_eq_true rfl, Nat.le_of_ble_eq_true rfl⟩) hS (fun q _ h => hFc q h) hFc (fun u t H1 locs ht hvm hw hB hz1 hk1 hS => ?_)
  clear hPc hDc hKc
  obtain ⟨hP1, hK1, hD1⟩ := hB
  rw [ht] at hP1
  have hK1 := va_K.moved hvm.symm hK1
  obtain ⟨hP, hD⟩ := va_join (wr := [(r, .inr (6, [.int rh, .int rl, .ref st, .ref ck, .ref ck, .int 0, .int 1, .int (nI nf), .int (nI ng), .int 0, .ref rf, .int 0])), (st, .inr (8, [.ref ml, .null])), (ml, .inr (0, [.int (nI mc), .ref ed, .int (nI sz0)])), (ed, .inl (cO, 10, .inr (.inr (.inr (.inr fe))))), (ck, .inr (1, [.ref ce, .null])), (ce, .inl (cJ, 128, .inr (.inl fE)))]) (w1 := [(mm, .inr (4, [.int (nI mi), .int (nI mt), .int (nI mg), .int (nI ms), .int sd, .null])), (rf, .inr (2, [.int (nI (469762048 + 65536 * 236 + 256 * to + ad)), .int (nI (17 + 256 * se + 65536 * th + 4278190080)), .int (nI (255 + 256 * mg)), .ref mm]))]) hP hD [6, 7] [0, 1, 2, 3, 4, 5] rfl rfl (by decide +kernel) (by decide +kernel) hk1 hFc hP1 hD1
  generalize H1 = H at hP hS ⊢
  replace hP : va_P (dC, dI) vwCl [(r, .inr (6, [.int rh, .int rl, .ref st, .ref ck, .ref ck, .int 0, .int 1, .int (nI nf), .int (nI ng), .int 0, .ref rf, .int 0])), (st, .inr (8, [.ref ml, .null])), (ml, .inr (0, [.int (nI mc), .ref ed, .int (nI sz0)])), (ed, .inl (cO, 10, .inr (.inr (.inr (.inr fe))))), (ck, .inr (1, [.ref ce, .null])), (ce, .inl (cJ, 128, .inr (.inl fE))), (mm, .inr (4, [.int (nI mi), .int (nI mt), .int (nI mg), .int (nI ms), .int sd, .null])), (rf, .inr (2, [.int (nI (469762048 + 65536 * 236 + 256 * to + ad)), .int (nI (17 + 256 * se + 65536 * th + 4278190080)), .int (nI (255 + 256 * mg)), .ref mm]))] H := hP
  replace hD : va_D A [(r, .inr (6, [.int rh, .int rl, .ref st, .ref ck, .ref ck, .int 0, .int 1, .int (nI nf), .int (nI ng), .int 0, .ref rf, .int 0])), (st, .inr (8, [.ref ml, .null])), (ml, .inr (0, [.int (nI mc), .ref ed, .int (nI sz0)])), (ed, .inl (cO, 10, .inr (.inr (.inr (.inr fe))))), (ck, .inr (1, [.ref ce, .null])), (ce, .inl (cJ, 128, .inr (.inl fE))), (mm, .inr (4, [.int (nI mi), .int (nI mt), .int (nI mg), .int (nI ms), .int sd, .null])), (rf, .inr (2, [.int (nI (469762048 + 65536 * 236 + 256 * to + ad)), .int (nI (17 + 256 * se + 65536 * th + 4278190080)), .int (nI (255 + 256 * mg)), .ref mm]))] := hD
  clear hw
  have hP9 := hP.sub (ws' := [(r, .inr (6, [.int rh, .int rl, .ref st, .ref ck, .ref ck, .int 0, .int 1, .int (nI nf), .int (nI ng), .int 0, .ref rf, .int 0])), (st, .inr (8, [.ref ml, .null])), (ml, .inr (0, [.int (nI mc), .ref ed, .int (nI sz0)])), (ed, .inl (cO, 10, .inr (.inr (.inr (.inr fe))))), (ck, .inr (1, [.ref ce, .null])), (ce, .inl (cJ, 128, .inr (.inl fE))), (mm, .inr (4, [.int (nI mi), .int (nI mt), .int (nI mg), .int (nI ms), .int sd, .null])), (rf, .inr (2, [.int (nI (469762048 + 65536 * 236 + 256 * to + ad)), .int (nI (17 + 256 * se + 65536 * th + 4278190080)), .int (nI (255 + 256 * mg)), .ref mm]))]) [0, 1, 2, 3, 4, 5, 6, 7] rfl
  have hD9 := hD.sub (ws' := [(r, .inr (6, [.int rh, .int rl, .ref st, .ref ck, .ref ck, .int 0, .int 1, .int (nI nf), .int (nI ng), .int 0, .ref rf, .int 0])), (st, .inr (8, [.ref ml, .null])), (ml, .inr (0, [.int (nI mc), .ref ed, .int (nI sz0)])), (ed, .inl (cO, 10, .inr (.inr (.inr (.inr fe))))), (ck, .inr (1, [.ref ce, .null])), (ce, .inl (cJ, 128, .inr (.inl fE))), (mm, .inr (4, [.int (nI mi), .int (nI mt), .int (nI mg), .int (nI ms), .int sd, .null])), (rf, .inr (2, [.int (nI (469762048 + 65536 * 236 + 256 * to + ad)), .int (nI (17 + 256 * se + 65536 * th + 4278190080)), .int (nI (255 + 256 * mg)), .ref mm]))]) [0, 1, 2, 3, 4, 5, 6, 7] (by decide +kernel) rfl
  have hK9 := hK.sub (tys' := [(cO, (.object "java/lang/Object")), (cJ, .long)]) [0, 1] rfl
  exact W.vret hx hb hr (fun t ht hW => ⟨⟨(), rfl, trivial, ⟨by rw [ht]; exact hP9, va_K.moved hW.alike hK9, hD9⟩⟩, hS.F ht⟩) hS.2.2 dX5_writeFirst_191

noncomputable def tl_c_first_c : List Cond := wsX50 ++ (v_c_len_f ++ (v_c_writeFirst_c))
noncomputable def v_c_first_c : List Cond := .code yX5_first cX5_first 2 (some (.object "ClaimBus$Frame")) :: ([.initialized RX5, .methodLink RX5 82 yX5_length, .instanceMethod yX5_length, .selects RX5 yX5_length yX5_length, .fieldLink RX5 42 "ClaimBus$Row" "firstIsWritten" "Z", .methodLink RX5 86 yX5_writeFirst, .instanceMethod yX5_writeFirst, .selects RX5 yX5_writeFirst yX5_writeFirst, .fieldLink RX5 38 "ClaimBus$Row" "first" "LClaimBus$Frame;"] ++ tl_c_first_c)
theorem it_c_first_c : ∀ w ∈ tl_c_first_c, w ∈ v_c_first_c := fun w h => List.mem_cons_of_mem _ (List.mem_append_right _ h)
theorem in_c_first_c_X5 : ∀ w ∈ wsX50, w ∈ v_c_first_c := fun w h => it_c_first_c w (List.mem_append_left _ h)
theorem ic_c_first_c_c_len_f : ∀ w ∈ v_c_len_f, w ∈ v_c_first_c := fun w h => it_c_first_c w (List.mem_append_right _ (List.mem_append_left _ h))
theorem ic_c_first_c_c_writeFirst_c : ∀ w ∈ v_c_writeFirst_c, w ∈ v_c_first_c := fun w h => it_c_first_c w (List.mem_append_right _ (List.mem_append_right _ (h)))
theorem gt_c_first_c : ∀ w ∈ tl_c_first_c, goodWord w = true := List.forall_mem_append.mpr ⟨gw_wsX50, List.forall_mem_append.mpr ⟨gw_c_len_f, gw_c_writeFirst_c⟩⟩
theorem gw_c_first_c : ∀ w ∈ v_c_first_c, goodWord w = true := List.forall_mem_cons.mpr ⟨by decide +kernel, List.forall_mem_append.mpr ⟨List.all_eq_true.mp (by decide +kernel), gt_c_first_c⟩⟩
theorem g_c_first_c_c_len_f_82 : GoodIn v_c_first_c (wsV RX5 82 RX5 yX5_length v_c_len_f) := goodIn_app (goodIn_r [.methodLink RX5 82 yX5_length, .instanceMethod yX5_length, .selects RX5 yX5_length yX5_length, .initialized RX5] [2, 3, 4, 1] (by decide +kernel) (by decide +kernel)) (fun w h => ⟨ic_c_first_c_c_len_f w h, good_of_word (gw_c_len_f w h)⟩)
theorem g_c_first_c_c_writeFirst_c_86 : GoodIn v_c_first_c (wsV RX5 86 RX5 yX5_writeFirst v_c_writeFirst_c) := goodIn_app (goodIn_r [.methodLink RX5 86 yX5_writeFirst, .instanceMethod yX5_writeFirst, .selects RX5 yX5_writeFirst yX5_writeFirst, .initialized RX5] [6, 7, 8, 1] (by decide +kernel) (by decide +kernel)) (fun w h => ⟨ic_c_first_c_c_writeFirst_c w h, good_of_word (gw_c_writeFirst_c w h)⟩)
set_option maxHeartbeats 4000000 in
set_option maxRecDepth 100000 in
theorem c_first_c (l : Launch) (dC : Nat → ClassId) (dI : Nat → Nat → Nat) (r : Nat) (rh : Int32) (rl : Int32) (st : Nat) (rf : Nat) (nf : Nat) (ng : Nat) (ck : Nat) (ce : Nat) (cJ : ClassId) (fE : Nat → Int64) (ml : Nat) (mc : Nat) (ed : Nat) (sz0 : Nat) (cO : ClassId) (fe : Nat → Option Nat) (mm : Nat) (mi : Nat) (mt : Nat) (mg : Nat) (ms : Nat) (sd : Int32) (fi : Nat) (ff : Int32) (fo : Int32) (fw : Nat) (to : Nat) (se : Nat) (th : Nat) (ad : Nat) (sz : Nat) (hmi : mi < 8) (hmt : mt < 256) (hmg : mg < 262144) (hms : ms < 1786) (h_to : to < 256) (h_se : se < 256) (h_th : th < 256) (h_ad : ad < 256) (hel : fe mi = some mm) (hsz : mi < sz0) (hsz2 : sz0 ≤ 10) (hnf : 1 ≤ nf) (hlo : (fE 0).toInt32 = (nI (16777216 * to + 65536 * 17 + 256 * se + th))) (hhi : (fE 0 >>> ((32 : Int32).toInt64 &&& 63)).toInt32 = (nI mi)) (hnf3 : nf < 300) : Met l yX5_first v_c_first_c ({ frames := 5, cells := 0, slots := 0, locals := 112 }) (va_Pc [.ref r, .int (nI ad)] (fun U => U.heap.size = sz ∧ va_P (dC, dI) vwCl [(r, .inr (6, [.int rh, .int rl, .ref st, .ref ck, .ref ck, .int 0, .int 1, .int (nI nf), .int (nI ng), .int 0, .ref rf, .int 0])), (st, .inr (8, [.ref ml, .null])), (ml, .inr (0, [.int (nI mc), .ref ed, .int (nI sz0)])), (ed, .inl (cO, 10, .inr (.inr (.inr (.inr fe))))), (ck, .inr (1, [.ref ce, .null])), (ce, .inl (cJ, 128, .inr (.inl fE))), (mm, .inr (4, [.int (nI mi), .int (nI mt), .int (nI mg), .int (nI ms), .int sd, .null])), (rf, .inr (2, [.int (nI fi), .int ff, .int fo, .ref fw]))] U.heap ∧ va_K (dC, dI) vwCl [(cO, (.object "java/lang/Object")), (cJ, .long)] U ∧ va_D (fun _ => True) [(r, .inr (6, [.int rh, .int rl, .ref st, .ref ck, .ref ck, .int 0, .int 1, .int (nI nf), .int (nI ng), .int 0, .ref rf, .int 0])), (st, .inr (8, [.ref ml, .null])), (ml, .inr (0, [.int (nI mc), .ref ed, .int (nI sz0)])), (ed, .inl (cO, 10, .inr (.inr (.inr (.inr fe))))), (ck, .inr (1, [.ref ce, .null])), (ce, .inl (cJ, 128, .inr (.inl fE))), (mm, .inr (4, [.int (nI mi), .int (nI mt), .int (nI mg), .int (nI ms), .int sd, .null])), (rf, .inr (2, [.int (nI fi), .int ff, .int fo, .ref fw]))] ∧ ev U)) (va_Qq (fun (r : Option Nat) (_ : Unit) => r = some rf) (fun (_ : Unit) (t : State) => va_P (dC, dI) vwCl [(r, .inr (6, [.int rh, .int rl, .ref st, .ref ck, .ref ck, .int 0, .int 1, .int (nI nf), .int (nI ng), .int 0, .ref rf, .int 1])), (st, .inr (8, [.ref ml, .null])), (ml, .inr (0, [.int (nI mc), .ref ed, .int (nI sz0)])), (ed, .inl (cO, 10, .inr (.inr (.inr (.inr fe))))), (ck, .inr (1, [.ref ce, .null])), (ce, .inl (cJ, 128, .inr (.inl fE))), (mm, .inr (4, [.int (nI mi), .int (nI mt), .int (nI mg), .int (nI ms), .int sd, .null])), (rf, .inr (2, [.int (nI (469762048 + 65536 * 236 + 256 * to + ad)), .int (nI (17 + 256 * se + 65536 * th + 4278190080)), .int (nI (255 + 256 * mg)), .ref mm]))] t.heap ∧ va_K (dC, dI) vwCl [(cO, (.object "java/lang/Object")), (cJ, .long)] t ∧ va_D (va_A [(r, .inr (6, [.int rh, .int rl, .ref st, .ref ck, .ref ck, .int 0, .int 1, .int (nI nf), .int (nI ng), .int 0, .ref rf, .int 0])), (st, .inr (8, [.ref ml, .null])), (ml, .inr (0, [.int (nI mc), .ref ed, .int (nI sz0)])), (ed, .inl (cO, 10, .inr (.inr (.inr (.inr fe))))), (ck, .inr (1, [.ref ce, .null])), (ce, .inl (cJ, 128, .inr (.inl fE))), (mm, .inr (4, [.int (nI mi), .int (nI mt), .int (nI mg), .int (nI ms), .int sd, .null])), (rf, .inr (2, [.int (nI fi), .int ff, .int fo, .ref fw]))] sz) [(r, .inr (6, [.int rh, .int rl, .ref st, .ref ck, .ref ck, .int 0, .int 1, .int (nI nf), .int (nI ng), .int 0, .ref rf, .int 1])), (st, .inr (8, [.ref ml, .null])), (ml, .inr (0, [.int (nI mc), .ref ed, .int (nI sz0)])), (ed, .inl (cO, 10, .inr (.inr (.inr (.inr fe))))), (ck, .inr (1, [.ref ce, .null])), (ce, .inl (cJ, 128, .inr (.inl fE))), (mm, .inr (4, [.int (nI mi), .int (nI mt), .int (nI mg), .int (nI ms), .int sd, .null])), (rf, .inr (2, [.int (nI (469762048 + 65536 * 236 + 256 * to + ad)), .int (nI (17 + 256 * se + 65536 * th + 4278190080)), .int (nI (255 + 256 * mg)), .ref mm]))]) (va_A [(r, .inr (6, [.int rh, .int rl, .ref st, .ref ck, .ref ck, .int 0, .int 1, .int (nI nf), .int (nI ng), .int 0, .ref rf, .int 0])), (st, .inr (8, [.ref ml, .null])), (ml, .inr (0, [.int (nI mc), .ref ed, .int (nI sz0)])), (ed, .inl (cO, 10, .inr (.inr (.inr (.inr fe))))), (ck, .inr (1, [.ref ce, .null])), (ce, .inl (cJ, 128, .inr (.inl fE))), (mm, .inr (4, [.int (nI mi), .int (nI mt), .int (nI mg), .int (nI ms), .int sd, .null])), (rf, .inr (2, [.int (nI fi), .int ff, .int fo, .ref fw]))] sz)) 0 0 (va_A [(r, .inr (6, [.int rh, .int rl, .ref st, .ref ck, .ref ck, .int 0, .int 1, .int (nI nf), .int (nI ng), .int 0, .ref rf, .int 0])), (st, .inr (8, [.ref ml, .null])), (ml, .inr (0, [.int (nI mc), .ref ed, .int (nI sz0)])), (ed, .inl (cO, 10, .inr (.inr (.inr (.inr fe))))), (ck, .inr (1, [.ref ce, .null])), (ce, .inl (cJ, 128, .inr (.inl fE))), (mm, .inr (4, [.int (nI mi), .int (nI mt), .int (nI mg), .int (nI ms), .int sd, .null])), (rf, .inr (2, [.int (nI fi), .int ff, .int fo, .ref fw]))] sz) := by
  refine Met.ofW (cc := cX5_first) (maxL := 2) (ret := (some (.object "ClaimBus$Frame"))) (by decide) rfl ?_
  intro p e s m args below meth c s₁ B hml hv
  obtain ⟨rfl, hsz, hP, hK, hD0, hE⟩ := hv
  have hx := B.exec
  have hb := B.bytes
  have hr := B.returns
  have hts := atoms_spec (ws := v_c_first_c) B.pre
  have hown : s.vm.findClass RX5 = some m.cls := findClass_of_methodNamed B.named
  have hlocks := B.notSynchronized
  subst hsz
  have hD := hD0.self (sz := s.heap.size)
  generalize hAe : va_A [(r, .inr (6, [.int rh, .int rl, .ref st, .ref ck, .ref ck, .int 0, .int 1, .int (nI nf), .int (nI ng), .int 0, .ref rf, .int 0])), (st, .inr (8, [.ref ml, .null])), (ml, .inr (0, [.int (nI mc), .ref ed, .int (nI sz0)])), (ed, .inl (cO, 10, .inr (.inr (.inr (.inr fe))))), (ck, .inr (1, [.ref ce, .null])), (ce, .inl (cJ, 128, .inr (.inl fE))), (mm, .inr (4, [.int (nI mi), .int (nI mt), .int (nI mg), .int (nI ms), .int sd, .null])), (rf, .inr (2, [.int (nI fi), .int ff, .int fo, .ref fw]))] s.heap.size = A at hD ⊢
  have hA : ∀ q : Nat, s.heap.size ≤ q → A q := fun q h => by rw [← hAe]; exact Or.inr h
  have hS : va_S A s.heap s.heap [] := va_S.rf
  replace hP : va_P (dC, dI) vwCl [(r, .inr (6, [.int rh, .int rl, .ref st, .ref ck, .ref ck, .int 0, .int 1, .int (nI nf), .int (nI ng), .int 0, .ref rf, .int 0])), (st, .inr (8, [.ref ml, .null])), (ml, .inr (0, [.int (nI mc), .ref ed, .int (nI sz0)])), (ed, .inl (cO, 10, .inr (.inr (.inr (.inr fe))))), (ck, .inr (1, [.ref ce, .null])), (ce, .inl (cJ, 128, .inr (.inl fE))), (mm, .inr (4, [.int (nI mi), .int (nI mt), .int (nI mg), .int (nI ms), .int sd, .null])), (rf, .inr (2, [.int (nI fi), .int ff, .int fo, .ref fw]))] s.heap := hP
  have hl := lv_entry ([.ref r, .int (nI ad)]) (n := 2) (Nat.le_of_ble_eq_true rfl)
  rw [lg_entry_eq]
  generalize (lg_sl ([.ref r, .int (nI ad)]) ++ List.replicate (2 - (lg_sl ([.ref r, .int (nI ad)])).length) Slot.unset).toArray = ls at hl ⊢
  replace hl : lv_has ls 2 [(0, .ref r), (1, .int (nI ad))] := hl
  obtain ⟨H, hH⟩ : ∃ z : Heap, z = s.heap := ⟨_, rfl⟩
  rw [← hH]
  replace hS : va_S A s.heap H [] := by rw [hH]; exact va_S.rf
  replace hP : va_P (dC, dI) vwCl [(r, .inr (6, [.int rh, .int rl, .ref st, .ref ck, .ref ck, .int 0, .int 1, .int (nI nf), .int (nI ng), .int 0, .ref rf, .int 0])), (st, .inr (8, [.ref ml, .null])), (ml, .inr (0, [.int (nI mc), .ref ed, .int (nI sz0)])), (ed, .inl (cO, 10, .inr (.inr (.inr (.inr fe))))), (ck, .inr (1, [.ref ce, .null])), (ce, .inl (cJ, 128, .inr (.inl fE))), (mm, .inr (4, [.int (nI mi), .int (nI mt), .int (nI mg), .int (nI ms), .int sd, .null])), (rf, .inr (2, [.int (nI fi), .int ff, .int fo, .ref fw]))] H := by rw [hH]; exact hP
  clear hH
  refine lv_aload_n hx hb dX5_first_0 rfl (lv_at hl 0 rfl) ?_
  have hPc := hP.sub (ws' := [(r, .inr (6, [.int rh, .int rl, .ref st, .ref ck, .ref ck, .int 0, .int 1, .int (nI nf), .int (nI ng), .int 0, .ref rf, .int 0]))]) [0] rfl
  have hDc := hD.sub (ws' := [(r, .inr (6, [.int rh, .int rl, .ref st, .ref ck, .ref ck, .int 0, .int 1, .int (nI nf), .int (nI ng), .int 0, .ref rf, .int 0]))]) [0] (by decide +kernel) rfl
  have hKc := hK.sub (tys' := []) [] rfl
  have hFc := ro_free hS hA
  refine va_calli (va_runV (As := []) (rest := []) ⟨hx, hb, hml, hown, hts⟩ (c_len_f l dC dI (r) (rh) (rl) (st) (rf) (nf) (ng) (ck) H.size) (cwV 0 hts g_c_first_c_c_len_f_82 rfl rfl rfl (by decide +kernel) ⟨Nat.le_of_ble_eq_true rfl, Nat.le_of_ble_eq_true rfl⟩) ⟨fun a U g mk q => by obtain ⟨q0, q1, qP, qK, qD, qE⟩ := q; exact ⟨q0, q1, qP, va_K.moved (u := U) (U := U.calling g mk a) (Vm.Alike.refl U.vm) qK, qD, ev.same (u := U) (U := U.calling g mk a) rfl qE⟩, va_recv hKc hPc (ci := 6) (q0 := 0) rfl rfl, fun U hU hW => ⟨rfl, by rw [hU], by rw [hU]; exact hPc, va_K.moved hW.alike hKc, hDc.weaken (fun _ _ _ _ => trivial), hE.warm hW⟩⟩ rfl rfl hl.1 rfl (lv_room (Nat.le_of_ble_eq_true rfl)) dX5_first_1 ⟨Nat.le_of_ble_eq_true rfl, Nat.le_of_ble_eq_true rfl⟩) hS (fun q _ h => hFc q h) hFc (fun r_1 u t H1 locs ht hvm hw hB hz1 hk1 hS => ?_)
  clear hPc hDc hKc
  replace hP := ro_keep hP hk1
  generalize H1 = H at hP hS ⊢
  replace hP : va_P (dC, dI) vwCl [(r, .inr (6, [.int rh, .int rl, .ref st, .ref ck, .ref ck, .int 0, .int 1, .int (nI nf), .int (nI ng), .int 0, .ref rf, .int 0])), (st, .inr (8, [.ref ml, .null])), (ml, .inr (0, [.int (nI mc), .ref ed, .int (nI sz0)])), (ed, .inl (cO, 10, .inr (.inr (.inr (.inr fe))))), (ck, .inr (1, [.ref ce, .null])), (ce, .inl (cJ, 128, .inr (.inl fE))), (mm, .inr (4, [.int (nI mi), .int (nI mt), .int (nI mg), .int (nI ms), .int sd, .null])), (rf, .inr (2, [.int (nI fi), .int ff, .int fo, .ref fw]))] H := hP
  have hw := hw.symm
  subst hw
  refine lv_if_ne (tgt := 9) hx hb dX5_first_4 (by decide) (fun c_2 => ?_) (fun c_2 => ?_)
  rotate_left
  · exact absurd ((nI_eq (a := nf) (b := 0) (by omega) (by omega)).mp c_2) (by omega)
  refine lv_aload_n hx hb dX5_first_9 rfl (lv_at hl 0 rfl) ?_
  refine va_get (D := (dC, dI)) (ci := 6) (v := .int 0) (C := RX5) (T := TX5) (N := 12) hx hb hts in_c_first_c_X5 hown hK hP 0 rfl rfl 11 (by decide) (hts (.fieldLink RX5 42 "ClaimBus$Row" "firstIsWritten" "Z") (List.mem_of_getElem? (i := 5) rfl)) (fun _ h9 => h9) rfl dX5_first_10 ?_
  refine lv_if_ne (tgt := 26) hx hb dX5_first_13 (by decide) (fun c_3 => ?_) (fun c_3 => ?_)
  · exact absurd c_3 (by decide)
  refine lv_aload_n hx hb dX5_first_16 rfl (lv_at hl 0 rfl) ?_
  refine lv_iload_n hx hb dX5_first_17 rfl (lv_at hl 1 rfl) ?_
  have hPc := hP.sub (ws' := [(r, .inr (6, [.int rh, .int rl, .ref st, .ref ck, .ref ck, .int 0, .int 1, .int (nI nf), .int (nI ng), .int 0, .ref rf, .int 0])), (st, .inr (8, [.ref ml, .null])), (ml, .inr (0, [.int (nI mc), .ref ed, .int (nI sz0)])), (ed, .inl (cO, 10, .inr (.inr (.inr (.inr fe))))), (ck, .inr (1, [.ref ce, .null])), (ce, .inl (cJ, 128, .inr (.inl fE))), (mm, .inr (4, [.int (nI mi), .int (nI mt), .int (nI mg), .int (nI ms), .int sd, .null])), (rf, .inr (2, [.int (nI fi), .int ff, .int fo, .ref fw]))]) [0, 1, 2, 3, 4, 5, 6, 7] rfl
  have hDc := hD.sub (ws' := [(r, .inr (6, [.int rh, .int rl, .ref st, .ref ck, .ref ck, .int 0, .int 1, .int (nI nf), .int (nI ng), .int 0, .ref rf, .int 0])), (st, .inr (8, [.ref ml, .null])), (ml, .inr (0, [.int (nI mc), .ref ed, .int (nI sz0)])), (ed, .inl (cO, 10, .inr (.inr (.inr (.inr fe))))), (ck, .inr (1, [.ref ce, .null])), (ce, .inl (cJ, 128, .inr (.inl fE))), (mm, .inr (4, [.int (nI mi), .int (nI mt), .int (nI mg), .int (nI ms), .int sd, .null])), (rf, .inr (2, [.int (nI fi), .int ff, .int fo, .ref fw]))]) [0, 1, 2, 3, 4, 5, 6, 7] (by decide +kernel) rfl
  have hKc := hK.sub (tys' := [(cO, (.object "java/lang/Object")), (cJ, .long)]) [0, 1] rfl
  have hFc := va_free (wc := [(r, .inr (6, [.int rh, .int rl, .ref st, .ref ck, .ref ck, .int 0, .int 1, .int (nI nf), .int (nI ng), .int 0, .ref rf, .int 0])), (st, .inr (8, [.ref ml, .null])), (ml, .inr (0, [.int (nI mc), .ref ed, .int (nI sz0)])), (ed, .inl (cO, 10, .inr (.inr (.inr (.inr fe))))), (ck, .inr (1, [.ref ce, .null])), (ce, .inl (cJ, 128, .inr (.inl fE))), (mm, .inr (4, [.int (nI mi), .int (nI mt), .int (nI mg), .int (nI ms), .int sd, .null])), (rf, .inr (2, [.int (nI fi), .int ff, .int fo, .ref fw]))]) hD hS hA [0, 1, 2, 3, 4, 5, 6, 7] rfl
  refine va_callv (va_runV (As := [.int (nI ad)]) (rest := []) ⟨hx, hb, hml, hown, hts⟩ (c_writeFirst_c l dC dI (r) (rh) (rl) (st) (rf) (nf) (ng) (ck) (ce) (cJ) (fE) (ml) (mc) (ed) (sz0) (cO) (fe) (mm) (mi) (mt) (mg) (ms) (sd) (fi) (ff) (fo) (fw) (to) (se) (th) (ad) H.size hmi hmt hmg hms h_to h_se h_th h_ad hel hsz hsz2 hnf hlo hhi) (cwV 1 hts g_c_first_c_c_writeFirst_c_86 rfl rfl rfl (by decide +kernel) ⟨Nat.le_of_ble_eq_true rfl, Nat.le_of_ble_eq_true rfl⟩) ⟨fun a U g mk q => by obtain ⟨q0, q1, qP, qK, qD, qE⟩ := q; exact ⟨q0, q1, qP, va_K.moved (u := U) (U := U.calling g mk a) (Vm.Alike.refl U.vm) qK, qD, ev.same (u := U) (U := U.calling g mk a) rfl qE⟩, va_recv hKc hPc (ci := 6) (q0 := 0) rfl rfl, fun U hU hW => ⟨rfl, by rw [hU], by rw [hU]; exact hPc, va_K.moved hW.alike hKc, hDc.weaken (fun _ _ _ _ => trivial), hE.warm hW⟩⟩ rfl rfl hl.1 rfl (lv_room (Nat.le_of_ble_eq_true rfl)) dX5_first_18 ⟨Nat.le_of_ble_eq_true rfl, Nat.le_of_ble_eq_true rfl⟩) hS (fun q _ h => hFc q h) hFc (fun u t H1 locs ht hvm hw hB hz1 hk1 hS => ?_)
  clear hPc hDc hKc
  obtain ⟨hP1, hK1, hD1⟩ := hB
  rw [ht] at hP1
  have hK1 := va_K.moved hvm.symm hK1
  obtain ⟨hP, hD⟩ := va_join (wr := []) (w1 := [(r, .inr (6, [.int rh, .int rl, .ref st, .ref ck, .ref ck, .int 0, .int 1, .int (nI nf), .int (nI ng), .int 0, .ref rf, .int 0])), (st, .inr (8, [.ref ml, .null])), (ml, .inr (0, [.int (nI mc), .ref ed, .int (nI sz0)])), (ed, .inl (cO, 10, .inr (.inr (.inr (.inr fe))))), (ck, .inr (1, [.ref ce, .null])), (ce, .inl (cJ, 128, .inr (.inl fE))), (mm, .inr (4, [.int (nI mi), .int (nI mt), .int (nI mg), .int (nI ms), .int sd, .null])), (rf, .inr (2, [.int (nI (469762048 + 65536 * 236 + 256 * to + ad)), .int (nI (17 + 256 * se + 65536 * th + 4278190080)), .int (nI (255 + 256 * mg)), .ref mm]))]) hP hD [0, 1, 2, 3, 4, 5, 6, 7] [] rfl rfl (by decide +kernel) (by decide +kernel) hk1 hFc hP1 hD1
  generalize H1 = H at hP hS ⊢
  replace hP : va_P (dC, dI) vwCl [(r, .inr (6, [.int rh, .int rl, .ref st, .ref ck, .ref ck, .int 0, .int 1, .int (nI nf), .int (nI ng), .int 0, .ref rf, .int 0])), (st, .inr (8, [.ref ml, .null])), (ml, .inr (0, [.int (nI mc), .ref ed, .int (nI sz0)])), (ed, .inl (cO, 10, .inr (.inr (.inr (.inr fe))))), (ck, .inr (1, [.ref ce, .null])), (ce, .inl (cJ, 128, .inr (.inl fE))), (mm, .inr (4, [.int (nI mi), .int (nI mt), .int (nI mg), .int (nI ms), .int sd, .null])), (rf, .inr (2, [.int (nI (469762048 + 65536 * 236 + 256 * to + ad)), .int (nI (17 + 256 * se + 65536 * th + 4278190080)), .int (nI (255 + 256 * mg)), .ref mm]))] H := hP
  replace hD : va_D A [(r, .inr (6, [.int rh, .int rl, .ref st, .ref ck, .ref ck, .int 0, .int 1, .int (nI nf), .int (nI ng), .int 0, .ref rf, .int 0])), (st, .inr (8, [.ref ml, .null])), (ml, .inr (0, [.int (nI mc), .ref ed, .int (nI sz0)])), (ed, .inl (cO, 10, .inr (.inr (.inr (.inr fe))))), (ck, .inr (1, [.ref ce, .null])), (ce, .inl (cJ, 128, .inr (.inl fE))), (mm, .inr (4, [.int (nI mi), .int (nI mt), .int (nI mg), .int (nI ms), .int sd, .null])), (rf, .inr (2, [.int (nI (469762048 + 65536 * 236 + 256 * to + ad)), .int (nI (17 + 256 * se + 65536 * th + 4278190080)), .int (nI (255 + 256 * mg)), .ref mm]))] := hD
  clear hw
  refine lv_aload_n hx hb dX5_first_21 rfl (lv_at hl 0 rfl) ?_
  refine lv_iconst (v := 1) hx hb dX5_first_22 (by decide) ?_
  refine va_put (D := (dC, dI)) (ci := 6) (v := .int 1) (ty := .boolean) (C := RX5) (T := TX5) (N := 12) hx hb hts in_c_first_c_X5 tyX5 tyX5_ok nmX5 hown hK hP hD hS 0 rfl rfl 11 (by decide) (hts (.fieldLink RX5 42 "ClaimBus$Row" "firstIsWritten" "Z") (List.mem_of_getElem? (i := 5) rfl)) (fun _ h9 => h9) rfl (by decide +kernel) rfl rfl (Nat.le_of_ble_eq_true rfl) dX5_first_23 (fun H locs hP hD hS => ?_)
  replace hP : va_P (dC, dI) vwCl [(r, .inr (6, [.int rh, .int rl, .ref st, .ref ck, .ref ck, .int 0, .int 1, .int (nI nf), .int (nI ng), .int 0, .ref rf, .int 1])), (st, .inr (8, [.ref ml, .null])), (ml, .inr (0, [.int (nI mc), .ref ed, .int (nI sz0)])), (ed, .inl (cO, 10, .inr (.inr (.inr (.inr fe))))), (ck, .inr (1, [.ref ce, .null])), (ce, .inl (cJ, 128, .inr (.inl fE))), (mm, .inr (4, [.int (nI mi), .int (nI mt), .int (nI mg), .int (nI ms), .int sd, .null])), (rf, .inr (2, [.int (nI (469762048 + 65536 * 236 + 256 * to + ad)), .int (nI (17 + 256 * se + 65536 * th + 4278190080)), .int (nI (255 + 256 * mg)), .ref mm]))] H := hP
  replace hD : va_D A [(r, .inr (6, [.int rh, .int rl, .ref st, .ref ck, .ref ck, .int 0, .int 1, .int (nI nf), .int (nI ng), .int 0, .ref rf, .int 1])), (st, .inr (8, [.ref ml, .null])), (ml, .inr (0, [.int (nI mc), .ref ed, .int (nI sz0)])), (ed, .inl (cO, 10, .inr (.inr (.inr (.inr fe))))), (ck, .inr (1, [.ref ce, .null])), (ce, .inl (cJ, 128, .inr (.inl fE))), (mm, .inr (4, [.int (nI mi), .int (nI mt), .int (nI mg), .int (nI ms), .int sd, .null])), (rf, .inr (2, [.int (nI (469762048 + 65536 * 236 + 256 * to + ad)), .int (nI (17 + 256 * se + 65536 * th + 4278190080)), .int (nI (255 + 256 * mg)), .ref mm]))] := hD
  refine lv_aload_n hx hb dX5_first_26 rfl (lv_at hl 0 rfl) ?_
  refine va_get (D := (dC, dI)) (ci := 6) (v := .ref rf) (C := RX5) (T := TX5) (N := 12) hx hb hts in_c_first_c_X5 hown hK hP 0 rfl rfl 10 (by decide) (hts (.fieldLink RX5 38 "ClaimBus$Row" "first" "LClaimBus$Frame;") (List.mem_of_getElem? (i := 9) rfl)) (fun _ h9 => h9) rfl dX5_first_27 ?_
  have hP9 := hP.sub (ws' := [(r, .inr (6, [.int rh, .int rl, .ref st, .ref ck, .ref ck, .int 0, .int 1, .int (nI nf), .int (nI ng), .int 0, .ref rf, .int 1])), (st, .inr (8, [.ref ml, .null])), (ml, .inr (0, [.int (nI mc), .ref ed, .int (nI sz0)])), (ed, .inl (cO, 10, .inr (.inr (.inr (.inr fe))))), (ck, .inr (1, [.ref ce, .null])), (ce, .inl (cJ, 128, .inr (.inl fE))), (mm, .inr (4, [.int (nI mi), .int (nI mt), .int (nI mg), .int (nI ms), .int sd, .null])), (rf, .inr (2, [.int (nI (469762048 + 65536 * 236 + 256 * to + ad)), .int (nI (17 + 256 * se + 65536 * th + 4278190080)), .int (nI (255 + 256 * mg)), .ref mm]))]) [0, 1, 2, 3, 4, 5, 6, 7] rfl
  have hD9 := hD.sub (ws' := [(r, .inr (6, [.int rh, .int rl, .ref st, .ref ck, .ref ck, .int 0, .int 1, .int (nI nf), .int (nI ng), .int 0, .ref rf, .int 1])), (st, .inr (8, [.ref ml, .null])), (ml, .inr (0, [.int (nI mc), .ref ed, .int (nI sz0)])), (ed, .inl (cO, 10, .inr (.inr (.inr (.inr fe))))), (ck, .inr (1, [.ref ce, .null])), (ce, .inl (cJ, 128, .inr (.inl fE))), (mm, .inr (4, [.int (nI mi), .int (nI mt), .int (nI mg), .int (nI ms), .int sd, .null])), (rf, .inr (2, [.int (nI (469762048 + 65536 * 236 + 256 * to + ad)), .int (nI (17 + 256 * se + 65536 * th + 4278190080)), .int (nI (255 + 256 * mg)), .ref mm]))]) [0, 1, 2, 3, 4, 5, 6, 7] (by decide +kernel) rfl
  have hK9 := hK.sub (tys' := [(cO, (.object "java/lang/Object")), (cJ, .long)]) [0, 1] rfl
  exact W.aret (v := .ref rf) hx hb hr (Or.inl ⟨_, rfl⟩) (Or.inr ⟨_, rfl⟩) (fun t ht hW => ⟨⟨some rf, (), rfl, rfl, ⟨by rw [ht]; exact hP9, va_K.moved hW.alike hK9, hD9⟩⟩, hS.F ht⟩) hS.2.2 dX5_first_30

noncomputable def tl_c_writeFirst_p : List Cond := wsX50 ++ (v_c_firstEntry ++ (v_c_messageAt_null ++ (v_c_X3_writePacket)))
noncomputable def v_c_writeFirst_p : List Cond := .code yX5_writeFirst cX5_writeFirst 8 none :: ([.fieldLink RX5 31 "ClaimBus$Row" "claimWaits" "Z", .initialized RX5, .methodLink RX5 95 yX5_firstEntry, .instanceMethod yX5_firstEntry, .selects RX5 yX5_firstEntry yX5_firstEntry, .fieldLink RX5 51 "ClaimBus$Row" "store" "LClaimBus$Store;", .initialized RX7, .methodLink RX5 99 yX7_messageAt, .instanceMethod yX7_messageAt, .selects RX7 yX7_messageAt yX7_messageAt, .fieldLink RX5 38 "ClaimBus$Row" "first" "LClaimBus$Frame;", .fieldLink RX5 28 "ClaimBus$Row" "gone" "I", .initialized RX3, .methodLink RX5 115 yX3_writePacket, .instanceMethod yX3_writePacket, .selects RX3 yX3_writePacket yX3_writePacket] ++ tl_c_writeFirst_p)
theorem it_c_writeFirst_p : ∀ w ∈ tl_c_writeFirst_p, w ∈ v_c_writeFirst_p := fun w h => List.mem_cons_of_mem _ (List.mem_append_right _ h)
theorem in_c_writeFirst_p_X5 : ∀ w ∈ wsX50, w ∈ v_c_writeFirst_p := fun w h => it_c_writeFirst_p w (List.mem_append_left _ h)
theorem ic_c_writeFirst_p_c_firstEntry : ∀ w ∈ v_c_firstEntry, w ∈ v_c_writeFirst_p := fun w h => it_c_writeFirst_p w (List.mem_append_right _ (List.mem_append_left _ h))
theorem ic_c_writeFirst_p_c_messageAt_null : ∀ w ∈ v_c_messageAt_null, w ∈ v_c_writeFirst_p := fun w h => it_c_writeFirst_p w (List.mem_append_right _ (List.mem_append_right _ (List.mem_append_left _ h)))
theorem ic_c_writeFirst_p_c_X3_writePacket : ∀ w ∈ v_c_X3_writePacket, w ∈ v_c_writeFirst_p := fun w h => it_c_writeFirst_p w (List.mem_append_right _ (List.mem_append_right _ (List.mem_append_right _ (h))))
theorem gt_c_writeFirst_p : ∀ w ∈ tl_c_writeFirst_p, goodWord w = true := List.forall_mem_append.mpr ⟨gw_wsX50, List.forall_mem_append.mpr ⟨gw_c_firstEntry, List.forall_mem_append.mpr ⟨gw_c_messageAt_null, gw_c_X3_writePacket⟩⟩⟩
theorem gw_c_writeFirst_p : ∀ w ∈ v_c_writeFirst_p, goodWord w = true := List.forall_mem_cons.mpr ⟨by decide +kernel, List.forall_mem_append.mpr ⟨List.all_eq_true.mp (by decide +kernel), gt_c_writeFirst_p⟩⟩
theorem g_c_writeFirst_p_c_firstEntry_95 : GoodIn v_c_writeFirst_p (wsV RX5 95 RX5 yX5_firstEntry v_c_firstEntry) := goodIn_app (goodIn_r [.methodLink RX5 95 yX5_firstEntry, .instanceMethod yX5_firstEntry, .selects RX5 yX5_firstEntry yX5_firstEntry, .initialized RX5] [3, 4, 5, 2] (by decide +kernel) (by decide +kernel)) (fun w h => ⟨ic_c_writeFirst_p_c_firstEntry w h, good_of_word (gw_c_firstEntry w h)⟩)
theorem g_c_writeFirst_p_c_messageAt_null_99 : GoodIn v_c_writeFirst_p (wsV RX5 99 RX7 yX7_messageAt v_c_messageAt_null) := goodIn_app (goodIn_r [.methodLink RX5 99 yX7_messageAt, .instanceMethod yX7_messageAt, .selects RX7 yX7_messageAt yX7_messageAt, .initialized RX7] [8, 9, 10, 7] (by decide +kernel) (by decide +kernel)) (fun w h => ⟨ic_c_writeFirst_p_c_messageAt_null w h, good_of_word (gw_c_messageAt_null w h)⟩)
theorem g_c_writeFirst_p_c_X3_writePacket_115 : GoodIn v_c_writeFirst_p (wsV RX5 115 RX3 yX3_writePacket v_c_X3_writePacket) := goodIn_app (goodIn_r [.methodLink RX5 115 yX3_writePacket, .instanceMethod yX3_writePacket, .selects RX3 yX3_writePacket yX3_writePacket, .initialized RX3] [14, 15, 16, 13] (by decide +kernel) (by decide +kernel)) (fun w h => ⟨ic_c_writeFirst_p_c_X3_writePacket w h, good_of_word (gw_c_X3_writePacket w h)⟩)
set_option maxHeartbeats 4000000 in
set_option maxRecDepth 100000 in
theorem c_writeFirst_p (l : Launch) (dC : Nat → ClassId) (dI : Nat → Nat → Nat) (r : Nat) (rh : Int32) (rl : Int32) (st : Nat) (rf : Nat) (nf : Nat) (ng : Nat) (ck : Nat) (ce : Nat) (cJ : ClassId) (fE : Nat → Int64) (ml : Nat) (mc : Nat) (ed : Nat) (sz0 : Nat) (cO : ClassId) (fe : Nat → Option Nat) (mm : Nat) (mi : Nat) (mt : Nat) (mg : Nat) (ms : Nat) (sd : Int32) (fi : Nat) (ff : Int32) (fo : Int32) (fw : Nat) (to : Nat) (se : Nat) (th : Nat) (ad : Nat) (sz : Nat) (hmi : mi < 8) (hmt : mt < 256) (hmg : mg < 262144) (hms : ms < 1786) (h_to : to < 256) (h_se : se < 256) (h_th : th < 256) (h_ad : ad < 256) (hel : fe mi = some mm) (hsz : mi < sz0) (hsz2 : sz0 ≤ 10) (hnf : 1 ≤ nf) (hlo : (fE 0).toInt32 = (nI (16777216 * to + 65536 * 235 + 256 * se + th))) (hhi : (fE 0 >>> ((32 : Int32).toInt64 &&& 63)).toInt32 = (nI mi)) (hth : 1 ≤ th + ng ∧ th + ng < 256) : Met l yX5_writeFirst v_c_writeFirst_p ({ frames := 4, cells := 0, slots := 0, locals := 85 }) (va_Pc [.ref r, .int (nI ad)] (fun U => U.heap.size = sz ∧ va_P (dC, dI) vwCl [(r, .inr (6, [.int rh, .int rl, .ref st, .ref ck, .ref ck, .int 0, .int 1, .int (nI nf), .int (nI ng), .int 0, .ref rf, .int 0])), (st, .inr (8, [.ref ml, .null])), (ml, .inr (0, [.int (nI mc), .ref ed, .int (nI sz0)])), (ed, .inl (cO, 10, .inr (.inr (.inr (.inr fe))))), (ck, .inr (1, [.ref ce, .null])), (ce, .inl (cJ, 128, .inr (.inl fE))), (mm, .inr (4, [.int (nI mi), .int (nI mt), .int (nI mg), .int (nI ms), .int sd, .null])), (rf, .inr (2, [.int (nI fi), .int ff, .int fo, .ref fw]))] U.heap ∧ va_K (dC, dI) vwCl [(cO, (.object "java/lang/Object")), (cJ, .long)] U ∧ va_D (fun _ => True) [(r, .inr (6, [.int rh, .int rl, .ref st, .ref ck, .ref ck, .int 0, .int 1, .int (nI nf), .int (nI ng), .int 0, .ref rf, .int 0])), (st, .inr (8, [.ref ml, .null])), (ml, .inr (0, [.int (nI mc), .ref ed, .int (nI sz0)])), (ed, .inl (cO, 10, .inr (.inr (.inr (.inr fe))))), (ck, .inr (1, [.ref ce, .null])), (ce, .inl (cJ, 128, .inr (.inl fE))), (mm, .inr (4, [.int (nI mi), .int (nI mt), .int (nI mg), .int (nI ms), .int sd, .null])), (rf, .inr (2, [.int (nI fi), .int ff, .int fo, .ref fw]))] ∧ ev U)) (va_Qv (fun _ : Unit => True) (fun (_ : Unit) (t : State) => ∃ (zf : Int32) (zo : Int32), va_P (dC, dI) vwCl [(r, .inr (6, [.int rh, .int rl, .ref st, .ref ck, .ref ck, .int 0, .int 1, .int (nI nf), .int (nI ng), .int 0, .ref rf, .int 0])), (st, .inr (8, [.ref ml, .null])), (ml, .inr (0, [.int (nI mc), .ref ed, .int (nI sz0)])), (ed, .inl (cO, 10, .inr (.inr (.inr (.inr fe))))), (ck, .inr (1, [.ref ce, .null])), (ce, .inl (cJ, 128, .inr (.inl fE))), (mm, .inr (4, [.int (nI mi), .int (nI mt), .int (nI mg), .int (nI ms), .int sd, .null])), (rf, .inr (2, [.int (nI (469762048 + 65536 * 235 + 256 * mt + ad)), .int zf, .int zo, .ref mm]))] t.heap ∧ va_K (dC, dI) vwCl [(cO, (.object "java/lang/Object")), (cJ, .long)] t ∧ va_D (va_A [(r, .inr (6, [.int rh, .int rl, .ref st, .ref ck, .ref ck, .int 0, .int 1, .int (nI nf), .int (nI ng), .int 0, .ref rf, .int 0])), (st, .inr (8, [.ref ml, .null])), (ml, .inr (0, [.int (nI mc), .ref ed, .int (nI sz0)])), (ed, .inl (cO, 10, .inr (.inr (.inr (.inr fe))))), (ck, .inr (1, [.ref ce, .null])), (ce, .inl (cJ, 128, .inr (.inl fE))), (mm, .inr (4, [.int (nI mi), .int (nI mt), .int (nI mg), .int (nI ms), .int sd, .null])), (rf, .inr (2, [.int (nI fi), .int ff, .int fo, .ref fw]))] sz) [(r, .inr (6, [.int rh, .int rl, .ref st, .ref ck, .ref ck, .int 0, .int 1, .int (nI nf), .int (nI ng), .int 0, .ref rf, .int 0])), (st, .inr (8, [.ref ml, .null])), (ml, .inr (0, [.int (nI mc), .ref ed, .int (nI sz0)])), (ed, .inl (cO, 10, .inr (.inr (.inr (.inr fe))))), (ck, .inr (1, [.ref ce, .null])), (ce, .inl (cJ, 128, .inr (.inl fE))), (mm, .inr (4, [.int (nI mi), .int (nI mt), .int (nI mg), .int (nI ms), .int sd, .null])), (rf, .inr (2, [.int (nI (469762048 + 65536 * 235 + 256 * mt + ad)), .int zf, .int zo, .ref mm]))] ∧ (fb zf zo 0 = (nI (th + ng))) ∧ (∀ i, i < 7 → fb zf zo (i + 1) = bx sd ms (7 * ((th + ng) - 1) + i))) (va_A [(r, .inr (6, [.int rh, .int rl, .ref st, .ref ck, .ref ck, .int 0, .int 1, .int (nI nf), .int (nI ng), .int 0, .ref rf, .int 0])), (st, .inr (8, [.ref ml, .null])), (ml, .inr (0, [.int (nI mc), .ref ed, .int (nI sz0)])), (ed, .inl (cO, 10, .inr (.inr (.inr (.inr fe))))), (ck, .inr (1, [.ref ce, .null])), (ce, .inl (cJ, 128, .inr (.inl fE))), (mm, .inr (4, [.int (nI mi), .int (nI mt), .int (nI mg), .int (nI ms), .int sd, .null])), (rf, .inr (2, [.int (nI fi), .int ff, .int fo, .ref fw]))] sz)) 0 0 (va_A [(r, .inr (6, [.int rh, .int rl, .ref st, .ref ck, .ref ck, .int 0, .int 1, .int (nI nf), .int (nI ng), .int 0, .ref rf, .int 0])), (st, .inr (8, [.ref ml, .null])), (ml, .inr (0, [.int (nI mc), .ref ed, .int (nI sz0)])), (ed, .inl (cO, 10, .inr (.inr (.inr (.inr fe))))), (ck, .inr (1, [.ref ce, .null])), (ce, .inl (cJ, 128, .inr (.inl fE))), (mm, .inr (4, [.int (nI mi), .int (nI mt), .int (nI mg), .int (nI ms), .int sd, .null])), (rf, .inr (2, [.int (nI fi), .int ff, .int fo, .ref fw]))] sz) := by
  refine Met.ofW (cc := cX5_writeFirst) (maxL := 8) (ret := none) (by decide) rfl ?_
  intro p e s m args below meth c s₁ B hml hv
  obtain ⟨rfl, hsz, hP, hK, hD0, hE⟩ := hv
  have hx := B.exec
  have hb := B.bytes
  have hr := B.returns
  have hts := atoms_spec (ws := v_c_writeFirst_p) B.pre
  have hown : s.vm.findClass RX5 = some m.cls := findClass_of_methodNamed B.named
  have hlocks := B.notSynchronized
  subst hsz
  have hD := hD0.self (sz := s.heap.size)
  generalize hAe : va_A [(r, .inr (6, [.int rh, .int rl, .ref st, .ref ck, .ref ck, .int 0, .int 1, .int (nI nf), .int (nI ng), .int 0, .ref rf, .int 0])), (st, .inr (8, [.ref ml, .null])), (ml, .inr (0, [.int (nI mc), .ref ed, .int (nI sz0)])), (ed, .inl (cO, 10, .inr (.inr (.inr (.inr fe))))), (ck, .inr (1, [.ref ce, .null])), (ce, .inl (cJ, 128, .inr (.inl fE))), (mm, .inr (4, [.int (nI mi), .int (nI mt), .int (nI mg), .int (nI ms), .int sd, .null])), (rf, .inr (2, [.int (nI fi), .int ff, .int fo, .ref fw]))] s.heap.size = A at hD ⊢
  have hA : ∀ q : Nat, s.heap.size ≤ q → A q := fun q h => by rw [← hAe]; exact Or.inr h
  have hS : va_S A s.heap s.heap [] := va_S.rf
  replace hP : va_P (dC, dI) vwCl [(r, .inr (6, [.int rh, .int rl, .ref st, .ref ck, .ref ck, .int 0, .int 1, .int (nI nf), .int (nI ng), .int 0, .ref rf, .int 0])), (st, .inr (8, [.ref ml, .null])), (ml, .inr (0, [.int (nI mc), .ref ed, .int (nI sz0)])), (ed, .inl (cO, 10, .inr (.inr (.inr (.inr fe))))), (ck, .inr (1, [.ref ce, .null])), (ce, .inl (cJ, 128, .inr (.inl fE))), (mm, .inr (4, [.int (nI mi), .int (nI mt), .int (nI mg), .int (nI ms), .int sd, .null])), (rf, .inr (2, [.int (nI fi), .int ff, .int fo, .ref fw]))] s.heap := hP
  have hl := lv_entry ([.ref r, .int (nI ad)]) (n := 8) (Nat.le_of_ble_eq_true rfl)
  rw [lg_entry_eq]
  generalize (lg_sl ([.ref r, .int (nI ad)]) ++ List.replicate (8 - (lg_sl ([.ref r, .int (nI ad)])).length) Slot.unset).toArray = ls at hl ⊢
  replace hl : lv_has ls 8 [(0, .ref r), (1, .int (nI ad))] := hl
  obtain ⟨H, hH⟩ : ∃ z : Heap, z = s.heap := ⟨_, rfl⟩
  rw [← hH]
  replace hS : va_S A s.heap H [] := by rw [hH]; exact va_S.rf
  replace hP : va_P (dC, dI) vwCl [(r, .inr (6, [.int rh, .int rl, .ref st, .ref ck, .ref ck, .int 0, .int 1, .int (nI nf), .int (nI ng), .int 0, .ref rf, .int 0])), (st, .inr (8, [.ref ml, .null])), (ml, .inr (0, [.int (nI mc), .ref ed, .int (nI sz0)])), (ed, .inl (cO, 10, .inr (.inr (.inr (.inr fe))))), (ck, .inr (1, [.ref ce, .null])), (ce, .inl (cJ, 128, .inr (.inl fE))), (mm, .inr (4, [.int (nI mi), .int (nI mt), .int (nI mg), .int (nI ms), .int sd, .null])), (rf, .inr (2, [.int (nI fi), .int ff, .int fo, .ref fw]))] H := by rw [hH]; exact hP
  clear hH
  refine lv_aload_n hx hb dX5_writeFirst_0 rfl (lv_at hl 0 rfl) ?_
  refine va_get (D := (dC, dI)) (ci := 6) (v := .int 0) (C := RX5) (T := TX5) (N := 12) hx hb hts in_c_writeFirst_p_X5 hown hK hP 0 rfl rfl 9 (by decide) (hts (.fieldLink RX5 31 "ClaimBus$Row" "claimWaits" "Z") (List.mem_of_getElem? (i := 1) rfl)) (fun _ h9 => h9) rfl dX5_writeFirst_1 ?_
  refine lv_if_eq (tgt := 28) hx hb dX5_writeFirst_4 (by decide) (fun c_1 => ?_) (fun c_1 => ?_)
  rotate_left
  · exact absurd (by decide) c_1
  refine lv_aload_n hx hb dX5_writeFirst_28 rfl (lv_at hl 0 rfl) ?_
  have hPc := hP.sub (ws' := [(r, .inr (6, [.int rh, .int rl, .ref st, .ref ck, .ref ck, .int 0, .int 1, .int (nI nf), .int (nI ng), .int 0, .ref rf, .int 0])), (ck, .inr (1, [.ref ce, .null])), (ce, .inl (cJ, 128, .inr (.inl fE)))]) [0, 4, 5] rfl
  have hDc := hD.sub (ws' := [(r, .inr (6, [.int rh, .int rl, .ref st, .ref ck, .ref ck, .int 0, .int 1, .int (nI nf), .int (nI ng), .int 0, .ref rf, .int 0])), (ck, .inr (1, [.ref ce, .null])), (ce, .inl (cJ, 128, .inr (.inl fE)))]) [0, 4, 5] (by decide +kernel) rfl
  have hKc := hK.sub (tys' := [(cJ, .long)]) [1] rfl
  have hFc := ro_free hS hA
  refine va_calll (va_runV (As := []) (rest := []) ⟨hx, hb, hml, hown, hts⟩ (c_firstEntry l dC dI (r) (rh) (rl) (st) (rf) (nf) (ng) (ck) (ce) (cJ) (fE) H.size) (cwV 0 hts g_c_writeFirst_p_c_firstEntry_95 rfl rfl rfl (by decide +kernel) ⟨Nat.le_of_ble_eq_true rfl, Nat.le_of_ble_eq_true rfl⟩) ⟨fun a U g mk q => by obtain ⟨q0, q1, qP, qK, qD, qE⟩ := q; exact ⟨q0, q1, qP, va_K.moved (u := U) (U := U.calling g mk a) (Vm.Alike.refl U.vm) qK, qD, ev.same (u := U) (U := U.calling g mk a) rfl qE⟩, va_recv hKc hPc (ci := 6) (q0 := 0) rfl rfl, fun U hU hW => ⟨rfl, by rw [hU], by rw [hU]; exact hPc, va_K.moved hW.alike hKc, hDc.weaken (fun _ _ _ _ => trivial), hE.warm hW⟩⟩ rfl rfl hl.1 rfl (lv_room (Nat.le_of_ble_eq_true rfl)) dX5_writeFirst_29 ⟨Nat.le_of_ble_eq_true rfl, Nat.le_of_ble_eq_true rfl⟩) hS (fun q _ h => hFc q h) hFc (fun r_2 u t H1 locs ht hvm hw hB hz1 hk1 hS => ?_)
  clear hPc hDc hKc
  replace hP := ro_keep hP hk1
  generalize H1 = H at hP hS ⊢
  replace hP : va_P (dC, dI) vwCl [(r, .inr (6, [.int rh, .int rl, .ref st, .ref ck, .ref ck, .int 0, .int 1, .int (nI nf), .int (nI ng), .int 0, .ref rf, .int 0])), (st, .inr (8, [.ref ml, .null])), (ml, .inr (0, [.int (nI mc), .ref ed, .int (nI sz0)])), (ed, .inl (cO, 10, .inr (.inr (.inr (.inr fe))))), (ck, .inr (1, [.ref ce, .null])), (ce, .inl (cJ, 128, .inr (.inl fE))), (mm, .inr (4, [.int (nI mi), .int (nI mt), .int (nI mg), .int (nI ms), .int sd, .null])), (rf, .inr (2, [.int (nI fi), .int ff, .int fo, .ref fw]))] H := hP
  have hw := hw.symm
  subst hw
  refine lv_lstore_n (lv' := [(2, .long (fE 0)), (0, .ref r), (1, .int (nI ad))]) hx hb dX5_writeFirst_32 rfl hl (by decide) rfl (fun ls hl => ?_)
  refine lv_aload_n hx hb dX5_writeFirst_33 rfl (lv_at hl 1 rfl) ?_
  refine va_get (D := (dC, dI)) (ci := 6) (v := .ref st) (C := RX5) (T := TX5) (N := 12) hx hb hts in_c_writeFirst_p_X5 hown hK hP 0 rfl rfl 2 (by decide) (hts (.fieldLink RX5 51 "ClaimBus$Row" "store" "LClaimBus$Store;") (List.mem_of_getElem? (i := 6) rfl)) (fun _ h9 => h9) rfl dX5_writeFirst_34 ?_
  refine lv_lload_n hx hb dX5_writeFirst_37 rfl (lv_at hl 0 rfl) ?_
  refine lv_bipush (v := 32) hx hb dX5_writeFirst_38 (by decide) ?_
  refine lv_lshr hx hb dX5_writeFirst_40 rfl ?_
  refine lv_l2i hx hb dX5_writeFirst_41 rfl ?_
  rw [hhi]
  have hPc := hP.sub (ws' := [(st, .inr (8, [.ref ml, .null])), (ml, .inr (0, [.int (nI mc), .ref ed, .int (nI sz0)])), (ed, .inl (cO, 10, .inr (.inr (.inr (.inr fe))))), (mm, .inr (4, [.int (nI mi), .int (nI mt), .int (nI mg), .int (nI ms), .int sd, .null]))]) [1, 2, 3, 6] rfl
  have hDc := hD.sub (ws' := [(st, .inr (8, [.ref ml, .null])), (ml, .inr (0, [.int (nI mc), .ref ed, .int (nI sz0)])), (ed, .inl (cO, 10, .inr (.inr (.inr (.inr fe))))), (mm, .inr (4, [.int (nI mi), .int (nI mt), .int (nI mg), .int (nI ms), .int sd, .null]))]) [1, 2, 3, 6] (by decide +kernel) rfl
  have hKc := hK.sub (tys' := [(cO, (.object "java/lang/Object"))]) [0] rfl
  have hFc := ro_free hS hA
  refine va_callq (va_runV (As := [.int (nI mi)]) (rest := []) ⟨hx, hb, hml, hown, hts⟩ (c_messageAt_null l dC dI (st) (ml) (mc) (ed) (sz0) (cO) (fe) (mm) (mi) (mt) (mg) (ms) (sd) (mi) H.size hel hsz hsz2) (cwV 1 hts g_c_writeFirst_p_c_messageAt_null_99 rfl rfl rfl (by decide +kernel) ⟨Nat.le_of_ble_eq_true rfl, Nat.le_of_ble_eq_true rfl⟩) ⟨fun a U g mk q => by obtain ⟨q0, q1, qP, qK, qD, qE⟩ := q; exact ⟨q0, q1, qP, va_K.moved (u := U) (U := U.calling g mk a) (Vm.Alike.refl U.vm) qK, qD, ev.same (u := U) (U := U.calling g mk a) rfl qE⟩, va_recv hKc hPc (ci := 8) (q0 := 0) rfl rfl, fun U hU hW => ⟨rfl, by rw [hU], by rw [hU]; exact hPc, va_K.moved hW.alike hKc, hDc.weaken (fun _ _ _ _ => trivial), hE.warm hW⟩⟩ rfl rfl hl.1 rfl (lv_room (Nat.le_of_ble_eq_true rfl)) dX5_writeFirst_42 ⟨Nat.le_of_ble_eq_true rfl, Nat.le_of_ble_eq_true rfl⟩) hS (fun q _ h => hFc q h) hFc (fun r_3 u t H1 locs ht hvm hw hB hz1 hk1 hS => ?_)
  clear hPc hDc hKc
  replace hP := ro_keep hP hk1
  generalize H1 = H at hP hS ⊢
  replace hP : va_P (dC, dI) vwCl [(r, .inr (6, [.int rh, .int rl, .ref st, .ref ck, .ref ck, .int 0, .int 1, .int (nI nf), .int (nI ng), .int 0, .ref rf, .int 0])), (st, .inr (8, [.ref ml, .null])), (ml, .inr (0, [.int (nI mc), .ref ed, .int (nI sz0)])), (ed, .inl (cO, 10, .inr (.inr (.inr (.inr fe))))), (ck, .inr (1, [.ref ce, .null])), (ce, .inl (cJ, 128, .inr (.inl fE))), (mm, .inr (4, [.int (nI mi), .int (nI mt), .int (nI mg), .int (nI ms), .int sd, .null])), (rf, .inr (2, [.int (nI fi), .int ff, .int fo, .ref fw]))] H := hP
  have hw := hw.symm
  subst hw
  refine W.eq (g2 := F0 m 45 ls [.ref mm]) rfl ?_
  refine lv_astore (lv' := [(4, .ref mm), (2, .long (fE 0)), (0, .ref r), (1, .int (nI ad))]) hx hb dX5_writeFirst_45 hl (by decide) rfl (fun ls hl => ?_)
  refine lv_lload_n hx hb dX5_writeFirst_47 rfl (lv_at hl 1 rfl) ?_
  refine lv_l2i hx hb dX5_writeFirst_48 rfl ?_
  rw [hlo]
  refine lv_istore (lv' := [(5, .int (nI (16777216 * to + 65536 * 235 + 256 * se + th))), (4, .ref mm), (2, .long (fE 0)), (0, .ref r), (1, .int (nI ad))]) hx hb dX5_writeFirst_49 hl (by decide) rfl (fun ls hl => ?_)
  refine lv_iload hx hb dX5_writeFirst_51 (lv_at hl 0 rfl) ?_
  refine lv_bipush (v := 24) hx hb dX5_writeFirst_53 (by decide) ?_
  refine lv_iushr (v := (nI to)) hx hb dX5_writeFirst_55 ((pk_ushrN (n := (16777216 * to + 65536 * 235 + 256 * se + th)) (by omega) (24 : Int32) 24 (by decide)).trans (show nI ((16777216 * to + 65536 * 235 + 256 * se + th) / 2 ^ 24) = nI (to) from congrArg nI (by omega))) ?_
  refine lv_istore (lv' := [(6, .int (nI to)), (5, .int (nI (16777216 * to + 65536 * 235 + 256 * se + th))), (4, .ref mm), (2, .long (fE 0)), (0, .ref r), (1, .int (nI ad))]) hx hb dX5_writeFirst_56 hl (by decide) rfl (fun ls hl => ?_)
  refine lv_iload hx hb dX5_writeFirst_58 (lv_at hl 1 rfl) ?_
  refine lv_bipush (v := 16) hx hb dX5_writeFirst_60 (by decide) ?_
  refine lv_iushr (v := (nI (256 * to + 235))) hx hb dX5_writeFirst_62 ((pk_ushrN (n := (16777216 * to + 65536 * 235 + 256 * se + th)) (by omega) (16 : Int32) 16 (by decide)).trans (show nI ((16777216 * to + 65536 * 235 + 256 * se + th) / 2 ^ 16) = nI (256 * to + 235) from congrArg nI (by omega))) ?_
  refine lv_sipush (v := 255) hx hb dX5_writeFirst_63 (by decide) ?_
  refine lv_iand hx hb dX5_writeFirst_66 ?_
  refine lv_topi (fun x_4 ex_4 => ?_)
  obtain rfl : x_4 = 235 := ex_4.trans ((pk_andN (n := (256 * to + 235)) (m := 255) (by omega) 8 (by decide)).trans (show nI ((256 * to + 235) % 2 ^ 8) = nI (235) from congrArg nI (by omega)))
  refine lv_istore (lv' := [(7, .int 235), (6, .int (nI to)), (5, .int (nI (16777216 * to + 65536 * 235 + 256 * se + th))), (4, .ref mm), (2, .long (fE 0)), (0, .ref r), (1, .int (nI ad))]) hx hb dX5_writeFirst_67 hl (by decide) rfl (fun ls hl => ?_)
  refine lv_aload hx hb dX5_writeFirst_69 (lv_at hl 3 rfl) ?_
  refine lv_ifnonnull (tgt := 106) hx hb dX5_writeFirst_71 (by decide) ?_
  refine lv_iload hx hb dX5_writeFirst_106 (lv_at hl 0 rfl) ?_
  refine lv_if_ne (tgt := 124) hx hb dX5_writeFirst_108 (by decide) (fun c_5 => ?_) (fun c_5 => ?_)
  rotate_left
  · exact absurd c_5 (by decide)
  refine lv_iload hx hb dX5_writeFirst_124 (lv_at hl 0 rfl) ?_
  refine lv_sipush (v := 235) hx hb dX5_writeFirst_126 (by decide) ?_
  refine lv_icmp_ne (tgt := 156) hx hb dX5_writeFirst_129 (by decide) (fun c_6 => ?_) (fun c_6 => ?_)
  · exact absurd c_6 (by decide)
  refine lv_aload hx hb dX5_writeFirst_132 (lv_at hl 3 rfl) ?_
  refine lv_aload_n hx hb dX5_writeFirst_134 rfl (lv_at hl 5 rfl) ?_
  refine va_get (D := (dC, dI)) (ci := 6) (v := .ref rf) (C := RX5) (T := TX5) (N := 12) hx hb hts in_c_writeFirst_p_X5 hown hK hP 0 rfl rfl 10 (by decide) (hts (.fieldLink RX5 38 "ClaimBus$Row" "first" "LClaimBus$Frame;") (List.mem_of_getElem? (i := 11) rfl)) (fun _ h9 => h9) rfl dX5_writeFirst_135 ?_
  refine lv_iload_n hx hb dX5_writeFirst_138 rfl (lv_at hl 6 rfl) ?_
  refine lv_iload hx hb dX5_writeFirst_139 (lv_at hl 2 rfl) ?_
  refine lv_sipush (v := 255) hx hb dX5_writeFirst_141 (by decide) ?_
  refine lv_iand hx hb dX5_writeFirst_144 ?_
  refine lv_topi (fun x_7 ex_7 => ?_)
  obtain rfl : x_7 = (nI th) := ex_7.trans ((pk_andN (n := (16777216 * to + 65536 * 235 + 256 * se + th)) (m := 255) (by omega) 8 (by decide)).trans (show nI ((16777216 * to + 65536 * 235 + 256 * se + th) % 2 ^ 8) = nI (th) from congrArg nI (by omega)))
  refine lv_aload_n hx hb dX5_writeFirst_145 rfl (lv_at hl 5 rfl) ?_
  refine va_get (D := (dC, dI)) (ci := 6) (v := .int (nI ng)) (C := RX5) (T := TX5) (N := 12) hx hb hts in_c_writeFirst_p_X5 hown hK hP 0 rfl rfl 8 (by decide) (hts (.fieldLink RX5 28 "ClaimBus$Row" "gone" "I") (List.mem_of_getElem? (i := 12) rfl)) (fun _ h9 => h9) rfl dX5_writeFirst_146 ?_
  refine lv_iadd hx hb dX5_writeFirst_149 ?_
  refine lv_topi (fun x_8 ex_8 => ?_)
  obtain rfl : x_8 = (nI (ng + th)) := ex_8.trans ((nI_add th ng).trans (show nI (th + ng) = nI (ng + th) from congrArg nI (by omega)))
  have hPc := hP.sub (ws' := [(mm, .inr (4, [.int (nI mi), .int (nI mt), .int (nI mg), .int (nI ms), .int sd, .null])), (rf, .inr (2, [.int (nI fi), .int ff, .int fo, .ref fw]))]) [6, 7] rfl
  have hDc := hD.sub (ws' := [(mm, .inr (4, [.int (nI mi), .int (nI mt), .int (nI mg), .int (nI ms), .int sd, .null])), (rf, .inr (2, [.int (nI fi), .int ff, .int fo, .ref fw]))]) [6, 7] (by decide +kernel) rfl
  have hKc := hK.sub (tys' := []) [] rfl
  have hFc := va_free (wc := [(mm, .inr (4, [.int (nI mi), .int (nI mt), .int (nI mg), .int (nI ms), .int sd, .null])), (rf, .inr (2, [.int (nI fi), .int ff, .int fo, .ref fw]))]) hD hS hA [6, 7] rfl
  refine va_callv (va_runV (As := [.ref rf, .int (nI ad), .int (nI (ng + th))]) (rest := []) ⟨hx, hb, hml, hown, hts⟩ (c_X3_writePacket l dC dI (mm) (mi) (mt) (mg) (ms) (sd) (rf) (fi) (ff) (fo) (fw) (ad) ((ng + th)) H.size hmi hmt hmg hms h_ad (by omega)) (cwV 3 hts g_c_writeFirst_p_c_X3_writePacket_115 rfl rfl rfl (by decide +kernel) ⟨Nat.le_of_ble_eq_true rfl, Nat.le_of_ble_eq_true rfl⟩) ⟨fun a U g mk q => by obtain ⟨q0, q1, qP, qK, qD, qE⟩ := q; exact ⟨q0, q1, qP, va_K.moved (u := U) (U := U.calling g mk a) (Vm.Alike.refl U.vm) qK, qD, ev.same (u := U) (U := U.calling g mk a) rfl qE⟩, va_recv hKc hPc (ci := 4) (q0 := 0) rfl rfl, fun U hU hW => ⟨rfl, by rw [hU], by rw [hU]; exact hPc, va_K.moved hW.alike hKc, hDc.weaken (fun _ _ _ _ => trivial), hE.warm hW⟩⟩ rfl rfl hl.1 rfl (lv_room (Nat.le_of_ble_eq_true rfl)) dX5_writeFirst_150 ⟨Nat.le_of_ble_eq_true rfl, Nat.le_of_ble_eq_true rfl⟩) hS (fun q _ h => hFc q h) hFc (fun u t H1 locs ht hvm hw hB hz1 hk1 hS => ?_)
  clear hPc hDc hKc
  obtain ⟨zf_9, zo_9, hP1, hK1, hD1, fb0_9, fbi_9⟩ := hB
  rw [ht] at hP1
  have hK1 := va_K.moved hvm.symm hK1
  obtain ⟨hP, hD⟩ := va_join (wr := [(r, .inr (6, [.int rh, .int rl, .ref st, .ref ck, .ref ck, .int 0, .int 1, .int (nI nf), .int (nI ng), .int 0, .ref rf, .int 0])), (st, .inr (8, [.ref ml, .null])), (ml, .inr (0, [.int (nI mc), .ref ed, .int (nI sz0)])), (ed, .inl (cO, 10, .inr (.inr (.inr (.inr fe))))), (ck, .inr (1, [.ref ce, .null])), (ce, .inl (cJ, 128, .inr (.inl fE)))]) (w1 := [(mm, .inr (4, [.int (nI mi), .int (nI mt), .int (nI mg), .int (nI ms), .int sd, .null])), (rf, .inr (2, [.int (nI (469762048 + 65536 * 235 + 256 * mt + ad)), .int zf_9, .int zo_9, .ref mm]))]) hP hD [6, 7] [0, 1, 2, 3, 4, 5] rfl rfl (by decide +kernel) (by decide +kernel) hk1 hFc hP1 hD1
  generalize H1 = H at hP hS ⊢
  replace hP : va_P (dC, dI) vwCl [(r, .inr (6, [.int rh, .int rl, .ref st, .ref ck, .ref ck, .int 0, .int 1, .int (nI nf), .int (nI ng), .int 0, .ref rf, .int 0])), (st, .inr (8, [.ref ml, .null])), (ml, .inr (0, [.int (nI mc), .ref ed, .int (nI sz0)])), (ed, .inl (cO, 10, .inr (.inr (.inr (.inr fe))))), (ck, .inr (1, [.ref ce, .null])), (ce, .inl (cJ, 128, .inr (.inl fE))), (mm, .inr (4, [.int (nI mi), .int (nI mt), .int (nI mg), .int (nI ms), .int sd, .null])), (rf, .inr (2, [.int (nI (469762048 + 65536 * 235 + 256 * mt + ad)), .int zf_9, .int zo_9, .ref mm]))] H := hP
  replace hD : va_D A [(r, .inr (6, [.int rh, .int rl, .ref st, .ref ck, .ref ck, .int 0, .int 1, .int (nI nf), .int (nI ng), .int 0, .ref rf, .int 0])), (st, .inr (8, [.ref ml, .null])), (ml, .inr (0, [.int (nI mc), .ref ed, .int (nI sz0)])), (ed, .inl (cO, 10, .inr (.inr (.inr (.inr fe))))), (ck, .inr (1, [.ref ce, .null])), (ce, .inl (cJ, 128, .inr (.inl fE))), (mm, .inr (4, [.int (nI mi), .int (nI mt), .int (nI mg), .int (nI ms), .int sd, .null])), (rf, .inr (2, [.int (nI (469762048 + 65536 * 235 + 256 * mt + ad)), .int zf_9, .int zo_9, .ref mm]))] := hD
  clear hw
  refine lv_goto (tgt := 191) hx hb dX5_writeFirst_153 (by decide) ?_
  have hP9 := hP.sub (ws' := [(r, .inr (6, [.int rh, .int rl, .ref st, .ref ck, .ref ck, .int 0, .int 1, .int (nI nf), .int (nI ng), .int 0, .ref rf, .int 0])), (st, .inr (8, [.ref ml, .null])), (ml, .inr (0, [.int (nI mc), .ref ed, .int (nI sz0)])), (ed, .inl (cO, 10, .inr (.inr (.inr (.inr fe))))), (ck, .inr (1, [.ref ce, .null])), (ce, .inl (cJ, 128, .inr (.inl fE))), (mm, .inr (4, [.int (nI mi), .int (nI mt), .int (nI mg), .int (nI ms), .int sd, .null])), (rf, .inr (2, [.int (nI (469762048 + 65536 * 235 + 256 * mt + ad)), .int zf_9, .int zo_9, .ref mm]))]) [0, 1, 2, 3, 4, 5, 6, 7] rfl
  have hD9 := hD.sub (ws' := [(r, .inr (6, [.int rh, .int rl, .ref st, .ref ck, .ref ck, .int 0, .int 1, .int (nI nf), .int (nI ng), .int 0, .ref rf, .int 0])), (st, .inr (8, [.ref ml, .null])), (ml, .inr (0, [.int (nI mc), .ref ed, .int (nI sz0)])), (ed, .inl (cO, 10, .inr (.inr (.inr (.inr fe))))), (ck, .inr (1, [.ref ce, .null])), (ce, .inl (cJ, 128, .inr (.inl fE))), (mm, .inr (4, [.int (nI mi), .int (nI mt), .int (nI mg), .int (nI ms), .int sd, .null])), (rf, .inr (2, [.int (nI (469762048 + 65536 * 235 + 256 * mt + ad)), .int zf_9, .int zo_9, .ref mm]))]) [0, 1, 2, 3, 4, 5, 6, 7] (by decide +kernel) rfl
  have hK9 := hK.sub (tys' := [(cO, (.object "java/lang/Object")), (cJ, .long)]) [0, 1] rfl
  exact W.vret hx hb hr (fun t ht hW => ⟨⟨(), rfl, trivial, ⟨zf_9, zo_9, by rw [ht]; exact hP9, va_K.moved hW.alike hK9, hD9, fb0_9.trans (congrArg nI (by omega)), fun i hi => (fbi_9 i hi).trans (congrArg (bx sd ms) (by omega))⟩⟩, hS.F ht⟩) hS.2.2 dX5_writeFirst_191

noncomputable def tl_c_first_p : List Cond := wsX50 ++ (v_c_len_f ++ (v_c_writeFirst_p))
noncomputable def v_c_first_p : List Cond := .code yX5_first cX5_first 2 (some (.object "ClaimBus$Frame")) :: ([.initialized RX5, .methodLink RX5 82 yX5_length, .instanceMethod yX5_length, .selects RX5 yX5_length yX5_length, .fieldLink RX5 42 "ClaimBus$Row" "firstIsWritten" "Z", .methodLink RX5 86 yX5_writeFirst, .instanceMethod yX5_writeFirst, .selects RX5 yX5_writeFirst yX5_writeFirst, .fieldLink RX5 38 "ClaimBus$Row" "first" "LClaimBus$Frame;"] ++ tl_c_first_p)
theorem it_c_first_p : ∀ w ∈ tl_c_first_p, w ∈ v_c_first_p := fun w h => List.mem_cons_of_mem _ (List.mem_append_right _ h)
theorem in_c_first_p_X5 : ∀ w ∈ wsX50, w ∈ v_c_first_p := fun w h => it_c_first_p w (List.mem_append_left _ h)
theorem ic_c_first_p_c_len_f : ∀ w ∈ v_c_len_f, w ∈ v_c_first_p := fun w h => it_c_first_p w (List.mem_append_right _ (List.mem_append_left _ h))
theorem ic_c_first_p_c_writeFirst_p : ∀ w ∈ v_c_writeFirst_p, w ∈ v_c_first_p := fun w h => it_c_first_p w (List.mem_append_right _ (List.mem_append_right _ (h)))
theorem gt_c_first_p : ∀ w ∈ tl_c_first_p, goodWord w = true := List.forall_mem_append.mpr ⟨gw_wsX50, List.forall_mem_append.mpr ⟨gw_c_len_f, gw_c_writeFirst_p⟩⟩
theorem gw_c_first_p : ∀ w ∈ v_c_first_p, goodWord w = true := List.forall_mem_cons.mpr ⟨by decide +kernel, List.forall_mem_append.mpr ⟨List.all_eq_true.mp (by decide +kernel), gt_c_first_p⟩⟩
theorem g_c_first_p_c_len_f_82 : GoodIn v_c_first_p (wsV RX5 82 RX5 yX5_length v_c_len_f) := goodIn_app (goodIn_r [.methodLink RX5 82 yX5_length, .instanceMethod yX5_length, .selects RX5 yX5_length yX5_length, .initialized RX5] [2, 3, 4, 1] (by decide +kernel) (by decide +kernel)) (fun w h => ⟨ic_c_first_p_c_len_f w h, good_of_word (gw_c_len_f w h)⟩)
theorem g_c_first_p_c_writeFirst_p_86 : GoodIn v_c_first_p (wsV RX5 86 RX5 yX5_writeFirst v_c_writeFirst_p) := goodIn_app (goodIn_r [.methodLink RX5 86 yX5_writeFirst, .instanceMethod yX5_writeFirst, .selects RX5 yX5_writeFirst yX5_writeFirst, .initialized RX5] [6, 7, 8, 1] (by decide +kernel) (by decide +kernel)) (fun w h => ⟨ic_c_first_p_c_writeFirst_p w h, good_of_word (gw_c_writeFirst_p w h)⟩)
set_option maxHeartbeats 4000000 in
set_option maxRecDepth 100000 in
theorem c_first_p (l : Launch) (dC : Nat → ClassId) (dI : Nat → Nat → Nat) (r : Nat) (rh : Int32) (rl : Int32) (st : Nat) (rf : Nat) (nf : Nat) (ng : Nat) (ck : Nat) (ce : Nat) (cJ : ClassId) (fE : Nat → Int64) (ml : Nat) (mc : Nat) (ed : Nat) (sz0 : Nat) (cO : ClassId) (fe : Nat → Option Nat) (mm : Nat) (mi : Nat) (mt : Nat) (mg : Nat) (ms : Nat) (sd : Int32) (fi : Nat) (ff : Int32) (fo : Int32) (fw : Nat) (to : Nat) (se : Nat) (th : Nat) (ad : Nat) (sz : Nat) (hmi : mi < 8) (hmt : mt < 256) (hmg : mg < 262144) (hms : ms < 1786) (h_to : to < 256) (h_se : se < 256) (h_th : th < 256) (h_ad : ad < 256) (hel : fe mi = some mm) (hsz : mi < sz0) (hsz2 : sz0 ≤ 10) (hnf : 1 ≤ nf) (hlo : (fE 0).toInt32 = (nI (16777216 * to + 65536 * 235 + 256 * se + th))) (hhi : (fE 0 >>> ((32 : Int32).toInt64 &&& 63)).toInt32 = (nI mi)) (hth : 1 ≤ th + ng ∧ th + ng < 256) (hnf3 : nf < 300) : Met l yX5_first v_c_first_p ({ frames := 5, cells := 0, slots := 0, locals := 112 }) (va_Pc [.ref r, .int (nI ad)] (fun U => U.heap.size = sz ∧ va_P (dC, dI) vwCl [(r, .inr (6, [.int rh, .int rl, .ref st, .ref ck, .ref ck, .int 0, .int 1, .int (nI nf), .int (nI ng), .int 0, .ref rf, .int 0])), (st, .inr (8, [.ref ml, .null])), (ml, .inr (0, [.int (nI mc), .ref ed, .int (nI sz0)])), (ed, .inl (cO, 10, .inr (.inr (.inr (.inr fe))))), (ck, .inr (1, [.ref ce, .null])), (ce, .inl (cJ, 128, .inr (.inl fE))), (mm, .inr (4, [.int (nI mi), .int (nI mt), .int (nI mg), .int (nI ms), .int sd, .null])), (rf, .inr (2, [.int (nI fi), .int ff, .int fo, .ref fw]))] U.heap ∧ va_K (dC, dI) vwCl [(cO, (.object "java/lang/Object")), (cJ, .long)] U ∧ va_D (fun _ => True) [(r, .inr (6, [.int rh, .int rl, .ref st, .ref ck, .ref ck, .int 0, .int 1, .int (nI nf), .int (nI ng), .int 0, .ref rf, .int 0])), (st, .inr (8, [.ref ml, .null])), (ml, .inr (0, [.int (nI mc), .ref ed, .int (nI sz0)])), (ed, .inl (cO, 10, .inr (.inr (.inr (.inr fe))))), (ck, .inr (1, [.ref ce, .null])), (ce, .inl (cJ, 128, .inr (.inl fE))), (mm, .inr (4, [.int (nI mi), .int (nI mt), .int (nI mg), .int (nI ms), .int sd, .null])), (rf, .inr (2, [.int (nI fi), .int ff, .int fo, .ref fw]))] ∧ ev U)) (va_Qq (fun (r : Option Nat) (_ : Unit) => r = some rf) (fun (_ : Unit) (t : State) => ∃ (zf : Int32) (zo : Int32), va_P (dC, dI) vwCl [(r, .inr (6, [.int rh, .int rl, .ref st, .ref ck, .ref ck, .int 0, .int 1, .int (nI nf), .int (nI ng), .int 0, .ref rf, .int 1])), (st, .inr (8, [.ref ml, .null])), (ml, .inr (0, [.int (nI mc), .ref ed, .int (nI sz0)])), (ed, .inl (cO, 10, .inr (.inr (.inr (.inr fe))))), (ck, .inr (1, [.ref ce, .null])), (ce, .inl (cJ, 128, .inr (.inl fE))), (mm, .inr (4, [.int (nI mi), .int (nI mt), .int (nI mg), .int (nI ms), .int sd, .null])), (rf, .inr (2, [.int (nI (469762048 + 65536 * 235 + 256 * mt + ad)), .int zf, .int zo, .ref mm]))] t.heap ∧ va_K (dC, dI) vwCl [(cO, (.object "java/lang/Object")), (cJ, .long)] t ∧ va_D (va_A [(r, .inr (6, [.int rh, .int rl, .ref st, .ref ck, .ref ck, .int 0, .int 1, .int (nI nf), .int (nI ng), .int 0, .ref rf, .int 0])), (st, .inr (8, [.ref ml, .null])), (ml, .inr (0, [.int (nI mc), .ref ed, .int (nI sz0)])), (ed, .inl (cO, 10, .inr (.inr (.inr (.inr fe))))), (ck, .inr (1, [.ref ce, .null])), (ce, .inl (cJ, 128, .inr (.inl fE))), (mm, .inr (4, [.int (nI mi), .int (nI mt), .int (nI mg), .int (nI ms), .int sd, .null])), (rf, .inr (2, [.int (nI fi), .int ff, .int fo, .ref fw]))] sz) [(r, .inr (6, [.int rh, .int rl, .ref st, .ref ck, .ref ck, .int 0, .int 1, .int (nI nf), .int (nI ng), .int 0, .ref rf, .int 1])), (st, .inr (8, [.ref ml, .null])), (ml, .inr (0, [.int (nI mc), .ref ed, .int (nI sz0)])), (ed, .inl (cO, 10, .inr (.inr (.inr (.inr fe))))), (ck, .inr (1, [.ref ce, .null])), (ce, .inl (cJ, 128, .inr (.inl fE))), (mm, .inr (4, [.int (nI mi), .int (nI mt), .int (nI mg), .int (nI ms), .int sd, .null])), (rf, .inr (2, [.int (nI (469762048 + 65536 * 235 + 256 * mt + ad)), .int zf, .int zo, .ref mm]))] ∧ (fb zf zo 0 = (nI (th + ng))) ∧ (∀ i, i < 7 → fb zf zo (i + 1) = bx sd ms (7 * ((th + ng) - 1) + i))) (va_A [(r, .inr (6, [.int rh, .int rl, .ref st, .ref ck, .ref ck, .int 0, .int 1, .int (nI nf), .int (nI ng), .int 0, .ref rf, .int 0])), (st, .inr (8, [.ref ml, .null])), (ml, .inr (0, [.int (nI mc), .ref ed, .int (nI sz0)])), (ed, .inl (cO, 10, .inr (.inr (.inr (.inr fe))))), (ck, .inr (1, [.ref ce, .null])), (ce, .inl (cJ, 128, .inr (.inl fE))), (mm, .inr (4, [.int (nI mi), .int (nI mt), .int (nI mg), .int (nI ms), .int sd, .null])), (rf, .inr (2, [.int (nI fi), .int ff, .int fo, .ref fw]))] sz)) 0 0 (va_A [(r, .inr (6, [.int rh, .int rl, .ref st, .ref ck, .ref ck, .int 0, .int 1, .int (nI nf), .int (nI ng), .int 0, .ref rf, .int 0])), (st, .inr (8, [.ref ml, .null])), (ml, .inr (0, [.int (nI mc), .ref ed, .int (nI sz0)])), (ed, .inl (cO, 10, .inr (.inr (.inr (.inr fe))))), (ck, .inr (1, [.ref ce, .null])), (ce, .inl (cJ, 128, .inr (.inl fE))), (mm, .inr (4, [.int (nI mi), .int (nI mt), .int (nI mg), .int (nI ms), .int sd, .null])), (rf, .inr (2, [.int (nI fi), .int ff, .int fo, .ref fw]))] sz) := by
  refine Met.ofW (cc := cX5_first) (maxL := 2) (ret := (some (.object "ClaimBus$Frame"))) (by decide) rfl ?_
  intro p e s m args below meth c s₁ B hml hv
  obtain ⟨rfl, hsz, hP, hK, hD0, hE⟩ := hv
  have hx := B.exec
  have hb := B.bytes
  have hr := B.returns
  have hts := atoms_spec (ws := v_c_first_p) B.pre
  have hown : s.vm.findClass RX5 = some m.cls := findClass_of_methodNamed B.named
  have hlocks := B.notSynchronized
  subst hsz
  have hD := hD0.self (sz := s.heap.size)
  generalize hAe : va_A [(r, .inr (6, [.int rh, .int rl, .ref st, .ref ck, .ref ck, .int 0, .int 1, .int (nI nf), .int (nI ng), .int 0, .ref rf, .int 0])), (st, .inr (8, [.ref ml, .null])), (ml, .inr (0, [.int (nI mc), .ref ed, .int (nI sz0)])), (ed, .inl (cO, 10, .inr (.inr (.inr (.inr fe))))), (ck, .inr (1, [.ref ce, .null])), (ce, .inl (cJ, 128, .inr (.inl fE))), (mm, .inr (4, [.int (nI mi), .int (nI mt), .int (nI mg), .int (nI ms), .int sd, .null])), (rf, .inr (2, [.int (nI fi), .int ff, .int fo, .ref fw]))] s.heap.size = A at hD ⊢
  have hA : ∀ q : Nat, s.heap.size ≤ q → A q := fun q h => by rw [← hAe]; exact Or.inr h
  have hS : va_S A s.heap s.heap [] := va_S.rf
  replace hP : va_P (dC, dI) vwCl [(r, .inr (6, [.int rh, .int rl, .ref st, .ref ck, .ref ck, .int 0, .int 1, .int (nI nf), .int (nI ng), .int 0, .ref rf, .int 0])), (st, .inr (8, [.ref ml, .null])), (ml, .inr (0, [.int (nI mc), .ref ed, .int (nI sz0)])), (ed, .inl (cO, 10, .inr (.inr (.inr (.inr fe))))), (ck, .inr (1, [.ref ce, .null])), (ce, .inl (cJ, 128, .inr (.inl fE))), (mm, .inr (4, [.int (nI mi), .int (nI mt), .int (nI mg), .int (nI ms), .int sd, .null])), (rf, .inr (2, [.int (nI fi), .int ff, .int fo, .ref fw]))] s.heap := hP
  have hl := lv_entry ([.ref r, .int (nI ad)]) (n := 2) (Nat.le_of_ble_eq_true rfl)
  rw [lg_entry_eq]
  generalize (lg_sl ([.ref r, .int (nI ad)]) ++ List.replicate (2 - (lg_sl ([.ref r, .int (nI ad)])).length) Slot.unset).toArray = ls at hl ⊢
  replace hl : lv_has ls 2 [(0, .ref r), (1, .int (nI ad))] := hl
  obtain ⟨H, hH⟩ : ∃ z : Heap, z = s.heap := ⟨_, rfl⟩
  rw [← hH]
  replace hS : va_S A s.heap H [] := by rw [hH]; exact va_S.rf
  replace hP : va_P (dC, dI) vwCl [(r, .inr (6, [.int rh, .int rl, .ref st, .ref ck, .ref ck, .int 0, .int 1, .int (nI nf), .int (nI ng), .int 0, .ref rf, .int 0])), (st, .inr (8, [.ref ml, .null])), (ml, .inr (0, [.int (nI mc), .ref ed, .int (nI sz0)])), (ed, .inl (cO, 10, .inr (.inr (.inr (.inr fe))))), (ck, .inr (1, [.ref ce, .null])), (ce, .inl (cJ, 128, .inr (.inl fE))), (mm, .inr (4, [.int (nI mi), .int (nI mt), .int (nI mg), .int (nI ms), .int sd, .null])), (rf, .inr (2, [.int (nI fi), .int ff, .int fo, .ref fw]))] H := by rw [hH]; exact hP
  clear hH
  refine lv_aload_n hx hb dX5_first_0 rfl (lv_at hl 0 rfl) ?_
  have hPc := hP.sub (ws' := [(r, .inr (6, [.int rh, .int rl, .ref st, .ref ck, .ref ck, .int 0, .int 1, .int (nI nf), .int (nI ng), .int 0, .ref rf, .int 0]))]) [0] rfl
  have hDc := hD.sub (ws' := [(r, .inr (6, [.int rh, .int rl, .ref st, .ref ck, .ref ck, .int 0, .int 1, .int (nI nf), .int (nI ng), .int 0, .ref rf, .int 0]))]) [0] (by decide +kernel) rfl
  have hKc := hK.sub (tys' := []) [] rfl
  have hFc := ro_free hS hA
  refine va_calli (va_runV (As := []) (rest := []) ⟨hx, hb, hml, hown, hts⟩ (c_len_f l dC dI (r) (rh) (rl) (st) (rf) (nf) (ng) (ck) H.size) (cwV 0 hts g_c_first_p_c_len_f_82 rfl rfl rfl (by decide +kernel) ⟨Nat.le_of_ble_eq_true rfl, Nat.le_of_ble_eq_true rfl⟩) ⟨fun a U g mk q => by obtain ⟨q0, q1, qP, qK, qD, qE⟩ := q; exact ⟨q0, q1, qP, va_K.moved (u := U) (U := U.calling g mk a) (Vm.Alike.refl U.vm) qK, qD, ev.same (u := U) (U := U.calling g mk a) rfl qE⟩, va_recv hKc hPc (ci := 6) (q0 := 0) rfl rfl, fun U hU hW => ⟨rfl, by rw [hU], by rw [hU]; exact hPc, va_K.moved hW.alike hKc, hDc.weaken (fun _ _ _ _ => trivial), hE.warm hW⟩⟩ rfl rfl hl.1 rfl (lv_room (Nat.le_of_ble_eq_true rfl)) dX5_first_1 ⟨Nat.le_of_ble_eq_true rfl, Nat.le_of_ble_eq_true rfl⟩) hS (fun q _ h => hFc q h) hFc (fun r_1 u t H1 locs ht hvm hw hB hz1 hk1 hS => ?_)
  clear hPc hDc hKc
  replace hP := ro_keep hP hk1
  generalize H1 = H at hP hS ⊢
  replace hP : va_P (dC, dI) vwCl [(r, .inr (6, [.int rh, .int rl, .ref st, .ref ck, .ref ck, .int 0, .int 1, .int (nI nf), .int (nI ng), .int 0, .ref rf, .int 0])), (st, .inr (8, [.ref ml, .null])), (ml, .inr (0, [.int (nI mc), .ref ed, .int (nI sz0)])), (ed, .inl (cO, 10, .inr (.inr (.inr (.inr fe))))), (ck, .inr (1, [.ref ce, .null])), (ce, .inl (cJ, 128, .inr (.inl fE))), (mm, .inr (4, [.int (nI mi), .int (nI mt), .int (nI mg), .int (nI ms), .int sd, .null])), (rf, .inr (2, [.int (nI fi), .int ff, .int fo, .ref fw]))] H := hP
  have hw := hw.symm
  subst hw
  refine lv_if_ne (tgt := 9) hx hb dX5_first_4 (by decide) (fun c_2 => ?_) (fun c_2 => ?_)
  rotate_left
  · exact absurd ((nI_eq (a := nf) (b := 0) (by omega) (by omega)).mp c_2) (by omega)
  refine lv_aload_n hx hb dX5_first_9 rfl (lv_at hl 0 rfl) ?_
  refine va_get (D := (dC, dI)) (ci := 6) (v := .int 0) (C := RX5) (T := TX5) (N := 12) hx hb hts in_c_first_p_X5 hown hK hP 0 rfl rfl 11 (by decide) (hts (.fieldLink RX5 42 "ClaimBus$Row" "firstIsWritten" "Z") (List.mem_of_getElem? (i := 5) rfl)) (fun _ h9 => h9) rfl dX5_first_10 ?_
  refine lv_if_ne (tgt := 26) hx hb dX5_first_13 (by decide) (fun c_3 => ?_) (fun c_3 => ?_)
  · exact absurd c_3 (by decide)
  refine lv_aload_n hx hb dX5_first_16 rfl (lv_at hl 0 rfl) ?_
  refine lv_iload_n hx hb dX5_first_17 rfl (lv_at hl 1 rfl) ?_
  have hPc := hP.sub (ws' := [(r, .inr (6, [.int rh, .int rl, .ref st, .ref ck, .ref ck, .int 0, .int 1, .int (nI nf), .int (nI ng), .int 0, .ref rf, .int 0])), (st, .inr (8, [.ref ml, .null])), (ml, .inr (0, [.int (nI mc), .ref ed, .int (nI sz0)])), (ed, .inl (cO, 10, .inr (.inr (.inr (.inr fe))))), (ck, .inr (1, [.ref ce, .null])), (ce, .inl (cJ, 128, .inr (.inl fE))), (mm, .inr (4, [.int (nI mi), .int (nI mt), .int (nI mg), .int (nI ms), .int sd, .null])), (rf, .inr (2, [.int (nI fi), .int ff, .int fo, .ref fw]))]) [0, 1, 2, 3, 4, 5, 6, 7] rfl
  have hDc := hD.sub (ws' := [(r, .inr (6, [.int rh, .int rl, .ref st, .ref ck, .ref ck, .int 0, .int 1, .int (nI nf), .int (nI ng), .int 0, .ref rf, .int 0])), (st, .inr (8, [.ref ml, .null])), (ml, .inr (0, [.int (nI mc), .ref ed, .int (nI sz0)])), (ed, .inl (cO, 10, .inr (.inr (.inr (.inr fe))))), (ck, .inr (1, [.ref ce, .null])), (ce, .inl (cJ, 128, .inr (.inl fE))), (mm, .inr (4, [.int (nI mi), .int (nI mt), .int (nI mg), .int (nI ms), .int sd, .null])), (rf, .inr (2, [.int (nI fi), .int ff, .int fo, .ref fw]))]) [0, 1, 2, 3, 4, 5, 6, 7] (by decide +kernel) rfl
  have hKc := hK.sub (tys' := [(cO, (.object "java/lang/Object")), (cJ, .long)]) [0, 1] rfl
  have hFc := va_free (wc := [(r, .inr (6, [.int rh, .int rl, .ref st, .ref ck, .ref ck, .int 0, .int 1, .int (nI nf), .int (nI ng), .int 0, .ref rf, .int 0])), (st, .inr (8, [.ref ml, .null])), (ml, .inr (0, [.int (nI mc), .ref ed, .int (nI sz0)])), (ed, .inl (cO, 10, .inr (.inr (.inr (.inr fe))))), (ck, .inr (1, [.ref ce, .null])), (ce, .inl (cJ, 128, .inr (.inl fE))), (mm, .inr (4, [.int (nI mi), .int (nI mt), .int (nI mg), .int (nI ms), .int sd, .null])), (rf, .inr (2, [.int (nI fi), .int ff, .int fo, .ref fw]))]) hD hS hA [0, 1, 2, 3, 4, 5, 6, 7] rfl
  refine va_callv (va_runV (As := [.int (nI ad)]) (rest := []) ⟨hx, hb, hml, hown, hts⟩ (c_writeFirst_p l dC dI (r) (rh) (rl) (st) (rf) (nf) (ng) (ck) (ce) (cJ) (fE) (ml) (mc) (ed) (sz0) (cO) (fe) (mm) (mi) (mt) (mg) (ms) (sd) (fi) (ff) (fo) (fw) (to) (se) (th) (ad) H.size hmi hmt hmg hms h_to h_se h_th h_ad hel hsz hsz2 hnf hlo hhi hth) (cwV 1 hts g_c_first_p_c_writeFirst_p_86 rfl rfl rfl (by decide +kernel) ⟨Nat.le_of_ble_eq_true rfl, Nat.le_of_ble_eq_true rfl⟩) ⟨fun a U g mk q => by obtain ⟨q0, q1, qP, qK, qD, qE⟩ := q; exact ⟨q0, q1, qP, va_K.moved (u := U) (U := U.calling g mk a) (Vm.Alike.refl U.vm) qK, qD, ev.same (u := U) (U := U.calling g mk a) rfl qE⟩, va_recv hKc hPc (ci := 6) (q0 := 0) rfl rfl, fun U hU hW => ⟨rfl, by rw [hU], by rw [hU]; exact hPc, va_K.moved hW.alike hKc, hDc.weaken (fun _ _ _ _ => trivial), hE.warm hW⟩⟩ rfl rfl hl.1 rfl (lv_room (Nat.le_of_ble_eq_true rfl)) dX5_first_18 ⟨Nat.le_of_ble_eq_true rfl, Nat.le_of_ble_eq_true rfl⟩) hS (fun q _ h => hFc q h) hFc (fun u t H1 locs ht hvm hw hB hz1 hk1 hS => ?_)
  clear hPc hDc hKc
  obtain ⟨zf_4, zo_4, hP1, hK1, hD1, fb0_4, fbi_4⟩ := hB
  rw [ht] at hP1
  have hK1 := va_K.moved hvm.symm hK1
  obtain ⟨hP, hD⟩ := va_join (wr := []) (w1 := [(r, .inr (6, [.int rh, .int rl, .ref st, .ref ck, .ref ck, .int 0, .int 1, .int (nI nf), .int (nI ng), .int 0, .ref rf, .int 0])), (st, .inr (8, [.ref ml, .null])), (ml, .inr (0, [.int (nI mc), .ref ed, .int (nI sz0)])), (ed, .inl (cO, 10, .inr (.inr (.inr (.inr fe))))), (ck, .inr (1, [.ref ce, .null])), (ce, .inl (cJ, 128, .inr (.inl fE))), (mm, .inr (4, [.int (nI mi), .int (nI mt), .int (nI mg), .int (nI ms), .int sd, .null])), (rf, .inr (2, [.int (nI (469762048 + 65536 * 235 + 256 * mt + ad)), .int zf_4, .int zo_4, .ref mm]))]) hP hD [0, 1, 2, 3, 4, 5, 6, 7] [] rfl rfl (by decide +kernel) (by decide +kernel) hk1 hFc hP1 hD1
  generalize H1 = H at hP hS ⊢
  replace hP : va_P (dC, dI) vwCl [(r, .inr (6, [.int rh, .int rl, .ref st, .ref ck, .ref ck, .int 0, .int 1, .int (nI nf), .int (nI ng), .int 0, .ref rf, .int 0])), (st, .inr (8, [.ref ml, .null])), (ml, .inr (0, [.int (nI mc), .ref ed, .int (nI sz0)])), (ed, .inl (cO, 10, .inr (.inr (.inr (.inr fe))))), (ck, .inr (1, [.ref ce, .null])), (ce, .inl (cJ, 128, .inr (.inl fE))), (mm, .inr (4, [.int (nI mi), .int (nI mt), .int (nI mg), .int (nI ms), .int sd, .null])), (rf, .inr (2, [.int (nI (469762048 + 65536 * 235 + 256 * mt + ad)), .int zf_4, .int zo_4, .ref mm]))] H := hP
  replace hD : va_D A [(r, .inr (6, [.int rh, .int rl, .ref st, .ref ck, .ref ck, .int 0, .int 1, .int (nI nf), .int (nI ng), .int 0, .ref rf, .int 0])), (st, .inr (8, [.ref ml, .null])), (ml, .inr (0, [.int (nI mc), .ref ed, .int (nI sz0)])), (ed, .inl (cO, 10, .inr (.inr (.inr (.inr fe))))), (ck, .inr (1, [.ref ce, .null])), (ce, .inl (cJ, 128, .inr (.inl fE))), (mm, .inr (4, [.int (nI mi), .int (nI mt), .int (nI mg), .int (nI ms), .int sd, .null])), (rf, .inr (2, [.int (nI (469762048 + 65536 * 235 + 256 * mt + ad)), .int zf_4, .int zo_4, .ref mm]))] := hD
  clear hw
  refine lv_aload_n hx hb dX5_first_21 rfl (lv_at hl 0 rfl) ?_
  refine lv_iconst (v := 1) hx hb dX5_first_22 (by decide) ?_
  refine va_put (D := (dC, dI)) (ci := 6) (v := .int 1) (ty := .boolean) (C := RX5) (T := TX5) (N := 12) hx hb hts in_c_first_p_X5 tyX5 tyX5_ok nmX5 hown hK hP hD hS 0 rfl rfl 11 (by decide) (hts (.fieldLink RX5 42 "ClaimBus$Row" "firstIsWritten" "Z") (List.mem_of_getElem? (i := 5) rfl)) (fun _ h9 => h9) rfl (by decide +kernel) rfl rfl (Nat.le_of_ble_eq_true rfl) dX5_first_23 (fun H locs hP hD hS => ?_)
  replace hP : va_P (dC, dI) vwCl [(r, .inr (6, [.int rh, .int rl, .ref st, .ref ck, .ref ck, .int 0, .int 1, .int (nI nf), .int (nI ng), .int 0, .ref rf, .int 1])), (st, .inr (8, [.ref ml, .null])), (ml, .inr (0, [.int (nI mc), .ref ed, .int (nI sz0)])), (ed, .inl (cO, 10, .inr (.inr (.inr (.inr fe))))), (ck, .inr (1, [.ref ce, .null])), (ce, .inl (cJ, 128, .inr (.inl fE))), (mm, .inr (4, [.int (nI mi), .int (nI mt), .int (nI mg), .int (nI ms), .int sd, .null])), (rf, .inr (2, [.int (nI (469762048 + 65536 * 235 + 256 * mt + ad)), .int zf_4, .int zo_4, .ref mm]))] H := hP
  replace hD : va_D A [(r, .inr (6, [.int rh, .int rl, .ref st, .ref ck, .ref ck, .int 0, .int 1, .int (nI nf), .int (nI ng), .int 0, .ref rf, .int 1])), (st, .inr (8, [.ref ml, .null])), (ml, .inr (0, [.int (nI mc), .ref ed, .int (nI sz0)])), (ed, .inl (cO, 10, .inr (.inr (.inr (.inr fe))))), (ck, .inr (1, [.ref ce, .null])), (ce, .inl (cJ, 128, .inr (.inl fE))), (mm, .inr (4, [.int (nI mi), .int (nI mt), .int (nI mg), .int (nI ms), .int sd, .null])), (rf, .inr (2, [.int (nI (469762048 + 65536 * 235 + 256 * mt + ad)), .int zf_4, .int zo_4, .ref mm]))] := hD
  refine lv_aload_n hx hb dX5_first_26 rfl (lv_at hl 0 rfl) ?_
  refine va_get (D := (dC, dI)) (ci := 6) (v := .ref rf) (C := RX5) (T := TX5) (N := 12) hx hb hts in_c_first_p_X5 hown hK hP 0 rfl rfl 10 (by decide) (hts (.fieldLink RX5 38 "ClaimBus$Row" "first" "LClaimBus$Frame;") (List.mem_of_getElem? (i := 9) rfl)) (fun _ h9 => h9) rfl dX5_first_27 ?_
  have hP9 := hP.sub (ws' := [(r, .inr (6, [.int rh, .int rl, .ref st, .ref ck, .ref ck, .int 0, .int 1, .int (nI nf), .int (nI ng), .int 0, .ref rf, .int 1])), (st, .inr (8, [.ref ml, .null])), (ml, .inr (0, [.int (nI mc), .ref ed, .int (nI sz0)])), (ed, .inl (cO, 10, .inr (.inr (.inr (.inr fe))))), (ck, .inr (1, [.ref ce, .null])), (ce, .inl (cJ, 128, .inr (.inl fE))), (mm, .inr (4, [.int (nI mi), .int (nI mt), .int (nI mg), .int (nI ms), .int sd, .null])), (rf, .inr (2, [.int (nI (469762048 + 65536 * 235 + 256 * mt + ad)), .int zf_4, .int zo_4, .ref mm]))]) [0, 1, 2, 3, 4, 5, 6, 7] rfl
  have hD9 := hD.sub (ws' := [(r, .inr (6, [.int rh, .int rl, .ref st, .ref ck, .ref ck, .int 0, .int 1, .int (nI nf), .int (nI ng), .int 0, .ref rf, .int 1])), (st, .inr (8, [.ref ml, .null])), (ml, .inr (0, [.int (nI mc), .ref ed, .int (nI sz0)])), (ed, .inl (cO, 10, .inr (.inr (.inr (.inr fe))))), (ck, .inr (1, [.ref ce, .null])), (ce, .inl (cJ, 128, .inr (.inl fE))), (mm, .inr (4, [.int (nI mi), .int (nI mt), .int (nI mg), .int (nI ms), .int sd, .null])), (rf, .inr (2, [.int (nI (469762048 + 65536 * 235 + 256 * mt + ad)), .int zf_4, .int zo_4, .ref mm]))]) [0, 1, 2, 3, 4, 5, 6, 7] (by decide +kernel) rfl
  have hK9 := hK.sub (tys' := [(cO, (.object "java/lang/Object")), (cJ, .long)]) [0, 1] rfl
  exact W.aret (v := .ref rf) hx hb hr (Or.inl ⟨_, rfl⟩) (Or.inr ⟨_, rfl⟩) (fun t ht hW => ⟨⟨some rf, (), rfl, rfl, ⟨zf_4, zo_4, by rw [ht]; exact hP9, va_K.moved hW.alike hK9, hD9, fb0_4.trans (congrArg nI (by omega)), fun i hi => (fbi_4 i hi).trans (congrArg (bx sd ms) (by omega))⟩⟩, hS.F ht⟩) hS.2.2 dX5_first_30

noncomputable def tl_c_writeFirst_wN : List Cond := wsX50 ++ (v_c_firstEntry ++ (v_c_messageAt_null ++ (v_c_X10_identifier ++ (v_c_X3_writeControl_16N))))
noncomputable def v_c_writeFirst_wN : List Cond := .code yX5_writeFirst cX5_writeFirst 8 none :: ([.fieldLink RX5 31 "ClaimBus$Row" "claimWaits" "Z", .initialized RX5, .methodLink RX5 95 yX5_firstEntry, .instanceMethod yX5_firstEntry, .selects RX5 yX5_firstEntry yX5_firstEntry, .fieldLink RX5 51 "ClaimBus$Row" "store" "LClaimBus$Store;", .initialized RX7, .methodLink RX5 99 yX7_messageAt, .instanceMethod yX7_messageAt, .selects RX7 yX7_messageAt yX7_messageAt, .fieldLink RX5 38 "ClaimBus$Row" "first" "LClaimBus$Frame;", .initialized RX10, .static yX10_identifier, .initialized RX3, .methodLink RX5 119 yX3_writeControl, .instanceMethod yX3_writeControl, .selects RX3 yX3_writeControl yX3_writeControl] ++ tl_c_writeFirst_wN)
theorem it_c_writeFirst_wN : ∀ w ∈ tl_c_writeFirst_wN, w ∈ v_c_writeFirst_wN := fun w h => List.mem_cons_of_mem _ (List.mem_append_right _ h)
theorem in_c_writeFirst_wN_X5 : ∀ w ∈ wsX50, w ∈ v_c_writeFirst_wN := fun w h => it_c_writeFirst_wN w (List.mem_append_left _ h)
theorem ic_c_writeFirst_wN_c_firstEntry : ∀ w ∈ v_c_firstEntry, w ∈ v_c_writeFirst_wN := fun w h => it_c_writeFirst_wN w (List.mem_append_right _ (List.mem_append_left _ h))
theorem ic_c_writeFirst_wN_c_messageAt_null : ∀ w ∈ v_c_messageAt_null, w ∈ v_c_writeFirst_wN := fun w h => it_c_writeFirst_wN w (List.mem_append_right _ (List.mem_append_right _ (List.mem_append_left _ h)))
theorem ic_c_writeFirst_wN_c_X10_identifier : ∀ w ∈ v_c_X10_identifier, w ∈ v_c_writeFirst_wN := fun w h => it_c_writeFirst_wN w (List.mem_append_right _ (List.mem_append_right _ (List.mem_append_right _ (List.mem_append_left _ h))))
theorem ic_c_writeFirst_wN_c_X3_writeControl_16N : ∀ w ∈ v_c_X3_writeControl_16N, w ∈ v_c_writeFirst_wN := fun w h => it_c_writeFirst_wN w (List.mem_append_right _ (List.mem_append_right _ (List.mem_append_right _ (List.mem_append_right _ (h)))))
theorem gt_c_writeFirst_wN : ∀ w ∈ tl_c_writeFirst_wN, goodWord w = true := List.forall_mem_append.mpr ⟨gw_wsX50, List.forall_mem_append.mpr ⟨gw_c_firstEntry, List.forall_mem_append.mpr ⟨gw_c_messageAt_null, List.forall_mem_append.mpr ⟨gw_c_X10_identifier, gw_c_X3_writeControl_16N⟩⟩⟩⟩
theorem gw_c_writeFirst_wN : ∀ w ∈ v_c_writeFirst_wN, goodWord w = true := List.forall_mem_cons.mpr ⟨by decide +kernel, List.forall_mem_append.mpr ⟨List.all_eq_true.mp (by decide +kernel), gt_c_writeFirst_wN⟩⟩
theorem g_c_writeFirst_wN_c_firstEntry_95 : GoodIn v_c_writeFirst_wN (wsV RX5 95 RX5 yX5_firstEntry v_c_firstEntry) := goodIn_app (goodIn_r [.methodLink RX5 95 yX5_firstEntry, .instanceMethod yX5_firstEntry, .selects RX5 yX5_firstEntry yX5_firstEntry, .initialized RX5] [3, 4, 5, 2] (by decide +kernel) (by decide +kernel)) (fun w h => ⟨ic_c_writeFirst_wN_c_firstEntry w h, good_of_word (gw_c_firstEntry w h)⟩)
theorem g_c_writeFirst_wN_c_messageAt_null_99 : GoodIn v_c_writeFirst_wN (wsV RX5 99 RX7 yX7_messageAt v_c_messageAt_null) := goodIn_app (goodIn_r [.methodLink RX5 99 yX7_messageAt, .instanceMethod yX7_messageAt, .selects RX7 yX7_messageAt yX7_messageAt, .initialized RX7] [8, 9, 10, 7] (by decide +kernel) (by decide +kernel)) (fun w h => ⟨ic_c_writeFirst_wN_c_messageAt_null w h, good_of_word (gw_c_messageAt_null w h)⟩)
theorem g_c_writeFirst_wN_c_X10_identifier_103 : GoodIn v_c_writeFirst_wN v_c_X10_identifier := fun w h => ⟨ic_c_writeFirst_wN_c_X10_identifier w h, good_of_word (gw_c_X10_identifier w h)⟩
theorem g_c_writeFirst_wN_c_X3_writeControl_16N_119 : GoodIn v_c_writeFirst_wN (wsV RX5 119 RX3 yX3_writeControl v_c_X3_writeControl_16N) := goodIn_app (goodIn_r [.methodLink RX5 119 yX3_writeControl, .instanceMethod yX3_writeControl, .selects RX3 yX3_writeControl yX3_writeControl, .initialized RX3] [15, 16, 17, 14] (by decide +kernel) (by decide +kernel)) (fun w h => ⟨ic_c_writeFirst_wN_c_X3_writeControl_16N w h, good_of_word (gw_c_X3_writeControl_16N w h)⟩)
set_option maxHeartbeats 4000000 in
set_option maxRecDepth 100000 in
theorem c_writeFirst_wN (l : Launch) (dC : Nat → ClassId) (dI : Nat → Nat → Nat) (r : Nat) (rh : Int32) (rl : Int32) (st : Nat) (rf : Nat) (nf : Nat) (ng : Nat) (ck : Nat) (ce : Nat) (cJ : ClassId) (fE : Nat → Int64) (ml : Nat) (mc : Nat) (ed : Nat) (sz0 : Nat) (cO : ClassId) (fe : Nat → Option Nat) (mm : Nat) (mi : Nat) (mt : Nat) (mg : Nat) (ms : Nat) (sd : Int32) (fi : Nat) (ff : Int32) (fo : Int32) (to : Nat) (se : Nat) (th : Nat) (ad : Nat) (sz : Nat) (hmi : mi < 8) (hmt : mt < 256) (hmg : mg < 262144) (hms : ms < 1786) (h_to : to < 256) (h_se : se < 256) (h_th : th < 256) (h_ad : ad < 256) (hel : fe mi = some mm) (hsz : mi < sz0) (hsz2 : sz0 ≤ 10) (hnf : 1 ≤ nf) (hlo : (fE 0).toInt32 = (nI (16777216 * to + 65536 * 16 + 256 * se + th))) (hhi : (fE 0 >>> ((32 : Int32).toInt64 &&& 63)).toInt32 = (nI mi)) : Met l yX5_writeFirst v_c_writeFirst_wN ({ frames := 4, cells := 0, slots := 0, locals := 85 }) (va_Pc [.ref r, .int (nI ad)] (fun U => U.heap.size = sz ∧ va_P (dC, dI) vwCl [(r, .inr (6, [.int rh, .int rl, .ref st, .ref ck, .ref ck, .int 0, .int 1, .int (nI nf), .int (nI ng), .int 0, .ref rf, .int 0])), (st, .inr (8, [.ref ml, .null])), (ml, .inr (0, [.int (nI mc), .ref ed, .int (nI sz0)])), (ed, .inl (cO, 10, .inr (.inr (.inr (.inr fe))))), (ck, .inr (1, [.ref ce, .null])), (ce, .inl (cJ, 128, .inr (.inl fE))), (mm, .inr (4, [.int (nI mi), .int (nI mt), .int (nI mg), .int (nI ms), .int sd, .null])), (rf, .inr (2, [.int (nI fi), .int ff, .int fo, .null]))] U.heap ∧ va_K (dC, dI) vwCl [(cO, (.object "java/lang/Object")), (cJ, .long)] U ∧ va_D (fun _ => True) [(r, .inr (6, [.int rh, .int rl, .ref st, .ref ck, .ref ck, .int 0, .int 1, .int (nI nf), .int (nI ng), .int 0, .ref rf, .int 0])), (st, .inr (8, [.ref ml, .null])), (ml, .inr (0, [.int (nI mc), .ref ed, .int (nI sz0)])), (ed, .inl (cO, 10, .inr (.inr (.inr (.inr fe))))), (ck, .inr (1, [.ref ce, .null])), (ce, .inl (cJ, 128, .inr (.inl fE))), (mm, .inr (4, [.int (nI mi), .int (nI mt), .int (nI mg), .int (nI ms), .int sd, .null])), (rf, .inr (2, [.int (nI fi), .int ff, .int fo, .null]))] ∧ ev U)) (va_Qv (fun _ : Unit => True) (fun (_ : Unit) (t : State) => va_P (dC, dI) vwCl [(r, .inr (6, [.int rh, .int rl, .ref st, .ref ck, .ref ck, .int 0, .int 1, .int (nI nf), .int (nI ng), .int 0, .ref rf, .int 0])), (st, .inr (8, [.ref ml, .null])), (ml, .inr (0, [.int (nI mc), .ref ed, .int (nI sz0)])), (ed, .inl (cO, 10, .inr (.inr (.inr (.inr fe))))), (ck, .inr (1, [.ref ce, .null])), (ce, .inl (cJ, 128, .inr (.inl fE))), (mm, .inr (4, [.int (nI mi), .int (nI mt), .int (nI mg), .int (nI ms), .int sd, .null])), (rf, .inr (2, [.int (nI (469762048 + 65536 * 236 + 256 * to + ad)), .int (nI (16 + 256 * (ms % 256) + 65536 * (ms / 256) + 16777216 * ((ms + 6) / 7))), .int (nI (se + 256 * mg)), .ref mm]))] t.heap ∧ va_K (dC, dI) vwCl [(cO, (.object "java/lang/Object")), (cJ, .long)] t ∧ va_D (va_A [(r, .inr (6, [.int rh, .int rl, .ref st, .ref ck, .ref ck, .int 0, .int 1, .int (nI nf), .int (nI ng), .int 0, .ref rf, .int 0])), (st, .inr (8, [.ref ml, .null])), (ml, .inr (0, [.int (nI mc), .ref ed, .int (nI sz0)])), (ed, .inl (cO, 10, .inr (.inr (.inr (.inr fe))))), (ck, .inr (1, [.ref ce, .null])), (ce, .inl (cJ, 128, .inr (.inl fE))), (mm, .inr (4, [.int (nI mi), .int (nI mt), .int (nI mg), .int (nI ms), .int sd, .null])), (rf, .inr (2, [.int (nI fi), .int ff, .int fo, .null]))] sz) [(r, .inr (6, [.int rh, .int rl, .ref st, .ref ck, .ref ck, .int 0, .int 1, .int (nI nf), .int (nI ng), .int 0, .ref rf, .int 0])), (st, .inr (8, [.ref ml, .null])), (ml, .inr (0, [.int (nI mc), .ref ed, .int (nI sz0)])), (ed, .inl (cO, 10, .inr (.inr (.inr (.inr fe))))), (ck, .inr (1, [.ref ce, .null])), (ce, .inl (cJ, 128, .inr (.inl fE))), (mm, .inr (4, [.int (nI mi), .int (nI mt), .int (nI mg), .int (nI ms), .int sd, .null])), (rf, .inr (2, [.int (nI (469762048 + 65536 * 236 + 256 * to + ad)), .int (nI (16 + 256 * (ms % 256) + 65536 * (ms / 256) + 16777216 * ((ms + 6) / 7))), .int (nI (se + 256 * mg)), .ref mm]))]) (va_A [(r, .inr (6, [.int rh, .int rl, .ref st, .ref ck, .ref ck, .int 0, .int 1, .int (nI nf), .int (nI ng), .int 0, .ref rf, .int 0])), (st, .inr (8, [.ref ml, .null])), (ml, .inr (0, [.int (nI mc), .ref ed, .int (nI sz0)])), (ed, .inl (cO, 10, .inr (.inr (.inr (.inr fe))))), (ck, .inr (1, [.ref ce, .null])), (ce, .inl (cJ, 128, .inr (.inl fE))), (mm, .inr (4, [.int (nI mi), .int (nI mt), .int (nI mg), .int (nI ms), .int sd, .null])), (rf, .inr (2, [.int (nI fi), .int ff, .int fo, .null]))] sz)) 0 0 (va_A [(r, .inr (6, [.int rh, .int rl, .ref st, .ref ck, .ref ck, .int 0, .int 1, .int (nI nf), .int (nI ng), .int 0, .ref rf, .int 0])), (st, .inr (8, [.ref ml, .null])), (ml, .inr (0, [.int (nI mc), .ref ed, .int (nI sz0)])), (ed, .inl (cO, 10, .inr (.inr (.inr (.inr fe))))), (ck, .inr (1, [.ref ce, .null])), (ce, .inl (cJ, 128, .inr (.inl fE))), (mm, .inr (4, [.int (nI mi), .int (nI mt), .int (nI mg), .int (nI ms), .int sd, .null])), (rf, .inr (2, [.int (nI fi), .int ff, .int fo, .null]))] sz) := by
  refine Met.ofW (cc := cX5_writeFirst) (maxL := 8) (ret := none) (by decide) rfl ?_
  intro p e s m args below meth c s₁ B hml hv
  obtain ⟨rfl, hsz, hP, hK, hD0, hE⟩ := hv
  have hx := B.exec
  have hb := B.bytes
  have hr := B.returns
  have hts := atoms_spec (ws := v_c_writeFirst_wN) B.pre
  have hown : s.vm.findClass RX5 = some m.cls := findClass_of_methodNamed B.named
  have hlocks := B.notSynchronized
  subst hsz
  have hD := hD0.self (sz := s.heap.size)
  generalize hAe : va_A [(r, .inr (6, [.int rh, .int rl, .ref st, .ref ck, .ref ck, .int 0, .int 1, .int (nI nf), .int (nI ng), .int 0, .ref rf, .int 0])), (st, .inr (8, [.ref ml, .null])), (ml, .inr (0, [.int (nI mc), .ref ed, .int (nI sz0)])), (ed, .inl (cO, 10, .inr (.inr (.inr (.inr fe))))), (ck, .inr (1, [.ref ce, .null])), (ce, .inl (cJ, 128, .inr (.inl fE))), (mm, .inr (4, [.int (nI mi), .int (nI mt), .int (nI mg), .int (nI ms), .int sd, .null])), (rf, .inr (2, [.int (nI fi), .int ff, .int fo, .null]))] s.heap.size = A at hD ⊢
  have hA : ∀ q : Nat, s.heap.size ≤ q → A q := fun q h => by rw [← hAe]; exact Or.inr h
  have hS : va_S A s.heap s.heap [] := va_S.rf
  replace hP : va_P (dC, dI) vwCl [(r, .inr (6, [.int rh, .int rl, .ref st, .ref ck, .ref ck, .int 0, .int 1, .int (nI nf), .int (nI ng), .int 0, .ref rf, .int 0])), (st, .inr (8, [.ref ml, .null])), (ml, .inr (0, [.int (nI mc), .ref ed, .int (nI sz0)])), (ed, .inl (cO, 10, .inr (.inr (.inr (.inr fe))))), (ck, .inr (1, [.ref ce, .null])), (ce, .inl (cJ, 128, .inr (.inl fE))), (mm, .inr (4, [.int (nI mi), .int (nI mt), .int (nI mg), .int (nI ms), .int sd, .null])), (rf, .inr (2, [.int (nI fi), .int ff, .int fo, .null]))] s.heap := hP
  have hl := lv_entry ([.ref r, .int (nI ad)]) (n := 8) (Nat.le_of_ble_eq_true rfl)
  rw [lg_entry_eq]
  generalize (lg_sl ([.ref r, .int (nI ad)]) ++ List.replicate (8 - (lg_sl ([.ref r, .int (nI ad)])).length) Slot.unset).toArray = ls at hl ⊢
  replace hl : lv_has ls 8 [(0, .ref r), (1, .int (nI ad))] := hl
  obtain ⟨H, hH⟩ : ∃ z : Heap, z = s.heap := ⟨_, rfl⟩
  rw [← hH]
  replace hS : va_S A s.heap H [] := by rw [hH]; exact va_S.rf
  replace hP : va_P (dC, dI) vwCl [(r, .inr (6, [.int rh, .int rl, .ref st, .ref ck, .ref ck, .int 0, .int 1, .int (nI nf), .int (nI ng), .int 0, .ref rf, .int 0])), (st, .inr (8, [.ref ml, .null])), (ml, .inr (0, [.int (nI mc), .ref ed, .int (nI sz0)])), (ed, .inl (cO, 10, .inr (.inr (.inr (.inr fe))))), (ck, .inr (1, [.ref ce, .null])), (ce, .inl (cJ, 128, .inr (.inl fE))), (mm, .inr (4, [.int (nI mi), .int (nI mt), .int (nI mg), .int (nI ms), .int sd, .null])), (rf, .inr (2, [.int (nI fi), .int ff, .int fo, .null]))] H := by rw [hH]; exact hP
  clear hH
  refine lv_aload_n hx hb dX5_writeFirst_0 rfl (lv_at hl 0 rfl) ?_
  refine va_get (D := (dC, dI)) (ci := 6) (v := .int 0) (C := RX5) (T := TX5) (N := 12) hx hb hts in_c_writeFirst_wN_X5 hown hK hP 0 rfl rfl 9 (by decide) (hts (.fieldLink RX5 31 "ClaimBus$Row" "claimWaits" "Z") (List.mem_of_getElem? (i := 1) rfl)) (fun _ h9 => h9) rfl dX5_writeFirst_1 ?_
  refine lv_if_eq (tgt := 28) hx hb dX5_writeFirst_4 (by decide) (fun c_1 => ?_) (fun c_1 => ?_)
  rotate_left
  · exact absurd (by decide) c_1
  refine lv_aload_n hx hb dX5_writeFirst_28 rfl (lv_at hl 0 rfl) ?_
  have hPc := hP.sub (ws' := [(r, .inr (6, [.int rh, .int rl, .ref st, .ref ck, .ref ck, .int 0, .int 1, .int (nI nf), .int (nI ng), .int 0, .ref rf, .int 0])), (ck, .inr (1, [.ref ce, .null])), (ce, .inl (cJ, 128, .inr (.inl fE)))]) [0, 4, 5] rfl
  have hDc := hD.sub (ws' := [(r, .inr (6, [.int rh, .int rl, .ref st, .ref ck, .ref ck, .int 0, .int 1, .int (nI nf), .int (nI ng), .int 0, .ref rf, .int 0])), (ck, .inr (1, [.ref ce, .null])), (ce, .inl (cJ, 128, .inr (.inl fE)))]) [0, 4, 5] (by decide +kernel) rfl
  have hKc := hK.sub (tys' := [(cJ, .long)]) [1] rfl
  have hFc := ro_free hS hA
  refine va_calll (va_runV (As := []) (rest := []) ⟨hx, hb, hml, hown, hts⟩ (c_firstEntry l dC dI (r) (rh) (rl) (st) (rf) (nf) (ng) (ck) (ce) (cJ) (fE) H.size) (cwV 0 hts g_c_writeFirst_wN_c_firstEntry_95 rfl rfl rfl (by decide +kernel) ⟨Nat.le_of_ble_eq_true rfl, Nat.le_of_ble_eq_true rfl⟩) ⟨fun a U g mk q => by obtain ⟨q0, q1, qP, qK, qD, qE⟩ := q; exact ⟨q0, q1, qP, va_K.moved (u := U) (U := U.calling g mk a) (Vm.Alike.refl U.vm) qK, qD, ev.same (u := U) (U := U.calling g mk a) rfl qE⟩, va_recv hKc hPc (ci := 6) (q0 := 0) rfl rfl, fun U hU hW => ⟨rfl, by rw [hU], by rw [hU]; exact hPc, va_K.moved hW.alike hKc, hDc.weaken (fun _ _ _ _ => trivial), hE.warm hW⟩⟩ rfl rfl hl.1 rfl (lv_room (Nat.le_of_ble_eq_true rfl)) dX5_writeFirst_29 ⟨Nat.le_of_ble_eq_true rfl, Nat.le_of_ble_eq_true rfl⟩) hS (fun q _ h => hFc q h) hFc (fun r_2 u t H1 locs ht hvm hw hB hz1 hk1 hS => ?_)
  clear hPc hDc hKc
  replace hP := ro_keep hP hk1
  generalize H1 = H at hP hS ⊢
  replace hP : va_P (dC, dI) vwCl [(r, .inr (6, [.int rh, .int rl, .ref st, .ref ck, .ref ck, .int 0, .int 1, .int (nI nf), .int (nI ng), .int 0, .ref rf, .int 0])), (st, .inr (8, [.ref ml, .null])), (ml, .inr (0, [.int (nI mc), .ref ed, .int (nI sz0)])), (ed, .inl (cO, 10, .inr (.inr (.inr (.inr fe))))), (ck, .inr (1, [.ref ce, .null])), (ce, .inl (cJ, 128, .inr (.inl fE))), (mm, .inr (4, [.int (nI mi), .int (nI mt), .int (nI mg), .int (nI ms), .int sd, .null])), (rf, .inr (2, [.int (nI fi), .int ff, .int fo, .null]))] H := hP
  have hw := hw.symm
  subst hw
  refine lv_lstore_n (lv' := [(2, .long (fE 0)), (0, .ref r), (1, .int (nI ad))]) hx hb dX5_writeFirst_32 rfl hl (by decide) rfl (fun ls hl => ?_)
  refine lv_aload_n hx hb dX5_writeFirst_33 rfl (lv_at hl 1 rfl) ?_
  refine va_get (D := (dC, dI)) (ci := 6) (v := .ref st) (C := RX5) (T := TX5) (N := 12) hx hb hts in_c_writeFirst_wN_X5 hown hK hP 0 rfl rfl 2 (by decide) (hts (.fieldLink RX5 51 "ClaimBus$Row" "store" "LClaimBus$Store;") (List.mem_of_getElem? (i := 6) rfl)) (fun _ h9 => h9) rfl dX5_writeFirst_34 ?_
  refine lv_lload_n hx hb dX5_writeFirst_37 rfl (lv_at hl 0 rfl) ?_
  refine lv_bipush (v := 32) hx hb dX5_writeFirst_38 (by decide) ?_
  refine lv_lshr hx hb dX5_writeFirst_40 rfl ?_
  refine lv_l2i hx hb dX5_writeFirst_41 rfl ?_
  rw [hhi]
  have hPc := hP.sub (ws' := [(st, .inr (8, [.ref ml, .null])), (ml, .inr (0, [.int (nI mc), .ref ed, .int (nI sz0)])), (ed, .inl (cO, 10, .inr (.inr (.inr (.inr fe))))), (mm, .inr (4, [.int (nI mi), .int (nI mt), .int (nI mg), .int (nI ms), .int sd, .null]))]) [1, 2, 3, 6] rfl
  have hDc := hD.sub (ws' := [(st, .inr (8, [.ref ml, .null])), (ml, .inr (0, [.int (nI mc), .ref ed, .int (nI sz0)])), (ed, .inl (cO, 10, .inr (.inr (.inr (.inr fe))))), (mm, .inr (4, [.int (nI mi), .int (nI mt), .int (nI mg), .int (nI ms), .int sd, .null]))]) [1, 2, 3, 6] (by decide +kernel) rfl
  have hKc := hK.sub (tys' := [(cO, (.object "java/lang/Object"))]) [0] rfl
  have hFc := ro_free hS hA
  refine va_callq (va_runV (As := [.int (nI mi)]) (rest := []) ⟨hx, hb, hml, hown, hts⟩ (c_messageAt_null l dC dI (st) (ml) (mc) (ed) (sz0) (cO) (fe) (mm) (mi) (mt) (mg) (ms) (sd) (mi) H.size hel hsz hsz2) (cwV 1 hts g_c_writeFirst_wN_c_messageAt_null_99 rfl rfl rfl (by decide +kernel) ⟨Nat.le_of_ble_eq_true rfl, Nat.le_of_ble_eq_true rfl⟩) ⟨fun a U g mk q => by obtain ⟨q0, q1, qP, qK, qD, qE⟩ := q; exact ⟨q0, q1, qP, va_K.moved (u := U) (U := U.calling g mk a) (Vm.Alike.refl U.vm) qK, qD, ev.same (u := U) (U := U.calling g mk a) rfl qE⟩, va_recv hKc hPc (ci := 8) (q0 := 0) rfl rfl, fun U hU hW => ⟨rfl, by rw [hU], by rw [hU]; exact hPc, va_K.moved hW.alike hKc, hDc.weaken (fun _ _ _ _ => trivial), hE.warm hW⟩⟩ rfl rfl hl.1 rfl (lv_room (Nat.le_of_ble_eq_true rfl)) dX5_writeFirst_42 ⟨Nat.le_of_ble_eq_true rfl, Nat.le_of_ble_eq_true rfl⟩) hS (fun q _ h => hFc q h) hFc (fun r_3 u t H1 locs ht hvm hw hB hz1 hk1 hS => ?_)
  clear hPc hDc hKc
  replace hP := ro_keep hP hk1
  generalize H1 = H at hP hS ⊢
  replace hP : va_P (dC, dI) vwCl [(r, .inr (6, [.int rh, .int rl, .ref st, .ref ck, .ref ck, .int 0, .int 1, .int (nI nf), .int (nI ng), .int 0, .ref rf, .int 0])), (st, .inr (8, [.ref ml, .null])), (ml, .inr (0, [.int (nI mc), .ref ed, .int (nI sz0)])), (ed, .inl (cO, 10, .inr (.inr (.inr (.inr fe))))), (ck, .inr (1, [.ref ce, .null])), (ce, .inl (cJ, 128, .inr (.inl fE))), (mm, .inr (4, [.int (nI mi), .int (nI mt), .int (nI mg), .int (nI ms), .int sd, .null])), (rf, .inr (2, [.int (nI fi), .int ff, .int fo, .null]))] H := hP
  have hw := hw.symm
  subst hw
  refine W.eq (g2 := F0 m 45 ls [.ref mm]) rfl ?_
  refine lv_astore (lv' := [(4, .ref mm), (2, .long (fE 0)), (0, .ref r), (1, .int (nI ad))]) hx hb dX5_writeFirst_45 hl (by decide) rfl (fun ls hl => ?_)
  refine lv_lload_n hx hb dX5_writeFirst_47 rfl (lv_at hl 1 rfl) ?_
  refine lv_l2i hx hb dX5_writeFirst_48 rfl ?_
  rw [hlo]
  refine lv_istore (lv' := [(5, .int (nI (16777216 * to + 65536 * 16 + 256 * se + th))), (4, .ref mm), (2, .long (fE 0)), (0, .ref r), (1, .int (nI ad))]) hx hb dX5_writeFirst_49 hl (by decide) rfl (fun ls hl => ?_)
  refine lv_iload hx hb dX5_writeFirst_51 (lv_at hl 0 rfl) ?_
  refine lv_bipush (v := 24) hx hb dX5_writeFirst_53 (by decide) ?_
  refine lv_iushr (v := (nI to)) hx hb dX5_writeFirst_55 ((pk_ushrN (n := (16777216 * to + 65536 * 16 + 256 * se + th)) (by omega) (24 : Int32) 24 (by decide)).trans (show nI ((16777216 * to + 65536 * 16 + 256 * se + th) / 2 ^ 24) = nI (to) from congrArg nI (by omega))) ?_
  refine lv_istore (lv' := [(6, .int (nI to)), (5, .int (nI (16777216 * to + 65536 * 16 + 256 * se + th))), (4, .ref mm), (2, .long (fE 0)), (0, .ref r), (1, .int (nI ad))]) hx hb dX5_writeFirst_56 hl (by decide) rfl (fun ls hl => ?_)
  refine lv_iload hx hb dX5_writeFirst_58 (lv_at hl 1 rfl) ?_
  refine lv_bipush (v := 16) hx hb dX5_writeFirst_60 (by decide) ?_
  refine lv_iushr (v := (nI (256 * to + 16))) hx hb dX5_writeFirst_62 ((pk_ushrN (n := (16777216 * to + 65536 * 16 + 256 * se + th)) (by omega) (16 : Int32) 16 (by decide)).trans (show nI ((16777216 * to + 65536 * 16 + 256 * se + th) / 2 ^ 16) = nI (256 * to + 16) from congrArg nI (by omega))) ?_
  refine lv_sipush (v := 255) hx hb dX5_writeFirst_63 (by decide) ?_
  refine lv_iand hx hb dX5_writeFirst_66 ?_
  refine lv_topi (fun x_4 ex_4 => ?_)
  obtain rfl : x_4 = 16 := ex_4.trans ((pk_andN (n := (256 * to + 16)) (m := 255) (by omega) 8 (by decide)).trans (show nI ((256 * to + 16) % 2 ^ 8) = nI (16) from congrArg nI (by omega)))
  refine lv_istore (lv' := [(7, .int 16), (6, .int (nI to)), (5, .int (nI (16777216 * to + 65536 * 16 + 256 * se + th))), (4, .ref mm), (2, .long (fE 0)), (0, .ref r), (1, .int (nI ad))]) hx hb dX5_writeFirst_67 hl (by decide) rfl (fun ls hl => ?_)
  refine lv_aload hx hb dX5_writeFirst_69 (lv_at hl 3 rfl) ?_
  refine lv_ifnonnull (tgt := 106) hx hb dX5_writeFirst_71 (by decide) ?_
  refine lv_iload hx hb dX5_writeFirst_106 (lv_at hl 0 rfl) ?_
  refine lv_if_ne (tgt := 124) hx hb dX5_writeFirst_108 (by decide) (fun c_5 => ?_) (fun c_5 => ?_)
  rotate_left
  · exact absurd c_5 (by decide)
  refine lv_iload hx hb dX5_writeFirst_124 (lv_at hl 0 rfl) ?_
  refine lv_sipush (v := 235) hx hb dX5_writeFirst_126 (by decide) ?_
  refine lv_icmp_ne (tgt := 156) hx hb dX5_writeFirst_129 (by decide) (fun c_6 => ?_) (fun c_6 => ?_)
  rotate_left
  · exact absurd c_6 (by decide)
  refine lv_aload hx hb dX5_writeFirst_156 (lv_at hl 3 rfl) ?_
  refine lv_aload_n hx hb dX5_writeFirst_158 rfl (lv_at hl 5 rfl) ?_
  refine va_get (D := (dC, dI)) (ci := 6) (v := .ref rf) (C := RX5) (T := TX5) (N := 12) hx hb hts in_c_writeFirst_wN_X5 hown hK hP 0 rfl rfl 10 (by decide) (hts (.fieldLink RX5 38 "ClaimBus$Row" "first" "LClaimBus$Frame;") (List.mem_of_getElem? (i := 11) rfl)) (fun _ h9 => h9) rfl dX5_writeFirst_159 ?_
  refine lv_sipush (v := 236) hx hb dX5_writeFirst_162 (by decide) ?_
  refine lv_iload hx hb dX5_writeFirst_165 (lv_at hl 1 rfl) ?_
  refine lv_iload_n hx hb dX5_writeFirst_167 rfl (lv_at hl 6 rfl) ?_
  have hPc := hP.sub (ws' := []) [] rfl
  have hDc := hD.sub (ws' := []) [] (by decide +kernel) rfl
  have hKc := hK.sub (tys' := []) [] rfl
  have hFc := ro_free hS hA
  refine va_calli (va_runSN (As := [.int 236, .int (nI to), .int (nI ad)]) (rest := [.ref rf, .ref mm]) ⟨hx, hb, hml, hown, hts⟩ (c_X10_identifier l dC dI (236) (to) (ad) H.size (by omega) h_to h_ad) ⟨va_cnB 3 hts g_c_writeFirst_wN_c_X10_identifier_103 rfl rfl rfl hE.n8 (hts (.initialized RX10) (List.mem_of_getElem? (i := 12) rfl)) (by decide +kernel) ⟨Nat.le_of_ble_eq_true rfl, Nat.le_of_ble_eq_true rfl⟩, (hts (.static yX10_identifier) (List.mem_of_getElem? (i := 13) rfl)), trivial⟩ ⟨fun a U g mk q => by obtain ⟨q0, q1, qP, qK, qD, qE⟩ := q; exact ⟨q0, q1, qP, va_K.moved (u := U) (U := U.calling g mk a) (Vm.Alike.refl U.vm) qK, qD, ev.same (u := U) (U := U.calling g mk a) rfl qE⟩, fun U hU hW => ⟨rfl, by rw [hU], by rw [hU]; exact hPc, va_K.moved hW.alike hKc, hDc.weaken (fun _ _ _ _ => trivial), hE.warm hW⟩⟩ rfl rfl hl.1 rfl (lv_room (Nat.le_of_ble_eq_true rfl)) dX5_writeFirst_168 ⟨Nat.le_of_ble_eq_true rfl, Nat.le_of_ble_eq_true rfl⟩) hS (fun q _ h => hFc q h) hFc (fun r_7 u t H1 locs ht hvm hw hB hz1 hk1 hS => ?_)
  clear hPc hDc hKc
  replace hP := ro_keep hP hk1
  generalize H1 = H at hP hS ⊢
  replace hP : va_P (dC, dI) vwCl [(r, .inr (6, [.int rh, .int rl, .ref st, .ref ck, .ref ck, .int 0, .int 1, .int (nI nf), .int (nI ng), .int 0, .ref rf, .int 0])), (st, .inr (8, [.ref ml, .null])), (ml, .inr (0, [.int (nI mc), .ref ed, .int (nI sz0)])), (ed, .inl (cO, 10, .inr (.inr (.inr (.inr fe))))), (ck, .inr (1, [.ref ce, .null])), (ce, .inl (cJ, 128, .inr (.inl fE))), (mm, .inr (4, [.int (nI mi), .int (nI mt), .int (nI mg), .int (nI ms), .int sd, .null])), (rf, .inr (2, [.int (nI fi), .int ff, .int fo, .null]))] H := hP
  have hw := hw.symm
  subst hw
  refine lv_iload hx hb dX5_writeFirst_171 (lv_at hl 0 rfl) ?_
  refine lv_iload hx hb dX5_writeFirst_173 (lv_at hl 2 rfl) ?_
  refine lv_bipush (v := 8) hx hb dX5_writeFirst_175 (by decide) ?_
  refine lv_iushr (v := (nI (se + 65536 * to + 4096))) hx hb dX5_writeFirst_177 ((pk_ushrN (n := (16777216 * to + 65536 * 16 + 256 * se + th)) (by omega) (8 : Int32) 8 (by decide)).trans (show nI ((16777216 * to + 65536 * 16 + 256 * se + th) / 2 ^ 8) = nI (se + 65536 * to + 4096) from congrArg nI (by omega))) ?_
  refine lv_sipush (v := 255) hx hb dX5_writeFirst_178 (by decide) ?_
  refine lv_iand hx hb dX5_writeFirst_181 ?_
  refine lv_topi (fun x_8 ex_8 => ?_)
  obtain rfl : x_8 = (nI se) := ex_8.trans ((pk_andN (n := (se + 65536 * to + 4096)) (m := 255) (by omega) 8 (by decide)).trans (show nI ((se + 65536 * to + 4096) % 2 ^ 8) = nI (se) from congrArg nI (by omega)))
  refine lv_iload hx hb dX5_writeFirst_182 (lv_at hl 2 rfl) ?_
  refine lv_sipush (v := 255) hx hb dX5_writeFirst_184 (by decide) ?_
  refine lv_iand hx hb dX5_writeFirst_187 ?_
  refine lv_topi (fun x_9 ex_9 => ?_)
  obtain rfl : x_9 = (nI th) := ex_9.trans ((pk_andN (n := (16777216 * to + 65536 * 16 + 256 * se + th)) (m := 255) (by omega) 8 (by decide)).trans (show nI ((16777216 * to + 65536 * 16 + 256 * se + th) % 2 ^ 8) = nI (th) from congrArg nI (by omega)))
  have hPc := hP.sub (ws' := [(mm, .inr (4, [.int (nI mi), .int (nI mt), .int (nI mg), .int (nI ms), .int sd, .null])), (rf, .inr (2, [.int (nI fi), .int ff, .int fo, .null]))]) [6, 7] rfl
  have hDc := hD.sub (ws' := [(mm, .inr (4, [.int (nI mi), .int (nI mt), .int (nI mg), .int (nI ms), .int sd, .null])), (rf, .inr (2, [.int (nI fi), .int ff, .int fo, .null]))]) [6, 7] (by decide +kernel) rfl
  have hKc := hK.sub (tys' := []) [] rfl
  have hFc := va_free (wc := [(mm, .inr (4, [.int (nI mi), .int (nI mt), .int (nI mg), .int (nI ms), .int sd, .null])), (rf, .inr (2, [.int (nI fi), .int ff, .int fo, .null]))]) hD hS hA [6, 7] rfl
  refine va_callv (va_runV (As := [.ref rf, .int (nI (469762048 + 65536 * 236 + 256 * to + ad)), .int 16, .int (nI se), .int (nI th)]) (rest := []) ⟨hx, hb, hml, hown, hts⟩ (c_X3_writeControl_16N l dC dI (mm) (mi) (mt) (mg) (ms) (sd) (rf) (fi) (ff) (fo) ((469762048 + 65536 * 236 + 256 * to + ad)) (se) (th) H.size hmi hmt hmg hms h_se h_th) (cwV 5 hts g_c_writeFirst_wN_c_X3_writeControl_16N_119 rfl rfl rfl (by decide +kernel) ⟨Nat.le_of_ble_eq_true rfl, Nat.le_of_ble_eq_true rfl⟩) ⟨fun a U g mk q => by obtain ⟨q0, q1, qP, qK, qD, qE⟩ := q; exact ⟨q0, q1, qP, va_K.moved (u := U) (U := U.calling g mk a) (Vm.Alike.refl U.vm) qK, qD, ev.same (u := U) (U := U.calling g mk a) rfl qE⟩, va_recv hKc hPc (ci := 4) (q0 := 0) rfl rfl, fun U hU hW => ⟨rfl, by rw [hU], by rw [hU]; exact hPc, va_K.moved hW.alike hKc, hDc.weaken (fun _ _ _ _ => trivial), hE.warm hW⟩⟩ rfl rfl hl.1 rfl (lv_room (Nat.le_of_ble_eq_true rfl)) dX5_writeFirst_188 ⟨Nat.le_of_ble_eq_true rfl, Nat.le_of_ble_eq_true rfl⟩) hS (fun q _ h => hFc q h) hFc (fun u t H1 locs ht hvm hw hB hz1 hk1 hS => ?_)
  clear hPc hDc hKc
  obtain ⟨hP1, hK1, hD1⟩ := hB
  rw [ht] at hP1
  have hK1 := va_K.moved hvm.symm hK1
  obtain ⟨hP, hD⟩ := va_join (wr := [(r, .inr (6, [.int rh, .int rl, .ref st, .ref ck, .ref ck, .int 0, .int 1, .int (nI nf), .int (nI ng), .int 0, .ref rf, .int 0])), (st, .inr (8, [.ref ml, .null])), (ml, .inr (0, [.int (nI mc), .ref ed, .int (nI sz0)])), (ed, .inl (cO, 10, .inr (.inr (.inr (.inr fe))))), (ck, .inr (1, [.ref ce, .null])), (ce, .inl (cJ, 128, .inr (.inl fE)))]) (w1 := [(mm, .inr (4, [.int (nI mi), .int (nI mt), .int (nI mg), .int (nI ms), .int sd, .null])), (rf, .inr (2, [.int (nI (469762048 + 65536 * 236 + 256 * to + ad)), .int (nI (16 + 256 * (ms % 256) + 65536 * (ms / 256) + 16777216 * ((ms + 6) / 7))), .int (nI (se + 256 * mg)), .ref mm]))]) hP hD [6, 7] [0, 1, 2, 3, 4, 5] rfl rfl (by decide +kernel) (by decide +kernel) hk1 hFc hP1 hD1
  generalize H1 = H at hP hS ⊢
  replace hP : va_P (dC, dI) vwCl [(r, .inr (6, [.int rh, .int rl, .ref st, .ref ck, .ref ck, .int 0, .int 1, .int (nI nf), .int (nI ng), .int 0, .ref rf, .int 0])), (st, .inr (8, [.ref ml, .null])), (ml, .inr (0, [.int (nI mc), .ref ed, .int (nI sz0)])), (ed, .inl (cO, 10, .inr (.inr (.inr (.inr fe))))), (ck, .inr (1, [.ref ce, .null])), (ce, .inl (cJ, 128, .inr (.inl fE))), (mm, .inr (4, [.int (nI mi), .int (nI mt), .int (nI mg), .int (nI ms), .int sd, .null])), (rf, .inr (2, [.int (nI (469762048 + 65536 * 236 + 256 * to + ad)), .int (nI (16 + 256 * (ms % 256) + 65536 * (ms / 256) + 16777216 * ((ms + 6) / 7))), .int (nI (se + 256 * mg)), .ref mm]))] H := hP
  replace hD : va_D A [(r, .inr (6, [.int rh, .int rl, .ref st, .ref ck, .ref ck, .int 0, .int 1, .int (nI nf), .int (nI ng), .int 0, .ref rf, .int 0])), (st, .inr (8, [.ref ml, .null])), (ml, .inr (0, [.int (nI mc), .ref ed, .int (nI sz0)])), (ed, .inl (cO, 10, .inr (.inr (.inr (.inr fe))))), (ck, .inr (1, [.ref ce, .null])), (ce, .inl (cJ, 128, .inr (.inl fE))), (mm, .inr (4, [.int (nI mi), .int (nI mt), .int (nI mg), .int (nI ms), .int sd, .null])), (rf, .inr (2, [.int (nI (469762048 + 65536 * 236 + 256 * to + ad)), .int (nI (16 + 256 * (ms % 256) + 65536 * (ms / 256) + 16777216 * ((ms + 6) / 7))), .int (nI (se + 256 * mg)), .ref mm]))] := hD
  clear hw
  have hP9 := hP.sub (ws' := [(r, .inr (6, [.int rh, .int rl, .ref st, .ref ck, .ref ck, .int 0, .int 1, .int (nI nf), .int (nI ng), .int 0, .ref rf, .int 0])), (st, .inr (8, [.ref ml, .null])), (ml, .inr (0, [.int (nI mc), .ref ed, .int (nI sz0)])), (ed, .inl (cO, 10, .inr (.inr (.inr (.inr fe))))), (ck, .inr (1, [.ref ce, .null])), (ce, .inl (cJ, 128, .inr (.inl fE))), (mm, .inr (4, [.int (nI mi), .int (nI mt), .int (nI mg), .int (nI ms), .int sd, .null])), (rf, .inr (2, [.int (nI (469762048 + 65536 * 236 + 256 * to + ad)), .int (nI (16 + 256 * (ms % 256) + 65536 * (ms / 256) + 16777216 * ((ms + 6) / 7))), .int (nI (se + 256 * mg)), .ref mm]))]) [0, 1, 2, 3, 4, 5, 6, 7] rfl
  have hD9 := hD.sub (ws' := [(r, .inr (6, [.int rh, .int rl, .ref st, .ref ck, .ref ck, .int 0, .int 1, .int (nI nf), .int (nI ng), .int 0, .ref rf, .int 0])), (st, .inr (8, [.ref ml, .null])), (ml, .inr (0, [.int (nI mc), .ref ed, .int (nI sz0)])), (ed, .inl (cO, 10, .inr (.inr (.inr (.inr fe))))), (ck, .inr (1, [.ref ce, .null])), (ce, .inl (cJ, 128, .inr (.inl fE))), (mm, .inr (4, [.int (nI mi), .int (nI mt), .int (nI mg), .int (nI ms), .int sd, .null])), (rf, .inr (2, [.int (nI (469762048 + 65536 * 236 + 256 * to + ad)), .int (nI (16 + 256 * (ms % 256) + 65536 * (ms / 256) + 16777216 * ((ms + 6) / 7))), .int (nI (se + 256 * mg)), .ref mm]))]) [0, 1, 2, 3, 4, 5, 6, 7] (by decide +kernel) rfl
  have hK9 := hK.sub (tys' := [(cO, (.object "java/lang/Object")), (cJ, .long)]) [0, 1] rfl
  exact W.vret hx hb hr (fun t ht hW => ⟨⟨(), rfl, trivial, ⟨by rw [ht]; exact hP9, va_K.moved hW.alike hK9, hD9⟩⟩, hS.F ht⟩) hS.2.2 dX5_writeFirst_191

noncomputable def tl_c_first_wN : List Cond := wsX50 ++ (v_c_len_f ++ (v_c_writeFirst_wN))
noncomputable def v_c_first_wN : List Cond := .code yX5_first cX5_first 2 (some (.object "ClaimBus$Frame")) :: ([.initialized RX5, .methodLink RX5 82 yX5_length, .instanceMethod yX5_length, .selects RX5 yX5_length yX5_length, .fieldLink RX5 42 "ClaimBus$Row" "firstIsWritten" "Z", .methodLink RX5 86 yX5_writeFirst, .instanceMethod yX5_writeFirst, .selects RX5 yX5_writeFirst yX5_writeFirst, .fieldLink RX5 38 "ClaimBus$Row" "first" "LClaimBus$Frame;"] ++ tl_c_first_wN)
theorem it_c_first_wN : ∀ w ∈ tl_c_first_wN, w ∈ v_c_first_wN := fun w h => List.mem_cons_of_mem _ (List.mem_append_right _ h)
theorem in_c_first_wN_X5 : ∀ w ∈ wsX50, w ∈ v_c_first_wN := fun w h => it_c_first_wN w (List.mem_append_left _ h)
theorem ic_c_first_wN_c_len_f : ∀ w ∈ v_c_len_f, w ∈ v_c_first_wN := fun w h => it_c_first_wN w (List.mem_append_right _ (List.mem_append_left _ h))
theorem ic_c_first_wN_c_writeFirst_wN : ∀ w ∈ v_c_writeFirst_wN, w ∈ v_c_first_wN := fun w h => it_c_first_wN w (List.mem_append_right _ (List.mem_append_right _ (h)))
theorem gt_c_first_wN : ∀ w ∈ tl_c_first_wN, goodWord w = true := List.forall_mem_append.mpr ⟨gw_wsX50, List.forall_mem_append.mpr ⟨gw_c_len_f, gw_c_writeFirst_wN⟩⟩
theorem gw_c_first_wN : ∀ w ∈ v_c_first_wN, goodWord w = true := List.forall_mem_cons.mpr ⟨by decide +kernel, List.forall_mem_append.mpr ⟨List.all_eq_true.mp (by decide +kernel), gt_c_first_wN⟩⟩
theorem g_c_first_wN_c_len_f_82 : GoodIn v_c_first_wN (wsV RX5 82 RX5 yX5_length v_c_len_f) := goodIn_app (goodIn_r [.methodLink RX5 82 yX5_length, .instanceMethod yX5_length, .selects RX5 yX5_length yX5_length, .initialized RX5] [2, 3, 4, 1] (by decide +kernel) (by decide +kernel)) (fun w h => ⟨ic_c_first_wN_c_len_f w h, good_of_word (gw_c_len_f w h)⟩)
theorem g_c_first_wN_c_writeFirst_wN_86 : GoodIn v_c_first_wN (wsV RX5 86 RX5 yX5_writeFirst v_c_writeFirst_wN) := goodIn_app (goodIn_r [.methodLink RX5 86 yX5_writeFirst, .instanceMethod yX5_writeFirst, .selects RX5 yX5_writeFirst yX5_writeFirst, .initialized RX5] [6, 7, 8, 1] (by decide +kernel) (by decide +kernel)) (fun w h => ⟨ic_c_first_wN_c_writeFirst_wN w h, good_of_word (gw_c_writeFirst_wN w h)⟩)
set_option maxHeartbeats 4000000 in
set_option maxRecDepth 100000 in
theorem c_first_wN (l : Launch) (dC : Nat → ClassId) (dI : Nat → Nat → Nat) (r : Nat) (rh : Int32) (rl : Int32) (st : Nat) (rf : Nat) (nf : Nat) (ng : Nat) (ck : Nat) (ce : Nat) (cJ : ClassId) (fE : Nat → Int64) (ml : Nat) (mc : Nat) (ed : Nat) (sz0 : Nat) (cO : ClassId) (fe : Nat → Option Nat) (mm : Nat) (mi : Nat) (mt : Nat) (mg : Nat) (ms : Nat) (sd : Int32) (fi : Nat) (ff : Int32) (fo : Int32) (to : Nat) (se : Nat) (th : Nat) (ad : Nat) (sz : Nat) (hmi : mi < 8) (hmt : mt < 256) (hmg : mg < 262144) (hms : ms < 1786) (h_to : to < 256) (h_se : se < 256) (h_th : th < 256) (h_ad : ad < 256) (hel : fe mi = some mm) (hsz : mi < sz0) (hsz2 : sz0 ≤ 10) (hnf : 1 ≤ nf) (hlo : (fE 0).toInt32 = (nI (16777216 * to + 65536 * 16 + 256 * se + th))) (hhi : (fE 0 >>> ((32 : Int32).toInt64 &&& 63)).toInt32 = (nI mi)) (hnf3 : nf < 300) : Met l yX5_first v_c_first_wN ({ frames := 5, cells := 0, slots := 0, locals := 112 }) (va_Pc [.ref r, .int (nI ad)] (fun U => U.heap.size = sz ∧ va_P (dC, dI) vwCl [(r, .inr (6, [.int rh, .int rl, .ref st, .ref ck, .ref ck, .int 0, .int 1, .int (nI nf), .int (nI ng), .int 0, .ref rf, .int 0])), (st, .inr (8, [.ref ml, .null])), (ml, .inr (0, [.int (nI mc), .ref ed, .int (nI sz0)])), (ed, .inl (cO, 10, .inr (.inr (.inr (.inr fe))))), (ck, .inr (1, [.ref ce, .null])), (ce, .inl (cJ, 128, .inr (.inl fE))), (mm, .inr (4, [.int (nI mi), .int (nI mt), .int (nI mg), .int (nI ms), .int sd, .null])), (rf, .inr (2, [.int (nI fi), .int ff, .int fo, .null]))] U.heap ∧ va_K (dC, dI) vwCl [(cO, (.object "java/lang/Object")), (cJ, .long)] U ∧ va_D (fun _ => True) [(r, .inr (6, [.int rh, .int rl, .ref st, .ref ck, .ref ck, .int 0, .int 1, .int (nI nf), .int (nI ng), .int 0, .ref rf, .int 0])), (st, .inr (8, [.ref ml, .null])), (ml, .inr (0, [.int (nI mc), .ref ed, .int (nI sz0)])), (ed, .inl (cO, 10, .inr (.inr (.inr (.inr fe))))), (ck, .inr (1, [.ref ce, .null])), (ce, .inl (cJ, 128, .inr (.inl fE))), (mm, .inr (4, [.int (nI mi), .int (nI mt), .int (nI mg), .int (nI ms), .int sd, .null])), (rf, .inr (2, [.int (nI fi), .int ff, .int fo, .null]))] ∧ ev U)) (va_Qq (fun (r : Option Nat) (_ : Unit) => r = some rf) (fun (_ : Unit) (t : State) => va_P (dC, dI) vwCl [(r, .inr (6, [.int rh, .int rl, .ref st, .ref ck, .ref ck, .int 0, .int 1, .int (nI nf), .int (nI ng), .int 0, .ref rf, .int 1])), (st, .inr (8, [.ref ml, .null])), (ml, .inr (0, [.int (nI mc), .ref ed, .int (nI sz0)])), (ed, .inl (cO, 10, .inr (.inr (.inr (.inr fe))))), (ck, .inr (1, [.ref ce, .null])), (ce, .inl (cJ, 128, .inr (.inl fE))), (mm, .inr (4, [.int (nI mi), .int (nI mt), .int (nI mg), .int (nI ms), .int sd, .null])), (rf, .inr (2, [.int (nI (469762048 + 65536 * 236 + 256 * to + ad)), .int (nI (16 + 256 * (ms % 256) + 65536 * (ms / 256) + 16777216 * ((ms + 6) / 7))), .int (nI (se + 256 * mg)), .ref mm]))] t.heap ∧ va_K (dC, dI) vwCl [(cO, (.object "java/lang/Object")), (cJ, .long)] t ∧ va_D (va_A [(r, .inr (6, [.int rh, .int rl, .ref st, .ref ck, .ref ck, .int 0, .int 1, .int (nI nf), .int (nI ng), .int 0, .ref rf, .int 0])), (st, .inr (8, [.ref ml, .null])), (ml, .inr (0, [.int (nI mc), .ref ed, .int (nI sz0)])), (ed, .inl (cO, 10, .inr (.inr (.inr (.inr fe))))), (ck, .inr (1, [.ref ce, .null])), (ce, .inl (cJ, 128, .inr (.inl fE))), (mm, .inr (4, [.int (nI mi), .int (nI mt), .int (nI mg), .int (nI ms), .int sd, .null])), (rf, .inr (2, [.int (nI fi), .int ff, .int fo, .null]))] sz) [(r, .inr (6, [.int rh, .int rl, .ref st, .ref ck, .ref ck, .int 0, .int 1, .int (nI nf), .int (nI ng), .int 0, .ref rf, .int 1])), (st, .inr (8, [.ref ml, .null])), (ml, .inr (0, [.int (nI mc), .ref ed, .int (nI sz0)])), (ed, .inl (cO, 10, .inr (.inr (.inr (.inr fe))))), (ck, .inr (1, [.ref ce, .null])), (ce, .inl (cJ, 128, .inr (.inl fE))), (mm, .inr (4, [.int (nI mi), .int (nI mt), .int (nI mg), .int (nI ms), .int sd, .null])), (rf, .inr (2, [.int (nI (469762048 + 65536 * 236 + 256 * to + ad)), .int (nI (16 + 256 * (ms % 256) + 65536 * (ms / 256) + 16777216 * ((ms + 6) / 7))), .int (nI (se + 256 * mg)), .ref mm]))]) (va_A [(r, .inr (6, [.int rh, .int rl, .ref st, .ref ck, .ref ck, .int 0, .int 1, .int (nI nf), .int (nI ng), .int 0, .ref rf, .int 0])), (st, .inr (8, [.ref ml, .null])), (ml, .inr (0, [.int (nI mc), .ref ed, .int (nI sz0)])), (ed, .inl (cO, 10, .inr (.inr (.inr (.inr fe))))), (ck, .inr (1, [.ref ce, .null])), (ce, .inl (cJ, 128, .inr (.inl fE))), (mm, .inr (4, [.int (nI mi), .int (nI mt), .int (nI mg), .int (nI ms), .int sd, .null])), (rf, .inr (2, [.int (nI fi), .int ff, .int fo, .null]))] sz)) 0 0 (va_A [(r, .inr (6, [.int rh, .int rl, .ref st, .ref ck, .ref ck, .int 0, .int 1, .int (nI nf), .int (nI ng), .int 0, .ref rf, .int 0])), (st, .inr (8, [.ref ml, .null])), (ml, .inr (0, [.int (nI mc), .ref ed, .int (nI sz0)])), (ed, .inl (cO, 10, .inr (.inr (.inr (.inr fe))))), (ck, .inr (1, [.ref ce, .null])), (ce, .inl (cJ, 128, .inr (.inl fE))), (mm, .inr (4, [.int (nI mi), .int (nI mt), .int (nI mg), .int (nI ms), .int sd, .null])), (rf, .inr (2, [.int (nI fi), .int ff, .int fo, .null]))] sz) := by
  refine Met.ofW (cc := cX5_first) (maxL := 2) (ret := (some (.object "ClaimBus$Frame"))) (by decide) rfl ?_
  intro p e s m args below meth c s₁ B hml hv
  obtain ⟨rfl, hsz, hP, hK, hD0, hE⟩ := hv
  have hx := B.exec
  have hb := B.bytes
  have hr := B.returns
  have hts := atoms_spec (ws := v_c_first_wN) B.pre
  have hown : s.vm.findClass RX5 = some m.cls := findClass_of_methodNamed B.named
  have hlocks := B.notSynchronized
  subst hsz
  have hD := hD0.self (sz := s.heap.size)
  generalize hAe : va_A [(r, .inr (6, [.int rh, .int rl, .ref st, .ref ck, .ref ck, .int 0, .int 1, .int (nI nf), .int (nI ng), .int 0, .ref rf, .int 0])), (st, .inr (8, [.ref ml, .null])), (ml, .inr (0, [.int (nI mc), .ref ed, .int (nI sz0)])), (ed, .inl (cO, 10, .inr (.inr (.inr (.inr fe))))), (ck, .inr (1, [.ref ce, .null])), (ce, .inl (cJ, 128, .inr (.inl fE))), (mm, .inr (4, [.int (nI mi), .int (nI mt), .int (nI mg), .int (nI ms), .int sd, .null])), (rf, .inr (2, [.int (nI fi), .int ff, .int fo, .null]))] s.heap.size = A at hD ⊢
  have hA : ∀ q : Nat, s.heap.size ≤ q → A q := fun q h => by rw [← hAe]; exact Or.inr h
  have hS : va_S A s.heap s.heap [] := va_S.rf
  replace hP : va_P (dC, dI) vwCl [(r, .inr (6, [.int rh, .int rl, .ref st, .ref ck, .ref ck, .int 0, .int 1, .int (nI nf), .int (nI ng), .int 0, .ref rf, .int 0])), (st, .inr (8, [.ref ml, .null])), (ml, .inr (0, [.int (nI mc), .ref ed, .int (nI sz0)])), (ed, .inl (cO, 10, .inr (.inr (.inr (.inr fe))))), (ck, .inr (1, [.ref ce, .null])), (ce, .inl (cJ, 128, .inr (.inl fE))), (mm, .inr (4, [.int (nI mi), .int (nI mt), .int (nI mg), .int (nI ms), .int sd, .null])), (rf, .inr (2, [.int (nI fi), .int ff, .int fo, .null]))] s.heap := hP
  have hl := lv_entry ([.ref r, .int (nI ad)]) (n := 2) (Nat.le_of_ble_eq_true rfl)
  rw [lg_entry_eq]
  generalize (lg_sl ([.ref r, .int (nI ad)]) ++ List.replicate (2 - (lg_sl ([.ref r, .int (nI ad)])).length) Slot.unset).toArray = ls at hl ⊢
  replace hl : lv_has ls 2 [(0, .ref r), (1, .int (nI ad))] := hl
  obtain ⟨H, hH⟩ : ∃ z : Heap, z = s.heap := ⟨_, rfl⟩
  rw [← hH]
  replace hS : va_S A s.heap H [] := by rw [hH]; exact va_S.rf
  replace hP : va_P (dC, dI) vwCl [(r, .inr (6, [.int rh, .int rl, .ref st, .ref ck, .ref ck, .int 0, .int 1, .int (nI nf), .int (nI ng), .int 0, .ref rf, .int 0])), (st, .inr (8, [.ref ml, .null])), (ml, .inr (0, [.int (nI mc), .ref ed, .int (nI sz0)])), (ed, .inl (cO, 10, .inr (.inr (.inr (.inr fe))))), (ck, .inr (1, [.ref ce, .null])), (ce, .inl (cJ, 128, .inr (.inl fE))), (mm, .inr (4, [.int (nI mi), .int (nI mt), .int (nI mg), .int (nI ms), .int sd, .null])), (rf, .inr (2, [.int (nI fi), .int ff, .int fo, .null]))] H := by rw [hH]; exact hP
  clear hH
  refine lv_aload_n hx hb dX5_first_0 rfl (lv_at hl 0 rfl) ?_
  have hPc := hP.sub (ws' := [(r, .inr (6, [.int rh, .int rl, .ref st, .ref ck, .ref ck, .int 0, .int 1, .int (nI nf), .int (nI ng), .int 0, .ref rf, .int 0]))]) [0] rfl
  have hDc := hD.sub (ws' := [(r, .inr (6, [.int rh, .int rl, .ref st, .ref ck, .ref ck, .int 0, .int 1, .int (nI nf), .int (nI ng), .int 0, .ref rf, .int 0]))]) [0] (by decide +kernel) rfl
  have hKc := hK.sub (tys' := []) [] rfl
  have hFc := ro_free hS hA
  refine va_calli (va_runV (As := []) (rest := []) ⟨hx, hb, hml, hown, hts⟩ (c_len_f l dC dI (r) (rh) (rl) (st) (rf) (nf) (ng) (ck) H.size) (cwV 0 hts g_c_first_wN_c_len_f_82 rfl rfl rfl (by decide +kernel) ⟨Nat.le_of_ble_eq_true rfl, Nat.le_of_ble_eq_true rfl⟩) ⟨fun a U g mk q => by obtain ⟨q0, q1, qP, qK, qD, qE⟩ := q; exact ⟨q0, q1, qP, va_K.moved (u := U) (U := U.calling g mk a) (Vm.Alike.refl U.vm) qK, qD, ev.same (u := U) (U := U.calling g mk a) rfl qE⟩, va_recv hKc hPc (ci := 6) (q0 := 0) rfl rfl, fun U hU hW => ⟨rfl, by rw [hU], by rw [hU]; exact hPc, va_K.moved hW.alike hKc, hDc.weaken (fun _ _ _ _ => trivial), hE.warm hW⟩⟩ rfl rfl hl.1 rfl (lv_room (Nat.le_of_ble_eq_true rfl)) dX5_first_1 ⟨Nat.le_of_ble_eq_true rfl, Nat.le_of_ble_eq_true rfl⟩) hS (fun q _ h => hFc q h) hFc (fun r_1 u t H1 locs ht hvm hw hB hz1 hk1 hS => ?_)
  clear hPc hDc hKc
  replace hP := ro_keep hP hk1
  generalize H1 = H at hP hS ⊢
  replace hP : va_P (dC, dI) vwCl [(r, .inr (6, [.int rh, .int rl, .ref st, .ref ck, .ref ck, .int 0, .int 1, .int (nI nf), .int (nI ng), .int 0, .ref rf, .int 0])), (st, .inr (8, [.ref ml, .null])), (ml, .inr (0, [.int (nI mc), .ref ed, .int (nI sz0)])), (ed, .inl (cO, 10, .inr (.inr (.inr (.inr fe))))), (ck, .inr (1, [.ref ce, .null])), (ce, .inl (cJ, 128, .inr (.inl fE))), (mm, .inr (4, [.int (nI mi), .int (nI mt), .int (nI mg), .int (nI ms), .int sd, .null])), (rf, .inr (2, [.int (nI fi), .int ff, .int fo, .null]))] H := hP
  have hw := hw.symm
  subst hw
  refine lv_if_ne (tgt := 9) hx hb dX5_first_4 (by decide) (fun c_2 => ?_) (fun c_2 => ?_)
  rotate_left
  · exact absurd ((nI_eq (a := nf) (b := 0) (by omega) (by omega)).mp c_2) (by omega)
  refine lv_aload_n hx hb dX5_first_9 rfl (lv_at hl 0 rfl) ?_
  refine va_get (D := (dC, dI)) (ci := 6) (v := .int 0) (C := RX5) (T := TX5) (N := 12) hx hb hts in_c_first_wN_X5 hown hK hP 0 rfl rfl 11 (by decide) (hts (.fieldLink RX5 42 "ClaimBus$Row" "firstIsWritten" "Z") (List.mem_of_getElem? (i := 5) rfl)) (fun _ h9 => h9) rfl dX5_first_10 ?_
  refine lv_if_ne (tgt := 26) hx hb dX5_first_13 (by decide) (fun c_3 => ?_) (fun c_3 => ?_)
  · exact absurd c_3 (by decide)
  refine lv_aload_n hx hb dX5_first_16 rfl (lv_at hl 0 rfl) ?_
  refine lv_iload_n hx hb dX5_first_17 rfl (lv_at hl 1 rfl) ?_
  have hPc := hP.sub (ws' := [(r, .inr (6, [.int rh, .int rl, .ref st, .ref ck, .ref ck, .int 0, .int 1, .int (nI nf), .int (nI ng), .int 0, .ref rf, .int 0])), (st, .inr (8, [.ref ml, .null])), (ml, .inr (0, [.int (nI mc), .ref ed, .int (nI sz0)])), (ed, .inl (cO, 10, .inr (.inr (.inr (.inr fe))))), (ck, .inr (1, [.ref ce, .null])), (ce, .inl (cJ, 128, .inr (.inl fE))), (mm, .inr (4, [.int (nI mi), .int (nI mt), .int (nI mg), .int (nI ms), .int sd, .null])), (rf, .inr (2, [.int (nI fi), .int ff, .int fo, .null]))]) [0, 1, 2, 3, 4, 5, 6, 7] rfl
  have hDc := hD.sub (ws' := [(r, .inr (6, [.int rh, .int rl, .ref st, .ref ck, .ref ck, .int 0, .int 1, .int (nI nf), .int (nI ng), .int 0, .ref rf, .int 0])), (st, .inr (8, [.ref ml, .null])), (ml, .inr (0, [.int (nI mc), .ref ed, .int (nI sz0)])), (ed, .inl (cO, 10, .inr (.inr (.inr (.inr fe))))), (ck, .inr (1, [.ref ce, .null])), (ce, .inl (cJ, 128, .inr (.inl fE))), (mm, .inr (4, [.int (nI mi), .int (nI mt), .int (nI mg), .int (nI ms), .int sd, .null])), (rf, .inr (2, [.int (nI fi), .int ff, .int fo, .null]))]) [0, 1, 2, 3, 4, 5, 6, 7] (by decide +kernel) rfl
  have hKc := hK.sub (tys' := [(cO, (.object "java/lang/Object")), (cJ, .long)]) [0, 1] rfl
  have hFc := va_free (wc := [(r, .inr (6, [.int rh, .int rl, .ref st, .ref ck, .ref ck, .int 0, .int 1, .int (nI nf), .int (nI ng), .int 0, .ref rf, .int 0])), (st, .inr (8, [.ref ml, .null])), (ml, .inr (0, [.int (nI mc), .ref ed, .int (nI sz0)])), (ed, .inl (cO, 10, .inr (.inr (.inr (.inr fe))))), (ck, .inr (1, [.ref ce, .null])), (ce, .inl (cJ, 128, .inr (.inl fE))), (mm, .inr (4, [.int (nI mi), .int (nI mt), .int (nI mg), .int (nI ms), .int sd, .null])), (rf, .inr (2, [.int (nI fi), .int ff, .int fo, .null]))]) hD hS hA [0, 1, 2, 3, 4, 5, 6, 7] rfl
  refine va_callv (va_runV (As := [.int (nI ad)]) (rest := []) ⟨hx, hb, hml, hown, hts⟩ (c_writeFirst_wN l dC dI (r) (rh) (rl) (st) (rf) (nf) (ng) (ck) (ce) (cJ) (fE) (ml) (mc) (ed) (sz0) (cO) (fe) (mm) (mi) (mt) (mg) (ms) (sd) (fi) (ff) (fo) (to) (se) (th) (ad) H.size hmi hmt hmg hms h_to h_se h_th h_ad hel hsz hsz2 hnf hlo hhi) (cwV 1 hts g_c_first_wN_c_writeFirst_wN_86 rfl rfl rfl (by decide +kernel) ⟨Nat.le_of_ble_eq_true rfl, Nat.le_of_ble_eq_true rfl⟩) ⟨fun a U g mk q => by obtain ⟨q0, q1, qP, qK, qD, qE⟩ := q; exact ⟨q0, q1, qP, va_K.moved (u := U) (U := U.calling g mk a) (Vm.Alike.refl U.vm) qK, qD, ev.same (u := U) (U := U.calling g mk a) rfl qE⟩, va_recv hKc hPc (ci := 6) (q0 := 0) rfl rfl, fun U hU hW => ⟨rfl, by rw [hU], by rw [hU]; exact hPc, va_K.moved hW.alike hKc, hDc.weaken (fun _ _ _ _ => trivial), hE.warm hW⟩⟩ rfl rfl hl.1 rfl (lv_room (Nat.le_of_ble_eq_true rfl)) dX5_first_18 ⟨Nat.le_of_ble_eq_true rfl, Nat.le_of_ble_eq_true rfl⟩) hS (fun q _ h => hFc q h) hFc (fun u t H1 locs ht hvm hw hB hz1 hk1 hS => ?_)
  clear hPc hDc hKc
  obtain ⟨hP1, hK1, hD1⟩ := hB
  rw [ht] at hP1
  have hK1 := va_K.moved hvm.symm hK1
  obtain ⟨hP, hD⟩ := va_join (wr := []) (w1 := [(r, .inr (6, [.int rh, .int rl, .ref st, .ref ck, .ref ck, .int 0, .int 1, .int (nI nf), .int (nI ng), .int 0, .ref rf, .int 0])), (st, .inr (8, [.ref ml, .null])), (ml, .inr (0, [.int (nI mc), .ref ed, .int (nI sz0)])), (ed, .inl (cO, 10, .inr (.inr (.inr (.inr fe))))), (ck, .inr (1, [.ref ce, .null])), (ce, .inl (cJ, 128, .inr (.inl fE))), (mm, .inr (4, [.int (nI mi), .int (nI mt), .int (nI mg), .int (nI ms), .int sd, .null])), (rf, .inr (2, [.int (nI (469762048 + 65536 * 236 + 256 * to + ad)), .int (nI (16 + 256 * (ms % 256) + 65536 * (ms / 256) + 16777216 * ((ms + 6) / 7))), .int (nI (se + 256 * mg)), .ref mm]))]) hP hD [0, 1, 2, 3, 4, 5, 6, 7] [] rfl rfl (by decide +kernel) (by decide +kernel) hk1 hFc hP1 hD1
  generalize H1 = H at hP hS ⊢
  replace hP : va_P (dC, dI) vwCl [(r, .inr (6, [.int rh, .int rl, .ref st, .ref ck, .ref ck, .int 0, .int 1, .int (nI nf), .int (nI ng), .int 0, .ref rf, .int 0])), (st, .inr (8, [.ref ml, .null])), (ml, .inr (0, [.int (nI mc), .ref ed, .int (nI sz0)])), (ed, .inl (cO, 10, .inr (.inr (.inr (.inr fe))))), (ck, .inr (1, [.ref ce, .null])), (ce, .inl (cJ, 128, .inr (.inl fE))), (mm, .inr (4, [.int (nI mi), .int (nI mt), .int (nI mg), .int (nI ms), .int sd, .null])), (rf, .inr (2, [.int (nI (469762048 + 65536 * 236 + 256 * to + ad)), .int (nI (16 + 256 * (ms % 256) + 65536 * (ms / 256) + 16777216 * ((ms + 6) / 7))), .int (nI (se + 256 * mg)), .ref mm]))] H := hP
  replace hD : va_D A [(r, .inr (6, [.int rh, .int rl, .ref st, .ref ck, .ref ck, .int 0, .int 1, .int (nI nf), .int (nI ng), .int 0, .ref rf, .int 0])), (st, .inr (8, [.ref ml, .null])), (ml, .inr (0, [.int (nI mc), .ref ed, .int (nI sz0)])), (ed, .inl (cO, 10, .inr (.inr (.inr (.inr fe))))), (ck, .inr (1, [.ref ce, .null])), (ce, .inl (cJ, 128, .inr (.inl fE))), (mm, .inr (4, [.int (nI mi), .int (nI mt), .int (nI mg), .int (nI ms), .int sd, .null])), (rf, .inr (2, [.int (nI (469762048 + 65536 * 236 + 256 * to + ad)), .int (nI (16 + 256 * (ms % 256) + 65536 * (ms / 256) + 16777216 * ((ms + 6) / 7))), .int (nI (se + 256 * mg)), .ref mm]))] := hD
  clear hw
  refine lv_aload_n hx hb dX5_first_21 rfl (lv_at hl 0 rfl) ?_
  refine lv_iconst (v := 1) hx hb dX5_first_22 (by decide) ?_
  refine va_put (D := (dC, dI)) (ci := 6) (v := .int 1) (ty := .boolean) (C := RX5) (T := TX5) (N := 12) hx hb hts in_c_first_wN_X5 tyX5 tyX5_ok nmX5 hown hK hP hD hS 0 rfl rfl 11 (by decide) (hts (.fieldLink RX5 42 "ClaimBus$Row" "firstIsWritten" "Z") (List.mem_of_getElem? (i := 5) rfl)) (fun _ h9 => h9) rfl (by decide +kernel) rfl rfl (Nat.le_of_ble_eq_true rfl) dX5_first_23 (fun H locs hP hD hS => ?_)
  replace hP : va_P (dC, dI) vwCl [(r, .inr (6, [.int rh, .int rl, .ref st, .ref ck, .ref ck, .int 0, .int 1, .int (nI nf), .int (nI ng), .int 0, .ref rf, .int 1])), (st, .inr (8, [.ref ml, .null])), (ml, .inr (0, [.int (nI mc), .ref ed, .int (nI sz0)])), (ed, .inl (cO, 10, .inr (.inr (.inr (.inr fe))))), (ck, .inr (1, [.ref ce, .null])), (ce, .inl (cJ, 128, .inr (.inl fE))), (mm, .inr (4, [.int (nI mi), .int (nI mt), .int (nI mg), .int (nI ms), .int sd, .null])), (rf, .inr (2, [.int (nI (469762048 + 65536 * 236 + 256 * to + ad)), .int (nI (16 + 256 * (ms % 256) + 65536 * (ms / 256) + 16777216 * ((ms + 6) / 7))), .int (nI (se + 256 * mg)), .ref mm]))] H := hP
  replace hD : va_D A [(r, .inr (6, [.int rh, .int rl, .ref st, .ref ck, .ref ck, .int 0, .int 1, .int (nI nf), .int (nI ng), .int 0, .ref rf, .int 1])), (st, .inr (8, [.ref ml, .null])), (ml, .inr (0, [.int (nI mc), .ref ed, .int (nI sz0)])), (ed, .inl (cO, 10, .inr (.inr (.inr (.inr fe))))), (ck, .inr (1, [.ref ce, .null])), (ce, .inl (cJ, 128, .inr (.inl fE))), (mm, .inr (4, [.int (nI mi), .int (nI mt), .int (nI mg), .int (nI ms), .int sd, .null])), (rf, .inr (2, [.int (nI (469762048 + 65536 * 236 + 256 * to + ad)), .int (nI (16 + 256 * (ms % 256) + 65536 * (ms / 256) + 16777216 * ((ms + 6) / 7))), .int (nI (se + 256 * mg)), .ref mm]))] := hD
  refine lv_aload_n hx hb dX5_first_26 rfl (lv_at hl 0 rfl) ?_
  refine va_get (D := (dC, dI)) (ci := 6) (v := .ref rf) (C := RX5) (T := TX5) (N := 12) hx hb hts in_c_first_wN_X5 hown hK hP 0 rfl rfl 10 (by decide) (hts (.fieldLink RX5 38 "ClaimBus$Row" "first" "LClaimBus$Frame;") (List.mem_of_getElem? (i := 9) rfl)) (fun _ h9 => h9) rfl dX5_first_27 ?_
  have hP9 := hP.sub (ws' := [(r, .inr (6, [.int rh, .int rl, .ref st, .ref ck, .ref ck, .int 0, .int 1, .int (nI nf), .int (nI ng), .int 0, .ref rf, .int 1])), (st, .inr (8, [.ref ml, .null])), (ml, .inr (0, [.int (nI mc), .ref ed, .int (nI sz0)])), (ed, .inl (cO, 10, .inr (.inr (.inr (.inr fe))))), (ck, .inr (1, [.ref ce, .null])), (ce, .inl (cJ, 128, .inr (.inl fE))), (mm, .inr (4, [.int (nI mi), .int (nI mt), .int (nI mg), .int (nI ms), .int sd, .null])), (rf, .inr (2, [.int (nI (469762048 + 65536 * 236 + 256 * to + ad)), .int (nI (16 + 256 * (ms % 256) + 65536 * (ms / 256) + 16777216 * ((ms + 6) / 7))), .int (nI (se + 256 * mg)), .ref mm]))]) [0, 1, 2, 3, 4, 5, 6, 7] rfl
  have hD9 := hD.sub (ws' := [(r, .inr (6, [.int rh, .int rl, .ref st, .ref ck, .ref ck, .int 0, .int 1, .int (nI nf), .int (nI ng), .int 0, .ref rf, .int 1])), (st, .inr (8, [.ref ml, .null])), (ml, .inr (0, [.int (nI mc), .ref ed, .int (nI sz0)])), (ed, .inl (cO, 10, .inr (.inr (.inr (.inr fe))))), (ck, .inr (1, [.ref ce, .null])), (ce, .inl (cJ, 128, .inr (.inl fE))), (mm, .inr (4, [.int (nI mi), .int (nI mt), .int (nI mg), .int (nI ms), .int sd, .null])), (rf, .inr (2, [.int (nI (469762048 + 65536 * 236 + 256 * to + ad)), .int (nI (16 + 256 * (ms % 256) + 65536 * (ms / 256) + 16777216 * ((ms + 6) / 7))), .int (nI (se + 256 * mg)), .ref mm]))]) [0, 1, 2, 3, 4, 5, 6, 7] (by decide +kernel) rfl
  have hK9 := hK.sub (tys' := [(cO, (.object "java/lang/Object")), (cJ, .long)]) [0, 1] rfl
  exact W.aret (v := .ref rf) hx hb hr (Or.inl ⟨_, rfl⟩) (Or.inr ⟨_, rfl⟩) (fun t ht hW => ⟨⟨some rf, (), rfl, rfl, ⟨by rw [ht]; exact hP9, va_K.moved hW.alike hK9, hD9⟩⟩, hS.F ht⟩) hS.2.2 dX5_first_30

noncomputable def tl_c_writeFirst_dN : List Cond := wsX50 ++ (v_c_firstEntry ++ (v_c_messageAt_null ++ (v_c_X10_identifier ++ (v_c_X3_writeControl_19N))))
noncomputable def v_c_writeFirst_dN : List Cond := .code yX5_writeFirst cX5_writeFirst 8 none :: ([.fieldLink RX5 31 "ClaimBus$Row" "claimWaits" "Z", .initialized RX5, .methodLink RX5 95 yX5_firstEntry, .instanceMethod yX5_firstEntry, .selects RX5 yX5_firstEntry yX5_firstEntry, .fieldLink RX5 51 "ClaimBus$Row" "store" "LClaimBus$Store;", .initialized RX7, .methodLink RX5 99 yX7_messageAt, .instanceMethod yX7_messageAt, .selects RX7 yX7_messageAt yX7_messageAt, .fieldLink RX5 38 "ClaimBus$Row" "first" "LClaimBus$Frame;", .initialized RX10, .static yX10_identifier, .initialized RX3, .methodLink RX5 119 yX3_writeControl, .instanceMethod yX3_writeControl, .selects RX3 yX3_writeControl yX3_writeControl] ++ tl_c_writeFirst_dN)
theorem it_c_writeFirst_dN : ∀ w ∈ tl_c_writeFirst_dN, w ∈ v_c_writeFirst_dN := fun w h => List.mem_cons_of_mem _ (List.mem_append_right _ h)
theorem in_c_writeFirst_dN_X5 : ∀ w ∈ wsX50, w ∈ v_c_writeFirst_dN := fun w h => it_c_writeFirst_dN w (List.mem_append_left _ h)
theorem ic_c_writeFirst_dN_c_firstEntry : ∀ w ∈ v_c_firstEntry, w ∈ v_c_writeFirst_dN := fun w h => it_c_writeFirst_dN w (List.mem_append_right _ (List.mem_append_left _ h))
theorem ic_c_writeFirst_dN_c_messageAt_null : ∀ w ∈ v_c_messageAt_null, w ∈ v_c_writeFirst_dN := fun w h => it_c_writeFirst_dN w (List.mem_append_right _ (List.mem_append_right _ (List.mem_append_left _ h)))
theorem ic_c_writeFirst_dN_c_X10_identifier : ∀ w ∈ v_c_X10_identifier, w ∈ v_c_writeFirst_dN := fun w h => it_c_writeFirst_dN w (List.mem_append_right _ (List.mem_append_right _ (List.mem_append_right _ (List.mem_append_left _ h))))
theorem ic_c_writeFirst_dN_c_X3_writeControl_19N : ∀ w ∈ v_c_X3_writeControl_19N, w ∈ v_c_writeFirst_dN := fun w h => it_c_writeFirst_dN w (List.mem_append_right _ (List.mem_append_right _ (List.mem_append_right _ (List.mem_append_right _ (h)))))
theorem gt_c_writeFirst_dN : ∀ w ∈ tl_c_writeFirst_dN, goodWord w = true := List.forall_mem_append.mpr ⟨gw_wsX50, List.forall_mem_append.mpr ⟨gw_c_firstEntry, List.forall_mem_append.mpr ⟨gw_c_messageAt_null, List.forall_mem_append.mpr ⟨gw_c_X10_identifier, gw_c_X3_writeControl_19N⟩⟩⟩⟩
theorem gw_c_writeFirst_dN : ∀ w ∈ v_c_writeFirst_dN, goodWord w = true := List.forall_mem_cons.mpr ⟨by decide +kernel, List.forall_mem_append.mpr ⟨List.all_eq_true.mp (by decide +kernel), gt_c_writeFirst_dN⟩⟩
theorem g_c_writeFirst_dN_c_firstEntry_95 : GoodIn v_c_writeFirst_dN (wsV RX5 95 RX5 yX5_firstEntry v_c_firstEntry) := goodIn_app (goodIn_r [.methodLink RX5 95 yX5_firstEntry, .instanceMethod yX5_firstEntry, .selects RX5 yX5_firstEntry yX5_firstEntry, .initialized RX5] [3, 4, 5, 2] (by decide +kernel) (by decide +kernel)) (fun w h => ⟨ic_c_writeFirst_dN_c_firstEntry w h, good_of_word (gw_c_firstEntry w h)⟩)
theorem g_c_writeFirst_dN_c_messageAt_null_99 : GoodIn v_c_writeFirst_dN (wsV RX5 99 RX7 yX7_messageAt v_c_messageAt_null) := goodIn_app (goodIn_r [.methodLink RX5 99 yX7_messageAt, .instanceMethod yX7_messageAt, .selects RX7 yX7_messageAt yX7_messageAt, .initialized RX7] [8, 9, 10, 7] (by decide +kernel) (by decide +kernel)) (fun w h => ⟨ic_c_writeFirst_dN_c_messageAt_null w h, good_of_word (gw_c_messageAt_null w h)⟩)
theorem g_c_writeFirst_dN_c_X10_identifier_103 : GoodIn v_c_writeFirst_dN v_c_X10_identifier := fun w h => ⟨ic_c_writeFirst_dN_c_X10_identifier w h, good_of_word (gw_c_X10_identifier w h)⟩
theorem g_c_writeFirst_dN_c_X3_writeControl_19N_119 : GoodIn v_c_writeFirst_dN (wsV RX5 119 RX3 yX3_writeControl v_c_X3_writeControl_19N) := goodIn_app (goodIn_r [.methodLink RX5 119 yX3_writeControl, .instanceMethod yX3_writeControl, .selects RX3 yX3_writeControl yX3_writeControl, .initialized RX3] [15, 16, 17, 14] (by decide +kernel) (by decide +kernel)) (fun w h => ⟨ic_c_writeFirst_dN_c_X3_writeControl_19N w h, good_of_word (gw_c_X3_writeControl_19N w h)⟩)
set_option maxHeartbeats 4000000 in
set_option maxRecDepth 100000 in
theorem c_writeFirst_dN (l : Launch) (dC : Nat → ClassId) (dI : Nat → Nat → Nat) (r : Nat) (rh : Int32) (rl : Int32) (st : Nat) (rf : Nat) (nf : Nat) (ng : Nat) (ck : Nat) (ce : Nat) (cJ : ClassId) (fE : Nat → Int64) (ml : Nat) (mc : Nat) (ed : Nat) (sz0 : Nat) (cO : ClassId) (fe : Nat → Option Nat) (mm : Nat) (mi : Nat) (mt : Nat) (mg : Nat) (ms : Nat) (sd : Int32) (fi : Nat) (ff : Int32) (fo : Int32) (to : Nat) (se : Nat) (th : Nat) (ad : Nat) (sz : Nat) (hmi : mi < 8) (hmt : mt < 256) (hmg : mg < 262144) (hms : ms < 1786) (h_to : to < 256) (h_se : se < 256) (h_th : th < 256) (h_ad : ad < 256) (hel : fe mi = some mm) (hsz : mi < sz0) (hsz2 : sz0 ≤ 10) (hnf : 1 ≤ nf) (hlo : (fE 0).toInt32 = (nI (16777216 * to + 65536 * 19 + 256 * se + th))) (hhi : (fE 0 >>> ((32 : Int32).toInt64 &&& 63)).toInt32 = (nI mi)) : Met l yX5_writeFirst v_c_writeFirst_dN ({ frames := 4, cells := 0, slots := 0, locals := 85 }) (va_Pc [.ref r, .int (nI ad)] (fun U => U.heap.size = sz ∧ va_P (dC, dI) vwCl [(r, .inr (6, [.int rh, .int rl, .ref st, .ref ck, .ref ck, .int 0, .int 1, .int (nI nf), .int (nI ng), .int 0, .ref rf, .int 0])), (st, .inr (8, [.ref ml, .null])), (ml, .inr (0, [.int (nI mc), .ref ed, .int (nI sz0)])), (ed, .inl (cO, 10, .inr (.inr (.inr (.inr fe))))), (ck, .inr (1, [.ref ce, .null])), (ce, .inl (cJ, 128, .inr (.inl fE))), (mm, .inr (4, [.int (nI mi), .int (nI mt), .int (nI mg), .int (nI ms), .int sd, .null])), (rf, .inr (2, [.int (nI fi), .int ff, .int fo, .null]))] U.heap ∧ va_K (dC, dI) vwCl [(cO, (.object "java/lang/Object")), (cJ, .long)] U ∧ va_D (fun _ => True) [(r, .inr (6, [.int rh, .int rl, .ref st, .ref ck, .ref ck, .int 0, .int 1, .int (nI nf), .int (nI ng), .int 0, .ref rf, .int 0])), (st, .inr (8, [.ref ml, .null])), (ml, .inr (0, [.int (nI mc), .ref ed, .int (nI sz0)])), (ed, .inl (cO, 10, .inr (.inr (.inr (.inr fe))))), (ck, .inr (1, [.ref ce, .null])), (ce, .inl (cJ, 128, .inr (.inl fE))), (mm, .inr (4, [.int (nI mi), .int (nI mt), .int (nI mg), .int (nI ms), .int sd, .null])), (rf, .inr (2, [.int (nI fi), .int ff, .int fo, .null]))] ∧ ev U)) (va_Qv (fun _ : Unit => True) (fun (_ : Unit) (t : State) => va_P (dC, dI) vwCl [(r, .inr (6, [.int rh, .int rl, .ref st, .ref ck, .ref ck, .int 0, .int 1, .int (nI nf), .int (nI ng), .int 0, .ref rf, .int 0])), (st, .inr (8, [.ref ml, .null])), (ml, .inr (0, [.int (nI mc), .ref ed, .int (nI sz0)])), (ed, .inl (cO, 10, .inr (.inr (.inr (.inr fe))))), (ck, .inr (1, [.ref ce, .null])), (ce, .inl (cJ, 128, .inr (.inl fE))), (mm, .inr (4, [.int (nI mi), .int (nI mt), .int (nI mg), .int (nI ms), .int sd, .null])), (rf, .inr (2, [.int (nI (469762048 + 65536 * 236 + 256 * to + ad)), .int (nI (19 + 256 * (ms % 256) + 65536 * (ms / 256) + 16777216 * ((ms + 6) / 7))), .int (nI (se + 256 * mg)), .ref mm]))] t.heap ∧ va_K (dC, dI) vwCl [(cO, (.object "java/lang/Object")), (cJ, .long)] t ∧ va_D (va_A [(r, .inr (6, [.int rh, .int rl, .ref st, .ref ck, .ref ck, .int 0, .int 1, .int (nI nf), .int (nI ng), .int 0, .ref rf, .int 0])), (st, .inr (8, [.ref ml, .null])), (ml, .inr (0, [.int (nI mc), .ref ed, .int (nI sz0)])), (ed, .inl (cO, 10, .inr (.inr (.inr (.inr fe))))), (ck, .inr (1, [.ref ce, .null])), (ce, .inl (cJ, 128, .inr (.inl fE))), (mm, .inr (4, [.int (nI mi), .int (nI mt), .int (nI mg), .int (nI ms), .int sd, .null])), (rf, .inr (2, [.int (nI fi), .int ff, .int fo, .null]))] sz) [(r, .inr (6, [.int rh, .int rl, .ref st, .ref ck, .ref ck, .int 0, .int 1, .int (nI nf), .int (nI ng), .int 0, .ref rf, .int 0])), (st, .inr (8, [.ref ml, .null])), (ml, .inr (0, [.int (nI mc), .ref ed, .int (nI sz0)])), (ed, .inl (cO, 10, .inr (.inr (.inr (.inr fe))))), (ck, .inr (1, [.ref ce, .null])), (ce, .inl (cJ, 128, .inr (.inl fE))), (mm, .inr (4, [.int (nI mi), .int (nI mt), .int (nI mg), .int (nI ms), .int sd, .null])), (rf, .inr (2, [.int (nI (469762048 + 65536 * 236 + 256 * to + ad)), .int (nI (19 + 256 * (ms % 256) + 65536 * (ms / 256) + 16777216 * ((ms + 6) / 7))), .int (nI (se + 256 * mg)), .ref mm]))]) (va_A [(r, .inr (6, [.int rh, .int rl, .ref st, .ref ck, .ref ck, .int 0, .int 1, .int (nI nf), .int (nI ng), .int 0, .ref rf, .int 0])), (st, .inr (8, [.ref ml, .null])), (ml, .inr (0, [.int (nI mc), .ref ed, .int (nI sz0)])), (ed, .inl (cO, 10, .inr (.inr (.inr (.inr fe))))), (ck, .inr (1, [.ref ce, .null])), (ce, .inl (cJ, 128, .inr (.inl fE))), (mm, .inr (4, [.int (nI mi), .int (nI mt), .int (nI mg), .int (nI ms), .int sd, .null])), (rf, .inr (2, [.int (nI fi), .int ff, .int fo, .null]))] sz)) 0 0 (va_A [(r, .inr (6, [.int rh, .int rl, .ref st, .ref ck, .ref ck, .int 0, .int 1, .int (nI nf), .int (nI ng), .int 0, .ref rf, .int 0])), (st, .inr (8, [.ref ml, .null])), (ml, .inr (0, [.int (nI mc), .ref ed, .int (nI sz0)])), (ed, .inl (cO, 10, .inr (.inr (.inr (.inr fe))))), (ck, .inr (1, [.ref ce, .null])), (ce, .inl (cJ, 128, .inr (.inl fE))), (mm, .inr (4, [.int (nI mi), .int (nI mt), .int (nI mg), .int (nI ms), .int sd, .null])), (rf, .inr (2, [.int (nI fi), .int ff, .int fo, .null]))] sz) := by
  refine Met.ofW (cc := cX5_writeFirst) (maxL := 8) (ret := none) (by decide) rfl ?_
  intro p e s m args below meth c s₁ B hml hv
  obtain ⟨rfl, hsz, hP, hK, hD0, hE⟩ := hv
  have hx := B.exec
  have hb := B.bytes
  have hr := B.returns
  have hts := atoms_spec (ws := v_c_writeFirst_dN) B.pre
  have hown : s.vm.findClass RX5 = some m.cls := findClass_of_methodNamed B.named
  have hlocks := B.notSynchronized
  subst hsz
  have hD := hD0.self (sz := s.heap.size)
  generalize hAe : va_A [(r, .inr (6, [.int rh, .int rl, .ref st, .ref ck, .ref ck, .int 0, .int 1, .int (nI nf), .int (nI ng), .int 0, .ref rf, .int 0])), (st, .inr (8, [.ref ml, .null])), (ml, .inr (0, [.int (nI mc), .ref ed, .int (nI sz0)])), (ed, .inl (cO, 10, .inr (.inr (.inr (.inr fe))))), (ck, .inr (1, [.ref ce, .null])), (ce, .inl (cJ, 128, .inr (.inl fE))), (mm, .inr (4, [.int (nI mi), .int (nI mt), .int (nI mg), .int (nI ms), .int sd, .null])), (rf, .inr (2, [.int (nI fi), .int ff, .int fo, .null]))] s.heap.size = A at hD ⊢
  have hA : ∀ q : Nat, s.heap.size ≤ q → A q := fun q h => by rw [← hAe]; exact Or.inr h
  have hS : va_S A s.heap s.heap [] := va_S.rf
  replace hP : va_P (dC, dI) vwCl [(r, .inr (6, [.int rh, .int rl, .ref st, .ref ck, .ref ck, .int 0, .int 1, .int (nI nf), .int (nI ng), .int 0, .ref rf, .int 0])), (st, .inr (8, [.ref ml, .null])), (ml, .inr (0, [.int (nI mc), .ref ed, .int (nI sz0)])), (ed, .inl (cO, 10, .inr (.inr (.inr (.inr fe))))), (ck, .inr (1, [.ref ce, .null])), (ce, .inl (cJ, 128, .inr (.inl fE))), (mm, .inr (4, [.int (nI mi), .int (nI mt), .int (nI mg), .int (nI ms), .int sd, .null])), (rf, .inr (2, [.int (nI fi), .int ff, .int fo, .null]))] s.heap := hP
  have hl := lv_entry ([.ref r, .int (nI ad)]) (n := 8) (Nat.le_of_ble_eq_true rfl)
  rw [lg_entry_eq]
  generalize (lg_sl ([.ref r, .int (nI ad)]) ++ List.replicate (8 - (lg_sl ([.ref r, .int (nI ad)])).length) Slot.unset).toArray = ls at hl ⊢
  replace hl : lv_has ls 8 [(0, .ref r), (1, .int (nI ad))] := hl
  obtain ⟨H, hH⟩ : ∃ z : Heap, z = s.heap := ⟨_, rfl⟩
  rw [← hH]
  replace hS : va_S A s.heap H [] := by rw [hH]; exact va_S.rf
  replace hP : va_P (dC, dI) vwCl [(r, .inr (6, [.int rh, .int rl, .ref st, .ref ck, .ref ck, .int 0, .int 1, .int (nI nf), .int (nI ng), .int 0, .ref rf, .int 0])), (st, .inr (8, [.ref ml, .null])), (ml, .inr (0, [.int (nI mc), .ref ed, .int (nI sz0)])), (ed, .inl (cO, 10, .inr (.inr (.inr (.inr fe))))), (ck, .inr (1, [.ref ce, .null])), (ce, .inl (cJ, 128, .inr (.inl fE))), (mm, .inr (4, [.int (nI mi), .int (nI mt), .int (nI mg), .int (nI ms), .int sd, .null])), (rf, .inr (2, [.int (nI fi), .int ff, .int fo, .null]))] H := by rw [hH]; exact hP
  clear hH
  refine lv_aload_n hx hb dX5_writeFirst_0 rfl (lv_at hl 0 rfl) ?_
  refine va_get (D := (dC, dI)) (ci := 6) (v := .int 0) (C := RX5) (T := TX5) (N := 12) hx hb hts in_c_writeFirst_dN_X5 hown hK hP 0 rfl rfl 9 (by decide) (hts (.fieldLink RX5 31 "ClaimBus$Row" "claimWaits" "Z") (List.mem_of_getElem? (i := 1) rfl)) (fun _ h9 => h9) rfl dX5_writeFirst_1 ?_
  refine lv_if_eq (tgt := 28) hx hb dX5_writeFirst_4 (by decide) (fun c_1 => ?_) (fun c_1 => ?_)
  rotate_left
  · exact absurd (by decide) c_1
  refine lv_aload_n hx hb dX5_writeFirst_28 rfl (lv_at hl 0 rfl) ?_
  have hPc := hP.sub (ws' := [(r, .inr (6, [.int rh, .int rl, .ref st, .ref ck, .ref ck, .int 0, .int 1, .int (nI nf), .int (nI ng), .int 0, .ref rf, .int 0])), (ck, .inr (1, [.ref ce, .null])), (ce, .inl (cJ, 128, .inr (.inl fE)))]) [0, 4, 5] rfl
  have hDc := hD.sub (ws' := [(r, .inr (6, [.int rh, .int rl, .ref st, .ref ck, .ref ck, .int 0, .int 1, .int (nI nf), .int (nI ng), .int 0, .ref rf, .int 0])), (ck, .inr (1, [.ref ce, .null])), (ce, .inl (cJ, 128, .inr (.inl fE)))]) [0, 4, 5] (by decide +kernel) rfl
  have hKc := hK.sub (tys' := [(cJ, .long)]) [1] rfl
  have hFc := ro_free hS hA
  refine va_calll (va_runV (As := []) (rest := []) ⟨hx, hb, hml, hown, hts⟩ (c_firstEntry l dC dI (r) (rh) (rl) (st) (rf) (nf) (ng) (ck) (ce) (cJ) (fE) H.size) (cwV 0 hts g_c_writeFirst_dN_c_firstEntry_95 rfl rfl rfl (by decide +kernel) ⟨Nat.le_of_ble_eq_true rfl, Nat.le_of_ble_eq_true rfl⟩) ⟨fun a U g mk q => by obtain ⟨q0, q1, qP, qK, qD, qE⟩ := q; exact ⟨q0, q1, qP, va_K.moved (u := U) (U := U.calling g mk a) (Vm.Alike.refl U.vm) qK, qD, ev.same (u := U) (U := U.calling g mk a) rfl qE⟩, va_recv hKc hPc (ci := 6) (q0 := 0) rfl rfl, fun U hU hW => ⟨rfl, by rw [hU], by rw [hU]; exact hPc, va_K.moved hW.alike hKc, hDc.weaken (fun _ _ _ _ => trivial), hE.warm hW⟩⟩ rfl rfl hl.1 rfl (lv_room (Nat.le_of_ble_eq_true rfl)) dX5_writeFirst_29 ⟨Nat.le_of_ble_eq_true rfl, Nat.le_of_ble_eq_true rfl⟩) hS (fun q _ h => hFc q h) hFc (fun r_2 u t H1 locs ht hvm hw hB hz1 hk1 hS => ?_)
  clear hPc hDc hKc
  replace hP := ro_keep hP hk1
  generalize H1 = H at hP hS ⊢
  replace hP : va_P (dC, dI) vwCl [(r, .inr (6, [.int rh, .int rl, .ref st, .ref ck, .ref ck, .int 0, .int 1, .int (nI nf), .int (nI ng), .int 0, .ref rf, .int 0])), (st, .inr (8, [.ref ml, .null])), (ml, .inr (0, [.int (nI mc), .ref ed, .int (nI sz0)])), (ed, .inl (cO, 10, .inr (.inr (.inr (.inr fe))))), (ck, .inr (1, [.ref ce, .null])), (ce, .inl (cJ, 128, .inr (.inl fE))), (mm, .inr (4, [.int (nI mi), .int (nI mt), .int (nI mg), .int (nI ms), .int sd, .null])), (rf, .inr (2, [.int (nI fi), .int ff, .int fo, .null]))] H := hP
  have hw := hw.symm
  subst hw
  refine lv_lstore_n (lv' := [(2, .long (fE 0)), (0, .ref r), (1, .int (nI ad))]) hx hb dX5_writeFirst_32 rfl hl (by decide) rfl (fun ls hl => ?_)
  refine lv_aload_n hx hb dX5_writeFirst_33 rfl (lv_at hl 1 rfl) ?_
  refine va_get (D := (dC, dI)) (ci := 6) (v := .ref st) (C := RX5) (T := TX5) (N := 12) hx hb hts in_c_writeFirst_dN_X5 hown hK hP 0 rfl rfl 2 (by decide) (hts (.fieldLink RX5 51 "ClaimBus$Row" "store" "LClaimBus$Store;") (List.mem_of_getElem? (i := 6) rfl)) (fun _ h9 => h9) rfl dX5_writeFirst_34 ?_
  refine lv_lload_n hx hb dX5_writeFirst_37 rfl (lv_at hl 0 rfl) ?_
  refine lv_bipush (v := 32) hx hb dX5_writeFirst_38 (by decide) ?_
  refine lv_lshr hx hb dX5_writeFirst_40 rfl ?_
  refine lv_l2i hx hb dX5_writeFirst_41 rfl ?_
  rw [hhi]
  have hPc := hP.sub (ws' := [(st, .inr (8, [.ref ml, .null])), (ml, .inr (0, [.int (nI mc), .ref ed, .int (nI sz0)])), (ed, .inl (cO, 10, .inr (.inr (.inr (.inr fe))))), (mm, .inr (4, [.int (nI mi), .int (nI mt), .int (nI mg), .int (nI ms), .int sd, .null]))]) [1, 2, 3, 6] rfl
  have hDc := hD.sub (ws' := [(st, .inr (8, [.ref ml, .null])), (ml, .inr (0, [.int (nI mc), .ref ed, .int (nI sz0)])), (ed, .inl (cO, 10, .inr (.inr (.inr (.inr fe))))), (mm, .inr (4, [.int (nI mi), .int (nI mt), .int (nI mg), .int (nI ms), .int sd, .null]))]) [1, 2, 3, 6] (by decide +kernel) rfl
  have hKc := hK.sub (tys' := [(cO, (.object "java/lang/Object"))]) [0] rfl
  have hFc := ro_free hS hA
  refine va_callq (va_runV (As := [.int (nI mi)]) (rest := []) ⟨hx, hb, hml, hown, hts⟩ (c_messageAt_null l dC dI (st) (ml) (mc) (ed) (sz0) (cO) (fe) (mm) (mi) (mt) (mg) (ms) (sd) (mi) H.size hel hsz hsz2) (cwV 1 hts g_c_writeFirst_dN_c_messageAt_null_99 rfl rfl rfl (by decide +kernel) ⟨Nat.le_of_ble_eq_true rfl, Nat.le_of_ble_eq_true rfl⟩) ⟨fun a U g mk q => by obtain ⟨q0, q1, qP, qK, qD, qE⟩ := q; exact ⟨q0, q1, qP, va_K.moved (u := U) (U := U.calling g mk a) (Vm.Alike.refl U.vm) qK, qD, ev.same (u := U) (U := U.calling g mk a) rfl qE⟩, va_recv hKc hPc (ci := 8) (q0 := 0) rfl rfl, fun U hU hW => ⟨rfl, by rw [hU], by rw [hU]; exact hPc, va_K.moved hW.alike hKc, hDc.weaken (fun _ _ _ _ => trivial), hE.warm hW⟩⟩ rfl rfl hl.1 rfl (lv_room (Nat.le_of_ble_eq_true rfl)) dX5_writeFirst_42 ⟨Nat.le_of_ble_eq_true rfl, Nat.le_of_ble_eq_true rfl⟩) hS (fun q _ h => hFc q h) hFc (fun r_3 u t H1 locs ht hvm hw hB hz1 hk1 hS => ?_)
  clear hPc hDc hKc
  replace hP := ro_keep hP hk1
  generalize H1 = H at hP hS ⊢
  replace hP : va_P (dC, dI) vwCl [(r, .inr (6, [.int rh, .int rl, .ref st, .ref ck, .ref ck, .int 0, .int 1, .int (nI nf), .int (nI ng), .int 0, .ref rf, .int 0])), (st, .inr (8, [.ref ml, .null])), (ml, .inr (0, [.int (nI mc), .ref ed, .int (nI sz0)])), (ed, .inl (cO, 10, .inr (.inr (.inr (.inr fe))))), (ck, .inr (1, [.ref ce, .null])), (ce, .inl (cJ, 128, .inr (.inl fE))), (mm, .inr (4, [.int (nI mi), .int (nI mt), .int (nI mg), .int (nI ms), .int sd, .null])), (rf, .inr (2, [.int (nI fi), .int ff, .int fo, .null]))] H := hP
  have hw := hw.symm
  subst hw
  refine W.eq (g2 := F0 m 45 ls [.ref mm]) rfl ?_
  refine lv_astore (lv' := [(4, .ref mm), (2, .long (fE 0)), (0, .ref r), (1, .int (nI ad))]) hx hb dX5_writeFirst_45 hl (by decide) rfl (fun ls hl => ?_)
  refine lv_lload_n hx hb dX5_writeFirst_47 rfl (lv_at hl 1 rfl) ?_
  refine lv_l2i hx hb dX5_writeFirst_48 rfl ?_
  rw [hlo]
  refine lv_istore (lv' := [(5, .int (nI (16777216 * to + 65536 * 19 + 256 * se + th))), (4, .ref mm), (2, .long (fE 0)), (0, .ref r), (1, .int (nI ad))]) hx hb dX5_writeFirst_49 hl (by decide) rfl (fun ls hl => ?_)
  refine lv_iload hx hb dX5_writeFirst_51 (lv_at hl 0 rfl) ?_
  refine lv_bipush (v := 24) hx hb dX5_writeFirst_53 (by decide) ?_
  refine lv_iushr (v := (nI to)) hx hb dX5_writeFirst_55 ((pk_ushrN (n := (16777216 * to + 65536 * 19 + 256 * se + th)) (by omega) (24 : Int32) 24 (by decide)).trans (show nI ((16777216 * to + 65536 * 19 + 256 * se + th) / 2 ^ 24) = nI (to) from congrArg nI (by omega))) ?_
  refine lv_istore (lv' := [(6, .int (nI to)), (5, .int (nI (16777216 * to + 65536 * 19 + 256 * se + th))), (4, .ref mm), (2, .long (fE 0)), (0, .ref r), (1, .int (nI ad))]) hx hb dX5_writeFirst_56 hl (by decide) rfl (fun ls hl => ?_)
  refine lv_iload hx hb dX5_writeFirst_58 (lv_at hl 1 rfl) ?_
  refine lv_bipush (v := 16) hx hb dX5_writeFirst_60 (by decide) ?_
  refine lv_iushr (v := (nI (256 * to + 19))) hx hb dX5_writeFirst_62 ((pk_ushrN (n := (16777216 * to + 65536 * 19 + 256 * se + th)) (by omega) (16 : Int32) 16 (by decide)).trans (show nI ((16777216 * to + 65536 * 19 + 256 * se + th) / 2 ^ 16) = nI (256 * to + 19) from congrArg nI (by omega))) ?_
  refine lv_sipush (v := 255) hx hb dX5_writeFirst_63 (by decide) ?_
  refine lv_iand hx hb dX5_writeFirst_66 ?_
  refine lv_topi (fun x_4 ex_4 => ?_)
  obtain rfl : x_4 = 19 := ex_4.trans ((pk_andN (n := (256 * to + 19)) (m := 255) (by omega) 8 (by decide)).trans (show nI ((256 * to + 19) % 2 ^ 8) = nI (19) from congrArg nI (by omega)))
  refine lv_istore (lv' := [(7, .int 19), (6, .int (nI to)), (5, .int (nI (16777216 * to + 65536 * 19 + 256 * se + th))), (4, .ref mm), (2, .long (fE 0)), (0, .ref r), (1, .int (nI ad))]) hx hb dX5_writeFirst_67 hl (by decide) rfl (fun ls hl => ?_)
  refine lv_aload hx hb dX5_writeFirst_69 (lv_at hl 3 rfl) ?_
  refine lv_ifnonnull (tgt := 106) hx hb dX5_writeFirst_71 (by decide) ?_
  refine lv_iload hx hb dX5_writeFirst_106 (lv_at hl 0 rfl) ?_
  refine lv_if_ne (tgt := 124) hx hb dX5_writeFirst_108 (by decide) (fun c_5 => ?_) (fun c_5 => ?_)
  rotate_left
  · exact absurd c_5 (by decide)
  refine lv_iload hx hb dX5_writeFirst_124 (lv_at hl 0 rfl) ?_
  refine lv_sipush (v := 235) hx hb dX5_writeFirst_126 (by decide) ?_
  refine lv_icmp_ne (tgt := 156) hx hb dX5_writeFirst_129 (by decide) (fun c_6 => ?_) (fun c_6 => ?_)
  rotate_left
  · exact absurd c_6 (by decide)
  refine lv_aload hx hb dX5_writeFirst_156 (lv_at hl 3 rfl) ?_
  refine lv_aload_n hx hb dX5_writeFirst_158 rfl (lv_at hl 5 rfl) ?_
  refine va_get (D := (dC, dI)) (ci := 6) (v := .ref rf) (C := RX5) (T := TX5) (N := 12) hx hb hts in_c_writeFirst_dN_X5 hown hK hP 0 rfl rfl 10 (by decide) (hts (.fieldLink RX5 38 "ClaimBus$Row" "first" "LClaimBus$Frame;") (List.mem_of_getElem? (i := 11) rfl)) (fun _ h9 => h9) rfl dX5_writeFirst_159 ?_
  refine lv_sipush (v := 236) hx hb dX5_writeFirst_162 (by decide) ?_
  refine lv_iload hx hb dX5_writeFirst_165 (lv_at hl 1 rfl) ?_
  refine lv_iload_n hx hb dX5_writeFirst_167 rfl (lv_at hl 6 rfl) ?_
  have hPc := hP.sub (ws' := []) [] rfl
  have hDc := hD.sub (ws' := []) [] (by decide +kernel) rfl
  have hKc := hK.sub (tys' := []) [] rfl
  have hFc := ro_free hS hA
  refine va_calli (va_runSN (As := [.int 236, .int (nI to), .int (nI ad)]) (rest := [.ref rf, .ref mm]) ⟨hx, hb, hml, hown, hts⟩ (c_X10_identifier l dC dI (236) (to) (ad) H.size (by omega) h_to h_ad) ⟨va_cnB 3 hts g_c_writeFirst_dN_c_X10_identifier_103 rfl rfl rfl hE.n8 (hts (.initialized RX10) (List.mem_of_getElem? (i := 12) rfl)) (by decide +kernel) ⟨Nat.le_of_ble_eq_true rfl, Nat.le_of_ble_eq_true rfl⟩, (hts (.static yX10_identifier) (List.mem_of_getElem? (i := 13) rfl)), trivial⟩ ⟨fun a U g mk q => by obtain ⟨q0, q1, qP, qK, qD, qE⟩ := q; exact ⟨q0, q1, qP, va_K.moved (u := U) (U := U.calling g mk a) (Vm.Alike.refl U.vm) qK, qD, ev.same (u := U) (U := U.calling g mk a) rfl qE⟩, fun U hU hW => ⟨rfl, by rw [hU], by rw [hU]; exact hPc, va_K.moved hW.alike hKc, hDc.weaken (fun _ _ _ _ => trivial), hE.warm hW⟩⟩ rfl rfl hl.1 rfl (lv_room (Nat.le_of_ble_eq_true rfl)) dX5_writeFirst_168 ⟨Nat.le_of_ble_eq_true rfl, Nat.le_of_ble_eq_true rfl⟩) hS (fun q _ h => hFc q h) hFc (fun r_7 u t H1 locs ht hvm hw hB hz1 hk1 hS => ?_)
  clear hPc hDc hKc
  replace hP := ro_keep hP hk1
  generalize H1 = H at hP hS ⊢
  replace hP : va_P (dC, dI) vwCl [(r, .inr (6, [.int rh, .int rl, .ref st, .ref ck, .ref ck, .int 0, .int 1, .int (nI nf), .int (nI ng), .int 0, .ref rf, .int 0])), (st, .inr (8, [.ref ml, .null])), (ml, .inr (0, [.int (nI mc), .ref ed, .int (nI sz0)])), (ed, .inl (cO, 10, .inr (.inr (.inr (.inr fe))))), (ck, .inr (1, [.ref ce, .null])), (ce, .inl (cJ, 128, .inr (.inl fE))), (mm, .inr (4, [.int (nI mi), .int (nI mt), .int (nI mg), .int (nI ms), .int sd, .null])), (rf, .inr (2, [.int (nI fi), .int ff, .int fo, .null]))] H := hP
  have hw := hw.symm
  subst hw
  refine lv_iload hx hb dX5_writeFirst_171 (lv_at hl 0 rfl) ?_
  refine lv_iload hx hb dX5_writeFirst_173 (lv_at hl 2 rfl) ?_
  refine lv_bipush (v := 8) hx hb dX5_writeFirst_175 (by decide) ?_
  refine lv_iushr (v := (nI (se + 65536 * to + 4864))) hx hb dX5_writeFirst_177 ((pk_ushrN (n := (16777216 * to + 65536 * 19 + 256 * se + th)) (by omega) (8 : Int32) 8 (by decide)).trans (show nI ((16777216 * to + 65536 * 19 + 256 * se + th) / 2 ^ 8) = nI (se + 65536 * to + 4864) from congrArg nI (by omega))) ?_
  refine lv_sipush (v := 255) hx hb dX5_writeFirst_178 (by decide) ?_
  refine lv_iand hx hb dX5_writeFirst_181 ?_
  refine lv_topi (fun x_8 ex_8 => ?_)
  obtain rfl : x_8 = (nI se) := ex_8.trans ((pk_andN (n := (se + 65536 * to + 4864)) (m := 255) (by omega) 8 (by decide)).trans (show nI ((se + 65536 * to + 4864) % 2 ^ 8) = nI (se) from congrArg nI (by omega)))
  refine lv_iload hx hb dX5_writeFirst_182 (lv_at hl 2 rfl) ?_
  refine lv_sipush (v := 255) hx hb dX5_writeFirst_184 (by decide) ?_
  refine lv_iand hx hb dX5_writeFirst_187 ?_
  refine lv_topi (fun x_9 ex_9 => ?_)
  obtain rfl : x_9 = (nI th) := ex_9.trans ((pk_andN (n := (16777216 * to + 65536 * 19 + 256 * se + th)) (m := 255) (by omega) 8 (by decide)).trans (show nI ((16777216 * to + 65536 * 19 + 256 * se + th) % 2 ^ 8) = nI (th) from congrArg nI (by omega)))
  have hPc := hP.sub (ws' := [(mm, .inr (4, [.int (nI mi), .int (nI mt), .int (nI mg), .int (nI ms), .int sd, .null])), (rf, .inr (2, [.int (nI fi), .int ff, .int fo, .null]))]) [6, 7] rfl
  have hDc := hD.sub (ws' := [(mm, .inr (4, [.int (nI mi), .int (nI mt), .int (nI mg), .int (nI ms), .int sd, .null])), (rf, .inr (2, [.int (nI fi), .int ff, .int fo, .null]))]) [6, 7] (by decide +kernel) rfl
  have hKc := hK.sub (tys' := []) [] rfl
  have hFc := va_free (wc := [(mm, .inr (4, [.int (nI mi), .int (nI mt), .int (nI mg), .int (nI ms), .int sd, .null])), (rf, .inr (2, [.int (nI fi), .int ff, .int fo, .null]))]) hD hS hA [6, 7] rfl
  refine va_callv (va_runV (As := [.ref rf, .int (nI (469762048 + 65536 * 236 + 256 * to + ad)), .int 19, .int (nI se), .int (nI th)]) (rest := []) ⟨hx, hb, hml, hown, hts⟩ (c_X3_writeControl_19N l dC dI (mm) (mi) (mt) (mg) (ms) (sd) (rf) (fi) (ff) (fo) ((469762048 + 65536 * 236 + 256 * to + ad)) (se) (th) H.size hmi hmt hmg hms h_se h_th) (cwV 5 hts g_c_writeFirst_dN_c_X3_writeControl_19N_119 rfl rfl rfl (by decide +kernel) ⟨Nat.le_of_ble_eq_true rfl, Nat.le_of_ble_eq_true rfl⟩) ⟨fun a U g mk q => by obtain ⟨q0, q1, qP, qK, qD, qE⟩ := q; exact ⟨q0, q1, qP, va_K.moved (u := U) (U := U.calling g mk a) (Vm.Alike.refl U.vm) qK, qD, ev.same (u := U) (U := U.calling g mk a) rfl qE⟩, va_recv hKc hPc (ci := 4) (q0 := 0) rfl rfl, fun U hU hW => ⟨rfl, by rw [hU], by rw [hU]; exact hPc, va_K.moved hW.alike hKc, hDc.weaken (fun _ _ _ _ => trivial), hE.warm hW⟩⟩ rfl rfl hl.1 rfl (lv_room (Nat.le_of_ble_eq_true rfl)) dX5_writeFirst_188 ⟨Nat.le_of_ble_eq_true rfl, Nat.le_of_ble_eq_true rfl⟩) hS (fun q _ h => hFc q h) hFc (fun u t H1 locs ht hvm hw hB hz1 hk1 hS => ?_)
  clear hPc hDc hKc
  obtain ⟨hP1, hK1, hD1⟩ := hB
  rw [ht] at hP1
  have hK1 := va_K.moved hvm.symm hK1
  obtain ⟨hP, hD⟩ := va_join (wr := [(r, .inr (6, [.int rh, .int rl, .ref st, .ref ck, .ref ck, .int 0, .int 1, .int (nI nf), .int (nI ng), .int 0, .ref rf, .int 0])), (st, .inr (8, [.ref ml, .null])), (ml, .inr (0, [.int (nI mc), .ref ed, .int (nI sz0)])), (ed, .inl (cO, 10, .inr (.inr (.inr (.inr fe))))), (ck, .inr (1, [.ref ce, .null])), (ce, .inl (cJ, 128, .inr (.inl fE)))]) (w1 := [(mm, .inr (4, [.int (nI mi), .int (nI mt), .int (nI mg), .int (nI ms), .int sd, .null])), (rf, .inr (2, [.int (nI (469762048 + 65536 * 236 + 256 * to + ad)), .int (nI (19 + 256 * (ms % 256) + 65536 * (ms / 256) + 16777216 * ((ms + 6) / 7))), .int (nI (se + 256 * mg)), .ref mm]))]) hP hD [6, 7] [0, 1, 2, 3, 4, 5] rfl rfl (by decide +kernel) (by decide +kernel) hk1 hFc hP1 hD1
  generalize H1 = H at hP hS ⊢
  replace hP : va_P (dC, dI) vwCl [(r, .inr (6, [.int rh, .int rl, .ref st, .ref ck, .ref ck, .int 0, .int 1, .int (nI nf), .int (nI ng), .int 0, .ref rf, .int 0])), (st, .inr (8, [.ref ml, .null])), (ml, .inr (0, [.int (nI mc), .ref ed, .int (nI sz0)])), (ed, .inl (cO, 10, .inr (.inr (.inr (.inr fe))))), (ck, .inr (1, [.ref ce, .null])), (ce, .inl (cJ, 128, .inr (.inl fE))), (mm, .inr (4, [.int (nI mi), .int (nI mt), .int (nI mg), .int (nI ms), .int sd, .null])), (rf, .inr (2, [.int (nI (469762048 + 65536 * 236 + 256 * to + ad)), .int (nI (19 + 256 * (ms % 256) + 65536 * (ms / 256) + 16777216 * ((ms + 6) / 7))), .int (nI (se + 256 * mg)), .ref mm]))] H := hP
  replace hD : va_D A [(r, .inr (6, [.int rh, .int rl, .ref st, .ref ck, .ref ck, .int 0, .int 1, .int (nI nf), .int (nI ng), .int 0, .ref rf, .int 0])), (st, .inr (8, [.ref ml, .null])), (ml, .inr (0, [.int (nI mc), .ref ed, .int (nI sz0)])), (ed, .inl (cO, 10, .inr (.inr (.inr (.inr fe))))), (ck, .inr (1, [.ref ce, .null])), (ce, .inl (cJ, 128, .inr (.inl fE))), (mm, .inr (4, [.int (nI mi), .int (nI mt), .int (nI mg), .int (nI ms), .int sd, .null])), (rf, .inr (2, [.int (nI (469762048 + 65536 * 236 + 256 * to + ad)), .int (nI (19 + 256 * (ms % 256) + 65536 * (ms / 256) + 16777216 * ((ms + 6) / 7))), .int (nI (se + 256 * mg)), .ref mm]))] := hD
  clear hw
  have hP9 := hP.sub (ws' := [(r, .inr (6, [.int rh, .int rl, .ref st, .ref ck, .ref ck, .int 0, .int 1, .int (nI nf), .int (nI ng), .int 0, .ref rf, .int 0])), (st, .inr (8, [.ref ml, .null])), (ml, .inr (0, [.int (nI mc), .ref ed, .int (nI sz0)])), (ed, .inl (cO, 10, .inr (.inr (.inr (.inr fe))))), (ck, .inr (1, [.ref ce, .null])), (ce, .inl (cJ, 128, .inr (.inl fE))), (mm, .inr (4, [.int (nI mi), .int (nI mt), .int (nI mg), .int (nI ms), .int sd, .null])), (rf, .inr (2, [.int (nI (469762048 + 65536 * 236 + 256 * to + ad)), .int (nI (19 + 256 * (ms % 256) + 65536 * (ms / 256) + 16777216 * ((ms + 6) / 7))), .int (nI (se + 256 * mg)), .ref mm]))]) [0, 1, 2, 3, 4, 5, 6, 7] rfl
  have hD9 := hD.sub (ws' := [(r, .inr (6, [.int rh, .int rl, .ref st, .ref ck, .ref ck, .int 0, .int 1, .int (nI nf), .int (nI ng), .int 0, .ref rf, .int 0])), (st, .inr (8, [.ref ml, .null])), (ml, .inr (0, [.int (nI mc), .ref ed, .int (nI sz0)])), (ed, .inl (cO, 10, .inr (.inr (.inr (.inr fe))))), (ck, .inr (1, [.ref ce, .null])), (ce, .inl (cJ, 128, .inr (.inl fE))), (mm, .inr (4, [.int (nI mi), .int (nI mt), .int (nI mg), .int (nI ms), .int sd, .null])), (rf, .inr (2, [.int (nI (469762048 + 65536 * 236 + 256 * to + ad)), .int (nI (19 + 256 * (ms % 256) + 65536 * (ms / 256) + 16777216 * ((ms + 6) / 7))), .int (nI (se + 256 * mg)), .ref mm]))]) [0, 1, 2, 3, 4, 5, 6, 7] (by decide +kernel) rfl
  have hK9 := hK.sub (tys' := [(cO, (.object "java/lang/Object")), (cJ, .long)]) [0, 1] rfl
  exact W.vret hx hb hr (fun t ht hW => ⟨⟨(), rfl, trivial, ⟨by rw [ht]; exact hP9, va_K.moved hW.alike hK9, hD9⟩⟩, hS.F ht⟩) hS.2.2 dX5_writeFirst_191

noncomputable def tl_c_first_dN : List Cond := wsX50 ++ (v_c_len_f ++ (v_c_writeFirst_dN))
noncomputable def v_c_first_dN : List Cond := .code yX5_first cX5_first 2 (some (.object "ClaimBus$Frame")) :: ([.initialized RX5, .methodLink RX5 82 yX5_length, .instanceMethod yX5_length, .selects RX5 yX5_length yX5_length, .fieldLink RX5 42 "ClaimBus$Row" "firstIsWritten" "Z", .methodLink RX5 86 yX5_writeFirst, .instanceMethod yX5_writeFirst, .selects RX5 yX5_writeFirst yX5_writeFirst, .fieldLink RX5 38 "ClaimBus$Row" "first" "LClaimBus$Frame;"] ++ tl_c_first_dN)
theorem it_c_first_dN : ∀ w ∈ tl_c_first_dN, w ∈ v_c_first_dN := fun w h => List.mem_cons_of_mem _ (List.mem_append_right _ h)
theorem in_c_first_dN_X5 : ∀ w ∈ wsX50, w ∈ v_c_first_dN := fun w h => it_c_first_dN w (List.mem_append_left _ h)
theorem ic_c_first_dN_c_len_f : ∀ w ∈ v_c_len_f, w ∈ v_c_first_dN := fun w h => it_c_first_dN w (List.mem_append_right _ (List.mem_append_left _ h))
theorem ic_c_first_dN_c_writeFirst_dN : ∀ w ∈ v_c_writeFirst_dN, w ∈ v_c_first_dN := fun w h => it_c_first_dN w (List.mem_append_right _ (List.mem_append_right _ (h)))
theorem gt_c_first_dN : ∀ w ∈ tl_c_first_dN, goodWord w = true := List.forall_mem_append.mpr ⟨gw_wsX50, List.forall_mem_append.mpr ⟨gw_c_len_f, gw_c_writeFirst_dN⟩⟩
theorem gw_c_first_dN : ∀ w ∈ v_c_first_dN, goodWord w = true := List.forall_mem_cons.mpr ⟨by decide +kernel, List.forall_mem_append.mpr ⟨List.all_eq_true.mp (by decide +kernel), gt_c_first_dN⟩⟩
theorem g_c_first_dN_c_len_f_82 : GoodIn v_c_first_dN (wsV RX5 82 RX5 yX5_length v_c_len_f) := goodIn_app (goodIn_r [.methodLink RX5 82 yX5_length, .instanceMethod yX5_length, .selects RX5 yX5_length yX5_length, .initialized RX5] [2, 3, 4, 1] (by decide +kernel) (by decide +kernel)) (fun w h => ⟨ic_c_first_dN_c_len_f w h, good_of_word (gw_c_len_f w h)⟩)
theorem g_c_first_dN_c_writeFirst_dN_86 : GoodIn v_c_first_dN (wsV RX5 86 RX5 yX5_writeFirst v_c_writeFirst_dN) := goodIn_app (goodIn_r [.methodLink RX5 86 yX5_writeFirst, .instanceMethod yX5_writeFirst, .selects RX5 yX5_writeFirst yX5_writeFirst, .initialized RX5] [6, 7, 8, 1] (by decide +kernel) (by decide +kernel)) (fun w h => ⟨ic_c_first_dN_c_writeFirst_dN w h, good_of_word (gw_c_writeFirst_dN w h)⟩)
set_option maxHeartbeats 4000000 in
set_option maxRecDepth 100000 in
theorem c_first_dN (l : Launch) (dC : Nat → ClassId) (dI : Nat → Nat → Nat) (r : Nat) (rh : Int32) (rl : Int32) (st : Nat) (rf : Nat) (nf : Nat) (ng : Nat) (ck : Nat) (ce : Nat) (cJ : ClassId) (fE : Nat → Int64) (ml : Nat) (mc : Nat) (ed : Nat) (sz0 : Nat) (cO : ClassId) (fe : Nat → Option Nat) (mm : Nat) (mi : Nat) (mt : Nat) (mg : Nat) (ms : Nat) (sd : Int32) (fi : Nat) (ff : Int32) (fo : Int32) (to : Nat) (se : Nat) (th : Nat) (ad : Nat) (sz : Nat) (hmi : mi < 8) (hmt : mt < 256) (hmg : mg < 262144) (hms : ms < 1786) (h_to : to < 256) (h_se : se < 256) (h_th : th < 256) (h_ad : ad < 256) (hel : fe mi = some mm) (hsz : mi < sz0) (hsz2 : sz0 ≤ 10) (hnf : 1 ≤ nf) (hlo : (fE 0).toInt32 = (nI (16777216 * to + 65536 * 19 + 256 * se + th))) (hhi : (fE 0 >>> ((32 : Int32).toInt64 &&& 63)).toInt32 = (nI mi)) (hnf3 : nf < 300) : Met l yX5_first v_c_first_dN ({ frames := 5, cells := 0, slots := 0, locals := 112 }) (va_Pc [.ref r, .int (nI ad)] (fun U => U.heap.size = sz ∧ va_P (dC, dI) vwCl [(r, .inr (6, [.int rh, .int rl, .ref st, .ref ck, .ref ck, .int 0, .int 1, .int (nI nf), .int (nI ng), .int 0, .ref rf, .int 0])), (st, .inr (8, [.ref ml, .null])), (ml, .inr (0, [.int (nI mc), .ref ed, .int (nI sz0)])), (ed, .inl (cO, 10, .inr (.inr (.inr (.inr fe))))), (ck, .inr (1, [.ref ce, .null])), (ce, .inl (cJ, 128, .inr (.inl fE))), (mm, .inr (4, [.int (nI mi), .int (nI mt), .int (nI mg), .int (nI ms), .int sd, .null])), (rf, .inr (2, [.int (nI fi), .int ff, .int fo, .null]))] U.heap ∧ va_K (dC, dI) vwCl [(cO, (.object "java/lang/Object")), (cJ, .long)] U ∧ va_D (fun _ => True) [(r, .inr (6, [.int rh, .int rl, .ref st, .ref ck, .ref ck, .int 0, .int 1, .int (nI nf), .int (nI ng), .int 0, .ref rf, .int 0])), (st, .inr (8, [.ref ml, .null])), (ml, .inr (0, [.int (nI mc), .ref ed, .int (nI sz0)])), (ed, .inl (cO, 10, .inr (.inr (.inr (.inr fe))))), (ck, .inr (1, [.ref ce, .null])), (ce, .inl (cJ, 128, .inr (.inl fE))), (mm, .inr (4, [.int (nI mi), .int (nI mt), .int (nI mg), .int (nI ms), .int sd, .null])), (rf, .inr (2, [.int (nI fi), .int ff, .int fo, .null]))] ∧ ev U)) (va_Qq (fun (r : Option Nat) (_ : Unit) => r = some rf) (fun (_ : Unit) (t : State) => va_P (dC, dI) vwCl [(r, .inr (6, [.int rh, .int rl, .ref st, .ref ck, .ref ck, .int 0, .int 1, .int (nI nf), .int (nI ng), .int 0, .ref rf, .int 1])), (st, .inr (8, [.ref ml, .null])), (ml, .inr (0, [.int (nI mc), .ref ed, .int (nI sz0)])), (ed, .inl (cO, 10, .inr (.inr (.inr (.inr fe))))), (ck, .inr (1, [.ref ce, .null])), (ce, .inl (cJ, 128, .inr (.inl fE))), (mm, .inr (4, [.int (nI mi), .int (nI mt), .int (nI mg), .int (nI ms), .int sd, .null])), (rf, .inr (2, [.int (nI (469762048 + 65536 * 236 + 256 * to + ad)), .int (nI (19 + 256 * (ms % 256) + 65536 * (ms / 256) + 16777216 * ((ms + 6) / 7))), .int (nI (se + 256 * mg)), .ref mm]))] t.heap ∧ va_K (dC, dI) vwCl [(cO, (.object "java/lang/Object")), (cJ, .long)] t ∧ va_D (va_A [(r, .inr (6, [.int rh, .int rl, .ref st, .ref ck, .ref ck, .int 0, .int 1, .int (nI nf), .int (nI ng), .int 0, .ref rf, .int 0])), (st, .inr (8, [.ref ml, .null])), (ml, .inr (0, [.int (nI mc), .ref ed, .int (nI sz0)])), (ed, .inl (cO, 10, .inr (.inr (.inr (.inr fe))))), (ck, .inr (1, [.ref ce, .null])), (ce, .inl (cJ, 128, .inr (.inl fE))), (mm, .inr (4, [.int (nI mi), .int (nI mt), .int (nI mg), .int (nI ms), .int sd, .null])), (rf, .inr (2, [.int (nI fi), .int ff, .int fo, .null]))] sz) [(r, .inr (6, [.int rh, .int rl, .ref st, .ref ck, .ref ck, .int 0, .int 1, .int (nI nf), .int (nI ng), .int 0, .ref rf, .int 1])), (st, .inr (8, [.ref ml, .null])), (ml, .inr (0, [.int (nI mc), .ref ed, .int (nI sz0)])), (ed, .inl (cO, 10, .inr (.inr (.inr (.inr fe))))), (ck, .inr (1, [.ref ce, .null])), (ce, .inl (cJ, 128, .inr (.inl fE))), (mm, .inr (4, [.int (nI mi), .int (nI mt), .int (nI mg), .int (nI ms), .int sd, .null])), (rf, .inr (2, [.int (nI (469762048 + 65536 * 236 + 256 * to + ad)), .int (nI (19 + 256 * (ms % 256) + 65536 * (ms / 256) + 16777216 * ((ms + 6) / 7))), .int (nI (se + 256 * mg)), .ref mm]))]) (va_A [(r, .inr (6, [.int rh, .int rl, .ref st, .ref ck, .ref ck, .int 0, .int 1, .int (nI nf), .int (nI ng), .int 0, .ref rf, .int 0])), (st, .inr (8, [.ref ml, .null])), (ml, .inr (0, [.int (nI mc), .ref ed, .int (nI sz0)])), (ed, .inl (cO, 10, .inr (.inr (.inr (.inr fe))))), (ck, .inr (1, [.ref ce, .null])), (ce, .inl (cJ, 128, .inr (.inl fE))), (mm, .inr (4, [.int (nI mi), .int (nI mt), .int (nI mg), .int (nI ms), .int sd, .null])), (rf, .inr (2, [.int (nI fi), .int ff, .int fo, .null]))] sz)) 0 0 (va_A [(r, .inr (6, [.int rh, .int rl, .ref st, .ref ck, .ref ck, .int 0, .int 1, .int (nI nf), .int (nI ng), .int 0, .ref rf, .int 0])), (st, .inr (8, [.ref ml, .null])), (ml, .inr (0, [.int (nI mc), .ref ed, .int (nI sz0)])), (ed, .inl (cO, 10, .inr (.inr (.inr (.inr fe))))), (ck, .inr (1, [.ref ce, .null])), (ce, .inl (cJ, 128, .inr (.inl fE))), (mm, .inr (4, [.int (nI mi), .int (nI mt), .int (nI mg), .int (nI ms), .int sd, .null])), (rf, .inr (2, [.int (nI fi), .int ff, .int fo, .null]))] sz) := by
  refine Met.ofW (cc := cX5_first) (maxL := 2) (ret := (some (.object "ClaimBus$Frame"))) (by decide) rfl ?_
  intro p e s m args below meth c s₁ B hml hv
  obtain ⟨rfl, hsz, hP, hK, hD0, hE⟩ := hv
  have hx := B.exec
  have hb := B.bytes
  have hr := B.returns
  have hts := atoms_spec (ws := v_c_first_dN) B.pre
  have hown : s.vm.findClass RX5 = some m.cls := findClass_of_methodNamed B.named
  have hlocks := B.notSynchronized
  subst hsz
  have hD := hD0.self (sz := s.heap.size)
  generalize hAe : va_A [(r, .inr (6, [.int rh, .int rl, .ref st, .ref ck, .ref ck, .int 0, .int 1, .int (nI nf), .int (nI ng), .int 0, .ref rf, .int 0])), (st, .inr (8, [.ref ml, .null])), (ml, .inr (0, [.int (nI mc), .ref ed, .int (nI sz0)])), (ed, .inl (cO, 10, .inr (.inr (.inr (.inr fe))))), (ck, .inr (1, [.ref ce, .null])), (ce, .inl (cJ, 128, .inr (.inl fE))), (mm, .inr (4, [.int (nI mi), .int (nI mt), .int (nI mg), .int (nI ms), .int sd, .null])), (rf, .inr (2, [.int (nI fi), .int ff, .int fo, .null]))] s.heap.size = A at hD ⊢
  have hA : ∀ q : Nat, s.heap.size ≤ q → A q := fun q h => by rw [← hAe]; exact Or.inr h
  have hS : va_S A s.heap s.heap [] := va_S.rf
  replace hP : va_P (dC, dI) vwCl [(r, .inr (6, [.int rh, .int rl, .ref st, .ref ck, .ref ck, .int 0, .int 1, .int (nI nf), .int (nI ng), .int 0, .ref rf, .int 0])), (st, .inr (8, [.ref ml, .null])), (ml, .inr (0, [.int (nI mc), .ref ed, .int (nI sz0)])), (ed, .inl (cO, 10, .inr (.inr (.inr (.inr fe))))), (ck, .inr (1, [.ref ce, .null])), (ce, .inl (cJ, 128, .inr (.inl fE))), (mm, .inr (4, [.int (nI mi), .int (nI mt), .int (nI mg), .int (nI ms), .int sd, .null])), (rf, .inr (2, [.int (nI fi), .int ff, .int fo, .null]))] s.heap := hP
  have hl := lv_entry ([.ref r, .int (nI ad)]) (n := 2) (Nat.le_of_ble_eq_true rfl)
  rw [lg_entry_eq]
  generalize (lg_sl ([.ref r, .int (nI ad)]) ++ List.replicate (2 - (lg_sl ([.ref r, .int (nI ad)])).length) Slot.unset).toArray = ls at hl ⊢
  replace hl : lv_has ls 2 [(0, .ref r), (1, .int (nI ad))] := hl
  obtain ⟨H, hH⟩ : ∃ z : Heap, z = s.heap := ⟨_, rfl⟩
  rw [← hH]
  replace hS : va_S A s.heap H [] := by rw [hH]; exact va_S.rf
  replace hP : va_P (dC, dI) vwCl [(r, .inr (6, [.int rh, .int rl, .ref st, .ref ck, .ref ck, .int 0, .int 1, .int (nI nf), .int (nI ng), .int 0, .ref rf, .int 0])), (st, .inr (8, [.ref ml, .null])), (ml, .inr (0, [.int (nI mc), .ref ed, .int (nI sz0)])), (ed, .inl (cO, 10, .inr (.inr (.inr (.inr fe))))), (ck, .inr (1, [.ref ce, .null])), (ce, .inl (cJ, 128, .inr (.inl fE))), (mm, .inr (4, [.int (nI mi), .int (nI mt), .int (nI mg), .int (nI ms), .int sd, .null])), (rf, .inr (2, [.int (nI fi), .int ff, .int fo, .null]))] H := by rw [hH]; exact hP
  clear hH
  refine lv_aload_n hx hb dX5_first_0 rfl (lv_at hl 0 rfl) ?_
  have hPc := hP.sub (ws' := [(r, .inr (6, [.int rh, .int rl, .ref st, .ref ck, .ref ck, .int 0, .int 1, .int (nI nf), .int (nI ng), .int 0, .ref rf, .int 0]))]) [0] rfl
  have hDc := hD.sub (ws' := [(r, .inr (6, [.int rh, .int rl, .ref st, .ref ck, .ref ck, .int 0, .int 1, .int (nI nf), .int (nI ng), .int 0, .ref rf, .int 0]))]) [0] (by decide +kernel) rfl
  have hKc := hK.sub (tys' := []) [] rfl
  have hFc := ro_free hS hA
  refine va_calli (va_runV (As := []) (rest := []) ⟨hx, hb, hml, hown, hts⟩ (c_len_f l dC dI (r) (rh) (rl) (st) (rf) (nf) (ng) (ck) H.size) (cwV 0 hts g_c_first_dN_c_len_f_82 rfl rfl rfl (by decide +kernel) ⟨Nat.le_of_ble_eq_true rfl, Nat.le_of_ble_eq_true rfl⟩) ⟨fun a U g mk q => by obtain ⟨q0, q1, qP, qK, qD, qE⟩ := q; exact ⟨q0, q1, qP, va_K.moved (u := U) (U := U.calling g mk a) (Vm.Alike.refl U.vm) qK, qD, ev.same (u := U) (U := U.calling g mk a) rfl qE⟩, va_recv hKc hPc (ci := 6) (q0 := 0) rfl rfl, fun U hU hW => ⟨rfl, by rw [hU], by rw [hU]; exact hPc, va_K.moved hW.alike hKc, hDc.weaken (fun _ _ _ _ => trivial), hE.warm hW⟩⟩ rfl rfl hl.1 rfl (lv_room (Nat.le_of_ble_eq_true rfl)) dX5_first_1 ⟨Nat.le_of_ble_eq_true rfl, Nat.le_of_ble_eq_true rfl⟩) hS (fun q _ h => hFc q h) hFc (fun r_1 u t H1 locs ht hvm hw hB hz1 hk1 hS => ?_)
  clear hPc hDc hKc
  replace hP := ro_keep hP hk1
  generalize H1 = H at hP hS ⊢
  replace hP : va_P (dC, dI) vwCl [(r, .inr (6, [.int rh, .int rl, .ref st, .ref ck, .ref ck, .int 0, .int 1, .int (nI nf), .int (nI ng), .int 0, .ref rf, .int 0])), (st, .inr (8, [.ref ml, .null])), (ml, .inr (0, [.int (nI mc), .ref ed, .int (nI sz0)])), (ed, .inl (cO, 10, .inr (.inr (.inr (.inr fe))))), (ck, .inr (1, [.ref ce, .null])), (ce, .inl (cJ, 128, .inr (.inl fE))), (mm, .inr (4, [.int (nI mi), .int (nI mt), .int (nI mg), .int (nI ms), .int sd, .null])), (rf, .inr (2, [.int (nI fi), .int ff, .int fo, .null]))] H := hP
  have hw := hw.symm
  subst hw
  refine lv_if_ne (tgt := 9) hx hb dX5_first_4 (by decide) (fun c_2 => ?_) (fun c_2 => ?_)
  rotate_left
  · exact absurd ((nI_eq (a := nf) (b := 0) (by omega) (by omega)).mp c_2) (by omega)
  refine lv_aload_n hx hb dX5_first_9 rfl (lv_at hl 0 rfl) ?_
  refine va_get (D := (dC, dI)) (ci := 6) (v := .int 0) (C := RX5) (T := TX5) (N := 12) hx hb hts in_c_first_dN_X5 hown hK hP 0 rfl rfl 11 (by decide) (hts (.fieldLink RX5 42 "ClaimBus$Row" "firstIsWritten" "Z") (List.mem_of_getElem? (i := 5) rfl)) (fun _ h9 => h9) rfl dX5_first_10 ?_
  refine lv_if_ne (tgt := 26) hx hb dX5_first_13 (by decide) (fun c_3 => ?_) (fun c_3 => ?_)
  · exact absurd c_3 (by decide)
  refine lv_aload_n hx hb dX5_first_16 rfl (lv_at hl 0 rfl) ?_
  refine lv_iload_n hx hb dX5_first_17 rfl (lv_at hl 1 rfl) ?_
  have hPc := hP.sub (ws' := [(r, .inr (6, [.int rh, .int rl, .ref st, .ref ck, .ref ck, .int 0, .int 1, .int (nI nf), .int (nI ng), .int 0, .ref rf, .int 0])), (st, .inr (8, [.ref ml, .null])), (ml, .inr (0, [.int (nI mc), .ref ed, .int (nI sz0)])), (ed, .inl (cO, 10, .inr (.inr (.inr (.inr fe))))), (ck, .inr (1, [.ref ce, .null])), (ce, .inl (cJ, 128, .inr (.inl fE))), (mm, .inr (4, [.int (nI mi), .int (nI mt), .int (nI mg), .int (nI ms), .int sd, .null])), (rf, .inr (2, [.int (nI fi), .int ff, .int fo, .null]))]) [0, 1, 2, 3, 4, 5, 6, 7] rfl
  have hDc := hD.sub (ws' := [(r, .inr (6, [.int rh, .int rl, .ref st, .ref ck, .ref ck, .int 0, .int 1, .int (nI nf), .int (nI ng), .int 0, .ref rf, .int 0])), (st, .inr (8, [.ref ml, .null])), (ml, .inr (0, [.int (nI mc), .ref ed, .int (nI sz0)])), (ed, .inl (cO, 10, .inr (.inr (.inr (.inr fe))))), (ck, .inr (1, [.ref ce, .null])), (ce, .inl (cJ, 128, .inr (.inl fE))), (mm, .inr (4, [.int (nI mi), .int (nI mt), .int (nI mg), .int (nI ms), .int sd, .null])), (rf, .inr (2, [.int (nI fi), .int ff, .int fo, .null]))]) [0, 1, 2, 3, 4, 5, 6, 7] (by decide +kernel) rfl
  have hKc := hK.sub (tys' := [(cO, (.object "java/lang/Object")), (cJ, .long)]) [0, 1] rfl
  have hFc := va_free (wc := [(r, .inr (6, [.int rh, .int rl, .ref st, .ref ck, .ref ck, .int 0, .int 1, .int (nI nf), .int (nI ng), .int 0, .ref rf, .int 0])), (st, .inr (8, [.ref ml, .null])), (ml, .inr (0, [.int (nI mc), .ref ed, .int (nI sz0)])), (ed, .inl (cO, 10, .inr (.inr (.inr (.inr fe))))), (ck, .inr (1, [.ref ce, .null])), (ce, .inl (cJ, 128, .inr (.inl fE))), (mm, .inr (4, [.int (nI mi), .int (nI mt), .int (nI mg), .int (nI ms), .int sd, .null])), (rf, .inr (2, [.int (nI fi), .int ff, .int fo, .null]))]) hD hS hA [0, 1, 2, 3, 4, 5, 6, 7] rfl
  refine va_callv (va_runV (As := [.int (nI ad)]) (rest := []) ⟨hx, hb, hml, hown, hts⟩ (c_writeFirst_dN l dC dI (r) (rh) (rl) (st) (rf) (nf) (ng) (ck) (ce) (cJ) (fE) (ml) (mc) (ed) (sz0) (cO) (fe) (mm) (mi) (mt) (mg) (ms) (sd) (fi) (ff) (fo) (to) (se) (th) (ad) H.size hmi hmt hmg hms h_to h_se h_th h_ad hel hsz hsz2 hnf hlo hhi) (cwV 1 hts g_c_first_dN_c_writeFirst_dN_86 rfl rfl rfl (by decide +kernel) ⟨Nat.le_of_ble_eq_true rfl, Nat.le_of_ble_eq_true rfl⟩) ⟨fun a U g mk q => by obtain ⟨q0, q1, qP, qK, qD, qE⟩ := q; exact ⟨q0, q1, qP, va_K.moved (u := U) (U := U.calling g mk a) (Vm.Alike.refl U.vm) qK, qD, ev.same (u := U) (U := U.calling g mk a) rfl qE⟩, va_recv hKc hPc (ci := 6) (q0 := 0) rfl rfl, fun U hU hW => ⟨rfl, by rw [hU], by rw [hU]; exact hPc, va_K.moved hW.alike hKc, hDc.weaken (fun _ _ _ _ => trivial), hE.warm hW⟩⟩ rfl rfl hl.1 rfl (lv_room (Nat.le_of_ble_eq_true rfl)) dX5_first_18 ⟨Nat.le_of_ble_eq_true rfl, Nat.le_of_ble_eq_true rfl⟩) hS (fun q _ h => hFc q h) hFc (fun u t H1 locs ht hvm hw hB hz1 hk1 hS => ?_)
  clear hPc hDc hKc
  obtain ⟨hP1, hK1, hD1⟩ := hB
  rw [ht] at hP1
  have hK1 := va_K.moved hvm.symm hK1
  obtain ⟨hP, hD⟩ := va_join (wr := []) (w1 := [(r, .inr (6, [.int rh, .int rl, .ref st, .ref ck, .ref ck, .int 0, .int 1, .int (nI nf), .int (nI ng), .int 0, .ref rf, .int 0])), (st, .inr (8, [.ref ml, .null])), (ml, .inr (0, [.int (nI mc), .ref ed, .int (nI sz0)])), (ed, .inl (cO, 10, .inr (.inr (.inr (.inr fe))))), (ck, .inr (1, [.ref ce, .null])), (ce, .inl (cJ, 128, .inr (.inl fE))), (mm, .inr (4, [.int (nI mi), .int (nI mt), .int (nI mg), .int (nI ms), .int sd, .null])), (rf, .inr (2, [.int (nI (469762048 + 65536 * 236 + 256 * to + ad)), .int (nI (19 + 256 * (ms % 256) + 65536 * (ms / 256) + 16777216 * ((ms + 6) / 7))), .int (nI (se + 256 * mg)), .ref mm]))]) hP hD [0, 1, 2, 3, 4, 5, 6, 7] [] rfl rfl (by decide +kernel) (by decide +kernel) hk1 hFc hP1 hD1
  generalize H1 = H at hP hS ⊢
  replace hP : va_P (dC, dI) vwCl [(r, .inr (6, [.int rh, .int rl, .ref st, .ref ck, .ref ck, .int 0, .int 1, .int (nI nf), .int (nI ng), .int 0, .ref rf, .int 0])), (st, .inr (8, [.ref ml, .null])), (ml, .inr (0, [.int (nI mc), .ref ed, .int (nI sz0)])), (ed, .inl (cO, 10, .inr (.inr (.inr (.inr fe))))), (ck, .inr (1, [.ref ce, .null])), (ce, .inl (cJ, 128, .inr (.inl fE))), (mm, .inr (4, [.int (nI mi), .int (nI mt), .int (nI mg), .int (nI ms), .int sd, .null])), (rf, .inr (2, [.int (nI (469762048 + 65536 * 236 + 256 * to + ad)), .int (nI (19 + 256 * (ms % 256) + 65536 * (ms / 256) + 16777216 * ((ms + 6) / 7))), .int (nI (se + 256 * mg)), .ref mm]))] H := hP
  replace hD : va_D A [(r, .inr (6, [.int rh, .int rl, .ref st, .ref ck, .ref ck, .int 0, .int 1, .int (nI nf), .int (nI ng), .int 0, .ref rf, .int 0])), (st, .inr (8, [.ref ml, .null])), (ml, .inr (0, [.int (nI mc), .ref ed, .int (nI sz0)])), (ed, .inl (cO, 10, .inr (.inr (.inr (.inr fe))))), (ck, .inr (1, [.ref ce, .null])), (ce, .inl (cJ, 128, .inr (.inl fE))), (mm, .inr (4, [.int (nI mi), .int (nI mt), .int (nI mg), .int (nI ms), .int sd, .null])), (rf, .inr (2, [.int (nI (469762048 + 65536 * 236 + 256 * to + ad)), .int (nI (19 + 256 * (ms % 256) + 65536 * (ms / 256) + 16777216 * ((ms + 6) / 7))), .int (nI (se + 256 * mg)), .ref mm]))] := hD
  clear hw
  refine lv_aload_n hx hb dX5_first_21 rfl (lv_at hl 0 rfl) ?_
  refine lv_iconst (v := 1) hx hb dX5_first_22 (by decide) ?_
  refine va_put (D := (dC, dI)) (ci := 6) (v := .int 1) (ty := .boolean) (C := RX5) (T := TX5) (N := 12) hx hb hts in_c_first_dN_X5 tyX5 tyX5_ok nmX5 hown hK hP hD hS 0 rfl rfl 11 (by decide) (hts (.fieldLink RX5 42 "ClaimBus$Row" "firstIsWritten" "Z") (List.mem_of_getElem? (i := 5) rfl)) (fun _ h9 => h9) rfl (by decide +kernel) rfl rfl (Nat.le_of_ble_eq_true rfl) dX5_first_23 (fun H locs hP hD hS => ?_)
  replace hP : va_P (dC, dI) vwCl [(r, .inr (6, [.int rh, .int rl, .ref st, .ref ck, .ref ck, .int 0, .int 1, .int (nI nf), .int (nI ng), .int 0, .ref rf, .int 1])), (st, .inr (8, [.ref ml, .null])), (ml, .inr (0, [.int (nI mc), .ref ed, .int (nI sz0)])), (ed, .inl (cO, 10, .inr (.inr (.inr (.inr fe))))), (ck, .inr (1, [.ref ce, .null])), (ce, .inl (cJ, 128, .inr (.inl fE))), (mm, .inr (4, [.int (nI mi), .int (nI mt), .int (nI mg), .int (nI ms), .int sd, .null])), (rf, .inr (2, [.int (nI (469762048 + 65536 * 236 + 256 * to + ad)), .int (nI (19 + 256 * (ms % 256) + 65536 * (ms / 256) + 16777216 * ((ms + 6) / 7))), .int (nI (se + 256 * mg)), .ref mm]))] H := hP
  replace hD : va_D A [(r, .inr (6, [.int rh, .int rl, .ref st, .ref ck, .ref ck, .int 0, .int 1, .int (nI nf), .int (nI ng), .int 0, .ref rf, .int 1])), (st, .inr (8, [.ref ml, .null])), (ml, .inr (0, [.int (nI mc), .ref ed, .int (nI sz0)])), (ed, .inl (cO, 10, .inr (.inr (.inr (.inr fe))))), (ck, .inr (1, [.ref ce, .null])), (ce, .inl (cJ, 128, .inr (.inl fE))), (mm, .inr (4, [.int (nI mi), .int (nI mt), .int (nI mg), .int (nI ms), .int sd, .null])), (rf, .inr (2, [.int (nI (469762048 + 65536 * 236 + 256 * to + ad)), .int (nI (19 + 256 * (ms % 256) + 65536 * (ms / 256) + 16777216 * ((ms + 6) / 7))), .int (nI (se + 256 * mg)), .ref mm]))] := hD
  refine lv_aload_n hx hb dX5_first_26 rfl (lv_at hl 0 rfl) ?_
  refine va_get (D := (dC, dI)) (ci := 6) (v := .ref rf) (C := RX5) (T := TX5) (N := 12) hx hb hts in_c_first_dN_X5 hown hK hP 0 rfl rfl 10 (by decide) (hts (.fieldLink RX5 38 "ClaimBus$Row" "first" "LClaimBus$Frame;") (List.mem_of_getElem? (i := 9) rfl)) (fun _ h9 => h9) rfl dX5_first_27 ?_
  have hP9 := hP.sub (ws' := [(r, .inr (6, [.int rh, .int rl, .ref st, .ref ck, .ref ck, .int 0, .int 1, .int (nI nf), .int (nI ng), .int 0, .ref rf, .int 1])), (st, .inr (8, [.ref ml, .null])), (ml, .inr (0, [.int (nI mc), .ref ed, .int (nI sz0)])), (ed, .inl (cO, 10, .inr (.inr (.inr (.inr fe))))), (ck, .inr (1, [.ref ce, .null])), (ce, .inl (cJ, 128, .inr (.inl fE))), (mm, .inr (4, [.int (nI mi), .int (nI mt), .int (nI mg), .int (nI ms), .int sd, .null])), (rf, .inr (2, [.int (nI (469762048 + 65536 * 236 + 256 * to + ad)), .int (nI (19 + 256 * (ms % 256) + 65536 * (ms / 256) + 16777216 * ((ms + 6) / 7))), .int (nI (se + 256 * mg)), .ref mm]))]) [0, 1, 2, 3, 4, 5, 6, 7] rfl
  have hD9 := hD.sub (ws' := [(r, .inr (6, [.int rh, .int rl, .ref st, .ref ck, .ref ck, .int 0, .int 1, .int (nI nf), .int (nI ng), .int 0, .ref rf, .int 1])), (st, .inr (8, [.ref ml, .null])), (ml, .inr (0, [.int (nI mc), .ref ed, .int (nI sz0)])), (ed, .inl (cO, 10, .inr (.inr (.inr (.inr fe))))), (ck, .inr (1, [.ref ce, .null])), (ce, .inl (cJ, 128, .inr (.inl fE))), (mm, .inr (4, [.int (nI mi), .int (nI mt), .int (nI mg), .int (nI ms), .int sd, .null])), (rf, .inr (2, [.int (nI (469762048 + 65536 * 236 + 256 * to + ad)), .int (nI (19 + 256 * (ms % 256) + 65536 * (ms / 256) + 16777216 * ((ms + 6) / 7))), .int (nI (se + 256 * mg)), .ref mm]))]) [0, 1, 2, 3, 4, 5, 6, 7] (by decide +kernel) rfl
  have hK9 := hK.sub (tys' := [(cO, (.object "java/lang/Object")), (cJ, .long)]) [0, 1] rfl
  exact W.aret (v := .ref rf) hx hb hr (Or.inl ⟨_, rfl⟩) (Or.inr ⟨_, rfl⟩) (fun t ht hW => ⟨⟨some rf, (), rfl, rfl, ⟨by rw [ht]; exact hP9, va_K.moved hW.alike hK9, hD9⟩⟩, hS.F ht⟩) hS.2.2 dX5_first_30

noncomputable def tl_c_writeFirst_aN : List Cond := wsX50 ++ (v_c_firstEntry ++ (v_c_messageAt_null ++ (v_c_X10_identifier ++ (v_c_X3_writeControl_32N))))
noncomputable def v_c_writeFirst_aN : List Cond := .code yX5_writeFirst cX5_writeFirst 8 none :: ([.fieldLink RX5 31 "ClaimBus$Row" "claimWaits" "Z", .initialized RX5, .methodLink RX5 95 yX5_firstEntry, .instanceMethod yX5_firstEntry, .selects RX5 yX5_firstEntry yX5_firstEntry, .fieldLink RX5 51 "ClaimBus$Row" "store" "LClaimBus$Store;", .initialized RX7, .methodLink RX5 99 yX7_messageAt, .instanceMethod yX7_messageAt, .selects RX7 yX7_messageAt yX7_messageAt, .fieldLink RX5 38 "ClaimBus$Row" "first" "LClaimBus$Frame;", .initialized RX10, .static yX10_identifier, .initialized RX3, .methodLink RX5 119 yX3_writeControl, .instanceMethod yX3_writeControl, .selects RX3 yX3_writeControl yX3_writeControl] ++ tl_c_writeFirst_aN)
theorem it_c_writeFirst_aN : ∀ w ∈ tl_c_writeFirst_aN, w ∈ v_c_writeFirst_aN := fun w h => List.mem_cons_of_mem _ (List.mem_append_right _ h)
theorem in_c_writeFirst_aN_X5 : ∀ w ∈ wsX50, w ∈ v_c_writeFirst_aN := fun w h => it_c_writeFirst_aN w (List.mem_append_left _ h)
theorem ic_c_writeFirst_aN_c_firstEntry : ∀ w ∈ v_c_firstEntry, w ∈ v_c_writeFirst_aN := fun w h => it_c_writeFirst_aN w (List.mem_append_right _ (List.mem_append_left _ h))
theorem ic_c_writeFirst_aN_c_messageAt_null : ∀ w ∈ v_c_messageAt_null, w ∈ v_c_writeFirst_aN := fun w h => it_c_writeFirst_aN w (List.mem_append_right _ (List.mem_append_right _ (List.mem_append_left _ h)))
theorem ic_c_writeFirst_aN_c_X10_identifier : ∀ w ∈ v_c_X10_identifier, w ∈ v_c_writeFirst_aN := fun w h => it_c_writeFirst_aN w (List.mem_append_right _ (List.mem_append_right _ (List.mem_append_right _ (List.mem_append_left _ h))))
theorem ic_c_writeFirst_aN_c_X3_writeControl_32N : ∀ w ∈ v_c_X3_writeControl_32N, w ∈ v_c_writeFirst_aN := fun w h => it_c_writeFirst_aN w (List.mem_append_right _ (List.mem_append_right _ (List.mem_append_right _ (List.mem_append_right _ (h)))))
theorem gt_c_writeFirst_aN : ∀ w ∈ tl_c_writeFirst_aN, goodWord w = true := List.forall_mem_append.mpr ⟨gw_wsX50, List.forall_mem_append.mpr ⟨gw_c_firstEntry, List.forall_mem_append.mpr ⟨gw_c_messageAt_null, List.forall_mem_append.mpr ⟨gw_c_X10_identifier, gw_c_X3_writeControl_32N⟩⟩⟩⟩
theorem gw_c_writeFirst_aN : ∀ w ∈ v_c_writeFirst_aN, goodWord w = true := List.forall_mem_cons.mpr ⟨by decide +kernel, List.forall_mem_append.mpr ⟨List.all_eq_true.mp (by decide +kernel), gt_c_writeFirst_aN⟩⟩
theorem g_c_writeFirst_aN_c_firstEntry_95 : GoodIn v_c_writeFirst_aN (wsV RX5 95 RX5 yX5_firstEntry v_c_firstEntry) := goodIn_app (goodIn_r [.methodLink RX5 95 yX5_firstEntry, .instanceMethod yX5_firstEntry, .selects RX5 yX5_firstEntry yX5_firstEntry, .initialized RX5] [3, 4, 5, 2] (by decide +kernel) (by decide +kernel)) (fun w h => ⟨ic_c_writeFirst_aN_c_firstEntry w h, good_of_word (gw_c_firstEntry w h)⟩)
theorem g_c_writeFirst_aN_c_messageAt_null_99 : GoodIn v_c_writeFirst_aN (wsV RX5 99 RX7 yX7_messageAt v_c_messageAt_null) := goodIn_app (goodIn_r [.methodLink RX5 99 yX7_messageAt, .instanceMethod yX7_messageAt, .selects RX7 yX7_messageAt yX7_messageAt, .initialized RX7] [8, 9, 10, 7] (by decide +kernel) (by decide +kernel)) (fun w h => ⟨ic_c_writeFirst_aN_c_messageAt_null w h, good_of_word (gw_c_messageAt_null w h)⟩)
theorem g_c_writeFirst_aN_c_X10_identifier_103 : GoodIn v_c_writeFirst_aN v_c_X10_identifier := fun w h => ⟨ic_c_writeFirst_aN_c_X10_identifier w h, good_of_word (gw_c_X10_identifier w h)⟩
theorem g_c_writeFirst_aN_c_X3_writeControl_32N_119 : GoodIn v_c_writeFirst_aN (wsV RX5 119 RX3 yX3_writeControl v_c_X3_writeControl_32N) := goodIn_app (goodIn_r [.methodLink RX5 119 yX3_writeControl, .instanceMethod yX3_writeControl, .selects RX3 yX3_writeControl yX3_writeControl, .initialized RX3] [15, 16, 17, 14] (by decide +kernel) (by decide +kernel)) (fun w h => ⟨ic_c_writeFirst_aN_c_X3_writeControl_32N w h, good_of_word (gw_c_X3_writeControl_32N w h)⟩)
set_option maxHeartbeats 4000000 in
set_option maxRecDepth 100000 in
theorem c_writeFirst_aN (l : Launch) (dC : Nat → ClassId) (dI : Nat → Nat → Nat) (r : Nat) (rh : Int32) (rl : Int32) (st : Nat) (rf : Nat) (nf : Nat) (ng : Nat) (ck : Nat) (ce : Nat) (cJ : ClassId) (fE : Nat → Int64) (ml : Nat) (mc : Nat) (ed : Nat) (sz0 : Nat) (cO : ClassId) (fe : Nat → Option Nat) (mm : Nat) (mi : Nat) (mt : Nat) (mg : Nat) (ms : Nat) (sd : Int32) (fi : Nat) (ff : Int32) (fo : Int32) (to : Nat) (se : Nat) (th : Nat) (ad : Nat) (sz : Nat) (hmi : mi < 8) (hmt : mt < 256) (hmg : mg < 262144) (hms : ms < 1786) (h_to : to < 256) (h_se : se < 256) (h_th : th < 256) (h_ad : ad < 256) (hel : fe mi = some mm) (hsz : mi < sz0) (hsz2 : sz0 ≤ 10) (hnf : 1 ≤ nf) (hlo : (fE 0).toInt32 = (nI (16777216 * to + 65536 * 32 + 256 * se + th))) (hhi : (fE 0 >>> ((32 : Int32).toInt64 &&& 63)).toInt32 = (nI mi)) : Met l yX5_writeFirst v_c_writeFirst_aN ({ frames := 4, cells := 0, slots := 0, locals := 85 }) (va_Pc [.ref r, .int (nI ad)] (fun U => U.heap.size = sz ∧ va_P (dC, dI) vwCl [(r, .inr (6, [.int rh, .int rl, .ref st, .ref ck, .ref ck, .int 0, .int 1, .int (nI nf), .int (nI ng), .int 0, .ref rf, .int 0])), (st, .inr (8, [.ref ml, .null])), (ml, .inr (0, [.int (nI mc), .ref ed, .int (nI sz0)])), (ed, .inl (cO, 10, .inr (.inr (.inr (.inr fe))))), (ck, .inr (1, [.ref ce, .null])), (ce, .inl (cJ, 128, .inr (.inl fE))), (mm, .inr (4, [.int (nI mi), .int (nI mt), .int (nI mg), .int (nI ms), .int sd, .null])), (rf, .inr (2, [.int (nI fi), .int ff, .int fo, .null]))] U.heap ∧ va_K (dC, dI) vwCl [(cO, (.object "java/lang/Object")), (cJ, .long)] U ∧ va_D (fun _ => True) [(r, .inr (6, [.int rh, .int rl, .ref st, .ref ck, .ref ck, .int 0, .int 1, .int (nI nf), .int (nI ng), .int 0, .ref rf, .int 0])), (st, .inr (8, [.ref ml, .null])), (ml, .inr (0, [.int (nI mc), .ref ed, .int (nI sz0)])), (ed, .inl (cO, 10, .inr (.inr (.inr (.inr fe))))), (ck, .inr (1, [.ref ce, .null])), (ce, .inl (cJ, 128, .inr (.inl fE))), (mm, .inr (4, [.int (nI mi), .int (nI mt), .int (nI mg), .int (nI ms), .int sd, .null])), (rf, .inr (2, [.int (nI fi), .int ff, .int fo, .null]))] ∧ ev U)) (va_Qv (fun _ : Unit => True) (fun (_ : Unit) (t : State) => va_P (dC, dI) vwCl [(r, .inr (6, [.int rh, .int rl, .ref st, .ref ck, .ref ck, .int 0, .int 1, .int (nI nf), .int (nI ng), .int 0, .ref rf, .int 0])), (st, .inr (8, [.ref ml, .null])), (ml, .inr (0, [.int (nI mc), .ref ed, .int (nI sz0)])), (ed, .inl (cO, 10, .inr (.inr (.inr (.inr fe))))), (ck, .inr (1, [.ref ce, .null])), (ce, .inl (cJ, 128, .inr (.inl fE))), (mm, .inr (4, [.int (nI mi), .int (nI mt), .int (nI mg), .int (nI ms), .int sd, .null])), (rf, .inr (2, [.int (nI (469762048 + 65536 * 236 + 256 * to + ad)), .int (nI (32 + 256 * (ms % 256) + 65536 * (ms / 256) + 16777216 * ((ms + 6) / 7))), .int (nI (se + 256 * mg)), .ref mm]))] t.heap ∧ va_K (dC, dI) vwCl [(cO, (.object "java/lang/Object")), (cJ, .long)] t ∧ va_D (va_A [(r, .inr (6, [.int rh, .int rl, .ref st, .ref ck, .ref ck, .int 0, .int 1, .int (nI nf), .int (nI ng), .int 0, .ref rf, .int 0])), (st, .inr (8, [.ref ml, .null])), (ml, .inr (0, [.int (nI mc), .ref ed, .int (nI sz0)])), (ed, .inl (cO, 10, .inr (.inr (.inr (.inr fe))))), (ck, .inr (1, [.ref ce, .null])), (ce, .inl (cJ, 128, .inr (.inl fE))), (mm, .inr (4, [.int (nI mi), .int (nI mt), .int (nI mg), .int (nI ms), .int sd, .null])), (rf, .inr (2, [.int (nI fi), .int ff, .int fo, .null]))] sz) [(r, .inr (6, [.int rh, .int rl, .ref st, .ref ck, .ref ck, .int 0, .int 1, .int (nI nf), .int (nI ng), .int 0, .ref rf, .int 0])), (st, .inr (8, [.ref ml, .null])), (ml, .inr (0, [.int (nI mc), .ref ed, .int (nI sz0)])), (ed, .inl (cO, 10, .inr (.inr (.inr (.inr fe))))), (ck, .inr (1, [.ref ce, .null])), (ce, .inl (cJ, 128, .inr (.inl fE))), (mm, .inr (4, [.int (nI mi), .int (nI mt), .int (nI mg), .int (nI ms), .int sd, .null])), (rf, .inr (2, [.int (nI (469762048 + 65536 * 236 + 256 * to + ad)), .int (nI (32 + 256 * (ms % 256) + 65536 * (ms / 256) + 16777216 * ((ms + 6) / 7))), .int (nI (se + 256 * mg)), .ref mm]))]) (va_A [(r, .inr (6, [.int rh, .int rl, .ref st, .ref ck, .ref ck, .int 0, .int 1, .int (nI nf), .int (nI ng), .int 0, .ref rf, .int 0])), (st, .inr (8, [.ref ml, .null])), (ml, .inr (0, [.int (nI mc), .ref ed, .int (nI sz0)])), (ed, .inl (cO, 10, .inr (.inr (.inr (.inr fe))))), (ck, .inr (1, [.ref ce, .null])), (ce, .inl (cJ, 128, .inr (.inl fE))), (mm, .inr (4, [.int (nI mi), .int (nI mt), .int (nI mg), .int (nI ms), .int sd, .null])), (rf, .inr (2, [.int (nI fi), .int ff, .int fo, .null]))] sz)) 0 0 (va_A [(r, .inr (6, [.int rh, .int rl, .ref st, .ref ck, .ref ck, .int 0, .int 1, .int (nI nf), .int (nI ng), .int 0, .ref rf, .int 0])), (st, .inr (8, [.ref ml, .null])), (ml, .inr (0, [.int (nI mc), .ref ed, .int (nI sz0)])), (ed, .inl (cO, 10, .inr (.inr (.inr (.inr fe))))), (ck, .inr (1, [.ref ce, .null])), (ce, .inl (cJ, 128, .inr (.inl fE))), (mm, .inr (4, [.int (nI mi), .int (nI mt), .int (nI mg), .int (nI ms), .int sd, .null])), (rf, .inr (2, [.int (nI fi), .int ff, .int fo, .null]))] sz) := by
  refine Met.ofW (cc := cX5_writeFirst) (maxL := 8) (ret := none) (by decide) rfl ?_
  intro p e s m args below meth c s₁ B hml hv
  obtain ⟨rfl, hsz, hP, hK, hD0, hE⟩ := hv
  have hx := B.exec
  have hb := B.bytes
  have hr := B.returns
  have hts := atoms_spec (ws := v_c_writeFirst_aN) B.pre
  have hown : s.vm.findClass RX5 = some m.cls := findClass_of_methodNamed B.named
  have hlocks := B.notSynchronized
  subst hsz
  have hD := hD0.self (sz := s.heap.size)
  generalize hAe : va_A [(r, .inr (6, [.int rh, .int rl, .ref st, .ref ck, .ref ck, .int 0, .int 1, .int (nI nf), .int (nI ng), .int 0, .ref rf, .int 0])), (st, .inr (8, [.ref ml, .null])), (ml, .inr (0, [.int (nI mc), .ref ed, .int (nI sz0)])), (ed, .inl (cO, 10, .inr (.inr (.inr (.inr fe))))), (ck, .inr (1, [.ref ce, .null])), (ce, .inl (cJ, 128, .inr (.inl fE))), (mm, .inr (4, [.int (nI mi), .int (nI mt), .int (nI mg), .int (nI ms), .int sd, .null])), (rf, .inr (2, [.int (nI fi), .int ff, .int fo, .null]))] s.heap.size = A at hD ⊢
  have hA : ∀ q : Nat, s.heap.size ≤ q → A q := fun q h => by rw [← hAe]; exact Or.inr h
  have hS : va_S A s.heap s.heap [] := va_S.rf
  replace hP : va_P (dC, dI) vwCl [(r, .inr (6, [.int rh, .int rl, .ref st, .ref ck, .ref ck, .int 0, .int 1, .int (nI nf), .int (nI ng), .int 0, .ref rf, .int 0])), (st, .inr (8, [.ref ml, .null])), (ml, .inr (0, [.int (nI mc), .ref ed, .int (nI sz0)])), (ed, .inl (cO, 10, .inr (.inr (.inr (.inr fe))))), (ck, .inr (1, [.ref ce, .null])), (ce, .inl (cJ, 128, .inr (.inl fE))), (mm, .inr (4, [.int (nI mi), .int (nI mt), .int (nI mg), .int (nI ms), .int sd, .null])), (rf, .inr (2, [.int (nI fi), .int ff, .int fo, .null]))] s.heap := hP
  have hl := lv_entry ([.ref r, .int (nI ad)]) (n := 8) (Nat.le_of_ble_eq_true rfl)
  rw [lg_entry_eq]
  generalize (lg_sl ([.ref r, .int (nI ad)]) ++ List.replicate (8 - (lg_sl ([.ref r, .int (nI ad)])).length) Slot.unset).toArray = ls at hl ⊢
  replace hl : lv_has ls 8 [(0, .ref r), (1, .int (nI ad))] := hl
  obtain ⟨H, hH⟩ : ∃ z : Heap, z = s.heap := ⟨_, rfl⟩
  rw [← hH]
  replace hS : va_S A s.heap H [] := by rw [hH]; exact va_S.rf
  replace hP : va_P (dC, dI) vwCl [(r, .inr (6, [.int rh, .int rl, .ref st, .ref ck, .ref ck, .int 0, .int 1, .int (nI nf), .int (nI ng), .int 0, .ref rf, .int 0])), (st, .inr (8, [.ref ml, .null])), (ml, .inr (0, [.int (nI mc), .ref ed, .int (nI sz0)])), (ed, .inl (cO, 10, .inr (.inr (.inr (.inr fe))))), (ck, .inr (1, [.ref ce, .null])), (ce, .inl (cJ, 128, .inr (.inl fE))), (mm, .inr (4, [.int (nI mi), .int (nI mt), .int (nI mg), .int (nI ms), .int sd, .null])), (rf, .inr (2, [.int (nI fi), .int ff, .int fo, .null]))] H := by rw [hH]; exact hP
  clear hH
  refine lv_aload_n hx hb dX5_writeFirst_0 rfl (lv_at hl 0 rfl) ?_
  refine va_get (D := (dC, dI)) (ci := 6) (v := .int 0) (C := RX5) (T := TX5) (N := 12) hx hb hts in_c_writeFirst_aN_X5 hown hK hP 0 rfl rfl 9 (by decide) (hts (.fieldLink RX5 31 "ClaimBus$Row" "claimWaits" "Z") (List.mem_of_getElem? (i := 1) rfl)) (fun _ h9 => h9) rfl dX5_writeFirst_1 ?_
  refine lv_if_eq (tgt := 28) hx hb dX5_writeFirst_4 (by decide) (fun c_1 => ?_) (fun c_1 => ?_)
  rotate_left
  · exact absurd (by decide) c_1
  refine lv_aload_n hx hb dX5_writeFirst_28 rfl (lv_at hl 0 rfl) ?_
  have hPc := hP.sub (ws' := [(r, .inr (6, [.int rh, .int rl, .ref st, .ref ck, .ref ck, .int 0, .int 1, .int (nI nf), .int (nI ng), .int 0, .ref rf, .int 0])), (ck, .inr (1, [.ref ce, .null])), (ce, .inl (cJ, 128, .inr (.inl fE)))]) [0, 4, 5] rfl
  have hDc := hD.sub (ws' := [(r, .inr (6, [.int rh, .int rl, .ref st, .ref ck, .ref ck, .int 0, .int 1, .int (nI nf), .int (nI ng), .int 0, .ref rf, .int 0])), (ck, .inr (1, [.ref ce, .null])), (ce, .inl (cJ, 128, .inr (.inl fE)))]) [0, 4, 5] (by decide +kernel) rfl
  have hKc := hK.sub (tys' := [(cJ, .long)]) [1] rfl
  have hFc := ro_free hS hA
  refine va_calll (va_runV (As := []) (rest := []) ⟨hx, hb, hml, hown, hts⟩ (c_firstEntry l dC dI (r) (rh) (rl) (st) (rf) (nf) (ng) (ck) (ce) (cJ) (fE) H.size) (cwV 0 hts g_c_writeFirst_aN_c_firstEntry_95 rfl rfl rfl (by decide +kernel) ⟨Nat.le_of_ble_eq_true rfl, Nat.le_of_ble_eq_true rfl⟩) ⟨fun a U g mk q => by obtain ⟨q0, q1, qP, qK, qD, qE⟩ := q; exact ⟨q0, q1, qP, va_K.moved (u := U) (U := U.calling g mk a) (Vm.Alike.refl U.vm) qK, qD, ev.same (u := U) (U := U.calling g mk a) rfl qE⟩, va_recv hKc hPc (ci := 6) (q0 := 0) rfl rfl, fun U hU hW => ⟨rfl, by rw [hU], by rw [hU]; exact hPc, va_K.moved hW.alike hKc, hDc.weaken (fun _ _ _ _ => trivial), hE.warm hW⟩⟩ rfl rfl hl.1 rfl (lv_room (Nat.le_of_ble_eq_true rfl)) dX5_writeFirst_29 ⟨Nat.le_of_ble_eq_true rfl, Nat.le_of_ble_eq_true rfl⟩) hS (fun q _ h => hFc q h) hFc (fun r_2 u t H1 locs ht hvm hw hB hz1 hk1 hS => ?_)
  clear hPc hDc hKc
  replace hP := ro_keep hP hk1
  generalize H1 = H at hP hS ⊢
  replace hP : va_P (dC, dI) vwCl [(r, .inr (6, [.int rh, .int rl, .ref st, .ref ck, .ref ck, .int 0, .int 1, .int (nI nf), .int (nI ng), .int 0, .ref rf, .int 0])), (st, .inr (8, [.ref ml, .null])), (ml, .inr (0, [.int (nI mc), .ref ed, .int (nI sz0)])), (ed, .inl (cO, 10, .inr (.inr (.inr (.inr fe))))), (ck, .inr (1, [.ref ce, .null])), (ce, .inl (cJ, 128, .inr (.inl fE))), (mm, .inr (4, [.int (nI mi), .int (nI mt), .int (nI mg), .int (nI ms), .int sd, .null])), (rf, .inr (2, [.int (nI fi), .int ff, .int fo, .null]))] H := hP
  have hw := hw.symm
  subst hw
  refine lv_lstore_n (lv' := [(2, .long (fE 0)), (0, .ref r), (1, .int (nI ad))]) hx hb dX5_writeFirst_32 rfl hl (by decide) rfl (fun ls hl => ?_)
  refine lv_aload_n hx hb dX5_writeFirst_33 rfl (lv_at hl 1 rfl) ?_
  refine va_get (D := (dC, dI)) (ci := 6) (v := .ref st) (C := RX5) (T := TX5) (N := 12) hx hb hts in_c_writeFirst_aN_X5 hown hK hP 0 rfl rfl 2 (by decide) (hts (.fieldLink RX5 51 "ClaimBus$Row" "store" "LClaimBus$Store;") (List.mem_of_getElem? (i := 6) rfl)) (fun _ h9 => h9) rfl dX5_writeFirst_34 ?_
  refine lv_lload_n hx hb dX5_writeFirst_37 rfl (lv_at hl 0 rfl) ?_
  refine lv_bipush (v := 32) hx hb dX5_writeFirst_38 (by decide) ?_
  refine lv_lshr hx hb dX5_writeFirst_40 rfl ?_
  refine lv_l2i hx hb dX5_writeFirst_41 rfl ?_
  rw [hhi]
  have hPc := hP.sub (ws' := [(st, .inr (8, [.ref ml, .null])), (ml, .inr (0, [.int (nI mc), .ref ed, .int (nI sz0)])), (ed, .inl (cO, 10, .inr (.inr (.inr (.inr fe))))), (mm, .inr (4, [.int (nI mi), .int (nI mt), .int (nI mg), .int (nI ms), .int sd, .null]))]) [1, 2, 3, 6] rfl
  have hDc := hD.sub (ws' := [(st, .inr (8, [.ref ml, .null])), (ml, .inr (0, [.int (nI mc), .ref ed, .int (nI sz0)])), (ed, .inl (cO, 10, .inr (.inr (.inr (.inr fe))))), (mm, .inr (4, [.int (nI mi), .int (nI mt), .int (nI mg), .int (nI ms), .int sd, .null]))]) [1, 2, 3, 6] (by decide +kernel) rfl
  have hKc := hK.sub (tys' := [(cO, (.object "java/lang/Object"))]) [0] rfl
  have hFc := ro_free hS hA
  refine va_callq (va_runV (As := [.int (nI mi)]) (rest := []) ⟨hx, hb, hml, hown, hts⟩ (c_messageAt_null l dC dI (st) (ml) (mc) (ed) (sz0) (cO) (fe) (mm) (mi) (mt) (mg) (ms) (sd) (mi) H.size hel hsz hsz2) (cwV 1 hts g_c_writeFirst_aN_c_messageAt_null_99 rfl rfl rfl (by decide +kernel) ⟨Nat.le_of_ble_eq_true rfl, Nat.le_of_ble_eq_true rfl⟩) ⟨fun a U g mk q => by obtain ⟨q0, q1, qP, qK, qD, qE⟩ := q; exact ⟨q0, q1, qP, va_K.moved (u := U) (U := U.calling g mk a) (Vm.Alike.refl U.vm) qK, qD, ev.same (u := U) (U := U.calling g mk a) rfl qE⟩, va_recv hKc hPc (ci := 8) (q0 := 0) rfl rfl, fun U hU hW => ⟨rfl, by rw [hU], by rw [hU]; exact hPc, va_K.moved hW.alike hKc, hDc.weaken (fun _ _ _ _ => trivial), hE.warm hW⟩⟩ rfl rfl hl.1 rfl (lv_room (Nat.le_of_ble_eq_true rfl)) dX5_writeFirst_42 ⟨Nat.le_of_ble_eq_true rfl, Nat.le_of_ble_eq_true rfl⟩) hS (fun q _ h => hFc q h) hFc (fun r_3 u t H1 locs ht hvm hw hB hz1 hk1 hS => ?_)
  clear hPc hDc hKc
  replace hP := ro_keep hP hk1
  generalize H1 = H at hP hS ⊢
  replace hP : va_P (dC, dI) vwCl [(r, .inr (6, [.int rh, .int rl, .ref st, .ref ck, .ref ck, .int 0, .int 1, .int (nI nf), .int (nI ng), .int 0, .ref rf, .int 0])), (st, .inr (8, [.ref ml, .null])), (ml, .inr (0, [.int (nI mc), .ref ed, .int (nI sz0)])), (ed, .inl (cO, 10, .inr (.inr (.inr (.inr fe))))), (ck, .inr (1, [.ref ce, .null])), (ce, .inl (cJ, 128, .inr (.inl fE))), (mm, .inr (4, [.int (nI mi), .int (nI mt), .int (nI mg), .int (nI ms), .int sd, .null])), (rf, .inr (2, [.int (nI fi), .int ff, .int fo, .null]))] H := hP
  have hw := hw.symm
  subst hw
  refine W.eq (g2 := F0 m 45 ls [.ref mm]) rfl ?_
  refine lv_astore (lv' := [(4, .ref mm), (2, .long (fE 0)), (0, .ref r), (1, .int (nI ad))]) hx hb dX5_writeFirst_45 hl (by decide) rfl (fun ls hl => ?_)
  refine lv_lload_n hx hb dX5_writeFirst_47 rfl (lv_at hl 1 rfl) ?_
  refine lv_l2i hx hb dX5_writeFirst_48 rfl ?_
  rw [hlo]
  refine lv_istore (lv' := [(5, .int (nI (16777216 * to + 65536 * 32 + 256 * se + th))), (4, .ref mm), (2, .long (fE 0)), (0, .ref r), (1, .int (nI ad))]) hx hb dX5_writeFirst_49 hl (by decide) rfl (fun ls hl => ?_)
  refine lv_iload hx hb dX5_writeFirst_51 (lv_at hl 0 rfl) ?_
  refine lv_bipush (v := 24) hx hb dX5_writeFirst_53 (by decide) ?_
  refine lv_iushr (v := (nI to)) hx hb dX5_writeFirst_55 ((pk_ushrN (n := (16777216 * to + 65536 * 32 + 256 * se + th)) (by omega) (24 : Int32) 24 (by decide)).trans (show nI ((16777216 * to + 65536 * 32 + 256 * se + th) / 2 ^ 24) = nI (to) from congrArg nI (by omega))) ?_
  refine lv_istore (lv' := [(6, .int (nI to)), (5, .int (nI (16777216 * to + 65536 * 32 + 256 * se + th))), (4, .ref mm), (2, .long (fE 0)), (0, .ref r), (1, .int (nI ad))]) hx hb dX5_writeFirst_56 hl (by decide) rfl (fun ls hl => ?_)
  refine lv_iload hx hb dX5_writeFirst_58 (lv_at hl 1 rfl) ?_
  refine lv_bipush (v := 16) hx hb dX5_writeFirst_60 (by decide) ?_
  refine lv_iushr (v := (nI (256 * to + 32))) hx hb dX5_writeFirst_62 ((pk_ushrN (n := (16777216 * to + 65536 * 32 + 256 * se + th)) (by omega) (16 : Int32) 16 (by decide)).trans (show nI ((16777216 * to + 65536 * 32 + 256 * se + th) / 2 ^ 16) = nI (256 * to + 32) from congrArg nI (by omega))) ?_
  refine lv_sipush (v := 255) hx hb dX5_writeFirst_63 (by decide) ?_
  refine lv_iand hx hb dX5_writeFirst_66 ?_
  refine lv_topi (fun x_4 ex_4 => ?_)
  obtain rfl : x_4 = 32 := ex_4.trans ((pk_andN (n := (256 * to + 32)) (m := 255) (by omega) 8 (by decide)).trans (show nI ((256 * to + 32) % 2 ^ 8) = nI (32) from congrArg nI (by omega)))
  refine lv_istore (lv' := [(7, .int 32), (6, .int (nI to)), (5, .int (nI (16777216 * to + 65536 * 32 + 256 * se + th))), (4, .ref mm), (2, .long (fE 0)), (0, .ref r), (1, .int (nI ad))]) hx hb dX5_writeFirst_67 hl (by decide) rfl (fun ls hl => ?_)
  refine lv_aload hx hb dX5_writeFirst_69 (lv_at hl 3 rfl) ?_
  refine lv_ifnonnull (tgt := 106) hx hb dX5_writeFirst_71 (by decide) ?_
  refine lv_iload hx hb dX5_writeFirst_106 (lv_at hl 0 rfl) ?_
  refine lv_if_ne (tgt := 124) hx hb dX5_writeFirst_108 (by decide) (fun c_5 => ?_) (fun c_5 => ?_)
  rotate_left
  · exact absurd c_5 (by decide)
  refine lv_iload hx hb dX5_writeFirst_124 (lv_at hl 0 rfl) ?_
  refine lv_sipush (v := 235) hx hb dX5_writeFirst_126 (by decide) ?_
  refine lv_icmp_ne (tgt := 156) hx hb dX5_writeFirst_129 (by decide) (fun c_6 => ?_) (fun c_6 => ?_)
  rotate_left
  · exact absurd c_6 (by decide)
  refine lv_aload hx hb dX5_writeFirst_156 (lv_at hl 3 rfl) ?_
  refine lv_aload_n hx hb dX5_writeFirst_158 rfl (lv_at hl 5 rfl) ?_
  refine va_get (D := (dC, dI)) (ci := 6) (v := .ref rf) (C := RX5) (T := TX5) (N := 12) hx hb hts in_c_writeFirst_aN_X5 hown hK hP 0 rfl rfl 10 (by decide) (hts (.fieldLink RX5 38 "ClaimBus$Row" "first" "LClaimBus$Frame;") (List.mem_of_getElem? (i := 11) rfl)) (fun _ h9 => h9) rfl dX5_writeFirst_159 ?_
  refine lv_sipush (v := 236) hx hb dX5_writeFirst_162 (by decide) ?_
  refine lv_iload hx hb dX5_writeFirst_165 (lv_at hl 1 rfl) ?_
  refine lv_iload_n hx hb dX5_writeFirst_167 rfl (lv_at hl 6 rfl) ?_
  have hPc := hP.sub (ws' := []) [] rfl
  have hDc := hD.sub (ws' := []) [] (by decide +kernel) rfl
  have hKc := hK.sub (tys' := []) [] rfl
  have hFc := ro_free hS hA
  refine va_calli (va_runSN (As := [.int 236, .int (nI to), .int (nI ad)]) (rest := [.ref rf, .ref mm]) ⟨hx, hb, hml, hown, hts⟩ (c_X10_identifier l dC dI (236) (to) (ad) H.size (by omega) h_to h_ad) ⟨va_cnB 3 hts g_c_writeFirst_aN_c_X10_identifier_103 rfl rfl rfl hE.n8 (hts (.initialized RX10) (List.mem_of_getElem? (i := 12) rfl)) (by decide +kernel) ⟨Nat.le_of_ble_eq_true rfl, Nat.le_of_ble_eq_true rfl⟩, (hts (.static yX10_identifier) (List.mem_of_getElem? (i := 13) rfl)), trivial⟩ ⟨fun a U g mk q => by obtain ⟨q0, q1, qP, qK, qD, qE⟩ := q; exact ⟨q0, q1, qP, va_K.moved (u := U) (U := U.calling g mk a) (Vm.Alike.refl U.vm) qK, qD, ev.same (u := U) (U := U.calling g mk a) rfl qE⟩, fun U hU hW => ⟨rfl, by rw [hU], by rw [hU]; exact hPc, va_K.moved hW.alike hKc, hDc.weaken (fun _ _ _ _ => trivial), hE.warm hW⟩⟩ rfl rfl hl.1 rfl (lv_room (Nat.le_of_ble_eq_true rfl)) dX5_writeFirst_168 ⟨Nat.le_of_ble_eq_true rfl, Nat.le_of_ble_eq_true rfl⟩) hS (fun q _ h => hFc q h) hFc (fun r_7 u t H1 locs ht hvm hw hB hz1 hk1 hS => ?_)
  clear hPc hDc hKc
  replace hP := ro_keep hP hk1
  generalize H1 = H at hP hS ⊢
  replace hP : va_P (dC, dI) vwCl [(r, .inr (6, [.int rh, .int rl, .ref st, .ref ck, .ref ck, .int 0, .int 1, .int (nI nf), .int (nI ng), .int 0, .ref rf, .int 0])), (st, .inr (8, [.ref ml, .null])), (ml, .inr (0, [.int (nI mc), .ref ed, .int (nI sz0)])), (ed, .inl (cO, 10, .inr (.inr (.inr (.inr fe))))), (ck, .inr (1, [.ref ce, .null])), (ce, .inl (cJ, 128, .inr (.inl fE))), (mm, .inr (4, [.int (nI mi), .int (nI mt), .int (nI mg), .int (nI ms), .int sd, .null])), (rf, .inr (2, [.int (nI fi), .int ff, .int fo, .null]))] H := hP
  have hw := hw.symm
  subst hw
  refine lv_iload hx hb dX5_writeFirst_171 (lv_at hl 0 rfl) ?_
  refine lv_iload hx hb dX5_writeFirst_173 (lv_at hl 2 rfl) ?_
  refine lv_bipush (v := 8) hx hb dX5_writeFirst_175 (by decide) ?_
  refine lv_iushr (v := (nI (se + 65536 * to + 8192))) hx hb dX5_writeFirst_177 ((pk_ushrN (n := (16777216 * to + 65536 * 32 + 256 * se + th)) (by omega) (8 : Int32) 8 (by decide)).trans (show nI ((16777216 * to + 65536 * 32 + 256 * se + th) / 2 ^ 8) = nI (se + 65536 * to + 8192) from congrArg nI (by omega))) ?_
  refine lv_sipush (v := 255) hx hb dX5_writeFirst_178 (by decide) ?_
  refine lv_iand hx hb dX5_writeFirst_181 ?_
  refine lv_topi (fun x_8 ex_8 => ?_)
  obtain rfl : x_8 = (nI se) := ex_8.trans ((pk_andN (n := (se + 65536 * to + 8192)) (m := 255) (by omega) 8 (by decide)).trans (show nI ((se + 65536 * to + 8192) % 2 ^ 8) = nI (se) from congrArg nI (by omega)))
  refine lv_iload hx hb dX5_writeFirst_182 (lv_at hl 2 rfl) ?_
  refine lv_sipush (v := 255) hx hb dX5_writeFirst_184 (by decide) ?_
  refine lv_iand hx hb dX5_writeFirst_187 ?_
  refine lv_topi (fun x_9 ex_9 => ?_)
  obtain rfl : x_9 = (nI th) := ex_9.trans ((pk_andN (n := (16777216 * to + 65536 * 32 + 256 * se + th)) (m := 255) (by omega) 8 (by decide)).trans (show nI ((16777216 * to + 65536 * 32 + 256 * se + th) % 2 ^ 8) = nI (th) from congrArg nI (by omega)))
  have hPc := hP.sub (ws' := [(mm, .inr (4, [.int (nI mi), .int (nI mt), .int (nI mg), .int (nI ms), .int sd, .null])), (rf, .inr (2, [.int (nI fi), .int ff, .int fo, .null]))]) [6, 7] rfl
  have hDc := hD.sub (ws' := [(mm, .inr (4, [.int (nI mi), .int (nI mt), .int (nI mg), .int (nI ms), .int sd, .null])), (rf, .inr (2, [.int (nI fi), .int ff, .int fo, .null]))]) [6, 7] (by decide +kernel) rfl
  have hKc := hK.sub (tys' := []) [] rfl
  have hFc := va_free (wc := [(mm, .inr (4, [.int (nI mi), .int (nI mt), .int (nI mg), .int (nI ms), .int sd, .null])), (rf, .inr (2, [.int (nI fi), .int ff, .int fo, .null]))]) hD hS hA [6, 7] rfl
  refine va_callv (va_runV (As := [.ref rf, .int (nI (469762048 + 65536 * 236 + 256 * to + ad)), .int 32, .int (nI se), .int (nI th)]) (rest := []) ⟨hx, hb, hml, hown, hts⟩ (c_X3_writeControl_32N l dC dI (mm) (mi) (mt) (mg) (ms) (sd) (rf) (fi) (ff) (fo) ((469762048 + 65536 * 236 + 256 * to + ad)) (se) (th) H.size hmi hmt hmg hms h_se h_th) (cwV 5 hts g_c_writeFirst_aN_c_X3_writeControl_32N_119 rfl rfl rfl (by decide +kernel) ⟨Nat.le_of_ble_eq_true rfl, Nat.le_of_ble_eq_true rfl⟩) ⟨fun a U g mk q => by obtain ⟨q0, q1, qP, qK, qD, qE⟩ := q; exact ⟨q0, q1, qP, va_K.moved (u := U) (U := U.calling g mk a) (Vm.Alike.refl U.vm) qK, qD, ev.same (u := U) (U := U.calling g mk a) rfl qE⟩, va_recv hKc hPc (ci := 4) (q0 := 0) rfl rfl, fun U hU hW => ⟨rfl, by rw [hU], by rw [hU]; exact hPc, va_K.moved hW.alike hKc, hDc.weaken (fun _ _ _ _ => trivial), hE.warm hW⟩⟩ rfl rfl hl.1 rfl (lv_room (Nat.le_of_ble_eq_true rfl)) dX5_writeFirst_188 ⟨Nat.le_of_ble_eq_true rfl, Nat.le_of_ble_eq_true rfl⟩) hS (fun q _ h => hFc q h) hFc (fun u t H1 locs ht hvm hw hB hz1 hk1 hS => ?_)
  clear hPc hDc hKc
  obtain ⟨hP1, hK1, hD1⟩ := hB
  rw [ht] at hP1
  have hK1 := va_K.moved hvm.symm hK1
  obtain ⟨hP, hD⟩ := va_join (wr := [(r, .inr (6, [.int rh, .int rl, .ref st, .ref ck, .ref ck, .int 0, .int 1, .int (nI nf), .int (nI ng), .int 0, .ref rf, .int 0])), (st, .inr (8, [.ref ml, .null])), (ml, .inr (0, [.int (nI mc), .ref ed, .int (nI sz0)])), (ed, .inl (cO, 10, .inr (.inr (.inr (.inr fe))))), (ck, .inr (1, [.ref ce, .null])), (ce, .inl (cJ, 128, .inr (.inl fE)))]) (w1 := [(mm, .inr (4, [.int (nI mi), .int (nI mt), .int (nI mg), .int (nI ms), .int sd, .null])), (rf, .inr (2, [.int (nI (469762048 + 65536 * 236 + 256 * to + ad)), .int (nI (32 + 256 * (ms % 256) + 65536 * (ms / 256) + 16777216 * ((ms + 6) / 7))), .int (nI (se + 256 * mg)), .ref mm]))]) hP hD [6, 7] [0, 1, 2, 3, 4, 5] rfl rfl (by decide +kernel) (by decide +kernel) hk1 hFc hP1 hD1
  generalize H1 = H at hP hS ⊢
  replace hP : va_P (dC, dI) vwCl [(r, .inr (6, [.int rh, .int rl, .ref st, .ref ck, .ref ck, .int 0, .int 1, .int (nI nf), .int (nI ng), .int 0, .ref rf, .int 0])), (st, .inr (8, [.ref ml, .null])), (ml, .inr (0, [.int (nI mc), .ref ed, .int (nI sz0)])), (ed, .inl (cO, 10, .inr (.inr (.inr (.inr fe))))), (ck, .inr (1, [.ref ce, .null])), (ce, .inl (cJ, 128, .inr (.inl fE))), (mm, .inr (4, [.int (nI mi), .int (nI mt), .int (nI mg), .int (nI ms), .int sd, .null])), (rf, .inr (2, [.int (nI (469762048 + 65536 * 236 + 256 * to + ad)), .int (nI (32 + 256 * (ms % 256) + 65536 * (ms / 256) + 16777216 * ((ms + 6) / 7))), .int (nI (se + 256 * mg)), .ref mm]))] H := hP
  replace hD : va_D A [(r, .inr (6, [.int rh, .int rl, .ref st, .ref ck, .ref ck, .int 0, .int 1, .int (nI nf), .int (nI ng), .int 0, .ref rf, .int 0])), (st, .inr (8, [.ref ml, .null])), (ml, .inr (0, [.int (nI mc), .ref ed, .int (nI sz0)])), (ed, .inl (cO, 10, .inr (.inr (.inr (.inr fe))))), (ck, .inr (1, [.ref ce, .null])), (ce, .inl (cJ, 128, .inr (.inl fE))), (mm, .inr (4, [.int (nI mi), .int (nI mt), .int (nI mg), .int (nI ms), .int sd, .null])), (rf, .inr (2, [.int (nI (469762048 + 65536 * 236 + 256 * to + ad)), .int (nI (32 + 256 * (ms % 256) + 65536 * (ms / 256) + 16777216 * ((ms + 6) / 7))), .int (nI (se + 256 * mg)), .ref mm]))] := hD
  clear hw
  have hP9 := hP.sub (ws' := [(r, .inr (6, [.int rh, .int rl, .ref st, .ref ck, .ref ck, .int 0, .int 1, .int (nI nf), .int (nI ng), .int 0, .ref rf, .int 0])), (st, .inr (8, [.ref ml, .null])), (ml, .inr (0, [.int (nI mc), .ref ed, .int (nI sz0)])), (ed, .inl (cO, 10, .inr (.inr (.inr (.inr fe))))), (ck, .inr (1, [.ref ce, .null])), (ce, .inl (cJ, 128, .inr (.inl fE))), (mm, .inr (4, [.int (nI mi), .int (nI mt), .int (nI mg), .int (nI ms), .int sd, .null])), (rf, .inr (2, [.int (nI (469762048 + 65536 * 236 + 256 * to + ad)), .int (nI (32 + 256 * (ms % 256) + 65536 * (ms / 256) + 16777216 * ((ms + 6) / 7))), .int (nI (se + 256 * mg)), .ref mm]))]) [0, 1, 2, 3, 4, 5, 6, 7] rfl
  have hD9 := hD.sub (ws' := [(r, .inr (6, [.int rh, .int rl, .ref st, .ref ck, .ref ck, .int 0, .int 1, .int (nI nf), .int (nI ng), .int 0, .ref rf, .int 0])), (st, .inr (8, [.ref ml, .null])), (ml, .inr (0, [.int (nI mc), .ref ed, .int (nI sz0)])), (ed, .inl (cO, 10, .inr (.inr (.inr (.inr fe))))), (ck, .inr (1, [.ref ce, .null])), (ce, .inl (cJ, 128, .inr (.inl fE))), (mm, .inr (4, [.int (nI mi), .int (nI mt), .int (nI mg), .int (nI ms), .int sd, .null])), (rf, .inr (2, [.int (nI (469762048 + 65536 * 236 + 256 * to + ad)), .int (nI (32 + 256 * (ms % 256) + 65536 * (ms / 256) + 16777216 * ((ms + 6) / 7))), .int (nI (se + 256 * mg)), .ref mm]))]) [0, 1, 2, 3, 4, 5, 6, 7] (by decide +kernel) rfl
  have hK9 := hK.sub (tys' := [(cO, (.object "java/lang/Object")), (cJ, .long)]) [0, 1] rfl
  exact W.vret hx hb hr (fun t ht hW => ⟨⟨(), rfl, trivial, ⟨by rw [ht]; exact hP9, va_K.moved hW.alike hK9, hD9⟩⟩, hS.F ht⟩) hS.2.2 dX5_writeFirst_191

noncomputable def tl_c_first_aN : List Cond := wsX50 ++ (v_c_len_f ++ (v_c_writeFirst_aN))
noncomputable def v_c_first_aN : List Cond := .code yX5_first cX5_first 2 (some (.object "ClaimBus$Frame")) :: ([.initialized RX5, .methodLink RX5 82 yX5_length, .instanceMethod yX5_length, .selects RX5 yX5_length yX5_length, .fieldLink RX5 42 "ClaimBus$Row" "firstIsWritten" "Z", .methodLink RX5 86 yX5_writeFirst, .instanceMethod yX5_writeFirst, .selects RX5 yX5_writeFirst yX5_writeFirst, .fieldLink RX5 38 "ClaimBus$Row" "first" "LClaimBus$Frame;"] ++ tl_c_first_aN)
theorem it_c_first_aN : ∀ w ∈ tl_c_first_aN, w ∈ v_c_first_aN := fun w h => List.mem_cons_of_mem _ (List.mem_append_right _ h)
theorem in_c_first_aN_X5 : ∀ w ∈ wsX50, w ∈ v_c_first_aN := fun w h => it_c_first_aN w (List.mem_append_left _ h)
theorem ic_c_first_aN_c_len_f : ∀ w ∈ v_c_len_f, w ∈ v_c_first_aN := fun w h => it_c_first_aN w (List.mem_append_right _ (List.mem_append_left _ h))
theorem ic_c_first_aN_c_writeFirst_aN : ∀ w ∈ v_c_writeFirst_aN, w ∈ v_c_first_aN := fun w h => it_c_first_aN w (List.mem_append_right _ (List.mem_append_right _ (h)))
theorem gt_c_first_aN : ∀ w ∈ tl_c_first_aN, goodWord w = true := List.forall_mem_append.mpr ⟨gw_wsX50, List.forall_mem_append.mpr ⟨gw_c_len_f, gw_c_writeFirst_aN⟩⟩
theorem gw_c_first_aN : ∀ w ∈ v_c_first_aN, goodWord w = true := List.forall_mem_cons.mpr ⟨by decide +kernel, List.forall_mem_append.mpr ⟨List.all_eq_true.mp (by decide +kernel), gt_c_first_aN⟩⟩
theorem g_c_first_aN_c_len_f_82 : GoodIn v_c_first_aN (wsV RX5 82 RX5 yX5_length v_c_len_f) := goodIn_app (goodIn_r [.methodLink RX5 82 yX5_length, .instanceMethod yX5_length, .selects RX5 yX5_length yX5_length, .initialized RX5] [2, 3, 4, 1] (by decide +kernel) (by decide +kernel)) (fun w h => ⟨ic_c_first_aN_c_len_f w h, good_of_word (gw_c_len_f w h)⟩)
theorem g_c_first_aN_c_writeFirst_aN_86 : GoodIn v_c_first_aN (wsV RX5 86 RX5 yX5_writeFirst v_c_writeFirst_aN) := goodIn_app (goodIn_r [.methodLink RX5 86 yX5_writeFirst, .instanceMethod yX5_writeFirst, .selects RX5 yX5_writeFirst yX5_writeFirst, .initialized RX5] [6, 7, 8, 1] (by decide +kernel) (by decide +kernel)) (fun w h => ⟨ic_c_first_aN_c_writeFirst_aN w h, good_of_word (gw_c_writeFirst_aN w h)⟩)
set_option maxHeartbeats 4000000 in
set_option maxRecDepth 100000 in
theorem c_first_aN (l : Launch) (dC : Nat → ClassId) (dI : Nat → Nat → Nat) (r : Nat) (rh : Int32) (rl : Int32) (st : Nat) (rf : Nat) (nf : Nat) (ng : Nat) (ck : Nat) (ce : Nat) (cJ : ClassId) (fE : Nat → Int64) (ml : Nat) (mc : Nat) (ed : Nat) (sz0 : Nat) (cO : ClassId) (fe : Nat → Option Nat) (mm : Nat) (mi : Nat) (mt : Nat) (mg : Nat) (ms : Nat) (sd : Int32) (fi : Nat) (ff : Int32) (fo : Int32) (to : Nat) (se : Nat) (th : Nat) (ad : Nat) (sz : Nat) (hmi : mi < 8) (hmt : mt < 256) (hmg : mg < 262144) (hms : ms < 1786) (h_to : to < 256) (h_se : se < 256) (h_th : th < 256) (h_ad : ad < 256) (hel : fe mi = some mm) (hsz : mi < sz0) (hsz2 : sz0 ≤ 10) (hnf : 1 ≤ nf) (hlo : (fE 0).toInt32 = (nI (16777216 * to + 65536 * 32 + 256 * se + th))) (hhi : (fE 0 >>> ((32 : Int32).toInt64 &&& 63)).toInt32 = (nI mi)) (hnf3 : nf < 300) : Met l yX5_first v_c_first_aN ({ frames := 5, cells := 0, slots := 0, locals := 112 }) (va_Pc [.ref r, .int (nI ad)] (fun U => U.heap.size = sz ∧ va_P (dC, dI) vwCl [(r, .inr (6, [.int rh, .int rl, .ref st, .ref ck, .ref ck, .int 0, .int 1, .int (nI nf), .int (nI ng), .int 0, .ref rf, .int 0])), (st, .inr (8, [.ref ml, .null])), (ml, .inr (0, [.int (nI mc), .ref ed, .int (nI sz0)])), (ed, .inl (cO, 10, .inr (.inr (.inr (.inr fe))))), (ck, .inr (1, [.ref ce, .null])), (ce, .inl (cJ, 128, .inr (.inl fE))), (mm, .inr (4, [.int (nI mi), .int (nI mt), .int (nI mg), .int (nI ms), .int sd, .null])), (rf, .inr (2, [.int (nI fi), .int ff, .int fo, .null]))] U.heap ∧ va_K (dC, dI) vwCl [(cO, (.object "java/lang/Object")), (cJ, .long)] U ∧ va_D (fun _ => True) [(r, .inr (6, [.int rh, .int rl, .ref st, .ref ck, .ref ck, .int 0, .int 1, .int (nI nf), .int (nI ng), .int 0, .ref rf, .int 0])), (st, .inr (8, [.ref ml, .null])), (ml, .inr (0, [.int (nI mc), .ref ed, .int (nI sz0)])), (ed, .inl (cO, 10, .inr (.inr (.inr (.inr fe))))), (ck, .inr (1, [.ref ce, .null])), (ce, .inl (cJ, 128, .inr (.inl fE))), (mm, .inr (4, [.int (nI mi), .int (nI mt), .int (nI mg), .int (nI ms), .int sd, .null])), (rf, .inr (2, [.int (nI fi), .int ff, .int fo, .null]))] ∧ ev U)) (va_Qq (fun (r : Option Nat) (_ : Unit) => r = some rf) (fun (_ : Unit) (t : State) => va_P (dC, dI) vwCl [(r, .inr (6, [.int rh, .int rl, .ref st, .ref ck, .ref ck, .int 0, .int 1, .int (nI nf), .int (nI ng), .int 0, .ref rf, .int 1])), (st, .inr (8, [.ref ml, .null])), (ml, .inr (0, [.int (nI mc), .ref ed, .int (nI sz0)])), (ed, .inl (cO, 10, .inr (.inr (.inr (.inr fe))))), (ck, .inr (1, [.ref ce, .null])), (ce, .inl (cJ, 128, .inr (.inl fE))), (mm, .inr (4, [.int (nI mi), .int (nI mt), .int (nI mg), .int (nI ms), .int sd, .null])), (rf, .inr (2, [.int (nI (469762048 + 65536 * 236 + 256 * to + ad)), .int (nI (32 + 256 * (ms % 256) + 65536 * (ms / 256) + 16777216 * ((ms + 6) / 7))), .int (nI (se + 256 * mg)), .ref mm]))] t.heap ∧ va_K (dC, dI) vwCl [(cO, (.object "java/lang/Object")), (cJ, .long)] t ∧ va_D (va_A [(r, .inr (6, [.int rh, .int rl, .ref st, .ref ck, .ref ck, .int 0, .int 1, .int (nI nf), .int (nI ng), .int 0, .ref rf, .int 0])), (st, .inr (8, [.ref ml, .null])), (ml, .inr (0, [.int (nI mc), .ref ed, .int (nI sz0)])), (ed, .inl (cO, 10, .inr (.inr (.inr (.inr fe))))), (ck, .inr (1, [.ref ce, .null])), (ce, .inl (cJ, 128, .inr (.inl fE))), (mm, .inr (4, [.int (nI mi), .int (nI mt), .int (nI mg), .int (nI ms), .int sd, .null])), (rf, .inr (2, [.int (nI fi), .int ff, .int fo, .null]))] sz) [(r, .inr (6, [.int rh, .int rl, .ref st, .ref ck, .ref ck, .int 0, .int 1, .int (nI nf), .int (nI ng), .int 0, .ref rf, .int 1])), (st, .inr (8, [.ref ml, .null])), (ml, .inr (0, [.int (nI mc), .ref ed, .int (nI sz0)])), (ed, .inl (cO, 10, .inr (.inr (.inr (.inr fe))))), (ck, .inr (1, [.ref ce, .null])), (ce, .inl (cJ, 128, .inr (.inl fE))), (mm, .inr (4, [.int (nI mi), .int (nI mt), .int (nI mg), .int (nI ms), .int sd, .null])), (rf, .inr (2, [.int (nI (469762048 + 65536 * 236 + 256 * to + ad)), .int (nI (32 + 256 * (ms % 256) + 65536 * (ms / 256) + 16777216 * ((ms + 6) / 7))), .int (nI (se + 256 * mg)), .ref mm]))]) (va_A [(r, .inr (6, [.int rh, .int rl, .ref st, .ref ck, .ref ck, .int 0, .int 1, .int (nI nf), .int (nI ng), .int 0, .ref rf, .int 0])), (st, .inr (8, [.ref ml, .null])), (ml, .inr (0, [.int (nI mc), .ref ed, .int (nI sz0)])), (ed, .inl (cO, 10, .inr (.inr (.inr (.inr fe))))), (ck, .inr (1, [.ref ce, .null])), (ce, .inl (cJ, 128, .inr (.inl fE))), (mm, .inr (4, [.int (nI mi), .int (nI mt), .int (nI mg), .int (nI ms), .int sd, .null])), (rf, .inr (2, [.int (nI fi), .int ff, .int fo, .null]))] sz)) 0 0 (va_A [(r, .inr (6, [.int rh, .int rl, .ref st, .ref ck, .ref ck, .int 0, .int 1, .int (nI nf), .int (nI ng), .int 0, .ref rf, .int 0])), (st, .inr (8, [.ref ml, .null])), (ml, .inr (0, [.int (nI mc), .ref ed, .int (nI sz0)])), (ed, .inl (cO, 10, .inr (.inr (.inr (.inr fe))))), (ck, .inr (1, [.ref ce, .null])), (ce, .inl (cJ, 128, .inr (.inl fE))), (mm, .inr (4, [.int (nI mi), .int (nI mt), .int (nI mg), .int (nI ms), .int sd, .null])), (rf, .inr (2, [.int (nI fi), .int ff, .int fo, .null]))] sz) := by
  refine Met.ofW (cc := cX5_first) (maxL := 2) (ret := (some (.object "ClaimBus$Frame"))) (by decide) rfl ?_
  intro p e s m args below meth c s₁ B hml hv
  obtain ⟨rfl, hsz, hP, hK, hD0, hE⟩ := hv
  have hx := B.exec
  have hb := B.bytes
  have hr := B.returns
  have hts := atoms_spec (ws := v_c_first_aN) B.pre
  have hown : s.vm.findClass RX5 = some m.cls := findClass_of_methodNamed B.named
  have hlocks := B.notSynchronized
  subst hsz
  have hD := hD0.self (sz := s.heap.size)
  generalize hAe : va_A [(r, .inr (6, [.int rh, .int rl, .ref st, .ref ck, .ref ck, .int 0, .int 1, .int (nI nf), .int (nI ng), .int 0, .ref rf, .int 0])), (st, .inr (8, [.ref ml, .null])), (ml, .inr (0, [.int (nI mc), .ref ed, .int (nI sz0)])), (ed, .inl (cO, 10, .inr (.inr (.inr (.inr fe))))), (ck, .inr (1, [.ref ce, .null])), (ce, .inl (cJ, 128, .inr (.inl fE))), (mm, .inr (4, [.int (nI mi), .int (nI mt), .int (nI mg), .int (nI ms), .int sd, .null])), (rf, .inr (2, [.int (nI fi), .int ff, .int fo, .null]))] s.heap.size = A at hD ⊢
  have hA : ∀ q : Nat, s.heap.size ≤ q → A q := fun q h => by rw [← hAe]; exact Or.inr h
  have hS : va_S A s.heap s.heap [] := va_S.rf
  replace hP : va_P (dC, dI) vwCl [(r, .inr (6, [.int rh, .int rl, .ref st, .ref ck, .ref ck, .int 0, .int 1, .int (nI nf), .int (nI ng), .int 0, .ref rf, .int 0])), (st, .inr (8, [.ref ml, .null])), (ml, .inr (0, [.int (nI mc), .ref ed, .int (nI sz0)])), (ed, .inl (cO, 10, .inr (.inr (.inr (.inr fe))))), (ck, .inr (1, [.ref ce, .null])), (ce, .inl (cJ, 128, .inr (.inl fE))), (mm, .inr (4, [.int (nI mi), .int (nI mt), .int (nI mg), .int (nI ms), .int sd, .null])), (rf, .inr (2, [.int (nI fi), .int ff, .int fo, .null]))] s.heap := hP
  have hl := lv_entry ([.ref r, .int (nI ad)]) (n := 2) (Nat.le_of_ble_eq_true rfl)
  rw [lg_entry_eq]
  generalize (lg_sl ([.ref r, .int (nI ad)]) ++ List.replicate (2 - (lg_sl ([.ref r, .int (nI ad)])).length) Slot.unset).toArray = ls at hl ⊢
  replace hl : lv_has ls 2 [(0, .ref r), (1, .int (nI ad))] := hl
  obtain ⟨H, hH⟩ : ∃ z : Heap, z = s.heap := ⟨_, rfl⟩
  rw [← hH]
  replace hS : va_S A s.heap H [] := by rw [hH]; exact va_S.rf
  replace hP : va_P (dC, dI) vwCl [(r, .inr (6, [.int rh, .int rl, .ref st, .ref ck, .ref ck, .int 0, .int 1, .int (nI nf), .int (nI ng), .int 0, .ref rf, .int 0])), (st, .inr (8, [.ref ml, .null])), (ml, .inr (0, [.int (nI mc), .ref ed, .int (nI sz0)])), (ed, .inl (cO, 10, .inr (.inr (.inr (.inr fe))))), (ck, .inr (1, [.ref ce, .null])), (ce, .inl (cJ, 128, .inr (.inl fE))), (mm, .inr (4, [.int (nI mi), .int (nI mt), .int (nI mg), .int (nI ms), .int sd, .null])), (rf, .inr (2, [.int (nI fi), .int ff, .int fo, .null]))] H := by rw [hH]; exact hP
  clear hH
  refine lv_aload_n hx hb dX5_first_0 rfl (lv_at hl 0 rfl) ?_
  have hPc := hP.sub (ws' := [(r, .inr (6, [.int rh, .int rl, .ref st, .ref ck, .ref ck, .int 0, .int 1, .int (nI nf), .int (nI ng), .int 0, .ref rf, .int 0]))]) [0] rfl
  have hDc := hD.sub (ws' := [(r, .inr (6, [.int rh, .int rl, .ref st, .ref ck, .ref ck, .int 0, .int 1, .int (nI nf), .int (nI ng), .int 0, .ref rf, .int 0]))]) [0] (by decide +kernel) rfl
  have hKc := hK.sub (tys' := []) [] rfl
  have hFc := ro_free hS hA
  refine va_calli (va_runV (As := []) (rest := []) ⟨hx, hb, hml, hown, hts⟩ (c_len_f l dC dI (r) (rh) (rl) (st) (rf) (nf) (ng) (ck) H.size) (cwV 0 hts g_c_first_aN_c_len_f_82 rfl rfl rfl (by decide +kernel) ⟨Nat.le_of_ble_eq_true rfl, Nat.le_of_ble_eq_true rfl⟩) ⟨fun a U g mk q => by obtain ⟨q0, q1, qP, qK, qD, qE⟩ := q; exact ⟨q0, q1, qP, va_K.moved (u := U) (U := U.calling g mk a) (Vm.Alike.refl U.vm) qK, qD, ev.same (u := U) (U := U.calling g mk a) rfl qE⟩, va_recv hKc hPc (ci := 6) (q0 := 0) rfl rfl, fun U hU hW => ⟨rfl, by rw [hU], by rw [hU]; exact hPc, va_K.moved hW.alike hKc, hDc.weaken (fun _ _ _ _ => trivial), hE.warm hW⟩⟩ rfl rfl hl.1 rfl (lv_room (Nat.le_of_ble_eq_true rfl)) dX5_first_1 ⟨Nat.le_of_ble_eq_true rfl, Nat.le_of_ble_eq_true rfl⟩) hS (fun q _ h => hFc q h) hFc (fun r_1 u t H1 locs ht hvm hw hB hz1 hk1 hS => ?_)
  clear hPc hDc hKc
  replace hP := ro_keep hP hk1
  generalize H1 = H at hP hS ⊢
  replace hP : va_P (dC, dI) vwCl [(r, .inr (6, [.int rh, .int rl, .ref st, .ref ck, .ref ck, .int 0, .int 1, .int (nI nf), .int (nI ng), .int 0, .ref rf, .int 0])), (st, .inr (8, [.ref ml, .null])), (ml, .inr (0, [.int (nI mc), .ref ed, .int (nI sz0)])), (ed, .inl (cO, 10, .inr (.inr (.inr (.inr fe))))), (ck, .inr (1, [.ref ce, .null])), (ce, .inl (cJ, 128, .inr (.inl fE))), (mm, .inr (4, [.int (nI mi), .int (nI mt), .int (nI mg), .int (nI ms), .int sd, .null])), (rf, .inr (2, [.int (nI fi), .int ff, .int fo, .null]))] H := hP
  have hw := hw.symm
  subst hw
  refine lv_if_ne (tgt := 9) hx hb dX5_first_4 (by decide) (fun c_2 => ?_) (fun c_2 => ?_)
  rotate_left
  · exact absurd ((nI_eq (a := nf) (b := 0) (by omega) (by omega)).mp c_2) (by omega)
  refine lv_aload_n hx hb dX5_first_9 rfl (lv_at hl 0 rfl) ?_
  refine va_get (D := (dC, dI)) (ci := 6) (v := .int 0) (C := RX5) (T := TX5) (N := 12) hx hb hts in_c_first_aN_X5 hown hK hP 0 rfl rfl 11 (by decide) (hts (.fieldLink RX5 42 "ClaimBus$Row" "firstIsWritten" "Z") (List.mem_of_getElem? (i := 5) rfl)) (fun _ h9 => h9) rfl dX5_first_10 ?_
  refine lv_if_ne (tgt := 26) hx hb dX5_first_13 (by decide) (fun c_3 => ?_) (fun c_3 => ?_)
  · exact absurd c_3 (by decide)
  refine lv_aload_n hx hb dX5_first_16 rfl (lv_at hl 0 rfl) ?_
  refine lv_iload_n hx hb dX5_first_17 rfl (lv_at hl 1 rfl) ?_
  have hPc := hP.sub (ws' := [(r, .inr (6, [.int rh, .int rl, .ref st, .ref ck, .ref ck, .int 0, .int 1, .int (nI nf), .int (nI ng), .int 0, .ref rf, .int 0])), (st, .inr (8, [.ref ml, .null])), (ml, .inr (0, [.int (nI mc), .ref ed, .int (nI sz0)])), (ed, .inl (cO, 10, .inr (.inr (.inr (.inr fe))))), (ck, .inr (1, [.ref ce, .null])), (ce, .inl (cJ, 128, .inr (.inl fE))), (mm, .inr (4, [.int (nI mi), .int (nI mt), .int (nI mg), .int (nI ms), .int sd, .null])), (rf, .inr (2, [.int (nI fi), .int ff, .int fo, .null]))]) [0, 1, 2, 3, 4, 5, 6, 7] rfl
  have hDc := hD.sub (ws' := [(r, .inr (6, [.int rh, .int rl, .ref st, .ref ck, .ref ck, .int 0, .int 1, .int (nI nf), .int (nI ng), .int 0, .ref rf, .int 0])), (st, .inr (8, [.ref ml, .null])), (ml, .inr (0, [.int (nI mc), .ref ed, .int (nI sz0)])), (ed, .inl (cO, 10, .inr (.inr (.inr (.inr fe))))), (ck, .inr (1, [.ref ce, .null])), (ce, .inl (cJ, 128, .inr (.inl fE))), (mm, .inr (4, [.int (nI mi), .int (nI mt), .int (nI mg), .int (nI ms), .int sd, .null])), (rf, .inr (2, [.int (nI fi), .int ff, .int fo, .null]))]) [0, 1, 2, 3, 4, 5, 6, 7] (by decide +kernel) rfl
  have hKc := hK.sub (tys' := [(cO, (.object "java/lang/Object")), (cJ, .long)]) [0, 1] rfl
  have hFc := va_free (wc := [(r, .inr (6, [.int rh, .int rl, .ref st, .ref ck, .ref ck, .int 0, .int 1, .int (nI nf), .int (nI ng), .int 0, .ref rf, .int 0])), (st, .inr (8, [.ref ml, .null])), (ml, .inr (0, [.int (nI mc), .ref ed, .int (nI sz0)])), (ed, .inl (cO, 10, .inr (.inr (.inr (.inr fe))))), (ck, .inr (1, [.ref ce, .null])), (ce, .inl (cJ, 128, .inr (.inl fE))), (mm, .inr (4, [.int (nI mi), .int (nI mt), .int (nI mg), .int (nI ms), .int sd, .null])), (rf, .inr (2, [.int (nI fi), .int ff, .int fo, .null]))]) hD hS hA [0, 1, 2, 3, 4, 5, 6, 7] rfl
  refine va_callv (va_runV (As := [.int (nI ad)]) (rest := []) ⟨hx, hb, hml, hown, hts⟩ (c_writeFirst_aN l dC dI (r) (rh) (rl) (st) (rf) (nf) (ng) (ck) (ce) (cJ) (fE) (ml) (mc) (ed) (sz0) (cO) (fe) (mm) (mi) (mt) (mg) (ms) (sd) (fi) (ff) (fo) (to) (se) (th) (ad) H.size hmi hmt hmg hms h_to h_se h_th h_ad hel hsz hsz2 hnf hlo hhi) (cwV 1 hts g_c_first_aN_c_writeFirst_aN_86 rfl rfl rfl (by decide +kernel) ⟨Nat.le_of_ble_eq_true rfl, Nat.le_of_ble_eq_true rfl⟩) ⟨fun a U g mk q => by obtain ⟨q0, q1, qP, qK, qD, qE⟩ := q; exact ⟨q0, q1, qP, va_K.moved (u := U) (U := U.calling g mk a) (Vm.Alike.refl U.vm) qK, qD, ev.same (u := U) (U := U.calling g mk a) rfl qE⟩, va_recv hKc hPc (ci := 6) (q0 := 0) rfl rfl, fun U hU hW => ⟨rfl, by rw [hU], by rw [hU]; exact hPc, va_K.moved hW.alike hKc, hDc.weaken (fun _ _ _ _ => trivial), hE.warm hW⟩⟩ rfl rfl hl.1 rfl (lv_room (Nat.le_of_ble_eq_true rfl)) dX5_first_18 ⟨Nat.le_of_ble_eq_true rfl, Nat.le_of_ble_eq_true rfl⟩) hS (fun q _ h => hFc q h) hFc (fun u t H1 locs ht hvm hw hB hz1 hk1 hS => ?_)
  clear hPc hDc hKc
  obtain ⟨hP1, hK1, hD1⟩ := hB
  rw [ht] at hP1
  have hK1 := va_K.moved hvm.symm hK1
  obtain ⟨hP, hD⟩ := va_join (wr := []) (w1 := [(r, .inr (6, [.int rh, .int rl, .ref st, .ref ck, .ref ck, .int 0, .int 1, .int (nI nf), .int (nI ng), .int 0, .ref rf, .int 0])), (st, .inr (8, [.ref ml, .null])), (ml, .inr (0, [.int (nI mc), .ref ed, .int (nI sz0)])), (ed, .inl (cO, 10, .inr (.inr (.inr (.inr fe))))), (ck, .inr (1, [.ref ce, .null])), (ce, .inl (cJ, 128, .inr (.inl fE))), (mm, .inr (4, [.int (nI mi), .int (nI mt), .int (nI mg), .int (nI ms), .int sd, .null])), (rf, .inr (2, [.int (nI (469762048 + 65536 * 236 + 256 * to + ad)), .int (nI (32 + 256 * (ms % 256) + 65536 * (ms / 256) + 16777216 * ((ms + 6) / 7))), .int (nI (se + 256 * mg)), .ref mm]))]) hP hD [0, 1, 2, 3, 4, 5, 6, 7] [] rfl rfl (by decide +kernel) (by decide +kernel) hk1 hFc hP1 hD1
  generalize H1 = H at hP hS ⊢
  replace hP : va_P (dC, dI) vwCl [(r, .inr (6, [.int rh, .int rl, .ref st, .ref ck, .ref ck, .int 0, .int 1, .int (nI nf), .int (nI ng), .int 0, .ref rf, .int 0])), (st, .inr (8, [.ref ml, .null])), (ml, .inr (0, [.int (nI mc), .ref ed, .int (nI sz0)])), (ed, .inl (cO, 10, .inr (.inr (.inr (.inr fe))))), (ck, .inr (1, [.ref ce, .null])), (ce, .inl (cJ, 128, .inr (.inl fE))), (mm, .inr (4, [.int (nI mi), .int (nI mt), .int (nI mg), .int (nI ms), .int sd, .null])), (rf, .inr (2, [.int (nI (469762048 + 65536 * 236 + 256 * to + ad)), .int (nI (32 + 256 * (ms % 256) + 65536 * (ms / 256) + 16777216 * ((ms + 6) / 7))), .int (nI (se + 256 * mg)), .ref mm]))] H := hP
  replace hD : va_D A [(r, .inr (6, [.int rh, .int rl, .ref st, .ref ck, .ref ck, .int 0, .int 1, .int (nI nf), .int (nI ng), .int 0, .ref rf, .int 0])), (st, .inr (8, [.ref ml, .null])), (ml, .inr (0, [.int (nI mc), .ref ed, .int (nI sz0)])), (ed, .inl (cO, 10, .inr (.inr (.inr (.inr fe))))), (ck, .inr (1, [.ref ce, .null])), (ce, .inl (cJ, 128, .inr (.inl fE))), (mm, .inr (4, [.int (nI mi), .int (nI mt), .int (nI mg), .int (nI ms), .int sd, .null])), (rf, .inr (2, [.int (nI (469762048 + 65536 * 236 + 256 * to + ad)), .int (nI (32 + 256 * (ms % 256) + 65536 * (ms / 256) + 16777216 * ((ms + 6) / 7))), .int (nI (se + 256 * mg)), .ref mm]))] := hD
  clear hw
  refine lv_aload_n hx hb dX5_first_21 rfl (lv_at hl 0 rfl) ?_
  refine lv_iconst (v := 1) hx hb dX5_first_22 (by decide) ?_
  refine va_put (D := (dC, dI)) (ci := 6) (v := .int 1) (ty := .boolean) (C := RX5) (T := TX5) (N := 12) hx hb hts in_c_first_aN_X5 tyX5 tyX5_ok nmX5 hown hK hP hD hS 0 rfl rfl 11 (by decide) (hts (.fieldLink RX5 42 "ClaimBus$Row" "firstIsWritten" "Z") (List.mem_of_getElem? (i := 5) rfl)) (fun _ h9 => h9) rfl (by decide +kernel) rfl rfl (Nat.le_of_ble_eq_true rfl) dX5_first_23 (fun H locs hP hD hS => ?_)
  replace hP : va_P (dC, dI) vwCl [(r, .inr (6, [.int rh, .int rl, .ref st, .ref ck, .ref ck, .int 0, .int 1, .int (nI nf), .int (nI ng), .int 0, .ref rf, .int 1])), (st, .inr (8, [.ref ml, .null])), (ml, .inr (0, [.int (nI mc), .ref ed, .int (nI sz0)])), (ed, .inl (cO, 10, .inr (.inr (.inr (.inr fe))))), (ck, .inr (1, [.ref ce, .null])), (ce, .inl (cJ, 128, .inr (.inl fE))), (mm, .inr (4, [.int (nI mi), .int (nI mt), .int (nI mg), .int (nI ms), .int sd, .null])), (rf, .inr (2, [.int (nI (469762048 + 65536 * 236 + 256 * to + ad)), .int (nI (32 + 256 * (ms % 256) + 65536 * (ms / 256) + 16777216 * ((ms + 6) / 7))), .int (nI (se + 256 * mg)), .ref mm]))] H := hP
  replace hD : va_D A [(r, .inr (6, [.int rh, .int rl, .ref st, .ref ck, .ref ck, .int 0, .int 1, .int (nI nf), .int (nI ng), .int 0, .ref rf, .int 1])), (st, .inr (8, [.ref ml, .null])), (ml, .inr (0, [.int (nI mc), .ref ed, .int (nI sz0)])), (ed, .inl (cO, 10, .inr (.inr (.inr (.inr fe))))), (ck, .inr (1, [.ref ce, .null])), (ce, .inl (cJ, 128, .inr (.inl fE))), (mm, .inr (4, [.int (nI mi), .int (nI mt), .int (nI mg), .int (nI ms), .int sd, .null])), (rf, .inr (2, [.int (nI (469762048 + 65536 * 236 + 256 * to + ad)), .int (nI (32 + 256 * (ms % 256) + 65536 * (ms / 256) + 16777216 * ((ms + 6) / 7))), .int (nI (se + 256 * mg)), .ref mm]))] := hD
  refine lv_aload_n hx hb dX5_first_26 rfl (lv_at hl 0 rfl) ?_
  refine va_get (D := (dC, dI)) (ci := 6) (v := .ref rf) (C := RX5) (T := TX5) (N := 12) hx hb hts in_c_first_aN_X5 hown hK hP 0 rfl rfl 10 (by decide) (hts (.fieldLink RX5 38 "ClaimBus$Row" "first" "LClaimBus$Frame;") (List.mem_of_getElem? (i := 9) rfl)) (fun _ h9 => h9) rfl dX5_first_27 ?_
  have hP9 := hP.sub (ws' := [(r, .inr (6, [.int rh, .int rl, .ref st, .ref ck, .ref ck, .int 0, .int 1, .int (nI nf), .int (nI ng), .int 0, .ref rf, .int 1])), (st, .inr (8, [.ref ml, .null])), (ml, .inr (0, [.int (nI mc), .ref ed, .int (nI sz0)])), (ed, .inl (cO, 10, .inr (.inr (.inr (.inr fe))))), (ck, .inr (1, [.ref ce, .null])), (ce, .inl (cJ, 128, .inr (.inl fE))), (mm, .inr (4, [.int (nI mi), .int (nI mt), .int (nI mg), .int (nI ms), .int sd, .null])), (rf, .inr (2, [.int (nI (469762048 + 65536 * 236 + 256 * to + ad)), .int (nI (32 + 256 * (ms % 256) + 65536 * (ms / 256) + 16777216 * ((ms + 6) / 7))), .int (nI (se + 256 * mg)), .ref mm]))]) [0, 1, 2, 3, 4, 5, 6, 7] rfl
  have hD9 := hD.sub (ws' := [(r, .inr (6, [.int rh, .int rl, .ref st, .ref ck, .ref ck, .int 0, .int 1, .int (nI nf), .int (nI ng), .int 0, .ref rf, .int 1])), (st, .inr (8, [.ref ml, .null])), (ml, .inr (0, [.int (nI mc), .ref ed, .int (nI sz0)])), (ed, .inl (cO, 10, .inr (.inr (.inr (.inr fe))))), (ck, .inr (1, [.ref ce, .null])), (ce, .inl (cJ, 128, .inr (.inl fE))), (mm, .inr (4, [.int (nI mi), .int (nI mt), .int (nI mg), .int (nI ms), .int sd, .null])), (rf, .inr (2, [.int (nI (469762048 + 65536 * 236 + 256 * to + ad)), .int (nI (32 + 256 * (ms % 256) + 65536 * (ms / 256) + 16777216 * ((ms + 6) / 7))), .int (nI (se + 256 * mg)), .ref mm]))]) [0, 1, 2, 3, 4, 5, 6, 7] (by decide +kernel) rfl
  have hK9 := hK.sub (tys' := [(cO, (.object "java/lang/Object")), (cJ, .long)]) [0, 1] rfl
  exact W.aret (v := .ref rf) hx hb hr (Or.inl ⟨_, rfl⟩) (Or.inr ⟨_, rfl⟩) (fun t ht hW => ⟨⟨some rf, (), rfl, rfl, ⟨by rw [ht]; exact hP9, va_K.moved hW.alike hK9, hD9⟩⟩, hS.F ht⟩) hS.2.2 dX5_first_30

noncomputable def tl_c_writeFirst_cN : List Cond := wsX50 ++ (v_c_firstEntry ++ (v_c_messageAt_null ++ (v_c_X10_identifier ++ (v_c_X3_writeControl_17N))))
noncomputable def v_c_writeFirst_cN : List Cond := .code yX5_writeFirst cX5_writeFirst 8 none :: ([.fieldLink RX5 31 "ClaimBus$Row" "claimWaits" "Z", .initialized RX5, .methodLink RX5 95 yX5_firstEntry, .instanceMethod yX5_firstEntry, .selects RX5 yX5_firstEntry yX5_firstEntry, .fieldLink RX5 51 "ClaimBus$Row" "store" "LClaimBus$Store;", .initialized RX7, .methodLink RX5 99 yX7_messageAt, .instanceMethod yX7_messageAt, .selects RX7 yX7_messageAt yX7_messageAt, .fieldLink RX5 38 "ClaimBus$Row" "first" "LClaimBus$Frame;", .initialized RX10, .static yX10_identifier, .initialized RX3, .methodLink RX5 119 yX3_writeControl, .instanceMethod yX3_writeControl, .selects RX3 yX3_writeControl yX3_writeControl] ++ tl_c_writeFirst_cN)
theorem it_c_writeFirst_cN : ∀ w ∈ tl_c_writeFirst_cN, w ∈ v_c_writeFirst_cN := fun w h => List.mem_cons_of_mem _ (List.mem_append_right _ h)
theorem in_c_writeFirst_cN_X5 : ∀ w ∈ wsX50, w ∈ v_c_writeFirst_cN := fun w h => it_c_writeFirst_cN w (List.mem_append_left _ h)
theorem ic_c_writeFirst_cN_c_firstEntry : ∀ w ∈ v_c_firstEntry, w ∈ v_c_writeFirst_cN := fun w h => it_c_writeFirst_cN w (List.mem_append_right _ (List.mem_append_left _ h))
theorem ic_c_writeFirst_cN_c_messageAt_null : ∀ w ∈ v_c_messageAt_null, w ∈ v_c_writeFirst_cN := fun w h => it_c_writeFirst_cN w (List.mem_append_right _ (List.mem_append_right _ (List.mem_append_left _ h)))
theorem ic_c_writeFirst_cN_c_X10_identifier : ∀ w ∈ v_c_X10_identifier, w ∈ v_c_writeFirst_cN := fun w h => it_c_writeFirst_cN w (List.mem_append_right _ (List.mem_append_right _ (List.mem_append_right _ (List.mem_append_left _ h))))
theorem ic_c_writeFirst_cN_c_X3_writeControl_17N : ∀ w ∈ v_c_X3_writeControl_17N, w ∈ v_c_writeFirst_cN := fun w h => it_c_writeFirst_cN w (List.mem_append_right _ (List.mem_append_right _ (List.mem_append_right _ (List.mem_append_right _ (h)))))
theorem gt_c_writeFirst_cN : ∀ w ∈ tl_c_writeFirst_cN, goodWord w = true := List.forall_mem_append.mpr ⟨gw_wsX50, List.forall_mem_append.mpr ⟨gw_c_firstEntry, List.forall_mem_append.mpr ⟨gw_c_messageAt_null, List.forall_mem_append.mpr ⟨gw_c_X10_identifier, gw_c_X3_writeControl_17N⟩⟩⟩⟩
theorem gw_c_writeFirst_cN : ∀ w ∈ v_c_writeFirst_cN, goodWord w = true := List.forall_mem_cons.mpr ⟨by decide +kernel, List.forall_mem_append.mpr ⟨List.all_eq_true.mp (by decide +kernel), gt_c_writeFirst_cN⟩⟩
theorem g_c_writeFirst_cN_c_firstEntry_95 : GoodIn v_c_writeFirst_cN (wsV RX5 95 RX5 yX5_firstEntry v_c_firstEntry) := goodIn_app (goodIn_r [.methodLink RX5 95 yX5_firstEntry, .instanceMethod yX5_firstEntry, .selects RX5 yX5_firstEntry yX5_firstEntry, .initialized RX5] [3, 4, 5, 2] (by decide +kernel) (by decide +kernel)) (fun w h => ⟨ic_c_writeFirst_cN_c_firstEntry w h, good_of_word (gw_c_firstEntry w h)⟩)
theorem g_c_writeFirst_cN_c_messageAt_null_99 : GoodIn v_c_writeFirst_cN (wsV RX5 99 RX7 yX7_messageAt v_c_messageAt_null) := goodIn_app (goodIn_r [.methodLink RX5 99 yX7_messageAt, .instanceMethod yX7_messageAt, .selects RX7 yX7_messageAt yX7_messageAt, .initialized RX7] [8, 9, 10, 7] (by decide +kernel) (by decide +kernel)) (fun w h => ⟨ic_c_writeFirst_cN_c_messageAt_null w h, good_of_word (gw_c_messageAt_null w h)⟩)
theorem g_c_writeFirst_cN_c_X10_identifier_103 : GoodIn v_c_writeFirst_cN v_c_X10_identifier := fun w h => ⟨ic_c_writeFirst_cN_c_X10_identifier w h, good_of_word (gw_c_X10_identifier w h)⟩
theorem g_c_writeFirst_cN_c_X3_writeControl_17N_119 : GoodIn v_c_writeFirst_cN (wsV RX5 119 RX3 yX3_writeControl v_c_X3_writeControl_17N) := goodIn_app (goodIn_r [.methodLink RX5 119 yX3_writeControl, .instanceMethod yX3_writeControl, .selects RX3 yX3_writeControl yX3_writeControl, .initialized RX3] [15, 16, 17, 14] (by decide +kernel) (by decide +kernel)) (fun w h => ⟨ic_c_writeFirst_cN_c_X3_writeControl_17N w h, good_of_word (gw_c_X3_writeControl_17N w h)⟩)
set_option maxHeartbeats 4000000 in
set_option maxRecDepth 100000 in
theorem c_writeFirst_cN (l : Launch) (dC : Nat → ClassId) (dI : Nat → Nat → Nat) (r : Nat) (rh : Int32) (rl : Int32) (st : Nat) (rf : Nat) (nf : Nat) (ng : Nat) (ck : Nat) (ce : Nat) (cJ : ClassId) (fE : Nat → Int64) (ml : Nat) (mc : Nat) (ed : Nat) (sz0 : Nat) (cO : ClassId) (fe : Nat → Option Nat) (mm : Nat) (mi : Nat) (mt : Nat) (mg : Nat) (ms : Nat) (sd : Int32) (fi : Nat) (ff : Int32) (fo : Int32) (to : Nat) (se : Nat) (th : Nat) (ad : Nat) (sz : Nat) (hmi : mi < 8) (hmt : mt < 256) (hmg : mg < 262144) (hms : ms < 1786) (h_to : to < 256) (h_se : se < 256) (h_th : th < 256) (h_ad : ad < 256) (hel : fe mi = some mm) (hsz : mi < sz0) (hsz2 : sz0 ≤ 10) (hnf : 1 ≤ nf) (hlo : (fE 0).toInt32 = (nI (16777216 * to + 65536 * 17 + 256 * se + th))) (hhi : (fE 0 >>> ((32 : Int32).toInt64 &&& 63)).toInt32 = (nI mi)) : Met l yX5_writeFirst v_c_writeFirst_cN ({ frames := 4, cells := 0, slots := 0, locals := 85 }) (va_Pc [.ref r, .int (nI ad)] (fun U => U.heap.size = sz ∧ va_P (dC, dI) vwCl [(r, .inr (6, [.int rh, .int rl, .ref st, .ref ck, .ref ck, .int 0, .int 1, .int (nI nf), .int (nI ng), .int 0, .ref rf, .int 0])), (st, .inr (8, [.ref ml, .null])), (ml, .inr (0, [.int (nI mc), .ref ed, .int (nI sz0)])), (ed, .inl (cO, 10, .inr (.inr (.inr (.inr fe))))), (ck, .inr (1, [.ref ce, .null])), (ce, .inl (cJ, 128, .inr (.inl fE))), (mm, .inr (4, [.int (nI mi), .int (nI mt), .int (nI mg), .int (nI ms), .int sd, .null])), (rf, .inr (2, [.int (nI fi), .int ff, .int fo, .null]))] U.heap ∧ va_K (dC, dI) vwCl [(cO, (.object "java/lang/Object")), (cJ, .long)] U ∧ va_D (fun _ => True) [(r, .inr (6, [.int rh, .int rl, .ref st, .ref ck, .ref ck, .int 0, .int 1, .int (nI nf), .int (nI ng), .int 0, .ref rf, .int 0])), (st, .inr (8, [.ref ml, .null])), (ml, .inr (0, [.int (nI mc), .ref ed, .int (nI sz0)])), (ed, .inl (cO, 10, .inr (.inr (.inr (.inr fe))))), (ck, .inr (1, [.ref ce, .null])), (ce, .inl (cJ, 128, .inr (.inl fE))), (mm, .inr (4, [.int (nI mi), .int (nI mt), .int (nI mg), .int (nI ms), .int sd, .null])), (rf, .inr (2, [.int (nI fi), .int ff, .int fo, .null]))] ∧ ev U)) (va_Qv (fun _ : Unit => True) (fun (_ : Unit) (t : State) => va_P (dC, dI) vwCl [(r, .inr (6, [.int rh, .int rl, .ref st, .ref ck, .ref ck, .int 0, .int 1, .int (nI nf), .int (nI ng), .int 0, .ref rf, .int 0])), (st, .inr (8, [.ref ml, .null])), (ml, .inr (0, [.int (nI mc), .ref ed, .int (nI sz0)])), (ed, .inl (cO, 10, .inr (.inr (.inr (.inr fe))))), (ck, .inr (1, [.ref ce, .null])), (ce, .inl (cJ, 128, .inr (.inl fE))), (mm, .inr (4, [.int (nI mi), .int (nI mt), .int (nI mg), .int (nI ms), .int sd, .null])), (rf, .inr (2, [.int (nI (469762048 + 65536 * 236 + 256 * to + ad)), .int (nI (17 + 256 * se + 65536 * th + 4278190080)), .int (nI (255 + 256 * mg)), .ref mm]))] t.heap ∧ va_K (dC, dI) vwCl [(cO, (.object "java/lang/Object")), (cJ, .long)] t ∧ va_D (va_A [(r, .inr (6, [.int rh, .int rl, .ref st, .ref ck, .ref ck, .int 0, .int 1, .int (nI nf), .int (nI ng), .int 0, .ref rf, .int 0])), (st, .inr (8, [.ref ml, .null])), (ml, .inr (0, [.int (nI mc), .ref ed, .int (nI sz0)])), (ed, .inl (cO, 10, .inr (.inr (.inr (.inr fe))))), (ck, .inr (1, [.ref ce, .null])), (ce, .inl (cJ, 128, .inr (.inl fE))), (mm, .inr (4, [.int (nI mi), .int (nI mt), .int (nI mg), .int (nI ms), .int sd, .null])), (rf, .inr (2, [.int (nI fi), .int ff, .int fo, .null]))] sz) [(r, .inr (6, [.int rh, .int rl, .ref st, .ref ck, .ref ck, .int 0, .int 1, .int (nI nf), .int (nI ng), .int 0, .ref rf, .int 0])), (st, .inr (8, [.ref ml, .null])), (ml, .inr (0, [.int (nI mc), .ref ed, .int (nI sz0)])), (ed, .inl (cO, 10, .inr (.inr (.inr (.inr fe))))), (ck, .inr (1, [.ref ce, .null])), (ce, .inl (cJ, 128, .inr (.inl fE))), (mm, .inr (4, [.int (nI mi), .int (nI mt), .int (nI mg), .int (nI ms), .int sd, .null])), (rf, .inr (2, [.int (nI (469762048 + 65536 * 236 + 256 * to + ad)), .int (nI (17 + 256 * se + 65536 * th + 4278190080)), .int (nI (255 + 256 * mg)), .ref mm]))]) (va_A [(r, .inr (6, [.int rh, .int rl, .ref st, .ref ck, .ref ck, .int 0, .int 1, .int (nI nf), .int (nI ng), .int 0, .ref rf, .int 0])), (st, .inr (8, [.ref ml, .null])), (ml, .inr (0, [.int (nI mc), .ref ed, .int (nI sz0)])), (ed, .inl (cO, 10, .inr (.inr (.inr (.inr fe))))), (ck, .inr (1, [.ref ce, .null])), (ce, .inl (cJ, 128, .inr (.inl fE))), (mm, .inr (4, [.int (nI mi), .int (nI mt), .int (nI mg), .int (nI ms), .int sd, .null])), (rf, .inr (2, [.int (nI fi), .int ff, .int fo, .null]))] sz)) 0 0 (va_A [(r, .inr (6, [.int rh, .int rl, .ref st, .ref ck, .ref ck, .int 0, .int 1, .int (nI nf), .int (nI ng), .int 0, .ref rf, .int 0])), (st, .inr (8, [.ref ml, .null])), (ml, .inr (0, [.int (nI mc), .ref ed, .int (nI sz0)])), (ed, .inl (cO, 10, .inr (.inr (.inr (.inr fe))))), (ck, .inr (1, [.ref ce, .null])), (ce, .inl (cJ, 128, .inr (.inl fE))), (mm, .inr (4, [.int (nI mi), .int (nI mt), .int (nI mg), .int (nI ms), .int sd, .null])), (rf, .inr (2, [.int (nI fi), .int ff, .int fo, .null]))] sz) := by
  refine Met.ofW (cc := cX5_writeFirst) (maxL := 8) (ret := none) (by decide) rfl ?_
  intro p e s m args below meth c s₁ B hml hv
  obtain ⟨rfl, hsz, hP, hK, hD0, hE⟩ := hv
  have hx := B.exec
  have hb := B.bytes
  have hr := B.returns
  have hts := atoms_spec (ws := v_c_writeFirst_cN) B.pre
  have hown : s.vm.findClass RX5 = some m.cls := findClass_of_methodNamed B.named
  have hlocks := B.notSynchronized
  subst hsz
  have hD := hD0.self (sz := s.heap.size)
  generalize hAe : va_A [(r, .inr (6, [.int rh, .int rl, .ref st, .ref ck, .ref ck, .int 0, .int 1, .int (nI nf), .int (nI ng), .int 0, .ref rf, .int 0])), (st, .inr (8, [.ref ml, .null])), (ml, .inr (0, [.int (nI mc), .ref ed, .int (nI sz0)])), (ed, .inl (cO, 10, .inr (.inr (.inr (.inr fe))))), (ck, .inr (1, [.ref ce, .null])), (ce, .inl (cJ, 128, .inr (.inl fE))), (mm, .inr (4, [.int (nI mi), .int (nI mt), .int (nI mg), .int (nI ms), .int sd, .null])), (rf, .inr (2, [.int (nI fi), .int ff, .int fo, .null]))] s.heap.size = A at hD ⊢
  have hA : ∀ q : Nat, s.heap.size ≤ q → A q := fun q h => by rw [← hAe]; exact Or.inr h
  have hS : va_S A s.heap s.heap [] := va_S.rf
  replace hP : va_P (dC, dI) vwCl [(r, .inr (6, [.int rh, .int rl, .ref st, .ref ck, .ref ck, .int 0, .int 1, .int (nI nf), .int (nI ng), .int 0, .ref rf, .int 0])), (st, .inr (8, [.ref ml, .null])), (ml, .inr (0, [.int (nI mc), .ref ed, .int (nI sz0)])), (ed, .inl (cO, 10, .inr (.inr (.inr (.inr fe))))), (ck, .inr (1, [.ref ce, .null])), (ce, .inl (cJ, 128, .inr (.inl fE))), (mm, .inr (4, [.int (nI mi), .int (nI mt), .int (nI mg), .int (nI ms), .int sd, .null])), (rf, .inr (2, [.int (nI fi), .int ff, .int fo, .null]))] s.heap := hP
  have hl := lv_entry ([.ref r, .int (nI ad)]) (n := 8) (Nat.le_of_ble_eq_true rfl)
  rw [lg_entry_eq]
  generalize (lg_sl ([.ref r, .int (nI ad)]) ++ List.replicate (8 - (lg_sl ([.ref r, .int (nI ad)])).length) Slot.unset).toArray = ls at hl ⊢
  replace hl : lv_has ls 8 [(0, .ref r), (1, .int (nI ad))] := hl
  obtain ⟨H, hH⟩ : ∃ z : Heap, z = s.heap := ⟨_, rfl⟩
  rw [← hH]
  replace hS : va_S A s.heap H [] := by rw [hH]; exact va_S.rf
  replace hP : va_P (dC, dI) vwCl [(r, .inr (6, [.int rh, .int rl, .ref st, .ref ck, .ref ck, .int 0, .int 1, .int (nI nf), .int (nI ng), .int 0, .ref rf, .int 0])), (st, .inr (8, [.ref ml, .null])), (ml, .inr (0, [.int (nI mc), .ref ed, .int (nI sz0)])), (ed, .inl (cO, 10, .inr (.inr (.inr (.inr fe))))), (ck, .inr (1, [.ref ce, .null])), (ce, .inl (cJ, 128, .inr (.inl fE))), (mm, .inr (4, [.int (nI mi), .int (nI mt), .int (nI mg), .int (nI ms), .int sd, .null])), (rf, .inr (2, [.int (nI fi), .int ff, .int fo, .null]))] H := by rw [hH]; exact hP
  clear hH
  refine lv_aload_n hx hb dX5_writeFirst_0 rfl (lv_at hl 0 rfl) ?_
  refine va_get (D := (dC, dI)) (ci := 6) (v := .int 0) (C := RX5) (T := TX5) (N := 12) hx hb hts in_c_writeFirst_cN_X5 hown hK hP 0 rfl rfl 9 (by decide) (hts (.fieldLink RX5 31 "ClaimBus$Row" "claimWaits" "Z") (List.mem_of_getElem? (i := 1) rfl)) (fun _ h9 => h9) rfl dX5_writeFirst_1 ?_
  refine lv_if_eq (tgt := 28) hx hb dX5_writeFirst_4 (by decide) (fun c_1 => ?_) (fun c_1 => ?_)
  rotate_left
  · exact absurd (by decide) c_1
  refine lv_aload_n hx hb dX5_writeFirst_28 rfl (lv_at hl 0 rfl) ?_
  have hPc := hP.sub (ws' := [(r, .inr (6, [.int rh, .int rl, .ref st, .ref ck, .ref ck, .int 0, .int 1, .int (nI nf), .int (nI ng), .int 0, .ref rf, .int 0])), (ck, .inr (1, [.ref ce, .null])), (ce, .inl (cJ, 128, .inr (.inl fE)))]) [0, 4, 5] rfl
  have hDc := hD.sub (ws' := [(r, .inr (6, [.int rh, .int rl, .ref st, .ref ck, .ref ck, .int 0, .int 1, .int (nI nf), .int (nI ng), .int 0, .ref rf, .int 0])), (ck, .inr (1, [.ref ce, .null])), (ce, .inl (cJ, 128, .inr (.inl fE)))]) [0, 4, 5] (by decide +kernel) rfl
  have hKc := hK.sub (tys' := [(cJ, .long)]) [1] rfl
  have hFc := ro_free hS hA
  refine va_calll (va_runV (As := []) (rest := []) ⟨hx, hb, hml, hown, hts⟩ (c_firstEntry l dC dI (r) (rh) (rl) (st) (rf) (nf) (ng) (ck) (ce) (cJ) (fE) H.size) (cwV 0 hts g_c_writeFirst_cN_c_firstEntry_95 rfl rfl rfl (by decide +kernel) ⟨Nat.le_of_ble_eq_true rfl, Nat.le_of_ble_eq_true rfl⟩) ⟨fun a U g mk q => by obtain ⟨q0, q1, qP, qK, qD, qE⟩ := q; exact ⟨q0, q1, qP, va_K.moved (u := U) (U := U.calling g mk a) (Vm.Alike.refl U.vm) qK, qD, ev.same (u := U) (U := U.calling g mk a) rfl qE⟩, va_recv hKc hPc (ci := 6) (q0 := 0) rfl rfl, fun U hU hW => ⟨rfl, by rw [hU], by rw [hU]; exact hPc, va_K.moved hW.alike hKc, hDc.weaken (fun _ _ _ _ => trivial), hE.warm hW⟩⟩ rfl rfl hl.1 rfl (lv_room (Nat.le_of_ble_eq_true rfl)) dX5_writeFirst_29 ⟨Nat.le_of_ble_eq_true rfl, Nat.le_of_ble_eq_true rfl⟩) hS (fun q _ h => hFc q h) hFc (fun r_2 u t H1 locs ht hvm hw hB hz1 hk1 hS => ?_)
  clear hPc hDc hKc
  replace hP := ro_keep hP hk1
  generalize H1 = H at hP hS ⊢
  replace hP : va_P (dC, dI) vwCl [(r, .inr (6, [.int rh, .int rl, .ref st, .ref ck, .ref ck, .int 0, .int 1, .int (nI nf), .int (nI ng), .int 0, .ref rf, .int 0])), (st, .inr (8, [.ref ml, .null])), (ml, .inr (0, [.int (nI mc), .ref ed, .int (nI sz0)])), (ed, .inl (cO, 10, .inr (.inr (.inr (.inr fe))))), (ck, .inr (1, [.ref ce, .null])), (ce, .inl (cJ, 128, .inr (.inl fE))), (mm, .inr (4, [.int (nI mi), .int (nI mt), .int (nI mg), .int (nI ms), .int sd, .null])), (rf, .inr (2, [.int (nI fi), .int ff, .int fo, .null]))] H := hP
  have hw := hw.symm
  subst hw
  refine lv_lstore_n (lv' := [(2, .long (fE 0)), (0, .ref r), (1, .int (nI ad))]) hx hb dX5_writeFirst_32 rfl hl (by decide) rfl (fun ls hl => ?_)
  refine lv_aload_n hx hb dX5_writeFirst_33 rfl (lv_at hl 1 rfl) ?_
  refine va_get (D := (dC, dI)) (ci := 6) (v := .ref st) (C := RX5) (T := TX5) (N := 12) hx hb hts in_c_writeFirst_cN_X5 hown hK hP 0 rfl rfl 2 (by decide) (hts (.fieldLink RX5 51 "ClaimBus$Row" "store" "LClaimBus$Store;") (List.mem_of_getElem? (i := 6) rfl)) (fun _ h9 => h9) rfl dX5_writeFirst_34 ?_
  refine lv_lload_n hx hb dX5_writeFirst_37 rfl (lv_at hl 0 rfl) ?_
  refine lv_bipush (v := 32) hx hb dX5_writeFirst_38 (by decide) ?_
  refine lv_lshr hx hb dX5_writeFirst_40 rfl ?_
  refine lv_l2i hx hb dX5_writeFirst_41 rfl ?_
  rw [hhi]
  have hPc := hP.sub (ws' := [(st, .inr (8, [.ref ml, .null])), (ml, .inr (0, [.int (nI mc), .ref ed, .int (nI sz0)])), (ed, .inl (cO, 10, .inr (.inr (.inr (.inr fe))))), (mm, .inr (4, [.int (nI mi), .int (nI mt), .int (nI mg), .int (nI ms), .int sd, .null]))]) [1, 2, 3, 6] rfl
  have hDc := hD.sub (ws' := [(st, .inr (8, [.ref ml, .null])), (ml, .inr (0, [.int (nI mc), .ref ed, .int (nI sz0)])), (ed, .inl (cO, 10, .inr (.inr (.inr (.inr fe))))), (mm, .inr (4, [.int (nI mi), .int (nI mt), .int (nI mg), .int (nI ms), .int sd, .null]))]) [1, 2, 3, 6] (by decide +kernel) rfl
  have hKc := hK.sub (tys' := [(cO, (.object "java/lang/Object"))]) [0] rfl
  have hFc := ro_free hS hA
  refine va_callq (va_runV (As := [.int (nI mi)]) (rest := []) ⟨hx, hb, hml, hown, hts⟩ (c_messageAt_null l dC dI (st) (ml) (mc) (ed) (sz0) (cO) (fe) (mm) (mi) (mt) (mg) (ms) (sd) (mi) H.size hel hsz hsz2) (cwV 1 hts g_c_writeFirst_cN_c_messageAt_null_99 rfl rfl rfl (by decide +kernel) ⟨Nat.le_of_ble_eq_true rfl, Nat.le_of_ble_eq_true rfl⟩) ⟨fun a U g mk q => by obtain ⟨q0, q1, qP, qK, qD, qE⟩ := q; exact ⟨q0, q1, qP, va_K.moved (u := U) (U := U.calling g mk a) (Vm.Alike.refl U.vm) qK, qD, ev.same (u := U) (U := U.calling g mk a) rfl qE⟩, va_recv hKc hPc (ci := 8) (q0 := 0) rfl rfl, fun U hU hW => ⟨rfl, by rw [hU], by rw [hU]; exact hPc, va_K.moved hW.alike hKc, hDc.weaken (fun _ _ _ _ => trivial), hE.warm hW⟩⟩ rfl rfl hl.1 rfl (lv_room (Nat.le_of_ble_eq_true rfl)) dX5_writeFirst_42 ⟨Nat.le_of_ble_eq_true rfl, Nat.le_of_ble_eq_true rfl⟩) hS (fun q _ h => hFc q h) hFc (fun r_3 u t H1 locs ht hvm hw hB hz1 hk1 hS => ?_)
  clear hPc hDc hKc
  replace hP := ro_keep hP hk1
  generalize H1 = H at hP hS ⊢
  replace hP : va_P (dC, dI) vwCl [(r, .inr (6, [.int rh, .int rl, .ref st, .ref ck, .ref ck, .int 0, .int 1, .int (nI nf), .int (nI ng), .int 0, .ref rf, .int 0])), (st, .inr (8, [.ref ml, .null])), (ml, .inr (0, [.int (nI mc), .ref ed, .int (nI sz0)])), (ed, .inl (cO, 10, .inr (.inr (.inr (.inr fe))))), (ck, .inr (1, [.ref ce, .null])), (ce, .inl (cJ, 128, .inr (.inl fE))), (mm, .inr (4, [.int (nI mi), .int (nI mt), .int (nI mg), .int (nI ms), .int sd, .null])), (rf, .inr (2, [.int (nI fi), .int ff, .int fo, .null]))] H := hP
  have hw := hw.symm
  subst hw
  refine W.eq (g2 := F0 m 45 ls [.ref mm]) rfl ?_
  refine lv_astore (lv' := [(4, .ref mm), (2, .long (fE 0)), (0, .ref r), (1, .int (nI ad))]) hx hb dX5_writeFirst_45 hl (by decide) rfl (fun ls hl => ?_)
  refine lv_lload_n hx hb dX5_writeFirst_47 rfl (lv_at hl 1 rfl) ?_
  refine lv_l2i hx hb dX5_writeFirst_48 rfl ?_
  rw [hlo]
  refine lv_istore (lv' := [(5, .int (nI (16777216 * to + 65536 * 17 + 256 * se + th))), (4, .ref mm), (2, .long (fE 0)), (0, .ref r), (1, .int (nI ad))]) hx hb dX5_writeFirst_49 hl (by decide) rfl (fun ls hl => ?_)
  refine lv_iload hx hb dX5_writeFirst_51 (lv_at hl 0 rfl) ?_
  refine lv_bipush (v := 24) hx hb dX5_writeFirst_53 (by decide) ?_
  refine lv_iushr (v := (nI to)) hx hb dX5_writeFirst_55 ((pk_ushrN (n := (16777216 * to + 65536 * 17 + 256 * se + th)) (by omega) (24 : Int32) 24 (by decide)).trans (show nI ((16777216 * to + 65536 * 17 + 256 * se + th) / 2 ^ 24) = nI (to) from congrArg nI (by omega))) ?_
  refine lv_istore (lv' := [(6, .int (nI to)), (5, .int (nI (16777216 * to + 65536 * 17 + 256 * se + th))), (4, .ref mm), (2, .long (fE 0)), (0, .ref r), (1, .int (nI ad))]) hx hb dX5_writeFirst_56 hl (by decide) rfl (fun ls hl => ?_)
  refine lv_iload hx hb dX5_writeFirst_58 (lv_at hl 1 rfl) ?_
  refine lv_bipush (v := 16) hx hb dX5_writeFirst_60 (by decide) ?_
  refine lv_iushr (v := (nI (256 * to + 17))) hx hb dX5_writeFirst_62 ((pk_ushrN (n := (16777216 * to + 65536 * 17 + 256 * se + th)) (by omega) (16 : Int32) 16 (by decide)).trans (show nI ((16777216 * to + 65536 * 17 + 256 * se + th) / 2 ^ 16) = nI (256 * to + 17) from congrArg nI (by omega))) ?_
  refine lv_sipush (v := 255) hx hb dX5_writeFirst_63 (by decide) ?_
  refine lv_iand hx hb dX5_writeFirst_66 ?_
  refine lv_topi (fun x_4 ex_4 => ?_)
  obtain rfl : x_4 = 17 := ex_4.trans ((pk_andN (n := (256 * to + 17)) (m := 255) (by omega) 8 (by decide)).trans (show nI ((256 * to + 17) % 2 ^ 8) = nI (17) from congrArg nI (by omega)))
  refine lv_istore (lv' := [(7, .int 17), (6, .int (nI to)), (5, .int (nI (16777216 * to + 65536 * 17 + 256 * se + th))), (4, .ref mm), (2, .long (fE 0)), (0, .ref r), (1, .int (nI ad))]) hx hb dX5_writeFirst_67 hl (by decide) rfl (fun ls hl => ?_)
  refine lv_aload hx hb dX5_writeFirst_69 (lv_at hl 3 rfl) ?_
  refine lv_ifnonnull (tgt := 106) hx hb dX5_writeFirst_71 (by decide) ?_
  refine lv_iload hx hb dX5_writeFirst_106 (lv_at hl 0 rfl) ?_
  refine lv_if_ne (tgt := 124) hx hb dX5_writeFirst_108 (by decide) (fun c_5 => ?_) (fun c_5 => ?_)
  rotate_left
  · exact absurd c_5 (by decide)
  refine lv_iload hx hb dX5_writeFirst_124 (lv_at hl 0 rfl) ?_
  refine lv_sipush (v := 235) hx hb dX5_writeFirst_126 (by decide) ?_
  refine lv_icmp_ne (tgt := 156) hx hb dX5_writeFirst_129 (by decide) (fun c_6 => ?_) (fun c_6 => ?_)
  rotate_left
  · exact absurd c_6 (by decide)
  refine lv_aload hx hb dX5_writeFirst_156 (lv_at hl 3 rfl) ?_
  refine lv_aload_n hx hb dX5_writeFirst_158 rfl (lv_at hl 5 rfl) ?_
  refine va_get (D := (dC, dI)) (ci := 6) (v := .ref rf) (C := RX5) (T := TX5) (N := 12) hx hb hts in_c_writeFirst_cN_X5 hown hK hP 0 rfl rfl 10 (by decide) (hts (.fieldLink RX5 38 "ClaimBus$Row" "first" "LClaimBus$Frame;") (List.mem_of_getElem? (i := 11) rfl)) (fun _ h9 => h9) rfl dX5_writeFirst_159 ?_
  refine lv_sipush (v := 236) hx hb dX5_writeFirst_162 (by decide) ?_
  refine lv_iload hx hb dX5_writeFirst_165 (lv_at hl 1 rfl) ?_
  refine lv_iload_n hx hb dX5_writeFirst_167 rfl (lv_at hl 6 rfl) ?_
  have hPc := hP.sub (ws' := []) [] rfl
  have hDc := hD.sub (ws' := []) [] (by decide +kernel) rfl
  have hKc := hK.sub (tys' := []) [] rfl
  have hFc := ro_free hS hA
  refine va_calli (va_runSN (As := [.int 236, .int (nI to), .int (nI ad)]) (rest := [.ref rf, .ref mm]) ⟨hx, hb, hml, hown, hts⟩ (c_X10_identifier l dC dI (236) (to) (ad) H.size (by omega) h_to h_ad) ⟨va_cnB 3 hts g_c_writeFirst_cN_c_X10_identifier_103 rfl rfl rfl hE.n8 (hts (.initialized RX10) (List.mem_of_getElem? (i := 12) rfl)) (by decide +kernel) ⟨Nat.le_of_ble_eq_true rfl, Nat.le_of_ble_eq_true rfl⟩, (hts (.static yX10_identifier) (List.mem_of_getElem? (i := 13) rfl)), trivial⟩ ⟨fun a U g mk q => by obtain ⟨q0, q1, qP, qK, qD, qE⟩ := q; exact ⟨q0, q1, qP, va_K.moved (u := U) (U := U.calling g mk a) (Vm.Alike.refl U.vm) qK, qD, ev.same (u := U) (U := U.calling g mk a) rfl qE⟩, fun U hU hW => ⟨rfl, by rw [hU], by rw [hU]; exact hPc, va_K.moved hW.alike hKc, hDc.weaken (fun _ _ _ _ => trivial), hE.warm hW⟩⟩ rfl rfl hl.1 rfl (lv_room (Nat.le_of_ble_eq_true rfl)) dX5_writeFirst_168 ⟨Nat.le_of_ble_eq_true rfl, Nat.le_of_ble_eq_true rfl⟩) hS (fun q _ h => hFc q h) hFc (fun r_7 u t H1 locs ht hvm hw hB hz1 hk1 hS => ?_)
  clear hPc hDc hKc
  replace hP := ro_keep hP hk1
  generalize H1 = H at hP hS ⊢
  replace hP : va_P (dC, dI) vwCl [(r, .inr (6, [.int rh, .int rl, .ref st, .ref ck, .ref ck, .int 0, .int 1, .int (nI nf), .int (nI ng), .int 0, .ref rf, .int 0])), (st, .inr (8, [.ref ml, .null])), (ml, .inr (0, [.int (nI mc), .ref ed, .int (nI sz0)])), (ed, .inl (cO, 10, .inr (.inr (.inr (.inr fe))))), (ck, .inr (1, [.ref ce, .null])), (ce, .inl (cJ, 128, .inr (.inl fE))), (mm, .inr (4, [.int (nI mi), .int (nI mt), .int (nI mg), .int (nI ms), .int sd, .null])), (rf, .inr (2, [.int (nI fi), .int ff, .int fo, .null]))] H := hP
  have hw := hw.symm
  subst hw
  refine lv_iload hx hb dX5_writeFirst_171 (lv_at hl 0 rfl) ?_
  refine lv_iload hx hb dX5_writeFirst_173 (lv_at hl 2 rfl) ?_
  refine lv_bipush (v := 8) hx hb dX5_writeFirst_175 (by decide) ?_
  refine lv_iushr (v := (nI (se + 65536 * to + 4352))) hx hb dX5_writeFirst_177 ((pk_ushrN (n := (16777216 * to + 65536 * 17 + 256 * se + th)) (by omega) (8 : Int32) 8 (by decide)).trans (show nI ((16777216 * to + 65536 * 17 + 256 * se + th) / 2 ^ 8) = nI (se + 65536 * to + 4352) from congrArg nI (by omega))) ?_
  refine lv_sipush (v := 255) hx hb dX5_writeFirst_178 (by decide) ?_
  refine lv_iand hx hb dX5_writeFirst_181 ?_
  refine lv_topi (fun x_8 ex_8 => ?_)
  obtain rfl : x_8 = (nI se) := ex_8.trans ((pk_andN (n := (se + 65536 * to + 4352)) (m := 255) (by omega) 8 (by decide)).trans (show nI ((se + 65536 * to + 4352) % 2 ^ 8) = nI (se) from congrArg nI (by omega)))
  refine lv_iload hx hb dX5_writeFirst_182 (lv_at hl 2 rfl) ?_
  refine lv_sipush (v := 255) hx hb dX5_writeFirst_184 (by decide) ?_
  refine lv_iand hx hb dX5_writeFirst_187 ?_
  refine lv_topi (fun x_9 ex_9 => ?_)
  obtain rfl : x_9 = (nI th) := ex_9.trans ((pk_andN (n := (16777216 * to + 65536 * 17 + 256 * se + th)) (m := 255) (by omega) 8 (by decide)).trans (show nI ((16777216 * to + 65536 * 17 + 256 * se + th) % 2 ^ 8) = nI (th) from congrArg nI (by omega)))
  have hPc := hP.sub (ws' := [(mm, .inr (4, [.int (nI mi), .int (nI mt), .int (nI mg), .int (nI ms), .int sd, .null])), (rf, .inr (2, [.int (nI fi), .int ff, .int fo, .null]))]) [6, 7] rfl
  have hDc := hD.sub (ws' := [(mm, .inr (4, [.int (nI mi), .int (nI mt), .int (nI mg), .int (nI ms), .int sd, .null])), (rf, .inr (2, [.int (nI fi), .int ff, .int fo, .null]))]) [6, 7] (by decide +kernel) rfl
  have hKc := hK.sub (tys' := []) [] rfl
  have hFc := va_free (wc := [(mm, .inr (4, [.int (nI mi), .int (nI mt), .int (nI mg), .int (nI ms), .int sd, .null])), (rf, .inr (2, [.int (nI fi), .int ff, .int fo, .null]))]) hD hS hA [6, 7] rfl
  refine va_callv (va_runV (As := [.ref rf, .int (nI (469762048 + 65536 * 236 + 256 * to + ad)), .int 17, .int (nI se), .int (nI th)]) (rest := []) ⟨hx, hb, hml, hown, hts⟩ (c_X3_writeControl_17N l dC dI (mm) (mi) (mt) (mg) (ms) (sd) (rf) (fi) (ff) (fo) ((469762048 + 65536 * 236 + 256 * to + ad)) (se) (th) H.size hmi hmt hmg hms h_se h_th) (cwV 5 hts g_c_writeFirst_cN_c_X3_writeControl_17N_119 rfl rfl rfl (by decide +kernel) ⟨Nat.le_of_ble_eq_true rfl, Nat.le_of_ble_eq_true rfl⟩) ⟨fun a U g mk q => by obtain ⟨q0, q1, qP, qK, qD, qE⟩ := q; exact ⟨q0, q1, qP, va_K.moved (u := U) (U := U.calling g mk a) (Vm.Alike.refl U.vm) qK, qD, ev.same (u := U) (U := U.calling g mk a) rfl qE⟩, va_recv hKc hPc (ci := 4) (q0 := 0) rfl rfl, fun U hU hW => ⟨rfl, by rw [hU], by rw [hU]; exact hPc, va_K.moved hW.alike hKc, hDc.weaken (fun _ _ _ _ => trivial), hE.warm hW⟩⟩ rfl rfl hl.1 rfl (lv_room (Nat.le_of_ble_eq_true rfl)) dX5_writeFirst_188 ⟨Nat.le_of_ble_eq_true rfl, Nat.le_of_ble_eq_true rfl⟩) hS (fun q _ h => hFc q h) hFc (fun u t H1 locs ht hvm hw hB hz1 hk1 hS => ?_)
  clear hPc hDc hKc
  obtain ⟨hP1, hK1, hD1⟩ := hB
  rw [ht] at hP1
  have hK1 := va_K.moved hvm.symm hK1
  obtain ⟨hP, hD⟩ := va_join (wr := [(r, .inr (6, [.int rh, .int rl, .ref st, .ref ck, .ref ck, .int 0, .int 1, .int (nI nf), .int (nI ng), .int 0, .ref rf, .int 0])), (st, .inr (8, [.ref ml, .null])), (ml, .inr (0, [.int (nI mc), .ref ed, .int (nI sz0)])), (ed, .inl (cO, 10, .inr (.inr (.inr (.inr fe))))), (ck, .inr (1, [.ref ce, .null])), (ce, .inl (cJ, 128, .inr (.inl fE)))]) (w1 := [(mm, .inr (4, [.int (nI mi), .int (nI mt), .int (nI mg), .int (nI ms), .int sd, .null])), (rf, .inr (2, [.int (nI (469762048 + 65536 * 236 + 256 * to + ad)), .int (nI (17 + 256 * se + 65536 * th + 4278190080)), .int (nI (255 + 256 * mg)), .ref mm]))]) hP hD [6, 7] [0, 1, 2, 3, 4, 5] rfl rfl (by decide +kernel) (by decide +kernel) hk1 hFc hP1 hD1
  generalize H1 = H at hP hS ⊢
  replace hP : va_P (dC, dI) vwCl [(r, .inr (6, [.int rh, .int rl, .ref st, .ref ck, .ref ck, .int 0, .int 1, .int (nI nf), .int (nI ng), .int 0, .ref rf, .int 0])), (st, .inr (8, [.ref ml, .null])), (ml, .inr (0, [.int (nI mc), .ref ed, .int (nI sz0)])), (ed, .inl (cO, 10, .inr (.inr (.inr (.inr fe))))), (ck, .inr (1, [.ref ce, .null])), (ce, .inl (cJ, 128, .inr (.inl fE))), (mm, .inr (4, [.int (nI mi), .int (nI mt), .int (nI mg), .int (nI ms), .int sd, .null])), (rf, .inr (2, [.int (nI (469762048 + 65536 * 236 + 256 * to + ad)), .int (nI (17 + 256 * se + 65536 * th + 4278190080)), .int (nI (255 + 256 * mg)), .ref mm]))] H := hP
  replace hD : va_D A [(r, .inr (6, [.int rh, .int rl, .ref st, .ref ck, .ref ck, .int 0, .int 1, .int (nI nf), .int (nI ng), .int 0, .ref rf, .int 0])), (st, .inr (8, [.ref ml, .null])), (ml, .inr (0, [.int (nI mc), .ref ed, .int (nI sz0)])), (ed, .inl (cO, 10, .inr (.inr (.inr (.inr fe))))), (ck, .inr (1, [.ref ce, .null])), (ce, .inl (cJ, 128, .inr (.inl fE))), (mm, .inr (4, [.int (nI mi), .int (nI mt), .int (nI mg), .int (nI ms), .int sd, .null])), (rf, .inr (2, [.int (nI (469762048 + 65536 * 236 + 256 * to + ad)), .int (nI (17 + 256 * se + 65536 * th + 4278190080)), .int (nI (255 + 256 * mg)), .ref mm]))] := hD
  clear hw
  have hP9 := hP.sub (ws' := [(r, .inr (6, [.int rh, .int rl, .ref st, .ref ck, .ref ck, .int 0, .int 1, .int (nI nf), .int (nI ng), .int 0, .ref rf, .int 0])), (st, .inr (8, [.ref ml, .null])), (ml, .inr (0, [.int (nI mc), .ref ed, .int (nI sz0)])), (ed, .inl (cO, 10, .inr (.inr (.inr (.inr fe))))), (ck, .inr (1, [.ref ce, .null])), (ce, .inl (cJ, 128, .inr (.inl fE))), (mm, .inr (4, [.int (nI mi), .int (nI mt), .int (nI mg), .int (nI ms), .int sd, .null])), (rf, .inr (2, [.int (nI (469762048 + 65536 * 236 + 256 * to + ad)), .int (nI (17 + 256 * se + 65536 * th + 4278190080)), .int (nI (255 + 256 * mg)), .ref mm]))]) [0, 1, 2, 3, 4, 5, 6, 7] rfl
  have hD9 := hD.sub (ws' := [(r, .inr (6, [.int rh, .int rl, .ref st, .ref ck, .ref ck, .int 0, .int 1, .int (nI nf), .int (nI ng), .int 0, .ref rf, .int 0])), (st, .inr (8, [.ref ml, .null])), (ml, .inr (0, [.int (nI mc), .ref ed, .int (nI sz0)])), (ed, .inl (cO, 10, .inr (.inr (.inr (.inr fe))))), (ck, .inr (1, [.ref ce, .null])), (ce, .inl (cJ, 128, .inr (.inl fE))), (mm, .inr (4, [.int (nI mi), .int (nI mt), .int (nI mg), .int (nI ms), .int sd, .null])), (rf, .inr (2, [.int (nI (469762048 + 65536 * 236 + 256 * to + ad)), .int (nI (17 + 256 * se + 65536 * th + 4278190080)), .int (nI (255 + 256 * mg)), .ref mm]))]) [0, 1, 2, 3, 4, 5, 6, 7] (by decide +kernel) rfl
  have hK9 := hK.sub (tys' := [(cO, (.object "java/lang/Object")), (cJ, .long)]) [0, 1] rfl
  exact W.vret hx hb hr (fun t ht hW => ⟨⟨(), rfl, trivial, ⟨by rw [ht]; exact hP9, va_K.moved hW.alike hK9, hD9⟩⟩, hS.F ht⟩) hS.2.2 dX5_writeFirst_191

noncomputable def tl_c_first_cN : List Cond := wsX50 ++ (v_c_len_f ++ (v_c_writeFirst_cN))
noncomputable def v_c_first_cN : List Cond := .code yX5_first cX5_first 2 (some (.object "ClaimBus$Frame")) :: ([.initialized RX5, .methodLink RX5 82 yX5_length, .instanceMethod yX5_length, .selects RX5 yX5_length yX5_length, .fieldLink RX5 42 "ClaimBus$Row" "firstIsWritten" "Z", .methodLink RX5 86 yX5_writeFirst, .instanceMethod yX5_writeFirst, .selects RX5 yX5_writeFirst yX5_writeFirst, .fieldLink RX5 38 "ClaimBus$Row" "first" "LClaimBus$Frame;"] ++ tl_c_first_cN)
theorem it_c_first_cN : ∀ w ∈ tl_c_first_cN, w ∈ v_c_first_cN := fun w h => List.mem_cons_of_mem _ (List.mem_append_right _ h)
theorem in_c_first_cN_X5 : ∀ w ∈ wsX50, w ∈ v_c_first_cN := fun w h => it_c_first_cN w (List.mem_append_left _ h)
theorem ic_c_first_cN_c_len_f : ∀ w ∈ v_c_len_f, w ∈ v_c_first_cN := fun w h => it_c_first_cN w (List.mem_append_right _ (List.mem_append_left _ h))
theorem ic_c_first_cN_c_writeFirst_cN : ∀ w ∈ v_c_writeFirst_cN, w ∈ v_c_first_cN := fun w h => it_c_first_cN w (List.mem_append_right _ (List.mem_append_right _ (h)))
theorem gt_c_first_cN : ∀ w ∈ tl_c_first_cN, goodWord w = true := List.forall_mem_append.mpr ⟨gw_wsX50, List.forall_mem_append.mpr ⟨gw_c_len_f, gw_c_writeFirst_cN⟩⟩
theorem gw_c_first_cN : ∀ w ∈ v_c_first_cN, goodWord w = true := List.forall_mem_cons.mpr ⟨by decide +kernel, List.forall_mem_append.mpr ⟨List.all_eq_true.mp (by decide +kernel), gt_c_first_cN⟩⟩
theorem g_c_first_cN_c_len_f_82 : GoodIn v_c_first_cN (wsV RX5 82 RX5 yX5_length v_c_len_f) := goodIn_app (goodIn_r [.methodLink RX5 82 yX5_length, .instanceMethod yX5_length, .selects RX5 yX5_length yX5_length, .initialized RX5] [2, 3, 4, 1] (by decide +kernel) (by decide +kernel)) (fun w h => ⟨ic_c_first_cN_c_len_f w h, good_of_word (gw_c_len_f w h)⟩)
theorem g_c_first_cN_c_writeFirst_cN_86 : GoodIn v_c_first_cN (wsV RX5 86 RX5 yX5_writeFirst v_c_writeFirst_cN) := goodIn_app (goodIn_r [.methodLink RX5 86 yX5_writeFirst, .instanceMethod yX5_writeFirst, .selects RX5 yX5_writeFirst yX5_writeFirst, .initialized RX5] [6, 7, 8, 1] (by decide +kernel) (by decide +kernel)) (fun w h => ⟨ic_c_first_cN_c_writeFirst_cN w h, good_of_word (gw_c_writeFirst_cN w h)⟩)
set_option maxHeartbeats 4000000 in
set_option maxRecDepth 100000 in
theorem c_first_cN (l : Launch) (dC : Nat → ClassId) (dI : Nat → Nat → Nat) (r : Nat) (rh : Int32) (rl : Int32) (st : Nat) (rf : Nat) (nf : Nat) (ng : Nat) (ck : Nat) (ce : Nat) (cJ : ClassId) (fE : Nat → Int64) (ml : Nat) (mc : Nat) (ed : Nat) (sz0 : Nat) (cO : ClassId) (fe : Nat → Option Nat) (mm : Nat) (mi : Nat) (mt : Nat) (mg : Nat) (ms : Nat) (sd : Int32) (fi : Nat) (ff : Int32) (fo : Int32) (to : Nat) (se : Nat) (th : Nat) (ad : Nat) (sz : Nat) (hmi : mi < 8) (hmt : mt < 256) (hmg : mg < 262144) (hms : ms < 1786) (h_to : to < 256) (h_se : se < 256) (h_th : th < 256) (h_ad : ad < 256) (hel : fe mi = some mm) (hsz : mi < sz0) (hsz2 : sz0 ≤ 10) (hnf : 1 ≤ nf) (hlo : (fE 0).toInt32 = (nI (16777216 * to + 65536 * 17 + 256 * se + th))) (hhi : (fE 0 >>> ((32 : Int32).toInt64 &&& 63)).toInt32 = (nI mi)) (hnf3 : nf < 300) : Met l yX5_first v_c_first_cN ({ frames := 5, cells := 0, slots := 0, locals := 112 }) (va_Pc [.ref r, .int (nI ad)] (fun U => U.heap.size = sz ∧ va_P (dC, dI) vwCl [(r, .inr (6, [.int rh, .int rl, .ref st, .ref ck, .ref ck, .int 0, .int 1, .int (nI nf), .int (nI ng), .int 0, .ref rf, .int 0])), (st, .inr (8, [.ref ml, .null])), (ml, .inr (0, [.int (nI mc), .ref ed, .int (nI sz0)])), (ed, .inl (cO, 10, .inr (.inr (.inr (.inr fe))))), (ck, .inr (1, [.ref ce, .null])), (ce, .inl (cJ, 128, .inr (.inl fE))), (mm, .inr (4, [.int (nI mi), .int (nI mt), .int (nI mg), .int (nI ms), .int sd, .null])), (rf, .inr (2, [.int (nI fi), .int ff, .int fo, .null]))] U.heap ∧ va_K (dC, dI) vwCl [(cO, (.object "java/lang/Object")), (cJ, .long)] U ∧ va_D (fun _ => True) [(r, .inr (6, [.int rh, .int rl, .ref st, .ref ck, .ref ck, .int 0, .int 1, .int (nI nf), .int (nI ng), .int 0, .ref rf, .int 0])), (st, .inr (8, [.ref ml, .null])), (ml, .inr (0, [.int (nI mc), .ref ed, .int (nI sz0)])), (ed, .inl (cO, 10, .inr (.inr (.inr (.inr fe))))), (ck, .inr (1, [.ref ce, .null])), (ce, .inl (cJ, 128, .inr (.inl fE))), (mm, .inr (4, [.int (nI mi), .int (nI mt), .int (nI mg), .int (nI ms), .int sd, .null])), (rf, .inr (2, [.int (nI fi), .int ff, .int fo, .null]))] ∧ ev U)) (va_Qq (fun (r : Option Nat) (_ : Unit) => r = some rf) (fun (_ : Unit) (t : State) => va_P (dC, dI) vwCl [(r, .inr (6, [.int rh, .int rl, .ref st, .ref ck, .ref ck, .int 0, .int 1, .int (nI nf), .int (nI ng), .int 0, .ref rf, .int 1])), (st, .inr (8, [.ref ml, .null])), (ml, .inr (0, [.int (nI mc), .ref ed, .int (nI sz0)])), (ed, .inl (cO, 10, .inr (.inr (.inr (.inr fe))))), (ck, .inr (1, [.ref ce, .null])), (ce, .inl (cJ, 128, .inr (.inl fE))), (mm, .inr (4, [.int (nI mi), .int (nI mt), .int (nI mg), .int (nI ms), .int sd, .null])), (rf, .inr (2, [.int (nI (469762048 + 65536 * 236 + 256 * to + ad)), .int (nI (17 + 256 * se + 65536 * th + 4278190080)), .int (nI (255 + 256 * mg)), .ref mm]))] t.heap ∧ va_K (dC, dI) vwCl [(cO, (.object "java/lang/Object")), (cJ, .long)] t ∧ va_D (va_A [(r, .inr (6, [.int rh, .int rl, .ref st, .ref ck, .ref ck, .int 0, .int 1, .int (nI nf), .int (nI ng), .int 0, .ref rf, .int 0])), (st, .inr (8, [.ref ml, .null])), (ml, .inr (0, [.int (nI mc), .ref ed, .int (nI sz0)])), (ed, .inl (cO, 10, .inr (.inr (.inr (.inr fe))))), (ck, .inr (1, [.ref ce, .null])), (ce, .inl (cJ, 128, .inr (.inl fE))), (mm, .inr (4, [.int (nI mi), .int (nI mt), .int (nI mg), .int (nI ms), .int sd, .null])), (rf, .inr (2, [.int (nI fi), .int ff, .int fo, .null]))] sz) [(r, .inr (6, [.int rh, .int rl, .ref st, .ref ck, .ref ck, .int 0, .int 1, .int (nI nf), .int (nI ng), .int 0, .ref rf, .int 1])), (st, .inr (8, [.ref ml, .null])), (ml, .inr (0, [.int (nI mc), .ref ed, .int (nI sz0)])), (ed, .inl (cO, 10, .inr (.inr (.inr (.inr fe))))), (ck, .inr (1, [.ref ce, .null])), (ce, .inl (cJ, 128, .inr (.inl fE))), (mm, .inr (4, [.int (nI mi), .int (nI mt), .int (nI mg), .int (nI ms), .int sd, .null])), (rf, .inr (2, [.int (nI (469762048 + 65536 * 236 + 256 * to + ad)), .int (nI (17 + 256 * se + 65536 * th + 4278190080)), .int (nI (255 + 256 * mg)), .ref mm]))]) (va_A [(r, .inr (6, [.int rh, .int rl, .ref st, .ref ck, .ref ck, .int 0, .int 1, .int (nI nf), .int (nI ng), .int 0, .ref rf, .int 0])), (st, .inr (8, [.ref ml, .null])), (ml, .inr (0, [.int (nI mc), .ref ed, .int (nI sz0)])), (ed, .inl (cO, 10, .inr (.inr (.inr (.inr fe))))), (ck, .inr (1, [.ref ce, .null])), (ce, .inl (cJ, 128, .inr (.inl fE))), (mm, .inr (4, [.int (nI mi), .int (nI mt), .int (nI mg), .int (nI ms), .int sd, .null])), (rf, .inr (2, [.int (nI fi), .int ff, .int fo, .null]))] sz)) 0 0 (va_A [(r, .inr (6, [.int rh, .int rl, .ref st, .ref ck, .ref ck, .int 0, .int 1, .int (nI nf), .int (nI ng), .int 0, .ref rf, .int 0])), (st, .inr (8, [.ref ml, .null])), (ml, .inr (0, [.int (nI mc), .ref ed, .int (nI sz0)])), (ed, .inl (cO, 10, .inr (.inr (.inr (.inr fe))))), (ck, .inr (1, [.ref ce, .null])), (ce, .inl (cJ, 128, .inr (.inl fE))), (mm, .inr (4, [.int (nI mi), .int (nI mt), .int (nI mg), .int (nI ms), .int sd, .null])), (rf, .inr (2, [.int (nI fi), .int ff, .int fo, .null]))] sz) := by
  refine Met.ofW (cc := cX5_first) (maxL := 2) (ret := (some (.object "ClaimBus$Frame"))) (by decide) rfl ?_
  intro p e s m args below meth c s₁ B hml hv
  obtain ⟨rfl, hsz, hP, hK, hD0, hE⟩ := hv
  have hx := B.exec
  have hb := B.bytes
  have hr := B.returns
  have hts := atoms_spec (ws := v_c_first_cN) B.pre
  have hown : s.vm.findClass RX5 = some m.cls := findClass_of_methodNamed B.named
  have hlocks := B.notSynchronized
  subst hsz
  have hD := hD0.self (sz := s.heap.size)
  generalize hAe : va_A [(r, .inr (6, [.int rh, .int rl, .ref st, .ref ck, .ref ck, .int 0, .int 1, .int (nI nf), .int (nI ng), .int 0, .ref rf, .int 0])), (st, .inr (8, [.ref ml, .null])), (ml, .inr (0, [.int (nI mc), .ref ed, .int (nI sz0)])), (ed, .inl (cO, 10, .inr (.inr (.inr (.inr fe))))), (ck, .inr (1, [.ref ce, .null])), (ce, .inl (cJ, 128, .inr (.inl fE))), (mm, .inr (4, [.int (nI mi), .int (nI mt), .int (nI mg), .int (nI ms), .int sd, .null])), (rf, .inr (2, [.int (nI fi), .int ff, .int fo, .null]))] s.heap.size = A at hD ⊢
  have hA : ∀ q : Nat, s.heap.size ≤ q → A q := fun q h => by rw [← hAe]; exact Or.inr h
  have hS : va_S A s.heap s.heap [] := va_S.rf
  replace hP : va_P (dC, dI) vwCl [(r, .inr (6, [.int rh, .int rl, .ref st, .ref ck, .ref ck, .int 0, .int 1, .int (nI nf), .int (nI ng), .int 0, .ref rf, .int 0])), (st, .inr (8, [.ref ml, .null])), (ml, .inr (0, [.int (nI mc), .ref ed, .int (nI sz0)])), (ed, .inl (cO, 10, .inr (.inr (.inr (.inr fe))))), (ck, .inr (1, [.ref ce, .null])), (ce, .inl (cJ, 128, .inr (.inl fE))), (mm, .inr (4, [.int (nI mi), .int (nI mt), .int (nI mg), .int (nI ms), .int sd, .null])), (rf, .inr (2, [.int (nI fi), .int ff, .int fo, .null]))] s.heap := hP
  have hl := lv_entry ([.ref r, .int (nI ad)]) (n := 2) (Nat.le_of_ble_eq_true rfl)
  rw [lg_entry_eq]
  generalize (lg_sl ([.ref r, .int (nI ad)]) ++ List.replicate (2 - (lg_sl ([.ref r, .int (nI ad)])).length) Slot.unset).toArray = ls at hl ⊢
  replace hl : lv_has ls 2 [(0, .ref r), (1, .int (nI ad))] := hl
  obtain ⟨H, hH⟩ : ∃ z : Heap, z = s.heap := ⟨_, rfl⟩
  rw [← hH]
  replace hS : va_S A s.heap H [] := by rw [hH]; exact va_S.rf
  replace hP : va_P (dC, dI) vwCl [(r, .inr (6, [.int rh, .int rl, .ref st, .ref ck, .ref ck, .int 0, .int 1, .int (nI nf), .int (nI ng), .int 0, .ref rf, .int 0])), (st, .inr (8, [.ref ml, .null])), (ml, .inr (0, [.int (nI mc), .ref ed, .int (nI sz0)])), (ed, .inl (cO, 10, .inr (.inr (.inr (.inr fe))))), (ck, .inr (1, [.ref ce, .null])), (ce, .inl (cJ, 128, .inr (.inl fE))), (mm, .inr (4, [.int (nI mi), .int (nI mt), .int (nI mg), .int (nI ms), .int sd, .null])), (rf, .inr (2, [.int (nI fi), .int ff, .int fo, .null]))] H := by rw [hH]; exact hP
  clear hH
  refine lv_aload_n hx hb dX5_first_0 rfl (lv_at hl 0 rfl) ?_
  have hPc := hP.sub (ws' := [(r, .inr (6, [.int rh, .int rl, .ref st, .ref ck, .ref ck, .int 0, .int 1, .int (nI nf), .int (nI ng), .int 0, .ref rf, .int 0]))]) [0] rfl
  have hDc := hD.sub (ws' := [(r, .inr (6, [.int rh, .int rl, .ref st, .ref ck, .ref ck, .int 0, .int 1, .int (nI nf), .int (nI ng), .int 0, .ref rf, .int 0]))]) [0] (by decide +kernel) rfl
  have hKc := hK.sub (tys' := []) [] rfl
  have hFc := ro_free hS hA
  refine va_calli (va_runV (As := []) (rest := []) ⟨hx, hb, hml, hown, hts⟩ (c_len_f l dC dI (r) (rh) (rl) (st) (rf) (nf) (ng) (ck) H.size) (cwV 0 hts g_c_first_cN_c_len_f_82 rfl rfl rfl (by decide +kernel) ⟨Nat.le_of_ble_eq_true rfl, Nat.le_of_ble_eq_true rfl⟩) ⟨fun a U g mk q => by obtain ⟨q0, q1, qP, qK, qD, qE⟩ := q; exact ⟨q0, q1, qP, va_K.moved (u := U) (U := U.calling g mk a) (Vm.Alike.refl U.vm) qK, qD, ev.same (u := U) (U := U.calling g mk a) rfl qE⟩, va_recv hKc hPc (ci := 6) (q0 := 0) rfl rfl, fun U hU hW => ⟨rfl, by rw [hU], by rw [hU]; exact hPc, va_K.moved hW.alike hKc, hDc.weaken (fun _ _ _ _ => trivial), hE.warm hW⟩⟩ rfl rfl hl.1 rfl (lv_room (Nat.le_of_ble_eq_true rfl)) dX5_first_1 ⟨Nat.le_of_ble_eq_true rfl, Nat.le_of_ble_eq_true rfl⟩) hS (fun q _ h => hFc q h) hFc (fun r_1 u t H1 locs ht hvm hw hB hz1 hk1 hS => ?_)
  clear hPc hDc hKc
  replace hP := ro_keep hP hk1
  generalize H1 = H at hP hS ⊢
  replace hP : va_P (dC, dI) vwCl [(r, .inr (6, [.int rh, .int rl, .ref st, .ref ck, .ref ck, .int 0, .int 1, .int (nI nf), .int (nI ng), .int 0, .ref rf, .int 0])), (st, .inr (8, [.ref ml, .null])), (ml, .inr (0, [.int (nI mc), .ref ed, .int (nI sz0)])), (ed, .inl (cO, 10, .inr (.inr (.inr (.inr fe))))), (ck, .inr (1, [.ref ce, .null])), (ce, .inl (cJ, 128, .inr (.inl fE))), (mm, .inr (4, [.int (nI mi), .int (nI mt), .int (nI mg), .int (nI ms), .int sd, .null])), (rf, .inr (2, [.int (nI fi), .int ff, .int fo, .null]))] H := hP
  have hw := hw.symm
  subst hw
  refine lv_if_ne (tgt := 9) hx hb dX5_first_4 (by decide) (fun c_2 => ?_) (fun c_2 => ?_)
  rotate_left
  · exact absurd ((nI_eq (a := nf) (b := 0) (by omega) (by omega)).mp c_2) (by omega)
  refine lv_aload_n hx hb dX5_first_9 rfl (lv_at hl 0 rfl) ?_
  refine va_get (D := (dC, dI)) (ci := 6) (v := .int 0) (C := RX5) (T := TX5) (N := 12) hx hb hts in_c_first_cN_X5 hown hK hP 0 rfl rfl 11 (by decide) (hts (.fieldLink RX5 42 "ClaimBus$Row" "firstIsWritten" "Z") (List.mem_of_getElem? (i := 5) rfl)) (fun _ h9 => h9) rfl dX5_first_10 ?_
  refine lv_if_ne (tgt := 26) hx hb dX5_first_13 (by decide) (fun c_3 => ?_) (fun c_3 => ?_)
  · exact absurd c_3 (by decide)
  refine lv_aload_n hx hb dX5_first_16 rfl (lv_at hl 0 rfl) ?_
  refine lv_iload_n hx hb dX5_first_17 rfl (lv_at hl 1 rfl) ?_
  have hPc := hP.sub (ws' := [(r, .inr (6, [.int rh, .int rl, .ref st, .ref ck, .ref ck, .int 0, .int 1, .int (nI nf), .int (nI ng), .int 0, .ref rf, .int 0])), (st, .inr (8, [.ref ml, .null])), (ml, .inr (0, [.int (nI mc), .ref ed, .int (nI sz0)])), (ed, .inl (cO, 10, .inr (.inr (.inr (.inr fe))))), (ck, .inr (1, [.ref ce, .null])), (ce, .inl (cJ, 128, .inr (.inl fE))), (mm, .inr (4, [.int (nI mi), .int (nI mt), .int (nI mg), .int (nI ms), .int sd, .null])), (rf, .inr (2, [.int (nI fi), .int ff, .int fo, .null]))]) [0, 1, 2, 3, 4, 5, 6, 7] rfl
  have hDc := hD.sub (ws' := [(r, .inr (6, [.int rh, .int rl, .ref st, .ref ck, .ref ck, .int 0, .int 1, .int (nI nf), .int (nI ng), .int 0, .ref rf, .int 0])), (st, .inr (8, [.ref ml, .null])), (ml, .inr (0, [.int (nI mc), .ref ed, .int (nI sz0)])), (ed, .inl (cO, 10, .inr (.inr (.inr (.inr fe))))), (ck, .inr (1, [.ref ce, .null])), (ce, .inl (cJ, 128, .inr (.inl fE))), (mm, .inr (4, [.int (nI mi), .int (nI mt), .int (nI mg), .int (nI ms), .int sd, .null])), (rf, .inr (2, [.int (nI fi), .int ff, .int fo, .null]))]) [0, 1, 2, 3, 4, 5, 6, 7] (by decide +kernel) rfl
  have hKc := hK.sub (tys' := [(cO, (.object "java/lang/Object")), (cJ, .long)]) [0, 1] rfl
  have hFc := va_free (wc := [(r, .inr (6, [.int rh, .int rl, .ref st, .ref ck, .ref ck, .int 0, .int 1, .int (nI nf), .int (nI ng), .int 0, .ref rf, .int 0])), (st, .inr (8, [.ref ml, .null])), (ml, .inr (0, [.int (nI mc), .ref ed, .int (nI sz0)])), (ed, .inl (cO, 10, .inr (.inr (.inr (.inr fe))))), (ck, .inr (1, [.ref ce, .null])), (ce, .inl (cJ, 128, .inr (.inl fE))), (mm, .inr (4, [.int (nI mi), .int (nI mt), .int (nI mg), .int (nI ms), .int sd, .null])), (rf, .inr (2, [.int (nI fi), .int ff, .int fo, .null]))]) hD hS hA [0, 1, 2, 3, 4, 5, 6, 7] rfl
  refine va_callv (va_runV (As := [.int (nI ad)]) (rest := []) ⟨hx, hb, hml, hown, hts⟩ (c_writeFirst_cN l dC dI (r) (rh) (rl) (st) (rf) (nf) (ng) (ck) (ce) (cJ) (fE) (ml) (mc) (ed) (sz0) (cO) (fe) (mm) (mi) (mt) (mg) (ms) (sd) (fi) (ff) (fo) (to) (se) (th) (ad) H.size hmi hmt hmg hms h_to h_se h_th h_ad hel hsz hsz2 hnf hlo hhi) (cwV 1 hts g_c_first_cN_c_writeFirst_cN_86 rfl rfl rfl (by decide +kernel) ⟨Nat.le_of_ble_eq_true rfl, Nat.le_of_ble_eq_true rfl⟩) ⟨fun a U g mk q => by obtain ⟨q0, q1, qP, qK, qD, qE⟩ := q; exact ⟨q0, q1, qP, va_K.moved (u := U) (U := U.calling g mk a) (Vm.Alike.refl U.vm) qK, qD, ev.same (u := U) (U := U.calling g mk a) rfl qE⟩, va_recv hKc hPc (ci := 6) (q0 := 0) rfl rfl, fun U hU hW => ⟨rfl, by rw [hU], by rw [hU]; exact hPc, va_K.moved hW.alike hKc, hDc.weaken (fun _ _ _ _ => trivial), hE.warm hW⟩⟩ rfl rfl hl.1 rfl (lv_room (Nat.le_of_ble_eq_true rfl)) dX5_first_18 ⟨Nat.le_of_ble_eq_true rfl, Nat.le_of_ble_eq_true rfl⟩) hS (fun q _ h => hFc q h) hFc (fun u t H1 locs ht hvm hw hB hz1 hk1 hS => ?_)
  clear hPc hDc hKc
  obtain ⟨hP1, hK1, hD1⟩ := hB
  rw [ht] at hP1
  have hK1 := va_K.moved hvm.symm hK1
  obtain ⟨hP, hD⟩ := va_join (wr := []) (w1 := [(r, .inr (6, [.int rh, .int rl, .ref st, .ref ck, .ref ck, .int 0, .int 1, .int (nI nf), .int (nI ng), .int 0, .ref rf, .int 0])), (st, .inr (8, [.ref ml, .null])), (ml, .inr (0, [.int (nI mc), .ref ed, .int (nI sz0)])), (ed, .inl (cO, 10, .inr (.inr (.inr (.inr fe))))), (ck, .inr (1, [.ref ce, .null])), (ce, .inl (cJ, 128, .inr (.inl fE))), (mm, .inr (4, [.int (nI mi), .int (nI mt), .int (nI mg), .int (nI ms), .int sd, .null])), (rf, .inr (2, [.int (nI (469762048 + 65536 * 236 + 256 * to + ad)), .int (nI (17 + 256 * se + 65536 * th + 4278190080)), .int (nI (255 + 256 * mg)), .ref mm]))]) hP hD [0, 1, 2, 3, 4, 5, 6, 7] [] rfl rfl (by decide +kernel) (by decide +kernel) hk1 hFc hP1 hD1
  generalize H1 = H at hP hS ⊢
  replace hP : va_P (dC, dI) vwCl [(r, .inr (6, [.int rh, .int rl, .ref st, .ref ck, .ref ck, .int 0, .int 1, .int (nI nf), .int (nI ng), .int 0, .ref rf, .int 0])), (st, .inr (8, [.ref ml, .null])), (ml, .inr (0, [.int (nI mc), .ref ed, .int (nI sz0)])), (ed, .inl (cO, 10, .inr (.inr (.inr (.inr fe))))), (ck, .inr (1, [.ref ce, .null])), (ce, .inl (cJ, 128, .inr (.inl fE))), (mm, .inr (4, [.int (nI mi), .int (nI mt), .int (nI mg), .int (nI ms), .int sd, .null])), (rf, .inr (2, [.int (nI (469762048 + 65536 * 236 + 256 * to + ad)), .int (nI (17 + 256 * se + 65536 * th + 4278190080)), .int (nI (255 + 256 * mg)), .ref mm]))] H := hP
  replace hD : va_D A [(r, .inr (6, [.int rh, .int rl, .ref st, .ref ck, .ref ck, .int 0, .int 1, .int (nI nf), .int (nI ng), .int 0, .ref rf, .int 0])), (st, .inr (8, [.ref ml, .null])), (ml, .inr (0, [.int (nI mc), .ref ed, .int (nI sz0)])), (ed, .inl (cO, 10, .inr (.inr (.inr (.inr fe))))), (ck, .inr (1, [.ref ce, .null])), (ce, .inl (cJ, 128, .inr (.inl fE))), (mm, .inr (4, [.int (nI mi), .int (nI mt), .int (nI mg), .int (nI ms), .int sd, .null])), (rf, .inr (2, [.int (nI (469762048 + 65536 * 236 + 256 * to + ad)), .int (nI (17 + 256 * se + 65536 * th + 4278190080)), .int (nI (255 + 256 * mg)), .ref mm]))] := hD
  clear hw
  refine lv_aload_n hx hb dX5_first_21 rfl (lv_at hl 0 rfl) ?_
  refine lv_iconst (v := 1) hx hb dX5_first_22 (by decide) ?_
  refine va_put (D := (dC, dI)) (ci := 6) (v := .int 1) (ty := .boolean) (C := RX5) (T := TX5) (N := 12) hx hb hts in_c_first_cN_X5 tyX5 tyX5_ok nmX5 hown hK hP hD hS 0 rfl rfl 11 (by decide) (hts (.fieldLink RX5 42 "ClaimBus$Row" "firstIsWritten" "Z") (List.mem_of_getElem? (i := 5) rfl)) (fun _ h9 => h9) rfl (by decide +kernel) rfl rfl (Nat.le_of_ble_eq_true rfl) dX5_first_23 (fun H locs hP hD hS => ?_)
  replace hP : va_P (dC, dI) vwCl [(r, .inr (6, [.int rh, .int rl, .ref st, .ref ck, .ref ck, .int 0, .int 1, .int (nI nf), .int (nI ng), .int 0, .ref rf, .int 1])), (st, .inr (8, [.ref ml, .null])), (ml, .inr (0, [.int (nI mc), .ref ed, .int (nI sz0)])), (ed, .inl (cO, 10, .inr (.inr (.inr (.inr fe))))), (ck, .inr (1, [.ref ce, .null])), (ce, .inl (cJ, 128, .inr (.inl fE))), (mm, .inr (4, [.int (nI mi), .int (nI mt), .int (nI mg), .int (nI ms), .int sd, .null])), (rf, .inr (2, [.int (nI (469762048 + 65536 * 236 + 256 * to + ad)), .int (nI (17 + 256 * se + 65536 * th + 4278190080)), .int (nI (255 + 256 * mg)), .ref mm]))] H := hP
  replace hD : va_D A [(r, .inr (6, [.int rh, .int rl, .ref st, .ref ck, .ref ck, .int 0, .int 1, .int (nI nf), .int (nI ng), .int 0, .ref rf, .int 1])), (st, .inr (8, [.ref ml, .null])), (ml, .inr (0, [.int (nI mc), .ref ed, .int (nI sz0)])), (ed, .inl (cO, 10, .inr (.inr (.inr (.inr fe))))), (ck, .inr (1, [.ref ce, .null])), (ce, .inl (cJ, 128, .inr (.inl fE))), (mm, .inr (4, [.int (nI mi), .int (nI mt), .int (nI mg), .int (nI ms), .int sd, .null])), (rf, .inr (2, [.int (nI (469762048 + 65536 * 236 + 256 * to + ad)), .int (nI (17 + 256 * se + 65536 * th + 4278190080)), .int (nI (255 + 256 * mg)), .ref mm]))] := hD
  refine lv_aload_n hx hb dX5_first_26 rfl (lv_at hl 0 rfl) ?_
  refine va_get (D := (dC, dI)) (ci := 6) (v := .ref rf) (C := RX5) (T := TX5) (N := 12) hx hb hts in_c_first_cN_X5 hown hK hP 0 rfl rfl 10 (by decide) (hts (.fieldLink RX5 38 "ClaimBus$Row" "first" "LClaimBus$Frame;") (List.mem_of_getElem? (i := 9) rfl)) (fun _ h9 => h9) rfl dX5_first_27 ?_
  have hP9 := hP.sub (ws' := [(r, .inr (6, [.int rh, .int rl, .ref st, .ref ck, .ref ck, .int 0, .int 1, .int (nI nf), .int (nI ng), .int 0, .ref rf, .int 1])), (st, .inr (8, [.ref ml, .null])), (ml, .inr (0, [.int (nI mc), .ref ed, .int (nI sz0)])), (ed, .inl (cO, 10, .inr (.inr (.inr (.inr fe))))), (ck, .inr (1, [.ref ce, .null])), (ce, .inl (cJ, 128, .inr (.inl fE))), (mm, .inr (4, [.int (nI mi), .int (nI mt), .int (nI mg), .int (nI ms), .int sd, .null])), (rf, .inr (2, [.int (nI (469762048 + 65536 * 236 + 256 * to + ad)), .int (nI (17 + 256 * se + 65536 * th + 4278190080)), .int (nI (255 + 256 * mg)), .ref mm]))]) [0, 1, 2, 3, 4, 5, 6, 7] rfl
  have hD9 := hD.sub (ws' := [(r, .inr (6, [.int rh, .int rl, .ref st, .ref ck, .ref ck, .int 0, .int 1, .int (nI nf), .int (nI ng), .int 0, .ref rf, .int 1])), (st, .inr (8, [.ref ml, .null])), (ml, .inr (0, [.int (nI mc), .ref ed, .int (nI sz0)])), (ed, .inl (cO, 10, .inr (.inr (.inr (.inr fe))))), (ck, .inr (1, [.ref ce, .null])), (ce, .inl (cJ, 128, .inr (.inl fE))), (mm, .inr (4, [.int (nI mi), .int (nI mt), .int (nI mg), .int (nI ms), .int sd, .null])), (rf, .inr (2, [.int (nI (469762048 + 65536 * 236 + 256 * to + ad)), .int (nI (17 + 256 * se + 65536 * th + 4278190080)), .int (nI (255 + 256 * mg)), .ref mm]))]) [0, 1, 2, 3, 4, 5, 6, 7] (by decide +kernel) rfl
  have hK9 := hK.sub (tys' := [(cO, (.object "java/lang/Object")), (cJ, .long)]) [0, 1] rfl
  exact W.aret (v := .ref rf) hx hb hr (Or.inl ⟨_, rfl⟩) (Or.inr ⟨_, rfl⟩) (fun t ht hW => ⟨⟨some rf, (), rfl, rfl, ⟨by rw [ht]; exact hP9, va_K.moved hW.alike hK9, hD9⟩⟩, hS.F ht⟩) hS.2.2 dX5_first_30

noncomputable def tl_c_writeFirst_pN : List Cond := wsX50 ++ (v_c_firstEntry ++ (v_c_messageAt_null ++ (v_c_X3_writePacketN)))
noncomputable def v_c_writeFirst_pN : List Cond := .code yX5_writeFirst cX5_writeFirst 8 none :: ([.fieldLink RX5 31 "ClaimBus$Row" "claimWaits" "Z", .initialized RX5, .methodLink RX5 95 yX5_firstEntry, .instanceMethod yX5_firstEntry, .selects RX5 yX5_firstEntry yX5_firstEntry, .fieldLink RX5 51 "ClaimBus$Row" "store" "LClaimBus$Store;", .initialized RX7, .methodLink RX5 99 yX7_messageAt, .instanceMethod yX7_messageAt, .selects RX7 yX7_messageAt yX7_messageAt, .fieldLink RX5 38 "ClaimBus$Row" "first" "LClaimBus$Frame;", .fieldLink RX5 28 "ClaimBus$Row" "gone" "I", .initialized RX3, .methodLink RX5 115 yX3_writePacket, .instanceMethod yX3_writePacket, .selects RX3 yX3_writePacket yX3_writePacket] ++ tl_c_writeFirst_pN)
theorem it_c_writeFirst_pN : ∀ w ∈ tl_c_writeFirst_pN, w ∈ v_c_writeFirst_pN := fun w h => List.mem_cons_of_mem _ (List.mem_append_right _ h)
theorem in_c_writeFirst_pN_X5 : ∀ w ∈ wsX50, w ∈ v_c_writeFirst_pN := fun w h => it_c_writeFirst_pN w (List.mem_append_left _ h)
theorem ic_c_writeFirst_pN_c_firstEntry : ∀ w ∈ v_c_firstEntry, w ∈ v_c_writeFirst_pN := fun w h => it_c_writeFirst_pN w (List.mem_append_right _ (List.mem_append_left _ h))
theorem ic_c_writeFirst_pN_c_messageAt_null : ∀ w ∈ v_c_messageAt_null, w ∈ v_c_writeFirst_pN := fun w h => it_c_writeFirst_pN w (List.mem_append_right _ (List.mem_append_right _ (List.mem_append_left _ h)))
theorem ic_c_writeFirst_pN_c_X3_writePacketN : ∀ w ∈ v_c_X3_writePacketN, w ∈ v_c_writeFirst_pN := fun w h => it_c_writeFirst_pN w (List.mem_append_right _ (List.mem_append_right _ (List.mem_append_right _ (h))))
theorem gt_c_writeFirst_pN : ∀ w ∈ tl_c_writeFirst_pN, goodWord w = true := List.forall_mem_append.mpr ⟨gw_wsX50, List.forall_mem_append.mpr ⟨gw_c_firstEntry, List.forall_mem_append.mpr ⟨gw_c_messageAt_null, gw_c_X3_writePacketN⟩⟩⟩
theorem gw_c_writeFirst_pN : ∀ w ∈ v_c_writeFirst_pN, goodWord w = true := List.forall_mem_cons.mpr ⟨by decide +kernel, List.forall_mem_append.mpr ⟨List.all_eq_true.mp (by decide +kernel), gt_c_writeFirst_pN⟩⟩
theorem g_c_writeFirst_pN_c_firstEntry_95 : GoodIn v_c_writeFirst_pN (wsV RX5 95 RX5 yX5_firstEntry v_c_firstEntry) := goodIn_app (goodIn_r [.methodLink RX5 95 yX5_firstEntry, .instanceMethod yX5_firstEntry, .selects RX5 yX5_firstEntry yX5_firstEntry, .initialized RX5] [3, 4, 5, 2] (by decide +kernel) (by decide +kernel)) (fun w h => ⟨ic_c_writeFirst_pN_c_firstEntry w h, good_of_word (gw_c_firstEntry w h)⟩)
theorem g_c_writeFirst_pN_c_messageAt_null_99 : GoodIn v_c_writeFirst_pN (wsV RX5 99 RX7 yX7_messageAt v_c_messageAt_null) := goodIn_app (goodIn_r [.methodLink RX5 99 yX7_messageAt, .instanceMethod yX7_messageAt, .selects RX7 yX7_messageAt yX7_messageAt, .initialized RX7] [8, 9, 10, 7] (by decide +kernel) (by decide +kernel)) (fun w h => ⟨ic_c_writeFirst_pN_c_messageAt_null w h, good_of_word (gw_c_messageAt_null w h)⟩)
theorem g_c_writeFirst_pN_c_X3_writePacketN_115 : GoodIn v_c_writeFirst_pN (wsV RX5 115 RX3 yX3_writePacket v_c_X3_writePacketN) := goodIn_app (goodIn_r [.methodLink RX5 115 yX3_writePacket, .instanceMethod yX3_writePacket, .selects RX3 yX3_writePacket yX3_writePacket, .initialized RX3] [14, 15, 16, 13] (by decide +kernel) (by decide +kernel)) (fun w h => ⟨ic_c_writeFirst_pN_c_X3_writePacketN w h, good_of_word (gw_c_X3_writePacketN w h)⟩)
set_option maxHeartbeats 4000000 in
set_option maxRecDepth 100000 in
theorem c_writeFirst_pN (l : Launch) (dC : Nat → ClassId) (dI : Nat → Nat → Nat) (r : Nat) (rh : Int32) (rl : Int32) (st : Nat) (rf : Nat) (nf : Nat) (ng : Nat) (ck : Nat) (ce : Nat) (cJ : ClassId) (fE : Nat → Int64) (ml : Nat) (mc : Nat) (ed : Nat) (sz0 : Nat) (cO : ClassId) (fe : Nat → Option Nat) (mm : Nat) (mi : Nat) (mt : Nat) (mg : Nat) (ms : Nat) (sd : Int32) (fi : Nat) (ff : Int32) (fo : Int32) (to : Nat) (se : Nat) (th : Nat) (ad : Nat) (sz : Nat) (hmi : mi < 8) (hmt : mt < 256) (hmg : mg < 262144) (hms : ms < 1786) (h_to : to < 256) (h_se : se < 256) (h_th : th < 256) (h_ad : ad < 256) (hel : fe mi = some mm) (hsz : mi < sz0) (hsz2 : sz0 ≤ 10) (hnf : 1 ≤ nf) (hlo : (fE 0).toInt32 = (nI (16777216 * to + 65536 * 235 + 256 * se + th))) (hhi : (fE 0 >>> ((32 : Int32).toInt64 &&& 63)).toInt32 = (nI mi)) (hth : 1 ≤ th + ng ∧ th + ng < 256) : Met l yX5_writeFirst v_c_writeFirst_pN ({ frames := 4, cells := 0, slots := 0, locals := 85 }) (va_Pc [.ref r, .int (nI ad)] (fun U => U.heap.size = sz ∧ va_P (dC, dI) vwCl [(r, .inr (6, [.int rh, .int rl, .ref st, .ref ck, .ref ck, .int 0, .int 1, .int (nI nf), .int (nI ng), .int 0, .ref rf, .int 0])), (st, .inr (8, [.ref ml, .null])), (ml, .inr (0, [.int (nI mc), .ref ed, .int (nI sz0)])), (ed, .inl (cO, 10, .inr (.inr (.inr (.inr fe))))), (ck, .inr (1, [.ref ce, .null])), (ce, .inl (cJ, 128, .inr (.inl fE))), (mm, .inr (4, [.int (nI mi), .int (nI mt), .int (nI mg), .int (nI ms), .int sd, .null])), (rf, .inr (2, [.int (nI fi), .int ff, .int fo, .null]))] U.heap ∧ va_K (dC, dI) vwCl [(cO, (.object "java/lang/Object")), (cJ, .long)] U ∧ va_D (fun _ => True) [(r, .inr (6, [.int rh, .int rl, .ref st, .ref ck, .ref ck, .int 0, .int 1, .int (nI nf), .int (nI ng), .int 0, .ref rf, .int 0])), (st, .inr (8, [.ref ml, .null])), (ml, .inr (0, [.int (nI mc), .ref ed, .int (nI sz0)])), (ed, .inl (cO, 10, .inr (.inr (.inr (.inr fe))))), (ck, .inr (1, [.ref ce, .null])), (ce, .inl (cJ, 128, .inr (.inl fE))), (mm, .inr (4, [.int (nI mi), .int (nI mt), .int (nI mg), .int (nI ms), .int sd, .null])), (rf, .inr (2, [.int (nI fi), .int ff, .int fo, .null]))] ∧ ev U)) (va_Qv (fun _ : Unit => True) (fun (_ : Unit) (t : State) => ∃ (zf : Int32) (zo : Int32), va_P (dC, dI) vwCl [(r, .inr (6, [.int rh, .int rl, .ref st, .ref ck, .ref ck, .int 0, .int 1, .int (nI nf), .int (nI ng), .int 0, .ref rf, .int 0])), (st, .inr (8, [.ref ml, .null])), (ml, .inr (0, [.int (nI mc), .ref ed, .int (nI sz0)])), (ed, .inl (cO, 10, .inr (.inr (.inr (.inr fe))))), (ck, .inr (1, [.ref ce, .null])), (ce, .inl (cJ, 128, .inr (.inl fE))), (mm, .inr (4, [.int (nI mi), .int (nI mt), .int (nI mg), .int (nI ms), .int sd, .null])), (rf, .inr (2, [.int (nI (469762048 + 65536 * 235 + 256 * mt + ad)), .int zf, .int zo, .ref mm]))] t.heap ∧ va_K (dC, dI) vwCl [(cO, (.object "java/lang/Object")), (cJ, .long)] t ∧ va_D (va_A [(r, .inr (6, [.int rh, .int rl, .ref st, .ref ck, .ref ck, .int 0, .int 1, .int (nI nf), .int (nI ng), .int 0, .ref rf, .int 0])), (st, .inr (8, [.ref ml, .null])), (ml, .inr (0, [.int (nI mc), .ref ed, .int (nI sz0)])), (ed, .inl (cO, 10, .inr (.inr (.inr (.inr fe))))), (ck, .inr (1, [.ref ce, .null])), (ce, .inl (cJ, 128, .inr (.inl fE))), (mm, .inr (4, [.int (nI mi), .int (nI mt), .int (nI mg), .int (nI ms), .int sd, .null])), (rf, .inr (2, [.int (nI fi), .int ff, .int fo, .null]))] sz) [(r, .inr (6, [.int rh, .int rl, .ref st, .ref ck, .ref ck, .int 0, .int 1, .int (nI nf), .int (nI ng), .int 0, .ref rf, .int 0])), (st, .inr (8, [.ref ml, .null])), (ml, .inr (0, [.int (nI mc), .ref ed, .int (nI sz0)])), (ed, .inl (cO, 10, .inr (.inr (.inr (.inr fe))))), (ck, .inr (1, [.ref ce, .null])), (ce, .inl (cJ, 128, .inr (.inl fE))), (mm, .inr (4, [.int (nI mi), .int (nI mt), .int (nI mg), .int (nI ms), .int sd, .null])), (rf, .inr (2, [.int (nI (469762048 + 65536 * 235 + 256 * mt + ad)), .int zf, .int zo, .ref mm]))] ∧ (fb zf zo 0 = (nI (th + ng))) ∧ (∀ i, i < 7 → fb zf zo (i + 1) = bx sd ms (7 * ((th + ng) - 1) + i))) (va_A [(r, .inr (6, [.int rh, .int rl, .ref st, .ref ck, .ref ck, .int 0, .int 1, .int (nI nf), .int (nI ng), .int 0, .ref rf, .int 0])), (st, .inr (8, [.ref ml, .null])), (ml, .inr (0, [.int (nI mc), .ref ed, .int (nI sz0)])), (ed, .inl (cO, 10, .inr (.inr (.inr (.inr fe))))), (ck, .inr (1, [.ref ce, .null])), (ce, .inl (cJ, 128, .inr (.inl fE))), (mm, .inr (4, [.int (nI mi), .int (nI mt), .int (nI mg), .int (nI ms), .int sd, .null])), (rf, .inr (2, [.int (nI fi), .int ff, .int fo, .null]))] sz)) 0 0 (va_A [(r, .inr (6, [.int rh, .int rl, .ref st, .ref ck, .ref ck, .int 0, .int 1, .int (nI nf), .int (nI ng), .int 0, .ref rf, .int 0])), (st, .inr (8, [.ref ml, .null])), (ml, .inr (0, [.int (nI mc), .ref ed, .int (nI sz0)])), (ed, .inl (cO, 10, .inr (.inr (.inr (.inr fe))))), (ck, .inr (1, [.ref ce, .null])), (ce, .inl (cJ, 128, .inr (.inl fE))), (mm, .inr (4, [.int (nI mi), .int (nI mt), .int (nI mg), .int (nI ms), .int sd, .null])), (rf, .inr (2, [.int (nI fi), .int ff, .int fo, .null]))] sz) := by
  refine Met.ofW (cc := cX5_writeFirst) (maxL := 8) (ret := none) (by decide) rfl ?_
  intro p e s m args below meth c s₁ B hml hv
  obtain ⟨rfl, hsz, hP, hK, hD0, hE⟩ := hv
  have hx := B.exec
  have hb := B.bytes
  have hr := B.returns
  have hts := atoms_spec (ws := v_c_writeFirst_pN) B.pre
  have hown : s.vm.findClass RX5 = some m.cls := findClass_of_methodNamed B.named
  have hlocks := B.notSynchronized
  subst hsz
  have hD := hD0.self (sz := s.heap.size)
  generalize hAe : va_A [(r, .inr (6, [.int rh, .int rl, .ref st, .ref ck, .ref ck, .int 0, .int 1, .int (nI nf), .int (nI ng), .int 0, .ref rf, .int 0])), (st, .inr (8, [.ref ml, .null])), (ml, .inr (0, [.int (nI mc), .ref ed, .int (nI sz0)])), (ed, .inl (cO, 10, .inr (.inr (.inr (.inr fe))))), (ck, .inr (1, [.ref ce, .null])), (ce, .inl (cJ, 128, .inr (.inl fE))), (mm, .inr (4, [.int (nI mi), .int (nI mt), .int (nI mg), .int (nI ms), .int sd, .null])), (rf, .inr (2, [.int (nI fi), .int ff, .int fo, .null]))] s.heap.size = A at hD ⊢
  have hA : ∀ q : Nat, s.heap.size ≤ q → A q := fun q h => by rw [← hAe]; exact Or.inr h
  have hS : va_S A s.heap s.heap [] := va_S.rf
  replace hP : va_P (dC, dI) vwCl [(r, .inr (6, [.int rh, .int rl, .ref st, .ref ck, .ref ck, .int 0, .int 1, .int (nI nf), .int (nI ng), .int 0, .ref rf, .int 0])), (st, .inr (8, [.ref ml, .null])), (ml, .inr (0, [.int (nI mc), .ref ed, .int (nI sz0)])), (ed, .inl (cO, 10, .inr (.inr (.inr (.inr fe))))), (ck, .inr (1, [.ref ce, .null])), (ce, .inl (cJ, 128, .inr (.inl fE))), (mm, .inr (4, [.int (nI mi), .int (nI mt), .int (nI mg), .int (nI ms), .int sd, .null])), (rf, .inr (2, [.int (nI fi), .int ff, .int fo, .null]))] s.heap := hP
  have hl := lv_entry ([.ref r, .int (nI ad)]) (n := 8) (Nat.le_of_ble_eq_true rfl)
  rw [lg_entry_eq]
  generalize (lg_sl ([.ref r, .int (nI ad)]) ++ List.replicate (8 - (lg_sl ([.ref r, .int (nI ad)])).length) Slot.unset).toArray = ls at hl ⊢
  replace hl : lv_has ls 8 [(0, .ref r), (1, .int (nI ad))] := hl
  obtain ⟨H, hH⟩ : ∃ z : Heap, z = s.heap := ⟨_, rfl⟩
  rw [← hH]
  replace hS : va_S A s.heap H [] := by rw [hH]; exact va_S.rf
  replace hP : va_P (dC, dI) vwCl [(r, .inr (6, [.int rh, .int rl, .ref st, .ref ck, .ref ck, .int 0, .int 1, .int (nI nf), .int (nI ng), .int 0, .ref rf, .int 0])), (st, .inr (8, [.ref ml, .null])), (ml, .inr (0, [.int (nI mc), .ref ed, .int (nI sz0)])), (ed, .inl (cO, 10, .inr (.inr (.inr (.inr fe))))), (ck, .inr (1, [.ref ce, .null])), (ce, .inl (cJ, 128, .inr (.inl fE))), (mm, .inr (4, [.int (nI mi), .int (nI mt), .int (nI mg), .int (nI ms), .int sd, .null])), (rf, .inr (2, [.int (nI fi), .int ff, .int fo, .null]))] H := by rw [hH]; exact hP
  clear hH
  refine lv_aload_n hx hb dX5_writeFirst_0 rfl (lv_at hl 0 rfl) ?_
  refine va_get (D := (dC, dI)) (ci := 6) (v := .int 0) (C := RX5) (T := TX5) (N := 12) hx hb hts in_c_writeFirst_pN_X5 hown hK hP 0 rfl rfl 9 (by decide) (hts (.fieldLink RX5 31 "ClaimBus$Row" "claimWaits" "Z") (List.mem_of_getElem? (i := 1) rfl)) (fun _ h9 => h9) rfl dX5_writeFirst_1 ?_
  refine lv_if_eq (tgt := 28) hx hb dX5_writeFirst_4 (by decide) (fun c_1 => ?_) (fun c_1 => ?_)
  rotate_left
  · exact absurd (by decide) c_1
  refine lv_aload_n hx hb dX5_writeFirst_28 rfl (lv_at hl 0 rfl) ?_
  have hPc := hP.sub (ws' := [(r, .inr (6, [.int rh, .int rl, .ref st, .ref ck, .ref ck, .int 0, .int 1, .int (nI nf), .int (nI ng), .int 0, .ref rf, .int 0])), (ck, .inr (1, [.ref ce, .null])), (ce, .inl (cJ, 128, .inr (.inl fE)))]) [0, 4, 5] rfl
  have hDc := hD.sub (ws' := [(r, .inr (6, [.int rh, .int rl, .ref st, .ref ck, .ref ck, .int 0, .int 1, .int (nI nf), .int (nI ng), .int 0, .ref rf, .int 0])), (ck, .inr (1, [.ref ce, .null])), (ce, .inl (cJ, 128, .inr (.inl fE)))]) [0, 4, 5] (by decide +kernel) rfl
  have hKc := hK.sub (tys' := [(cJ, .long)]) [1] rfl
  have hFc := ro_free hS hA
  refine va_calll (va_runV (As := []) (rest := []) ⟨hx, hb, hml, hown, hts⟩ (c_firstEntry l dC dI (r) (rh) (rl) (st) (rf) (nf) (ng) (ck) (ce) (cJ) (fE) H.size) (cwV 0 hts g_c_writeFirst_pN_c_firstEntry_95 rfl rfl rfl (by decide +kernel) ⟨Nat.le_of_ble_eq_true rfl, Nat.le_of_ble_eq_true rfl⟩) ⟨fun a U g mk q => by obtain ⟨q0, q1, qP, qK, qD, qE⟩ := q; exact ⟨q0, q1, qP, va_K.moved (u := U) (U := U.calling g mk a) (Vm.Alike.refl U.vm) qK, qD, ev.same (u := U) (U := U.calling g mk a) rfl qE⟩, va_recv hKc hPc (ci := 6) (q0 := 0) rfl rfl, fun U hU hW => ⟨rfl, by rw [hU], by rw [hU]; exact hPc, va_K.moved hW.alike hKc, hDc.weaken (fun _ _ _ _ => trivial), hE.warm hW⟩⟩ rfl rfl hl.1 rfl (lv_room (Nat.le_of_ble_eq_true rfl)) dX5_writeFirst_29 ⟨Nat.le_of_ble_eq_true rfl, Nat.le_of_ble_eq_true rfl⟩) hS (fun q _ h => hFc q h) hFc (fun r_2 u t H1 locs ht hvm hw hB hz1 hk1 hS => ?_)
  clear hPc hDc hKc
  replace hP := ro_keep hP hk1
  generalize H1 = H at hP hS ⊢
  replace hP : va_P (dC, dI) vwCl [(r, .inr (6, [.int rh, .int rl, .ref st, .ref ck, .ref ck, .int 0, .int 1, .int (nI nf), .int (nI ng), .int 0, .ref rf, .int 0])), (st, .inr (8, [.ref ml, .null])), (ml, .inr (0, [.int (nI mc), .ref ed, .int (nI sz0)])), (ed, .inl (cO, 10, .inr (.inr (.inr (.inr fe))))), (ck, .inr (1, [.ref ce, .null])), (ce, .inl (cJ, 128, .inr (.inl fE))), (mm, .inr (4, [.int (nI mi), .int (nI mt), .int (nI mg), .int (nI ms), .int sd, .null])), (rf, .inr (2, [.int (nI fi), .int ff, .int fo, .null]))] H := hP
  have hw := hw.symm
  subst hw
  refine lv_lstore_n (lv' := [(2, .long (fE 0)), (0, .ref r), (1, .int (nI ad))]) hx hb dX5_writeFirst_32 rfl hl (by decide) rfl (fun ls hl => ?_)
  refine lv_aload_n hx hb dX5_writeFirst_33 rfl (lv_at hl 1 rfl) ?_
  refine va_get (D := (dC, dI)) (ci := 6) (v := .ref st) (C := RX5) (T := TX5) (N := 12) hx hb hts in_c_writeFirst_pN_X5 hown hK hP 0 rfl rfl 2 (by decide) (hts (.fieldLink RX5 51 "ClaimBus$Row" "store" "LClaimBus$Store;") (List.mem_of_getElem? (i := 6) rfl)) (fun _ h9 => h9) rfl dX5_writeFirst_34 ?_
  refine lv_lload_n hx hb dX5_writeFirst_37 rfl (lv_at hl 0 rfl) ?_
  refine lv_bipush (v := 32) hx hb dX5_writeFirst_38 (by decide) ?_
  refine lv_lshr hx hb dX5_writeFirst_40 rfl ?_
  refine lv_l2i hx hb dX5_writeFirst_41 rfl ?_
  rw [hhi]
  have hPc := hP.sub (ws' := [(st, .inr (8, [.ref ml, .null])), (ml, .inr (0, [.int (nI mc), .ref ed, .int (nI sz0)])), (ed, .inl (cO, 10, .inr (.inr (.inr (.inr fe))))), (mm, .inr (4, [.int (nI mi), .int (nI mt), .int (nI mg), .int (nI ms), .int sd, .null]))]) [1, 2, 3, 6] rfl
  have hDc := hD.sub (ws' := [(st, .inr (8, [.ref ml, .null])), (ml, .inr (0, [.int (nI mc), .ref ed, .int (nI sz0)])), (ed, .inl (cO, 10, .inr (.inr (.inr (.inr fe))))), (mm, .inr (4, [.int (nI mi), .int (nI mt), .int (nI mg), .int (nI ms), .int sd, .null]))]) [1, 2, 3, 6] (by decide +kernel) rfl
  have hKc := hK.sub (tys' := [(cO, (.object "java/lang/Object"))]) [0] rfl
  have hFc := ro_free hS hA
  refine va_callq (va_runV (As := [.int (nI mi)]) (rest := []) ⟨hx, hb, hml, hown, hts⟩ (c_messageAt_null l dC dI (st) (ml) (mc) (ed) (sz0) (cO) (fe) (mm) (mi) (mt) (mg) (ms) (sd) (mi) H.size hel hsz hsz2) (cwV 1 hts g_c_writeFirst_pN_c_messageAt_null_99 rfl rfl rfl (by decide +kernel) ⟨Nat.le_of_ble_eq_true rfl, Nat.le_of_ble_eq_true rfl⟩) ⟨fun a U g mk q => by obtain ⟨q0, q1, qP, qK, qD, qE⟩ := q; exact ⟨q0, q1, qP, va_K.moved (u := U) (U := U.calling g mk a) (Vm.Alike.refl U.vm) qK, qD, ev.same (u := U) (U := U.calling g mk a) rfl qE⟩, va_recv hKc hPc (ci := 8) (q0 := 0) rfl rfl, fun U hU hW => ⟨rfl, by rw [hU], by rw [hU]; exact hPc, va_K.moved hW.alike hKc, hDc.weaken (fun _ _ _ _ => trivial), hE.warm hW⟩⟩ rfl rfl hl.1 rfl (lv_room (Nat.le_of_ble_eq_true rfl)) dX5_writeFirst_42 ⟨Nat.le_of_ble_eq_true rfl, Nat.le_of_ble_eq_true rfl⟩) hS (fun q _ h => hFc q h) hFc (fun r_3 u t H1 locs ht hvm hw hB hz1 hk1 hS => ?_)
  clear hPc hDc hKc
  replace hP := ro_keep hP hk1
  generalize H1 = H at hP hS ⊢
  replace hP : va_P (dC, dI) vwCl [(r, .inr (6, [.int rh, .int rl, .ref st, .ref ck, .ref ck, .int 0, .int 1, .int (nI nf), .int (nI ng), .int 0, .ref rf, .int 0])), (st, .inr (8, [.ref ml, .null])), (ml, .inr (0, [.int (nI mc), .ref ed, .int (nI sz0)])), (ed, .inl (cO, 10, .inr (.inr (.inr (.inr fe))))), (ck, .inr (1, [.ref ce, .null])), (ce, .inl (cJ, 128, .inr (.inl fE))), (mm, .inr (4, [.int (nI mi), .int (nI mt), .int (nI mg), .int (nI ms), .int sd, .null])), (rf, .inr (2, [.int (nI fi), .int ff, .int fo, .null]))] H := hP
  have hw := hw.symm
  subst hw
  refine W.eq (g2 := F0 m 45 ls [.ref mm]) rfl ?_
  refine lv_astore (lv' := [(4, .ref mm), (2, .long (fE 0)), (0, .ref r), (1, .int (nI ad))]) hx hb dX5_writeFirst_45 hl (by decide) rfl (fun ls hl => ?_)
  refine lv_lload_n hx hb dX5_writeFirst_47 rfl (lv_at hl 1 rfl) ?_
  refine lv_l2i hx hb dX5_writeFirst_48 rfl ?_
  rw [hlo]
  refine lv_istore (lv' := [(5, .int (nI (16777216 * to + 65536 * 235 + 256 * se + th))), (4, .ref mm), (2, .long (fE 0)), (0, .ref r), (1, .int (nI ad))]) hx hb dX5_writeFirst_49 hl (by decide) rfl (fun ls hl => ?_)
  refine lv_iload hx hb dX5_writeFirst_51 (lv_at hl 0 rfl) ?_
  refine lv_bipush (v := 24) hx hb dX5_writeFirst_53 (by decide) ?_
  refine lv_iushr (v := (nI to)) hx hb dX5_writeFirst_55 ((pk_ushrN (n := (16777216 * to + 65536 * 235 + 256 * se + th)) (by omega) (24 : Int32) 24 (by decide)).trans (show nI ((16777216 * to + 65536 * 235 + 256 * se + th) / 2 ^ 24) = nI (to) from congrArg nI (by omega))) ?_
  refine lv_istore (lv' := [(6, .int (nI to)), (5, .int (nI (16777216 * to + 65536 * 235 + 256 * se + th))), (4, .ref mm), (2, .long (fE 0)), (0, .ref r), (1, .int (nI ad))]) hx hb dX5_writeFirst_56 hl (by decide) rfl (fun ls hl => ?_)
  refine lv_iload hx hb dX5_writeFirst_58 (lv_at hl 1 rfl) ?_
  refine lv_bipush (v := 16) hx hb dX5_writeFirst_60 (by decide) ?_
  refine lv_iushr (v := (nI (256 * to + 235))) hx hb dX5_writeFirst_62 ((pk_ushrN (n := (16777216 * to + 65536 * 235 + 256 * se + th)) (by omega) (16 : Int32) 16 (by decide)).trans (show nI ((16777216 * to + 65536 * 235 + 256 * se + th) / 2 ^ 16) = nI (256 * to + 235) from congrArg nI (by omega))) ?_
  refine lv_sipush (v := 255) hx hb dX5_writeFirst_63 (by decide) ?_
  refine lv_iand hx hb dX5_writeFirst_66 ?_
  refine lv_topi (fun x_4 ex_4 => ?_)
  obtain rfl : x_4 = 235 := ex_4.trans ((pk_andN (n := (256 * to + 235)) (m := 255) (by omega) 8 (by decide)).trans (show nI ((256 * to + 235) % 2 ^ 8) = nI (235) from congrArg nI (by omega)))
  refine lv_istore (lv' := [(7, .int 235), (6, .int (nI to)), (5, .int (nI (16777216 * to + 65536 * 235 + 256 * se + th))), (4, .ref mm), (2, .long (fE 0)), (0, .ref r), (1, .int (nI ad))]) hx hb dX5_writeFirst_67 hl (by decide) rfl (fun ls hl => ?_)
  refine lv_aload hx hb dX5_writeFirst_69 (lv_at hl 3 rfl) ?_
  refine lv_ifnonnull (tgt := 106) hx hb dX5_writeFirst_71 (by decide) ?_
  refine lv_iload hx hb dX5_writeFirst_106 (lv_at hl 0 rfl) ?_
  refine lv_if_ne (tgt := 124) hx hb dX5_writeFirst_108 (by decide) (fun c_5 => ?_) (fun c_5 => ?_)
  rotate_left
  · exact absurd c_5 (by decide)
  refine lv_iload hx hb dX5_writeFirst_124 (lv_at hl 0 rfl) ?_
  refine lv_sipush (v := 235) hx hb dX5_writeFirst_126 (by decide) ?_
  refine lv_icmp_ne (tgt := 156) hx hb dX5_writeFirst_129 (by decide) (fun c_6 => ?_) (fun c_6 => ?_)
  · exact absurd c_6 (by decide)
  refine lv_aload hx hb dX5_writeFirst_132 (lv_at hl 3 rfl) ?_
  refine lv_aload_n hx hb dX5_writeFirst_134 rfl (lv_at hl 5 rfl) ?_
  refine va_get (D := (dC, dI)) (ci := 6) (v := .ref rf) (C := RX5) (T := TX5) (N := 12) hx hb hts in_c_writeFirst_pN_X5 hown hK hP 0 rfl rfl 10 (by decide) (hts (.fieldLink RX5 38 "ClaimBus$Row" "first" "LClaimBus$Frame;") (List.mem_of_getElem? (i := 11) rfl)) (fun _ h9 => h9) rfl dX5_writeFirst_135 ?_
  refine lv_iload_n hx hb dX5_writeFirst_138 rfl (lv_at hl 6 rfl) ?_
  refine lv_iload hx hb dX5_writeFirst_139 (lv_at hl 2 rfl) ?_
  refine lv_sipush (v := 255) hx hb dX5_writeFirst_141 (by decide) ?_
  refine lv_iand hx hb dX5_writeFirst_144 ?_
  refine lv_topi (fun x_7 ex_7 => ?_)
  obtain rfl : x_7 = (nI th) := ex_7.trans ((pk_andN (n := (16777216 * to + 65536 * 235 + 256 * se + th)) (m := 255) (by omega) 8 (by decide)).trans (show nI ((16777216 * to + 65536 * 235 + 256 * se + th) % 2 ^ 8) = nI (th) from congrArg nI (by omega)))
  refine lv_aload_n hx hb dX5_writeFirst_145 rfl (lv_at hl 5 rfl) ?_
  refine va_get (D := (dC, dI)) (ci := 6) (v := .int (nI ng)) (C := RX5) (T := TX5) (N := 12) hx hb hts in_c_writeFirst_pN_X5 hown hK hP 0 rfl rfl 8 (by decide) (hts (.fieldLink RX5 28 "ClaimBus$Row" "gone" "I") (List.mem_of_getElem? (i := 12) rfl)) (fun _ h9 => h9) rfl dX5_writeFirst_146 ?_
  refine lv_iadd hx hb dX5_writeFirst_149 ?_
  refine lv_topi (fun x_8 ex_8 => ?_)
  obtain rfl : x_8 = (nI (ng + th)) := ex_8.trans ((nI_add th ng).trans (show nI (th + ng) = nI (ng + th) from congrArg nI (by omega)))
  have hPc := hP.sub (ws' := [(mm, .inr (4, [.int (nI mi), .int (nI mt), .int (nI mg), .int (nI ms), .int sd, .null])), (rf, .inr (2, [.int (nI fi), .int ff, .int fo, .null]))]) [6, 7] rfl
  have hDc := hD.sub (ws' := [(mm, .inr (4, [.int (nI mi), .int (nI mt), .int (nI mg), .int (nI ms), .int sd, .null])), (rf, .inr (2, [.int (nI fi), .int ff, .int fo, .null]))]) [6, 7] (by decide +kernel) rfl
  have hKc := hK.sub (tys' := []) [] rfl
  have hFc := va_free (wc := [(mm, .inr (4, [.int (nI mi), .int (nI mt), .int (nI mg), .int (nI ms), .int sd, .null])), (rf, .inr (2, [.int (nI fi), .int ff, .int fo, .null]))]) hD hS hA [6, 7] rfl
  refine va_callv (va_runV (As := [.ref rf, .int (nI ad), .int (nI (ng + th))]) (rest := []) ⟨hx, hb, hml, hown, hts⟩ (c_X3_writePacketN l dC dI (mm) (mi) (mt) (mg) (ms) (sd) (rf) (fi) (ff) (fo) (ad) ((ng + th)) H.size hmi hmt hmg hms h_ad (by omega)) (cwV 3 hts g_c_writeFirst_pN_c_X3_writePacketN_115 rfl rfl rfl (by decide +kernel) ⟨Nat.le_of_ble_eq_true rfl, Nat.le_of_ble_eq_true rfl⟩) ⟨fun a U g mk q => by obtain ⟨q0, q1, qP, qK, qD, qE⟩ := q; exact ⟨q0, q1, qP, va_K.moved (u := U) (U := U.calling g mk a) (Vm.Alike.refl U.vm) qK, qD, ev.same (u := U) (U := U.calling g mk a) rfl qE⟩, va_recv hKc hPc (ci := 4) (q0 := 0) rfl rfl, fun U hU hW => ⟨rfl, by rw [hU], by rw [hU]; exact hPc, va_K.moved hW.alike hKc, hDc.weaken (fun _ _ _ _ => trivial), hE.warm hW⟩⟩ rfl rfl hl.1 rfl (lv_room (Nat.le_of_ble_eq_true rfl)) dX5_writeFirst_150 ⟨Nat.le_of_ble_eq_true rfl, Nat.le_of_ble_eq_true rfl⟩) hS (fun q _ h => hFc q h) hFc (fun u t H1 locs ht hvm hw hB hz1 hk1 hS => ?_)
  clear hPc hDc hKc
  obtain ⟨zf_9, zo_9, hP1, hK1, hD1, fb0_9, fbi_9⟩ := hB
  rw [ht] at hP1
  have hK1 := va_K.moved hvm.symm hK1
  obtain ⟨hP, hD⟩ := va_join (wr := [(r, .inr (6, [.int rh, .int rl, .ref st, .ref ck, .ref ck, .int 0, .int 1, .int (nI nf), .int (nI ng), .int 0, .ref rf, .int 0])), (st, .inr (8, [.ref ml, .null])), (ml, .inr (0, [.int (nI mc), .ref ed, .int (nI sz0)])), (ed, .inl (cO, 10, .inr (.inr (.inr (.inr fe))))), (ck, .inr (1, [.ref ce, .null])), (ce, .inl (cJ, 128, .inr (.inl fE)))]) (w1 := [(mm, .inr (4, [.int (nI mi), .int (nI mt), .int (nI mg), .int (nI ms), .int sd, .null])), (rf, .inr (2, [.int (nI (469762048 + 65536 * 235 + 256 * mt + ad)), .int zf_9, .int zo_9, .ref mm]))]) hP hD [6, 7] [0, 1, 2, 3, 4, 5] rfl rfl (by decide +kernel) (by decide +kernel) hk1 hFc hP1 hD1
  generalize H1 = H at hP hS ⊢
  replace hP : va_P (dC, dI) vwCl [(r, .inr (6, [.int rh, .int rl, .ref st, .ref ck, .ref ck, .int 0, .int 1, .int (nI nf), .int (nI ng), .int 0, .ref rf, .int 0])), (st, .inr (8, [.ref ml, .null])), (ml, .inr (0, [.int (nI mc), .ref ed, .int (nI sz0)])), (ed, .inl (cO, 10, .inr (.inr (.inr (.inr fe))))), (ck, .inr (1, [.ref ce, .null])), (ce, .inl (cJ, 128, .inr (.inl fE))), (mm, .inr (4, [.int (nI mi), .int (nI mt), .int (nI mg), .int (nI ms), .int sd, .null])), (rf, .inr (2, [.int (nI (469762048 + 65536 * 235 + 256 * mt + ad)), .int zf_9, .int zo_9, .ref mm]))] H := hP
  replace hD : va_D A [(r, .inr (6, [.int rh, .int rl, .ref st, .ref ck, .ref ck, .int 0, .int 1, .int (nI nf), .int (nI ng), .int 0, .ref rf, .int 0])), (st, .inr (8, [.ref ml, .null])), (ml, .inr (0, [.int (nI mc), .ref ed, .int (nI sz0)])), (ed, .inl (cO, 10, .inr (.inr (.inr (.inr fe))))), (ck, .inr (1, [.ref ce, .null])), (ce, .inl (cJ, 128, .inr (.inl fE))), (mm, .inr (4, [.int (nI mi), .int (nI mt), .int (nI mg), .int (nI ms), .int sd, .null])), (rf, .inr (2, [.int (nI (469762048 + 65536 * 235 + 256 * mt + ad)), .int zf_9, .int zo_9, .ref mm]))] := hD
  clear hw
  refine lv_goto (tgt := 191) hx hb dX5_writeFirst_153 (by decide) ?_
  have hP9 := hP.sub (ws' := [(r, .inr (6, [.int rh, .int rl, .ref st, .ref ck, .ref ck, .int 0, .int 1, .int (nI nf), .int (nI ng), .int 0, .ref rf, .int 0])), (st, .inr (8, [.ref ml, .null])), (ml, .inr (0, [.int (nI mc), .ref ed, .int (nI sz0)])), (ed, .inl (cO, 10, .inr (.inr (.inr (.inr fe))))), (ck, .inr (1, [.ref ce, .null])), (ce, .inl (cJ, 128, .inr (.inl fE))), (mm, .inr (4, [.int (nI mi), .int (nI mt), .int (nI mg), .int (nI ms), .int sd, .null])), (rf, .inr (2, [.int (nI (469762048 + 65536 * 235 + 256 * mt + ad)), .int zf_9, .int zo_9, .ref mm]))]) [0, 1, 2, 3, 4, 5, 6, 7] rfl
  have hD9 := hD.sub (ws' := [(r, .inr (6, [.int rh, .int rl, .ref st, .ref ck, .ref ck, .int 0, .int 1, .int (nI nf), .int (nI ng), .int 0, .ref rf, .int 0])), (st, .inr (8, [.ref ml, .null])), (ml, .inr (0, [.int (nI mc), .ref ed, .int (nI sz0)])), (ed, .inl (cO, 10, .inr (.inr (.inr (.inr fe))))), (ck, .inr (1, [.ref ce, .null])), (ce, .inl (cJ, 128, .inr (.inl fE))), (mm, .inr (4, [.int (nI mi), .int (nI mt), .int (nI mg), .int (nI ms), .int sd, .null])), (rf, .inr (2, [.int (nI (469762048 + 65536 * 235 + 256 * mt + ad)), .int zf_9, .int zo_9, .ref mm]))]) [0, 1, 2, 3, 4, 5, 6, 7] (by decide +kernel) rfl
  have hK9 := hK.sub (tys' := [(cO, (.object "java/lang/Object")), (cJ, .long)]) [0, 1] rfl
  exact W.vret hx hb hr (fun t ht hW => ⟨⟨(), rfl, trivial, ⟨zf_9, zo_9, by rw [ht]; exact hP9, va_K.moved hW.alike hK9, hD9, fb0_9.trans (congrArg nI (by omega)), fun i hi => (fbi_9 i hi).trans (congrArg (bx sd ms) (by omega))⟩⟩, hS.F ht⟩) hS.2.2 dX5_writeFirst_191

noncomputable def tl_c_first_pN : List Cond := wsX50 ++ (v_c_len_f ++ (v_c_writeFirst_pN))
noncomputable def v_c_first_pN : List Cond := .code yX5_first cX5_first 2 (some (.object "ClaimBus$Frame")) :: ([.initialized RX5, .methodLink RX5 82 yX5_length, .instanceMethod yX5_length, .selects RX5 yX5_length yX5_length, .fieldLink RX5 42 "ClaimBus$Row" "firstIsWritten" "Z", .methodLink RX5 86 yX5_writeFirst, .instanceMethod yX5_writeFirst, .selects RX5 yX5_writeFirst yX5_writeFirst, .fieldLink RX5 38 "ClaimBus$Row" "first" "LClaimBus$Frame;"] ++ tl_c_first_pN)
theorem it_c_first_pN : ∀ w ∈ tl_c_first_pN, w ∈ v_c_first_pN := fun w h => List.mem_cons_of_mem _ (List.mem_append_right _ h)
theorem in_c_first_pN_X5 : ∀ w ∈ wsX50, w ∈ v_c_first_pN := fun w h => it_c_first_pN w (List.mem_append_left _ h)
theorem ic_c_first_pN_c_len_f : ∀ w ∈ v_c_len_f, w ∈ v_c_first_pN := fun w h => it_c_first_pN w (List.mem_append_right _ (List.mem_append_left _ h))
theorem ic_c_first_pN_c_writeFirst_pN : ∀ w ∈ v_c_writeFirst_pN, w ∈ v_c_first_pN := fun w h => it_c_first_pN w (List.mem_append_right _ (List.mem_append_right _ (h)))
theorem gt_c_first_pN : ∀ w ∈ tl_c_first_pN, goodWord w = true := List.forall_mem_append.mpr ⟨gw_wsX50, List.forall_mem_append.mpr ⟨gw_c_len_f, gw_c_writeFirst_pN⟩⟩
theorem gw_c_first_pN : ∀ w ∈ v_c_first_pN, goodWord w = true := List.forall_mem_cons.mpr ⟨by decide +kernel, List.forall_mem_append.mpr ⟨List.all_eq_true.mp (by decide +kernel), gt_c_first_pN⟩⟩
theorem g_c_first_pN_c_len_f_82 : GoodIn v_c_first_pN (wsV RX5 82 RX5 yX5_length v_c_len_f) := goodIn_app (goodIn_r [.methodLink RX5 82 yX5_length, .instanceMethod yX5_length, .selects RX5 yX5_length yX5_length, .initialized RX5] [2, 3, 4, 1] (by decide +kernel) (by decide +kernel)) (fun w h => ⟨ic_c_first_pN_c_len_f w h, good_of_word (gw_c_len_f w h)⟩)
theorem g_c_first_pN_c_writeFirst_pN_86 : GoodIn v_c_first_pN (wsV RX5 86 RX5 yX5_writeFirst v_c_writeFirst_pN) := goodIn_app (goodIn_r [.methodLink RX5 86 yX5_writeFirst, .instanceMethod yX5_writeFirst, .selects RX5 yX5_writeFirst yX5_writeFirst, .initialized RX5] [6, 7, 8, 1] (by decide +kernel) (by decide +kernel)) (fun w h => ⟨ic_c_first_pN_c_writeFirst_pN w h, good_of_word (gw_c_writeFirst_pN w h)⟩)
set_option maxHeartbeats 4000000 in
set_option maxRecDepth 100000 in
theorem c_first_pN (l : Launch) (dC : Nat → ClassId) (dI : Nat → Nat → Nat) (r : Nat) (rh : Int32) (rl : Int32) (st : Nat) (rf : Nat) (nf : Nat) (ng : Nat) (ck : Nat) (ce : Nat) (cJ : ClassId) (fE : Nat → Int64) (ml : Nat) (mc : Nat) (ed : Nat) (sz0 : Nat) (cO : ClassId) (fe : Nat → Option Nat) (mm : Nat) (mi : Nat) (mt : Nat) (mg : Nat) (ms : Nat) (sd : Int32) (fi : Nat) (ff : Int32) (fo : Int32) (to : Nat) (se : Nat) (th : Nat) (ad : Nat) (sz : Nat) (hmi : mi < 8) (hmt : mt < 256) (hmg : mg < 262144) (hms : ms < 1786) (h_to : to < 256) (h_se : se < 256) (h_th : th < 256) (h_ad : ad < 256) (hel : fe mi = some mm) (hsz : mi < sz0) (hsz2 : sz0 ≤ 10) (hnf : 1 ≤ nf) (hlo : (fE 0).toInt32 = (nI (16777216 * to + 65536 * 235 + 256 * se + th))) (hhi : (fE 0 >>> ((32 : Int32).toInt64 &&& 63)).toInt32 = (nI mi)) (hth : 1 ≤ th + ng ∧ th + ng < 256) (hnf3 : nf < 300) : Met l yX5_first v_c_first_pN ({ frames := 5, cells := 0, slots := 0, locals := 112 }) (va_Pc [.ref r, .int (nI ad)] (fun U => U.heap.size = sz ∧ va_P (dC, dI) vwCl [(r, .inr (6, [.int rh, .int rl, .ref st, .ref ck, .ref ck, .int 0, .int 1, .int (nI nf), .int (nI ng), .int 0, .ref rf, .int 0])), (st, .inr (8, [.ref ml, .null])), (ml, .inr (0, [.int (nI mc), .ref ed, .int (nI sz0)])), (ed, .inl (cO, 10, .inr (.inr (.inr (.inr fe))))), (ck, .inr (1, [.ref ce, .null])), (ce, .inl (cJ, 128, .inr (.inl fE))), (mm, .inr (4, [.int (nI mi), .int (nI mt), .int (nI mg), .int (nI ms), .int sd, .null])), (rf, .inr (2, [.int (nI fi), .int ff, .int fo, .null]))] U.heap ∧ va_K (dC, dI) vwCl [(cO, (.object "java/lang/Object")), (cJ, .long)] U ∧ va_D (fun _ => True) [(r, .inr (6, [.int rh, .int rl, .ref st, .ref ck, .ref ck, .int 0, .int 1, .int (nI nf), .int (nI ng), .int 0, .ref rf, .int 0])), (st, .inr (8, [.ref ml, .null])), (ml, .inr (0, [.int (nI mc), .ref ed, .int (nI sz0)])), (ed, .inl (cO, 10, .inr (.inr (.inr (.inr fe))))), (ck, .inr (1, [.ref ce, .null])), (ce, .inl (cJ, 128, .inr (.inl fE))), (mm, .inr (4, [.int (nI mi), .int (nI mt), .int (nI mg), .int (nI ms), .int sd, .null])), (rf, .inr (2, [.int (nI fi), .int ff, .int fo, .null]))] ∧ ev U)) (va_Qq (fun (r : Option Nat) (_ : Unit) => r = some rf) (fun (_ : Unit) (t : State) => ∃ (zf : Int32) (zo : Int32), va_P (dC, dI) vwCl [(r, .inr (6, [.int rh, .int rl, .ref st, .ref ck, .ref ck, .int 0, .int 1, .int (nI nf), .int (nI ng), .int 0, .ref rf, .int 1])), (st, .inr (8, [.ref ml, .null])), (ml, .inr (0, [.int (nI mc), .ref ed, .int (nI sz0)])), (ed, .inl (cO, 10, .inr (.inr (.inr (.inr fe))))), (ck, .inr (1, [.ref ce, .null])), (ce, .inl (cJ, 128, .inr (.inl fE))), (mm, .inr (4, [.int (nI mi), .int (nI mt), .int (nI mg), .int (nI ms), .int sd, .null])), (rf, .inr (2, [.int (nI (469762048 + 65536 * 235 + 256 * mt + ad)), .int zf, .int zo, .ref mm]))] t.heap ∧ va_K (dC, dI) vwCl [(cO, (.object "java/lang/Object")), (cJ, .long)] t ∧ va_D (va_A [(r, .inr (6, [.int rh, .int rl, .ref st, .ref ck, .ref ck, .int 0, .int 1, .int (nI nf), .int (nI ng), .int 0, .ref rf, .int 0])), (st, .inr (8, [.ref ml, .null])), (ml, .inr (0, [.int (nI mc), .ref ed, .int (nI sz0)])), (ed, .inl (cO, 10, .inr (.inr (.inr (.inr fe))))), (ck, .inr (1, [.ref ce, .null])), (ce, .inl (cJ, 128, .inr (.inl fE))), (mm, .inr (4, [.int (nI mi), .int (nI mt), .int (nI mg), .int (nI ms), .int sd, .null])), (rf, .inr (2, [.int (nI fi), .int ff, .int fo, .null]))] sz) [(r, .inr (6, [.int rh, .int rl, .ref st, .ref ck, .ref ck, .int 0, .int 1, .int (nI nf), .int (nI ng), .int 0, .ref rf, .int 1])), (st, .inr (8, [.ref ml, .null])), (ml, .inr (0, [.int (nI mc), .ref ed, .int (nI sz0)])), (ed, .inl (cO, 10, .inr (.inr (.inr (.inr fe))))), (ck, .inr (1, [.ref ce, .null])), (ce, .inl (cJ, 128, .inr (.inl fE))), (mm, .inr (4, [.int (nI mi), .int (nI mt), .int (nI mg), .int (nI ms), .int sd, .null])), (rf, .inr (2, [.int (nI (469762048 + 65536 * 235 + 256 * mt + ad)), .int zf, .int zo, .ref mm]))] ∧ (fb zf zo 0 = (nI (th + ng))) ∧ (∀ i, i < 7 → fb zf zo (i + 1) = bx sd ms (7 * ((th + ng) - 1) + i))) (va_A [(r, .inr (6, [.int rh, .int rl, .ref st, .ref ck, .ref ck, .int 0, .int 1, .int (nI nf), .int (nI ng), .int 0, .ref rf, .int 0])), (st, .inr (8, [.ref ml, .null])), (ml, .inr (0, [.int (nI mc), .ref ed, .int (nI sz0)])), (ed, .inl (cO, 10, .inr (.inr (.inr (.inr fe))))), (ck, .inr (1, [.ref ce, .null])), (ce, .inl (cJ, 128, .inr (.inl fE))), (mm, .inr (4, [.int (nI mi), .int (nI mt), .int (nI mg), .int (nI ms), .int sd, .null])), (rf, .inr (2, [.int (nI fi), .int ff, .int fo, .null]))] sz)) 0 0 (va_A [(r, .inr (6, [.int rh, .int rl, .ref st, .ref ck, .ref ck, .int 0, .int 1, .int (nI nf), .int (nI ng), .int 0, .ref rf, .int 0])), (st, .inr (8, [.ref ml, .null])), (ml, .inr (0, [.int (nI mc), .ref ed, .int (nI sz0)])), (ed, .inl (cO, 10, .inr (.inr (.inr (.inr fe))))), (ck, .inr (1, [.ref ce, .null])), (ce, .inl (cJ, 128, .inr (.inl fE))), (mm, .inr (4, [.int (nI mi), .int (nI mt), .int (nI mg), .int (nI ms), .int sd, .null])), (rf, .inr (2, [.int (nI fi), .int ff, .int fo, .null]))] sz) := by
  refine Met.ofW (cc := cX5_first) (maxL := 2) (ret := (some (.object "ClaimBus$Frame"))) (by decide) rfl ?_
  intro p e s m args below meth c s₁ B hml hv
  obtain ⟨rfl, hsz, hP, hK, hD0, hE⟩ := hv
  have hx := B.exec
  have hb := B.bytes
  have hr := B.returns
  have hts := atoms_spec (ws := v_c_first_pN) B.pre
  have hown : s.vm.findClass RX5 = some m.cls := findClass_of_methodNamed B.named
  have hlocks := B.notSynchronized
  subst hsz
  have hD := hD0.self (sz := s.heap.size)
  generalize hAe : va_A [(r, .inr (6, [.int rh, .int rl, .ref st, .ref ck, .ref ck, .int 0, .int 1, .int (nI nf), .int (nI ng), .int 0, .ref rf, .int 0])), (st, .inr (8, [.ref ml, .null])), (ml, .inr (0, [.int (nI mc), .ref ed, .int (nI sz0)])), (ed, .inl (cO, 10, .inr (.inr (.inr (.inr fe))))), (ck, .inr (1, [.ref ce, .null])), (ce, .inl (cJ, 128, .inr (.inl fE))), (mm, .inr (4, [.int (nI mi), .int (nI mt), .int (nI mg), .int (nI ms), .int sd, .null])), (rf, .inr (2, [.int (nI fi), .int ff, .int fo, .null]))] s.heap.size = A at hD ⊢
  have hA : ∀ q : Nat, s.heap.size ≤ q → A q := fun q h => by rw [← hAe]; exact Or.inr h
  have hS : va_S A s.heap s.heap [] := va_S.rf
  replace hP : va_P (dC, dI) vwCl [(r, .inr (6, [.int rh, .int rl, .ref st, .ref ck, .ref ck, .int 0, .int 1, .int (nI nf), .int (nI ng), .int 0, .ref rf, .int 0])), (st, .inr (8, [.ref ml, .null])), (ml, .inr (0, [.int (nI mc), .ref ed, .int (nI sz0)])), (ed, .inl (cO, 10, .inr (.inr (.inr (.inr fe))))), (ck, .inr (1, [.ref ce, .null])), (ce, .inl (cJ, 128, .inr (.inl fE))), (mm, .inr (4, [.int (nI mi), .int (nI mt), .int (nI mg), .int (nI ms), .int sd, .null])), (rf, .inr (2, [.int (nI fi), .int ff, .int fo, .null]))] s.heap := hP
  have hl := lv_entry ([.ref r, .int (nI ad)]) (n := 2) (Nat.le_of_ble_eq_true rfl)
  rw [lg_entry_eq]
  generalize (lg_sl ([.ref r, .int (nI ad)]) ++ List.replicate (2 - (lg_sl ([.ref r, .int (nI ad)])).length) Slot.unset).toArray = ls at hl ⊢
  replace hl : lv_has ls 2 [(0, .ref r), (1, .int (nI ad))] := hl
  obtain ⟨H, hH⟩ : ∃ z : Heap, z = s.heap := ⟨_, rfl⟩
  rw [← hH]
  replace hS : va_S A s.heap H [] := by rw [hH]; exact va_S.rf
  replace hP : va_P (dC, dI) vwCl [(r, .inr (6, [.int rh, .int rl, .ref st, .ref ck, .ref ck, .int 0, .int 1, .int (nI nf), .int (nI ng), .int 0, .ref rf, .int 0])), (st, .inr (8, [.ref ml, .null])), (ml, .inr (0, [.int (nI mc), .ref ed, .int (nI sz0)])), (ed, .inl (cO, 10, .inr (.inr (.inr (.inr fe))))), (ck, .inr (1, [.ref ce, .null])), (ce, .inl (cJ, 128, .inr (.inl fE))), (mm, .inr (4, [.int (nI mi), .int (nI mt), .int (nI mg), .int (nI ms), .int sd, .null])), (rf, .inr (2, [.int (nI fi), .int ff, .int fo, .null]))] H := by rw [hH]; exact hP
  clear hH
  refine lv_aload_n hx hb dX5_first_0 rfl (lv_at hl 0 rfl) ?_
  have hPc := hP.sub (ws' := [(r, .inr (6, [.int rh, .int rl, .ref st, .ref ck, .ref ck, .int 0, .int 1, .int (nI nf), .int (nI ng), .int 0, .ref rf, .int 0]))]) [0] rfl
  have hDc := hD.sub (ws' := [(r, .inr (6, [.int rh, .int rl, .ref st, .ref ck, .ref ck, .int 0, .int 1, .int (nI nf), .int (nI ng), .int 0, .ref rf, .int 0]))]) [0] (by decide +kernel) rfl
  have hKc := hK.sub (tys' := []) [] rfl
  have hFc := ro_free hS hA
  refine va_calli (va_runV (As := []) (rest := []) ⟨hx, hb, hml, hown, hts⟩ (c_len_f l dC dI (r) (rh) (rl) (st) (rf) (nf) (ng) (ck) H.size) (cwV 0 hts g_c_first_pN_c_len_f_82 rfl rfl rfl (by decide +kernel) ⟨Nat.le_of_ble_eq_true rfl, Nat.le_of_ble_eq_true rfl⟩) ⟨fun a U g mk q => by obtain ⟨q0, q1, qP, qK, qD, qE⟩ := q; exact ⟨q0, q1, qP, va_K.moved (u := U) (U := U.calling g mk a) (Vm.Alike.refl U.vm) qK, qD, ev.same (u := U) (U := U.calling g mk a) rfl qE⟩, va_recv hKc hPc (ci := 6) (q0 := 0) rfl rfl, fun U hU hW => ⟨rfl, by rw [hU], by rw [hU]; exact hPc, va_K.moved hW.alike hKc, hDc.weaken (fun _ _ _ _ => trivial), hE.warm hW⟩⟩ rfl rfl hl.1 rfl (lv_room (Nat.le_of_ble_eq_true rfl)) dX5_first_1 ⟨Nat.le_of_ble_eq_true rfl, Nat.le_of_ble_eq_true rfl⟩) hS (fun q _ h => hFc q h) hFc (fun r_1 u t H1 locs ht hvm hw hB hz1 hk1 hS => ?_)
  clear hPc hDc hKc
  replace hP := ro_keep hP hk1
  generalize H1 = H at hP hS ⊢
  replace hP : va_P (dC, dI) vwCl [(r, .inr (6, [.int rh, .int rl, .ref st, .ref ck, .ref ck, .int 0, .int 1, .int (nI nf), .int (nI ng), .int 0, .ref rf, .int 0])), (st, .inr (8, [.ref ml, .null])), (ml, .inr (0, [.int (nI mc), .ref ed, .int (nI sz0)])), (ed, .inl (cO, 10, .inr (.inr (.inr (.inr fe))))), (ck, .inr (1, [.ref ce, .null])), (ce, .inl (cJ, 128, .inr (.inl fE))), (mm, .inr (4, [.int (nI mi), .int (nI mt), .int (nI mg), .int (nI ms), .int sd, .null])), (rf, .inr (2, [.int (nI fi), .int ff, .int fo, .null]))] H := hP
  have hw := hw.symm
  subst hw
  refine lv_if_ne (tgt := 9) hx hb dX5_first_4 (by decide) (fun c_2 => ?_) (fun c_2 => ?_)
  rotate_left
  · exact absurd ((nI_eq (a := nf) (b := 0) (by omega) (by omega)).mp c_2) (by omega)
  refine lv_aload_n hx hb dX5_first_9 rfl (lv_at hl 0 rfl) ?_
  refine va_get (D := (dC, dI)) (ci := 6) (v := .int 0) (C := RX5) (T := TX5) (N := 12) hx hb hts in_c_first_pN_X5 hown hK hP 0 rfl rfl 11 (by decide) (hts (.fieldLink RX5 42 "ClaimBus$Row" "firstIsWritten" "Z") (List.mem_of_getElem? (i := 5) rfl)) (fun _ h9 => h9) rfl dX5_first_10 ?_
  refine lv_if_ne (tgt := 26) hx hb dX5_first_13 (by decide) (fun c_3 => ?_) (fun c_3 => ?_)
  · exact absurd c_3 (by decide)
  refine lv_aload_n hx hb dX5_first_16 rfl (lv_at hl 0 rfl) ?_
  refine lv_iload_n hx hb dX5_first_17 rfl (lv_at hl 1 rfl) ?_
  have hPc := hP.sub (ws' := [(r, .inr (6, [.int rh, .int rl, .ref st, .ref ck, .ref ck, .int 0, .int 1, .int (nI nf), .int (nI ng), .int 0, .ref rf, .int 0])), (st, .inr (8, [.ref ml, .null])), (ml, .inr (0, [.int (nI mc), .ref ed, .int (nI sz0)])), (ed, .inl (cO, 10, .inr (.inr (.inr (.inr fe))))), (ck, .inr (1, [.ref ce, .null])), (ce, .inl (cJ, 128, .inr (.inl fE))), (mm, .inr (4, [.int (nI mi), .int (nI mt), .int (nI mg), .int (nI ms), .int sd, .null])), (rf, .inr (2, [.int (nI fi), .int ff, .int fo, .null]))]) [0, 1, 2, 3, 4, 5, 6, 7] rfl
  have hDc := hD.sub (ws' := [(r, .inr (6, [.int rh, .int rl, .ref st, .ref ck, .ref ck, .int 0, .int 1, .int (nI nf), .int (nI ng), .int 0, .ref rf, .int 0])), (st, .inr (8, [.ref ml, .null])), (ml, .inr (0, [.int (nI mc), .ref ed, .int (nI sz0)])), (ed, .inl (cO, 10, .inr (.inr (.inr (.inr fe))))), (ck, .inr (1, [.ref ce, .null])), (ce, .inl (cJ, 128, .inr (.inl fE))), (mm, .inr (4, [.int (nI mi), .int (nI mt), .int (nI mg), .int (nI ms), .int sd, .null])), (rf, .inr (2, [.int (nI fi), .int ff, .int fo, .null]))]) [0, 1, 2, 3, 4, 5, 6, 7] (by decide +kernel) rfl
  have hKc := hK.sub (tys' := [(cO, (.object "java/lang/Object")), (cJ, .long)]) [0, 1] rfl
  have hFc := va_free (wc := [(r, .inr (6, [.int rh, .int rl, .ref st, .ref ck, .ref ck, .int 0, .int 1, .int (nI nf), .int (nI ng), .int 0, .ref rf, .int 0])), (st, .inr (8, [.ref ml, .null])), (ml, .inr (0, [.int (nI mc), .ref ed, .int (nI sz0)])), (ed, .inl (cO, 10, .inr (.inr (.inr (.inr fe))))), (ck, .inr (1, [.ref ce, .null])), (ce, .inl (cJ, 128, .inr (.inl fE))), (mm, .inr (4, [.int (nI mi), .int (nI mt), .int (nI mg), .int (nI ms), .int sd, .null])), (rf, .inr (2, [.int (nI fi), .int ff, .int fo, .null]))]) hD hS hA [0, 1, 2, 3, 4, 5, 6, 7] rfl
  refine va_callv (va_runV (As := [.int (nI ad)]) (rest := []) ⟨hx, hb, hml, hown, hts⟩ (c_writeFirst_pN l dC dI (r) (rh) (rl) (st) (rf) (nf) (ng) (ck) (ce) (cJ) (fE) (ml) (mc) (ed) (sz0) (cO) (fe) (mm) (mi) (mt) (mg) (ms) (sd) (fi) (ff) (fo) (to) (se) (th) (ad) H.size hmi hmt hmg hms h_to h_se h_th h_ad hel hsz hsz2 hnf hlo hhi hth) (cwV 1 hts g_c_first_pN_c_writeFirst_pN_86 rfl rfl rfl (by decide +kernel) ⟨Nat.le_of_ble_eq_true rfl, Nat.le_of_ble_eq_true rfl⟩) ⟨fun a U g mk q => by obtain ⟨q0, q1, qP, qK, qD, qE⟩ := q; exact ⟨q0, q1, qP, va_K.moved (u := U) (U := U.calling g mk a) (Vm.Alike.refl U.vm) qK, qD, ev.same (u := U) (U := U.calling g mk a) rfl qE⟩, va_recv hKc hPc (ci := 6) (q0 := 0) rfl rfl, fun U hU hW => ⟨rfl, by rw [hU], by rw [hU]; exact hPc, va_K.moved hW.alike hKc, hDc.weaken (fun _ _ _ _ => trivial), hE.warm hW⟩⟩ rfl rfl hl.1 rfl (lv_room (Nat.le_of_ble_eq_true rfl)) dX5_first_18 ⟨Nat.le_of_ble_eq_true rfl, Nat.le_of_ble_eq_true rfl⟩) hS (fun q _ h => hFc q h) hFc (fun u t H1 locs ht hvm hw hB hz1 hk1 hS => ?_)
  clear hPc hDc hKc
  obtain ⟨zf_4, zo_4, hP1, hK1, hD1, fb0_4, fbi_4⟩ := hB
  rw [ht] at hP1
  have hK1 := va_K.moved hvm.symm hK1
  obtain ⟨hP, hD⟩ := va_join (wr := []) (w1 := [(r, .inr (6, [.int rh, .int rl, .ref st, .ref ck, .ref ck, .int 0, .int 1, .int (nI nf), .int (nI ng), .int 0, .ref rf, .int 0])), (st, .inr (8, [.ref ml, .null])), (ml, .inr (0, [.int (nI mc), .ref ed, .int (nI sz0)])), (ed, .inl (cO, 10, .inr (.inr (.inr (.inr fe))))), (ck, .inr (1, [.ref ce, .null])), (ce, .inl (cJ, 128, .inr (.inl fE))), (mm, .inr (4, [.int (nI mi), .int (nI mt), .int (nI mg), .int (nI ms), .int sd, .null])), (rf, .inr (2, [.int (nI (469762048 + 65536 * 235 + 256 * mt + ad)), .int zf_4, .int zo_4, .ref mm]))]) hP hD [0, 1, 2, 3, 4, 5, 6, 7] [] rfl rfl (by decide +kernel) (by decide +kernel) hk1 hFc hP1 hD1
  generalize H1 = H at hP hS ⊢
  replace hP : va_P (dC, dI) vwCl [(r, .inr (6, [.int rh, .int rl, .ref st, .ref ck, .ref ck, .int 0, .int 1, .int (nI nf), .int (nI ng), .int 0, .ref rf, .int 0])), (st, .inr (8, [.ref ml, .null])), (ml, .inr (0, [.int (nI mc), .ref ed, .int (nI sz0)])), (ed, .inl (cO, 10, .inr (.inr (.inr (.inr fe))))), (ck, .inr (1, [.ref ce, .null])), (ce, .inl (cJ, 128, .inr (.inl fE))), (mm, .inr (4, [.int (nI mi), .int (nI mt), .int (nI mg), .int (nI ms), .int sd, .null])), (rf, .inr (2, [.int (nI (469762048 + 65536 * 235 + 256 * mt + ad)), .int zf_4, .int zo_4, .ref mm]))] H := hP
  replace hD : va_D A [(r, .inr (6, [.int rh, .int rl, .ref st, .ref ck, .ref ck, .int 0, .int 1, .int (nI nf), .int (nI ng), .int 0, .ref rf, .int 0])), (st, .inr (8, [.ref ml, .null])), (ml, .inr (0, [.int (nI mc), .ref ed, .int (nI sz0)])), (ed, .inl (cO, 10, .inr (.inr (.inr (.inr fe))))), (ck, .inr (1, [.ref ce, .null])), (ce, .inl (cJ, 128, .inr (.inl fE))), (mm, .inr (4, [.int (nI mi), .int (nI mt), .int (nI mg), .int (nI ms), .int sd, .null])), (rf, .inr (2, [.int (nI (469762048 + 65536 * 235 + 256 * mt + ad)), .int zf_4, .int zo_4, .ref mm]))] := hD
  clear hw
  refine lv_aload_n hx hb dX5_first_21 rfl (lv_at hl 0 rfl) ?_
  refine lv_iconst (v := 1) hx hb dX5_first_22 (by decide) ?_
  refine va_put (D := (dC, dI)) (ci := 6) (v := .int 1) (ty := .boolean) (C := RX5) (T := TX5) (N := 12) hx hb hts in_c_first_pN_X5 tyX5 tyX5_ok nmX5 hown hK hP hD hS 0 rfl rfl 11 (by decide) (hts (.fieldLink RX5 42 "ClaimBus$Row" "firstIsWritten" "Z") (List.mem_of_getElem? (i := 5) rfl)) (fun _ h9 => h9) rfl (by decide +kernel) rfl rfl (Nat.le_of_ble_eq_true rfl) dX5_first_23 (fun H locs hP hD hS => ?_)
  replace hP : va_P (dC, dI) vwCl [(r, .inr (6, [.int rh, .int rl, .ref st, .ref ck, .ref ck, .int 0, .int 1, .int (nI nf), .int (nI ng), .int 0, .ref rf, .int 1])), (st, .inr (8, [.ref ml, .null])), (ml, .inr (0, [.int (nI mc), .ref ed, .int (nI sz0)])), (ed, .inl (cO, 10, .inr (.inr (.inr (.inr fe))))), (ck, .inr (1, [.ref ce, .null])), (ce, .inl (cJ, 128, .inr (.inl fE))), (mm, .inr (4, [.int (nI mi), .int (nI mt), .int (nI mg), .int (nI ms), .int sd, .null])), (rf, .inr (2, [.int (nI (469762048 + 65536 * 235 + 256 * mt + ad)), .int zf_4, .int zo_4, .ref mm]))] H := hP
  replace hD : va_D A [(r, .inr (6, [.int rh, .int rl, .ref st, .ref ck, .ref ck, .int 0, .int 1, .int (nI nf), .int (nI ng), .int 0, .ref rf, .int 1])), (st, .inr (8, [.ref ml, .null])), (ml, .inr (0, [.int (nI mc), .ref ed, .int (nI sz0)])), (ed, .inl (cO, 10, .inr (.inr (.inr (.inr fe))))), (ck, .inr (1, [.ref ce, .null])), (ce, .inl (cJ, 128, .inr (.inl fE))), (mm, .inr (4, [.int (nI mi), .int (nI mt), .int (nI mg), .int (nI ms), .int sd, .null])), (rf, .inr (2, [.int (nI (469762048 + 65536 * 235 + 256 * mt + ad)), .int zf_4, .int zo_4, .ref mm]))] := hD
  refine lv_aload_n hx hb dX5_first_26 rfl (lv_at hl 0 rfl) ?_
  refine va_get (D := (dC, dI)) (ci := 6) (v := .ref rf) (C := RX5) (T := TX5) (N := 12) hx hb hts in_c_first_pN_X5 hown hK hP 0 rfl rfl 10 (by decide) (hts (.fieldLink RX5 38 "ClaimBus$Row" "first" "LClaimBus$Frame;") (List.mem_of_getElem? (i := 9) rfl)) (fun _ h9 => h9) rfl dX5_first_27 ?_
  have hP9 := hP.sub (ws' := [(r, .inr (6, [.int rh, .int rl, .ref st, .ref ck, .ref ck, .int 0, .int 1, .int (nI nf), .int (nI ng), .int 0, .ref rf, .int 1])), (st, .inr (8, [.ref ml, .null])), (ml, .inr (0, [.int (nI mc), .ref ed, .int (nI sz0)])), (ed, .inl (cO, 10, .inr (.inr (.inr (.inr fe))))), (ck, .inr (1, [.ref ce, .null])), (ce, .inl (cJ, 128, .inr (.inl fE))), (mm, .inr (4, [.int (nI mi), .int (nI mt), .int (nI mg), .int (nI ms), .int sd, .null])), (rf, .inr (2, [.int (nI (469762048 + 65536 * 235 + 256 * mt + ad)), .int zf_4, .int zo_4, .ref mm]))]) [0, 1, 2, 3, 4, 5, 6, 7] rfl
  have hD9 := hD.sub (ws' := [(r, .inr (6, [.int rh, .int rl, .ref st, .ref ck, .ref ck, .int 0, .int 1, .int (nI nf), .int (nI ng), .int 0, .ref rf, .int 1])), (st, .inr (8, [.ref ml, .null])), (ml, .inr (0, [.int (nI mc), .ref ed, .int (nI sz0)])), (ed, .inl (cO, 10, .inr (.inr (.inr (.inr fe))))), (ck, .inr (1, [.ref ce, .null])), (ce, .inl (cJ, 128, .inr (.inl fE))), (mm, .inr (4, [.int (nI mi), .int (nI mt), .int (nI mg), .int (nI ms), .int sd, .null])), (rf, .inr (2, [.int (nI (469762048 + 65536 * 235 + 256 * mt + ad)), .int zf_4, .int zo_4, .ref mm]))]) [0, 1, 2, 3, 4, 5, 6, 7] (by decide +kernel) rfl
  have hK9 := hK.sub (tys' := [(cO, (.object "java/lang/Object")), (cJ, .long)]) [0, 1] rfl
  exact W.aret (v := .ref rf) hx hb hr (Or.inl ⟨_, rfl⟩) (Or.inr ⟨_, rfl⟩) (fun t ht hW => ⟨⟨some rf, (), rfl, rfl, ⟨zf_4, zo_4, by rw [ht]; exact hP9, va_K.moved hW.alike hK9, hD9, fb0_4.trans (congrArg nI (by omega)), fun i hi => (fbi_4 i hi).trans (congrArg (bx sd ms) (by omega))⟩⟩, hS.F ht⟩) hS.2.2 dX5_first_30

noncomputable def tl_c_first_e : List Cond := v_c_len_e
noncomputable def v_c_first_e : List Cond := .code yX5_first cX5_first 2 (some (.object "ClaimBus$Frame")) :: ([.initialized RX5, .methodLink RX5 82 yX5_length, .instanceMethod yX5_length, .selects RX5 yX5_length yX5_length] ++ tl_c_first_e)
theorem it_c_first_e : ∀ w ∈ tl_c_first_e, w ∈ v_c_first_e := fun w h => List.mem_cons_of_mem _ (List.mem_append_right _ h)
theorem ic_c_first_e_c_len_e : ∀ w ∈ v_c_len_e, w ∈ v_c_first_e := fun w h => it_c_first_e w (h)
theorem gt_c_first_e : ∀ w ∈ tl_c_first_e, goodWord w = true := gw_c_len_e
theorem gw_c_first_e : ∀ w ∈ v_c_first_e, goodWord w = true := List.forall_mem_cons.mpr ⟨by decide +kernel, List.forall_mem_append.mpr ⟨List.all_eq_true.mp (by decide +kernel), gt_c_first_e⟩⟩
theorem g_c_first_e_c_len_e_82 : GoodIn v_c_first_e (wsV RX5 82 RX5 yX5_length v_c_len_e) := goodIn_app (goodIn_r [.methodLink RX5 82 yX5_length, .instanceMethod yX5_length, .selects RX5 yX5_length yX5_length, .initialized RX5] [2, 3, 4, 1] (by decide +kernel) (by decide +kernel)) (fun w h => ⟨ic_c_first_e_c_len_e w h, good_of_word (gw_c_len_e w h)⟩)
set_option maxHeartbeats 4000000 in
set_option maxRecDepth 100000 in
theorem c_first_e (l : Launch) (dC : Nat → ClassId) (dI : Nat → Nat → Nat) (r : Nat) (rh : Int32) (rl : Int32) (st : Nat) (rf : Nat) (hp : Int32) (tp : Int32) (ad : Nat) (sz : Nat)  : Met l yX5_first v_c_first_e ({ frames := 1, cells := 0, slots := 0, locals := 20 }) (va_Pc [.ref r, .int (nI ad)] (fun U => U.heap.size = sz ∧ va_P (dC, dI) vwCl [(r, .inr (6, [.int rh, .int rl, .ref st, .null, .null, .int hp, .int tp, .int 0, .int 0, .int 0, .ref rf, .int 0]))] U.heap ∧ va_K (dC, dI) vwCl [] U ∧ va_D (fun _ => True) [(r, .inr (6, [.int rh, .int rl, .ref st, .null, .null, .int hp, .int tp, .int 0, .int 0, .int 0, .ref rf, .int 0]))] ∧ ev U)) (va_Qq (fun (r : Option Nat) (_ : Unit) => r = none) (fun (_ : Unit) (_ : State) => True) (va_A [] sz)) 0 0 (va_A [] sz) := by
  refine Met.ofW (cc := cX5_first) (maxL := 2) (ret := (some (.object "ClaimBus$Frame"))) (by decide) rfl ?_
  intro p e s m args below meth c s₁ B hml hv
  obtain ⟨rfl, hsz, hP, hK, hD0, hE⟩ := hv
  have hx := B.exec
  have hb := B.bytes
  have hr := B.returns
  have hts := atoms_spec (ws := v_c_first_e) B.pre
  have hown : s.vm.findClass RX5 = some m.cls := findClass_of_methodNamed B.named
  have hlocks := B.notSynchronized
  subst hsz
  have hD := hD0
  generalize hAe : va_A [] s.heap.size = A
  have hA : ∀ q : Nat, s.heap.size ≤ q → A q := fun q h => by rw [← hAe]; exact Or.inr h
  have hS : va_S A s.heap s.heap [] := va_S.rf
  replace hP : va_P (dC, dI) vwCl [(r, .inr (6, [.int rh, .int rl, .ref st, .null, .null, .int hp, .int tp, .int 0, .int 0, .int 0, .ref rf, .int 0]))] s.heap := hP
  have hl := lv_entry ([.ref r, .int (nI ad)]) (n := 2) (Nat.le_of_ble_eq_true rfl)
  rw [lg_entry_eq]
  generalize (lg_sl ([.ref r, .int (nI ad)]) ++ List.replicate (2 - (lg_sl ([.ref r, .int (nI ad)])).length) Slot.unset).toArray = ls at hl ⊢
  replace hl : lv_has ls 2 [(0, .ref r), (1, .int (nI ad))] := hl
  obtain ⟨H, hH⟩ : ∃ z : Heap, z = s.heap := ⟨_, rfl⟩
  rw [← hH]
  replace hS : va_S A s.heap H [] := by rw [hH]; exact va_S.rf
  replace hP : va_P (dC, dI) vwCl [(r, .inr (6, [.int rh, .int rl, .ref st, .null, .null, .int hp, .int tp, .int 0, .int 0, .int 0, .ref rf, .int 0]))] H := by rw [hH]; exact hP
  clear hH
  refine lv_aload_n hx hb dX5_first_0 rfl (lv_at hl 0 rfl) ?_
  have hPc := hP.sub (ws' := [(r, .inr (6, [.int rh, .int rl, .ref st, .null, .null, .int hp, .int tp, .int 0, .int 0, .int 0, .ref rf, .int 0]))]) [0] rfl
  have hDc := hD.sub (ws' := [(r, .inr (6, [.int rh, .int rl, .ref st, .null, .null, .int hp, .int tp, .int 0, .int 0, .int 0, .ref rf, .int 0]))]) [0] (by decide +kernel) rfl
  have hKc := hK.sub (tys' := []) [] rfl
  have hFc := ro_free hS hA
  refine va_calli (va_runV (As := []) (rest := []) ⟨hx, hb, hml, hown, hts⟩ (c_len_e l dC dI (r) (rh) (rl) (st) (rf) (hp) (tp) H.size) (cwV 0 hts g_c_first_e_c_len_e_82 rfl rfl rfl (by decide +kernel) ⟨Nat.le_of_ble_eq_true rfl, Nat.le_of_ble_eq_true rfl⟩) ⟨fun a U g mk q => by obtain ⟨q0, q1, qP, qK, qD, qE⟩ := q; exact ⟨q0, q1, qP, va_K.moved (u := U) (U := U.calling g mk a) (Vm.Alike.refl U.vm) qK, qD, ev.same (u := U) (U := U.calling g mk a) rfl qE⟩, va_recv hKc hPc (ci := 6) (q0 := 0) rfl rfl, fun U hU hW => ⟨rfl, by rw [hU], by rw [hU]; exact hPc, va_K.moved hW.alike hKc, hDc.weaken (fun _ _ _ _ => trivial), hE.warm hW⟩⟩ rfl rfl hl.1 rfl (lv_room (Nat.le_of_ble_eq_true rfl)) dX5_first_1 ⟨Nat.le_of_ble_eq_true rfl, Nat.le_of_ble_eq_true rfl⟩) hS (fun q _ h => hFc q h) hFc (fun r_1 u t H1 locs ht hvm hw hB hz1 hk1 hS => ?_)
  clear hPc hDc hKc
  replace hP := ro_keep hP hk1
  generalize H1 = H at hP hS ⊢
  replace hP : va_P (dC, dI) vwCl [(r, .inr (6, [.int rh, .int rl, .ref st, .null, .null, .int hp, .int tp, .int 0, .int 0, .int 0, .ref rf, .int 0]))] H := hP
  have hw := hw.symm
  subst hw
  refine lv_if_ne (tgt := 9) hx hb dX5_first_4 (by decide) (fun c_2 => ?_) (fun c_2 => ?_)
  · exact absurd c_2 (by decide)
  refine lv_null hx hb dX5_first_7 ?_
  exact W.aret (v := .null) hx hb hr (Or.inl ⟨_, rfl⟩) (Or.inl rfl) (fun t ht hW => ⟨⟨none, (), rfl, rfl, trivial⟩, hS.F ht⟩) hS.2.2 dX5_first_8

noncomputable def tl_c_clear : List Cond := wsX50 ++ (v_c_takeBack)
noncomputable def v_c_clear : List Cond := .code yX5_clear cX5_clear 1 none :: ([.fieldLink RX5 9 "ClaimBus$Row" "head" "LClaimBus$Chunk;", .fieldLink RX5 15 "ClaimBus$Row" "tail" "LClaimBus$Chunk;", .fieldLink RX5 51 "ClaimBus$Row" "store" "LClaimBus$Store;", .initialized RX7, .methodLink RX5 129 yX7_takeBack, .instanceMethod yX7_takeBack, .selects RX7 yX7_takeBack yX7_takeBack, .fieldLink RX5 25 "ClaimBus$Row" "frames" "I", .fieldLink RX5 28 "ClaimBus$Row" "gone" "I", .fieldLink RX5 31 "ClaimBus$Row" "claimWaits" "Z", .fieldLink RX5 42 "ClaimBus$Row" "firstIsWritten" "Z"] ++ tl_c_clear)
theorem it_c_clear : ∀ w ∈ tl_c_clear, w ∈ v_c_clear := fun w h => List.mem_cons_of_mem _ (List.mem_append_right _ h)
theorem in_c_clear_X5 : ∀ w ∈ wsX50, w ∈ v_c_clear := fun w h => it_c_clear w (List.mem_append_left _ h)
theorem ic_c_clear_c_takeBack : ∀ w ∈ v_c_takeBack, w ∈ v_c_clear := fun w h => it_c_clear w (List.mem_append_right _ (h))
theorem gt_c_clear : ∀ w ∈ tl_c_clear, goodWord w = true := List.forall_mem_append.mpr ⟨gw_wsX50, gw_c_takeBack⟩
theorem gw_c_clear : ∀ w ∈ v_c_clear, goodWord w = true := List.forall_mem_cons.mpr ⟨by decide +kernel, List.forall_mem_append.mpr ⟨List.all_eq_true.mp (by decide +kernel), gt_c_clear⟩⟩
theorem g_c_clear_c_takeBack_129 : GoodIn v_c_clear (wsV RX5 129 RX7 yX7_takeBack v_c_takeBack) := goodIn_app (goodIn_r [.methodLink RX5 129 yX7_takeBack, .instanceMethod yX7_takeBack, .selects RX7 yX7_takeBack yX7_takeBack, .initialized RX7] [5, 6, 7, 4] (by decide +kernel) (by decide +kernel)) (fun w h => ⟨ic_c_clear_c_takeBack w h, good_of_word (gw_c_takeBack w h)⟩)
set_option maxHeartbeats 4000000 in
set_option maxRecDepth 100000 in
theorem c_clear (l : Launch) (dC : Nat → ClassId) (dI : Nat → Nat → Nat) (r : Nat) (rh : Int32) (rl : Int32) (st : Nat) (rf : Nat) (nf : Nat) (ng : Nat) (ml : Nat) (ck : Nat) (ce : Nat) (sz : Nat)  : Met l yX5_clear v_c_clear ({ frames := 1, cells := 0, slots := 0, locals := 22 }) (va_Pc [.ref r] (fun U => U.heap.size = sz ∧ va_P (dC, dI) vwCl [(r, .inr (6, [.int rh, .int rl, .ref st, .ref ck, .ref ck, .int 0, .int 1, .int (nI nf), .int (nI ng), .int 0, .ref rf, .int 0])), (st, .inr (8, [.ref ml, .null])), (ck, .inr (1, [.ref ce, .null]))] U.heap ∧ va_K (dC, dI) vwCl [] U ∧ va_D (fun _ => True) [(r, .inr (6, [.int rh, .int rl, .ref st, .ref ck, .ref ck, .int 0, .int 1, .int (nI nf), .int (nI ng), .int 0, .ref rf, .int 0])), (st, .inr (8, [.ref ml, .null])), (ck, .inr (1, [.ref ce, .null]))] ∧ ev U)) (va_Qv (fun _ : Unit => True) (fun (_ : Unit) (t : State) => va_P (dC, dI) vwCl [(r, .inr (6, [.int rh, .int rl, .ref st, .null, .null, .int 0, .int 1, .int 0, .int 0, .int 0, .ref rf, .int 0])), (st, .inr (8, [.ref ml, .ref ck])), (ck, .inr (1, [.ref ce, .null]))] t.heap ∧ va_K (dC, dI) vwCl [] t ∧ va_D (va_A [(r, .inr (6, [.int rh, .int rl, .ref st, .ref ck, .ref ck, .int 0, .int 1, .int (nI nf), .int (nI ng), .int 0, .ref rf, .int 0])), (st, .inr (8, [.ref ml, .null])), (ck, .inr (1, [.ref ce, .null]))] sz) [(r, .inr (6, [.int rh, .int rl, .ref st, .null, .null, .int 0, .int 1, .int 0, .int 0, .int 0, .ref rf, .int 0])), (st, .inr (8, [.ref ml, .ref ck])), (ck, .inr (1, [.ref ce, .null]))]) (va_A [(r, .inr (6, [.int rh, .int rl, .ref st, .ref ck, .ref ck, .int 0, .int 1, .int (nI nf), .int (nI ng), .int 0, .ref rf, .int 0])), (st, .inr (8, [.ref ml, .null])), (ck, .inr (1, [.ref ce, .null]))] sz)) 0 0 (va_A [(r, .inr (6, [.int rh, .int rl, .ref st, .ref ck, .ref ck, .int 0, .int 1, .int (nI nf), .int (nI ng), .int 0, .ref rf, .int 0])), (st, .inr (8, [.ref ml, .null])), (ck, .inr (1, [.ref ce, .null]))] sz) := by
  refine Met.ofW (cc := cX5_clear) (maxL := 1) (ret := none) (by decide) rfl ?_
  intro p e s m args below meth c s₁ B hml hv
  obtain ⟨rfl, hsz, hP, hK, hD0, hE⟩ := hv
  have hx := B.exec
  have hb := B.bytes
  have hr := B.returns
  have hts := atoms_spec (ws := v_c_clear) B.pre
  have hown : s.vm.findClass RX5 = some m.cls := findClass_of_methodNamed B.named
  have hlocks := B.notSynchronized
  subst hsz
  have hD := hD0.self (sz := s.heap.size)
  generalize hAe : va_A [(r, .inr (6, [.int rh, .int rl, .ref st, .ref ck, .ref ck, .int 0, .int 1, .int (nI nf), .int (nI ng), .int 0, .ref rf, .int 0])), (st, .inr (8, [.ref ml, .null])), (ck, .inr (1, [.ref ce, .null]))] s.heap.size = A at hD ⊢
  have hA : ∀ q : Nat, s.heap.size ≤ q → A q := fun q h => by rw [← hAe]; exact Or.inr h
  have hS : va_S A s.heap s.heap [] := va_S.rf
  replace hP : va_P (dC, dI) vwCl [(r, .inr (6, [.int rh, .int rl, .ref st, .ref ck, .ref ck, .int 0, .int 1, .int (nI nf), .int (nI ng), .int 0, .ref rf, .int 0])), (st, .inr (8, [.ref ml, .null])), (ck, .inr (1, [.ref ce, .null]))] s.heap := hP
  have hl := lv_entry ([.ref r]) (n := 1) (Nat.le_of_ble_eq_true rfl)
  rw [lg_entry_eq]
  generalize (lg_sl ([.ref r]) ++ List.replicate (1 - (lg_sl ([.ref r])).length) Slot.unset).toArray = ls at hl ⊢
  replace hl : lv_has ls 1 [(0, .ref r)] := hl
  obtain ⟨H, hH⟩ : ∃ z : Heap, z = s.heap := ⟨_, rfl⟩
  rw [← hH]
  replace hS : va_S A s.heap H [] := by rw [hH]; exact va_S.rf
  replace hP : va_P (dC, dI) vwCl [(r, .inr (6, [.int rh, .int rl, .ref st, .ref ck, .ref ck, .int 0, .int 1, .int (nI nf), .int (nI ng), .int 0, .ref rf, .int 0])), (st, .inr (8, [.ref ml, .null])), (ck, .inr (1, [.ref ce, .null]))] H := by rw [hH]; exact hP
  clear hH
  refine lv_aload_n hx hb dX5_clear_0 rfl (lv_at hl 0 rfl) ?_
  refine va_get (D := (dC, dI)) (ci := 6) (v := .ref ck) (C := RX5) (T := TX5) (N := 12) hx hb hts in_c_clear_X5 hown hK hP 0 rfl rfl 3 (by decide) (hts (.fieldLink RX5 9 "ClaimBus$Row" "head" "LClaimBus$Chunk;") (List.mem_of_getElem? (i := 1) rfl)) (fun _ h9 => h9) rfl dX5_clear_1 ?_
  refine lv_ifnull hx hb dX5_clear_4 ?_
  refine lv_aload_n hx hb dX5_clear_7 rfl (lv_at hl 0 rfl) ?_
  refine va_get (D := (dC, dI)) (ci := 6) (v := .ref ck) (C := RX5) (T := TX5) (N := 12) hx hb hts in_c_clear_X5 hown hK hP 0 rfl rfl 4 (by decide) (hts (.fieldLink RX5 15 "ClaimBus$Row" "tail" "LClaimBus$Chunk;") (List.mem_of_getElem? (i := 2) rfl)) (fun _ h9 => h9) rfl dX5_clear_8 ?_
  refine lv_ifnull hx hb dX5_clear_11 ?_
  refine lv_aload_n hx hb dX5_clear_14 rfl (lv_at hl 0 rfl) ?_
  refine va_get (D := (dC, dI)) (ci := 6) (v := .ref st) (C := RX5) (T := TX5) (N := 12) hx hb hts in_c_clear_X5 hown hK hP 0 rfl rfl 2 (by decide) (hts (.fieldLink RX5 51 "ClaimBus$Row" "store" "LClaimBus$Store;") (List.mem_of_getElem? (i := 3) rfl)) (fun _ h9 => h9) rfl dX5_clear_15 ?_
  refine lv_aload_n hx hb dX5_clear_18 rfl (lv_at hl 0 rfl) ?_
  refine va_get (D := (dC, dI)) (ci := 6) (v := .ref ck) (C := RX5) (T := TX5) (N := 12) hx hb hts in_c_clear_X5 hown hK hP 0 rfl rfl 3 (by decide) (hts (.fieldLink RX5 9 "ClaimBus$Row" "head" "LClaimBus$Chunk;") (List.mem_of_getElem? (i := 1) rfl)) (fun _ h9 => h9) rfl dX5_clear_19 ?_
  refine lv_aload_n hx hb dX5_clear_22 rfl (lv_at hl 0 rfl) ?_
  refine va_get (D := (dC, dI)) (ci := 6) (v := .ref ck) (C := RX5) (T := TX5) (N := 12) hx hb hts in_c_clear_X5 hown hK hP 0 rfl rfl 4 (by decide) (hts (.fieldLink RX5 15 "ClaimBus$Row" "tail" "LClaimBus$Chunk;") (List.mem_of_getElem? (i := 2) rfl)) (fun _ h9 => h9) rfl dX5_clear_23 ?_
  have hPc := hP.sub (ws' := [(st, .inr (8, [.ref ml, .null])), (ck, .inr (1, [.ref ce, .null]))]) [1, 2] rfl
  have hDc := hD.sub (ws' := [(st, .inr (8, [.ref ml, .null])), (ck, .inr (1, [.ref ce, .null]))]) [1, 2] (by decide +kernel) rfl
  have hKc := hK.sub (tys' := []) [] rfl
  have hFc := va_free (wc := [(st, .inr (8, [.ref ml, .null])), (ck, .inr (1, [.ref ce, .null]))]) hD hS hA [1, 2] rfl
  refine va_callv (va_runV (As := [.ref ck, .ref ck]) (rest := []) ⟨hx, hb, hml, hown, hts⟩ (c_takeBack l dC dI (st) (ml) (ck) (ce) H.size) (cwV 2 hts g_c_clear_c_takeBack_129 rfl rfl rfl (by decide +kernel) ⟨Nat.le_of_ble_eq_true rfl, Nat.le_of_ble_eq_true rfl⟩) ⟨fun a U g mk q => by obtain ⟨q0, q1, qP, qK, qD, qE⟩ := q; exact ⟨q0, q1, qP, va_K.moved (u := U) (U := U.calling g mk a) (Vm.Alike.refl U.vm) qK, qD, ev.same (u := U) (U := U.calling g mk a) rfl qE⟩, va_recv hKc hPc (ci := 8) (q0 := 0) rfl rfl, fun U hU hW => ⟨rfl, by rw [hU], by rw [hU]; exact hPc, va_K.moved hW.alike hKc, hDc.weaken (fun _ _ _ _ => trivial), hE.warm hW⟩⟩ rfl rfl hl.1 rfl (lv_room (Nat.le_of_ble_eq_true rfl)) dX5_clear_26 ⟨Nat.le_of_ble_eq_true rfl, Nat.le_of_ble_eq_true rfl⟩) hS (fun q _ h => hFc q h) hFc (fun u t H1 locs ht hvm hw hB hz1 hk1 hS => ?_)
  clear hPc hDc hKc
  obtain ⟨hP1, hK1, hD1⟩ := hB
  rw [ht] at hP1
  have hK1 := va_K.moved hvm.symm hK1
  obtain ⟨hP, hD⟩ := va_join (wr := [(r, .inr (6, [.int rh, .int rl, .ref st, .ref ck, .ref ck, .int 0, .int 1, .int (nI nf), .int (nI ng), .int 0, .ref rf, .int 0]))]) (w1 := [(st, .inr (8, [.ref ml, .ref ck])), (ck, .inr (1, [.ref ce, .null]))]) hP hD [1, 2] [0] rfl rfl (by decide +kernel) (by decide +kernel) hk1 hFc hP1 hD1
  generalize H1 = H at hP hS ⊢
  replace hP : va_P (dC, dI) vwCl [(r, .inr (6, [.int rh, .int rl, .ref st, .ref ck, .ref ck, .int 0, .int 1, .int (nI nf), .int (nI ng), .int 0, .ref rf, .int 0])), (st, .inr (8, [.ref ml, .ref ck])), (ck, .inr (1, [.ref ce, .null]))] H := hP
  replace hD : va_D A [(r, .inr (6, [.int rh, .int rl, .ref st, .ref ck, .ref ck, .int 0, .int 1, .int (nI nf), .int (nI ng), .int 0, .ref rf, .int 0])), (st, .inr (8, [.ref ml, .ref ck])), (ck, .inr (1, [.ref ce, .null]))] := hD
  clear hw
  refine lv_aload_n hx hb dX5_clear_29 rfl (lv_at hl 0 rfl) ?_
  refine lv_null hx hb dX5_clear_30 ?_
  refine va_put (D := (dC, dI)) (ci := 6) (v := .null) (ty := (.object "ClaimBus$Chunk")) (C := RX5) (T := TX5) (N := 12) hx hb hts in_c_clear_X5 tyX5 tyX5_ok nmX5 hown hK hP hD hS 0 rfl rfl 3 (by decide) (hts (.fieldLink RX5 9 "ClaimBus$Row" "head" "LClaimBus$Chunk;") (List.mem_of_getElem? (i := 1) rfl)) (fun _ h9 => h9) rfl (by decide +kernel) rfl rfl (Nat.le_of_ble_eq_true rfl) dX5_clear_31 (fun H locs hP hD hS => ?_)
  replace hP : va_P (dC, dI) vwCl [(r, .inr (6, [.int rh, .int rl, .ref st, .null, .ref ck, .int 0, .int 1, .int (nI nf), .int (nI ng), .int 0, .ref rf, .int 0])), (st, .inr (8, [.ref ml, .ref ck])), (ck, .inr (1, [.ref ce, .null]))] H := hP
  replace hD : va_D A [(r, .inr (6, [.int rh, .int rl, .ref st, .null, .ref ck, .int 0, .int 1, .int (nI nf), .int (nI ng), .int 0, .ref rf, .int 0])), (st, .inr (8, [.ref ml, .ref ck])), (ck, .inr (1, [.ref ce, .null]))] := hD
  refine lv_aload_n hx hb dX5_clear_34 rfl (lv_at hl 0 rfl) ?_
  refine lv_null hx hb dX5_clear_35 ?_
  refine va_put (D := (dC, dI)) (ci := 6) (v := .null) (ty := (.object "ClaimBus$Chunk")) (C := RX5) (T := TX5) (N := 12) hx hb hts in_c_clear_X5 tyX5 tyX5_ok nmX5 hown hK hP hD hS 0 rfl rfl 4 (by decide) (hts (.fieldLink RX5 15 "ClaimBus$Row" "tail" "LClaimBus$Chunk;") (List.mem_of_getElem? (i := 2) rfl)) (fun _ h9 => h9) rfl (by decide +kernel) rfl rfl (Nat.le_of_ble_eq_true rfl) dX5_clear_36 (fun H locs hP hD hS => ?_)
  replace hP : va_P (dC, dI) vwCl [(r, .inr (6, [.int rh, .int rl, .ref st, .null, .null, .int 0, .int 1, .int (nI nf), .int (nI ng), .int 0, .ref rf, .int 0])), (st, .inr (8, [.ref ml, .ref ck])), (ck, .inr (1, [.ref ce, .null]))] H := hP
  replace hD : va_D A [(r, .inr (6, [.int rh, .int rl, .ref st, .null, .null, .int 0, .int 1, .int (nI nf), .int (nI ng), .int 0, .ref rf, .int 0])), (st, .inr (8, [.ref ml, .ref ck])), (ck, .inr (1, [.ref ce, .null]))] := hD
  refine lv_aload_n hx hb dX5_clear_39 rfl (lv_at hl 0 rfl) ?_
  refine lv_iconst (v := 0) hx hb dX5_clear_40 (by decide) ?_
  refine va_put (D := (dC, dI)) (ci := 6) (v := .int 0) (ty := .int) (C := RX5) (T := TX5) (N := 12) hx hb hts in_c_clear_X5 tyX5 tyX5_ok nmX5 hown hK hP hD hS 0 rfl rfl 7 (by decide) (hts (.fieldLink RX5 25 "ClaimBus$Row" "frames" "I") (List.mem_of_getElem? (i := 8) rfl)) (fun _ h9 => h9) rfl (by decide +kernel) rfl rfl (Nat.le_of_ble_eq_true rfl) dX5_clear_41 (fun H locs hP hD hS => ?_)
  replace hP : va_P (dC, dI) vwCl [(r, .inr (6, [.int rh, .int rl, .ref st, .null, .null, .int 0, .int 1, .int 0, .int (nI ng), .int 0, .ref rf, .int 0])), (st, .inr (8, [.ref ml, .ref ck])), (ck, .inr (1, [.ref ce, .null]))] H := hP
  replace hD : va_D A [(r, .inr (6, [.int rh, .int rl, .ref st, .null, .null, .int 0, .int 1, .int 0, .int (nI ng), .int 0, .ref rf, .int 0])), (st, .inr (8, [.ref ml, .ref ck])), (ck, .inr (1, [.ref ce, .null]))] := hD
  refine lv_aload_n hx hb dX5_clear_44 rfl (lv_at hl 0 rfl) ?_
  refine lv_iconst (v := 0) hx hb dX5_clear_45 (by decide) ?_
  refine va_put (D := (dC, dI)) (ci := 6) (v := .int 0) (ty := .int) (C := RX5) (T := TX5) (N := 12) hx hb hts in_c_clear_X5 tyX5 tyX5_ok nmX5 hown hK hP hD hS 0 rfl rfl 8 (by decide) (hts (.fieldLink RX5 28 "ClaimBus$Row" "gone" "I") (List.mem_of_getElem? (i := 9) rfl)) (fun _ h9 => h9) rfl (by decide +kernel) rfl rfl (Nat.le_of_ble_eq_true rfl) dX5_clear_46 (fun H locs hP hD hS => ?_)
  replace hP : va_P (dC, dI) vwCl [(r, .inr (6, [.int rh, .int rl, .ref st, .null, .null, .int 0, .int 1, .int 0, .int 0, .int 0, .ref rf, .int 0])), (st, .inr (8, [.ref ml, .ref ck])), (ck, .inr (1, [.ref ce, .null]))] H := hP
  replace hD : va_D A [(r, .inr (6, [.int rh, .int rl, .ref st, .null, .null, .int 0, .int 1, .int 0, .int 0, .int 0, .ref rf, .int 0])), (st, .inr (8, [.ref ml, .ref ck])), (ck, .inr (1, [.ref ce, .null]))] := hD
  refine lv_aload_n hx hb dX5_clear_49 rfl (lv_at hl 0 rfl) ?_
  refine lv_iconst (v := 0) hx hb dX5_clear_50 (by decide) ?_
  refine va_put (D := (dC, dI)) (ci := 6) (v := .int 0) (ty := .boolean) (C := RX5) (T := TX5) (N := 12) hx hb hts in_c_clear_X5 tyX5 tyX5_ok nmX5 hown hK hP hD hS 0 rfl rfl 9 (by decide) (hts (.fieldLink RX5 31 "ClaimBus$Row" "claimWaits" "Z") (List.mem_of_getElem? (i := 10) rfl)) (fun _ h9 => h9) rfl (by decide +kernel) rfl rfl (Nat.le_of_ble_eq_true rfl) dX5_clear_51 (fun H locs hP hD hS => ?_)
  replace hP : va_P (dC, dI) vwCl [(r, .inr (6, [.int rh, .int rl, .ref st, .null, .null, .int 0, .int 1, .int 0, .int 0, .int 0, .ref rf, .int 0])), (st, .inr (8, [.ref ml, .ref ck])), (ck, .inr (1, [.ref ce, .null]))] H := hP
  replace hD : va_D A [(r, .inr (6, [.int rh, .int rl, .ref st, .null, .null, .int 0, .int 1, .int 0, .int 0, .int 0, .ref rf, .int 0])), (st, .inr (8, [.ref ml, .ref ck])), (ck, .inr (1, [.ref ce, .null]))] := hD
  refine lv_aload_n hx hb dX5_clear_54 rfl (lv_at hl 0 rfl) ?_
  refine lv_iconst (v := 0) hx hb dX5_clear_55 (by decide) ?_
  refine va_put (D := (dC, dI)) (ci := 6) (v := .int 0) (ty := .boolean) (C := RX5) (T := TX5) (N := 12) hx hb hts in_c_clear_X5 tyX5 tyX5_ok nmX5 hown hK hP hD hS 0 rfl rfl 11 (by decide) (hts (.fieldLink RX5 42 "ClaimBus$Row" "firstIsWritten" "Z") (List.mem_of_getElem? (i := 11) rfl)) (fun _ h9 => h9) rfl (by decide +kernel) rfl rfl (Nat.le_of_ble_eq_true rfl) dX5_clear_56 (fun H locs hP hD hS => ?_)
  replace hP : va_P (dC, dI) vwCl [(r, .inr (6, [.int rh, .int rl, .ref st, .null, .null, .int 0, .int 1, .int 0, .int 0, .int 0, .ref rf, .int 0])), (st, .inr (8, [.ref ml, .ref ck])), (ck, .inr (1, [.ref ce, .null]))] H := hP
  replace hD : va_D A [(r, .inr (6, [.int rh, .int rl, .ref st, .null, .null, .int 0, .int 1, .int 0, .int 0, .int 0, .ref rf, .int 0])), (st, .inr (8, [.ref ml, .ref ck])), (ck, .inr (1, [.ref ce, .null]))] := hD
  have hP9 := hP.sub (ws' := [(r, .inr (6, [.int rh, .int rl, .ref st, .null, .null, .int 0, .int 1, .int 0, .int 0, .int 0, .ref rf, .int 0])), (st, .inr (8, [.ref ml, .ref ck])), (ck, .inr (1, [.ref ce, .null]))]) [0, 1, 2] rfl
  have hD9 := hD.sub (ws' := [(r, .inr (6, [.int rh, .int rl, .ref st, .null, .null, .int 0, .int 1, .int 0, .int 0, .int 0, .ref rf, .int 0])), (st, .inr (8, [.ref ml, .ref ck])), (ck, .inr (1, [.ref ce, .null]))]) [0, 1, 2] (by decide +kernel) rfl
  have hK9 := hK.sub (tys' := []) [] rfl
  exact W.vret hx hb hr (fun t ht hW => ⟨⟨(), rfl, trivial, ⟨by rw [ht]; exact hP9, va_K.moved hW.alike hK9, hD9⟩⟩, hS.F ht⟩) hS.2.2 dX5_clear_59

noncomputable def tl_c_removeFirst_1 : List Cond := wsX50 ++ (v_c_clear)
noncomputable def v_c_removeFirst_1 : List Cond := .code yX5_removeFirst cX5_removeFirst 1 none :: ([.fieldLink RX5 42 "ClaimBus$Row" "firstIsWritten" "Z", .fieldLink RX5 31 "ClaimBus$Row" "claimWaits" "Z", .fieldLink RX5 25 "ClaimBus$Row" "frames" "I", .initialized RX5, .methodLink RX5 123 yX5_clear, .instanceMethod yX5_clear, .selects RX5 yX5_clear yX5_clear] ++ tl_c_removeFirst_1)
theorem it_c_removeFirst_1 : ∀ w ∈ tl_c_removeFirst_1, w ∈ v_c_removeFirst_1 := fun w h => List.mem_cons_of_mem _ (List.mem_append_right _ h)
theorem in_c_removeFirst_1_X5 : ∀ w ∈ wsX50, w ∈ v_c_removeFirst_1 := fun w h => it_c_removeFirst_1 w (List.mem_append_left _ h)
theorem ic_c_removeFirst_1_c_clear : ∀ w ∈ v_c_clear, w ∈ v_c_removeFirst_1 := fun w h => it_c_removeFirst_1 w (List.mem_append_right _ (h))
theorem gt_c_removeFirst_1 : ∀ w ∈ tl_c_removeFirst_1, goodWord w = true := List.forall_mem_append.mpr ⟨gw_wsX50, gw_c_clear⟩
theorem gw_c_removeFirst_1 : ∀ w ∈ v_c_removeFirst_1, goodWord w = true := List.forall_mem_cons.mpr ⟨by decide +kernel, List.forall_mem_append.mpr ⟨List.all_eq_true.mp (by decide +kernel), gt_c_removeFirst_1⟩⟩
theorem g_c_removeFirst_1_c_clear_123 : GoodIn v_c_removeFirst_1 (wsV RX5 123 RX5 yX5_clear v_c_clear) := goodIn_app (goodIn_r [.methodLink RX5 123 yX5_clear, .instanceMethod yX5_clear, .selects RX5 yX5_clear yX5_clear, .initialized RX5] [5, 6, 7, 4] (by decide +kernel) (by decide +kernel)) (fun w h => ⟨ic_c_removeFirst_1_c_clear w h, good_of_word (gw_c_clear w h)⟩)
set_option maxHeartbeats 4000000 in
set_option maxRecDepth 100000 in
theorem c_removeFirst_1 (l : Launch) (dC : Nat → ClassId) (dI : Nat → Nat → Nat) (r : Nat) (rh : Int32) (rl : Int32) (st : Nat) (rf : Nat) (ng : Nat) (ml : Nat) (ck : Nat) (ce : Nat) (sz : Nat)  : Met l yX5_removeFirst v_c_removeFirst_1 ({ frames := 2, cells := 0, slots := 0, locals := 42 }) (va_Pc [.ref r] (fun U => U.heap.size = sz ∧ va_P (dC, dI) vwCl [(r, .inr (6, [.int rh, .int rl, .ref st, .ref ck, .ref ck, .int 0, .int 1, .int 1, .int (nI ng), .int 0, .ref rf, .int 1])), (st, .inr (8, [.ref ml, .null])), (ck, .inr (1, [.ref ce, .null]))] U.heap ∧ va_K (dC, dI) vwCl [] U ∧ va_D (fun _ => True) [(r, .inr (6, [.int rh, .int rl, .ref st, .ref ck, .ref ck, .int 0, .int 1, .int 1, .int (nI ng), .int 0, .ref rf, .int 1])), (st, .inr (8, [.ref ml, .null])), (ck, .inr (1, [.ref ce, .null]))] ∧ ev U)) (va_Qv (fun _ : Unit => True) (fun (_ : Unit) (t : State) => va_P (dC, dI) vwCl [(r, .inr (6, [.int rh, .int rl, .ref st, .null, .null, .int 0, .int 1, .int 0, .int 0, .int 0, .ref rf, .int 0])), (st, .inr (8, [.ref ml, .ref ck])), (ck, .inr (1, [.ref ce, .null]))] t.heap ∧ va_K (dC, dI) vwCl [] t ∧ va_D (va_A [(r, .inr (6, [.int rh, .int rl, .ref st, .ref ck, .ref ck, .int 0, .int 1, .int 1, .int (nI ng), .int 0, .ref rf, .int 1])), (st, .inr (8, [.ref ml, .null])), (ck, .inr (1, [.ref ce, .null]))] sz) [(r, .inr (6, [.int rh, .int rl, .ref st, .null, .null, .int 0, .int 1, .int 0, .int 0, .int 0, .ref rf, .int 0])), (st, .inr (8, [.ref ml, .ref ck])), (ck, .inr (1, [.ref ce, .null]))]) (va_A [(r, .inr (6, [.int rh, .int rl, .ref st, .ref ck, .ref ck, .int 0, .int 1, .int 1, .int (nI ng), .int 0, .ref rf, .int 1])), (st, .inr (8, [.ref ml, .null])), (ck, .inr (1, [.ref ce, .null]))] sz)) 0 0 (va_A [(r, .inr (6, [.int rh, .int rl, .ref st, .ref ck, .ref ck, .int 0, .int 1, .int 1, .int (nI ng), .int 0, .ref rf, .int 1])), (st, .inr (8, [.ref ml, .null])), (ck, .inr (1, [.ref ce, .null]))] sz) := by
  refine Met.ofW (cc := cX5_removeFirst) (maxL := 1) (ret := none) (by decide) rfl ?_
  intro p e s m args below meth c s₁ B hml hv
  obtain ⟨rfl, hsz, hP, hK, hD0, hE⟩ := hv
  have hx := B.exec
  have hb := B.bytes
  have hr := B.returns
  have hts := atoms_spec (ws := v_c_removeFirst_1) B.pre
  have hown : s.vm.findClass RX5 = some m.cls := findClass_of_methodNamed B.named
  have hlocks := B.notSynchronized
  subst hsz
  have hD := hD0.self (sz := s.heap.size)
  generalize hAe : va_A [(r, .inr (6, [.int rh, .int rl, .ref st, .ref ck, .ref ck, .int 0, .int 1, .int 1, .int (nI ng), .int 0, .ref rf, .int 1])), (st, .inr (8, [.ref ml, .null])), (ck, .inr (1, [.ref ce, .null]))] s.heap.size = A at hD ⊢
  have hA : ∀ q : Nat, s.heap.size ≤ q → A q := fun q h => by rw [← hAe]; exact Or.inr h
  have hS : va_S A s.heap s.heap [] := va_S.rf
  replace hP : va_P (dC, dI) vwCl [(r, .inr (6, [.int rh, .int rl, .ref st, .ref ck, .ref ck, .int 0, .int 1, .int 1, .int (nI ng), .int 0, .ref rf, .int 1])), (st, .inr (8, [.ref ml, .null])), (ck, .inr (1, [.ref ce, .null]))] s.heap := hP
  have hl := lv_entry ([.ref r]) (n := 1) (Nat.le_of_ble_eq_true rfl)
  rw [lg_entry_eq]
  generalize (lg_sl ([.ref r]) ++ List.replicate (1 - (lg_sl ([.ref r])).length) Slot.unset).toArray = ls at hl ⊢
  replace hl : lv_has ls 1 [(0, .ref r)] := hl
  obtain ⟨H, hH⟩ : ∃ z : Heap, z = s.heap := ⟨_, rfl⟩
  rw [← hH]
  replace hS : va_S A s.heap H [] := by rw [hH]; exact va_S.rf
  replace hP : va_P (dC, dI) vwCl [(r, .inr (6, [.int rh, .int rl, .ref st, .ref ck, .ref ck, .int 0, .int 1, .int 1, .int (nI ng), .int 0, .ref rf, .int 1])), (st, .inr (8, [.ref ml, .null])), (ck, .inr (1, [.ref ce, .null]))] H := by rw [hH]; exact hP
  clear hH
  refine lv_aload_n hx hb dX5_removeFirst_0 rfl (lv_at hl 0 rfl) ?_
  refine lv_iconst (v := 0) hx hb dX5_removeFirst_1 (by decide) ?_
  refine va_put (D := (dC, dI)) (ci := 6) (v := .int 0) (ty := .boolean) (C := RX5) (T := TX5) (N := 12) hx hb hts in_c_removeFirst_1_X5 tyX5 tyX5_ok nmX5 hown hK hP hD hS 0 rfl rfl 11 (by decide) (hts (.fieldLink RX5 42 "ClaimBus$Row" "firstIsWritten" "Z") (List.mem_of_getElem? (i := 1) rfl)) (fun _ h9 => h9) rfl (by decide +kernel) rfl rfl (Nat.le_of_ble_eq_true rfl) dX5_removeFirst_2 (fun H locs hP hD hS => ?_)
  replace hP : va_P (dC, dI) vwCl [(r, .inr (6, [.int rh, .int rl, .ref st, .ref ck, .ref ck, .int 0, .int 1, .int 1, .int (nI ng), .int 0, .ref rf, .int 0])), (st, .inr (8, [.ref ml, .null])), (ck, .inr (1, [.ref ce, .null]))] H := hP
  replace hD : va_D A [(r, .inr (6, [.int rh, .int rl, .ref st, .ref ck, .ref ck, .int 0, .int 1, .int 1, .int (nI ng), .int 0, .ref rf, .int 0])), (st, .inr (8, [.ref ml, .null])), (ck, .inr (1, [.ref ce, .null]))] := hD
  refine lv_aload_n hx hb dX5_removeFirst_5 rfl (lv_at hl 0 rfl) ?_
  refine va_get (D := (dC, dI)) (ci := 6) (v := .int 0) (C := RX5) (T := TX5) (N := 12) hx hb hts in_c_removeFirst_1_X5 hown hK hP 0 rfl rfl 9 (by decide) (hts (.fieldLink RX5 31 "ClaimBus$Row" "claimWaits" "Z") (List.mem_of_getElem? (i := 2) rfl)) (fun _ h9 => h9) rfl dX5_removeFirst_6 ?_
  refine lv_if_eq (tgt := 20) hx hb dX5_removeFirst_9 (by decide) (fun c_1 => ?_) (fun c_1 => ?_)
  rotate_left
  · exact absurd (by decide) c_1
  refine lv_aload_n hx hb dX5_removeFirst_20 rfl (lv_at hl 0 rfl) ?_
  refine va_get (D := (dC, dI)) (ci := 6) (v := .int 1) (C := RX5) (T := TX5) (N := 12) hx hb hts in_c_removeFirst_1_X5 hown hK hP 0 rfl rfl 7 (by decide) (hts (.fieldLink RX5 25 "ClaimBus$Row" "frames" "I") (List.mem_of_getElem? (i := 3) rfl)) (fun _ h9 => h9) rfl dX5_removeFirst_21 ?_
  refine lv_iconst (v := 1) hx hb dX5_removeFirst_24 (by decide) ?_
  refine lv_icmp_ne (tgt := 35) hx hb dX5_removeFirst_25 (by decide) (fun c_2 => ?_) (fun c_2 => ?_)
  · exact absurd c_2 (by decide)
  refine lv_aload_n hx hb dX5_removeFirst_28 rfl (lv_at hl 0 rfl) ?_
  have hPc := hP.sub (ws' := [(r, .inr (6, [.int rh, .int rl, .ref st, .ref ck, .ref ck, .int 0, .int 1, .int (nI 1), .int (nI ng), .int 0, .ref rf, .int 0])), (st, .inr (8, [.ref ml, .null])), (ck, .inr (1, [.ref ce, .null]))]) [0, 1, 2] rfl
  have hDc := hD.sub (ws' := [(r, .inr (6, [.int rh, .int rl, .ref st, .ref ck, .ref ck, .int 0, .int 1, .int (nI 1), .int (nI ng), .int 0, .ref rf, .int 0])), (st, .inr (8, [.ref ml, .null])), (ck, .inr (1, [.ref ce, .null]))]) [0, 1, 2] (by decide +kernel) rfl
  have hKc := hK.sub (tys' := []) [] rfl
  have hFc := va_free (wc := [(r, .inr (6, [.int rh, .int rl, .ref st, .ref ck, .ref ck, .int 0, .int 1, .int (nI 1), .int (nI ng), .int 0, .ref rf, .int 0])), (st, .inr (8, [.ref ml, .null])), (ck, .inr (1, [.ref ce, .null]))]) hD hS hA [0, 1, 2] rfl
  refine va_callv (va_runV (As := []) (rest := []) ⟨hx, hb, hml, hown, hts⟩ (c_clear l dC dI (r) (rh) (rl) (st) (rf) (1) (ng) (ml) (ck) (ce) H.size) (cwV 0 hts g_c_removeFirst_1_c_clear_123 rfl rfl rfl (by decide +kernel) ⟨Nat.le_of_ble_eq_true rfl, Nat.le_of_ble_eq_true rfl⟩) ⟨fun a U g mk q => by obtain ⟨q0, q1, qP, qK, qD, qE⟩ := q; exact ⟨q0, q1, qP, va_K.moved (u := U) (U := U.calling g mk a) (Vm.Alike.refl U.vm) qK, qD, ev.same (u := U) (U := U.calling g mk a) rfl qE⟩, va_recv hKc hPc (ci := 6) (q0 := 0) rfl rfl, fun U hU hW => ⟨rfl, by rw [hU], by rw [hU]; exact hPc, va_K.moved hW.alike hKc, hDc.weaken (fun _ _ _ _ => trivial), hE.warm hW⟩⟩ rfl rfl hl.1 rfl (lv_room (Nat.le_of_ble_eq_true rfl)) dX5_removeFirst_29 ⟨Nat.le_of_ble_eq_true rfl, Nat.le_of_ble_eq_true rfl⟩) hS (fun q _ h => hFc q h) hFc (fun u t H1 locs ht hvm hw hB hz1 hk1 hS => ?_)
  clear hPc hDc hKc
  obtain ⟨hP1, hK1, hD1⟩ := hB
  rw [ht] at hP1
  have hK1 := va_K.moved hvm.symm hK1
  obtain ⟨hP, hD⟩ := va_join (wr := []) (w1 := [(r, .inr (6, [.int rh, .int rl, .ref st, .null, .null, .int 0, .int 1, .int 0, .int 0, .int 0, .ref rf, .int 0])), (st, .inr (8, [.ref ml, .ref ck])), (ck, .inr (1, [.ref ce, .null]))]) hP hD [0, 1, 2] [] rfl rfl (by decide +kernel) (by decide +kernel) hk1 hFc hP1 hD1
  generalize H1 = H at hP hS ⊢
  replace hP : va_P (dC, dI) vwCl [(r, .inr (6, [.int rh, .int rl, .ref st, .null, .null, .int 0, .int 1, .int 0, .int 0, .int 0, .ref rf, .int 0])), (st, .inr (8, [.ref ml, .ref ck])), (ck, .inr (1, [.ref ce, .null]))] H := hP
  replace hD : va_D A [(r, .inr (6, [.int rh, .int rl, .ref st, .null, .null, .int 0, .int 1, .int 0, .int 0, .int 0, .ref rf, .int 0])), (st, .inr (8, [.ref ml, .ref ck])), (ck, .inr (1, [.ref ce, .null]))] := hD
  clear hw
  refine lv_goto (tgt := 57) hx hb dX5_removeFirst_32 (by decide) ?_
  have hP9 := hP.sub (ws' := [(r, .inr (6, [.int rh, .int rl, .ref st, .null, .null, .int 0, .int 1, .int 0, .int 0, .int 0, .ref rf, .int 0])), (st, .inr (8, [.ref ml, .ref ck])), (ck, .inr (1, [.ref ce, .null]))]) [0, 1, 2] rfl
  have hD9 := hD.sub (ws' := [(r, .inr (6, [.int rh, .int rl, .ref st, .null, .null, .int 0, .int 1, .int 0, .int 0, .int 0, .ref rf, .int 0])), (st, .inr (8, [.ref ml, .ref ck])), (ck, .inr (1, [.ref ce, .null]))]) [0, 1, 2] (by decide +kernel) rfl
  have hK9 := hK.sub (tys' := []) [] rfl
  exact W.vret hx hb hr (fun t ht hW => ⟨⟨(), rfl, trivial, ⟨by rw [ht]; exact hP9, va_K.moved hW.alike hK9, hD9⟩⟩, hS.F ht⟩) hS.2.2 dX5_removeFirst_57

noncomputable def tl_c_removeFE : List Cond := wsX50 ++ (v_c_firstEntry)
noncomputable def v_c_removeFE : List Cond := .code yX5_removeFromFirstEntry cX5_removeFromFirstEntry 4 none :: ([.initialized RX5, .methodLink RX5 95 yX5_firstEntry, .instanceMethod yX5_firstEntry, .selects RX5 yX5_firstEntry yX5_firstEntry, .fieldLink RX5 28 "ClaimBus$Row" "gone" "I"] ++ tl_c_removeFE)
theorem it_c_removeFE : ∀ w ∈ tl_c_removeFE, w ∈ v_c_removeFE := fun w h => List.mem_cons_of_mem _ (List.mem_append_right _ h)
theorem in_c_removeFE_X5 : ∀ w ∈ wsX50, w ∈ v_c_removeFE := fun w h => it_c_removeFE w (List.mem_append_left _ h)
theorem ic_c_removeFE_c_firstEntry : ∀ w ∈ v_c_firstEntry, w ∈ v_c_removeFE := fun w h => it_c_removeFE w (List.mem_append_right _ (h))
theorem gt_c_removeFE : ∀ w ∈ tl_c_removeFE, goodWord w = true := List.forall_mem_append.mpr ⟨gw_wsX50, gw_c_firstEntry⟩
theorem gw_c_removeFE : ∀ w ∈ v_c_removeFE, goodWord w = true := List.forall_mem_cons.mpr ⟨by decide +kernel, List.forall_mem_append.mpr ⟨List.all_eq_true.mp (by decide +kernel), gt_c_removeFE⟩⟩
theorem g_c_removeFE_c_firstEntry_95 : GoodIn v_c_removeFE (wsV RX5 95 RX5 yX5_firstEntry v_c_firstEntry) := goodIn_app (goodIn_r [.methodLink RX5 95 yX5_firstEntry, .instanceMethod yX5_firstEntry, .selects RX5 yX5_firstEntry yX5_firstEntry, .initialized RX5] [2, 3, 4, 1] (by decide +kernel) (by decide +kernel)) (fun w h => ⟨ic_c_removeFE_c_firstEntry w h, good_of_word (gw_c_firstEntry w h)⟩)
set_option maxHeartbeats 4000000 in
set_option maxRecDepth 100000 in
theorem c_removeFE (l : Launch) (dC : Nat → ClassId) (dI : Nat → Nat → Nat) (r : Nat) (rh : Int32) (rl : Int32) (st : Nat) (rf : Nat) (nf : Nat) (ng : Nat) (ck : Nat) (ce : Nat) (cJ : ClassId) (fE : Nat → Int64) (to : Nat) (se : Nat) (th : Nat) (sz : Nat) (hnf : 1 ≤ nf) (hnf2 : nf < 300) (hng : ng < 300) (h_to : to < 256) (h_se : se < 256) (h_th : th < 256) (hlo : (fE 0).toInt32 = (nI (16777216 * to + 65536 * 235 + 256 * se + th))) (hg : ng + 1 < se) : Met l yX5_removeFromFirstEntry v_c_removeFE ({ frames := 1, cells := 0, slots := 0, locals := 21 }) (va_Pc [.ref r] (fun U => U.heap.size = sz ∧ va_P (dC, dI) vwCl [(r, .inr (6, [.int rh, .int rl, .ref st, .ref ck, .ref ck, .int 0, .int 1, .int (nI nf), .int (nI ng), .int 0, .ref rf, .int 0])), (ck, .inr (1, [.ref ce, .null])), (ce, .inl (cJ, 128, .inr (.inl fE)))] U.heap ∧ va_K (dC, dI) vwCl [(cJ, .long)] U ∧ va_D (fun _ => True) [(r, .inr (6, [.int rh, .int rl, .ref st, .ref ck, .ref ck, .int 0, .int 1, .int (nI nf), .int (nI ng), .int 0, .ref rf, .int 0])), (ck, .inr (1, [.ref ce, .null])), (ce, .inl (cJ, 128, .inr (.inl fE)))] ∧ ev U)) (va_Qv (fun _ : Unit => True) (fun (_ : Unit) (t : State) => va_P (dC, dI) vwCl [(r, .inr (6, [.int rh, .int rl, .ref st, .ref ck, .ref ck, .int 0, .int 1, .int (nI nf), .int (nI (ng + 1)), .int 0, .ref rf, .int 0])), (ck, .inr (1, [.ref ce, .null])), (ce, .inl (cJ, 128, .inr (.inl fE)))] t.heap ∧ va_K (dC, dI) vwCl [(cJ, .long)] t ∧ va_D (va_A [(r, .inr (6, [.int rh, .int rl, .ref st, .ref ck, .ref ck, .int 0, .int 1, .int (nI nf), .int (nI ng), .int 0, .ref rf, .int 0])), (ck, .inr (1, [.ref ce, .null])), (ce, .inl (cJ, 128, .inr (.inl fE)))] sz) [(r, .inr (6, [.int rh, .int rl, .ref st, .ref ck, .ref ck, .int 0, .int 1, .int (nI nf), .int (nI (ng + 1)), .int 0, .ref rf, .int 0])), (ck, .inr (1, [.ref ce, .null])), (ce, .inl (cJ, 128, .inr (.inl fE)))]) (va_A [(r, .inr (6, [.int rh, .int rl, .ref st, .ref ck, .ref ck, .int 0, .int 1, .int (nI nf), .int (nI ng), .int 0, .ref rf, .int 0])), (ck, .inr (1, [.ref ce, .null])), (ce, .inl (cJ, 128, .inr (.inl fE)))] sz)) 0 0 (va_A [(r, .inr (6, [.int rh, .int rl, .ref st, .ref ck, .ref ck, .int 0, .int 1, .int (nI nf), .int (nI ng), .int 0, .ref rf, .int 0])), (ck, .inr (1, [.ref ce, .null])), (ce, .inl (cJ, 128, .inr (.inl fE)))] sz) := by
  refine Met.ofW (cc := cX5_removeFromFirstEntry) (maxL := 4) (ret := none) (by decide) rfl ?_
  intro p e s m args below meth c s₁ B hml hv
  obtain ⟨rfl, hsz, hP, hK, hD0, hE⟩ := hv
  have hx := B.exec
  have hb := B.bytes
  have hr := B.returns
  have hts := atoms_spec (ws := v_c_removeFE) B.pre
  have hown : s.vm.findClass RX5 = some m.cls := findClass_of_methodNamed B.named
  have hlocks := B.notSynchronized
  subst hsz
  have hD := hD0.self (sz := s.heap.size)
  generalize hAe : va_A [(r, .inr (6, [.int rh, .int rl, .ref st, .ref ck, .ref ck, .int 0, .int 1, .int (nI nf), .int (nI ng), .int 0, .ref rf, .int 0])), (ck, .inr (1, [.ref ce, .null])), (ce, .inl (cJ, 128, .inr (.inl fE)))] s.heap.size = A at hD ⊢
  have hA : ∀ q : Nat, s.heap.size ≤ q → A q := fun q h => by rw [← hAe]; exact Or.inr h
  have hS : va_S A s.heap s.heap [] := va_S.rf
  replace hP : va_P (dC, dI) vwCl [(r, .inr (6, [.int rh, .int rl, .ref st, .ref ck, .ref ck, .int 0, .int 1, .int (nI nf), .int (nI ng), .int 0, .ref rf, .int 0])), (ck, .inr (1, [.ref ce, .null])), (ce, .inl (cJ, 128, .inr (.inl fE)))] s.heap := hP
  have hl := lv_entry ([.ref r]) (n := 4) (Nat.le_of_ble_eq_true rfl)
  rw [lg_entry_eq]
  generalize (lg_sl ([.ref r]) ++ List.replicate (4 - (lg_sl ([.ref r])).length) Slot.unset).toArray = ls at hl ⊢
  replace hl : lv_has ls 4 [(0, .ref r)] := hl
  obtain ⟨H, hH⟩ : ∃ z : Heap, z = s.heap := ⟨_, rfl⟩
  rw [← hH]
  replace hS : va_S A s.heap H [] := by rw [hH]; exact va_S.rf
  replace hP : va_P (dC, dI) vwCl [(r, .inr (6, [.int rh, .int rl, .ref st, .ref ck, .ref ck, .int 0, .int 1, .int (nI nf), .int (nI ng), .int 0, .ref rf, .int 0])), (ck, .inr (1, [.ref ce, .null])), (ce, .inl (cJ, 128, .inr (.inl fE)))] H := by rw [hH]; exact hP
  clear hH
  refine lv_aload_n hx hb dX5_removeFromFirstEntry_0 rfl (lv_at hl 0 rfl) ?_
  have hPc := hP.sub (ws' := [(r, .inr (6, [.int rh, .int rl, .ref st, .ref ck, .ref ck, .int 0, .int 1, .int (nI nf), .int (nI ng), .int 0, .ref rf, .int 0])), (ck, .inr (1, [.ref ce, .null])), (ce, .inl (cJ, 128, .inr (.inl fE)))]) [0, 1, 2] rfl
  have hDc := hD.sub (ws' := [(r, .inr (6, [.int rh, .int rl, .ref st, .ref ck, .ref ck, .int 0, .int 1, .int (nI nf), .int (nI ng), .int 0, .ref rf, .int 0])), (ck, .inr (1, [.ref ce, .null])), (ce, .inl (cJ, 128, .inr (.inl fE)))]) [0, 1, 2] (by decide +kernel) rfl
  have hKc := hK.sub (tys' := [(cJ, .long)]) [0] rfl
  have hFc := ro_free hS hA
  refine va_calll (va_runV (As := []) (rest := []) ⟨hx, hb, hml, hown, hts⟩ (c_firstEntry l dC dI (r) (rh) (rl) (st) (rf) (nf) (ng) (ck) (ce) (cJ) (fE) H.size) (cwV 0 hts g_c_removeFE_c_firstEntry_95 rfl rfl rfl (by decide +kernel) ⟨Nat.le_of_ble_eq_true rfl, Nat.le_of_ble_eq_true rfl⟩) ⟨fun a U g mk q => by obtain ⟨q0, q1, qP, qK, qD, qE⟩ := q; exact ⟨q0, q1, qP, va_K.moved (u := U) (U := U.calling g mk a) (Vm.Alike.refl U.vm) qK, qD, ev.same (u := U) (U := U.calling g mk a) rfl qE⟩, va_recv hKc hPc (ci := 6) (q0 := 0) rfl rfl, fun U hU hW => ⟨rfl, by rw [hU], by rw [hU]; exact hPc, va_K.moved hW.alike hKc, hDc.weaken (fun _ _ _ _ => trivial), hE.warm hW⟩⟩ rfl rfl hl.1 rfl (lv_room (Nat.le_of_ble_eq_true rfl)) dX5_removeFromFirstEntry_1 ⟨Nat.le_of_ble_eq_true rfl, Nat.le_of_ble_eq_true rfl⟩) hS (fun q _ h => hFc q h) hFc (fun r_1 u t H1 locs ht hvm hw hB hz1 hk1 hS => ?_)
  clear hPc hDc hKc
  replace hP := ro_keep hP hk1
  generalize H1 = H at hP hS ⊢
  replace hP : va_P (dC, dI) vwCl [(r, .inr (6, [.int rh, .int rl, .ref st, .ref ck, .ref ck, .int 0, .int 1, .int (nI nf), .int (nI ng), .int 0, .ref rf, .int 0])), (ck, .inr (1, [.ref ce, .null])), (ce, .inl (cJ, 128, .inr (.inl fE)))] H := hP
  have hw := hw.symm
  subst hw
  refine lv_l2i hx hb dX5_removeFromFirstEntry_4 rfl ?_
  rw [hlo]
  refine lv_istore_n (lv' := [(1, .int (nI (16777216 * to + 65536 * 235 + 256 * se + th))), (0, .ref r)]) hx hb dX5_removeFromFirstEntry_5 rfl hl (by decide) rfl (fun ls hl => ?_)
  refine lv_iload_n hx hb dX5_removeFromFirstEntry_6 rfl (lv_at hl 0 rfl) ?_
  refine lv_bipush (v := 16) hx hb dX5_removeFromFirstEntry_7 (by decide) ?_
  refine lv_iushr (v := (nI (256 * to + 235))) hx hb dX5_removeFromFirstEntry_9 ((pk_ushrN (n := (16777216 * to + 65536 * 235 + 256 * se + th)) (by omega) (16 : Int32) 16 (by decide)).trans (show nI ((16777216 * to + 65536 * 235 + 256 * se + th) / 2 ^ 16) = nI (256 * to + 235) from congrArg nI (by omega))) ?_
  refine lv_sipush (v := 255) hx hb dX5_removeFromFirstEntry_10 (by decide) ?_
  refine lv_iand hx hb dX5_removeFromFirstEntry_13 ?_
  refine lv_topi (fun x_2 ex_2 => ?_)
  obtain rfl : x_2 = 235 := ex_2.trans ((pk_andN (n := (256 * to + 235)) (m := 255) (by omega) 8 (by decide)).trans (show nI ((256 * to + 235) % 2 ^ 8) = nI (235) from congrArg nI (by omega)))
  refine lv_sipush (v := 235) hx hb dX5_removeFromFirstEntry_14 (by decide) ?_
  refine lv_icmp_ne (tgt := 24) hx hb dX5_removeFromFirstEntry_17 (by decide) (fun c_3 => ?_) (fun c_3 => ?_)
  · exact absurd c_3 (by decide)
  refine lv_iconst (v := 1) hx hb dX5_removeFromFirstEntry_20 (by decide) ?_
  refine lv_goto (tgt := 25) hx hb dX5_removeFromFirstEntry_21 (by decide) ?_
  refine lv_istore_n (lv' := [(2, .int 1), (1, .int (nI (16777216 * to + 65536 * 235 + 256 * se + th))), (0, .ref r)]) hx hb dX5_removeFromFirstEntry_25 rfl hl (by decide) rfl (fun ls hl => ?_)
  refine lv_aload_n hx hb dX5_removeFromFirstEntry_26 rfl (lv_at hl 2 rfl) ?_
  refine lv_dup hx hb dX5_removeFromFirstEntry_27 rfl ?_
  refine va_get (D := (dC, dI)) (ci := 6) (v := .int (nI ng)) (C := RX5) (T := TX5) (N := 12) hx hb hts in_c_removeFE_X5 hown hK hP 0 rfl rfl 8 (by decide) (hts (.fieldLink RX5 28 "ClaimBus$Row" "gone" "I") (List.mem_of_getElem? (i := 5) rfl)) (fun _ h9 => h9) rfl dX5_removeFromFirstEntry_28 ?_
  refine lv_iconst (v := 1) hx hb dX5_removeFromFirstEntry_31 (by decide) ?_
  refine lv_iadd hx hb dX5_removeFromFirstEntry_32 ?_
  refine lv_topi (fun x_4 ex_4 => ?_)
  obtain rfl : x_4 = (nI (ng + 1)) := ex_4.trans ((nI_add ng 1).trans (show nI (ng + 1) = nI (ng + 1) from congrArg nI (by omega)))
  refine va_put (D := (dC, dI)) (ci := 6) (v := .int (nI (ng + 1))) (ty := .int) (C := RX5) (T := TX5) (N := 12) hx hb hts in_c_removeFE_X5 tyX5 tyX5_ok nmX5 hown hK hP hD hS 0 rfl rfl 8 (by decide) (hts (.fieldLink RX5 28 "ClaimBus$Row" "gone" "I") (List.mem_of_getElem? (i := 5) rfl)) (fun _ h9 => h9) rfl (by decide +kernel) rfl rfl (Nat.le_of_ble_eq_true rfl) dX5_removeFromFirstEntry_33 (fun H locs hP hD hS => ?_)
  replace hP : va_P (dC, dI) vwCl [(r, .inr (6, [.int rh, .int rl, .ref st, .ref ck, .ref ck, .int 0, .int 1, .int (nI nf), .int (nI (ng + 1)), .int 0, .ref rf, .int 0])), (ck, .inr (1, [.ref ce, .null])), (ce, .inl (cJ, 128, .inr (.inl fE)))] H := hP
  replace hD : va_D A [(r, .inr (6, [.int rh, .int rl, .ref st, .ref ck, .ref ck, .int 0, .int 1, .int (nI nf), .int (nI (ng + 1)), .int 0, .ref rf, .int 0])), (ck, .inr (1, [.ref ce, .null])), (ce, .inl (cJ, 128, .inr (.inl fE)))] := hD
  refine lv_iload_n hx hb dX5_removeFromFirstEntry_36 rfl (lv_at hl 0 rfl) ?_
  refine lv_if_eq (tgt := 56) hx hb dX5_removeFromFirstEntry_37 (by decide) (fun c_5 => ?_) (fun c_5 => ?_)
  · exact absurd c_5 (by decide)
  refine lv_aload_n hx hb dX5_removeFromFirstEntry_40 rfl (lv_at hl 2 rfl) ?_
  refine va_get (D := (dC, dI)) (ci := 6) (v := .int (nI (ng + 1))) (C := RX5) (T := TX5) (N := 12) hx hb hts in_c_removeFE_X5 hown hK hP 0 rfl rfl 8 (by decide) (hts (.fieldLink RX5 28 "ClaimBus$Row" "gone" "I") (List.mem_of_getElem? (i := 5) rfl)) (fun _ h9 => h9) rfl dX5_removeFromFirstEntry_41 ?_
  refine lv_iload_n hx hb dX5_removeFromFirstEntry_44 rfl (lv_at hl 1 rfl) ?_
  refine lv_bipush (v := 8) hx hb dX5_removeFromFirstEntry_45 (by decide) ?_
  refine lv_iushr (v := (nI (se + 65536 * to + 60160))) hx hb dX5_removeFromFirstEntry_47 ((pk_ushrN (n := (16777216 * to + 65536 * 235 + 256 * se + th)) (by omega) (8 : Int32) 8 (by decide)).trans (show nI ((16777216 * to + 65536 * 235 + 256 * se + th) / 2 ^ 8) = nI (se + 65536 * to + 60160) from congrArg nI (by omega))) ?_
  refine lv_sipush (v := 255) hx hb dX5_removeFromFirstEntry_48 (by decide) ?_
  refine lv_iand hx hb dX5_removeFromFirstEntry_51 ?_
  refine lv_topi (fun x_6 ex_6 => ?_)
  obtain rfl : x_6 = (nI se) := ex_6.trans ((pk_andN (n := (se + 65536 * to + 60160)) (m := 255) (by omega) 8 (by decide)).trans (show nI ((se + 65536 * to + 60160) % 2 ^ 8) = nI (se) from congrArg nI (by omega)))
  refine lv_icmp_ge (tgt := 56) hx hb dX5_removeFromFirstEntry_52 (by decide) (fun c_7 => ?_) (fun c_7 => ?_)
  · exact absurd ((nI_leI (a := se) (b := (ng + 1)) (by omega) (by omega)).mp c_7) (by omega)
  have hP9 := hP.sub (ws' := [(r, .inr (6, [.int rh, .int rl, .ref st, .ref ck, .ref ck, .int 0, .int 1, .int (nI nf), .int (nI (ng + 1)), .int 0, .ref rf, .int 0])), (ck, .inr (1, [.ref ce, .null])), (ce, .inl (cJ, 128, .inr (.inl fE)))]) [0, 1, 2] rfl
  have hD9 := hD.sub (ws' := [(r, .inr (6, [.int rh, .int rl, .ref st, .ref ck, .ref ck, .int 0, .int 1, .int (nI nf), .int (nI (ng + 1)), .int 0, .ref rf, .int 0])), (ck, .inr (1, [.ref ce, .null])), (ce, .inl (cJ, 128, .inr (.inl fE)))]) [0, 1, 2] (by decide +kernel) rfl
  have hK9 := hK.sub (tys' := [(cJ, .long)]) [0] rfl
  exact W.vret hx hb hr (fun t ht hW => ⟨⟨(), rfl, trivial, ⟨by rw [ht]; exact hP9, va_K.moved hW.alike hK9, hD9⟩⟩, hS.F ht⟩) hS.2.2 dX5_removeFromFirstEntry_55

noncomputable def tl_c_removeFirst_p : List Cond := wsX50 ++ (v_c_removeFE)
noncomputable def v_c_removeFirst_p : List Cond := .code yX5_removeFirst cX5_removeFirst 1 none :: ([.fieldLink RX5 42 "ClaimBus$Row" "firstIsWritten" "Z", .fieldLink RX5 31 "ClaimBus$Row" "claimWaits" "Z", .fieldLink RX5 25 "ClaimBus$Row" "frames" "I", .initialized RX5, .methodLink RX5 126 yX5_removeFromFirstEntry, .instanceMethod yX5_removeFromFirstEntry, .selects RX5 yX5_removeFromFirstEntry yX5_removeFromFirstEntry] ++ tl_c_removeFirst_p)
theorem it_c_removeFirst_p : ∀ w ∈ tl_c_removeFirst_p, w ∈ v_c_removeFirst_p := fun w h => List.mem_cons_of_mem _ (List.mem_append_right _ h)
theorem in_c_removeFirst_p_X5 : ∀ w ∈ wsX50, w ∈ v_c_removeFirst_p := fun w h => it_c_removeFirst_p w (List.mem_append_left _ h)
theorem ic_c_removeFirst_p_c_removeFE : ∀ w ∈ v_c_removeFE, w ∈ v_c_removeFirst_p := fun w h => it_c_removeFirst_p w (List.mem_append_right _ (h))
theorem gt_c_removeFirst_p : ∀ w ∈ tl_c_removeFirst_p, goodWord w = true := List.forall_mem_append.mpr ⟨gw_wsX50, gw_c_removeFE⟩
theorem gw_c_removeFirst_p : ∀ w ∈ v_c_removeFirst_p, goodWord w = true := List.forall_mem_cons.mpr ⟨by decide +kernel, List.forall_mem_append.mpr ⟨List.all_eq_true.mp (by decide +kernel), gt_c_removeFirst_p⟩⟩
theorem g_c_removeFirst_p_c_removeFE_126 : GoodIn v_c_removeFirst_p (wsV RX5 126 RX5 yX5_removeFromFirstEntry v_c_removeFE) := goodIn_app (goodIn_r [.methodLink RX5 126 yX5_removeFromFirstEntry, .instanceMethod yX5_removeFromFirstEntry, .selects RX5 yX5_removeFromFirstEntry yX5_removeFromFirstEntry, .initialized RX5] [5, 6, 7, 4] (by decide +kernel) (by decide +kernel)) (fun w h => ⟨ic_c_removeFirst_p_c_removeFE w h, good_of_word (gw_c_removeFE w h)⟩)
set_option maxHeartbeats 4000000 in
set_option maxRecDepth 100000 in
theorem c_removeFirst_p (l : Launch) (dC : Nat → ClassId) (dI : Nat → Nat → Nat) (r : Nat) (rh : Int32) (rl : Int32) (st : Nat) (rf : Nat) (nf : Nat) (ng : Nat) (ck : Nat) (ce : Nat) (cJ : ClassId) (fE : Nat → Int64) (to : Nat) (se : Nat) (th : Nat) (sz : Nat) (hnf : 1 ≤ nf) (hnf2 : nf < 300) (hng : ng < 300) (h_to : to < 256) (h_se : se < 256) (h_th : th < 256) (hlo : (fE 0).toInt32 = (nI (16777216 * to + 65536 * 235 + 256 * se + th))) (hg : ng + 1 < se) (hnf1 : 1 < nf) : Met l yX5_removeFirst v_c_removeFirst_p ({ frames := 2, cells := 0, slots := 0, locals := 44 }) (va_Pc [.ref r] (fun U => U.heap.size = sz ∧ va_P (dC, dI) vwCl [(r, .inr (6, [.int rh, .int rl, .ref st, .ref ck, .ref ck, .int 0, .int 1, .int (nI nf), .int (nI ng), .int 0, .ref rf, .int 1])), (ck, .inr (1, [.ref ce, .null])), (ce, .inl (cJ, 128, .inr (.inl fE)))] U.heap ∧ va_K (dC, dI) vwCl [(cJ, .long)] U ∧ va_D (fun _ => True) [(r, .inr (6, [.int rh, .int rl, .ref st, .ref ck, .ref ck, .int 0, .int 1, .int (nI nf), .int (nI ng), .int 0, .ref rf, .int 1])), (ck, .inr (1, [.ref ce, .null])), (ce, .inl (cJ, 128, .inr (.inl fE)))] ∧ ev U)) (va_Qv (fun _ : Unit => True) (fun (_ : Unit) (t : State) => va_P (dC, dI) vwCl [(r, .inr (6, [.int rh, .int rl, .ref st, .ref ck, .ref ck, .int 0, .int 1, .int (nI (nf - 1)), .int (nI (ng + 1)), .int 0, .ref rf, .int 0])), (ck, .inr (1, [.ref ce, .null])), (ce, .inl (cJ, 128, .inr (.inl fE)))] t.heap ∧ va_K (dC, dI) vwCl [(cJ, .long)] t ∧ va_D (va_A [(r, .inr (6, [.int rh, .int rl, .ref st, .ref ck, .ref ck, .int 0, .int 1, .int (nI nf), .int (nI ng), .int 0, .ref rf, .int 1])), (ck, .inr (1, [.ref ce, .null])), (ce, .inl (cJ, 128, .inr (.inl fE)))] sz) [(r, .inr (6, [.int rh, .int rl, .ref st, .ref ck, .ref ck, .int 0, .int 1, .int (nI (nf - 1)), .int (nI (ng + 1)), .int 0, .ref rf, .int 0])), (ck, .inr (1, [.ref ce, .null])), (ce, .inl (cJ, 128, .inr (.inl fE)))]) (va_A [(r, .inr (6, [.int rh, .int rl, .ref st, .ref ck, .ref ck, .int 0, .int 1, .int (nI nf), .int (nI ng), .int 0, .ref rf, .int 1])), (ck, .inr (1, [.ref ce, .null])), (ce, .inl (cJ, 128, .inr (.inl fE)))] sz)) 0 0 (va_A [(r, .inr (6, [.int rh, .int rl, .ref st, .ref ck, .ref ck, .int 0, .int 1, .int (nI nf), .int (nI ng), .int 0, .ref rf, .int 1])), (ck, .inr (1, [.ref ce, .null])), (ce, .inl (cJ, 128, .inr (.inl fE)))] sz) := by
  refine Met.ofW (cc := cX5_removeFirst) (maxL := 1) (ret := none) (by decide) rfl ?_
  intro p e s m args below meth c s₁ B hml hv
  obtain ⟨rfl, hsz, hP, hK, hD0, hE⟩ := hv
  have hx := B.exec
  have hb := B.bytes
  have hr := B.returns
  have hts := atoms_spec (ws := v_c_removeFirst_p) B.pre
  have hown : s.vm.findClass RX5 = some m.cls := findClass_of_methodNamed B.named
  have hlocks := B.notSynchronized
  subst hsz
  have hD := hD0.self (sz := s.heap.size)
  generalize hAe : va_A [(r, .inr (6, [.int rh, .int rl, .ref st, .ref ck, .ref ck, .int 0, .int 1, .int (nI nf), .int (nI ng), .int 0, .ref rf, .int 1])), (ck, .inr (1, [.ref ce, .null])), (ce, .inl (cJ, 128, .inr (.inl fE)))] s.heap.size = A at hD ⊢
  have hA : ∀ q : Nat, s.heap.size ≤ q → A q := fun q h => by rw [← hAe]; exact Or.inr h
  have hS : va_S A s.heap s.heap [] := va_S.rf
  replace hP : va_P (dC, dI) vwCl [(r, .inr (6, [.int rh, .int rl, .ref st, .ref ck, .ref ck, .int 0, .int 1, .int (nI nf), .int (nI ng), .int 0, .ref rf, .int 1])), (ck, .inr (1, [.ref ce, .null])), (ce, .inl (cJ, 128, .inr (.inl fE)))] s.heap := hP
  have hl := lv_entry ([.ref r]) (n := 1) (Nat.le_of_ble_eq_true rfl)
  rw [lg_entry_eq]
  generalize (lg_sl ([.ref r]) ++ List.replicate (1 - (lg_sl ([.ref r])).length) Slot.unset).toArray = ls at hl ⊢
  replace hl : lv_has ls 1 [(0, .ref r)] := hl
  obtain ⟨H, hH⟩ : ∃ z : Heap, z = s.heap := ⟨_, rfl⟩
  rw [← hH]
  replace hS : va_S A s.heap H [] := by rw [hH]; exact va_S.rf
  replace hP : va_P (dC, dI) vwCl [(r, .inr (6, [.int rh, .int rl, .ref st, .ref ck, .ref ck, .int 0, .int 1, .int (nI nf), .int (nI ng), .int 0, .ref rf, .int 1])), (ck, .inr (1, [.ref ce, .null])), (ce, .inl (cJ, 128, .inr (.inl fE)))] H := by rw [hH]; exact hP
  clear hH
  refine lv_aload_n hx hb dX5_removeFirst_0 rfl (lv_at hl 0 rfl) ?_
  refine lv_iconst (v := 0) hx hb dX5_removeFirst_1 (by decide) ?_
  refine va_put (D := (dC, dI)) (ci := 6) (v := .int 0) (ty := .boolean) (C := RX5) (T := TX5) (N := 12) hx hb hts in_c_removeFirst_p_X5 tyX5 tyX5_ok nmX5 hown hK hP hD hS 0 rfl rfl 11 (by decide) (hts (.fieldLink RX5 42 "ClaimBus$Row" "firstIsWritten" "Z") (List.mem_of_getElem? (i := 1) rfl)) (fun _ h9 => h9) rfl (by decide +kernel) rfl rfl (Nat.le_of_ble_eq_true rfl) dX5_removeFirst_2 (fun H locs hP hD hS => ?_)
  replace hP : va_P (dC, dI) vwCl [(r, .inr (6, [.int rh, .int rl, .ref st, .ref ck, .ref ck, .int 0, .int 1, .int (nI nf), .int (nI ng), .int 0, .ref rf, .int 0])), (ck, .inr (1, [.ref ce, .null])), (ce, .inl (cJ, 128, .inr (.inl fE)))] H := hP
  replace hD : va_D A [(r, .inr (6, [.int rh, .int rl, .ref st, .ref ck, .ref ck, .int 0, .int 1, .int (nI nf), .int (nI ng), .int 0, .ref rf, .int 0])), (ck, .inr (1, [.ref ce, .null])), (ce, .inl (cJ, 128, .inr (.inl fE)))] := hD
  refine lv_aload_n hx hb dX5_removeFirst_5 rfl (lv_at hl 0 rfl) ?_
  refine va_get (D := (dC, dI)) (ci := 6) (v := .int 0) (C := RX5) (T := TX5) (N := 12) hx hb hts in_c_removeFirst_p_X5 hown hK hP 0 rfl rfl 9 (by decide) (hts (.fieldLink RX5 31 "ClaimBus$Row" "claimWaits" "Z") (List.mem_of_getElem? (i := 2) rfl)) (fun _ h9 => h9) rfl dX5_removeFirst_6 ?_
  refine lv_if_eq (tgt := 20) hx hb dX5_removeFirst_9 (by decide) (fun c_1 => ?_) (fun c_1 => ?_)
  rotate_left
  · exact absurd (by decide) c_1
  refine lv_aload_n hx hb dX5_removeFirst_20 rfl (lv_at hl 0 rfl) ?_
  refine va_get (D := (dC, dI)) (ci := 6) (v := .int (nI nf)) (C := RX5) (T := TX5) (N := 12) hx hb hts in_c_removeFirst_p_X5 hown hK hP 0 rfl rfl 7 (by decide) (hts (.fieldLink RX5 25 "ClaimBus$Row" "frames" "I") (List.mem_of_getElem? (i := 3) rfl)) (fun _ h9 => h9) rfl dX5_removeFirst_21 ?_
  refine lv_iconst (v := 1) hx hb dX5_removeFirst_24 (by decide) ?_
  refine lv_icmp_ne (tgt := 35) hx hb dX5_removeFirst_25 (by decide) (fun c_2 => ?_) (fun c_2 => ?_)
  rotate_left
  · exact absurd ((nI_eq (a := nf) (b := 1) (by omega) (by omega)).mp c_2) (by omega)
  refine lv_aload_n hx hb dX5_removeFirst_35 rfl (lv_at hl 0 rfl) ?_
  refine va_get (D := (dC, dI)) (ci := 6) (v := .int (nI nf)) (C := RX5) (T := TX5) (N := 12) hx hb hts in_c_removeFirst_p_X5 hown hK hP 0 rfl rfl 7 (by decide) (hts (.fieldLink RX5 25 "ClaimBus$Row" "frames" "I") (List.mem_of_getElem? (i := 3) rfl)) (fun _ h9 => h9) rfl dX5_removeFirst_36 ?_
  refine lv_iconst (v := 1) hx hb dX5_removeFirst_39 (by decide) ?_
  refine lv_icmp_le (tgt := 57) hx hb dX5_removeFirst_40 (by decide) (fun c_3 => ?_) (fun c_3 => ?_)
  · exact absurd ((nI_leI (a := nf) (b := 1) (by omega) (by omega)).mp c_3) (by omega)
  refine lv_aload_n hx hb dX5_removeFirst_43 rfl (lv_at hl 0 rfl) ?_
  refine lv_dup hx hb dX5_removeFirst_44 rfl ?_
  refine va_get (D := (dC, dI)) (ci := 6) (v := .int (nI nf)) (C := RX5) (T := TX5) (N := 12) hx hb hts in_c_removeFirst_p_X5 hown hK hP 0 rfl rfl 7 (by decide) (hts (.fieldLink RX5 25 "ClaimBus$Row" "frames" "I") (List.mem_of_getElem? (i := 3) rfl)) (fun _ h9 => h9) rfl dX5_removeFirst_45 ?_
  refine lv_iconst (v := 1) hx hb dX5_removeFirst_48 (by decide) ?_
  refine lv_isub hx hb dX5_removeFirst_49 ?_
  refine lv_topi (fun x_4 ex_4 => ?_)
  obtain rfl : x_4 = (nI (nf - 1)) := ex_4.trans ((pk_sub (a := nf) (b := 1) (by omega)).trans (show nI (nf - 1) = nI (nf - 1) from congrArg nI (by omega)))
  refine va_put (D := (dC, dI)) (ci := 6) (v := .int (nI (nf - 1))) (ty := .int) (C := RX5) (T := TX5) (N := 12) hx hb hts in_c_removeFirst_p_X5 tyX5 tyX5_ok nmX5 hown hK hP hD hS 0 rfl rfl 7 (by decide) (hts (.fieldLink RX5 25 "ClaimBus$Row" "frames" "I") (List.mem_of_getElem? (i := 3) rfl)) (fun _ h9 => h9) rfl (by decide +kernel) rfl rfl (Nat.le_of_ble_eq_true rfl) dX5_removeFirst_50 (fun H locs hP hD hS => ?_)
  replace hP : va_P (dC, dI) vwCl [(r, .inr (6, [.int rh, .int rl, .ref st, .ref ck, .ref ck, .int 0, .int 1, .int (nI (nf - 1)), .int (nI ng), .int 0, .ref rf, .int 0])), (ck, .inr (1, [.ref ce, .null])), (ce, .inl (cJ, 128, .inr (.inl fE)))] H := hP
  replace hD : va_D A [(r, .inr (6, [.int rh, .int rl, .ref st, .ref ck, .ref ck, .int 0, .int 1, .int (nI (nf - 1)), .int (nI ng), .int 0, .ref rf, .int 0])), (ck, .inr (1, [.ref ce, .null])), (ce, .inl (cJ, 128, .inr (.inl fE)))] := hD
  refine lv_aload_n hx hb dX5_removeFirst_53 rfl (lv_at hl 0 rfl) ?_
  have hPc := hP.sub (ws' := [(r, .inr (6, [.int rh, .int rl, .ref st, .ref ck, .ref ck, .int 0, .int 1, .int (nI (nf - 1)), .int (nI ng), .int 0, .ref rf, .int 0])), (ck, .inr (1, [.ref ce, .null])), (ce, .inl (cJ, 128, .inr (.inl fE)))]) [0, 1, 2] rfl
  have hDc := hD.sub (ws' := [(r, .inr (6, [.int rh, .int rl, .ref st, .ref ck, .ref ck, .int 0, .int 1, .int (nI (nf - 1)), .int (nI ng), .int 0, .ref rf, .int 0])), (ck, .inr (1, [.ref ce, .null])), (ce, .inl (cJ, 128, .inr (.inl fE)))]) [0, 1, 2] (by decide +kernel) rfl
  have hKc := hK.sub (tys' := [(cJ, .long)]) [0] rfl
  have hFc := va_free (wc := [(r, .inr (6, [.int rh, .int rl, .ref st, .ref ck, .ref ck, .int 0, .int 1, .int (nI (nf - 1)), .int (nI ng), .int 0, .ref rf, .int 0])), (ck, .inr (1, [.ref ce, .null])), (ce, .inl (cJ, 128, .inr (.inl fE)))]) hD hS hA [0, 1, 2] rfl
  refine va_callv (va_runV (As := []) (rest := []) ⟨hx, hb, hml, hown, hts⟩ (c_removeFE l dC dI (r) (rh) (rl) (st) (rf) ((nf - 1)) (ng) (ck) (ce) (cJ) (fE) (to) (se) (th) H.size (by omega) (by omega) hng h_to h_se h_th hlo hg) (cwV 0 hts g_c_removeFirst_p_c_removeFE_126 rfl rfl rfl (by decide +kernel) ⟨Nat.le_of_ble_eq_true rfl, Nat.le_of_ble_eq_true rfl⟩) ⟨fun a U g mk q => by obtain ⟨q0, q1, qP, qK, qD, qE⟩ := q; exact ⟨q0, q1, qP, va_K.moved (u := U) (U := U.calling g mk a) (Vm.Alike.refl U.vm) qK, qD, ev.same (u := U) (U := U.calling g mk a) rfl qE⟩, va_recv hKc hPc (ci := 6) (q0 := 0) rfl rfl, fun U hU hW => ⟨rfl, by rw [hU], by rw [hU]; exact hPc, va_K.moved hW.alike hKc, hDc.weaken (fun _ _ _ _ => trivial), hE.warm hW⟩⟩ rfl rfl hl.1 rfl (lv_room (Nat.le_of_ble_eq_true rfl)) dX5_removeFirst_54 ⟨Nat.le_of_ble_eq_true rfl, Nat.le_of_ble_eq_true rfl⟩) hS (fun q _ h => hFc q h) hFc (fun u t H1 locs ht hvm hw hB hz1 hk1 hS => ?_)
  clear hPc hDc hKc
  obtain ⟨hP1, hK1, hD1⟩ := hB
  rw [ht] at hP1
  have hK1 := va_K.moved hvm.symm hK1
  obtain ⟨hP, hD⟩ := va_join (wr := []) (w1 := [(r, .inr (6, [.int rh, .int rl, .ref st, .ref ck, .ref ck, .int 0, .int 1, .int (nI (nf - 1)), .int (nI (ng + 1)), .int 0, .ref rf, .int 0])), (ck, .inr (1, [.ref ce, .null])), (ce, .inl (cJ, 128, .inr (.inl fE)))]) hP hD [0, 1, 2] [] rfl rfl (by decide +kernel) (by decide +kernel) hk1 hFc hP1 hD1
  generalize H1 = H at hP hS ⊢
  replace hP : va_P (dC, dI) vwCl [(r, .inr (6, [.int rh, .int rl, .ref st, .ref ck, .ref ck, .int 0, .int 1, .int (nI (nf - 1)), .int (nI (ng + 1)), .int 0, .ref rf, .int 0])), (ck, .inr (1, [.ref ce, .null])), (ce, .inl (cJ, 128, .inr (.inl fE)))] H := hP
  replace hD : va_D A [(r, .inr (6, [.int rh, .int rl, .ref st, .ref ck, .ref ck, .int 0, .int 1, .int (nI (nf - 1)), .int (nI (ng + 1)), .int 0, .ref rf, .int 0])), (ck, .inr (1, [.ref ce, .null])), (ce, .inl (cJ, 128, .inr (.inl fE)))] := hD
  clear hw
  have hP9 := hP.sub (ws' := [(r, .inr (6, [.int rh, .int rl, .ref st, .ref ck, .ref ck, .int 0, .int 1, .int (nI (nf - 1)), .int (nI (ng + 1)), .int 0, .ref rf, .int 0])), (ck, .inr (1, [.ref ce, .null])), (ce, .inl (cJ, 128, .inr (.inl fE)))]) [0, 1, 2] rfl
  have hD9 := hD.sub (ws' := [(r, .inr (6, [.int rh, .int rl, .ref st, .ref ck, .ref ck, .int 0, .int 1, .int (nI (nf - 1)), .int (nI (ng + 1)), .int 0, .ref rf, .int 0])), (ck, .inr (1, [.ref ce, .null])), (ce, .inl (cJ, 128, .inr (.inl fE)))]) [0, 1, 2] (by decide +kernel) rfl
  have hK9 := hK.sub (tys' := [(cJ, .long)]) [0] rfl
  exact W.vret hx hb hr (fun t ht hW => ⟨⟨(), rfl, trivial, ⟨by rw [ht]; exact hP9, va_K.moved hW.alike hK9, hD9⟩⟩, hS.F ht⟩) hS.2.2 dX5_removeFirst_57
