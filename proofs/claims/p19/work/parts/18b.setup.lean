noncomputable def tl_c_first_zb : List Cond := wsX50 ++ (v_c_len_c ++ (v_c_writeFirst_zb))
noncomputable def v_c_first_zb : List Cond := .code yX5_first cX5_first 2 (some (.object "ClaimBus$Frame")) :: ([.initialized RX5, .methodLink RX5 82 yX5_length, .instanceMethod yX5_length, .selects RX5 yX5_length yX5_length, .fieldLink RX5 42 "ClaimBus$Row" "firstIsWritten" "Z", .methodLink RX5 86 yX5_writeFirst, .instanceMethod yX5_writeFirst, .selects RX5 yX5_writeFirst yX5_writeFirst, .fieldLink RX5 38 "ClaimBus$Row" "first" "LClaimBus$Frame;"] ++ tl_c_first_zb)
theorem it_c_first_zb : ∀ w ∈ tl_c_first_zb, w ∈ v_c_first_zb := fun w h => List.mem_cons_of_mem _ (List.mem_append_right _ h)
theorem in_c_first_zb_X5 : ∀ w ∈ wsX50, w ∈ v_c_first_zb := fun w h => it_c_first_zb w (List.mem_append_left _ h)
theorem ic_c_first_zb_c_len_c : ∀ w ∈ v_c_len_c, w ∈ v_c_first_zb := fun w h => it_c_first_zb w (List.mem_append_right _ (List.mem_append_left _ h))
theorem ic_c_first_zb_c_writeFirst_zb : ∀ w ∈ v_c_writeFirst_zb, w ∈ v_c_first_zb := fun w h => it_c_first_zb w (List.mem_append_right _ (List.mem_append_right _ (h)))
theorem gt_c_first_zb : ∀ w ∈ tl_c_first_zb, goodWord w = true := List.forall_mem_append.mpr ⟨gw_wsX50, List.forall_mem_append.mpr ⟨gw_c_len_c, gw_c_writeFirst_zb⟩⟩
theorem gw_c_first_zb : ∀ w ∈ v_c_first_zb, goodWord w = true := List.forall_mem_cons.mpr ⟨by decide +kernel, List.forall_mem_append.mpr ⟨List.all_eq_true.mp (by decide +kernel), gt_c_first_zb⟩⟩
theorem g_c_first_zb_c_len_c_82 : GoodIn v_c_first_zb (wsV RX5 82 RX5 yX5_length v_c_len_c) := goodIn_app (goodIn_r [.methodLink RX5 82 yX5_length, .instanceMethod yX5_length, .selects RX5 yX5_length yX5_length, .initialized RX5] [2, 3, 4, 1] (by decide +kernel) (by decide +kernel)) (fun w h => ⟨ic_c_first_zb_c_len_c w h, good_of_word (gw_c_len_c w h)⟩)
theorem g_c_first_zb_c_writeFirst_zb_86 : GoodIn v_c_first_zb (wsV RX5 86 RX5 yX5_writeFirst v_c_writeFirst_zb) := goodIn_app (goodIn_r [.methodLink RX5 86 yX5_writeFirst, .instanceMethod yX5_writeFirst, .selects RX5 yX5_writeFirst yX5_writeFirst, .initialized RX5] [6, 7, 8, 1] (by decide +kernel) (by decide +kernel)) (fun w h => ⟨ic_c_first_zb_c_writeFirst_zb w h, good_of_word (gw_c_writeFirst_zb w h)⟩)
set_option maxHeartbeats 4000000 in
set_option maxRecDepth 100000 in
theorem c_first_zb (l : Launch) (dC : Nat → ClassId) (dI : Nat → Nat → Nat) (br : Nat) (brf : Nat) (st : Nat) (zi : Nat) (zj : Int32) (zk : Int32) (sz : Nat)  : Met l yX5_first v_c_first_zb ({ frames := 2, cells := 0, slots := 0, locals := 51 }) (va_Pc [.ref br, .int 200] (fun U => U.heap.size = sz ∧ va_P (dC, dI) vwCl [(br, .inr (6, [.int 0, .int 4, .ref st, .null, .null, .int 0, .int 0, .int 0, .int 0, .int 1, .ref brf, .int 0])), (brf, .inr (2, [.int (nI zi), .int zj, .int zk, .null]))] U.heap ∧ va_K (dC, dI) vwCl [] U ∧ va_D (fun _ => True) [(br, .inr (6, [.int 0, .int 4, .ref st, .null, .null, .int 0, .int 0, .int 0, .int 0, .int 1, .ref brf, .int 0])), (brf, .inr (2, [.int (nI zi), .int zj, .int zk, .null]))] ∧ ev U)) (va_Qq (fun (r : Option Nat) (_ : Unit) => r = some brf) (fun (_ : Unit) (t : State) => va_P (dC, dI) vwCl [(br, .inr (6, [.int 0, .int 4, .ref st, .null, .null, .int 0, .int 0, .int 0, .int 0, .int 1, .ref brf, .int 1])), (brf, .inr (2, [.int 418316232, .int 4, .int 0, .null]))] t.heap ∧ va_K (dC, dI) vwCl [] t ∧ va_D (va_A [(br, .inr (6, [.int 0, .int 4, .ref st, .null, .null, .int 0, .int 0, .int 0, .int 0, .int 1, .ref brf, .int 0])), (brf, .inr (2, [.int (nI zi), .int zj, .int zk, .null]))] sz) [(br, .inr (6, [.int 0, .int 4, .ref st, .null, .null, .int 0, .int 0, .int 0, .int 0, .int 1, .ref brf, .int 1])), (brf, .inr (2, [.int 418316232, .int 4, .int 0, .null]))]) (va_A [(br, .inr (6, [.int 0, .int 4, .ref st, .null, .null, .int 0, .int 0, .int 0, .int 0, .int 1, .ref brf, .int 0])), (brf, .inr (2, [.int (nI zi), .int zj, .int zk, .null]))] sz)) 0 0 (va_A [(br, .inr (6, [.int 0, .int 4, .ref st, .null, .null, .int 0, .int 0, .int 0, .int 0, .int 1, .ref brf, .int 0])), (brf, .inr (2, [.int (nI zi), .int zj, .int zk, .null]))] sz) := by
  refine Met.ofW (cc := cX5_first) (maxL := 2) (ret := (some (.object "ClaimBus$Frame"))) (by decide) rfl ?_
  intro p e s m args below meth c s₁ B hml hv
  obtain ⟨rfl, hsz, hP, hK, hD0, hE⟩ := hv
  have hx := B.exec
  have hb := B.bytes
  have hr := B.returns
  have hts := atoms_spec (ws := v_c_first_zb) B.pre
  have hown : s.vm.findClass RX5 = some m.cls := findClass_of_methodNamed B.named
  have hlocks := B.notSynchronized
  subst hsz
  have hD := hD0.self (sz := s.heap.size)
  generalize hAe : va_A [(br, .inr (6, [.int 0, .int 4, .ref st, .null, .null, .int 0, .int 0, .int 0, .int 0, .int 1, .ref brf, .int 0])), (brf, .inr (2, [.int (nI zi), .int zj, .int zk, .null]))] s.heap.size = A at hD ⊢
  have hA : ∀ q : Nat, s.heap.size ≤ q → A q := fun q h => by rw [← hAe]; exact Or.inr h
  have hS : va_S A s.heap s.heap [] := va_S.rf
  replace hP : va_P (dC, dI) vwCl [(br, .inr (6, [.int 0, .int 4, .ref st, .null, .null, .int 0, .int 0, .int 0, .int 0, .int 1, .ref brf, .int 0])), (brf, .inr (2, [.int (nI zi), .int zj, .int zk, .null]))] s.heap := hP
  have hl := lv_entry ([.ref br, .int 200]) (n := 2) (Nat.le_of_ble_eq_true rfl)
  rw [lg_entry_eq]
  generalize (lg_sl ([.ref br, .int 200]) ++ List.replicate (2 - (lg_sl ([.ref br, .int 200])).length) Slot.unset).toArray = ls at hl ⊢
  replace hl : lv_has ls 2 [(0, .ref br), (1, .int 200)] := hl
  obtain ⟨H, hH⟩ : ∃ z : Heap, z = s.heap := ⟨_, rfl⟩
  rw [← hH]
  replace hS : va_S A s.heap H [] := by rw [hH]; exact va_S.rf
  replace hP : va_P (dC, dI) vwCl [(br, .inr (6, [.int 0, .int 4, .ref st, .null, .null, .int 0, .int 0, .int 0, .int 0, .int 1, .ref brf, .int 0])), (brf, .inr (2, [.int (nI zi), .int zj, .int zk, .null]))] H := by rw [hH]; exact hP
  clear hH
  refine lv_aload_n hx hb dX5_first_0 rfl (lv_at hl 0 rfl) ?_
  have hPc := hP.sub (ws' := [(br, .inr (6, [.int 0, .int 4, .ref st, .null, .null, .int 0, .int 0, .int 0, .int 0, .int 1, .ref brf, .int 0]))]) [0] rfl
  have hDc := hD.sub (ws' := [(br, .inr (6, [.int 0, .int 4, .ref st, .null, .null, .int 0, .int 0, .int 0, .int 0, .int 1, .ref brf, .int 0]))]) [0] (by decide +kernel) rfl
  have hKc := hK.sub (tys' := []) [] rfl
  have hFc := ro_free hS hA
  refine va_calli (va_runV (As := []) (rest := []) ⟨hx, hb, hml, hown, hts⟩ (c_len_c l dC dI (br) (0) (4) (st) (brf) (0) (0) H.size) (cwV 0 hts g_c_first_zb_c_len_c_82 rfl rfl rfl (by decide +kernel) ⟨Nat.le_of_ble_eq_true rfl, Nat.le_of_ble_eq_true rfl⟩) ⟨fun a U g mk q => by obtain ⟨q0, q1, qP, qK, qD, qE⟩ := q; exact ⟨q0, q1, qP, va_K.moved (u := U) (U := U.calling g mk a) (Vm.Alike.refl U.vm) qK, qD, ev.same (u := U) (U := U.calling g mk a) rfl qE⟩, va_recv hKc hPc (ci := 6) (q0 := 0) rfl rfl, fun U hU hW => ⟨rfl, by rw [hU], by rw [hU]; exact hPc, va_K.moved hW.alike hKc, hDc.weaken (fun _ _ _ _ => trivial), hE.warm hW⟩⟩ rfl rfl hl.1 rfl (lv_room (Nat.le_of_ble_eq_true rfl)) dX5_first_1 ⟨Nat.le_of_ble_eq_true rfl, Nat.le_of_ble_eq_true rfl⟩) hS (fun q _ h => hFc q h) hFc (fun r_1 u t H1 locs ht hvm hw hB hz1 hk1 hS => ?_)
  clear hPc hDc hKc
  replace hP := ro_keep hP hk1
  generalize H1 = H at hP hS ⊢
  replace hP : va_P (dC, dI) vwCl [(br, .inr (6, [.int 0, .int 4, .ref st, .null, .null, .int 0, .int 0, .int 0, .int 0, .int 1, .ref brf, .int 0])), (brf, .inr (2, [.int (nI zi), .int zj, .int zk, .null]))] H := hP
  have hw := hw.symm
  subst hw
  refine lv_if_ne (tgt := 9) hx hb dX5_first_4 (by decide) (fun c_2 => ?_) (fun c_2 => ?_)
  rotate_left
  · exact absurd c_2 (by decide)
  refine lv_aload_n hx hb dX5_first_9 rfl (lv_at hl 0 rfl) ?_
  refine va_get (D := (dC, dI)) (ci := 6) (v := .int 0) (C := RX5) (T := TX5) (N := 12) hx hb hts in_c_first_zb_X5 hown hK hP 0 rfl rfl 11 (by decide) (hts (.fieldLink RX5 42 "ClaimBus$Row" "firstIsWritten" "Z") (List.mem_of_getElem? (i := 5) rfl)) (fun _ h9 => h9) rfl dX5_first_10 ?_
  refine lv_if_ne (tgt := 26) hx hb dX5_first_13 (by decide) (fun c_3 => ?_) (fun c_3 => ?_)
  · exact absurd c_3 (by decide)
  refine lv_aload_n hx hb dX5_first_16 rfl (lv_at hl 0 rfl) ?_
  refine lv_iload_n hx hb dX5_first_17 rfl (lv_at hl 1 rfl) ?_
  have hPc := hP.sub (ws' := [(br, .inr (6, [.int 0, .int 4, .ref st, .null, .null, .int 0, .int 0, .int 0, .int 0, .int 1, .ref brf, .int 0])), (brf, .inr (2, [.int (nI zi), .int zj, .int zk, .null]))]) [0, 1] rfl
  have hDc := hD.sub (ws' := [(br, .inr (6, [.int 0, .int 4, .ref st, .null, .null, .int 0, .int 0, .int 0, .int 0, .int 1, .ref brf, .int 0])), (brf, .inr (2, [.int (nI zi), .int zj, .int zk, .null]))]) [0, 1] (by decide +kernel) rfl
  have hKc := hK.sub (tys' := []) [] rfl
  have hFc := va_free (wc := [(br, .inr (6, [.int 0, .int 4, .ref st, .null, .null, .int 0, .int 0, .int 0, .int 0, .int 1, .ref brf, .int 0])), (brf, .inr (2, [.int (nI zi), .int zj, .int zk, .null]))]) hD hS hA [0, 1] rfl
  refine va_callv (va_runV (As := [.int 200]) (rest := []) ⟨hx, hb, hml, hown, hts⟩ (c_writeFirst_zb l dC dI (br) (brf) (st) (zi) (zj) (zk) H.size) (cwV 1 hts g_c_first_zb_c_writeFirst_zb_86 rfl rfl rfl (by decide +kernel) ⟨Nat.le_of_ble_eq_true rfl, Nat.le_of_ble_eq_true rfl⟩) ⟨fun a U g mk q => by obtain ⟨q0, q1, qP, qK, qD, qE⟩ := q; exact ⟨q0, q1, qP, va_K.moved (u := U) (U := U.calling g mk a) (Vm.Alike.refl U.vm) qK, qD, ev.same (u := U) (U := U.calling g mk a) rfl qE⟩, va_recv hKc hPc (ci := 6) (q0 := 0) rfl rfl, fun U hU hW => ⟨rfl, by rw [hU], by rw [hU]; exact hPc, va_K.moved hW.alike hKc, hDc.weaken (fun _ _ _ _ => trivial), hE.warm hW⟩⟩ rfl rfl hl.1 rfl (lv_room (Nat.le_of_ble_eq_true rfl)) dX5_first_18 ⟨Nat.le_of_ble_eq_true rfl, Nat.le_of_ble_eq_true rfl⟩) hS (fun q _ h => hFc q h) hFc (fun u t H1 locs ht hvm hw hB hz1 hk1 hS => ?_)
  clear hPc hDc hKc
  obtain ⟨hP1, hK1, hD1⟩ := hB
  rw [ht] at hP1
  have hK1 := va_K.moved hvm.symm hK1
  obtain ⟨hP, hD⟩ := va_join (wr := []) (w1 := [(br, .inr (6, [.int 0, .int 4, .ref st, .null, .null, .int 0, .int 0, .int 0, .int 0, .int 1, .ref brf, .int 0])), (brf, .inr (2, [.int 418316232, .int 4, .int 0, .null]))]) hP hD [0, 1] [] rfl rfl (by decide +kernel) (by decide +kernel) hk1 hFc hP1 hD1
  generalize H1 = H at hP hS ⊢
  replace hP : va_P (dC, dI) vwCl [(br, .inr (6, [.int 0, .int 4, .ref st, .null, .null, .int 0, .int 0, .int 0, .int 0, .int 1, .ref brf, .int 0])), (brf, .inr (2, [.int 418316232, .int 4, .int 0, .null]))] H := hP
  replace hD : va_D A [(br, .inr (6, [.int 0, .int 4, .ref st, .null, .null, .int 0, .int 0, .int 0, .int 0, .int 1, .ref brf, .int 0])), (brf, .inr (2, [.int 418316232, .int 4, .int 0, .null]))] := hD
  clear hw
  refine lv_aload_n hx hb dX5_first_21 rfl (lv_at hl 0 rfl) ?_
  refine lv_iconst (v := 1) hx hb dX5_first_22 (by decide) ?_
  refine va_put (D := (dC, dI)) (ci := 6) (v := .int 1) (ty := .boolean) (C := RX5) (T := TX5) (N := 12) hx hb hts in_c_first_zb_X5 tyX5 tyX5_ok nmX5 hown hK hP hD hS 0 rfl rfl 11 (by decide) (hts (.fieldLink RX5 42 "ClaimBus$Row" "firstIsWritten" "Z") (List.mem_of_getElem? (i := 5) rfl)) (fun _ h9 => h9) rfl (by decide +kernel) rfl rfl (Nat.le_of_ble_eq_true rfl) dX5_first_23 (fun H locs hP hD hS => ?_)
  replace hP : va_P (dC, dI) vwCl [(br, .inr (6, [.int 0, .int 4, .ref st, .null, .null, .int 0, .int 0, .int 0, .int 0, .int 1, .ref brf, .int 1])), (brf, .inr (2, [.int 418316232, .int 4, .int 0, .null]))] H := hP
  replace hD : va_D A [(br, .inr (6, [.int 0, .int 4, .ref st, .null, .null, .int 0, .int 0, .int 0, .int 0, .int 1, .ref brf, .int 1])), (brf, .inr (2, [.int 418316232, .int 4, .int 0, .null]))] := hD
  refine lv_aload_n hx hb dX5_first_26 rfl (lv_at hl 0 rfl) ?_
  refine va_get (D := (dC, dI)) (ci := 6) (v := .ref brf) (C := RX5) (T := TX5) (N := 12) hx hb hts in_c_first_zb_X5 hown hK hP 0 rfl rfl 10 (by decide) (hts (.fieldLink RX5 38 "ClaimBus$Row" "first" "LClaimBus$Frame;") (List.mem_of_getElem? (i := 9) rfl)) (fun _ h9 => h9) rfl dX5_first_27 ?_
  have hP9 := hP.sub (ws' := [(br, .inr (6, [.int 0, .int 4, .ref st, .null, .null, .int 0, .int 0, .int 0, .int 0, .int 1, .ref brf, .int 1])), (brf, .inr (2, [.int 418316232, .int 4, .int 0, .null]))]) [0, 1] rfl
  have hD9 := hD.sub (ws' := [(br, .inr (6, [.int 0, .int 4, .ref st, .null, .null, .int 0, .int 0, .int 0, .int 0, .int 1, .ref brf, .int 1])), (brf, .inr (2, [.int 418316232, .int 4, .int 0, .null]))]) [0, 1] (by decide +kernel) rfl
  have hK9 := hK.sub (tys' := []) [] rfl
  exact W.aret (v := .ref brf) hx hb hr (Or.inl ⟨_, rfl⟩) (Or.inr ⟨_, rfl⟩) (fun t ht hW => ⟨⟨some brf, (), rfl, rfl, ⟨by rw [ht]; exact hP9, va_K.moved hW.alike hK9, hD9⟩⟩, hS.F ht⟩) hS.2.2 dX5_first_30

noncomputable def tl_c_first_yb : List Cond := wsX50 ++ (v_c_len_c1)
noncomputable def v_c_first_yb : List Cond := .code yX5_first cX5_first 2 (some (.object "ClaimBus$Frame")) :: ([.initialized RX5, .methodLink RX5 82 yX5_length, .instanceMethod yX5_length, .selects RX5 yX5_length yX5_length, .fieldLink RX5 42 "ClaimBus$Row" "firstIsWritten" "Z", .fieldLink RX5 38 "ClaimBus$Row" "first" "LClaimBus$Frame;"] ++ tl_c_first_yb)
theorem it_c_first_yb : ∀ w ∈ tl_c_first_yb, w ∈ v_c_first_yb := fun w h => List.mem_cons_of_mem _ (List.mem_append_right _ h)
theorem in_c_first_yb_X5 : ∀ w ∈ wsX50, w ∈ v_c_first_yb := fun w h => it_c_first_yb w (List.mem_append_left _ h)
theorem ic_c_first_yb_c_len_c1 : ∀ w ∈ v_c_len_c1, w ∈ v_c_first_yb := fun w h => it_c_first_yb w (List.mem_append_right _ (h))
theorem gt_c_first_yb : ∀ w ∈ tl_c_first_yb, goodWord w = true := List.forall_mem_append.mpr ⟨gw_wsX50, gw_c_len_c1⟩
theorem gw_c_first_yb : ∀ w ∈ v_c_first_yb, goodWord w = true := List.forall_mem_cons.mpr ⟨by decide +kernel, List.forall_mem_append.mpr ⟨List.all_eq_true.mp (by decide +kernel), gt_c_first_yb⟩⟩
theorem g_c_first_yb_c_len_c1_82 : GoodIn v_c_first_yb (wsV RX5 82 RX5 yX5_length v_c_len_c1) := goodIn_app (goodIn_r [.methodLink RX5 82 yX5_length, .instanceMethod yX5_length, .selects RX5 yX5_length yX5_length, .initialized RX5] [2, 3, 4, 1] (by decide +kernel) (by decide +kernel)) (fun w h => ⟨ic_c_first_yb_c_len_c1 w h, good_of_word (gw_c_len_c1 w h)⟩)
set_option maxHeartbeats 4000000 in
set_option maxRecDepth 100000 in
theorem c_first_yb (l : Launch) (dC : Nat → ClassId) (dI : Nat → Nat → Nat) (br : Nat) (brf : Nat) (st : Nat) (sz : Nat)  : Met l yX5_first v_c_first_yb ({ frames := 1, cells := 0, slots := 0, locals := 20 }) (va_Pc [.ref br, .int 200] (fun U => U.heap.size = sz ∧ va_P (dC, dI) vwCl [(br, .inr (6, [.int 0, .int 4, .ref st, .null, .null, .int 0, .int 0, .int 0, .int 0, .int 1, .ref brf, .int 1]))] U.heap ∧ va_K (dC, dI) vwCl [] U ∧ va_D (fun _ => True) [(br, .inr (6, [.int 0, .int 4, .ref st, .null, .null, .int 0, .int 0, .int 0, .int 0, .int 1, .ref brf, .int 1]))] ∧ ev U)) (va_Qq (fun (r : Option Nat) (_ : Unit) => r = some brf) (fun (_ : Unit) (_ : State) => True) (va_A [] sz)) 0 0 (va_A [] sz) := by
  refine Met.ofW (cc := cX5_first) (maxL := 2) (ret := (some (.object "ClaimBus$Frame"))) (by decide) rfl ?_
  intro p e s m args below meth c s₁ B hml hv
  obtain ⟨rfl, hsz, hP, hK, hD0, hE⟩ := hv
  have hx := B.exec
  have hb := B.bytes
  have hr := B.returns
  have hts := atoms_spec (ws := v_c_first_yb) B.pre
  have hown : s.vm.findClass RX5 = some m.cls := findClass_of_methodNamed B.named
  have hlocks := B.notSynchronized
  subst hsz
  have hD := hD0
  generalize hAe : va_A [] s.heap.size = A
  have hA : ∀ q : Nat, s.heap.size ≤ q → A q := fun q h => by rw [← hAe]; exact Or.inr h
  have hS : va_S A s.heap s.heap [] := va_S.rf
  replace hP : va_P (dC, dI) vwCl [(br, .inr (6, [.int 0, .int 4, .ref st, .null, .null, .int 0, .int 0, .int 0, .int 0, .int 1, .ref brf, .int 1]))] s.heap := hP
  have hl := lv_entry ([.ref br, .int 200]) (n := 2) (Nat.le_of_ble_eq_true rfl)
  rw [lg_entry_eq]
  generalize (lg_sl ([.ref br, .int 200]) ++ List.replicate (2 - (lg_sl ([.ref br, .int 200])).length) Slot.unset).toArray = ls at hl ⊢
  replace hl : lv_has ls 2 [(0, .ref br), (1, .int 200)] := hl
  obtain ⟨H, hH⟩ : ∃ z : Heap, z = s.heap := ⟨_, rfl⟩
  rw [← hH]
  replace hS : va_S A s.heap H [] := by rw [hH]; exact va_S.rf
  replace hP : va_P (dC, dI) vwCl [(br, .inr (6, [.int 0, .int 4, .ref st, .null, .null, .int 0, .int 0, .int 0, .int 0, .int 1, .ref brf, .int 1]))] H := by rw [hH]; exact hP
  clear hH
  refine lv_aload_n hx hb dX5_first_0 rfl (lv_at hl 0 rfl) ?_
  have hPc := hP.sub (ws' := [(br, .inr (6, [.int 0, .int 4, .ref st, .null, .null, .int 0, .int 0, .int 0, .int 0, .int 1, .ref brf, .int 1]))]) [0] rfl
  have hDc := hD.sub (ws' := [(br, .inr (6, [.int 0, .int 4, .ref st, .null, .null, .int 0, .int 0, .int 0, .int 0, .int 1, .ref brf, .int 1]))]) [0] (by decide +kernel) rfl
  have hKc := hK.sub (tys' := []) [] rfl
  have hFc := ro_free hS hA
  refine va_calli (va_runV (As := []) (rest := []) ⟨hx, hb, hml, hown, hts⟩ (c_len_c1 l dC dI (br) (0) (4) (st) (brf) (0) (0) H.size) (cwV 0 hts g_c_first_yb_c_len_c1_82 rfl rfl rfl (by decide +kernel) ⟨Nat.le_of_ble_eq_true rfl, Nat.le_of_ble_eq_true rfl⟩) ⟨fun a U g mk q => by obtain ⟨q0, q1, qP, qK, qD, qE⟩ := q; exact ⟨q0, q1, qP, va_K.moved (u := U) (U := U.calling g mk a) (Vm.Alike.refl U.vm) qK, qD, ev.same (u := U) (U := U.calling g mk a) rfl qE⟩, va_recv hKc hPc (ci := 6) (q0 := 0) rfl rfl, fun U hU hW => ⟨rfl, by rw [hU], by rw [hU]; exact hPc, va_K.moved hW.alike hKc, hDc.weaken (fun _ _ _ _ => trivial), hE.warm hW⟩⟩ rfl rfl hl.1 rfl (lv_room (Nat.le_of_ble_eq_true rfl)) dX5_first_1 ⟨Nat.le_of_ble_eq_true rfl, Nat.le_of_ble_eq_true rfl⟩) hS (fun q _ h => hFc q h) hFc (fun r_1 u t H1 locs ht hvm hw hB hz1 hk1 hS => ?_)
  clear hPc hDc hKc
  replace hP := ro_keep hP hk1
  generalize H1 = H at hP hS ⊢
  replace hP : va_P (dC, dI) vwCl [(br, .inr (6, [.int 0, .int 4, .ref st, .null, .null, .int 0, .int 0, .int 0, .int 0, .int 1, .ref brf, .int 1]))] H := hP
  have hw := hw.symm
  subst hw
  refine lv_if_ne (tgt := 9) hx hb dX5_first_4 (by decide) (fun c_2 => ?_) (fun c_2 => ?_)
  rotate_left
  · exact absurd c_2 (by decide)
  refine lv_aload_n hx hb dX5_first_9 rfl (lv_at hl 0 rfl) ?_
  refine va_get (D := (dC, dI)) (ci := 6) (v := .int 1) (C := RX5) (T := TX5) (N := 12) hx hb hts in_c_first_yb_X5 hown hK hP 0 rfl rfl 11 (by decide) (hts (.fieldLink RX5 42 "ClaimBus$Row" "firstIsWritten" "Z") (List.mem_of_getElem? (i := 5) rfl)) (fun _ h9 => h9) rfl dX5_first_10 ?_
  refine lv_if_ne (tgt := 26) hx hb dX5_first_13 (by decide) (fun c_3 => ?_) (fun c_3 => ?_)
  rotate_left
  · exact absurd c_3 (by decide)
  refine lv_aload_n hx hb dX5_first_26 rfl (lv_at hl 0 rfl) ?_
  refine va_get (D := (dC, dI)) (ci := 6) (v := .ref brf) (C := RX5) (T := TX5) (N := 12) hx hb hts in_c_first_yb_X5 hown hK hP 0 rfl rfl 10 (by decide) (hts (.fieldLink RX5 38 "ClaimBus$Row" "first" "LClaimBus$Frame;") (List.mem_of_getElem? (i := 6) rfl)) (fun _ h9 => h9) rfl dX5_first_27 ?_
  exact W.aret (v := .ref brf) hx hb hr (Or.inl ⟨_, rfl⟩) (Or.inr ⟨_, rfl⟩) (fun t ht hW => ⟨⟨some brf, (), rfl, rfl, trivial⟩, hS.F ht⟩) hS.2.2 dX5_first_30

noncomputable def tl_c_first_xb : List Cond := v_c_len_e
noncomputable def v_c_first_xb : List Cond := .code yX5_first cX5_first 2 (some (.object "ClaimBus$Frame")) :: ([.initialized RX5, .methodLink RX5 82 yX5_length, .instanceMethod yX5_length, .selects RX5 yX5_length yX5_length] ++ tl_c_first_xb)
theorem it_c_first_xb : ∀ w ∈ tl_c_first_xb, w ∈ v_c_first_xb := fun w h => List.mem_cons_of_mem _ (List.mem_append_right _ h)
theorem ic_c_first_xb_c_len_e : ∀ w ∈ v_c_len_e, w ∈ v_c_first_xb := fun w h => it_c_first_xb w (h)
theorem gt_c_first_xb : ∀ w ∈ tl_c_first_xb, goodWord w = true := gw_c_len_e
theorem gw_c_first_xb : ∀ w ∈ v_c_first_xb, goodWord w = true := List.forall_mem_cons.mpr ⟨by decide +kernel, List.forall_mem_append.mpr ⟨List.all_eq_true.mp (by decide +kernel), gt_c_first_xb⟩⟩
theorem g_c_first_xb_c_len_e_82 : GoodIn v_c_first_xb (wsV RX5 82 RX5 yX5_length v_c_len_e) := goodIn_app (goodIn_r [.methodLink RX5 82 yX5_length, .instanceMethod yX5_length, .selects RX5 yX5_length yX5_length, .initialized RX5] [2, 3, 4, 1] (by decide +kernel) (by decide +kernel)) (fun w h => ⟨ic_c_first_xb_c_len_e w h, good_of_word (gw_c_len_e w h)⟩)
set_option maxHeartbeats 4000000 in
set_option maxRecDepth 100000 in
theorem c_first_xb (l : Launch) (dC : Nat → ClassId) (dI : Nat → Nat → Nat) (br : Nat) (brf : Nat) (st : Nat) (sz : Nat)  : Met l yX5_first v_c_first_xb ({ frames := 1, cells := 0, slots := 0, locals := 20 }) (va_Pc [.ref br, .int 200] (fun U => U.heap.size = sz ∧ va_P (dC, dI) vwCl [(br, .inr (6, [.int 0, .int 4, .ref st, .null, .null, .int 0, .int 0, .int 0, .int 0, .int 0, .ref brf, .int 0]))] U.heap ∧ va_K (dC, dI) vwCl [] U ∧ va_D (fun _ => True) [(br, .inr (6, [.int 0, .int 4, .ref st, .null, .null, .int 0, .int 0, .int 0, .int 0, .int 0, .ref brf, .int 0]))] ∧ ev U)) (va_Qq (fun (r : Option Nat) (_ : Unit) => r = none) (fun (_ : Unit) (_ : State) => True) (va_A [] sz)) 0 0 (va_A [] sz) := by
  refine Met.ofW (cc := cX5_first) (maxL := 2) (ret := (some (.object "ClaimBus$Frame"))) (by decide) rfl ?_
  intro p e s m args below meth c s₁ B hml hv
  obtain ⟨rfl, hsz, hP, hK, hD0, hE⟩ := hv
  have hx := B.exec
  have hb := B.bytes
  have hr := B.returns
  have hts := atoms_spec (ws := v_c_first_xb) B.pre
  have hown : s.vm.findClass RX5 = some m.cls := findClass_of_methodNamed B.named
  have hlocks := B.notSynchronized
  subst hsz
  have hD := hD0
  generalize hAe : va_A [] s.heap.size = A
  have hA : ∀ q : Nat, s.heap.size ≤ q → A q := fun q h => by rw [← hAe]; exact Or.inr h
  have hS : va_S A s.heap s.heap [] := va_S.rf
  replace hP : va_P (dC, dI) vwCl [(br, .inr (6, [.int 0, .int 4, .ref st, .null, .null, .int 0, .int 0, .int 0, .int 0, .int 0, .ref brf, .int 0]))] s.heap := hP
  have hl := lv_entry ([.ref br, .int 200]) (n := 2) (Nat.le_of_ble_eq_true rfl)
  rw [lg_entry_eq]
  generalize (lg_sl ([.ref br, .int 200]) ++ List.replicate (2 - (lg_sl ([.ref br, .int 200])).length) Slot.unset).toArray = ls at hl ⊢
  replace hl : lv_has ls 2 [(0, .ref br), (1, .int 200)] := hl
  obtain ⟨H, hH⟩ : ∃ z : Heap, z = s.heap := ⟨_, rfl⟩
  rw [← hH]
  replace hS : va_S A s.heap H [] := by rw [hH]; exact va_S.rf
  replace hP : va_P (dC, dI) vwCl [(br, .inr (6, [.int 0, .int 4, .ref st, .null, .null, .int 0, .int 0, .int 0, .int 0, .int 0, .ref brf, .int 0]))] H := by rw [hH]; exact hP
  clear hH
  refine lv_aload_n hx hb dX5_first_0 rfl (lv_at hl 0 rfl) ?_
  have hPc := hP.sub (ws' := [(br, .inr (6, [.int 0, .int 4, .ref st, .null, .null, .int 0, .int 0, .int 0, .int 0, .int 0, .ref brf, .int 0]))]) [0] rfl
  have hDc := hD.sub (ws' := [(br, .inr (6, [.int 0, .int 4, .ref st, .null, .null, .int 0, .int 0, .int 0, .int 0, .int 0, .ref brf, .int 0]))]) [0] (by decide +kernel) rfl
  have hKc := hK.sub (tys' := []) [] rfl
  have hFc := ro_free hS hA
  refine va_calli (va_runV (As := []) (rest := []) ⟨hx, hb, hml, hown, hts⟩ (c_len_e l dC dI (br) (0) (4) (st) (brf) (0) (0) H.size) (cwV 0 hts g_c_first_xb_c_len_e_82 rfl rfl rfl (by decide +kernel) ⟨Nat.le_of_ble_eq_true rfl, Nat.le_of_ble_eq_true rfl⟩) ⟨fun a U g mk q => by obtain ⟨q0, q1, qP, qK, qD, qE⟩ := q; exact ⟨q0, q1, qP, va_K.moved (u := U) (U := U.calling g mk a) (Vm.Alike.refl U.vm) qK, qD, ev.same (u := U) (U := U.calling g mk a) rfl qE⟩, va_recv hKc hPc (ci := 6) (q0 := 0) rfl rfl, fun U hU hW => ⟨rfl, by rw [hU], by rw [hU]; exact hPc, va_K.moved hW.alike hKc, hDc.weaken (fun _ _ _ _ => trivial), hE.warm hW⟩⟩ rfl rfl hl.1 rfl (lv_room (Nat.le_of_ble_eq_true rfl)) dX5_first_1 ⟨Nat.le_of_ble_eq_true rfl, Nat.le_of_ble_eq_true rfl⟩) hS (fun q _ h => hFc q h) hFc (fun r_1 u t H1 locs ht hvm hw hB hz1 hk1 hS => ?_)
  clear hPc hDc hKc
  replace hP := ro_keep hP hk1
  generalize H1 = H at hP hS ⊢
  replace hP : va_P (dC, dI) vwCl [(br, .inr (6, [.int 0, .int 4, .ref st, .null, .null, .int 0, .int 0, .int 0, .int 0, .int 0, .ref brf, .int 0]))] H := hP
  have hw := hw.symm
  subst hw
  refine lv_if_ne (tgt := 9) hx hb dX5_first_4 (by decide) (fun c_2 => ?_) (fun c_2 => ?_)
  · exact absurd c_2 (by decide)
  refine lv_null hx hb dX5_first_7 ?_
  exact W.aret (v := .null) hx hb hr (Or.inl ⟨_, rfl⟩) (Or.inl rfl) (fun t ht hW => ⟨⟨none, (), rfl, rfl, trivial⟩, hS.F ht⟩) hS.2.2 dX5_first_8

noncomputable def tl_c_removeFirst_zb : List Cond := wsX50
noncomputable def v_c_removeFirst_zb : List Cond := .code yX5_removeFirst cX5_removeFirst 1 none :: ([.fieldLink RX5 42 "ClaimBus$Row" "firstIsWritten" "Z", .fieldLink RX5 31 "ClaimBus$Row" "claimWaits" "Z"] ++ tl_c_removeFirst_zb)
theorem it_c_removeFirst_zb : ∀ w ∈ tl_c_removeFirst_zb, w ∈ v_c_removeFirst_zb := fun w h => List.mem_cons_of_mem _ (List.mem_append_right _ h)
theorem in_c_removeFirst_zb_X5 : ∀ w ∈ wsX50, w ∈ v_c_removeFirst_zb := fun w h => it_c_removeFirst_zb w (h)
theorem gt_c_removeFirst_zb : ∀ w ∈ tl_c_removeFirst_zb, goodWord w = true := gw_wsX50
theorem gw_c_removeFirst_zb : ∀ w ∈ v_c_removeFirst_zb, goodWord w = true := List.forall_mem_cons.mpr ⟨by decide +kernel, List.forall_mem_append.mpr ⟨List.all_eq_true.mp (by decide +kernel), gt_c_removeFirst_zb⟩⟩
set_option maxHeartbeats 4000000 in
set_option maxRecDepth 100000 in
theorem c_removeFirst_zb (l : Launch) (dC : Nat → ClassId) (dI : Nat → Nat → Nat) (br : Nat) (brf : Nat) (st : Nat) (sz : Nat)  : Met l yX5_removeFirst v_c_removeFirst_zb ({ frames := 0, cells := 0, slots := 0, locals := 0 }) (va_Pc [.ref br] (fun U => U.heap.size = sz ∧ va_P (dC, dI) vwCl [(br, .inr (6, [.int 0, .int 4, .ref st, .null, .null, .int 0, .int 0, .int 0, .int 0, .int 1, .ref brf, .int 1]))] U.heap ∧ va_K (dC, dI) vwCl [] U ∧ va_D (fun _ => True) [(br, .inr (6, [.int 0, .int 4, .ref st, .null, .null, .int 0, .int 0, .int 0, .int 0, .int 1, .ref brf, .int 1]))] ∧ ev U)) (va_Qv (fun _ : Unit => True) (fun (_ : Unit) (t : State) => va_P (dC, dI) vwCl [(br, .inr (6, [.int 0, .int 4, .ref st, .null, .null, .int 0, .int 0, .int 0, .int 0, .int 0, .ref brf, .int 0]))] t.heap ∧ va_K (dC, dI) vwCl [] t ∧ va_D (va_A [(br, .inr (6, [.int 0, .int 4, .ref st, .null, .null, .int 0, .int 0, .int 0, .int 0, .int 1, .ref brf, .int 1]))] sz) [(br, .inr (6, [.int 0, .int 4, .ref st, .null, .null, .int 0, .int 0, .int 0, .int 0, .int 0, .ref brf, .int 0]))]) (va_A [(br, .inr (6, [.int 0, .int 4, .ref st, .null, .null, .int 0, .int 0, .int 0, .int 0, .int 1, .ref brf, .int 1]))] sz)) 0 0 (va_A [(br, .inr (6, [.int 0, .int 4, .ref st, .null, .null, .int 0, .int 0, .int 0, .int 0, .int 1, .ref brf, .int 1]))] sz) := by
  refine Met.ofW (cc := cX5_removeFirst) (maxL := 1) (ret := none) (by decide) rfl ?_
  intro p e s m args below meth c s₁ B hml hv
  obtain ⟨rfl, hsz, hP, hK, hD0, hE⟩ := hv
  have hx := B.exec
  have hb := B.bytes
  have hr := B.returns
  have hts := atoms_spec (ws := v_c_removeFirst_zb) B.pre
  have hown : s.vm.findClass RX5 = some m.cls := findClass_of_methodNamed B.named
  have hlocks := B.notSynchronized
  subst hsz
  have hD := hD0.self (sz := s.heap.size)
  generalize hAe : va_A [(br, .inr (6, [.int 0, .int 4, .ref st, .null, .null, .int 0, .int 0, .int 0, .int 0, .int 1, .ref brf, .int 1]))] s.heap.size = A at hD ⊢
  have hA : ∀ q : Nat, s.heap.size ≤ q → A q := fun q h => by rw [← hAe]; exact Or.inr h
  have hS : va_S A s.heap s.heap [] := va_S.rf
  replace hP : va_P (dC, dI) vwCl [(br, .inr (6, [.int 0, .int 4, .ref st, .null, .null, .int 0, .int 0, .int 0, .int 0, .int 1, .ref brf, .int 1]))] s.heap := hP
  have hl := lv_entry ([.ref br]) (n := 1) (Nat.le_of_ble_eq_true rfl)
  rw [lg_entry_eq]
  generalize (lg_sl ([.ref br]) ++ List.replicate (1 - (lg_sl ([.ref br])).length) Slot.unset).toArray = ls at hl ⊢
  replace hl : lv_has ls 1 [(0, .ref br)] := hl
  obtain ⟨H, hH⟩ : ∃ z : Heap, z = s.heap := ⟨_, rfl⟩
  rw [← hH]
  replace hS : va_S A s.heap H [] := by rw [hH]; exact va_S.rf
  replace hP : va_P (dC, dI) vwCl [(br, .inr (6, [.int 0, .int 4, .ref st, .null, .null, .int 0, .int 0, .int 0, .int 0, .int 1, .ref brf, .int 1]))] H := by rw [hH]; exact hP
  clear hH
  refine lv_aload_n hx hb dX5_removeFirst_0 rfl (lv_at hl 0 rfl) ?_
  refine lv_iconst (v := 0) hx hb dX5_removeFirst_1 (by decide) ?_
  refine va_put (D := (dC, dI)) (ci := 6) (v := .int 0) (ty := .boolean) (C := RX5) (T := TX5) (N := 12) hx hb hts in_c_removeFirst_zb_X5 tyX5 tyX5_ok nmX5 hown hK hP hD hS 0 rfl rfl 11 (by decide) (hts (.fieldLink RX5 42 "ClaimBus$Row" "firstIsWritten" "Z") (List.mem_of_getElem? (i := 1) rfl)) (fun _ h9 => h9) rfl (by decide +kernel) rfl rfl (Nat.le_of_ble_eq_true rfl) dX5_removeFirst_2 (fun H locs hP hD hS => ?_)
  replace hP : va_P (dC, dI) vwCl [(br, .inr (6, [.int 0, .int 4, .ref st, .null, .null, .int 0, .int 0, .int 0, .int 0, .int 1, .ref brf, .int 0]))] H := hP
  replace hD : va_D A [(br, .inr (6, [.int 0, .int 4, .ref st, .null, .null, .int 0, .int 0, .int 0, .int 0, .int 1, .ref brf, .int 0]))] := hD
  refine lv_aload_n hx hb dX5_removeFirst_5 rfl (lv_at hl 0 rfl) ?_
  refine va_get (D := (dC, dI)) (ci := 6) (v := .int 1) (C := RX5) (T := TX5) (N := 12) hx hb hts in_c_removeFirst_zb_X5 hown hK hP 0 rfl rfl 9 (by decide) (hts (.fieldLink RX5 31 "ClaimBus$Row" "claimWaits" "Z") (List.mem_of_getElem? (i := 2) rfl)) (fun _ h9 => h9) rfl dX5_removeFirst_6 ?_
  refine lv_if_eq (tgt := 20) hx hb dX5_removeFirst_9 (by decide) (fun c_1 => ?_) (fun c_1 => ?_)
  · exact absurd c_1 (by decide)
  refine lv_aload_n hx hb dX5_removeFirst_12 rfl (lv_at hl 0 rfl) ?_
  refine lv_iconst (v := 0) hx hb dX5_removeFirst_13 (by decide) ?_
  refine va_put (D := (dC, dI)) (ci := 6) (v := .int 0) (ty := .boolean) (C := RX5) (T := TX5) (N := 12) hx hb hts in_c_removeFirst_zb_X5 tyX5 tyX5_ok nmX5 hown hK hP hD hS 0 rfl rfl 9 (by decide) (hts (.fieldLink RX5 31 "ClaimBus$Row" "claimWaits" "Z") (List.mem_of_getElem? (i := 2) rfl)) (fun _ h9 => h9) rfl (by decide +kernel) rfl rfl (Nat.le_of_ble_eq_true rfl) dX5_removeFirst_14 (fun H locs hP hD hS => ?_)
  replace hP : va_P (dC, dI) vwCl [(br, .inr (6, [.int 0, .int 4, .ref st, .null, .null, .int 0, .int 0, .int 0, .int 0, .int 0, .ref brf, .int 0]))] H := hP
  replace hD : va_D A [(br, .inr (6, [.int 0, .int 4, .ref st, .null, .null, .int 0, .int 0, .int 0, .int 0, .int 0, .ref brf, .int 0]))] := hD
  refine lv_goto (tgt := 57) hx hb dX5_removeFirst_17 (by decide) ?_
  have hP9 := hP.sub (ws' := [(br, .inr (6, [.int 0, .int 4, .ref st, .null, .null, .int 0, .int 0, .int 0, .int 0, .int 0, .ref brf, .int 0]))]) [0] rfl
  have hD9 := hD.sub (ws' := [(br, .inr (6, [.int 0, .int 4, .ref st, .null, .null, .int 0, .int 0, .int 0, .int 0, .int 0, .ref brf, .int 0]))]) [0] (by decide +kernel) rfl
  have hK9 := hK.sub (tys' := []) [] rfl
  exact W.vret hx hb hr (fun t ht hW => ⟨⟨(), rfl, trivial, ⟨by rw [ht]; exact hP9, va_K.moved hW.alike hK9, hD9⟩⟩, hS.F ht⟩) hS.2.2 dX5_removeFirst_57

noncomputable def tl_c_fwc_zb : List Cond := wsX40 ++ (v_c_removeFirst_zb)
noncomputable def v_c_fwc_zb : List Cond := .code yX4_frameWasCarried cX4_frameWasCarried 3 none :: ([.fieldLink RX4 89 "ClaimBus$Node" "row" "LClaimBus$Row;", .initialized RX5, .methodLink RX4 143 yX5_removeFirst, .instanceMethod yX5_removeFirst, .selects RX5 yX5_removeFirst yX5_removeFirst, .fieldLink RX4 56 "ClaimBus$Node" "claimCarriedAt" "I"] ++ tl_c_fwc_zb)
theorem it_c_fwc_zb : ∀ w ∈ tl_c_fwc_zb, w ∈ v_c_fwc_zb := fun w h => List.mem_cons_of_mem _ (List.mem_append_right _ h)
theorem in_c_fwc_zb_X4 : ∀ w ∈ wsX40, w ∈ v_c_fwc_zb := fun w h => it_c_fwc_zb w (List.mem_append_left _ h)
theorem ic_c_fwc_zb_c_removeFirst_zb : ∀ w ∈ v_c_removeFirst_zb, w ∈ v_c_fwc_zb := fun w h => it_c_fwc_zb w (List.mem_append_right _ (h))
theorem gt_c_fwc_zb : ∀ w ∈ tl_c_fwc_zb, goodWord w = true := List.forall_mem_append.mpr ⟨gw_wsX40, gw_c_removeFirst_zb⟩
theorem gw_c_fwc_zb : ∀ w ∈ v_c_fwc_zb, goodWord w = true := List.forall_mem_cons.mpr ⟨by decide +kernel, List.forall_mem_append.mpr ⟨List.all_eq_true.mp (by decide +kernel), gt_c_fwc_zb⟩⟩
theorem g_c_fwc_zb_c_removeFirst_zb_143 : GoodIn v_c_fwc_zb (wsV RX4 143 RX5 yX5_removeFirst v_c_removeFirst_zb) := goodIn_app (goodIn_r [.methodLink RX4 143 yX5_removeFirst, .instanceMethod yX5_removeFirst, .selects RX5 yX5_removeFirst yX5_removeFirst, .initialized RX5] [3, 4, 5, 2] (by decide +kernel) (by decide +kernel)) (fun w h => ⟨ic_c_fwc_zb_c_removeFirst_zb w h, good_of_word (gw_c_removeFirst_zb w h)⟩)
set_option maxHeartbeats 4000000 in
set_option maxRecDepth 100000 in
theorem c_fwc_zb (l : Launch) (dC : Nat → ClassId) (dI : Nat → Nat → Nat) (bn : Nat) (br : Nat) (be : Nat) (bs : Nat) (bi : Nat) (bg : Nat) (bc : Nat) (bu : Nat) (bwi : Nat) (st : Nat) (brf : Nat) (tm : Nat) (sz : Nat)  : Met l yX4_frameWasCarried v_c_fwc_zb ({ frames := 1, cells := 0, slots := 0, locals := 20 }) (va_Pc [.ref bn, .int 1, .int (nI tm)] (fun U => U.heap.size = sz ∧ va_P (dC, dI) vwCl [(bn, .inr (5, [.int 0, .int 4, .int 200, .int 1, .int (nI bwi), .ref br, .ref be, .ref bs, .ref bi, .ref bg, .ref bc, .ref bu, .int 0, .int 1, .int 200, .int (-1), .int 0, .int 0])), (br, .inr (6, [.int 0, .int 4, .ref st, .null, .null, .int 0, .int 0, .int 0, .int 0, .int 1, .ref brf, .int 1]))] U.heap ∧ va_K (dC, dI) vwCl [] U ∧ va_D (fun _ => True) [(bn, .inr (5, [.int 0, .int 4, .int 200, .int 1, .int (nI bwi), .ref br, .ref be, .ref bs, .ref bi, .ref bg, .ref bc, .ref bu, .int 0, .int 1, .int 200, .int (-1), .int 0, .int 0])), (br, .inr (6, [.int 0, .int 4, .ref st, .null, .null, .int 0, .int 0, .int 0, .int 0, .int 1, .ref brf, .int 1]))] ∧ ev U)) (va_Qv (fun _ : Unit => True) (fun (_ : Unit) (t : State) => va_P (dC, dI) vwCl [(bn, .inr (5, [.int 0, .int 4, .int 200, .int 1, .int (nI bwi), .ref br, .ref be, .ref bs, .ref bi, .ref bg, .ref bc, .ref bu, .int 0, .int 1, .int 200, .int (nI tm), .int 0, .int 0])), (br, .inr (6, [.int 0, .int 4, .ref st, .null, .null, .int 0, .int 0, .int 0, .int 0, .int 0, .ref brf, .int 0]))] t.heap ∧ va_K (dC, dI) vwCl [] t ∧ va_D (va_A [(bn, .inr (5, [.int 0, .int 4, .int 200, .int 1, .int (nI bwi), .ref br, .ref be, .ref bs, .ref bi, .ref bg, .ref bc, .ref bu, .int 0, .int 1, .int 200, .int (-1), .int 0, .int 0])), (br, .inr (6, [.int 0, .int 4, .ref st, .null, .null, .int 0, .int 0, .int 0, .int 0, .int 1, .ref brf, .int 1]))] sz) [(bn, .inr (5, [.int 0, .int 4, .int 200, .int 1, .int (nI bwi), .ref br, .ref be, .ref bs, .ref bi, .ref bg, .ref bc, .ref bu, .int 0, .int 1, .int 200, .int (nI tm), .int 0, .int 0])), (br, .inr (6, [.int 0, .int 4, .ref st, .null, .null, .int 0, .int 0, .int 0, .int 0, .int 0, .ref brf, .int 0]))]) (va_A [(bn, .inr (5, [.int 0, .int 4, .int 200, .int 1, .int (nI bwi), .ref br, .ref be, .ref bs, .ref bi, .ref bg, .ref bc, .ref bu, .int 0, .int 1, .int 200, .int (-1), .int 0, .int 0])), (br, .inr (6, [.int 0, .int 4, .ref st, .null, .null, .int 0, .int 0, .int 0, .int 0, .int 1, .ref brf, .int 1]))] sz)) 0 0 (va_A [(bn, .inr (5, [.int 0, .int 4, .int 200, .int 1, .int (nI bwi), .ref br, .ref be, .ref bs, .ref bi, .ref bg, .ref bc, .ref bu, .int 0, .int 1, .int 200, .int (-1), .int 0, .int 0])), (br, .inr (6, [.int 0, .int 4, .ref st, .null, .null, .int 0, .int 0, .int 0, .int 0, .int 1, .ref brf, .int 1]))] sz) := by
  refine Met.ofW (cc := cX4_frameWasCarried) (maxL := 3) (ret := none) (by decide) rfl ?_
  intro p e s m args below meth c s₁ B hml hv
  obtain ⟨rfl, hsz, hP, hK, hD0, hE⟩ := hv
  have hx := B.exec
  have hb := B.bytes
  have hr := B.returns
  have hts := atoms_spec (ws := v_c_fwc_zb) B.pre
  have hown : s.vm.findClass RX4 = some m.cls := findClass_of_methodNamed B.named
  have hlocks := B.notSynchronized
  subst hsz
  have hD := hD0.self (sz := s.heap.size)
  generalize hAe : va_A [(bn, .inr (5, [.int 0, .int 4, .int 200, .int 1, .int (nI bwi), .ref br, .ref be, .ref bs, .ref bi, .ref bg, .ref bc, .ref bu, .int 0, .int 1, .int 200, .int (-1), .int 0, .int 0])), (br, .inr (6, [.int 0, .int 4, .ref st, .null, .null, .int 0, .int 0, .int 0, .int 0, .int 1, .ref brf, .int 1]))] s.heap.size = A at hD ⊢
  have hA : ∀ q : Nat, s.heap.size ≤ q → A q := fun q h => by rw [← hAe]; exact Or.inr h
  have hS : va_S A s.heap s.heap [] := va_S.rf
  replace hP : va_P (dC, dI) vwCl [(bn, .inr (5, [.int 0, .int 4, .int 200, .int 1, .int (nI bwi), .ref br, .ref be, .ref bs, .ref bi, .ref bg, .ref bc, .ref bu, .int 0, .int 1, .int 200, .int (-1), .int 0, .int 0])), (br, .inr (6, [.int 0, .int 4, .ref st, .null, .null, .int 0, .int 0, .int 0, .int 0, .int 1, .ref brf, .int 1]))] s.heap := hP
  have hl := lv_entry ([.ref bn, .int 1, .int (nI tm)]) (n := 3) (Nat.le_of_ble_eq_true rfl)
  rw [lg_entry_eq]
  generalize (lg_sl ([.ref bn, .int 1, .int (nI tm)]) ++ List.replicate (3 - (lg_sl ([.ref bn, .int 1, .int (nI tm)])).length) Slot.unset).toArray = ls at hl ⊢
  replace hl : lv_has ls 3 [(0, .ref bn), (1, .int 1), (2, .int (nI tm))] := hl
  obtain ⟨H, hH⟩ : ∃ z : Heap, z = s.heap := ⟨_, rfl⟩
  rw [← hH]
  replace hS : va_S A s.heap H [] := by rw [hH]; exact va_S.rf
  replace hP : va_P (dC, dI) vwCl [(bn, .inr (5, [.int 0, .int 4, .int 200, .int 1, .int (nI bwi), .ref br, .ref be, .ref bs, .ref bi, .ref bg, .ref bc, .ref bu, .int 0, .int 1, .int 200, .int (-1), .int 0, .int 0])), (br, .inr (6, [.int 0, .int 4, .ref st, .null, .null, .int 0, .int 0, .int 0, .int 0, .int 1, .ref brf, .int 1]))] H := by rw [hH]; exact hP
  clear hH
  refine lv_aload_n hx hb dX4_frameWasCarried_0 rfl (lv_at hl 0 rfl) ?_
  refine va_get (D := (dC, dI)) (ci := 5) (v := .ref br) (C := RX4) (T := TX4) (N := 18) hx hb hts in_c_fwc_zb_X4 hown hK hP 0 rfl rfl 5 (by decide) (hts (.fieldLink RX4 89 "ClaimBus$Node" "row" "LClaimBus$Row;") (List.mem_of_getElem? (i := 1) rfl)) (fun _ h9 => h9) rfl dX4_frameWasCarried_1 ?_
  have hPc := hP.sub (ws' := [(br, .inr (6, [.int 0, .int 4, .ref st, .null, .null, .int 0, .int 0, .int 0, .int 0, .int 1, .ref brf, .int 1]))]) [1] rfl
  have hDc := hD.sub (ws' := [(br, .inr (6, [.int 0, .int 4, .ref st, .null, .null, .int 0, .int 0, .int 0, .int 0, .int 1, .ref brf, .int 1]))]) [1] (by decide +kernel) rfl
  have hKc := hK.sub (tys' := []) [] rfl
  have hFc := va_free (wc := [(br, .inr (6, [.int 0, .int 4, .ref st, .null, .null, .int 0, .int 0, .int 0, .int 0, .int 1, .ref brf, .int 1]))]) hD hS hA [1] rfl
  refine va_callv (va_runV (As := []) (rest := []) ⟨hx, hb, hml, hown, hts⟩ (c_removeFirst_zb l dC dI (br) (brf) (st) H.size) (cwV 0 hts g_c_fwc_zb_c_removeFirst_zb_143 rfl rfl rfl (by decide +kernel) ⟨Nat.le_of_ble_eq_true rfl, Nat.le_of_ble_eq_true rfl⟩) ⟨fun a U g mk q => by obtain ⟨q0, q1, qP, qK, qD, qE⟩ := q; exact ⟨q0, q1, qP, va_K.moved (u := U) (U := U.calling g mk a) (Vm.Alike.refl U.vm) qK, qD, ev.same (u := U) (U := U.calling g mk a) rfl qE⟩, va_recv hKc hPc (ci := 6) (q0 := 0) rfl rfl, fun U hU hW => ⟨rfl, by rw [hU], by rw [hU]; exact hPc, va_K.moved hW.alike hKc, hDc.weaken (fun _ _ _ _ => trivial), hE.warm hW⟩⟩ rfl rfl hl.1 rfl (lv_room (Nat.le_of_ble_eq_true rfl)) dX4_frameWasCarried_4 ⟨Nat.le_of_ble_eq_true rfl, Nat.le_of_ble_eq_true rfl⟩) hS (fun q _ h => hFc q h) hFc (fun u t H1 locs ht hvm hw hB hz1 hk1 hS => ?_)
  clear hPc hDc hKc
  obtain ⟨hP1, hK1, hD1⟩ := hB
  rw [ht] at hP1
  have hK1 := va_K.moved hvm.symm hK1
  obtain ⟨hP, hD⟩ := va_join (wr := [(bn, .inr (5, [.int 0, .int 4, .int 200, .int 1, .int (nI bwi), .ref br, .ref be, .ref bs, .ref bi, .ref bg, .ref bc, .ref bu, .int 0, .int 1, .int 200, .int (-1), .int 0, .int 0]))]) (w1 := [(br, .inr (6, [.int 0, .int 4, .ref st, .null, .null, .int 0, .int 0, .int 0, .int 0, .int 0, .ref brf, .int 0]))]) hP hD [1] [0] rfl rfl (by decide +kernel) (by decide +kernel) hk1 hFc hP1 hD1
  generalize H1 = H at hP hS ⊢
  replace hP : va_P (dC, dI) vwCl [(bn, .inr (5, [.int 0, .int 4, .int 200, .int 1, .int (nI bwi), .ref br, .ref be, .ref bs, .ref bi, .ref bg, .ref bc, .ref bu, .int 0, .int 1, .int 200, .int (-1), .int 0, .int 0])), (br, .inr (6, [.int 0, .int 4, .ref st, .null, .null, .int 0, .int 0, .int 0, .int 0, .int 0, .ref brf, .int 0]))] H := hP
  replace hD : va_D A [(bn, .inr (5, [.int 0, .int 4, .int 200, .int 1, .int (nI bwi), .ref br, .ref be, .ref bs, .ref bi, .ref bg, .ref bc, .ref bu, .int 0, .int 1, .int 200, .int (-1), .int 0, .int 0])), (br, .inr (6, [.int 0, .int 4, .ref st, .null, .null, .int 0, .int 0, .int 0, .int 0, .int 0, .ref brf, .int 0]))] := hD
  clear hw
  refine lv_iload_n hx hb dX4_frameWasCarried_7 rfl (lv_at hl 1 rfl) ?_
  refine lv_if_eq (tgt := 16) hx hb dX4_frameWasCarried_8 (by decide) (fun c_2 => ?_) (fun c_2 => ?_)
  · exact absurd c_2 (by decide)
  refine lv_aload_n hx hb dX4_frameWasCarried_11 rfl (lv_at hl 0 rfl) ?_
  refine lv_iload_n hx hb dX4_frameWasCarried_12 rfl (lv_at hl 2 rfl) ?_
  refine va_put (D := (dC, dI)) (ci := 5) (v := .int (nI tm)) (ty := .int) (C := RX4) (T := TX4) (N := 18) hx hb hts in_c_fwc_zb_X4 tyX4 tyX4_ok nmX4 hown hK hP hD hS 0 rfl rfl 15 (by decide) (hts (.fieldLink RX4 56 "ClaimBus$Node" "claimCarriedAt" "I") (List.mem_of_getElem? (i := 6) rfl)) (fun _ h9 => h9) rfl (by decide +kernel) rfl rfl (Nat.le_of_ble_eq_true rfl) dX4_frameWasCarried_13 (fun H locs hP hD hS => ?_)
  replace hP : va_P (dC, dI) vwCl [(bn, .inr (5, [.int 0, .int 4, .int 200, .int 1, .int (nI bwi), .ref br, .ref be, .ref bs, .ref bi, .ref bg, .ref bc, .ref bu, .int 0, .int 1, .int 200, .int (nI tm), .int 0, .int 0])), (br, .inr (6, [.int 0, .int 4, .ref st, .null, .null, .int 0, .int 0, .int 0, .int 0, .int 0, .ref brf, .int 0]))] H := hP
  replace hD : va_D A [(bn, .inr (5, [.int 0, .int 4, .int 200, .int 1, .int (nI bwi), .ref br, .ref be, .ref bs, .ref bi, .ref bg, .ref bc, .ref bu, .int 0, .int 1, .int 200, .int (nI tm), .int 0, .int 0])), (br, .inr (6, [.int 0, .int 4, .ref st, .null, .null, .int 0, .int 0, .int 0, .int 0, .int 0, .ref brf, .int 0]))] := hD
  have hP9 := hP.sub (ws' := [(bn, .inr (5, [.int 0, .int 4, .int 200, .int 1, .int (nI bwi), .ref br, .ref be, .ref bs, .ref bi, .ref bg, .ref bc, .ref bu, .int 0, .int 1, .int 200, .int (nI tm), .int 0, .int 0])), (br, .inr (6, [.int 0, .int 4, .ref st, .null, .null, .int 0, .int 0, .int 0, .int 0, .int 0, .ref brf, .int 0]))]) [0, 1] rfl
  have hD9 := hD.sub (ws' := [(bn, .inr (5, [.int 0, .int 4, .int 200, .int 1, .int (nI bwi), .ref br, .ref be, .ref bs, .ref bi, .ref bg, .ref bc, .ref bu, .int 0, .int 1, .int 200, .int (nI tm), .int 0, .int 0])), (br, .inr (6, [.int 0, .int 4, .ref st, .null, .null, .int 0, .int 0, .int 0, .int 0, .int 0, .ref brf, .int 0]))]) [0, 1] (by decide +kernel) rfl
  have hK9 := hK.sub (tys' := []) [] rfl
  exact W.vret hx hb hr (fun t ht hW => ⟨⟨(), rfl, trivial, ⟨by rw [ht]; exact hP9, va_K.moved hW.alike hK9, hD9⟩⟩, hS.F ht⟩) hS.2.2 dX4_frameWasCarried_16

noncomputable def tl_c_goesBefore_n : List Cond := wsX10
noncomputable def v_c_goesBefore_n : List Cond := .code yX1_goesBefore cX1_goesBefore 3 (some .boolean) :: ([.fieldLink RX1 9 "ClaimBus$Frame" "identifier" "I"] ++ tl_c_goesBefore_n)
theorem it_c_goesBefore_n : ∀ w ∈ tl_c_goesBefore_n, w ∈ v_c_goesBefore_n := fun w h => List.mem_cons_of_mem _ (List.mem_append_right _ h)
theorem in_c_goesBefore_n_X1 : ∀ w ∈ wsX10, w ∈ v_c_goesBefore_n := fun w h => it_c_goesBefore_n w (h)
theorem gt_c_goesBefore_n : ∀ w ∈ tl_c_goesBefore_n, goodWord w = true := gw_wsX10
theorem gw_c_goesBefore_n : ∀ w ∈ v_c_goesBefore_n, goodWord w = true := List.forall_mem_cons.mpr ⟨by decide +kernel, List.forall_mem_append.mpr ⟨List.all_eq_true.mp (by decide +kernel), gt_c_goesBefore_n⟩⟩
set_option maxHeartbeats 4000000 in
set_option maxRecDepth 100000 in
theorem c_goesBefore_n (l : Launch) (dC : Nat → ClassId) (dI : Nat → Nat → Nat) (h0 : Nat) (h1 : Nat) (sz : Nat)  : Met l yX1_goesBefore v_c_goesBefore_n ({ frames := 0, cells := 0, slots := 0, locals := 0 }) (va_Pc [.ref h0, .ref h1] (fun U => U.heap.size = sz ∧ va_P (dC, dI) vwCl [(h0, .inr (2, [.int 418316232, .int 4, .int 0, .null])), (h1, .inr (2, [.int 418316042, .int 5, .int 0, .null]))] U.heap ∧ va_K (dC, dI) vwCl [] U ∧ va_D (fun _ => True) [(h0, .inr (2, [.int 418316232, .int 4, .int 0, .null])), (h1, .inr (2, [.int 418316042, .int 5, .int 0, .null]))] ∧ ev U)) (va_Qi (fun (r : Int32) (_ : Unit) => r = 0) (fun (_ : Unit) (_ : State) => True) (va_A [] sz)) 0 0 (va_A [] sz) := by
  refine Met.ofW (cc := cX1_goesBefore) (maxL := 3) (ret := (some .boolean)) (by decide) rfl ?_
  intro p e s m args below meth c s₁ B hml hv
  obtain ⟨rfl, hsz, hP, hK, hD0, hE⟩ := hv
  have hx := B.exec
  have hb := B.bytes
  have hr := B.returns
  have hts := atoms_spec (ws := v_c_goesBefore_n) B.pre
  have hown : s.vm.findClass RX1 = some m.cls := findClass_of_methodNamed B.named
  have hlocks := B.notSynchronized
  subst hsz
  have hD := hD0
  generalize hAe : va_A [] s.heap.size = A
  have hA : ∀ q : Nat, s.heap.size ≤ q → A q := fun q h => by rw [← hAe]; exact Or.inr h
  have hS : va_S A s.heap s.heap [] := va_S.rf
  replace hP : va_P (dC, dI) vwCl [(h0, .inr (2, [.int 418316232, .int 4, .int 0, .null])), (h1, .inr (2, [.int 418316042, .int 5, .int 0, .null]))] s.heap := hP
  have hl := lv_entry ([.ref h0, .ref h1]) (n := 3) (Nat.le_of_ble_eq_true rfl)
  rw [lg_entry_eq]
  generalize (lg_sl ([.ref h0, .ref h1]) ++ List.replicate (3 - (lg_sl ([.ref h0, .ref h1])).length) Slot.unset).toArray = ls at hl ⊢
  replace hl : lv_has ls 3 [(0, .ref h0), (1, .ref h1)] := hl
  obtain ⟨H, hH⟩ : ∃ z : Heap, z = s.heap := ⟨_, rfl⟩
  rw [← hH]
  replace hS : va_S A s.heap H [] := by rw [hH]; exact va_S.rf
  replace hP : va_P (dC, dI) vwCl [(h0, .inr (2, [.int 418316232, .int 4, .int 0, .null])), (h1, .inr (2, [.int 418316042, .int 5, .int 0, .null]))] H := by rw [hH]; exact hP
  clear hH
  refine lv_aload_n hx hb dX1_goesBefore_0 rfl (lv_at hl 0 rfl) ?_
  refine va_get (D := (dC, dI)) (ci := 2) (v := .int 418316232) (C := RX1) (T := TX1) (N := 4) hx hb hts in_c_goesBefore_n_X1 hown hK hP 0 rfl rfl 0 (by decide) (hts (.fieldLink RX1 9 "ClaimBus$Frame" "identifier" "I") (List.mem_of_getElem? (i := 1) rfl)) (fun _ h9 => h9) rfl dX1_goesBefore_1 ?_
  refine lv_aload_n hx hb dX1_goesBefore_4 rfl (lv_at hl 1 rfl) ?_
  refine va_get (D := (dC, dI)) (ci := 2) (v := .int 418316042) (C := RX1) (T := TX1) (N := 4) hx hb hts in_c_goesBefore_n_X1 hown hK hP 1 rfl rfl 0 (by decide) (hts (.fieldLink RX1 9 "ClaimBus$Frame" "identifier" "I") (List.mem_of_getElem? (i := 1) rfl)) (fun _ h9 => h9) rfl dX1_goesBefore_5 ?_
  refine lv_icmp_eq (tgt := 28) hx hb dX1_goesBefore_8 (by decide) (fun c_1 => ?_) (fun c_1 => ?_)
  · exact absurd c_1 (by decide)
  refine lv_aload_n hx hb dX1_goesBefore_11 rfl (lv_at hl 0 rfl) ?_
  refine va_get (D := (dC, dI)) (ci := 2) (v := .int 418316232) (C := RX1) (T := TX1) (N := 4) hx hb hts in_c_goesBefore_n_X1 hown hK hP 0 rfl rfl 0 (by decide) (hts (.fieldLink RX1 9 "ClaimBus$Frame" "identifier" "I") (List.mem_of_getElem? (i := 1) rfl)) (fun _ h9 => h9) rfl dX1_goesBefore_12 ?_
  refine lv_aload_n hx hb dX1_goesBefore_15 rfl (lv_at hl 1 rfl) ?_
  refine va_get (D := (dC, dI)) (ci := 2) (v := .int 418316042) (C := RX1) (T := TX1) (N := 4) hx hb hts in_c_goesBefore_n_X1 hown hK hP 1 rfl rfl 0 (by decide) (hts (.fieldLink RX1 9 "ClaimBus$Frame" "identifier" "I") (List.mem_of_getElem? (i := 1) rfl)) (fun _ h9 => h9) rfl dX1_goesBefore_16 ?_
  refine lv_icmp_ge (tgt := 26) hx hb dX1_goesBefore_19 (by decide) (fun c_2 => ?_) (fun c_2 => ?_)
  rotate_left
  · exact absurd (by decide) c_2
  refine lv_iconst (v := 0) hx hb dX1_goesBefore_26 (by decide) ?_
  exact W.zret (v := 0) hx hb hr (by decide) (fun t ht hW => ⟨⟨0, (), rfl, rfl, trivial⟩, hS.F ht⟩) hS.2.2 dX1_goesBefore_27

noncomputable def tl_c_learn_b : List Cond := wsX80
noncomputable def v_c_learn_b : List Cond := .code yX8_learn cX8_learn 4 none :: ([.fieldLink RX8 9 "ClaimBus$Table" "addresses" "[I"] ++ tl_c_learn_b)
theorem it_c_learn_b : ∀ w ∈ tl_c_learn_b, w ∈ v_c_learn_b := fun w h => List.mem_cons_of_mem _ (List.mem_append_right _ h)
theorem in_c_learn_b_X8 : ∀ w ∈ wsX80, w ∈ v_c_learn_b := fun w h => it_c_learn_b w (h)
theorem gt_c_learn_b : ∀ w ∈ tl_c_learn_b, goodWord w = true := gw_wsX80
theorem gw_c_learn_b : ∀ w ∈ v_c_learn_b, goodWord w = true := List.forall_mem_cons.mpr ⟨by decide +kernel, List.forall_mem_append.mpr ⟨List.all_eq_true.mp (by decide +kernel), gt_c_learn_b⟩⟩
set_option maxHeartbeats 4000000 in
set_option maxRecDepth 100000 in
theorem c_learn_b (l : Launch) (dC : Nat → ClassId) (dI : Nat → Nat → Nat) (be : Nat) (bta : Nat) (bcI : ClassId) (bfT : Nat → Int32) (sz : Nat) (bt0_ : bfT 0 = (-1)) (bt1_ : bfT 1 = (-1)) (bt2_ : bfT 2 = (-1)) (bt3_ : bfT 3 = (-1)) (bt4_ : bfT 4 = (-1)) (bt5_ : bfT 5 = (-1)) (bt6_ : bfT 6 = (-1)) (bt7_ : bfT 7 = (-1)) : Met l yX8_learn v_c_learn_b ({ frames := 0, cells := 0, slots := 0, locals := 0 }) (va_Pc [.ref be, .int 0, .int 10] (fun U => U.heap.size = sz ∧ va_P (dC, dI) vwCl [(be, .inr (9, [.ref bta])), (bta, .inl (bcI, 8, .inl bfT))] U.heap ∧ va_K (dC, dI) vwCl [(bcI, .int)] U ∧ va_D (fun _ => True) [(be, .inr (9, [.ref bta])), (bta, .inl (bcI, 8, .inl bfT))] ∧ ev U)) (va_Qv (fun _ : Unit => True) (fun (_ : Unit) (t : State) => ∃ (fT2 : Nat → Int32), va_P (dC, dI) vwCl [(be, .inr (9, [.ref bta])), (bta, .inl (bcI, 8, .inl fT2))] t.heap ∧ va_K (dC, dI) vwCl [(bcI, .int)] t ∧ va_D (va_A [(be, .inr (9, [.ref bta])), (bta, .inl (bcI, 8, .inl bfT))] sz) [(be, .inr (9, [.ref bta])), (bta, .inl (bcI, 8, .inl fT2))]) (va_A [(be, .inr (9, [.ref bta])), (bta, .inl (bcI, 8, .inl bfT))] sz)) 0 0 (va_A [(be, .inr (9, [.ref bta])), (bta, .inl (bcI, 8, .inl bfT))] sz) := by
  refine Met.ofW (cc := cX8_learn) (maxL := 4) (ret := none) (by decide) rfl ?_
  intro p e s m args below meth c s₁ B hml hv
  obtain ⟨rfl, hsz, hP, hK, hD0, hE⟩ := hv
  have hx := B.exec
  have hb := B.bytes
  have hr := B.returns
  have hts := atoms_spec (ws := v_c_learn_b) B.pre
  have hown : s.vm.findClass RX8 = some m.cls := findClass_of_methodNamed B.named
  have hlocks := B.notSynchronized
  subst hsz
  have hD := hD0.self (sz := s.heap.size)
  generalize hAe : va_A [(be, .inr (9, [.ref bta])), (bta, .inl (bcI, 8, .inl bfT))] s.heap.size = A at hD ⊢
  have hA : ∀ q : Nat, s.heap.size ≤ q → A q := fun q h => by rw [← hAe]; exact Or.inr h
  have hS : va_S A s.heap s.heap [] := va_S.rf
  replace hP : va_P (dC, dI) vwCl [(be, .inr (9, [.ref bta])), (bta, .inl (bcI, 8, .inl bfT))] s.heap := hP
  have hl := lv_entry ([.ref be, .int 0, .int 10]) (n := 4) (Nat.le_of_ble_eq_true rfl)
  rw [lg_entry_eq]
  generalize (lg_sl ([.ref be, .int 0, .int 10]) ++ List.replicate (4 - (lg_sl ([.ref be, .int 0, .int 10])).length) Slot.unset).toArray = ls at hl ⊢
  replace hl : lv_has ls 4 [(0, .ref be), (1, .int 0), (2, .int 10)] := hl
  obtain ⟨H, hH⟩ : ∃ z : Heap, z = s.heap := ⟨_, rfl⟩
  rw [← hH]
  replace hS : va_S A s.heap H [] := by rw [hH]; exact va_S.rf
  replace hP : va_P (dC, dI) vwCl [(be, .inr (9, [.ref bta])), (bta, .inl (bcI, 8, .inl bfT))] H := by rw [hH]; exact hP
  clear hH
  refine lv_iconst (v := 0) hx hb dX8_learn_0 (by decide) ?_
  refine lv_istore_n (lv' := [(3, .int 0), (0, .ref be), (1, .int 0), (2, .int 10)]) hx hb dX8_learn_1 rfl hl (by decide) rfl (fun ls hl => ?_)
  refine lv_iload_n hx hb dX8_learn_2 rfl (lv_at hl 0 rfl) ?_
  refine lv_bipush (v := 8) hx hb dX8_learn_3 (by decide) ?_
  refine lv_icmp_ge (tgt := 57) hx hb dX8_learn_5 (by decide) (fun c_1 => ?_) (fun c_1 => ?_)
  · exact absurd c_1 (by decide)
  refine lv_iload_n hx hb dX8_learn_8 rfl (lv_at hl 0 rfl) ?_
  refine lv_iload_n hx hb dX8_learn_9 rfl (lv_at hl 2 rfl) ?_
  refine lv_icmp_ne (tgt := 34) hx hb dX8_learn_10 (by decide) (fun c_2 => ?_) (fun c_2 => ?_)
  · exact absurd c_2 (by decide)
  refine lv_aload_n hx hb dX8_learn_13 rfl (lv_at hl 1 rfl) ?_
  refine va_get (D := (dC, dI)) (ci := 9) (v := .ref bta) (C := RX8) (T := TX8) (N := 1) hx hb hts in_c_learn_b_X8 hown hK hP 0 rfl rfl 0 (by decide) (hts (.fieldLink RX8 9 "ClaimBus$Table" "addresses" "[I") (List.mem_of_getElem? (i := 1) rfl)) (fun _ h9 => h9) rfl dX8_learn_14 ?_
  refine lv_iload_n hx hb dX8_learn_17 rfl (lv_at hl 0 rfl) ?_
  refine lv_iload_n hx hb dX8_learn_18 rfl (lv_at hl 3 rfl) ?_
  refine lv_sipush (v := 254) hx hb dX8_learn_19 (by decide) ?_
  refine lv_icmp_ne (tgt := 29) hx hb dX8_learn_22 (by decide) (fun c_3 => ?_) (fun c_3 => ?_)
  rotate_left
  · exact absurd c_3 (by decide)
  refine lv_iload_n hx hb dX8_learn_29 rfl (lv_at hl 3 rfl) ?_
  refine va_iast hx hb hK hP hD hS 1 0 rfl rfl (vp_in_nI (n := 0) (by omega) (by omega)) dX8_learn_30 (fun H locs hP hD hS => ?_)
  obtain ⟨f_4, ef_4⟩ : ∃ z : Nat → Int32, z = upd bfT 0 (10) := ⟨_, rfl⟩
  rw [(show Int32.toNatClampNeg (0 : Int32) = 0 by decide)] at hP hD
  replace hP : va_P (dC, dI) vwCl [(be, .inr (9, [.ref bta])), (bta, .inl (bcI, 8, .inl f_4))] H := by rw [ef_4]; exact hP
  replace hD : va_D A [(be, .inr (9, [.ref bta])), (bta, .inl (bcI, 8, .inl f_4))] := by rw [ef_4]; exact hD
  have g4_1 : f_4 1 = (-1) := by rw [ef_4, pk_un (by omega)]; exact bt1_
  have g4_2 : f_4 2 = (-1) := by rw [ef_4, pk_un (by omega)]; exact bt2_
  have g4_3 : f_4 3 = (-1) := by rw [ef_4, pk_un (by omega)]; exact bt3_
  have g4_4 : f_4 4 = (-1) := by rw [ef_4, pk_un (by omega)]; exact bt4_
  have g4_5 : f_4 5 = (-1) := by rw [ef_4, pk_un (by omega)]; exact bt5_
  have g4_6 : f_4 6 = (-1) := by rw [ef_4, pk_un (by omega)]; exact bt6_
  have g4_7 : f_4 7 = (-1) := by rw [ef_4, pk_un (by omega)]; exact bt7_
  refine lv_goto (tgt := 51) hx hb dX8_learn_31 (by decide) ?_
  refine lv_iinc (v := 1) (lv' := [(3, .int 1), (0, .ref be), (1, .int 0), (2, .int 10)]) hx hb dX8_learn_51 hl (k := 0) rfl (by decide) (by decide) rfl (fun ls hl => ?_)
  refine lv_goto (tgt := 2) hx hb dX8_learn_54 (by decide) ?_
  refine lv_iload_n hx hb dX8_learn_2 rfl (lv_at hl 0 rfl) ?_
  refine lv_bipush (v := 8) hx hb dX8_learn_3 (by decide) ?_
  refine lv_icmp_ge (tgt := 57) hx hb dX8_learn_5 (by decide) (fun c_5 => ?_) (fun c_5 => ?_)
  · exact absurd c_5 (by decide)
  refine lv_iload_n hx hb dX8_learn_8 rfl (lv_at hl 0 rfl) ?_
  refine lv_iload_n hx hb dX8_learn_9 rfl (lv_at hl 2 rfl) ?_
  refine lv_icmp_ne (tgt := 34) hx hb dX8_learn_10 (by decide) (fun c_6 => ?_) (fun c_6 => ?_)
  rotate_left
  · exact absurd c_6 (by decide)
  refine lv_aload_n hx hb dX8_learn_34 rfl (lv_at hl 1 rfl) ?_
  refine va_get (D := (dC, dI)) (ci := 9) (v := .ref bta) (C := RX8) (T := TX8) (N := 1) hx hb hts in_c_learn_b_X8 hown hK hP 0 rfl rfl 0 (by decide) (hts (.fieldLink RX8 9 "ClaimBus$Table" "addresses" "[I") (List.mem_of_getElem? (i := 1) rfl)) (fun _ h9 => h9) rfl dX8_learn_35 ?_
  refine lv_iload_n hx hb dX8_learn_38 rfl (lv_at hl 0 rfl) ?_
  refine va_iald hx hb hK hP 1 0 rfl rfl (vp_in_nI (n := 1) (by omega) (by omega)) dX8_learn_39 ?_
  refine W.eq (g2 := F0 m 40 ls [.int (f_4 1)]) (by rw [(show Int32.toNatClampNeg (1 : Int32) = 1 by decide)]) ?_
  rw [g4_1]
  refine lv_iload_n hx hb dX8_learn_40 rfl (lv_at hl 3 rfl) ?_
  refine lv_icmp_ne (tgt := 51) hx hb dX8_learn_41 (by decide) (fun c_7 => ?_) (fun c_7 => ?_)
  rotate_left
  · exact absurd c_7 (by decide)
  refine lv_iinc (v := 2) (lv' := [(3, .int 2), (0, .ref be), (1, .int 0), (2, .int 10)]) hx hb dX8_learn_51 hl (k := 0) rfl (by decide) (by decide) rfl (fun ls hl => ?_)
  refine lv_goto (tgt := 2) hx hb dX8_learn_54 (by decide) ?_
  refine lv_iload_n hx hb dX8_learn_2 rfl (lv_at hl 0 rfl) ?_
  refine lv_bipush (v := 8) hx hb dX8_learn_3 (by decide) ?_
  refine lv_icmp_ge (tgt := 57) hx hb dX8_learn_5 (by decide) (fun c_8 => ?_) (fun c_8 => ?_)
  · exact absurd c_8 (by decide)
  refine lv_iload_n hx hb dX8_learn_8 rfl (lv_at hl 0 rfl) ?_
  refine lv_iload_n hx hb dX8_learn_9 rfl (lv_at hl 2 rfl) ?_
  refine lv_icmp_ne (tgt := 34) hx hb dX8_learn_10 (by decide) (fun c_9 => ?_) (fun c_9 => ?_)
  rotate_left
  · exact absurd c_9 (by decide)
  refine lv_aload_n hx hb dX8_learn_34 rfl (lv_at hl 1 rfl) ?_
  refine va_get (D := (dC, dI)) (ci := 9) (v := .ref bta) (C := RX8) (T := TX8) (N := 1) hx hb hts in_c_learn_b_X8 hown hK hP 0 rfl rfl 0 (by decide) (hts (.fieldLink RX8 9 "ClaimBus$Table" "addresses" "[I") (List.mem_of_getElem? (i := 1) rfl)) (fun _ h9 => h9) rfl dX8_learn_35 ?_
  refine lv_iload_n hx hb dX8_learn_38 rfl (lv_at hl 0 rfl) ?_
  refine va_iald hx hb hK hP 1 0 rfl rfl (vp_in_nI (n := 2) (by omega) (by omega)) dX8_learn_39 ?_
  refine W.eq (g2 := F0 m 40 ls [.int (f_4 2)]) (by rw [(show Int32.toNatClampNeg (2 : Int32) = 2 by decide)]) ?_
  rw [g4_2]
  refine lv_iload_n hx hb dX8_learn_40 rfl (lv_at hl 3 rfl) ?_
  refine lv_icmp_ne (tgt := 51) hx hb dX8_learn_41 (by decide) (fun c_10 => ?_) (fun c_10 => ?_)
  rotate_left
  · exact absurd c_10 (by decide)
  refine lv_iinc (v := 3) (lv' := [(3, .int 3), (0, .ref be), (1, .int 0), (2, .int 10)]) hx hb dX8_learn_51 hl (k := 0) rfl (by decide) (by decide) rfl (fun ls hl => ?_)
  refine lv_goto (tgt := 2) hx hb dX8_learn_54 (by decide) ?_
  refine lv_iload_n hx hb dX8_learn_2 rfl (lv_at hl 0 rfl) ?_
  refine lv_bipush (v := 8) hx hb dX8_learn_3 (by decide) ?_
  refine lv_icmp_ge (tgt := 57) hx hb dX8_learn_5 (by decide) (fun c_11 => ?_) (fun c_11 => ?_)
  · exact absurd c_11 (by decide)
  refine lv_iload_n hx hb dX8_learn_8 rfl (lv_at hl 0 rfl) ?_
  refine lv_iload_n hx hb dX8_learn_9 rfl (lv_at hl 2 rfl) ?_
  refine lv_icmp_ne (tgt := 34) hx hb dX8_learn_10 (by decide) (fun c_12 => ?_) (fun c_12 => ?_)
  rotate_left
  · exact absurd c_12 (by decide)
  refine lv_aload_n hx hb dX8_learn_34 rfl (lv_at hl 1 rfl) ?_
  refine va_get (D := (dC, dI)) (ci := 9) (v := .ref bta) (C := RX8) (T := TX8) (N := 1) hx hb hts in_c_learn_b_X8 hown hK hP 0 rfl rfl 0 (by decide) (hts (.fieldLink RX8 9 "ClaimBus$Table" "addresses" "[I") (List.mem_of_getElem? (i := 1) rfl)) (fun _ h9 => h9) rfl dX8_learn_35 ?_
  refine lv_iload_n hx hb dX8_learn_38 rfl (lv_at hl 0 rfl) ?_
  refine va_iald hx hb hK hP 1 0 rfl rfl (vp_in_nI (n := 3) (by omega) (by omega)) dX8_learn_39 ?_
  refine W.eq (g2 := F0 m 40 ls [.int (f_4 3)]) (by rw [(show Int32.toNatClampNeg (3 : Int32) = 3 by decide)]) ?_
  rw [g4_3]
  refine lv_iload_n hx hb dX8_learn_40 rfl (lv_at hl 3 rfl) ?_
  refine lv_icmp_ne (tgt := 51) hx hb dX8_learn_41 (by decide) (fun c_13 => ?_) (fun c_13 => ?_)
  rotate_left
  · exact absurd c_13 (by decide)
  refine lv_iinc (v := 4) (lv' := [(3, .int 4), (0, .ref be), (1, .int 0), (2, .int 10)]) hx hb dX8_learn_51 hl (k := 0) rfl (by decide) (by decide) rfl (fun ls hl => ?_)
  refine lv_goto (tgt := 2) hx hb dX8_learn_54 (by decide) ?_
  refine lv_iload_n hx hb dX8_learn_2 rfl (lv_at hl 0 rfl) ?_
  refine lv_bipush (v := 8) hx hb dX8_learn_3 (by decide) ?_
  refine lv_icmp_ge (tgt := 57) hx hb dX8_learn_5 (by decide) (fun c_14 => ?_) (fun c_14 => ?_)
  · exact absurd c_14 (by decide)
  refine lv_iload_n hx hb dX8_learn_8 rfl (lv_at hl 0 rfl) ?_
  refine lv_iload_n hx hb dX8_learn_9 rfl (lv_at hl 2 rfl) ?_
  refine lv_icmp_ne (tgt := 34) hx hb dX8_learn_10 (by decide) (fun c_15 => ?_) (fun c_15 => ?_)
  rotate_left
  · exact absurd c_15 (by decide)
  refine lv_aload_n hx hb dX8_learn_34 rfl (lv_at hl 1 rfl) ?_
  refine va_get (D := (dC, dI)) (ci := 9) (v := .ref bta) (C := RX8) (T := TX8) (N := 1) hx hb hts in_c_learn_b_X8 hown hK hP 0 rfl rfl 0 (by decide) (hts (.fieldLink RX8 9 "ClaimBus$Table" "addresses" "[I") (List.mem_of_getElem? (i := 1) rfl)) (fun _ h9 => h9) rfl dX8_learn_35 ?_
  refine lv_iload_n hx hb dX8_learn_38 rfl (lv_at hl 0 rfl) ?_
  refine va_iald hx hb hK hP 1 0 rfl rfl (vp_in_nI (n := 4) (by omega) (by omega)) dX8_learn_39 ?_
  refine W.eq (g2 := F0 m 40 ls [.int (f_4 4)]) (by rw [(show Int32.toNatClampNeg (4 : Int32) = 4 by decide)]) ?_
  rw [g4_4]
  refine lv_iload_n hx hb dX8_learn_40 rfl (lv_at hl 3 rfl) ?_
  refine lv_icmp_ne (tgt := 51) hx hb dX8_learn_41 (by decide) (fun c_16 => ?_) (fun c_16 => ?_)
  rotate_left
  · exact absurd c_16 (by decide)
  refine lv_iinc (v := 5) (lv' := [(3, .int 5), (0, .ref be), (1, .int 0), (2, .int 10)]) hx hb dX8_learn_51 hl (k := 0) rfl (by decide) (by decide) rfl (fun ls hl => ?_)
  refine lv_goto (tgt := 2) hx hb dX8_learn_54 (by decide) ?_
  refine lv_iload_n hx hb dX8_learn_2 rfl (lv_at hl 0 rfl) ?_
  refine lv_bipush (v := 8) hx hb dX8_learn_3 (by decide) ?_
  refine lv_icmp_ge (tgt := 57) hx hb dX8_learn_5 (by decide) (fun c_17 => ?_) (fun c_17 => ?_)
  · exact absurd c_17 (by decide)
  refine lv_iload_n hx hb dX8_learn_8 rfl (lv_at hl 0 rfl) ?_
  refine lv_iload_n hx hb dX8_learn_9 rfl (lv_at hl 2 rfl) ?_
  refine lv_icmp_ne (tgt := 34) hx hb dX8_learn_10 (by decide) (fun c_18 => ?_) (fun c_18 => ?_)
  rotate_left
  · exact absurd c_18 (by decide)
  refine lv_aload_n hx hb dX8_learn_34 rfl (lv_at hl 1 rfl) ?_
  refine va_get (D := (dC, dI)) (ci := 9) (v := .ref bta) (C := RX8) (T := TX8) (N := 1) hx hb hts in_c_learn_b_X8 hown hK hP 0 rfl rfl 0 (by decide) (hts (.fieldLink RX8 9 "ClaimBus$Table" "addresses" "[I") (List.mem_of_getElem? (i := 1) rfl)) (fun _ h9 => h9) rfl dX8_learn_35 ?_
  refine lv_iload_n hx hb dX8_learn_38 rfl (lv_at hl 0 rfl) ?_
  refine va_iald hx hb hK hP 1 0 rfl rfl (vp_in_nI (n := 5) (by omega) (by omega)) dX8_learn_39 ?_
  refine W.eq (g2 := F0 m 40 ls [.int (f_4 5)]) (by rw [(show Int32.toNatClampNeg (5 : Int32) = 5 by decide)]) ?_
  rw [g4_5]
  refine lv_iload_n hx hb dX8_learn_40 rfl (lv_at hl 3 rfl) ?_
  refine lv_icmp_ne (tgt := 51) hx hb dX8_learn_41 (by decide) (fun c_19 => ?_) (fun c_19 => ?_)
  rotate_left
  · exact absurd c_19 (by decide)
  refine lv_iinc (v := 6) (lv' := [(3, .int 6), (0, .ref be), (1, .int 0), (2, .int 10)]) hx hb dX8_learn_51 hl (k := 0) rfl (by decide) (by decide) rfl (fun ls hl => ?_)
  refine lv_goto (tgt := 2) hx hb dX8_learn_54 (by decide) ?_
  refine lv_iload_n hx hb dX8_learn_2 rfl (lv_at hl 0 rfl) ?_
  refine lv_bipush (v := 8) hx hb dX8_learn_3 (by decide) ?_
  refine lv_icmp_ge (tgt := 57) hx hb dX8_learn_5 (by decide) (fun c_20 => ?_) (fun c_20 => ?_)
  · exact absurd c_20 (by decide)
  refine lv_iload_n hx hb dX8_learn_8 rfl (lv_at hl 0 rfl) ?_
  refine lv_iload_n hx hb dX8_learn_9 rfl (lv_at hl 2 rfl) ?_
  refine lv_icmp_ne (tgt := 34) hx hb dX8_learn_10 (by decide) (fun c_21 => ?_) (fun c_21 => ?_)
  rotate_left
  · exact absurd c_21 (by decide)
  refine lv_aload_n hx hb dX8_learn_34 rfl (lv_at hl 1 rfl) ?_
  refine va_get (D := (dC, dI)) (ci := 9) (v := .ref bta) (C := RX8) (T := TX8) (N := 1) hx hb hts in_c_learn_b_X8 hown hK hP 0 rfl rfl 0 (by decide) (hts (.fieldLink RX8 9 "ClaimBus$Table" "addresses" "[I") (List.mem_of_getElem? (i := 1) rfl)) (fun _ h9 => h9) rfl dX8_learn_35 ?_
  refine lv_iload_n hx hb dX8_learn_38 rfl (lv_at hl 0 rfl) ?_
  refine va_iald hx hb hK hP 1 0 rfl rfl (vp_in_nI (n := 6) (by omega) (by omega)) dX8_learn_39 ?_
  refine W.eq (g2 := F0 m 40 ls [.int (f_4 6)]) (by rw [(show Int32.toNatClampNeg (6 : Int32) = 6 by decide)]) ?_
  rw [g4_6]
  refine lv_iload_n hx hb dX8_learn_40 rfl (lv_at hl 3 rfl) ?_
  refine lv_icmp_ne (tgt := 51) hx hb dX8_learn_41 (by decide) (fun c_22 => ?_) (fun c_22 => ?_)
  rotate_left
  · exact absurd c_22 (by decide)
  refine lv_iinc (v := 7) (lv' := [(3, .int 7), (0, .ref be), (1, .int 0), (2, .int 10)]) hx hb dX8_learn_51 hl (k := 0) rfl (by decide) (by decide) rfl (fun ls hl => ?_)
  refine lv_goto (tgt := 2) hx hb dX8_learn_54 (by decide) ?_
  refine lv_iload_n hx hb dX8_learn_2 rfl (lv_at hl 0 rfl) ?_
  refine lv_bipush (v := 8) hx hb dX8_learn_3 (by decide) ?_
  refine lv_icmp_ge (tgt := 57) hx hb dX8_learn_5 (by decide) (fun c_23 => ?_) (fun c_23 => ?_)
  · exact absurd c_23 (by decide)
  refine lv_iload_n hx hb dX8_learn_8 rfl (lv_at hl 0 rfl) ?_
  refine lv_iload_n hx hb dX8_learn_9 rfl (lv_at hl 2 rfl) ?_
  refine lv_icmp_ne (tgt := 34) hx hb dX8_learn_10 (by decide) (fun c_24 => ?_) (fun c_24 => ?_)
  rotate_left
  · exact absurd c_24 (by decide)
  refine lv_aload_n hx hb dX8_learn_34 rfl (lv_at hl 1 rfl) ?_
  refine va_get (D := (dC, dI)) (ci := 9) (v := .ref bta) (C := RX8) (T := TX8) (N := 1) hx hb hts in_c_learn_b_X8 hown hK hP 0 rfl rfl 0 (by decide) (hts (.fieldLink RX8 9 "ClaimBus$Table" "addresses" "[I") (List.mem_of_getElem? (i := 1) rfl)) (fun _ h9 => h9) rfl dX8_learn_35 ?_
  refine lv_iload_n hx hb dX8_learn_38 rfl (lv_at hl 0 rfl) ?_
  refine va_iald hx hb hK hP 1 0 rfl rfl (vp_in_nI (n := 7) (by omega) (by omega)) dX8_learn_39 ?_
  refine W.eq (g2 := F0 m 40 ls [.int (f_4 7)]) (by rw [(show Int32.toNatClampNeg (7 : Int32) = 7 by decide)]) ?_
  rw [g4_7]
  refine lv_iload_n hx hb dX8_learn_40 rfl (lv_at hl 3 rfl) ?_
  refine lv_icmp_ne (tgt := 51) hx hb dX8_learn_41 (by decide) (fun c_25 => ?_) (fun c_25 => ?_)
  rotate_left
  · exact absurd c_25 (by decide)
  refine lv_iinc (v := 8) (lv' := [(3, .int 8), (0, .ref be), (1, .int 0), (2, .int 10)]) hx hb dX8_learn_51 hl (k := 0) rfl (by decide) (by decide) rfl (fun ls hl => ?_)
  refine lv_goto (tgt := 2) hx hb dX8_learn_54 (by decide) ?_
  refine lv_iload_n hx hb dX8_learn_2 rfl (lv_at hl 0 rfl) ?_
  refine lv_bipush (v := 8) hx hb dX8_learn_3 (by decide) ?_
  refine lv_icmp_ge (tgt := 57) hx hb dX8_learn_5 (by decide) (fun c_26 => ?_) (fun c_26 => ?_)
  rotate_left
  · exact absurd (by decide) c_26
  have hP9 := hP.sub (ws' := [(be, .inr (9, [.ref bta])), (bta, .inl (bcI, 8, .inl f_4))]) [0, 1] rfl
  have hD9 := hD.sub (ws' := [(be, .inr (9, [.ref bta])), (bta, .inl (bcI, 8, .inl f_4))]) [0, 1] (by decide +kernel) rfl
  have hK9 := hK.sub (tys' := [(bcI, .int)]) [0] rfl
  exact W.vret hx hb hr (fun t ht hW => ⟨⟨(), rfl, trivial, ⟨f_4, by rw [ht]; exact hP9, va_K.moved hW.alike hK9, hD9⟩⟩, hS.F ht⟩) hS.2.2 dX8_learn_57

noncomputable def tl_c_hearClaim_b : List Cond := wsX40 ++ (v_c_X1_sourceN ++ (v_c_learn_b))
noncomputable def v_c_hearClaim_b : List Cond := .code yX4_hearClaim cX4_hearClaim 5 none :: ([.fieldLink RX4 12 "ClaimBus$Node" "table" "LClaimBus$Table;", .initialized RX1, .methodLink RX4 220 yX1_source, .instanceMethod yX1_source, .selects RX1 yX1_source yX1_source, .initialized RX8, .methodLink RX4 222 yX8_learn, .instanceMethod yX8_learn, .selects RX8 yX8_learn yX8_learn, .fieldLink RX4 53 "ClaimBus$Node" "state" "I", .fieldLink RX4 81 "ClaimBus$Node" "address" "I"] ++ tl_c_hearClaim_b)
theorem it_c_hearClaim_b : ∀ w ∈ tl_c_hearClaim_b, w ∈ v_c_hearClaim_b := fun w h => List.mem_cons_of_mem _ (List.mem_append_right _ h)
theorem in_c_hearClaim_b_X4 : ∀ w ∈ wsX40, w ∈ v_c_hearClaim_b := fun w h => it_c_hearClaim_b w (List.mem_append_left _ h)
theorem ic_c_hearClaim_b_c_X1_sourceN : ∀ w ∈ v_c_X1_sourceN, w ∈ v_c_hearClaim_b := fun w h => it_c_hearClaim_b w (List.mem_append_right _ (List.mem_append_left _ h))
theorem ic_c_hearClaim_b_c_learn_b : ∀ w ∈ v_c_learn_b, w ∈ v_c_hearClaim_b := fun w h => it_c_hearClaim_b w (List.mem_append_right _ (List.mem_append_right _ (h)))
theorem gt_c_hearClaim_b : ∀ w ∈ tl_c_hearClaim_b, goodWord w = true := List.forall_mem_append.mpr ⟨gw_wsX40, List.forall_mem_append.mpr ⟨gw_c_X1_sourceN, gw_c_learn_b⟩⟩
theorem gw_c_hearClaim_b : ∀ w ∈ v_c_hearClaim_b, goodWord w = true := List.forall_mem_cons.mpr ⟨by decide +kernel, List.forall_mem_append.mpr ⟨List.all_eq_true.mp (by decide +kernel), gt_c_hearClaim_b⟩⟩
theorem g_c_hearClaim_b_c_X1_sourceN_220 : GoodIn v_c_hearClaim_b (wsV RX4 220 RX1 yX1_source v_c_X1_sourceN) := goodIn_app (goodIn_r [.methodLink RX4 220 yX1_source, .instanceMethod yX1_source, .selects RX1 yX1_source yX1_source, .initialized RX1] [3, 4, 5, 2] (by decide +kernel) (by decide +kernel)) (fun w h => ⟨ic_c_hearClaim_b_c_X1_sourceN w h, good_of_word (gw_c_X1_sourceN w h)⟩)
theorem g_c_hearClaim_b_c_learn_b_222 : GoodIn v_c_hearClaim_b (wsV RX4 222 RX8 yX8_learn v_c_learn_b) := goodIn_app (goodIn_r [.methodLink RX4 222 yX8_learn, .instanceMethod yX8_learn, .selects RX8 yX8_learn yX8_learn, .initialized RX8] [7, 8, 9, 6] (by decide +kernel) (by decide +kernel)) (fun w h => ⟨ic_c_hearClaim_b_c_learn_b w h, good_of_word (gw_c_learn_b w h)⟩)
set_option maxHeartbeats 4000000 in
set_option maxRecDepth 100000 in
theorem c_hearClaim_b (l : Launch) (dC : Nat → ClassId) (dI : Nat → Nat → Nat) (bn : Nat) (br : Nat) (be : Nat) (bs : Nat) (bi : Nat) (bg : Nat) (bc : Nat) (bu : Nat) (bwi : Nat) (bta : Nat) (bcI : ClassId) (bfT : Nat → Int32) (h1 : Nat) (zj : Int32) (sz : Nat) (bt0_ : bfT 0 = (-1)) (bt1_ : bfT 1 = (-1)) (bt2_ : bfT 2 = (-1)) (bt3_ : bfT 3 = (-1)) (bt4_ : bfT 4 = (-1)) (bt5_ : bfT 5 = (-1)) (bt6_ : bfT 6 = (-1)) (bt7_ : bfT 7 = (-1)) : Met l yX4_hearClaim v_c_hearClaim_b ({ frames := 1, cells := 0, slots := 0, locals := 23 }) (va_Pc [.ref bn, .ref h1, .int 0] (fun U => U.heap.size = sz ∧ va_P (dC, dI) vwCl [(bn, .inr (5, [.int 0, .int 4, .int 200, .int 1, .int (nI bwi), .ref br, .ref be, .ref bs, .ref bi, .ref bg, .ref bc, .ref bu, .int 0, .int 1, .int 200, .int (-1), .int 0, .int 0])), (h1, .inr (2, [.int 418316042, .int zj, .int 0, .null])), (be, .inr (9, [.ref bta])), (bta, .inl (bcI, 8, .inl bfT))] U.heap ∧ va_K (dC, dI) vwCl [(bcI, .int)] U ∧ va_D (fun _ => True) [(bn, .inr (5, [.int 0, .int 4, .int 200, .int 1, .int (nI bwi), .ref br, .ref be, .ref bs, .ref bi, .ref bg, .ref bc, .ref bu, .int 0, .int 1, .int 200, .int (-1), .int 0, .int 0])), (h1, .inr (2, [.int 418316042, .int zj, .int 0, .null])), (be, .inr (9, [.ref bta])), (bta, .inl (bcI, 8, .inl bfT))] ∧ ev U)) (va_Qv (fun _ : Unit => True) (fun (_ : Unit) (t : State) => ∃ (fT2 : Nat → Int32), va_P (dC, dI) vwCl [(bn, .inr (5, [.int 0, .int 4, .int 200, .int 1, .int (nI bwi), .ref br, .ref be, .ref bs, .ref bi, .ref bg, .ref bc, .ref bu, .int 0, .int 1, .int 200, .int (-1), .int 0, .int 0])), (h1, .inr (2, [.int 418316042, .int zj, .int 0, .null])), (be, .inr (9, [.ref bta])), (bta, .inl (bcI, 8, .inl fT2))] t.heap ∧ va_K (dC, dI) vwCl [(bcI, .int)] t ∧ va_D (va_A [(bn, .inr (5, [.int 0, .int 4, .int 200, .int 1, .int (nI bwi), .ref br, .ref be, .ref bs, .ref bi, .ref bg, .ref bc, .ref bu, .int 0, .int 1, .int 200, .int (-1), .int 0, .int 0])), (h1, .inr (2, [.int 418316042, .int zj, .int 0, .null])), (be, .inr (9, [.ref bta])), (bta, .inl (bcI, 8, .inl bfT))] sz) [(bn, .inr (5, [.int 0, .int 4, .int 200, .int 1, .int (nI bwi), .ref br, .ref be, .ref bs, .ref bi, .ref bg, .ref bc, .ref bu, .int 0, .int 1, .int 200, .int (-1), .int 0, .int 0])), (h1, .inr (2, [.int 418316042, .int zj, .int 0, .null])), (be, .inr (9, [.ref bta])), (bta, .inl (bcI, 8, .inl fT2))]) (va_A [(bn, .inr (5, [.int 0, .int 4, .int 200, .int 1, .int (nI bwi), .ref br, .ref be, .ref bs, .ref bi, .ref bg, .ref bc, .ref bu, .int 0, .int 1, .int 200, .int (-1), .int 0, .int 0])), (h1, .inr (2, [.int 418316042, .int zj, .int 0, .null])), (be, .inr (9, [.ref bta])), (bta, .inl (bcI, 8, .inl bfT))] sz)) 0 0 (va_A [(bn, .inr (5, [.int 0, .int 4, .int 200, .int 1, .int (nI bwi), .ref br, .ref be, .ref bs, .ref bi, .ref bg, .ref bc, .ref bu, .int 0, .int 1, .int 200, .int (-1), .int 0, .int 0])), (h1, .inr (2, [.int 418316042, .int zj, .int 0, .null])), (be, .inr (9, [.ref bta])), (bta, .inl (bcI, 8, .inl bfT))] sz) := by
  refine Met.ofW (cc := cX4_hearClaim) (maxL := 5) (ret := none) (by decide) rfl ?_
  intro p e s m args below meth c s₁ B hml hv
  obtain ⟨rfl, hsz, hP, hK, hD0, hE⟩ := hv
  have hx := B.exec
  have hb := B.bytes
  have hr := B.returns
  have hts := atoms_spec (ws := v_c_hearClaim_b) B.pre
  have hown : s.vm.findClass RX4 = some m.cls := findClass_of_methodNamed B.named
  have hlocks := B.notSynchronized
  subst hsz
  have hD := hD0.self (sz := s.heap.size)
  generalize hAe : va_A [(bn, .inr (5, [.int 0, .int 4, .int 200, .int 1, .int (nI bwi), .ref br, .ref be, .ref bs, .ref bi, .ref bg, .ref bc, .ref bu, .int 0, .int 1, .int 200, .int (-1), .int 0, .int 0])), (h1, .inr (2, [.int 418316042, .int zj, .int 0, .null])), (be, .inr (9, [.ref bta])), (bta, .inl (bcI, 8, .inl bfT))] s.heap.size = A at hD ⊢
  have hA : ∀ q : Nat, s.heap.size ≤ q → A q := fun q h => by rw [← hAe]; exact Or.inr h
  have hS : va_S A s.heap s.heap [] := va_S.rf
  replace hP : va_P (dC, dI) vwCl [(bn, .inr (5, [.int 0, .int 4, .int 200, .int 1, .int (nI bwi), .ref br, .ref be, .ref bs, .ref bi, .ref bg, .ref bc, .ref bu, .int 0, .int 1, .int 200, .int (-1), .int 0, .int 0])), (h1, .inr (2, [.int 418316042, .int zj, .int 0, .null])), (be, .inr (9, [.ref bta])), (bta, .inl (bcI, 8, .inl bfT))] s.heap := hP
  have hl := lv_entry ([.ref bn, .ref h1, .int 0]) (n := 5) (Nat.le_of_ble_eq_true rfl)
  rw [lg_entry_eq]
  generalize (lg_sl ([.ref bn, .ref h1, .int 0]) ++ List.replicate (5 - (lg_sl ([.ref bn, .ref h1, .int 0])).length) Slot.unset).toArray = ls at hl ⊢
  replace hl : lv_has ls 5 [(0, .ref bn), (1, .ref h1), (2, .int 0)] := hl
  obtain ⟨H, hH⟩ : ∃ z : Heap, z = s.heap := ⟨_, rfl⟩
  rw [← hH]
  replace hS : va_S A s.heap H [] := by rw [hH]; exact va_S.rf
  replace hP : va_P (dC, dI) vwCl [(bn, .inr (5, [.int 0, .int 4, .int 200, .int 1, .int (nI bwi), .ref br, .ref be, .ref bs, .ref bi, .ref bg, .ref bc, .ref bu, .int 0, .int 1, .int 200, .int (-1), .int 0, .int 0])), (h1, .inr (2, [.int 418316042, .int zj, .int 0, .null])), (be, .inr (9, [.ref bta])), (bta, .inl (bcI, 8, .inl bfT))] H := by rw [hH]; exact hP
  clear hH
  refine lv_aload_n hx hb dX4_hearClaim_0 rfl (lv_at hl 0 rfl) ?_
  refine va_get (D := (dC, dI)) (ci := 5) (v := .ref be) (C := RX4) (T := TX4) (N := 18) hx hb hts in_c_hearClaim_b_X4 hown hK hP 0 rfl rfl 6 (by decide) (hts (.fieldLink RX4 12 "ClaimBus$Node" "table" "LClaimBus$Table;") (List.mem_of_getElem? (i := 1) rfl)) (fun _ h9 => h9) rfl dX4_hearClaim_1 ?_
  refine lv_iload_n hx hb dX4_hearClaim_4 rfl (lv_at hl 2 rfl) ?_
  refine lv_aload_n hx hb dX4_hearClaim_5 rfl (lv_at hl 1 rfl) ?_
  have hPc := hP.sub (ws' := [(h1, .inr (2, [.int (nI 418316042), .int zj, .int 0, .null]))]) [1] rfl
  have hDc := hD.sub (ws' := [(h1, .inr (2, [.int (nI 418316042), .int zj, .int 0, .null]))]) [1] (by decide +kernel) rfl
  have hKc := hK.sub (tys' := []) [] rfl
  have hFc := ro_free hS hA
  refine va_calli (va_runV (As := []) (rest := [.int 0, .ref be]) ⟨hx, hb, hml, hown, hts⟩ (c_X1_sourceN l dC dI (h1) (418316042) (zj) (0) H.size (by omega)) (cwV 0 hts g_c_hearClaim_b_c_X1_sourceN_220 rfl rfl rfl (by decide +kernel) ⟨Nat.le_of_ble_eq_true rfl, Nat.le_of_ble_eq_true rfl⟩) ⟨fun a U g mk q => by obtain ⟨q0, q1, qP, qK, qD, qE⟩ := q; exact ⟨q0, q1, qP, va_K.moved (u := U) (U := U.calling g mk a) (Vm.Alike.refl U.vm) qK, qD, ev.same (u := U) (U := U.calling g mk a) rfl qE⟩, va_recv hKc hPc (ci := 2) (q0 := 0) rfl rfl, fun U hU hW => ⟨rfl, by rw [hU], by rw [hU]; exact hPc, va_K.moved hW.alike hKc, hDc.weaken (fun _ _ _ _ => trivial), hE.warm hW⟩⟩ rfl rfl hl.1 rfl (lv_room (Nat.le_of_ble_eq_true rfl)) dX4_hearClaim_6 ⟨Nat.le_of_ble_eq_true rfl, Nat.le_of_ble_eq_true rfl⟩) hS (fun q _ h => hFc q h) hFc (fun r_1 u t H1 locs ht hvm hw hB hz1 hk1 hS => ?_)
  clear hPc hDc hKc
  replace hP := ro_keep hP hk1
  generalize H1 = H at hP hS ⊢
  replace hP : va_P (dC, dI) vwCl [(bn, .inr (5, [.int 0, .int 4, .int 200, .int 1, .int (nI bwi), .ref br, .ref be, .ref bs, .ref bi, .ref bg, .ref bc, .ref bu, .int 0, .int 1, .int 200, .int (-1), .int 0, .int 0])), (h1, .inr (2, [.int 418316042, .int zj, .int 0, .null])), (be, .inr (9, [.ref bta])), (bta, .inl (bcI, 8, .inl bfT))] H := hP
  have hw := hw.symm
  subst hw
  rw [show ((nI (418316042 % 256)) : Int32) = 10 from (congrArg nI (show (418316042 % 256) = 10 from by omega)).trans (by decide)]
  have hPc := hP.sub (ws' := [(be, .inr (9, [.ref bta])), (bta, .inl (bcI, 8, .inl bfT))]) [2, 3] rfl
  have hDc := hD.sub (ws' := [(be, .inr (9, [.ref bta])), (bta, .inl (bcI, 8, .inl bfT))]) [2, 3] (by decide +kernel) rfl
  have hKc := hK.sub (tys' := [(bcI, .int)]) [0] rfl
  have hFc := va_free (wc := [(be, .inr (9, [.ref bta])), (bta, .inl (bcI, 8, .inl bfT))]) hD hS hA [2, 3] rfl
  refine va_callv (va_runV (As := [.int 0, .int 10]) (rest := []) ⟨hx, hb, hml, hown, hts⟩ (c_learn_b l dC dI (be) (bta) (bcI) (bfT) H.size bt0_ bt1_ bt2_ bt3_ bt4_ bt5_ bt6_ bt7_) (cwV 2 hts g_c_hearClaim_b_c_learn_b_222 rfl rfl rfl (by decide +kernel) ⟨Nat.le_of_ble_eq_true rfl, Nat.le_of_ble_eq_true rfl⟩) ⟨fun a U g mk q => by obtain ⟨q0, q1, qP, qK, qD, qE⟩ := q; exact ⟨q0, q1, qP, va_K.moved (u := U) (U := U.calling g mk a) (Vm.Alike.refl U.vm) qK, qD, ev.same (u := U) (U := U.calling g mk a) rfl qE⟩, va_recv hKc hPc (ci := 9) (q0 := 0) rfl rfl, fun U hU hW => ⟨rfl, by rw [hU], by rw [hU]; exact hPc, va_K.moved hW.alike hKc, hDc.weaken (fun _ _ _ _ => trivial), hE.warm hW⟩⟩ rfl rfl hl.1 rfl (lv_room (Nat.le_of_ble_eq_true rfl)) dX4_hearClaim_9 ⟨Nat.le_of_ble_eq_true rfl, Nat.le_of_ble_eq_true rfl⟩) hS (fun q _ h => hFc q h) hFc (fun u t H1 locs ht hvm hw hB hz1 hk1 hS => ?_)
  clear hPc hDc hKc
  obtain ⟨fT2_2, hP1, hK1, hD1⟩ := hB
  rw [ht] at hP1
  have hK1 := va_K.moved hvm.symm hK1
  obtain ⟨hP, hD⟩ := va_join (wr := [(bn, .inr (5, [.int 0, .int 4, .int 200, .int 1, .int (nI bwi), .ref br, .ref be, .ref bs, .ref bi, .ref bg, .ref bc, .ref bu, .int 0, .int 1, .int 200, .int (-1), .int 0, .int 0])), (h1, .inr (2, [.int 418316042, .int zj, .int 0, .null]))]) (w1 := [(be, .inr (9, [.ref bta])), (bta, .inl (bcI, 8, .inl fT2_2))]) hP hD [2, 3] [0, 1] rfl rfl (by decide +kernel) (by decide +kernel) hk1 hFc hP1 hD1
  generalize H1 = H at hP hS ⊢
  replace hP : va_P (dC, dI) vwCl [(bn, .inr (5, [.int 0, .int 4, .int 200, .int 1, .int (nI bwi), .ref br, .ref be, .ref bs, .ref bi, .ref bg, .ref bc, .ref bu, .int 0, .int 1, .int 200, .int (-1), .int 0, .int 0])), (h1, .inr (2, [.int 418316042, .int zj, .int 0, .null])), (be, .inr (9, [.ref bta])), (bta, .inl (bcI, 8, .inl fT2_2))] H := hP
  replace hD : va_D A [(bn, .inr (5, [.int 0, .int 4, .int 200, .int 1, .int (nI bwi), .ref br, .ref be, .ref bs, .ref bi, .ref bg, .ref bc, .ref bu, .int 0, .int 1, .int 200, .int (-1), .int 0, .int 0])), (h1, .inr (2, [.int 418316042, .int zj, .int 0, .null])), (be, .inr (9, [.ref bta])), (bta, .inl (bcI, 8, .inl fT2_2))] := hD
  clear hw
  refine lv_aload_n hx hb dX4_hearClaim_12 rfl (lv_at hl 0 rfl) ?_
  refine va_get (D := (dC, dI)) (ci := 5) (v := .int 1) (C := RX4) (T := TX4) (N := 18) hx hb hts in_c_hearClaim_b_X4 hown hK hP 0 rfl rfl 13 (by decide) (hts (.fieldLink RX4 53 "ClaimBus$Node" "state" "I") (List.mem_of_getElem? (i := 10) rfl)) (fun _ h9 => h9) rfl dX4_hearClaim_13 ?_
  refine lv_iconst (v := 1) hx hb dX4_hearClaim_16 (by decide) ?_
  refine lv_icmp_eq (tgt := 28) hx hb dX4_hearClaim_17 (by decide) (fun c_3 => ?_) (fun c_3 => ?_)
  rotate_left
  · exact absurd (by decide) c_3
  refine lv_iconst (v := 1) hx hb dX4_hearClaim_28 (by decide) ?_
  refine lv_goto (tgt := 33) hx hb dX4_hearClaim_29 (by decide) ?_
  refine lv_istore_n (lv' := [(3, .int 1), (0, .ref bn), (1, .ref h1), (2, .int 0)]) hx hb dX4_hearClaim_33 rfl hl (by decide) rfl (fun ls hl => ?_)
  refine lv_iload_n hx hb dX4_hearClaim_34 rfl (lv_at hl 0 rfl) ?_
  refine lv_if_eq (tgt := 49) hx hb dX4_hearClaim_35 (by decide) (fun c_4 => ?_) (fun c_4 => ?_)
  · exact absurd c_4 (by decide)
  refine lv_aload_n hx hb dX4_hearClaim_38 rfl (lv_at hl 2 rfl) ?_
  have hPc := hP.sub (ws' := [(h1, .inr (2, [.int (nI 418316042), .int zj, .int 0, .null]))]) [1] rfl
  have hDc := hD.sub (ws' := [(h1, .inr (2, [.int (nI 418316042), .int zj, .int 0, .null]))]) [1] (by decide +kernel) rfl
  have hKc := hK.sub (tys' := []) [] rfl
  have hFc := ro_free hS hA
  refine va_calli (va_runV (As := []) (rest := []) ⟨hx, hb, hml, hown, hts⟩ (c_X1_sourceN l dC dI (h1) (418316042) (zj) (0) H.size (by omega)) (cwV 0 hts g_c_hearClaim_b_c_X1_sourceN_220 rfl rfl rfl (by decide +kernel) ⟨Nat.le_of_ble_eq_true rfl, Nat.le_of_ble_eq_true rfl⟩) ⟨fun a U g mk q => by obtain ⟨q0, q1, qP, qK, qD, qE⟩ := q; exact ⟨q0, q1, qP, va_K.moved (u := U) (U := U.calling g mk a) (Vm.Alike.refl U.vm) qK, qD, ev.same (u := U) (U := U.calling g mk a) rfl qE⟩, va_recv hKc hPc (ci := 2) (q0 := 0) rfl rfl, fun U hU hW => ⟨rfl, by rw [hU], by rw [hU]; exact hPc, va_K.moved hW.alike hKc, hDc.weaken (fun _ _ _ _ => trivial), hE.warm hW⟩⟩ rfl rfl hl.1 rfl (lv_room (Nat.le_of_ble_eq_true rfl)) dX4_hearClaim_39 ⟨Nat.le_of_ble_eq_true rfl, Nat.le_of_ble_eq_true rfl⟩) hS (fun q _ h => hFc q h) hFc (fun r_5 u t H1 locs ht hvm hw hB hz1 hk1 hS => ?_)
  clear hPc hDc hKc
  replace hP := ro_keep hP hk1
  generalize H1 = H at hP hS ⊢
  replace hP : va_P (dC, dI) vwCl [(bn, .inr (5, [.int 0, .int 4, .int 200, .int 1, .int (nI bwi), .ref br, .ref be, .ref bs, .ref bi, .ref bg, .ref bc, .ref bu, .int 0, .int 1, .int 200, .int (-1), .int 0, .int 0])), (h1, .inr (2, [.int 418316042, .int zj, .int 0, .null])), (be, .inr (9, [.ref bta])), (bta, .inl (bcI, 8, .inl fT2_2))] H := hP
  have hw := hw.symm
  subst hw
  rw [show ((nI (418316042 % 256)) : Int32) = 10 from (congrArg nI (show (418316042 % 256) = 10 from by omega)).trans (by decide)]
  refine lv_aload_n hx hb dX4_hearClaim_42 rfl (lv_at hl 1 rfl) ?_
  refine va_get (D := (dC, dI)) (ci := 5) (v := .int 200) (C := RX4) (T := TX4) (N := 18) hx hb hts in_c_hearClaim_b_X4 hown hK hP 0 rfl rfl 14 (by decide) (hts (.fieldLink RX4 81 "ClaimBus$Node" "address" "I") (List.mem_of_getElem? (i := 11) rfl)) (fun _ h9 => h9) rfl dX4_hearClaim_43 ?_
  refine lv_icmp_eq (tgt := 50) hx hb dX4_hearClaim_46 (by decide) (fun c_6 => ?_) (fun c_6 => ?_)
  · exact absurd c_6 (by decide)
  have hP9 := hP.sub (ws' := [(bn, .inr (5, [.int 0, .int 4, .int 200, .int 1, .int (nI bwi), .ref br, .ref be, .ref bs, .ref bi, .ref bg, .ref bc, .ref bu, .int 0, .int 1, .int 200, .int (-1), .int 0, .int 0])), (h1, .inr (2, [.int 418316042, .int zj, .int 0, .null])), (be, .inr (9, [.ref bta])), (bta, .inl (bcI, 8, .inl fT2_2))]) [0, 1, 2, 3] rfl
  have hD9 := hD.sub (ws' := [(bn, .inr (5, [.int 0, .int 4, .int 200, .int 1, .int (nI bwi), .ref br, .ref be, .ref bs, .ref bi, .ref bg, .ref bc, .ref bu, .int 0, .int 1, .int 200, .int (-1), .int 0, .int 0])), (h1, .inr (2, [.int 418316042, .int zj, .int 0, .null])), (be, .inr (9, [.ref bta])), (bta, .inl (bcI, 8, .inl fT2_2))]) [0, 1, 2, 3] (by decide +kernel) rfl
  have hK9 := hK.sub (tys' := [(bcI, .int)]) [0] rfl
  exact W.vret hx hb hr (fun t ht hW => ⟨⟨(), rfl, trivial, ⟨fT2_2, by rw [ht]; exact hP9, va_K.moved hW.alike hK9, hD9⟩⟩, hS.F ht⟩) hS.2.2 dX4_hearClaim_49

noncomputable def tl_c_hear_b : List Cond := wsX40 ++ (v_c_X1_isOf_yN ++ (v_c_hearClaim_b))
noncomputable def v_c_hear_b : List Cond := .code yX4_hear cX4_hear 4 none :: ([.fieldLink RX4 59 "ClaimBus$Node" "toLose" "I", .initialized RX1, .methodLink RX4 190 yX1_isOf, .instanceMethod yX1_isOf, .selects RX1 yX1_isOf yX1_isOf, .initialized RX4, .methodLink RX4 196 yX4_hearClaim, .instanceMethod yX4_hearClaim, .selects RX4 yX4_hearClaim yX4_hearClaim] ++ tl_c_hear_b)
theorem it_c_hear_b : ∀ w ∈ tl_c_hear_b, w ∈ v_c_hear_b := fun w h => List.mem_cons_of_mem _ (List.mem_append_right _ h)
theorem in_c_hear_b_X4 : ∀ w ∈ wsX40, w ∈ v_c_hear_b := fun w h => it_c_hear_b w (List.mem_append_left _ h)
theorem ic_c_hear_b_c_X1_isOf_yN : ∀ w ∈ v_c_X1_isOf_yN, w ∈ v_c_hear_b := fun w h => it_c_hear_b w (List.mem_append_right _ (List.mem_append_left _ h))
theorem ic_c_hear_b_c_hearClaim_b : ∀ w ∈ v_c_hearClaim_b, w ∈ v_c_hear_b := fun w h => it_c_hear_b w (List.mem_append_right _ (List.mem_append_right _ (h)))
theorem gt_c_hear_b : ∀ w ∈ tl_c_hear_b, goodWord w = true := List.forall_mem_append.mpr ⟨gw_wsX40, List.forall_mem_append.mpr ⟨gw_c_X1_isOf_yN, gw_c_hearClaim_b⟩⟩
theorem gw_c_hear_b : ∀ w ∈ v_c_hear_b, goodWord w = true := List.forall_mem_cons.mpr ⟨by decide +kernel, List.forall_mem_append.mpr ⟨List.all_eq_true.mp (by decide +kernel), gt_c_hear_b⟩⟩
theorem g_c_hear_b_c_X1_isOf_yN_190 : GoodIn v_c_hear_b (wsV RX4 190 RX1 yX1_isOf v_c_X1_isOf_yN) := goodIn_app (goodIn_r [.methodLink RX4 190 yX1_isOf, .instanceMethod yX1_isOf, .selects RX1 yX1_isOf yX1_isOf, .initialized RX1] [3, 4, 5, 2] (by decide +kernel) (by decide +kernel)) (fun w h => ⟨ic_c_hear_b_c_X1_isOf_yN w h, good_of_word (gw_c_X1_isOf_yN w h)⟩)
theorem g_c_hear_b_c_hearClaim_b_196 : GoodIn v_c_hear_b (wsV RX4 196 RX4 yX4_hearClaim v_c_hearClaim_b) := goodIn_app (goodIn_r [.methodLink RX4 196 yX4_hearClaim, .instanceMethod yX4_hearClaim, .selects RX4 yX4_hearClaim yX4_hearClaim, .initialized RX4] [7, 8, 9, 6] (by decide +kernel) (by decide +kernel)) (fun w h => ⟨ic_c_hear_b_c_hearClaim_b w h, good_of_word (gw_c_hearClaim_b w h)⟩)
set_option maxHeartbeats 4000000 in
set_option maxRecDepth 100000 in
theorem c_hear_b (l : Launch) (dC : Nat → ClassId) (dI : Nat → Nat → Nat) (bn : Nat) (br : Nat) (be : Nat) (bs : Nat) (bi : Nat) (bg : Nat) (bc : Nat) (bu : Nat) (bwi : Nat) (bta : Nat) (bcI : ClassId) (bfT : Nat → Int32) (h1 : Nat) (zj : Int32) (tm : Nat) (sz : Nat) (bt0_ : bfT 0 = (-1)) (bt1_ : bfT 1 = (-1)) (bt2_ : bfT 2 = (-1)) (bt3_ : bfT 3 = (-1)) (bt4_ : bfT 4 = (-1)) (bt5_ : bfT 5 = (-1)) (bt6_ : bfT 6 = (-1)) (bt7_ : bfT 7 = (-1)) : Met l yX4_hear v_c_hear_b ({ frames := 2, cells := 0, slots := 0, locals := 47 }) (va_Pc [.ref bn, .ref h1, .int 0, .int (nI tm)] (fun U => U.heap.size = sz ∧ va_P (dC, dI) vwCl [(bn, .inr (5, [.int 0, .int 4, .int 200, .int 1, .int (nI bwi), .ref br, .ref be, .ref bs, .ref bi, .ref bg, .ref bc, .ref bu, .int 0, .int 1, .int 200, .int (-1), .int 0, .int 0])), (h1, .inr (2, [.int 418316042, .int zj, .int 0, .null])), (be, .inr (9, [.ref bta])), (bta, .inl (bcI, 8, .inl bfT))] U.heap ∧ va_K (dC, dI) vwCl [(bcI, .int)] U ∧ va_D (fun _ => True) [(bn, .inr (5, [.int 0, .int 4, .int 200, .int 1, .int (nI bwi), .ref br, .ref be, .ref bs, .ref bi, .ref bg, .ref bc, .ref bu, .int 0, .int 1, .int 200, .int (-1), .int 0, .int 0])), (h1, .inr (2, [.int 418316042, .int zj, .int 0, .null])), (be, .inr (9, [.ref bta])), (bta, .inl (bcI, 8, .inl bfT))] ∧ ev U)) (va_Qv (fun _ : Unit => True) (fun (_ : Unit) (t : State) => ∃ (fT2 : Nat → Int32), va_P (dC, dI) vwCl [(bn, .inr (5, [.int 0, .int 4, .int 200, .int 1, .int (nI bwi), .ref br, .ref be, .ref bs, .ref bi, .ref bg, .ref bc, .ref bu, .int 0, .int 1, .int 200, .int (-1), .int 0, .int 0])), (h1, .inr (2, [.int 418316042, .int zj, .int 0, .null])), (be, .inr (9, [.ref bta])), (bta, .inl (bcI, 8, .inl fT2))] t.heap ∧ va_K (dC, dI) vwCl [(bcI, .int)] t ∧ va_D (va_A [(bn, .inr (5, [.int 0, .int 4, .int 200, .int 1, .int (nI bwi), .ref br, .ref be, .ref bs, .ref bi, .ref bg, .ref bc, .ref bu, .int 0, .int 1, .int 200, .int (-1), .int 0, .int 0])), (h1, .inr (2, [.int 418316042, .int zj, .int 0, .null])), (be, .inr (9, [.ref bta])), (bta, .inl (bcI, 8, .inl bfT))] sz) [(bn, .inr (5, [.int 0, .int 4, .int 200, .int 1, .int (nI bwi), .ref br, .ref be, .ref bs, .ref bi, .ref bg, .ref bc, .ref bu, .int 0, .int 1, .int 200, .int (-1), .int 0, .int 0])), (h1, .inr (2, [.int 418316042, .int zj, .int 0, .null])), (be, .inr (9, [.ref bta])), (bta, .inl (bcI, 8, .inl fT2))]) (va_A [(bn, .inr (5, [.int 0, .int 4, .int 200, .int 1, .int (nI bwi), .ref br, .ref be, .ref bs, .ref bi, .ref bg, .ref bc, .ref bu, .int 0, .int 1, .int 200, .int (-1), .int 0, .int 0])), (h1, .inr (2, [.int 418316042, .int zj, .int 0, .null])), (be, .inr (9, [.ref bta])), (bta, .inl (bcI, 8, .inl bfT))] sz)) 0 0 (va_A [(bn, .inr (5, [.int 0, .int 4, .int 200, .int 1, .int (nI bwi), .ref br, .ref be, .ref bs, .ref bi, .ref bg, .ref bc, .ref bu, .int 0, .int 1, .int 200, .int (-1), .int 0, .int 0])), (h1, .inr (2, [.int 418316042, .int zj, .int 0, .null])), (be, .inr (9, [.ref bta])), (bta, .inl (bcI, 8, .inl bfT))] sz) := by
  refine Met.ofW (cc := cX4_hear) (maxL := 4) (ret := none) (by decide) rfl ?_
  intro p e s m args below meth c s₁ B hml hv
  obtain ⟨rfl, hsz, hP, hK, hD0, hE⟩ := hv
  have hx := B.exec
  have hb := B.bytes
  have hr := B.returns
  have hts := atoms_spec (ws := v_c_hear_b) B.pre
  have hown : s.vm.findClass RX4 = some m.cls := findClass_of_methodNamed B.named
  have hlocks := B.notSynchronized
  subst hsz
  have hD := hD0.self (sz := s.heap.size)
  generalize hAe : va_A [(bn, .inr (5, [.int 0, .int 4, .int 200, .int 1, .int (nI bwi), .ref br, .ref be, .ref bs, .ref bi, .ref bg, .ref bc, .ref bu, .int 0, .int 1, .int 200, .int (-1), .int 0, .int 0])), (h1, .inr (2, [.int 418316042, .int zj, .int 0, .null])), (be, .inr (9, [.ref bta])), (bta, .inl (bcI, 8, .inl bfT))] s.heap.size = A at hD ⊢
  have hA : ∀ q : Nat, s.heap.size ≤ q → A q := fun q h => by rw [← hAe]; exact Or.inr h
  have hS : va_S A s.heap s.heap [] := va_S.rf
  replace hP : va_P (dC, dI) vwCl [(bn, .inr (5, [.int 0, .int 4, .int 200, .int 1, .int (nI bwi), .ref br, .ref be, .ref bs, .ref bi, .ref bg, .ref bc, .ref bu, .int 0, .int 1, .int 200, .int (-1), .int 0, .int 0])), (h1, .inr (2, [.int 418316042, .int zj, .int 0, .null])), (be, .inr (9, [.ref bta])), (bta, .inl (bcI, 8, .inl bfT))] s.heap := hP
  have hl := lv_entry ([.ref bn, .ref h1, .int 0, .int (nI tm)]) (n := 4) (Nat.le_of_ble_eq_true rfl)
  rw [lg_entry_eq]
  generalize (lg_sl ([.ref bn, .ref h1, .int 0, .int (nI tm)]) ++ List.replicate (4 - (lg_sl ([.ref bn, .ref h1, .int 0, .int (nI tm)])).length) Slot.unset).toArray = ls at hl ⊢
  replace hl : lv_has ls 4 [(0, .ref bn), (1, .ref h1), (2, .int 0), (3, .int (nI tm))] := hl
  obtain ⟨H, hH⟩ : ∃ z : Heap, z = s.heap := ⟨_, rfl⟩
  rw [← hH]
  replace hS : va_S A s.heap H [] := by rw [hH]; exact va_S.rf
  replace hP : va_P (dC, dI) vwCl [(bn, .inr (5, [.int 0, .int 4, .int 200, .int 1, .int (nI bwi), .ref br, .ref be, .ref bs, .ref bi, .ref bg, .ref bc, .ref bu, .int 0, .int 1, .int 200, .int (-1), .int 0, .int 0])), (h1, .inr (2, [.int 418316042, .int zj, .int 0, .null])), (be, .inr (9, [.ref bta])), (bta, .inl (bcI, 8, .inl bfT))] H := by rw [hH]; exact hP
  clear hH
  refine lv_aload_n hx hb dX4_hear_0 rfl (lv_at hl 0 rfl) ?_
  refine va_get (D := (dC, dI)) (ci := 5) (v := .int 0) (C := RX4) (T := TX4) (N := 18) hx hb hts in_c_hear_b_X4 hown hK hP 0 rfl rfl 16 (by decide) (hts (.fieldLink RX4 59 "ClaimBus$Node" "toLose" "I") (List.mem_of_getElem? (i := 1) rfl)) (fun _ h9 => h9) rfl dX4_hear_1 ?_
  refine lv_if_le (tgt := 30) hx hb dX4_hear_4 (by decide) (fun c_1 => ?_) (fun c_1 => ?_)
  rotate_left
  · exact absurd (by decide) c_1
  refine lv_aload_n hx hb dX4_hear_30 rfl (lv_at hl 1 rfl) ?_
  refine lv_sipush (v := 238) hx hb dX4_hear_31 (by decide) ?_
  have hPc := hP.sub (ws' := [(h1, .inr (2, [.int (nI 418316042), .int zj, .int 0, .null]))]) [1] rfl
  have hDc := hD.sub (ws' := [(h1, .inr (2, [.int (nI 418316042), .int zj, .int 0, .null]))]) [1] (by decide +kernel) rfl
  have hKc := hK.sub (tys' := []) [] rfl
  have hFc := ro_free hS hA
  refine va_calli (va_runV (As := [.int 238]) (rest := []) ⟨hx, hb, hml, hown, hts⟩ (c_X1_isOf_yN l dC dI (h1) (418316042) (zj) (0) (238) H.size (by omega) (by omega) (by omega)) (cwV 1 hts g_c_hear_b_c_X1_isOf_yN_190 rfl rfl rfl (by decide +kernel) ⟨Nat.le_of_ble_eq_true rfl, Nat.le_of_ble_eq_true rfl⟩) ⟨fun a U g mk q => by obtain ⟨q0, q1, qP, qK, qD, qE⟩ := q; exact ⟨q0, q1, qP, va_K.moved (u := U) (U := U.calling g mk a) (Vm.Alike.refl U.vm) qK, qD, ev.same (u := U) (U := U.calling g mk a) rfl qE⟩, va_recv hKc hPc (ci := 2) (q0 := 0) rfl rfl, fun U hU hW => ⟨rfl, by rw [hU], by rw [hU]; exact hPc, va_K.moved hW.alike hKc, hDc.weaken (fun _ _ _ _ => trivial), hE.warm hW⟩⟩ rfl rfl hl.1 rfl (lv_room (Nat.le_of_ble_eq_true rfl)) dX4_hear_34 ⟨Nat.le_of_ble_eq_true rfl, Nat.le_of_ble_eq_true rfl⟩) hS (fun q _ h => hFc q h) hFc (fun r_2 u t H1 locs ht hvm hw hB hz1 hk1 hS => ?_)
  clear hPc hDc hKc
  replace hP := ro_keep hP hk1
  generalize H1 = H at hP hS ⊢
  replace hP : va_P (dC, dI) vwCl [(bn, .inr (5, [.int 0, .int 4, .int 200, .int 1, .int (nI bwi), .ref br, .ref be, .ref bs, .ref bi, .ref bg, .ref bc, .ref bu, .int 0, .int 1, .int 200, .int (-1), .int 0, .int 0])), (h1, .inr (2, [.int 418316042, .int zj, .int 0, .null])), (be, .inr (9, [.ref bta])), (bta, .inl (bcI, 8, .inl bfT))] H := hP
  have hw := hw.symm
  subst hw
  refine lv_if_eq (tgt := 49) hx hb dX4_hear_37 (by decide) (fun c_3 => ?_) (fun c_3 => ?_)
  · exact absurd c_3 (by decide)
  refine lv_aload_n hx hb dX4_hear_40 rfl (lv_at hl 0 rfl) ?_
  refine lv_aload_n hx hb dX4_hear_41 rfl (lv_at hl 1 rfl) ?_
  refine lv_iload_n hx hb dX4_hear_42 rfl (lv_at hl 2 rfl) ?_
  have hPc := hP.sub (ws' := [(bn, .inr (5, [.int 0, .int 4, .int 200, .int 1, .int (nI bwi), .ref br, .ref be, .ref bs, .ref bi, .ref bg, .ref bc, .ref bu, .int 0, .int 1, .int 200, .int (-1), .int 0, .int 0])), (h1, .inr (2, [.int 418316042, .int zj, .int 0, .null])), (be, .inr (9, [.ref bta])), (bta, .inl (bcI, 8, .inl bfT))]) [0, 1, 2, 3] rfl
  have hDc := hD.sub (ws' := [(bn, .inr (5, [.int 0, .int 4, .int 200, .int 1, .int (nI bwi), .ref br, .ref be, .ref bs, .ref bi, .ref bg, .ref bc, .ref bu, .int 0, .int 1, .int 200, .int (-1), .int 0, .int 0])), (h1, .inr (2, [.int 418316042, .int zj, .int 0, .null])), (be, .inr (9, [.ref bta])), (bta, .inl (bcI, 8, .inl bfT))]) [0, 1, 2, 3] (by decide +kernel) rfl
  have hKc := hK.sub (tys' := [(bcI, .int)]) [0] rfl
  have hFc := va_free (wc := [(bn, .inr (5, [.int 0, .int 4, .int 200, .int 1, .int (nI bwi), .ref br, .ref be, .ref bs, .ref bi, .ref bg, .ref bc, .ref bu, .int 0, .int 1, .int 200, .int (-1), .int 0, .int 0])), (h1, .inr (2, [.int 418316042, .int zj, .int 0, .null])), (be, .inr (9, [.ref bta])), (bta, .inl (bcI, 8, .inl bfT))]) hD hS hA [0, 1, 2, 3] rfl
  refine va_callv (va_runV (As := [.ref h1, .int 0]) (rest := []) ⟨hx, hb, hml, hown, hts⟩ (c_hearClaim_b l dC dI (bn) (br) (be) (bs) (bi) (bg) (bc) (bu) (bwi) (bta) (bcI) (bfT) (h1) (zj) H.size bt0_ bt1_ bt2_ bt3_ bt4_ bt5_ bt6_ bt7_) (cwV 2 hts g_c_hear_b_c_hearClaim_b_196 rfl rfl rfl (by decide +kernel) ⟨Nat.le_of_ble_eq_true rfl, Nat.le_of_ble_eq_true rfl⟩) ⟨fun a U g mk q => by obtain ⟨q0, q1, qP, qK, qD, qE⟩ := q; exact ⟨q0, q1, qP, va_K.moved (u := U) (U := U.calling g mk a) (Vm.Alike.refl U.vm) qK, qD, ev.same (u := U) (U := U.calling g mk a) rfl qE⟩, va_recv hKc hPc (ci := 5) (q0 := 0) rfl rfl, fun U hU hW => ⟨rfl, by rw [hU], by rw [hU]; exact hPc, va_K.moved hW.alike hKc, hDc.weaken (fun _ _ _ _ => trivial), hE.warm hW⟩⟩ rfl rfl hl.1 rfl (lv_room (Nat.le_of_ble_eq_true rfl)) dX4_hear_43 ⟨Nat.le_of_ble_eq_true rfl, Nat.le_of_ble_eq_true rfl⟩) hS (fun q _ h => hFc q h) hFc (fun u t H1 locs ht hvm hw hB hz1 hk1 hS => ?_)
  clear hPc hDc hKc
  obtain ⟨fT2_4, hP1, hK1, hD1⟩ := hB
  rw [ht] at hP1
  have hK1 := va_K.moved hvm.symm hK1
  obtain ⟨hP, hD⟩ := va_join (wr := []) (w1 := [(bn, .inr (5, [.int 0, .int 4, .int 200, .int 1, .int (nI bwi), .ref br, .ref be, .ref bs, .ref bi, .ref bg, .ref bc, .ref bu, .int 0, .int 1, .int 200, .int (-1), .int 0, .int 0])), (h1, .inr (2, [.int 418316042, .int zj, .int 0, .null])), (be, .inr (9, [.ref bta])), (bta, .inl (bcI, 8, .inl fT2_4))]) hP hD [0, 1, 2, 3] [] rfl rfl (by decide +kernel) (by decide +kernel) hk1 hFc hP1 hD1
  generalize H1 = H at hP hS ⊢
  replace hP : va_P (dC, dI) vwCl [(bn, .inr (5, [.int 0, .int 4, .int 200, .int 1, .int (nI bwi), .ref br, .ref be, .ref bs, .ref bi, .ref bg, .ref bc, .ref bu, .int 0, .int 1, .int 200, .int (-1), .int 0, .int 0])), (h1, .inr (2, [.int 418316042, .int zj, .int 0, .null])), (be, .inr (9, [.ref bta])), (bta, .inl (bcI, 8, .inl fT2_4))] H := hP
  replace hD : va_D A [(bn, .inr (5, [.int 0, .int 4, .int 200, .int 1, .int (nI bwi), .ref br, .ref be, .ref bs, .ref bi, .ref bg, .ref bc, .ref bu, .int 0, .int 1, .int 200, .int (-1), .int 0, .int 0])), (h1, .inr (2, [.int 418316042, .int zj, .int 0, .null])), (be, .inr (9, [.ref bta])), (bta, .inl (bcI, 8, .inl fT2_4))] := hD
  clear hw
  refine lv_goto (tgt := 152) hx hb dX4_hear_46 (by decide) ?_
  have hP9 := hP.sub (ws' := [(bn, .inr (5, [.int 0, .int 4, .int 200, .int 1, .int (nI bwi), .ref br, .ref be, .ref bs, .ref bi, .ref bg, .ref bc, .ref bu, .int 0, .int 1, .int 200, .int (-1), .int 0, .int 0])), (h1, .inr (2, [.int 418316042, .int zj, .int 0, .null])), (be, .inr (9, [.ref bta])), (bta, .inl (bcI, 8, .inl fT2_4))]) [0, 1, 2, 3] rfl
  have hD9 := hD.sub (ws' := [(bn, .inr (5, [.int 0, .int 4, .int 200, .int 1, .int (nI bwi), .ref br, .ref be, .ref bs, .ref bi, .ref bg, .ref bc, .ref bu, .int 0, .int 1, .int 200, .int (-1), .int 0, .int 0])), (h1, .inr (2, [.int 418316042, .int zj, .int 0, .null])), (be, .inr (9, [.ref bta])), (bta, .inl (bcI, 8, .inl fT2_4))]) [0, 1, 2, 3] (by decide +kernel) rfl
  have hK9 := hK.sub (tys' := [(bcI, .int)]) [0] rfl
  exact W.vret hx hb hr (fun t ht hW => ⟨⟨(), rfl, trivial, ⟨fT2_4, by rw [ht]; exact hP9, va_K.moved hW.alike hK9, hD9⟩⟩, hS.F ht⟩) hS.2.2 dX4_hear_152

noncomputable def tl_c_learn_a : List Cond := wsX80
noncomputable def v_c_learn_a : List Cond := .code yX8_learn cX8_learn 4 none :: ([.fieldLink RX8 9 "ClaimBus$Table" "addresses" "[I"] ++ tl_c_learn_a)
theorem it_c_learn_a : ∀ w ∈ tl_c_learn_a, w ∈ v_c_learn_a := fun w h => List.mem_cons_of_mem _ (List.mem_append_right _ h)
theorem in_c_learn_a_X8 : ∀ w ∈ wsX80, w ∈ v_c_learn_a := fun w h => it_c_learn_a w (h)
theorem gt_c_learn_a : ∀ w ∈ tl_c_learn_a, goodWord w = true := gw_wsX80
theorem gw_c_learn_a : ∀ w ∈ v_c_learn_a, goodWord w = true := List.forall_mem_cons.mpr ⟨by decide +kernel, List.forall_mem_append.mpr ⟨List.all_eq_true.mp (by decide +kernel), gt_c_learn_a⟩⟩
set_option maxHeartbeats 4000000 in
set_option maxRecDepth 100000 in
theorem c_learn_a (l : Launch) (dC : Nat → ClassId) (dI : Nat → Nat → Nat) (ae : Nat) (ata : Nat) (acI : ClassId) (afT : Nat → Int32) (sz : Nat) (at0_ : afT 0 = (-1)) (at1_ : afT 1 = (-1)) (at2_ : afT 2 = (-1)) (at3_ : afT 3 = (-1)) (at4_ : afT 4 = (-1)) (at5_ : afT 5 = (-1)) (at6_ : afT 6 = (-1)) (at7_ : afT 7 = (-1)) : Met l yX8_learn v_c_learn_a ({ frames := 0, cells := 0, slots := 0, locals := 0 }) (va_Pc [.ref ae, .int 1, .int 200] (fun U => U.heap.size = sz ∧ va_P (dC, dI) vwCl [(ae, .inr (9, [.ref ata])), (ata, .inl (acI, 8, .inl afT))] U.heap ∧ va_K (dC, dI) vwCl [(acI, .int)] U ∧ va_D (fun _ => True) [(ae, .inr (9, [.ref ata])), (ata, .inl (acI, 8, .inl afT))] ∧ ev U)) (va_Qv (fun _ : Unit => True) (fun (_ : Unit) (t : State) => ∃ (fT2 : Nat → Int32), va_P (dC, dI) vwCl [(ae, .inr (9, [.ref ata])), (ata, .inl (acI, 8, .inl fT2))] t.heap ∧ va_K (dC, dI) vwCl [(acI, .int)] t ∧ va_D (va_A [(ae, .inr (9, [.ref ata])), (ata, .inl (acI, 8, .inl afT))] sz) [(ae, .inr (9, [.ref ata])), (ata, .inl (acI, 8, .inl fT2))]) (va_A [(ae, .inr (9, [.ref ata])), (ata, .inl (acI, 8, .inl afT))] sz)) 0 0 (va_A [(ae, .inr (9, [.ref ata])), (ata, .inl (acI, 8, .inl afT))] sz) := by
  refine Met.ofW (cc := cX8_learn) (maxL := 4) (ret := none) (by decide) rfl ?_
  intro p e s m args below meth c s₁ B hml hv
  obtain ⟨rfl, hsz, hP, hK, hD0, hE⟩ := hv
  have hx := B.exec
  have hb := B.bytes
  have hr := B.returns
  have hts := atoms_spec (ws := v_c_learn_a) B.pre
  have hown : s.vm.findClass RX8 = some m.cls := findClass_of_methodNamed B.named
  have hlocks := B.notSynchronized
  subst hsz
  have hD := hD0.self (sz := s.heap.size)
  generalize hAe : va_A [(ae, .inr (9, [.ref ata])), (ata, .inl (acI, 8, .inl afT))] s.heap.size = A at hD ⊢
  have hA : ∀ q : Nat, s.heap.size ≤ q → A q := fun q h => by rw [← hAe]; exact Or.inr h
  have hS : va_S A s.heap s.heap [] := va_S.rf
  replace hP : va_P (dC, dI) vwCl [(ae, .inr (9, [.ref ata])), (ata, .inl (acI, 8, .inl afT))] s.heap := hP
  have hl := lv_entry ([.ref ae, .int 1, .int 200]) (n := 4) (Nat.le_of_ble_eq_true rfl)
  rw [lg_entry_eq]
  generalize (lg_sl ([.ref ae, .int 1, .int 200]) ++ List.replicate (4 - (lg_sl ([.ref ae, .int 1, .int 200])).length) Slot.unset).toArray = ls at hl ⊢
  replace hl : lv_has ls 4 [(0, .ref ae), (1, .int 1), (2, .int 200)] := hl
  obtain ⟨H, hH⟩ : ∃ z : Heap, z = s.heap := ⟨_, rfl⟩
  rw [← hH]
  replace hS : va_S A s.heap H [] := by rw [hH]; exact va_S.rf
  replace hP : va_P (dC, dI) vwCl [(ae, .inr (9, [.ref ata])), (ata, .inl (acI, 8, .inl afT))] H := by rw [hH]; exact hP
  clear hH
  refine lv_iconst (v := 0) hx hb dX8_learn_0 (by decide) ?_
  refine lv_istore_n (lv' := [(3, .int 0), (0, .ref ae), (1, .int 1), (2, .int 200)]) hx hb dX8_learn_1 rfl hl (by decide) rfl (fun ls hl => ?_)
  refine lv_iload_n hx hb dX8_learn_2 rfl (lv_at hl 0 rfl) ?_
  refine lv_bipush (v := 8) hx hb dX8_learn_3 (by decide) ?_
  refine lv_icmp_ge (tgt := 57) hx hb dX8_learn_5 (by decide) (fun c_1 => ?_) (fun c_1 => ?_)
  · exact absurd c_1 (by decide)
  refine lv_iload_n hx hb dX8_learn_8 rfl (lv_at hl 0 rfl) ?_
  refine lv_iload_n hx hb dX8_learn_9 rfl (lv_at hl 2 rfl) ?_
  refine lv_icmp_ne (tgt := 34) hx hb dX8_learn_10 (by decide) (fun c_2 => ?_) (fun c_2 => ?_)
  rotate_left
  · exact absurd c_2 (by decide)
  refine lv_aload_n hx hb dX8_learn_34 rfl (lv_at hl 1 rfl) ?_
  refine va_get (D := (dC, dI)) (ci := 9) (v := .ref ata) (C := RX8) (T := TX8) (N := 1) hx hb hts in_c_learn_a_X8 hown hK hP 0 rfl rfl 0 (by decide) (hts (.fieldLink RX8 9 "ClaimBus$Table" "addresses" "[I") (List.mem_of_getElem? (i := 1) rfl)) (fun _ h9 => h9) rfl dX8_learn_35 ?_
  refine lv_iload_n hx hb dX8_learn_38 rfl (lv_at hl 0 rfl) ?_
  refine va_iald hx hb hK hP 1 0 rfl rfl (vp_in_nI (n := 0) (by omega) (by omega)) dX8_learn_39 ?_
  refine W.eq (g2 := F0 m 40 ls [.int (afT 0)]) (by rw [(show Int32.toNatClampNeg (0 : Int32) = 0 by decide)]) ?_
  rw [at0_]
  refine lv_iload_n hx hb dX8_learn_40 rfl (lv_at hl 3 rfl) ?_
  refine lv_icmp_ne (tgt := 51) hx hb dX8_learn_41 (by decide) (fun c_3 => ?_) (fun c_3 => ?_)
  rotate_left
  · exact absurd c_3 (by decide)
  refine lv_iinc (v := 1) (lv' := [(3, .int 1), (0, .ref ae), (1, .int 1), (2, .int 200)]) hx hb dX8_learn_51 hl (k := 0) rfl (by decide) (by decide) rfl (fun ls hl => ?_)
  refine lv_goto (tgt := 2) hx hb dX8_learn_54 (by decide) ?_
  refine lv_iload_n hx hb dX8_learn_2 rfl (lv_at hl 0 rfl) ?_
  refine lv_bipush (v := 8) hx hb dX8_learn_3 (by decide) ?_
  refine lv_icmp_ge (tgt := 57) hx hb dX8_learn_5 (by decide) (fun c_4 => ?_) (fun c_4 => ?_)
  · exact absurd c_4 (by decide)
  refine lv_iload_n hx hb dX8_learn_8 rfl (lv_at hl 0 rfl) ?_
  refine lv_iload_n hx hb dX8_learn_9 rfl (lv_at hl 2 rfl) ?_
  refine lv_icmp_ne (tgt := 34) hx hb dX8_learn_10 (by decide) (fun c_5 => ?_) (fun c_5 => ?_)
  · exact absurd c_5 (by decide)
  refine lv_aload_n hx hb dX8_learn_13 rfl (lv_at hl 1 rfl) ?_
  refine va_get (D := (dC, dI)) (ci := 9) (v := .ref ata) (C := RX8) (T := TX8) (N := 1) hx hb hts in_c_learn_a_X8 hown hK hP 0 rfl rfl 0 (by decide) (hts (.fieldLink RX8 9 "ClaimBus$Table" "addresses" "[I") (List.mem_of_getElem? (i := 1) rfl)) (fun _ h9 => h9) rfl dX8_learn_14 ?_
  refine lv_iload_n hx hb dX8_learn_17 rfl (lv_at hl 0 rfl) ?_
  refine lv_iload_n hx hb dX8_learn_18 rfl (lv_at hl 3 rfl) ?_
  refine lv_sipush (v := 254) hx hb dX8_learn_19 (by decide) ?_
  refine lv_icmp_ne (tgt := 29) hx hb dX8_learn_22 (by decide) (fun c_6 => ?_) (fun c_6 => ?_)
  rotate_left
  · exact absurd c_6 (by decide)
  refine lv_iload_n hx hb dX8_learn_29 rfl (lv_at hl 3 rfl) ?_
  refine va_iast hx hb hK hP hD hS 1 0 rfl rfl (vp_in_nI (n := 1) (by omega) (by omega)) dX8_learn_30 (fun H locs hP hD hS => ?_)
  obtain ⟨f_7, ef_7⟩ : ∃ z : Nat → Int32, z = upd afT 1 (200) := ⟨_, rfl⟩
  rw [(show Int32.toNatClampNeg (1 : Int32) = 1 by decide)] at hP hD
  replace hP : va_P (dC, dI) vwCl [(ae, .inr (9, [.ref ata])), (ata, .inl (acI, 8, .inl f_7))] H := by rw [ef_7]; exact hP
  replace hD : va_D A [(ae, .inr (9, [.ref ata])), (ata, .inl (acI, 8, .inl f_7))] := by rw [ef_7]; exact hD
  have g7_0 : f_7 0 = (-1) := by rw [ef_7, pk_un (by omega)]; exact at0_
  have g7_2 : f_7 2 = (-1) := by rw [ef_7, pk_un (by omega)]; exact at2_
  have g7_3 : f_7 3 = (-1) := by rw [ef_7, pk_un (by omega)]; exact at3_
  have g7_4 : f_7 4 = (-1) := by rw [ef_7, pk_un (by omega)]; exact at4_
  have g7_5 : f_7 5 = (-1) := by rw [ef_7, pk_un (by omega)]; exact at5_
  have g7_6 : f_7 6 = (-1) := by rw [ef_7, pk_un (by omega)]; exact at6_
  have g7_7 : f_7 7 = (-1) := by rw [ef_7, pk_un (by omega)]; exact at7_
  refine lv_goto (tgt := 51) hx hb dX8_learn_31 (by decide) ?_
  refine lv_iinc (v := 2) (lv' := [(3, .int 2), (0, .ref ae), (1, .int 1), (2, .int 200)]) hx hb dX8_learn_51 hl (k := 0) rfl (by decide) (by decide) rfl (fun ls hl => ?_)
  refine lv_goto (tgt := 2) hx hb dX8_learn_54 (by decide) ?_
  refine lv_iload_n hx hb dX8_learn_2 rfl (lv_at hl 0 rfl) ?_
  refine lv_bipush (v := 8) hx hb dX8_learn_3 (by decide) ?_
  refine lv_icmp_ge (tgt := 57) hx hb dX8_learn_5 (by decide) (fun c_8 => ?_) (fun c_8 => ?_)
  · exact absurd c_8 (by decide)
  refine lv_iload_n hx hb dX8_learn_8 rfl (lv_at hl 0 rfl) ?_
  refine lv_iload_n hx hb dX8_learn_9 rfl (lv_at hl 2 rfl) ?_
  refine lv_icmp_ne (tgt := 34) hx hb dX8_learn_10 (by decide) (fun c_9 => ?_) (fun c_9 => ?_)
  rotate_left
  · exact absurd c_9 (by decide)
  refine lv_aload_n hx hb dX8_learn_34 rfl (lv_at hl 1 rfl) ?_
  refine va_get (D := (dC, dI)) (ci := 9) (v := .ref ata) (C := RX8) (T := TX8) (N := 1) hx hb hts in_c_learn_a_X8 hown hK hP 0 rfl rfl 0 (by decide) (hts (.fieldLink RX8 9 "ClaimBus$Table" "addresses" "[I") (List.mem_of_getElem? (i := 1) rfl)) (fun _ h9 => h9) rfl dX8_learn_35 ?_
  refine lv_iload_n hx hb dX8_learn_38 rfl (lv_at hl 0 rfl) ?_
  refine va_iald hx hb hK hP 1 0 rfl rfl (vp_in_nI (n := 2) (by omega) (by omega)) dX8_learn_39 ?_
  refine W.eq (g2 := F0 m 40 ls [.int (f_7 2)]) (by rw [(show Int32.toNatClampNeg (2 : Int32) = 2 by decide)]) ?_
  rw [g7_2]
  refine lv_iload_n hx hb dX8_learn_40 rfl (lv_at hl 3 rfl) ?_
  refine lv_icmp_ne (tgt := 51) hx hb dX8_learn_41 (by decide) (fun c_10 => ?_) (fun c_10 => ?_)
  rotate_left
  · exact absurd c_10 (by decide)
  refine lv_iinc (v := 3) (lv' := [(3, .int 3), (0, .ref ae), (1, .int 1), (2, .int 200)]) hx hb dX8_learn_51 hl (k := 0) rfl (by decide) (by decide) rfl (fun ls hl => ?_)
  refine lv_goto (tgt := 2) hx hb dX8_learn_54 (by decide) ?_
  refine lv_iload_n hx hb dX8_learn_2 rfl (lv_at hl 0 rfl) ?_
  refine lv_bipush (v := 8) hx hb dX8_learn_3 (by decide) ?_
  refine lv_icmp_ge (tgt := 57) hx hb dX8_learn_5 (by decide) (fun c_11 => ?_) (fun c_11 => ?_)
  · exact absurd c_11 (by decide)
  refine lv_iload_n hx hb dX8_learn_8 rfl (lv_at hl 0 rfl) ?_
  refine lv_iload_n hx hb dX8_learn_9 rfl (lv_at hl 2 rfl) ?_
  refine lv_icmp_ne (tgt := 34) hx hb dX8_learn_10 (by decide) (fun c_12 => ?_) (fun c_12 => ?_)
  rotate_left
  · exact absurd c_12 (by decide)
  refine lv_aload_n hx hb dX8_learn_34 rfl (lv_at hl 1 rfl) ?_
  refine va_get (D := (dC, dI)) (ci := 9) (v := .ref ata) (C := RX8) (T := TX8) (N := 1) hx hb hts in_c_learn_a_X8 hown hK hP 0 rfl rfl 0 (by decide) (hts (.fieldLink RX8 9 "ClaimBus$Table" "addresses" "[I") (List.mem_of_getElem? (i := 1) rfl)) (fun _ h9 => h9) rfl dX8_learn_35 ?_
  refine lv_iload_n hx hb dX8_learn_38 rfl (lv_at hl 0 rfl) ?_
  refine va_iald hx hb hK hP 1 0 rfl rfl (vp_in_nI (n := 3) (by omega) (by omega)) dX8_learn_39 ?_
  refine W.eq (g2 := F0 m 40 ls [.int (f_7 3)]) (by rw [(show Int32.toNatClampNeg (3 : Int32) = 3 by decide)]) ?_
  rw [g7_3]
  refine lv_iload_n hx hb dX8_learn_40 rfl (lv_at hl 3 rfl) ?_
  refine lv_icmp_ne (tgt := 51) hx hb dX8_learn_41 (by decide) (fun c_13 => ?_) (fun c_13 => ?_)
  rotate_left
  · exact absurd c_13 (by decide)
  refine lv_iinc (v := 4) (lv' := [(3, .int 4), (0, .ref ae), (1, .int 1), (2, .int 200)]) hx hb dX8_learn_51 hl (k := 0) rfl (by decide) (by decide) rfl (fun ls hl => ?_)
  refine lv_goto (tgt := 2) hx hb dX8_learn_54 (by decide) ?_
  refine lv_iload_n hx hb dX8_learn_2 rfl (lv_at hl 0 rfl) ?_
  refine lv_bipush (v := 8) hx hb dX8_learn_3 (by decide) ?_
  refine lv_icmp_ge (tgt := 57) hx hb dX8_learn_5 (by decide) (fun c_14 => ?_) (fun c_14 => ?_)
  · exact absurd c_14 (by decide)
  refine lv_iload_n hx hb dX8_learn_8 rfl (lv_at hl 0 rfl) ?_
  refine lv_iload_n hx hb dX8_learn_9 rfl (lv_at hl 2 rfl) ?_
  refine lv_icmp_ne (tgt := 34) hx hb dX8_learn_10 (by decide) (fun c_15 => ?_) (fun c_15 => ?_)
  rotate_left
  · exact absurd c_15 (by decide)
  refine lv_aload_n hx hb dX8_learn_34 rfl (lv_at hl 1 rfl) ?_
  refine va_get (D := (dC, dI)) (ci := 9) (v := .ref ata) (C := RX8) (T := TX8) (N := 1) hx hb hts in_c_learn_a_X8 hown hK hP 0 rfl rfl 0 (by decide) (hts (.fieldLink RX8 9 "ClaimBus$Table" "addresses" "[I") (List.mem_of_getElem? (i := 1) rfl)) (fun _ h9 => h9) rfl dX8_learn_35 ?_
  refine lv_iload_n hx hb dX8_learn_38 rfl (lv_at hl 0 rfl) ?_
  refine va_iald hx hb hK hP 1 0 rfl rfl (vp_in_nI (n := 4) (by omega) (by omega)) dX8_learn_39 ?_
  refine W.eq (g2 := F0 m 40 ls [.int (f_7 4)]) (by rw [(show Int32.toNatClampNeg (4 : Int32) = 4 by decide)]) ?_
  rw [g7_4]
  refine lv_iload_n hx hb dX8_learn_40 rfl (lv_at hl 3 rfl) ?_
  refine lv_icmp_ne (tgt := 51) hx hb dX8_learn_41 (by decide) (fun c_16 => ?_) (fun c_16 => ?_)
  rotate_left
  · exact absurd c_16 (by decide)
  refine lv_iinc (v := 5) (lv' := [(3, .int 5), (0, .ref ae), (1, .int 1), (2, .int 200)]) hx hb dX8_learn_51 hl (k := 0) rfl (by decide) (by decide) rfl (fun ls hl => ?_)
  refine lv_goto (tgt := 2) hx hb dX8_learn_54 (by decide) ?_
  refine lv_iload_n hx hb dX8_learn_2 rfl (lv_at hl 0 rfl) ?_
  refine lv_bipush (v := 8) hx hb dX8_learn_3 (by decide) ?_
  refine lv_icmp_ge (tgt := 57) hx hb dX8_learn_5 (by decide) (fun c_17 => ?_) (fun c_17 => ?_)
  · exact absurd c_17 (by decide)
  refine lv_iload_n hx hb dX8_learn_8 rfl (lv_at hl 0 rfl) ?_
  refine lv_iload_n hx hb dX8_learn_9 rfl (lv_at hl 2 rfl) ?_
  refine lv_icmp_ne (tgt := 34) hx hb dX8_learn_10 (by decide) (fun c_18 => ?_) (fun c_18 => ?_)
  rotate_left
  · exact absurd c_18 (by decide)
  refine lv_aload_n hx hb dX8_learn_34 rfl (lv_at hl 1 rfl) ?_
  refine va_get (D := (dC, dI)) (ci := 9) (v := .ref ata) (C := RX8) (T := TX8) (N := 1) hx hb hts in_c_learn_a_X8 hown hK hP 0 rfl rfl 0 (by decide) (hts (.fieldLink RX8 9 "ClaimBus$Table" "addresses" "[I") (List.mem_of_getElem? (i := 1) rfl)) (fun _ h9 => h9) rfl dX8_learn_35 ?_
  refine lv_iload_n hx hb dX8_learn_38 rfl (lv_at hl 0 rfl) ?_
  refine va_iald hx hb hK hP 1 0 rfl rfl (vp_in_nI (n := 5) (by omega) (by omega)) dX8_learn_39 ?_
  refine W.eq (g2 := F0 m 40 ls [.int (f_7 5)]) (by rw [(show Int32.toNatClampNeg (5 : Int32) = 5 by decide)]) ?_
  rw [g7_5]
  refine lv_iload_n hx hb dX8_learn_40 rfl (lv_at hl 3 rfl) ?_
  refine lv_icmp_ne (tgt := 51) hx hb dX8_learn_41 (by decide) (fun c_19 => ?_) (fun c_19 => ?_)
  rotate_left
  · exact absurd c_19 (by decide)
  refine lv_iinc (v := 6) (lv' := [(3, .int 6), (0, .ref ae), (1, .int 1), (2, .int 200)]) hx hb dX8_learn_51 hl (k := 0) rfl (by decide) (by decide) rfl (fun ls hl => ?_)
  refine lv_goto (tgt := 2) hx hb dX8_learn_54 (by decide) ?_
  refine lv_iload_n hx hb dX8_learn_2 rfl (lv_at hl 0 rfl) ?_
  refine lv_bipush (v := 8) hx hb dX8_learn_3 (by decide) ?_
  refine lv_icmp_ge (tgt := 57) hx hb dX8_learn_5 (by decide) (fun c_20 => ?_) (fun c_20 => ?_)
  · exact absurd c_20 (by decide)
  refine lv_iload_n hx hb dX8_learn_8 rfl (lv_at hl 0 rfl) ?_
  refine lv_iload_n hx hb dX8_learn_9 rfl (lv_at hl 2 rfl) ?_
  refine lv_icmp_ne (tgt := 34) hx hb dX8_learn_10 (by decide) (fun c_21 => ?_) (fun c_21 => ?_)
  rotate_left
  · exact absurd c_21 (by decide)
  refine lv_aload_n hx hb dX8_learn_34 rfl (lv_at hl 1 rfl) ?_
  refine va_get (D := (dC, dI)) (ci := 9) (v := .ref ata) (C := RX8) (T := TX8) (N := 1) hx hb hts in_c_learn_a_X8 hown hK hP 0 rfl rfl 0 (by decide) (hts (.fieldLink RX8 9 "ClaimBus$Table" "addresses" "[I") (List.mem_of_getElem? (i := 1) rfl)) (fun _ h9 => h9) rfl dX8_learn_35 ?_
  refine lv_iload_n hx hb dX8_learn_38 rfl (lv_at hl 0 rfl) ?_
  refine va_iald hx hb hK hP 1 0 rfl rfl (vp_in_nI (n := 6) (by omega) (by omega)) dX8_learn_39 ?_
  refine W.eq (g2 := F0 m 40 ls [.int (f_7 6)]) (by rw [(show Int32.toNatClampNeg (6 : Int32) = 6 by decide)]) ?_
  rw [g7_6]
  refine lv_iload_n hx hb dX8_learn_40 rfl (lv_at hl 3 rfl) ?_
  refine lv_icmp_ne (tgt := 51) hx hb dX8_learn_41 (by decide) (fun c_22 => ?_) (fun c_22 => ?_)
  rotate_left
  · exact absurd c_22 (by decide)
  refine lv_iinc (v := 7) (lv' := [(3, .int 7), (0, .ref ae), (1, .int 1), (2, .int 200)]) hx hb dX8_learn_51 hl (k := 0) rfl (by decide) (by decide) rfl (fun ls hl => ?_)
  refine lv_goto (tgt := 2) hx hb dX8_learn_54 (by decide) ?_
  refine lv_iload_n hx hb dX8_learn_2 rfl (lv_at hl 0 rfl) ?_
  refine lv_bipush (v := 8) hx hb dX8_learn_3 (by decide) ?_
  refine lv_icmp_ge (tgt := 57) hx hb dX8_learn_5 (by decide) (fun c_23 => ?_) (fun c_23 => ?_)
  · exact absurd c_23 (by decide)
  refine lv_iload_n hx hb dX8_learn_8 rfl (lv_at hl 0 rfl) ?_
  refine lv_iload_n hx hb dX8_learn_9 rfl (lv_at hl 2 rfl) ?_
  refine lv_icmp_ne (tgt := 34) hx hb dX8_learn_10 (by decide) (fun c_24 => ?_) (fun c_24 => ?_)
  rotate_left
  · exact absurd c_24 (by decide)
  refine lv_aload_n hx hb dX8_learn_34 rfl (lv_at hl 1 rfl) ?_
  refine va_get (D := (dC, dI)) (ci := 9) (v := .ref ata) (C := RX8) (T := TX8) (N := 1) hx hb hts in_c_learn_a_X8 hown hK hP 0 rfl rfl 0 (by decide) (hts (.fieldLink RX8 9 "ClaimBus$Table" "addresses" "[I") (List.mem_of_getElem? (i := 1) rfl)) (fun _ h9 => h9) rfl dX8_learn_35 ?_
  refine lv_iload_n hx hb dX8_learn_38 rfl (lv_at hl 0 rfl) ?_
  refine va_iald hx hb hK hP 1 0 rfl rfl (vp_in_nI (n := 7) (by omega) (by omega)) dX8_learn_39 ?_
  refine W.eq (g2 := F0 m 40 ls [.int (f_7 7)]) (by rw [(show Int32.toNatClampNeg (7 : Int32) = 7 by decide)]) ?_
  rw [g7_7]
  refine lv_iload_n hx hb dX8_learn_40 rfl (lv_at hl 3 rfl) ?_
  refine lv_icmp_ne (tgt := 51) hx hb dX8_learn_41 (by decide) (fun c_25 => ?_) (fun c_25 => ?_)
  rotate_left
  · exact absurd c_25 (by decide)
  refine lv_iinc (v := 8) (lv' := [(3, .int 8), (0, .ref ae), (1, .int 1), (2, .int 200)]) hx hb dX8_learn_51 hl (k := 0) rfl (by decide) (by decide) rfl (fun ls hl => ?_)
  refine lv_goto (tgt := 2) hx hb dX8_learn_54 (by decide) ?_
  refine lv_iload_n hx hb dX8_learn_2 rfl (lv_at hl 0 rfl) ?_
  refine lv_bipush (v := 8) hx hb dX8_learn_3 (by decide) ?_
  refine lv_icmp_ge (tgt := 57) hx hb dX8_learn_5 (by decide) (fun c_26 => ?_) (fun c_26 => ?_)
  rotate_left
  · exact absurd (by decide) c_26
  have hP9 := hP.sub (ws' := [(ae, .inr (9, [.ref ata])), (ata, .inl (acI, 8, .inl f_7))]) [0, 1] rfl
  have hD9 := hD.sub (ws' := [(ae, .inr (9, [.ref ata])), (ata, .inl (acI, 8, .inl f_7))]) [0, 1] (by decide +kernel) rfl
  have hK9 := hK.sub (tys' := [(acI, .int)]) [0] rfl
  exact W.vret hx hb hr (fun t ht hW => ⟨⟨(), rfl, trivial, ⟨f_7, by rw [ht]; exact hP9, va_K.moved hW.alike hK9, hD9⟩⟩, hS.F ht⟩) hS.2.2 dX8_learn_57

noncomputable def tl_c_hearClaim_a : List Cond := wsX40 ++ (v_c_X1_sourceN ++ (v_c_learn_a))
noncomputable def v_c_hearClaim_a : List Cond := .code yX4_hearClaim cX4_hearClaim 5 none :: ([.fieldLink RX4 12 "ClaimBus$Node" "table" "LClaimBus$Table;", .initialized RX1, .methodLink RX4 220 yX1_source, .instanceMethod yX1_source, .selects RX1 yX1_source yX1_source, .initialized RX8, .methodLink RX4 222 yX8_learn, .instanceMethod yX8_learn, .selects RX8 yX8_learn yX8_learn, .fieldLink RX4 53 "ClaimBus$Node" "state" "I", .fieldLink RX4 81 "ClaimBus$Node" "address" "I"] ++ tl_c_hearClaim_a)
theorem it_c_hearClaim_a : ∀ w ∈ tl_c_hearClaim_a, w ∈ v_c_hearClaim_a := fun w h => List.mem_cons_of_mem _ (List.mem_append_right _ h)
theorem in_c_hearClaim_a_X4 : ∀ w ∈ wsX40, w ∈ v_c_hearClaim_a := fun w h => it_c_hearClaim_a w (List.mem_append_left _ h)
theorem ic_c_hearClaim_a_c_X1_sourceN : ∀ w ∈ v_c_X1_sourceN, w ∈ v_c_hearClaim_a := fun w h => it_c_hearClaim_a w (List.mem_append_right _ (List.mem_append_left _ h))
theorem ic_c_hearClaim_a_c_learn_a : ∀ w ∈ v_c_learn_a, w ∈ v_c_hearClaim_a := fun w h => it_c_hearClaim_a w (List.mem_append_right _ (List.mem_append_right _ (h)))
theorem gt_c_hearClaim_a : ∀ w ∈ tl_c_hearClaim_a, goodWord w = true := List.forall_mem_append.mpr ⟨gw_wsX40, List.forall_mem_append.mpr ⟨gw_c_X1_sourceN, gw_c_learn_a⟩⟩
theorem gw_c_hearClaim_a : ∀ w ∈ v_c_hearClaim_a, goodWord w = true := List.forall_mem_cons.mpr ⟨by decide +kernel, List.forall_mem_append.mpr ⟨List.all_eq_true.mp (by decide +kernel), gt_c_hearClaim_a⟩⟩
theorem g_c_hearClaim_a_c_X1_sourceN_220 : GoodIn v_c_hearClaim_a (wsV RX4 220 RX1 yX1_source v_c_X1_sourceN) := goodIn_app (goodIn_r [.methodLink RX4 220 yX1_source, .instanceMethod yX1_source, .selects RX1 yX1_source yX1_source, .initialized RX1] [3, 4, 5, 2] (by decide +kernel) (by decide +kernel)) (fun w h => ⟨ic_c_hearClaim_a_c_X1_sourceN w h, good_of_word (gw_c_X1_sourceN w h)⟩)
theorem g_c_hearClaim_a_c_learn_a_222 : GoodIn v_c_hearClaim_a (wsV RX4 222 RX8 yX8_learn v_c_learn_a) := goodIn_app (goodIn_r [.methodLink RX4 222 yX8_learn, .instanceMethod yX8_learn, .selects RX8 yX8_learn yX8_learn, .initialized RX8] [7, 8, 9, 6] (by decide +kernel) (by decide +kernel)) (fun w h => ⟨ic_c_hearClaim_a_c_learn_a w h, good_of_word (gw_c_learn_a w h)⟩)
set_option maxHeartbeats 4000000 in
set_option maxRecDepth 100000 in
theorem c_hearClaim_a (l : Launch) (dC : Nat → ClassId) (dI : Nat → Nat → Nat) (an : Nat) (ar : Nat) (ae : Nat) (as : Nat) (ai : Nat) (ag : Nat) (ac : Nat) (au : Nat) (awi : Nat) (acc : Nat) (ata : Nat) (acI : ClassId) (afT : Nat → Int32) (h1 : Nat) (zj : Int32) (sz : Nat) (at0_ : afT 0 = (-1)) (at1_ : afT 1 = (-1)) (at2_ : afT 2 = (-1)) (at3_ : afT 3 = (-1)) (at4_ : afT 4 = (-1)) (at5_ : afT 5 = (-1)) (at6_ : afT 6 = (-1)) (at7_ : afT 7 = (-1)) : Met l yX4_hearClaim v_c_hearClaim_a ({ frames := 1, cells := 0, slots := 0, locals := 23 }) (va_Pc [.ref an, .ref h1, .int 1] (fun U => U.heap.size = sz ∧ va_P (dC, dI) vwCl [(an, .inr (5, [.int 0, .int 5, .int 10, .int 0, .int (nI awi), .ref ar, .ref ae, .ref as, .ref ai, .ref ag, .ref ac, .ref au, .int 0, .int 1, .int 10, .int (nI acc), .int 0, .int 0])), (h1, .inr (2, [.int 418316232, .int zj, .int 0, .null])), (ae, .inr (9, [.ref ata])), (ata, .inl (acI, 8, .inl afT))] U.heap ∧ va_K (dC, dI) vwCl [(acI, .int)] U ∧ va_D (fun _ => True) [(an, .inr (5, [.int 0, .int 5, .int 10, .int 0, .int (nI awi), .ref ar, .ref ae, .ref as, .ref ai, .ref ag, .ref ac, .ref au, .int 0, .int 1, .int 10, .int (nI acc), .int 0, .int 0])), (h1, .inr (2, [.int 418316232, .int zj, .int 0, .null])), (ae, .inr (9, [.ref ata])), (ata, .inl (acI, 8, .inl afT))] ∧ ev U)) (va_Qv (fun _ : Unit => True) (fun (_ : Unit) (t : State) => ∃ (fT2 : Nat → Int32), va_P (dC, dI) vwCl [(an, .inr (5, [.int 0, .int 5, .int 10, .int 0, .int (nI awi), .ref ar, .ref ae, .ref as, .ref ai, .ref ag, .ref ac, .ref au, .int 0, .int 1, .int 10, .int (nI acc), .int 0, .int 0])), (h1, .inr (2, [.int 418316232, .int zj, .int 0, .null])), (ae, .inr (9, [.ref ata])), (ata, .inl (acI, 8, .inl fT2))] t.heap ∧ va_K (dC, dI) vwCl [(acI, .int)] t ∧ va_D (va_A [(an, .inr (5, [.int 0, .int 5, .int 10, .int 0, .int (nI awi), .ref ar, .ref ae, .ref as, .ref ai, .ref ag, .ref ac, .ref au, .int 0, .int 1, .int 10, .int (nI acc), .int 0, .int 0])), (h1, .inr (2, [.int 418316232, .int zj, .int 0, .null])), (ae, .inr (9, [.ref ata])), (ata, .inl (acI, 8, .inl afT))] sz) [(an, .inr (5, [.int 0, .int 5, .int 10, .int 0, .int (nI awi), .ref ar, .ref ae, .ref as, .ref ai, .ref ag, .ref ac, .ref au, .int 0, .int 1, .int 10, .int (nI acc), .int 0, .int 0])), (h1, .inr (2, [.int 418316232, .int zj, .int 0, .null])), (ae, .inr (9, [.ref ata])), (ata, .inl (acI, 8, .inl fT2))]) (va_A [(an, .inr (5, [.int 0, .int 5, .int 10, .int 0, .int (nI awi), .ref ar, .ref ae, .ref as, .ref ai, .ref ag, .ref ac, .ref au, .int 0, .int 1, .int 10, .int (nI acc), .int 0, .int 0])), (h1, .inr (2, [.int 418316232, .int zj, .int 0, .null])), (ae, .inr (9, [.ref ata])), (ata, .inl (acI, 8, .inl afT))] sz)) 0 0 (va_A [(an, .inr (5, [.int 0, .int 5, .int 10, .int 0, .int (nI awi), .ref ar, .ref ae, .ref as, .ref ai, .ref ag, .ref ac, .ref au, .int 0, .int 1, .int 10, .int (nI acc), .int 0, .int 0])), (h1, .inr (2, [.int 418316232, .int zj, .int 0, .null])), (ae, .inr (9, [.ref ata])), (ata, .inl (acI, 8, .inl afT))] sz) := by
  refine Met.ofW (cc := cX4_hearClaim) (maxL := 5) (ret := none) (by decide) rfl ?_
  intro p e s m args below meth c s₁ B hml hv
  obtain ⟨rfl, hsz, hP, hK, hD0, hE⟩ := hv
  have hx := B.exec
  have hb := B.bytes
  have hr := B.returns
  have hts := atoms_spec (ws := v_c_hearClaim_a) B.pre
  have hown : s.vm.findClass RX4 = some m.cls := findClass_of_methodNamed B.named
  have hlocks := B.notSynchronized
  subst hsz
  have hD := hD0.self (sz := s.heap.size)
  generalize hAe : va_A [(an, .inr (5, [.int 0, .int 5, .int 10, .int 0, .int (nI awi), .ref ar, .ref ae, .ref as, .ref ai, .ref ag, .ref ac, .ref au, .int 0, .int 1, .int 10, .int (nI acc), .int 0, .int 0])), (h1, .inr (2, [.int 418316232, .int zj, .int 0, .null])), (ae, .inr (9, [.ref ata])), (ata, .inl (acI, 8, .inl afT))] s.heap.size = A at hD ⊢
  have hA : ∀ q : Nat, s.heap.size ≤ q → A q := fun q h => by rw [← hAe]; exact Or.inr h
  have hS : va_S A s.heap s.heap [] := va_S.rf
  replace hP : va_P (dC, dI) vwCl [(an, .inr (5, [.int 0, .int 5, .int 10, .int 0, .int (nI awi), .ref ar, .ref ae, .ref as, .ref ai, .ref ag, .ref ac, .ref au, .int 0, .int 1, .int 10, .int (nI acc), .int 0, .int 0])), (h1, .inr (2, [.int 418316232, .int zj, .int 0, .null])), (ae, .inr (9, [.ref ata])), (ata, .inl (acI, 8, .inl afT))] s.heap := hP
  have hl := lv_entry ([.ref an, .ref h1, .int 1]) (n := 5) (Nat.le_of_ble_eq_true rfl)
  rw [lg_entry_eq]
  generalize (lg_sl ([.ref an, .ref h1, .int 1]) ++ List.replicate (5 - (lg_sl ([.ref an, .ref h1, .int 1])).length) Slot.unset).toArray = ls at hl ⊢
  replace hl : lv_has ls 5 [(0, .ref an), (1, .ref h1), (2, .int 1)] := hl
  obtain ⟨H, hH⟩ : ∃ z : Heap, z = s.heap := ⟨_, rfl⟩
  rw [← hH]
  replace hS : va_S A s.heap H [] := by rw [hH]; exact va_S.rf
  replace hP : va_P (dC, dI) vwCl [(an, .inr (5, [.int 0, .int 5, .int 10, .int 0, .int (nI awi), .ref ar, .ref ae, .ref as, .ref ai, .ref ag, .ref ac, .ref au, .int 0, .int 1, .int 10, .int (nI acc), .int 0, .int 0])), (h1, .inr (2, [.int 418316232, .int zj, .int 0, .null])), (ae, .inr (9, [.ref ata])), (ata, .inl (acI, 8, .inl afT))] H := by rw [hH]; exact hP
  clear hH
  refine lv_aload_n hx hb dX4_hearClaim_0 rfl (lv_at hl 0 rfl) ?_
  refine va_get (D := (dC, dI)) (ci := 5) (v := .ref ae) (C := RX4) (T := TX4) (N := 18) hx hb hts in_c_hearClaim_a_X4 hown hK hP 0 rfl rfl 6 (by decide) (hts (.fieldLink RX4 12 "ClaimBus$Node" "table" "LClaimBus$Table;") (List.mem_of_getElem? (i := 1) rfl)) (fun _ h9 => h9) rfl dX4_hearClaim_1 ?_
  refine lv_iload_n hx hb dX4_hearClaim_4 rfl (lv_at hl 2 rfl) ?_
  refine lv_aload_n hx hb dX4_hearClaim_5 rfl (lv_at hl 1 rfl) ?_
  have hPc := hP.sub (ws' := [(h1, .inr (2, [.int (nI 418316232), .int zj, .int 0, .null]))]) [1] rfl
  have hDc := hD.sub (ws' := [(h1, .inr (2, [.int (nI 418316232), .int zj, .int 0, .null]))]) [1] (by decide +kernel) rfl
  have hKc := hK.sub (tys' := []) [] rfl
  have hFc := ro_free hS hA
  refine va_calli (va_runV (As := []) (rest := [.int 1, .ref ae]) ⟨hx, hb, hml, hown, hts⟩ (c_X1_sourceN l dC dI (h1) (418316232) (zj) (0) H.size (by omega)) (cwV 0 hts g_c_hearClaim_a_c_X1_sourceN_220 rfl rfl rfl (by decide +kernel) ⟨Nat.le_of_ble_eq_true rfl, Nat.le_of_ble_eq_true rfl⟩) ⟨fun a U g mk q => by obtain ⟨q0, q1, qP, qK, qD, qE⟩ := q; exact ⟨q0, q1, qP, va_K.moved (u := U) (U := U.calling g mk a) (Vm.Alike.refl U.vm) qK, qD, ev.same (u := U) (U := U.calling g mk a) rfl qE⟩, va_recv hKc hPc (ci := 2) (q0 := 0) rfl rfl, fun U hU hW => ⟨rfl, by rw [hU], by rw [hU]; exact hPc, va_K.moved hW.alike hKc, hDc.weaken (fun _ _ _ _ => trivial), hE.warm hW⟩⟩ rfl rfl hl.1 rfl (lv_room (Nat.le_of_ble_eq_true rfl)) dX4_hearClaim_6 ⟨Nat.le_of_ble_eq_true rfl, Nat.le_of_ble_eq_true rfl⟩) hS (fun q _ h => hFc q h) hFc (fun r_1 u t H1 locs ht hvm hw hB hz1 hk1 hS => ?_)
  clear hPc hDc hKc
  replace hP := ro_keep hP hk1
  generalize H1 = H at hP hS ⊢
  replace hP : va_P (dC, dI) vwCl [(an, .inr (5, [.int 0, .int 5, .int 10, .int 0, .int (nI awi), .ref ar, .ref ae, .ref as, .ref ai, .ref ag, .ref ac, .ref au, .int 0, .int 1, .int 10, .int (nI acc), .int 0, .int 0])), (h1, .inr (2, [.int 418316232, .int zj, .int 0, .null])), (ae, .inr (9, [.ref ata])), (ata, .inl (acI, 8, .inl afT))] H := hP
  have hw := hw.symm
  subst hw
  rw [show ((nI (418316232 % 256)) : Int32) = 200 from (congrArg nI (show (418316232 % 256) = 200 from by omega)).trans (by decide)]
  have hPc := hP.sub (ws' := [(ae, .inr (9, [.ref ata])), (ata, .inl (acI, 8, .inl afT))]) [2, 3] rfl
  have hDc := hD.sub (ws' := [(ae, .inr (9, [.ref ata])), (ata, .inl (acI, 8, .inl afT))]) [2, 3] (by decide +kernel) rfl
  have hKc := hK.sub (tys' := [(acI, .int)]) [0] rfl
  have hFc := va_free (wc := [(ae, .inr (9, [.ref ata])), (ata, .inl (acI, 8, .inl afT))]) hD hS hA [2, 3] rfl
  refine va_callv (va_runV (As := [.int 1, .int 200]) (rest := []) ⟨hx, hb, hml, hown, hts⟩ (c_learn_a l dC dI (ae) (ata) (acI) (afT) H.size at0_ at1_ at2_ at3_ at4_ at5_ at6_ at7_) (cwV 2 hts g_c_hearClaim_a_c_learn_a_222 rfl rfl rfl (by decide +kernel) ⟨Nat.le_of_ble_eq_true rfl, Nat.le_of_ble_eq_true rfl⟩) ⟨fun a U g mk q => by obtain ⟨q0, q1, qP, qK, qD, qE⟩ := q; exact ⟨q0, q1, qP, va_K.moved (u := U) (U := U.calling g mk a) (Vm.Alike.refl U.vm) qK, qD, ev.same (u := U) (U := U.calling g mk a) rfl qE⟩, va_recv hKc hPc (ci := 9) (q0 := 0) rfl rfl, fun U hU hW => ⟨rfl, by rw [hU], by rw [hU]; exact hPc, va_K.moved hW.alike hKc, hDc.weaken (fun _ _ _ _ => trivial), hE.warm hW⟩⟩ rfl rfl hl.1 rfl (lv_room (Nat.le_of_ble_eq_true rfl)) dX4_hearClaim_9 ⟨Nat.le_of_ble_eq_true rfl, Nat.le_of_ble_eq_true rfl⟩) hS (fun q _ h => hFc q h) hFc (fun u t H1 locs ht hvm hw hB hz1 hk1 hS => ?_)
  clear hPc hDc hKc
  obtain ⟨fT2_2, hP1, hK1, hD1⟩ := hB
  rw [ht] at hP1
  have hK1 := va_K.moved hvm.symm hK1
  obtain ⟨hP, hD⟩ := va_join (wr := [(an, .inr (5, [.int 0, .int 5, .int 10, .int 0, .int (nI awi), .ref ar, .ref ae, .ref as, .ref ai, .ref ag, .ref ac, .ref au, .int 0, .int 1, .int 10, .int (nI acc), .int 0, .int 0])), (h1, .inr (2, [.int 418316232, .int zj, .int 0, .null]))]) (w1 := [(ae, .inr (9, [.ref ata])), (ata, .inl (acI, 8, .inl fT2_2))]) hP hD [2, 3] [0, 1] rfl rfl (by decide +kernel) (by decide +kernel) hk1 hFc hP1 hD1
  generalize H1 = H at hP hS ⊢
  replace hP : va_P (dC, dI) vwCl [(an, .inr (5, [.int 0, .int 5, .int 10, .int 0, .int (nI awi), .ref ar, .ref ae, .ref as, .ref ai, .ref ag, .ref ac, .ref au, .int 0, .int 1, .int 10, .int (nI acc), .int 0, .int 0])), (h1, .inr (2, [.int 418316232, .int zj, .int 0, .null])), (ae, .inr (9, [.ref ata])), (ata, .inl (acI, 8, .inl fT2_2))] H := hP
  replace hD : va_D A [(an, .inr (5, [.int 0, .int 5, .int 10, .int 0, .int (nI awi), .ref ar, .ref ae, .ref as, .ref ai, .ref ag, .ref ac, .ref au, .int 0, .int 1, .int 10, .int (nI acc), .int 0, .int 0])), (h1, .inr (2, [.int 418316232, .int zj, .int 0, .null])), (ae, .inr (9, [.ref ata])), (ata, .inl (acI, 8, .inl fT2_2))] := hD
  clear hw
  refine lv_aload_n hx hb dX4_hearClaim_12 rfl (lv_at hl 0 rfl) ?_
  refine va_get (D := (dC, dI)) (ci := 5) (v := .int 1) (C := RX4) (T := TX4) (N := 18) hx hb hts in_c_hearClaim_a_X4 hown hK hP 0 rfl rfl 13 (by decide) (hts (.fieldLink RX4 53 "ClaimBus$Node" "state" "I") (List.mem_of_getElem? (i := 10) rfl)) (fun _ h9 => h9) rfl dX4_hearClaim_13 ?_
  refine lv_iconst (v := 1) hx hb dX4_hearClaim_16 (by decide) ?_
  refine lv_icmp_eq (tgt := 28) hx hb dX4_hearClaim_17 (by decide) (fun c_3 => ?_) (fun c_3 => ?_)
  rotate_left
  · exact absurd (by decide) c_3
  refine lv_iconst (v := 1) hx hb dX4_hearClaim_28 (by decide) ?_
  refine lv_goto (tgt := 33) hx hb dX4_hearClaim_29 (by decide) ?_
  refine lv_istore_n (lv' := [(3, .int 1), (0, .ref an), (1, .ref h1), (2, .int 1)]) hx hb dX4_hearClaim_33 rfl hl (by decide) rfl (fun ls hl => ?_)
  refine lv_iload_n hx hb dX4_hearClaim_34 rfl (lv_at hl 0 rfl) ?_
  refine lv_if_eq (tgt := 49) hx hb dX4_hearClaim_35 (by decide) (fun c_4 => ?_) (fun c_4 => ?_)
  · exact absurd c_4 (by decide)
  refine lv_aload_n hx hb dX4_hearClaim_38 rfl (lv_at hl 2 rfl) ?_
  have hPc := hP.sub (ws' := [(h1, .inr (2, [.int (nI 418316232), .int zj, .int 0, .null]))]) [1] rfl
  have hDc := hD.sub (ws' := [(h1, .inr (2, [.int (nI 418316232), .int zj, .int 0, .null]))]) [1] (by decide +kernel) rfl
  have hKc := hK.sub (tys' := []) [] rfl
  have hFc := ro_free hS hA
  refine va_calli (va_runV (As := []) (rest := []) ⟨hx, hb, hml, hown, hts⟩ (c_X1_sourceN l dC dI (h1) (418316232) (zj) (0) H.size (by omega)) (cwV 0 hts g_c_hearClaim_a_c_X1_sourceN_220 rfl rfl rfl (by decide +kernel) ⟨Nat.le_of_ble_eq_true rfl, Nat.le_of_ble_eq_true rfl⟩) ⟨fun a U g mk q => by obtain ⟨q0, q1, qP, qK, qD, qE⟩ := q; exact ⟨q0, q1, qP, va_K.moved (u := U) (U := U.calling g mk a) (Vm.Alike.refl U.vm) qK, qD, ev.same (u := U) (U := U.calling g mk a) rfl qE⟩, va_recv hKc hPc (ci := 2) (q0 := 0) rfl rfl, fun U hU hW => ⟨rfl, by rw [hU], by rw [hU]; exact hPc, va_K.moved hW.alike hKc, hDc.weaken (fun _ _ _ _ => trivial), hE.warm hW⟩⟩ rfl rfl hl.1 rfl (lv_room (Nat.le_of_ble_eq_true rfl)) dX4_hearClaim_39 ⟨Nat.le_of_ble_eq_true rfl, Nat.le_of_ble_eq_true rfl⟩) hS (fun q _ h => hFc q h) hFc (fun r_5 u t H1 locs ht hvm hw hB hz1 hk1 hS => ?_)
  clear hPc hDc hKc
  replace hP := ro_keep hP hk1
  generalize H1 = H at hP hS ⊢
  replace hP : va_P (dC, dI) vwCl [(an, .inr (5, [.int 0, .int 5, .int 10, .int 0, .int (nI awi), .ref ar, .ref ae, .ref as, .ref ai, .ref ag, .ref ac, .ref au, .int 0, .int 1, .int 10, .int (nI acc), .int 0, .int 0])), (h1, .inr (2, [.int 418316232, .int zj, .int 0, .null])), (ae, .inr (9, [.ref ata])), (ata, .inl (acI, 8, .inl fT2_2))] H := hP
  have hw := hw.symm
  subst hw
  rw [show ((nI (418316232 % 256)) : Int32) = 200 from (congrArg nI (show (418316232 % 256) = 200 from by omega)).trans (by decide)]
  refine lv_aload_n hx hb dX4_hearClaim_42 rfl (lv_at hl 1 rfl) ?_
  refine va_get (D := (dC, dI)) (ci := 5) (v := .int 10) (C := RX4) (T := TX4) (N := 18) hx hb hts in_c_hearClaim_a_X4 hown hK hP 0 rfl rfl 14 (by decide) (hts (.fieldLink RX4 81 "ClaimBus$Node" "address" "I") (List.mem_of_getElem? (i := 11) rfl)) (fun _ h9 => h9) rfl dX4_hearClaim_43 ?_
  refine lv_icmp_eq (tgt := 50) hx hb dX4_hearClaim_46 (by decide) (fun c_6 => ?_) (fun c_6 => ?_)
  · exact absurd c_6 (by decide)
  have hP9 := hP.sub (ws' := [(an, .inr (5, [.int 0, .int 5, .int 10, .int 0, .int (nI awi), .ref ar, .ref ae, .ref as, .ref ai, .ref ag, .ref ac, .ref au, .int 0, .int 1, .int 10, .int (nI acc), .int 0, .int 0])), (h1, .inr (2, [.int 418316232, .int zj, .int 0, .null])), (ae, .inr (9, [.ref ata])), (ata, .inl (acI, 8, .inl fT2_2))]) [0, 1, 2, 3] rfl
  have hD9 := hD.sub (ws' := [(an, .inr (5, [.int 0, .int 5, .int 10, .int 0, .int (nI awi), .ref ar, .ref ae, .ref as, .ref ai, .ref ag, .ref ac, .ref au, .int 0, .int 1, .int 10, .int (nI acc), .int 0, .int 0])), (h1, .inr (2, [.int 418316232, .int zj, .int 0, .null])), (ae, .inr (9, [.ref ata])), (ata, .inl (acI, 8, .inl fT2_2))]) [0, 1, 2, 3] (by decide +kernel) rfl
  have hK9 := hK.sub (tys' := [(acI, .int)]) [0] rfl
  exact W.vret hx hb hr (fun t ht hW => ⟨⟨(), rfl, trivial, ⟨fT2_2, by rw [ht]; exact hP9, va_K.moved hW.alike hK9, hD9⟩⟩, hS.F ht⟩) hS.2.2 dX4_hearClaim_49

noncomputable def tl_c_hear_a : List Cond := wsX40 ++ (v_c_X1_isOf_yN ++ (v_c_hearClaim_a))
noncomputable def v_c_hear_a : List Cond := .code yX4_hear cX4_hear 4 none :: ([.fieldLink RX4 59 "ClaimBus$Node" "toLose" "I", .initialized RX1, .methodLink RX4 190 yX1_isOf, .instanceMethod yX1_isOf, .selects RX1 yX1_isOf yX1_isOf, .initialized RX4, .methodLink RX4 196 yX4_hearClaim, .instanceMethod yX4_hearClaim, .selects RX4 yX4_hearClaim yX4_hearClaim] ++ tl_c_hear_a)
theorem it_c_hear_a : ∀ w ∈ tl_c_hear_a, w ∈ v_c_hear_a := fun w h => List.mem_cons_of_mem _ (List.mem_append_right _ h)
theorem in_c_hear_a_X4 : ∀ w ∈ wsX40, w ∈ v_c_hear_a := fun w h => it_c_hear_a w (List.mem_append_left _ h)
theorem ic_c_hear_a_c_X1_isOf_yN : ∀ w ∈ v_c_X1_isOf_yN, w ∈ v_c_hear_a := fun w h => it_c_hear_a w (List.mem_append_right _ (List.mem_append_left _ h))
theorem ic_c_hear_a_c_hearClaim_a : ∀ w ∈ v_c_hearClaim_a, w ∈ v_c_hear_a := fun w h => it_c_hear_a w (List.mem_append_right _ (List.mem_append_right _ (h)))
theorem gt_c_hear_a : ∀ w ∈ tl_c_hear_a, goodWord w = true := List.forall_mem_append.mpr ⟨gw_wsX40, List.forall_mem_append.mpr ⟨gw_c_X1_isOf_yN, gw_c_hearClaim_a⟩⟩
theorem gw_c_hear_a : ∀ w ∈ v_c_hear_a, goodWord w = true := List.forall_mem_cons.mpr ⟨by decide +kernel, List.forall_mem_append.mpr ⟨List.all_eq_true.mp (by decide +kernel), gt_c_hear_a⟩⟩
theorem g_c_hear_a_c_X1_isOf_yN_190 : GoodIn v_c_hear_a (wsV RX4 190 RX1 yX1_isOf v_c_X1_isOf_yN) := goodIn_app (goodIn_r [.methodLink RX4 190 yX1_isOf, .instanceMethod yX1_isOf, .selects RX1 yX1_isOf yX1_isOf, .initialized RX1] [3, 4, 5, 2] (by decide +kernel) (by decide +kernel)) (fun w h => ⟨ic_c_hear_a_c_X1_isOf_yN w h, good_of_word (gw_c_X1_isOf_yN w h)⟩)
theorem g_c_hear_a_c_hearClaim_a_196 : GoodIn v_c_hear_a (wsV RX4 196 RX4 yX4_hearClaim v_c_hearClaim_a) := goodIn_app (goodIn_r [.methodLink RX4 196 yX4_hearClaim, .instanceMethod yX4_hearClaim, .selects RX4 yX4_hearClaim yX4_hearClaim, .initialized RX4] [7, 8, 9, 6] (by decide +kernel) (by decide +kernel)) (fun w h => ⟨ic_c_hear_a_c_hearClaim_a w h, good_of_word (gw_c_hearClaim_a w h)⟩)
set_option maxHeartbeats 4000000 in
set_option maxRecDepth 100000 in
theorem c_hear_a (l : Launch) (dC : Nat → ClassId) (dI : Nat → Nat → Nat) (an : Nat) (ar : Nat) (ae : Nat) (as : Nat) (ai : Nat) (ag : Nat) (ac : Nat) (au : Nat) (awi : Nat) (acc : Nat) (ata : Nat) (acI : ClassId) (afT : Nat → Int32) (h1 : Nat) (zj : Int32) (tm : Nat) (sz : Nat) (at0_ : afT 0 = (-1)) (at1_ : afT 1 = (-1)) (at2_ : afT 2 = (-1)) (at3_ : afT 3 = (-1)) (at4_ : afT 4 = (-1)) (at5_ : afT 5 = (-1)) (at6_ : afT 6 = (-1)) (at7_ : afT 7 = (-1)) : Met l yX4_hear v_c_hear_a ({ frames := 2, cells := 0, slots := 0, locals := 47 }) (va_Pc [.ref an, .ref h1, .int 1, .int (nI tm)] (fun U => U.heap.size = sz ∧ va_P (dC, dI) vwCl [(an, .inr (5, [.int 0, .int 5, .int 10, .int 0, .int (nI awi), .ref ar, .ref ae, .ref as, .ref ai, .ref ag, .ref ac, .ref au, .int 0, .int 1, .int 10, .int (nI acc), .int 0, .int 0])), (h1, .inr (2, [.int 418316232, .int zj, .int 0, .null])), (ae, .inr (9, [.ref ata])), (ata, .inl (acI, 8, .inl afT))] U.heap ∧ va_K (dC, dI) vwCl [(acI, .int)] U ∧ va_D (fun _ => True) [(an, .inr (5, [.int 0, .int 5, .int 10, .int 0, .int (nI awi), .ref ar, .ref ae, .ref as, .ref ai, .ref ag, .ref ac, .ref au, .int 0, .int 1, .int 10, .int (nI acc), .int 0, .int 0])), (h1, .inr (2, [.int 418316232, .int zj, .int 0, .null])), (ae, .inr (9, [.ref ata])), (ata, .inl (acI, 8, .inl afT))] ∧ ev U)) (va_Qv (fun _ : Unit => True) (fun (_ : Unit) (t : State) => ∃ (fT2 : Nat → Int32), va_P (dC, dI) vwCl [(an, .inr (5, [.int 0, .int 5, .int 10, .int 0, .int (nI awi), .ref ar, .ref ae, .ref as, .ref ai, .ref ag, .ref ac, .ref au, .int 0, .int 1, .int 10, .int (nI acc), .int 0, .int 0])), (h1, .inr (2, [.int 418316232, .int zj, .int 0, .null])), (ae, .inr (9, [.ref ata])), (ata, .inl (acI, 8, .inl fT2))] t.heap ∧ va_K (dC, dI) vwCl [(acI, .int)] t ∧ va_D (va_A [(an, .inr (5, [.int 0, .int 5, .int 10, .int 0, .int (nI awi), .ref ar, .ref ae, .ref as, .ref ai, .ref ag, .ref ac, .ref au, .int 0, .int 1, .int 10, .int (nI acc), .int 0, .int 0])), (h1, .inr (2, [.int 418316232, .int zj, .int 0, .null])), (ae, .inr (9, [.ref ata])), (ata, .inl (acI, 8, .inl afT))] sz) [(an, .inr (5, [.int 0, .int 5, .int 10, .int 0, .int (nI awi), .ref ar, .ref ae, .ref as, .ref ai, .ref ag, .ref ac, .ref au, .int 0, .int 1, .int 10, .int (nI acc), .int 0, .int 0])), (h1, .inr (2, [.int 418316232, .int zj, .int 0, .null])), (ae, .inr (9, [.ref ata])), (ata, .inl (acI, 8, .inl fT2))]) (va_A [(an, .inr (5, [.int 0, .int 5, .int 10, .int 0, .int (nI awi), .ref ar, .ref ae, .ref as, .ref ai, .ref ag, .ref ac, .ref au, .int 0, .int 1, .int 10, .int (nI acc), .int 0, .int 0])), (h1, .inr (2, [.int 418316232, .int zj, .int 0, .null])), (ae, .inr (9, [.ref ata])), (ata, .inl (acI, 8, .inl afT))] sz)) 0 0 (va_A [(an, .inr (5, [.int 0, .int 5, .int 10, .int 0, .int (nI awi), .ref ar, .ref ae, .ref as, .ref ai, .ref ag, .ref ac, .ref au, .int 0, .int 1, .int 10, .int (nI acc), .int 0, .int 0])), (h1, .inr (2, [.int 418316232, .int zj, .int 0, .null])), (ae, .inr (9, [.ref ata])), (ata, .inl (acI, 8, .inl afT))] sz) := by
  refine Met.ofW (cc := cX4_hear) (maxL := 4) (ret := none) (by decide) rfl ?_
  intro p e s m args below meth c s₁ B hml hv
  obtain ⟨rfl, hsz, hP, hK, hD0, hE⟩ := hv
  have hx := B.exec
  have hb := B.bytes
  have hr := B.returns
  have hts := atoms_spec (ws := v_c_hear_a) B.pre
  have hown : s.vm.findClass RX4 = some m.cls := findClass_of_methodNamed B.named
  have hlocks := B.notSynchronized
  subst hsz
  have hD := hD0.self (sz := s.heap.size)
  generalize hAe : va_A [(an, .inr (5, [.int 0, .int 5, .int 10, .int 0, .int (nI awi), .ref ar, .ref ae, .ref as, .ref ai, .ref ag, .ref ac, .ref au, .int 0, .int 1, .int 10, .int (nI acc), .int 0, .int 0])), (h1, .inr (2, [.int 418316232, .int zj, .int 0, .null])), (ae, .inr (9, [.ref ata])), (ata, .inl (acI, 8, .inl afT))] s.heap.size = A at hD ⊢
  have hA : ∀ q : Nat, s.heap.size ≤ q → A q := fun q h => by rw [← hAe]; exact Or.inr h
  have hS : va_S A s.heap s.heap [] := va_S.rf
  replace hP : va_P (dC, dI) vwCl [(an, .inr (5, [.int 0, .int 5, .int 10, .int 0, .int (nI awi), .ref ar, .ref ae, .ref as, .ref ai, .ref ag, .ref ac, .ref au, .int 0, .int 1, .int 10, .int (nI acc), .int 0, .int 0])), (h1, .inr (2, [.int 418316232, .int zj, .int 0, .null])), (ae, .inr (9, [.ref ata])), (ata, .inl (acI, 8, .inl afT))] s.heap := hP
  have hl := lv_entry ([.ref an, .ref h1, .int 1, .int (nI tm)]) (n := 4) (Nat.le_of_ble_eq_true rfl)
  rw [lg_entry_eq]
  generalize (lg_sl ([.ref an, .ref h1, .int 1, .int (nI tm)]) ++ List.replicate (4 - (lg_sl ([.ref an, .ref h1, .int 1, .int (nI tm)])).length) Slot.unset).toArray = ls at hl ⊢
  replace hl : lv_has ls 4 [(0, .ref an), (1, .ref h1), (2, .int 1), (3, .int (nI tm))] := hl
  obtain ⟨H, hH⟩ : ∃ z : Heap, z = s.heap := ⟨_, rfl⟩
  rw [← hH]
  replace hS : va_S A s.heap H [] := by rw [hH]; exact va_S.rf
  replace hP : va_P (dC, dI) vwCl [(an, .inr (5, [.int 0, .int 5, .int 10, .int 0, .int (nI awi), .ref ar, .ref ae, .ref as, .ref ai, .ref ag, .ref ac, .ref au, .int 0, .int 1, .int 10, .int (nI acc), .int 0, .int 0])), (h1, .inr (2, [.int 418316232, .int zj, .int 0, .null])), (ae, .inr (9, [.ref ata])), (ata, .inl (acI, 8, .inl afT))] H := by rw [hH]; exact hP
  clear hH
  refine lv_aload_n hx hb dX4_hear_0 rfl (lv_at hl 0 rfl) ?_
  refine va_get (D := (dC, dI)) (ci := 5) (v := .int 0) (C := RX4) (T := TX4) (N := 18) hx hb hts in_c_hear_a_X4 hown hK hP 0 rfl rfl 16 (by decide) (hts (.fieldLink RX4 59 "ClaimBus$Node" "toLose" "I") (List.mem_of_getElem? (i := 1) rfl)) (fun _ h9 => h9) rfl dX4_hear_1 ?_
  refine lv_if_le (tgt := 30) hx hb dX4_hear_4 (by decide) (fun c_1 => ?_) (fun c_1 => ?_)
  rotate_left
  · exact absurd (by decide) c_1
  refine lv_aload_n hx hb dX4_hear_30 rfl (lv_at hl 1 rfl) ?_
  refine lv_sipush (v := 238) hx hb dX4_hear_31 (by decide) ?_
  have hPc := hP.sub (ws' := [(h1, .inr (2, [.int (nI 418316232), .int zj, .int 0, .null]))]) [1] rfl
  have hDc := hD.sub (ws' := [(h1, .inr (2, [.int (nI 418316232), .int zj, .int 0, .null]))]) [1] (by decide +kernel) rfl
  have hKc := hK.sub (tys' := []) [] rfl
  have hFc := ro_free hS hA
  refine va_calli (va_runV (As := [.int 238]) (rest := []) ⟨hx, hb, hml, hown, hts⟩ (c_X1_isOf_yN l dC dI (h1) (418316232) (zj) (0) (238) H.size (by omega) (by omega) (by omega)) (cwV 1 hts g_c_hear_a_c_X1_isOf_yN_190 rfl rfl rfl (by decide +kernel) ⟨Nat.le_of_ble_eq_true rfl, Nat.le_of_ble_eq_true rfl⟩) ⟨fun a U g mk q => by obtain ⟨q0, q1, qP, qK, qD, qE⟩ := q; exact ⟨q0, q1, qP, va_K.moved (u := U) (U := U.calling g mk a) (Vm.Alike.refl U.vm) qK, qD, ev.same (u := U) (U := U.calling g mk a) rfl qE⟩, va_recv hKc hPc (ci := 2) (q0 := 0) rfl rfl, fun U hU hW => ⟨rfl, by rw [hU], by rw [hU]; exact hPc, va_K.moved hW.alike hKc, hDc.weaken (fun _ _ _ _ => trivial), hE.warm hW⟩⟩ rfl rfl hl.1 rfl (lv_room (Nat.le_of_ble_eq_true rfl)) dX4_hear_34 ⟨Nat.le_of_ble_eq_true rfl, Nat.le_of_ble_eq_true rfl⟩) hS (fun q _ h => hFc q h) hFc (fun r_2 u t H1 locs ht hvm hw hB hz1 hk1 hS => ?_)
  clear hPc hDc hKc
  replace hP := ro_keep hP hk1
  generalize H1 = H at hP hS ⊢
  replace hP : va_P (dC, dI) vwCl [(an, .inr (5, [.int 0, .int 5, .int 10, .int 0, .int (nI awi), .ref ar, .ref ae, .ref as, .ref ai, .ref ag, .ref ac, .ref au, .int 0, .int 1, .int 10, .int (nI acc), .int 0, .int 0])), (h1, .inr (2, [.int 418316232, .int zj, .int 0, .null])), (ae, .inr (9, [.ref ata])), (ata, .inl (acI, 8, .inl afT))] H := hP
  have hw := hw.symm
  subst hw
  refine lv_if_eq (tgt := 49) hx hb dX4_hear_37 (by decide) (fun c_3 => ?_) (fun c_3 => ?_)
  · exact absurd c_3 (by decide)
  refine lv_aload_n hx hb dX4_hear_40 rfl (lv_at hl 0 rfl) ?_
  refine lv_aload_n hx hb dX4_hear_41 rfl (lv_at hl 1 rfl) ?_
  refine lv_iload_n hx hb dX4_hear_42 rfl (lv_at hl 2 rfl) ?_
  have hPc := hP.sub (ws' := [(an, .inr (5, [.int 0, .int 5, .int 10, .int 0, .int (nI awi), .ref ar, .ref ae, .ref as, .ref ai, .ref ag, .ref ac, .ref au, .int 0, .int 1, .int 10, .int (nI acc), .int 0, .int 0])), (h1, .inr (2, [.int 418316232, .int zj, .int 0, .null])), (ae, .inr (9, [.ref ata])), (ata, .inl (acI, 8, .inl afT))]) [0, 1, 2, 3] rfl
  have hDc := hD.sub (ws' := [(an, .inr (5, [.int 0, .int 5, .int 10, .int 0, .int (nI awi), .ref ar, .ref ae, .ref as, .ref ai, .ref ag, .ref ac, .ref au, .int 0, .int 1, .int 10, .int (nI acc), .int 0, .int 0])), (h1, .inr (2, [.int 418316232, .int zj, .int 0, .null])), (ae, .inr (9, [.ref ata])), (ata, .inl (acI, 8, .inl afT))]) [0, 1, 2, 3] (by decide +kernel) rfl
  have hKc := hK.sub (tys' := [(acI, .int)]) [0] rfl
  have hFc := va_free (wc := [(an, .inr (5, [.int 0, .int 5, .int 10, .int 0, .int (nI awi), .ref ar, .ref ae, .ref as, .ref ai, .ref ag, .ref ac, .ref au, .int 0, .int 1, .int 10, .int (nI acc), .int 0, .int 0])), (h1, .inr (2, [.int 418316232, .int zj, .int 0, .null])), (ae, .inr (9, [.ref ata])), (ata, .inl (acI, 8, .inl afT))]) hD hS hA [0, 1, 2, 3] rfl
  refine va_callv (va_runV (As := [.ref h1, .int 1]) (rest := []) ⟨hx, hb, hml, hown, hts⟩ (c_hearClaim_a l dC dI (an) (ar) (ae) (as) (ai) (ag) (ac) (au) (awi) (acc) (ata) (acI) (afT) (h1) (zj) H.size at0_ at1_ at2_ at3_ at4_ at5_ at6_ at7_) (cwV 2 hts g_c_hear_a_c_hearClaim_a_196 rfl rfl rfl (by decide +kernel) ⟨Nat.le_of_ble_eq_true rfl, Nat.le_of_ble_eq_true rfl⟩) ⟨fun a U g mk q => by obtain ⟨q0, q1, qP, qK, qD, qE⟩ := q; exact ⟨q0, q1, qP, va_K.moved (u := U) (U := U.calling g mk a) (Vm.Alike.refl U.vm) qK, qD, ev.same (u := U) (U := U.calling g mk a) rfl qE⟩, va_recv hKc hPc (ci := 5) (q0 := 0) rfl rfl, fun U hU hW => ⟨rfl, by rw [hU], by rw [hU]; exact hPc, va_K.moved hW.alike hKc, hDc.weaken (fun _ _ _ _ => trivial), hE.warm hW⟩⟩ rfl rfl hl.1 rfl (lv_room (Nat.le_of_ble_eq_true rfl)) dX4_hear_43 ⟨Nat.le_of_ble_eq_true rfl, Nat.le_of_ble_eq_true rfl⟩) hS (fun q _ h => hFc q h) hFc (fun u t H1 locs ht hvm hw hB hz1 hk1 hS => ?_)
  clear hPc hDc hKc
  obtain ⟨fT2_4, hP1, hK1, hD1⟩ := hB
  rw [ht] at hP1
  have hK1 := va_K.moved hvm.symm hK1
  obtain ⟨hP, hD⟩ := va_join (wr := []) (w1 := [(an, .inr (5, [.int 0, .int 5, .int 10, .int 0, .int (nI awi), .ref ar, .ref ae, .ref as, .ref ai, .ref ag, .ref ac, .ref au, .int 0, .int 1, .int 10, .int (nI acc), .int 0, .int 0])), (h1, .inr (2, [.int 418316232, .int zj, .int 0, .null])), (ae, .inr (9, [.ref ata])), (ata, .inl (acI, 8, .inl fT2_4))]) hP hD [0, 1, 2, 3] [] rfl rfl (by decide +kernel) (by decide +kernel) hk1 hFc hP1 hD1
  generalize H1 = H at hP hS ⊢
  replace hP : va_P (dC, dI) vwCl [(an, .inr (5, [.int 0, .int 5, .int 10, .int 0, .int (nI awi), .ref ar, .ref ae, .ref as, .ref ai, .ref ag, .ref ac, .ref au, .int 0, .int 1, .int 10, .int (nI acc), .int 0, .int 0])), (h1, .inr (2, [.int 418316232, .int zj, .int 0, .null])), (ae, .inr (9, [.ref ata])), (ata, .inl (acI, 8, .inl fT2_4))] H := hP
  replace hD : va_D A [(an, .inr (5, [.int 0, .int 5, .int 10, .int 0, .int (nI awi), .ref ar, .ref ae, .ref as, .ref ai, .ref ag, .ref ac, .ref au, .int 0, .int 1, .int 10, .int (nI acc), .int 0, .int 0])), (h1, .inr (2, [.int 418316232, .int zj, .int 0, .null])), (ae, .inr (9, [.ref ata])), (ata, .inl (acI, 8, .inl fT2_4))] := hD
  clear hw
  refine lv_goto (tgt := 152) hx hb dX4_hear_46 (by decide) ?_
  have hP9 := hP.sub (ws' := [(an, .inr (5, [.int 0, .int 5, .int 10, .int 0, .int (nI awi), .ref ar, .ref ae, .ref as, .ref ai, .ref ag, .ref ac, .ref au, .int 0, .int 1, .int 10, .int (nI acc), .int 0, .int 0])), (h1, .inr (2, [.int 418316232, .int zj, .int 0, .null])), (ae, .inr (9, [.ref ata])), (ata, .inl (acI, 8, .inl fT2_4))]) [0, 1, 2, 3] rfl
  have hD9 := hD.sub (ws' := [(an, .inr (5, [.int 0, .int 5, .int 10, .int 0, .int (nI awi), .ref ar, .ref ae, .ref as, .ref ai, .ref ag, .ref ac, .ref au, .int 0, .int 1, .int 10, .int (nI acc), .int 0, .int 0])), (h1, .inr (2, [.int 418316232, .int zj, .int 0, .null])), (ae, .inr (9, [.ref ata])), (ata, .inl (acI, 8, .inl fT2_4))]) [0, 1, 2, 3] (by decide +kernel) rfl
  have hK9 := hK.sub (tys' := [(acI, .int)]) [0] rfl
  exact W.vret hx hb hr (fun t ht hW => ⟨⟨(), rfl, trivial, ⟨fT2_4, by rw [ht]; exact hP9, va_K.moved hW.alike hK9, hD9⟩⟩, hS.F ht⟩) hS.2.2 dX4_hear_152
