noncomputable def tl_c_message_3 : List Cond := wsX40 ++ (v_c_find_1 ++ (v_c_logged_3))
noncomputable def v_c_message_3 : List Cond := .code yX10_message cX10_message 5 (some .int) :: ([.initialized RX10, .methodLink RX10 53 yX10_find, .instanceMethod yX10_find, .selects RX10 yX10_find yX10_find, .fieldLink RX10 140 "ClaimBus$Node" "inbox" "LClaimBus$Inbox;", .initialized RX2, .methodLink RX10 164 yX2_logged, .instanceMethod yX2_logged, .selects RX2 yX2_logged yX2_logged] ++ tl_c_message_3)
theorem it_c_message_3 : ∀ w ∈ tl_c_message_3, w ∈ v_c_message_3 := fun w h => List.mem_cons_of_mem _ (List.mem_append_right _ h)
theorem in_c_message_3_X4 : ∀ w ∈ wsX40, w ∈ v_c_message_3 := fun w h => it_c_message_3 w (List.mem_append_left _ h)
theorem ic_c_message_3_c_find_1 : ∀ w ∈ v_c_find_1, w ∈ v_c_message_3 := fun w h => it_c_message_3 w (List.mem_append_right _ (List.mem_append_left _ h))
theorem ic_c_message_3_c_logged_3 : ∀ w ∈ v_c_logged_3, w ∈ v_c_message_3 := fun w h => it_c_message_3 w (List.mem_append_right _ (List.mem_append_right _ (h)))
theorem gt_c_message_3 : ∀ w ∈ tl_c_message_3, goodWord w = true := List.forall_mem_append.mpr ⟨gw_wsX40, List.forall_mem_append.mpr ⟨gw_c_find_1, gw_c_logged_3⟩⟩
theorem gw_c_message_3 : ∀ w ∈ v_c_message_3, goodWord w = true := List.forall_mem_cons.mpr ⟨by decide +kernel, List.forall_mem_append.mpr ⟨List.all_eq_true.mp (by decide +kernel), gt_c_message_3⟩⟩
theorem g_c_message_3_c_find_1_53 : GoodIn v_c_message_3 (wsV RX10 53 RX10 yX10_find v_c_find_1) := goodIn_app (goodIn_r [.methodLink RX10 53 yX10_find, .instanceMethod yX10_find, .selects RX10 yX10_find yX10_find, .initialized RX10] [2, 3, 4, 1] (by decide +kernel) (by decide +kernel)) (fun w h => ⟨ic_c_message_3_c_find_1 w h, good_of_word (gw_c_find_1 w h)⟩)
theorem g_c_message_3_c_logged_3_164 : GoodIn v_c_message_3 (wsV RX10 164 RX2 yX2_logged v_c_logged_3) := goodIn_app (goodIn_r [.methodLink RX10 164 yX2_logged, .instanceMethod yX2_logged, .selects RX2 yX2_logged yX2_logged, .initialized RX2] [7, 8, 9, 6] (by decide +kernel) (by decide +kernel)) (fun w h => ⟨ic_c_message_3_c_logged_3 w h, good_of_word (gw_c_logged_3 w h)⟩)
set_option maxHeartbeats 4000000 in
set_option maxRecDepth 100000 in
theorem c_message_3 (l : Launch) (dC : Nat → ClassId) (dI : Nat → Nat → Nat) (x : Nat) (nr : Nat) (st : Nat) (lf : Nat) (tm : Nat) (fcn : Nat) (xl : Int32) (cN : ClassId) (fn : Nat → Option Nat) (bn : Nat) (bh : Int32) (bl : Int32) (bwa : Int32) (bfr : Int32) (bwi : Nat) (br : Nat) (be : Nat) (bs : Nat) (bi : Nat) (bg : Nat) (bc : Nat) (bu : Nat) (bcc : Nat) (nc : Nat) (lg : Nat) (lt : Nat) (cL : ClassId) (fL : Nat → Int32) (p0 : Nat) (sz : Nat) (n1 : fn 1 = some bn) (hp0 : p0 < nc) (hnc : nc ≤ 20) : Met l yX10_message v_c_message_3 ({ frames := 1, cells := 0, slots := 0, locals := 22 }) (va_Pc [.ref x, .int 1, .int (nI p0), .int 3] (fun U => U.heap.size = sz ∧ va_P (dC, dI) vwCl [(x, .inr (11, [.ref nr, .ref st, .ref lf, .int 2, .int (nI tm), .int (nI fcn), .int xl, .int 0])), (nr, .inl (cN, 8, .inr (.inr (.inr (.inr fn))))), (bn, .inr (5, [.int bh, .int bl, .int bwa, .int bfr, .int (nI bwi), .ref br, .ref be, .ref bs, .ref bi, .ref bg, .ref bc, .ref bu, .int 0, .int 2, .int 200, .int (nI bcc), .int 0, .int 0])), (bi, .inr (3, [.int (nI nc), .int 0, .ref lg, .ref lt])), (lg, .inl (cL, 80, .inl fL))] U.heap ∧ va_K (dC, dI) vwCl [(cN, (.object RX4)), (cL, .int)] U ∧ va_D (fun _ => True) [(x, .inr (11, [.ref nr, .ref st, .ref lf, .int 2, .int (nI tm), .int (nI fcn), .int xl, .int 0])), (nr, .inl (cN, 8, .inr (.inr (.inr (.inr fn))))), (bn, .inr (5, [.int bh, .int bl, .int bwa, .int bfr, .int (nI bwi), .ref br, .ref be, .ref bs, .ref bi, .ref bg, .ref bc, .ref bu, .int 0, .int 2, .int 200, .int (nI bcc), .int 0, .int 0])), (bi, .inr (3, [.int (nI nc), .int 0, .ref lg, .ref lt])), (lg, .inl (cL, 80, .inl fL))] ∧ ev U)) (va_Qi (fun (r : Int32) (_ : Unit) => r = fL (4 * p0 + 3)) (fun (_ : Unit) (_ : State) => True) (va_A [] sz)) 0 0 (va_A [] sz) := by
  refine Met.ofW (cc := cX10_message) (maxL := 5) (ret := (some .int)) (by decide) rfl ?_
  intro p e s m args below meth c s₁ B hml hv
  obtain ⟨rfl, hsz, hP, hK, hD0, hE⟩ := hv
  have hx := B.exec
  have hb := B.bytes
  have hr := B.returns
  have hts := atoms_spec (ws := v_c_message_3) B.pre
  have hown : s.vm.findClass RX10 = some m.cls := findClass_of_methodNamed B.named
  have hlocks := B.notSynchronized
  subst hsz
  have hD := hD0
  generalize hAe : va_A [] s.heap.size = A
  have hA : ∀ q : Nat, s.heap.size ≤ q → A q := fun q h => by rw [← hAe]; exact Or.inr h
  have hS : va_S A s.heap s.heap [] := va_S.rf
  replace hP : va_P (dC, dI) vwCl [(x, .inr (11, [.ref nr, .ref st, .ref lf, .int 2, .int (nI tm), .int (nI fcn), .int xl, .int 0])), (nr, .inl (cN, 8, .inr (.inr (.inr (.inr fn))))), (bn, .inr (5, [.int bh, .int bl, .int bwa, .int bfr, .int (nI bwi), .ref br, .ref be, .ref bs, .ref bi, .ref bg, .ref bc, .ref bu, .int 0, .int 2, .int 200, .int (nI bcc), .int 0, .int 0])), (bi, .inr (3, [.int (nI nc), .int 0, .ref lg, .ref lt])), (lg, .inl (cL, 80, .inl fL))] s.heap := hP
  have hl := lv_entry ([.ref x, .int 1, .int (nI p0), .int 3]) (n := 5) (Nat.le_of_ble_eq_true rfl)
  rw [lg_entry_eq]
  generalize (lg_sl ([.ref x, .int 1, .int (nI p0), .int 3]) ++ List.replicate (5 - (lg_sl ([.ref x, .int 1, .int (nI p0), .int 3])).length) Slot.unset).toArray = ls at hl ⊢
  replace hl : lv_has ls 5 [(0, .ref x), (1, .int 1), (2, .int (nI p0)), (3, .int 3)] := hl
  obtain ⟨H, hH⟩ : ∃ z : Heap, z = s.heap := ⟨_, rfl⟩
  rw [← hH]
  replace hS : va_S A s.heap H [] := by rw [hH]; exact va_S.rf
  replace hP : va_P (dC, dI) vwCl [(x, .inr (11, [.ref nr, .ref st, .ref lf, .int 2, .int (nI tm), .int (nI fcn), .int xl, .int 0])), (nr, .inl (cN, 8, .inr (.inr (.inr (.inr fn))))), (bn, .inr (5, [.int bh, .int bl, .int bwa, .int bfr, .int (nI bwi), .ref br, .ref be, .ref bs, .ref bi, .ref bg, .ref bc, .ref bu, .int 0, .int 2, .int 200, .int (nI bcc), .int 0, .int 0])), (bi, .inr (3, [.int (nI nc), .int 0, .ref lg, .ref lt])), (lg, .inl (cL, 80, .inl fL))] H := by rw [hH]; exact hP
  clear hH
  refine lv_aload_n hx hb dX10_message_0 rfl (lv_at hl 0 rfl) ?_
  refine lv_iload_n hx hb dX10_message_1 rfl (lv_at hl 1 rfl) ?_
  have hPc := hP.sub (ws' := [(x, .inr (11, [.ref nr, .ref st, .ref lf, .int 2, .int (nI tm), .int (nI fcn), .int xl, .int 0])), (nr, .inl (cN, 8, .inr (.inr (.inr (.inr fn)))))]) [0, 1] rfl
  have hDc := hD.sub (ws' := [(x, .inr (11, [.ref nr, .ref st, .ref lf, .int 2, .int (nI tm), .int (nI fcn), .int xl, .int 0])), (nr, .inl (cN, 8, .inr (.inr (.inr (.inr fn)))))]) [0, 1] (by decide +kernel) rfl
  have hKc := hK.sub (tys' := [(cN, (.object RX4))]) [0] rfl
  have hFc := ro_free hS hA
  refine va_callq (va_runV (As := [.int 1]) (rest := []) ⟨hx, hb, hml, hown, hts⟩ (c_find_1 l dC dI (x) (nr) (st) (lf) (tm) (fcn) (xl) (cN) (fn) (bn) H.size n1) (cwV 1 hts g_c_message_3_c_find_1_53 rfl rfl rfl (by decide +kernel) ⟨Nat.le_of_ble_eq_true rfl, Nat.le_of_ble_eq_true rfl⟩) ⟨fun a U g mk q => by obtain ⟨q0, q1, qP, qK, qD, qE⟩ := q; exact ⟨q0, q1, qP, va_K.moved (u := U) (U := U.calling g mk a) (Vm.Alike.refl U.vm) qK, qD, ev.same (u := U) (U := U.calling g mk a) rfl qE⟩, va_recv hKc hPc (ci := 11) (q0 := 0) rfl rfl, fun U hU hW => ⟨rfl, by rw [hU], by rw [hU]; exact hPc, va_K.moved hW.alike hKc, hDc.weaken (fun _ _ _ _ => trivial), hE.warm hW⟩⟩ rfl rfl hl.1 rfl (lv_room (Nat.le_of_ble_eq_true rfl)) dX10_message_2 ⟨Nat.le_of_ble_eq_true rfl, Nat.le_of_ble_eq_true rfl⟩) hS (fun q _ h => hFc q h) hFc (fun r_1 u t H1 locs ht hvm hw hB hz1 hk1 hS => ?_)
  clear hPc hDc hKc
  replace hP := ro_keep hP hk1
  generalize H1 = H at hP hS ⊢
  replace hP : va_P (dC, dI) vwCl [(x, .inr (11, [.ref nr, .ref st, .ref lf, .int 2, .int (nI tm), .int (nI fcn), .int xl, .int 0])), (nr, .inl (cN, 8, .inr (.inr (.inr (.inr fn))))), (bn, .inr (5, [.int bh, .int bl, .int bwa, .int bfr, .int (nI bwi), .ref br, .ref be, .ref bs, .ref bi, .ref bg, .ref bc, .ref bu, .int 0, .int 2, .int 200, .int (nI bcc), .int 0, .int 0])), (bi, .inr (3, [.int (nI nc), .int 0, .ref lg, .ref lt])), (lg, .inl (cL, 80, .inl fL))] H := hP
  have hw := hw.symm
  subst hw
  refine W.eq (g2 := F0 m 5 ls [.ref bn]) rfl ?_
  refine lv_astore (lv' := [(4, .ref bn), (0, .ref x), (1, .int 1), (2, .int (nI p0)), (3, .int 3)]) hx hb dX10_message_5 hl (by decide) rfl (fun ls hl => ?_)
  refine lv_aload hx hb dX10_message_7 (lv_at hl 0 rfl) ?_
  refine lv_ifnonnull (tgt := 16) hx hb dX10_message_9 (by decide) ?_
  refine lv_aload hx hb dX10_message_16 (lv_at hl 0 rfl) ?_
  refine va_get (D := (dC, dI)) (ci := 5) (v := .ref bi) (C := RX4) (T := TX4) (N := 18) hx hb hts in_c_message_3_X4 hown hK hP 2 rfl rfl 8 (by decide) (hts (.fieldLink RX10 140 "ClaimBus$Node" "inbox" "LClaimBus$Inbox;") (List.mem_of_getElem? (i := 5) rfl)) (fun _ h9 => h9) rfl dX10_message_18 ?_
  refine lv_iload_n hx hb dX10_message_21 rfl (lv_at hl 3 rfl) ?_
  refine lv_iload_n hx hb dX10_message_22 rfl (lv_at hl 4 rfl) ?_
  have hPc := hP.sub (ws' := [(bi, .inr (3, [.int (nI nc), .int 0, .ref lg, .ref lt])), (lg, .inl (cL, 80, .inl fL))]) [3, 4] rfl
  have hDc := hD.sub (ws' := [(bi, .inr (3, [.int (nI nc), .int 0, .ref lg, .ref lt])), (lg, .inl (cL, 80, .inl fL))]) [3, 4] (by decide +kernel) rfl
  have hKc := hK.sub (tys' := [(cL, .int)]) [1] rfl
  have hFc := ro_free hS hA
  refine va_calli (va_runV (As := [.int (nI p0), .int 3]) (rest := []) ⟨hx, hb, hml, hown, hts⟩ (c_logged_3 l dC dI (bi) (nc) (lg) (lt) (cL) (fL) (p0) H.size hp0 hnc) (cwV 2 hts g_c_message_3_c_logged_3_164 rfl rfl rfl (by decide +kernel) ⟨Nat.le_of_ble_eq_true rfl, Nat.le_of_ble_eq_true rfl⟩) ⟨fun a U g mk q => by obtain ⟨q0, q1, qP, qK, qD, qE⟩ := q; exact ⟨q0, q1, qP, va_K.moved (u := U) (U := U.calling g mk a) (Vm.Alike.refl U.vm) qK, qD, ev.same (u := U) (U := U.calling g mk a) rfl qE⟩, va_recv hKc hPc (ci := 3) (q0 := 0) rfl rfl, fun U hU hW => ⟨rfl, by rw [hU], by rw [hU]; exact hPc, va_K.moved hW.alike hKc, hDc.weaken (fun _ _ _ _ => trivial), hE.warm hW⟩⟩ rfl rfl hl.1 rfl (lv_room (Nat.le_of_ble_eq_true rfl)) dX10_message_23 ⟨Nat.le_of_ble_eq_true rfl, Nat.le_of_ble_eq_true rfl⟩) hS (fun q _ h => hFc q h) hFc (fun r_2 u t H1 locs ht hvm hw hB hz1 hk1 hS => ?_)
  clear hPc hDc hKc
  replace hP := ro_keep hP hk1
  generalize H1 = H at hP hS ⊢
  replace hP : va_P (dC, dI) vwCl [(x, .inr (11, [.ref nr, .ref st, .ref lf, .int 2, .int (nI tm), .int (nI fcn), .int xl, .int 0])), (nr, .inl (cN, 8, .inr (.inr (.inr (.inr fn))))), (bn, .inr (5, [.int bh, .int bl, .int bwa, .int bfr, .int (nI bwi), .ref br, .ref be, .ref bs, .ref bi, .ref bg, .ref bc, .ref bu, .int 0, .int 2, .int 200, .int (nI bcc), .int 0, .int 0])), (bi, .inr (3, [.int (nI nc), .int 0, .ref lg, .ref lt])), (lg, .inl (cL, 80, .inl fL))] H := hP
  have hw := hw.symm
  subst hw
  exact W.iret (v := (fL (4 * p0 + 3))) hx hb hr (fun t ht hW => ⟨⟨(fL (4 * p0 + 3)), (), rfl, rfl, trivial⟩, hS.F ht⟩) hS.2.2 dX10_message_26

noncomputable def tl_c_disturbed : List Cond := wsX100 ++ (wsX40 ++ (v_c_find_0 ++ (v_c_find_1)))
noncomputable def v_c_disturbed : List Cond := .code yX10_isDisturbed cX10_isDisturbed 3 (some .boolean) :: ([.fieldLink RX10 29 "ClaimBus" "nodeCount" "I", .initialized RX10, .methodLink RX10 53 yX10_find, .instanceMethod yX10_find, .selects RX10 yX10_find yX10_find, .fieldLink RX10 152 "ClaimBus$Node" "lost" "I", .fieldLink RX10 42 "ClaimBus" "stopped" "Z"] ++ tl_c_disturbed)
theorem it_c_disturbed : ∀ w ∈ tl_c_disturbed, w ∈ v_c_disturbed := fun w h => List.mem_cons_of_mem _ (List.mem_append_right _ h)
theorem in_c_disturbed_X10 : ∀ w ∈ wsX100, w ∈ v_c_disturbed := fun w h => it_c_disturbed w (List.mem_append_left _ h)
theorem in_c_disturbed_X4 : ∀ w ∈ wsX40, w ∈ v_c_disturbed := fun w h => it_c_disturbed w (List.mem_append_right _ (List.mem_append_left _ h))
theorem ic_c_disturbed_c_find_0 : ∀ w ∈ v_c_find_0, w ∈ v_c_disturbed := fun w h => it_c_disturbed w (List.mem_append_right _ (List.mem_append_right _ (List.mem_append_left _ h)))
theorem ic_c_disturbed_c_find_1 : ∀ w ∈ v_c_find_1, w ∈ v_c_disturbed := fun w h => it_c_disturbed w (List.mem_append_right _ (List.mem_append_right _ (List.mem_append_right _ (h))))
theorem gt_c_disturbed : ∀ w ∈ tl_c_disturbed, goodWord w = true := List.forall_mem_append.mpr ⟨gw_wsX100, List.forall_mem_append.mpr ⟨gw_wsX40, List.forall_mem_append.mpr ⟨gw_c_find_0, gw_c_find_1⟩⟩⟩
theorem gw_c_disturbed : ∀ w ∈ v_c_disturbed, goodWord w = true := List.forall_mem_cons.mpr ⟨by decide +kernel, List.forall_mem_append.mpr ⟨List.all_eq_true.mp (by decide +kernel), gt_c_disturbed⟩⟩
theorem g_c_disturbed_c_find_0_53 : GoodIn v_c_disturbed (wsV RX10 53 RX10 yX10_find v_c_find_0) := goodIn_app (goodIn_r [.methodLink RX10 53 yX10_find, .instanceMethod yX10_find, .selects RX10 yX10_find yX10_find, .initialized RX10] [3, 4, 5, 2] (by decide +kernel) (by decide +kernel)) (fun w h => ⟨ic_c_disturbed_c_find_0 w h, good_of_word (gw_c_find_0 w h)⟩)
theorem g_c_disturbed_c_find_1_53 : GoodIn v_c_disturbed (wsV RX10 53 RX10 yX10_find v_c_find_1) := goodIn_app (goodIn_r [.methodLink RX10 53 yX10_find, .instanceMethod yX10_find, .selects RX10 yX10_find yX10_find, .initialized RX10] [3, 4, 5, 2] (by decide +kernel) (by decide +kernel)) (fun w h => ⟨ic_c_disturbed_c_find_1 w h, good_of_word (gw_c_find_1 w h)⟩)
set_option maxHeartbeats 4000000 in
set_option maxRecDepth 100000 in
theorem c_disturbed (l : Launch) (dC : Nat → ClassId) (dI : Nat → Nat → Nat) (x : Nat) (nr : Nat) (st : Nat) (lf : Nat) (tm : Nat) (fcn : Nat) (xl : Int32) (cN : ClassId) (fn : Nat → Option Nat) (an : Nat) (ah : Int32) (al : Int32) (awa : Int32) (afr : Int32) (awi : Nat) (ar : Nat) (ae : Nat) (as : Nat) (ai : Nat) (ag : Nat) (ac : Nat) (au : Nat) (acc : Nat) (bn : Nat) (bh : Int32) (bl : Int32) (bwa : Int32) (bfr : Int32) (bwi : Nat) (br : Nat) (be : Nat) (bs : Nat) (bi : Nat) (bg : Nat) (bc : Nat) (bu : Nat) (bcc : Nat) (sz : Nat) (n0 : fn 0 = some an) (n1 : fn 1 = some bn) : Met l yX10_isDisturbed v_c_disturbed ({ frames := 1, cells := 0, slots := 0, locals := 21 }) (va_Pc [.ref x] (fun U => U.heap.size = sz ∧ va_P (dC, dI) vwCl [(x, .inr (11, [.ref nr, .ref st, .ref lf, .int 2, .int (nI tm), .int (nI fcn), .int xl, .int 0])), (nr, .inl (cN, 8, .inr (.inr (.inr (.inr fn))))), (an, .inr (5, [.int ah, .int al, .int awa, .int afr, .int (nI awi), .ref ar, .ref ae, .ref as, .ref ai, .ref ag, .ref ac, .ref au, .int 0, .int 2, .int 10, .int (nI acc), .int 0, .int 0])), (bn, .inr (5, [.int bh, .int bl, .int bwa, .int bfr, .int (nI bwi), .ref br, .ref be, .ref bs, .ref bi, .ref bg, .ref bc, .ref bu, .int 0, .int 2, .int 200, .int (nI bcc), .int 0, .int 0]))] U.heap ∧ va_K (dC, dI) vwCl [(cN, (.object RX4))] U ∧ va_D (fun _ => True) [(x, .inr (11, [.ref nr, .ref st, .ref lf, .int 2, .int (nI tm), .int (nI fcn), .int xl, .int 0])), (nr, .inl (cN, 8, .inr (.inr (.inr (.inr fn))))), (an, .inr (5, [.int ah, .int al, .int awa, .int afr, .int (nI awi), .ref ar, .ref ae, .ref as, .ref ai, .ref ag, .ref ac, .ref au, .int 0, .int 2, .int 10, .int (nI acc), .int 0, .int 0])), (bn, .inr (5, [.int bh, .int bl, .int bwa, .int bfr, .int (nI bwi), .ref br, .ref be, .ref bs, .ref bi, .ref bg, .ref bc, .ref bu, .int 0, .int 2, .int 200, .int (nI bcc), .int 0, .int 0]))] ∧ ev U)) (va_Qi (fun (r : Int32) (_ : Unit) => r = 0) (fun (_ : Unit) (_ : State) => True) (va_A [] sz)) 0 0 (va_A [] sz) := by
  refine Met.ofW (cc := cX10_isDisturbed) (maxL := 3) (ret := (some .boolean)) (by decide) rfl ?_
  intro p e s m args below meth c s₁ B hml hv
  obtain ⟨rfl, hsz, hP, hK, hD0, hE⟩ := hv
  have hx := B.exec
  have hb := B.bytes
  have hr := B.returns
  have hts := atoms_spec (ws := v_c_disturbed) B.pre
  have hown : s.vm.findClass RX10 = some m.cls := findClass_of_methodNamed B.named
  have hlocks := B.notSynchronized
  subst hsz
  have hD := hD0
  generalize hAe : va_A [] s.heap.size = A
  have hA : ∀ q : Nat, s.heap.size ≤ q → A q := fun q h => by rw [← hAe]; exact Or.inr h
  have hS : va_S A s.heap s.heap [] := va_S.rf
  replace hP : va_P (dC, dI) vwCl [(x, .inr (11, [.ref nr, .ref st, .ref lf, .int 2, .int (nI tm), .int (nI fcn), .int xl, .int 0])), (nr, .inl (cN, 8, .inr (.inr (.inr (.inr fn))))), (an, .inr (5, [.int ah, .int al, .int awa, .int afr, .int (nI awi), .ref ar, .ref ae, .ref as, .ref ai, .ref ag, .ref ac, .ref au, .int 0, .int 2, .int 10, .int (nI acc), .int 0, .int 0])), (bn, .inr (5, [.int bh, .int bl, .int bwa, .int bfr, .int (nI bwi), .ref br, .ref be, .ref bs, .ref bi, .ref bg, .ref bc, .ref bu, .int 0, .int 2, .int 200, .int (nI bcc), .int 0, .int 0]))] s.heap := hP
  have hl := lv_entry ([.ref x]) (n := 3) (Nat.le_of_ble_eq_true rfl)
  rw [lg_entry_eq]
  generalize (lg_sl ([.ref x]) ++ List.replicate (3 - (lg_sl ([.ref x])).length) Slot.unset).toArray = ls at hl ⊢
  replace hl : lv_has ls 3 [(0, .ref x)] := hl
  obtain ⟨H, hH⟩ : ∃ z : Heap, z = s.heap := ⟨_, rfl⟩
  rw [← hH]
  replace hS : va_S A s.heap H [] := by rw [hH]; exact va_S.rf
  replace hP : va_P (dC, dI) vwCl [(x, .inr (11, [.ref nr, .ref st, .ref lf, .int 2, .int (nI tm), .int (nI fcn), .int xl, .int 0])), (nr, .inl (cN, 8, .inr (.inr (.inr (.inr fn))))), (an, .inr (5, [.int ah, .int al, .int awa, .int afr, .int (nI awi), .ref ar, .ref ae, .ref as, .ref ai, .ref ag, .ref ac, .ref au, .int 0, .int 2, .int 10, .int (nI acc), .int 0, .int 0])), (bn, .inr (5, [.int bh, .int bl, .int bwa, .int bfr, .int (nI bwi), .ref br, .ref be, .ref bs, .ref bi, .ref bg, .ref bc, .ref bu, .int 0, .int 2, .int 200, .int (nI bcc), .int 0, .int 0]))] H := by rw [hH]; exact hP
  clear hH
  refine lv_iconst (v := 0) hx hb dX10_isDisturbed_0 (by decide) ?_
  refine lv_istore_n (lv' := [(1, .int 0), (0, .ref x)]) hx hb dX10_isDisturbed_1 rfl hl (by decide) rfl (fun ls hl => ?_)
  refine lv_iload_n hx hb dX10_isDisturbed_2 rfl (lv_at hl 0 rfl) ?_
  refine lv_aload_n hx hb dX10_isDisturbed_3 rfl (lv_at hl 1 rfl) ?_
  refine va_get (D := (dC, dI)) (ci := 11) (v := .int 2) (C := RX10) (T := TX10) (N := 8) hx hb hts in_c_disturbed_X10 hown hK hP 0 rfl rfl 3 (by decide) (hts (.fieldLink RX10 29 "ClaimBus" "nodeCount" "I") (List.mem_of_getElem? (i := 1) rfl)) (fun _ h9 => h9) rfl dX10_isDisturbed_4 ?_
  refine lv_icmp_ge (tgt := 35) hx hb dX10_isDisturbed_7 (by decide) (fun c_1 => ?_) (fun c_1 => ?_)
  · exact absurd c_1 (by decide)
  refine lv_aload_n hx hb dX10_isDisturbed_10 rfl (lv_at hl 1 rfl) ?_
  refine lv_iload_n hx hb dX10_isDisturbed_11 rfl (lv_at hl 0 rfl) ?_
  have hPc := hP.sub (ws' := [(x, .inr (11, [.ref nr, .ref st, .ref lf, .int 2, .int (nI tm), .int (nI fcn), .int xl, .int 0])), (nr, .inl (cN, 8, .inr (.inr (.inr (.inr fn)))))]) [0, 1] rfl
  have hDc := hD.sub (ws' := [(x, .inr (11, [.ref nr, .ref st, .ref lf, .int 2, .int (nI tm), .int (nI fcn), .int xl, .int 0])), (nr, .inl (cN, 8, .inr (.inr (.inr (.inr fn)))))]) [0, 1] (by decide +kernel) rfl
  have hKc := hK.sub (tys' := [(cN, (.object RX4))]) [0] rfl
  have hFc := ro_free hS hA
  refine va_callq (va_runV (As := [.int 0]) (rest := []) ⟨hx, hb, hml, hown, hts⟩ (c_find_0 l dC dI (x) (nr) (st) (lf) (tm) (fcn) (xl) (cN) (fn) (an) H.size n0) (cwV 1 hts g_c_disturbed_c_find_0_53 rfl rfl rfl (by decide +kernel) ⟨Nat.le_of_ble_eq_true rfl, Nat.le_of_ble_eq_true rfl⟩) ⟨fun a U g mk q => by obtain ⟨q0, q1, qP, qK, qD, qE⟩ := q; exact ⟨q0, q1, qP, va_K.moved (u := U) (U := U.calling g mk a) (Vm.Alike.refl U.vm) qK, qD, ev.same (u := U) (U := U.calling g mk a) rfl qE⟩, va_recv hKc hPc (ci := 11) (q0 := 0) rfl rfl, fun U hU hW => ⟨rfl, by rw [hU], by rw [hU]; exact hPc, va_K.moved hW.alike hKc, hDc.weaken (fun _ _ _ _ => trivial), hE.warm hW⟩⟩ rfl rfl hl.1 rfl (lv_room (Nat.le_of_ble_eq_true rfl)) dX10_isDisturbed_12 ⟨Nat.le_of_ble_eq_true rfl, Nat.le_of_ble_eq_true rfl⟩) hS (fun q _ h => hFc q h) hFc (fun r_2 u t H1 locs ht hvm hw hB hz1 hk1 hS => ?_)
  clear hPc hDc hKc
  replace hP := ro_keep hP hk1
  generalize H1 = H at hP hS ⊢
  replace hP : va_P (dC, dI) vwCl [(x, .inr (11, [.ref nr, .ref st, .ref lf, .int 2, .int (nI tm), .int (nI fcn), .int xl, .int 0])), (nr, .inl (cN, 8, .inr (.inr (.inr (.inr fn))))), (an, .inr (5, [.int ah, .int al, .int awa, .int afr, .int (nI awi), .ref ar, .ref ae, .ref as, .ref ai, .ref ag, .ref ac, .ref au, .int 0, .int 2, .int 10, .int (nI acc), .int 0, .int 0])), (bn, .inr (5, [.int bh, .int bl, .int bwa, .int bfr, .int (nI bwi), .ref br, .ref be, .ref bs, .ref bi, .ref bg, .ref bc, .ref bu, .int 0, .int 2, .int 200, .int (nI bcc), .int 0, .int 0]))] H := hP
  have hw := hw.symm
  subst hw
  refine W.eq (g2 := F0 m 15 ls [.ref an]) rfl ?_
  refine lv_astore_n (lv' := [(2, .ref an), (1, .int 0), (0, .ref x)]) hx hb dX10_isDisturbed_15 rfl hl (by decide) rfl (fun ls hl => ?_)
  refine lv_aload_n hx hb dX10_isDisturbed_16 rfl (lv_at hl 0 rfl) ?_
  refine lv_ifnull hx hb dX10_isDisturbed_17 ?_
  refine lv_aload_n hx hb dX10_isDisturbed_20 rfl (lv_at hl 0 rfl) ?_
  refine va_get (D := (dC, dI)) (ci := 5) (v := .int 0) (C := RX4) (T := TX4) (N := 18) hx hb hts in_c_disturbed_X4 hown hK hP 2 rfl rfl 17 (by decide) (hts (.fieldLink RX10 152 "ClaimBus$Node" "lost" "I") (List.mem_of_getElem? (i := 6) rfl)) (fun _ h9 => h9) rfl dX10_isDisturbed_21 ?_
  refine lv_if_le (tgt := 29) hx hb dX10_isDisturbed_24 (by decide) (fun c_3 => ?_) (fun c_3 => ?_)
  rotate_left
  · exact absurd (by decide) c_3
  refine lv_iinc (v := 1) (lv' := [(1, .int 1), (2, .ref an), (0, .ref x)]) hx hb dX10_isDisturbed_29 hl (k := 1) rfl (by decide) (by decide) rfl (fun ls hl => ?_)
  refine lv_goto (tgt := 2) hx hb dX10_isDisturbed_32 (by decide) ?_
  refine lv_iload_n hx hb dX10_isDisturbed_2 rfl (lv_at hl 0 rfl) ?_
  refine lv_aload_n hx hb dX10_isDisturbed_3 rfl (lv_at hl 2 rfl) ?_
  refine va_get (D := (dC, dI)) (ci := 11) (v := .int 2) (C := RX10) (T := TX10) (N := 8) hx hb hts in_c_disturbed_X10 hown hK hP 0 rfl rfl 3 (by decide) (hts (.fieldLink RX10 29 "ClaimBus" "nodeCount" "I") (List.mem_of_getElem? (i := 1) rfl)) (fun _ h9 => h9) rfl dX10_isDisturbed_4 ?_
  refine lv_icmp_ge (tgt := 35) hx hb dX10_isDisturbed_7 (by decide) (fun c_4 => ?_) (fun c_4 => ?_)
  · exact absurd c_4 (by decide)
  refine lv_aload_n hx hb dX10_isDisturbed_10 rfl (lv_at hl 2 rfl) ?_
  refine lv_iload_n hx hb dX10_isDisturbed_11 rfl (lv_at hl 0 rfl) ?_
  have hPc := hP.sub (ws' := [(x, .inr (11, [.ref nr, .ref st, .ref lf, .int 2, .int (nI tm), .int (nI fcn), .int xl, .int 0])), (nr, .inl (cN, 8, .inr (.inr (.inr (.inr fn)))))]) [0, 1] rfl
  have hDc := hD.sub (ws' := [(x, .inr (11, [.ref nr, .ref st, .ref lf, .int 2, .int (nI tm), .int (nI fcn), .int xl, .int 0])), (nr, .inl (cN, 8, .inr (.inr (.inr (.inr fn)))))]) [0, 1] (by decide +kernel) rfl
  have hKc := hK.sub (tys' := [(cN, (.object RX4))]) [0] rfl
  have hFc := ro_free hS hA
  refine va_callq (va_runV (As := [.int 1]) (rest := []) ⟨hx, hb, hml, hown, hts⟩ (c_find_1 l dC dI (x) (nr) (st) (lf) (tm) (fcn) (xl) (cN) (fn) (bn) H.size n1) (cwV 1 hts g_c_disturbed_c_find_1_53 rfl rfl rfl (by decide +kernel) ⟨Nat.le_of_ble_eq_true rfl, Nat.le_of_ble_eq_true rfl⟩) ⟨fun a U g mk q => by obtain ⟨q0, q1, qP, qK, qD, qE⟩ := q; exact ⟨q0, q1, qP, va_K.moved (u := U) (U := U.calling g mk a) (Vm.Alike.refl U.vm) qK, qD, ev.same (u := U) (U := U.calling g mk a) rfl qE⟩, va_recv hKc hPc (ci := 11) (q0 := 0) rfl rfl, fun U hU hW => ⟨rfl, by rw [hU], by rw [hU]; exact hPc, va_K.moved hW.alike hKc, hDc.weaken (fun _ _ _ _ => trivial), hE.warm hW⟩⟩ rfl rfl hl.1 rfl (lv_room (Nat.le_of_ble_eq_true rfl)) dX10_isDisturbed_12 ⟨Nat.le_of_ble_eq_true rfl, Nat.le_of_ble_eq_true rfl⟩) hS (fun q _ h => hFc q h) hFc (fun r_5 u t H1 locs ht hvm hw hB hz1 hk1 hS => ?_)
  clear hPc hDc hKc
  replace hP := ro_keep hP hk1
  generalize H1 = H at hP hS ⊢
  replace hP : va_P (dC, dI) vwCl [(x, .inr (11, [.ref nr, .ref st, .ref lf, .int 2, .int (nI tm), .int (nI fcn), .int xl, .int 0])), (nr, .inl (cN, 8, .inr (.inr (.inr (.inr fn))))), (an, .inr (5, [.int ah, .int al, .int awa, .int afr, .int (nI awi), .ref ar, .ref ae, .ref as, .ref ai, .ref ag, .ref ac, .ref au, .int 0, .int 2, .int 10, .int (nI acc), .int 0, .int 0])), (bn, .inr (5, [.int bh, .int bl, .int bwa, .int bfr, .int (nI bwi), .ref br, .ref be, .ref bs, .ref bi, .ref bg, .ref bc, .ref bu, .int 0, .int 2, .int 200, .int (nI bcc), .int 0, .int 0]))] H := hP
  have hw := hw.symm
  subst hw
  refine W.eq (g2 := F0 m 15 ls [.ref bn]) rfl ?_
  refine lv_astore_n (lv' := [(2, .ref bn), (1, .int 1), (0, .ref x)]) hx hb dX10_isDisturbed_15 rfl hl (by decide) rfl (fun ls hl => ?_)
  refine lv_aload_n hx hb dX10_isDisturbed_16 rfl (lv_at hl 0 rfl) ?_
  refine lv_ifnull hx hb dX10_isDisturbed_17 ?_
  refine lv_aload_n hx hb dX10_isDisturbed_20 rfl (lv_at hl 0 rfl) ?_
  refine va_get (D := (dC, dI)) (ci := 5) (v := .int 0) (C := RX4) (T := TX4) (N := 18) hx hb hts in_c_disturbed_X4 hown hK hP 3 rfl rfl 17 (by decide) (hts (.fieldLink RX10 152 "ClaimBus$Node" "lost" "I") (List.mem_of_getElem? (i := 6) rfl)) (fun _ h9 => h9) rfl dX10_isDisturbed_21 ?_
  refine lv_if_le (tgt := 29) hx hb dX10_isDisturbed_24 (by decide) (fun c_6 => ?_) (fun c_6 => ?_)
  rotate_left
  · exact absurd (by decide) c_6
  refine lv_iinc (v := 2) (lv' := [(1, .int 2), (2, .ref bn), (0, .ref x)]) hx hb dX10_isDisturbed_29 hl (k := 1) rfl (by decide) (by decide) rfl (fun ls hl => ?_)
  refine lv_goto (tgt := 2) hx hb dX10_isDisturbed_32 (by decide) ?_
  refine lv_iload_n hx hb dX10_isDisturbed_2 rfl (lv_at hl 0 rfl) ?_
  refine lv_aload_n hx hb dX10_isDisturbed_3 rfl (lv_at hl 2 rfl) ?_
  refine va_get (D := (dC, dI)) (ci := 11) (v := .int 2) (C := RX10) (T := TX10) (N := 8) hx hb hts in_c_disturbed_X10 hown hK hP 0 rfl rfl 3 (by decide) (hts (.fieldLink RX10 29 "ClaimBus" "nodeCount" "I") (List.mem_of_getElem? (i := 1) rfl)) (fun _ h9 => h9) rfl dX10_isDisturbed_4 ?_
  refine lv_icmp_ge (tgt := 35) hx hb dX10_isDisturbed_7 (by decide) (fun c_7 => ?_) (fun c_7 => ?_)
  rotate_left
  · exact absurd (by decide) c_7
  refine lv_aload_n hx hb dX10_isDisturbed_35 rfl (lv_at hl 2 rfl) ?_
  refine va_get (D := (dC, dI)) (ci := 11) (v := .int 0) (C := RX10) (T := TX10) (N := 8) hx hb hts in_c_disturbed_X10 hown hK hP 0 rfl rfl 7 (by decide) (hts (.fieldLink RX10 42 "ClaimBus" "stopped" "Z") (List.mem_of_getElem? (i := 7) rfl)) (fun _ h9 => h9) rfl dX10_isDisturbed_36 ?_
  exact W.zret (v := 0) hx hb hr (by decide) (fun t ht hW => ⟨⟨0, (), rfl, rfl, trivial⟩, hS.F ht⟩) hS.2.2 dX10_isDisturbed_39

noncomputable def tl_c_shares : List Cond := wsX40
noncomputable def v_c_shares : List Cond := .code yX4_sharesAddressWith cX4_sharesAddressWith 2 (some .boolean) :: ([.fieldLink RX4 53 "ClaimBus$Node" "state" "I", .fieldLink RX4 81 "ClaimBus$Node" "address" "I"] ++ tl_c_shares)
theorem it_c_shares : ∀ w ∈ tl_c_shares, w ∈ v_c_shares := fun w h => List.mem_cons_of_mem _ (List.mem_append_right _ h)
theorem in_c_shares_X4 : ∀ w ∈ wsX40, w ∈ v_c_shares := fun w h => it_c_shares w (h)
theorem gt_c_shares : ∀ w ∈ tl_c_shares, goodWord w = true := gw_wsX40
theorem gw_c_shares : ∀ w ∈ v_c_shares, goodWord w = true := List.forall_mem_cons.mpr ⟨by decide +kernel, List.forall_mem_append.mpr ⟨List.all_eq_true.mp (by decide +kernel), gt_c_shares⟩⟩
set_option maxHeartbeats 4000000 in
set_option maxRecDepth 100000 in
theorem c_shares (l : Launch) (dC : Nat → ClassId) (dI : Nat → Nat → Nat) (an : Nat) (ah : Int32) (al : Int32) (awa : Int32) (afr : Int32) (awi : Nat) (ar : Nat) (ae : Nat) (as : Nat) (ai : Nat) (ag : Nat) (ac : Nat) (au : Nat) (acc : Nat) (bn : Nat) (bh : Int32) (bl : Int32) (bwa : Int32) (bfr : Int32) (bwi : Nat) (br : Nat) (be : Nat) (bs : Nat) (bi : Nat) (bg : Nat) (bc : Nat) (bu : Nat) (bcc : Nat) (sz : Nat)  : Met l yX4_sharesAddressWith v_c_shares ({ frames := 0, cells := 0, slots := 0, locals := 0 }) (va_Pc [.ref bn, .ref an] (fun U => U.heap.size = sz ∧ va_P (dC, dI) vwCl [(bn, .inr (5, [.int bh, .int bl, .int bwa, .int bfr, .int (nI bwi), .ref br, .ref be, .ref bs, .ref bi, .ref bg, .ref bc, .ref bu, .int 0, .int 2, .int 200, .int (nI bcc), .int 0, .int 0])), (an, .inr (5, [.int ah, .int al, .int awa, .int afr, .int (nI awi), .ref ar, .ref ae, .ref as, .ref ai, .ref ag, .ref ac, .ref au, .int 0, .int 2, .int 10, .int (nI acc), .int 0, .int 0]))] U.heap ∧ va_K (dC, dI) vwCl [] U ∧ va_D (fun _ => True) [(bn, .inr (5, [.int bh, .int bl, .int bwa, .int bfr, .int (nI bwi), .ref br, .ref be, .ref bs, .ref bi, .ref bg, .ref bc, .ref bu, .int 0, .int 2, .int 200, .int (nI bcc), .int 0, .int 0])), (an, .inr (5, [.int ah, .int al, .int awa, .int afr, .int (nI awi), .ref ar, .ref ae, .ref as, .ref ai, .ref ag, .ref ac, .ref au, .int 0, .int 2, .int 10, .int (nI acc), .int 0, .int 0]))] ∧ ev U)) (va_Qi (fun (r : Int32) (_ : Unit) => r = 0) (fun (_ : Unit) (_ : State) => True) (va_A [] sz)) 0 0 (va_A [] sz) := by
  refine Met.ofW (cc := cX4_sharesAddressWith) (maxL := 2) (ret := (some .boolean)) (by decide) rfl ?_
  intro p e s m args below meth c s₁ B hml hv
  obtain ⟨rfl, hsz, hP, hK, hD0, hE⟩ := hv
  have hx := B.exec
  have hb := B.bytes
  have hr := B.returns
  have hts := atoms_spec (ws := v_c_shares) B.pre
  have hown : s.vm.findClass RX4 = some m.cls := findClass_of_methodNamed B.named
  have hlocks := B.notSynchronized
  subst hsz
  have hD := hD0
  generalize hAe : va_A [] s.heap.size = A
  have hA : ∀ q : Nat, s.heap.size ≤ q → A q := fun q h => by rw [← hAe]; exact Or.inr h
  have hS : va_S A s.heap s.heap [] := va_S.rf
  replace hP : va_P (dC, dI) vwCl [(bn, .inr (5, [.int bh, .int bl, .int bwa, .int bfr, .int (nI bwi), .ref br, .ref be, .ref bs, .ref bi, .ref bg, .ref bc, .ref bu, .int 0, .int 2, .int 200, .int (nI bcc), .int 0, .int 0])), (an, .inr (5, [.int ah, .int al, .int awa, .int afr, .int (nI awi), .ref ar, .ref ae, .ref as, .ref ai, .ref ag, .ref ac, .ref au, .int 0, .int 2, .int 10, .int (nI acc), .int 0, .int 0]))] s.heap := hP
  have hl := lv_entry ([.ref bn, .ref an]) (n := 2) (Nat.le_of_ble_eq_true rfl)
  rw [lg_entry_eq]
  generalize (lg_sl ([.ref bn, .ref an]) ++ List.replicate (2 - (lg_sl ([.ref bn, .ref an])).length) Slot.unset).toArray = ls at hl ⊢
  replace hl : lv_has ls 2 [(0, .ref bn), (1, .ref an)] := hl
  obtain ⟨H, hH⟩ : ∃ z : Heap, z = s.heap := ⟨_, rfl⟩
  rw [← hH]
  replace hS : va_S A s.heap H [] := by rw [hH]; exact va_S.rf
  replace hP : va_P (dC, dI) vwCl [(bn, .inr (5, [.int bh, .int bl, .int bwa, .int bfr, .int (nI bwi), .ref br, .ref be, .ref bs, .ref bi, .ref bg, .ref bc, .ref bu, .int 0, .int 2, .int 200, .int (nI bcc), .int 0, .int 0])), (an, .inr (5, [.int ah, .int al, .int awa, .int afr, .int (nI awi), .ref ar, .ref ae, .ref as, .ref ai, .ref ag, .ref ac, .ref au, .int 0, .int 2, .int 10, .int (nI acc), .int 0, .int 0]))] H := by rw [hH]; exact hP
  clear hH
  refine lv_aload_n hx hb dX4_sharesAddressWith_0 rfl (lv_at hl 0 rfl) ?_
  refine va_get (D := (dC, dI)) (ci := 5) (v := .int 2) (C := RX4) (T := TX4) (N := 18) hx hb hts in_c_shares_X4 hown hK hP 0 rfl rfl 13 (by decide) (hts (.fieldLink RX4 53 "ClaimBus$Node" "state" "I") (List.mem_of_getElem? (i := 1) rfl)) (fun _ h9 => h9) rfl dX4_sharesAddressWith_1 ?_
  refine lv_iconst (v := 2) hx hb dX4_sharesAddressWith_4 (by decide) ?_
  refine lv_icmp_ne (tgt := 31) hx hb dX4_sharesAddressWith_5 (by decide) (fun c_1 => ?_) (fun c_1 => ?_)
  · exact absurd c_1 (by decide)
  refine lv_aload_n hx hb dX4_sharesAddressWith_8 rfl (lv_at hl 1 rfl) ?_
  refine va_get (D := (dC, dI)) (ci := 5) (v := .int 2) (C := RX4) (T := TX4) (N := 18) hx hb hts in_c_shares_X4 hown hK hP 1 rfl rfl 13 (by decide) (hts (.fieldLink RX4 53 "ClaimBus$Node" "state" "I") (List.mem_of_getElem? (i := 1) rfl)) (fun _ h9 => h9) rfl dX4_sharesAddressWith_9 ?_
  refine lv_iconst (v := 2) hx hb dX4_sharesAddressWith_12 (by decide) ?_
  refine lv_icmp_ne (tgt := 31) hx hb dX4_sharesAddressWith_13 (by decide) (fun c_2 => ?_) (fun c_2 => ?_)
  · exact absurd c_2 (by decide)
  refine lv_aload_n hx hb dX4_sharesAddressWith_16 rfl (lv_at hl 0 rfl) ?_
  refine va_get (D := (dC, dI)) (ci := 5) (v := .int 200) (C := RX4) (T := TX4) (N := 18) hx hb hts in_c_shares_X4 hown hK hP 0 rfl rfl 14 (by decide) (hts (.fieldLink RX4 81 "ClaimBus$Node" "address" "I") (List.mem_of_getElem? (i := 2) rfl)) (fun _ h9 => h9) rfl dX4_sharesAddressWith_17 ?_
  refine lv_aload_n hx hb dX4_sharesAddressWith_20 rfl (lv_at hl 1 rfl) ?_
  refine va_get (D := (dC, dI)) (ci := 5) (v := .int 10) (C := RX4) (T := TX4) (N := 18) hx hb hts in_c_shares_X4 hown hK hP 1 rfl rfl 14 (by decide) (hts (.fieldLink RX4 81 "ClaimBus$Node" "address" "I") (List.mem_of_getElem? (i := 2) rfl)) (fun _ h9 => h9) rfl dX4_sharesAddressWith_21 ?_
  refine lv_icmp_ne (tgt := 31) hx hb dX4_sharesAddressWith_24 (by decide) (fun c_3 => ?_) (fun c_3 => ?_)
  rotate_left
  · exact absurd c_3 (by decide)
  refine lv_iconst (v := 0) hx hb dX4_sharesAddressWith_31 (by decide) ?_
  exact W.zret (v := 0) hx hb hr (by decide) (fun t ht hW => ⟨⟨0, (), rfl, rfl, trivial⟩, hS.F ht⟩) hS.2.2 dX4_sharesAddressWith_32

noncomputable def tl_c_apart : List Cond := wsX100 ++ (v_c_find_1 ++ (v_c_find_0 ++ (v_c_shares)))
noncomputable def v_c_apart : List Cond := .code yX10_addressesAreApart cX10_addressesAreApart 5 (some .boolean) :: ([.fieldLink RX10 29 "ClaimBus" "nodeCount" "I", .initialized RX10, .methodLink RX10 53 yX10_find, .instanceMethod yX10_find, .selects RX10 yX10_find yX10_find, .initialized RX4, .methodLink RX10 237 yX4_sharesAddressWith, .instanceMethod yX4_sharesAddressWith, .selects RX4 yX4_sharesAddressWith yX4_sharesAddressWith] ++ tl_c_apart)
theorem it_c_apart : ∀ w ∈ tl_c_apart, w ∈ v_c_apart := fun w h => List.mem_cons_of_mem _ (List.mem_append_right _ h)
theorem in_c_apart_X10 : ∀ w ∈ wsX100, w ∈ v_c_apart := fun w h => it_c_apart w (List.mem_append_left _ h)
theorem ic_c_apart_c_find_1 : ∀ w ∈ v_c_find_1, w ∈ v_c_apart := fun w h => it_c_apart w (List.mem_append_right _ (List.mem_append_left _ h))
theorem ic_c_apart_c_find_0 : ∀ w ∈ v_c_find_0, w ∈ v_c_apart := fun w h => it_c_apart w (List.mem_append_right _ (List.mem_append_right _ (List.mem_append_left _ h)))
theorem ic_c_apart_c_shares : ∀ w ∈ v_c_shares, w ∈ v_c_apart := fun w h => it_c_apart w (List.mem_append_right _ (List.mem_append_right _ (List.mem_append_right _ (h))))
theorem gt_c_apart : ∀ w ∈ tl_c_apart, goodWord w = true := List.forall_mem_append.mpr ⟨gw_wsX100, List.forall_mem_append.mpr ⟨gw_c_find_1, List.forall_mem_append.mpr ⟨gw_c_find_0, gw_c_shares⟩⟩⟩
theorem gw_c_apart : ∀ w ∈ v_c_apart, goodWord w = true := List.forall_mem_cons.mpr ⟨by decide +kernel, List.forall_mem_append.mpr ⟨List.all_eq_true.mp (by decide +kernel), gt_c_apart⟩⟩
theorem g_c_apart_c_find_1_53 : GoodIn v_c_apart (wsV RX10 53 RX10 yX10_find v_c_find_1) := goodIn_app (goodIn_r [.methodLink RX10 53 yX10_find, .instanceMethod yX10_find, .selects RX10 yX10_find yX10_find, .initialized RX10] [3, 4, 5, 2] (by decide +kernel) (by decide +kernel)) (fun w h => ⟨ic_c_apart_c_find_1 w h, good_of_word (gw_c_find_1 w h)⟩)
theorem g_c_apart_c_find_0_53 : GoodIn v_c_apart (wsV RX10 53 RX10 yX10_find v_c_find_0) := goodIn_app (goodIn_r [.methodLink RX10 53 yX10_find, .instanceMethod yX10_find, .selects RX10 yX10_find yX10_find, .initialized RX10] [3, 4, 5, 2] (by decide +kernel) (by decide +kernel)) (fun w h => ⟨ic_c_apart_c_find_0 w h, good_of_word (gw_c_find_0 w h)⟩)
theorem g_c_apart_c_shares_237 : GoodIn v_c_apart (wsV RX10 237 RX4 yX4_sharesAddressWith v_c_shares) := goodIn_app (goodIn_r [.methodLink RX10 237 yX4_sharesAddressWith, .instanceMethod yX4_sharesAddressWith, .selects RX4 yX4_sharesAddressWith yX4_sharesAddressWith, .initialized RX4] [7, 8, 9, 6] (by decide +kernel) (by decide +kernel)) (fun w h => ⟨ic_c_apart_c_shares w h, good_of_word (gw_c_shares w h)⟩)
set_option maxHeartbeats 4000000 in
set_option maxRecDepth 100000 in
theorem c_apart (l : Launch) (dC : Nat → ClassId) (dI : Nat → Nat → Nat) (x : Nat) (nr : Nat) (st : Nat) (lf : Nat) (tm : Nat) (fcn : Nat) (xl : Int32) (cN : ClassId) (fn : Nat → Option Nat) (an : Nat) (ah : Int32) (al : Int32) (awa : Int32) (afr : Int32) (awi : Nat) (ar : Nat) (ae : Nat) (as : Nat) (ai : Nat) (ag : Nat) (ac : Nat) (au : Nat) (acc : Nat) (bn : Nat) (bh : Int32) (bl : Int32) (bwa : Int32) (bfr : Int32) (bwi : Nat) (br : Nat) (be : Nat) (bs : Nat) (bi : Nat) (bg : Nat) (bc : Nat) (bu : Nat) (bcc : Nat) (sz : Nat) (n0 : fn 0 = some an) (n1 : fn 1 = some bn) : Met l yX10_addressesAreApart v_c_apart ({ frames := 1, cells := 0, slots := 0, locals := 21 }) (va_Pc [.ref x] (fun U => U.heap.size = sz ∧ va_P (dC, dI) vwCl [(x, .inr (11, [.ref nr, .ref st, .ref lf, .int 2, .int (nI tm), .int (nI fcn), .int xl, .int 0])), (nr, .inl (cN, 8, .inr (.inr (.inr (.inr fn))))), (an, .inr (5, [.int ah, .int al, .int awa, .int afr, .int (nI awi), .ref ar, .ref ae, .ref as, .ref ai, .ref ag, .ref ac, .ref au, .int 0, .int 2, .int 10, .int (nI acc), .int 0, .int 0])), (bn, .inr (5, [.int bh, .int bl, .int bwa, .int bfr, .int (nI bwi), .ref br, .ref be, .ref bs, .ref bi, .ref bg, .ref bc, .ref bu, .int 0, .int 2, .int 200, .int (nI bcc), .int 0, .int 0]))] U.heap ∧ va_K (dC, dI) vwCl [(cN, (.object RX4))] U ∧ va_D (fun _ => True) [(x, .inr (11, [.ref nr, .ref st, .ref lf, .int 2, .int (nI tm), .int (nI fcn), .int xl, .int 0])), (nr, .inl (cN, 8, .inr (.inr (.inr (.inr fn))))), (an, .inr (5, [.int ah, .int al, .int awa, .int afr, .int (nI awi), .ref ar, .ref ae, .ref as, .ref ai, .ref ag, .ref ac, .ref au, .int 0, .int 2, .int 10, .int (nI acc), .int 0, .int 0])), (bn, .inr (5, [.int bh, .int bl, .int bwa, .int bfr, .int (nI bwi), .ref br, .ref be, .ref bs, .ref bi, .ref bg, .ref bc, .ref bu, .int 0, .int 2, .int 200, .int (nI bcc), .int 0, .int 0]))] ∧ ev U)) (va_Qi (fun (r : Int32) (_ : Unit) => r = 1) (fun (_ : Unit) (_ : State) => True) (va_A [] sz)) 0 0 (va_A [] sz) := by
  refine Met.ofW (cc := cX10_addressesAreApart) (maxL := 5) (ret := (some .boolean)) (by decide) rfl ?_
  intro p e s m args below meth c s₁ B hml hv
  obtain ⟨rfl, hsz, hP, hK, hD0, hE⟩ := hv
  have hx := B.exec
  have hb := B.bytes
  have hr := B.returns
  have hts := atoms_spec (ws := v_c_apart) B.pre
  have hown : s.vm.findClass RX10 = some m.cls := findClass_of_methodNamed B.named
  have hlocks := B.notSynchronized
  subst hsz
  have hD := hD0
  generalize hAe : va_A [] s.heap.size = A
  have hA : ∀ q : Nat, s.heap.size ≤ q → A q := fun q h => by rw [← hAe]; exact Or.inr h
  have hS : va_S A s.heap s.heap [] := va_S.rf
  replace hP : va_P (dC, dI) vwCl [(x, .inr (11, [.ref nr, .ref st, .ref lf, .int 2, .int (nI tm), .int (nI fcn), .int xl, .int 0])), (nr, .inl (cN, 8, .inr (.inr (.inr (.inr fn))))), (an, .inr (5, [.int ah, .int al, .int awa, .int afr, .int (nI awi), .ref ar, .ref ae, .ref as, .ref ai, .ref ag, .ref ac, .ref au, .int 0, .int 2, .int 10, .int (nI acc), .int 0, .int 0])), (bn, .inr (5, [.int bh, .int bl, .int bwa, .int bfr, .int (nI bwi), .ref br, .ref be, .ref bs, .ref bi, .ref bg, .ref bc, .ref bu, .int 0, .int 2, .int 200, .int (nI bcc), .int 0, .int 0]))] s.heap := hP
  have hl := lv_entry ([.ref x]) (n := 5) (Nat.le_of_ble_eq_true rfl)
  rw [lg_entry_eq]
  generalize (lg_sl ([.ref x]) ++ List.replicate (5 - (lg_sl ([.ref x])).length) Slot.unset).toArray = ls at hl ⊢
  replace hl : lv_has ls 5 [(0, .ref x)] := hl
  obtain ⟨H, hH⟩ : ∃ z : Heap, z = s.heap := ⟨_, rfl⟩
  rw [← hH]
  replace hS : va_S A s.heap H [] := by rw [hH]; exact va_S.rf
  replace hP : va_P (dC, dI) vwCl [(x, .inr (11, [.ref nr, .ref st, .ref lf, .int 2, .int (nI tm), .int (nI fcn), .int xl, .int 0])), (nr, .inl (cN, 8, .inr (.inr (.inr (.inr fn))))), (an, .inr (5, [.int ah, .int al, .int awa, .int afr, .int (nI awi), .ref ar, .ref ae, .ref as, .ref ai, .ref ag, .ref ac, .ref au, .int 0, .int 2, .int 10, .int (nI acc), .int 0, .int 0])), (bn, .inr (5, [.int bh, .int bl, .int bwa, .int bfr, .int (nI bwi), .ref br, .ref be, .ref bs, .ref bi, .ref bg, .ref bc, .ref bu, .int 0, .int 2, .int 200, .int (nI bcc), .int 0, .int 0]))] H := by rw [hH]; exact hP
  clear hH
  refine lv_iconst (v := 0) hx hb dX10_addressesAreApart_0 (by decide) ?_
  refine lv_istore_n (lv' := [(1, .int 0), (0, .ref x)]) hx hb dX10_addressesAreApart_1 rfl hl (by decide) rfl (fun ls hl => ?_)
  refine lv_iload_n hx hb dX10_addressesAreApart_2 rfl (lv_at hl 0 rfl) ?_
  refine lv_aload_n hx hb dX10_addressesAreApart_3 rfl (lv_at hl 1 rfl) ?_
  refine va_get (D := (dC, dI)) (ci := 11) (v := .int 2) (C := RX10) (T := TX10) (N := 8) hx hb hts in_c_apart_X10 hown hK hP 0 rfl rfl 3 (by decide) (hts (.fieldLink RX10 29 "ClaimBus" "nodeCount" "I") (List.mem_of_getElem? (i := 1) rfl)) (fun _ h9 => h9) rfl dX10_addressesAreApart_4 ?_
  refine lv_icmp_ge (tgt := 62) hx hb dX10_addressesAreApart_7 (by decide) (fun c_1 => ?_) (fun c_1 => ?_)
  · exact absurd c_1 (by decide)
  refine lv_iconst (v := 0) hx hb dX10_addressesAreApart_10 (by decide) ?_
  refine lv_istore_n (lv' := [(2, .int 0), (1, .int 0), (0, .ref x)]) hx hb dX10_addressesAreApart_11 rfl hl (by decide) rfl (fun ls hl => ?_)
  refine lv_iload_n hx hb dX10_addressesAreApart_12 rfl (lv_at hl 0 rfl) ?_
  refine lv_iload_n hx hb dX10_addressesAreApart_13 rfl (lv_at hl 1 rfl) ?_
  refine lv_icmp_ge (tgt := 56) hx hb dX10_addressesAreApart_14 (by decide) (fun c_2 => ?_) (fun c_2 => ?_)
  rotate_left
  · exact absurd (by decide) c_2
  refine lv_iinc (v := 1) (lv' := [(1, .int 1), (2, .int 0), (0, .ref x)]) hx hb dX10_addressesAreApart_56 hl (k := 1) rfl (by decide) (by decide) rfl (fun ls hl => ?_)
  refine lv_goto (tgt := 2) hx hb dX10_addressesAreApart_59 (by decide) ?_
  refine lv_iload_n hx hb dX10_addressesAreApart_2 rfl (lv_at hl 0 rfl) ?_
  refine lv_aload_n hx hb dX10_addressesAreApart_3 rfl (lv_at hl 2 rfl) ?_
  refine va_get (D := (dC, dI)) (ci := 11) (v := .int 2) (C := RX10) (T := TX10) (N := 8) hx hb hts in_c_apart_X10 hown hK hP 0 rfl rfl 3 (by decide) (hts (.fieldLink RX10 29 "ClaimBus" "nodeCount" "I") (List.mem_of_getElem? (i := 1) rfl)) (fun _ h9 => h9) rfl dX10_addressesAreApart_4 ?_
  refine lv_icmp_ge (tgt := 62) hx hb dX10_addressesAreApart_7 (by decide) (fun c_3 => ?_) (fun c_3 => ?_)
  · exact absurd c_3 (by decide)
  refine lv_iconst (v := 0) hx hb dX10_addressesAreApart_10 (by decide) ?_
  refine lv_istore_n (lv' := [(2, .int 0), (1, .int 1), (0, .ref x)]) hx hb dX10_addressesAreApart_11 rfl hl (by decide) rfl (fun ls hl => ?_)
  refine lv_iload_n hx hb dX10_addressesAreApart_12 rfl (lv_at hl 0 rfl) ?_
  refine lv_iload_n hx hb dX10_addressesAreApart_13 rfl (lv_at hl 1 rfl) ?_
  refine lv_icmp_ge (tgt := 56) hx hb dX10_addressesAreApart_14 (by decide) (fun c_4 => ?_) (fun c_4 => ?_)
  · exact absurd c_4 (by decide)
  refine lv_aload_n hx hb dX10_addressesAreApart_17 rfl (lv_at hl 2 rfl) ?_
  refine lv_iload_n hx hb dX10_addressesAreApart_18 rfl (lv_at hl 1 rfl) ?_
  have hPc := hP.sub (ws' := [(x, .inr (11, [.ref nr, .ref st, .ref lf, .int 2, .int (nI tm), .int (nI fcn), .int xl, .int 0])), (nr, .inl (cN, 8, .inr (.inr (.inr (.inr fn)))))]) [0, 1] rfl
  have hDc := hD.sub (ws' := [(x, .inr (11, [.ref nr, .ref st, .ref lf, .int 2, .int (nI tm), .int (nI fcn), .int xl, .int 0])), (nr, .inl (cN, 8, .inr (.inr (.inr (.inr fn)))))]) [0, 1] (by decide +kernel) rfl
  have hKc := hK.sub (tys' := [(cN, (.object RX4))]) [0] rfl
  have hFc := ro_free hS hA
  refine va_callq (va_runV (As := [.int 1]) (rest := []) ⟨hx, hb, hml, hown, hts⟩ (c_find_1 l dC dI (x) (nr) (st) (lf) (tm) (fcn) (xl) (cN) (fn) (bn) H.size n1) (cwV 1 hts g_c_apart_c_find_1_53 rfl rfl rfl (by decide +kernel) ⟨Nat.le_of_ble_eq_true rfl, Nat.le_of_ble_eq_true rfl⟩) ⟨fun a U g mk q => by obtain ⟨q0, q1, qP, qK, qD, qE⟩ := q; exact ⟨q0, q1, qP, va_K.moved (u := U) (U := U.calling g mk a) (Vm.Alike.refl U.vm) qK, qD, ev.same (u := U) (U := U.calling g mk a) rfl qE⟩, va_recv hKc hPc (ci := 11) (q0 := 0) rfl rfl, fun U hU hW => ⟨rfl, by rw [hU], by rw [hU]; exact hPc, va_K.moved hW.alike hKc, hDc.weaken (fun _ _ _ _ => trivial), hE.warm hW⟩⟩ rfl rfl hl.1 rfl (lv_room (Nat.le_of_ble_eq_true rfl)) dX10_addressesAreApart_19 ⟨Nat.le_of_ble_eq_true rfl, Nat.le_of_ble_eq_true rfl⟩) hS (fun q _ h => hFc q h) hFc (fun r_5 u t H1 locs ht hvm hw hB hz1 hk1 hS => ?_)
  clear hPc hDc hKc
  replace hP := ro_keep hP hk1
  generalize H1 = H at hP hS ⊢
  replace hP : va_P (dC, dI) vwCl [(x, .inr (11, [.ref nr, .ref st, .ref lf, .int 2, .int (nI tm), .int (nI fcn), .int xl, .int 0])), (nr, .inl (cN, 8, .inr (.inr (.inr (.inr fn))))), (an, .inr (5, [.int ah, .int al, .int awa, .int afr, .int (nI awi), .ref ar, .ref ae, .ref as, .ref ai, .ref ag, .ref ac, .ref au, .int 0, .int 2, .int 10, .int (nI acc), .int 0, .int 0])), (bn, .inr (5, [.int bh, .int bl, .int bwa, .int bfr, .int (nI bwi), .ref br, .ref be, .ref bs, .ref bi, .ref bg, .ref bc, .ref bu, .int 0, .int 2, .int 200, .int (nI bcc), .int 0, .int 0]))] H := hP
  have hw := hw.symm
  subst hw
  refine W.eq (g2 := F0 m 22 ls [.ref bn]) rfl ?_
  refine lv_astore_n (lv' := [(3, .ref bn), (2, .int 0), (1, .int 1), (0, .ref x)]) hx hb dX10_addressesAreApart_22 rfl hl (by decide) rfl (fun ls hl => ?_)
  refine lv_aload_n hx hb dX10_addressesAreApart_23 rfl (lv_at hl 3 rfl) ?_
  refine lv_iload_n hx hb dX10_addressesAreApart_24 rfl (lv_at hl 1 rfl) ?_
  have hPc := hP.sub (ws' := [(x, .inr (11, [.ref nr, .ref st, .ref lf, .int 2, .int (nI tm), .int (nI fcn), .int xl, .int 0])), (nr, .inl (cN, 8, .inr (.inr (.inr (.inr fn)))))]) [0, 1] rfl
  have hDc := hD.sub (ws' := [(x, .inr (11, [.ref nr, .ref st, .ref lf, .int 2, .int (nI tm), .int (nI fcn), .int xl, .int 0])), (nr, .inl (cN, 8, .inr (.inr (.inr (.inr fn)))))]) [0, 1] (by decide +kernel) rfl
  have hKc := hK.sub (tys' := [(cN, (.object RX4))]) [0] rfl
  have hFc := ro_free hS hA
  refine va_callq (va_runV (As := [.int 0]) (rest := []) ⟨hx, hb, hml, hown, hts⟩ (c_find_0 l dC dI (x) (nr) (st) (lf) (tm) (fcn) (xl) (cN) (fn) (an) H.size n0) (cwV 1 hts g_c_apart_c_find_0_53 rfl rfl rfl (by decide +kernel) ⟨Nat.le_of_ble_eq_true rfl, Nat.le_of_ble_eq_true rfl⟩) ⟨fun a U g mk q => by obtain ⟨q0, q1, qP, qK, qD, qE⟩ := q; exact ⟨q0, q1, qP, va_K.moved (u := U) (U := U.calling g mk a) (Vm.Alike.refl U.vm) qK, qD, ev.same (u := U) (U := U.calling g mk a) rfl qE⟩, va_recv hKc hPc (ci := 11) (q0 := 0) rfl rfl, fun U hU hW => ⟨rfl, by rw [hU], by rw [hU]; exact hPc, va_K.moved hW.alike hKc, hDc.weaken (fun _ _ _ _ => trivial), hE.warm hW⟩⟩ rfl rfl hl.1 rfl (lv_room (Nat.le_of_ble_eq_true rfl)) dX10_addressesAreApart_25 ⟨Nat.le_of_ble_eq_true rfl, Nat.le_of_ble_eq_true rfl⟩) hS (fun q _ h => hFc q h) hFc (fun r_6 u t H1 locs ht hvm hw hB hz1 hk1 hS => ?_)
  clear hPc hDc hKc
  replace hP := ro_keep hP hk1
  generalize H1 = H at hP hS ⊢
  replace hP : va_P (dC, dI) vwCl [(x, .inr (11, [.ref nr, .ref st, .ref lf, .int 2, .int (nI tm), .int (nI fcn), .int xl, .int 0])), (nr, .inl (cN, 8, .inr (.inr (.inr (.inr fn))))), (an, .inr (5, [.int ah, .int al, .int awa, .int afr, .int (nI awi), .ref ar, .ref ae, .ref as, .ref ai, .ref ag, .ref ac, .ref au, .int 0, .int 2, .int 10, .int (nI acc), .int 0, .int 0])), (bn, .inr (5, [.int bh, .int bl, .int bwa, .int bfr, .int (nI bwi), .ref br, .ref be, .ref bs, .ref bi, .ref bg, .ref bc, .ref bu, .int 0, .int 2, .int 200, .int (nI bcc), .int 0, .int 0]))] H := hP
  have hw := hw.symm
  subst hw
  refine W.eq (g2 := F0 m 28 ls [.ref an]) rfl ?_
  refine lv_astore (lv' := [(4, .ref an), (3, .ref bn), (2, .int 0), (1, .int 1), (0, .ref x)]) hx hb dX10_addressesAreApart_28 hl (by decide) rfl (fun ls hl => ?_)
  refine lv_aload_n hx hb dX10_addressesAreApart_30 rfl (lv_at hl 1 rfl) ?_
  refine lv_ifnull hx hb dX10_addressesAreApart_31 ?_
  refine lv_aload hx hb dX10_addressesAreApart_34 (lv_at hl 0 rfl) ?_
  refine lv_ifnull hx hb dX10_addressesAreApart_36 ?_
  refine lv_aload_n hx hb dX10_addressesAreApart_39 rfl (lv_at hl 1 rfl) ?_
  refine lv_aload hx hb dX10_addressesAreApart_40 (lv_at hl 0 rfl) ?_
  have hPc := hP.sub (ws' := [(bn, .inr (5, [.int bh, .int bl, .int bwa, .int bfr, .int (nI bwi), .ref br, .ref be, .ref bs, .ref bi, .ref bg, .ref bc, .ref bu, .int 0, .int 2, .int 200, .int (nI bcc), .int 0, .int 0])), (an, .inr (5, [.int ah, .int al, .int awa, .int afr, .int (nI awi), .ref ar, .ref ae, .ref as, .ref ai, .ref ag, .ref ac, .ref au, .int 0, .int 2, .int 10, .int (nI acc), .int 0, .int 0]))]) [3, 2] rfl
  have hDc := hD.sub (ws' := [(bn, .inr (5, [.int bh, .int bl, .int bwa, .int bfr, .int (nI bwi), .ref br, .ref be, .ref bs, .ref bi, .ref bg, .ref bc, .ref bu, .int 0, .int 2, .int 200, .int (nI bcc), .int 0, .int 0])), (an, .inr (5, [.int ah, .int al, .int awa, .int afr, .int (nI awi), .ref ar, .ref ae, .ref as, .ref ai, .ref ag, .ref ac, .ref au, .int 0, .int 2, .int 10, .int (nI acc), .int 0, .int 0]))]) [3, 2] (by decide +kernel) rfl
  have hKc := hK.sub (tys' := []) [] rfl
  have hFc := ro_free hS hA
  refine va_calli (va_runV (As := [.ref an]) (rest := []) ⟨hx, hb, hml, hown, hts⟩ (c_shares l dC dI (an) (ah) (al) (awa) (afr) (awi) (ar) (ae) (as) (ai) (ag) (ac) (au) (acc) (bn) (bh) (bl) (bwa) (bfr) (bwi) (br) (be) (bs) (bi) (bg) (bc) (bu) (bcc) H.size) (cwV 1 hts g_c_apart_c_shares_237 rfl rfl rfl (by decide +kernel) ⟨Nat.le_of_ble_eq_true rfl, Nat.le_of_ble_eq_true rfl⟩) ⟨fun a U g mk q => by obtain ⟨q0, q1, qP, qK, qD, qE⟩ := q; exact ⟨q0, q1, qP, va_K.moved (u := U) (U := U.calling g mk a) (Vm.Alike.refl U.vm) qK, qD, ev.same (u := U) (U := U.calling g mk a) rfl qE⟩, va_recv hKc hPc (ci := 5) (q0 := 0) rfl rfl, fun U hU hW => ⟨rfl, by rw [hU], by rw [hU]; exact hPc, va_K.moved hW.alike hKc, hDc.weaken (fun _ _ _ _ => trivial), hE.warm hW⟩⟩ rfl rfl hl.1 rfl (lv_room (Nat.le_of_ble_eq_true rfl)) dX10_addressesAreApart_42 ⟨Nat.le_of_ble_eq_true rfl, Nat.le_of_ble_eq_true rfl⟩) hS (fun q _ h => hFc q h) hFc (fun r_7 u t H1 locs ht hvm hw hB hz1 hk1 hS => ?_)
  clear hPc hDc hKc
  replace hP := ro_keep hP hk1
  generalize H1 = H at hP hS ⊢
  replace hP : va_P (dC, dI) vwCl [(x, .inr (11, [.ref nr, .ref st, .ref lf, .int 2, .int (nI tm), .int (nI fcn), .int xl, .int 0])), (nr, .inl (cN, 8, .inr (.inr (.inr (.inr fn))))), (an, .inr (5, [.int ah, .int al, .int awa, .int afr, .int (nI awi), .ref ar, .ref ae, .ref as, .ref ai, .ref ag, .ref ac, .ref au, .int 0, .int 2, .int 10, .int (nI acc), .int 0, .int 0])), (bn, .inr (5, [.int bh, .int bl, .int bwa, .int bfr, .int (nI bwi), .ref br, .ref be, .ref bs, .ref bi, .ref bg, .ref bc, .ref bu, .int 0, .int 2, .int 200, .int (nI bcc), .int 0, .int 0]))] H := hP
  have hw := hw.symm
  subst hw
  refine lv_if_eq (tgt := 50) hx hb dX10_addressesAreApart_45 (by decide) (fun c_8 => ?_) (fun c_8 => ?_)
  rotate_left
  · exact absurd (by decide) c_8
  refine lv_iinc (v := 1) (lv' := [(2, .int 1), (4, .ref an), (3, .ref bn), (1, .int 1), (0, .ref x)]) hx hb dX10_addressesAreApart_50 hl (k := 2) rfl (by decide) (by decide) rfl (fun ls hl => ?_)
  refine lv_goto (tgt := 12) hx hb dX10_addressesAreApart_53 (by decide) ?_
  refine lv_iload_n hx hb dX10_addressesAreApart_12 rfl (lv_at hl 0 rfl) ?_
  refine lv_iload_n hx hb dX10_addressesAreApart_13 rfl (lv_at hl 3 rfl) ?_
  refine lv_icmp_ge (tgt := 56) hx hb dX10_addressesAreApart_14 (by decide) (fun c_9 => ?_) (fun c_9 => ?_)
  rotate_left
  · exact absurd (by decide) c_9
  refine lv_iinc (v := 2) (lv' := [(1, .int 2), (2, .int 1), (4, .ref an), (3, .ref bn), (0, .ref x)]) hx hb dX10_addressesAreApart_56 hl (k := 3) rfl (by decide) (by decide) rfl (fun ls hl => ?_)
  refine lv_goto (tgt := 2) hx hb dX10_addressesAreApart_59 (by decide) ?_
  refine lv_iload_n hx hb dX10_addressesAreApart_2 rfl (lv_at hl 0 rfl) ?_
  refine lv_aload_n hx hb dX10_addressesAreApart_3 rfl (lv_at hl 4 rfl) ?_
  refine va_get (D := (dC, dI)) (ci := 11) (v := .int 2) (C := RX10) (T := TX10) (N := 8) hx hb hts in_c_apart_X10 hown hK hP 0 rfl rfl 3 (by decide) (hts (.fieldLink RX10 29 "ClaimBus" "nodeCount" "I") (List.mem_of_getElem? (i := 1) rfl)) (fun _ h9 => h9) rfl dX10_addressesAreApart_4 ?_
  refine lv_icmp_ge (tgt := 62) hx hb dX10_addressesAreApart_7 (by decide) (fun c_10 => ?_) (fun c_10 => ?_)
  rotate_left
  · exact absurd (by decide) c_10
  refine lv_iconst (v := 1) hx hb dX10_addressesAreApart_62 (by decide) ?_
  exact W.zret (v := 1) hx hb hr (by decide) (fun t ht hW => ⟨⟨1, (), rfl, rfl, trivial⟩, hS.F ht⟩) hS.2.2 dX10_addressesAreApart_63

noncomputable def tl_c_true : List Cond := wsX100 ++ (wsX40 ++ (wsX20 ++ (v_c_find_0 ++ (v_c_find_1))))
noncomputable def v_c_true : List Cond := .code yX10_messagesAreTrue cX10_messagesAreTrue 3 (some .boolean) :: ([.fieldLink RX10 29 "ClaimBus" "nodeCount" "I", .initialized RX10, .methodLink RX10 53 yX10_find, .instanceMethod yX10_find, .selects RX10 yX10_find yX10_find, .fieldLink RX10 140 "ClaimBus$Node" "inbox" "LClaimBus$Inbox;", .fieldLink RX10 241 "ClaimBus$Inbox" "gotAnotherThanSent" "Z"] ++ tl_c_true)
theorem it_c_true : ∀ w ∈ tl_c_true, w ∈ v_c_true := fun w h => List.mem_cons_of_mem _ (List.mem_append_right _ h)
theorem in_c_true_X10 : ∀ w ∈ wsX100, w ∈ v_c_true := fun w h => it_c_true w (List.mem_append_left _ h)
theorem in_c_true_X4 : ∀ w ∈ wsX40, w ∈ v_c_true := fun w h => it_c_true w (List.mem_append_right _ (List.mem_append_left _ h))
theorem in_c_true_X2 : ∀ w ∈ wsX20, w ∈ v_c_true := fun w h => it_c_true w (List.mem_append_right _ (List.mem_append_right _ (List.mem_append_left _ h)))
theorem ic_c_true_c_find_0 : ∀ w ∈ v_c_find_0, w ∈ v_c_true := fun w h => it_c_true w (List.mem_append_right _ (List.mem_append_right _ (List.mem_append_right _ (List.mem_append_left _ h))))
theorem ic_c_true_c_find_1 : ∀ w ∈ v_c_find_1, w ∈ v_c_true := fun w h => it_c_true w (List.mem_append_right _ (List.mem_append_right _ (List.mem_append_right _ (List.mem_append_right _ (h)))))
theorem gt_c_true : ∀ w ∈ tl_c_true, goodWord w = true := List.forall_mem_append.mpr ⟨gw_wsX100, List.forall_mem_append.mpr ⟨gw_wsX40, List.forall_mem_append.mpr ⟨gw_wsX20, List.forall_mem_append.mpr ⟨gw_c_find_0, gw_c_find_1⟩⟩⟩⟩
theorem gw_c_true : ∀ w ∈ v_c_true, goodWord w = true := List.forall_mem_cons.mpr ⟨by decide +kernel, List.forall_mem_append.mpr ⟨List.all_eq_true.mp (by decide +kernel), gt_c_true⟩⟩
theorem g_c_true_c_find_0_53 : GoodIn v_c_true (wsV RX10 53 RX10 yX10_find v_c_find_0) := goodIn_app (goodIn_r [.methodLink RX10 53 yX10_find, .instanceMethod yX10_find, .selects RX10 yX10_find yX10_find, .initialized RX10] [3, 4, 5, 2] (by decide +kernel) (by decide +kernel)) (fun w h => ⟨ic_c_true_c_find_0 w h, good_of_word (gw_c_find_0 w h)⟩)
theorem g_c_true_c_find_1_53 : GoodIn v_c_true (wsV RX10 53 RX10 yX10_find v_c_find_1) := goodIn_app (goodIn_r [.methodLink RX10 53 yX10_find, .instanceMethod yX10_find, .selects RX10 yX10_find yX10_find, .initialized RX10] [3, 4, 5, 2] (by decide +kernel) (by decide +kernel)) (fun w h => ⟨ic_c_true_c_find_1 w h, good_of_word (gw_c_find_1 w h)⟩)
set_option maxHeartbeats 4000000 in
set_option maxRecDepth 100000 in
theorem c_true (l : Launch) (dC : Nat → ClassId) (dI : Nat → Nat → Nat) (x : Nat) (nr : Nat) (st : Nat) (lf : Nat) (tm : Nat) (fcn : Nat) (xl : Int32) (cN : ClassId) (fn : Nat → Option Nat) (an : Nat) (ah : Int32) (al : Int32) (awa : Int32) (afr : Int32) (awi : Nat) (ar : Nat) (ae : Nat) (as : Nat) (ai : Nat) (ag : Nat) (ac : Nat) (au : Nat) (acc : Nat) (bn : Nat) (bh : Int32) (bl : Int32) (bwa : Int32) (bfr : Int32) (bwi : Nat) (br : Nat) (be : Nat) (bs : Nat) (bi : Nat) (bg : Nat) (bc : Nat) (bu : Nat) (bcc : Nat) (nc : Nat) (lg : Nat) (lt : Nat) (ana : Int32) (alg : Nat) (alt : Nat) (sz : Nat) (n0 : fn 0 = some an) (n1 : fn 1 = some bn) : Met l yX10_messagesAreTrue v_c_true ({ frames := 1, cells := 0, slots := 0, locals := 21 }) (va_Pc [.ref x] (fun U => U.heap.size = sz ∧ va_P (dC, dI) vwCl [(x, .inr (11, [.ref nr, .ref st, .ref lf, .int 2, .int (nI tm), .int (nI fcn), .int xl, .int 0])), (nr, .inl (cN, 8, .inr (.inr (.inr (.inr fn))))), (an, .inr (5, [.int ah, .int al, .int awa, .int afr, .int (nI awi), .ref ar, .ref ae, .ref as, .ref ai, .ref ag, .ref ac, .ref au, .int 0, .int 2, .int 10, .int (nI acc), .int 0, .int 0])), (bn, .inr (5, [.int bh, .int bl, .int bwa, .int bfr, .int (nI bwi), .ref br, .ref be, .ref bs, .ref bi, .ref bg, .ref bc, .ref bu, .int 0, .int 2, .int 200, .int (nI bcc), .int 0, .int 0])), (ai, .inr (3, [.int ana, .int 0, .ref alg, .ref alt])), (bi, .inr (3, [.int (nI nc), .int 0, .ref lg, .ref lt]))] U.heap ∧ va_K (dC, dI) vwCl [(cN, (.object RX4))] U ∧ va_D (fun _ => True) [(x, .inr (11, [.ref nr, .ref st, .ref lf, .int 2, .int (nI tm), .int (nI fcn), .int xl, .int 0])), (nr, .inl (cN, 8, .inr (.inr (.inr (.inr fn))))), (an, .inr (5, [.int ah, .int al, .int awa, .int afr, .int (nI awi), .ref ar, .ref ae, .ref as, .ref ai, .ref ag, .ref ac, .ref au, .int 0, .int 2, .int 10, .int (nI acc), .int 0, .int 0])), (bn, .inr (5, [.int bh, .int bl, .int bwa, .int bfr, .int (nI bwi), .ref br, .ref be, .ref bs, .ref bi, .ref bg, .ref bc, .ref bu, .int 0, .int 2, .int 200, .int (nI bcc), .int 0, .int 0])), (ai, .inr (3, [.int ana, .int 0, .ref alg, .ref alt])), (bi, .inr (3, [.int (nI nc), .int 0, .ref lg, .ref lt]))] ∧ ev U)) (va_Qi (fun (r : Int32) (_ : Unit) => r = 1) (fun (_ : Unit) (_ : State) => True) (va_A [] sz)) 0 0 (va_A [] sz) := by
  refine Met.ofW (cc := cX10_messagesAreTrue) (maxL := 3) (ret := (some .boolean)) (by decide) rfl ?_
  intro p e s m args below meth c s₁ B hml hv
  obtain ⟨rfl, hsz, hP, hK, hD0, hE⟩ := hv
  have hx := B.exec
  have hb := B.bytes
  have hr := B.returns
  have hts := atoms_spec (ws := v_c_true) B.pre
  have hown : s.vm.findClass RX10 = some m.cls := findClass_of_methodNamed B.named
  have hlocks := B.notSynchronized
  subst hsz
  have hD := hD0
  generalize hAe : va_A [] s.heap.size = A
  have hA : ∀ q : Nat, s.heap.size ≤ q → A q := fun q h => by rw [← hAe]; exact Or.inr h
  have hS : va_S A s.heap s.heap [] := va_S.rf
  replace hP : va_P (dC, dI) vwCl [(x, .inr (11, [.ref nr, .ref st, .ref lf, .int 2, .int (nI tm), .int (nI fcn), .int xl, .int 0])), (nr, .inl (cN, 8, .inr (.inr (.inr (.inr fn))))), (an, .inr (5, [.int ah, .int al, .int awa, .int afr, .int (nI awi), .ref ar, .ref ae, .ref as, .ref ai, .ref ag, .ref ac, .ref au, .int 0, .int 2, .int 10, .int (nI acc), .int 0, .int 0])), (bn, .inr (5, [.int bh, .int bl, .int bwa, .int bfr, .int (nI bwi), .ref br, .ref be, .ref bs, .ref bi, .ref bg, .ref bc, .ref bu, .int 0, .int 2, .int 200, .int (nI bcc), .int 0, .int 0])), (ai, .inr (3, [.int ana, .int 0, .ref alg, .ref alt])), (bi, .inr (3, [.int (nI nc), .int 0, .ref lg, .ref lt]))] s.heap := hP
  have hl := lv_entry ([.ref x]) (n := 3) (Nat.le_of_ble_eq_true rfl)
  rw [lg_entry_eq]
  generalize (lg_sl ([.ref x]) ++ List.replicate (3 - (lg_sl ([.ref x])).length) Slot.unset).toArray = ls at hl ⊢
  replace hl : lv_has ls 3 [(0, .ref x)] := hl
  obtain ⟨H, hH⟩ : ∃ z : Heap, z = s.heap := ⟨_, rfl⟩
  rw [← hH]
  replace hS : va_S A s.heap H [] := by rw [hH]; exact va_S.rf
  replace hP : va_P (dC, dI) vwCl [(x, .inr (11, [.ref nr, .ref st, .ref lf, .int 2, .int (nI tm), .int (nI fcn), .int xl, .int 0])), (nr, .inl (cN, 8, .inr (.inr (.inr (.inr fn))))), (an, .inr (5, [.int ah, .int al, .int awa, .int afr, .int (nI awi), .ref ar, .ref ae, .ref as, .ref ai, .ref ag, .ref ac, .ref au, .int 0, .int 2, .int 10, .int (nI acc), .int 0, .int 0])), (bn, .inr (5, [.int bh, .int bl, .int bwa, .int bfr, .int (nI bwi), .ref br, .ref be, .ref bs, .ref bi, .ref bg, .ref bc, .ref bu, .int 0, .int 2, .int 200, .int (nI bcc), .int 0, .int 0])), (ai, .inr (3, [.int ana, .int 0, .ref alg, .ref alt])), (bi, .inr (3, [.int (nI nc), .int 0, .ref lg, .ref lt]))] H := by rw [hH]; exact hP
  clear hH
  refine lv_iconst (v := 0) hx hb dX10_messagesAreTrue_0 (by decide) ?_
  refine lv_istore_n (lv' := [(1, .int 0), (0, .ref x)]) hx hb dX10_messagesAreTrue_1 rfl hl (by decide) rfl (fun ls hl => ?_)
  refine lv_iload_n hx hb dX10_messagesAreTrue_2 rfl (lv_at hl 0 rfl) ?_
  refine lv_aload_n hx hb dX10_messagesAreTrue_3 rfl (lv_at hl 1 rfl) ?_
  refine va_get (D := (dC, dI)) (ci := 11) (v := .int 2) (C := RX10) (T := TX10) (N := 8) hx hb hts in_c_true_X10 hown hK hP 0 rfl rfl 3 (by decide) (hts (.fieldLink RX10 29 "ClaimBus" "nodeCount" "I") (List.mem_of_getElem? (i := 1) rfl)) (fun _ h9 => h9) rfl dX10_messagesAreTrue_4 ?_
  refine lv_icmp_ge (tgt := 38) hx hb dX10_messagesAreTrue_7 (by decide) (fun c_1 => ?_) (fun c_1 => ?_)
  · exact absurd c_1 (by decide)
  refine lv_aload_n hx hb dX10_messagesAreTrue_10 rfl (lv_at hl 1 rfl) ?_
  refine lv_iload_n hx hb dX10_messagesAreTrue_11 rfl (lv_at hl 0 rfl) ?_
  have hPc := hP.sub (ws' := [(x, .inr (11, [.ref nr, .ref st, .ref lf, .int 2, .int (nI tm), .int (nI fcn), .int xl, .int 0])), (nr, .inl (cN, 8, .inr (.inr (.inr (.inr fn)))))]) [0, 1] rfl
  have hDc := hD.sub (ws' := [(x, .inr (11, [.ref nr, .ref st, .ref lf, .int 2, .int (nI tm), .int (nI fcn), .int xl, .int 0])), (nr, .inl (cN, 8, .inr (.inr (.inr (.inr fn)))))]) [0, 1] (by decide +kernel) rfl
  have hKc := hK.sub (tys' := [(cN, (.object RX4))]) [0] rfl
  have hFc := ro_free hS hA
  refine va_callq (va_runV (As := [.int 0]) (rest := []) ⟨hx, hb, hml, hown, hts⟩ (c_find_0 l dC dI (x) (nr) (st) (lf) (tm) (fcn) (xl) (cN) (fn) (an) H.size n0) (cwV 1 hts g_c_true_c_find_0_53 rfl rfl rfl (by decide +kernel) ⟨Nat.le_of_ble_eq_true rfl, Nat.le_of_ble_eq_true rfl⟩) ⟨fun a U g mk q => by obtain ⟨q0, q1, qP, qK, qD, qE⟩ := q; exact ⟨q0, q1, qP, va_K.moved (u := U) (U := U.calling g mk a) (Vm.Alike.refl U.vm) qK, qD, ev.same (u := U) (U := U.calling g mk a) rfl qE⟩, va_recv hKc hPc (ci := 11) (q0 := 0) rfl rfl, fun U hU hW => ⟨rfl, by rw [hU], by rw [hU]; exact hPc, va_K.moved hW.alike hKc, hDc.weaken (fun _ _ _ _ => trivial), hE.warm hW⟩⟩ rfl rfl hl.1 rfl (lv_room (Nat.le_of_ble_eq_true rfl)) dX10_messagesAreTrue_12 ⟨Nat.le_of_ble_eq_true rfl, Nat.le_of_ble_eq_true rfl⟩) hS (fun q _ h => hFc q h) hFc (fun r_2 u t H1 locs ht hvm hw hB hz1 hk1 hS => ?_)
  clear hPc hDc hKc
  replace hP := ro_keep hP hk1
  generalize H1 = H at hP hS ⊢
  replace hP : va_P (dC, dI) vwCl [(x, .inr (11, [.ref nr, .ref st, .ref lf, .int 2, .int (nI tm), .int (nI fcn), .int xl, .int 0])), (nr, .inl (cN, 8, .inr (.inr (.inr (.inr fn))))), (an, .inr (5, [.int ah, .int al, .int awa, .int afr, .int (nI awi), .ref ar, .ref ae, .ref as, .ref ai, .ref ag, .ref ac, .ref au, .int 0, .int 2, .int 10, .int (nI acc), .int 0, .int 0])), (bn, .inr (5, [.int bh, .int bl, .int bwa, .int bfr, .int (nI bwi), .ref br, .ref be, .ref bs, .ref bi, .ref bg, .ref bc, .ref bu, .int 0, .int 2, .int 200, .int (nI bcc), .int 0, .int 0])), (ai, .inr (3, [.int ana, .int 0, .ref alg, .ref alt])), (bi, .inr (3, [.int (nI nc), .int 0, .ref lg, .ref lt]))] H := hP
  have hw := hw.symm
  subst hw
  refine W.eq (g2 := F0 m 15 ls [.ref an]) rfl ?_
  refine lv_astore_n (lv' := [(2, .ref an), (1, .int 0), (0, .ref x)]) hx hb dX10_messagesAreTrue_15 rfl hl (by decide) rfl (fun ls hl => ?_)
  refine lv_aload_n hx hb dX10_messagesAreTrue_16 rfl (lv_at hl 0 rfl) ?_
  refine lv_ifnull hx hb dX10_messagesAreTrue_17 ?_
  refine lv_aload_n hx hb dX10_messagesAreTrue_20 rfl (lv_at hl 0 rfl) ?_
  refine va_get (D := (dC, dI)) (ci := 5) (v := .ref ai) (C := RX4) (T := TX4) (N := 18) hx hb hts in_c_true_X4 hown hK hP 2 rfl rfl 8 (by decide) (hts (.fieldLink RX10 140 "ClaimBus$Node" "inbox" "LClaimBus$Inbox;") (List.mem_of_getElem? (i := 6) rfl)) (fun _ h9 => h9) rfl dX10_messagesAreTrue_21 ?_
  refine va_get (D := (dC, dI)) (ci := 3) (v := .int 0) (C := RX2) (T := TX2) (N := 4) hx hb hts in_c_true_X2 hown hK hP 4 rfl rfl 1 (by decide) (hts (.fieldLink RX10 241 "ClaimBus$Inbox" "gotAnotherThanSent" "Z") (List.mem_of_getElem? (i := 7) rfl)) (fun _ h9 => h9) rfl dX10_messagesAreTrue_24 ?_
  refine lv_if_eq (tgt := 32) hx hb dX10_messagesAreTrue_27 (by decide) (fun c_3 => ?_) (fun c_3 => ?_)
  rotate_left
  · exact absurd (by decide) c_3
  refine lv_iinc (v := 1) (lv' := [(1, .int 1), (2, .ref an), (0, .ref x)]) hx hb dX10_messagesAreTrue_32 hl (k := 1) rfl (by decide) (by decide) rfl (fun ls hl => ?_)
  refine lv_goto (tgt := 2) hx hb dX10_messagesAreTrue_35 (by decide) ?_
  refine lv_iload_n hx hb dX10_messagesAreTrue_2 rfl (lv_at hl 0 rfl) ?_
  refine lv_aload_n hx hb dX10_messagesAreTrue_3 rfl (lv_at hl 2 rfl) ?_
  refine va_get (D := (dC, dI)) (ci := 11) (v := .int 2) (C := RX10) (T := TX10) (N := 8) hx hb hts in_c_true_X10 hown hK hP 0 rfl rfl 3 (by decide) (hts (.fieldLink RX10 29 "ClaimBus" "nodeCount" "I") (List.mem_of_getElem? (i := 1) rfl)) (fun _ h9 => h9) rfl dX10_messagesAreTrue_4 ?_
  refine lv_icmp_ge (tgt := 38) hx hb dX10_messagesAreTrue_7 (by decide) (fun c_4 => ?_) (fun c_4 => ?_)
  · exact absurd c_4 (by decide)
  refine lv_aload_n hx hb dX10_messagesAreTrue_10 rfl (lv_at hl 2 rfl) ?_
  refine lv_iload_n hx hb dX10_messagesAreTrue_11 rfl (lv_at hl 0 rfl) ?_
  have hPc := hP.sub (ws' := [(x, .inr (11, [.ref nr, .ref st, .ref lf, .int 2, .int (nI tm), .int (nI fcn), .int xl, .int 0])), (nr, .inl (cN, 8, .inr (.inr (.inr (.inr fn)))))]) [0, 1] rfl
  have hDc := hD.sub (ws' := [(x, .inr (11, [.ref nr, .ref st, .ref lf, .int 2, .int (nI tm), .int (nI fcn), .int xl, .int 0])), (nr, .inl (cN, 8, .inr (.inr (.inr (.inr fn)))))]) [0, 1] (by decide +kernel) rfl
  have hKc := hK.sub (tys' := [(cN, (.object RX4))]) [0] rfl
  have hFc := ro_free hS hA
  refine va_callq (va_runV (As := [.int 1]) (rest := []) ⟨hx, hb, hml, hown, hts⟩ (c_find_1 l dC dI (x) (nr) (st) (lf) (tm) (fcn) (xl) (cN) (fn) (bn) H.size n1) (cwV 1 hts g_c_true_c_find_1_53 rfl rfl rfl (by decide +kernel) ⟨Nat.le_of_ble_eq_true rfl, Nat.le_of_ble_eq_true rfl⟩) ⟨fun a U g mk q => by obtain ⟨q0, q1, qP, qK, qD, qE⟩ := q; exact ⟨q0, q1, qP, va_K.moved (u := U) (U := U.calling g mk a) (Vm.Alike.refl U.vm) qK, qD, ev.same (u := U) (U := U.calling g mk a) rfl qE⟩, va_recv hKc hPc (ci := 11) (q0 := 0) rfl rfl, fun U hU hW => ⟨rfl, by rw [hU], by rw [hU]; exact hPc, va_K.moved hW.alike hKc, hDc.weaken (fun _ _ _ _ => trivial), hE.warm hW⟩⟩ rfl rfl hl.1 rfl (lv_room (Nat.le_of_ble_eq_true rfl)) dX10_messagesAreTrue_12 ⟨Nat.le_of_ble_eq_true rfl, Nat.le_of_ble_eq_true rfl⟩) hS (fun q _ h => hFc q h) hFc (fun r_5 u t H1 locs ht hvm hw hB hz1 hk1 hS => ?_)
  clear hPc hDc hKc
  replace hP := ro_keep hP hk1
  generalize H1 = H at hP hS ⊢
  replace hP : va_P (dC, dI) vwCl [(x, .inr (11, [.ref nr, .ref st, .ref lf, .int 2, .int (nI tm), .int (nI fcn), .int xl, .int 0])), (nr, .inl (cN, 8, .inr (.inr (.inr (.inr fn))))), (an, .inr (5, [.int ah, .int al, .int awa, .int afr, .int (nI awi), .ref ar, .ref ae, .ref as, .ref ai, .ref ag, .ref ac, .ref au, .int 0, .int 2, .int 10, .int (nI acc), .int 0, .int 0])), (bn, .inr (5, [.int bh, .int bl, .int bwa, .int bfr, .int (nI bwi), .ref br, .ref be, .ref bs, .ref bi, .ref bg, .ref bc, .ref bu, .int 0, .int 2, .int 200, .int (nI bcc), .int 0, .int 0])), (ai, .inr (3, [.int ana, .int 0, .ref alg, .ref alt])), (bi, .inr (3, [.int (nI nc), .int 0, .ref lg, .ref lt]))] H := hP
  have hw := hw.symm
  subst hw
  refine W.eq (g2 := F0 m 15 ls [.ref bn]) rfl ?_
  refine lv_astore_n (lv' := [(2, .ref bn), (1, .int 1), (0, .ref x)]) hx hb dX10_messagesAreTrue_15 rfl hl (by decide) rfl (fun ls hl => ?_)
  refine lv_aload_n hx hb dX10_messagesAreTrue_16 rfl (lv_at hl 0 rfl) ?_
  refine lv_ifnull hx hb dX10_messagesAreTrue_17 ?_
  refine lv_aload_n hx hb dX10_messagesAreTrue_20 rfl (lv_at hl 0 rfl) ?_
  refine va_get (D := (dC, dI)) (ci := 5) (v := .ref bi) (C := RX4) (T := TX4) (N := 18) hx hb hts in_c_true_X4 hown hK hP 3 rfl rfl 8 (by decide) (hts (.fieldLink RX10 140 "ClaimBus$Node" "inbox" "LClaimBus$Inbox;") (List.mem_of_getElem? (i := 6) rfl)) (fun _ h9 => h9) rfl dX10_messagesAreTrue_21 ?_
  refine va_get (D := (dC, dI)) (ci := 3) (v := .int 0) (C := RX2) (T := TX2) (N := 4) hx hb hts in_c_true_X2 hown hK hP 5 rfl rfl 1 (by decide) (hts (.fieldLink RX10 241 "ClaimBus$Inbox" "gotAnotherThanSent" "Z") (List.mem_of_getElem? (i := 7) rfl)) (fun _ h9 => h9) rfl dX10_messagesAreTrue_24 ?_
  refine lv_if_eq (tgt := 32) hx hb dX10_messagesAreTrue_27 (by decide) (fun c_6 => ?_) (fun c_6 => ?_)
  rotate_left
  · exact absurd (by decide) c_6
  refine lv_iinc (v := 2) (lv' := [(1, .int 2), (2, .ref bn), (0, .ref x)]) hx hb dX10_messagesAreTrue_32 hl (k := 1) rfl (by decide) (by decide) rfl (fun ls hl => ?_)
  refine lv_goto (tgt := 2) hx hb dX10_messagesAreTrue_35 (by decide) ?_
  refine lv_iload_n hx hb dX10_messagesAreTrue_2 rfl (lv_at hl 0 rfl) ?_
  refine lv_aload_n hx hb dX10_messagesAreTrue_3 rfl (lv_at hl 2 rfl) ?_
  refine va_get (D := (dC, dI)) (ci := 11) (v := .int 2) (C := RX10) (T := TX10) (N := 8) hx hb hts in_c_true_X10 hown hK hP 0 rfl rfl 3 (by decide) (hts (.fieldLink RX10 29 "ClaimBus" "nodeCount" "I") (List.mem_of_getElem? (i := 1) rfl)) (fun _ h9 => h9) rfl dX10_messagesAreTrue_4 ?_
  refine lv_icmp_ge (tgt := 38) hx hb dX10_messagesAreTrue_7 (by decide) (fun c_7 => ?_) (fun c_7 => ?_)
  rotate_left
  · exact absurd (by decide) c_7
  refine lv_iconst (v := 1) hx hb dX10_messagesAreTrue_38 (by decide) ?_
  exact W.zret (v := 1) hx hb hr (by decide) (fun t ht hW => ⟨⟨1, (), rfl, rfl, trivial⟩, hS.F ht⟩) hS.2.2 dX10_messagesAreTrue_39

noncomputable def tl_c_sound : List Cond := v_c_disturbed ++ (v_c_apart ++ (v_c_true))
noncomputable def v_c_sound : List Cond := .code yX10_sound cX10_sound 1 (some .boolean) :: ([.initialized RX10, .methodLink RX10 180 yX10_isDisturbed, .instanceMethod yX10_isDisturbed, .selects RX10 yX10_isDisturbed yX10_isDisturbed, .methodLink RX10 183 yX10_addressesAreApart, .instanceMethod yX10_addressesAreApart, .selects RX10 yX10_addressesAreApart yX10_addressesAreApart, .methodLink RX10 186 yX10_messagesAreTrue, .instanceMethod yX10_messagesAreTrue, .selects RX10 yX10_messagesAreTrue yX10_messagesAreTrue] ++ tl_c_sound)
theorem it_c_sound : ∀ w ∈ tl_c_sound, w ∈ v_c_sound := fun w h => List.mem_cons_of_mem _ (List.mem_append_right _ h)
theorem ic_c_sound_c_disturbed : ∀ w ∈ v_c_disturbed, w ∈ v_c_sound := fun w h => it_c_sound w (List.mem_append_left _ h)
theorem ic_c_sound_c_apart : ∀ w ∈ v_c_apart, w ∈ v_c_sound := fun w h => it_c_sound w (List.mem_append_right _ (List.mem_append_left _ h))
theorem ic_c_sound_c_true : ∀ w ∈ v_c_true, w ∈ v_c_sound := fun w h => it_c_sound w (List.mem_append_right _ (List.mem_append_right _ (h)))
theorem gt_c_sound : ∀ w ∈ tl_c_sound, goodWord w = true := List.forall_mem_append.mpr ⟨gw_c_disturbed, List.forall_mem_append.mpr ⟨gw_c_apart, gw_c_true⟩⟩
theorem gw_c_sound : ∀ w ∈ v_c_sound, goodWord w = true := List.forall_mem_cons.mpr ⟨by decide +kernel, List.forall_mem_append.mpr ⟨List.all_eq_true.mp (by decide +kernel), gt_c_sound⟩⟩
theorem g_c_sound_c_disturbed_180 : GoodIn v_c_sound (wsV RX10 180 RX10 yX10_isDisturbed v_c_disturbed) := goodIn_app (goodIn_r [.methodLink RX10 180 yX10_isDisturbed, .instanceMethod yX10_isDisturbed, .selects RX10 yX10_isDisturbed yX10_isDisturbed, .initialized RX10] [2, 3, 4, 1] (by decide +kernel) (by decide +kernel)) (fun w h => ⟨ic_c_sound_c_disturbed w h, good_of_word (gw_c_disturbed w h)⟩)
theorem g_c_sound_c_apart_183 : GoodIn v_c_sound (wsV RX10 183 RX10 yX10_addressesAreApart v_c_apart) := goodIn_app (goodIn_r [.methodLink RX10 183 yX10_addressesAreApart, .instanceMethod yX10_addressesAreApart, .selects RX10 yX10_addressesAreApart yX10_addressesAreApart, .initialized RX10] [5, 6, 7, 1] (by decide +kernel) (by decide +kernel)) (fun w h => ⟨ic_c_sound_c_apart w h, good_of_word (gw_c_apart w h)⟩)
theorem g_c_sound_c_true_186 : GoodIn v_c_sound (wsV RX10 186 RX10 yX10_messagesAreTrue v_c_true) := goodIn_app (goodIn_r [.methodLink RX10 186 yX10_messagesAreTrue, .instanceMethod yX10_messagesAreTrue, .selects RX10 yX10_messagesAreTrue yX10_messagesAreTrue, .initialized RX10] [8, 9, 10, 1] (by decide +kernel) (by decide +kernel)) (fun w h => ⟨ic_c_sound_c_true w h, good_of_word (gw_c_true w h)⟩)
set_option maxHeartbeats 4000000 in
set_option maxRecDepth 100000 in
theorem c_sound (l : Launch) (dC : Nat → ClassId) (dI : Nat → Nat → Nat) (x : Nat) (nr : Nat) (st : Nat) (lf : Nat) (tm : Nat) (fcn : Nat) (xl : Int32) (cN : ClassId) (fn : Nat → Option Nat) (an : Nat) (ah : Int32) (al : Int32) (awa : Int32) (afr : Int32) (awi : Nat) (ar : Nat) (ae : Nat) (as : Nat) (ai : Nat) (ag : Nat) (ac : Nat) (au : Nat) (acc : Nat) (bn : Nat) (bh : Int32) (bl : Int32) (bwa : Int32) (bfr : Int32) (bwi : Nat) (br : Nat) (be : Nat) (bs : Nat) (bi : Nat) (bg : Nat) (bc : Nat) (bu : Nat) (bcc : Nat) (nc : Nat) (lg : Nat) (lt : Nat) (ana : Int32) (alg : Nat) (alt : Nat) (sz : Nat) (n0 : fn 0 = some an) (n1 : fn 1 = some bn) : Met l yX10_sound v_c_sound ({ frames := 2, cells := 0, slots := 0, locals := 45 }) (va_Pc [.ref x] (fun U => U.heap.size = sz ∧ va_P (dC, dI) vwCl [(x, .inr (11, [.ref nr, .ref st, .ref lf, .int 2, .int (nI tm), .int (nI fcn), .int xl, .int 0])), (nr, .inl (cN, 8, .inr (.inr (.inr (.inr fn))))), (an, .inr (5, [.int ah, .int al, .int awa, .int afr, .int (nI awi), .ref ar, .ref ae, .ref as, .ref ai, .ref ag, .ref ac, .ref au, .int 0, .int 2, .int 10, .int (nI acc), .int 0, .int 0])), (bn, .inr (5, [.int bh, .int bl, .int bwa, .int bfr, .int (nI bwi), .ref br, .ref be, .ref bs, .ref bi, .ref bg, .ref bc, .ref bu, .int 0, .int 2, .int 200, .int (nI bcc), .int 0, .int 0])), (ai, .inr (3, [.int ana, .int 0, .ref alg, .ref alt])), (bi, .inr (3, [.int (nI nc), .int 0, .ref lg, .ref lt]))] U.heap ∧ va_K (dC, dI) vwCl [(cN, (.object RX4))] U ∧ va_D (fun _ => True) [(x, .inr (11, [.ref nr, .ref st, .ref lf, .int 2, .int (nI tm), .int (nI fcn), .int xl, .int 0])), (nr, .inl (cN, 8, .inr (.inr (.inr (.inr fn))))), (an, .inr (5, [.int ah, .int al, .int awa, .int afr, .int (nI awi), .ref ar, .ref ae, .ref as, .ref ai, .ref ag, .ref ac, .ref au, .int 0, .int 2, .int 10, .int (nI acc), .int 0, .int 0])), (bn, .inr (5, [.int bh, .int bl, .int bwa, .int bfr, .int (nI bwi), .ref br, .ref be, .ref bs, .ref bi, .ref bg, .ref bc, .ref bu, .int 0, .int 2, .int 200, .int (nI bcc), .int 0, .int 0])), (ai, .inr (3, [.int ana, .int 0, .ref alg, .ref alt])), (bi, .inr (3, [.int (nI nc), .int 0, .ref lg, .ref lt]))] ∧ ev U)) (va_Qi (fun (r : Int32) (_ : Unit) => r = 1) (fun (_ : Unit) (_ : State) => True) (va_A [] sz)) 0 0 (va_A [] sz) := by
  refine Met.ofW (cc := cX10_sound) (maxL := 1) (ret := (some .boolean)) (by decide) rfl ?_
  intro p e s m args below meth c s₁ B hml hv
  obtain ⟨rfl, hsz, hP, hK, hD0, hE⟩ := hv
  have hx := B.exec
  have hb := B.bytes
  have hr := B.returns
  have hts := atoms_spec (ws := v_c_sound) B.pre
  have hown : s.vm.findClass RX10 = some m.cls := findClass_of_methodNamed B.named
  have hlocks := B.notSynchronized
  subst hsz
  have hD := hD0
  generalize hAe : va_A [] s.heap.size = A
  have hA : ∀ q : Nat, s.heap.size ≤ q → A q := fun q h => by rw [← hAe]; exact Or.inr h
  have hS : va_S A s.heap s.heap [] := va_S.rf
  replace hP : va_P (dC, dI) vwCl [(x, .inr (11, [.ref nr, .ref st, .ref lf, .int 2, .int (nI tm), .int (nI fcn), .int xl, .int 0])), (nr, .inl (cN, 8, .inr (.inr (.inr (.inr fn))))), (an, .inr (5, [.int ah, .int al, .int awa, .int afr, .int (nI awi), .ref ar, .ref ae, .ref as, .ref ai, .ref ag, .ref ac, .ref au, .int 0, .int 2, .int 10, .int (nI acc), .int 0, .int 0])), (bn, .inr (5, [.int bh, .int bl, .int bwa, .int bfr, .int (nI bwi), .ref br, .ref be, .ref bs, .ref bi, .ref bg, .ref bc, .ref bu, .int 0, .int 2, .int 200, .int (nI bcc), .int 0, .int 0])), (ai, .inr (3, [.int ana, .int 0, .ref alg, .ref alt])), (bi, .inr (3, [.int (nI nc), .int 0, .ref lg, .ref lt]))] s.heap := hP
  have hl := lv_entry ([.ref x]) (n := 1) (Nat.le_of_ble_eq_true rfl)
  rw [lg_entry_eq]
  generalize (lg_sl ([.ref x]) ++ List.replicate (1 - (lg_sl ([.ref x])).length) Slot.unset).toArray = ls at hl ⊢
  replace hl : lv_has ls 1 [(0, .ref x)] := hl
  obtain ⟨H, hH⟩ : ∃ z : Heap, z = s.heap := ⟨_, rfl⟩
  rw [← hH]
  replace hS : va_S A s.heap H [] := by rw [hH]; exact va_S.rf
  replace hP : va_P (dC, dI) vwCl [(x, .inr (11, [.ref nr, .ref st, .ref lf, .int 2, .int (nI tm), .int (nI fcn), .int xl, .int 0])), (nr, .inl (cN, 8, .inr (.inr (.inr (.inr fn))))), (an, .inr (5, [.int ah, .int al, .int awa, .int afr, .int (nI awi), .ref ar, .ref ae, .ref as, .ref ai, .ref ag, .ref ac, .ref au, .int 0, .int 2, .int 10, .int (nI acc), .int 0, .int 0])), (bn, .inr (5, [.int bh, .int bl, .int bwa, .int bfr, .int (nI bwi), .ref br, .ref be, .ref bs, .ref bi, .ref bg, .ref bc, .ref bu, .int 0, .int 2, .int 200, .int (nI bcc), .int 0, .int 0])), (ai, .inr (3, [.int ana, .int 0, .ref alg, .ref alt])), (bi, .inr (3, [.int (nI nc), .int 0, .ref lg, .ref lt]))] H := by rw [hH]; exact hP
  clear hH
  refine lv_aload_n hx hb dX10_sound_0 rfl (lv_at hl 0 rfl) ?_
  have hPc := hP.sub (ws' := [(x, .inr (11, [.ref nr, .ref st, .ref lf, .int 2, .int (nI tm), .int (nI fcn), .int xl, .int 0])), (nr, .inl (cN, 8, .inr (.inr (.inr (.inr fn))))), (an, .inr (5, [.int ah, .int al, .int awa, .int afr, .int (nI awi), .ref ar, .ref ae, .ref as, .ref ai, .ref ag, .ref ac, .ref au, .int 0, .int 2, .int 10, .int (nI acc), .int 0, .int 0])), (bn, .inr (5, [.int bh, .int bl, .int bwa, .int bfr, .int (nI bwi), .ref br, .ref be, .ref bs, .ref bi, .ref bg, .ref bc, .ref bu, .int 0, .int 2, .int 200, .int (nI bcc), .int 0, .int 0]))]) [0, 1, 2, 3] rfl
  have hDc := hD.sub (ws' := [(x, .inr (11, [.ref nr, .ref st, .ref lf, .int 2, .int (nI tm), .int (nI fcn), .int xl, .int 0])), (nr, .inl (cN, 8, .inr (.inr (.inr (.inr fn))))), (an, .inr (5, [.int ah, .int al, .int awa, .int afr, .int (nI awi), .ref ar, .ref ae, .ref as, .ref ai, .ref ag, .ref ac, .ref au, .int 0, .int 2, .int 10, .int (nI acc), .int 0, .int 0])), (bn, .inr (5, [.int bh, .int bl, .int bwa, .int bfr, .int (nI bwi), .ref br, .ref be, .ref bs, .ref bi, .ref bg, .ref bc, .ref bu, .int 0, .int 2, .int 200, .int (nI bcc), .int 0, .int 0]))]) [0, 1, 2, 3] (by decide +kernel) rfl
  have hKc := hK.sub (tys' := [(cN, (.object RX4))]) [0] rfl
  have hFc := ro_free hS hA
  refine va_calli (va_runV (As := []) (rest := []) ⟨hx, hb, hml, hown, hts⟩ (c_disturbed l dC dI (x) (nr) (st) (lf) (tm) (fcn) (xl) (cN) (fn) (an) (ah) (al) (awa) (afr) (awi) (ar) (ae) (as) (ai) (ag) (ac) (au) (acc) (bn) (bh) (bl) (bwa) (bfr) (bwi) (br) (be) (bs) (bi) (bg) (bc) (bu) (bcc) H.size n0 n1) (cwV 0 hts g_c_sound_c_disturbed_180 rfl rfl rfl (by decide +kernel) ⟨Nat.le_of_ble_eq_true rfl, Nat.le_of_ble_eq_true rfl⟩) ⟨fun a U g mk q => by obtain ⟨q0, q1, qP, qK, qD, qE⟩ := q; exact ⟨q0, q1, qP, va_K.moved (u := U) (U := U.calling g mk a) (Vm.Alike.refl U.vm) qK, qD, ev.same (u := U) (U := U.calling g mk a) rfl qE⟩, va_recv hKc hPc (ci := 11) (q0 := 0) rfl rfl, fun U hU hW => ⟨rfl, by rw [hU], by rw [hU]; exact hPc, va_K.moved hW.alike hKc, hDc.weaken (fun _ _ _ _ => trivial), hE.warm hW⟩⟩ rfl rfl hl.1 rfl (lv_room (Nat.le_of_ble_eq_true rfl)) dX10_sound_1 ⟨Nat.le_of_ble_eq_true rfl, Nat.le_of_ble_eq_true rfl⟩) hS (fun q _ h => hFc q h) hFc (fun r_1 u t H1 locs ht hvm hw hB hz1 hk1 hS => ?_)
  clear hPc hDc hKc
  replace hP := ro_keep hP hk1
  generalize H1 = H at hP hS ⊢
  replace hP : va_P (dC, dI) vwCl [(x, .inr (11, [.ref nr, .ref st, .ref lf, .int 2, .int (nI tm), .int (nI fcn), .int xl, .int 0])), (nr, .inl (cN, 8, .inr (.inr (.inr (.inr fn))))), (an, .inr (5, [.int ah, .int al, .int awa, .int afr, .int (nI awi), .ref ar, .ref ae, .ref as, .ref ai, .ref ag, .ref ac, .ref au, .int 0, .int 2, .int 10, .int (nI acc), .int 0, .int 0])), (bn, .inr (5, [.int bh, .int bl, .int bwa, .int bfr, .int (nI bwi), .ref br, .ref be, .ref bs, .ref bi, .ref bg, .ref bc, .ref bu, .int 0, .int 2, .int 200, .int (nI bcc), .int 0, .int 0])), (ai, .inr (3, [.int ana, .int 0, .ref alg, .ref alt])), (bi, .inr (3, [.int (nI nc), .int 0, .ref lg, .ref lt]))] H := hP
  have hw := hw.symm
  subst hw
  refine lv_if_ne (tgt := 21) hx hb dX10_sound_4 (by decide) (fun c_2 => ?_) (fun c_2 => ?_)
  · exact absurd c_2 (by decide)
  refine lv_aload_n hx hb dX10_sound_7 rfl (lv_at hl 0 rfl) ?_
  have hPc := hP.sub (ws' := [(x, .inr (11, [.ref nr, .ref st, .ref lf, .int 2, .int (nI tm), .int (nI fcn), .int xl, .int 0])), (nr, .inl (cN, 8, .inr (.inr (.inr (.inr fn))))), (an, .inr (5, [.int ah, .int al, .int awa, .int afr, .int (nI awi), .ref ar, .ref ae, .ref as, .ref ai, .ref ag, .ref ac, .ref au, .int 0, .int 2, .int 10, .int (nI acc), .int 0, .int 0])), (bn, .inr (5, [.int bh, .int bl, .int bwa, .int bfr, .int (nI bwi), .ref br, .ref be, .ref bs, .ref bi, .ref bg, .ref bc, .ref bu, .int 0, .int 2, .int 200, .int (nI bcc), .int 0, .int 0]))]) [0, 1, 2, 3] rfl
  have hDc := hD.sub (ws' := [(x, .inr (11, [.ref nr, .ref st, .ref lf, .int 2, .int (nI tm), .int (nI fcn), .int xl, .int 0])), (nr, .inl (cN, 8, .inr (.inr (.inr (.inr fn))))), (an, .inr (5, [.int ah, .int al, .int awa, .int afr, .int (nI awi), .ref ar, .ref ae, .ref as, .ref ai, .ref ag, .ref ac, .ref au, .int 0, .int 2, .int 10, .int (nI acc), .int 0, .int 0])), (bn, .inr (5, [.int bh, .int bl, .int bwa, .int bfr, .int (nI bwi), .ref br, .ref be, .ref bs, .ref bi, .ref bg, .ref bc, .ref bu, .int 0, .int 2, .int 200, .int (nI bcc), .int 0, .int 0]))]) [0, 1, 2, 3] (by decide +kernel) rfl
  have hKc := hK.sub (tys' := [(cN, (.object RX4))]) [0] rfl
  have hFc := ro_free hS hA
  refine va_calli (va_runV (As := []) (rest := []) ⟨hx, hb, hml, hown, hts⟩ (c_apart l dC dI (x) (nr) (st) (lf) (tm) (fcn) (xl) (cN) (fn) (an) (ah) (al) (awa) (afr) (awi) (ar) (ae) (as) (ai) (ag) (ac) (au) (acc) (bn) (bh) (bl) (bwa) (bfr) (bwi) (br) (be) (bs) (bi) (bg) (bc) (bu) (bcc) H.size n0 n1) (cwV 0 hts g_c_sound_c_apart_183 rfl rfl rfl (by decide +kernel) ⟨Nat.le_of_ble_eq_true rfl, Nat.le_of_ble_eq_true rfl⟩) ⟨fun a U g mk q => by obtain ⟨q0, q1, qP, qK, qD, qE⟩ := q; exact ⟨q0, q1, qP, va_K.moved (u := U) (U := U.calling g mk a) (Vm.Alike.refl U.vm) qK, qD, ev.same (u := U) (U := U.calling g mk a) rfl qE⟩, va_recv hKc hPc (ci := 11) (q0 := 0) rfl rfl, fun U hU hW => ⟨rfl, by rw [hU], by rw [hU]; exact hPc, va_K.moved hW.alike hKc, hDc.weaken (fun _ _ _ _ => trivial), hE.warm hW⟩⟩ rfl rfl hl.1 rfl (lv_room (Nat.le_of_ble_eq_true rfl)) dX10_sound_8 ⟨Nat.le_of_ble_eq_true rfl, Nat.le_of_ble_eq_true rfl⟩) hS (fun q _ h => hFc q h) hFc (fun r_3 u t H1 locs ht hvm hw hB hz1 hk1 hS => ?_)
  clear hPc hDc hKc
  replace hP := ro_keep hP hk1
  generalize H1 = H at hP hS ⊢
  replace hP : va_P (dC, dI) vwCl [(x, .inr (11, [.ref nr, .ref st, .ref lf, .int 2, .int (nI tm), .int (nI fcn), .int xl, .int 0])), (nr, .inl (cN, 8, .inr (.inr (.inr (.inr fn))))), (an, .inr (5, [.int ah, .int al, .int awa, .int afr, .int (nI awi), .ref ar, .ref ae, .ref as, .ref ai, .ref ag, .ref ac, .ref au, .int 0, .int 2, .int 10, .int (nI acc), .int 0, .int 0])), (bn, .inr (5, [.int bh, .int bl, .int bwa, .int bfr, .int (nI bwi), .ref br, .ref be, .ref bs, .ref bi, .ref bg, .ref bc, .ref bu, .int 0, .int 2, .int 200, .int (nI bcc), .int 0, .int 0])), (ai, .inr (3, [.int ana, .int 0, .ref alg, .ref alt])), (bi, .inr (3, [.int (nI nc), .int 0, .ref lg, .ref lt]))] H := hP
  have hw := hw.symm
  subst hw
  refine lv_if_eq (tgt := 25) hx hb dX10_sound_11 (by decide) (fun c_4 => ?_) (fun c_4 => ?_)
  · exact absurd c_4 (by decide)
  refine lv_aload_n hx hb dX10_sound_14 rfl (lv_at hl 0 rfl) ?_
  have hPc := hP.sub (ws' := [(x, .inr (11, [.ref nr, .ref st, .ref lf, .int 2, .int (nI tm), .int (nI fcn), .int xl, .int 0])), (nr, .inl (cN, 8, .inr (.inr (.inr (.inr fn))))), (an, .inr (5, [.int ah, .int al, .int awa, .int afr, .int (nI awi), .ref ar, .ref ae, .ref as, .ref ai, .ref ag, .ref ac, .ref au, .int 0, .int 2, .int 10, .int (nI acc), .int 0, .int 0])), (bn, .inr (5, [.int bh, .int bl, .int bwa, .int bfr, .int (nI bwi), .ref br, .ref be, .ref bs, .ref bi, .ref bg, .ref bc, .ref bu, .int 0, .int 2, .int 200, .int (nI bcc), .int 0, .int 0])), (ai, .inr (3, [.int ana, .int 0, .ref alg, .ref alt])), (bi, .inr (3, [.int (nI nc), .int 0, .ref lg, .ref lt]))]) [0, 1, 2, 3, 4, 5] rfl
  have hDc := hD.sub (ws' := [(x, .inr (11, [.ref nr, .ref st, .ref lf, .int 2, .int (nI tm), .int (nI fcn), .int xl, .int 0])), (nr, .inl (cN, 8, .inr (.inr (.inr (.inr fn))))), (an, .inr (5, [.int ah, .int al, .int awa, .int afr, .int (nI awi), .ref ar, .ref ae, .ref as, .ref ai, .ref ag, .ref ac, .ref au, .int 0, .int 2, .int 10, .int (nI acc), .int 0, .int 0])), (bn, .inr (5, [.int bh, .int bl, .int bwa, .int bfr, .int (nI bwi), .ref br, .ref be, .ref bs, .ref bi, .ref bg, .ref bc, .ref bu, .int 0, .int 2, .int 200, .int (nI bcc), .int 0, .int 0])), (ai, .inr (3, [.int ana, .int 0, .ref alg, .ref alt])), (bi, .inr (3, [.int (nI nc), .int 0, .ref lg, .ref lt]))]) [0, 1, 2, 3, 4, 5] (by decide +kernel) rfl
  have hKc := hK.sub (tys' := [(cN, (.object RX4))]) [0] rfl
  have hFc := ro_free hS hA
  refine va_calli (va_runV (As := []) (rest := []) ⟨hx, hb, hml, hown, hts⟩ (c_true l dC dI (x) (nr) (st) (lf) (tm) (fcn) (xl) (cN) (fn) (an) (ah) (al) (awa) (afr) (awi) (ar) (ae) (as) (ai) (ag) (ac) (au) (acc) (bn) (bh) (bl) (bwa) (bfr) (bwi) (br) (be) (bs) (bi) (bg) (bc) (bu) (bcc) (nc) (lg) (lt) (ana) (alg) (alt) H.size n0 n1) (cwV 0 hts g_c_sound_c_true_186 rfl rfl rfl (by decide +kernel) ⟨Nat.le_of_ble_eq_true rfl, Nat.le_of_ble_eq_true rfl⟩) ⟨fun a U g mk q => by obtain ⟨q0, q1, qP, qK, qD, qE⟩ := q; exact ⟨q0, q1, qP, va_K.moved (u := U) (U := U.calling g mk a) (Vm.Alike.refl U.vm) qK, qD, ev.same (u := U) (U := U.calling g mk a) rfl qE⟩, va_recv hKc hPc (ci := 11) (q0 := 0) rfl rfl, fun U hU hW => ⟨rfl, by rw [hU], by rw [hU]; exact hPc, va_K.moved hW.alike hKc, hDc.weaken (fun _ _ _ _ => trivial), hE.warm hW⟩⟩ rfl rfl hl.1 rfl (lv_room (Nat.le_of_ble_eq_true rfl)) dX10_sound_15 ⟨Nat.le_of_ble_eq_true rfl, Nat.le_of_ble_eq_true rfl⟩) hS (fun q _ h => hFc q h) hFc (fun r_5 u t H1 locs ht hvm hw hB hz1 hk1 hS => ?_)
  clear hPc hDc hKc
  replace hP := ro_keep hP hk1
  generalize H1 = H at hP hS ⊢
  replace hP : va_P (dC, dI) vwCl [(x, .inr (11, [.ref nr, .ref st, .ref lf, .int 2, .int (nI tm), .int (nI fcn), .int xl, .int 0])), (nr, .inl (cN, 8, .inr (.inr (.inr (.inr fn))))), (an, .inr (5, [.int ah, .int al, .int awa, .int afr, .int (nI awi), .ref ar, .ref ae, .ref as, .ref ai, .ref ag, .ref ac, .ref au, .int 0, .int 2, .int 10, .int (nI acc), .int 0, .int 0])), (bn, .inr (5, [.int bh, .int bl, .int bwa, .int bfr, .int (nI bwi), .ref br, .ref be, .ref bs, .ref bi, .ref bg, .ref bc, .ref bu, .int 0, .int 2, .int 200, .int (nI bcc), .int 0, .int 0])), (ai, .inr (3, [.int ana, .int 0, .ref alg, .ref alt])), (bi, .inr (3, [.int (nI nc), .int 0, .ref lg, .ref lt]))] H := hP
  have hw := hw.symm
  subst hw
  refine lv_if_eq (tgt := 25) hx hb dX10_sound_18 (by decide) (fun c_6 => ?_) (fun c_6 => ?_)
  · exact absurd c_6 (by decide)
  refine lv_iconst (v := 1) hx hb dX10_sound_21 (by decide) ?_
  refine lv_goto (tgt := 26) hx hb dX10_sound_22 (by decide) ?_
  exact W.zret (v := 1) hx hb hr (by decide) (fun t ht hW => ⟨⟨1, (), rfl, rfl, trivial⟩, hS.F ht⟩) hS.2.2 dX10_sound_26
