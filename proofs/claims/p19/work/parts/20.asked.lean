noncomputable def tl_c_told_00 : List Cond := wsX40 ++ (v_c_find_0)
noncomputable def v_c_told_00 : List Cond := .code yX10_told cX10_told 4 (some .int) :: ([.initialized RX10, .methodLink RX10 53 yX10_find, .instanceMethod yX10_find, .selects RX10 yX10_find yX10_find, .fieldLink RX10 57 "ClaimBus$Node" "state" "I"] ++ tl_c_told_00)
theorem it_c_told_00 : ∀ w ∈ tl_c_told_00, w ∈ v_c_told_00 := fun w h => List.mem_cons_of_mem _ (List.mem_append_right _ h)
theorem in_c_told_00_X4 : ∀ w ∈ wsX40, w ∈ v_c_told_00 := fun w h => it_c_told_00 w (List.mem_append_left _ h)
theorem ic_c_told_00_c_find_0 : ∀ w ∈ v_c_find_0, w ∈ v_c_told_00 := fun w h => it_c_told_00 w (List.mem_append_right _ (h))
theorem gt_c_told_00 : ∀ w ∈ tl_c_told_00, goodWord w = true := List.forall_mem_append.mpr ⟨gw_wsX40, gw_c_find_0⟩
theorem gw_c_told_00 : ∀ w ∈ v_c_told_00, goodWord w = true := List.forall_mem_cons.mpr ⟨by decide +kernel, List.forall_mem_append.mpr ⟨List.all_eq_true.mp (by decide +kernel), gt_c_told_00⟩⟩
theorem g_c_told_00_c_find_0_53 : GoodIn v_c_told_00 (wsV RX10 53 RX10 yX10_find v_c_find_0) := goodIn_app (goodIn_r [.methodLink RX10 53 yX10_find, .instanceMethod yX10_find, .selects RX10 yX10_find yX10_find, .initialized RX10] [2, 3, 4, 1] (by decide +kernel) (by decide +kernel)) (fun w h => ⟨ic_c_told_00_c_find_0 w h, good_of_word (gw_c_find_0 w h)⟩)
set_option maxHeartbeats 4000000 in
set_option maxRecDepth 100000 in
theorem c_told_00 (l : Launch) (dC : Nat → ClassId) (dI : Nat → Nat → Nat) (x : Nat) (nr : Nat) (st : Nat) (lf : Nat) (tm : Nat) (fcn : Nat) (xl : Int32) (cN : ClassId) (fn : Nat → Option Nat) (an : Nat) (ah : Int32) (al : Int32) (awa : Int32) (afr : Int32) (awi : Nat) (ar : Nat) (ae : Nat) (as : Nat) (ai : Nat) (ag : Nat) (ac : Nat) (au : Nat) (acc : Nat) (bn : Nat) (sz : Nat) (n0 : fn 0 = some an) (n1 : fn 1 = some bn) : Met l yX10_told v_c_told_00 ({ frames := 1, cells := 0, slots := 0, locals := 21 }) (va_Pc [.ref x, .int 0, .int 0] (fun U => U.heap.size = sz ∧ va_P (dC, dI) vwCl [(x, .inr (11, [.ref nr, .ref st, .ref lf, .int 2, .int (nI tm), .int (nI fcn), .int xl, .int 0])), (nr, .inl (cN, 8, .inr (.inr (.inr (.inr fn))))), (an, .inr (5, [.int ah, .int al, .int awa, .int afr, .int (nI awi), .ref ar, .ref ae, .ref as, .ref ai, .ref ag, .ref ac, .ref au, .int 0, .int 2, .int 10, .int (nI acc), .int 0, .int 0]))] U.heap ∧ va_K (dC, dI) vwCl [(cN, (.object RX4))] U ∧ va_D (fun _ => True) [(x, .inr (11, [.ref nr, .ref st, .ref lf, .int 2, .int (nI tm), .int (nI fcn), .int xl, .int 0])), (nr, .inl (cN, 8, .inr (.inr (.inr (.inr fn))))), (an, .inr (5, [.int ah, .int al, .int awa, .int afr, .int (nI awi), .ref ar, .ref ae, .ref as, .ref ai, .ref ag, .ref ac, .ref au, .int 0, .int 2, .int 10, .int (nI acc), .int 0, .int 0]))] ∧ ev U)) (va_Qi (fun (r : Int32) (_ : Unit) => r = 2) (fun (_ : Unit) (_ : State) => True) (va_A [] sz)) 0 0 (va_A [] sz) := by
  refine Met.ofW (cc := cX10_told) (maxL := 4) (ret := (some .int)) (by decide) rfl ?_
  intro p e s m args below meth c s₁ B hml hv
  obtain ⟨rfl, hsz, hP, hK, hD0, hE⟩ := hv
  have hx := B.exec
  have hb := B.bytes
  have hr := B.returns
  have hts := atoms_spec (ws := v_c_told_00) B.pre
  have hown : s.vm.findClass RX10 = some m.cls := findClass_of_methodNamed B.named
  have hlocks := B.notSynchronized
  subst hsz
  have hD := hD0
  generalize hAe : va_A [] s.heap.size = A
  have hA : ∀ q : Nat, s.heap.size ≤ q → A q := fun q h => by rw [← hAe]; exact Or.inr h
  have hS : va_S A s.heap s.heap [] := va_S.rf
  replace hP : va_P (dC, dI) vwCl [(x, .inr (11, [.ref nr, .ref st, .ref lf, .int 2, .int (nI tm), .int (nI fcn), .int xl, .int 0])), (nr, .inl (cN, 8, .inr (.inr (.inr (.inr fn))))), (an, .inr (5, [.int ah, .int al, .int awa, .int afr, .int (nI awi), .ref ar, .ref ae, .ref as, .ref ai, .ref ag, .ref ac, .ref au, .int 0, .int 2, .int 10, .int (nI acc), .int 0, .int 0]))] s.heap := hP
  have hl := lv_entry ([.ref x, .int 0, .int 0]) (n := 4) (Nat.le_of_ble_eq_true rfl)
  rw [lg_entry_eq]
  generalize (lg_sl ([.ref x, .int 0, .int 0]) ++ List.replicate (4 - (lg_sl ([.ref x, .int 0, .int 0])).length) Slot.unset).toArray = ls at hl ⊢
  replace hl : lv_has ls 4 [(0, .ref x), (1, .int 0), (2, .int 0)] := hl
  obtain ⟨H, hH⟩ : ∃ z : Heap, z = s.heap := ⟨_, rfl⟩
  rw [← hH]
  replace hS : va_S A s.heap H [] := by rw [hH]; exact va_S.rf
  replace hP : va_P (dC, dI) vwCl [(x, .inr (11, [.ref nr, .ref st, .ref lf, .int 2, .int (nI tm), .int (nI fcn), .int xl, .int 0])), (nr, .inl (cN, 8, .inr (.inr (.inr (.inr fn))))), (an, .inr (5, [.int ah, .int al, .int awa, .int afr, .int (nI awi), .ref ar, .ref ae, .ref as, .ref ai, .ref ag, .ref ac, .ref au, .int 0, .int 2, .int 10, .int (nI acc), .int 0, .int 0]))] H := by rw [hH]; exact hP
  clear hH
  refine lv_aload_n hx hb dX10_told_0 rfl (lv_at hl 0 rfl) ?_
  refine lv_iload_n hx hb dX10_told_1 rfl (lv_at hl 1 rfl) ?_
  have hPc := hP.sub (ws' := [(x, .inr (11, [.ref nr, .ref st, .ref lf, .int 2, .int (nI tm), .int (nI fcn), .int xl, .int 0])), (nr, .inl (cN, 8, .inr (.inr (.inr (.inr fn)))))]) [0, 1] rfl
  have hDc := hD.sub (ws' := [(x, .inr (11, [.ref nr, .ref st, .ref lf, .int 2, .int (nI tm), .int (nI fcn), .int xl, .int 0])), (nr, .inl (cN, 8, .inr (.inr (.inr (.inr fn)))))]) [0, 1] (by decide +kernel) rfl
  have hKc := hK.sub (tys' := [(cN, (.object RX4))]) [0] rfl
  have hFc := ro_free hS hA
  refine va_callq (va_runV (As := [.int 0]) (rest := []) ⟨hx, hb, hml, hown, hts⟩ (c_find_0 l dC dI (x) (nr) (st) (lf) (tm) (fcn) (xl) (cN) (fn) (an) H.size n0) (cwV 1 hts g_c_told_00_c_find_0_53 rfl rfl rfl (by decide +kernel) ⟨Nat.le_of_ble_eq_true rfl, Nat.le_of_ble_eq_true rfl⟩) ⟨fun a U g mk q => by obtain ⟨q0, q1, qP, qK, qD, qE⟩ := q; exact ⟨q0, q1, qP, va_K.moved (u := U) (U := U.calling g mk a) (Vm.Alike.refl U.vm) qK, qD, ev.same (u := U) (U := U.calling g mk a) rfl qE⟩, va_recv hKc hPc (ci := 11) (q0 := 0) rfl rfl, fun U hU hW => ⟨rfl, by rw [hU], by rw [hU]; exact hPc, va_K.moved hW.alike hKc, hDc.weaken (fun _ _ _ _ => trivial), hE.warm hW⟩⟩ rfl rfl hl.1 rfl (lv_room (Nat.le_of_ble_eq_true rfl)) dX10_told_2 ⟨Nat.le_of_ble_eq_true rfl, Nat.le_of_ble_eq_true rfl⟩) hS (fun q _ h => hFc q h) hFc (fun r_1 u t H1 locs ht hvm hw hB hz1 hk1 hS => ?_)
  clear hPc hDc hKc
  replace hP := ro_keep hP hk1
  generalize H1 = H at hP hS ⊢
  replace hP : va_P (dC, dI) vwCl [(x, .inr (11, [.ref nr, .ref st, .ref lf, .int 2, .int (nI tm), .int (nI fcn), .int xl, .int 0])), (nr, .inl (cN, 8, .inr (.inr (.inr (.inr fn))))), (an, .inr (5, [.int ah, .int al, .int awa, .int afr, .int (nI awi), .ref ar, .ref ae, .ref as, .ref ai, .ref ag, .ref ac, .ref au, .int 0, .int 2, .int 10, .int (nI acc), .int 0, .int 0]))] H := hP
  have hw := hw.symm
  subst hw
  refine W.eq (g2 := F0 m 5 ls [.ref an]) rfl ?_
  refine lv_astore_n (lv' := [(3, .ref an), (0, .ref x), (1, .int 0), (2, .int 0)]) hx hb dX10_told_5 rfl hl (by decide) rfl (fun ls hl => ?_)
  refine lv_aload_n hx hb dX10_told_6 rfl (lv_at hl 0 rfl) ?_
  refine lv_ifnonnull (tgt := 12) hx hb dX10_told_7 (by decide) ?_
  refine lv_iload_n hx hb dX10_told_12 rfl (lv_at hl 3 rfl) ?_
  refine lv_tableIn (tgt := 56) hx hb dX10_told_13 (by decide) (by decide) rfl (by decide) ?_
  refine lv_aload_n hx hb dX10_told_56 rfl (lv_at hl 0 rfl) ?_
  refine va_get (D := (dC, dI)) (ci := 5) (v := .int 2) (C := RX4) (T := TX4) (N := 18) hx hb hts in_c_told_00_X4 hown hK hP 2 rfl rfl 13 (by decide) (hts (.fieldLink RX10 57 "ClaimBus$Node" "state" "I") (List.mem_of_getElem? (i := 5) rfl)) (fun _ h9 => h9) rfl dX10_told_57 ?_
  exact W.iret (v := 2) hx hb hr (fun t ht hW => ⟨⟨2, (), rfl, rfl, trivial⟩, hS.F ht⟩) hS.2.2 dX10_told_60

noncomputable def tl_c_told_10_1 : List Cond := wsX40 ++ (v_c_find_1)
noncomputable def v_c_told_10_1 : List Cond := .code yX10_told cX10_told 4 (some .int) :: ([.initialized RX10, .methodLink RX10 53 yX10_find, .instanceMethod yX10_find, .selects RX10 yX10_find yX10_find, .fieldLink RX10 57 "ClaimBus$Node" "state" "I"] ++ tl_c_told_10_1)
theorem it_c_told_10_1 : ∀ w ∈ tl_c_told_10_1, w ∈ v_c_told_10_1 := fun w h => List.mem_cons_of_mem _ (List.mem_append_right _ h)
theorem in_c_told_10_1_X4 : ∀ w ∈ wsX40, w ∈ v_c_told_10_1 := fun w h => it_c_told_10_1 w (List.mem_append_left _ h)
theorem ic_c_told_10_1_c_find_1 : ∀ w ∈ v_c_find_1, w ∈ v_c_told_10_1 := fun w h => it_c_told_10_1 w (List.mem_append_right _ (h))
theorem gt_c_told_10_1 : ∀ w ∈ tl_c_told_10_1, goodWord w = true := List.forall_mem_append.mpr ⟨gw_wsX40, gw_c_find_1⟩
theorem gw_c_told_10_1 : ∀ w ∈ v_c_told_10_1, goodWord w = true := List.forall_mem_cons.mpr ⟨by decide +kernel, List.forall_mem_append.mpr ⟨List.all_eq_true.mp (by decide +kernel), gt_c_told_10_1⟩⟩
theorem g_c_told_10_1_c_find_1_53 : GoodIn v_c_told_10_1 (wsV RX10 53 RX10 yX10_find v_c_find_1) := goodIn_app (goodIn_r [.methodLink RX10 53 yX10_find, .instanceMethod yX10_find, .selects RX10 yX10_find yX10_find, .initialized RX10] [2, 3, 4, 1] (by decide +kernel) (by decide +kernel)) (fun w h => ⟨ic_c_told_10_1_c_find_1 w h, good_of_word (gw_c_find_1 w h)⟩)
set_option maxHeartbeats 4000000 in
set_option maxRecDepth 100000 in
theorem c_told_10_1 (l : Launch) (dC : Nat → ClassId) (dI : Nat → Nat → Nat) (x : Nat) (nr : Nat) (st : Nat) (lf : Nat) (tm : Nat) (fcn : Nat) (xl : Int32) (cN : ClassId) (fn : Nat → Option Nat) (an : Nat) (bn : Nat) (bh : Int32) (bl : Int32) (bwa : Int32) (bfr : Int32) (bwi : Nat) (br : Nat) (be : Nat) (bs : Nat) (bi : Nat) (bg : Nat) (bc : Nat) (bu : Nat) (bcc : Int32) (sz : Nat) (n0 : fn 0 = some an) (n1 : fn 1 = some bn) : Met l yX10_told v_c_told_10_1 ({ frames := 1, cells := 0, slots := 0, locals := 21 }) (va_Pc [.ref x, .int 1, .int 0] (fun U => U.heap.size = sz ∧ va_P (dC, dI) vwCl [(x, .inr (11, [.ref nr, .ref st, .ref lf, .int 2, .int (nI tm), .int (nI fcn), .int xl, .int 0])), (nr, .inl (cN, 8, .inr (.inr (.inr (.inr fn))))), (bn, .inr (5, [.int bh, .int bl, .int bwa, .int bfr, .int (nI bwi), .ref br, .ref be, .ref bs, .ref bi, .ref bg, .ref bc, .ref bu, .int 0, .int 1, .int 200, .int bcc, .int 0, .int 0]))] U.heap ∧ va_K (dC, dI) vwCl [(cN, (.object RX4))] U ∧ va_D (fun _ => True) [(x, .inr (11, [.ref nr, .ref st, .ref lf, .int 2, .int (nI tm), .int (nI fcn), .int xl, .int 0])), (nr, .inl (cN, 8, .inr (.inr (.inr (.inr fn))))), (bn, .inr (5, [.int bh, .int bl, .int bwa, .int bfr, .int (nI bwi), .ref br, .ref be, .ref bs, .ref bi, .ref bg, .ref bc, .ref bu, .int 0, .int 1, .int 200, .int bcc, .int 0, .int 0]))] ∧ ev U)) (va_Qi (fun (r : Int32) (_ : Unit) => r = 1) (fun (_ : Unit) (_ : State) => True) (va_A [] sz)) 0 0 (va_A [] sz) := by
  refine Met.ofW (cc := cX10_told) (maxL := 4) (ret := (some .int)) (by decide) rfl ?_
  intro p e s m args below meth c s₁ B hml hv
  obtain ⟨rfl, hsz, hP, hK, hD0, hE⟩ := hv
  have hx := B.exec
  have hb := B.bytes
  have hr := B.returns
  have hts := atoms_spec (ws := v_c_told_10_1) B.pre
  have hown : s.vm.findClass RX10 = some m.cls := findClass_of_methodNamed B.named
  have hlocks := B.notSynchronized
  subst hsz
  have hD := hD0
  generalize hAe : va_A [] s.heap.size = A
  have hA : ∀ q : Nat, s.heap.size ≤ q → A q := fun q h => by rw [← hAe]; exact Or.inr h
  have hS : va_S A s.heap s.heap [] := va_S.rf
  replace hP : va_P (dC, dI) vwCl [(x, .inr (11, [.ref nr, .ref st, .ref lf, .int 2, .int (nI tm), .int (nI fcn), .int xl, .int 0])), (nr, .inl (cN, 8, .inr (.inr (.inr (.inr fn))))), (bn, .inr (5, [.int bh, .int bl, .int bwa, .int bfr, .int (nI bwi), .ref br, .ref be, .ref bs, .ref bi, .ref bg, .ref bc, .ref bu, .int 0, .int 1, .int 200, .int bcc, .int 0, .int 0]))] s.heap := hP
  have hl := lv_entry ([.ref x, .int 1, .int 0]) (n := 4) (Nat.le_of_ble_eq_true rfl)
  rw [lg_entry_eq]
  generalize (lg_sl ([.ref x, .int 1, .int 0]) ++ List.replicate (4 - (lg_sl ([.ref x, .int 1, .int 0])).length) Slot.unset).toArray = ls at hl ⊢
  replace hl : lv_has ls 4 [(0, .ref x), (1, .int 1), (2, .int 0)] := hl
  obtain ⟨H, hH⟩ : ∃ z : Heap, z = s.heap := ⟨_, rfl⟩
  rw [← hH]
  replace hS : va_S A s.heap H [] := by rw [hH]; exact va_S.rf
  replace hP : va_P (dC, dI) vwCl [(x, .inr (11, [.ref nr, .ref st, .ref lf, .int 2, .int (nI tm), .int (nI fcn), .int xl, .int 0])), (nr, .inl (cN, 8, .inr (.inr (.inr (.inr fn))))), (bn, .inr (5, [.int bh, .int bl, .int bwa, .int bfr, .int (nI bwi), .ref br, .ref be, .ref bs, .ref bi, .ref bg, .ref bc, .ref bu, .int 0, .int 1, .int 200, .int bcc, .int 0, .int 0]))] H := by rw [hH]; exact hP
  clear hH
  refine lv_aload_n hx hb dX10_told_0 rfl (lv_at hl 0 rfl) ?_
  refine lv_iload_n hx hb dX10_told_1 rfl (lv_at hl 1 rfl) ?_
  have hPc := hP.sub (ws' := [(x, .inr (11, [.ref nr, .ref st, .ref lf, .int 2, .int (nI tm), .int (nI fcn), .int xl, .int 0])), (nr, .inl (cN, 8, .inr (.inr (.inr (.inr fn)))))]) [0, 1] rfl
  have hDc := hD.sub (ws' := [(x, .inr (11, [.ref nr, .ref st, .ref lf, .int 2, .int (nI tm), .int (nI fcn), .int xl, .int 0])), (nr, .inl (cN, 8, .inr (.inr (.inr (.inr fn)))))]) [0, 1] (by decide +kernel) rfl
  have hKc := hK.sub (tys' := [(cN, (.object RX4))]) [0] rfl
  have hFc := ro_free hS hA
  refine va_callq (va_runV (As := [.int 1]) (rest := []) ⟨hx, hb, hml, hown, hts⟩ (c_find_1 l dC dI (x) (nr) (st) (lf) (tm) (fcn) (xl) (cN) (fn) (bn) H.size n1) (cwV 1 hts g_c_told_10_1_c_find_1_53 rfl rfl rfl (by decide +kernel) ⟨Nat.le_of_ble_eq_true rfl, Nat.le_of_ble_eq_true rfl⟩) ⟨fun a U g mk q => by obtain ⟨q0, q1, qP, qK, qD, qE⟩ := q; exact ⟨q0, q1, qP, va_K.moved (u := U) (U := U.calling g mk a) (Vm.Alike.refl U.vm) qK, qD, ev.same (u := U) (U := U.calling g mk a) rfl qE⟩, va_recv hKc hPc (ci := 11) (q0 := 0) rfl rfl, fun U hU hW => ⟨rfl, by rw [hU], by rw [hU]; exact hPc, va_K.moved hW.alike hKc, hDc.weaken (fun _ _ _ _ => trivial), hE.warm hW⟩⟩ rfl rfl hl.1 rfl (lv_room (Nat.le_of_ble_eq_true rfl)) dX10_told_2 ⟨Nat.le_of_ble_eq_true rfl, Nat.le_of_ble_eq_true rfl⟩) hS (fun q _ h => hFc q h) hFc (fun r_1 u t H1 locs ht hvm hw hB hz1 hk1 hS => ?_)
  clear hPc hDc hKc
  replace hP := ro_keep hP hk1
  generalize H1 = H at hP hS ⊢
  replace hP : va_P (dC, dI) vwCl [(x, .inr (11, [.ref nr, .ref st, .ref lf, .int 2, .int (nI tm), .int (nI fcn), .int xl, .int 0])), (nr, .inl (cN, 8, .inr (.inr (.inr (.inr fn))))), (bn, .inr (5, [.int bh, .int bl, .int bwa, .int bfr, .int (nI bwi), .ref br, .ref be, .ref bs, .ref bi, .ref bg, .ref bc, .ref bu, .int 0, .int 1, .int 200, .int bcc, .int 0, .int 0]))] H := hP
  have hw := hw.symm
  subst hw
  refine W.eq (g2 := F0 m 5 ls [.ref bn]) rfl ?_
  refine lv_astore_n (lv' := [(3, .ref bn), (0, .ref x), (1, .int 1), (2, .int 0)]) hx hb dX10_told_5 rfl hl (by decide) rfl (fun ls hl => ?_)
  refine lv_aload_n hx hb dX10_told_6 rfl (lv_at hl 0 rfl) ?_
  refine lv_ifnonnull (tgt := 12) hx hb dX10_told_7 (by decide) ?_
  refine lv_iload_n hx hb dX10_told_12 rfl (lv_at hl 3 rfl) ?_
  refine lv_tableIn (tgt := 56) hx hb dX10_told_13 (by decide) (by decide) rfl (by decide) ?_
  refine lv_aload_n hx hb dX10_told_56 rfl (lv_at hl 0 rfl) ?_
  refine va_get (D := (dC, dI)) (ci := 5) (v := .int 1) (C := RX4) (T := TX4) (N := 18) hx hb hts in_c_told_10_1_X4 hown hK hP 2 rfl rfl 13 (by decide) (hts (.fieldLink RX10 57 "ClaimBus$Node" "state" "I") (List.mem_of_getElem? (i := 5) rfl)) (fun _ h9 => h9) rfl dX10_told_57 ?_
  exact W.iret (v := 1) hx hb hr (fun t ht hW => ⟨⟨1, (), rfl, rfl, trivial⟩, hS.F ht⟩) hS.2.2 dX10_told_60

noncomputable def tl_c_told_10_2 : List Cond := wsX40 ++ (v_c_find_1)
noncomputable def v_c_told_10_2 : List Cond := .code yX10_told cX10_told 4 (some .int) :: ([.initialized RX10, .methodLink RX10 53 yX10_find, .instanceMethod yX10_find, .selects RX10 yX10_find yX10_find, .fieldLink RX10 57 "ClaimBus$Node" "state" "I"] ++ tl_c_told_10_2)
theorem it_c_told_10_2 : ∀ w ∈ tl_c_told_10_2, w ∈ v_c_told_10_2 := fun w h => List.mem_cons_of_mem _ (List.mem_append_right _ h)
theorem in_c_told_10_2_X4 : ∀ w ∈ wsX40, w ∈ v_c_told_10_2 := fun w h => it_c_told_10_2 w (List.mem_append_left _ h)
theorem ic_c_told_10_2_c_find_1 : ∀ w ∈ v_c_find_1, w ∈ v_c_told_10_2 := fun w h => it_c_told_10_2 w (List.mem_append_right _ (h))
theorem gt_c_told_10_2 : ∀ w ∈ tl_c_told_10_2, goodWord w = true := List.forall_mem_append.mpr ⟨gw_wsX40, gw_c_find_1⟩
theorem gw_c_told_10_2 : ∀ w ∈ v_c_told_10_2, goodWord w = true := List.forall_mem_cons.mpr ⟨by decide +kernel, List.forall_mem_append.mpr ⟨List.all_eq_true.mp (by decide +kernel), gt_c_told_10_2⟩⟩
theorem g_c_told_10_2_c_find_1_53 : GoodIn v_c_told_10_2 (wsV RX10 53 RX10 yX10_find v_c_find_1) := goodIn_app (goodIn_r [.methodLink RX10 53 yX10_find, .instanceMethod yX10_find, .selects RX10 yX10_find yX10_find, .initialized RX10] [2, 3, 4, 1] (by decide +kernel) (by decide +kernel)) (fun w h => ⟨ic_c_told_10_2_c_find_1 w h, good_of_word (gw_c_find_1 w h)⟩)
set_option maxHeartbeats 4000000 in
set_option maxRecDepth 100000 in
theorem c_told_10_2 (l : Launch) (dC : Nat → ClassId) (dI : Nat → Nat → Nat) (x : Nat) (nr : Nat) (st : Nat) (lf : Nat) (tm : Nat) (fcn : Nat) (xl : Int32) (cN : ClassId) (fn : Nat → Option Nat) (an : Nat) (bn : Nat) (bh : Int32) (bl : Int32) (bwa : Int32) (bfr : Int32) (bwi : Nat) (br : Nat) (be : Nat) (bs : Nat) (bi : Nat) (bg : Nat) (bc : Nat) (bu : Nat) (bcc : Int32) (sz : Nat) (n0 : fn 0 = some an) (n1 : fn 1 = some bn) : Met l yX10_told v_c_told_10_2 ({ frames := 1, cells := 0, slots := 0, locals := 21 }) (va_Pc [.ref x, .int 1, .int 0] (fun U => U.heap.size = sz ∧ va_P (dC, dI) vwCl [(x, .inr (11, [.ref nr, .ref st, .ref lf, .int 2, .int (nI tm), .int (nI fcn), .int xl, .int 0])), (nr, .inl (cN, 8, .inr (.inr (.inr (.inr fn))))), (bn, .inr (5, [.int bh, .int bl, .int bwa, .int bfr, .int (nI bwi), .ref br, .ref be, .ref bs, .ref bi, .ref bg, .ref bc, .ref bu, .int 0, .int 2, .int 200, .int bcc, .int 0, .int 0]))] U.heap ∧ va_K (dC, dI) vwCl [(cN, (.object RX4))] U ∧ va_D (fun _ => True) [(x, .inr (11, [.ref nr, .ref st, .ref lf, .int 2, .int (nI tm), .int (nI fcn), .int xl, .int 0])), (nr, .inl (cN, 8, .inr (.inr (.inr (.inr fn))))), (bn, .inr (5, [.int bh, .int bl, .int bwa, .int bfr, .int (nI bwi), .ref br, .ref be, .ref bs, .ref bi, .ref bg, .ref bc, .ref bu, .int 0, .int 2, .int 200, .int bcc, .int 0, .int 0]))] ∧ ev U)) (va_Qi (fun (r : Int32) (_ : Unit) => r = 2) (fun (_ : Unit) (_ : State) => True) (va_A [] sz)) 0 0 (va_A [] sz) := by
  refine Met.ofW (cc := cX10_told) (maxL := 4) (ret := (some .int)) (by decide) rfl ?_
  intro p e s m args below meth c s₁ B hml hv
  obtain ⟨rfl, hsz, hP, hK, hD0, hE⟩ := hv
  have hx := B.exec
  have hb := B.bytes
  have hr := B.returns
  have hts := atoms_spec (ws := v_c_told_10_2) B.pre
  have hown : s.vm.findClass RX10 = some m.cls := findClass_of_methodNamed B.named
  have hlocks := B.notSynchronized
  subst hsz
  have hD := hD0
  generalize hAe : va_A [] s.heap.size = A
  have hA : ∀ q : Nat, s.heap.size ≤ q → A q := fun q h => by rw [← hAe]; exact Or.inr h
  have hS : va_S A s.heap s.heap [] := va_S.rf
  replace hP : va_P (dC, dI) vwCl [(x, .inr (11, [.ref nr, .ref st, .ref lf, .int 2, .int (nI tm), .int (nI fcn), .int xl, .int 0])), (nr, .inl (cN, 8, .inr (.inr (.inr (.inr fn))))), (bn, .inr (5, [.int bh, .int bl, .int bwa, .int bfr, .int (nI bwi), .ref br, .ref be, .ref bs, .ref bi, .ref bg, .ref bc, .ref bu, .int 0, .int 2, .int 200, .int bcc, .int 0, .int 0]))] s.heap := hP
  have hl := lv_entry ([.ref x, .int 1, .int 0]) (n := 4) (Nat.le_of_ble_eq_true rfl)
  rw [lg_entry_eq]
  generalize (lg_sl ([.ref x, .int 1, .int 0]) ++ List.replicate (4 - (lg_sl ([.ref x, .int 1, .int 0])).length) Slot.unset).toArray = ls at hl ⊢
  replace hl : lv_has ls 4 [(0, .ref x), (1, .int 1), (2, .int 0)] := hl
  obtain ⟨H, hH⟩ : ∃ z : Heap, z = s.heap := ⟨_, rfl⟩
  rw [← hH]
  replace hS : va_S A s.heap H [] := by rw [hH]; exact va_S.rf
  replace hP : va_P (dC, dI) vwCl [(x, .inr (11, [.ref nr, .ref st, .ref lf, .int 2, .int (nI tm), .int (nI fcn), .int xl, .int 0])), (nr, .inl (cN, 8, .inr (.inr (.inr (.inr fn))))), (bn, .inr (5, [.int bh, .int bl, .int bwa, .int bfr, .int (nI bwi), .ref br, .ref be, .ref bs, .ref bi, .ref bg, .ref bc, .ref bu, .int 0, .int 2, .int 200, .int bcc, .int 0, .int 0]))] H := by rw [hH]; exact hP
  clear hH
  refine lv_aload_n hx hb dX10_told_0 rfl (lv_at hl 0 rfl) ?_
  refine lv_iload_n hx hb dX10_told_1 rfl (lv_at hl 1 rfl) ?_
  have hPc := hP.sub (ws' := [(x, .inr (11, [.ref nr, .ref st, .ref lf, .int 2, .int (nI tm), .int (nI fcn), .int xl, .int 0])), (nr, .inl (cN, 8, .inr (.inr (.inr (.inr fn)))))]) [0, 1] rfl
  have hDc := hD.sub (ws' := [(x, .inr (11, [.ref nr, .ref st, .ref lf, .int 2, .int (nI tm), .int (nI fcn), .int xl, .int 0])), (nr, .inl (cN, 8, .inr (.inr (.inr (.inr fn)))))]) [0, 1] (by decide +kernel) rfl
  have hKc := hK.sub (tys' := [(cN, (.object RX4))]) [0] rfl
  have hFc := ro_free hS hA
  refine va_callq (va_runV (As := [.int 1]) (rest := []) ⟨hx, hb, hml, hown, hts⟩ (c_find_1 l dC dI (x) (nr) (st) (lf) (tm) (fcn) (xl) (cN) (fn) (bn) H.size n1) (cwV 1 hts g_c_told_10_2_c_find_1_53 rfl rfl rfl (by decide +kernel) ⟨Nat.le_of_ble_eq_true rfl, Nat.le_of_ble_eq_true rfl⟩) ⟨fun a U g mk q => by obtain ⟨q0, q1, qP, qK, qD, qE⟩ := q; exact ⟨q0, q1, qP, va_K.moved (u := U) (U := U.calling g mk a) (Vm.Alike.refl U.vm) qK, qD, ev.same (u := U) (U := U.calling g mk a) rfl qE⟩, va_recv hKc hPc (ci := 11) (q0 := 0) rfl rfl, fun U hU hW => ⟨rfl, by rw [hU], by rw [hU]; exact hPc, va_K.moved hW.alike hKc, hDc.weaken (fun _ _ _ _ => trivial), hE.warm hW⟩⟩ rfl rfl hl.1 rfl (lv_room (Nat.le_of_ble_eq_true rfl)) dX10_told_2 ⟨Nat.le_of_ble_eq_true rfl, Nat.le_of_ble_eq_true rfl⟩) hS (fun q _ h => hFc q h) hFc (fun r_1 u t H1 locs ht hvm hw hB hz1 hk1 hS => ?_)
  clear hPc hDc hKc
  replace hP := ro_keep hP hk1
  generalize H1 = H at hP hS ⊢
  replace hP : va_P (dC, dI) vwCl [(x, .inr (11, [.ref nr, .ref st, .ref lf, .int 2, .int (nI tm), .int (nI fcn), .int xl, .int 0])), (nr, .inl (cN, 8, .inr (.inr (.inr (.inr fn))))), (bn, .inr (5, [.int bh, .int bl, .int bwa, .int bfr, .int (nI bwi), .ref br, .ref be, .ref bs, .ref bi, .ref bg, .ref bc, .ref bu, .int 0, .int 2, .int 200, .int bcc, .int 0, .int 0]))] H := hP
  have hw := hw.symm
  subst hw
  refine W.eq (g2 := F0 m 5 ls [.ref bn]) rfl ?_
  refine lv_astore_n (lv' := [(3, .ref bn), (0, .ref x), (1, .int 1), (2, .int 0)]) hx hb dX10_told_5 rfl hl (by decide) rfl (fun ls hl => ?_)
  refine lv_aload_n hx hb dX10_told_6 rfl (lv_at hl 0 rfl) ?_
  refine lv_ifnonnull (tgt := 12) hx hb dX10_told_7 (by decide) ?_
  refine lv_iload_n hx hb dX10_told_12 rfl (lv_at hl 3 rfl) ?_
  refine lv_tableIn (tgt := 56) hx hb dX10_told_13 (by decide) (by decide) rfl (by decide) ?_
  refine lv_aload_n hx hb dX10_told_56 rfl (lv_at hl 0 rfl) ?_
  refine va_get (D := (dC, dI)) (ci := 5) (v := .int 2) (C := RX4) (T := TX4) (N := 18) hx hb hts in_c_told_10_2_X4 hown hK hP 2 rfl rfl 13 (by decide) (hts (.fieldLink RX10 57 "ClaimBus$Node" "state" "I") (List.mem_of_getElem? (i := 5) rfl)) (fun _ h9 => h9) rfl dX10_told_57 ?_
  exact W.iret (v := 2) hx hb hr (fun t ht hW => ⟨⟨2, (), rfl, rfl, trivial⟩, hS.F ht⟩) hS.2.2 dX10_told_60

noncomputable def tl_c_told_03_1 : List Cond := wsX40 ++ (wsX60 ++ (v_c_find_0))
noncomputable def v_c_told_03_1 : List Cond := .code yX10_told cX10_told 4 (some .int) :: ([.initialized RX10, .methodLink RX10 53 yX10_find, .instanceMethod yX10_find, .selects RX10 yX10_find yX10_find, .fieldLink RX10 133 "ClaimBus$Node" "sending" "LClaimBus$Sending;", .fieldLink RX10 137 "ClaimBus$Sending" "state" "I"] ++ tl_c_told_03_1)
theorem it_c_told_03_1 : ∀ w ∈ tl_c_told_03_1, w ∈ v_c_told_03_1 := fun w h => List.mem_cons_of_mem _ (List.mem_append_right _ h)
theorem in_c_told_03_1_X4 : ∀ w ∈ wsX40, w ∈ v_c_told_03_1 := fun w h => it_c_told_03_1 w (List.mem_append_left _ h)
theorem in_c_told_03_1_X6 : ∀ w ∈ wsX60, w ∈ v_c_told_03_1 := fun w h => it_c_told_03_1 w (List.mem_append_right _ (List.mem_append_left _ h))
theorem ic_c_told_03_1_c_find_0 : ∀ w ∈ v_c_find_0, w ∈ v_c_told_03_1 := fun w h => it_c_told_03_1 w (List.mem_append_right _ (List.mem_append_right _ (h)))
theorem gt_c_told_03_1 : ∀ w ∈ tl_c_told_03_1, goodWord w = true := List.forall_mem_append.mpr ⟨gw_wsX40, List.forall_mem_append.mpr ⟨gw_wsX60, gw_c_find_0⟩⟩
theorem gw_c_told_03_1 : ∀ w ∈ v_c_told_03_1, goodWord w = true := List.forall_mem_cons.mpr ⟨by decide +kernel, List.forall_mem_append.mpr ⟨List.all_eq_true.mp (by decide +kernel), gt_c_told_03_1⟩⟩
theorem g_c_told_03_1_c_find_0_53 : GoodIn v_c_told_03_1 (wsV RX10 53 RX10 yX10_find v_c_find_0) := goodIn_app (goodIn_r [.methodLink RX10 53 yX10_find, .instanceMethod yX10_find, .selects RX10 yX10_find yX10_find, .initialized RX10] [2, 3, 4, 1] (by decide +kernel) (by decide +kernel)) (fun w h => ⟨ic_c_told_03_1_c_find_0 w h, good_of_word (gw_c_find_0 w h)⟩)
set_option maxHeartbeats 4000000 in
set_option maxRecDepth 100000 in
theorem c_told_03_1 (l : Launch) (dC : Nat → ClassId) (dI : Nat → Nat → Nat) (x : Nat) (nr : Nat) (st : Nat) (lf : Nat) (tm : Nat) (fcn : Nat) (xl : Int32) (cN : ClassId) (fn : Nat → Option Nat) (an : Nat) (ah : Int32) (al : Int32) (awa : Int32) (afr : Int32) (awi : Nat) (ar : Nat) (ae : Nat) (as : Nat) (ai : Nat) (ag : Nat) (ac : Nat) (au : Nat) (acc : Nat) (bn : Nat) (asnp : Int32) (assdo : Int32) (mm : Nat) (sz : Nat) (n0 : fn 0 = some an) (n1 : fn 1 = some bn) : Met l yX10_told v_c_told_03_1 ({ frames := 1, cells := 0, slots := 0, locals := 21 }) (va_Pc [.ref x, .int 0, .int 3] (fun U => U.heap.size = sz ∧ va_P (dC, dI) vwCl [(x, .inr (11, [.ref nr, .ref st, .ref lf, .int 2, .int (nI tm), .int (nI fcn), .int xl, .int 0])), (nr, .inl (cN, 8, .inr (.inr (.inr (.inr fn))))), (an, .inr (5, [.int ah, .int al, .int awa, .int afr, .int (nI awi), .ref ar, .ref ae, .ref as, .ref ai, .ref ag, .ref ac, .ref au, .int 0, .int 2, .int 10, .int (nI acc), .int 0, .int 0])), (as, .inr (7, [.int 1, .int asnp, .int assdo, .ref mm]))] U.heap ∧ va_K (dC, dI) vwCl [(cN, (.object RX4))] U ∧ va_D (fun _ => True) [(x, .inr (11, [.ref nr, .ref st, .ref lf, .int 2, .int (nI tm), .int (nI fcn), .int xl, .int 0])), (nr, .inl (cN, 8, .inr (.inr (.inr (.inr fn))))), (an, .inr (5, [.int ah, .int al, .int awa, .int afr, .int (nI awi), .ref ar, .ref ae, .ref as, .ref ai, .ref ag, .ref ac, .ref au, .int 0, .int 2, .int 10, .int (nI acc), .int 0, .int 0])), (as, .inr (7, [.int 1, .int asnp, .int assdo, .ref mm]))] ∧ ev U)) (va_Qi (fun (r : Int32) (_ : Unit) => r = 1) (fun (_ : Unit) (_ : State) => True) (va_A [] sz)) 0 0 (va_A [] sz) := by
  refine Met.ofW (cc := cX10_told) (maxL := 4) (ret := (some .int)) (by decide) rfl ?_
  intro p e s m args below meth c s₁ B hml hv
  obtain ⟨rfl, hsz, hP, hK, hD0, hE⟩ := hv
  have hx := B.exec
  have hb := B.bytes
  have hr := B.returns
  have hts := atoms_spec (ws := v_c_told_03_1) B.pre
  have hown : s.vm.findClass RX10 = some m.cls := findClass_of_methodNamed B.named
  have hlocks := B.notSynchronized
  subst hsz
  have hD := hD0
  generalize hAe : va_A [] s.heap.size = A
  have hA : ∀ q : Nat, s.heap.size ≤ q → A q := fun q h => by rw [← hAe]; exact Or.inr h
  have hS : va_S A s.heap s.heap [] := va_S.rf
  replace hP : va_P (dC, dI) vwCl [(x, .inr (11, [.ref nr, .ref st, .ref lf, .int 2, .int (nI tm), .int (nI fcn), .int xl, .int 0])), (nr, .inl (cN, 8, .inr (.inr (.inr (.inr fn))))), (an, .inr (5, [.int ah, .int al, .int awa, .int afr, .int (nI awi), .ref ar, .ref ae, .ref as, .ref ai, .ref ag, .ref ac, .ref au, .int 0, .int 2, .int 10, .int (nI acc), .int 0, .int 0])), (as, .inr (7, [.int 1, .int asnp, .int assdo, .ref mm]))] s.heap := hP
  have hl := lv_entry ([.ref x, .int 0, .int 3]) (n := 4) (Nat.le_of_ble_eq_true rfl)
  rw [lg_entry_eq]
  generalize (lg_sl ([.ref x, .int 0, .int 3]) ++ List.replicate (4 - (lg_sl ([.ref x, .int 0, .int 3])).length) Slot.unset).toArray = ls at hl ⊢
  replace hl : lv_has ls 4 [(0, .ref x), (1, .int 0), (2, .int 3)] := hl
  obtain ⟨H, hH⟩ : ∃ z : Heap, z = s.heap := ⟨_, rfl⟩
  rw [← hH]
  replace hS : va_S A s.heap H [] := by rw [hH]; exact va_S.rf
  replace hP : va_P (dC, dI) vwCl [(x, .inr (11, [.ref nr, .ref st, .ref lf, .int 2, .int (nI tm), .int (nI fcn), .int xl, .int 0])), (nr, .inl (cN, 8, .inr (.inr (.inr (.inr fn))))), (an, .inr (5, [.int ah, .int al, .int awa, .int afr, .int (nI awi), .ref ar, .ref ae, .ref as, .ref ai, .ref ag, .ref ac, .ref au, .int 0, .int 2, .int 10, .int (nI acc), .int 0, .int 0])), (as, .inr (7, [.int 1, .int asnp, .int assdo, .ref mm]))] H := by rw [hH]; exact hP
  clear hH
  refine lv_aload_n hx hb dX10_told_0 rfl (lv_at hl 0 rfl) ?_
  refine lv_iload_n hx hb dX10_told_1 rfl (lv_at hl 1 rfl) ?_
  have hPc := hP.sub (ws' := [(x, .inr (11, [.ref nr, .ref st, .ref lf, .int 2, .int (nI tm), .int (nI fcn), .int xl, .int 0])), (nr, .inl (cN, 8, .inr (.inr (.inr (.inr fn)))))]) [0, 1] rfl
  have hDc := hD.sub (ws' := [(x, .inr (11, [.ref nr, .ref st, .ref lf, .int 2, .int (nI tm), .int (nI fcn), .int xl, .int 0])), (nr, .inl (cN, 8, .inr (.inr (.inr (.inr fn)))))]) [0, 1] (by decide +kernel) rfl
  have hKc := hK.sub (tys' := [(cN, (.object RX4))]) [0] rfl
  have hFc := ro_free hS hA
  refine va_callq (va_runV (As := [.int 0]) (rest := []) ⟨hx, hb, hml, hown, hts⟩ (c_find_0 l dC dI (x) (nr) (st) (lf) (tm) (fcn) (xl) (cN) (fn) (an) H.size n0) (cwV 1 hts g_c_told_03_1_c_find_0_53 rfl rfl rfl (by decide +kernel) ⟨Nat.le_of_ble_eq_true rfl, Nat.le_of_ble_eq_true rfl⟩) ⟨fun a U g mk q => by obtain ⟨q0, q1, qP, qK, qD, qE⟩ := q; exact ⟨q0, q1, qP, va_K.moved (u := U) (U := U.calling g mk a) (Vm.Alike.refl U.vm) qK, qD, ev.same (u := U) (U := U.calling g mk a) rfl qE⟩, va_recv hKc hPc (ci := 11) (q0 := 0) rfl rfl, fun U hU hW => ⟨rfl, by rw [hU], by rw [hU]; exact hPc, va_K.moved hW.alike hKc, hDc.weaken (fun _ _ _ _ => trivial), hE.warm hW⟩⟩ rfl rfl hl.1 rfl (lv_room (Nat.le_of_ble_eq_true rfl)) dX10_told_2 ⟨Nat.le_of_ble_eq_true rfl, Nat.le_of_ble_eq_true rfl⟩) hS (fun q _ h => hFc q h) hFc (fun r_1 u t H1 locs ht hvm hw hB hz1 hk1 hS => ?_)
  clear hPc hDc hKc
  replace hP := ro_keep hP hk1
  generalize H1 = H at hP hS ⊢
  replace hP : va_P (dC, dI) vwCl [(x, .inr (11, [.ref nr, .ref st, .ref lf, .int 2, .int (nI tm), .int (nI fcn), .int xl, .int 0])), (nr, .inl (cN, 8, .inr (.inr (.inr (.inr fn))))), (an, .inr (5, [.int ah, .int al, .int awa, .int afr, .int (nI awi), .ref ar, .ref ae, .ref as, .ref ai, .ref ag, .ref ac, .ref au, .int 0, .int 2, .int 10, .int (nI acc), .int 0, .int 0])), (as, .inr (7, [.int 1, .int asnp, .int assdo, .ref mm]))] H := hP
  have hw := hw.symm
  subst hw
  refine W.eq (g2 := F0 m 5 ls [.ref an]) rfl ?_
  refine lv_astore_n (lv' := [(3, .ref an), (0, .ref x), (1, .int 0), (2, .int 3)]) hx hb dX10_told_5 rfl hl (by decide) rfl (fun ls hl => ?_)
  refine lv_aload_n hx hb dX10_told_6 rfl (lv_at hl 0 rfl) ?_
  refine lv_ifnonnull (tgt := 12) hx hb dX10_told_7 (by decide) ?_
  refine lv_iload_n hx hb dX10_told_12 rfl (lv_at hl 3 rfl) ?_
  refine lv_tableIn (tgt := 74) hx hb dX10_told_13 (by decide) (by decide) rfl (by decide) ?_
  refine lv_aload_n hx hb dX10_told_74 rfl (lv_at hl 0 rfl) ?_
  refine va_get (D := (dC, dI)) (ci := 5) (v := .ref as) (C := RX4) (T := TX4) (N := 18) hx hb hts in_c_told_03_1_X4 hown hK hP 2 rfl rfl 7 (by decide) (hts (.fieldLink RX10 133 "ClaimBus$Node" "sending" "LClaimBus$Sending;") (List.mem_of_getElem? (i := 5) rfl)) (fun _ h9 => h9) rfl dX10_told_75 ?_
  refine va_get (D := (dC, dI)) (ci := 7) (v := .int 1) (C := RX6) (T := TX6) (N := 4) hx hb hts in_c_told_03_1_X6 hown hK hP 3 rfl rfl 0 (by decide) (hts (.fieldLink RX10 137 "ClaimBus$Sending" "state" "I") (List.mem_of_getElem? (i := 6) rfl)) (fun _ h9 => h9) rfl dX10_told_78 ?_
  exact W.iret (v := 1) hx hb hr (fun t ht hW => ⟨⟨1, (), rfl, rfl, trivial⟩, hS.F ht⟩) hS.2.2 dX10_told_81

noncomputable def tl_c_told_03_2 : List Cond := wsX40 ++ (wsX60 ++ (v_c_find_0))
noncomputable def v_c_told_03_2 : List Cond := .code yX10_told cX10_told 4 (some .int) :: ([.initialized RX10, .methodLink RX10 53 yX10_find, .instanceMethod yX10_find, .selects RX10 yX10_find yX10_find, .fieldLink RX10 133 "ClaimBus$Node" "sending" "LClaimBus$Sending;", .fieldLink RX10 137 "ClaimBus$Sending" "state" "I"] ++ tl_c_told_03_2)
theorem it_c_told_03_2 : ∀ w ∈ tl_c_told_03_2, w ∈ v_c_told_03_2 := fun w h => List.mem_cons_of_mem _ (List.mem_append_right _ h)
theorem in_c_told_03_2_X4 : ∀ w ∈ wsX40, w ∈ v_c_told_03_2 := fun w h => it_c_told_03_2 w (List.mem_append_left _ h)
theorem in_c_told_03_2_X6 : ∀ w ∈ wsX60, w ∈ v_c_told_03_2 := fun w h => it_c_told_03_2 w (List.mem_append_right _ (List.mem_append_left _ h))
theorem ic_c_told_03_2_c_find_0 : ∀ w ∈ v_c_find_0, w ∈ v_c_told_03_2 := fun w h => it_c_told_03_2 w (List.mem_append_right _ (List.mem_append_right _ (h)))
theorem gt_c_told_03_2 : ∀ w ∈ tl_c_told_03_2, goodWord w = true := List.forall_mem_append.mpr ⟨gw_wsX40, List.forall_mem_append.mpr ⟨gw_wsX60, gw_c_find_0⟩⟩
theorem gw_c_told_03_2 : ∀ w ∈ v_c_told_03_2, goodWord w = true := List.forall_mem_cons.mpr ⟨by decide +kernel, List.forall_mem_append.mpr ⟨List.all_eq_true.mp (by decide +kernel), gt_c_told_03_2⟩⟩
theorem g_c_told_03_2_c_find_0_53 : GoodIn v_c_told_03_2 (wsV RX10 53 RX10 yX10_find v_c_find_0) := goodIn_app (goodIn_r [.methodLink RX10 53 yX10_find, .instanceMethod yX10_find, .selects RX10 yX10_find yX10_find, .initialized RX10] [2, 3, 4, 1] (by decide +kernel) (by decide +kernel)) (fun w h => ⟨ic_c_told_03_2_c_find_0 w h, good_of_word (gw_c_find_0 w h)⟩)
set_option maxHeartbeats 4000000 in
set_option maxRecDepth 100000 in
theorem c_told_03_2 (l : Launch) (dC : Nat → ClassId) (dI : Nat → Nat → Nat) (x : Nat) (nr : Nat) (st : Nat) (lf : Nat) (tm : Nat) (fcn : Nat) (xl : Int32) (cN : ClassId) (fn : Nat → Option Nat) (an : Nat) (ah : Int32) (al : Int32) (awa : Int32) (afr : Int32) (awi : Nat) (ar : Nat) (ae : Nat) (as : Nat) (ai : Nat) (ag : Nat) (ac : Nat) (au : Nat) (acc : Nat) (bn : Nat) (asnp : Int32) (assdo : Int32) (mm : Nat) (sz : Nat) (n0 : fn 0 = some an) (n1 : fn 1 = some bn) : Met l yX10_told v_c_told_03_2 ({ frames := 1, cells := 0, slots := 0, locals := 21 }) (va_Pc [.ref x, .int 0, .int 3] (fun U => U.heap.size = sz ∧ va_P (dC, dI) vwCl [(x, .inr (11, [.ref nr, .ref st, .ref lf, .int 2, .int (nI tm), .int (nI fcn), .int xl, .int 0])), (nr, .inl (cN, 8, .inr (.inr (.inr (.inr fn))))), (an, .inr (5, [.int ah, .int al, .int awa, .int afr, .int (nI awi), .ref ar, .ref ae, .ref as, .ref ai, .ref ag, .ref ac, .ref au, .int 0, .int 2, .int 10, .int (nI acc), .int 0, .int 0])), (as, .inr (7, [.int 2, .int asnp, .int assdo, .ref mm]))] U.heap ∧ va_K (dC, dI) vwCl [(cN, (.object RX4))] U ∧ va_D (fun _ => True) [(x, .inr (11, [.ref nr, .ref st, .ref lf, .int 2, .int (nI tm), .int (nI fcn), .int xl, .int 0])), (nr, .inl (cN, 8, .inr (.inr (.inr (.inr fn))))), (an, .inr (5, [.int ah, .int al, .int awa, .int afr, .int (nI awi), .ref ar, .ref ae, .ref as, .ref ai, .ref ag, .ref ac, .ref au, .int 0, .int 2, .int 10, .int (nI acc), .int 0, .int 0])), (as, .inr (7, [.int 2, .int asnp, .int assdo, .ref mm]))] ∧ ev U)) (va_Qi (fun (r : Int32) (_ : Unit) => r = 2) (fun (_ : Unit) (_ : State) => True) (va_A [] sz)) 0 0 (va_A [] sz) := by
  refine Met.ofW (cc := cX10_told) (maxL := 4) (ret := (some .int)) (by decide) rfl ?_
  intro p e s m args below meth c s₁ B hml hv
  obtain ⟨rfl, hsz, hP, hK, hD0, hE⟩ := hv
  have hx := B.exec
  have hb := B.bytes
  have hr := B.returns
  have hts := atoms_spec (ws := v_c_told_03_2) B.pre
  have hown : s.vm.findClass RX10 = some m.cls := findClass_of_methodNamed B.named
  have hlocks := B.notSynchronized
  subst hsz
  have hD := hD0
  generalize hAe : va_A [] s.heap.size = A
  have hA : ∀ q : Nat, s.heap.size ≤ q → A q := fun q h => by rw [← hAe]; exact Or.inr h
  have hS : va_S A s.heap s.heap [] := va_S.rf
  replace hP : va_P (dC, dI) vwCl [(x, .inr (11, [.ref nr, .ref st, .ref lf, .int 2, .int (nI tm), .int (nI fcn), .int xl, .int 0])), (nr, .inl (cN, 8, .inr (.inr (.inr (.inr fn))))), (an, .inr (5, [.int ah, .int al, .int awa, .int afr, .int (nI awi), .ref ar, .ref ae, .ref as, .ref ai, .ref ag, .ref ac, .ref au, .int 0, .int 2, .int 10, .int (nI acc), .int 0, .int 0])), (as, .inr (7, [.int 2, .int asnp, .int assdo, .ref mm]))] s.heap := hP
  have hl := lv_entry ([.ref x, .int 0, .int 3]) (n := 4) (Nat.le_of_ble_eq_true rfl)
  rw [lg_entry_eq]
  generalize (lg_sl ([.ref x, .int 0, .int 3]) ++ List.replicate (4 - (lg_sl ([.ref x, .int 0, .int 3])).length) Slot.unset).toArray = ls at hl ⊢
  replace hl : lv_has ls 4 [(0, .ref x), (1, .int 0), (2, .int 3)] := hl
  obtain ⟨H, hH⟩ : ∃ z : Heap, z = s.heap := ⟨_, rfl⟩
  rw [← hH]
  replace hS : va_S A s.heap H [] := by rw [hH]; exact va_S.rf
  replace hP : va_P (dC, dI) vwCl [(x, .inr (11, [.ref nr, .ref st, .ref lf, .int 2, .int (nI tm), .int (nI fcn), .int xl, .int 0])), (nr, .inl (cN, 8, .inr (.inr (.inr (.inr fn))))), (an, .inr (5, [.int ah, .int al, .int awa, .int afr, .int (nI awi), .ref ar, .ref ae, .ref as, .ref ai, .ref ag, .ref ac, .ref au, .int 0, .int 2, .int 10, .int (nI acc), .int 0, .int 0])), (as, .inr (7, [.int 2, .int asnp, .int assdo, .ref mm]))] H := by rw [hH]; exact hP
  clear hH
  refine lv_aload_n hx hb dX10_told_0 rfl (lv_at hl 0 rfl) ?_
  refine lv_iload_n hx hb dX10_told_1 rfl (lv_at hl 1 rfl) ?_
  have hPc := hP.sub (ws' := [(x, .inr (11, [.ref nr, .ref st, .ref lf, .int 2, .int (nI tm), .int (nI fcn), .int xl, .int 0])), (nr, .inl (cN, 8, .inr (.inr (.inr (.inr fn)))))]) [0, 1] rfl
  have hDc := hD.sub (ws' := [(x, .inr (11, [.ref nr, .ref st, .ref lf, .int 2, .int (nI tm), .int (nI fcn), .int xl, .int 0])), (nr, .inl (cN, 8, .inr (.inr (.inr (.inr fn)))))]) [0, 1] (by decide +kernel) rfl
  have hKc := hK.sub (tys' := [(cN, (.object RX4))]) [0] rfl
  have hFc := ro_free hS hA
  refine va_callq (va_runV (As := [.int 0]) (rest := []) ⟨hx, hb, hml, hown, hts⟩ (c_find_0 l dC dI (x) (nr) (st) (lf) (tm) (fcn) (xl) (cN) (fn) (an) H.size n0) (cwV 1 hts g_c_told_03_2_c_find_0_53 rfl rfl rfl (by decide +kernel) ⟨Nat.le_of_ble_eq_true rfl, Nat.le_of_ble_eq_true rfl⟩) ⟨fun a U g mk q => by obtain ⟨q0, q1, qP, qK, qD, qE⟩ := q; exact ⟨q0, q1, qP, va_K.moved (u := U) (U := U.calling g mk a) (Vm.Alike.refl U.vm) qK, qD, ev.same (u := U) (U := U.calling g mk a) rfl qE⟩, va_recv hKc hPc (ci := 11) (q0 := 0) rfl rfl, fun U hU hW => ⟨rfl, by rw [hU], by rw [hU]; exact hPc, va_K.moved hW.alike hKc, hDc.weaken (fun _ _ _ _ => trivial), hE.warm hW⟩⟩ rfl rfl hl.1 rfl (lv_room (Nat.le_of_ble_eq_true rfl)) dX10_told_2 ⟨Nat.le_of_ble_eq_true rfl, Nat.le_of_ble_eq_true rfl⟩) hS (fun q _ h => hFc q h) hFc (fun r_1 u t H1 locs ht hvm hw hB hz1 hk1 hS => ?_)
  clear hPc hDc hKc
  replace hP := ro_keep hP hk1
  generalize H1 = H at hP hS ⊢
  replace hP : va_P (dC, dI) vwCl [(x, .inr (11, [.ref nr, .ref st, .ref lf, .int 2, .int (nI tm), .int (nI fcn), .int xl, .int 0])), (nr, .inl (cN, 8, .inr (.inr (.inr (.inr fn))))), (an, .inr (5, [.int ah, .int al, .int awa, .int afr, .int (nI awi), .ref ar, .ref ae, .ref as, .ref ai, .ref ag, .ref ac, .ref au, .int 0, .int 2, .int 10, .int (nI acc), .int 0, .int 0])), (as, .inr (7, [.int 2, .int asnp, .int assdo, .ref mm]))] H := hP
  have hw := hw.symm
  subst hw
  refine W.eq (g2 := F0 m 5 ls [.ref an]) rfl ?_
  refine lv_astore_n (lv' := [(3, .ref an), (0, .ref x), (1, .int 0), (2, .int 3)]) hx hb dX10_told_5 rfl hl (by decide) rfl (fun ls hl => ?_)
  refine lv_aload_n hx hb dX10_told_6 rfl (lv_at hl 0 rfl) ?_
  refine lv_ifnonnull (tgt := 12) hx hb dX10_told_7 (by decide) ?_
  refine lv_iload_n hx hb dX10_told_12 rfl (lv_at hl 3 rfl) ?_
  refine lv_tableIn (tgt := 74) hx hb dX10_told_13 (by decide) (by decide) rfl (by decide) ?_
  refine lv_aload_n hx hb dX10_told_74 rfl (lv_at hl 0 rfl) ?_
  refine va_get (D := (dC, dI)) (ci := 5) (v := .ref as) (C := RX4) (T := TX4) (N := 18) hx hb hts in_c_told_03_2_X4 hown hK hP 2 rfl rfl 7 (by decide) (hts (.fieldLink RX10 133 "ClaimBus$Node" "sending" "LClaimBus$Sending;") (List.mem_of_getElem? (i := 5) rfl)) (fun _ h9 => h9) rfl dX10_told_75 ?_
  refine va_get (D := (dC, dI)) (ci := 7) (v := .int 2) (C := RX6) (T := TX6) (N := 4) hx hb hts in_c_told_03_2_X6 hown hK hP 3 rfl rfl 0 (by decide) (hts (.fieldLink RX10 137 "ClaimBus$Sending" "state" "I") (List.mem_of_getElem? (i := 6) rfl)) (fun _ h9 => h9) rfl dX10_told_78 ?_
  exact W.iret (v := 2) hx hb hr (fun t ht hW => ⟨⟨2, (), rfl, rfl, trivial⟩, hS.F ht⟩) hS.2.2 dX10_told_81

noncomputable def tl_c_told_14 : List Cond := wsX40 ++ (wsX20 ++ (v_c_find_1))
noncomputable def v_c_told_14 : List Cond := .code yX10_told cX10_told 4 (some .int) :: ([.initialized RX10, .methodLink RX10 53 yX10_find, .instanceMethod yX10_find, .selects RX10 yX10_find yX10_find, .fieldLink RX10 140 "ClaimBus$Node" "inbox" "LClaimBus$Inbox;", .fieldLink RX10 144 "ClaimBus$Inbox" "came" "I"] ++ tl_c_told_14)
theorem it_c_told_14 : ∀ w ∈ tl_c_told_14, w ∈ v_c_told_14 := fun w h => List.mem_cons_of_mem _ (List.mem_append_right _ h)
theorem in_c_told_14_X4 : ∀ w ∈ wsX40, w ∈ v_c_told_14 := fun w h => it_c_told_14 w (List.mem_append_left _ h)
theorem in_c_told_14_X2 : ∀ w ∈ wsX20, w ∈ v_c_told_14 := fun w h => it_c_told_14 w (List.mem_append_right _ (List.mem_append_left _ h))
theorem ic_c_told_14_c_find_1 : ∀ w ∈ v_c_find_1, w ∈ v_c_told_14 := fun w h => it_c_told_14 w (List.mem_append_right _ (List.mem_append_right _ (h)))
theorem gt_c_told_14 : ∀ w ∈ tl_c_told_14, goodWord w = true := List.forall_mem_append.mpr ⟨gw_wsX40, List.forall_mem_append.mpr ⟨gw_wsX20, gw_c_find_1⟩⟩
theorem gw_c_told_14 : ∀ w ∈ v_c_told_14, goodWord w = true := List.forall_mem_cons.mpr ⟨by decide +kernel, List.forall_mem_append.mpr ⟨List.all_eq_true.mp (by decide +kernel), gt_c_told_14⟩⟩
theorem g_c_told_14_c_find_1_53 : GoodIn v_c_told_14 (wsV RX10 53 RX10 yX10_find v_c_find_1) := goodIn_app (goodIn_r [.methodLink RX10 53 yX10_find, .instanceMethod yX10_find, .selects RX10 yX10_find yX10_find, .initialized RX10] [2, 3, 4, 1] (by decide +kernel) (by decide +kernel)) (fun w h => ⟨ic_c_told_14_c_find_1 w h, good_of_word (gw_c_find_1 w h)⟩)
set_option maxHeartbeats 4000000 in
set_option maxRecDepth 100000 in
theorem c_told_14 (l : Launch) (dC : Nat → ClassId) (dI : Nat → Nat → Nat) (x : Nat) (nr : Nat) (st : Nat) (lf : Nat) (tm : Nat) (fcn : Nat) (xl : Int32) (cN : ClassId) (fn : Nat → Option Nat) (an : Nat) (bn : Nat) (bh : Int32) (bl : Int32) (bwa : Int32) (bfr : Int32) (bwi : Nat) (br : Nat) (be : Nat) (bs : Nat) (bi : Nat) (bg : Nat) (bc : Nat) (bu : Nat) (bcc : Nat) (nc : Nat) (lg : Nat) (lt : Nat) (sz : Nat) (n0 : fn 0 = some an) (n1 : fn 1 = some bn) : Met l yX10_told v_c_told_14 ({ frames := 1, cells := 0, slots := 0, locals := 21 }) (va_Pc [.ref x, .int 1, .int 4] (fun U => U.heap.size = sz ∧ va_P (dC, dI) vwCl [(x, .inr (11, [.ref nr, .ref st, .ref lf, .int 2, .int (nI tm), .int (nI fcn), .int xl, .int 0])), (nr, .inl (cN, 8, .inr (.inr (.inr (.inr fn))))), (bn, .inr (5, [.int bh, .int bl, .int bwa, .int bfr, .int (nI bwi), .ref br, .ref be, .ref bs, .ref bi, .ref bg, .ref bc, .ref bu, .int 0, .int 2, .int 200, .int (nI bcc), .int 0, .int 0])), (bi, .inr (3, [.int (nI nc), .int 0, .ref lg, .ref lt]))] U.heap ∧ va_K (dC, dI) vwCl [(cN, (.object RX4))] U ∧ va_D (fun _ => True) [(x, .inr (11, [.ref nr, .ref st, .ref lf, .int 2, .int (nI tm), .int (nI fcn), .int xl, .int 0])), (nr, .inl (cN, 8, .inr (.inr (.inr (.inr fn))))), (bn, .inr (5, [.int bh, .int bl, .int bwa, .int bfr, .int (nI bwi), .ref br, .ref be, .ref bs, .ref bi, .ref bg, .ref bc, .ref bu, .int 0, .int 2, .int 200, .int (nI bcc), .int 0, .int 0])), (bi, .inr (3, [.int (nI nc), .int 0, .ref lg, .ref lt]))] ∧ ev U)) (va_Qi (fun (r : Int32) (_ : Unit) => r = (nI nc)) (fun (_ : Unit) (_ : State) => True) (va_A [] sz)) 0 0 (va_A [] sz) := by
  refine Met.ofW (cc := cX10_told) (maxL := 4) (ret := (some .int)) (by decide) rfl ?_
  intro p e s m args below meth c s₁ B hml hv
  obtain ⟨rfl, hsz, hP, hK, hD0, hE⟩ := hv
  have hx := B.exec
  have hb := B.bytes
  have hr := B.returns
  have hts := atoms_spec (ws := v_c_told_14) B.pre
  have hown : s.vm.findClass RX10 = some m.cls := findClass_of_methodNamed B.named
  have hlocks := B.notSynchronized
  subst hsz
  have hD := hD0
  generalize hAe : va_A [] s.heap.size = A
  have hA : ∀ q : Nat, s.heap.size ≤ q → A q := fun q h => by rw [← hAe]; exact Or.inr h
  have hS : va_S A s.heap s.heap [] := va_S.rf
  replace hP : va_P (dC, dI) vwCl [(x, .inr (11, [.ref nr, .ref st, .ref lf, .int 2, .int (nI tm), .int (nI fcn), .int xl, .int 0])), (nr, .inl (cN, 8, .inr (.inr (.inr (.inr fn))))), (bn, .inr (5, [.int bh, .int bl, .int bwa, .int bfr, .int (nI bwi), .ref br, .ref be, .ref bs, .ref bi, .ref bg, .ref bc, .ref bu, .int 0, .int 2, .int 200, .int (nI bcc), .int 0, .int 0])), (bi, .inr (3, [.int (nI nc), .int 0, .ref lg, .ref lt]))] s.heap := hP
  have hl := lv_entry ([.ref x, .int 1, .int 4]) (n := 4) (Nat.le_of_ble_eq_true rfl)
  rw [lg_entry_eq]
  generalize (lg_sl ([.ref x, .int 1, .int 4]) ++ List.replicate (4 - (lg_sl ([.ref x, .int 1, .int 4])).length) Slot.unset).toArray = ls at hl ⊢
  replace hl : lv_has ls 4 [(0, .ref x), (1, .int 1), (2, .int 4)] := hl
  obtain ⟨H, hH⟩ : ∃ z : Heap, z = s.heap := ⟨_, rfl⟩
  rw [← hH]
  replace hS : va_S A s.heap H [] := by rw [hH]; exact va_S.rf
  replace hP : va_P (dC, dI) vwCl [(x, .inr (11, [.ref nr, .ref st, .ref lf, .int 2, .int (nI tm), .int (nI fcn), .int xl, .int 0])), (nr, .inl (cN, 8, .inr (.inr (.inr (.inr fn))))), (bn, .inr (5, [.int bh, .int bl, .int bwa, .int bfr, .int (nI bwi), .ref br, .ref be, .ref bs, .ref bi, .ref bg, .ref bc, .ref bu, .int 0, .int 2, .int 200, .int (nI bcc), .int 0, .int 0])), (bi, .inr (3, [.int (nI nc), .int 0, .ref lg, .ref lt]))] H := by rw [hH]; exact hP
  clear hH
  refine lv_aload_n hx hb dX10_told_0 rfl (lv_at hl 0 rfl) ?_
  refine lv_iload_n hx hb dX10_told_1 rfl (lv_at hl 1 rfl) ?_
  have hPc := hP.sub (ws' := [(x, .inr (11, [.ref nr, .ref st, .ref lf, .int 2, .int (nI tm), .int (nI fcn), .int xl, .int 0])), (nr, .inl (cN, 8, .inr (.inr (.inr (.inr fn)))))]) [0, 1] rfl
  have hDc := hD.sub (ws' := [(x, .inr (11, [.ref nr, .ref st, .ref lf, .int 2, .int (nI tm), .int (nI fcn), .int xl, .int 0])), (nr, .inl (cN, 8, .inr (.inr (.inr (.inr fn)))))]) [0, 1] (by decide +kernel) rfl
  have hKc := hK.sub (tys' := [(cN, (.object RX4))]) [0] rfl
  have hFc := ro_free hS hA
  refine va_callq (va_runV (As := [.int 1]) (rest := []) ⟨hx, hb, hml, hown, hts⟩ (c_find_1 l dC dI (x) (nr) (st) (lf) (tm) (fcn) (xl) (cN) (fn) (bn) H.size n1) (cwV 1 hts g_c_told_14_c_find_1_53 rfl rfl rfl (by decide +kernel) ⟨Nat.le_of_ble_eq_true rfl, Nat.le_of_ble_eq_true rfl⟩) ⟨fun a U g mk q => by obtain ⟨q0, q1, qP, qK, qD, qE⟩ := q; exact ⟨q0, q1, qP, va_K.moved (u := U) (U := U.calling g mk a) (Vm.Alike.refl U.vm) qK, qD, ev.same (u := U) (U := U.calling g mk a) rfl qE⟩, va_recv hKc hPc (ci := 11) (q0 := 0) rfl rfl, fun U hU hW => ⟨rfl, by rw [hU], by rw [hU]; exact hPc, va_K.moved hW.alike hKc, hDc.weaken (fun _ _ _ _ => trivial), hE.warm hW⟩⟩ rfl rfl hl.1 rfl (lv_room (Nat.le_of_ble_eq_true rfl)) dX10_told_2 ⟨Nat.le_of_ble_eq_true rfl, Nat.le_of_ble_eq_true rfl⟩) hS (fun q _ h => hFc q h) hFc (fun r_1 u t H1 locs ht hvm hw hB hz1 hk1 hS => ?_)
  clear hPc hDc hKc
  replace hP := ro_keep hP hk1
  generalize H1 = H at hP hS ⊢
  replace hP : va_P (dC, dI) vwCl [(x, .inr (11, [.ref nr, .ref st, .ref lf, .int 2, .int (nI tm), .int (nI fcn), .int xl, .int 0])), (nr, .inl (cN, 8, .inr (.inr (.inr (.inr fn))))), (bn, .inr (5, [.int bh, .int bl, .int bwa, .int bfr, .int (nI bwi), .ref br, .ref be, .ref bs, .ref bi, .ref bg, .ref bc, .ref bu, .int 0, .int 2, .int 200, .int (nI bcc), .int 0, .int 0])), (bi, .inr (3, [.int (nI nc), .int 0, .ref lg, .ref lt]))] H := hP
  have hw := hw.symm
  subst hw
  refine W.eq (g2 := F0 m 5 ls [.ref bn]) rfl ?_
  refine lv_astore_n (lv' := [(3, .ref bn), (0, .ref x), (1, .int 1), (2, .int 4)]) hx hb dX10_told_5 rfl hl (by decide) rfl (fun ls hl => ?_)
  refine lv_aload_n hx hb dX10_told_6 rfl (lv_at hl 0 rfl) ?_
  refine lv_ifnonnull (tgt := 12) hx hb dX10_told_7 (by decide) ?_
  refine lv_iload_n hx hb dX10_told_12 rfl (lv_at hl 3 rfl) ?_
  refine lv_tableIn (tgt := 82) hx hb dX10_told_13 (by decide) (by decide) rfl (by decide) ?_
  refine lv_aload_n hx hb dX10_told_82 rfl (lv_at hl 0 rfl) ?_
  refine va_get (D := (dC, dI)) (ci := 5) (v := .ref bi) (C := RX4) (T := TX4) (N := 18) hx hb hts in_c_told_14_X4 hown hK hP 2 rfl rfl 8 (by decide) (hts (.fieldLink RX10 140 "ClaimBus$Node" "inbox" "LClaimBus$Inbox;") (List.mem_of_getElem? (i := 5) rfl)) (fun _ h9 => h9) rfl dX10_told_83 ?_
  refine va_get (D := (dC, dI)) (ci := 3) (v := .int (nI nc)) (C := RX2) (T := TX2) (N := 4) hx hb hts in_c_told_14_X2 hown hK hP 3 rfl rfl 0 (by decide) (hts (.fieldLink RX10 144 "ClaimBus$Inbox" "came" "I") (List.mem_of_getElem? (i := 6) rfl)) (fun _ h9 => h9) rfl dX10_told_86 ?_
  exact W.iret (v := (nI nc)) hx hb hr (fun t ht hW => ⟨⟨(nI nc), (), rfl, rfl, trivial⟩, hS.F ht⟩) hS.2.2 dX10_told_89

noncomputable def tl_c_told_02 : List Cond := wsX40 ++ (v_c_find_0 ++ (v_c_len_e))
noncomputable def v_c_told_02 : List Cond := .code yX10_told cX10_told 4 (some .int) :: ([.initialized RX10, .methodLink RX10 53 yX10_find, .instanceMethod yX10_find, .selects RX10 yX10_find yX10_find, .fieldLink RX10 74 "ClaimBus$Node" "row" "LClaimBus$Row;", .initialized RX5, .methodLink RX10 129 yX5_length, .instanceMethod yX5_length, .selects RX5 yX5_length yX5_length] ++ tl_c_told_02)
theorem it_c_told_02 : ∀ w ∈ tl_c_told_02, w ∈ v_c_told_02 := fun w h => List.mem_cons_of_mem _ (List.mem_append_right _ h)
theorem in_c_told_02_X4 : ∀ w ∈ wsX40, w ∈ v_c_told_02 := fun w h => it_c_told_02 w (List.mem_append_left _ h)
theorem ic_c_told_02_c_find_0 : ∀ w ∈ v_c_find_0, w ∈ v_c_told_02 := fun w h => it_c_told_02 w (List.mem_append_right _ (List.mem_append_left _ h))
theorem ic_c_told_02_c_len_e : ∀ w ∈ v_c_len_e, w ∈ v_c_told_02 := fun w h => it_c_told_02 w (List.mem_append_right _ (List.mem_append_right _ (h)))
theorem gt_c_told_02 : ∀ w ∈ tl_c_told_02, goodWord w = true := List.forall_mem_append.mpr ⟨gw_wsX40, List.forall_mem_append.mpr ⟨gw_c_find_0, gw_c_len_e⟩⟩
theorem gw_c_told_02 : ∀ w ∈ v_c_told_02, goodWord w = true := List.forall_mem_cons.mpr ⟨by decide +kernel, List.forall_mem_append.mpr ⟨List.all_eq_true.mp (by decide +kernel), gt_c_told_02⟩⟩
theorem g_c_told_02_c_find_0_53 : GoodIn v_c_told_02 (wsV RX10 53 RX10 yX10_find v_c_find_0) := goodIn_app (goodIn_r [.methodLink RX10 53 yX10_find, .instanceMethod yX10_find, .selects RX10 yX10_find yX10_find, .initialized RX10] [2, 3, 4, 1] (by decide +kernel) (by decide +kernel)) (fun w h => ⟨ic_c_told_02_c_find_0 w h, good_of_word (gw_c_find_0 w h)⟩)
theorem g_c_told_02_c_len_e_129 : GoodIn v_c_told_02 (wsV RX10 129 RX5 yX5_length v_c_len_e) := goodIn_app (goodIn_r [.methodLink RX10 129 yX5_length, .instanceMethod yX5_length, .selects RX5 yX5_length yX5_length, .initialized RX5] [7, 8, 9, 6] (by decide +kernel) (by decide +kernel)) (fun w h => ⟨ic_c_told_02_c_len_e w h, good_of_word (gw_c_len_e w h)⟩)
set_option maxHeartbeats 4000000 in
set_option maxRecDepth 100000 in
theorem c_told_02 (l : Launch) (dC : Nat → ClassId) (dI : Nat → Nat → Nat) (x : Nat) (nr : Nat) (st : Nat) (lf : Nat) (tm : Nat) (fcn : Nat) (xl : Int32) (cN : ClassId) (fn : Nat → Option Nat) (an : Nat) (ah : Int32) (al : Int32) (awa : Int32) (afr : Int32) (awi : Nat) (ar : Nat) (ae : Nat) (as : Nat) (ai : Nat) (ag : Nat) (ac : Nat) (au : Nat) (acc : Nat) (bn : Nat) (arh : Int32) (arl : Int32) (arf : Nat) (ahp : Int32) (atp : Int32) (sz : Nat) (n0 : fn 0 = some an) (n1 : fn 1 = some bn) : Met l yX10_told v_c_told_02 ({ frames := 1, cells := 0, slots := 0, locals := 21 }) (va_Pc [.ref x, .int 0, .int 2] (fun U => U.heap.size = sz ∧ va_P (dC, dI) vwCl [(x, .inr (11, [.ref nr, .ref st, .ref lf, .int 2, .int (nI tm), .int (nI fcn), .int xl, .int 0])), (nr, .inl (cN, 8, .inr (.inr (.inr (.inr fn))))), (an, .inr (5, [.int ah, .int al, .int awa, .int afr, .int (nI awi), .ref ar, .ref ae, .ref as, .ref ai, .ref ag, .ref ac, .ref au, .int 0, .int 2, .int 10, .int (nI acc), .int 0, .int 0])), (ar, .inr (6, [.int arh, .int arl, .ref st, .null, .null, .int ahp, .int atp, .int 0, .int 0, .int 0, .ref arf, .int 0]))] U.heap ∧ va_K (dC, dI) vwCl [(cN, (.object RX4))] U ∧ va_D (fun _ => True) [(x, .inr (11, [.ref nr, .ref st, .ref lf, .int 2, .int (nI tm), .int (nI fcn), .int xl, .int 0])), (nr, .inl (cN, 8, .inr (.inr (.inr (.inr fn))))), (an, .inr (5, [.int ah, .int al, .int awa, .int afr, .int (nI awi), .ref ar, .ref ae, .ref as, .ref ai, .ref ag, .ref ac, .ref au, .int 0, .int 2, .int 10, .int (nI acc), .int 0, .int 0])), (ar, .inr (6, [.int arh, .int arl, .ref st, .null, .null, .int ahp, .int atp, .int 0, .int 0, .int 0, .ref arf, .int 0]))] ∧ ev U)) (va_Qi (fun (r : Int32) (_ : Unit) => r = 0) (fun (_ : Unit) (_ : State) => True) (va_A [] sz)) 0 0 (va_A [] sz) := by
  refine Met.ofW (cc := cX10_told) (maxL := 4) (ret := (some .int)) (by decide) rfl ?_
  intro p e s m args below meth c s₁ B hml hv
  obtain ⟨rfl, hsz, hP, hK, hD0, hE⟩ := hv
  have hx := B.exec
  have hb := B.bytes
  have hr := B.returns
  have hts := atoms_spec (ws := v_c_told_02) B.pre
  have hown : s.vm.findClass RX10 = some m.cls := findClass_of_methodNamed B.named
  have hlocks := B.notSynchronized
  subst hsz
  have hD := hD0
  generalize hAe : va_A [] s.heap.size = A
  have hA : ∀ q : Nat, s.heap.size ≤ q → A q := fun q h => by rw [← hAe]; exact Or.inr h
  have hS : va_S A s.heap s.heap [] := va_S.rf
  replace hP : va_P (dC, dI) vwCl [(x, .inr (11, [.ref nr, .ref st, .ref lf, .int 2, .int (nI tm), .int (nI fcn), .int xl, .int 0])), (nr, .inl (cN, 8, .inr (.inr (.inr (.inr fn))))), (an, .inr (5, [.int ah, .int al, .int awa, .int afr, .int (nI awi), .ref ar, .ref ae, .ref as, .ref ai, .ref ag, .ref ac, .ref au, .int 0, .int 2, .int 10, .int (nI acc), .int 0, .int 0])), (ar, .inr (6, [.int arh, .int arl, .ref st, .null, .null, .int ahp, .int atp, .int 0, .int 0, .int 0, .ref arf, .int 0]))] s.heap := hP
  have hl := lv_entry ([.ref x, .int 0, .int 2]) (n := 4) (Nat.le_of_ble_eq_true rfl)
  rw [lg_entry_eq]
  generalize (lg_sl ([.ref x, .int 0, .int 2]) ++ List.replicate (4 - (lg_sl ([.ref x, .int 0, .int 2])).length) Slot.unset).toArray = ls at hl ⊢
  replace hl : lv_has ls 4 [(0, .ref x), (1, .int 0), (2, .int 2)] := hl
  obtain ⟨H, hH⟩ : ∃ z : Heap, z = s.heap := ⟨_, rfl⟩
  rw [← hH]
  replace hS : va_S A s.heap H [] := by rw [hH]; exact va_S.rf
  replace hP : va_P (dC, dI) vwCl [(x, .inr (11, [.ref nr, .ref st, .ref lf, .int 2, .int (nI tm), .int (nI fcn), .int xl, .int 0])), (nr, .inl (cN, 8, .inr (.inr (.inr (.inr fn))))), (an, .inr (5, [.int ah, .int al, .int awa, .int afr, .int (nI awi), .ref ar, .ref ae, .ref as, .ref ai, .ref ag, .ref ac, .ref au, .int 0, .int 2, .int 10, .int (nI acc), .int 0, .int 0])), (ar, .inr (6, [.int arh, .int arl, .ref st, .null, .null, .int ahp, .int atp, .int 0, .int 0, .int 0, .ref arf, .int 0]))] H := by rw [hH]; exact hP
  clear hH
  refine lv_aload_n hx hb dX10_told_0 rfl (lv_at hl 0 rfl) ?_
  refine lv_iload_n hx hb dX10_told_1 rfl (lv_at hl 1 rfl) ?_
  have hPc := hP.sub (ws' := [(x, .inr (11, [.ref nr, .ref st, .ref lf, .int 2, .int (nI tm), .int (nI fcn), .int xl, .int 0])), (nr, .inl (cN, 8, .inr (.inr (.inr (.inr fn)))))]) [0, 1] rfl
  have hDc := hD.sub (ws' := [(x, .inr (11, [.ref nr, .ref st, .ref lf, .int 2, .int (nI tm), .int (nI fcn), .int xl, .int 0])), (nr, .inl (cN, 8, .inr (.inr (.inr (.inr fn)))))]) [0, 1] (by decide +kernel) rfl
  have hKc := hK.sub (tys' := [(cN, (.object RX4))]) [0] rfl
  have hFc := ro_free hS hA
  refine va_callq (va_runV (As := [.int 0]) (rest := []) ⟨hx, hb, hml, hown, hts⟩ (c_find_0 l dC dI (x) (nr) (st) (lf) (tm) (fcn) (xl) (cN) (fn) (an) H.size n0) (cwV 1 hts g_c_told_02_c_find_0_53 rfl rfl rfl (by decide +kernel) ⟨Nat.le_of_ble_eq_true rfl, Nat.le_of_ble_eq_true rfl⟩) ⟨fun a U g mk q => by obtain ⟨q0, q1, qP, qK, qD, qE⟩ := q; exact ⟨q0, q1, qP, va_K.moved (u := U) (U := U.calling g mk a) (Vm.Alike.refl U.vm) qK, qD, ev.same (u := U) (U := U.calling g mk a) rfl qE⟩, va_recv hKc hPc (ci := 11) (q0 := 0) rfl rfl, fun U hU hW => ⟨rfl, by rw [hU], by rw [hU]; exact hPc, va_K.moved hW.alike hKc, hDc.weaken (fun _ _ _ _ => trivial), hE.warm hW⟩⟩ rfl rfl hl.1 rfl (lv_room (Nat.le_of_ble_eq_true rfl)) dX10_told_2 ⟨Nat.le_of_ble_eq_true rfl, Nat.le_of_ble_eq_true rfl⟩) hS (fun q _ h => hFc q h) hFc (fun r_1 u t H1 locs ht hvm hw hB hz1 hk1 hS => ?_)
  clear hPc hDc hKc
  replace hP := ro_keep hP hk1
  generalize H1 = H at hP hS ⊢
  replace hP : va_P (dC, dI) vwCl [(x, .inr (11, [.ref nr, .ref st, .ref lf, .int 2, .int (nI tm), .int (nI fcn), .int xl, .int 0])), (nr, .inl (cN, 8, .inr (.inr (.inr (.inr fn))))), (an, .inr (5, [.int ah, .int al, .int awa, .int afr, .int (nI awi), .ref ar, .ref ae, .ref as, .ref ai, .ref ag, .ref ac, .ref au, .int 0, .int 2, .int 10, .int (nI acc), .int 0, .int 0])), (ar, .inr (6, [.int arh, .int arl, .ref st, .null, .null, .int ahp, .int atp, .int 0, .int 0, .int 0, .ref arf, .int 0]))] H := hP
  have hw := hw.symm
  subst hw
  refine W.eq (g2 := F0 m 5 ls [.ref an]) rfl ?_
  refine lv_astore_n (lv' := [(3, .ref an), (0, .ref x), (1, .int 0), (2, .int 2)]) hx hb dX10_told_5 rfl hl (by decide) rfl (fun ls hl => ?_)
  refine lv_aload_n hx hb dX10_told_6 rfl (lv_at hl 0 rfl) ?_
  refine lv_ifnonnull (tgt := 12) hx hb dX10_told_7 (by decide) ?_
  refine lv_iload_n hx hb dX10_told_12 rfl (lv_at hl 3 rfl) ?_
  refine lv_tableIn (tgt := 66) hx hb dX10_told_13 (by decide) (by decide) rfl (by decide) ?_
  refine lv_aload_n hx hb dX10_told_66 rfl (lv_at hl 0 rfl) ?_
  refine va_get (D := (dC, dI)) (ci := 5) (v := .ref ar) (C := RX4) (T := TX4) (N := 18) hx hb hts in_c_told_02_X4 hown hK hP 2 rfl rfl 5 (by decide) (hts (.fieldLink RX10 74 "ClaimBus$Node" "row" "LClaimBus$Row;") (List.mem_of_getElem? (i := 5) rfl)) (fun _ h9 => h9) rfl dX10_told_67 ?_
  have hPc := hP.sub (ws' := [(ar, .inr (6, [.int arh, .int arl, .ref st, .null, .null, .int ahp, .int atp, .int 0, .int 0, .int 0, .ref arf, .int 0]))]) [3] rfl
  have hDc := hD.sub (ws' := [(ar, .inr (6, [.int arh, .int arl, .ref st, .null, .null, .int ahp, .int atp, .int 0, .int 0, .int 0, .ref arf, .int 0]))]) [3] (by decide +kernel) rfl
  have hKc := hK.sub (tys' := []) [] rfl
  have hFc := ro_free hS hA
  refine va_calli (va_runV (As := []) (rest := []) ⟨hx, hb, hml, hown, hts⟩ (c_len_e l dC dI (ar) (arh) (arl) (st) (arf) (ahp) (atp) H.size) (cwV 0 hts g_c_told_02_c_len_e_129 rfl rfl rfl (by decide +kernel) ⟨Nat.le_of_ble_eq_true rfl, Nat.le_of_ble_eq_true rfl⟩) ⟨fun a U g mk q => by obtain ⟨q0, q1, qP, qK, qD, qE⟩ := q; exact ⟨q0, q1, qP, va_K.moved (u := U) (U := U.calling g mk a) (Vm.Alike.refl U.vm) qK, qD, ev.same (u := U) (U := U.calling g mk a) rfl qE⟩, va_recv hKc hPc (ci := 6) (q0 := 0) rfl rfl, fun U hU hW => ⟨rfl, by rw [hU], by rw [hU]; exact hPc, va_K.moved hW.alike hKc, hDc.weaken (fun _ _ _ _ => trivial), hE.warm hW⟩⟩ rfl rfl hl.1 rfl (lv_room (Nat.le_of_ble_eq_true rfl)) dX10_told_70 ⟨Nat.le_of_ble_eq_true rfl, Nat.le_of_ble_eq_true rfl⟩) hS (fun q _ h => hFc q h) hFc (fun r_2 u t H1 locs ht hvm hw hB hz1 hk1 hS => ?_)
  clear hPc hDc hKc
  replace hP := ro_keep hP hk1
  generalize H1 = H at hP hS ⊢
  replace hP : va_P (dC, dI) vwCl [(x, .inr (11, [.ref nr, .ref st, .ref lf, .int 2, .int (nI tm), .int (nI fcn), .int xl, .int 0])), (nr, .inl (cN, 8, .inr (.inr (.inr (.inr fn))))), (an, .inr (5, [.int ah, .int al, .int awa, .int afr, .int (nI awi), .ref ar, .ref ae, .ref as, .ref ai, .ref ag, .ref ac, .ref au, .int 0, .int 2, .int 10, .int (nI acc), .int 0, .int 0])), (ar, .inr (6, [.int arh, .int arl, .ref st, .null, .null, .int ahp, .int atp, .int 0, .int 0, .int 0, .ref arf, .int 0]))] H := hP
  have hw := hw.symm
  subst hw
  exact W.iret (v := 0) hx hb hr (fun t ht hW => ⟨⟨0, (), rfl, rfl, trivial⟩, hS.F ht⟩) hS.2.2 dX10_told_73

noncomputable def tl_c_open_nc : List Cond := wsX40 ++ (wsX90 ++ (v_c_AL_size))
noncomputable def v_c_open_nc : List Cond := .code yX4_openTransports cX4_openTransports 6 (some .int) :: ([.fieldLink RX4 34 "ClaimBus$Node" "gets" "[LClaimBus$Transport;", .fieldLink RX4 93 "ClaimBus$Transport" "open" "Z", .fieldLink RX4 41 "ClaimBus$Node" "collects" "Ljava/util/ArrayList;", .initialized RJx4a65c, .methodLink RX4 96 yJx4a65c_size_8abf5, .instanceMethod yJx4a65c_size_8abf5, .selects RJx4a65c yJx4a65c_size_8abf5 yJx4a65c_size_8abf5] ++ tl_c_open_nc)
theorem it_c_open_nc : ∀ w ∈ tl_c_open_nc, w ∈ v_c_open_nc := fun w h => List.mem_cons_of_mem _ (List.mem_append_right _ h)
theorem in_c_open_nc_X4 : ∀ w ∈ wsX40, w ∈ v_c_open_nc := fun w h => it_c_open_nc w (List.mem_append_left _ h)
theorem in_c_open_nc_X9 : ∀ w ∈ wsX90, w ∈ v_c_open_nc := fun w h => it_c_open_nc w (List.mem_append_right _ (List.mem_append_left _ h))
theorem ic_c_open_nc_c_AL_size : ∀ w ∈ v_c_AL_size, w ∈ v_c_open_nc := fun w h => it_c_open_nc w (List.mem_append_right _ (List.mem_append_right _ (h)))
theorem gt_c_open_nc : ∀ w ∈ tl_c_open_nc, goodWord w = true := List.forall_mem_append.mpr ⟨gw_wsX40, List.forall_mem_append.mpr ⟨gw_wsX90, gw_c_AL_size⟩⟩
theorem gw_c_open_nc : ∀ w ∈ v_c_open_nc, goodWord w = true := List.forall_mem_cons.mpr ⟨by decide +kernel, List.forall_mem_append.mpr ⟨List.all_eq_true.mp (by decide +kernel), gt_c_open_nc⟩⟩
theorem g_c_open_nc_c_AL_size_96 : GoodIn v_c_open_nc (wsV RX4 96 RJx4a65c yJx4a65c_size_8abf5 v_c_AL_size) := goodIn_app (goodIn_r [.methodLink RX4 96 yJx4a65c_size_8abf5, .instanceMethod yJx4a65c_size_8abf5, .selects RJx4a65c yJx4a65c_size_8abf5 yJx4a65c_size_8abf5, .initialized RJx4a65c] [5, 6, 7, 4] (by decide +kernel) (by decide +kernel)) (fun w h => ⟨ic_c_open_nc_c_AL_size w h, good_of_word (gw_c_AL_size w h)⟩)
set_option maxHeartbeats 4000000 in
set_option maxRecDepth 100000 in
theorem c_open_nc (l : Launch) (dC : Nat → ClassId) (dI : Nat → Nat → Nat) (nd : Nat) (nh : Int32) (nl : Int32) (nwa : Int32) (nfr : Int32) (nwi : Nat) (r : Nat) (nt : Nat) (ns : Nat) (ib : Nat) (gs : Nat) (cs : Nat) (nu : Nat) (nad : Nat) (ncc : Nat) (cm : Nat) (ce_ : Nat) (cT : ClassId) (fg : Nat → Option Nat) (tr : Nat) (j1 : Int32) (j2 : Int32) (j3 : Int32) (j4 : Int32) (j5 : Int32) (j6 : Int32) (j7 : Int32) (j8 : Int32) (j9 : Int32) (j10 : Int32) (j11 : Int32) (jw : Nat) (jb : Nat) (sz : Nat) (g0 : fg 0 = some tr) (g1 : fg 1 = none) (g2 : fg 2 = none) : Met l yX4_openTransports v_c_open_nc ({ frames := 1, cells := 0, slots := 0, locals := 20 }) (va_Pc [.ref nd] (fun U => U.heap.size = sz ∧ va_P (dC, dI) vwCl [(nd, .inr (5, [.int nh, .int nl, .int nwa, .int nfr, .int (nI nwi), .ref r, .ref nt, .ref ns, .ref ib, .ref gs, .ref cs, .ref nu, .int 0, .int 2, .int (nI nad), .int (nI ncc), .int 0, .int 0])), (cs, .inr (0, [.int (nI cm), .ref ce_, .int 0])), (gs, .inl (cT, 3, .inr (.inr (.inr (.inr fg))))), (tr, .inr (10, [.int 0, .int j1, .int j2, .int j3, .int j4, .int j5, .int j6, .int j7, .int j8, .int j9, .int j10, .int j11, .ref jw, .ref jb]))] U.heap ∧ va_K (dC, dI) vwCl [(cT, (.object RX9))] U ∧ va_D (fun _ => True) [(nd, .inr (5, [.int nh, .int nl, .int nwa, .int nfr, .int (nI nwi), .ref r, .ref nt, .ref ns, .ref ib, .ref gs, .ref cs, .ref nu, .int 0, .int 2, .int (nI nad), .int (nI ncc), .int 0, .int 0])), (cs, .inr (0, [.int (nI cm), .ref ce_, .int 0])), (gs, .inl (cT, 3, .inr (.inr (.inr (.inr fg))))), (tr, .inr (10, [.int 0, .int j1, .int j2, .int j3, .int j4, .int j5, .int j6, .int j7, .int j8, .int j9, .int j10, .int j11, .ref jw, .ref jb]))] ∧ ev U)) (va_Qi (fun (r : Int32) (_ : Unit) => r = 0) (fun (_ : Unit) (_ : State) => True) (va_A [] sz)) 0 0 (va_A [] sz) := by
  refine Met.ofW (cc := cX4_openTransports) (maxL := 6) (ret := (some .int)) (by decide) rfl ?_
  intro p e s m args below meth c s₁ B hml hv
  obtain ⟨rfl, hsz, hP, hK, hD0, hE⟩ := hv
  have hx := B.exec
  have hb := B.bytes
  have hr := B.returns
  have hts := atoms_spec (ws := v_c_open_nc) B.pre
  have hown : s.vm.findClass RX4 = some m.cls := findClass_of_methodNamed B.named
  have hlocks := B.notSynchronized
  subst hsz
  have hD := hD0
  generalize hAe : va_A [] s.heap.size = A
  have hA : ∀ q : Nat, s.heap.size ≤ q → A q := fun q h => by rw [← hAe]; exact Or.inr h
  have hS : va_S A s.heap s.heap [] := va_S.rf
  replace hP : va_P (dC, dI) vwCl [(nd, .inr (5, [.int nh, .int nl, .int nwa, .int nfr, .int (nI nwi), .ref r, .ref nt, .ref ns, .ref ib, .ref gs, .ref cs, .ref nu, .int 0, .int 2, .int (nI nad), .int (nI ncc), .int 0, .int 0])), (cs, .inr (0, [.int (nI cm), .ref ce_, .int 0])), (gs, .inl (cT, 3, .inr (.inr (.inr (.inr fg))))), (tr, .inr (10, [.int 0, .int j1, .int j2, .int j3, .int j4, .int j5, .int j6, .int j7, .int j8, .int j9, .int j10, .int j11, .ref jw, .ref jb]))] s.heap := hP
  have hl := lv_entry ([.ref nd]) (n := 6) (Nat.le_of_ble_eq_true rfl)
  rw [lg_entry_eq]
  generalize (lg_sl ([.ref nd]) ++ List.replicate (6 - (lg_sl ([.ref nd])).length) Slot.unset).toArray = ls at hl ⊢
  replace hl : lv_has ls 6 [(0, .ref nd)] := hl
  obtain ⟨H, hH⟩ : ∃ z : Heap, z = s.heap := ⟨_, rfl⟩
  rw [← hH]
  replace hS : va_S A s.heap H [] := by rw [hH]; exact va_S.rf
  replace hP : va_P (dC, dI) vwCl [(nd, .inr (5, [.int nh, .int nl, .int nwa, .int nfr, .int (nI nwi), .ref r, .ref nt, .ref ns, .ref ib, .ref gs, .ref cs, .ref nu, .int 0, .int 2, .int (nI nad), .int (nI ncc), .int 0, .int 0])), (cs, .inr (0, [.int (nI cm), .ref ce_, .int 0])), (gs, .inl (cT, 3, .inr (.inr (.inr (.inr fg))))), (tr, .inr (10, [.int 0, .int j1, .int j2, .int j3, .int j4, .int j5, .int j6, .int j7, .int j8, .int j9, .int j10, .int j11, .ref jw, .ref jb]))] H := by rw [hH]; exact hP
  clear hH
  refine lv_iconst (v := 0) hx hb dX4_openTransports_0 (by decide) ?_
  refine lv_istore_n (lv' := [(1, .int 0), (0, .ref nd)]) hx hb dX4_openTransports_1 rfl hl (by decide) rfl (fun ls hl => ?_)
  refine lv_aload_n hx hb dX4_openTransports_2 rfl (lv_at hl 1 rfl) ?_
  refine va_get (D := (dC, dI)) (ci := 5) (v := .ref gs) (C := RX4) (T := TX4) (N := 18) hx hb hts in_c_open_nc_X4 hown hK hP 0 rfl rfl 9 (by decide) (hts (.fieldLink RX4 34 "ClaimBus$Node" "gets" "[LClaimBus$Transport;") (List.mem_of_getElem? (i := 1) rfl)) (fun _ h9 => h9) rfl dX4_openTransports_3 ?_
  refine lv_astore_n (lv' := [(2, .ref gs), (1, .int 0), (0, .ref nd)]) hx hb dX4_openTransports_6 rfl hl (by decide) rfl (fun ls hl => ?_)
  refine lv_aload_n hx hb dX4_openTransports_7 rfl (lv_at hl 0 rfl) ?_
  refine va_alen hx hb hK hP 2 0 rfl rfl (v := 3) rfl dX4_openTransports_8 ?_
  refine lv_istore_n (lv' := [(3, .int 3), (2, .ref gs), (1, .int 0), (0, .ref nd)]) hx hb dX4_openTransports_9 rfl hl (by decide) rfl (fun ls hl => ?_)
  refine lv_iconst (v := 0) hx hb dX4_openTransports_10 (by decide) ?_
  refine lv_istore (lv' := [(4, .int 0), (3, .int 3), (2, .ref gs), (1, .int 0), (0, .ref nd)]) hx hb dX4_openTransports_11 hl (by decide) rfl (fun ls hl => ?_)
  refine lv_iload hx hb dX4_openTransports_13 (lv_at hl 0 rfl) ?_
  refine lv_iload_n hx hb dX4_openTransports_15 rfl (lv_at hl 1 rfl) ?_
  refine lv_icmp_ge (tgt := 47) hx hb dX4_openTransports_16 (by decide) (fun c_1 => ?_) (fun c_1 => ?_)
  · exact absurd c_1 (by decide)
  refine lv_aload_n hx hb dX4_openTransports_19 rfl (lv_at hl 2 rfl) ?_
  refine lv_iload hx hb dX4_openTransports_20 (lv_at hl 0 rfl) ?_
  refine va_aldq hx hb hK hP 2 0 rfl rfl (vp_in_nI (n := 0) (by omega) (by omega)) dX4_openTransports_22 ?_
  refine W.eq (g2 := F0 m 23 ls [.ref tr]) (by rw [(show Int32.toNatClampNeg (0 : Int32) = 0 by decide), g0]; rfl) ?_
  refine lv_astore (lv' := [(5, .ref tr), (4, .int 0), (3, .int 3), (2, .ref gs), (1, .int 0), (0, .ref nd)]) hx hb dX4_openTransports_23 hl (by decide) rfl (fun ls hl => ?_)
  refine lv_aload hx hb dX4_openTransports_25 (lv_at hl 0 rfl) ?_
  refine lv_ifnull hx hb dX4_openTransports_27 ?_
  refine lv_aload hx hb dX4_openTransports_30 (lv_at hl 0 rfl) ?_
  refine va_get (D := (dC, dI)) (ci := 10) (v := .int 0) (C := RX9) (T := TX9) (N := 14) hx hb hts in_c_open_nc_X9 hown hK hP 3 rfl rfl 0 (by decide) (hts (.fieldLink RX4 93 "ClaimBus$Transport" "open" "Z") (List.mem_of_getElem? (i := 2) rfl)) (fun _ h9 => h9) rfl dX4_openTransports_32 ?_
  refine lv_if_eq (tgt := 41) hx hb dX4_openTransports_35 (by decide) (fun c_2 => ?_) (fun c_2 => ?_)
  rotate_left
  · exact absurd (by decide) c_2
  refine lv_iinc (v := 1) (lv' := [(4, .int 1), (5, .ref tr), (3, .int 3), (2, .ref gs), (1, .int 0), (0, .ref nd)]) hx hb dX4_openTransports_41 hl (k := 1) rfl (by decide) (by decide) rfl (fun ls hl => ?_)
  refine lv_goto (tgt := 13) hx hb dX4_openTransports_44 (by decide) ?_
  refine lv_iload hx hb dX4_openTransports_13 (lv_at hl 0 rfl) ?_
  refine lv_iload_n hx hb dX4_openTransports_15 rfl (lv_at hl 2 rfl) ?_
  refine lv_icmp_ge (tgt := 47) hx hb dX4_openTransports_16 (by decide) (fun c_3 => ?_) (fun c_3 => ?_)
  · exact absurd c_3 (by decide)
  refine lv_aload_n hx hb dX4_openTransports_19 rfl (lv_at hl 3 rfl) ?_
  refine lv_iload hx hb dX4_openTransports_20 (lv_at hl 0 rfl) ?_
  refine va_aldq hx hb hK hP 2 0 rfl rfl (vp_in_nI (n := 1) (by omega) (by omega)) dX4_openTransports_22 ?_
  refine W.eq (g2 := F0 m 23 ls [.null]) (by rw [(show Int32.toNatClampNeg (1 : Int32) = 1 by decide), g1]; rfl) ?_
  refine lv_astoreN (lv' := [(5, .null), (4, .int 1), (3, .int 3), (2, .ref gs), (1, .int 0), (0, .ref nd)]) hx hb dX4_openTransports_23 hl (by decide) rfl (fun ls hl => ?_)
  refine lv_aloadN hx hb dX4_openTransports_25 (lv_at hl 0 rfl) ?_
  refine lv_ifnullN (tgt := 41) hx hb dX4_openTransports_27 (by decide) ?_
  refine lv_iinc (v := 2) (lv' := [(4, .int 2), (5, .null), (3, .int 3), (2, .ref gs), (1, .int 0), (0, .ref nd)]) hx hb dX4_openTransports_41 hl (k := 1) rfl (by decide) (by decide) rfl (fun ls hl => ?_)
  refine lv_goto (tgt := 13) hx hb dX4_openTransports_44 (by decide) ?_
  refine lv_iload hx hb dX4_openTransports_13 (lv_at hl 0 rfl) ?_
  refine lv_iload_n hx hb dX4_openTransports_15 rfl (lv_at hl 2 rfl) ?_
  refine lv_icmp_ge (tgt := 47) hx hb dX4_openTransports_16 (by decide) (fun c_4 => ?_) (fun c_4 => ?_)
  · exact absurd c_4 (by decide)
  refine lv_aload_n hx hb dX4_openTransports_19 rfl (lv_at hl 3 rfl) ?_
  refine lv_iload hx hb dX4_openTransports_20 (lv_at hl 0 rfl) ?_
  refine va_aldq hx hb hK hP 2 0 rfl rfl (vp_in_nI (n := 2) (by omega) (by omega)) dX4_openTransports_22 ?_
  refine W.eq (g2 := F0 m 23 ls [.null]) (by rw [(show Int32.toNatClampNeg (2 : Int32) = 2 by decide), g2]; rfl) ?_
  refine lv_astoreN (lv' := [(5, .null), (4, .int 2), (3, .int 3), (2, .ref gs), (1, .int 0), (0, .ref nd)]) hx hb dX4_openTransports_23 hl (by decide) rfl (fun ls hl => ?_)
  refine lv_aloadN hx hb dX4_openTransports_25 (lv_at hl 0 rfl) ?_
  refine lv_ifnullN (tgt := 41) hx hb dX4_openTransports_27 (by decide) ?_
  refine lv_iinc (v := 3) (lv' := [(4, .int 3), (5, .null), (3, .int 3), (2, .ref gs), (1, .int 0), (0, .ref nd)]) hx hb dX4_openTransports_41 hl (k := 1) rfl (by decide) (by decide) rfl (fun ls hl => ?_)
  refine lv_goto (tgt := 13) hx hb dX4_openTransports_44 (by decide) ?_
  refine lv_iload hx hb dX4_openTransports_13 (lv_at hl 0 rfl) ?_
  refine lv_iload_n hx hb dX4_openTransports_15 rfl (lv_at hl 2 rfl) ?_
  refine lv_icmp_ge (tgt := 47) hx hb dX4_openTransports_16 (by decide) (fun c_5 => ?_) (fun c_5 => ?_)
  rotate_left
  · exact absurd (by decide) c_5
  refine lv_iconst (v := 0) hx hb dX4_openTransports_47 (by decide) ?_
  refine lv_istore_n (lv' := [(2, .int 0), (4, .int 3), (5, .null), (3, .int 3), (1, .int 0), (0, .ref nd)]) hx hb dX4_openTransports_48 rfl hl (by decide) rfl (fun ls hl => ?_)
  refine lv_iload_n hx hb dX4_openTransports_49 rfl (lv_at hl 0 rfl) ?_
  refine lv_aload_n hx hb dX4_openTransports_50 rfl (lv_at hl 5 rfl) ?_
  refine va_get (D := (dC, dI)) (ci := 5) (v := .ref cs) (C := RX4) (T := TX4) (N := 18) hx hb hts in_c_open_nc_X4 hown hK hP 0 rfl rfl 10 (by decide) (hts (.fieldLink RX4 41 "ClaimBus$Node" "collects" "Ljava/util/ArrayList;") (List.mem_of_getElem? (i := 3) rfl)) (fun _ h9 => h9) rfl dX4_openTransports_51 ?_
  have hPc := hP.sub (ws' := [(cs, .inr (0, [.int (nI cm), .ref ce_, .int (nI 0)]))]) [1] rfl
  have hDc := hD.sub (ws' := [(cs, .inr (0, [.int (nI cm), .ref ce_, .int (nI 0)]))]) [1] (by decide +kernel) rfl
  have hKc := hK.sub (tys' := []) [] rfl
  have hFc := ro_free hS hA
  refine va_calli (va_runV (As := []) (rest := [.int 0]) ⟨hx, hb, hml, hown, hts⟩ (c_AL_size l dC dI (cs) (cm) (ce_) (0) H.size) (cwV 0 hts g_c_open_nc_c_AL_size_96 rfl rfl rfl (by decide +kernel) ⟨Nat.le_of_ble_eq_true rfl, Nat.le_of_ble_eq_true rfl⟩) ⟨fun a U g mk q => by obtain ⟨q0, q1, qP, qK, qD, qE⟩ := q; exact ⟨q0, q1, qP, va_K.moved (u := U) (U := U.calling g mk a) (Vm.Alike.refl U.vm) qK, qD, ev.same (u := U) (U := U.calling g mk a) rfl qE⟩, va_recv hKc hPc (ci := 0) (q0 := 0) rfl rfl, fun U hU hW => ⟨rfl, by rw [hU], by rw [hU]; exact hPc, va_K.moved hW.alike hKc, hDc.weaken (fun _ _ _ _ => trivial), hE.warm hW⟩⟩ rfl rfl hl.1 rfl (lv_room (Nat.le_of_ble_eq_true rfl)) dX4_openTransports_54 ⟨Nat.le_of_ble_eq_true rfl, Nat.le_of_ble_eq_true rfl⟩) hS (fun q _ h => hFc q h) hFc (fun r_6 u t H1 locs ht hvm hw hB hz1 hk1 hS => ?_)
  clear hPc hDc hKc
  replace hP := ro_keep hP hk1
  generalize H1 = H at hP hS ⊢
  replace hP : va_P (dC, dI) vwCl [(nd, .inr (5, [.int nh, .int nl, .int nwa, .int nfr, .int (nI nwi), .ref r, .ref nt, .ref ns, .ref ib, .ref gs, .ref cs, .ref nu, .int 0, .int 2, .int (nI nad), .int (nI ncc), .int 0, .int 0])), (cs, .inr (0, [.int (nI cm), .ref ce_, .int 0])), (gs, .inl (cT, 3, .inr (.inr (.inr (.inr fg))))), (tr, .inr (10, [.int 0, .int j1, .int j2, .int j3, .int j4, .int j5, .int j6, .int j7, .int j8, .int j9, .int j10, .int j11, .ref jw, .ref jb]))] H := hP
  have hw := hw.symm
  subst hw
  rw [show ((nI 0) : Int32) = 0 from (congrArg nI (show 0 = 0 from by omega)).trans (by decide)]
  refine lv_icmp_ge (tgt := 86) hx hb dX4_openTransports_57 (by decide) (fun c_7 => ?_) (fun c_7 => ?_)
  rotate_left
  · exact absurd (by decide) c_7
  refine lv_iload_n hx hb dX4_openTransports_86 rfl (lv_at hl 4 rfl) ?_
  exact W.iret (v := 0) hx hb hr (fun t ht hW => ⟨⟨0, (), rfl, rfl, trivial⟩, hS.F ht⟩) hS.2.2 dX4_openTransports_87

noncomputable def tl_c_told_15_nc : List Cond := v_c_find_1 ++ (v_c_open_nc)
noncomputable def v_c_told_15_nc : List Cond := .code yX10_told cX10_told 4 (some .int) :: ([.initialized RX10, .methodLink RX10 53 yX10_find, .instanceMethod yX10_find, .selects RX10 yX10_find yX10_find, .initialized RX4, .methodLink RX10 149 yX4_openTransports, .instanceMethod yX4_openTransports, .selects RX4 yX4_openTransports yX4_openTransports] ++ tl_c_told_15_nc)
theorem it_c_told_15_nc : ∀ w ∈ tl_c_told_15_nc, w ∈ v_c_told_15_nc := fun w h => List.mem_cons_of_mem _ (List.mem_append_right _ h)
theorem ic_c_told_15_nc_c_find_1 : ∀ w ∈ v_c_find_1, w ∈ v_c_told_15_nc := fun w h => it_c_told_15_nc w (List.mem_append_left _ h)
theorem ic_c_told_15_nc_c_open_nc : ∀ w ∈ v_c_open_nc, w ∈ v_c_told_15_nc := fun w h => it_c_told_15_nc w (List.mem_append_right _ (h))
theorem gt_c_told_15_nc : ∀ w ∈ tl_c_told_15_nc, goodWord w = true := List.forall_mem_append.mpr ⟨gw_c_find_1, gw_c_open_nc⟩
theorem gw_c_told_15_nc : ∀ w ∈ v_c_told_15_nc, goodWord w = true := List.forall_mem_cons.mpr ⟨by decide +kernel, List.forall_mem_append.mpr ⟨List.all_eq_true.mp (by decide +kernel), gt_c_told_15_nc⟩⟩
theorem g_c_told_15_nc_c_find_1_53 : GoodIn v_c_told_15_nc (wsV RX10 53 RX10 yX10_find v_c_find_1) := goodIn_app (goodIn_r [.methodLink RX10 53 yX10_find, .instanceMethod yX10_find, .selects RX10 yX10_find yX10_find, .initialized RX10] [2, 3, 4, 1] (by decide +kernel) (by decide +kernel)) (fun w h => ⟨ic_c_told_15_nc_c_find_1 w h, good_of_word (gw_c_find_1 w h)⟩)
theorem g_c_told_15_nc_c_open_nc_149 : GoodIn v_c_told_15_nc (wsV RX10 149 RX4 yX4_openTransports v_c_open_nc) := goodIn_app (goodIn_r [.methodLink RX10 149 yX4_openTransports, .instanceMethod yX4_openTransports, .selects RX4 yX4_openTransports yX4_openTransports, .initialized RX4] [6, 7, 8, 5] (by decide +kernel) (by decide +kernel)) (fun w h => ⟨ic_c_told_15_nc_c_open_nc w h, good_of_word (gw_c_open_nc w h)⟩)
set_option maxHeartbeats 4000000 in
set_option maxRecDepth 100000 in
theorem c_told_15_nc (l : Launch) (dC : Nat → ClassId) (dI : Nat → Nat → Nat) (x : Nat) (nr : Nat) (st : Nat) (lf : Nat) (tm : Nat) (fcn : Nat) (xl : Int32) (cN : ClassId) (fn : Nat → Option Nat) (an : Nat) (bn : Nat) (bh : Int32) (bl : Int32) (bwa : Int32) (bfr : Int32) (bwi : Nat) (br : Nat) (be : Nat) (bs : Nat) (bi : Nat) (bg : Nat) (bc : Nat) (bu : Nat) (bcc : Nat) (bcm : Nat) (bce : Nat) (bcT : ClassId) (bfg : Nat → Option Nat) (tr : Nat) (j1 : Int32) (j2 : Int32) (j3 : Int32) (j4 : Int32) (j5 : Int32) (j6 : Int32) (j7 : Int32) (j8 : Int32) (j9 : Int32) (j10 : Int32) (j11 : Int32) (jw : Nat) (jb : Nat) (sz : Nat) (n0 : fn 0 = some an) (n1 : fn 1 = some bn) (bg0_ : bfg 0 = some tr) (bg1_ : bfg 1 = none) (bg2_ : bfg 2 = none) : Met l yX10_told v_c_told_15_nc ({ frames := 2, cells := 0, slots := 0, locals := 45 }) (va_Pc [.ref x, .int 1, .int 5] (fun U => U.heap.size = sz ∧ va_P (dC, dI) vwCl [(x, .inr (11, [.ref nr, .ref st, .ref lf, .int 2, .int (nI tm), .int (nI fcn), .int xl, .int 0])), (nr, .inl (cN, 8, .inr (.inr (.inr (.inr fn))))), (bn, .inr (5, [.int bh, .int bl, .int bwa, .int bfr, .int (nI bwi), .ref br, .ref be, .ref bs, .ref bi, .ref bg, .ref bc, .ref bu, .int 0, .int 2, .int 200, .int (nI bcc), .int 0, .int 0])), (bc, .inr (0, [.int (nI bcm), .ref bce, .int 0])), (bg, .inl (bcT, 3, .inr (.inr (.inr (.inr bfg))))), (tr, .inr (10, [.int 0, .int j1, .int j2, .int j3, .int j4, .int j5, .int j6, .int j7, .int j8, .int j9, .int j10, .int j11, .ref jw, .ref jb]))] U.heap ∧ va_K (dC, dI) vwCl [(cN, (.object RX4)), (bcT, (.object RX9))] U ∧ va_D (fun _ => True) [(x, .inr (11, [.ref nr, .ref st, .ref lf, .int 2, .int (nI tm), .int (nI fcn), .int xl, .int 0])), (nr, .inl (cN, 8, .inr (.inr (.inr (.inr fn))))), (bn, .inr (5, [.int bh, .int bl, .int bwa, .int bfr, .int (nI bwi), .ref br, .ref be, .ref bs, .ref bi, .ref bg, .ref bc, .ref bu, .int 0, .int 2, .int 200, .int (nI bcc), .int 0, .int 0])), (bc, .inr (0, [.int (nI bcm), .ref bce, .int 0])), (bg, .inl (bcT, 3, .inr (.inr (.inr (.inr bfg))))), (tr, .inr (10, [.int 0, .int j1, .int j2, .int j3, .int j4, .int j5, .int j6, .int j7, .int j8, .int j9, .int j10, .int j11, .ref jw, .ref jb]))] ∧ ev U)) (va_Qi (fun (r : Int32) (_ : Unit) => r = 0) (fun (_ : Unit) (_ : State) => True) (va_A [] sz)) 0 0 (va_A [] sz) := by
  refine Met.ofW (cc := cX10_told) (maxL := 4) (ret := (some .int)) (by decide) rfl ?_
  intro p e s m args below meth c s₁ B hml hv
  obtain ⟨rfl, hsz, hP, hK, hD0, hE⟩ := hv
  have hx := B.exec
  have hb := B.bytes
  have hr := B.returns
  have hts := atoms_spec (ws := v_c_told_15_nc) B.pre
  have hown : s.vm.findClass RX10 = some m.cls := findClass_of_methodNamed B.named
  have hlocks := B.notSynchronized
  subst hsz
  have hD := hD0
  generalize hAe : va_A [] s.heap.size = A
  have hA : ∀ q : Nat, s.heap.size ≤ q → A q := fun q h => by rw [← hAe]; exact Or.inr h
  have hS : va_S A s.heap s.heap [] := va_S.rf
  replace hP : va_P (dC, dI) vwCl [(x, .inr (11, [.ref nr, .ref st, .ref lf, .int 2, .int (nI tm), .int (nI fcn), .int xl, .int 0])), (nr, .inl (cN, 8, .inr (.inr (.inr (.inr fn))))), (bn, .inr (5, [.int bh, .int bl, .int bwa, .int bfr, .int (nI bwi), .ref br, .ref be, .ref bs, .ref bi, .ref bg, .ref bc, .ref bu, .int 0, .int 2, .int 200, .int (nI bcc), .int 0, .int 0])), (bc, .inr (0, [.int (nI bcm), .ref bce, .int 0])), (bg, .inl (bcT, 3, .inr (.inr (.inr (.inr bfg))))), (tr, .inr (10, [.int 0, .int j1, .int j2, .int j3, .int j4, .int j5, .int j6, .int j7, .int j8, .int j9, .int j10, .int j11, .ref jw, .ref jb]))] s.heap := hP
  have hl := lv_entry ([.ref x, .int 1, .int 5]) (n := 4) (Nat.le_of_ble_eq_true rfl)
  rw [lg_entry_eq]
  generalize (lg_sl ([.ref x, .int 1, .int 5]) ++ List.replicate (4 - (lg_sl ([.ref x, .int 1, .int 5])).length) Slot.unset).toArray = ls at hl ⊢
  replace hl : lv_has ls 4 [(0, .ref x), (1, .int 1), (2, .int 5)] := hl
  obtain ⟨H, hH⟩ : ∃ z : Heap, z = s.heap := ⟨_, rfl⟩
  rw [← hH]
  replace hS : va_S A s.heap H [] := by rw [hH]; exact va_S.rf
  replace hP : va_P (dC, dI) vwCl [(x, .inr (11, [.ref nr, .ref st, .ref lf, .int 2, .int (nI tm), .int (nI fcn), .int xl, .int 0])), (nr, .inl (cN, 8, .inr (.inr (.inr (.inr fn))))), (bn, .inr (5, [.int bh, .int bl, .int bwa, .int bfr, .int (nI bwi), .ref br, .ref be, .ref bs, .ref bi, .ref bg, .ref bc, .ref bu, .int 0, .int 2, .int 200, .int (nI bcc), .int 0, .int 0])), (bc, .inr (0, [.int (nI bcm), .ref bce, .int 0])), (bg, .inl (bcT, 3, .inr (.inr (.inr (.inr bfg))))), (tr, .inr (10, [.int 0, .int j1, .int j2, .int j3, .int j4, .int j5, .int j6, .int j7, .int j8, .int j9, .int j10, .int j11, .ref jw, .ref jb]))] H := by rw [hH]; exact hP
  clear hH
  refine lv_aload_n hx hb dX10_told_0 rfl (lv_at hl 0 rfl) ?_
  refine lv_iload_n hx hb dX10_told_1 rfl (lv_at hl 1 rfl) ?_
  have hPc := hP.sub (ws' := [(x, .inr (11, [.ref nr, .ref st, .ref lf, .int 2, .int (nI tm), .int (nI fcn), .int xl, .int 0])), (nr, .inl (cN, 8, .inr (.inr (.inr (.inr fn)))))]) [0, 1] rfl
  have hDc := hD.sub (ws' := [(x, .inr (11, [.ref nr, .ref st, .ref lf, .int 2, .int (nI tm), .int (nI fcn), .int xl, .int 0])), (nr, .inl (cN, 8, .inr (.inr (.inr (.inr fn)))))]) [0, 1] (by decide +kernel) rfl
  have hKc := hK.sub (tys' := [(cN, (.object RX4))]) [0] rfl
  have hFc := ro_free hS hA
  refine va_callq (va_runV (As := [.int 1]) (rest := []) ⟨hx, hb, hml, hown, hts⟩ (c_find_1 l dC dI (x) (nr) (st) (lf) (tm) (fcn) (xl) (cN) (fn) (bn) H.size n1) (cwV 1 hts g_c_told_15_nc_c_find_1_53 rfl rfl rfl (by decide +kernel) ⟨Nat.le_of_ble_eq_true rfl, Nat.le_of_ble_eq_true rfl⟩) ⟨fun a U g mk q => by obtain ⟨q0, q1, qP, qK, qD, qE⟩ := q; exact ⟨q0, q1, qP, va_K.moved (u := U) (U := U.calling g mk a) (Vm.Alike.refl U.vm) qK, qD, ev.same (u := U) (U := U.calling g mk a) rfl qE⟩, va_recv hKc hPc (ci := 11) (q0 := 0) rfl rfl, fun U hU hW => ⟨rfl, by rw [hU], by rw [hU]; exact hPc, va_K.moved hW.alike hKc, hDc.weaken (fun _ _ _ _ => trivial), hE.warm hW⟩⟩ rfl rfl hl.1 rfl (lv_room (Nat.le_of_ble_eq_true rfl)) dX10_told_2 ⟨Nat.le_of_ble_eq_true rfl, Nat.le_of_ble_eq_true rfl⟩) hS (fun q _ h => hFc q h) hFc (fun r_1 u t H1 locs ht hvm hw hB hz1 hk1 hS => ?_)
  clear hPc hDc hKc
  replace hP := ro_keep hP hk1
  generalize H1 = H at hP hS ⊢
  replace hP : va_P (dC, dI) vwCl [(x, .inr (11, [.ref nr, .ref st, .ref lf, .int 2, .int (nI tm), .int (nI fcn), .int xl, .int 0])), (nr, .inl (cN, 8, .inr (.inr (.inr (.inr fn))))), (bn, .inr (5, [.int bh, .int bl, .int bwa, .int bfr, .int (nI bwi), .ref br, .ref be, .ref bs, .ref bi, .ref bg, .ref bc, .ref bu, .int 0, .int 2, .int 200, .int (nI bcc), .int 0, .int 0])), (bc, .inr (0, [.int (nI bcm), .ref bce, .int 0])), (bg, .inl (bcT, 3, .inr (.inr (.inr (.inr bfg))))), (tr, .inr (10, [.int 0, .int j1, .int j2, .int j3, .int j4, .int j5, .int j6, .int j7, .int j8, .int j9, .int j10, .int j11, .ref jw, .ref jb]))] H := hP
  have hw := hw.symm
  subst hw
  refine W.eq (g2 := F0 m 5 ls [.ref bn]) rfl ?_
  refine lv_astore_n (lv' := [(3, .ref bn), (0, .ref x), (1, .int 1), (2, .int 5)]) hx hb dX10_told_5 rfl hl (by decide) rfl (fun ls hl => ?_)
  refine lv_aload_n hx hb dX10_told_6 rfl (lv_at hl 0 rfl) ?_
  refine lv_ifnonnull (tgt := 12) hx hb dX10_told_7 (by decide) ?_
  refine lv_iload_n hx hb dX10_told_12 rfl (lv_at hl 3 rfl) ?_
  refine lv_tableIn (tgt := 90) hx hb dX10_told_13 (by decide) (by decide) rfl (by decide) ?_
  refine lv_aload_n hx hb dX10_told_90 rfl (lv_at hl 0 rfl) ?_
  have hPc := hP.sub (ws' := [(bn, .inr (5, [.int bh, .int bl, .int bwa, .int bfr, .int (nI bwi), .ref br, .ref be, .ref bs, .ref bi, .ref bg, .ref bc, .ref bu, .int 0, .int 2, .int (nI 200), .int (nI bcc), .int 0, .int 0])), (bc, .inr (0, [.int (nI bcm), .ref bce, .int 0])), (bg, .inl (bcT, 3, .inr (.inr (.inr (.inr bfg))))), (tr, .inr (10, [.int 0, .int j1, .int j2, .int j3, .int j4, .int j5, .int j6, .int j7, .int j8, .int j9, .int j10, .int j11, .ref jw, .ref jb]))]) [2, 3, 4, 5] rfl
  have hDc := hD.sub (ws' := [(bn, .inr (5, [.int bh, .int bl, .int bwa, .int bfr, .int (nI bwi), .ref br, .ref be, .ref bs, .ref bi, .ref bg, .ref bc, .ref bu, .int 0, .int 2, .int (nI 200), .int (nI bcc), .int 0, .int 0])), (bc, .inr (0, [.int (nI bcm), .ref bce, .int 0])), (bg, .inl (bcT, 3, .inr (.inr (.inr (.inr bfg))))), (tr, .inr (10, [.int 0, .int j1, .int j2, .int j3, .int j4, .int j5, .int j6, .int j7, .int j8, .int j9, .int j10, .int j11, .ref jw, .ref jb]))]) [2, 3, 4, 5] (by decide +kernel) rfl
  have hKc := hK.sub (tys' := [(bcT, (.object RX9))]) [1] rfl
  have hFc := ro_free hS hA
  refine va_calli (va_runV (As := []) (rest := []) ⟨hx, hb, hml, hown, hts⟩ (c_open_nc l dC dI (bn) (bh) (bl) (bwa) (bfr) (bwi) (br) (be) (bs) (bi) (bg) (bc) (bu) (200) (bcc) (bcm) (bce) (bcT) (bfg) (tr) (j1) (j2) (j3) (j4) (j5) (j6) (j7) (j8) (j9) (j10) (j11) (jw) (jb) H.size bg0_ bg1_ bg2_) (cwV 0 hts g_c_told_15_nc_c_open_nc_149 rfl rfl rfl (by decide +kernel) ⟨Nat.le_of_ble_eq_true rfl, Nat.le_of_ble_eq_true rfl⟩) ⟨fun a U g mk q => by obtain ⟨q0, q1, qP, qK, qD, qE⟩ := q; exact ⟨q0, q1, qP, va_K.moved (u := U) (U := U.calling g mk a) (Vm.Alike.refl U.vm) qK, qD, ev.same (u := U) (U := U.calling g mk a) rfl qE⟩, va_recv hKc hPc (ci := 5) (q0 := 0) rfl rfl, fun U hU hW => ⟨rfl, by rw [hU], by rw [hU]; exact hPc, va_K.moved hW.alike hKc, hDc.weaken (fun _ _ _ _ => trivial), hE.warm hW⟩⟩ rfl rfl hl.1 rfl (lv_room (Nat.le_of_ble_eq_true rfl)) dX10_told_91 ⟨Nat.le_of_ble_eq_true rfl, Nat.le_of_ble_eq_true rfl⟩) hS (fun q _ h => hFc q h) hFc (fun r_2 u t H1 locs ht hvm hw hB hz1 hk1 hS => ?_)
  clear hPc hDc hKc
  replace hP := ro_keep hP hk1
  generalize H1 = H at hP hS ⊢
  replace hP : va_P (dC, dI) vwCl [(x, .inr (11, [.ref nr, .ref st, .ref lf, .int 2, .int (nI tm), .int (nI fcn), .int xl, .int 0])), (nr, .inl (cN, 8, .inr (.inr (.inr (.inr fn))))), (bn, .inr (5, [.int bh, .int bl, .int bwa, .int bfr, .int (nI bwi), .ref br, .ref be, .ref bs, .ref bi, .ref bg, .ref bc, .ref bu, .int 0, .int 2, .int 200, .int (nI bcc), .int 0, .int 0])), (bc, .inr (0, [.int (nI bcm), .ref bce, .int 0])), (bg, .inl (bcT, 3, .inr (.inr (.inr (.inr bfg))))), (tr, .inr (10, [.int 0, .int j1, .int j2, .int j3, .int j4, .int j5, .int j6, .int j7, .int j8, .int j9, .int j10, .int j11, .ref jw, .ref jb]))] H := hP
  have hw := hw.symm
  subst hw
  exact W.iret (v := 0) hx hb hr (fun t ht hW => ⟨⟨0, (), rfl, rfl, trivial⟩, hS.F ht⟩) hS.2.2 dX10_told_94

noncomputable def tl_c_open_cn : List Cond := wsX40 ++ (wsX90 ++ (v_c_AL_size ++ (v_c_AL_get)))
noncomputable def v_c_open_cn : List Cond := .code yX4_openTransports cX4_openTransports 6 (some .int) :: ([.fieldLink RX4 34 "ClaimBus$Node" "gets" "[LClaimBus$Transport;", .fieldLink RX4 41 "ClaimBus$Node" "collects" "Ljava/util/ArrayList;", .initialized RJx4a65c, .methodLink RX4 96 yJx4a65c_size_8abf5, .instanceMethod yJx4a65c_size_8abf5, .selects RJx4a65c yJx4a65c_size_8abf5 yJx4a65c_size_8abf5, .methodLink RX4 100 yJx4a65c_get_915e3, .instanceMethod yJx4a65c_get_915e3, .selects RJx4a65c yJx4a65c_get_915e3 yJx4a65c_get_915e3, .classLink RX4 32 "ClaimBus$Transport", .fieldLink RX4 93 "ClaimBus$Transport" "open" "Z"] ++ tl_c_open_cn)
theorem it_c_open_cn : ∀ w ∈ tl_c_open_cn, w ∈ v_c_open_cn := fun w h => List.mem_cons_of_mem _ (List.mem_append_right _ h)
theorem in_c_open_cn_X4 : ∀ w ∈ wsX40, w ∈ v_c_open_cn := fun w h => it_c_open_cn w (List.mem_append_left _ h)
theorem in_c_open_cn_X9 : ∀ w ∈ wsX90, w ∈ v_c_open_cn := fun w h => it_c_open_cn w (List.mem_append_right _ (List.mem_append_left _ h))
theorem ic_c_open_cn_c_AL_size : ∀ w ∈ v_c_AL_size, w ∈ v_c_open_cn := fun w h => it_c_open_cn w (List.mem_append_right _ (List.mem_append_right _ (List.mem_append_left _ h)))
theorem ic_c_open_cn_c_AL_get : ∀ w ∈ v_c_AL_get, w ∈ v_c_open_cn := fun w h => it_c_open_cn w (List.mem_append_right _ (List.mem_append_right _ (List.mem_append_right _ (h))))
theorem gt_c_open_cn : ∀ w ∈ tl_c_open_cn, goodWord w = true := List.forall_mem_append.mpr ⟨gw_wsX40, List.forall_mem_append.mpr ⟨gw_wsX90, List.forall_mem_append.mpr ⟨gw_c_AL_size, gw_c_AL_get⟩⟩⟩
theorem gw_c_open_cn : ∀ w ∈ v_c_open_cn, goodWord w = true := List.forall_mem_cons.mpr ⟨by decide +kernel, List.forall_mem_append.mpr ⟨List.all_eq_true.mp (by decide +kernel), gt_c_open_cn⟩⟩
theorem g_c_open_cn_c_AL_size_96 : GoodIn v_c_open_cn (wsV RX4 96 RJx4a65c yJx4a65c_size_8abf5 v_c_AL_size) := goodIn_app (goodIn_r [.methodLink RX4 96 yJx4a65c_size_8abf5, .instanceMethod yJx4a65c_size_8abf5, .selects RJx4a65c yJx4a65c_size_8abf5 yJx4a65c_size_8abf5, .initialized RJx4a65c] [4, 5, 6, 3] (by decide +kernel) (by decide +kernel)) (fun w h => ⟨ic_c_open_cn_c_AL_size w h, good_of_word (gw_c_AL_size w h)⟩)
theorem g_c_open_cn_c_AL_get_100 : GoodIn v_c_open_cn (wsV RX4 100 RJx4a65c yJx4a65c_get_915e3 v_c_AL_get) := goodIn_app (goodIn_r [.methodLink RX4 100 yJx4a65c_get_915e3, .instanceMethod yJx4a65c_get_915e3, .selects RJx4a65c yJx4a65c_get_915e3 yJx4a65c_get_915e3, .initialized RJx4a65c] [7, 8, 9, 3] (by decide +kernel) (by decide +kernel)) (fun w h => ⟨ic_c_open_cn_c_AL_get w h, good_of_word (gw_c_AL_get w h)⟩)
set_option maxHeartbeats 4000000 in
set_option maxRecDepth 100000 in
theorem c_open_cn (l : Launch) (dC : Nat → ClassId) (dI : Nat → Nat → Nat) (nd : Nat) (nh : Int32) (nl : Int32) (nwa : Int32) (nfr : Int32) (nwi : Nat) (r : Nat) (nt : Nat) (ns : Nat) (ib : Nat) (gs : Nat) (cs : Nat) (nu : Nat) (nad : Nat) (ncc : Nat) (cm : Nat) (ce_ : Nat) (cQ : ClassId) (fq : Nat → Option Nat) (tq : Nat) (k1 : Int32) (k2 : Int32) (k3 : Int32) (k4 : Int32) (k5 : Int32) (k6 : Int32) (k7 : Int32) (k8 : Int32) (k9 : Int32) (k10 : Int32) (k11 : Int32) (kw : Nat) (kb : Nat) (cT : ClassId) (fg : Nat → Option Nat) (sz : Nat) (hq : fq 0 = some tq) (g0 : fg 0 = none) (g1 : fg 1 = none) (g2 : fg 2 = none) : Met l yX4_openTransports v_c_open_cn ({ frames := 3, cells := 0, slots := 0, locals := 64 }) (va_Pc [.ref nd] (fun U => U.heap.size = sz ∧ va_P (dC, dI) vwCl [(nd, .inr (5, [.int nh, .int nl, .int nwa, .int nfr, .int (nI nwi), .ref r, .ref nt, .ref ns, .ref ib, .ref gs, .ref cs, .ref nu, .int 0, .int 2, .int (nI nad), .int (nI ncc), .int 0, .int 0])), (cs, .inr (0, [.int (nI cm), .ref ce_, .int 1])), (ce_, .inl (cQ, 10, .inr (.inr (.inr (.inr fq))))), (tq, .inr (10, [.int 0, .int k1, .int k2, .int k3, .int k4, .int k5, .int k6, .int k7, .int k8, .int k9, .int k10, .int k11, .ref kw, .ref kb])), (gs, .inl (cT, 3, .inr (.inr (.inr (.inr fg)))))] U.heap ∧ va_K (dC, dI) vwCl [(cQ, (.object "java/lang/Object")), (cT, (.object RX9))] U ∧ va_D (fun _ => True) [(nd, .inr (5, [.int nh, .int nl, .int nwa, .int nfr, .int (nI nwi), .ref r, .ref nt, .ref ns, .ref ib, .ref gs, .ref cs, .ref nu, .int 0, .int 2, .int (nI nad), .int (nI ncc), .int 0, .int 0])), (cs, .inr (0, [.int (nI cm), .ref ce_, .int 1])), (ce_, .inl (cQ, 10, .inr (.inr (.inr (.inr fq))))), (tq, .inr (10, [.int 0, .int k1, .int k2, .int k3, .int k4, .int k5, .int k6, .int k7, .int k8, .int k9, .int k10, .int k11, .ref kw, .ref kb])), (gs, .inl (cT, 3, .inr (.inr (.inr (.inr fg)))))] ∧ ev U)) (va_Qi (fun (r : Int32) (_ : Unit) => r = 0) (fun (_ : Unit) (_ : State) => True) (va_A [] sz)) 0 0 (va_A [] sz) := by
  refine Met.ofW (cc := cX4_openTransports) (maxL := 6) (ret := (some .int)) (by decide) rfl ?_
  intro p e s m args below meth c s₁ B hml hv
  obtain ⟨rfl, hsz, hP, hK, hD0, hE⟩ := hv
  have hx := B.exec
  have hb := B.bytes
  have hr := B.returns
  have hts := atoms_spec (ws := v_c_open_cn) B.pre
  have hown : s.vm.findClass RX4 = some m.cls := findClass_of_methodNamed B.named
  have hlocks := B.notSynchronized
  subst hsz
  have hD := hD0
  generalize hAe : va_A [] s.heap.size = A
  have hA : ∀ q : Nat, s.heap.size ≤ q → A q := fun q h => by rw [← hAe]; exact Or.inr h
  have hS : va_S A s.heap s.heap [] := va_S.rf
  replace hP : va_P (dC, dI) vwCl [(nd, .inr (5, [.int nh, .int nl, .int nwa, .int nfr, .int (nI nwi), .ref r, .ref nt, .ref ns, .ref ib, .ref gs, .ref cs, .ref nu, .int 0, .int 2, .int (nI nad), .int (nI ncc), .int 0, .int 0])), (cs, .inr (0, [.int (nI cm), .ref ce_, .int 1])), (ce_, .inl (cQ, 10, .inr (.inr (.inr (.inr fq))))), (tq, .inr (10, [.int 0, .int k1, .int k2, .int k3, .int k4, .int k5, .int k6, .int k7, .int k8, .int k9, .int k10, .int k11, .ref kw, .ref kb])), (gs, .inl (cT, 3, .inr (.inr (.inr (.inr fg)))))] s.heap := hP
  have hl := lv_entry ([.ref nd]) (n := 6) (Nat.le_of_ble_eq_true rfl)
  rw [lg_entry_eq]
  generalize (lg_sl ([.ref nd]) ++ List.replicate (6 - (lg_sl ([.ref nd])).length) Slot.unset).toArray = ls at hl ⊢
  replace hl : lv_has ls 6 [(0, .ref nd)] := hl
  obtain ⟨H, hH⟩ : ∃ z : Heap, z = s.heap := ⟨_, rfl⟩
  rw [← hH]
  replace hS : va_S A s.heap H [] := by rw [hH]; exact va_S.rf
  replace hP : va_P (dC, dI) vwCl [(nd, .inr (5, [.int nh, .int nl, .int nwa, .int nfr, .int (nI nwi), .ref r, .ref nt, .ref ns, .ref ib, .ref gs, .ref cs, .ref nu, .int 0, .int 2, .int (nI nad), .int (nI ncc), .int 0, .int 0])), (cs, .inr (0, [.int (nI cm), .ref ce_, .int 1])), (ce_, .inl (cQ, 10, .inr (.inr (.inr (.inr fq))))), (tq, .inr (10, [.int 0, .int k1, .int k2, .int k3, .int k4, .int k5, .int k6, .int k7, .int k8, .int k9, .int k10, .int k11, .ref kw, .ref kb])), (gs, .inl (cT, 3, .inr (.inr (.inr (.inr fg)))))] H := by rw [hH]; exact hP
  clear hH
  refine lv_iconst (v := 0) hx hb dX4_openTransports_0 (by decide) ?_
  refine lv_istore_n (lv' := [(1, .int 0), (0, .ref nd)]) hx hb dX4_openTransports_1 rfl hl (by decide) rfl (fun ls hl => ?_)
  refine lv_aload_n hx hb dX4_openTransports_2 rfl (lv_at hl 1 rfl) ?_
  refine va_get (D := (dC, dI)) (ci := 5) (v := .ref gs) (C := RX4) (T := TX4) (N := 18) hx hb hts in_c_open_cn_X4 hown hK hP 0 rfl rfl 9 (by decide) (hts (.fieldLink RX4 34 "ClaimBus$Node" "gets" "[LClaimBus$Transport;") (List.mem_of_getElem? (i := 1) rfl)) (fun _ h9 => h9) rfl dX4_openTransports_3 ?_
  refine lv_astore_n (lv' := [(2, .ref gs), (1, .int 0), (0, .ref nd)]) hx hb dX4_openTransports_6 rfl hl (by decide) rfl (fun ls hl => ?_)
  refine lv_aload_n hx hb dX4_openTransports_7 rfl (lv_at hl 0 rfl) ?_
  refine va_alen hx hb hK hP 4 1 rfl rfl (v := 3) rfl dX4_openTransports_8 ?_
  refine lv_istore_n (lv' := [(3, .int 3), (2, .ref gs), (1, .int 0), (0, .ref nd)]) hx hb dX4_openTransports_9 rfl hl (by decide) rfl (fun ls hl => ?_)
  refine lv_iconst (v := 0) hx hb dX4_openTransports_10 (by decide) ?_
  refine lv_istore (lv' := [(4, .int 0), (3, .int 3), (2, .ref gs), (1, .int 0), (0, .ref nd)]) hx hb dX4_openTransports_11 hl (by decide) rfl (fun ls hl => ?_)
  refine lv_iload hx hb dX4_openTransports_13 (lv_at hl 0 rfl) ?_
  refine lv_iload_n hx hb dX4_openTransports_15 rfl (lv_at hl 1 rfl) ?_
  refine lv_icmp_ge (tgt := 47) hx hb dX4_openTransports_16 (by decide) (fun c_1 => ?_) (fun c_1 => ?_)
  · exact absurd c_1 (by decide)
  refine lv_aload_n hx hb dX4_openTransports_19 rfl (lv_at hl 2 rfl) ?_
  refine lv_iload hx hb dX4_openTransports_20 (lv_at hl 0 rfl) ?_
  refine va_aldq hx hb hK hP 4 1 rfl rfl (vp_in_nI (n := 0) (by omega) (by omega)) dX4_openTransports_22 ?_
  refine W.eq (g2 := F0 m 23 ls [.null]) (by rw [(show Int32.toNatClampNeg (0 : Int32) = 0 by decide), g0]; rfl) ?_
  refine lv_astoreN (lv' := [(5, .null), (4, .int 0), (3, .int 3), (2, .ref gs), (1, .int 0), (0, .ref nd)]) hx hb dX4_openTransports_23 hl (by decide) rfl (fun ls hl => ?_)
  refine lv_aloadN hx hb dX4_openTransports_25 (lv_at hl 0 rfl) ?_
  refine lv_ifnullN (tgt := 41) hx hb dX4_openTransports_27 (by decide) ?_
  refine lv_iinc (v := 1) (lv' := [(4, .int 1), (5, .null), (3, .int 3), (2, .ref gs), (1, .int 0), (0, .ref nd)]) hx hb dX4_openTransports_41 hl (k := 1) rfl (by decide) (by decide) rfl (fun ls hl => ?_)
  refine lv_goto (tgt := 13) hx hb dX4_openTransports_44 (by decide) ?_
  refine lv_iload hx hb dX4_openTransports_13 (lv_at hl 0 rfl) ?_
  refine lv_iload_n hx hb dX4_openTransports_15 rfl (lv_at hl 2 rfl) ?_
  refine lv_icmp_ge (tgt := 47) hx hb dX4_openTransports_16 (by decide) (fun c_2 => ?_) (fun c_2 => ?_)
  · exact absurd c_2 (by decide)
  refine lv_aload_n hx hb dX4_openTransports_19 rfl (lv_at hl 3 rfl) ?_
  refine lv_iload hx hb dX4_openTransports_20 (lv_at hl 0 rfl) ?_
  refine va_aldq hx hb hK hP 4 1 rfl rfl (vp_in_nI (n := 1) (by omega) (by omega)) dX4_openTransports_22 ?_
  refine W.eq (g2 := F0 m 23 ls [.null]) (by rw [(show Int32.toNatClampNeg (1 : Int32) = 1 by decide), g1]; rfl) ?_
  refine lv_astoreN (lv' := [(5, .null), (4, .int 1), (3, .int 3), (2, .ref gs), (1, .int 0), (0, .ref nd)]) hx hb dX4_openTransports_23 hl (by decide) rfl (fun ls hl => ?_)
  refine lv_aloadN hx hb dX4_openTransports_25 (lv_at hl 0 rfl) ?_
  refine lv_ifnullN (tgt := 41) hx hb dX4_openTransports_27 (by decide) ?_
  refine lv_iinc (v := 2) (lv' := [(4, .int 2), (5, .null), (3, .int 3), (2, .ref gs), (1, .int 0), (0, .ref nd)]) hx hb dX4_openTransports_41 hl (k := 1) rfl (by decide) (by decide) rfl (fun ls hl => ?_)
  refine lv_goto (tgt := 13) hx hb dX4_openTransports_44 (by decide) ?_
  refine lv_iload hx hb dX4_openTransports_13 (lv_at hl 0 rfl) ?_
  refine lv_iload_n hx hb dX4_openTransports_15 rfl (lv_at hl 2 rfl) ?_
  refine lv_icmp_ge (tgt := 47) hx hb dX4_openTransports_16 (by decide) (fun c_3 => ?_) (fun c_3 => ?_)
  · exact absurd c_3 (by decide)
  refine lv_aload_n hx hb dX4_openTransports_19 rfl (lv_at hl 3 rfl) ?_
  refine lv_iload hx hb dX4_openTransports_20 (lv_at hl 0 rfl) ?_
  refine va_aldq hx hb hK hP 4 1 rfl rfl (vp_in_nI (n := 2) (by omega) (by omega)) dX4_openTransports_22 ?_
  refine W.eq (g2 := F0 m 23 ls [.null]) (by rw [(show Int32.toNatClampNeg (2 : Int32) = 2 by decide), g2]; rfl) ?_
  refine lv_astoreN (lv' := [(5, .null), (4, .int 2), (3, .int 3), (2, .ref gs), (1, .int 0), (0, .ref nd)]) hx hb dX4_openTransports_23 hl (by decide) rfl (fun ls hl => ?_)
  refine lv_aloadN hx hb dX4_openTransports_25 (lv_at hl 0 rfl) ?_
  refine lv_ifnullN (tgt := 41) hx hb dX4_openTransports_27 (by decide) ?_
  refine lv_iinc (v := 3) (lv' := [(4, .int 3), (5, .null), (3, .int 3), (2, .ref gs), (1, .int 0), (0, .ref nd)]) hx hb dX4_openTransports_41 hl (k := 1) rfl (by decide) (by decide) rfl (fun ls hl => ?_)
  refine lv_goto (tgt := 13) hx hb dX4_openTransports_44 (by decide) ?_
  refine lv_iload hx hb dX4_openTransports_13 (lv_at hl 0 rfl) ?_
  refine lv_iload_n hx hb dX4_openTransports_15 rfl (lv_at hl 2 rfl) ?_
  refine lv_icmp_ge (tgt := 47) hx hb dX4_openTransports_16 (by decide) (fun c_4 => ?_) (fun c_4 => ?_)
  rotate_left
  · exact absurd (by decide) c_4
  refine lv_iconst (v := 0) hx hb dX4_openTransports_47 (by decide) ?_
  refine lv_istore_n (lv' := [(2, .int 0), (4, .int 3), (5, .null), (3, .int 3), (1, .int 0), (0, .ref nd)]) hx hb dX4_openTransports_48 rfl hl (by decide) rfl (fun ls hl => ?_)
  refine lv_iload_n hx hb dX4_openTransports_49 rfl (lv_at hl 0 rfl) ?_
  refine lv_aload_n hx hb dX4_openTransports_50 rfl (lv_at hl 5 rfl) ?_
  refine va_get (D := (dC, dI)) (ci := 5) (v := .ref cs) (C := RX4) (T := TX4) (N := 18) hx hb hts in_c_open_cn_X4 hown hK hP 0 rfl rfl 10 (by decide) (hts (.fieldLink RX4 41 "ClaimBus$Node" "collects" "Ljava/util/ArrayList;") (List.mem_of_getElem? (i := 2) rfl)) (fun _ h9 => h9) rfl dX4_openTransports_51 ?_
  have hPc := hP.sub (ws' := [(cs, .inr (0, [.int (nI cm), .ref ce_, .int (nI 1)]))]) [1] rfl
  have hDc := hD.sub (ws' := [(cs, .inr (0, [.int (nI cm), .ref ce_, .int (nI 1)]))]) [1] (by decide +kernel) rfl
  have hKc := hK.sub (tys' := []) [] rfl
  have hFc := ro_free hS hA
  refine va_calli (va_runV (As := []) (rest := [.int 0]) ⟨hx, hb, hml, hown, hts⟩ (c_AL_size l dC dI (cs) (cm) (ce_) (1) H.size) (cwV 0 hts g_c_open_cn_c_AL_size_96 rfl rfl rfl (by decide +kernel) ⟨Nat.le_of_ble_eq_true rfl, Nat.le_of_ble_eq_true rfl⟩) ⟨fun a U g mk q => by obtain ⟨q0, q1, qP, qK, qD, qE⟩ := q; exact ⟨q0, q1, qP, va_K.moved (u := U) (U := U.calling g mk a) (Vm.Alike.refl U.vm) qK, qD, ev.same (u := U) (U := U.calling g mk a) rfl qE⟩, va_recv hKc hPc (ci := 0) (q0 := 0) rfl rfl, fun U hU hW => ⟨rfl, by rw [hU], by rw [hU]; exact hPc, va_K.moved hW.alike hKc, hDc.weaken (fun _ _ _ _ => trivial), hE.warm hW⟩⟩ rfl rfl hl.1 rfl (lv_room (Nat.le_of_ble_eq_true rfl)) dX4_openTransports_54 ⟨Nat.le_of_ble_eq_true rfl, Nat.le_of_ble_eq_true rfl⟩) hS (fun q _ h => hFc q h) hFc (fun r_5 u t H1 locs ht hvm hw hB hz1 hk1 hS => ?_)
  clear hPc hDc hKc
  replace hP := ro_keep hP hk1
  generalize H1 = H at hP hS ⊢
  replace hP : va_P (dC, dI) vwCl [(nd, .inr (5, [.int nh, .int nl, .int nwa, .int nfr, .int (nI nwi), .ref r, .ref nt, .ref ns, .ref ib, .ref gs, .ref cs, .ref nu, .int 0, .int 2, .int (nI nad), .int (nI ncc), .int 0, .int 0])), (cs, .inr (0, [.int (nI cm), .ref ce_, .int 1])), (ce_, .inl (cQ, 10, .inr (.inr (.inr (.inr fq))))), (tq, .inr (10, [.int 0, .int k1, .int k2, .int k3, .int k4, .int k5, .int k6, .int k7, .int k8, .int k9, .int k10, .int k11, .ref kw, .ref kb])), (gs, .inl (cT, 3, .inr (.inr (.inr (.inr fg)))))] H := hP
  have hw := hw.symm
  subst hw
  rw [show ((nI 1) : Int32) = 1 from (congrArg nI (show 1 = 1 from by omega)).trans (by decide)]
  refine lv_icmp_ge (tgt := 86) hx hb dX4_openTransports_57 (by decide) (fun c_6 => ?_) (fun c_6 => ?_)
  · exact absurd c_6 (by decide)
  refine lv_aload_n hx hb dX4_openTransports_60 rfl (lv_at hl 5 rfl) ?_
  refine va_get (D := (dC, dI)) (ci := 5) (v := .ref cs) (C := RX4) (T := TX4) (N := 18) hx hb hts in_c_open_cn_X4 hown hK hP 0 rfl rfl 10 (by decide) (hts (.fieldLink RX4 41 "ClaimBus$Node" "collects" "Ljava/util/ArrayList;") (List.mem_of_getElem? (i := 2) rfl)) (fun _ h9 => h9) rfl dX4_openTransports_61 ?_
  refine lv_iload_n hx hb dX4_openTransports_64 rfl (lv_at hl 0 rfl) ?_
  have hPc := hP.sub (ws' := [(cs, .inr (0, [.int (nI cm), .ref ce_, .int (nI 1)])), (ce_, .inl (cQ, 10, .inr (.inr (.inr (.inr fq)))))]) [1, 2] rfl
  have hDc := hD.sub (ws' := [(cs, .inr (0, [.int (nI cm), .ref ce_, .int (nI 1)])), (ce_, .inl (cQ, 10, .inr (.inr (.inr (.inr fq)))))]) [1, 2] (by decide +kernel) rfl
  have hKc := hK.sub (tys' := [(cQ, (.object "java/lang/Object"))]) [0] rfl
  have hFc := ro_free hS hA
  refine va_callq (va_runV (As := [.int 0]) (rest := []) ⟨hx, hb, hml, hown, hts⟩ (c_AL_get l dC dI (cs) (cm) (ce_) (1) (cQ) (fq) (0) (tq) H.size hq (by omega) (by omega)) (cwV 1 hts g_c_open_cn_c_AL_get_100 rfl rfl rfl (by decide +kernel) ⟨Nat.le_of_ble_eq_true rfl, Nat.le_of_ble_eq_true rfl⟩) ⟨fun a U g mk q => by obtain ⟨q0, q1, qP, qK, qD, qE⟩ := q; exact ⟨q0, q1, qP, va_K.moved (u := U) (U := U.calling g mk a) (Vm.Alike.refl U.vm) qK, qD, ev.same (u := U) (U := U.calling g mk a) rfl qE⟩, va_recv hKc hPc (ci := 0) (q0 := 0) rfl rfl, fun U hU hW => ⟨rfl, by rw [hU], by rw [hU]; exact hPc, va_K.moved hW.alike hKc, hDc.weaken (fun _ _ _ _ => trivial), hE.warm hW⟩⟩ rfl rfl hl.1 rfl (lv_room (Nat.le_of_ble_eq_true rfl)) dX4_openTransports_65 ⟨Nat.le_of_ble_eq_true rfl, Nat.le_of_ble_eq_true rfl⟩) hS (fun q _ h => hFc q h) hFc (fun r_7 u t H1 locs ht hvm hw hB hz1 hk1 hS => ?_)
  clear hPc hDc hKc
  replace hP := ro_keep hP hk1
  generalize H1 = H at hP hS ⊢
  replace hP : va_P (dC, dI) vwCl [(nd, .inr (5, [.int nh, .int nl, .int nwa, .int nfr, .int (nI nwi), .ref r, .ref nt, .ref ns, .ref ib, .ref gs, .ref cs, .ref nu, .int 0, .int 2, .int (nI nad), .int (nI ncc), .int 0, .int 0])), (cs, .inr (0, [.int (nI cm), .ref ce_, .int 1])), (ce_, .inl (cQ, 10, .inr (.inr (.inr (.inr fq))))), (tq, .inr (10, [.int 0, .int k1, .int k2, .int k3, .int k4, .int k5, .int k6, .int k7, .int k8, .int k9, .int k10, .int k11, .ref kw, .ref kb])), (gs, .inl (cT, 3, .inr (.inr (.inr (.inr fg)))))] H := hP
  have hw := hw.symm
  subst hw
  refine W.eq (g2 := F0 m 68 ls [.ref tq]) rfl ?_
  refine va_castS hx hb hown (hts (.classLink RX4 32 "ClaimBus$Transport") (List.mem_of_getElem? (i := 10) rfl)) (hK.1 10 _ rfl).2 (va_recv hK hP (ci := 10) (q0 := 3) rfl rfl) dX4_openTransports_68 ?_
  refine va_get (D := (dC, dI)) (ci := 10) (v := .int 0) (C := RX9) (T := TX9) (N := 14) hx hb hts in_c_open_cn_X9 hown hK hP 3 rfl rfl 0 (by decide) (hts (.fieldLink RX4 93 "ClaimBus$Transport" "open" "Z") (List.mem_of_getElem? (i := 11) rfl)) (fun _ h9 => h9) rfl dX4_openTransports_71 ?_
  refine lv_if_eq (tgt := 80) hx hb dX4_openTransports_74 (by decide) (fun c_8 => ?_) (fun c_8 => ?_)
  rotate_left
  · exact absurd (by decide) c_8
  refine lv_iinc (v := 1) (lv' := [(2, .int 1), (4, .int 3), (5, .null), (3, .int 3), (1, .int 0), (0, .ref nd)]) hx hb dX4_openTransports_80 hl (k := 0) rfl (by decide) (by decide) rfl (fun ls hl => ?_)
  refine lv_goto (tgt := 49) hx hb dX4_openTransports_83 (by decide) ?_
  refine lv_iload_n hx hb dX4_openTransports_49 rfl (lv_at hl 0 rfl) ?_
  refine lv_aload_n hx hb dX4_openTransports_50 rfl (lv_at hl 5 rfl) ?_
  refine va_get (D := (dC, dI)) (ci := 5) (v := .ref cs) (C := RX4) (T := TX4) (N := 18) hx hb hts in_c_open_cn_X4 hown hK hP 0 rfl rfl 10 (by decide) (hts (.fieldLink RX4 41 "ClaimBus$Node" "collects" "Ljava/util/ArrayList;") (List.mem_of_getElem? (i := 2) rfl)) (fun _ h9 => h9) rfl dX4_openTransports_51 ?_
  have hPc := hP.sub (ws' := [(cs, .inr (0, [.int (nI cm), .ref ce_, .int (nI 1)]))]) [1] rfl
  have hDc := hD.sub (ws' := [(cs, .inr (0, [.int (nI cm), .ref ce_, .int (nI 1)]))]) [1] (by decide +kernel) rfl
  have hKc := hK.sub (tys' := []) [] rfl
  have hFc := ro_free hS hA
  refine va_calli (va_runV (As := []) (rest := [.int 1]) ⟨hx, hb, hml, hown, hts⟩ (c_AL_size l dC dI (cs) (cm) (ce_) (1) H.size) (cwV 0 hts g_c_open_cn_c_AL_size_96 rfl rfl rfl (by decide +kernel) ⟨Nat.le_of_ble_eq_true rfl, Nat.le_of_ble_eq_true rfl⟩) ⟨fun a U g mk q => by obtain ⟨q0, q1, qP, qK, qD, qE⟩ := q; exact ⟨q0, q1, qP, va_K.moved (u := U) (U := U.calling g mk a) (Vm.Alike.refl U.vm) qK, qD, ev.same (u := U) (U := U.calling g mk a) rfl qE⟩, va_recv hKc hPc (ci := 0) (q0 := 0) rfl rfl, fun U hU hW => ⟨rfl, by rw [hU], by rw [hU]; exact hPc, va_K.moved hW.alike hKc, hDc.weaken (fun _ _ _ _ => trivial), hE.warm hW⟩⟩ rfl rfl hl.1 rfl (lv_room (Nat.le_of_ble_eq_true rfl)) dX4_openTransports_54 ⟨Nat.le_of_ble_eq_true rfl, Nat.le_of_ble_eq_true rfl⟩) hS (fun q _ h => hFc q h) hFc (fun r_9 u t H1 locs ht hvm hw hB hz1 hk1 hS => ?_)
  clear hPc hDc hKc
  replace hP := ro_keep hP hk1
  generalize H1 = H at hP hS ⊢
  replace hP : va_P (dC, dI) vwCl [(nd, .inr (5, [.int nh, .int nl, .int nwa, .int nfr, .int (nI nwi), .ref r, .ref nt, .ref ns, .ref ib, .ref gs, .ref cs, .ref nu, .int 0, .int 2, .int (nI nad), .int (nI ncc), .int 0, .int 0])), (cs, .inr (0, [.int (nI cm), .ref ce_, .int 1])), (ce_, .inl (cQ, 10, .inr (.inr (.inr (.inr fq))))), (tq, .inr (10, [.int 0, .int k1, .int k2, .int k3, .int k4, .int k5, .int k6, .int k7, .int k8, .int k9, .int k10, .int k11, .ref kw, .ref kb])), (gs, .inl (cT, 3, .inr (.inr (.inr (.inr fg)))))] H := hP
  have hw := hw.symm
  subst hw
  rw [show ((nI 1) : Int32) = 1 from (congrArg nI (show 1 = 1 from by omega)).trans (by decide)]
  refine lv_icmp_ge (tgt := 86) hx hb dX4_openTransports_57 (by decide) (fun c_10 => ?_) (fun c_10 => ?_)
  rotate_left
  · exact absurd (by decide) c_10
  refine lv_iload_n hx hb dX4_openTransports_86 rfl (lv_at hl 4 rfl) ?_
  exact W.iret (v := 0) hx hb hr (fun t ht hW => ⟨⟨0, (), rfl, rfl, trivial⟩, hS.F ht⟩) hS.2.2 dX4_openTransports_87

noncomputable def tl_c_told_15_cn : List Cond := v_c_find_1 ++ (v_c_open_cn)
noncomputable def v_c_told_15_cn : List Cond := .code yX10_told cX10_told 4 (some .int) :: ([.initialized RX10, .methodLink RX10 53 yX10_find, .instanceMethod yX10_find, .selects RX10 yX10_find yX10_find, .initialized RX4, .methodLink RX10 149 yX4_openTransports, .instanceMethod yX4_openTransports, .selects RX4 yX4_openTransports yX4_openTransports] ++ tl_c_told_15_cn)
theorem it_c_told_15_cn : ∀ w ∈ tl_c_told_15_cn, w ∈ v_c_told_15_cn := fun w h => List.mem_cons_of_mem _ (List.mem_append_right _ h)
theorem ic_c_told_15_cn_c_find_1 : ∀ w ∈ v_c_find_1, w ∈ v_c_told_15_cn := fun w h => it_c_told_15_cn w (List.mem_append_left _ h)
theorem ic_c_told_15_cn_c_open_cn : ∀ w ∈ v_c_open_cn, w ∈ v_c_told_15_cn := fun w h => it_c_told_15_cn w (List.mem_append_right _ (h))
theorem gt_c_told_15_cn : ∀ w ∈ tl_c_told_15_cn, goodWord w = true := List.forall_mem_append.mpr ⟨gw_c_find_1, gw_c_open_cn⟩
theorem gw_c_told_15_cn : ∀ w ∈ v_c_told_15_cn, goodWord w = true := List.forall_mem_cons.mpr ⟨by decide +kernel, List.forall_mem_append.mpr ⟨List.all_eq_true.mp (by decide +kernel), gt_c_told_15_cn⟩⟩
theorem g_c_told_15_cn_c_find_1_53 : GoodIn v_c_told_15_cn (wsV RX10 53 RX10 yX10_find v_c_find_1) := goodIn_app (goodIn_r [.methodLink RX10 53 yX10_find, .instanceMethod yX10_find, .selects RX10 yX10_find yX10_find, .initialized RX10] [2, 3, 4, 1] (by decide +kernel) (by decide +kernel)) (fun w h => ⟨ic_c_told_15_cn_c_find_1 w h, good_of_word (gw_c_find_1 w h)⟩)
theorem g_c_told_15_cn_c_open_cn_149 : GoodIn v_c_told_15_cn (wsV RX10 149 RX4 yX4_openTransports v_c_open_cn) := goodIn_app (goodIn_r [.methodLink RX10 149 yX4_openTransports, .instanceMethod yX4_openTransports, .selects RX4 yX4_openTransports yX4_openTransports, .initialized RX4] [6, 7, 8, 5] (by decide +kernel) (by decide +kernel)) (fun w h => ⟨ic_c_told_15_cn_c_open_cn w h, good_of_word (gw_c_open_cn w h)⟩)
set_option maxHeartbeats 4000000 in
set_option maxRecDepth 100000 in
theorem c_told_15_cn (l : Launch) (dC : Nat → ClassId) (dI : Nat → Nat → Nat) (x : Nat) (nr : Nat) (st : Nat) (lf : Nat) (tm : Nat) (fcn : Nat) (xl : Int32) (cN : ClassId) (fn : Nat → Option Nat) (an : Nat) (bn : Nat) (bh : Int32) (bl : Int32) (bwa : Int32) (bfr : Int32) (bwi : Nat) (br : Nat) (be : Nat) (bs : Nat) (bi : Nat) (bg : Nat) (bc : Nat) (bu : Nat) (bcc : Nat) (bcm : Nat) (bce : Nat) (cQ : ClassId) (fq : Nat → Option Nat) (tq : Nat) (k1 : Int32) (k2 : Int32) (k3 : Int32) (k4 : Int32) (k5 : Int32) (k6 : Int32) (k7 : Int32) (k8 : Int32) (k9 : Int32) (k10 : Int32) (k11 : Int32) (kw : Nat) (kb : Nat) (bcT : ClassId) (bfg : Nat → Option Nat) (sz : Nat) (n0 : fn 0 = some an) (n1 : fn 1 = some bn) (hq : fq 0 = some tq) (bg0_ : bfg 0 = none) (bg1_ : bfg 1 = none) (bg2_ : bfg 2 = none) : Met l yX10_told v_c_told_15_cn ({ frames := 4, cells := 0, slots := 0, locals := 89 }) (va_Pc [.ref x, .int 1, .int 5] (fun U => U.heap.size = sz ∧ va_P (dC, dI) vwCl [(x, .inr (11, [.ref nr, .ref st, .ref lf, .int 2, .int (nI tm), .int (nI fcn), .int xl, .int 0])), (nr, .inl (cN, 8, .inr (.inr (.inr (.inr fn))))), (bn, .inr (5, [.int bh, .int bl, .int bwa, .int bfr, .int (nI bwi), .ref br, .ref be, .ref bs, .ref bi, .ref bg, .ref bc, .ref bu, .int 0, .int 2, .int 200, .int (nI bcc), .int 0, .int 0])), (bc, .inr (0, [.int (nI bcm), .ref bce, .int 1])), (bce, .inl (cQ, 10, .inr (.inr (.inr (.inr fq))))), (tq, .inr (10, [.int 0, .int k1, .int k2, .int k3, .int k4, .int k5, .int k6, .int k7, .int k8, .int k9, .int k10, .int k11, .ref kw, .ref kb])), (bg, .inl (bcT, 3, .inr (.inr (.inr (.inr bfg)))))] U.heap ∧ va_K (dC, dI) vwCl [(cN, (.object RX4)), (cQ, (.object "java/lang/Object")), (bcT, (.object RX9))] U ∧ va_D (fun _ => True) [(x, .inr (11, [.ref nr, .ref st, .ref lf, .int 2, .int (nI tm), .int (nI fcn), .int xl, .int 0])), (nr, .inl (cN, 8, .inr (.inr (.inr (.inr fn))))), (bn, .inr (5, [.int bh, .int bl, .int bwa, .int bfr, .int (nI bwi), .ref br, .ref be, .ref bs, .ref bi, .ref bg, .ref bc, .ref bu, .int 0, .int 2, .int 200, .int (nI bcc), .int 0, .int 0])), (bc, .inr (0, [.int (nI bcm), .ref bce, .int 1])), (bce, .inl (cQ, 10, .inr (.inr (.inr (.inr fq))))), (tq, .inr (10, [.int 0, .int k1, .int k2, .int k3, .int k4, .int k5, .int k6, .int k7, .int k8, .int k9, .int k10, .int k11, .ref kw, .ref kb])), (bg, .inl (bcT, 3, .inr (.inr (.inr (.inr bfg)))))] ∧ ev U)) (va_Qi (fun (r : Int32) (_ : Unit) => r = 0) (fun (_ : Unit) (_ : State) => True) (va_A [] sz)) 0 0 (va_A [] sz) := by
  refine Met.ofW (cc := cX10_told) (maxL := 4) (ret := (some .int)) (by decide) rfl ?_
  intro p e s m args below meth c s₁ B hml hv
  obtain ⟨rfl, hsz, hP, hK, hD0, hE⟩ := hv
  have hx := B.exec
  have hb := B.bytes
  have hr := B.returns
  have hts := atoms_spec (ws := v_c_told_15_cn) B.pre
  have hown : s.vm.findClass RX10 = some m.cls := findClass_of_methodNamed B.named
  have hlocks := B.notSynchronized
  subst hsz
  have hD := hD0
  generalize hAe : va_A [] s.heap.size = A
  have hA : ∀ q : Nat, s.heap.size ≤ q → A q := fun q h => by rw [← hAe]; exact Or.inr h
  have hS : va_S A s.heap s.heap [] := va_S.rf
  replace hP : va_P (dC, dI) vwCl [(x, .inr (11, [.ref nr, .ref st, .ref lf, .int 2, .int (nI tm), .int (nI fcn), .int xl, .int 0])), (nr, .inl (cN, 8, .inr (.inr (.inr (.inr fn))))), (bn, .inr (5, [.int bh, .int bl, .int bwa, .int bfr, .int (nI bwi), .ref br, .ref be, .ref bs, .ref bi, .ref bg, .ref bc, .ref bu, .int 0, .int 2, .int 200, .int (nI bcc), .int 0, .int 0])), (bc, .inr (0, [.int (nI bcm), .ref bce, .int 1])), (bce, .inl (cQ, 10, .inr (.inr (.inr (.inr fq))))), (tq, .inr (10, [.int 0, .int k1, .int k2, .int k3, .int k4, .int k5, .int k6, .int k7, .int k8, .int k9, .int k10, .int k11, .ref kw, .ref kb])), (bg, .inl (bcT, 3, .inr (.inr (.inr (.inr bfg)))))] s.heap := hP
  have hl := lv_entry ([.ref x, .int 1, .int 5]) (n := 4) (Nat.le_of_ble_eq_true rfl)
  rw [lg_entry_eq]
  generalize (lg_sl ([.ref x, .int 1, .int 5]) ++ List.replicate (4 - (lg_sl ([.ref x, .int 1, .int 5])).length) Slot.unset).toArray = ls at hl ⊢
  replace hl : lv_has ls 4 [(0, .ref x), (1, .int 1), (2, .int 5)] := hl
  obtain ⟨H, hH⟩ : ∃ z : Heap, z = s.heap := ⟨_, rfl⟩
  rw [← hH]
  replace hS : va_S A s.heap H [] := by rw [hH]; exact va_S.rf
  replace hP : va_P (dC, dI) vwCl [(x, .inr (11, [.ref nr, .ref st, .ref lf, .int 2, .int (nI tm), .int (nI fcn), .int xl, .int 0])), (nr, .inl (cN, 8, .inr (.inr (.inr (.inr fn))))), (bn, .inr (5, [.int bh, .int bl, .int bwa, .int bfr, .int (nI bwi), .ref br, .ref be, .ref bs, .ref bi, .ref bg, .ref bc, .ref bu, .int 0, .int 2, .int 200, .int (nI bcc), .int 0, .int 0])), (bc, .inr (0, [.int (nI bcm), .ref bce, .int 1])), (bce, .inl (cQ, 10, .inr (.inr (.inr (.inr fq))))), (tq, .inr (10, [.int 0, .int k1, .int k2, .int k3, .int k4, .int k5, .int k6, .int k7, .int k8, .int k9, .int k10, .int k11, .ref kw, .ref kb])), (bg, .inl (bcT, 3, .inr (.inr (.inr (.inr bfg)))))] H := by rw [hH]; exact hP
  clear hH
  refine lv_aload_n hx hb dX10_told_0 rfl (lv_at hl 0 rfl) ?_
  refine lv_iload_n hx hb dX10_told_1 rfl (lv_at hl 1 rfl) ?_
  have hPc := hP.sub (ws' := [(x, .inr (11, [.ref nr, .ref st, .ref lf, .int 2, .int (nI tm), .int (nI fcn), .int xl, .int 0])), (nr, .inl (cN, 8, .inr (.inr (.inr (.inr fn)))))]) [0, 1] rfl
  have hDc := hD.sub (ws' := [(x, .inr (11, [.ref nr, .ref st, .ref lf, .int 2, .int (nI tm), .int (nI fcn), .int xl, .int 0])), (nr, .inl (cN, 8, .inr (.inr (.inr (.inr fn)))))]) [0, 1] (by decide +kernel) rfl
  have hKc := hK.sub (tys' := [(cN, (.object RX4))]) [0] rfl
  have hFc := ro_free hS hA
  refine va_callq (va_runV (As := [.int 1]) (rest := []) ⟨hx, hb, hml, hown, hts⟩ (c_find_1 l dC dI (x) (nr) (st) (lf) (tm) (fcn) (xl) (cN) (fn) (bn) H.size n1) (cwV 1 hts g_c_told_15_cn_c_find_1_53 rfl rfl rfl (by decide +kernel) ⟨Nat.le_of_ble_eq_true rfl, Nat.le_of_ble_eq_true rfl⟩) ⟨fun a U g mk q => by obtain ⟨q0, q1, qP, qK, qD, qE⟩ := q; exact ⟨q0, q1, qP, va_K.moved (u := U) (U := U.calling g mk a) (Vm.Alike.refl U.vm) qK, qD, ev.same (u := U) (U := U.calling g mk a) rfl qE⟩, va_recv hKc hPc (ci := 11) (q0 := 0) rfl rfl, fun U hU hW => ⟨rfl, by rw [hU], by rw [hU]; exact hPc, va_K.moved hW.alike hKc, hDc.weaken (fun _ _ _ _ => trivial), hE.warm hW⟩⟩ rfl rfl hl.1 rfl (lv_room (Nat.le_of_ble_eq_true rfl)) dX10_told_2 ⟨Nat.le_of_ble_eq_true rfl, Nat.le_of_ble_eq_true rfl⟩) hS (fun q _ h => hFc q h) hFc (fun r_1 u t H1 locs ht hvm hw hB hz1 hk1 hS => ?_)
  clear hPc hDc hKc
  replace hP := ro_keep hP hk1
  generalize H1 = H at hP hS ⊢
  replace hP : va_P (dC, dI) vwCl [(x, .inr (11, [.ref nr, .ref st, .ref lf, .int 2, .int (nI tm), .int (nI fcn), .int xl, .int 0])), (nr, .inl (cN, 8, .inr (.inr (.inr (.inr fn))))), (bn, .inr (5, [.int bh, .int bl, .int bwa, .int bfr, .int (nI bwi), .ref br, .ref be, .ref bs, .ref bi, .ref bg, .ref bc, .ref bu, .int 0, .int 2, .int 200, .int (nI bcc), .int 0, .int 0])), (bc, .inr (0, [.int (nI bcm), .ref bce, .int 1])), (bce, .inl (cQ, 10, .inr (.inr (.inr (.inr fq))))), (tq, .inr (10, [.int 0, .int k1, .int k2, .int k3, .int k4, .int k5, .int k6, .int k7, .int k8, .int k9, .int k10, .int k11, .ref kw, .ref kb])), (bg, .inl (bcT, 3, .inr (.inr (.inr (.inr bfg)))))] H := hP
  have hw := hw.symm
  subst hw
  refine W.eq (g2 := F0 m 5 ls [.ref bn]) rfl ?_
  refine lv_astore_n (lv' := [(3, .ref bn), (0, .ref x), (1, .int 1), (2, .int 5)]) hx hb dX10_told_5 rfl hl (by decide) rfl (fun ls hl => ?_)
  refine lv_aload_n hx hb dX10_told_6 rfl (lv_at hl 0 rfl) ?_
  refine lv_ifnonnull (tgt := 12) hx hb dX10_told_7 (by decide) ?_
  refine lv_iload_n hx hb dX10_told_12 rfl (lv_at hl 3 rfl) ?_
  refine lv_tableIn (tgt := 90) hx hb dX10_told_13 (by decide) (by decide) rfl (by decide) ?_
  refine lv_aload_n hx hb dX10_told_90 rfl (lv_at hl 0 rfl) ?_
  have hPc := hP.sub (ws' := [(bn, .inr (5, [.int bh, .int bl, .int bwa, .int bfr, .int (nI bwi), .ref br, .ref be, .ref bs, .ref bi, .ref bg, .ref bc, .ref bu, .int 0, .int 2, .int (nI 200), .int (nI bcc), .int 0, .int 0])), (bc, .inr (0, [.int (nI bcm), .ref bce, .int 1])), (bce, .inl (cQ, 10, .inr (.inr (.inr (.inr fq))))), (tq, .inr (10, [.int 0, .int k1, .int k2, .int k3, .int k4, .int k5, .int k6, .int k7, .int k8, .int k9, .int k10, .int k11, .ref kw, .ref kb])), (bg, .inl (bcT, 3, .inr (.inr (.inr (.inr bfg)))))]) [2, 3, 4, 5, 6] rfl
  have hDc := hD.sub (ws' := [(bn, .inr (5, [.int bh, .int bl, .int bwa, .int bfr, .int (nI bwi), .ref br, .ref be, .ref bs, .ref bi, .ref bg, .ref bc, .ref bu, .int 0, .int 2, .int (nI 200), .int (nI bcc), .int 0, .int 0])), (bc, .inr (0, [.int (nI bcm), .ref bce, .int 1])), (bce, .inl (cQ, 10, .inr (.inr (.inr (.inr fq))))), (tq, .inr (10, [.int 0, .int k1, .int k2, .int k3, .int k4, .int k5, .int k6, .int k7, .int k8, .int k9, .int k10, .int k11, .ref kw, .ref kb])), (bg, .inl (bcT, 3, .inr (.inr (.inr (.inr bfg)))))]) [2, 3, 4, 5, 6] (by decide +kernel) rfl
  have hKc := hK.sub (tys' := [(cQ, (.object "java/lang/Object")), (bcT, (.object RX9))]) [1, 2] rfl
  have hFc := ro_free hS hA
  refine va_calli (va_runV (As := []) (rest := []) ⟨hx, hb, hml, hown, hts⟩ (c_open_cn l dC dI (bn) (bh) (bl) (bwa) (bfr) (bwi) (br) (be) (bs) (bi) (bg) (bc) (bu) (200) (bcc) (bcm) (bce) (cQ) (fq) (tq) (k1) (k2) (k3) (k4) (k5) (k6) (k7) (k8) (k9) (k10) (k11) (kw) (kb) (bcT) (bfg) H.size hq bg0_ bg1_ bg2_) (cwV 0 hts g_c_told_15_cn_c_open_cn_149 rfl rfl rfl (by decide +kernel) ⟨Nat.le_of_ble_eq_true rfl, Nat.le_of_ble_eq_true rfl⟩) ⟨fun a U g mk q => by obtain ⟨q0, q1, qP, qK, qD, qE⟩ := q; exact ⟨q0, q1, qP, va_K.moved (u := U) (U := U.calling g mk a) (Vm.Alike.refl U.vm) qK, qD, ev.same (u := U) (U := U.calling g mk a) rfl qE⟩, va_recv hKc hPc (ci := 5) (q0 := 0) rfl rfl, fun U hU hW => ⟨rfl, by rw [hU], by rw [hU]; exact hPc, va_K.moved hW.alike hKc, hDc.weaken (fun _ _ _ _ => trivial), hE.warm hW⟩⟩ rfl rfl hl.1 rfl (lv_room (Nat.le_of_ble_eq_true rfl)) dX10_told_91 ⟨Nat.le_of_ble_eq_true rfl, Nat.le_of_ble_eq_true rfl⟩) hS (fun q _ h => hFc q h) hFc (fun r_2 u t H1 locs ht hvm hw hB hz1 hk1 hS => ?_)
  clear hPc hDc hKc
  replace hP := ro_keep hP hk1
  generalize H1 = H at hP hS ⊢
  replace hP : va_P (dC, dI) vwCl [(x, .inr (11, [.ref nr, .ref st, .ref lf, .int 2, .int (nI tm), .int (nI fcn), .int xl, .int 0])), (nr, .inl (cN, 8, .inr (.inr (.inr (.inr fn))))), (bn, .inr (5, [.int bh, .int bl, .int bwa, .int bfr, .int (nI bwi), .ref br, .ref be, .ref bs, .ref bi, .ref bg, .ref bc, .ref bu, .int 0, .int 2, .int 200, .int (nI bcc), .int 0, .int 0])), (bc, .inr (0, [.int (nI bcm), .ref bce, .int 1])), (bce, .inl (cQ, 10, .inr (.inr (.inr (.inr fq))))), (tq, .inr (10, [.int 0, .int k1, .int k2, .int k3, .int k4, .int k5, .int k6, .int k7, .int k8, .int k9, .int k10, .int k11, .ref kw, .ref kb])), (bg, .inl (bcT, 3, .inr (.inr (.inr (.inr bfg)))))] H := hP
  have hw := hw.symm
  subst hw
  exact W.iret (v := 0) hx hb hr (fun t ht hW => ⟨⟨0, (), rfl, rfl, trivial⟩, hS.F ht⟩) hS.2.2 dX10_told_94

noncomputable def tl_c_open_cc : List Cond := wsX40 ++ (wsX90 ++ (v_c_AL_size ++ (v_c_AL_get)))
noncomputable def v_c_open_cc : List Cond := .code yX4_openTransports cX4_openTransports 6 (some .int) :: ([.fieldLink RX4 34 "ClaimBus$Node" "gets" "[LClaimBus$Transport;", .fieldLink RX4 93 "ClaimBus$Transport" "open" "Z", .fieldLink RX4 41 "ClaimBus$Node" "collects" "Ljava/util/ArrayList;", .initialized RJx4a65c, .methodLink RX4 96 yJx4a65c_size_8abf5, .instanceMethod yJx4a65c_size_8abf5, .selects RJx4a65c yJx4a65c_size_8abf5 yJx4a65c_size_8abf5, .methodLink RX4 100 yJx4a65c_get_915e3, .instanceMethod yJx4a65c_get_915e3, .selects RJx4a65c yJx4a65c_get_915e3 yJx4a65c_get_915e3, .classLink RX4 32 "ClaimBus$Transport"] ++ tl_c_open_cc)
theorem it_c_open_cc : ∀ w ∈ tl_c_open_cc, w ∈ v_c_open_cc := fun w h => List.mem_cons_of_mem _ (List.mem_append_right _ h)
theorem in_c_open_cc_X4 : ∀ w ∈ wsX40, w ∈ v_c_open_cc := fun w h => it_c_open_cc w (List.mem_append_left _ h)
theorem in_c_open_cc_X9 : ∀ w ∈ wsX90, w ∈ v_c_open_cc := fun w h => it_c_open_cc w (List.mem_append_right _ (List.mem_append_left _ h))
theorem ic_c_open_cc_c_AL_size : ∀ w ∈ v_c_AL_size, w ∈ v_c_open_cc := fun w h => it_c_open_cc w (List.mem_append_right _ (List.mem_append_right _ (List.mem_append_left _ h)))
theorem ic_c_open_cc_c_AL_get : ∀ w ∈ v_c_AL_get, w ∈ v_c_open_cc := fun w h => it_c_open_cc w (List.mem_append_right _ (List.mem_append_right _ (List.mem_append_right _ (h))))
theorem gt_c_open_cc : ∀ w ∈ tl_c_open_cc, goodWord w = true := List.forall_mem_append.mpr ⟨gw_wsX40, List.forall_mem_append.mpr ⟨gw_wsX90, List.forall_mem_append.mpr ⟨gw_c_AL_size, gw_c_AL_get⟩⟩⟩
theorem gw_c_open_cc : ∀ w ∈ v_c_open_cc, goodWord w = true := List.forall_mem_cons.mpr ⟨by decide +kernel, List.forall_mem_append.mpr ⟨List.all_eq_true.mp (by decide +kernel), gt_c_open_cc⟩⟩
theorem g_c_open_cc_c_AL_size_96 : GoodIn v_c_open_cc (wsV RX4 96 RJx4a65c yJx4a65c_size_8abf5 v_c_AL_size) := goodIn_app (goodIn_r [.methodLink RX4 96 yJx4a65c_size_8abf5, .instanceMethod yJx4a65c_size_8abf5, .selects RJx4a65c yJx4a65c_size_8abf5 yJx4a65c_size_8abf5, .initialized RJx4a65c] [5, 6, 7, 4] (by decide +kernel) (by decide +kernel)) (fun w h => ⟨ic_c_open_cc_c_AL_size w h, good_of_word (gw_c_AL_size w h)⟩)
theorem g_c_open_cc_c_AL_get_100 : GoodIn v_c_open_cc (wsV RX4 100 RJx4a65c yJx4a65c_get_915e3 v_c_AL_get) := goodIn_app (goodIn_r [.methodLink RX4 100 yJx4a65c_get_915e3, .instanceMethod yJx4a65c_get_915e3, .selects RJx4a65c yJx4a65c_get_915e3 yJx4a65c_get_915e3, .initialized RJx4a65c] [8, 9, 10, 4] (by decide +kernel) (by decide +kernel)) (fun w h => ⟨ic_c_open_cc_c_AL_get w h, good_of_word (gw_c_AL_get w h)⟩)
set_option maxHeartbeats 4000000 in
set_option maxRecDepth 100000 in
theorem c_open_cc (l : Launch) (dC : Nat → ClassId) (dI : Nat → Nat → Nat) (nd : Nat) (nh : Int32) (nl : Int32) (nwa : Int32) (nfr : Int32) (nwi : Nat) (r : Nat) (nt : Nat) (ns : Nat) (ib : Nat) (gs : Nat) (cs : Nat) (nu : Nat) (nad : Nat) (ncc : Nat) (cm : Nat) (ce_ : Nat) (cQ : ClassId) (fq : Nat → Option Nat) (tq : Nat) (k1 : Int32) (k2 : Int32) (k3 : Int32) (k4 : Int32) (k5 : Int32) (k6 : Int32) (k7 : Int32) (k8 : Int32) (k9 : Int32) (k10 : Int32) (k11 : Int32) (kw : Nat) (kb : Nat) (cT : ClassId) (fg : Nat → Option Nat) (tr : Nat) (j1 : Int32) (j2 : Int32) (j3 : Int32) (j4 : Int32) (j5 : Int32) (j6 : Int32) (j7 : Int32) (j8 : Int32) (j9 : Int32) (j10 : Int32) (j11 : Int32) (jw : Nat) (jb : Nat) (sz : Nat) (hq : fq 0 = some tq) (g0 : fg 0 = some tr) (g1 : fg 1 = none) (g2 : fg 2 = none) : Met l yX4_openTransports v_c_open_cc ({ frames := 3, cells := 0, slots := 0, locals := 64 }) (va_Pc [.ref nd] (fun U => U.heap.size = sz ∧ va_P (dC, dI) vwCl [(nd, .inr (5, [.int nh, .int nl, .int nwa, .int nfr, .int (nI nwi), .ref r, .ref nt, .ref ns, .ref ib, .ref gs, .ref cs, .ref nu, .int 0, .int 2, .int (nI nad), .int (nI ncc), .int 0, .int 0])), (cs, .inr (0, [.int (nI cm), .ref ce_, .int 1])), (ce_, .inl (cQ, 10, .inr (.inr (.inr (.inr fq))))), (tq, .inr (10, [.int 0, .int k1, .int k2, .int k3, .int k4, .int k5, .int k6, .int k7, .int k8, .int k9, .int k10, .int k11, .ref kw, .ref kb])), (gs, .inl (cT, 3, .inr (.inr (.inr (.inr fg))))), (tr, .inr (10, [.int 0, .int j1, .int j2, .int j3, .int j4, .int j5, .int j6, .int j7, .int j8, .int j9, .int j10, .int j11, .ref jw, .ref jb]))] U.heap ∧ va_K (dC, dI) vwCl [(cQ, (.object "java/lang/Object")), (cT, (.object RX9))] U ∧ va_D (fun _ => True) [(nd, .inr (5, [.int nh, .int nl, .int nwa, .int nfr, .int (nI nwi), .ref r, .ref nt, .ref ns, .ref ib, .ref gs, .ref cs, .ref nu, .int 0, .int 2, .int (nI nad), .int (nI ncc), .int 0, .int 0])), (cs, .inr (0, [.int (nI cm), .ref ce_, .int 1])), (ce_, .inl (cQ, 10, .inr (.inr (.inr (.inr fq))))), (tq, .inr (10, [.int 0, .int k1, .int k2, .int k3, .int k4, .int k5, .int k6, .int k7, .int k8, .int k9, .int k10, .int k11, .ref kw, .ref kb])), (gs, .inl (cT, 3, .inr (.inr (.inr (.inr fg))))), (tr, .inr (10, [.int 0, .int j1, .int j2, .int j3, .int j4, .int j5, .int j6, .int j7, .int j8, .int j9, .int j10, .int j11, .ref jw, .ref jb]))] ∧ ev U)) (va_Qi (fun (r : Int32) (_ : Unit) => r = 0) (fun (_ : Unit) (_ : State) => True) (va_A [] sz)) 0 0 (va_A [] sz) := by
  refine Met.ofW (cc := cX4_openTransports) (maxL := 6) (ret := (some .int)) (by decide) rfl ?_
  intro p e s m args below meth c s₁ B hml hv
  obtain ⟨rfl, hsz, hP, hK, hD0, hE⟩ := hv
  have hx := B.exec
  have hb := B.bytes
  have hr := B.returns
  have hts := atoms_spec (ws := v_c_open_cc) B.pre
  have hown : s.vm.findClass RX4 = some m.cls := findClass_of_methodNamed B.named
  have hlocks := B.notSynchronized
  subst hsz
  have hD := hD0
  generalize hAe : va_A [] s.heap.size = A
  have hA : ∀ q : Nat, s.heap.size ≤ q → A q := fun q h => by rw [← hAe]; exact Or.inr h
  have hS : va_S A s.heap s.heap [] := va_S.rf
  replace hP : va_P (dC, dI) vwCl [(nd, .inr (5, [.int nh, .int nl, .int nwa, .int nfr, .int (nI nwi), .ref r, .ref nt, .ref ns, .ref ib, .ref gs, .ref cs, .ref nu, .int 0, .int 2, .int (nI nad), .int (nI ncc), .int 0, .int 0])), (cs, .inr (0, [.int (nI cm), .ref ce_, .int 1])), (ce_, .inl (cQ, 10, .inr (.inr (.inr (.inr fq))))), (tq, .inr (10, [.int 0, .int k1, .int k2, .int k3, .int k4, .int k5, .int k6, .int k7, .int k8, .int k9, .int k10, .int k11, .ref kw, .ref kb])), (gs, .inl (cT, 3, .inr (.inr (.inr (.inr fg))))), (tr, .inr (10, [.int 0, .int j1, .int j2, .int j3, .int j4, .int j5, .int j6, .int j7, .int j8, .int j9, .int j10, .int j11, .ref jw, .ref jb]))] s.heap := hP
  have hl := lv_entry ([.ref nd]) (n := 6) (Nat.le_of_ble_eq_true rfl)
  rw [lg_entry_eq]
  generalize (lg_sl ([.ref nd]) ++ List.replicate (6 - (lg_sl ([.ref nd])).length) Slot.unset).toArray = ls at hl ⊢
  replace hl : lv_has ls 6 [(0, .ref nd)] := hl
  obtain ⟨H, hH⟩ : ∃ z : Heap, z = s.heap := ⟨_, rfl⟩
  rw [← hH]
  replace hS : va_S A s.heap H [] := by rw [hH]; exact va_S.rf
  replace hP : va_P (dC, dI) vwCl [(nd, .inr (5, [.int nh, .int nl, .int nwa, .int nfr, .int (nI nwi), .ref r, .ref nt, .ref ns, .ref ib, .ref gs, .ref cs, .ref nu, .int 0, .int 2, .int (nI nad), .int (nI ncc), .int 0, .int 0])), (cs, .inr (0, [.int (nI cm), .ref ce_, .int 1])), (ce_, .inl (cQ, 10, .inr (.inr (.inr (.inr fq))))), (tq, .inr (10, [.int 0, .int k1, .int k2, .int k3, .int k4, .int k5, .int k6, .int k7, .int k8, .int k9, .int k10, .int k11, .ref kw, .ref kb])), (gs, .inl (cT, 3, .inr (.inr (.inr (.inr fg))))), (tr, .inr (10, [.int 0, .int j1, .int j2, .int j3, .int j4, .int j5, .int j6, .int j7, .int j8, .int j9, .int j10, .int j11, .ref jw, .ref jb]))] H := by rw [hH]; exact hP
  clear hH
  refine lv_iconst (v := 0) hx hb dX4_openTransports_0 (by decide) ?_
  refine lv_istore_n (lv' := [(1, .int 0), (0, .ref nd)]) hx hb dX4_openTransports_1 rfl hl (by decide) rfl (fun ls hl => ?_)
  refine lv_aload_n hx hb dX4_openTransports_2 rfl (lv_at hl 1 rfl) ?_
  refine va_get (D := (dC, dI)) (ci := 5) (v := .ref gs) (C := RX4) (T := TX4) (N := 18) hx hb hts in_c_open_cc_X4 hown hK hP 0 rfl rfl 9 (by decide) (hts (.fieldLink RX4 34 "ClaimBus$Node" "gets" "[LClaimBus$Transport;") (List.mem_of_getElem? (i := 1) rfl)) (fun _ h9 => h9) rfl dX4_openTransports_3 ?_
  refine lv_astore_n (lv' := [(2, .ref gs), (1, .int 0), (0, .ref nd)]) hx hb dX4_openTransports_6 rfl hl (by decide) rfl (fun ls hl => ?_)
  refine lv_aload_n hx hb dX4_openTransports_7 rfl (lv_at hl 0 rfl) ?_
  refine va_alen hx hb hK hP 4 1 rfl rfl (v := 3) rfl dX4_openTransports_8 ?_
  refine lv_istore_n (lv' := [(3, .int 3), (2, .ref gs), (1, .int 0), (0, .ref nd)]) hx hb dX4_openTransports_9 rfl hl (by decide) rfl (fun ls hl => ?_)
  refine lv_iconst (v := 0) hx hb dX4_openTransports_10 (by decide) ?_
  refine lv_istore (lv' := [(4, .int 0), (3, .int 3), (2, .ref gs), (1, .int 0), (0, .ref nd)]) hx hb dX4_openTransports_11 hl (by decide) rfl (fun ls hl => ?_)
  refine lv_iload hx hb dX4_openTransports_13 (lv_at hl 0 rfl) ?_
  refine lv_iload_n hx hb dX4_openTransports_15 rfl (lv_at hl 1 rfl) ?_
  refine lv_icmp_ge (tgt := 47) hx hb dX4_openTransports_16 (by decide) (fun c_1 => ?_) (fun c_1 => ?_)
  · exact absurd c_1 (by decide)
  refine lv_aload_n hx hb dX4_openTransports_19 rfl (lv_at hl 2 rfl) ?_
  refine lv_iload hx hb dX4_openTransports_20 (lv_at hl 0 rfl) ?_
  refine va_aldq hx hb hK hP 4 1 rfl rfl (vp_in_nI (n := 0) (by omega) (by omega)) dX4_openTransports_22 ?_
  refine W.eq (g2 := F0 m 23 ls [.ref tr]) (by rw [(show Int32.toNatClampNeg (0 : Int32) = 0 by decide), g0]; rfl) ?_
  refine lv_astore (lv' := [(5, .ref tr), (4, .int 0), (3, .int 3), (2, .ref gs), (1, .int 0), (0, .ref nd)]) hx hb dX4_openTransports_23 hl (by decide) rfl (fun ls hl => ?_)
  refine lv_aload hx hb dX4_openTransports_25 (lv_at hl 0 rfl) ?_
  refine lv_ifnull hx hb dX4_openTransports_27 ?_
  refine lv_aload hx hb dX4_openTransports_30 (lv_at hl 0 rfl) ?_
  refine va_get (D := (dC, dI)) (ci := 10) (v := .int 0) (C := RX9) (T := TX9) (N := 14) hx hb hts in_c_open_cc_X9 hown hK hP 5 rfl rfl 0 (by decide) (hts (.fieldLink RX4 93 "ClaimBus$Transport" "open" "Z") (List.mem_of_getElem? (i := 2) rfl)) (fun _ h9 => h9) rfl dX4_openTransports_32 ?_
  refine lv_if_eq (tgt := 41) hx hb dX4_openTransports_35 (by decide) (fun c_2 => ?_) (fun c_2 => ?_)
  rotate_left
  · exact absurd (by decide) c_2
  refine lv_iinc (v := 1) (lv' := [(4, .int 1), (5, .ref tr), (3, .int 3), (2, .ref gs), (1, .int 0), (0, .ref nd)]) hx hb dX4_openTransports_41 hl (k := 1) rfl (by decide) (by decide) rfl (fun ls hl => ?_)
  refine lv_goto (tgt := 13) hx hb dX4_openTransports_44 (by decide) ?_
  refine lv_iload hx hb dX4_openTransports_13 (lv_at hl 0 rfl) ?_
  refine lv_iload_n hx hb dX4_openTransports_15 rfl (lv_at hl 2 rfl) ?_
  refine lv_icmp_ge (tgt := 47) hx hb dX4_openTransports_16 (by decide) (fun c_3 => ?_) (fun c_3 => ?_)
  · exact absurd c_3 (by decide)
  refine lv_aload_n hx hb dX4_openTransports_19 rfl (lv_at hl 3 rfl) ?_
  refine lv_iload hx hb dX4_openTransports_20 (lv_at hl 0 rfl) ?_
  refine va_aldq hx hb hK hP 4 1 rfl rfl (vp_in_nI (n := 1) (by omega) (by omega)) dX4_openTransports_22 ?_
  refine W.eq (g2 := F0 m 23 ls [.null]) (by rw [(show Int32.toNatClampNeg (1 : Int32) = 1 by decide), g1]; rfl) ?_
  refine lv_astoreN (lv' := [(5, .null), (4, .int 1), (3, .int 3), (2, .ref gs), (1, .int 0), (0, .ref nd)]) hx hb dX4_openTransports_23 hl (by decide) rfl (fun ls hl => ?_)
  refine lv_aloadN hx hb dX4_openTransports_25 (lv_at hl 0 rfl) ?_
  refine lv_ifnullN (tgt := 41) hx hb dX4_openTransports_27 (by decide) ?_
  refine lv_iinc (v := 2) (lv' := [(4, .int 2), (5, .null), (3, .int 3), (2, .ref gs), (1, .int 0), (0, .ref nd)]) hx hb dX4_openTransports_41 hl (k := 1) rfl (by decide) (by decide) rfl (fun ls hl => ?_)
  refine lv_goto (tgt := 13) hx hb dX4_openTransports_44 (by decide) ?_
  refine lv_iload hx hb dX4_openTransports_13 (lv_at hl 0 rfl) ?_
  refine lv_iload_n hx hb dX4_openTransports_15 rfl (lv_at hl 2 rfl) ?_
  refine lv_icmp_ge (tgt := 47) hx hb dX4_openTransports_16 (by decide) (fun c_4 => ?_) (fun c_4 => ?_)
  · exact absurd c_4 (by decide)
  refine lv_aload_n hx hb dX4_openTransports_19 rfl (lv_at hl 3 rfl) ?_
  refine lv_iload hx hb dX4_openTransports_20 (lv_at hl 0 rfl) ?_
  refine va_aldq hx hb hK hP 4 1 rfl rfl (vp_in_nI (n := 2) (by omega) (by omega)) dX4_openTransports_22 ?_
  refine W.eq (g2 := F0 m 23 ls [.null]) (by rw [(show Int32.toNatClampNeg (2 : Int32) = 2 by decide), g2]; rfl) ?_
  refine lv_astoreN (lv' := [(5, .null), (4, .int 2), (3, .int 3), (2, .ref gs), (1, .int 0), (0, .ref nd)]) hx hb dX4_openTransports_23 hl (by decide) rfl (fun ls hl => ?_)
  refine lv_aloadN hx hb dX4_openTransports_25 (lv_at hl 0 rfl) ?_
  refine lv_ifnullN (tgt := 41) hx hb dX4_openTransports_27 (by decide) ?_
  refine lv_iinc (v := 3) (lv' := [(4, .int 3), (5, .null), (3, .int 3), (2, .ref gs), (1, .int 0), (0, .ref nd)]) hx hb dX4_openTransports_41 hl (k := 1) rfl (by decide) (by decide) rfl (fun ls hl => ?_)
  refine lv_goto (tgt := 13) hx hb dX4_openTransports_44 (by decide) ?_
  refine lv_iload hx hb dX4_openTransports_13 (lv_at hl 0 rfl) ?_
  refine lv_iload_n hx hb dX4_openTransports_15 rfl (lv_at hl 2 rfl) ?_
  refine lv_icmp_ge (tgt := 47) hx hb dX4_openTransports_16 (by decide) (fun c_5 => ?_) (fun c_5 => ?_)
  rotate_left
  · exact absurd (by decide) c_5
  refine lv_iconst (v := 0) hx hb dX4_openTransports_47 (by decide) ?_
  refine lv_istore_n (lv' := [(2, .int 0), (4, .int 3), (5, .null), (3, .int 3), (1, .int 0), (0, .ref nd)]) hx hb dX4_openTransports_48 rfl hl (by decide) rfl (fun ls hl => ?_)
  refine lv_iload_n hx hb dX4_openTransports_49 rfl (lv_at hl 0 rfl) ?_
  refine lv_aload_n hx hb dX4_openTransports_50 rfl (lv_at hl 5 rfl) ?_
  refine va_get (D := (dC, dI)) (ci := 5) (v := .ref cs) (C := RX4) (T := TX4) (N := 18) hx hb hts in_c_open_cc_X4 hown hK hP 0 rfl rfl 10 (by decide) (hts (.fieldLink RX4 41 "ClaimBus$Node" "collects" "Ljava/util/ArrayList;") (List.mem_of_getElem? (i := 3) rfl)) (fun _ h9 => h9) rfl dX4_openTransports_51 ?_
  have hPc := hP.sub (ws' := [(cs, .inr (0, [.int (nI cm), .ref ce_, .int (nI 1)]))]) [1] rfl
  have hDc := hD.sub (ws' := [(cs, .inr (0, [.int (nI cm), .ref ce_, .int (nI 1)]))]) [1] (by decide +kernel) rfl
  have hKc := hK.sub (tys' := []) [] rfl
  have hFc := ro_free hS hA
  refine va_calli (va_runV (As := []) (rest := [.int 0]) ⟨hx, hb, hml, hown, hts⟩ (c_AL_size l dC dI (cs) (cm) (ce_) (1) H.size) (cwV 0 hts g_c_open_cc_c_AL_size_96 rfl rfl rfl (by decide +kernel) ⟨Nat.le_of_ble_eq_true rfl, Nat.le_of_ble_eq_true rfl⟩) ⟨fun a U g mk q => by obtain ⟨q0, q1, qP, qK, qD, qE⟩ := q; exact ⟨q0, q1, qP, va_K.moved (u := U) (U := U.calling g mk a) (Vm.Alike.refl U.vm) qK, qD, ev.same (u := U) (U := U.calling g mk a) rfl qE⟩, va_recv hKc hPc (ci := 0) (q0 := 0) rfl rfl, fun U hU hW => ⟨rfl, by rw [hU], by rw [hU]; exact hPc, va_K.moved hW.alike hKc, hDc.weaken (fun _ _ _ _ => trivial), hE.warm hW⟩⟩ rfl rfl hl.1 rfl (lv_room (Nat.le_of_ble_eq_true rfl)) dX4_openTransports_54 ⟨Nat.le_of_ble_eq_true rfl, Nat.le_of_ble_eq_true rfl⟩) hS (fun q _ h => hFc q h) hFc (fun r_6 u t H1 locs ht hvm hw hB hz1 hk1 hS => ?_)
  clear hPc hDc hKc
  replace hP := ro_keep hP hk1
  generalize H1 = H at hP hS ⊢
  replace hP : va_P (dC, dI) vwCl [(nd, .inr (5, [.int nh, .int nl, .int nwa, .int nfr, .int (nI nwi), .ref r, .ref nt, .ref ns, .ref ib, .ref gs, .ref cs, .ref nu, .int 0, .int 2, .int (nI nad), .int (nI ncc), .int 0, .int 0])), (cs, .inr (0, [.int (nI cm), .ref ce_, .int 1])), (ce_, .inl (cQ, 10, .inr (.inr (.inr (.inr fq))))), (tq, .inr (10, [.int 0, .int k1, .int k2, .int k3, .int k4, .int k5, .int k6, .int k7, .int k8, .int k9, .int k10, .int k11, .ref kw, .ref kb])), (gs, .inl (cT, 3, .inr (.inr (.inr (.inr fg))))), (tr, .inr (10, [.int 0, .int j1, .int j2, .int j3, .int j4, .int j5, .int j6, .int j7, .int j8, .int j9, .int j10, .int j11, .ref jw, .ref jb]))] H := hP
  have hw := hw.symm
  subst hw
  rw [show ((nI 1) : Int32) = 1 from (congrArg nI (show 1 = 1 from by omega)).trans (by decide)]
  refine lv_icmp_ge (tgt := 86) hx hb dX4_openTransports_57 (by decide) (fun c_7 => ?_) (fun c_7 => ?_)
  · exact absurd c_7 (by decide)
  refine lv_aload_n hx hb dX4_openTransports_60 rfl (lv_at hl 5 rfl) ?_
  refine va_get (D := (dC, dI)) (ci := 5) (v := .ref cs) (C := RX4) (T := TX4) (N := 18) hx hb hts in_c_open_cc_X4 hown hK hP 0 rfl rfl 10 (by decide) (hts (.fieldLink RX4 41 "ClaimBus$Node" "collects" "Ljava/util/ArrayList;") (List.mem_of_getElem? (i := 3) rfl)) (fun _ h9 => h9) rfl dX4_openTransports_61 ?_
  refine lv_iload_n hx hb dX4_openTransports_64 rfl (lv_at hl 0 rfl) ?_
  have hPc := hP.sub (ws' := [(cs, .inr (0, [.int (nI cm), .ref ce_, .int (nI 1)])), (ce_, .inl (cQ, 10, .inr (.inr (.inr (.inr fq)))))]) [1, 2] rfl
  have hDc := hD.sub (ws' := [(cs, .inr (0, [.int (nI cm), .ref ce_, .int (nI 1)])), (ce_, .inl (cQ, 10, .inr (.inr (.inr (.inr fq)))))]) [1, 2] (by decide +kernel) rfl
  have hKc := hK.sub (tys' := [(cQ, (.object "java/lang/Object"))]) [0] rfl
  have hFc := ro_free hS hA
  refine va_callq (va_runV (As := [.int 0]) (rest := []) ⟨hx, hb, hml, hown, hts⟩ (c_AL_get l dC dI (cs) (cm) (ce_) (1) (cQ) (fq) (0) (tq) H.size hq (by omega) (by omega)) (cwV 1 hts g_c_open_cc_c_AL_get_100 rfl rfl rfl (by decide +kernel) ⟨Nat.le_of_ble_eq_true rfl, Nat.le_of_ble_eq_true rfl⟩) ⟨fun a U g mk q => by obtain ⟨q0, q1, qP, qK, qD, qE⟩ := q; exact ⟨q0, q1, qP, va_K.moved (u := U) (U := U.calling g mk a) (Vm.Alike.refl U.vm) qK, qD, ev.same (u := U) (U := U.calling g mk a) rfl qE⟩, va_recv hKc hPc (ci := 0) (q0 := 0) rfl rfl, fun U hU hW => ⟨rfl, by rw [hU], by rw [hU]; exact hPc, va_K.moved hW.alike hKc, hDc.weaken (fun _ _ _ _ => trivial), hE.warm hW⟩⟩ rfl rfl hl.1 rfl (lv_room (Nat.le_of_ble_eq_true rfl)) dX4_openTransports_65 ⟨Nat.le_of_ble_eq_true rfl, Nat.le_of_ble_eq_true rfl⟩) hS (fun q _ h => hFc q h) hFc (fun r_8 u t H1 locs ht hvm hw hB hz1 hk1 hS => ?_)
  clear hPc hDc hKc
  replace hP := ro_keep hP hk1
  generalize H1 = H at hP hS ⊢
  replace hP : va_P (dC, dI) vwCl [(nd, .inr (5, [.int nh, .int nl, .int nwa, .int nfr, .int (nI nwi), .ref r, .ref nt, .ref ns, .ref ib, .ref gs, .ref cs, .ref nu, .int 0, .int 2, .int (nI nad), .int (nI ncc), .int 0, .int 0])), (cs, .inr (0, [.int (nI cm), .ref ce_, .int 1])), (ce_, .inl (cQ, 10, .inr (.inr (.inr (.inr fq))))), (tq, .inr (10, [.int 0, .int k1, .int k2, .int k3, .int k4, .int k5, .int k6, .int k7, .int k8, .int k9, .int k10, .int k11, .ref kw, .ref kb])), (gs, .inl (cT, 3, .inr (.inr (.inr (.inr fg))))), (tr, .inr (10, [.int 0, .int j1, .int j2, .int j3, .int j4, .int j5, .int j6, .int j7, .int j8, .int j9, .int j10, .int j11, .ref jw, .ref jb]))] H := hP
  have hw := hw.symm
  subst hw
  refine W.eq (g2 := F0 m 68 ls [.ref tq]) rfl ?_
  refine va_castS hx hb hown (hts (.classLink RX4 32 "ClaimBus$Transport") (List.mem_of_getElem? (i := 11) rfl)) (hK.1 10 _ rfl).2 (va_recv hK hP (ci := 10) (q0 := 3) rfl rfl) dX4_openTransports_68 ?_
  refine va_get (D := (dC, dI)) (ci := 10) (v := .int 0) (C := RX9) (T := TX9) (N := 14) hx hb hts in_c_open_cc_X9 hown hK hP 3 rfl rfl 0 (by decide) (hts (.fieldLink RX4 93 "ClaimBus$Transport" "open" "Z") (List.mem_of_getElem? (i := 2) rfl)) (fun _ h9 => h9) rfl dX4_openTransports_71 ?_
  refine lv_if_eq (tgt := 80) hx hb dX4_openTransports_74 (by decide) (fun c_9 => ?_) (fun c_9 => ?_)
  rotate_left
  · exact absurd (by decide) c_9
  refine lv_iinc (v := 1) (lv' := [(2, .int 1), (4, .int 3), (5, .null), (3, .int 3), (1, .int 0), (0, .ref nd)]) hx hb dX4_openTransports_80 hl (k := 0) rfl (by decide) (by decide) rfl (fun ls hl => ?_)
  refine lv_goto (tgt := 49) hx hb dX4_openTransports_83 (by decide) ?_
  refine lv_iload_n hx hb dX4_openTransports_49 rfl (lv_at hl 0 rfl) ?_
  refine lv_aload_n hx hb dX4_openTransports_50 rfl (lv_at hl 5 rfl) ?_
  refine va_get (D := (dC, dI)) (ci := 5) (v := .ref cs) (C := RX4) (T := TX4) (N := 18) hx hb hts in_c_open_cc_X4 hown hK hP 0 rfl rfl 10 (by decide) (hts (.fieldLink RX4 41 "ClaimBus$Node" "collects" "Ljava/util/ArrayList;") (List.mem_of_getElem? (i := 3) rfl)) (fun _ h9 => h9) rfl dX4_openTransports_51 ?_
  have hPc := hP.sub (ws' := [(cs, .inr (0, [.int (nI cm), .ref ce_, .int (nI 1)]))]) [1] rfl
  have hDc := hD.sub (ws' := [(cs, .inr (0, [.int (nI cm), .ref ce_, .int (nI 1)]))]) [1] (by decide +kernel) rfl
  have hKc := hK.sub (tys' := []) [] rfl
  have hFc := ro_free hS hA
  refine va_calli (va_runV (As := []) (rest := [.int 1]) ⟨hx, hb, hml, hown, hts⟩ (c_AL_size l dC dI (cs) (cm) (ce_) (1) H.size) (cwV 0 hts g_c_open_cc_c_AL_size_96 rfl rfl rfl (by decide +kernel) ⟨Nat.le_of_ble_eq_true rfl, Nat.le_of_ble_eq_true rfl⟩) ⟨fun a U g mk q => by obtain ⟨q0, q1, qP, qK, qD, qE⟩ := q; exact ⟨q0, q1, qP, va_K.moved (u := U) (U := U.calling g mk a) (Vm.Alike.refl U.vm) qK, qD, ev.same (u := U) (U := U.calling g mk a) rfl qE⟩, va_recv hKc hPc (ci := 0) (q0 := 0) rfl rfl, fun U hU hW => ⟨rfl, by rw [hU], by rw [hU]; exact hPc, va_K.moved hW.alike hKc, hDc.weaken (fun _ _ _ _ => trivial), hE.warm hW⟩⟩ rfl rfl hl.1 rfl (lv_room (Nat.le_of_ble_eq_true rfl)) dX4_openTransports_54 ⟨Nat.le_of_ble_eq_true rfl, Nat.le_of_ble_eq_true rfl⟩) hS (fun q _ h => hFc q h) hFc (fun r_10 u t H1 locs ht hvm hw hB hz1 hk1 hS => ?_)
  clear hPc hDc hKc
  replace hP := ro_keep hP hk1
  generalize H1 = H at hP hS ⊢
  replace hP : va_P (dC, dI) vwCl [(nd, .inr (5, [.int nh, .int nl, .int nwa, .int nfr, .int (nI nwi), .ref r, .ref nt, .ref ns, .ref ib, .ref gs, .ref cs, .ref nu, .int 0, .int 2, .int (nI nad), .int (nI ncc), .int 0, .int 0])), (cs, .inr (0, [.int (nI cm), .ref ce_, .int 1])), (ce_, .inl (cQ, 10, .inr (.inr (.inr (.inr fq))))), (tq, .inr (10, [.int 0, .int k1, .int k2, .int k3, .int k4, .int k5, .int k6, .int k7, .int k8, .int k9, .int k10, .int k11, .ref kw, .ref kb])), (gs, .inl (cT, 3, .inr (.inr (.inr (.inr fg))))), (tr, .inr (10, [.int 0, .int j1, .int j2, .int j3, .int j4, .int j5, .int j6, .int j7, .int j8, .int j9, .int j10, .int j11, .ref jw, .ref jb]))] H := hP
  have hw := hw.symm
  subst hw
  rw [show ((nI 1) : Int32) = 1 from (congrArg nI (show 1 = 1 from by omega)).trans (by decide)]
  refine lv_icmp_ge (tgt := 86) hx hb dX4_openTransports_57 (by decide) (fun c_11 => ?_) (fun c_11 => ?_)
  rotate_left
  · exact absurd (by decide) c_11
  refine lv_iload_n hx hb dX4_openTransports_86 rfl (lv_at hl 4 rfl) ?_
  exact W.iret (v := 0) hx hb hr (fun t ht hW => ⟨⟨0, (), rfl, rfl, trivial⟩, hS.F ht⟩) hS.2.2 dX4_openTransports_87

noncomputable def tl_c_told_15_cc : List Cond := v_c_find_1 ++ (v_c_open_cc)
noncomputable def v_c_told_15_cc : List Cond := .code yX10_told cX10_told 4 (some .int) :: ([.initialized RX10, .methodLink RX10 53 yX10_find, .instanceMethod yX10_find, .selects RX10 yX10_find yX10_find, .initialized RX4, .methodLink RX10 149 yX4_openTransports, .instanceMethod yX4_openTransports, .selects RX4 yX4_openTransports yX4_openTransports] ++ tl_c_told_15_cc)
theorem it_c_told_15_cc : ∀ w ∈ tl_c_told_15_cc, w ∈ v_c_told_15_cc := fun w h => List.mem_cons_of_mem _ (List.mem_append_right _ h)
theorem ic_c_told_15_cc_c_find_1 : ∀ w ∈ v_c_find_1, w ∈ v_c_told_15_cc := fun w h => it_c_told_15_cc w (List.mem_append_left _ h)
theorem ic_c_told_15_cc_c_open_cc : ∀ w ∈ v_c_open_cc, w ∈ v_c_told_15_cc := fun w h => it_c_told_15_cc w (List.mem_append_right _ (h))
theorem gt_c_told_15_cc : ∀ w ∈ tl_c_told_15_cc, goodWord w = true := List.forall_mem_append.mpr ⟨gw_c_find_1, gw_c_open_cc⟩
theorem gw_c_told_15_cc : ∀ w ∈ v_c_told_15_cc, goodWord w = true := List.forall_mem_cons.mpr ⟨by decide +kernel, List.forall_mem_append.mpr ⟨List.all_eq_true.mp (by decide +kernel), gt_c_told_15_cc⟩⟩
theorem g_c_told_15_cc_c_find_1_53 : GoodIn v_c_told_15_cc (wsV RX10 53 RX10 yX10_find v_c_find_1) := goodIn_app (goodIn_r [.methodLink RX10 53 yX10_find, .instanceMethod yX10_find, .selects RX10 yX10_find yX10_find, .initialized RX10] [2, 3, 4, 1] (by decide +kernel) (by decide +kernel)) (fun w h => ⟨ic_c_told_15_cc_c_find_1 w h, good_of_word (gw_c_find_1 w h)⟩)
theorem g_c_told_15_cc_c_open_cc_149 : GoodIn v_c_told_15_cc (wsV RX10 149 RX4 yX4_openTransports v_c_open_cc) := goodIn_app (goodIn_r [.methodLink RX10 149 yX4_openTransports, .instanceMethod yX4_openTransports, .selects RX4 yX4_openTransports yX4_openTransports, .initialized RX4] [6, 7, 8, 5] (by decide +kernel) (by decide +kernel)) (fun w h => ⟨ic_c_told_15_cc_c_open_cc w h, good_of_word (gw_c_open_cc w h)⟩)
set_option maxHeartbeats 4000000 in
set_option maxRecDepth 100000 in
theorem c_told_15_cc (l : Launch) (dC : Nat → ClassId) (dI : Nat → Nat → Nat) (x : Nat) (nr : Nat) (st : Nat) (lf : Nat) (tm : Nat) (fcn : Nat) (xl : Int32) (cN : ClassId) (fn : Nat → Option Nat) (an : Nat) (bn : Nat) (bh : Int32) (bl : Int32) (bwa : Int32) (bfr : Int32) (bwi : Nat) (br : Nat) (be : Nat) (bs : Nat) (bi : Nat) (bg : Nat) (bc : Nat) (bu : Nat) (bcc : Nat) (bcm : Nat) (bce : Nat) (cQ : ClassId) (fq : Nat → Option Nat) (tq : Nat) (k1 : Int32) (k2 : Int32) (k3 : Int32) (k4 : Int32) (k5 : Int32) (k6 : Int32) (k7 : Int32) (k8 : Int32) (k9 : Int32) (k10 : Int32) (k11 : Int32) (kw : Nat) (kb : Nat) (bcT : ClassId) (bfg : Nat → Option Nat) (tr : Nat) (j1 : Int32) (j2 : Int32) (j3 : Int32) (j4 : Int32) (j5 : Int32) (j6 : Int32) (j7 : Int32) (j8 : Int32) (j9 : Int32) (j10 : Int32) (j11 : Int32) (jw : Nat) (jb : Nat) (sz : Nat) (n0 : fn 0 = some an) (n1 : fn 1 = some bn) (hq : fq 0 = some tq) (bg0_ : bfg 0 = some tr) (bg1_ : bfg 1 = none) (bg2_ : bfg 2 = none) : Met l yX10_told v_c_told_15_cc ({ frames := 4, cells := 0, slots := 0, locals := 89 }) (va_Pc [.ref x, .int 1, .int 5] (fun U => U.heap.size = sz ∧ va_P (dC, dI) vwCl [(x, .inr (11, [.ref nr, .ref st, .ref lf, .int 2, .int (nI tm), .int (nI fcn), .int xl, .int 0])), (nr, .inl (cN, 8, .inr (.inr (.inr (.inr fn))))), (bn, .inr (5, [.int bh, .int bl, .int bwa, .int bfr, .int (nI bwi), .ref br, .ref be, .ref bs, .ref bi, .ref bg, .ref bc, .ref bu, .int 0, .int 2, .int 200, .int (nI bcc), .int 0, .int 0])), (bc, .inr (0, [.int (nI bcm), .ref bce, .int 1])), (bce, .inl (cQ, 10, .inr (.inr (.inr (.inr fq))))), (tq, .inr (10, [.int 0, .int k1, .int k2, .int k3, .int k4, .int k5, .int k6, .int k7, .int k8, .int k9, .int k10, .int k11, .ref kw, .ref kb])), (bg, .inl (bcT, 3, .inr (.inr (.inr (.inr bfg))))), (tr, .inr (10, [.int 0, .int j1, .int j2, .int j3, .int j4, .int j5, .int j6, .int j7, .int j8, .int j9, .int j10, .int j11, .ref jw, .ref jb]))] U.heap ∧ va_K (dC, dI) vwCl [(cN, (.object RX4)), (cQ, (.object "java/lang/Object")), (bcT, (.object RX9))] U ∧ va_D (fun _ => True) [(x, .inr (11, [.ref nr, .ref st, .ref lf, .int 2, .int (nI tm), .int (nI fcn), .int xl, .int 0])), (nr, .inl (cN, 8, .inr (.inr (.inr (.inr fn))))), (bn, .inr (5, [.int bh, .int bl, .int bwa, .int bfr, .int (nI bwi), .ref br, .ref be, .ref bs, .ref bi, .ref bg, .ref bc, .ref bu, .int 0, .int 2, .int 200, .int (nI bcc), .int 0, .int 0])), (bc, .inr (0, [.int (nI bcm), .ref bce, .int 1])), (bce, .inl (cQ, 10, .inr (.inr (.inr (.inr fq))))), (tq, .inr (10, [.int 0, .int k1, .int k2, .int k3, .int k4, .int k5, .int k6, .int k7, .int k8, .int k9, .int k10, .int k11, .ref kw, .ref kb])), (bg, .inl (bcT, 3, .inr (.inr (.inr (.inr bfg))))), (tr, .inr (10, [.int 0, .int j1, .int j2, .int j3, .int j4, .int j5, .int j6, .int j7, .int j8, .int j9, .int j10, .int j11, .ref jw, .ref jb]))] ∧ ev U)) (va_Qi (fun (r : Int32) (_ : Unit) => r = 0) (fun (_ : Unit) (_ : State) => True) (va_A [] sz)) 0 0 (va_A [] sz) := by
  refine Met.ofW (cc := cX10_told) (maxL := 4) (ret := (some .int)) (by decide) rfl ?_
  intro p e s m args below meth c s₁ B hml hv
  obtain ⟨rfl, hsz, hP, hK, hD0, hE⟩ := hv
  have hx := B.exec
  have hb := B.bytes
  have hr := B.returns
  have hts := atoms_spec (ws := v_c_told_15_cc) B.pre
  have hown : s.vm.findClass RX10 = some m.cls := findClass_of_methodNamed B.named
  have hlocks := B.notSynchronized
  subst hsz
  have hD := hD0
  generalize hAe : va_A [] s.heap.size = A
  have hA : ∀ q : Nat, s.heap.size ≤ q → A q := fun q h => by rw [← hAe]; exact Or.inr h
  have hS : va_S A s.heap s.heap [] := va_S.rf
  replace hP : va_P (dC, dI) vwCl [(x, .inr (11, [.ref nr, .ref st, .ref lf, .int 2, .int (nI tm), .int (nI fcn), .int xl, .int 0])), (nr, .inl (cN, 8, .inr (.inr (.inr (.inr fn))))), (bn, .inr (5, [.int bh, .int bl, .int bwa, .int bfr, .int (nI bwi), .ref br, .ref be, .ref bs, .ref bi, .ref bg, .ref bc, .ref bu, .int 0, .int 2, .int 200, .int (nI bcc), .int 0, .int 0])), (bc, .inr (0, [.int (nI bcm), .ref bce, .int 1])), (bce, .inl (cQ, 10, .inr (.inr (.inr (.inr fq))))), (tq, .inr (10, [.int 0, .int k1, .int k2, .int k3, .int k4, .int k5, .int k6, .int k7, .int k8, .int k9, .int k10, .int k11, .ref kw, .ref kb])), (bg, .inl (bcT, 3, .inr (.inr (.inr (.inr bfg))))), (tr, .inr (10, [.int 0, .int j1, .int j2, .int j3, .int j4, .int j5, .int j6, .int j7, .int j8, .int j9, .int j10, .int j11, .ref jw, .ref jb]))] s.heap := hP
  have hl := lv_entry ([.ref x, .int 1, .int 5]) (n := 4) (Nat.le_of_ble_eq_true rfl)
  rw [lg_entry_eq]
  generalize (lg_sl ([.ref x, .int 1, .int 5]) ++ List.replicate (4 - (lg_sl ([.ref x, .int 1, .int 5])).length) Slot.unset).toArray = ls at hl ⊢
  replace hl : lv_has ls 4 [(0, .ref x), (1, .int 1), (2, .int 5)] := hl
  obtain ⟨H, hH⟩ : ∃ z : Heap, z = s.heap := ⟨_, rfl⟩
  rw [← hH]
  replace hS : va_S A s.heap H [] := by rw [hH]; exact va_S.rf
  replace hP : va_P (dC, dI) vwCl [(x, .inr (11, [.ref nr, .ref st, .ref lf, .int 2, .int (nI tm), .int (nI fcn), .int xl, .int 0])), (nr, .inl (cN, 8, .inr (.inr (.inr (.inr fn))))), (bn, .inr (5, [.int bh, .int bl, .int bwa, .int bfr, .int (nI bwi), .ref br, .ref be, .ref bs, .ref bi, .ref bg, .ref bc, .ref bu, .int 0, .int 2, .int 200, .int (nI bcc), .int 0, .int 0])), (bc, .inr (0, [.int (nI bcm), .ref bce, .int 1])), (bce, .inl (cQ, 10, .inr (.inr (.inr (.inr fq))))), (tq, .inr (10, [.int 0, .int k1, .int k2, .int k3, .int k4, .int k5, .int k6, .int k7, .int k8, .int k9, .int k10, .int k11, .ref kw, .ref kb])), (bg, .inl (bcT, 3, .inr (.inr (.inr (.inr bfg))))), (tr, .inr (10, [.int 0, .int j1, .int j2, .int j3, .int j4, .int j5, .int j6, .int j7, .int j8, .int j9, .int j10, .int j11, .ref jw, .ref jb]))] H := by rw [hH]; exact hP
  clear hH
  refine lv_aload_n hx hb dX10_told_0 rfl (lv_at hl 0 rfl) ?_
  refine lv_iload_n hx hb dX10_told_1 rfl (lv_at hl 1 rfl) ?_
  have hPc := hP.sub (ws' := [(x, .inr (11, [.ref nr, .ref st, .ref lf, .int 2, .int (nI tm), .int (nI fcn), .int xl, .int 0])), (nr, .inl (cN, 8, .inr (.inr (.inr (.inr fn)))))]) [0, 1] rfl
  have hDc := hD.sub (ws' := [(x, .inr (11, [.ref nr, .ref st, .ref lf, .int 2, .int (nI tm), .int (nI fcn), .int xl, .int 0])), (nr, .inl (cN, 8, .inr (.inr (.inr (.inr fn)))))]) [0, 1] (by decide +kernel) rfl
  have hKc := hK.sub (tys' := [(cN, (.object RX4))]) [0] rfl
  have hFc := ro_free hS hA
  refine va_callq (va_runV (As := [.int 1]) (rest := []) ⟨hx, hb, hml, hown, hts⟩ (c_find_1 l dC dI (x) (nr) (st) (lf) (tm) (fcn) (xl) (cN) (fn) (bn) H.size n1) (cwV 1 hts g_c_told_15_cc_c_find_1_53 rfl rfl rfl (by decide +kernel) ⟨Nat.le_of_ble_eq_true rfl, Nat.le_of_ble_eq_true rfl⟩) ⟨fun a U g mk q => by obtain ⟨q0, q1, qP, qK, qD, qE⟩ := q; exact ⟨q0, q1, qP, va_K.moved (u := U) (U := U.calling g mk a) (Vm.Alike.refl U.vm) qK, qD, ev.same (u := U) (U := U.calling g mk a) rfl qE⟩, va_recv hKc hPc (ci := 11) (q0 := 0) rfl rfl, fun U hU hW => ⟨rfl, by rw [hU], by rw [hU]; exact hPc, va_K.moved hW.alike hKc, hDc.weaken (fun _ _ _ _ => trivial), hE.warm hW⟩⟩ rfl rfl hl.1 rfl (lv_room (Nat.le_of_ble_eq_true rfl)) dX10_told_2 ⟨Nat.le_of_ble_eq_true rfl, Nat.le_of_ble_eq_true rfl⟩) hS (fun q _ h => hFc q h) hFc (fun r_1 u t H1 locs ht hvm hw hB hz1 hk1 hS => ?_)
  clear hPc hDc hKc
  replace hP := ro_keep hP hk1
  generalize H1 = H at hP hS ⊢
  replace hP : va_P (dC, dI) vwCl [(x, .inr (11, [.ref nr, .ref st, .ref lf, .int 2, .int (nI tm), .int (nI fcn), .int xl, .int 0])), (nr, .inl (cN, 8, .inr (.inr (.inr (.inr fn))))), (bn, .inr (5, [.int bh, .int bl, .int bwa, .int bfr, .int (nI bwi), .ref br, .ref be, .ref bs, .ref bi, .ref bg, .ref bc, .ref bu, .int 0, .int 2, .int 200, .int (nI bcc), .int 0, .int 0])), (bc, .inr (0, [.int (nI bcm), .ref bce, .int 1])), (bce, .inl (cQ, 10, .inr (.inr (.inr (.inr fq))))), (tq, .inr (10, [.int 0, .int k1, .int k2, .int k3, .int k4, .int k5, .int k6, .int k7, .int k8, .int k9, .int k10, .int k11, .ref kw, .ref kb])), (bg, .inl (bcT, 3, .inr (.inr (.inr (.inr bfg))))), (tr, .inr (10, [.int 0, .int j1, .int j2, .int j3, .int j4, .int j5, .int j6, .int j7, .int j8, .int j9, .int j10, .int j11, .ref jw, .ref jb]))] H := hP
  have hw := hw.symm
  subst hw
  refine W.eq (g2 := F0 m 5 ls [.ref bn]) rfl ?_
  refine lv_astore_n (lv' := [(3, .ref bn), (0, .ref x), (1, .int 1), (2, .int 5)]) hx hb dX10_told_5 rfl hl (by decide) rfl (fun ls hl => ?_)
  refine lv_aload_n hx hb dX10_told_6 rfl (lv_at hl 0 rfl) ?_
  refine lv_ifnonnull (tgt := 12) hx hb dX10_told_7 (by decide) ?_
  refine lv_iload_n hx hb dX10_told_12 rfl (lv_at hl 3 rfl) ?_
  refine lv_tableIn (tgt := 90) hx hb dX10_told_13 (by decide) (by decide) rfl (by decide) ?_
  refine lv_aload_n hx hb dX10_told_90 rfl (lv_at hl 0 rfl) ?_
  have hPc := hP.sub (ws' := [(bn, .inr (5, [.int bh, .int bl, .int bwa, .int bfr, .int (nI bwi), .ref br, .ref be, .ref bs, .ref bi, .ref bg, .ref bc, .ref bu, .int 0, .int 2, .int (nI 200), .int (nI bcc), .int 0, .int 0])), (bc, .inr (0, [.int (nI bcm), .ref bce, .int 1])), (bce, .inl (cQ, 10, .inr (.inr (.inr (.inr fq))))), (tq, .inr (10, [.int 0, .int k1, .int k2, .int k3, .int k4, .int k5, .int k6, .int k7, .int k8, .int k9, .int k10, .int k11, .ref kw, .ref kb])), (bg, .inl (bcT, 3, .inr (.inr (.inr (.inr bfg))))), (tr, .inr (10, [.int 0, .int j1, .int j2, .int j3, .int j4, .int j5, .int j6, .int j7, .int j8, .int j9, .int j10, .int j11, .ref jw, .ref jb]))]) [2, 3, 4, 5, 6, 7] rfl
  have hDc := hD.sub (ws' := [(bn, .inr (5, [.int bh, .int bl, .int bwa, .int bfr, .int (nI bwi), .ref br, .ref be, .ref bs, .ref bi, .ref bg, .ref bc, .ref bu, .int 0, .int 2, .int (nI 200), .int (nI bcc), .int 0, .int 0])), (bc, .inr (0, [.int (nI bcm), .ref bce, .int 1])), (bce, .inl (cQ, 10, .inr (.inr (.inr (.inr fq))))), (tq, .inr (10, [.int 0, .int k1, .int k2, .int k3, .int k4, .int k5, .int k6, .int k7, .int k8, .int k9, .int k10, .int k11, .ref kw, .ref kb])), (bg, .inl (bcT, 3, .inr (.inr (.inr (.inr bfg))))), (tr, .inr (10, [.int 0, .int j1, .int j2, .int j3, .int j4, .int j5, .int j6, .int j7, .int j8, .int j9, .int j10, .int j11, .ref jw, .ref jb]))]) [2, 3, 4, 5, 6, 7] (by decide +kernel) rfl
  have hKc := hK.sub (tys' := [(cQ, (.object "java/lang/Object")), (bcT, (.object RX9))]) [1, 2] rfl
  have hFc := ro_free hS hA
  refine va_calli (va_runV (As := []) (rest := []) ⟨hx, hb, hml, hown, hts⟩ (c_open_cc l dC dI (bn) (bh) (bl) (bwa) (bfr) (bwi) (br) (be) (bs) (bi) (bg) (bc) (bu) (200) (bcc) (bcm) (bce) (cQ) (fq) (tq) (k1) (k2) (k3) (k4) (k5) (k6) (k7) (k8) (k9) (k10) (k11) (kw) (kb) (bcT) (bfg) (tr) (j1) (j2) (j3) (j4) (j5) (j6) (j7) (j8) (j9) (j10) (j11) (jw) (jb) H.size hq bg0_ bg1_ bg2_) (cwV 0 hts g_c_told_15_cc_c_open_cc_149 rfl rfl rfl (by decide +kernel) ⟨Nat.le_of_ble_eq_true rfl, Nat.le_of_ble_eq_true rfl⟩) ⟨fun a U g mk q => by obtain ⟨q0, q1, qP, qK, qD, qE⟩ := q; exact ⟨q0, q1, qP, va_K.moved (u := U) (U := U.calling g mk a) (Vm.Alike.refl U.vm) qK, qD, ev.same (u := U) (U := U.calling g mk a) rfl qE⟩, va_recv hKc hPc (ci := 5) (q0 := 0) rfl rfl, fun U hU hW => ⟨rfl, by rw [hU], by rw [hU]; exact hPc, va_K.moved hW.alike hKc, hDc.weaken (fun _ _ _ _ => trivial), hE.warm hW⟩⟩ rfl rfl hl.1 rfl (lv_room (Nat.le_of_ble_eq_true rfl)) dX10_told_91 ⟨Nat.le_of_ble_eq_true rfl, Nat.le_of_ble_eq_true rfl⟩) hS (fun q _ h => hFc q h) hFc (fun r_2 u t H1 locs ht hvm hw hB hz1 hk1 hS => ?_)
  clear hPc hDc hKc
  replace hP := ro_keep hP hk1
  generalize H1 = H at hP hS ⊢
  replace hP : va_P (dC, dI) vwCl [(x, .inr (11, [.ref nr, .ref st, .ref lf, .int 2, .int (nI tm), .int (nI fcn), .int xl, .int 0])), (nr, .inl (cN, 8, .inr (.inr (.inr (.inr fn))))), (bn, .inr (5, [.int bh, .int bl, .int bwa, .int bfr, .int (nI bwi), .ref br, .ref be, .ref bs, .ref bi, .ref bg, .ref bc, .ref bu, .int 0, .int 2, .int 200, .int (nI bcc), .int 0, .int 0])), (bc, .inr (0, [.int (nI bcm), .ref bce, .int 1])), (bce, .inl (cQ, 10, .inr (.inr (.inr (.inr fq))))), (tq, .inr (10, [.int 0, .int k1, .int k2, .int k3, .int k4, .int k5, .int k6, .int k7, .int k8, .int k9, .int k10, .int k11, .ref kw, .ref kb])), (bg, .inl (bcT, 3, .inr (.inr (.inr (.inr bfg))))), (tr, .inr (10, [.int 0, .int j1, .int j2, .int j3, .int j4, .int j5, .int j6, .int j7, .int j8, .int j9, .int j10, .int j11, .ref jw, .ref jb]))] H := hP
  have hw := hw.symm
  subst hw
  exact W.iret (v := 0) hx hb hr (fun t ht hW => ⟨⟨0, (), rfl, rfl, trivial⟩, hS.F ht⟩) hS.2.2 dX10_told_94

noncomputable def tl_c_count_2 : List Cond := wsX100
noncomputable def v_c_count_2 : List Cond := .code yX10_count cX10_count 2 (some .int) :: ([.fieldLink RX10 36 "ClaimBus" "framesCarried" "I"] ++ tl_c_count_2)
theorem it_c_count_2 : ∀ w ∈ tl_c_count_2, w ∈ v_c_count_2 := fun w h => List.mem_cons_of_mem _ (List.mem_append_right _ h)
theorem in_c_count_2_X10 : ∀ w ∈ wsX100, w ∈ v_c_count_2 := fun w h => it_c_count_2 w (h)
theorem gt_c_count_2 : ∀ w ∈ tl_c_count_2, goodWord w = true := gw_wsX100
theorem gw_c_count_2 : ∀ w ∈ v_c_count_2, goodWord w = true := List.forall_mem_cons.mpr ⟨by decide +kernel, List.forall_mem_append.mpr ⟨List.all_eq_true.mp (by decide +kernel), gt_c_count_2⟩⟩
set_option maxHeartbeats 4000000 in
set_option maxRecDepth 100000 in
theorem c_count_2 (l : Launch) (dC : Nat → ClassId) (dI : Nat → Nat → Nat) (x : Nat) (nr : Nat) (st : Nat) (lf : Nat) (tm : Nat) (fcn : Nat) (xl : Int32) (cN : ClassId) (fn : Nat → Option Nat) (an : Nat) (bn : Nat) (sz : Nat) (n0 : fn 0 = some an) (n1 : fn 1 = some bn) : Met l yX10_count v_c_count_2 ({ frames := 0, cells := 0, slots := 0, locals := 0 }) (va_Pc [.ref x, .int 2] (fun U => U.heap.size = sz ∧ va_P (dC, dI) vwCl [(x, .inr (11, [.ref nr, .ref st, .ref lf, .int 2, .int (nI tm), .int (nI fcn), .int xl, .int 0])), (nr, .inl (cN, 8, .inr (.inr (.inr (.inr fn)))))] U.heap ∧ va_K (dC, dI) vwCl [(cN, (.object RX4))] U ∧ va_D (fun _ => True) [(x, .inr (11, [.ref nr, .ref st, .ref lf, .int 2, .int (nI tm), .int (nI fcn), .int xl, .int 0])), (nr, .inl (cN, 8, .inr (.inr (.inr (.inr fn)))))] ∧ ev U)) (va_Qi (fun (r : Int32) (_ : Unit) => r = (nI fcn)) (fun (_ : Unit) (_ : State) => True) (va_A [] sz)) 0 0 (va_A [] sz) := by
  refine Met.ofW (cc := cX10_count) (maxL := 2) (ret := (some .int)) (by decide) rfl ?_
  intro p e s m args below meth c s₁ B hml hv
  obtain ⟨rfl, hsz, hP, hK, hD0, hE⟩ := hv
  have hx := B.exec
  have hb := B.bytes
  have hr := B.returns
  have hts := atoms_spec (ws := v_c_count_2) B.pre
  have hown : s.vm.findClass RX10 = some m.cls := findClass_of_methodNamed B.named
  have hlocks := B.notSynchronized
  subst hsz
  have hD := hD0
  generalize hAe : va_A [] s.heap.size = A
  have hA : ∀ q : Nat, s.heap.size ≤ q → A q := fun q h => by rw [← hAe]; exact Or.inr h
  have hS : va_S A s.heap s.heap [] := va_S.rf
  replace hP : va_P (dC, dI) vwCl [(x, .inr (11, [.ref nr, .ref st, .ref lf, .int 2, .int (nI tm), .int (nI fcn), .int xl, .int 0])), (nr, .inl (cN, 8, .inr (.inr (.inr (.inr fn)))))] s.heap := hP
  have hl := lv_entry ([.ref x, .int 2]) (n := 2) (Nat.le_of_ble_eq_true rfl)
  rw [lg_entry_eq]
  generalize (lg_sl ([.ref x, .int 2]) ++ List.replicate (2 - (lg_sl ([.ref x, .int 2])).length) Slot.unset).toArray = ls at hl ⊢
  replace hl : lv_has ls 2 [(0, .ref x), (1, .int 2)] := hl
  obtain ⟨H, hH⟩ : ∃ z : Heap, z = s.heap := ⟨_, rfl⟩
  rw [← hH]
  replace hS : va_S A s.heap H [] := by rw [hH]; exact va_S.rf
  replace hP : va_P (dC, dI) vwCl [(x, .inr (11, [.ref nr, .ref st, .ref lf, .int 2, .int (nI tm), .int (nI fcn), .int xl, .int 0])), (nr, .inl (cN, 8, .inr (.inr (.inr (.inr fn)))))] H := by rw [hH]; exact hP
  clear hH
  refine lv_iload_n hx hb dX10_count_0 rfl (lv_at hl 1 rfl) ?_
  refine lv_tableIn (tgt := 42) hx hb dX10_count_1 (by decide) (by decide) rfl (by decide) ?_
  refine lv_aload_n hx hb dX10_count_42 rfl (lv_at hl 0 rfl) ?_
  refine va_get (D := (dC, dI)) (ci := 11) (v := .int (nI fcn)) (C := RX10) (T := TX10) (N := 8) hx hb hts in_c_count_2_X10 hown hK hP 0 rfl rfl 5 (by decide) (hts (.fieldLink RX10 36 "ClaimBus" "framesCarried" "I") (List.mem_of_getElem? (i := 1) rfl)) (fun _ h9 => h9) rfl dX10_count_43 ?_
  exact W.iret (v := (nI fcn)) hx hb hr (fun t ht hW => ⟨⟨(nI fcn), (), rfl, rfl, trivial⟩, hS.F ht⟩) hS.2.2 dX10_count_46

noncomputable def tl_c_message_0 : List Cond := wsX40 ++ (v_c_find_1 ++ (v_c_logged_0))
noncomputable def v_c_message_0 : List Cond := .code yX10_message cX10_message 5 (some .int) :: ([.initialized RX10, .methodLink RX10 53 yX10_find, .instanceMethod yX10_find, .selects RX10 yX10_find yX10_find, .fieldLink RX10 140 "ClaimBus$Node" "inbox" "LClaimBus$Inbox;", .initialized RX2, .methodLink RX10 164 yX2_logged, .instanceMethod yX2_logged, .selects RX2 yX2_logged yX2_logged] ++ tl_c_message_0)
theorem it_c_message_0 : ∀ w ∈ tl_c_message_0, w ∈ v_c_message_0 := fun w h => List.mem_cons_of_mem _ (List.mem_append_right _ h)
theorem in_c_message_0_X4 : ∀ w ∈ wsX40, w ∈ v_c_message_0 := fun w h => it_c_message_0 w (List.mem_append_left _ h)
theorem ic_c_message_0_c_find_1 : ∀ w ∈ v_c_find_1, w ∈ v_c_message_0 := fun w h => it_c_message_0 w (List.mem_append_right _ (List.mem_append_left _ h))
theorem ic_c_message_0_c_logged_0 : ∀ w ∈ v_c_logged_0, w ∈ v_c_message_0 := fun w h => it_c_message_0 w (List.mem_append_right _ (List.mem_append_right _ (h)))
theorem gt_c_message_0 : ∀ w ∈ tl_c_message_0, goodWord w = true := List.forall_mem_append.mpr ⟨gw_wsX40, List.forall_mem_append.mpr ⟨gw_c_find_1, gw_c_logged_0⟩⟩
theorem gw_c_message_0 : ∀ w ∈ v_c_message_0, goodWord w = true := List.forall_mem_cons.mpr ⟨by decide +kernel, List.forall_mem_append.mpr ⟨List.all_eq_true.mp (by decide +kernel), gt_c_message_0⟩⟩
theorem g_c_message_0_c_find_1_53 : GoodIn v_c_message_0 (wsV RX10 53 RX10 yX10_find v_c_find_1) := goodIn_app (goodIn_r [.methodLink RX10 53 yX10_find, .instanceMethod yX10_find, .selects RX10 yX10_find yX10_find, .initialized RX10] [2, 3, 4, 1] (by decide +kernel) (by decide +kernel)) (fun w h => ⟨ic_c_message_0_c_find_1 w h, good_of_word (gw_c_find_1 w h)⟩)
theorem g_c_message_0_c_logged_0_164 : GoodIn v_c_message_0 (wsV RX10 164 RX2 yX2_logged v_c_logged_0) := goodIn_app (goodIn_r [.methodLink RX10 164 yX2_logged, .instanceMethod yX2_logged, .selects RX2 yX2_logged yX2_logged, .initialized RX2] [7, 8, 9, 6] (by decide +kernel) (by decide +kernel)) (fun w h => ⟨ic_c_message_0_c_logged_0 w h, good_of_word (gw_c_logged_0 w h)⟩)
set_option maxHeartbeats 4000000 in
set_option maxRecDepth 100000 in
theorem c_message_0 (l : Launch) (dC : Nat → ClassId) (dI : Nat → Nat → Nat) (x : Nat) (nr : Nat) (st : Nat) (lf : Nat) (tm : Nat) (fcn : Nat) (xl : Int32) (cN : ClassId) (fn : Nat → Option Nat) (bn : Nat) (bh : Int32) (bl : Int32) (bwa : Int32) (bfr : Int32) (bwi : Nat) (br : Nat) (be : Nat) (bs : Nat) (bi : Nat) (bg : Nat) (bc : Nat) (bu : Nat) (bcc : Nat) (nc : Nat) (lg : Nat) (lt : Nat) (cL : ClassId) (fL : Nat → Int32) (p0 : Nat) (sz : Nat) (n1 : fn 1 = some bn) (hp0 : p0 < nc) (hnc : nc ≤ 20) : Met l yX10_message v_c_message_0 ({ frames := 1, cells := 0, slots := 0, locals := 22 }) (va_Pc [.ref x, .int 1, .int (nI p0), .int 0] (fun U => U.heap.size = sz ∧ va_P (dC, dI) vwCl [(x, .inr (11, [.ref nr, .ref st, .ref lf, .int 2, .int (nI tm), .int (nI fcn), .int xl, .int 0])), (nr, .inl (cN, 8, .inr (.inr (.inr (.inr fn))))), (bn, .inr (5, [.int bh, .int bl, .int bwa, .int bfr, .int (nI bwi), .ref br, .ref be, .ref bs, .ref bi, .ref bg, .ref bc, .ref bu, .int 0, .int 2, .int 200, .int (nI bcc), .int 0, .int 0])), (bi, .inr (3, [.int (nI nc), .int 0, .ref lg, .ref lt])), (lg, .inl (cL, 80, .inl fL))] U.heap ∧ va_K (dC, dI) vwCl [(cN, (.object RX4)), (cL, .int)] U ∧ va_D (fun _ => True) [(x, .inr (11, [.ref nr, .ref st, .ref lf, .int 2, .int (nI tm), .int (nI fcn), .int xl, .int 0])), (nr, .inl (cN, 8, .inr (.inr (.inr (.inr fn))))), (bn, .inr (5, [.int bh, .int bl, .int bwa, .int bfr, .int (nI bwi), .ref br, .ref be, .ref bs, .ref bi, .ref bg, .ref bc, .ref bu, .int 0, .int 2, .int 200, .int (nI bcc), .int 0, .int 0])), (bi, .inr (3, [.int (nI nc), .int 0, .ref lg, .ref lt])), (lg, .inl (cL, 80, .inl fL))] ∧ ev U)) (va_Qi (fun (r : Int32) (_ : Unit) => r = fL (4 * p0)) (fun (_ : Unit) (_ : State) => True) (va_A [] sz)) 0 0 (va_A [] sz) := by
  refine Met.ofW (cc := cX10_message) (maxL := 5) (ret := (some .int)) (by decide) rfl ?_
  intro p e s m args below meth c s₁ B hml hv
  obtain ⟨rfl, hsz, hP, hK, hD0, hE⟩ := hv
  have hx := B.exec
  have hb := B.bytes
  have hr := B.returns
  have hts := atoms_spec (ws := v_c_message_0) B.pre
  have hown : s.vm.findClass RX10 = some m.cls := findClass_of_methodNamed B.named
  have hlocks := B.notSynchronized
  subst hsz
  have hD := hD0
  generalize hAe : va_A [] s.heap.size = A
  have hA : ∀ q : Nat, s.heap.size ≤ q → A q := fun q h => by rw [← hAe]; exact Or.inr h
  have hS : va_S A s.heap s.heap [] := va_S.rf
  replace hP : va_P (dC, dI) vwCl [(x, .inr (11, [.ref nr, .ref st, .ref lf, .int 2, .int (nI tm), .int (nI fcn), .int xl, .int 0])), (nr, .inl (cN, 8, .inr (.inr (.inr (.inr fn))))), (bn, .inr (5, [.int bh, .int bl, .int bwa, .int bfr, .int (nI bwi), .ref br, .ref be, .ref bs, .ref bi, .ref bg, .ref bc, .ref bu, .int 0, .int 2, .int 200, .int (nI bcc), .int 0, .int 0])), (bi, .inr (3, [.int (nI nc), .int 0, .ref lg, .ref lt])), (lg, .inl (cL, 80, .inl fL))] s.heap := hP
  have hl := lv_entry ([.ref x, .int 1, .int (nI p0), .int 0]) (n := 5) (Nat.le_of_ble_eq_true rfl)
  rw [lg_entry_eq]
  generalize (lg_sl ([.ref x, .int 1, .int (nI p0), .int 0]) ++ List.replicate (5 - (lg_sl ([.ref x, .int 1, .int (nI p0), .int 0])).length) Slot.unset).toArray = ls at hl ⊢
  replace hl : lv_has ls 5 [(0, .ref x), (1, .int 1), (2, .int (nI p0)), (3, .int 0)] := hl
  obtain ⟨H, hH⟩ : ∃ z : Heap, z = s.heap := ⟨_, rfl⟩
  rw [← hH]
  replace hS : va_S A s.heap H [] := by rw [hH]; exact va_S.rf
  replace hP : va_P (dC, dI) vwCl [(x, .inr (11, [.ref nr, .ref st, .ref lf, .int 2, .int (nI tm), .int (nI fcn), .int xl, .int 0])), (nr, .inl (cN, 8, .inr (.inr (.inr (.inr fn))))), (bn, .inr (5, [.int bh, .int bl, .int bwa, .int bfr, .int (nI bwi), .ref br, .ref be, .ref bs, .ref bi, .ref bg, .ref bc, .ref bu, .int 0, .int 2, .int 200, .int (nI bcc), .int 0, .int 0])), (bi, .inr (3, [.int (nI nc), .int 0, .ref lg, .ref lt])), (lg, .inl (cL, 80, .inl fL))] H := by rw [hH]; exact hP
  clear hH
  refine lv_aload_n hx hb dX10_message_0 rfl (lv_at hl 0 rfl) ?_
  refine lv_iload_n hx hb dX10_message_1 rfl (lv_at hl 1 rfl) ?_
  have hPc := hP.sub (ws' := [(x, .inr (11, [.ref nr, .ref st, .ref lf, .int 2, .int (nI tm), .int (nI fcn), .int xl, .int 0])), (nr, .inl (cN, 8, .inr (.inr (.inr (.inr fn)))))]) [0, 1] rfl
  have hDc := hD.sub (ws' := [(x, .inr (11, [.ref nr, .ref st, .ref lf, .int 2, .int (nI tm), .int (nI fcn), .int xl, .int 0])), (nr, .inl (cN, 8, .inr (.inr (.inr (.inr fn)))))]) [0, 1] (by decide +kernel) rfl
  have hKc := hK.sub (tys' := [(cN, (.object RX4))]) [0] rfl
  have hFc := ro_free hS hA
  refine va_callq (va_runV (As := [.int 1]) (rest := []) ⟨hx, hb, hml, hown, hts⟩ (c_find_1 l dC dI (x) (nr) (st) (lf) (tm) (fcn) (xl) (cN) (fn) (bn) H.size n1) (cwV 1 hts g_c_message_0_c_find_1_53 rfl rfl rfl (by decide +kernel) ⟨Nat.le_of_ble_eq_true rfl, Nat.le_of_ble_eq_true rfl⟩) ⟨fun a U g mk q => by obtain ⟨q0, q1, qP, qK, qD, qE⟩ := q; exact ⟨q0, q1, qP, va_K.moved (u := U) (U := U.calling g mk a) (Vm.Alike.refl U.vm) qK, qD, ev.same (u := U) (U := U.calling g mk a) rfl qE⟩, va_recv hKc hPc (ci := 11) (q0 := 0) rfl rfl, fun U hU hW => ⟨rfl, by rw [hU], by rw [hU]; exact hPc, va_K.moved hW.alike hKc, hDc.weaken (fun _ _ _ _ => trivial), hE.warm hW⟩⟩ rfl rfl hl.1 rfl (lv_room (Nat.le_of_ble_eq_true rfl)) dX10_message_2 ⟨Nat.le_of_ble_eq_true rfl, Nat.le_of_ble_eq_true rfl⟩) hS (fun q _ h => hFc q h) hFc (fun r_1 u t H1 locs ht hvm hw hB hz1 hk1 hS => ?_)
  clear hPc hDc hKc
  replace hP := ro_keep hP hk1
  generalize H1 = H at hP hS ⊢
  replace hP : va_P (dC, dI) vwCl [(x, .inr (11, [.ref nr, .ref st, .ref lf, .int 2, .int (nI tm), .int (nI fcn), .int xl, .int 0])), (nr, .inl (cN, 8, .inr (.inr (.inr (.inr fn))))), (bn, .inr (5, [.int bh, .int bl, .int bwa, .int bfr, .int (nI bwi), .ref br, .ref be, .ref bs, .ref bi, .ref bg, .ref bc, .ref bu, .int 0, .int 2, .int 200, .int (nI bcc), .int 0, .int 0])), (bi, .inr (3, [.int (nI nc), .int 0, .ref lg, .ref lt])), (lg, .inl (cL, 80, .inl fL))] H := hP
  have hw := hw.symm
  subst hw
  refine W.eq (g2 := F0 m 5 ls [.ref bn]) rfl ?_
  refine lv_astore (lv' := [(4, .ref bn), (0, .ref x), (1, .int 1), (2, .int (nI p0)), (3, .int 0)]) hx hb dX10_message_5 hl (by decide) rfl (fun ls hl => ?_)
  refine lv_aload hx hb dX10_message_7 (lv_at hl 0 rfl) ?_
  refine lv_ifnonnull (tgt := 16) hx hb dX10_message_9 (by decide) ?_
  refine lv_aload hx hb dX10_message_16 (lv_at hl 0 rfl) ?_
  refine va_get (D := (dC, dI)) (ci := 5) (v := .ref bi) (C := RX4) (T := TX4) (N := 18) hx hb hts in_c_message_0_X4 hown hK hP 2 rfl rfl 8 (by decide) (hts (.fieldLink RX10 140 "ClaimBus$Node" "inbox" "LClaimBus$Inbox;") (List.mem_of_getElem? (i := 5) rfl)) (fun _ h9 => h9) rfl dX10_message_18 ?_
  refine lv_iload_n hx hb dX10_message_21 rfl (lv_at hl 3 rfl) ?_
  refine lv_iload_n hx hb dX10_message_22 rfl (lv_at hl 4 rfl) ?_
  have hPc := hP.sub (ws' := [(bi, .inr (3, [.int (nI nc), .int 0, .ref lg, .ref lt])), (lg, .inl (cL, 80, .inl fL))]) [3, 4] rfl
  have hDc := hD.sub (ws' := [(bi, .inr (3, [.int (nI nc), .int 0, .ref lg, .ref lt])), (lg, .inl (cL, 80, .inl fL))]) [3, 4] (by decide +kernel) rfl
  have hKc := hK.sub (tys' := [(cL, .int)]) [1] rfl
  have hFc := ro_free hS hA
  refine va_calli (va_runV (As := [.int (nI p0), .int 0]) (rest := []) ⟨hx, hb, hml, hown, hts⟩ (c_logged_0 l dC dI (bi) (nc) (lg) (lt) (cL) (fL) (p0) H.size hp0 hnc) (cwV 2 hts g_c_message_0_c_logged_0_164 rfl rfl rfl (by decide +kernel) ⟨Nat.le_of_ble_eq_true rfl, Nat.le_of_ble_eq_true rfl⟩) ⟨fun a U g mk q => by obtain ⟨q0, q1, qP, qK, qD, qE⟩ := q; exact ⟨q0, q1, qP, va_K.moved (u := U) (U := U.calling g mk a) (Vm.Alike.refl U.vm) qK, qD, ev.same (u := U) (U := U.calling g mk a) rfl qE⟩, va_recv hKc hPc (ci := 3) (q0 := 0) rfl rfl, fun U hU hW => ⟨rfl, by rw [hU], by rw [hU]; exact hPc, va_K.moved hW.alike hKc, hDc.weaken (fun _ _ _ _ => trivial), hE.warm hW⟩⟩ rfl rfl hl.1 rfl (lv_room (Nat.le_of_ble_eq_true rfl)) dX10_message_23 ⟨Nat.le_of_ble_eq_true rfl, Nat.le_of_ble_eq_true rfl⟩) hS (fun q _ h => hFc q h) hFc (fun r_2 u t H1 locs ht hvm hw hB hz1 hk1 hS => ?_)
  clear hPc hDc hKc
  replace hP := ro_keep hP hk1
  generalize H1 = H at hP hS ⊢
  replace hP : va_P (dC, dI) vwCl [(x, .inr (11, [.ref nr, .ref st, .ref lf, .int 2, .int (nI tm), .int (nI fcn), .int xl, .int 0])), (nr, .inl (cN, 8, .inr (.inr (.inr (.inr fn))))), (bn, .inr (5, [.int bh, .int bl, .int bwa, .int bfr, .int (nI bwi), .ref br, .ref be, .ref bs, .ref bi, .ref bg, .ref bc, .ref bu, .int 0, .int 2, .int 200, .int (nI bcc), .int 0, .int 0])), (bi, .inr (3, [.int (nI nc), .int 0, .ref lg, .ref lt])), (lg, .inl (cL, 80, .inl fL))] H := hP
  have hw := hw.symm
  subst hw
  exact W.iret (v := (fL (4 * p0))) hx hb hr (fun t ht hW => ⟨⟨(fL (4 * p0)), (), rfl, rfl, trivial⟩, hS.F ht⟩) hS.2.2 dX10_message_26

noncomputable def tl_c_message_1 : List Cond := wsX40 ++ (v_c_find_1 ++ (v_c_logged_1))
noncomputable def v_c_message_1 : List Cond := .code yX10_message cX10_message 5 (some .int) :: ([.initialized RX10, .methodLink RX10 53 yX10_find, .instanceMethod yX10_find, .selects RX10 yX10_find yX10_find, .fieldLink RX10 140 "ClaimBus$Node" "inbox" "LClaimBus$Inbox;", .initialized RX2, .methodLink RX10 164 yX2_logged, .instanceMethod yX2_logged, .selects RX2 yX2_logged yX2_logged] ++ tl_c_message_1)
theorem it_c_message_1 : ∀ w ∈ tl_c_message_1, w ∈ v_c_message_1 := fun w h => List.mem_cons_of_mem _ (List.mem_append_right _ h)
theorem in_c_message_1_X4 : ∀ w ∈ wsX40, w ∈ v_c_message_1 := fun w h => it_c_message_1 w (List.mem_append_left _ h)
theorem ic_c_message_1_c_find_1 : ∀ w ∈ v_c_find_1, w ∈ v_c_message_1 := fun w h => it_c_message_1 w (List.mem_append_right _ (List.mem_append_left _ h))
theorem ic_c_message_1_c_logged_1 : ∀ w ∈ v_c_logged_1, w ∈ v_c_message_1 := fun w h => it_c_message_1 w (List.mem_append_right _ (List.mem_append_right _ (h)))
theorem gt_c_message_1 : ∀ w ∈ tl_c_message_1, goodWord w = true := List.forall_mem_append.mpr ⟨gw_wsX40, List.forall_mem_append.mpr ⟨gw_c_find_1, gw_c_logged_1⟩⟩
theorem gw_c_message_1 : ∀ w ∈ v_c_message_1, goodWord w = true := List.forall_mem_cons.mpr ⟨by decide +kernel, List.forall_mem_append.mpr ⟨List.all_eq_true.mp (by decide +kernel), gt_c_message_1⟩⟩
theorem g_c_message_1_c_find_1_53 : GoodIn v_c_message_1 (wsV RX10 53 RX10 yX10_find v_c_find_1) := goodIn_app (goodIn_r [.methodLink RX10 53 yX10_find, .instanceMethod yX10_find, .selects RX10 yX10_find yX10_find, .initialized RX10] [2, 3, 4, 1] (by decide +kernel) (by decide +kernel)) (fun w h => ⟨ic_c_message_1_c_find_1 w h, good_of_word (gw_c_find_1 w h)⟩)
theorem g_c_message_1_c_logged_1_164 : GoodIn v_c_message_1 (wsV RX10 164 RX2 yX2_logged v_c_logged_1) := goodIn_app (goodIn_r [.methodLink RX10 164 yX2_logged, .instanceMethod yX2_logged, .selects RX2 yX2_logged yX2_logged, .initialized RX2] [7, 8, 9, 6] (by decide +kernel) (by decide +kernel)) (fun w h => ⟨ic_c_message_1_c_logged_1 w h, good_of_word (gw_c_logged_1 w h)⟩)
set_option maxHeartbeats 4000000 in
set_option maxRecDepth 100000 in
theorem c_message_1 (l : Launch) (dC : Nat → ClassId) (dI : Nat → Nat → Nat) (x : Nat) (nr : Nat) (st : Nat) (lf : Nat) (tm : Nat) (fcn : Nat) (xl : Int32) (cN : ClassId) (fn : Nat → Option Nat) (bn : Nat) (bh : Int32) (bl : Int32) (bwa : Int32) (bfr : Int32) (bwi : Nat) (br : Nat) (be : Nat) (bs : Nat) (bi : Nat) (bg : Nat) (bc : Nat) (bu : Nat) (bcc : Nat) (nc : Nat) (lg : Nat) (lt : Nat) (cL : ClassId) (fL : Nat → Int32) (p0 : Nat) (sz : Nat) (n1 : fn 1 = some bn) (hp0 : p0 < nc) (hnc : nc ≤ 20) : Met l yX10_message v_c_message_1 ({ frames := 1, cells := 0, slots := 0, locals := 22 }) (va_Pc [.ref x, .int 1, .int (nI p0), .int 1] (fun U => U.heap.size = sz ∧ va_P (dC, dI) vwCl [(x, .inr (11, [.ref nr, .ref st, .ref lf, .int 2, .int (nI tm), .int (nI fcn), .int xl, .int 0])), (nr, .inl (cN, 8, .inr (.inr (.inr (.inr fn))))), (bn, .inr (5, [.int bh, .int bl, .int bwa, .int bfr, .int (nI bwi), .ref br, .ref be, .ref bs, .ref bi, .ref bg, .ref bc, .ref bu, .int 0, .int 2, .int 200, .int (nI bcc), .int 0, .int 0])), (bi, .inr (3, [.int (nI nc), .int 0, .ref lg, .ref lt])), (lg, .inl (cL, 80, .inl fL))] U.heap ∧ va_K (dC, dI) vwCl [(cN, (.object RX4)), (cL, .int)] U ∧ va_D (fun _ => True) [(x, .inr (11, [.ref nr, .ref st, .ref lf, .int 2, .int (nI tm), .int (nI fcn), .int xl, .int 0])), (nr, .inl (cN, 8, .inr (.inr (.inr (.inr fn))))), (bn, .inr (5, [.int bh, .int bl, .int bwa, .int bfr, .int (nI bwi), .ref br, .ref be, .ref bs, .ref bi, .ref bg, .ref bc, .ref bu, .int 0, .int 2, .int 200, .int (nI bcc), .int 0, .int 0])), (bi, .inr (3, [.int (nI nc), .int 0, .ref lg, .ref lt])), (lg, .inl (cL, 80, .inl fL))] ∧ ev U)) (va_Qi (fun (r : Int32) (_ : Unit) => r = fL (4 * p0 + 1)) (fun (_ : Unit) (_ : State) => True) (va_A [] sz)) 0 0 (va_A [] sz) := by
  refine Met.ofW (cc := cX10_message) (maxL := 5) (ret := (some .int)) (by decide) rfl ?_
  intro p e s m args below meth c s₁ B hml hv
  obtain ⟨rfl, hsz, hP, hK, hD0, hE⟩ := hv
  have hx := B.exec
  have hb := B.bytes
  have hr := B.returns
  have hts := atoms_spec (ws := v_c_message_1) B.pre
  have hown : s.vm.findClass RX10 = some m.cls := findClass_of_methodNamed B.named
  have hlocks := B.notSynchronized
  subst hsz
  have hD := hD0
  generalize hAe : va_A [] s.heap.size = A
  have hA : ∀ q : Nat, s.heap.size ≤ q → A q := fun q h => by rw [← hAe]; exact Or.inr h
  have hS : va_S A s.heap s.heap [] := va_S.rf
  replace hP : va_P (dC, dI) vwCl [(x, .inr (11, [.ref nr, .ref st, .ref lf, .int 2, .int (nI tm), .int (nI fcn), .int xl, .int 0])), (nr, .inl (cN, 8, .inr (.inr (.inr (.inr fn))))), (bn, .inr (5, [.int bh, .int bl, .int bwa, .int bfr, .int (nI bwi), .ref br, .ref be, .ref bs, .ref bi, .ref bg, .ref bc, .ref bu, .int 0, .int 2, .int 200, .int (nI bcc), .int 0, .int 0])), (bi, .inr (3, [.int (nI nc), .int 0, .ref lg, .ref lt])), (lg, .inl (cL, 80, .inl fL))] s.heap := hP
  have hl := lv_entry ([.ref x, .int 1, .int (nI p0), .int 1]) (n := 5) (Nat.le_of_ble_eq_true rfl)
  rw [lg_entry_eq]
  generalize (lg_sl ([.ref x, .int 1, .int (nI p0), .int 1]) ++ List.replicate (5 - (lg_sl ([.ref x, .int 1, .int (nI p0), .int 1])).length) Slot.unset).toArray = ls at hl ⊢
  replace hl : lv_has ls 5 [(0, .ref x), (1, .int 1), (2, .int (nI p0)), (3, .int 1)] := hl
  obtain ⟨H, hH⟩ : ∃ z : Heap, z = s.heap := ⟨_, rfl⟩
  rw [← hH]
  replace hS : va_S A s.heap H [] := by rw [hH]; exact va_S.rf
  replace hP : va_P (dC, dI) vwCl [(x, .inr (11, [.ref nr, .ref st, .ref lf, .int 2, .int (nI tm), .int (nI fcn), .int xl, .int 0])), (nr, .inl (cN, 8, .inr (.inr (.inr (.inr fn))))), (bn, .inr (5, [.int bh, .int bl, .int bwa, .int bfr, .int (nI bwi), .ref br, .ref be, .ref bs, .ref bi, .ref bg, .ref bc, .ref bu, .int 0, .int 2, .int 200, .int (nI bcc), .int 0, .int 0])), (bi, .inr (3, [.int (nI nc), .int 0, .ref lg, .ref lt])), (lg, .inl (cL, 80, .inl fL))] H := by rw [hH]; exact hP
  clear hH
  refine lv_aload_n hx hb dX10_message_0 rfl (lv_at hl 0 rfl) ?_
  refine lv_iload_n hx hb dX10_message_1 rfl (lv_at hl 1 rfl) ?_
  have hPc := hP.sub (ws' := [(x, .inr (11, [.ref nr, .ref st, .ref lf, .int 2, .int (nI tm), .int (nI fcn), .int xl, .int 0])), (nr, .inl (cN, 8, .inr (.inr (.inr (.inr fn)))))]) [0, 1] rfl
  have hDc := hD.sub (ws' := [(x, .inr (11, [.ref nr, .ref st, .ref lf, .int 2, .int (nI tm), .int (nI fcn), .int xl, .int 0])), (nr, .inl (cN, 8, .inr (.inr (.inr (.inr fn)))))]) [0, 1] (by decide +kernel) rfl
  have hKc := hK.sub (tys' := [(cN, (.object RX4))]) [0] rfl
  have hFc := ro_free hS hA
  refine va_callq (va_runV (As := [.int 1]) (rest := []) ⟨hx, hb, hml, hown, hts⟩ (c_find_1 l dC dI (x) (nr) (st) (lf) (tm) (fcn) (xl) (cN) (fn) (bn) H.size n1) (cwV 1 hts g_c_message_1_c_find_1_53 rfl rfl rfl (by decide +kernel) ⟨Nat.le_of_ble_eq_true rfl, Nat.le_of_ble_eq_true rfl⟩) ⟨fun a U g mk q => by obtain ⟨q0, q1, qP, qK, qD, qE⟩ := q; exact ⟨q0, q1, qP, va_K.moved (u := U) (U := U.calling g mk a) (Vm.Alike.refl U.vm) qK, qD, ev.same (u := U) (U := U.calling g mk a) rfl qE⟩, va_recv hKc hPc (ci := 11) (q0 := 0) rfl rfl, fun U hU hW => ⟨rfl, by rw [hU], by rw [hU]; exact hPc, va_K.moved hW.alike hKc, hDc.weaken (fun _ _ _ _ => trivial), hE.warm hW⟩⟩ rfl rfl hl.1 rfl (lv_room (Nat.le_of_ble_eq_true rfl)) dX10_message_2 ⟨Nat.le_of_ble_eq_true rfl, Nat.le_of_ble_eq_true rfl⟩) hS (fun q _ h => hFc q h) hFc (fun r_1 u t H1 locs ht hvm hw hB hz1 hk1 hS => ?_)
  clear hPc hDc hKc
  replace hP := ro_keep hP hk1
  generalize H1 = H at hP hS ⊢
  replace hP : va_P (dC, dI) vwCl [(x, .inr (11, [.ref nr, .ref st, .ref lf, .int 2, .int (nI tm), .int (nI fcn), .int xl, .int 0])), (nr, .inl (cN, 8, .inr (.inr (.inr (.inr fn))))), (bn, .inr (5, [.int bh, .int bl, .int bwa, .int bfr, .int (nI bwi), .ref br, .ref be, .ref bs, .ref bi, .ref bg, .ref bc, .ref bu, .int 0, .int 2, .int 200, .int (nI bcc), .int 0, .int 0])), (bi, .inr (3, [.int (nI nc), .int 0, .ref lg, .ref lt])), (lg, .inl (cL, 80, .inl fL))] H := hP
  have hw := hw.symm
  subst hw
  refine W.eq (g2 := F0 m 5 ls [.ref bn]) rfl ?_
  refine lv_astore (lv' := [(4, .ref bn), (0, .ref x), (1, .int 1), (2, .int (nI p0)), (3, .int 1)]) hx hb dX10_message_5 hl (by decide) rfl (fun ls hl => ?_)
  refine lv_aload hx hb dX10_message_7 (lv_at hl 0 rfl) ?_
  refine lv_ifnonnull (tgt := 16) hx hb dX10_message_9 (by decide) ?_
  refine lv_aload hx hb dX10_message_16 (lv_at hl 0 rfl) ?_
  refine va_get (D := (dC, dI)) (ci := 5) (v := .ref bi) (C := RX4) (T := TX4) (N := 18) hx hb hts in_c_message_1_X4 hown hK hP 2 rfl rfl 8 (by decide) (hts (.fieldLink RX10 140 "ClaimBus$Node" "inbox" "LClaimBus$Inbox;") (List.mem_of_getElem? (i := 5) rfl)) (fun _ h9 => h9) rfl dX10_message_18 ?_
  refine lv_iload_n hx hb dX10_message_21 rfl (lv_at hl 3 rfl) ?_
  refine lv_iload_n hx hb dX10_message_22 rfl (lv_at hl 4 rfl) ?_
  have hPc := hP.sub (ws' := [(bi, .inr (3, [.int (nI nc), .int 0, .ref lg, .ref lt])), (lg, .inl (cL, 80, .inl fL))]) [3, 4] rfl
  have hDc := hD.sub (ws' := [(bi, .inr (3, [.int (nI nc), .int 0, .ref lg, .ref lt])), (lg, .inl (cL, 80, .inl fL))]) [3, 4] (by decide +kernel) rfl
  have hKc := hK.sub (tys' := [(cL, .int)]) [1] rfl
  have hFc := ro_free hS hA
  refine va_calli (va_runV (As := [.int (nI p0), .int 1]) (rest := []) ⟨hx, hb, hml, hown, hts⟩ (c_logged_1 l dC dI (bi) (nc) (lg) (lt) (cL) (fL) (p0) H.size hp0 hnc) (cwV 2 hts g_c_message_1_c_logged_1_164 rfl rfl rfl (by decide +kernel) ⟨Nat.le_of_ble_eq_true rfl, Nat.le_of_ble_eq_true rfl⟩) ⟨fun a U g mk q => by obtain ⟨q0, q1, qP, qK, qD, qE⟩ := q; exact ⟨q0, q1, qP, va_K.moved (u := U) (U := U.calling g mk a) (Vm.Alike.refl U.vm) qK, qD, ev.same (u := U) (U := U.calling g mk a) rfl qE⟩, va_recv hKc hPc (ci := 3) (q0 := 0) rfl rfl, fun U hU hW => ⟨rfl, by rw [hU], by rw [hU]; exact hPc, va_K.moved hW.alike hKc, hDc.weaken (fun _ _ _ _ => trivial), hE.warm hW⟩⟩ rfl rfl hl.1 rfl (lv_room (Nat.le_of_ble_eq_true rfl)) dX10_message_23 ⟨Nat.le_of_ble_eq_true rfl, Nat.le_of_ble_eq_true rfl⟩) hS (fun q _ h => hFc q h) hFc (fun r_2 u t H1 locs ht hvm hw hB hz1 hk1 hS => ?_)
  clear hPc hDc hKc
  replace hP := ro_keep hP hk1
  generalize H1 = H at hP hS ⊢
  replace hP : va_P (dC, dI) vwCl [(x, .inr (11, [.ref nr, .ref st, .ref lf, .int 2, .int (nI tm), .int (nI fcn), .int xl, .int 0])), (nr, .inl (cN, 8, .inr (.inr (.inr (.inr fn))))), (bn, .inr (5, [.int bh, .int bl, .int bwa, .int bfr, .int (nI bwi), .ref br, .ref be, .ref bs, .ref bi, .ref bg, .ref bc, .ref bu, .int 0, .int 2, .int 200, .int (nI bcc), .int 0, .int 0])), (bi, .inr (3, [.int (nI nc), .int 0, .ref lg, .ref lt])), (lg, .inl (cL, 80, .inl fL))] H := hP
  have hw := hw.symm
  subst hw
  exact W.iret (v := (fL (4 * p0 + 1))) hx hb hr (fun t ht hW => ⟨⟨(fL (4 * p0 + 1)), (), rfl, rfl, trivial⟩, hS.F ht⟩) hS.2.2 dX10_message_26

noncomputable def tl_c_message_2 : List Cond := wsX40 ++ (v_c_find_1 ++ (v_c_logged_2))
noncomputable def v_c_message_2 : List Cond := .code yX10_message cX10_message 5 (some .int) :: ([.initialized RX10, .methodLink RX10 53 yX10_find, .instanceMethod yX10_find, .selects RX10 yX10_find yX10_find, .fieldLink RX10 140 "ClaimBus$Node" "inbox" "LClaimBus$Inbox;", .initialized RX2, .methodLink RX10 164 yX2_logged, .instanceMethod yX2_logged, .selects RX2 yX2_logged yX2_logged] ++ tl_c_message_2)
theorem it_c_message_2 : ∀ w ∈ tl_c_message_2, w ∈ v_c_message_2 := fun w h => List.mem_cons_of_mem _ (List.mem_append_right _ h)
theorem in_c_message_2_X4 : ∀ w ∈ wsX40, w ∈ v_c_message_2 := fun w h => it_c_message_2 w (List.mem_append_left _ h)
theorem ic_c_message_2_c_find_1 : ∀ w ∈ v_c_find_1, w ∈ v_c_message_2 := fun w h => it_c_message_2 w (List.mem_append_right _ (List.mem_append_left _ h))
theorem ic_c_message_2_c_logged_2 : ∀ w ∈ v_c_logged_2, w ∈ v_c_message_2 := fun w h => it_c_message_2 w (List.mem_append_right _ (List.mem_append_right _ (h)))
theorem gt_c_message_2 : ∀ w ∈ tl_c_message_2, goodWord w = true := List.forall_mem_append.mpr ⟨gw_wsX40, List.forall_mem_append.mpr ⟨gw_c_find_1, gw_c_logged_2⟩⟩
theorem gw_c_message_2 : ∀ w ∈ v_c_message_2, goodWord w = true := List.forall_mem_cons.mpr ⟨by decide +kernel, List.forall_mem_append.mpr ⟨List.all_eq_true.mp (by decide +kernel), gt_c_message_2⟩⟩
theorem g_c_message_2_c_find_1_53 : GoodIn v_c_message_2 (wsV RX10 53 RX10 yX10_find v_c_find_1) := goodIn_app (goodIn_r [.methodLink RX10 53 yX10_find, .instanceMethod yX10_find, .selects RX10 yX10_find yX10_find, .initialized RX10] [2, 3, 4, 1] (by decide +kernel) (by decide +kernel)) (fun w h => ⟨ic_c_message_2_c_find_1 w h, good_of_word (gw_c_find_1 w h)⟩)
theorem g_c_message_2_c_logged_2_164 : GoodIn v_c_message_2 (wsV RX10 164 RX2 yX2_logged v_c_logged_2) := goodIn_app (goodIn_r [.methodLink RX10 164 yX2_logged, .instanceMethod yX2_logged, .selects RX2 yX2_logged yX2_logged, .initialized RX2] [7, 8, 9, 6] (by decide +kernel) (by decide +kernel)) (fun w h => ⟨ic_c_message_2_c_logged_2 w h, good_of_word (gw_c_logged_2 w h)⟩)
set_option maxHeartbeats 4000000 in
set_option maxRecDepth 100000 in
theorem c_message_2 (l : Launch) (dC : Nat → ClassId) (dI : Nat → Nat → Nat) (x : Nat) (nr : Nat) (st : Nat) (lf : Nat) (tm : Nat) (fcn : Nat) (xl : Int32) (cN : ClassId) (fn : Nat → Option Nat) (bn : Nat) (bh : Int32) (bl : Int32) (bwa : Int32) (bfr : Int32) (bwi : Nat) (br : Nat) (be : Nat) (bs : Nat) (bi : Nat) (bg : Nat) (bc : Nat) (bu : Nat) (bcc : Nat) (nc : Nat) (lg : Nat) (lt : Nat) (cL : ClassId) (fL : Nat → Int32) (p0 : Nat) (sz : Nat) (n1 : fn 1 = some bn) (hp0 : p0 < nc) (hnc : nc ≤ 20) : Met l yX10_message v_c_message_2 ({ frames := 1, cells := 0, slots := 0, locals := 22 }) (va_Pc [.ref x, .int 1, .int (nI p0), .int 2] (fun U => U.heap.size = sz ∧ va_P (dC, dI) vwCl [(x, .inr (11, [.ref nr, .ref st, .ref lf, .int 2, .int (nI tm), .int (nI fcn), .int xl, .int 0])), (nr, .inl (cN, 8, .inr (.inr (.inr (.inr fn))))), (bn, .inr (5, [.int bh, .int bl, .int bwa, .int bfr, .int (nI bwi), .ref br, .ref be, .ref bs, .ref bi, .ref bg, .ref bc, .ref bu, .int 0, .int 2, .int 200, .int (nI bcc), .int 0, .int 0])), (bi, .inr (3, [.int (nI nc), .int 0, .ref lg, .ref lt])), (lg, .inl (cL, 80, .inl fL))] U.heap ∧ va_K (dC, dI) vwCl [(cN, (.object RX4)), (cL, .int)] U ∧ va_D (fun _ => True) [(x, .inr (11, [.ref nr, .ref st, .ref lf, .int 2, .int (nI tm), .int (nI fcn), .int xl, .int 0])), (nr, .inl (cN, 8, .inr (.inr (.inr (.inr fn))))), (bn, .inr (5, [.int bh, .int bl, .int bwa, .int bfr, .int (nI bwi), .ref br, .ref be, .ref bs, .ref bi, .ref bg, .ref bc, .ref bu, .int 0, .int 2, .int 200, .int (nI bcc), .int 0, .int 0])), (bi, .inr (3, [.int (nI nc), .int 0, .ref lg, .ref lt])), (lg, .inl (cL, 80, .inl fL))] ∧ ev U)) (va_Qi (fun (r : Int32) (_ : Unit) => r = fL (4 * p0 + 2)) (fun (_ : Unit) (_ : State) => True) (va_A [] sz)) 0 0 (va_A [] sz) := by
  refine Met.ofW (cc := cX10_message) (maxL := 5) (ret := (some .int)) (by decide) rfl ?_
  intro p e s m args below meth c s₁ B hml hv
  obtain ⟨rfl, hsz, hP, hK, hD0, hE⟩ := hv
  have hx := B.exec
  have hb := B.bytes
  have hr := B.returns
  have hts := atoms_spec (ws := v_c_message_2) B.pre
  have hown : s.vm.findClass RX10 = some m.cls := findClass_of_methodNamed B.named
  have hlocks := B.notSynchronized
  subst hsz
  have hD := hD0
  generalize hAe : va_A [] s.heap.size = A
  have hA : ∀ q : Nat, s.heap.size ≤ q → A q := fun q h => by rw [← hAe]; exact Or.inr h
  have hS : va_S A s.heap s.heap [] := va_S.rf
  replace hP : va_P (dC, dI) vwCl [(x, .inr (11, [.ref nr, .ref st, .ref lf, .int 2, .int (nI tm), .int (nI fcn), .int xl, .int 0])), (nr, .inl (cN, 8, .inr (.inr (.inr (.inr fn))))), (bn, .inr (5, [.int bh, .int bl, .int bwa, .int bfr, .int (nI bwi), .ref br, .ref be, .ref bs, .ref bi, .ref bg, .ref bc, .ref bu, .int 0, .int 2, .int 200, .int (nI bcc), .int 0, .int 0])), (bi, .inr (3, [.int (nI nc), .int 0, .ref lg, .ref lt])), (lg, .inl (cL, 80, .inl fL))] s.heap := hP
  have hl := lv_entry ([.ref x, .int 1, .int (nI p0), .int 2]) (n := 5) (Nat.le_of_ble_eq_true rfl)
  rw [lg_entry_eq]
  generalize (lg_sl ([.ref x, .int 1, .int (nI p0), .int 2]) ++ List.replicate (5 - (lg_sl ([.ref x, .int 1, .int (nI p0), .int 2])).length) Slot.unset).toArray = ls at hl ⊢
  replace hl : lv_has ls 5 [(0, .ref x), (1, .int 1), (2, .int (nI p0)), (3, .int 2)] := hl
  obtain ⟨H, hH⟩ : ∃ z : Heap, z = s.heap := ⟨_, rfl⟩
  rw [← hH]
  replace hS : va_S A s.heap H [] := by rw [hH]; exact va_S.rf
  replace hP : va_P (dC, dI) vwCl [(x, .inr (11, [.ref nr, .ref st, .ref lf, .int 2, .int (nI tm), .int (nI fcn), .int xl, .int 0])), (nr, .inl (cN, 8, .inr (.inr (.inr (.inr fn))))), (bn, .inr (5, [.int bh, .int bl, .int bwa, .int bfr, .int (nI bwi), .ref br, .ref be, .ref bs, .ref bi, .ref bg, .ref bc, .ref bu, .int 0, .int 2, .int 200, .int (nI bcc), .int 0, .int 0])), (bi, .inr (3, [.int (nI nc), .int 0, .ref lg, .ref lt])), (lg, .inl (cL, 80, .inl fL))] H := by rw [hH]; exact hP
  clear hH
  refine lv_aload_n hx hb dX10_message_0 rfl (lv_at hl 0 rfl) ?_
  refine lv_iload_n hx hb dX10_message_1 rfl (lv_at hl 1 rfl) ?_
  have hPc := hP.sub (ws' := [(x, .inr (11, [.ref nr, .ref st, .ref lf, .int 2, .int (nI tm), .int (nI fcn), .int xl, .int 0])), (nr, .inl (cN, 8, .inr (.inr (.inr (.inr fn)))))]) [0, 1] rfl
  have hDc := hD.sub (ws' := [(x, .inr (11, [.ref nr, .ref st, .ref lf, .int 2, .int (nI tm), .int (nI fcn), .int xl, .int 0])), (nr, .inl (cN, 8, .inr (.inr (.inr (.inr fn)))))]) [0, 1] (by decide +kernel) rfl
  have hKc := hK.sub (tys' := [(cN, (.object RX4))]) [0] rfl
  have hFc := ro_free hS hA
  refine va_callq (va_runV (As := [.int 1]) (rest := []) ⟨hx, hb, hml, hown, hts⟩ (c_find_1 l dC dI (x) (nr) (st) (lf) (tm) (fcn) (xl) (cN) (fn) (bn) H.size n1) (cwV 1 hts g_c_message_2_c_find_1_53 rfl rfl rfl (by decide +kernel) ⟨Nat.le_of_ble_eq_true rfl, Nat.le_of_ble_eq_true rfl⟩) ⟨fun a U g mk q => by obtain ⟨q0, q1, qP, qK, qD, qE⟩ := q; exact ⟨q0, q1, qP, va_K.moved (u := U) (U := U.calling g mk a) (Vm.Alike.refl U.vm) qK, qD, ev.same (u := U) (U := U.calling g mk a) rfl qE⟩, va_recv hKc hPc (ci := 11) (q0 := 0) rfl rfl, fun U hU hW => ⟨rfl, by rw [hU], by rw [hU]; exact hPc, va_K.moved hW.alike hKc, hDc.weaken (fun _ _ _ _ => trivial), hE.warm hW⟩⟩ rfl rfl hl.1 rfl (lv_room (Nat.le_of_ble_eq_true rfl)) dX10_message_2 ⟨Nat.le_of_ble_eq_true rfl, Nat.le_of_ble_eq_true rfl⟩) hS (fun q _ h => hFc q h) hFc (fun r_1 u t H1 locs ht hvm hw hB hz1 hk1 hS => ?_)
  clear hPc hDc hKc
  replace hP := ro_keep hP hk1
  generalize H1 = H at hP hS ⊢
  replace hP : va_P (dC, dI) vwCl [(x, .inr (11, [.ref nr, .ref st, .ref lf, .int 2, .int (nI tm), .int (nI fcn), .int xl, .int 0])), (nr, .inl (cN, 8, .inr (.inr (.inr (.inr fn))))), (bn, .inr (5, [.int bh, .int bl, .int bwa, .int bfr, .int (nI bwi), .ref br, .ref be, .ref bs, .ref bi, .ref bg, .ref bc, .ref bu, .int 0, .int 2, .int 200, .int (nI bcc), .int 0, .int 0])), (bi, .inr (3, [.int (nI nc), .int 0, .ref lg, .ref lt])), (lg, .inl (cL, 80, .inl fL))] H := hP
  have hw := hw.symm
  subst hw
  refine W.eq (g2 := F0 m 5 ls [.ref bn]) rfl ?_
  refine lv_astore (lv' := [(4, .ref bn), (0, .ref x), (1, .int 1), (2, .int (nI p0)), (3, .int 2)]) hx hb dX10_message_5 hl (by decide) rfl (fun ls hl => ?_)
  refine lv_aload hx hb dX10_message_7 (lv_at hl 0 rfl) ?_
  refine lv_ifnonnull (tgt := 16) hx hb dX10_message_9 (by decide) ?_
  refine lv_aload hx hb dX10_message_16 (lv_at hl 0 rfl) ?_
  refine va_get (D := (dC, dI)) (ci := 5) (v := .ref bi) (C := RX4) (T := TX4) (N := 18) hx hb hts in_c_message_2_X4 hown hK hP 2 rfl rfl 8 (by decide) (hts (.fieldLink RX10 140 "ClaimBus$Node" "inbox" "LClaimBus$Inbox;") (List.mem_of_getElem? (i := 5) rfl)) (fun _ h9 => h9) rfl dX10_message_18 ?_
  refine lv_iload_n hx hb dX10_message_21 rfl (lv_at hl 3 rfl) ?_
  refine lv_iload_n hx hb dX10_message_22 rfl (lv_at hl 4 rfl) ?_
  have hPc := hP.sub (ws' := [(bi, .inr (3, [.int (nI nc), .int 0, .ref lg, .ref lt])), (lg, .inl (cL, 80, .inl fL))]) [3, 4] rfl
  have hDc := hD.sub (ws' := [(bi, .inr (3, [.int (nI nc), .int 0, .ref lg, .ref lt])), (lg, .inl (cL, 80, .inl fL))]) [3, 4] (by decide +kernel) rfl
  have hKc := hK.sub (tys' := [(cL, .int)]) [1] rfl
  have hFc := ro_free hS hA
  refine va_calli (va_runV (As := [.int (nI p0), .int 2]) (rest := []) ⟨hx, hb, hml, hown, hts⟩ (c_logged_2 l dC dI (bi) (nc) (lg) (lt) (cL) (fL) (p0) H.size hp0 hnc) (cwV 2 hts g_c_message_2_c_logged_2_164 rfl rfl rfl (by decide +kernel) ⟨Nat.le_of_ble_eq_true rfl, Nat.le_of_ble_eq_true rfl⟩) ⟨fun a U g mk q => by obtain ⟨q0, q1, qP, qK, qD, qE⟩ := q; exact ⟨q0, q1, qP, va_K.moved (u := U) (U := U.calling g mk a) (Vm.Alike.refl U.vm) qK, qD, ev.same (u := U) (U := U.calling g mk a) rfl qE⟩, va_recv hKc hPc (ci := 3) (q0 := 0) rfl rfl, fun U hU hW => ⟨rfl, by rw [hU], by rw [hU]; exact hPc, va_K.moved hW.alike hKc, hDc.weaken (fun _ _ _ _ => trivial), hE.warm hW⟩⟩ rfl rfl hl.1 rfl (lv_room (Nat.le_of_ble_eq_true rfl)) dX10_message_23 ⟨Nat.le_of_ble_eq_true rfl, Nat.le_of_ble_eq_true rfl⟩) hS (fun q _ h => hFc q h) hFc (fun r_2 u t H1 locs ht hvm hw hB hz1 hk1 hS => ?_)
  clear hPc hDc hKc
  replace hP := ro_keep hP hk1
  generalize H1 = H at hP hS ⊢
  replace hP : va_P (dC, dI) vwCl [(x, .inr (11, [.ref nr, .ref st, .ref lf, .int 2, .int (nI tm), .int (nI fcn), .int xl, .int 0])), (nr, .inl (cN, 8, .inr (.inr (.inr (.inr fn))))), (bn, .inr (5, [.int bh, .int bl, .int bwa, .int bfr, .int (nI bwi), .ref br, .ref be, .ref bs, .ref bi, .ref bg, .ref bc, .ref bu, .int 0, .int 2, .int 200, .int (nI bcc), .int 0, .int 0])), (bi, .inr (3, [.int (nI nc), .int 0, .ref lg, .ref lt])), (lg, .inl (cL, 80, .inl fL))] H := hP
  have hw := hw.symm
  subst hw
  exact W.iret (v := (fL (4 * p0 + 2))) hx hb hr (fun t ht hW => ⟨⟨(fL (4 * p0 + 2)), (), rfl, rfl, trivial⟩, hS.F ht⟩) hS.2.2 dX10_message_26
