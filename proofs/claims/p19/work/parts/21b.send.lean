noncomputable def tl_c_send_no : List Cond := v_c_find_0 ++ (v_c_maySend_1)
noncomputable def v_c_send_no : List Cond := .code yX10_send cX10_send 7 (some .boolean) :: ([.initialized RX10, .methodLink RX10 53 yX10_find, .instanceMethod yX10_find, .selects RX10 yX10_find yX10_find, .initialized RX4, .methodLink RX10 84 yX4_maySend, .instanceMethod yX4_maySend, .selects RX4 yX4_maySend yX4_maySend] ++ tl_c_send_no)
theorem it_c_send_no : ∀ w ∈ tl_c_send_no, w ∈ v_c_send_no := fun w h => List.mem_cons_of_mem _ (List.mem_append_right _ h)
theorem ic_c_send_no_c_find_0 : ∀ w ∈ v_c_find_0, w ∈ v_c_send_no := fun w h => it_c_send_no w (List.mem_append_left _ h)
theorem ic_c_send_no_c_maySend_1 : ∀ w ∈ v_c_maySend_1, w ∈ v_c_send_no := fun w h => it_c_send_no w (List.mem_append_right _ (h))
theorem gt_c_send_no : ∀ w ∈ tl_c_send_no, goodWord w = true := List.forall_mem_append.mpr ⟨gw_c_find_0, gw_c_maySend_1⟩
theorem gw_c_send_no : ∀ w ∈ v_c_send_no, goodWord w = true := List.forall_mem_cons.mpr ⟨by decide +kernel, List.forall_mem_append.mpr ⟨List.all_eq_true.mp (by decide +kernel), gt_c_send_no⟩⟩
theorem g_c_send_no_c_find_0_53 : GoodIn v_c_send_no (wsV RX10 53 RX10 yX10_find v_c_find_0) := goodIn_app (goodIn_r [.methodLink RX10 53 yX10_find, .instanceMethod yX10_find, .selects RX10 yX10_find yX10_find, .initialized RX10] [2, 3, 4, 1] (by decide +kernel) (by decide +kernel)) (fun w h => ⟨ic_c_send_no_c_find_0 w h, good_of_word (gw_c_find_0 w h)⟩)
theorem g_c_send_no_c_maySend_1_84 : GoodIn v_c_send_no (wsV RX10 84 RX4 yX4_maySend v_c_maySend_1) := goodIn_app (goodIn_r [.methodLink RX10 84 yX4_maySend, .instanceMethod yX4_maySend, .selects RX4 yX4_maySend yX4_maySend, .initialized RX4] [6, 7, 8, 5] (by decide +kernel) (by decide +kernel)) (fun w h => ⟨ic_c_send_no_c_maySend_1 w h, good_of_word (gw_c_maySend_1 w h)⟩)
set_option maxHeartbeats 4000000 in
set_option maxRecDepth 100000 in
theorem c_send_no (l : Launch) (dC : Nat → ClassId) (dI : Nat → Nat → Nat) (x : Nat) (nr : Nat) (st : Nat) (lf : Nat) (tm : Nat) (fcn : Nat) (xl : Int32) (cN : ClassId) (fn : Nat → Option Nat) (an : Nat) (ah : Int32) (al : Int32) (awa : Int32) (afr : Int32) (awi : Nat) (ar : Nat) (ae : Nat) (as : Nat) (ai : Nat) (ag : Nat) (ac : Nat) (au : Nat) (acc : Nat) (asnp : Int32) (sdu : Nat) (mm : Nat) (p0 : Int32) (p1 : Int32) (p2 : Int32) (p3 : Int32) (sz : Nat) (n0 : fn 0 = some an) : Met l yX10_send v_c_send_no ({ frames := 1, cells := 0, slots := 0, locals := 21 }) (va_Pc [.ref x, .int 0, .int p0, .int p1, .int p2, .int p3] (fun U => U.heap.size = sz ∧ va_P (dC, dI) vwCl [(x, .inr (11, [.ref nr, .ref st, .ref lf, .int 2, .int (nI tm), .int (nI fcn), .int xl, .int 0])), (nr, .inl (cN, 8, .inr (.inr (.inr (.inr fn))))), (an, .inr (5, [.int ah, .int al, .int awa, .int afr, .int (nI awi), .ref ar, .ref ae, .ref as, .ref ai, .ref ag, .ref ac, .ref au, .int 0, .int 2, .int 10, .int (nI acc), .int 0, .int 0])), (as, .inr (7, [.int 1, .int asnp, .int (nI sdu), .ref mm]))] U.heap ∧ va_K (dC, dI) vwCl [(cN, (.object RX4))] U ∧ va_D (fun _ => True) [(x, .inr (11, [.ref nr, .ref st, .ref lf, .int 2, .int (nI tm), .int (nI fcn), .int xl, .int 0])), (nr, .inl (cN, 8, .inr (.inr (.inr (.inr fn))))), (an, .inr (5, [.int ah, .int al, .int awa, .int afr, .int (nI awi), .ref ar, .ref ae, .ref as, .ref ai, .ref ag, .ref ac, .ref au, .int 0, .int 2, .int 10, .int (nI acc), .int 0, .int 0])), (as, .inr (7, [.int 1, .int asnp, .int (nI sdu), .ref mm]))] ∧ ev U)) (va_Qi (fun (r : Int32) (_ : Unit) => r = 0) (fun (_ : Unit) (_ : State) => True) (va_A [] sz)) 0 0 (va_A [] sz) := by
  refine Met.ofW (cc := cX10_send) (maxL := 7) (ret := (some .boolean)) (by decide) rfl ?_
  intro p e s m args below meth c s₁ B hml hv
  obtain ⟨rfl, hsz, hP, hK, hD0, hE⟩ := hv
  have hx := B.exec
  have hb := B.bytes
  have hr := B.returns
  have hts := atoms_spec (ws := v_c_send_no) B.pre
  have hown : s.vm.findClass RX10 = some m.cls := findClass_of_methodNamed B.named
  have hlocks := B.notSynchronized
  subst hsz
  have hD := hD0
  generalize hAe : va_A [] s.heap.size = A
  have hA : ∀ q : Nat, s.heap.size ≤ q → A q := fun q h => by rw [← hAe]; exact Or.inr h
  have hS : va_S A s.heap s.heap [] := va_S.rf
  replace hP : va_P (dC, dI) vwCl [(x, .inr (11, [.ref nr, .ref st, .ref lf, .int 2, .int (nI tm), .int (nI fcn), .int xl, .int 0])), (nr, .inl (cN, 8, .inr (.inr (.inr (.inr fn))))), (an, .inr (5, [.int ah, .int al, .int awa, .int afr, .int (nI awi), .ref ar, .ref ae, .ref as, .ref ai, .ref ag, .ref ac, .ref au, .int 0, .int 2, .int 10, .int (nI acc), .int 0, .int 0])), (as, .inr (7, [.int 1, .int asnp, .int (nI sdu), .ref mm]))] s.heap := hP
  have hl := lv_entry ([.ref x, .int 0, .int p0, .int p1, .int p2, .int p3]) (n := 7) (Nat.le_of_ble_eq_true rfl)
  rw [lg_entry_eq]
  generalize (lg_sl ([.ref x, .int 0, .int p0, .int p1, .int p2, .int p3]) ++ List.replicate (7 - (lg_sl ([.ref x, .int 0, .int p0, .int p1, .int p2, .int p3])).length) Slot.unset).toArray = ls at hl ⊢
  replace hl : lv_has ls 7 [(0, .ref x), (1, .int 0), (2, .int p0), (3, .int p1), (4, .int p2), (5, .int p3)] := hl
  obtain ⟨H, hH⟩ : ∃ z : Heap, z = s.heap := ⟨_, rfl⟩
  rw [← hH]
  replace hS : va_S A s.heap H [] := by rw [hH]; exact va_S.rf
  replace hP : va_P (dC, dI) vwCl [(x, .inr (11, [.ref nr, .ref st, .ref lf, .int 2, .int (nI tm), .int (nI fcn), .int xl, .int 0])), (nr, .inl (cN, 8, .inr (.inr (.inr (.inr fn))))), (an, .inr (5, [.int ah, .int al, .int awa, .int afr, .int (nI awi), .ref ar, .ref ae, .ref as, .ref ai, .ref ag, .ref ac, .ref au, .int 0, .int 2, .int 10, .int (nI acc), .int 0, .int 0])), (as, .inr (7, [.int 1, .int asnp, .int (nI sdu), .ref mm]))] H := by rw [hH]; exact hP
  clear hH
  refine lv_aload_n hx hb dX10_send_0 rfl (lv_at hl 0 rfl) ?_
  refine lv_iload_n hx hb dX10_send_1 rfl (lv_at hl 1 rfl) ?_
  have hPc := hP.sub (ws' := [(x, .inr (11, [.ref nr, .ref st, .ref lf, .int 2, .int (nI tm), .int (nI fcn), .int xl, .int 0])), (nr, .inl (cN, 8, .inr (.inr (.inr (.inr fn)))))]) [0, 1] rfl
  have hDc := hD.sub (ws' := [(x, .inr (11, [.ref nr, .ref st, .ref lf, .int 2, .int (nI tm), .int (nI fcn), .int xl, .int 0])), (nr, .inl (cN, 8, .inr (.inr (.inr (.inr fn)))))]) [0, 1] (by decide +kernel) rfl
  have hKc := hK.sub (tys' := [(cN, (.object RX4))]) [0] rfl
  have hFc := ro_free hS hA
  refine va_callq (va_runV (As := [.int 0]) (rest := []) ⟨hx, hb, hml, hown, hts⟩ (c_find_0 l dC dI (x) (nr) (st) (lf) (tm) (fcn) (xl) (cN) (fn) (an) H.size n0) (cwV 1 hts g_c_send_no_c_find_0_53 rfl rfl rfl (by decide +kernel) ⟨Nat.le_of_ble_eq_true rfl, Nat.le_of_ble_eq_true rfl⟩) ⟨fun a U g mk q => by obtain ⟨q0, q1, qP, qK, qD, qE⟩ := q; exact ⟨q0, q1, qP, va_K.moved (u := U) (U := U.calling g mk a) (Vm.Alike.refl U.vm) qK, qD, ev.same (u := U) (U := U.calling g mk a) rfl qE⟩, va_recv hKc hPc (ci := 11) (q0 := 0) rfl rfl, fun U hU hW => ⟨rfl, by rw [hU], by rw [hU]; exact hPc, va_K.moved hW.alike hKc, hDc.weaken (fun _ _ _ _ => trivial), hE.warm hW⟩⟩ rfl rfl hl.1 rfl (lv_room (Nat.le_of_ble_eq_true rfl)) dX10_send_2 ⟨Nat.le_of_ble_eq_true rfl, Nat.le_of_ble_eq_true rfl⟩) hS (fun q _ h => hFc q h) hFc (fun r_1 u t H1 locs ht hvm hw hB hz1 hk1 hS => ?_)
  clear hPc hDc hKc
  replace hP := ro_keep hP hk1
  generalize H1 = H at hP hS ⊢
  replace hP : va_P (dC, dI) vwCl [(x, .inr (11, [.ref nr, .ref st, .ref lf, .int 2, .int (nI tm), .int (nI fcn), .int xl, .int 0])), (nr, .inl (cN, 8, .inr (.inr (.inr (.inr fn))))), (an, .inr (5, [.int ah, .int al, .int awa, .int afr, .int (nI awi), .ref ar, .ref ae, .ref as, .ref ai, .ref ag, .ref ac, .ref au, .int 0, .int 2, .int 10, .int (nI acc), .int 0, .int 0])), (as, .inr (7, [.int 1, .int asnp, .int (nI sdu), .ref mm]))] H := hP
  have hw := hw.symm
  subst hw
  refine W.eq (g2 := F0 m 5 ls [.ref an]) rfl ?_
  refine lv_astore (lv' := [(6, .ref an), (0, .ref x), (1, .int 0), (2, .int p0), (3, .int p1), (4, .int p2), (5, .int p3)]) hx hb dX10_send_5 hl (by decide) rfl (fun ls hl => ?_)
  refine lv_aload hx hb dX10_send_7 (lv_at hl 0 rfl) ?_
  refine lv_ifnull hx hb dX10_send_9 ?_
  refine lv_aload hx hb dX10_send_12 (lv_at hl 0 rfl) ?_
  have hPc := hP.sub (ws' := [(an, .inr (5, [.int ah, .int al, .int awa, .int afr, .int (nI awi), .ref ar, .ref ae, .ref as, .ref ai, .ref ag, .ref ac, .ref au, .int 0, .int 2, .int (nI 10), .int (nI acc), .int 0, .int 0])), (as, .inr (7, [.int 1, .int asnp, .int (nI sdu), .ref mm]))]) [2, 3] rfl
  have hDc := hD.sub (ws' := [(an, .inr (5, [.int ah, .int al, .int awa, .int afr, .int (nI awi), .ref ar, .ref ae, .ref as, .ref ai, .ref ag, .ref ac, .ref au, .int 0, .int 2, .int (nI 10), .int (nI acc), .int 0, .int 0])), (as, .inr (7, [.int 1, .int asnp, .int (nI sdu), .ref mm]))]) [2, 3] (by decide +kernel) rfl
  have hKc := hK.sub (tys' := []) [] rfl
  have hFc := ro_free hS hA
  refine va_calli (va_runV (As := []) (rest := []) ⟨hx, hb, hml, hown, hts⟩ (c_maySend_1 l dC dI (an) (ah) (al) (awa) (afr) (awi) (ar) (ae) (as) (ai) (ag) (ac) (au) (10) (acc) (asnp) ((nI sdu)) (mm) H.size) (cwV 0 hts g_c_send_no_c_maySend_1_84 rfl rfl rfl (by decide +kernel) ⟨Nat.le_of_ble_eq_true rfl, Nat.le_of_ble_eq_true rfl⟩) ⟨fun a U g mk q => by obtain ⟨q0, q1, qP, qK, qD, qE⟩ := q; exact ⟨q0, q1, qP, va_K.moved (u := U) (U := U.calling g mk a) (Vm.Alike.refl U.vm) qK, qD, ev.same (u := U) (U := U.calling g mk a) rfl qE⟩, va_recv hKc hPc (ci := 5) (q0 := 0) rfl rfl, fun U hU hW => ⟨rfl, by rw [hU], by rw [hU]; exact hPc, va_K.moved hW.alike hKc, hDc.weaken (fun _ _ _ _ => trivial), hE.warm hW⟩⟩ rfl rfl hl.1 rfl (lv_room (Nat.le_of_ble_eq_true rfl)) dX10_send_14 ⟨Nat.le_of_ble_eq_true rfl, Nat.le_of_ble_eq_true rfl⟩) hS (fun q _ h => hFc q h) hFc (fun r_2 u t H1 locs ht hvm hw hB hz1 hk1 hS => ?_)
  clear hPc hDc hKc
  replace hP := ro_keep hP hk1
  generalize H1 = H at hP hS ⊢
  replace hP : va_P (dC, dI) vwCl [(x, .inr (11, [.ref nr, .ref st, .ref lf, .int 2, .int (nI tm), .int (nI fcn), .int xl, .int 0])), (nr, .inl (cN, 8, .inr (.inr (.inr (.inr fn))))), (an, .inr (5, [.int ah, .int al, .int awa, .int afr, .int (nI awi), .ref ar, .ref ae, .ref as, .ref ai, .ref ag, .ref ac, .ref au, .int 0, .int 2, .int 10, .int (nI acc), .int 0, .int 0])), (as, .inr (7, [.int 1, .int asnp, .int (nI sdu), .ref mm]))] H := hP
  have hw := hw.symm
  subst hw
  refine lv_if_eq (tgt := 30) hx hb dX10_send_17 (by decide) (fun c_3 => ?_) (fun c_3 => ?_)
  rotate_left
  · exact absurd (by decide) c_3
  refine lv_iconst (v := 0) hx hb dX10_send_30 (by decide) ?_
  exact W.zret (v := 0) hx hb hr (by decide) (fun t ht hW => ⟨⟨0, (), rfl, rfl, trivial⟩, hS.F ht⟩) hS.2.2 dX10_send_31
