noncomputable def tl_c_runTimers_0co : List Cond := wsX40 ++ (wsX60 ++ (wsX90 ++ (v_c_AL_size ++ (v_c_AL_get))))
noncomputable def v_c_runTimers_0co : List Cond := .code yX4_runTimers cX4_runTimers 6 none :: ([.fieldLink RX4 53 "ClaimBus$Node" "state" "I", .fieldLink RX4 21 "ClaimBus$Node" "sending" "LClaimBus$Sending;", .fieldLink RX4 121 "ClaimBus$Sending" "state" "I", .fieldLink RX4 41 "ClaimBus$Node" "collects" "Ljava/util/ArrayList;", .initialized RJx4a65c, .methodLink RX4 96 yJx4a65c_size_8abf5, .instanceMethod yJx4a65c_size_8abf5, .selects RJx4a65c yJx4a65c_size_8abf5 yJx4a65c_size_8abf5, .methodLink RX4 100 yJx4a65c_get_915e3, .instanceMethod yJx4a65c_get_915e3, .selects RJx4a65c yJx4a65c_get_915e3 yJx4a65c_get_915e3, .classLink RX4 32 "ClaimBus$Transport", .fieldLink RX4 93 "ClaimBus$Transport" "open" "Z", .fieldLink RX4 34 "ClaimBus$Node" "gets" "[LClaimBus$Transport;", .fieldLink RX4 153 "ClaimBus$Transport" "lastHeard" "I"] ++ tl_c_runTimers_0co)
theorem it_c_runTimers_0co : ∀ w ∈ tl_c_runTimers_0co, w ∈ v_c_runTimers_0co := fun w h => List.mem_cons_of_mem _ (List.mem_append_right _ h)
theorem in_c_runTimers_0co_X4 : ∀ w ∈ wsX40, w ∈ v_c_runTimers_0co := fun w h => it_c_runTimers_0co w (List.mem_append_left _ h)
theorem in_c_runTimers_0co_X6 : ∀ w ∈ wsX60, w ∈ v_c_runTimers_0co := fun w h => it_c_runTimers_0co w (List.mem_append_right _ (List.mem_append_left _ h))
theorem in_c_runTimers_0co_X9 : ∀ w ∈ wsX90, w ∈ v_c_runTimers_0co := fun w h => it_c_runTimers_0co w (List.mem_append_right _ (List.mem_append_right _ (List.mem_append_left _ h)))
theorem ic_c_runTimers_0co_c_AL_size : ∀ w ∈ v_c_AL_size, w ∈ v_c_runTimers_0co := fun w h => it_c_runTimers_0co w (List.mem_append_right _ (List.mem_append_right _ (List.mem_append_right _ (List.mem_append_left _ h))))
theorem ic_c_runTimers_0co_c_AL_get : ∀ w ∈ v_c_AL_get, w ∈ v_c_runTimers_0co := fun w h => it_c_runTimers_0co w (List.mem_append_right _ (List.mem_append_right _ (List.mem_append_right _ (List.mem_append_right _ (h)))))
theorem gt_c_runTimers_0co : ∀ w ∈ tl_c_runTimers_0co, goodWord w = true := List.forall_mem_append.mpr ⟨gw_wsX40, List.forall_mem_append.mpr ⟨gw_wsX60, List.forall_mem_append.mpr ⟨gw_wsX90, List.forall_mem_append.mpr ⟨gw_c_AL_size, gw_c_AL_get⟩⟩⟩⟩
theorem gw_c_runTimers_0co : ∀ w ∈ v_c_runTimers_0co, goodWord w = true := List.forall_mem_cons.mpr ⟨by decide +kernel, List.forall_mem_append.mpr ⟨List.all_eq_true.mp (by decide +kernel), gt_c_runTimers_0co⟩⟩
theorem g_c_runTimers_0co_c_AL_size_96 : GoodIn v_c_runTimers_0co (wsV RX4 96 RJx4a65c yJx4a65c_size_8abf5 v_c_AL_size) := goodIn_app (goodIn_r [.methodLink RX4 96 yJx4a65c_size_8abf5, .instanceMethod yJx4a65c_size_8abf5, .selects RJx4a65c yJx4a65c_size_8abf5 yJx4a65c_size_8abf5, .initialized RJx4a65c] [6, 7, 8, 5] (by decide +kernel) (by decide +kernel)) (fun w h => ⟨ic_c_runTimers_0co_c_AL_size w h, good_of_word (gw_c_AL_size w h)⟩)
theorem g_c_runTimers_0co_c_AL_get_100 : GoodIn v_c_runTimers_0co (wsV RX4 100 RJx4a65c yJx4a65c_get_915e3 v_c_AL_get) := goodIn_app (goodIn_r [.methodLink RX4 100 yJx4a65c_get_915e3, .instanceMethod yJx4a65c_get_915e3, .selects RJx4a65c yJx4a65c_get_915e3 yJx4a65c_get_915e3, .initialized RJx4a65c] [9, 10, 11, 5] (by decide +kernel) (by decide +kernel)) (fun w h => ⟨ic_c_runTimers_0co_c_AL_get w h, good_of_word (gw_c_AL_get w h)⟩)
set_option maxHeartbeats 4000000 in
set_option maxRecDepth 100000 in
theorem c_runTimers_0co (l : Launch) (dC : Nat → ClassId) (dI : Nat → Nat → Nat) (nd : Nat) (nh : Int32) (nl : Int32) (nwa : Int32) (nfr : Int32) (nwi : Nat) (r : Nat) (nt : Nat) (ns : Nat) (ib : Nat) (gs : Nat) (cs : Nat) (nu : Nat) (nad : Nat) (ncc : Nat) (snp : Int32) (sdo : Int32) (cm : Nat) (ce_ : Nat) (cQ : ClassId) (fq : Nat → Option Nat) (tq : Nat) (k1 : Int32) (k2 : Int32) (k3 : Int32) (k4 : Int32) (k5 : Int32) (k6 : Int32) (k7 : Int32) (k8 : Int32) (k9 : Int32) (k10 : Int32) (k11 : Int32) (kw : Nat) (kb : Nat) (cT : ClassId) (fg : Nat → Option Nat) (tr : Nat) (j1 : Int32) (j2 : Int32) (j3 : Int32) (j4 : Int32) (j5 : Int32) (j6 : Int32) (j7 : Int32) (jl : Nat) (j9 : Int32) (j10 : Int32) (j11 : Int32) (jw : Nat) (jb : Nat) (tm : Nat) (sz : Nat) (hq : fq 0 = some tq) (g0 : fg 0 = some tr) (g1 : fg 1 = none) (g2 : fg 2 = none) (htm : tm < 300000) (hjo : jl ≤ tm ∧ tm < jl + 1250) : Met l yX4_runTimers v_c_runTimers_0co ({ frames := 3, cells := 0, slots := 0, locals := 64 }) (va_Pc [.ref nd, .int (nI tm)] (fun U => U.heap.size = sz ∧ va_P (dC, dI) vwCl [(nd, .inr (5, [.int nh, .int nl, .int nwa, .int nfr, .int (nI nwi), .ref r, .ref nt, .ref ns, .ref ib, .ref gs, .ref cs, .ref nu, .int 0, .int 2, .int (nI nad), .int (nI ncc), .int 0, .int 0])), (ns, .inr (7, [.int 0, .int snp, .int sdo, .null])), (cs, .inr (0, [.int (nI cm), .ref ce_, .int 1])), (ce_, .inl (cQ, 10, .inr (.inr (.inr (.inr fq))))), (tq, .inr (10, [.int 0, .int k1, .int k2, .int k3, .int k4, .int k5, .int k6, .int k7, .int k8, .int k9, .int k10, .int k11, .ref kw, .ref kb])), (gs, .inl (cT, 3, .inr (.inr (.inr (.inr fg))))), (tr, .inr (10, [.int 1, .int j1, .int j2, .int j3, .int j4, .int j5, .int j6, .int j7, .int (nI jl), .int j9, .int j10, .int j11, .ref jw, .ref jb]))] U.heap ∧ va_K (dC, dI) vwCl [(cQ, (.object "java/lang/Object")), (cT, (.object RX9))] U ∧ va_D (fun _ => True) [(nd, .inr (5, [.int nh, .int nl, .int nwa, .int nfr, .int (nI nwi), .ref r, .ref nt, .ref ns, .ref ib, .ref gs, .ref cs, .ref nu, .int 0, .int 2, .int (nI nad), .int (nI ncc), .int 0, .int 0])), (ns, .inr (7, [.int 0, .int snp, .int sdo, .null])), (cs, .inr (0, [.int (nI cm), .ref ce_, .int 1])), (ce_, .inl (cQ, 10, .inr (.inr (.inr (.inr fq))))), (tq, .inr (10, [.int 0, .int k1, .int k2, .int k3, .int k4, .int k5, .int k6, .int k7, .int k8, .int k9, .int k10, .int k11, .ref kw, .ref kb])), (gs, .inl (cT, 3, .inr (.inr (.inr (.inr fg))))), (tr, .inr (10, [.int 1, .int j1, .int j2, .int j3, .int j4, .int j5, .int j6, .int j7, .int (nI jl), .int j9, .int j10, .int j11, .ref jw, .ref jb]))] ∧ ev U)) (va_Qv (fun _ : Unit => True) (fun (_ : Unit) (_ : State) => True) (va_A [] sz)) 0 0 (va_A [] sz) := by
  refine Met.ofW (cc := cX4_runTimers) (maxL := 6) (ret := none) (by decide) rfl ?_
  intro p e s m args below meth c s₁ B hml hv
  obtain ⟨rfl, hsz, hP, hK, hD0, hE⟩ := hv
  have hx := B.exec
  have hb := B.bytes
  have hr := B.returns
  have hts := atoms_spec (ws := v_c_runTimers_0co) B.pre
  have hown : s.vm.findClass RX4 = some m.cls := findClass_of_methodNamed B.named
  have hlocks := B.notSynchronized
  subst hsz
  have hD := hD0
  generalize hAe : va_A [] s.heap.size = A
  have hA : ∀ q : Nat, s.heap.size ≤ q → A q := fun q h => by rw [← hAe]; exact Or.inr h
  have hS : va_S A s.heap s.heap [] := va_S.rf
  replace hP : va_P (dC, dI) vwCl [(nd, .inr (5, [.int nh, .int nl, .int nwa, .int nfr, .int (nI nwi), .ref r, .ref nt, .ref ns, .ref ib, .ref gs, .ref cs, .ref nu, .int 0, .int 2, .int (nI nad), .int (nI ncc), .int 0, .int 0])), (ns, .inr (7, [.int 0, .int snp, .int sdo, .null])), (cs, .inr (0, [.int (nI cm), .ref ce_, .int 1])), (ce_, .inl (cQ, 10, .inr (.inr (.inr (.inr fq))))), (tq, .inr (10, [.int 0, .int k1, .int k2, .int k3, .int k4, .int k5, .int k6, .int k7, .int k8, .int k9, .int k10, .int k11, .ref kw, .ref kb])), (gs, .inl (cT, 3, .inr (.inr (.inr (.inr fg))))), (tr, .inr (10, [.int 1, .int j1, .int j2, .int j3, .int j4, .int j5, .int j6, .int j7, .int (nI jl), .int j9, .int j10, .int j11, .ref jw, .ref jb]))] s.heap := hP
  have hl := lv_entry ([.ref nd, .int (nI tm)]) (n := 6) (Nat.le_of_ble_eq_true rfl)
  rw [lg_entry_eq]
  generalize (lg_sl ([.ref nd, .int (nI tm)]) ++ List.replicate (6 - (lg_sl ([.ref nd, .int (nI tm)])).length) Slot.unset).toArray = ls at hl ⊢
  replace hl : lv_has ls 6 [(0, .ref nd), (1, .int (nI tm))] := hl
  obtain ⟨H, hH⟩ : ∃ z : Heap, z = s.heap := ⟨_, rfl⟩
  rw [← hH]
  replace hS : va_S A s.heap H [] := by rw [hH]; exact va_S.rf
  replace hP : va_P (dC, dI) vwCl [(nd, .inr (5, [.int nh, .int nl, .int nwa, .int nfr, .int (nI nwi), .ref r, .ref nt, .ref ns, .ref ib, .ref gs, .ref cs, .ref nu, .int 0, .int 2, .int (nI nad), .int (nI ncc), .int 0, .int 0])), (ns, .inr (7, [.int 0, .int snp, .int sdo, .null])), (cs, .inr (0, [.int (nI cm), .ref ce_, .int 1])), (ce_, .inl (cQ, 10, .inr (.inr (.inr (.inr fq))))), (tq, .inr (10, [.int 0, .int k1, .int k2, .int k3, .int k4, .int k5, .int k6, .int k7, .int k8, .int k9, .int k10, .int k11, .ref kw, .ref kb])), (gs, .inl (cT, 3, .inr (.inr (.inr (.inr fg))))), (tr, .inr (10, [.int 1, .int j1, .int j2, .int j3, .int j4, .int j5, .int j6, .int j7, .int (nI jl), .int j9, .int j10, .int j11, .ref jw, .ref jb]))] H := by rw [hH]; exact hP
  clear hH
  refine lv_aload_n hx hb dX4_runTimers_0 rfl (lv_at hl 0 rfl) ?_
  refine va_get (D := (dC, dI)) (ci := 5) (v := .int 2) (C := RX4) (T := TX4) (N := 18) hx hb hts in_c_runTimers_0co_X4 hown hK hP 0 rfl rfl 13 (by decide) (hts (.fieldLink RX4 53 "ClaimBus$Node" "state" "I") (List.mem_of_getElem? (i := 1) rfl)) (fun _ h9 => h9) rfl dX4_runTimers_1 ?_
  refine lv_iconst (v := 1) hx hb dX4_runTimers_4 (by decide) ?_
  refine lv_icmp_ne (tgt := 33) hx hb dX4_runTimers_5 (by decide) (fun c_1 => ?_) (fun c_1 => ?_)
  rotate_left
  · exact absurd c_1 (by decide)
  refine lv_aload_n hx hb dX4_runTimers_33 rfl (lv_at hl 0 rfl) ?_
  refine va_get (D := (dC, dI)) (ci := 5) (v := .ref ns) (C := RX4) (T := TX4) (N := 18) hx hb hts in_c_runTimers_0co_X4 hown hK hP 0 rfl rfl 7 (by decide) (hts (.fieldLink RX4 21 "ClaimBus$Node" "sending" "LClaimBus$Sending;") (List.mem_of_getElem? (i := 2) rfl)) (fun _ h9 => h9) rfl dX4_runTimers_34 ?_
  refine va_get (D := (dC, dI)) (ci := 7) (v := .int 0) (C := RX6) (T := TX6) (N := 4) hx hb hts in_c_runTimers_0co_X6 hown hK hP 1 rfl rfl 0 (by decide) (hts (.fieldLink RX4 121 "ClaimBus$Sending" "state" "I") (List.mem_of_getElem? (i := 3) rfl)) (fun _ h9 => h9) rfl dX4_runTimers_37 ?_
  refine lv_iconst (v := 1) hx hb dX4_runTimers_40 (by decide) ?_
  refine lv_icmp_ne (tgt := 60) hx hb dX4_runTimers_41 (by decide) (fun c_2 => ?_) (fun c_2 => ?_)
  rotate_left
  · exact absurd c_2 (by decide)
  refine lv_iconst (v := 0) hx hb dX4_runTimers_60 (by decide) ?_
  refine lv_istore_n (lv' := [(2, .int 0), (0, .ref nd), (1, .int (nI tm))]) hx hb dX4_runTimers_61 rfl hl (by decide) rfl (fun ls hl => ?_)
  refine lv_iload_n hx hb dX4_runTimers_62 rfl (lv_at hl 0 rfl) ?_
  refine lv_aload_n hx hb dX4_runTimers_63 rfl (lv_at hl 1 rfl) ?_
  refine va_get (D := (dC, dI)) (ci := 5) (v := .ref cs) (C := RX4) (T := TX4) (N := 18) hx hb hts in_c_runTimers_0co_X4 hown hK hP 0 rfl rfl 10 (by decide) (hts (.fieldLink RX4 41 "ClaimBus$Node" "collects" "Ljava/util/ArrayList;") (List.mem_of_getElem? (i := 4) rfl)) (fun _ h9 => h9) rfl dX4_runTimers_64 ?_
  have hPc := hP.sub (ws' := [(cs, .inr (0, [.int (nI cm), .ref ce_, .int (nI 1)]))]) [2] rfl
  have hDc := hD.sub (ws' := [(cs, .inr (0, [.int (nI cm), .ref ce_, .int (nI 1)]))]) [2] (by decide +kernel) rfl
  have hKc := hK.sub (tys' := []) [] rfl
  have hFc := ro_free hS hA
  refine va_calli (va_runV (As := []) (rest := [.int 0]) ⟨hx, hb, hml, hown, hts⟩ (c_AL_size l dC dI (cs) (cm) (ce_) (1) H.size) (cwV 0 hts g_c_runTimers_0co_c_AL_size_96 rfl rfl rfl (by decide +kernel) ⟨Nat.le_of_ble_eq_true rfl, Nat.le_of_ble_eq_true rfl⟩) ⟨fun a U g mk q => by obtain ⟨q0, q1, qP, qK, qD, qE⟩ := q; exact ⟨q0, q1, qP, va_K.moved (u := U) (U := U.calling g mk a) (Vm.Alike.refl U.vm) qK, qD, ev.same (u := U) (U := U.calling g mk a) rfl qE⟩, va_recv hKc hPc (ci := 0) (q0 := 0) rfl rfl, fun U hU hW => ⟨rfl, by rw [hU], by rw [hU]; exact hPc, va_K.moved hW.alike hKc, hDc.weaken (fun _ _ _ _ => trivial), hE.warm hW⟩⟩ rfl rfl hl.1 rfl (lv_room (Nat.le_of_ble_eq_true rfl)) dX4_runTimers_67 ⟨Nat.le_of_ble_eq_true rfl, Nat.le_of_ble_eq_true rfl⟩) hS (fun q _ h => hFc q h) hFc (fun r_3 u t H1 locs ht hvm hw hB hz1 hk1 hS => ?_)
  clear hPc hDc hKc
  replace hP := ro_keep hP hk1
  generalize H1 = H at hP hS ⊢
  replace hP : va_P (dC, dI) vwCl [(nd, .inr (5, [.int nh, .int nl, .int nwa, .int nfr, .int (nI nwi), .ref r, .ref nt, .ref ns, .ref ib, .ref gs, .ref cs, .ref nu, .int 0, .int 2, .int (nI nad), .int (nI ncc), .int 0, .int 0])), (ns, .inr (7, [.int 0, .int snp, .int sdo, .null])), (cs, .inr (0, [.int (nI cm), .ref ce_, .int 1])), (ce_, .inl (cQ, 10, .inr (.inr (.inr (.inr fq))))), (tq, .inr (10, [.int 0, .int k1, .int k2, .int k3, .int k4, .int k5, .int k6, .int k7, .int k8, .int k9, .int k10, .int k11, .ref kw, .ref kb])), (gs, .inl (cT, 3, .inr (.inr (.inr (.inr fg))))), (tr, .inr (10, [.int 1, .int j1, .int j2, .int j3, .int j4, .int j5, .int j6, .int j7, .int (nI jl), .int j9, .int j10, .int j11, .ref jw, .ref jb]))] H := hP
  have hw := hw.symm
  subst hw
  rw [show ((nI 1) : Int32) = 1 from (congrArg nI (show 1 = 1 from by omega)).trans (by decide)]
  refine lv_icmp_ge (tgt := 115) hx hb dX4_runTimers_70 (by decide) (fun c_4 => ?_) (fun c_4 => ?_)
  · exact absurd c_4 (by decide)
  refine lv_aload_n hx hb dX4_runTimers_73 rfl (lv_at hl 1 rfl) ?_
  refine va_get (D := (dC, dI)) (ci := 5) (v := .ref cs) (C := RX4) (T := TX4) (N := 18) hx hb hts in_c_runTimers_0co_X4 hown hK hP 0 rfl rfl 10 (by decide) (hts (.fieldLink RX4 41 "ClaimBus$Node" "collects" "Ljava/util/ArrayList;") (List.mem_of_getElem? (i := 4) rfl)) (fun _ h9 => h9) rfl dX4_runTimers_74 ?_
  refine lv_iload_n hx hb dX4_runTimers_77 rfl (lv_at hl 0 rfl) ?_
  have hPc := hP.sub (ws' := [(cs, .inr (0, [.int (nI cm), .ref ce_, .int (nI 1)])), (ce_, .inl (cQ, 10, .inr (.inr (.inr (.inr fq)))))]) [2, 3] rfl
  have hDc := hD.sub (ws' := [(cs, .inr (0, [.int (nI cm), .ref ce_, .int (nI 1)])), (ce_, .inl (cQ, 10, .inr (.inr (.inr (.inr fq)))))]) [2, 3] (by decide +kernel) rfl
  have hKc := hK.sub (tys' := [(cQ, (.object "java/lang/Object"))]) [0] rfl
  have hFc := ro_free hS hA
  refine va_callq (va_runV (As := [.int 0]) (rest := []) ⟨hx, hb, hml, hown, hts⟩ (c_AL_get l dC dI (cs) (cm) (ce_) (1) (cQ) (fq) (0) (tq) H.size hq (by omega) (by omega)) (cwV 1 hts g_c_runTimers_0co_c_AL_get_100 rfl rfl rfl (by decide +kernel) ⟨Nat.le_of_ble_eq_true rfl, Nat.le_of_ble_eq_true rfl⟩) ⟨fun a U g mk q => by obtain ⟨q0, q1, qP, qK, qD, qE⟩ := q; exact ⟨q0, q1, qP, va_K.moved (u := U) (U := U.calling g mk a) (Vm.Alike.refl U.vm) qK, qD, ev.same (u := U) (U := U.calling g mk a) rfl qE⟩, va_recv hKc hPc (ci := 0) (q0 := 0) rfl rfl, fun U hU hW => ⟨rfl, by rw [hU], by rw [hU]; exact hPc, va_K.moved hW.alike hKc, hDc.weaken (fun _ _ _ _ => trivial), hE.warm hW⟩⟩ rfl rfl hl.1 rfl (lv_room (Nat.le_of_ble_eq_true rfl)) dX4_runTimers_78 ⟨Nat.le_of_ble_eq_true rfl, Nat.le_of_ble_eq_true rfl⟩) hS (fun q _ h => hFc q h) hFc (fun r_5 u t H1 locs ht hvm hw hB hz1 hk1 hS => ?_)
  clear hPc hDc hKc
  replace hP := ro_keep hP hk1
  generalize H1 = H at hP hS ⊢
  replace hP : va_P (dC, dI) vwCl [(nd, .inr (5, [.int nh, .int nl, .int nwa, .int nfr, .int (nI nwi), .ref r, .ref nt, .ref ns, .ref ib, .ref gs, .ref cs, .ref nu, .int 0, .int 2, .int (nI nad), .int (nI ncc), .int 0, .int 0])), (ns, .inr (7, [.int 0, .int snp, .int sdo, .null])), (cs, .inr (0, [.int (nI cm), .ref ce_, .int 1])), (ce_, .inl (cQ, 10, .inr (.inr (.inr (.inr fq))))), (tq, .inr (10, [.int 0, .int k1, .int k2, .int k3, .int k4, .int k5, .int k6, .int k7, .int k8, .int k9, .int k10, .int k11, .ref kw, .ref kb])), (gs, .inl (cT, 3, .inr (.inr (.inr (.inr fg))))), (tr, .inr (10, [.int 1, .int j1, .int j2, .int j3, .int j4, .int j5, .int j6, .int j7, .int (nI jl), .int j9, .int j10, .int j11, .ref jw, .ref jb]))] H := hP
  have hw := hw.symm
  subst hw
  refine W.eq (g2 := F0 m 81 ls [.ref tq]) rfl ?_
  refine va_castS hx hb hown (hts (.classLink RX4 32 "ClaimBus$Transport") (List.mem_of_getElem? (i := 12) rfl)) (hK.1 10 _ rfl).2 (va_recv hK hP (ci := 10) (q0 := 4) rfl rfl) dX4_runTimers_81 ?_
  refine lv_astore_n (lv' := [(3, .ref tq), (2, .int 0), (0, .ref nd), (1, .int (nI tm))]) hx hb dX4_runTimers_84 rfl hl (by decide) rfl (fun ls hl => ?_)
  refine lv_aload_n hx hb dX4_runTimers_85 rfl (lv_at hl 0 rfl) ?_
  refine va_get (D := (dC, dI)) (ci := 10) (v := .int 0) (C := RX9) (T := TX9) (N := 14) hx hb hts in_c_runTimers_0co_X9 hown hK hP 4 rfl rfl 0 (by decide) (hts (.fieldLink RX4 93 "ClaimBus$Transport" "open" "Z") (List.mem_of_getElem? (i := 13) rfl)) (fun _ h9 => h9) rfl dX4_runTimers_86 ?_
  refine lv_if_eq (tgt := 109) hx hb dX4_runTimers_89 (by decide) (fun c_6 => ?_) (fun c_6 => ?_)
  rotate_left
  · exact absurd (by decide) c_6
  refine lv_iinc (v := 1) (lv' := [(2, .int 1), (3, .ref tq), (0, .ref nd), (1, .int (nI tm))]) hx hb dX4_runTimers_109 hl (k := 1) rfl (by decide) (by decide) rfl (fun ls hl => ?_)
  refine lv_goto (tgt := 62) hx hb dX4_runTimers_112 (by decide) ?_
  refine lv_iload_n hx hb dX4_runTimers_62 rfl (lv_at hl 0 rfl) ?_
  refine lv_aload_n hx hb dX4_runTimers_63 rfl (lv_at hl 2 rfl) ?_
  refine va_get (D := (dC, dI)) (ci := 5) (v := .ref cs) (C := RX4) (T := TX4) (N := 18) hx hb hts in_c_runTimers_0co_X4 hown hK hP 0 rfl rfl 10 (by decide) (hts (.fieldLink RX4 41 "ClaimBus$Node" "collects" "Ljava/util/ArrayList;") (List.mem_of_getElem? (i := 4) rfl)) (fun _ h9 => h9) rfl dX4_runTimers_64 ?_
  have hPc := hP.sub (ws' := [(cs, .inr (0, [.int (nI cm), .ref ce_, .int (nI 1)]))]) [2] rfl
  have hDc := hD.sub (ws' := [(cs, .inr (0, [.int (nI cm), .ref ce_, .int (nI 1)]))]) [2] (by decide +kernel) rfl
  have hKc := hK.sub (tys' := []) [] rfl
  have hFc := ro_free hS hA
  refine va_calli (va_runV (As := []) (rest := [.int 1]) ⟨hx, hb, hml, hown, hts⟩ (c_AL_size l dC dI (cs) (cm) (ce_) (1) H.size) (cwV 0 hts g_c_runTimers_0co_c_AL_size_96 rfl rfl rfl (by decide +kernel) ⟨Nat.le_of_ble_eq_true rfl, Nat.le_of_ble_eq_true rfl⟩) ⟨fun a U g mk q => by obtain ⟨q0, q1, qP, qK, qD, qE⟩ := q; exact ⟨q0, q1, qP, va_K.moved (u := U) (U := U.calling g mk a) (Vm.Alike.refl U.vm) qK, qD, ev.same (u := U) (U := U.calling g mk a) rfl qE⟩, va_recv hKc hPc (ci := 0) (q0 := 0) rfl rfl, fun U hU hW => ⟨rfl, by rw [hU], by rw [hU]; exact hPc, va_K.moved hW.alike hKc, hDc.weaken (fun _ _ _ _ => trivial), hE.warm hW⟩⟩ rfl rfl hl.1 rfl (lv_room (Nat.le_of_ble_eq_true rfl)) dX4_runTimers_67 ⟨Nat.le_of_ble_eq_true rfl, Nat.le_of_ble_eq_true rfl⟩) hS (fun q _ h => hFc q h) hFc (fun r_7 u t H1 locs ht hvm hw hB hz1 hk1 hS => ?_)
  clear hPc hDc hKc
  replace hP := ro_keep hP hk1
  generalize H1 = H at hP hS ⊢
  replace hP : va_P (dC, dI) vwCl [(nd, .inr (5, [.int nh, .int nl, .int nwa, .int nfr, .int (nI nwi), .ref r, .ref nt, .ref ns, .ref ib, .ref gs, .ref cs, .ref nu, .int 0, .int 2, .int (nI nad), .int (nI ncc), .int 0, .int 0])), (ns, .inr (7, [.int 0, .int snp, .int sdo, .null])), (cs, .inr (0, [.int (nI cm), .ref ce_, .int 1])), (ce_, .inl (cQ, 10, .inr (.inr (.inr (.inr fq))))), (tq, .inr (10, [.int 0, .int k1, .int k2, .int k3, .int k4, .int k5, .int k6, .int k7, .int k8, .int k9, .int k10, .int k11, .ref kw, .ref kb])), (gs, .inl (cT, 3, .inr (.inr (.inr (.inr fg))))), (tr, .inr (10, [.int 1, .int j1, .int j2, .int j3, .int j4, .int j5, .int j6, .int j7, .int (nI jl), .int j9, .int j10, .int j11, .ref jw, .ref jb]))] H := hP
  have hw := hw.symm
  subst hw
  rw [show ((nI 1) : Int32) = 1 from (congrArg nI (show 1 = 1 from by omega)).trans (by decide)]
  refine lv_icmp_ge (tgt := 115) hx hb dX4_runTimers_70 (by decide) (fun c_8 => ?_) (fun c_8 => ?_)
  rotate_left
  · exact absurd (by decide) c_8
  refine lv_aload_n hx hb dX4_runTimers_115 rfl (lv_at hl 2 rfl) ?_
  refine va_get (D := (dC, dI)) (ci := 5) (v := .ref gs) (C := RX4) (T := TX4) (N := 18) hx hb hts in_c_runTimers_0co_X4 hown hK hP 0 rfl rfl 9 (by decide) (hts (.fieldLink RX4 34 "ClaimBus$Node" "gets" "[LClaimBus$Transport;") (List.mem_of_getElem? (i := 14) rfl)) (fun _ h9 => h9) rfl dX4_runTimers_116 ?_
  refine lv_astore_n (lv' := [(2, .ref gs), (3, .ref tq), (0, .ref nd), (1, .int (nI tm))]) hx hb dX4_runTimers_119 rfl hl (by decide) rfl (fun ls hl => ?_)
  refine lv_aload_n hx hb dX4_runTimers_120 rfl (lv_at hl 0 rfl) ?_
  refine va_alen hx hb hK hP 5 1 rfl rfl (v := 3) rfl dX4_runTimers_121 ?_
  refine lv_istore_n (lv' := [(3, .int 3), (2, .ref gs), (0, .ref nd), (1, .int (nI tm))]) hx hb dX4_runTimers_122 rfl hl (by decide) rfl (fun ls hl => ?_)
  refine lv_iconst (v := 0) hx hb dX4_runTimers_123 (by decide) ?_
  refine lv_istore (lv' := [(4, .int 0), (3, .int 3), (2, .ref gs), (0, .ref nd), (1, .int (nI tm))]) hx hb dX4_runTimers_124 hl (by decide) rfl (fun ls hl => ?_)
  refine lv_iload hx hb dX4_runTimers_126 (lv_at hl 0 rfl) ?_
  refine lv_iload_n hx hb dX4_runTimers_128 rfl (lv_at hl 1 rfl) ?_
  refine lv_icmp_ge (tgt := 177) hx hb dX4_runTimers_129 (by decide) (fun c_9 => ?_) (fun c_9 => ?_)
  · exact absurd c_9 (by decide)
  refine lv_aload_n hx hb dX4_runTimers_132 rfl (lv_at hl 2 rfl) ?_
  refine lv_iload hx hb dX4_runTimers_133 (lv_at hl 0 rfl) ?_
  refine va_aldq hx hb hK hP 5 1 rfl rfl (vp_in_nI (n := 0) (by omega) (by omega)) dX4_runTimers_135 ?_
  refine W.eq (g2 := F0 m 136 ls [.ref tr]) (by rw [(show Int32.toNatClampNeg (0 : Int32) = 0 by decide), g0]; rfl) ?_
  refine lv_astore (lv' := [(5, .ref tr), (4, .int 0), (3, .int 3), (2, .ref gs), (0, .ref nd), (1, .int (nI tm))]) hx hb dX4_runTimers_136 hl (by decide) rfl (fun ls hl => ?_)
  refine lv_aload hx hb dX4_runTimers_138 (lv_at hl 0 rfl) ?_
  refine lv_ifnull hx hb dX4_runTimers_140 ?_
  refine lv_aload hx hb dX4_runTimers_143 (lv_at hl 0 rfl) ?_
  refine va_get (D := (dC, dI)) (ci := 10) (v := .int 1) (C := RX9) (T := TX9) (N := 14) hx hb hts in_c_runTimers_0co_X9 hown hK hP 6 rfl rfl 0 (by decide) (hts (.fieldLink RX4 93 "ClaimBus$Transport" "open" "Z") (List.mem_of_getElem? (i := 13) rfl)) (fun _ h9 => h9) rfl dX4_runTimers_145 ?_
  refine lv_if_eq (tgt := 171) hx hb dX4_runTimers_148 (by decide) (fun c_10 => ?_) (fun c_10 => ?_)
  · exact absurd c_10 (by decide)
  refine lv_iload_n hx hb dX4_runTimers_151 rfl (lv_at hl 5 rfl) ?_
  refine lv_aload hx hb dX4_runTimers_152 (lv_at hl 0 rfl) ?_
  refine va_get (D := (dC, dI)) (ci := 10) (v := .int (nI jl)) (C := RX9) (T := TX9) (N := 14) hx hb hts in_c_runTimers_0co_X9 hown hK hP 6 rfl rfl 8 (by decide) (hts (.fieldLink RX4 153 "ClaimBus$Transport" "lastHeard" "I") (List.mem_of_getElem? (i := 15) rfl)) (fun _ h9 => h9) rfl dX4_runTimers_154 ?_
  refine lv_isub hx hb dX4_runTimers_157 ?_
  refine lv_topi (fun x_11 ex_11 => ?_)
  obtain rfl : x_11 = (nI (tm - jl)) := ex_11.trans ((pk_sub (a := tm) (b := jl) (by omega)).trans (show nI (tm - jl) = nI (tm - jl) from congrArg nI (by omega)))
  refine lv_sipush (v := 1250) hx hb dX4_runTimers_158 (by decide) ?_
  refine lv_icmp_lt (tgt := 171) hx hb dX4_runTimers_161 (by decide) (fun c_12 => ?_) (fun c_12 => ?_)
  rotate_left
  · exact absurd ((nI_ltI (a := (tm - jl)) (b := 1250) (by omega) (by omega)).mpr (by omega)) c_12
  refine lv_iinc (v := 1) (lv' := [(4, .int 1), (5, .ref tr), (3, .int 3), (2, .ref gs), (0, .ref nd), (1, .int (nI tm))]) hx hb dX4_runTimers_171 hl (k := 1) rfl (by decide) (by decide) rfl (fun ls hl => ?_)
  refine lv_goto (tgt := 126) hx hb dX4_runTimers_174 (by decide) ?_
  refine lv_iload hx hb dX4_runTimers_126 (lv_at hl 0 rfl) ?_
  refine lv_iload_n hx hb dX4_runTimers_128 rfl (lv_at hl 2 rfl) ?_
  refine lv_icmp_ge (tgt := 177) hx hb dX4_runTimers_129 (by decide) (fun c_13 => ?_) (fun c_13 => ?_)
  · exact absurd c_13 (by decide)
  refine lv_aload_n hx hb dX4_runTimers_132 rfl (lv_at hl 3 rfl) ?_
  refine lv_iload hx hb dX4_runTimers_133 (lv_at hl 0 rfl) ?_
  refine va_aldq hx hb hK hP 5 1 rfl rfl (vp_in_nI (n := 1) (by omega) (by omega)) dX4_runTimers_135 ?_
  refine W.eq (g2 := F0 m 136 ls [.null]) (by rw [(show Int32.toNatClampNeg (1 : Int32) = 1 by decide), g1]; rfl) ?_
  refine lv_astoreN (lv' := [(5, .null), (4, .int 1), (3, .int 3), (2, .ref gs), (0, .ref nd), (1, .int (nI tm))]) hx hb dX4_runTimers_136 hl (by decide) rfl (fun ls hl => ?_)
  refine lv_aloadN hx hb dX4_runTimers_138 (lv_at hl 0 rfl) ?_
  refine lv_ifnullN (tgt := 171) hx hb dX4_runTimers_140 (by decide) ?_
  refine lv_iinc (v := 2) (lv' := [(4, .int 2), (5, .null), (3, .int 3), (2, .ref gs), (0, .ref nd), (1, .int (nI tm))]) hx hb dX4_runTimers_171 hl (k := 1) rfl (by decide) (by decide) rfl (fun ls hl => ?_)
  refine lv_goto (tgt := 126) hx hb dX4_runTimers_174 (by decide) ?_
  refine lv_iload hx hb dX4_runTimers_126 (lv_at hl 0 rfl) ?_
  refine lv_iload_n hx hb dX4_runTimers_128 rfl (lv_at hl 2 rfl) ?_
  refine lv_icmp_ge (tgt := 177) hx hb dX4_runTimers_129 (by decide) (fun c_14 => ?_) (fun c_14 => ?_)
  · exact absurd c_14 (by decide)
  refine lv_aload_n hx hb dX4_runTimers_132 rfl (lv_at hl 3 rfl) ?_
  refine lv_iload hx hb dX4_runTimers_133 (lv_at hl 0 rfl) ?_
  refine va_aldq hx hb hK hP 5 1 rfl rfl (vp_in_nI (n := 2) (by omega) (by omega)) dX4_runTimers_135 ?_
  refine W.eq (g2 := F0 m 136 ls [.null]) (by rw [(show Int32.toNatClampNeg (2 : Int32) = 2 by decide), g2]; rfl) ?_
  refine lv_astoreN (lv' := [(5, .null), (4, .int 2), (3, .int 3), (2, .ref gs), (0, .ref nd), (1, .int (nI tm))]) hx hb dX4_runTimers_136 hl (by decide) rfl (fun ls hl => ?_)
  refine lv_aloadN hx hb dX4_runTimers_138 (lv_at hl 0 rfl) ?_
  refine lv_ifnullN (tgt := 171) hx hb dX4_runTimers_140 (by decide) ?_
  refine lv_iinc (v := 3) (lv' := [(4, .int 3), (5, .null), (3, .int 3), (2, .ref gs), (0, .ref nd), (1, .int (nI tm))]) hx hb dX4_runTimers_171 hl (k := 1) rfl (by decide) (by decide) rfl (fun ls hl => ?_)
  refine lv_goto (tgt := 126) hx hb dX4_runTimers_174 (by decide) ?_
  refine lv_iload hx hb dX4_runTimers_126 (lv_at hl 0 rfl) ?_
  refine lv_iload_n hx hb dX4_runTimers_128 rfl (lv_at hl 2 rfl) ?_
  refine lv_icmp_ge (tgt := 177) hx hb dX4_runTimers_129 (by decide) (fun c_15 => ?_) (fun c_15 => ?_)
  rotate_left
  · exact absurd (by decide) c_15
  exact W.vret hx hb hr (fun t ht hW => ⟨⟨(), rfl, trivial, trivial⟩, hS.F ht⟩) hS.2.2 dX4_runTimers_177

noncomputable def tl_c_runTimers_0on : List Cond := wsX40 ++ (wsX60 ++ (wsX90 ++ (v_c_AL_size ++ (v_c_AL_get))))
noncomputable def v_c_runTimers_0on : List Cond := .code yX4_runTimers cX4_runTimers 6 none :: ([.fieldLink RX4 53 "ClaimBus$Node" "state" "I", .fieldLink RX4 21 "ClaimBus$Node" "sending" "LClaimBus$Sending;", .fieldLink RX4 121 "ClaimBus$Sending" "state" "I", .fieldLink RX4 41 "ClaimBus$Node" "collects" "Ljava/util/ArrayList;", .initialized RJx4a65c, .methodLink RX4 96 yJx4a65c_size_8abf5, .instanceMethod yJx4a65c_size_8abf5, .selects RJx4a65c yJx4a65c_size_8abf5 yJx4a65c_size_8abf5, .methodLink RX4 100 yJx4a65c_get_915e3, .instanceMethod yJx4a65c_get_915e3, .selects RJx4a65c yJx4a65c_get_915e3 yJx4a65c_get_915e3, .classLink RX4 32 "ClaimBus$Transport", .fieldLink RX4 93 "ClaimBus$Transport" "open" "Z", .fieldLink RX4 153 "ClaimBus$Transport" "lastHeard" "I", .fieldLink RX4 34 "ClaimBus$Node" "gets" "[LClaimBus$Transport;"] ++ tl_c_runTimers_0on)
theorem it_c_runTimers_0on : ∀ w ∈ tl_c_runTimers_0on, w ∈ v_c_runTimers_0on := fun w h => List.mem_cons_of_mem _ (List.mem_append_right _ h)
theorem in_c_runTimers_0on_X4 : ∀ w ∈ wsX40, w ∈ v_c_runTimers_0on := fun w h => it_c_runTimers_0on w (List.mem_append_left _ h)
theorem in_c_runTimers_0on_X6 : ∀ w ∈ wsX60, w ∈ v_c_runTimers_0on := fun w h => it_c_runTimers_0on w (List.mem_append_right _ (List.mem_append_left _ h))
theorem in_c_runTimers_0on_X9 : ∀ w ∈ wsX90, w ∈ v_c_runTimers_0on := fun w h => it_c_runTimers_0on w (List.mem_append_right _ (List.mem_append_right _ (List.mem_append_left _ h)))
theorem ic_c_runTimers_0on_c_AL_size : ∀ w ∈ v_c_AL_size, w ∈ v_c_runTimers_0on := fun w h => it_c_runTimers_0on w (List.mem_append_right _ (List.mem_append_right _ (List.mem_append_right _ (List.mem_append_left _ h))))
theorem ic_c_runTimers_0on_c_AL_get : ∀ w ∈ v_c_AL_get, w ∈ v_c_runTimers_0on := fun w h => it_c_runTimers_0on w (List.mem_append_right _ (List.mem_append_right _ (List.mem_append_right _ (List.mem_append_right _ (h)))))
theorem gt_c_runTimers_0on : ∀ w ∈ tl_c_runTimers_0on, goodWord w = true := List.forall_mem_append.mpr ⟨gw_wsX40, List.forall_mem_append.mpr ⟨gw_wsX60, List.forall_mem_append.mpr ⟨gw_wsX90, List.forall_mem_append.mpr ⟨gw_c_AL_size, gw_c_AL_get⟩⟩⟩⟩
theorem gw_c_runTimers_0on : ∀ w ∈ v_c_runTimers_0on, goodWord w = true := List.forall_mem_cons.mpr ⟨by decide +kernel, List.forall_mem_append.mpr ⟨List.all_eq_true.mp (by decide +kernel), gt_c_runTimers_0on⟩⟩
theorem g_c_runTimers_0on_c_AL_size_96 : GoodIn v_c_runTimers_0on (wsV RX4 96 RJx4a65c yJx4a65c_size_8abf5 v_c_AL_size) := goodIn_app (goodIn_r [.methodLink RX4 96 yJx4a65c_size_8abf5, .instanceMethod yJx4a65c_size_8abf5, .selects RJx4a65c yJx4a65c_size_8abf5 yJx4a65c_size_8abf5, .initialized RJx4a65c] [6, 7, 8, 5] (by decide +kernel) (by decide +kernel)) (fun w h => ⟨ic_c_runTimers_0on_c_AL_size w h, good_of_word (gw_c_AL_size w h)⟩)
theorem g_c_runTimers_0on_c_AL_get_100 : GoodIn v_c_runTimers_0on (wsV RX4 100 RJx4a65c yJx4a65c_get_915e3 v_c_AL_get) := goodIn_app (goodIn_r [.methodLink RX4 100 yJx4a65c_get_915e3, .instanceMethod yJx4a65c_get_915e3, .selects RJx4a65c yJx4a65c_get_915e3 yJx4a65c_get_915e3, .initialized RJx4a65c] [9, 10, 11, 5] (by decide +kernel) (by decide +kernel)) (fun w h => ⟨ic_c_runTimers_0on_c_AL_get w h, good_of_word (gw_c_AL_get w h)⟩)
set_option maxHeartbeats 4000000 in
set_option maxRecDepth 100000 in
theorem c_runTimers_0on (l : Launch) (dC : Nat → ClassId) (dI : Nat → Nat → Nat) (nd : Nat) (nh : Int32) (nl : Int32) (nwa : Int32) (nfr : Int32) (nwi : Nat) (r : Nat) (nt : Nat) (ns : Nat) (ib : Nat) (gs : Nat) (cs : Nat) (nu : Nat) (nad : Nat) (ncc : Nat) (snp : Int32) (sdo : Int32) (cm : Nat) (ce_ : Nat) (cQ : ClassId) (fq : Nat → Option Nat) (tq : Nat) (k1 : Int32) (k2 : Int32) (k3 : Int32) (k4 : Int32) (k5 : Int32) (k6 : Int32) (k7 : Int32) (kl : Nat) (k9 : Int32) (k10 : Int32) (k11 : Int32) (kw : Nat) (kb : Nat) (cT : ClassId) (fg : Nat → Option Nat) (tm : Nat) (sz : Nat) (hq : fq 0 = some tq) (g0 : fg 0 = none) (g1 : fg 1 = none) (g2 : fg 2 = none) (htm : tm < 300000) (hko : kl ≤ tm ∧ tm < kl + 750) : Met l yX4_runTimers v_c_runTimers_0on ({ frames := 3, cells := 0, slots := 0, locals := 64 }) (va_Pc [.ref nd, .int (nI tm)] (fun U => U.heap.size = sz ∧ va_P (dC, dI) vwCl [(nd, .inr (5, [.int nh, .int nl, .int nwa, .int nfr, .int (nI nwi), .ref r, .ref nt, .ref ns, .ref ib, .ref gs, .ref cs, .ref nu, .int 0, .int 2, .int (nI nad), .int (nI ncc), .int 0, .int 0])), (ns, .inr (7, [.int 0, .int snp, .int sdo, .null])), (cs, .inr (0, [.int (nI cm), .ref ce_, .int 1])), (ce_, .inl (cQ, 10, .inr (.inr (.inr (.inr fq))))), (tq, .inr (10, [.int 1, .int k1, .int k2, .int k3, .int k4, .int k5, .int k6, .int k7, .int (nI kl), .int k9, .int k10, .int k11, .ref kw, .ref kb])), (gs, .inl (cT, 3, .inr (.inr (.inr (.inr fg)))))] U.heap ∧ va_K (dC, dI) vwCl [(cQ, (.object "java/lang/Object")), (cT, (.object RX9))] U ∧ va_D (fun _ => True) [(nd, .inr (5, [.int nh, .int nl, .int nwa, .int nfr, .int (nI nwi), .ref r, .ref nt, .ref ns, .ref ib, .ref gs, .ref cs, .ref nu, .int 0, .int 2, .int (nI nad), .int (nI ncc), .int 0, .int 0])), (ns, .inr (7, [.int 0, .int snp, .int sdo, .null])), (cs, .inr (0, [.int (nI cm), .ref ce_, .int 1])), (ce_, .inl (cQ, 10, .inr (.inr (.inr (.inr fq))))), (tq, .inr (10, [.int 1, .int k1, .int k2, .int k3, .int k4, .int k5, .int k6, .int k7, .int (nI kl), .int k9, .int k10, .int k11, .ref kw, .ref kb])), (gs, .inl (cT, 3, .inr (.inr (.inr (.inr fg)))))] ∧ ev U)) (va_Qv (fun _ : Unit => True) (fun (_ : Unit) (_ : State) => True) (va_A [] sz)) 0 0 (va_A [] sz) := by
  refine Met.ofW (cc := cX4_runTimers) (maxL := 6) (ret := none) (by decide) rfl ?_
  intro p e s m args below meth c s₁ B hml hv
  obtain ⟨rfl, hsz, hP, hK, hD0, hE⟩ := hv
  have hx := B.exec
  have hb := B.bytes
  have hr := B.returns
  have hts := atoms_spec (ws := v_c_runTimers_0on) B.pre
  have hown : s.vm.findClass RX4 = some m.cls := findClass_of_methodNamed B.named
  have hlocks := B.notSynchronized
  subst hsz
  have hD := hD0
  generalize hAe : va_A [] s.heap.size = A
  have hA : ∀ q : Nat, s.heap.size ≤ q → A q := fun q h => by rw [← hAe]; exact Or.inr h
  have hS : va_S A s.heap s.heap [] := va_S.rf
  replace hP : va_P (dC, dI) vwCl [(nd, .inr (5, [.int nh, .int nl, .int nwa, .int nfr, .int (nI nwi), .ref r, .ref nt, .ref ns, .ref ib, .ref gs, .ref cs, .ref nu, .int 0, .int 2, .int (nI nad), .int (nI ncc), .int 0, .int 0])), (ns, .inr (7, [.int 0, .int snp, .int sdo, .null])), (cs, .inr (0, [.int (nI cm), .ref ce_, .int 1])), (ce_, .inl (cQ, 10, .inr (.inr (.inr (.inr fq))))), (tq, .inr (10, [.int 1, .int k1, .int k2, .int k3, .int k4, .int k5, .int k6, .int k7, .int (nI kl), .int k9, .int k10, .int k11, .ref kw, .ref kb])), (gs, .inl (cT, 3, .inr (.inr (.inr (.inr fg)))))] s.heap := hP
  have hl := lv_entry ([.ref nd, .int (nI tm)]) (n := 6) (Nat.le_of_ble_eq_true rfl)
  rw [lg_entry_eq]
  generalize (lg_sl ([.ref nd, .int (nI tm)]) ++ List.replicate (6 - (lg_sl ([.ref nd, .int (nI tm)])).length) Slot.unset).toArray = ls at hl ⊢
  replace hl : lv_has ls 6 [(0, .ref nd), (1, .int (nI tm))] := hl
  obtain ⟨H, hH⟩ : ∃ z : Heap, z = s.heap := ⟨_, rfl⟩
  rw [← hH]
  replace hS : va_S A s.heap H [] := by rw [hH]; exact va_S.rf
  replace hP : va_P (dC, dI) vwCl [(nd, .inr (5, [.int nh, .int nl, .int nwa, .int nfr, .int (nI nwi), .ref r, .ref nt, .ref ns, .ref ib, .ref gs, .ref cs, .ref nu, .int 0, .int 2, .int (nI nad), .int (nI ncc), .int 0, .int 0])), (ns, .inr (7, [.int 0, .int snp, .int sdo, .null])), (cs, .inr (0, [.int (nI cm), .ref ce_, .int 1])), (ce_, .inl (cQ, 10, .inr (.inr (.inr (.inr fq))))), (tq, .inr (10, [.int 1, .int k1, .int k2, .int k3, .int k4, .int k5, .int k6, .int k7, .int (nI kl), .int k9, .int k10, .int k11, .ref kw, .ref kb])), (gs, .inl (cT, 3, .inr (.inr (.inr (.inr fg)))))] H := by rw [hH]; exact hP
  clear hH
  refine lv_aload_n hx hb dX4_runTimers_0 rfl (lv_at hl 0 rfl) ?_
  refine va_get (D := (dC, dI)) (ci := 5) (v := .int 2) (C := RX4) (T := TX4) (N := 18) hx hb hts in_c_runTimers_0on_X4 hown hK hP 0 rfl rfl 13 (by decide) (hts (.fieldLink RX4 53 "ClaimBus$Node" "state" "I") (List.mem_of_getElem? (i := 1) rfl)) (fun _ h9 => h9) rfl dX4_runTimers_1 ?_
  refine lv_iconst (v := 1) hx hb dX4_runTimers_4 (by decide) ?_
  refine lv_icmp_ne (tgt := 33) hx hb dX4_runTimers_5 (by decide) (fun c_1 => ?_) (fun c_1 => ?_)
  rotate_left
  · exact absurd c_1 (by decide)
  refine lv_aload_n hx hb dX4_runTimers_33 rfl (lv_at hl 0 rfl) ?_
  refine va_get (D := (dC, dI)) (ci := 5) (v := .ref ns) (C := RX4) (T := TX4) (N := 18) hx hb hts in_c_runTimers_0on_X4 hown hK hP 0 rfl rfl 7 (by decide) (hts (.fieldLink RX4 21 "ClaimBus$Node" "sending" "LClaimBus$Sending;") (List.mem_of_getElem? (i := 2) rfl)) (fun _ h9 => h9) rfl dX4_runTimers_34 ?_
  refine va_get (D := (dC, dI)) (ci := 7) (v := .int 0) (C := RX6) (T := TX6) (N := 4) hx hb hts in_c_runTimers_0on_X6 hown hK hP 1 rfl rfl 0 (by decide) (hts (.fieldLink RX4 121 "ClaimBus$Sending" "state" "I") (List.mem_of_getElem? (i := 3) rfl)) (fun _ h9 => h9) rfl dX4_runTimers_37 ?_
  refine lv_iconst (v := 1) hx hb dX4_runTimers_40 (by decide) ?_
  refine lv_icmp_ne (tgt := 60) hx hb dX4_runTimers_41 (by decide) (fun c_2 => ?_) (fun c_2 => ?_)
  rotate_left
  · exact absurd c_2 (by decide)
  refine lv_iconst (v := 0) hx hb dX4_runTimers_60 (by decide) ?_
  refine lv_istore_n (lv' := [(2, .int 0), (0, .ref nd), (1, .int (nI tm))]) hx hb dX4_runTimers_61 rfl hl (by decide) rfl (fun ls hl => ?_)
  refine lv_iload_n hx hb dX4_runTimers_62 rfl (lv_at hl 0 rfl) ?_
  refine lv_aload_n hx hb dX4_runTimers_63 rfl (lv_at hl 1 rfl) ?_
  refine va_get (D := (dC, dI)) (ci := 5) (v := .ref cs) (C := RX4) (T := TX4) (N := 18) hx hb hts in_c_runTimers_0on_X4 hown hK hP 0 rfl rfl 10 (by decide) (hts (.fieldLink RX4 41 "ClaimBus$Node" "collects" "Ljava/util/ArrayList;") (List.mem_of_getElem? (i := 4) rfl)) (fun _ h9 => h9) rfl dX4_runTimers_64 ?_
  have hPc := hP.sub (ws' := [(cs, .inr (0, [.int (nI cm), .ref ce_, .int (nI 1)]))]) [2] rfl
  have hDc := hD.sub (ws' := [(cs, .inr (0, [.int (nI cm), .ref ce_, .int (nI 1)]))]) [2] (by decide +kernel) rfl
  have hKc := hK.sub (tys' := []) [] rfl
  have hFc := ro_free hS hA
  refine va_calli (va_runV (As := []) (rest := [.int 0]) ⟨hx, hb, hml, hown, hts⟩ (c_AL_size l dC dI (cs) (cm) (ce_) (1) H.size) (cwV 0 hts g_c_runTimers_0on_c_AL_size_96 rfl rfl rfl (by decide +kernel) ⟨Nat.le_of_ble_eq_true rfl, Nat.le_of_ble_eq_true rfl⟩) ⟨fun a U g mk q => by obtain ⟨q0, q1, qP, qK, qD, qE⟩ := q; exact ⟨q0, q1, qP, va_K.moved (u := U) (U := U.calling g mk a) (Vm.Alike.refl U.vm) qK, qD, ev.same (u := U) (U := U.calling g mk a) rfl qE⟩, va_recv hKc hPc (ci := 0) (q0 := 0) rfl rfl, fun U hU hW => ⟨rfl, by rw [hU], by rw [hU]; exact hPc, va_K.moved hW.alike hKc, hDc.weaken (fun _ _ _ _ => trivial), hE.warm hW⟩⟩ rfl rfl hl.1 rfl (lv_room (Nat.le_of_ble_eq_true rfl)) dX4_runTimers_67 ⟨Nat.le_of_ble_eq_true rfl, Nat.le_of_ble_eq_true rfl⟩) hS (fun q _ h => hFc q h) hFc (fun r_3 u t H1 locs ht hvm hw hB hz1 hk1 hS => ?_)
  clear hPc hDc hKc
  replace hP := ro_keep hP hk1
  generalize H1 = H at hP hS ⊢
  replace hP : va_P (dC, dI) vwCl [(nd, .inr (5, [.int nh, .int nl, .int nwa, .int nfr, .int (nI nwi), .ref r, .ref nt, .ref ns, .ref ib, .ref gs, .ref cs, .ref nu, .int 0, .int 2, .int (nI nad), .int (nI ncc), .int 0, .int 0])), (ns, .inr (7, [.int 0, .int snp, .int sdo, .null])), (cs, .inr (0, [.int (nI cm), .ref ce_, .int 1])), (ce_, .inl (cQ, 10, .inr (.inr (.inr (.inr fq))))), (tq, .inr (10, [.int 1, .int k1, .int k2, .int k3, .int k4, .int k5, .int k6, .int k7, .int (nI kl), .int k9, .int k10, .int k11, .ref kw, .ref kb])), (gs, .inl (cT, 3, .inr (.inr (.inr (.inr fg)))))] H := hP
  have hw := hw.symm
  subst hw
  rw [show ((nI 1) : Int32) = 1 from (congrArg nI (show 1 = 1 from by omega)).trans (by decide)]
  refine lv_icmp_ge (tgt := 115) hx hb dX4_runTimers_70 (by decide) (fun c_4 => ?_) (fun c_4 => ?_)
  · exact absurd c_4 (by decide)
  refine lv_aload_n hx hb dX4_runTimers_73 rfl (lv_at hl 1 rfl) ?_
  refine va_get (D := (dC, dI)) (ci := 5) (v := .ref cs) (C := RX4) (T := TX4) (N := 18) hx hb hts in_c_runTimers_0on_X4 hown hK hP 0 rfl rfl 10 (by decide) (hts (.fieldLink RX4 41 "ClaimBus$Node" "collects" "Ljava/util/ArrayList;") (List.mem_of_getElem? (i := 4) rfl)) (fun _ h9 => h9) rfl dX4_runTimers_74 ?_
  refine lv_iload_n hx hb dX4_runTimers_77 rfl (lv_at hl 0 rfl) ?_
  have hPc := hP.sub (ws' := [(cs, .inr (0, [.int (nI cm), .ref ce_, .int (nI 1)])), (ce_, .inl (cQ, 10, .inr (.inr (.inr (.inr fq)))))]) [2, 3] rfl
  have hDc := hD.sub (ws' := [(cs, .inr (0, [.int (nI cm), .ref ce_, .int (nI 1)])), (ce_, .inl (cQ, 10, .inr (.inr (.inr (.inr fq)))))]) [2, 3] (by decide +kernel) rfl
  have hKc := hK.sub (tys' := [(cQ, (.object "java/lang/Object"))]) [0] rfl
  have hFc := ro_free hS hA
  refine va_callq (va_runV (As := [.int 0]) (rest := []) ⟨hx, hb, hml, hown, hts⟩ (c_AL_get l dC dI (cs) (cm) (ce_) (1) (cQ) (fq) (0) (tq) H.size hq (by omega) (by omega)) (cwV 1 hts g_c_runTimers_0on_c_AL_get_100 rfl rfl rfl (by decide +kernel) ⟨Nat.le_of_ble_eq_true rfl, Nat.le_of_ble_eq_true rfl⟩) ⟨fun a U g mk q => by obtain ⟨q0, q1, qP, qK, qD, qE⟩ := q; exact ⟨q0, q1, qP, va_K.moved (u := U) (U := U.calling g mk a) (Vm.Alike.refl U.vm) qK, qD, ev.same (u := U) (U := U.calling g mk a) rfl qE⟩, va_recv hKc hPc (ci := 0) (q0 := 0) rfl rfl, fun U hU hW => ⟨rfl, by rw [hU], by rw [hU]; exact hPc, va_K.moved hW.alike hKc, hDc.weaken (fun _ _ _ _ => trivial), hE.warm hW⟩⟩ rfl rfl hl.1 rfl (lv_room (Nat.le_of_ble_eq_true rfl)) dX4_runTimers_78 ⟨Nat.le_of_ble_eq_true rfl, Nat.le_of_ble_eq_true rfl⟩) hS (fun q _ h => hFc q h) hFc (fun r_5 u t H1 locs ht hvm hw hB hz1 hk1 hS => ?_)
  clear hPc hDc hKc
  replace hP := ro_keep hP hk1
  generalize H1 = H at hP hS ⊢
  replace hP : va_P (dC, dI) vwCl [(nd, .inr (5, [.int nh, .int nl, .int nwa, .int nfr, .int (nI nwi), .ref r, .ref nt, .ref ns, .ref ib, .ref gs, .ref cs, .ref nu, .int 0, .int 2, .int (nI nad), .int (nI ncc), .int 0, .int 0])), (ns, .inr (7, [.int 0, .int snp, .int sdo, .null])), (cs, .inr (0, [.int (nI cm), .ref ce_, .int 1])), (ce_, .inl (cQ, 10, .inr (.inr (.inr (.inr fq))))), (tq, .inr (10, [.int 1, .int k1, .int k2, .int k3, .int k4, .int k5, .int k6, .int k7, .int (nI kl), .int k9, .int k10, .int k11, .ref kw, .ref kb])), (gs, .inl (cT, 3, .inr (.inr (.inr (.inr fg)))))] H := hP
  have hw := hw.symm
  subst hw
  refine W.eq (g2 := F0 m 81 ls [.ref tq]) rfl ?_
  refine va_castS hx hb hown (hts (.classLink RX4 32 "ClaimBus$Transport") (List.mem_of_getElem? (i := 12) rfl)) (hK.1 10 _ rfl).2 (va_recv hK hP (ci := 10) (q0 := 4) rfl rfl) dX4_runTimers_81 ?_
  refine lv_astore_n (lv' := [(3, .ref tq), (2, .int 0), (0, .ref nd), (1, .int (nI tm))]) hx hb dX4_runTimers_84 rfl hl (by decide) rfl (fun ls hl => ?_)
  refine lv_aload_n hx hb dX4_runTimers_85 rfl (lv_at hl 0 rfl) ?_
  refine va_get (D := (dC, dI)) (ci := 10) (v := .int 1) (C := RX9) (T := TX9) (N := 14) hx hb hts in_c_runTimers_0on_X9 hown hK hP 4 rfl rfl 0 (by decide) (hts (.fieldLink RX4 93 "ClaimBus$Transport" "open" "Z") (List.mem_of_getElem? (i := 13) rfl)) (fun _ h9 => h9) rfl dX4_runTimers_86 ?_
  refine lv_if_eq (tgt := 109) hx hb dX4_runTimers_89 (by decide) (fun c_6 => ?_) (fun c_6 => ?_)
  · exact absurd c_6 (by decide)
  refine lv_iload_n hx hb dX4_runTimers_92 rfl (lv_at hl 3 rfl) ?_
  refine lv_aload_n hx hb dX4_runTimers_93 rfl (lv_at hl 0 rfl) ?_
  refine va_get (D := (dC, dI)) (ci := 10) (v := .int (nI kl)) (C := RX9) (T := TX9) (N := 14) hx hb hts in_c_runTimers_0on_X9 hown hK hP 4 rfl rfl 8 (by decide) (hts (.fieldLink RX4 153 "ClaimBus$Transport" "lastHeard" "I") (List.mem_of_getElem? (i := 14) rfl)) (fun _ h9 => h9) rfl dX4_runTimers_94 ?_
  refine lv_isub hx hb dX4_runTimers_97 ?_
  refine lv_topi (fun x_7 ex_7 => ?_)
  obtain rfl : x_7 = (nI (tm - kl)) := ex_7.trans ((pk_sub (a := tm) (b := kl) (by omega)).trans (show nI (tm - kl) = nI (tm - kl) from congrArg nI (by omega)))
  refine lv_sipush (v := 750) hx hb dX4_runTimers_98 (by decide) ?_
  refine lv_icmp_lt (tgt := 109) hx hb dX4_runTimers_101 (by decide) (fun c_8 => ?_) (fun c_8 => ?_)
  rotate_left
  · exact absurd ((nI_ltI (a := (tm - kl)) (b := 750) (by omega) (by omega)).mpr (by omega)) c_8
  refine lv_iinc (v := 1) (lv' := [(2, .int 1), (3, .ref tq), (0, .ref nd), (1, .int (nI tm))]) hx hb dX4_runTimers_109 hl (k := 1) rfl (by decide) (by decide) rfl (fun ls hl => ?_)
  refine lv_goto (tgt := 62) hx hb dX4_runTimers_112 (by decide) ?_
  refine lv_iload_n hx hb dX4_runTimers_62 rfl (lv_at hl 0 rfl) ?_
  refine lv_aload_n hx hb dX4_runTimers_63 rfl (lv_at hl 2 rfl) ?_
  refine va_get (D := (dC, dI)) (ci := 5) (v := .ref cs) (C := RX4) (T := TX4) (N := 18) hx hb hts in_c_runTimers_0on_X4 hown hK hP 0 rfl rfl 10 (by decide) (hts (.fieldLink RX4 41 "ClaimBus$Node" "collects" "Ljava/util/ArrayList;") (List.mem_of_getElem? (i := 4) rfl)) (fun _ h9 => h9) rfl dX4_runTimers_64 ?_
  have hPc := hP.sub (ws' := [(cs, .inr (0, [.int (nI cm), .ref ce_, .int (nI 1)]))]) [2] rfl
  have hDc := hD.sub (ws' := [(cs, .inr (0, [.int (nI cm), .ref ce_, .int (nI 1)]))]) [2] (by decide +kernel) rfl
  have hKc := hK.sub (tys' := []) [] rfl
  have hFc := ro_free hS hA
  refine va_calli (va_runV (As := []) (rest := [.int 1]) ⟨hx, hb, hml, hown, hts⟩ (c_AL_size l dC dI (cs) (cm) (ce_) (1) H.size) (cwV 0 hts g_c_runTimers_0on_c_AL_size_96 rfl rfl rfl (by decide +kernel) ⟨Nat.le_of_ble_eq_true rfl, Nat.le_of_ble_eq_true rfl⟩) ⟨fun a U g mk q => by obtain ⟨q0, q1, qP, qK, qD, qE⟩ := q; exact ⟨q0, q1, qP, va_K.moved (u := U) (U := U.calling g mk a) (Vm.Alike.refl U.vm) qK, qD, ev.same (u := U) (U := U.calling g mk a) rfl qE⟩, va_recv hKc hPc (ci := 0) (q0 := 0) rfl rfl, fun U hU hW => ⟨rfl, by rw [hU], by rw [hU]; exact hPc, va_K.moved hW.alike hKc, hDc.weaken (fun _ _ _ _ => trivial), hE.warm hW⟩⟩ rfl rfl hl.1 rfl (lv_room (Nat.le_of_ble_eq_true rfl)) dX4_runTimers_67 ⟨Nat.le_of_ble_eq_true rfl, Nat.le_of_ble_eq_true rfl⟩) hS (fun q _ h => hFc q h) hFc (fun r_9 u t H1 locs ht hvm hw hB hz1 hk1 hS => ?_)
  clear hPc hDc hKc
  replace hP := ro_keep hP hk1
  generalize H1 = H at hP hS ⊢
  replace hP : va_P (dC, dI) vwCl [(nd, .inr (5, [.int nh, .int nl, .int nwa, .int nfr, .int (nI nwi), .ref r, .ref nt, .ref ns, .ref ib, .ref gs, .ref cs, .ref nu, .int 0, .int 2, .int (nI nad), .int (nI ncc), .int 0, .int 0])), (ns, .inr (7, [.int 0, .int snp, .int sdo, .null])), (cs, .inr (0, [.int (nI cm), .ref ce_, .int 1])), (ce_, .inl (cQ, 10, .inr (.inr (.inr (.inr fq))))), (tq, .inr (10, [.int 1, .int k1, .int k2, .int k3, .int k4, .int k5, .int k6, .int k7, .int (nI kl), .int k9, .int k10, .int k11, .ref kw, .ref kb])), (gs, .inl (cT, 3, .inr (.inr (.inr (.inr fg)))))] H := hP
  have hw := hw.symm
  subst hw
  rw [show ((nI 1) : Int32) = 1 from (congrArg nI (show 1 = 1 from by omega)).trans (by decide)]
  refine lv_icmp_ge (tgt := 115) hx hb dX4_runTimers_70 (by decide) (fun c_10 => ?_) (fun c_10 => ?_)
  rotate_left
  · exact absurd (by decide) c_10
  refine lv_aload_n hx hb dX4_runTimers_115 rfl (lv_at hl 2 rfl) ?_
  refine va_get (D := (dC, dI)) (ci := 5) (v := .ref gs) (C := RX4) (T := TX4) (N := 18) hx hb hts in_c_runTimers_0on_X4 hown hK hP 0 rfl rfl 9 (by decide) (hts (.fieldLink RX4 34 "ClaimBus$Node" "gets" "[LClaimBus$Transport;") (List.mem_of_getElem? (i := 15) rfl)) (fun _ h9 => h9) rfl dX4_runTimers_116 ?_
  refine lv_astore_n (lv' := [(2, .ref gs), (3, .ref tq), (0, .ref nd), (1, .int (nI tm))]) hx hb dX4_runTimers_119 rfl hl (by decide) rfl (fun ls hl => ?_)
  refine lv_aload_n hx hb dX4_runTimers_120 rfl (lv_at hl 0 rfl) ?_
  refine va_alen hx hb hK hP 5 1 rfl rfl (v := 3) rfl dX4_runTimers_121 ?_
  refine lv_istore_n (lv' := [(3, .int 3), (2, .ref gs), (0, .ref nd), (1, .int (nI tm))]) hx hb dX4_runTimers_122 rfl hl (by decide) rfl (fun ls hl => ?_)
  refine lv_iconst (v := 0) hx hb dX4_runTimers_123 (by decide) ?_
  refine lv_istore (lv' := [(4, .int 0), (3, .int 3), (2, .ref gs), (0, .ref nd), (1, .int (nI tm))]) hx hb dX4_runTimers_124 hl (by decide) rfl (fun ls hl => ?_)
  refine lv_iload hx hb dX4_runTimers_126 (lv_at hl 0 rfl) ?_
  refine lv_iload_n hx hb dX4_runTimers_128 rfl (lv_at hl 1 rfl) ?_
  refine lv_icmp_ge (tgt := 177) hx hb dX4_runTimers_129 (by decide) (fun c_11 => ?_) (fun c_11 => ?_)
  · exact absurd c_11 (by decide)
  refine lv_aload_n hx hb dX4_runTimers_132 rfl (lv_at hl 2 rfl) ?_
  refine lv_iload hx hb dX4_runTimers_133 (lv_at hl 0 rfl) ?_
  refine va_aldq hx hb hK hP 5 1 rfl rfl (vp_in_nI (n := 0) (by omega) (by omega)) dX4_runTimers_135 ?_
  refine W.eq (g2 := F0 m 136 ls [.null]) (by rw [(show Int32.toNatClampNeg (0 : Int32) = 0 by decide), g0]; rfl) ?_
  refine lv_astoreN (lv' := [(5, .null), (4, .int 0), (3, .int 3), (2, .ref gs), (0, .ref nd), (1, .int (nI tm))]) hx hb dX4_runTimers_136 hl (by decide) rfl (fun ls hl => ?_)
  refine lv_aloadN hx hb dX4_runTimers_138 (lv_at hl 0 rfl) ?_
  refine lv_ifnullN (tgt := 171) hx hb dX4_runTimers_140 (by decide) ?_
  refine lv_iinc (v := 1) (lv' := [(4, .int 1), (5, .null), (3, .int 3), (2, .ref gs), (0, .ref nd), (1, .int (nI tm))]) hx hb dX4_runTimers_171 hl (k := 1) rfl (by decide) (by decide) rfl (fun ls hl => ?_)
  refine lv_goto (tgt := 126) hx hb dX4_runTimers_174 (by decide) ?_
  refine lv_iload hx hb dX4_runTimers_126 (lv_at hl 0 rfl) ?_
  refine lv_iload_n hx hb dX4_runTimers_128 rfl (lv_at hl 2 rfl) ?_
  refine lv_icmp_ge (tgt := 177) hx hb dX4_runTimers_129 (by decide) (fun c_12 => ?_) (fun c_12 => ?_)
  · exact absurd c_12 (by decide)
  refine lv_aload_n hx hb dX4_runTimers_132 rfl (lv_at hl 3 rfl) ?_
  refine lv_iload hx hb dX4_runTimers_133 (lv_at hl 0 rfl) ?_
  refine va_aldq hx hb hK hP 5 1 rfl rfl (vp_in_nI (n := 1) (by omega) (by omega)) dX4_runTimers_135 ?_
  refine W.eq (g2 := F0 m 136 ls [.null]) (by rw [(show Int32.toNatClampNeg (1 : Int32) = 1 by decide), g1]; rfl) ?_
  refine lv_astoreN (lv' := [(5, .null), (4, .int 1), (3, .int 3), (2, .ref gs), (0, .ref nd), (1, .int (nI tm))]) hx hb dX4_runTimers_136 hl (by decide) rfl (fun ls hl => ?_)
  refine lv_aloadN hx hb dX4_runTimers_138 (lv_at hl 0 rfl) ?_
  refine lv_ifnullN (tgt := 171) hx hb dX4_runTimers_140 (by decide) ?_
  refine lv_iinc (v := 2) (lv' := [(4, .int 2), (5, .null), (3, .int 3), (2, .ref gs), (0, .ref nd), (1, .int (nI tm))]) hx hb dX4_runTimers_171 hl (k := 1) rfl (by decide) (by decide) rfl (fun ls hl => ?_)
  refine lv_goto (tgt := 126) hx hb dX4_runTimers_174 (by decide) ?_
  refine lv_iload hx hb dX4_runTimers_126 (lv_at hl 0 rfl) ?_
  refine lv_iload_n hx hb dX4_runTimers_128 rfl (lv_at hl 2 rfl) ?_
  refine lv_icmp_ge (tgt := 177) hx hb dX4_runTimers_129 (by decide) (fun c_13 => ?_) (fun c_13 => ?_)
  · exact absurd c_13 (by decide)
  refine lv_aload_n hx hb dX4_runTimers_132 rfl (lv_at hl 3 rfl) ?_
  refine lv_iload hx hb dX4_runTimers_133 (lv_at hl 0 rfl) ?_
  refine va_aldq hx hb hK hP 5 1 rfl rfl (vp_in_nI (n := 2) (by omega) (by omega)) dX4_runTimers_135 ?_
  refine W.eq (g2 := F0 m 136 ls [.null]) (by rw [(show Int32.toNatClampNeg (2 : Int32) = 2 by decide), g2]; rfl) ?_
  refine lv_astoreN (lv' := [(5, .null), (4, .int 2), (3, .int 3), (2, .ref gs), (0, .ref nd), (1, .int (nI tm))]) hx hb dX4_runTimers_136 hl (by decide) rfl (fun ls hl => ?_)
  refine lv_aloadN hx hb dX4_runTimers_138 (lv_at hl 0 rfl) ?_
  refine lv_ifnullN (tgt := 171) hx hb dX4_runTimers_140 (by decide) ?_
  refine lv_iinc (v := 3) (lv' := [(4, .int 3), (5, .null), (3, .int 3), (2, .ref gs), (0, .ref nd), (1, .int (nI tm))]) hx hb dX4_runTimers_171 hl (k := 1) rfl (by decide) (by decide) rfl (fun ls hl => ?_)
  refine lv_goto (tgt := 126) hx hb dX4_runTimers_174 (by decide) ?_
  refine lv_iload hx hb dX4_runTimers_126 (lv_at hl 0 rfl) ?_
  refine lv_iload_n hx hb dX4_runTimers_128 rfl (lv_at hl 2 rfl) ?_
  refine lv_icmp_ge (tgt := 177) hx hb dX4_runTimers_129 (by decide) (fun c_14 => ?_) (fun c_14 => ?_)
  rotate_left
  · exact absurd (by decide) c_14
  exact W.vret hx hb hr (fun t ht hW => ⟨⟨(), rfl, trivial, trivial⟩, hS.F ht⟩) hS.2.2 dX4_runTimers_177

noncomputable def tl_c_runTimers_0oc : List Cond := wsX40 ++ (wsX60 ++ (wsX90 ++ (v_c_AL_size ++ (v_c_AL_get))))
noncomputable def v_c_runTimers_0oc : List Cond := .code yX4_runTimers cX4_runTimers 6 none :: ([.fieldLink RX4 53 "ClaimBus$Node" "state" "I", .fieldLink RX4 21 "ClaimBus$Node" "sending" "LClaimBus$Sending;", .fieldLink RX4 121 "ClaimBus$Sending" "state" "I", .fieldLink RX4 41 "ClaimBus$Node" "collects" "Ljava/util/ArrayList;", .initialized RJx4a65c, .methodLink RX4 96 yJx4a65c_size_8abf5, .instanceMethod yJx4a65c_size_8abf5, .selects RJx4a65c yJx4a65c_size_8abf5 yJx4a65c_size_8abf5, .methodLink RX4 100 yJx4a65c_get_915e3, .instanceMethod yJx4a65c_get_915e3, .selects RJx4a65c yJx4a65c_get_915e3 yJx4a65c_get_915e3, .classLink RX4 32 "ClaimBus$Transport", .fieldLink RX4 93 "ClaimBus$Transport" "open" "Z", .fieldLink RX4 153 "ClaimBus$Transport" "lastHeard" "I", .fieldLink RX4 34 "ClaimBus$Node" "gets" "[LClaimBus$Transport;"] ++ tl_c_runTimers_0oc)
theorem it_c_runTimers_0oc : ∀ w ∈ tl_c_runTimers_0oc, w ∈ v_c_runTimers_0oc := fun w h => List.mem_cons_of_mem _ (List.mem_append_right _ h)
theorem in_c_runTimers_0oc_X4 : ∀ w ∈ wsX40, w ∈ v_c_runTimers_0oc := fun w h => it_c_runTimers_0oc w (List.mem_append_left _ h)
theorem in_c_runTimers_0oc_X6 : ∀ w ∈ wsX60, w ∈ v_c_runTimers_0oc := fun w h => it_c_runTimers_0oc w (List.mem_append_right _ (List.mem_append_left _ h))
theorem in_c_runTimers_0oc_X9 : ∀ w ∈ wsX90, w ∈ v_c_runTimers_0oc := fun w h => it_c_runTimers_0oc w (List.mem_append_right _ (List.mem_append_right _ (List.mem_append_left _ h)))
theorem ic_c_runTimers_0oc_c_AL_size : ∀ w ∈ v_c_AL_size, w ∈ v_c_runTimers_0oc := fun w h => it_c_runTimers_0oc w (List.mem_append_right _ (List.mem_append_right _ (List.mem_append_right _ (List.mem_append_left _ h))))
theorem ic_c_runTimers_0oc_c_AL_get : ∀ w ∈ v_c_AL_get, w ∈ v_c_runTimers_0oc := fun w h => it_c_runTimers_0oc w (List.mem_append_right _ (List.mem_append_right _ (List.mem_append_right _ (List.mem_append_right _ (h)))))
theorem gt_c_runTimers_0oc : ∀ w ∈ tl_c_runTimers_0oc, goodWord w = true := List.forall_mem_append.mpr ⟨gw_wsX40, List.forall_mem_append.mpr ⟨gw_wsX60, List.forall_mem_append.mpr ⟨gw_wsX90, List.forall_mem_append.mpr ⟨gw_c_AL_size, gw_c_AL_get⟩⟩⟩⟩
theorem gw_c_runTimers_0oc : ∀ w ∈ v_c_runTimers_0oc, goodWord w = true := List.forall_mem_cons.mpr ⟨by decide +kernel, List.forall_mem_append.mpr ⟨List.all_eq_true.mp (by decide +kernel), gt_c_runTimers_0oc⟩⟩
theorem g_c_runTimers_0oc_c_AL_size_96 : GoodIn v_c_runTimers_0oc (wsV RX4 96 RJx4a65c yJx4a65c_size_8abf5 v_c_AL_size) := goodIn_app (goodIn_r [.methodLink RX4 96 yJx4a65c_size_8abf5, .instanceMethod yJx4a65c_size_8abf5, .selects RJx4a65c yJx4a65c_size_8abf5 yJx4a65c_size_8abf5, .initialized RJx4a65c] [6, 7, 8, 5] (by decide +kernel) (by decide +kernel)) (fun w h => ⟨ic_c_runTimers_0oc_c_AL_size w h, good_of_word (gw_c_AL_size w h)⟩)
theorem g_c_runTimers_0oc_c_AL_get_100 : GoodIn v_c_runTimers_0oc (wsV RX4 100 RJx4a65c yJx4a65c_get_915e3 v_c_AL_get) := goodIn_app (goodIn_r [.methodLink RX4 100 yJx4a65c_get_915e3, .instanceMethod yJx4a65c_get_915e3, .selects RJx4a65c yJx4a65c_get_915e3 yJx4a65c_get_915e3, .initialized RJx4a65c] [9, 10, 11, 5] (by decide +kernel) (by decide +kernel)) (fun w h => ⟨ic_c_runTimers_0oc_c_AL_get w h, good_of_word (gw_c_AL_get w h)⟩)
set_option maxHeartbeats 4000000 in
set_option maxRecDepth 100000 in
theorem c_runTimers_0oc (l : Launch) (dC : Nat → ClassId) (dI : Nat → Nat → Nat) (nd : Nat) (nh : Int32) (nl : Int32) (nwa : Int32) (nfr : Int32) (nwi : Nat) (r : Nat) (nt : Nat) (ns : Nat) (ib : Nat) (gs : Nat) (cs : Nat) (nu : Nat) (nad : Nat) (ncc : Nat) (snp : Int32) (sdo : Int32) (cm : Nat) (ce_ : Nat) (cQ : ClassId) (fq : Nat → Option Nat) (tq : Nat) (k1 : Int32) (k2 : Int32) (k3 : Int32) (k4 : Int32) (k5 : Int32) (k6 : Int32) (k7 : Int32) (kl : Nat) (k9 : Int32) (k10 : Int32) (k11 : Int32) (kw : Nat) (kb : Nat) (cT : ClassId) (fg : Nat → Option Nat) (tr : Nat) (j1 : Int32) (j2 : Int32) (j3 : Int32) (j4 : Int32) (j5 : Int32) (j6 : Int32) (j7 : Int32) (j8 : Int32) (j9 : Int32) (j10 : Int32) (j11 : Int32) (jw : Nat) (jb : Nat) (tm : Nat) (sz : Nat) (hq : fq 0 = some tq) (g0 : fg 0 = some tr) (g1 : fg 1 = none) (g2 : fg 2 = none) (htm : tm < 300000) (hko : kl ≤ tm ∧ tm < kl + 750) : Met l yX4_runTimers v_c_runTimers_0oc ({ frames := 3, cells := 0, slots := 0, locals := 64 }) (va_Pc [.ref nd, .int (nI tm)] (fun U => U.heap.size = sz ∧ va_P (dC, dI) vwCl [(nd, .inr (5, [.int nh, .int nl, .int nwa, .int nfr, .int (nI nwi), .ref r, .ref nt, .ref ns, .ref ib, .ref gs, .ref cs, .ref nu, .int 0, .int 2, .int (nI nad), .int (nI ncc), .int 0, .int 0])), (ns, .inr (7, [.int 0, .int snp, .int sdo, .null])), (cs, .inr (0, [.int (nI cm), .ref ce_, .int 1])), (ce_, .inl (cQ, 10, .inr (.inr (.inr (.inr fq))))), (tq, .inr (10, [.int 1, .int k1, .int k2, .int k3, .int k4, .int k5, .int k6, .int k7, .int (nI kl), .int k9, .int k10, .int k11, .ref kw, .ref kb])), (gs, .inl (cT, 3, .inr (.inr (.inr (.inr fg))))), (tr, .inr (10, [.int 0, .int j1, .int j2, .int j3, .int j4, .int j5, .int j6, .int j7, .int j8, .int j9, .int j10, .int j11, .ref jw, .ref jb]))] U.heap ∧ va_K (dC, dI) vwCl [(cQ, (.object "java/lang/Object")), (cT, (.object RX9))] U ∧ va_D (fun _ => True) [(nd, .inr (5, [.int nh, .int nl, .int nwa, .int nfr, .int (nI nwi), .ref r, .ref nt, .ref ns, .ref ib, .ref gs, .ref cs, .ref nu, .int 0, .int 2, .int (nI nad), .int (nI ncc), .int 0, .int 0])), (ns, .inr (7, [.int 0, .int snp, .int sdo, .null])), (cs, .inr (0, [.int (nI cm), .ref ce_, .int 1])), (ce_, .inl (cQ, 10, .inr (.inr (.inr (.inr fq))))), (tq, .inr (10, [.int 1, .int k1, .int k2, .int k3, .int k4, .int k5, .int k6, .int k7, .int (nI kl), .int k9, .int k10, .int k11, .ref kw, .ref kb])), (gs, .inl (cT, 3, .inr (.inr (.inr (.inr fg))))), (tr, .inr (10, [.int 0, .int j1, .int j2, .int j3, .int j4, .int j5, .int j6, .int j7, .int j8, .int j9, .int j10, .int j11, .ref jw, .ref jb]))] ∧ ev U)) (va_Qv (fun _ : Unit => True) (fun (_ : Unit) (_ : State) => True) (va_A [] sz)) 0 0 (va_A [] sz) := by
  refine Met.ofW (cc := cX4_runTimers) (maxL := 6) (ret := none) (by decide) rfl ?_
  intro p e s m args below meth c s₁ B hml hv
  obtain ⟨rfl, hsz, hP, hK, hD0, hE⟩ := hv
  have hx := B.exec
  have hb := B.bytes
  have hr := B.returns
  have hts := atoms_spec (ws := v_c_runTimers_0oc) B.pre
  have hown : s.vm.findClass RX4 = some m.cls := findClass_of_methodNamed B.named
  have hlocks := B.notSynchronized
  subst hsz
  have hD := hD0
  generalize hAe : va_A [] s.heap.size = A
  have hA : ∀ q : Nat, s.heap.size ≤ q → A q := fun q h => by rw [← hAe]; exact Or.inr h
  have hS : va_S A s.heap s.heap [] := va_S.rf
  replace hP : va_P (dC, dI) vwCl [(nd, .inr (5, [.int nh, .int nl, .int nwa, .int nfr, .int (nI nwi), .ref r, .ref nt, .ref ns, .ref ib, .ref gs, .ref cs, .ref nu, .int 0, .int 2, .int (nI nad), .int (nI ncc), .int 0, .int 0])), (ns, .inr (7, [.int 0, .int snp, .int sdo, .null])), (cs, .inr (0, [.int (nI cm), .ref ce_, .int 1])), (ce_, .inl (cQ, 10, .inr (.inr (.inr (.inr fq))))), (tq, .inr (10, [.int 1, .int k1, .int k2, .int k3, .int k4, .int k5, .int k6, .int k7, .int (nI kl), .int k9, .int k10, .int k11, .ref kw, .ref kb])), (gs, .inl (cT, 3, .inr (.inr (.inr (.inr fg))))), (tr, .inr (10, [.int 0, .int j1, .int j2, .int j3, .int j4, .int j5, .int j6, .int j7, .int j8, .int j9, .int j10, .int j11, .ref jw, .ref jb]))] s.heap := hP
  have hl := lv_entry ([.ref nd, .int (nI tm)]) (n := 6) (Nat.le_of_ble_eq_true rfl)
  rw [lg_entry_eq]
  generalize (lg_sl ([.ref nd, .int (nI tm)]) ++ List.replicate (6 - (lg_sl ([.ref nd, .int (nI tm)])).length) Slot.unset).toArray = ls at hl ⊢
  replace hl : lv_has ls 6 [(0, .ref nd), (1, .int (nI tm))] := hl
  obtain ⟨H, hH⟩ : ∃ z : Heap, z = s.heap := ⟨_, rfl⟩
  rw [← hH]
  replace hS : va_S A s.heap H [] := by rw [hH]; exact va_S.rf
  replace hP : va_P (dC, dI) vwCl [(nd, .inr (5, [.int nh, .int nl, .int nwa, .int nfr, .int (nI nwi), .ref r, .ref nt, .ref ns, .ref ib, .ref gs, .ref cs, .ref nu, .int 0, .int 2, .int (nI nad), .int (nI ncc), .int 0, .int 0])), (ns, .inr (7, [.int 0, .int snp, .int sdo, .null])), (cs, .inr (0, [.int (nI cm), .ref ce_, .int 1])), (ce_, .inl (cQ, 10, .inr (.inr (.inr (.inr fq))))), (tq, .inr (10, [.int 1, .int k1, .int k2, .int k3, .int k4, .int k5, .int k6, .int k7, .int (nI kl), .int k9, .int k10, .int k11, .ref kw, .ref kb])), (gs, .inl (cT, 3, .inr (.inr (.inr (.inr fg))))), (tr, .inr (10, [.int 0, .int j1, .int j2, .int j3, .int j4, .int j5, .int j6, .int j7, .int j8, .int j9, .int j10, .int j11, .ref jw, .ref jb]))] H := by rw [hH]; exact hP
  clear hH
  refine lv_aload_n hx hb dX4_runTimers_0 rfl (lv_at hl 0 rfl) ?_
  refine va_get (D := (dC, dI)) (ci := 5) (v := .int 2) (C := RX4) (T := TX4) (N := 18) hx hb hts in_c_runTimers_0oc_X4 hown hK hP 0 rfl rfl 13 (by decide) (hts (.fieldLink RX4 53 "ClaimBus$Node" "state" "I") (List.mem_of_getElem? (i := 1) rfl)) (fun _ h9 => h9) rfl dX4_runTimers_1 ?_
  refine lv_iconst (v := 1) hx hb dX4_runTimers_4 (by decide) ?_
  refine lv_icmp_ne (tgt := 33) hx hb dX4_runTimers_5 (by decide) (fun c_1 => ?_) (fun c_1 => ?_)
  rotate_left
  · exact absurd c_1 (by decide)
  refine lv_aload_n hx hb dX4_runTimers_33 rfl (lv_at hl 0 rfl) ?_
  refine va_get (D := (dC, dI)) (ci := 5) (v := .ref ns) (C := RX4) (T := TX4) (N := 18) hx hb hts in_c_runTimers_0oc_X4 hown hK hP 0 rfl rfl 7 (by decide) (hts (.fieldLink RX4 21 "ClaimBus$Node" "sending" "LClaimBus$Sending;") (List.mem_of_getElem? (i := 2) rfl)) (fun _ h9 => h9) rfl dX4_runTimers_34 ?_
  refine va_get (D := (dC, dI)) (ci := 7) (v := .int 0) (C := RX6) (T := TX6) (N := 4) hx hb hts in_c_runTimers_0oc_X6 hown hK hP 1 rfl rfl 0 (by decide) (hts (.fieldLink RX4 121 "ClaimBus$Sending" "state" "I") (List.mem_of_getElem? (i := 3) rfl)) (fun _ h9 => h9) rfl dX4_runTimers_37 ?_
  refine lv_iconst (v := 1) hx hb dX4_runTimers_40 (by decide) ?_
  refine lv_icmp_ne (tgt := 60) hx hb dX4_runTimers_41 (by decide) (fun c_2 => ?_) (fun c_2 => ?_)
  rotate_left
  · exact absurd c_2 (by decide)
  refine lv_iconst (v := 0) hx hb dX4_runTimers_60 (by decide) ?_
  refine lv_istore_n (lv' := [(2, .int 0), (0, .ref nd), (1, .int (nI tm))]) hx hb dX4_runTimers_61 rfl hl (by decide) rfl (fun ls hl => ?_)
  refine lv_iload_n hx hb dX4_runTimers_62 rfl (lv_at hl 0 rfl) ?_
  refine lv_aload_n hx hb dX4_runTimers_63 rfl (lv_at hl 1 rfl) ?_
  refine va_get (D := (dC, dI)) (ci := 5) (v := .ref cs) (C := RX4) (T := TX4) (N := 18) hx hb hts in_c_runTimers_0oc_X4 hown hK hP 0 rfl rfl 10 (by decide) (hts (.fieldLink RX4 41 "ClaimBus$Node" "collects" "Ljava/util/ArrayList;") (List.mem_of_getElem? (i := 4) rfl)) (fun _ h9 => h9) rfl dX4_runTimers_64 ?_
  have hPc := hP.sub (ws' := [(cs, .inr (0, [.int (nI cm), .ref ce_, .int (nI 1)]))]) [2] rfl
  have hDc := hD.sub (ws' := [(cs, .inr (0, [.int (nI cm), .ref ce_, .int (nI 1)]))]) [2] (by decide +kernel) rfl
  have hKc := hK.sub (tys' := []) [] rfl
  have hFc := ro_free hS hA
  refine va_calli (va_runV (As := []) (rest := [.int 0]) ⟨hx, hb, hml, hown, hts⟩ (c_AL_size l dC dI (cs) (cm) (ce_) (1) H.size) (cwV 0 hts g_c_runTimers_0oc_c_AL_size_96 rfl rfl rfl (by decide +kernel) ⟨Nat.le_of_ble_eq_true rfl, Nat.le_of_ble_eq_true rfl⟩) ⟨fun a U g mk q => by obtain ⟨q0, q1, qP, qK, qD, qE⟩ := q; exact ⟨q0, q1, qP, va_K.moved (u := U) (U := U.calling g mk a) (Vm.Alike.refl U.vm) qK, qD, ev.same (u := U) (U := U.calling g mk a) rfl qE⟩, va_recv hKc hPc (ci := 0) (q0 := 0) rfl rfl, fun U hU hW => ⟨rfl, by rw [hU], by rw [hU]; exact hPc, va_K.moved hW.alike hKc, hDc.weaken (fun _ _ _ _ => trivial), hE.warm hW⟩⟩ rfl rfl hl.1 rfl (lv_room (Nat.le_of_ble_eq_true rfl)) dX4_runTimers_67 ⟨Nat.le_of_ble_eq_true rfl, Nat.le_of_ble_eq_true rfl⟩) hS (fun q _ h => hFc q h) hFc (fun r_3 u t H1 locs ht hvm hw hB hz1 hk1 hS => ?_)
  clear hPc hDc hKc
  replace hP := ro_keep hP hk1
  generalize H1 = H at hP hS ⊢
  replace hP : va_P (dC, dI) vwCl [(nd, .inr (5, [.int nh, .int nl, .int nwa, .int nfr, .int (nI nwi), .ref r, .ref nt, .ref ns, .ref ib, .ref gs, .ref cs, .ref nu, .int 0, .int 2, .int (nI nad), .int (nI ncc), .int 0, .int 0])), (ns, .inr (7, [.int 0, .int snp, .int sdo, .null])), (cs, .inr (0, [.int (nI cm), .ref ce_, .int 1])), (ce_, .inl (cQ, 10, .inr (.inr (.inr (.inr fq))))), (tq, .inr (10, [.int 1, .int k1, .int k2, .int k3, .int k4, .int k5, .int k6, .int k7, .int (nI kl), .int k9, .int k10, .int k11, .ref kw, .ref kb])), (gs, .inl (cT, 3, .inr (.inr (.inr (.inr fg))))), (tr, .inr (10, [.int 0, .int j1, .int j2, .int j3, .int j4, .int j5, .int j6, .int j7, .int j8, .int j9, .int j10, .int j11, .ref jw, .ref jb]))] H := hP
  have hw := hw.symm
  subst hw
  rw [show ((nI 1) : Int32) = 1 from (congrArg nI (show 1 = 1 from by omega)).trans (by decide)]
  refine lv_icmp_ge (tgt := 115) hx hb dX4_runTimers_70 (by decide) (fun c_4 => ?_) (fun c_4 => ?_)
  · exact absurd c_4 (by decide)
  refine lv_aload_n hx hb dX4_runTimers_73 rfl (lv_at hl 1 rfl) ?_
  refine va_get (D := (dC, dI)) (ci := 5) (v := .ref cs) (C := RX4) (T := TX4) (N := 18) hx hb hts in_c_runTimers_0oc_X4 hown hK hP 0 rfl rfl 10 (by decide) (hts (.fieldLink RX4 41 "ClaimBus$Node" "collects" "Ljava/util/ArrayList;") (List.mem_of_getElem? (i := 4) rfl)) (fun _ h9 => h9) rfl dX4_runTimers_74 ?_
  refine lv_iload_n hx hb dX4_runTimers_77 rfl (lv_at hl 0 rfl) ?_
  have hPc := hP.sub (ws' := [(cs, .inr (0, [.int (nI cm), .ref ce_, .int (nI 1)])), (ce_, .inl (cQ, 10, .inr (.inr (.inr (.inr fq)))))]) [2, 3] rfl
  have hDc := hD.sub (ws' := [(cs, .inr (0, [.int (nI cm), .ref ce_, .int (nI 1)])), (ce_, .inl (cQ, 10, .inr (.inr (.inr (.inr fq)))))]) [2, 3] (by decide +kernel) rfl
  have hKc := hK.sub (tys' := [(cQ, (.object "java/lang/Object"))]) [0] rfl
  have hFc := ro_free hS hA
  refine va_callq (va_runV (As := [.int 0]) (rest := []) ⟨hx, hb, hml, hown, hts⟩ (c_AL_get l dC dI (cs) (cm) (ce_) (1) (cQ) (fq) (0) (tq) H.size hq (by omega) (by omega)) (cwV 1 hts g_c_runTimers_0oc_c_AL_get_100 rfl rfl rfl (by decide +kernel) ⟨Nat.le_of_ble_eq_true rfl, Nat.le_of_ble_eq_true rfl⟩) ⟨fun a U g mk q => by obtain ⟨q0, q1, qP, qK, qD, qE⟩ := q; exact ⟨q0, q1, qP, va_K.moved (u := U) (U := U.calling g mk a) (Vm.Alike.refl U.vm) qK, qD, ev.same (u := U) (U := U.calling g mk a) rfl qE⟩, va_recv hKc hPc (ci := 0) (q0 := 0) rfl rfl, fun U hU hW => ⟨rfl, by rw [hU], by rw [hU]; exact hPc, va_K.moved hW.alike hKc, hDc.weaken (fun _ _ _ _ => trivial), hE.warm hW⟩⟩ rfl rfl hl.1 rfl (lv_room (Nat.le_of_ble_eq_true rfl)) dX4_runTimers_78 ⟨Nat.le_of_ble_eq_true rfl, Nat.le_of_ble_eq_true rfl⟩) hS (fun q _ h => hFc q h) hFc (fun r_5 u t H1 locs ht hvm hw hB hz1 hk1 hS => ?_)
  clear hPc hDc hKc
  replace hP := ro_keep hP hk1
  generalize H1 = H at hP hS ⊢
  replace hP : va_P (dC, dI) vwCl [(nd, .inr (5, [.int nh, .int nl, .int nwa, .int nfr, .int (nI nwi), .ref r, .ref nt, .ref ns, .ref ib, .ref gs, .ref cs, .ref nu, .int 0, .int 2, .int (nI nad), .int (nI ncc), .int 0, .int 0])), (ns, .inr (7, [.int 0, .int snp, .int sdo, .null])), (cs, .inr (0, [.int (nI cm), .ref ce_, .int 1])), (ce_, .inl (cQ, 10, .inr (.inr (.inr (.inr fq))))), (tq, .inr (10, [.int 1, .int k1, .int k2, .int k3, .int k4, .int k5, .int k6, .int k7, .int (nI kl), .int k9, .int k10, .int k11, .ref kw, .ref kb])), (gs, .inl (cT, 3, .inr (.inr (.inr (.inr fg))))), (tr, .inr (10, [.int 0, .int j1, .int j2, .int j3, .int j4, .int j5, .int j6, .int j7, .int j8, .int j9, .int j10, .int j11, .ref jw, .ref jb]))] H := hP
  have hw := hw.symm
  subst hw
  refine W.eq (g2 := F0 m 81 ls [.ref tq]) rfl ?_
  refine va_castS hx hb hown (hts (.classLink RX4 32 "ClaimBus$Transport") (List.mem_of_getElem? (i := 12) rfl)) (hK.1 10 _ rfl).2 (va_recv hK hP (ci := 10) (q0 := 4) rfl rfl) dX4_runTimers_81 ?_
  refine lv_astore_n (lv' := [(3, .ref tq), (2, .int 0), (0, .ref nd), (1, .int (nI tm))]) hx hb dX4_runTimers_84 rfl hl (by decide) rfl (fun ls hl => ?_)
  refine lv_aload_n hx hb dX4_runTimers_85 rfl (lv_at hl 0 rfl) ?_
  refine va_get (D := (dC, dI)) (ci := 10) (v := .int 1) (C := RX9) (T := TX9) (N := 14) hx hb hts in_c_runTimers_0oc_X9 hown hK hP 4 rfl rfl 0 (by decide) (hts (.fieldLink RX4 93 "ClaimBus$Transport" "open" "Z") (List.mem_of_getElem? (i := 13) rfl)) (fun _ h9 => h9) rfl dX4_runTimers_86 ?_
  refine lv_if_eq (tgt := 109) hx hb dX4_runTimers_89 (by decide) (fun c_6 => ?_) (fun c_6 => ?_)
  · exact absurd c_6 (by decide)
  refine lv_iload_n hx hb dX4_runTimers_92 rfl (lv_at hl 3 rfl) ?_
  refine lv_aload_n hx hb dX4_runTimers_93 rfl (lv_at hl 0 rfl) ?_
  refine va_get (D := (dC, dI)) (ci := 10) (v := .int (nI kl)) (C := RX9) (T := TX9) (N := 14) hx hb hts in_c_runTimers_0oc_X9 hown hK hP 4 rfl rfl 8 (by decide) (hts (.fieldLink RX4 153 "ClaimBus$Transport" "lastHeard" "I") (List.mem_of_getElem? (i := 14) rfl)) (fun _ h9 => h9) rfl dX4_runTimers_94 ?_
  refine lv_isub hx hb dX4_runTimers_97 ?_
  refine lv_topi (fun x_7 ex_7 => ?_)
  obtain rfl : x_7 = (nI (tm - kl)) := ex_7.trans ((pk_sub (a := tm) (b := kl) (by omega)).trans (show nI (tm - kl) = nI (tm - kl) from congrArg nI (by omega)))
  refine lv_sipush (v := 750) hx hb dX4_runTimers_98 (by decide) ?_
  refine lv_icmp_lt (tgt := 109) hx hb dX4_runTimers_101 (by decide) (fun c_8 => ?_) (fun c_8 => ?_)
  rotate_left
  · exact absurd ((nI_ltI (a := (tm - kl)) (b := 750) (by omega) (by omega)).mpr (by omega)) c_8
  refine lv_iinc (v := 1) (lv' := [(2, .int 1), (3, .ref tq), (0, .ref nd), (1, .int (nI tm))]) hx hb dX4_runTimers_109 hl (k := 1) rfl (by decide) (by decide) rfl (fun ls hl => ?_)
  refine lv_goto (tgt := 62) hx hb dX4_runTimers_112 (by decide) ?_
  refine lv_iload_n hx hb dX4_runTimers_62 rfl (lv_at hl 0 rfl) ?_
  refine lv_aload_n hx hb dX4_runTimers_63 rfl (lv_at hl 2 rfl) ?_
  refine va_get (D := (dC, dI)) (ci := 5) (v := .ref cs) (C := RX4) (T := TX4) (N := 18) hx hb hts in_c_runTimers_0oc_X4 hown hK hP 0 rfl rfl 10 (by decide) (hts (.fieldLink RX4 41 "ClaimBus$Node" "collects" "Ljava/util/ArrayList;") (List.mem_of_getElem? (i := 4) rfl)) (fun _ h9 => h9) rfl dX4_runTimers_64 ?_
  have hPc := hP.sub (ws' := [(cs, .inr (0, [.int (nI cm), .ref ce_, .int (nI 1)]))]) [2] rfl
  have hDc := hD.sub (ws' := [(cs, .inr (0, [.int (nI cm), .ref ce_, .int (nI 1)]))]) [2] (by decide +kernel) rfl
  have hKc := hK.sub (tys' := []) [] rfl
  have hFc := ro_free hS hA
  refine va_calli (va_runV (As := []) (rest := [.int 1]) ⟨hx, hb, hml, hown, hts⟩ (c_AL_size l dC dI (cs) (cm) (ce_) (1) H.size) (cwV 0 hts g_c_runTimers_0oc_c_AL_size_96 rfl rfl rfl (by decide +kernel) ⟨Nat.le_of_ble_eq_true rfl, Nat.le_of_ble_eq_true rfl⟩) ⟨fun a U g mk q => by obtain ⟨q0, q1, qP, qK, qD, qE⟩ := q; exact ⟨q0, q1, qP, va_K.moved (u := U) (U := U.calling g mk a) (Vm.Alike.refl U.vm) qK, qD, ev.same (u := U) (U := U.calling g mk a) rfl qE⟩, va_recv hKc hPc (ci := 0) (q0 := 0) rfl rfl, fun U hU hW => ⟨rfl, by rw [hU], by rw [hU]; exact hPc, va_K.moved hW.alike hKc, hDc.weaken (fun _ _ _ _ => trivial), hE.warm hW⟩⟩ rfl rfl hl.1 rfl (lv_room (Nat.le_of_ble_eq_true rfl)) dX4_runTimers_67 ⟨Nat.le_of_ble_eq_true rfl, Nat.le_of_ble_eq_true rfl⟩) hS (fun q _ h => hFc q h) hFc (fun r_9 u t H1 locs ht hvm hw hB hz1 hk1 hS => ?_)
  clear hPc hDc hKc
  replace hP := ro_keep hP hk1
  generalize H1 = H at hP hS ⊢
  replace hP : va_P (dC, dI) vwCl [(nd, .inr (5, [.int nh, .int nl, .int nwa, .int nfr, .int (nI nwi), .ref r, .ref nt, .ref ns, .ref ib, .ref gs, .ref cs, .ref nu, .int 0, .int 2, .int (nI nad), .int (nI ncc), .int 0, .int 0])), (ns, .inr (7, [.int 0, .int snp, .int sdo, .null])), (cs, .inr (0, [.int (nI cm), .ref ce_, .int 1])), (ce_, .inl (cQ, 10, .inr (.inr (.inr (.inr fq))))), (tq, .inr (10, [.int 1, .int k1, .int k2, .int k3, .int k4, .int k5, .int k6, .int k7, .int (nI kl), .int k9, .int k10, .int k11, .ref kw, .ref kb])), (gs, .inl (cT, 3, .inr (.inr (.inr (.inr fg))))), (tr, .inr (10, [.int 0, .int j1, .int j2, .int j3, .int j4, .int j5, .int j6, .int j7, .int j8, .int j9, .int j10, .int j11, .ref jw, .ref jb]))] H := hP
  have hw := hw.symm
  subst hw
  rw [show ((nI 1) : Int32) = 1 from (congrArg nI (show 1 = 1 from by omega)).trans (by decide)]
  refine lv_icmp_ge (tgt := 115) hx hb dX4_runTimers_70 (by decide) (fun c_10 => ?_) (fun c_10 => ?_)
  rotate_left
  · exact absurd (by decide) c_10
  refine lv_aload_n hx hb dX4_runTimers_115 rfl (lv_at hl 2 rfl) ?_
  refine va_get (D := (dC, dI)) (ci := 5) (v := .ref gs) (C := RX4) (T := TX4) (N := 18) hx hb hts in_c_runTimers_0oc_X4 hown hK hP 0 rfl rfl 9 (by decide) (hts (.fieldLink RX4 34 "ClaimBus$Node" "gets" "[LClaimBus$Transport;") (List.mem_of_getElem? (i := 15) rfl)) (fun _ h9 => h9) rfl dX4_runTimers_116 ?_
  refine lv_astore_n (lv' := [(2, .ref gs), (3, .ref tq), (0, .ref nd), (1, .int (nI tm))]) hx hb dX4_runTimers_119 rfl hl (by decide) rfl (fun ls hl => ?_)
  refine lv_aload_n hx hb dX4_runTimers_120 rfl (lv_at hl 0 rfl) ?_
  refine va_alen hx hb hK hP 5 1 rfl rfl (v := 3) rfl dX4_runTimers_121 ?_
  refine lv_istore_n (lv' := [(3, .int 3), (2, .ref gs), (0, .ref nd), (1, .int (nI tm))]) hx hb dX4_runTimers_122 rfl hl (by decide) rfl (fun ls hl => ?_)
  refine lv_iconst (v := 0) hx hb dX4_runTimers_123 (by decide) ?_
  refine lv_istore (lv' := [(4, .int 0), (3, .int 3), (2, .ref gs), (0, .ref nd), (1, .int (nI tm))]) hx hb dX4_runTimers_124 hl (by decide) rfl (fun ls hl => ?_)
  refine lv_iload hx hb dX4_runTimers_126 (lv_at hl 0 rfl) ?_
  refine lv_iload_n hx hb dX4_runTimers_128 rfl (lv_at hl 1 rfl) ?_
  refine lv_icmp_ge (tgt := 177) hx hb dX4_runTimers_129 (by decide) (fun c_11 => ?_) (fun c_11 => ?_)
  · exact absurd c_11 (by decide)
  refine lv_aload_n hx hb dX4_runTimers_132 rfl (lv_at hl 2 rfl) ?_
  refine lv_iload hx hb dX4_runTimers_133 (lv_at hl 0 rfl) ?_
  refine va_aldq hx hb hK hP 5 1 rfl rfl (vp_in_nI (n := 0) (by omega) (by omega)) dX4_runTimers_135 ?_
  refine W.eq (g2 := F0 m 136 ls [.ref tr]) (by rw [(show Int32.toNatClampNeg (0 : Int32) = 0 by decide), g0]; rfl) ?_
  refine lv_astore (lv' := [(5, .ref tr), (4, .int 0), (3, .int 3), (2, .ref gs), (0, .ref nd), (1, .int (nI tm))]) hx hb dX4_runTimers_136 hl (by decide) rfl (fun ls hl => ?_)
  refine lv_aload hx hb dX4_runTimers_138 (lv_at hl 0 rfl) ?_
  refine lv_ifnull hx hb dX4_runTimers_140 ?_
  refine lv_aload hx hb dX4_runTimers_143 (lv_at hl 0 rfl) ?_
  refine va_get (D := (dC, dI)) (ci := 10) (v := .int 0) (C := RX9) (T := TX9) (N := 14) hx hb hts in_c_runTimers_0oc_X9 hown hK hP 6 rfl rfl 0 (by decide) (hts (.fieldLink RX4 93 "ClaimBus$Transport" "open" "Z") (List.mem_of_getElem? (i := 13) rfl)) (fun _ h9 => h9) rfl dX4_runTimers_145 ?_
  refine lv_if_eq (tgt := 171) hx hb dX4_runTimers_148 (by decide) (fun c_12 => ?_) (fun c_12 => ?_)
  rotate_left
  · exact absurd (by decide) c_12
  refine lv_iinc (v := 1) (lv' := [(4, .int 1), (5, .ref tr), (3, .int 3), (2, .ref gs), (0, .ref nd), (1, .int (nI tm))]) hx hb dX4_runTimers_171 hl (k := 1) rfl (by decide) (by decide) rfl (fun ls hl => ?_)
  refine lv_goto (tgt := 126) hx hb dX4_runTimers_174 (by decide) ?_
  refine lv_iload hx hb dX4_runTimers_126 (lv_at hl 0 rfl) ?_
  refine lv_iload_n hx hb dX4_runTimers_128 rfl (lv_at hl 2 rfl) ?_
  refine lv_icmp_ge (tgt := 177) hx hb dX4_runTimers_129 (by decide) (fun c_13 => ?_) (fun c_13 => ?_)
  · exact absurd c_13 (by decide)
  refine lv_aload_n hx hb dX4_runTimers_132 rfl (lv_at hl 3 rfl) ?_
  refine lv_iload hx hb dX4_runTimers_133 (lv_at hl 0 rfl) ?_
  refine va_aldq hx hb hK hP 5 1 rfl rfl (vp_in_nI (n := 1) (by omega) (by omega)) dX4_runTimers_135 ?_
  refine W.eq (g2 := F0 m 136 ls [.null]) (by rw [(show Int32.toNatClampNeg (1 : Int32) = 1 by decide), g1]; rfl) ?_
  refine lv_astoreN (lv' := [(5, .null), (4, .int 1), (3, .int 3), (2, .ref gs), (0, .ref nd), (1, .int (nI tm))]) hx hb dX4_runTimers_136 hl (by decide) rfl (fun ls hl => ?_)
  refine lv_aloadN hx hb dX4_runTimers_138 (lv_at hl 0 rfl) ?_
  refine lv_ifnullN (tgt := 171) hx hb dX4_runTimers_140 (by decide) ?_
  refine lv_iinc (v := 2) (lv' := [(4, .int 2), (5, .null), (3, .int 3), (2, .ref gs), (0, .ref nd), (1, .int (nI tm))]) hx hb dX4_runTimers_171 hl (k := 1) rfl (by decide) (by decide) rfl (fun ls hl => ?_)
  refine lv_goto (tgt := 126) hx hb dX4_runTimers_174 (by decide) ?_
  refine lv_iload hx hb dX4_runTimers_126 (lv_at hl 0 rfl) ?_
  refine lv_iload_n hx hb dX4_runTimers_128 rfl (lv_at hl 2 rfl) ?_
  refine lv_icmp_ge (tgt := 177) hx hb dX4_runTimers_129 (by decide) (fun c_14 => ?_) (fun c_14 => ?_)
  · exact absurd c_14 (by decide)
  refine lv_aload_n hx hb dX4_runTimers_132 rfl (lv_at hl 3 rfl) ?_
  refine lv_iload hx hb dX4_runTimers_133 (lv_at hl 0 rfl) ?_
  refine va_aldq hx hb hK hP 5 1 rfl rfl (vp_in_nI (n := 2) (by omega) (by omega)) dX4_runTimers_135 ?_
  refine W.eq (g2 := F0 m 136 ls [.null]) (by rw [(show Int32.toNatClampNeg (2 : Int32) = 2 by decide), g2]; rfl) ?_
  refine lv_astoreN (lv' := [(5, .null), (4, .int 2), (3, .int 3), (2, .ref gs), (0, .ref nd), (1, .int (nI tm))]) hx hb dX4_runTimers_136 hl (by decide) rfl (fun ls hl => ?_)
  refine lv_aloadN hx hb dX4_runTimers_138 (lv_at hl 0 rfl) ?_
  refine lv_ifnullN (tgt := 171) hx hb dX4_runTimers_140 (by decide) ?_
  refine lv_iinc (v := 3) (lv' := [(4, .int 3), (5, .null), (3, .int 3), (2, .ref gs), (0, .ref nd), (1, .int (nI tm))]) hx hb dX4_runTimers_171 hl (k := 1) rfl (by decide) (by decide) rfl (fun ls hl => ?_)
  refine lv_goto (tgt := 126) hx hb dX4_runTimers_174 (by decide) ?_
  refine lv_iload hx hb dX4_runTimers_126 (lv_at hl 0 rfl) ?_
  refine lv_iload_n hx hb dX4_runTimers_128 rfl (lv_at hl 2 rfl) ?_
  refine lv_icmp_ge (tgt := 177) hx hb dX4_runTimers_129 (by decide) (fun c_15 => ?_) (fun c_15 => ?_)
  rotate_left
  · exact absurd (by decide) c_15
  exact W.vret hx hb hr (fun t ht hW => ⟨⟨(), rfl, trivial, trivial⟩, hS.F ht⟩) hS.2.2 dX4_runTimers_177

noncomputable def tl_c_runTimers_w : List Cond := wsX40 ++ (wsX60 ++ (v_c_AL_size))
noncomputable def v_c_runTimers_w : List Cond := .code yX4_runTimers cX4_runTimers 6 none :: ([.fieldLink RX4 53 "ClaimBus$Node" "state" "I", .fieldLink RX4 56 "ClaimBus$Node" "claimCarriedAt" "I", .fieldLink RX4 21 "ClaimBus$Node" "sending" "LClaimBus$Sending;", .fieldLink RX4 121 "ClaimBus$Sending" "state" "I", .fieldLink RX4 41 "ClaimBus$Node" "collects" "Ljava/util/ArrayList;", .initialized RJx4a65c, .methodLink RX4 96 yJx4a65c_size_8abf5, .instanceMethod yJx4a65c_size_8abf5, .selects RJx4a65c yJx4a65c_size_8abf5 yJx4a65c_size_8abf5, .fieldLink RX4 34 "ClaimBus$Node" "gets" "[LClaimBus$Transport;"] ++ tl_c_runTimers_w)
theorem it_c_runTimers_w : ∀ w ∈ tl_c_runTimers_w, w ∈ v_c_runTimers_w := fun w h => List.mem_cons_of_mem _ (List.mem_append_right _ h)
theorem in_c_runTimers_w_X4 : ∀ w ∈ wsX40, w ∈ v_c_runTimers_w := fun w h => it_c_runTimers_w w (List.mem_append_left _ h)
theorem in_c_runTimers_w_X6 : ∀ w ∈ wsX60, w ∈ v_c_runTimers_w := fun w h => it_c_runTimers_w w (List.mem_append_right _ (List.mem_append_left _ h))
theorem ic_c_runTimers_w_c_AL_size : ∀ w ∈ v_c_AL_size, w ∈ v_c_runTimers_w := fun w h => it_c_runTimers_w w (List.mem_append_right _ (List.mem_append_right _ (h)))
theorem gt_c_runTimers_w : ∀ w ∈ tl_c_runTimers_w, goodWord w = true := List.forall_mem_append.mpr ⟨gw_wsX40, List.forall_mem_append.mpr ⟨gw_wsX60, gw_c_AL_size⟩⟩
theorem gw_c_runTimers_w : ∀ w ∈ v_c_runTimers_w, goodWord w = true := List.forall_mem_cons.mpr ⟨by decide +kernel, List.forall_mem_append.mpr ⟨List.all_eq_true.mp (by decide +kernel), gt_c_runTimers_w⟩⟩
theorem g_c_runTimers_w_c_AL_size_96 : GoodIn v_c_runTimers_w (wsV RX4 96 RJx4a65c yJx4a65c_size_8abf5 v_c_AL_size) := goodIn_app (goodIn_r [.methodLink RX4 96 yJx4a65c_size_8abf5, .instanceMethod yJx4a65c_size_8abf5, .selects RJx4a65c yJx4a65c_size_8abf5 yJx4a65c_size_8abf5, .initialized RJx4a65c] [7, 8, 9, 6] (by decide +kernel) (by decide +kernel)) (fun w h => ⟨ic_c_runTimers_w_c_AL_size w h, good_of_word (gw_c_AL_size w h)⟩)
set_option maxHeartbeats 4000000 in
set_option maxRecDepth 100000 in
theorem c_runTimers_w (l : Launch) (dC : Nat → ClassId) (dI : Nat → Nat → Nat) (nd : Nat) (nh : Int32) (nl : Int32) (nwa : Int32) (nfr : Int32) (nwi : Nat) (r : Nat) (nt : Nat) (ns : Nat) (ib : Nat) (gs : Nat) (cs : Nat) (nu : Nat) (nad : Nat) (snp : Int32) (sdo : Int32) (cm : Nat) (ce_ : Nat) (cT : ClassId) (fg : Nat → Option Nat) (tm : Nat) (sz : Nat) (g0 : fg 0 = none) (g1 : fg 1 = none) (g2 : fg 2 = none) (htm : tm < 300000) : Met l yX4_runTimers v_c_runTimers_w ({ frames := 1, cells := 0, slots := 0, locals := 20 }) (va_Pc [.ref nd, .int (nI tm)] (fun U => U.heap.size = sz ∧ va_P (dC, dI) vwCl [(nd, .inr (5, [.int nh, .int nl, .int nwa, .int nfr, .int (nI nwi), .ref r, .ref nt, .ref ns, .ref ib, .ref gs, .ref cs, .ref nu, .int 0, .int 1, .int (nI nad), .int (-1), .int 0, .int 0])), (ns, .inr (7, [.int 0, .int snp, .int sdo, .null])), (cs, .inr (0, [.int (nI cm), .ref ce_, .int 0])), (gs, .inl (cT, 3, .inr (.inr (.inr (.inr fg)))))] U.heap ∧ va_K (dC, dI) vwCl [(cT, (.object RX9))] U ∧ va_D (fun _ => True) [(nd, .inr (5, [.int nh, .int nl, .int nwa, .int nfr, .int (nI nwi), .ref r, .ref nt, .ref ns, .ref ib, .ref gs, .ref cs, .ref nu, .int 0, .int 1, .int (nI nad), .int (-1), .int 0, .int 0])), (ns, .inr (7, [.int 0, .int snp, .int sdo, .null])), (cs, .inr (0, [.int (nI cm), .ref ce_, .int 0])), (gs, .inl (cT, 3, .inr (.inr (.inr (.inr fg)))))] ∧ ev U)) (va_Qv (fun _ : Unit => True) (fun (_ : Unit) (_ : State) => True) (va_A [] sz)) 0 0 (va_A [] sz) := by
  refine Met.ofW (cc := cX4_runTimers) (maxL := 6) (ret := none) (by decide) rfl ?_
  intro p e s m args below meth c s₁ B hml hv
  obtain ⟨rfl, hsz, hP, hK, hD0, hE⟩ := hv
  have hx := B.exec
  have hb := B.bytes
  have hr := B.returns
  have hts := atoms_spec (ws := v_c_runTimers_w) B.pre
  have hown : s.vm.findClass RX4 = some m.cls := findClass_of_methodNamed B.named
  have hlocks := B.notSynchronized
  subst hsz
  have hD := hD0
  generalize hAe : va_A [] s.heap.size = A
  have hA : ∀ q : Nat, s.heap.size ≤ q → A q := fun q h => by rw [← hAe]; exact Or.inr h
  have hS : va_S A s.heap s.heap [] := va_S.rf
  replace hP : va_P (dC, dI) vwCl [(nd, .inr (5, [.int nh, .int nl, .int nwa, .int nfr, .int (nI nwi), .ref r, .ref nt, .ref ns, .ref ib, .ref gs, .ref cs, .ref nu, .int 0, .int 1, .int (nI nad), .int (-1), .int 0, .int 0])), (ns, .inr (7, [.int 0, .int snp, .int sdo, .null])), (cs, .inr (0, [.int (nI cm), .ref ce_, .int 0])), (gs, .inl (cT, 3, .inr (.inr (.inr (.inr fg)))))] s.heap := hP
  have hl := lv_entry ([.ref nd, .int (nI tm)]) (n := 6) (Nat.le_of_ble_eq_true rfl)
  rw [lg_entry_eq]
  generalize (lg_sl ([.ref nd, .int (nI tm)]) ++ List.replicate (6 - (lg_sl ([.ref nd, .int (nI tm)])).length) Slot.unset).toArray = ls at hl ⊢
  replace hl : lv_has ls 6 [(0, .ref nd), (1, .int (nI tm))] := hl
  obtain ⟨H, hH⟩ : ∃ z : Heap, z = s.heap := ⟨_, rfl⟩
  rw [← hH]
  replace hS : va_S A s.heap H [] := by rw [hH]; exact va_S.rf
  replace hP : va_P (dC, dI) vwCl [(nd, .inr (5, [.int nh, .int nl, .int nwa, .int nfr, .int (nI nwi), .ref r, .ref nt, .ref ns, .ref ib, .ref gs, .ref cs, .ref nu, .int 0, .int 1, .int (nI nad), .int (-1), .int 0, .int 0])), (ns, .inr (7, [.int 0, .int snp, .int sdo, .null])), (cs, .inr (0, [.int (nI cm), .ref ce_, .int 0])), (gs, .inl (cT, 3, .inr (.inr (.inr (.inr fg)))))] H := by rw [hH]; exact hP
  clear hH
  refine lv_aload_n hx hb dX4_runTimers_0 rfl (lv_at hl 0 rfl) ?_
  refine va_get (D := (dC, dI)) (ci := 5) (v := .int 1) (C := RX4) (T := TX4) (N := 18) hx hb hts in_c_runTimers_w_X4 hown hK hP 0 rfl rfl 13 (by decide) (hts (.fieldLink RX4 53 "ClaimBus$Node" "state" "I") (List.mem_of_getElem? (i := 1) rfl)) (fun _ h9 => h9) rfl dX4_runTimers_1 ?_
  refine lv_iconst (v := 1) hx hb dX4_runTimers_4 (by decide) ?_
  refine lv_icmp_ne (tgt := 33) hx hb dX4_runTimers_5 (by decide) (fun c_1 => ?_) (fun c_1 => ?_)
  · exact absurd c_1 (by decide)
  refine lv_aload_n hx hb dX4_runTimers_8 rfl (lv_at hl 0 rfl) ?_
  refine va_get (D := (dC, dI)) (ci := 5) (v := .int (-1)) (C := RX4) (T := TX4) (N := 18) hx hb hts in_c_runTimers_w_X4 hown hK hP 0 rfl rfl 15 (by decide) (hts (.fieldLink RX4 56 "ClaimBus$Node" "claimCarriedAt" "I") (List.mem_of_getElem? (i := 2) rfl)) (fun _ h9 => h9) rfl dX4_runTimers_9 ?_
  refine lv_iconst (v := -1) hx hb dX4_runTimers_12 (by decide) ?_
  refine lv_icmp_eq (tgt := 33) hx hb dX4_runTimers_13 (by decide) (fun c_2 => ?_) (fun c_2 => ?_)
  rotate_left
  · exact absurd (by decide) c_2
  refine lv_aload_n hx hb dX4_runTimers_33 rfl (lv_at hl 0 rfl) ?_
  refine va_get (D := (dC, dI)) (ci := 5) (v := .ref ns) (C := RX4) (T := TX4) (N := 18) hx hb hts in_c_runTimers_w_X4 hown hK hP 0 rfl rfl 7 (by decide) (hts (.fieldLink RX4 21 "ClaimBus$Node" "sending" "LClaimBus$Sending;") (List.mem_of_getElem? (i := 3) rfl)) (fun _ h9 => h9) rfl dX4_runTimers_34 ?_
  refine va_get (D := (dC, dI)) (ci := 7) (v := .int 0) (C := RX6) (T := TX6) (N := 4) hx hb hts in_c_runTimers_w_X6 hown hK hP 1 rfl rfl 0 (by decide) (hts (.fieldLink RX4 121 "ClaimBus$Sending" "state" "I") (List.mem_of_getElem? (i := 4) rfl)) (fun _ h9 => h9) rfl dX4_runTimers_37 ?_
  refine lv_iconst (v := 1) hx hb dX4_runTimers_40 (by decide) ?_
  refine lv_icmp_ne (tgt := 60) hx hb dX4_runTimers_41 (by decide) (fun c_3 => ?_) (fun c_3 => ?_)
  rotate_left
  · exact absurd c_3 (by decide)
  refine lv_iconst (v := 0) hx hb dX4_runTimers_60 (by decide) ?_
  refine lv_istore_n (lv' := [(2, .int 0), (0, .ref nd), (1, .int (nI tm))]) hx hb dX4_runTimers_61 rfl hl (by decide) rfl (fun ls hl => ?_)
  refine lv_iload_n hx hb dX4_runTimers_62 rfl (lv_at hl 0 rfl) ?_
  refine lv_aload_n hx hb dX4_runTimers_63 rfl (lv_at hl 1 rfl) ?_
  refine va_get (D := (dC, dI)) (ci := 5) (v := .ref cs) (C := RX4) (T := TX4) (N := 18) hx hb hts in_c_runTimers_w_X4 hown hK hP 0 rfl rfl 10 (by decide) (hts (.fieldLink RX4 41 "ClaimBus$Node" "collects" "Ljava/util/ArrayList;") (List.mem_of_getElem? (i := 5) rfl)) (fun _ h9 => h9) rfl dX4_runTimers_64 ?_
  have hPc := hP.sub (ws' := [(cs, .inr (0, [.int (nI cm), .ref ce_, .int (nI 0)]))]) [2] rfl
  have hDc := hD.sub (ws' := [(cs, .inr (0, [.int (nI cm), .ref ce_, .int (nI 0)]))]) [2] (by decide +kernel) rfl
  have hKc := hK.sub (tys' := []) [] rfl
  have hFc := ro_free hS hA
  refine va_calli (va_runV (As := []) (rest := [.int 0]) ⟨hx, hb, hml, hown, hts⟩ (c_AL_size l dC dI (cs) (cm) (ce_) (0) H.size) (cwV 0 hts g_c_runTimers_w_c_AL_size_96 rfl rfl rfl (by decide +kernel) ⟨Nat.le_of_ble_eq_true rfl, Nat.le_of_ble_eq_true rfl⟩) ⟨fun a U g mk q => by obtain ⟨q0, q1, qP, qK, qD, qE⟩ := q; exact ⟨q0, q1, qP, va_K.moved (u := U) (U := U.calling g mk a) (Vm.Alike.refl U.vm) qK, qD, ev.same (u := U) (U := U.calling g mk a) rfl qE⟩, va_recv hKc hPc (ci := 0) (q0 := 0) rfl rfl, fun U hU hW => ⟨rfl, by rw [hU], by rw [hU]; exact hPc, va_K.moved hW.alike hKc, hDc.weaken (fun _ _ _ _ => trivial), hE.warm hW⟩⟩ rfl rfl hl.1 rfl (lv_room (Nat.le_of_ble_eq_true rfl)) dX4_runTimers_67 ⟨Nat.le_of_ble_eq_true rfl, Nat.le_of_ble_eq_true rfl⟩) hS (fun q _ h => hFc q h) hFc (fun r_4 u t H1 locs ht hvm hw hB hz1 hk1 hS => ?_)
  clear hPc hDc hKc
  replace hP := ro_keep hP hk1
  generalize H1 = H at hP hS ⊢
  replace hP : va_P (dC, dI) vwCl [(nd, .inr (5, [.int nh, .int nl, .int nwa, .int nfr, .int (nI nwi), .ref r, .ref nt, .ref ns, .ref ib, .ref gs, .ref cs, .ref nu, .int 0, .int 1, .int (nI nad), .int (-1), .int 0, .int 0])), (ns, .inr (7, [.int 0, .int snp, .int sdo, .null])), (cs, .inr (0, [.int (nI cm), .ref ce_, .int 0])), (gs, .inl (cT, 3, .inr (.inr (.inr (.inr fg)))))] H := hP
  have hw := hw.symm
  subst hw
  rw [show ((nI 0) : Int32) = 0 from (congrArg nI (show 0 = 0 from by omega)).trans (by decide)]
  refine lv_icmp_ge (tgt := 115) hx hb dX4_runTimers_70 (by decide) (fun c_5 => ?_) (fun c_5 => ?_)
  rotate_left
  · exact absurd (by decide) c_5
  refine lv_aload_n hx hb dX4_runTimers_115 rfl (lv_at hl 1 rfl) ?_
  refine va_get (D := (dC, dI)) (ci := 5) (v := .ref gs) (C := RX4) (T := TX4) (N := 18) hx hb hts in_c_runTimers_w_X4 hown hK hP 0 rfl rfl 9 (by decide) (hts (.fieldLink RX4 34 "ClaimBus$Node" "gets" "[LClaimBus$Transport;") (List.mem_of_getElem? (i := 10) rfl)) (fun _ h9 => h9) rfl dX4_runTimers_116 ?_
  refine lv_astore_n (lv' := [(2, .ref gs), (0, .ref nd), (1, .int (nI tm))]) hx hb dX4_runTimers_119 rfl hl (by decide) rfl (fun ls hl => ?_)
  refine lv_aload_n hx hb dX4_runTimers_120 rfl (lv_at hl 0 rfl) ?_
  refine va_alen hx hb hK hP 3 0 rfl rfl (v := 3) rfl dX4_runTimers_121 ?_
  refine lv_istore_n (lv' := [(3, .int 3), (2, .ref gs), (0, .ref nd), (1, .int (nI tm))]) hx hb dX4_runTimers_122 rfl hl (by decide) rfl (fun ls hl => ?_)
  refine lv_iconst (v := 0) hx hb dX4_runTimers_123 (by decide) ?_
  refine lv_istore (lv' := [(4, .int 0), (3, .int 3), (2, .ref gs), (0, .ref nd), (1, .int (nI tm))]) hx hb dX4_runTimers_124 hl (by decide) rfl (fun ls hl => ?_)
  refine lv_iload hx hb dX4_runTimers_126 (lv_at hl 0 rfl) ?_
  refine lv_iload_n hx hb dX4_runTimers_128 rfl (lv_at hl 1 rfl) ?_
  refine lv_icmp_ge (tgt := 177) hx hb dX4_runTimers_129 (by decide) (fun c_6 => ?_) (fun c_6 => ?_)
  · exact absurd c_6 (by decide)
  refine lv_aload_n hx hb dX4_runTimers_132 rfl (lv_at hl 2 rfl) ?_
  refine lv_iload hx hb dX4_runTimers_133 (lv_at hl 0 rfl) ?_
  refine va_aldq hx hb hK hP 3 0 rfl rfl (vp_in_nI (n := 0) (by omega) (by omega)) dX4_runTimers_135 ?_
  refine W.eq (g2 := F0 m 136 ls [.null]) (by rw [(show Int32.toNatClampNeg (0 : Int32) = 0 by decide), g0]; rfl) ?_
  refine lv_astoreN (lv' := [(5, .null), (4, .int 0), (3, .int 3), (2, .ref gs), (0, .ref nd), (1, .int (nI tm))]) hx hb dX4_runTimers_136 hl (by decide) rfl (fun ls hl => ?_)
  refine lv_aloadN hx hb dX4_runTimers_138 (lv_at hl 0 rfl) ?_
  refine lv_ifnullN (tgt := 171) hx hb dX4_runTimers_140 (by decide) ?_
  refine lv_iinc (v := 1) (lv' := [(4, .int 1), (5, .null), (3, .int 3), (2, .ref gs), (0, .ref nd), (1, .int (nI tm))]) hx hb dX4_runTimers_171 hl (k := 1) rfl (by decide) (by decide) rfl (fun ls hl => ?_)
  refine lv_goto (tgt := 126) hx hb dX4_runTimers_174 (by decide) ?_
  refine lv_iload hx hb dX4_runTimers_126 (lv_at hl 0 rfl) ?_
  refine lv_iload_n hx hb dX4_runTimers_128 rfl (lv_at hl 2 rfl) ?_
  refine lv_icmp_ge (tgt := 177) hx hb dX4_runTimers_129 (by decide) (fun c_7 => ?_) (fun c_7 => ?_)
  · exact absurd c_7 (by decide)
  refine lv_aload_n hx hb dX4_runTimers_132 rfl (lv_at hl 3 rfl) ?_
  refine lv_iload hx hb dX4_runTimers_133 (lv_at hl 0 rfl) ?_
  refine va_aldq hx hb hK hP 3 0 rfl rfl (vp_in_nI (n := 1) (by omega) (by omega)) dX4_runTimers_135 ?_
  refine W.eq (g2 := F0 m 136 ls [.null]) (by rw [(show Int32.toNatClampNeg (1 : Int32) = 1 by decide), g1]; rfl) ?_
  refine lv_astoreN (lv' := [(5, .null), (4, .int 1), (3, .int 3), (2, .ref gs), (0, .ref nd), (1, .int (nI tm))]) hx hb dX4_runTimers_136 hl (by decide) rfl (fun ls hl => ?_)
  refine lv_aloadN hx hb dX4_runTimers_138 (lv_at hl 0 rfl) ?_
  refine lv_ifnullN (tgt := 171) hx hb dX4_runTimers_140 (by decide) ?_
  refine lv_iinc (v := 2) (lv' := [(4, .int 2), (5, .null), (3, .int 3), (2, .ref gs), (0, .ref nd), (1, .int (nI tm))]) hx hb dX4_runTimers_171 hl (k := 1) rfl (by decide) (by decide) rfl (fun ls hl => ?_)
  refine lv_goto (tgt := 126) hx hb dX4_runTimers_174 (by decide) ?_
  refine lv_iload hx hb dX4_runTimers_126 (lv_at hl 0 rfl) ?_
  refine lv_iload_n hx hb dX4_runTimers_128 rfl (lv_at hl 2 rfl) ?_
  refine lv_icmp_ge (tgt := 177) hx hb dX4_runTimers_129 (by decide) (fun c_8 => ?_) (fun c_8 => ?_)
  · exact absurd c_8 (by decide)
  refine lv_aload_n hx hb dX4_runTimers_132 rfl (lv_at hl 3 rfl) ?_
  refine lv_iload hx hb dX4_runTimers_133 (lv_at hl 0 rfl) ?_
  refine va_aldq hx hb hK hP 3 0 rfl rfl (vp_in_nI (n := 2) (by omega) (by omega)) dX4_runTimers_135 ?_
  refine W.eq (g2 := F0 m 136 ls [.null]) (by rw [(show Int32.toNatClampNeg (2 : Int32) = 2 by decide), g2]; rfl) ?_
  refine lv_astoreN (lv' := [(5, .null), (4, .int 2), (3, .int 3), (2, .ref gs), (0, .ref nd), (1, .int (nI tm))]) hx hb dX4_runTimers_136 hl (by decide) rfl (fun ls hl => ?_)
  refine lv_aloadN hx hb dX4_runTimers_138 (lv_at hl 0 rfl) ?_
  refine lv_ifnullN (tgt := 171) hx hb dX4_runTimers_140 (by decide) ?_
  refine lv_iinc (v := 3) (lv' := [(4, .int 3), (5, .null), (3, .int 3), (2, .ref gs), (0, .ref nd), (1, .int (nI tm))]) hx hb dX4_runTimers_171 hl (k := 1) rfl (by decide) (by decide) rfl (fun ls hl => ?_)
  refine lv_goto (tgt := 126) hx hb dX4_runTimers_174 (by decide) ?_
  refine lv_iload hx hb dX4_runTimers_126 (lv_at hl 0 rfl) ?_
  refine lv_iload_n hx hb dX4_runTimers_128 rfl (lv_at hl 2 rfl) ?_
  refine lv_icmp_ge (tgt := 177) hx hb dX4_runTimers_129 (by decide) (fun c_9 => ?_) (fun c_9 => ?_)
  rotate_left
  · exact absurd (by decide) c_9
  exact W.vret hx hb hr (fun t ht hW => ⟨⟨(), rfl, trivial, trivial⟩, hS.F ht⟩) hS.2.2 dX4_runTimers_177

noncomputable def tl_c_runTimers_c : List Cond := wsX40 ++ (wsX60 ++ (v_c_AL_size))
noncomputable def v_c_runTimers_c : List Cond := .code yX4_runTimers cX4_runTimers 6 none :: ([.fieldLink RX4 53 "ClaimBus$Node" "state" "I", .fieldLink RX4 56 "ClaimBus$Node" "claimCarriedAt" "I", .fieldLink RX4 21 "ClaimBus$Node" "sending" "LClaimBus$Sending;", .fieldLink RX4 121 "ClaimBus$Sending" "state" "I", .fieldLink RX4 41 "ClaimBus$Node" "collects" "Ljava/util/ArrayList;", .initialized RJx4a65c, .methodLink RX4 96 yJx4a65c_size_8abf5, .instanceMethod yJx4a65c_size_8abf5, .selects RJx4a65c yJx4a65c_size_8abf5 yJx4a65c_size_8abf5, .fieldLink RX4 34 "ClaimBus$Node" "gets" "[LClaimBus$Transport;"] ++ tl_c_runTimers_c)
theorem it_c_runTimers_c : ∀ w ∈ tl_c_runTimers_c, w ∈ v_c_runTimers_c := fun w h => List.mem_cons_of_mem _ (List.mem_append_right _ h)
theorem in_c_runTimers_c_X4 : ∀ w ∈ wsX40, w ∈ v_c_runTimers_c := fun w h => it_c_runTimers_c w (List.mem_append_left _ h)
theorem in_c_runTimers_c_X6 : ∀ w ∈ wsX60, w ∈ v_c_runTimers_c := fun w h => it_c_runTimers_c w (List.mem_append_right _ (List.mem_append_left _ h))
theorem ic_c_runTimers_c_c_AL_size : ∀ w ∈ v_c_AL_size, w ∈ v_c_runTimers_c := fun w h => it_c_runTimers_c w (List.mem_append_right _ (List.mem_append_right _ (h)))
theorem gt_c_runTimers_c : ∀ w ∈ tl_c_runTimers_c, goodWord w = true := List.forall_mem_append.mpr ⟨gw_wsX40, List.forall_mem_append.mpr ⟨gw_wsX60, gw_c_AL_size⟩⟩
theorem gw_c_runTimers_c : ∀ w ∈ v_c_runTimers_c, goodWord w = true := List.forall_mem_cons.mpr ⟨by decide +kernel, List.forall_mem_append.mpr ⟨List.all_eq_true.mp (by decide +kernel), gt_c_runTimers_c⟩⟩
theorem g_c_runTimers_c_c_AL_size_96 : GoodIn v_c_runTimers_c (wsV RX4 96 RJx4a65c yJx4a65c_size_8abf5 v_c_AL_size) := goodIn_app (goodIn_r [.methodLink RX4 96 yJx4a65c_size_8abf5, .instanceMethod yJx4a65c_size_8abf5, .selects RJx4a65c yJx4a65c_size_8abf5 yJx4a65c_size_8abf5, .initialized RJx4a65c] [7, 8, 9, 6] (by decide +kernel) (by decide +kernel)) (fun w h => ⟨ic_c_runTimers_c_c_AL_size w h, good_of_word (gw_c_AL_size w h)⟩)
set_option maxHeartbeats 4000000 in
set_option maxRecDepth 100000 in
theorem c_runTimers_c (l : Launch) (dC : Nat → ClassId) (dI : Nat → Nat → Nat) (nd : Nat) (nh : Int32) (nl : Int32) (nwa : Int32) (nfr : Int32) (nwi : Nat) (r : Nat) (nt : Nat) (ns : Nat) (ib : Nat) (gs : Nat) (cs : Nat) (nu : Nat) (nad : Nat) (ncc : Nat) (snp : Int32) (sdo : Int32) (cm : Nat) (ce_ : Nat) (cT : ClassId) (fg : Nat → Option Nat) (tm : Nat) (sz : Nat) (g0 : fg 0 = none) (g1 : fg 1 = none) (g2 : fg 2 = none) (htm : tm < 300000) (hcc : ncc ≤ tm ∧ tm < ncc + 250) : Met l yX4_runTimers v_c_runTimers_c ({ frames := 1, cells := 0, slots := 0, locals := 20 }) (va_Pc [.ref nd, .int (nI tm)] (fun U => U.heap.size = sz ∧ va_P (dC, dI) vwCl [(nd, .inr (5, [.int nh, .int nl, .int nwa, .int nfr, .int (nI nwi), .ref r, .ref nt, .ref ns, .ref ib, .ref gs, .ref cs, .ref nu, .int 0, .int 1, .int (nI nad), .int (nI ncc), .int 0, .int 0])), (ns, .inr (7, [.int 0, .int snp, .int sdo, .null])), (cs, .inr (0, [.int (nI cm), .ref ce_, .int 0])), (gs, .inl (cT, 3, .inr (.inr (.inr (.inr fg)))))] U.heap ∧ va_K (dC, dI) vwCl [(cT, (.object RX9))] U ∧ va_D (fun _ => True) [(nd, .inr (5, [.int nh, .int nl, .int nwa, .int nfr, .int (nI nwi), .ref r, .ref nt, .ref ns, .ref ib, .ref gs, .ref cs, .ref nu, .int 0, .int 1, .int (nI nad), .int (nI ncc), .int 0, .int 0])), (ns, .inr (7, [.int 0, .int snp, .int sdo, .null])), (cs, .inr (0, [.int (nI cm), .ref ce_, .int 0])), (gs, .inl (cT, 3, .inr (.inr (.inr (.inr fg)))))] ∧ ev U)) (va_Qv (fun _ : Unit => True) (fun (_ : Unit) (_ : State) => True) (va_A [] sz)) 0 0 (va_A [] sz) := by
  refine Met.ofW (cc := cX4_runTimers) (maxL := 6) (ret := none) (by decide) rfl ?_
  intro p e s m args below meth c s₁ B hml hv
  obtain ⟨rfl, hsz, hP, hK, hD0, hE⟩ := hv
  have hx := B.exec
  have hb := B.bytes
  have hr := B.returns
  have hts := atoms_spec (ws := v_c_runTimers_c) B.pre
  have hown : s.vm.findClass RX4 = some m.cls := findClass_of_methodNamed B.named
  have hlocks := B.notSynchronized
  subst hsz
  have hD := hD0
  generalize hAe : va_A [] s.heap.size = A
  have hA : ∀ q : Nat, s.heap.size ≤ q → A q := fun q h => by rw [← hAe]; exact Or.inr h
  have hS : va_S A s.heap s.heap [] := va_S.rf
  replace hP : va_P (dC, dI) vwCl [(nd, .inr (5, [.int nh, .int nl, .int nwa, .int nfr, .int (nI nwi), .ref r, .ref nt, .ref ns, .ref ib, .ref gs, .ref cs, .ref nu, .int 0, .int 1, .int (nI nad), .int (nI ncc), .int 0, .int 0])), (ns, .inr (7, [.int 0, .int snp, .int sdo, .null])), (cs, .inr (0, [.int (nI cm), .ref ce_, .int 0])), (gs, .inl (cT, 3, .inr (.inr (.inr (.inr fg)))))] s.heap := hP
  have hl := lv_entry ([.ref nd, .int (nI tm)]) (n := 6) (Nat.le_of_ble_eq_true rfl)
  rw [lg_entry_eq]
  generalize (lg_sl ([.ref nd, .int (nI tm)]) ++ List.replicate (6 - (lg_sl ([.ref nd, .int (nI tm)])).length) Slot.unset).toArray = ls at hl ⊢
  replace hl : lv_has ls 6 [(0, .ref nd), (1, .int (nI tm))] := hl
  obtain ⟨H, hH⟩ : ∃ z : Heap, z = s.heap := ⟨_, rfl⟩
  rw [← hH]
  replace hS : va_S A s.heap H [] := by rw [hH]; exact va_S.rf
  replace hP : va_P (dC, dI) vwCl [(nd, .inr (5, [.int nh, .int nl, .int nwa, .int nfr, .int (nI nwi), .ref r, .ref nt, .ref ns, .ref ib, .ref gs, .ref cs, .ref nu, .int 0, .int 1, .int (nI nad), .int (nI ncc), .int 0, .int 0])), (ns, .inr (7, [.int 0, .int snp, .int sdo, .null])), (cs, .inr (0, [.int (nI cm), .ref ce_, .int 0])), (gs, .inl (cT, 3, .inr (.inr (.inr (.inr fg)))))] H := by rw [hH]; exact hP
  clear hH
  refine lv_aload_n hx hb dX4_runTimers_0 rfl (lv_at hl 0 rfl) ?_
  refine va_get (D := (dC, dI)) (ci := 5) (v := .int 1) (C := RX4) (T := TX4) (N := 18) hx hb hts in_c_runTimers_c_X4 hown hK hP 0 rfl rfl 13 (by decide) (hts (.fieldLink RX4 53 "ClaimBus$Node" "state" "I") (List.mem_of_getElem? (i := 1) rfl)) (fun _ h9 => h9) rfl dX4_runTimers_1 ?_
  refine lv_iconst (v := 1) hx hb dX4_runTimers_4 (by decide) ?_
  refine lv_icmp_ne (tgt := 33) hx hb dX4_runTimers_5 (by decide) (fun c_1 => ?_) (fun c_1 => ?_)
  · exact absurd c_1 (by decide)
  refine lv_aload_n hx hb dX4_runTimers_8 rfl (lv_at hl 0 rfl) ?_
  refine va_get (D := (dC, dI)) (ci := 5) (v := .int (nI ncc)) (C := RX4) (T := TX4) (N := 18) hx hb hts in_c_runTimers_c_X4 hown hK hP 0 rfl rfl 15 (by decide) (hts (.fieldLink RX4 56 "ClaimBus$Node" "claimCarriedAt" "I") (List.mem_of_getElem? (i := 2) rfl)) (fun _ h9 => h9) rfl dX4_runTimers_9 ?_
  refine lv_iconst (v := -1) hx hb dX4_runTimers_12 (by decide) ?_
  refine lv_icmp_eq (tgt := 33) hx hb dX4_runTimers_13 (by decide) (fun c_2 => ?_) (fun c_2 => ?_)
  · exact absurd c_2 (q_nm1 (n := ncc) (by omega))
  refine lv_iload_n hx hb dX4_runTimers_16 rfl (lv_at hl 1 rfl) ?_
  refine lv_aload_n hx hb dX4_runTimers_17 rfl (lv_at hl 0 rfl) ?_
  refine va_get (D := (dC, dI)) (ci := 5) (v := .int (nI ncc)) (C := RX4) (T := TX4) (N := 18) hx hb hts in_c_runTimers_c_X4 hown hK hP 0 rfl rfl 15 (by decide) (hts (.fieldLink RX4 56 "ClaimBus$Node" "claimCarriedAt" "I") (List.mem_of_getElem? (i := 2) rfl)) (fun _ h9 => h9) rfl dX4_runTimers_18 ?_
  refine lv_isub hx hb dX4_runTimers_21 ?_
  refine lv_topi (fun x_3 ex_3 => ?_)
  obtain rfl : x_3 = (nI (tm - ncc)) := ex_3.trans ((pk_sub (a := tm) (b := ncc) (by omega)).trans (show nI (tm - ncc) = nI (tm - ncc) from congrArg nI (by omega)))
  refine lv_sipush (v := 250) hx hb dX4_runTimers_22 (by decide) ?_
  refine lv_icmp_lt (tgt := 33) hx hb dX4_runTimers_25 (by decide) (fun c_4 => ?_) (fun c_4 => ?_)
  rotate_left
  · exact absurd ((nI_ltI (a := (tm - ncc)) (b := 250) (by omega) (by omega)).mpr (by omega)) c_4
  refine lv_aload_n hx hb dX4_runTimers_33 rfl (lv_at hl 0 rfl) ?_
  refine va_get (D := (dC, dI)) (ci := 5) (v := .ref ns) (C := RX4) (T := TX4) (N := 18) hx hb hts in_c_runTimers_c_X4 hown hK hP 0 rfl rfl 7 (by decide) (hts (.fieldLink RX4 21 "ClaimBus$Node" "sending" "LClaimBus$Sending;") (List.mem_of_getElem? (i := 3) rfl)) (fun _ h9 => h9) rfl dX4_runTimers_34 ?_
  refine va_get (D := (dC, dI)) (ci := 7) (v := .int 0) (C := RX6) (T := TX6) (N := 4) hx hb hts in_c_runTimers_c_X6 hown hK hP 1 rfl rfl 0 (by decide) (hts (.fieldLink RX4 121 "ClaimBus$Sending" "state" "I") (List.mem_of_getElem? (i := 4) rfl)) (fun _ h9 => h9) rfl dX4_runTimers_37 ?_
  refine lv_iconst (v := 1) hx hb dX4_runTimers_40 (by decide) ?_
  refine lv_icmp_ne (tgt := 60) hx hb dX4_runTimers_41 (by decide) (fun c_5 => ?_) (fun c_5 => ?_)
  rotate_left
  · exact absurd c_5 (by decide)
  refine lv_iconst (v := 0) hx hb dX4_runTimers_60 (by decide) ?_
  refine lv_istore_n (lv' := [(2, .int 0), (0, .ref nd), (1, .int (nI tm))]) hx hb dX4_runTimers_61 rfl hl (by decide) rfl (fun ls hl => ?_)
  refine lv_iload_n hx hb dX4_runTimers_62 rfl (lv_at hl 0 rfl) ?_
  refine lv_aload_n hx hb dX4_runTimers_63 rfl (lv_at hl 1 rfl) ?_
  refine va_get (D := (dC, dI)) (ci := 5) (v := .ref cs) (C := RX4) (T := TX4) (N := 18) hx hb hts in_c_runTimers_c_X4 hown hK hP 0 rfl rfl 10 (by decide) (hts (.fieldLink RX4 41 "ClaimBus$Node" "collects" "Ljava/util/ArrayList;") (List.mem_of_getElem? (i := 5) rfl)) (fun _ h9 => h9) rfl dX4_runTimers_64 ?_
  have hPc := hP.sub (ws' := [(cs, .inr (0, [.int (nI cm), .ref ce_, .int (nI 0)]))]) [2] rfl
  have hDc := hD.sub (ws' := [(cs, .inr (0, [.int (nI cm), .ref ce_, .int (nI 0)]))]) [2] (by decide +kernel) rfl
  have hKc := hK.sub (tys' := []) [] rfl
  have hFc := ro_free hS hA
  refine va_calli (va_runV (As := []) (rest := [.int 0]) ⟨hx, hb, hml, hown, hts⟩ (c_AL_size l dC dI (cs) (cm) (ce_) (0) H.size) (cwV 0 hts g_c_runTimers_c_c_AL_size_96 rfl rfl rfl (by decide +kernel) ⟨Nat.le_of_ble_eq_true rfl, Nat.le_of_ble_eq_true rfl⟩) ⟨fun a U g mk q => by obtain ⟨q0, q1, qP, qK, qD, qE⟩ := q; exact ⟨q0, q1, qP, va_K.moved (u := U) (U := U.calling g mk a) (Vm.Alike.refl U.vm) qK, qD, ev.same (u := U) (U := U.calling g mk a) rfl qE⟩, va_recv hKc hPc (ci := 0) (q0 := 0) rfl rfl, fun U hU hW => ⟨rfl, by rw [hU], by rw [hU]; exact hPc, va_K.moved hW.alike hKc, hDc.weaken (fun _ _ _ _ => trivial), hE.warm hW⟩⟩ rfl rfl hl.1 rfl (lv_room (Nat.le_of_ble_eq_true rfl)) dX4_runTimers_67 ⟨Nat.le_of_ble_eq_true rfl, Nat.le_of_ble_eq_true rfl⟩) hS (fun q _ h => hFc q h) hFc (fun r_6 u t H1 locs ht hvm hw hB hz1 hk1 hS => ?_)
  clear hPc hDc hKc
  replace hP := ro_keep hP hk1
  generalize H1 = H at hP hS ⊢
  replace hP : va_P (dC, dI) vwCl [(nd, .inr (5, [.int nh, .int nl, .int nwa, .int nfr, .int (nI nwi), .ref r, .ref nt, .ref ns, .ref ib, .ref gs, .ref cs, .ref nu, .int 0, .int 1, .int (nI nad), .int (nI ncc), .int 0, .int 0])), (ns, .inr (7, [.int 0, .int snp, .int sdo, .null])), (cs, .inr (0, [.int (nI cm), .ref ce_, .int 0])), (gs, .inl (cT, 3, .inr (.inr (.inr (.inr fg)))))] H := hP
  have hw := hw.symm
  subst hw
  rw [show ((nI 0) : Int32) = 0 from (congrArg nI (show 0 = 0 from by omega)).trans (by decide)]
  refine lv_icmp_ge (tgt := 115) hx hb dX4_runTimers_70 (by decide) (fun c_7 => ?_) (fun c_7 => ?_)
  rotate_left
  · exact absurd (by decide) c_7
  refine lv_aload_n hx hb dX4_runTimers_115 rfl (lv_at hl 1 rfl) ?_
  refine va_get (D := (dC, dI)) (ci := 5) (v := .ref gs) (C := RX4) (T := TX4) (N := 18) hx hb hts in_c_runTimers_c_X4 hown hK hP 0 rfl rfl 9 (by decide) (hts (.fieldLink RX4 34 "ClaimBus$Node" "gets" "[LClaimBus$Transport;") (List.mem_of_getElem? (i := 10) rfl)) (fun _ h9 => h9) rfl dX4_runTimers_116 ?_
  refine lv_astore_n (lv' := [(2, .ref gs), (0, .ref nd), (1, .int (nI tm))]) hx hb dX4_runTimers_119 rfl hl (by decide) rfl (fun ls hl => ?_)
  refine lv_aload_n hx hb dX4_runTimers_120 rfl (lv_at hl 0 rfl) ?_
  refine va_alen hx hb hK hP 3 0 rfl rfl (v := 3) rfl dX4_runTimers_121 ?_
  refine lv_istore_n (lv' := [(3, .int 3), (2, .ref gs), (0, .ref nd), (1, .int (nI tm))]) hx hb dX4_runTimers_122 rfl hl (by decide) rfl (fun ls hl => ?_)
  refine lv_iconst (v := 0) hx hb dX4_runTimers_123 (by decide) ?_
  refine lv_istore (lv' := [(4, .int 0), (3, .int 3), (2, .ref gs), (0, .ref nd), (1, .int (nI tm))]) hx hb dX4_runTimers_124 hl (by decide) rfl (fun ls hl => ?_)
  refine lv_iload hx hb dX4_runTimers_126 (lv_at hl 0 rfl) ?_
  refine lv_iload_n hx hb dX4_runTimers_128 rfl (lv_at hl 1 rfl) ?_
  refine lv_icmp_ge (tgt := 177) hx hb dX4_runTimers_129 (by decide) (fun c_8 => ?_) (fun c_8 => ?_)
  · exact absurd c_8 (by decide)
  refine lv_aload_n hx hb dX4_runTimers_132 rfl (lv_at hl 2 rfl) ?_
  refine lv_iload hx hb dX4_runTimers_133 (lv_at hl 0 rfl) ?_
  refine va_aldq hx hb hK hP 3 0 rfl rfl (vp_in_nI (n := 0) (by omega) (by omega)) dX4_runTimers_135 ?_
  refine W.eq (g2 := F0 m 136 ls [.null]) (by rw [(show Int32.toNatClampNeg (0 : Int32) = 0 by decide), g0]; rfl) ?_
  refine lv_astoreN (lv' := [(5, .null), (4, .int 0), (3, .int 3), (2, .ref gs), (0, .ref nd), (1, .int (nI tm))]) hx hb dX4_runTimers_136 hl (by decide) rfl (fun ls hl => ?_)
  refine lv_aloadN hx hb dX4_runTimers_138 (lv_at hl 0 rfl) ?_
  refine lv_ifnullN (tgt := 171) hx hb dX4_runTimers_140 (by decide) ?_
  refine lv_iinc (v := 1) (lv' := [(4, .int 1), (5, .null), (3, .int 3), (2, .ref gs), (0, .ref nd), (1, .int (nI tm))]) hx hb dX4_runTimers_171 hl (k := 1) rfl (by decide) (by decide) rfl (fun ls hl => ?_)
  refine lv_goto (tgt := 126) hx hb dX4_runTimers_174 (by decide) ?_
  refine lv_iload hx hb dX4_runTimers_126 (lv_at hl 0 rfl) ?_
  refine lv_iload_n hx hb dX4_runTimers_128 rfl (lv_at hl 2 rfl) ?_
  refine lv_icmp_ge (tgt := 177) hx hb dX4_runTimers_129 (by decide) (fun c_9 => ?_) (fun c_9 => ?_)
  · exact absurd c_9 (by decide)
  refine lv_aload_n hx hb dX4_runTimers_132 rfl (lv_at hl 3 rfl) ?_
  refine lv_iload hx hb dX4_runTimers_133 (lv_at hl 0 rfl) ?_
  refine va_aldq hx hb hK hP 3 0 rfl rfl (vp_in_nI (n := 1) (by omega) (by omega)) dX4_runTimers_135 ?_
  refine W.eq (g2 := F0 m 136 ls [.null]) (by rw [(show Int32.toNatClampNeg (1 : Int32) = 1 by decide), g1]; rfl) ?_
  refine lv_astoreN (lv' := [(5, .null), (4, .int 1), (3, .int 3), (2, .ref gs), (0, .ref nd), (1, .int (nI tm))]) hx hb dX4_runTimers_136 hl (by decide) rfl (fun ls hl => ?_)
  refine lv_aloadN hx hb dX4_runTimers_138 (lv_at hl 0 rfl) ?_
  refine lv_ifnullN (tgt := 171) hx hb dX4_runTimers_140 (by decide) ?_
  refine lv_iinc (v := 2) (lv' := [(4, .int 2), (5, .null), (3, .int 3), (2, .ref gs), (0, .ref nd), (1, .int (nI tm))]) hx hb dX4_runTimers_171 hl (k := 1) rfl (by decide) (by decide) rfl (fun ls hl => ?_)
  refine lv_goto (tgt := 126) hx hb dX4_runTimers_174 (by decide) ?_
  refine lv_iload hx hb dX4_runTimers_126 (lv_at hl 0 rfl) ?_
  refine lv_iload_n hx hb dX4_runTimers_128 rfl (lv_at hl 2 rfl) ?_
  refine lv_icmp_ge (tgt := 177) hx hb dX4_runTimers_129 (by decide) (fun c_10 => ?_) (fun c_10 => ?_)
  · exact absurd c_10 (by decide)
  refine lv_aload_n hx hb dX4_runTimers_132 rfl (lv_at hl 3 rfl) ?_
  refine lv_iload hx hb dX4_runTimers_133 (lv_at hl 0 rfl) ?_
  refine va_aldq hx hb hK hP 3 0 rfl rfl (vp_in_nI (n := 2) (by omega) (by omega)) dX4_runTimers_135 ?_
  refine W.eq (g2 := F0 m 136 ls [.null]) (by rw [(show Int32.toNatClampNeg (2 : Int32) = 2 by decide), g2]; rfl) ?_
  refine lv_astoreN (lv' := [(5, .null), (4, .int 2), (3, .int 3), (2, .ref gs), (0, .ref nd), (1, .int (nI tm))]) hx hb dX4_runTimers_136 hl (by decide) rfl (fun ls hl => ?_)
  refine lv_aloadN hx hb dX4_runTimers_138 (lv_at hl 0 rfl) ?_
  refine lv_ifnullN (tgt := 171) hx hb dX4_runTimers_140 (by decide) ?_
  refine lv_iinc (v := 3) (lv' := [(4, .int 3), (5, .null), (3, .int 3), (2, .ref gs), (0, .ref nd), (1, .int (nI tm))]) hx hb dX4_runTimers_171 hl (k := 1) rfl (by decide) (by decide) rfl (fun ls hl => ?_)
  refine lv_goto (tgt := 126) hx hb dX4_runTimers_174 (by decide) ?_
  refine lv_iload hx hb dX4_runTimers_126 (lv_at hl 0 rfl) ?_
  refine lv_iload_n hx hb dX4_runTimers_128 rfl (lv_at hl 2 rfl) ?_
  refine lv_icmp_ge (tgt := 177) hx hb dX4_runTimers_129 (by decide) (fun c_11 => ?_) (fun c_11 => ?_)
  rotate_left
  · exact absurd (by decide) c_11
  exact W.vret hx hb hr (fun t ht hW => ⟨⟨(), rfl, trivial, trivial⟩, hS.F ht⟩) hS.2.2 dX4_runTimers_177

noncomputable def tl_c_runTimers_d : List Cond := wsX40 ++ (wsX60 ++ (v_c_AL_size))
noncomputable def v_c_runTimers_d : List Cond := .code yX4_runTimers cX4_runTimers 6 none :: ([.fieldLink RX4 53 "ClaimBus$Node" "state" "I", .fieldLink RX4 56 "ClaimBus$Node" "claimCarriedAt" "I", .fieldLink RX4 21 "ClaimBus$Node" "sending" "LClaimBus$Sending;", .fieldLink RX4 121 "ClaimBus$Sending" "state" "I", .fieldLink RX4 41 "ClaimBus$Node" "collects" "Ljava/util/ArrayList;", .initialized RJx4a65c, .methodLink RX4 96 yJx4a65c_size_8abf5, .instanceMethod yJx4a65c_size_8abf5, .selects RJx4a65c yJx4a65c_size_8abf5 yJx4a65c_size_8abf5, .fieldLink RX4 34 "ClaimBus$Node" "gets" "[LClaimBus$Transport;"] ++ tl_c_runTimers_d)
theorem it_c_runTimers_d : ∀ w ∈ tl_c_runTimers_d, w ∈ v_c_runTimers_d := fun w h => List.mem_cons_of_mem _ (List.mem_append_right _ h)
theorem in_c_runTimers_d_X4 : ∀ w ∈ wsX40, w ∈ v_c_runTimers_d := fun w h => it_c_runTimers_d w (List.mem_append_left _ h)
theorem in_c_runTimers_d_X6 : ∀ w ∈ wsX60, w ∈ v_c_runTimers_d := fun w h => it_c_runTimers_d w (List.mem_append_right _ (List.mem_append_left _ h))
theorem ic_c_runTimers_d_c_AL_size : ∀ w ∈ v_c_AL_size, w ∈ v_c_runTimers_d := fun w h => it_c_runTimers_d w (List.mem_append_right _ (List.mem_append_right _ (h)))
theorem gt_c_runTimers_d : ∀ w ∈ tl_c_runTimers_d, goodWord w = true := List.forall_mem_append.mpr ⟨gw_wsX40, List.forall_mem_append.mpr ⟨gw_wsX60, gw_c_AL_size⟩⟩
theorem gw_c_runTimers_d : ∀ w ∈ v_c_runTimers_d, goodWord w = true := List.forall_mem_cons.mpr ⟨by decide +kernel, List.forall_mem_append.mpr ⟨List.all_eq_true.mp (by decide +kernel), gt_c_runTimers_d⟩⟩
theorem g_c_runTimers_d_c_AL_size_96 : GoodIn v_c_runTimers_d (wsV RX4 96 RJx4a65c yJx4a65c_size_8abf5 v_c_AL_size) := goodIn_app (goodIn_r [.methodLink RX4 96 yJx4a65c_size_8abf5, .instanceMethod yJx4a65c_size_8abf5, .selects RJx4a65c yJx4a65c_size_8abf5 yJx4a65c_size_8abf5, .initialized RJx4a65c] [7, 8, 9, 6] (by decide +kernel) (by decide +kernel)) (fun w h => ⟨ic_c_runTimers_d_c_AL_size w h, good_of_word (gw_c_AL_size w h)⟩)
set_option maxHeartbeats 4000000 in
set_option maxRecDepth 100000 in
theorem c_runTimers_d (l : Launch) (dC : Nat → ClassId) (dI : Nat → Nat → Nat) (nd : Nat) (nh : Int32) (nl : Int32) (nwa : Int32) (nfr : Int32) (nwi : Nat) (r : Nat) (nt : Nat) (ns : Nat) (ib : Nat) (gs : Nat) (cs : Nat) (nu : Nat) (nad : Nat) (ncc : Nat) (snp : Int32) (sdo : Int32) (cm : Nat) (ce_ : Nat) (cT : ClassId) (fg : Nat → Option Nat) (tm : Nat) (sz : Nat) (g0 : fg 0 = none) (g1 : fg 1 = none) (g2 : fg 2 = none) (htm : tm < 300000) (hcc : tm = ncc + 250) : Met l yX4_runTimers v_c_runTimers_d ({ frames := 1, cells := 0, slots := 0, locals := 20 }) (va_Pc [.ref nd, .int (nI tm)] (fun U => U.heap.size = sz ∧ va_P (dC, dI) vwCl [(nd, .inr (5, [.int nh, .int nl, .int nwa, .int nfr, .int (nI nwi), .ref r, .ref nt, .ref ns, .ref ib, .ref gs, .ref cs, .ref nu, .int 0, .int 1, .int (nI nad), .int (nI ncc), .int 0, .int 0])), (ns, .inr (7, [.int 0, .int snp, .int sdo, .null])), (cs, .inr (0, [.int (nI cm), .ref ce_, .int 0])), (gs, .inl (cT, 3, .inr (.inr (.inr (.inr fg)))))] U.heap ∧ va_K (dC, dI) vwCl [(cT, (.object RX9))] U ∧ va_D (fun _ => True) [(nd, .inr (5, [.int nh, .int nl, .int nwa, .int nfr, .int (nI nwi), .ref r, .ref nt, .ref ns, .ref ib, .ref gs, .ref cs, .ref nu, .int 0, .int 1, .int (nI nad), .int (nI ncc), .int 0, .int 0])), (ns, .inr (7, [.int 0, .int snp, .int sdo, .null])), (cs, .inr (0, [.int (nI cm), .ref ce_, .int 0])), (gs, .inl (cT, 3, .inr (.inr (.inr (.inr fg)))))] ∧ ev U)) (va_Qv (fun _ : Unit => True) (fun (_ : Unit) (t : State) => va_P (dC, dI) vwCl [(nd, .inr (5, [.int nh, .int nl, .int nwa, .int nfr, .int (nI nwi), .ref r, .ref nt, .ref ns, .ref ib, .ref gs, .ref cs, .ref nu, .int 0, .int 2, .int (nI nad), .int (nI ncc), .int 0, .int 0])), (ns, .inr (7, [.int 0, .int snp, .int sdo, .null])), (cs, .inr (0, [.int (nI cm), .ref ce_, .int 0])), (gs, .inl (cT, 3, .inr (.inr (.inr (.inr fg)))))] t.heap ∧ va_K (dC, dI) vwCl [(cT, (.object RX9))] t ∧ va_D (va_A [(nd, .inr (5, [.int nh, .int nl, .int nwa, .int nfr, .int (nI nwi), .ref r, .ref nt, .ref ns, .ref ib, .ref gs, .ref cs, .ref nu, .int 0, .int 1, .int (nI nad), .int (nI ncc), .int 0, .int 0])), (ns, .inr (7, [.int 0, .int snp, .int sdo, .null])), (cs, .inr (0, [.int (nI cm), .ref ce_, .int 0])), (gs, .inl (cT, 3, .inr (.inr (.inr (.inr fg)))))] sz) [(nd, .inr (5, [.int nh, .int nl, .int nwa, .int nfr, .int (nI nwi), .ref r, .ref nt, .ref ns, .ref ib, .ref gs, .ref cs, .ref nu, .int 0, .int 2, .int (nI nad), .int (nI ncc), .int 0, .int 0])), (ns, .inr (7, [.int 0, .int snp, .int sdo, .null])), (cs, .inr (0, [.int (nI cm), .ref ce_, .int 0])), (gs, .inl (cT, 3, .inr (.inr (.inr (.inr fg)))))]) (va_A [(nd, .inr (5, [.int nh, .int nl, .int nwa, .int nfr, .int (nI nwi), .ref r, .ref nt, .ref ns, .ref ib, .ref gs, .ref cs, .ref nu, .int 0, .int 1, .int (nI nad), .int (nI ncc), .int 0, .int 0])), (ns, .inr (7, [.int 0, .int snp, .int sdo, .null])), (cs, .inr (0, [.int (nI cm), .ref ce_, .int 0])), (gs, .inl (cT, 3, .inr (.inr (.inr (.inr fg)))))] sz)) 0 0 (va_A [(nd, .inr (5, [.int nh, .int nl, .int nwa, .int nfr, .int (nI nwi), .ref r, .ref nt, .ref ns, .ref ib, .ref gs, .ref cs, .ref nu, .int 0, .int 1, .int (nI nad), .int (nI ncc), .int 0, .int 0])), (ns, .inr (7, [.int 0, .int snp, .int sdo, .null])), (cs, .inr (0, [.int (nI cm), .ref ce_, .int 0])), (gs, .inl (cT, 3, .inr (.inr (.inr (.inr fg)))))] sz) := by
  refine Met.ofW (cc := cX4_runTimers) (maxL := 6) (ret := none) (by decide) rfl ?_
  intro p e s m args below meth c s₁ B hml hv
  obtain ⟨rfl, hsz, hP, hK, hD0, hE⟩ := hv
  have hx := B.exec
  have hb := B.bytes
  have hr := B.returns
  have hts := atoms_spec (ws := v_c_runTimers_d) B.pre
  have hown : s.vm.findClass RX4 = some m.cls := findClass_of_methodNamed B.named
  have hlocks := B.notSynchronized
  subst hsz
  have hD := hD0.self (sz := s.heap.size)
  generalize hAe : va_A [(nd, .inr (5, [.int nh, .int nl, .int nwa, .int nfr, .int (nI nwi), .ref r, .ref nt, .ref ns, .ref ib, .ref gs, .ref cs, .ref nu, .int 0, .int 1, .int (nI nad), .int (nI ncc), .int 0, .int 0])), (ns, .inr (7, [.int 0, .int snp, .int sdo, .null])), (cs, .inr (0, [.int (nI cm), .ref ce_, .int 0])), (gs, .inl (cT, 3, .inr (.inr (.inr (.inr fg)))))] s.heap.size = A at hD ⊢
  have hA : ∀ q : Nat, s.heap.size ≤ q → A q := fun q h => by rw [← hAe]; exact Or.inr h
  have hS : va_S A s.heap s.heap [] := va_S.rf
  replace hP : va_P (dC, dI) vwCl [(nd, .inr (5, [.int nh, .int nl, .int nwa, .int nfr, .int (nI nwi), .ref r, .ref nt, .ref ns, .ref ib, .ref gs, .ref cs, .ref nu, .int 0, .int 1, .int (nI nad), .int (nI ncc), .int 0, .int 0])), (ns, .inr (7, [.int 0, .int snp, .int sdo, .null])), (cs, .inr (0, [.int (nI cm), .ref ce_, .int 0])), (gs, .inl (cT, 3, .inr (.inr (.inr (.inr fg)))))] s.heap := hP
  have hl := lv_entry ([.ref nd, .int (nI tm)]) (n := 6) (Nat.le_of_ble_eq_true rfl)
  rw [lg_entry_eq]
  generalize (lg_sl ([.ref nd, .int (nI tm)]) ++ List.replicate (6 - (lg_sl ([.ref nd, .int (nI tm)])).length) Slot.unset).toArray = ls at hl ⊢
  replace hl : lv_has ls 6 [(0, .ref nd), (1, .int (nI tm))] := hl
  obtain ⟨H, hH⟩ : ∃ z : Heap, z = s.heap := ⟨_, rfl⟩
  rw [← hH]
  replace hS : va_S A s.heap H [] := by rw [hH]; exact va_S.rf
  replace hP : va_P (dC, dI) vwCl [(nd, .inr (5, [.int nh, .int nl, .int nwa, .int nfr, .int (nI nwi), .ref r, .ref nt, .ref ns, .ref ib, .ref gs, .ref cs, .ref nu, .int 0, .int 1, .int (nI nad), .int (nI ncc), .int 0, .int 0])), (ns, .inr (7, [.int 0, .int snp, .int sdo, .null])), (cs, .inr (0, [.int (nI cm), .ref ce_, .int 0])), (gs, .inl (cT, 3, .inr (.inr (.inr (.inr fg)))))] H := by rw [hH]; exact hP
  clear hH
  refine lv_aload_n hx hb dX4_runTimers_0 rfl (lv_at hl 0 rfl) ?_
  refine va_get (D := (dC, dI)) (ci := 5) (v := .int 1) (C := RX4) (T := TX4) (N := 18) hx hb hts in_c_runTimers_d_X4 hown hK hP 0 rfl rfl 13 (by decide) (hts (.fieldLink RX4 53 "ClaimBus$Node" "state" "I") (List.mem_of_getElem? (i := 1) rfl)) (fun _ h9 => h9) rfl dX4_runTimers_1 ?_
  refine lv_iconst (v := 1) hx hb dX4_runTimers_4 (by decide) ?_
  refine lv_icmp_ne (tgt := 33) hx hb dX4_runTimers_5 (by decide) (fun c_1 => ?_) (fun c_1 => ?_)
  · exact absurd c_1 (by decide)
  refine lv_aload_n hx hb dX4_runTimers_8 rfl (lv_at hl 0 rfl) ?_
  refine va_get (D := (dC, dI)) (ci := 5) (v := .int (nI ncc)) (C := RX4) (T := TX4) (N := 18) hx hb hts in_c_runTimers_d_X4 hown hK hP 0 rfl rfl 15 (by decide) (hts (.fieldLink RX4 56 "ClaimBus$Node" "claimCarriedAt" "I") (List.mem_of_getElem? (i := 2) rfl)) (fun _ h9 => h9) rfl dX4_runTimers_9 ?_
  refine lv_iconst (v := -1) hx hb dX4_runTimers_12 (by decide) ?_
  refine lv_icmp_eq (tgt := 33) hx hb dX4_runTimers_13 (by decide) (fun c_2 => ?_) (fun c_2 => ?_)
  · exact absurd c_2 (q_nm1 (n := ncc) (by omega))
  refine lv_iload_n hx hb dX4_runTimers_16 rfl (lv_at hl 1 rfl) ?_
  refine lv_aload_n hx hb dX4_runTimers_17 rfl (lv_at hl 0 rfl) ?_
  refine va_get (D := (dC, dI)) (ci := 5) (v := .int (nI ncc)) (C := RX4) (T := TX4) (N := 18) hx hb hts in_c_runTimers_d_X4 hown hK hP 0 rfl rfl 15 (by decide) (hts (.fieldLink RX4 56 "ClaimBus$Node" "claimCarriedAt" "I") (List.mem_of_getElem? (i := 2) rfl)) (fun _ h9 => h9) rfl dX4_runTimers_18 ?_
  refine lv_isub hx hb dX4_runTimers_21 ?_
  refine lv_topi (fun x_3 ex_3 => ?_)
  obtain rfl : x_3 = (nI (tm - ncc)) := ex_3.trans ((pk_sub (a := tm) (b := ncc) (by omega)).trans (show nI (tm - ncc) = nI (tm - ncc) from congrArg nI (by omega)))
  refine lv_sipush (v := 250) hx hb dX4_runTimers_22 (by decide) ?_
  refine lv_icmp_lt (tgt := 33) hx hb dX4_runTimers_25 (by decide) (fun c_4 => ?_) (fun c_4 => ?_)
  · exact absurd ((nI_ltI (a := (tm - ncc)) (b := 250) (by omega) (by omega)).mp c_4) (by omega)
  refine lv_aload_n hx hb dX4_runTimers_28 rfl (lv_at hl 0 rfl) ?_
  refine lv_iconst (v := 2) hx hb dX4_runTimers_29 (by decide) ?_
  refine va_put (D := (dC, dI)) (ci := 5) (v := .int 2) (ty := .int) (C := RX4) (T := TX4) (N := 18) hx hb hts in_c_runTimers_d_X4 tyX4 tyX4_ok nmX4 hown hK hP hD hS 0 rfl rfl 13 (by decide) (hts (.fieldLink RX4 53 "ClaimBus$Node" "state" "I") (List.mem_of_getElem? (i := 1) rfl)) (fun _ h9 => h9) rfl (by decide +kernel) rfl rfl (Nat.le_of_ble_eq_true rfl) dX4_runTimers_30 (fun H locs hP hD hS => ?_)
  replace hP : va_P (dC, dI) vwCl [(nd, .inr (5, [.int nh, .int nl, .int nwa, .int nfr, .int (nI nwi), .ref r, .ref nt, .ref ns, .ref ib, .ref gs, .ref cs, .ref nu, .int 0, .int 2, .int (nI nad), .int (nI ncc), .int 0, .int 0])), (ns, .inr (7, [.int 0, .int snp, .int sdo, .null])), (cs, .inr (0, [.int (nI cm), .ref ce_, .int 0])), (gs, .inl (cT, 3, .inr (.inr (.inr (.inr fg)))))] H := hP
  replace hD : va_D A [(nd, .inr (5, [.int nh, .int nl, .int nwa, .int nfr, .int (nI nwi), .ref r, .ref nt, .ref ns, .ref ib, .ref gs, .ref cs, .ref nu, .int 0, .int 2, .int (nI nad), .int (nI ncc), .int 0, .int 0])), (ns, .inr (7, [.int 0, .int snp, .int sdo, .null])), (cs, .inr (0, [.int (nI cm), .ref ce_, .int 0])), (gs, .inl (cT, 3, .inr (.inr (.inr (.inr fg)))))] := hD
  refine lv_aload_n hx hb dX4_runTimers_33 rfl (lv_at hl 0 rfl) ?_
  refine va_get (D := (dC, dI)) (ci := 5) (v := .ref ns) (C := RX4) (T := TX4) (N := 18) hx hb hts in_c_runTimers_d_X4 hown hK hP 0 rfl rfl 7 (by decide) (hts (.fieldLink RX4 21 "ClaimBus$Node" "sending" "LClaimBus$Sending;") (List.mem_of_getElem? (i := 3) rfl)) (fun _ h9 => h9) rfl dX4_runTimers_34 ?_
  refine va_get (D := (dC, dI)) (ci := 7) (v := .int 0) (C := RX6) (T := TX6) (N := 4) hx hb hts in_c_runTimers_d_X6 hown hK hP 1 rfl rfl 0 (by decide) (hts (.fieldLink RX4 121 "ClaimBus$Sending" "state" "I") (List.mem_of_getElem? (i := 4) rfl)) (fun _ h9 => h9) rfl dX4_runTimers_37 ?_
  refine lv_iconst (v := 1) hx hb dX4_runTimers_40 (by decide) ?_
  refine lv_icmp_ne (tgt := 60) hx hb dX4_runTimers_41 (by decide) (fun c_5 => ?_) (fun c_5 => ?_)
  rotate_left
  · exact absurd c_5 (by decide)
  refine lv_iconst (v := 0) hx hb dX4_runTimers_60 (by decide) ?_
  refine lv_istore_n (lv' := [(2, .int 0), (0, .ref nd), (1, .int (nI tm))]) hx hb dX4_runTimers_61 rfl hl (by decide) rfl (fun ls hl => ?_)
  refine lv_iload_n hx hb dX4_runTimers_62 rfl (lv_at hl 0 rfl) ?_
  refine lv_aload_n hx hb dX4_runTimers_63 rfl (lv_at hl 1 rfl) ?_
  refine va_get (D := (dC, dI)) (ci := 5) (v := .ref cs) (C := RX4) (T := TX4) (N := 18) hx hb hts in_c_runTimers_d_X4 hown hK hP 0 rfl rfl 10 (by decide) (hts (.fieldLink RX4 41 "ClaimBus$Node" "collects" "Ljava/util/ArrayList;") (List.mem_of_getElem? (i := 5) rfl)) (fun _ h9 => h9) rfl dX4_runTimers_64 ?_
  have hPc := hP.sub (ws' := [(cs, .inr (0, [.int (nI cm), .ref ce_, .int (nI 0)]))]) [2] rfl
  have hDc := hD.sub (ws' := [(cs, .inr (0, [.int (nI cm), .ref ce_, .int (nI 0)]))]) [2] (by decide +kernel) rfl
  have hKc := hK.sub (tys' := []) [] rfl
  have hFc := ro_free hS hA
  refine va_calli (va_runV (As := []) (rest := [.int 0]) ⟨hx, hb, hml, hown, hts⟩ (c_AL_size l dC dI (cs) (cm) (ce_) (0) H.size) (cwV 0 hts g_c_runTimers_d_c_AL_size_96 rfl rfl rfl (by decide +kernel) ⟨Nat.le_of_ble_eq_true rfl, Nat.le_of_ble_eq_true rfl⟩) ⟨fun a U g mk q => by obtain ⟨q0, q1, qP, qK, qD, qE⟩ := q; exact ⟨q0, q1, qP, va_K.moved (u := U) (U := U.calling g mk a) (Vm.Alike.refl U.vm) qK, qD, ev.same (u := U) (U := U.calling g mk a) rfl qE⟩, va_recv hKc hPc (ci := 0) (q0 := 0) rfl rfl, fun U hU hW => ⟨rfl, by rw [hU], by rw [hU]; exact hPc, va_K.moved hW.alike hKc, hDc.weaken (fun _ _ _ _ => trivial), hE.warm hW⟩⟩ rfl rfl hl.1 rfl (lv_room (Nat.le_of_ble_eq_true rfl)) dX4_runTimers_67 ⟨Nat.le_of_ble_eq_true rfl, Nat.le_of_ble_eq_true rfl⟩) hS (fun q _ h => hFc q h) hFc (fun r_6 u t H1 locs ht hvm hw hB hz1 hk1 hS => ?_)
  clear hPc hDc hKc
  replace hP := ro_keep hP hk1
  generalize H1 = H at hP hS ⊢
  replace hP : va_P (dC, dI) vwCl [(nd, .inr (5, [.int nh, .int nl, .int nwa, .int nfr, .int (nI nwi), .ref r, .ref nt, .ref ns, .ref ib, .ref gs, .ref cs, .ref nu, .int 0, .int 2, .int (nI nad), .int (nI ncc), .int 0, .int 0])), (ns, .inr (7, [.int 0, .int snp, .int sdo, .null])), (cs, .inr (0, [.int (nI cm), .ref ce_, .int 0])), (gs, .inl (cT, 3, .inr (.inr (.inr (.inr fg)))))] H := hP
  have hw := hw.symm
  subst hw
  rw [show ((nI 0) : Int32) = 0 from (congrArg nI (show 0 = 0 from by omega)).trans (by decide)]
  refine lv_icmp_ge (tgt := 115) hx hb dX4_runTimers_70 (by decide) (fun c_7 => ?_) (fun c_7 => ?_)
  rotate_left
  · exact absurd (by decide) c_7
  refine lv_aload_n hx hb dX4_runTimers_115 rfl (lv_at hl 1 rfl) ?_
  refine va_get (D := (dC, dI)) (ci := 5) (v := .ref gs) (C := RX4) (T := TX4) (N := 18) hx hb hts in_c_runTimers_d_X4 hown hK hP 0 rfl rfl 9 (by decide) (hts (.fieldLink RX4 34 "ClaimBus$Node" "gets" "[LClaimBus$Transport;") (List.mem_of_getElem? (i := 10) rfl)) (fun _ h9 => h9) rfl dX4_runTimers_116 ?_
  refine lv_astore_n (lv' := [(2, .ref gs), (0, .ref nd), (1, .int (nI tm))]) hx hb dX4_runTimers_119 rfl hl (by decide) rfl (fun ls hl => ?_)
  refine lv_aload_n hx hb dX4_runTimers_120 rfl (lv_at hl 0 rfl) ?_
  refine va_alen hx hb hK hP 3 0 rfl rfl (v := 3) rfl dX4_runTimers_121 ?_
  refine lv_istore_n (lv' := [(3, .int 3), (2, .ref gs), (0, .ref nd), (1, .int (nI tm))]) hx hb dX4_runTimers_122 rfl hl (by decide) rfl (fun ls hl => ?_)
  refine lv_iconst (v := 0) hx hb dX4_runTimers_123 (by decide) ?_
  refine lv_istore (lv' := [(4, .int 0), (3, .int 3), (2, .ref gs), (0, .ref nd), (1, .int (nI tm))]) hx hb dX4_runTimers_124 hl (by decide) rfl (fun ls hl => ?_)
  refine lv_iload hx hb dX4_runTimers_126 (lv_at hl 0 rfl) ?_
  refine lv_iload_n hx hb dX4_runTimers_128 rfl (lv_at hl 1 rfl) ?_
  refine lv_icmp_ge (tgt := 177) hx hb dX4_runTimers_129 (by decide) (fun c_8 => ?_) (fun c_8 => ?_)
  · exact absurd c_8 (by decide)
  refine lv_aload_n hx hb dX4_runTimers_132 rfl (lv_at hl 2 rfl) ?_
  refine lv_iload hx hb dX4_runTimers_133 (lv_at hl 0 rfl) ?_
  refine va_aldq hx hb hK hP 3 0 rfl rfl (vp_in_nI (n := 0) (by omega) (by omega)) dX4_runTimers_135 ?_
  refine W.eq (g2 := F0 m 136 ls [.null]) (by rw [(show Int32.toNatClampNeg (0 : Int32) = 0 by decide), g0]; rfl) ?_
  refine lv_astoreN (lv' := [(5, .null), (4, .int 0), (3, .int 3), (2, .ref gs), (0, .ref nd), (1, .int (nI tm))]) hx hb dX4_runTimers_136 hl (by decide) rfl (fun ls hl => ?_)
  refine lv_aloadN hx hb dX4_runTimers_138 (lv_at hl 0 rfl) ?_
  refine lv_ifnullN (tgt := 171) hx hb dX4_runTimers_140 (by decide) ?_
  refine lv_iinc (v := 1) (lv' := [(4, .int 1), (5, .null), (3, .int 3), (2, .ref gs), (0, .ref nd), (1, .int (nI tm))]) hx hb dX4_runTimers_171 hl (k := 1) rfl (by decide) (by decide) rfl (fun ls hl => ?_)
  refine lv_goto (tgt := 126) hx hb dX4_runTimers_174 (by decide) ?_
  refine lv_iload hx hb dX4_runTimers_126 (lv_at hl 0 rfl) ?_
  refine lv_iload_n hx hb dX4_runTimers_128 rfl (lv_at hl 2 rfl) ?_
  refine lv_icmp_ge (tgt := 177) hx hb dX4_runTimers_129 (by decide) (fun c_9 => ?_) (fun c_9 => ?_)
  · exact absurd c_9 (by decide)
  refine lv_aload_n hx hb dX4_runTimers_132 rfl (lv_at hl 3 rfl) ?_
  refine lv_iload hx hb dX4_runTimers_133 (lv_at hl 0 rfl) ?_
  refine va_aldq hx hb hK hP 3 0 rfl rfl (vp_in_nI (n := 1) (by omega) (by omega)) dX4_runTimers_135 ?_
  refine W.eq (g2 := F0 m 136 ls [.null]) (by rw [(show Int32.toNatClampNeg (1 : Int32) = 1 by decide), g1]; rfl) ?_
  refine lv_astoreN (lv' := [(5, .null), (4, .int 1), (3, .int 3), (2, .ref gs), (0, .ref nd), (1, .int (nI tm))]) hx hb dX4_runTimers_136 hl (by decide) rfl (fun ls hl => ?_)
  refine lv_aloadN hx hb dX4_runTimers_138 (lv_at hl 0 rfl) ?_
  refine lv_ifnullN (tgt := 171) hx hb dX4_runTimers_140 (by decide) ?_
  refine lv_iinc (v := 2) (lv' := [(4, .int 2), (5, .null), (3, .int 3), (2, .ref gs), (0, .ref nd), (1, .int (nI tm))]) hx hb dX4_runTimers_171 hl (k := 1) rfl (by decide) (by decide) rfl (fun ls hl => ?_)
  refine lv_goto (tgt := 126) hx hb dX4_runTimers_174 (by decide) ?_
  refine lv_iload hx hb dX4_runTimers_126 (lv_at hl 0 rfl) ?_
  refine lv_iload_n hx hb dX4_runTimers_128 rfl (lv_at hl 2 rfl) ?_
  refine lv_icmp_ge (tgt := 177) hx hb dX4_runTimers_129 (by decide) (fun c_10 => ?_) (fun c_10 => ?_)
  · exact absurd c_10 (by decide)
  refine lv_aload_n hx hb dX4_runTimers_132 rfl (lv_at hl 3 rfl) ?_
  refine lv_iload hx hb dX4_runTimers_133 (lv_at hl 0 rfl) ?_
  refine va_aldq hx hb hK hP 3 0 rfl rfl (vp_in_nI (n := 2) (by omega) (by omega)) dX4_runTimers_135 ?_
  refine W.eq (g2 := F0 m 136 ls [.null]) (by rw [(show Int32.toNatClampNeg (2 : Int32) = 2 by decide), g2]; rfl) ?_
  refine lv_astoreN (lv' := [(5, .null), (4, .int 2), (3, .int 3), (2, .ref gs), (0, .ref nd), (1, .int (nI tm))]) hx hb dX4_runTimers_136 hl (by decide) rfl (fun ls hl => ?_)
  refine lv_aloadN hx hb dX4_runTimers_138 (lv_at hl 0 rfl) ?_
  refine lv_ifnullN (tgt := 171) hx hb dX4_runTimers_140 (by decide) ?_
  refine lv_iinc (v := 3) (lv' := [(4, .int 3), (5, .null), (3, .int 3), (2, .ref gs), (0, .ref nd), (1, .int (nI tm))]) hx hb dX4_runTimers_171 hl (k := 1) rfl (by decide) (by decide) rfl (fun ls hl => ?_)
  refine lv_goto (tgt := 126) hx hb dX4_runTimers_174 (by decide) ?_
  refine lv_iload hx hb dX4_runTimers_126 (lv_at hl 0 rfl) ?_
  refine lv_iload_n hx hb dX4_runTimers_128 rfl (lv_at hl 2 rfl) ?_
  refine lv_icmp_ge (tgt := 177) hx hb dX4_runTimers_129 (by decide) (fun c_11 => ?_) (fun c_11 => ?_)
  rotate_left
  · exact absurd (by decide) c_11
  have hP9 := hP.sub (ws' := [(nd, .inr (5, [.int nh, .int nl, .int nwa, .int nfr, .int (nI nwi), .ref r, .ref nt, .ref ns, .ref ib, .ref gs, .ref cs, .ref nu, .int 0, .int 2, .int (nI nad), .int (nI ncc), .int 0, .int 0])), (ns, .inr (7, [.int 0, .int snp, .int sdo, .null])), (cs, .inr (0, [.int (nI cm), .ref ce_, .int 0])), (gs, .inl (cT, 3, .inr (.inr (.inr (.inr fg)))))]) [0, 1, 2, 3] rfl
  have hD9 := hD.sub (ws' := [(nd, .inr (5, [.int nh, .int nl, .int nwa, .int nfr, .int (nI nwi), .ref r, .ref nt, .ref ns, .ref ib, .ref gs, .ref cs, .ref nu, .int 0, .int 2, .int (nI nad), .int (nI ncc), .int 0, .int 0])), (ns, .inr (7, [.int 0, .int snp, .int sdo, .null])), (cs, .inr (0, [.int (nI cm), .ref ce_, .int 0])), (gs, .inl (cT, 3, .inr (.inr (.inr (.inr fg)))))]) [0, 1, 2, 3] (by decide +kernel) rfl
  have hK9 := hK.sub (tys' := [(cT, (.object RX9))]) [0] rfl
  exact W.vret hx hb hr (fun t ht hW => ⟨⟨(), rfl, trivial, ⟨by rw [ht]; exact hP9, va_K.moved hW.alike hK9, hD9⟩⟩, hS.F ht⟩) hS.2.2 dX4_runTimers_177

noncomputable def tl_c_sendOn_mid : List Cond := wsX40 ++ (wsX60 ++ (wsX30 ++ (v_c_put_cp ++ (v_c_X3_packets))))
noncomputable def v_c_sendOn_mid : List Cond := .code yX4_sendOn cX4_sendOn 3 none :: ([.fieldLink RX4 21 "ClaimBus$Node" "sending" "LClaimBus$Sending;", .fieldLink RX4 122 "ClaimBus$Sending" "whole" "LClaimBus$Message;", .fieldLink RX4 133 "ClaimBus$Message" "to" "I", .fieldLink RX4 89 "ClaimBus$Node" "row" "LClaimBus$Row;", .fieldLink RX4 126 "ClaimBus$Sending" "nextPacket" "I", .initialized RX5, .methodLink RX4 136 yX5_put, .instanceMethod yX5_put, .selects RX5 yX5_put yX5_put, .fieldLink RX4 140 "ClaimBus$Sending" "due" "I", .initialized RX3, .methodLink RX4 168 yX3_packets, .instanceMethod yX3_packets, .selects RX3 yX3_packets yX3_packets] ++ tl_c_sendOn_mid)
theorem it_c_sendOn_mid : ∀ w ∈ tl_c_sendOn_mid, w ∈ v_c_sendOn_mid := fun w h => List.mem_cons_of_mem _ (List.mem_append_right _ h)
theorem in_c_sendOn_mid_X4 : ∀ w ∈ wsX40, w ∈ v_c_sendOn_mid := fun w h => it_c_sendOn_mid w (List.mem_append_left _ h)
theorem in_c_sendOn_mid_X6 : ∀ w ∈ wsX60, w ∈ v_c_sendOn_mid := fun w h => it_c_sendOn_mid w (List.mem_append_right _ (List.mem_append_left _ h))
theorem in_c_sendOn_mid_X3 : ∀ w ∈ wsX30, w ∈ v_c_sendOn_mid := fun w h => it_c_sendOn_mid w (List.mem_append_right _ (List.mem_append_right _ (List.mem_append_left _ h)))
theorem ic_c_sendOn_mid_c_put_cp : ∀ w ∈ v_c_put_cp, w ∈ v_c_sendOn_mid := fun w h => it_c_sendOn_mid w (List.mem_append_right _ (List.mem_append_right _ (List.mem_append_right _ (List.mem_append_left _ h))))
theorem ic_c_sendOn_mid_c_X3_packets : ∀ w ∈ v_c_X3_packets, w ∈ v_c_sendOn_mid := fun w h => it_c_sendOn_mid w (List.mem_append_right _ (List.mem_append_right _ (List.mem_append_right _ (List.mem_append_right _ (h)))))
theorem gt_c_sendOn_mid : ∀ w ∈ tl_c_sendOn_mid, goodWord w = true := List.forall_mem_append.mpr ⟨gw_wsX40, List.forall_mem_append.mpr ⟨gw_wsX60, List.forall_mem_append.mpr ⟨gw_wsX30, List.forall_mem_append.mpr ⟨gw_c_put_cp, gw_c_X3_packets⟩⟩⟩⟩
theorem gw_c_sendOn_mid : ∀ w ∈ v_c_sendOn_mid, goodWord w = true := List.forall_mem_cons.mpr ⟨by decide +kernel, List.forall_mem_append.mpr ⟨List.all_eq_true.mp (by decide +kernel), gt_c_sendOn_mid⟩⟩
theorem g_c_sendOn_mid_c_put_cp_136 : GoodIn v_c_sendOn_mid (wsV RX4 136 RX5 yX5_put v_c_put_cp) := goodIn_app (goodIn_r [.methodLink RX4 136 yX5_put, .instanceMethod yX5_put, .selects RX5 yX5_put yX5_put, .initialized RX5] [7, 8, 9, 6] (by decide +kernel) (by decide +kernel)) (fun w h => ⟨ic_c_sendOn_mid_c_put_cp w h, good_of_word (gw_c_put_cp w h)⟩)
theorem g_c_sendOn_mid_c_X3_packets_168 : GoodIn v_c_sendOn_mid (wsV RX4 168 RX3 yX3_packets v_c_X3_packets) := goodIn_app (goodIn_r [.methodLink RX4 168 yX3_packets, .instanceMethod yX3_packets, .selects RX3 yX3_packets yX3_packets, .initialized RX3] [12, 13, 14, 11] (by decide +kernel) (by decide +kernel)) (fun w h => ⟨ic_c_sendOn_mid_c_X3_packets w h, good_of_word (gw_c_X3_packets w h)⟩)
set_option maxHeartbeats 4000000 in
set_option maxRecDepth 100000 in
/-- Node.sendOn: to all -/
theorem c_sendOn_mid (l : Launch) (dC : Nat → ClassId) (dI : Nat → Nat → Nat) (nd : Nat) (nh : Int32) (nl : Int32) (nwa : Int32) (nfr : Int32) (nwi : Nat) (r : Nat) (nt : Nat) (ns : Nat) (ib : Nat) (gs : Nat) (cs : Nat) (nu : Nat) (nad : Nat) (ncc : Nat) (rh : Int32) (rl : Int32) (st : Nat) (rf : Nat) (hp : Int32) (tp : Int32) (ml : Nat) (ck : Nat) (ce : Nat) (cJ : ClassId) (fE : Nat → Int64) (mm : Nat) (mi : Nat) (mt : Nat) (mg : Nat) (ms : Nat) (sd : Int32) (np_ : Nat) (sdu : Nat) (tm : Nat) (sz : Nat) (hmi : mi < 8) (hmt : mt < 256) (hmg : mg < 262144) (hms : ms < 1786) (hmt2 : mt = 255) (hms1 : 9 ≤ ms) (hnp : 1 ≤ np_ ∧ np_ < 256) (htm : tm < 200000) (hpk : np_ + 1 ≤ (ms + 6) / 7) : Met l yX4_sendOn v_c_sendOn_mid ({ frames := 2, cells := 0, slots := 0, locals := 48 }) (va_Pc [.ref nd, .int (nI tm)] (fun U => U.heap.size = sz ∧ va_P (dC, dI) vwCl [(nd, .inr (5, [.int nh, .int nl, .int nwa, .int nfr, .int (nI nwi), .ref r, .ref nt, .ref ns, .ref ib, .ref gs, .ref cs, .ref nu, .int 0, .int 2, .int (nI nad), .int (nI ncc), .int 0, .int 0])), (ns, .inr (7, [.int 1, .int (nI np_), .int (nI sdu), .ref mm])), (mm, .inr (4, [.int (nI mi), .int (nI mt), .int (nI mg), .int (nI ms), .int sd, .null])), (r, .inr (6, [.int rh, .int rl, .ref st, .null, .null, .int hp, .int tp, .int 0, .int 0, .int 0, .ref rf, .int 0])), (st, .inr (8, [.ref ml, .ref ck])), (ck, .inr (1, [.ref ce, .null])), (ce, .inl (cJ, 128, .inr (.inl fE)))] U.heap ∧ va_K (dC, dI) vwCl [(cJ, .long)] U ∧ va_D (fun _ => True) [(nd, .inr (5, [.int nh, .int nl, .int nwa, .int nfr, .int (nI nwi), .ref r, .ref nt, .ref ns, .ref ib, .ref gs, .ref cs, .ref nu, .int 0, .int 2, .int (nI nad), .int (nI ncc), .int 0, .int 0])), (ns, .inr (7, [.int 1, .int (nI np_), .int (nI sdu), .ref mm])), (mm, .inr (4, [.int (nI mi), .int (nI mt), .int (nI mg), .int (nI ms), .int sd, .null])), (r, .inr (6, [.int rh, .int rl, .ref st, .null, .null, .int hp, .int tp, .int 0, .int 0, .int 0, .ref rf, .int 0])), (st, .inr (8, [.ref ml, .ref ck])), (ck, .inr (1, [.ref ce, .null])), (ce, .inl (cJ, 128, .inr (.inl fE)))] ∧ ev U)) (va_Qv (fun _ : Unit => True) (fun (_ : Unit) (t : State) => ∃ (fE2 : Nat → Int64), va_P (dC, dI) vwCl [(nd, .inr (5, [.int nh, .int nl, .int nwa, .int nfr, .int (nI nwi), .ref r, .ref nt, .ref ns, .ref ib, .ref gs, .ref cs, .ref nu, .int 0, .int 2, .int (nI nad), .int (nI ncc), .int 0, .int 0])), (ns, .inr (7, [.int 1, .int (nI (np_ + 1)), .int (nI (tm + 50)), .ref mm])), (mm, .inr (4, [.int (nI mi), .int (nI mt), .int (nI mg), .int (nI ms), .int sd, .null])), (r, .inr (6, [.int rh, .int rl, .ref st, .ref ck, .ref ck, .int 0, .int 1, .int 1, .int 0, .int 0, .ref rf, .int 0])), (st, .inr (8, [.ref ml, .null])), (ck, .inr (1, [.ref ce, .null])), (ce, .inl (cJ, 128, .inr (.inl fE2)))] t.heap ∧ va_K (dC, dI) vwCl [(cJ, .long)] t ∧ va_D (va_A [(nd, .inr (5, [.int nh, .int nl, .int nwa, .int nfr, .int (nI nwi), .ref r, .ref nt, .ref ns, .ref ib, .ref gs, .ref cs, .ref nu, .int 0, .int 2, .int (nI nad), .int (nI ncc), .int 0, .int 0])), (ns, .inr (7, [.int 1, .int (nI np_), .int (nI sdu), .ref mm])), (mm, .inr (4, [.int (nI mi), .int (nI mt), .int (nI mg), .int (nI ms), .int sd, .null])), (r, .inr (6, [.int rh, .int rl, .ref st, .null, .null, .int hp, .int tp, .int 0, .int 0, .int 0, .ref rf, .int 0])), (st, .inr (8, [.ref ml, .ref ck])), (ck, .inr (1, [.ref ce, .null])), (ce, .inl (cJ, 128, .inr (.inl fE)))] sz) [(nd, .inr (5, [.int nh, .int nl, .int nwa, .int nfr, .int (nI nwi), .ref r, .ref nt, .ref ns, .ref ib, .ref gs, .ref cs, .ref nu, .int 0, .int 2, .int (nI nad), .int (nI ncc), .int 0, .int 0])), (ns, .inr (7, [.int 1, .int (nI (np_ + 1)), .int (nI (tm + 50)), .ref mm])), (mm, .inr (4, [.int (nI mi), .int (nI mt), .int (nI mg), .int (nI ms), .int sd, .null])), (r, .inr (6, [.int rh, .int rl, .ref st, .ref ck, .ref ck, .int 0, .int 1, .int 1, .int 0, .int 0, .ref rf, .int 0])), (st, .inr (8, [.ref ml, .null])), (ck, .inr (1, [.ref ce, .null])), (ce, .inl (cJ, 128, .inr (.inl fE2)))] ∧ ((fE2 0).toInt32 = (nI (16777216 * 255 + 65536 * 235 + 256 * 1 + np_))) ∧ ((fE2 0 >>> ((32 : Int32).toInt64 &&& 63)).toInt32 = (nI mi))) (va_A [(nd, .inr (5, [.int nh, .int nl, .int nwa, .int nfr, .int (nI nwi), .ref r, .ref nt, .ref ns, .ref ib, .ref gs, .ref cs, .ref nu, .int 0, .int 2, .int (nI nad), .int (nI ncc), .int 0, .int 0])), (ns, .inr (7, [.int 1, .int (nI np_), .int (nI sdu), .ref mm])), (mm, .inr (4, [.int (nI mi), .int (nI mt), .int (nI mg), .int (nI ms), .int sd, .null])), (r, .inr (6, [.int rh, .int rl, .ref st, .null, .null, .int hp, .int tp, .int 0, .int 0, .int 0, .ref rf, .int 0])), (st, .inr (8, [.ref ml, .ref ck])), (ck, .inr (1, [.ref ce, .null])), (ce, .inl (cJ, 128, .inr (.inl fE)))] sz)) 0 0 (va_A [(nd, .inr (5, [.int nh, .int nl, .int nwa, .int nfr, .int (nI nwi), .ref r, .ref nt, .ref ns, .ref ib, .ref gs, .ref cs, .ref nu, .int 0, .int 2, .int (nI nad), .int (nI ncc), .int 0, .int 0])), (ns, .inr (7, [.int 1, .int (nI np_), .int (nI sdu), .ref mm])), (mm, .inr (4, [.int (nI mi), .int (nI mt), .int (nI mg), .int (nI ms), .int sd, .null])), (r, .inr (6, [.int rh, .int rl, .ref st, .null, .null, .int hp, .int tp, .int 0, .int 0, .int 0, .ref rf, .int 0])), (st, .inr (8, [.ref ml, .ref ck])), (ck, .inr (1, [.ref ce, .null])), (ce, .inl (cJ, 128, .inr (.inl fE)))] sz) := by
  refine Met.ofW (cc := cX4_sendOn) (maxL := 3) (ret := none) (by decide) rfl ?_
  intro p e s m args below meth c s₁ B hml hv
  obtain ⟨rfl, hsz, hP, hK, hD0, hE⟩ := hv
  have hx := B.exec
  have hb := B.bytes
  have hr := B.returns
  have hts := atoms_spec (ws := v_c_sendOn_mid) B.pre
  have hown : s.vm.findClass RX4 = some m.cls := findClass_of_methodNamed B.named
  have hlocks := B.notSynchronized
  subst hsz
  have hD := hD0.self (sz := s.heap.size)
  generalize hAe : va_A [(nd, .inr (5, [.int nh, .int nl, .int nwa, .int nfr, .int (nI nwi), .ref r, .ref nt, .ref ns, .ref ib, .ref gs, .ref cs, .ref nu, .int 0, .int 2, .int (nI nad), .int (nI ncc), .int 0, .int 0])), (ns, .inr (7, [.int 1, .int (nI np_), .int (nI sdu), .ref mm])), (mm, .inr (4, [.int (nI mi), .int (nI mt), .int (nI mg), .int (nI ms), .int sd, .null])), (r, .inr (6, [.int rh, .int rl, .ref st, .null, .null, .int hp, .int tp, .int 0, .int 0, .int 0, .ref rf, .int 0])), (st, .inr (8, [.ref ml, .ref ck])), (ck, .inr (1, [.ref ce, .null])), (ce, .inl (cJ, 128, .inr (.inl fE)))] s.heap.size = A at hD ⊢
  have hA : ∀ q : Nat, s.heap.size ≤ q → A q := fun q h => by rw [← hAe]; exact Or.inr h
  have hS : va_S A s.heap s.heap [] := va_S.rf
  replace hP : va_P (dC, dI) vwCl [(nd, .inr (5, [.int nh, .int nl, .int nwa, .int nfr, .int (nI nwi), .ref r, .ref nt, .ref ns, .ref ib, .ref gs, .ref cs, .ref nu, .int 0, .int 2, .int (nI nad), .int (nI ncc), .int 0, .int 0])), (ns, .inr (7, [.int 1, .int (nI np_), .int (nI sdu), .ref mm])), (mm, .inr (4, [.int (nI mi), .int (nI mt), .int (nI mg), .int (nI ms), .int sd, .null])), (r, .inr (6, [.int rh, .int rl, .ref st, .null, .null, .int hp, .int tp, .int 0, .int 0, .int 0, .ref rf, .int 0])), (st, .inr (8, [.ref ml, .ref ck])), (ck, .inr (1, [.ref ce, .null])), (ce, .inl (cJ, 128, .inr (.inl fE)))] s.heap := hP
  have hl := lv_entry ([.ref nd, .int (nI tm)]) (n := 3) (Nat.le_of_ble_eq_true rfl)
  rw [lg_entry_eq]
  generalize (lg_sl ([.ref nd, .int (nI tm)]) ++ List.replicate (3 - (lg_sl ([.ref nd, .int (nI tm)])).length) Slot.unset).toArray = ls at hl ⊢
  replace hl : lv_has ls 3 [(0, .ref nd), (1, .int (nI tm))] := hl
  obtain ⟨H, hH⟩ : ∃ z : Heap, z = s.heap := ⟨_, rfl⟩
  rw [← hH]
  replace hS : va_S A s.heap H [] := by rw [hH]; exact va_S.rf
  replace hP : va_P (dC, dI) vwCl [(nd, .inr (5, [.int nh, .int nl, .int nwa, .int nfr, .int (nI nwi), .ref r, .ref nt, .ref ns, .ref ib, .ref gs, .ref cs, .ref nu, .int 0, .int 2, .int (nI nad), .int (nI ncc), .int 0, .int 0])), (ns, .inr (7, [.int 1, .int (nI np_), .int (nI sdu), .ref mm])), (mm, .inr (4, [.int (nI mi), .int (nI mt), .int (nI mg), .int (nI ms), .int sd, .null])), (r, .inr (6, [.int rh, .int rl, .ref st, .null, .null, .int hp, .int tp, .int 0, .int 0, .int 0, .ref rf, .int 0])), (st, .inr (8, [.ref ml, .ref ck])), (ck, .inr (1, [.ref ce, .null])), (ce, .inl (cJ, 128, .inr (.inl fE)))] H := by rw [hH]; exact hP
  clear hH
  refine lv_aload_n hx hb dX4_sendOn_0 rfl (lv_at hl 0 rfl) ?_
  refine va_get (D := (dC, dI)) (ci := 5) (v := .ref ns) (C := RX4) (T := TX4) (N := 18) hx hb hts in_c_sendOn_mid_X4 hown hK hP 0 rfl rfl 7 (by decide) (hts (.fieldLink RX4 21 "ClaimBus$Node" "sending" "LClaimBus$Sending;") (List.mem_of_getElem? (i := 1) rfl)) (fun _ h9 => h9) rfl dX4_sendOn_1 ?_
  refine va_get (D := (dC, dI)) (ci := 7) (v := .ref mm) (C := RX6) (T := TX6) (N := 4) hx hb hts in_c_sendOn_mid_X6 hown hK hP 1 rfl rfl 3 (by decide) (hts (.fieldLink RX4 122 "ClaimBus$Sending" "whole" "LClaimBus$Message;") (List.mem_of_getElem? (i := 2) rfl)) (fun _ h9 => h9) rfl dX4_sendOn_4 ?_
  refine lv_astore_n (lv' := [(2, .ref mm), (0, .ref nd), (1, .int (nI tm))]) hx hb dX4_sendOn_7 rfl hl (by decide) rfl (fun ls hl => ?_)
  refine lv_aload_n hx hb dX4_sendOn_8 rfl (lv_at hl 0 rfl) ?_
  refine lv_ifnonnull (tgt := 13) hx hb dX4_sendOn_9 (by decide) ?_
  refine lv_aload_n hx hb dX4_sendOn_13 rfl (lv_at hl 0 rfl) ?_
  refine va_get (D := (dC, dI)) (ci := 4) (v := .int (nI mt)) (C := RX3) (T := TX3) (N := 6) hx hb hts in_c_sendOn_mid_X3 hown hK hP 2 rfl rfl 1 (by decide) (hts (.fieldLink RX4 133 "ClaimBus$Message" "to" "I") (List.mem_of_getElem? (i := 3) rfl)) (fun _ h9 => h9) rfl dX4_sendOn_14 ?_
  refine lv_sipush (v := 255) hx hb dX4_sendOn_17 (by decide) ?_
  refine lv_icmp_eq (tgt := 42) hx hb dX4_sendOn_20 (by decide) (fun c_1 => ?_) (fun c_1 => ?_)
  rotate_left
  · exact absurd ((nI_eq (a := mt) (b := 255) (by omega) (by omega)).mpr (by omega)) c_1
  refine lv_aload_n hx hb dX4_sendOn_42 rfl (lv_at hl 1 rfl) ?_
  refine va_get (D := (dC, dI)) (ci := 5) (v := .ref r) (C := RX4) (T := TX4) (N := 18) hx hb hts in_c_sendOn_mid_X4 hown hK hP 0 rfl rfl 5 (by decide) (hts (.fieldLink RX4 89 "ClaimBus$Node" "row" "LClaimBus$Row;") (List.mem_of_getElem? (i := 4) rfl)) (fun _ h9 => h9) rfl dX4_sendOn_43 ?_
  refine lv_aload_n hx hb dX4_sendOn_46 rfl (lv_at hl 0 rfl) ?_
  refine lv_sipush (v := 255) hx hb dX4_sendOn_47 (by decide) ?_
  refine lv_sipush (v := 235) hx hb dX4_sendOn_50 (by decide) ?_
  refine lv_iconst (v := 1) hx hb dX4_sendOn_53 (by decide) ?_
  refine lv_aload_n hx hb dX4_sendOn_54 rfl (lv_at hl 1 rfl) ?_
  refine va_get (D := (dC, dI)) (ci := 5) (v := .ref ns) (C := RX4) (T := TX4) (N := 18) hx hb hts in_c_sendOn_mid_X4 hown hK hP 0 rfl rfl 7 (by decide) (hts (.fieldLink RX4 21 "ClaimBus$Node" "sending" "LClaimBus$Sending;") (List.mem_of_getElem? (i := 1) rfl)) (fun _ h9 => h9) rfl dX4_sendOn_55 ?_
  refine va_get (D := (dC, dI)) (ci := 7) (v := .int (nI np_)) (C := RX6) (T := TX6) (N := 4) hx hb hts in_c_sendOn_mid_X6 hown hK hP 1 rfl rfl 1 (by decide) (hts (.fieldLink RX4 126 "ClaimBus$Sending" "nextPacket" "I") (List.mem_of_getElem? (i := 5) rfl)) (fun _ h9 => h9) rfl dX4_sendOn_58 ?_
  have hPc := hP.sub (ws' := [(r, .inr (6, [.int rh, .int rl, .ref st, .null, .null, .int hp, .int tp, .int 0, .int 0, .int 0, .ref rf, .int 0])), (st, .inr (8, [.ref ml, .ref ck])), (ck, .inr (1, [.ref ce, .null])), (ce, .inl (cJ, 128, .inr (.inl fE))), (mm, .inr (4, [.int (nI mi), .int (nI mt), .int (nI mg), .int (nI ms), .int sd, .null]))]) [3, 4, 5, 6, 2] rfl
  have hDc := hD.sub (ws' := [(r, .inr (6, [.int rh, .int rl, .ref st, .null, .null, .int hp, .int tp, .int 0, .int 0, .int 0, .ref rf, .int 0])), (st, .inr (8, [.ref ml, .ref ck])), (ck, .inr (1, [.ref ce, .null])), (ce, .inl (cJ, 128, .inr (.inl fE))), (mm, .inr (4, [.int (nI mi), .int (nI mt), .int (nI mg), .int (nI ms), .int sd, .null]))]) [3, 4, 5, 6, 2] (by decide +kernel) rfl
  have hKc := hK.sub (tys' := [(cJ, .long)]) [0] rfl
  have hFc := va_free (wc := [(r, .inr (6, [.int rh, .int rl, .ref st, .null, .null, .int hp, .int tp, .int 0, .int 0, .int 0, .ref rf, .int 0])), (st, .inr (8, [.ref ml, .ref ck])), (ck, .inr (1, [.ref ce, .null])), (ce, .inl (cJ, 128, .inr (.inl fE))), (mm, .inr (4, [.int (nI mi), .int (nI mt), .int (nI mg), .int (nI ms), .int sd, .null]))]) hD hS hA [3, 4, 5, 6, 2] rfl
  refine va_callv (va_runV (As := [.ref mm, .int 255, .int 235, .int 1, .int (nI np_)]) (rest := []) ⟨hx, hb, hml, hown, hts⟩ (c_put_cp l dC dI (r) (rh) (rl) (st) (rf) (hp) (tp) (ml) (ck) (ce) (cJ) (fE) (mm) (mi) (mt) (mg) (ms) (sd) (255) (235) (1) (np_) H.size (by omega) (by omega) (by omega) (by omega) hmi (by omega)) (cwV 5 hts g_c_sendOn_mid_c_put_cp_136 rfl rfl rfl (by decide +kernel) ⟨Nat.le_of_ble_eq_true rfl, Nat.le_of_ble_eq_true rfl⟩) ⟨fun a U g mk q => by obtain ⟨q0, q1, qP, qK, qD, qE⟩ := q; exact ⟨q0, q1, qP, va_K.moved (u := U) (U := U.calling g mk a) (Vm.Alike.refl U.vm) qK, qD, ev.same (u := U) (U := U.calling g mk a) rfl qE⟩, va_recv hKc hPc (ci := 6) (q0 := 0) rfl rfl, fun U hU hW => ⟨rfl, by rw [hU], by rw [hU]; exact hPc, va_K.moved hW.alike hKc, hDc.weaken (fun _ _ _ _ => trivial), hE.warm hW⟩⟩ rfl rfl hl.1 rfl (lv_room (Nat.le_of_ble_eq_true rfl)) dX4_sendOn_61 ⟨Nat.le_of_ble_eq_true rfl, Nat.le_of_ble_eq_true rfl⟩) hS (fun q _ h => hFc q h) hFc (fun u t H1 locs ht hvm hw hB hz1 hk1 hS => ?_)
  clear hPc hDc hKc
  obtain ⟨fE2_2, hP1, hK1, hD1, hlo_2, hhi_2⟩ := hB
  rw [ht] at hP1
  have hK1 := va_K.moved hvm.symm hK1
  obtain ⟨hP, hD⟩ := va_join (wr := [(nd, .inr (5, [.int nh, .int nl, .int nwa, .int nfr, .int (nI nwi), .ref r, .ref nt, .ref ns, .ref ib, .ref gs, .ref cs, .ref nu, .int 0, .int 2, .int (nI nad), .int (nI ncc), .int 0, .int 0])), (ns, .inr (7, [.int 1, .int (nI np_), .int (nI sdu), .ref mm]))]) (w1 := [(r, .inr (6, [.int rh, .int rl, .ref st, .ref ck, .ref ck, .int 0, .int 1, .int (nI 1), .int 0, .int 0, .ref rf, .int 0])), (st, .inr (8, [.ref ml, .null])), (ck, .inr (1, [.ref ce, .null])), (ce, .inl (cJ, 128, .inr (.inl fE2_2))), (mm, .inr (4, [.int (nI mi), .int (nI mt), .int (nI mg), .int (nI ms), .int sd, .null]))]) hP hD [3, 4, 5, 6, 2] [0, 1] rfl rfl (by decide +kernel) (by decide +kernel) hk1 hFc hP1 hD1
  generalize H1 = H at hP hS ⊢
  replace hP : va_P (dC, dI) vwCl [(nd, .inr (5, [.int nh, .int nl, .int nwa, .int nfr, .int (nI nwi), .ref r, .ref nt, .ref ns, .ref ib, .ref gs, .ref cs, .ref nu, .int 0, .int 2, .int (nI nad), .int (nI ncc), .int 0, .int 0])), (ns, .inr (7, [.int 1, .int (nI np_), .int (nI sdu), .ref mm])), (r, .inr (6, [.int rh, .int rl, .ref st, .ref ck, .ref ck, .int 0, .int 1, .int (nI 1), .int 0, .int 0, .ref rf, .int 0])), (st, .inr (8, [.ref ml, .null])), (ck, .inr (1, [.ref ce, .null])), (ce, .inl (cJ, 128, .inr (.inl fE2_2))), (mm, .inr (4, [.int (nI mi), .int (nI mt), .int (nI mg), .int (nI ms), .int sd, .null]))] H := hP
  replace hD : va_D A [(nd, .inr (5, [.int nh, .int nl, .int nwa, .int nfr, .int (nI nwi), .ref r, .ref nt, .ref ns, .ref ib, .ref gs, .ref cs, .ref nu, .int 0, .int 2, .int (nI nad), .int (nI ncc), .int 0, .int 0])), (ns, .inr (7, [.int 1, .int (nI np_), .int (nI sdu), .ref mm])), (r, .inr (6, [.int rh, .int rl, .ref st, .ref ck, .ref ck, .int 0, .int 1, .int (nI 1), .int 0, .int 0, .ref rf, .int 0])), (st, .inr (8, [.ref ml, .null])), (ck, .inr (1, [.ref ce, .null])), (ce, .inl (cJ, 128, .inr (.inl fE2_2))), (mm, .inr (4, [.int (nI mi), .int (nI mt), .int (nI mg), .int (nI ms), .int sd, .null]))] := hD
  rw [show ((nI 1) : Int32) = 1 from (congrArg nI (show 1 = 1 from by omega)).trans (by decide)] at hP hD
  replace hP : va_P (dC, dI) vwCl [(nd, .inr (5, [.int nh, .int nl, .int nwa, .int nfr, .int (nI nwi), .ref r, .ref nt, .ref ns, .ref ib, .ref gs, .ref cs, .ref nu, .int 0, .int 2, .int (nI nad), .int (nI ncc), .int 0, .int 0])), (ns, .inr (7, [.int 1, .int (nI np_), .int (nI sdu), .ref mm])), (r, .inr (6, [.int rh, .int rl, .ref st, .ref ck, .ref ck, .int 0, .int 1, .int 1, .int 0, .int 0, .ref rf, .int 0])), (st, .inr (8, [.ref ml, .null])), (ck, .inr (1, [.ref ce, .null])), (ce, .inl (cJ, 128, .inr (.inl fE2_2))), (mm, .inr (4, [.int (nI mi), .int (nI mt), .int (nI mg), .int (nI ms), .int sd, .null]))] H := hP
  replace hD : va_D A [(nd, .inr (5, [.int nh, .int nl, .int nwa, .int nfr, .int (nI nwi), .ref r, .ref nt, .ref ns, .ref ib, .ref gs, .ref cs, .ref nu, .int 0, .int 2, .int (nI nad), .int (nI ncc), .int 0, .int 0])), (ns, .inr (7, [.int 1, .int (nI np_), .int (nI sdu), .ref mm])), (r, .inr (6, [.int rh, .int rl, .ref st, .ref ck, .ref ck, .int 0, .int 1, .int 1, .int 0, .int 0, .ref rf, .int 0])), (st, .inr (8, [.ref ml, .null])), (ck, .inr (1, [.ref ce, .null])), (ce, .inl (cJ, 128, .inr (.inl fE2_2))), (mm, .inr (4, [.int (nI mi), .int (nI mt), .int (nI mg), .int (nI ms), .int sd, .null]))] := hD
  clear hw
  refine lv_aload_n hx hb dX4_sendOn_64 rfl (lv_at hl 1 rfl) ?_
  refine va_get (D := (dC, dI)) (ci := 5) (v := .ref ns) (C := RX4) (T := TX4) (N := 18) hx hb hts in_c_sendOn_mid_X4 hown hK hP 0 rfl rfl 7 (by decide) (hts (.fieldLink RX4 21 "ClaimBus$Node" "sending" "LClaimBus$Sending;") (List.mem_of_getElem? (i := 1) rfl)) (fun _ h9 => h9) rfl dX4_sendOn_65 ?_
  refine lv_dup hx hb dX4_sendOn_68 rfl ?_
  refine va_get (D := (dC, dI)) (ci := 7) (v := .int (nI np_)) (C := RX6) (T := TX6) (N := 4) hx hb hts in_c_sendOn_mid_X6 hown hK hP 1 rfl rfl 1 (by decide) (hts (.fieldLink RX4 126 "ClaimBus$Sending" "nextPacket" "I") (List.mem_of_getElem? (i := 5) rfl)) (fun _ h9 => h9) rfl dX4_sendOn_69 ?_
  refine lv_iconst (v := 1) hx hb dX4_sendOn_72 (by decide) ?_
  refine lv_iadd hx hb dX4_sendOn_73 ?_
  refine lv_topi (fun x_3 ex_3 => ?_)
  obtain rfl : x_3 = (nI (np_ + 1)) := ex_3.trans ((nI_add np_ 1).trans (show nI (np_ + 1) = nI (np_ + 1) from congrArg nI (by omega)))
  refine va_put (D := (dC, dI)) (ci := 7) (v := .int (nI (np_ + 1))) (ty := .int) (C := RX6) (T := TX6) (N := 4) hx hb hts in_c_sendOn_mid_X6 tyX6 tyX6_ok nmX6 hown hK hP hD hS 1 rfl rfl 1 (by decide) (hts (.fieldLink RX4 126 "ClaimBus$Sending" "nextPacket" "I") (List.mem_of_getElem? (i := 5) rfl)) (fun _ h9 => h9) rfl (by decide +kernel) rfl rfl (Nat.le_of_ble_eq_true rfl) dX4_sendOn_74 (fun H locs hP hD hS => ?_)
  replace hP : va_P (dC, dI) vwCl [(nd, .inr (5, [.int nh, .int nl, .int nwa, .int nfr, .int (nI nwi), .ref r, .ref nt, .ref ns, .ref ib, .ref gs, .ref cs, .ref nu, .int 0, .int 2, .int (nI nad), .int (nI ncc), .int 0, .int 0])), (ns, .inr (7, [.int 1, .int (nI (np_ + 1)), .int (nI sdu), .ref mm])), (r, .inr (6, [.int rh, .int rl, .ref st, .ref ck, .ref ck, .int 0, .int 1, .int 1, .int 0, .int 0, .ref rf, .int 0])), (st, .inr (8, [.ref ml, .null])), (ck, .inr (1, [.ref ce, .null])), (ce, .inl (cJ, 128, .inr (.inl fE2_2))), (mm, .inr (4, [.int (nI mi), .int (nI mt), .int (nI mg), .int (nI ms), .int sd, .null]))] H := hP
  replace hD : va_D A [(nd, .inr (5, [.int nh, .int nl, .int nwa, .int nfr, .int (nI nwi), .ref r, .ref nt, .ref ns, .ref ib, .ref gs, .ref cs, .ref nu, .int 0, .int 2, .int (nI nad), .int (nI ncc), .int 0, .int 0])), (ns, .inr (7, [.int 1, .int (nI (np_ + 1)), .int (nI sdu), .ref mm])), (r, .inr (6, [.int rh, .int rl, .ref st, .ref ck, .ref ck, .int 0, .int 1, .int 1, .int 0, .int 0, .ref rf, .int 0])), (st, .inr (8, [.ref ml, .null])), (ck, .inr (1, [.ref ce, .null])), (ce, .inl (cJ, 128, .inr (.inl fE2_2))), (mm, .inr (4, [.int (nI mi), .int (nI mt), .int (nI mg), .int (nI ms), .int sd, .null]))] := hD
  refine lv_aload_n hx hb dX4_sendOn_77 rfl (lv_at hl 1 rfl) ?_
  refine va_get (D := (dC, dI)) (ci := 5) (v := .ref ns) (C := RX4) (T := TX4) (N := 18) hx hb hts in_c_sendOn_mid_X4 hown hK hP 0 rfl rfl 7 (by decide) (hts (.fieldLink RX4 21 "ClaimBus$Node" "sending" "LClaimBus$Sending;") (List.mem_of_getElem? (i := 1) rfl)) (fun _ h9 => h9) rfl dX4_sendOn_78 ?_
  refine lv_iload_n hx hb dX4_sendOn_81 rfl (lv_at hl 2 rfl) ?_
  refine lv_bipush (v := 50) hx hb dX4_sendOn_82 (by decide) ?_
  refine lv_iadd hx hb dX4_sendOn_84 ?_
  refine lv_topi (fun x_4 ex_4 => ?_)
  obtain rfl : x_4 = (nI (tm + 50)) := ex_4.trans ((nI_add tm 50).trans (show nI (tm + 50) = nI (tm + 50) from congrArg nI (by omega)))
  refine va_put (D := (dC, dI)) (ci := 7) (v := .int (nI (tm + 50))) (ty := .int) (C := RX6) (T := TX6) (N := 4) hx hb hts in_c_sendOn_mid_X6 tyX6 tyX6_ok nmX6 hown hK hP hD hS 1 rfl rfl 2 (by decide) (hts (.fieldLink RX4 140 "ClaimBus$Sending" "due" "I") (List.mem_of_getElem? (i := 10) rfl)) (fun _ h9 => h9) rfl (by decide +kernel) rfl rfl (Nat.le_of_ble_eq_true rfl) dX4_sendOn_85 (fun H locs hP hD hS => ?_)
  replace hP : va_P (dC, dI) vwCl [(nd, .inr (5, [.int nh, .int nl, .int nwa, .int nfr, .int (nI nwi), .ref r, .ref nt, .ref ns, .ref ib, .ref gs, .ref cs, .ref nu, .int 0, .int 2, .int (nI nad), .int (nI ncc), .int 0, .int 0])), (ns, .inr (7, [.int 1, .int (nI (np_ + 1)), .int (nI (tm + 50)), .ref mm])), (r, .inr (6, [.int rh, .int rl, .ref st, .ref ck, .ref ck, .int 0, .int 1, .int 1, .int 0, .int 0, .ref rf, .int 0])), (st, .inr (8, [.ref ml, .null])), (ck, .inr (1, [.ref ce, .null])), (ce, .inl (cJ, 128, .inr (.inl fE2_2))), (mm, .inr (4, [.int (nI mi), .int (nI mt), .int (nI mg), .int (nI ms), .int sd, .null]))] H := hP
  replace hD : va_D A [(nd, .inr (5, [.int nh, .int nl, .int nwa, .int nfr, .int (nI nwi), .ref r, .ref nt, .ref ns, .ref ib, .ref gs, .ref cs, .ref nu, .int 0, .int 2, .int (nI nad), .int (nI ncc), .int 0, .int 0])), (ns, .inr (7, [.int 1, .int (nI (np_ + 1)), .int (nI (tm + 50)), .ref mm])), (r, .inr (6, [.int rh, .int rl, .ref st, .ref ck, .ref ck, .int 0, .int 1, .int 1, .int 0, .int 0, .ref rf, .int 0])), (st, .inr (8, [.ref ml, .null])), (ck, .inr (1, [.ref ce, .null])), (ce, .inl (cJ, 128, .inr (.inl fE2_2))), (mm, .inr (4, [.int (nI mi), .int (nI mt), .int (nI mg), .int (nI ms), .int sd, .null]))] := hD
  refine lv_aload_n hx hb dX4_sendOn_88 rfl (lv_at hl 1 rfl) ?_
  refine va_get (D := (dC, dI)) (ci := 5) (v := .ref ns) (C := RX4) (T := TX4) (N := 18) hx hb hts in_c_sendOn_mid_X4 hown hK hP 0 rfl rfl 7 (by decide) (hts (.fieldLink RX4 21 "ClaimBus$Node" "sending" "LClaimBus$Sending;") (List.mem_of_getElem? (i := 1) rfl)) (fun _ h9 => h9) rfl dX4_sendOn_89 ?_
  refine va_get (D := (dC, dI)) (ci := 7) (v := .int (nI (np_ + 1))) (C := RX6) (T := TX6) (N := 4) hx hb hts in_c_sendOn_mid_X6 hown hK hP 1 rfl rfl 1 (by decide) (hts (.fieldLink RX4 126 "ClaimBus$Sending" "nextPacket" "I") (List.mem_of_getElem? (i := 5) rfl)) (fun _ h9 => h9) rfl dX4_sendOn_92 ?_
  refine lv_aload_n hx hb dX4_sendOn_95 rfl (lv_at hl 0 rfl) ?_
  have hPc := hP.sub (ws' := [(mm, .inr (4, [.int (nI mi), .int (nI mt), .int (nI mg), .int (nI ms), .int sd, .null]))]) [6] rfl
  have hDc := hD.sub (ws' := [(mm, .inr (4, [.int (nI mi), .int (nI mt), .int (nI mg), .int (nI ms), .int sd, .null]))]) [6] (by decide +kernel) rfl
  have hKc := hK.sub (tys' := []) [] rfl
  have hFc := ro_free hS hA
  refine va_calli (va_runV (As := []) (rest := [.int (nI (np_ + 1))]) ⟨hx, hb, hml, hown, hts⟩ (c_X3_packets l dC dI (mm) (mi) (mt) (mg) (ms) (sd) H.size hmi hmt hmg hms) (cwV 0 hts g_c_sendOn_mid_c_X3_packets_168 rfl rfl rfl (by decide +kernel) ⟨Nat.le_of_ble_eq_true rfl, Nat.le_of_ble_eq_true rfl⟩) ⟨fun a U g mk q => by obtain ⟨q0, q1, qP, qK, qD, qE⟩ := q; exact ⟨q0, q1, qP, va_K.moved (u := U) (U := U.calling g mk a) (Vm.Alike.refl U.vm) qK, qD, ev.same (u := U) (U := U.calling g mk a) rfl qE⟩, va_recv hKc hPc (ci := 4) (q0 := 0) rfl rfl, fun U hU hW => ⟨rfl, by rw [hU], by rw [hU]; exact hPc, va_K.moved hW.alike hKc, hDc.weaken (fun _ _ _ _ => trivial), hE.warm hW⟩⟩ rfl rfl hl.1 rfl (lv_room (Nat.le_of_ble_eq_true rfl)) dX4_sendOn_96 ⟨Nat.le_of_ble_eq_true rfl, Nat.le_of_ble_eq_true rfl⟩) hS (fun q _ h => hFc q h) hFc (fun r_5 u t H1 locs ht hvm hw hB hz1 hk1 hS => ?_)
  clear hPc hDc hKc
  replace hP := ro_keep hP hk1
  generalize H1 = H at hP hS ⊢
  replace hP : va_P (dC, dI) vwCl [(nd, .inr (5, [.int nh, .int nl, .int nwa, .int nfr, .int (nI nwi), .ref r, .ref nt, .ref ns, .ref ib, .ref gs, .ref cs, .ref nu, .int 0, .int 2, .int (nI nad), .int (nI ncc), .int 0, .int 0])), (ns, .inr (7, [.int 1, .int (nI (np_ + 1)), .int (nI (tm + 50)), .ref mm])), (r, .inr (6, [.int rh, .int rl, .ref st, .ref ck, .ref ck, .int 0, .int 1, .int 1, .int 0, .int 0, .ref rf, .int 0])), (st, .inr (8, [.ref ml, .null])), (ck, .inr (1, [.ref ce, .null])), (ce, .inl (cJ, 128, .inr (.inl fE2_2))), (mm, .inr (4, [.int (nI mi), .int (nI mt), .int (nI mg), .int (nI ms), .int sd, .null]))] H := hP
  have hw := hw.symm
  subst hw
  refine lv_icmp_le (tgt := 110) hx hb dX4_sendOn_99 (by decide) (fun c_6 => ?_) (fun c_6 => ?_)
  rotate_left
  · exact absurd ((nI_leI (a := (np_ + 1)) (b := ((ms + 6) / 7)) (by omega) (by omega)).mpr (by omega)) c_6
  have hP9 := hP.sub (ws' := [(nd, .inr (5, [.int nh, .int nl, .int nwa, .int nfr, .int (nI nwi), .ref r, .ref nt, .ref ns, .ref ib, .ref gs, .ref cs, .ref nu, .int 0, .int 2, .int (nI nad), .int (nI ncc), .int 0, .int 0])), (ns, .inr (7, [.int 1, .int (nI (np_ + 1)), .int (nI (tm + 50)), .ref mm])), (mm, .inr (4, [.int (nI mi), .int (nI mt), .int (nI mg), .int (nI ms), .int sd, .null])), (r, .inr (6, [.int rh, .int rl, .ref st, .ref ck, .ref ck, .int 0, .int 1, .int 1, .int 0, .int 0, .ref rf, .int 0])), (st, .inr (8, [.ref ml, .null])), (ck, .inr (1, [.ref ce, .null])), (ce, .inl (cJ, 128, .inr (.inl fE2_2)))]) [0, 1, 6, 2, 3, 4, 5] rfl
  have hD9 := hD.sub (ws' := [(nd, .inr (5, [.int nh, .int nl, .int nwa, .int nfr, .int (nI nwi), .ref r, .ref nt, .ref ns, .ref ib, .ref gs, .ref cs, .ref nu, .int 0, .int 2, .int (nI nad), .int (nI ncc), .int 0, .int 0])), (ns, .inr (7, [.int 1, .int (nI (np_ + 1)), .int (nI (tm + 50)), .ref mm])), (mm, .inr (4, [.int (nI mi), .int (nI mt), .int (nI mg), .int (nI ms), .int sd, .null])), (r, .inr (6, [.int rh, .int rl, .ref st, .ref ck, .ref ck, .int 0, .int 1, .int 1, .int 0, .int 0, .ref rf, .int 0])), (st, .inr (8, [.ref ml, .null])), (ck, .inr (1, [.ref ce, .null])), (ce, .inl (cJ, 128, .inr (.inl fE2_2)))]) [0, 1, 6, 2, 3, 4, 5] (by decide +kernel) rfl
  have hK9 := hK.sub (tys' := [(cJ, .long)]) [0] rfl
  exact W.vret hx hb hr (fun t ht hW => ⟨⟨(), rfl, trivial, ⟨fE2_2, by rw [ht]; exact hP9, va_K.moved hW.alike hK9, hD9, hlo_2.trans (congrArg nI (by omega)), hhi_2⟩⟩, hS.F ht⟩) hS.2.2 dX4_sendOn_110

noncomputable def tl_c_runTimers_somid : List Cond := wsX40 ++ (wsX60 ++ (v_c_sendOn_mid ++ (v_c_AL_size)))
noncomputable def v_c_runTimers_somid : List Cond := .code yX4_runTimers cX4_runTimers 6 none :: ([.fieldLink RX4 53 "ClaimBus$Node" "state" "I", .fieldLink RX4 21 "ClaimBus$Node" "sending" "LClaimBus$Sending;", .fieldLink RX4 121 "ClaimBus$Sending" "state" "I", .fieldLink RX4 140 "ClaimBus$Sending" "due" "I", .initialized RX4, .methodLink RX4 156 yX4_sendOn, .instanceMethod yX4_sendOn, .selects RX4 yX4_sendOn yX4_sendOn, .fieldLink RX4 41 "ClaimBus$Node" "collects" "Ljava/util/ArrayList;", .initialized RJx4a65c, .methodLink RX4 96 yJx4a65c_size_8abf5, .instanceMethod yJx4a65c_size_8abf5, .selects RJx4a65c yJx4a65c_size_8abf5 yJx4a65c_size_8abf5, .fieldLink RX4 34 "ClaimBus$Node" "gets" "[LClaimBus$Transport;"] ++ tl_c_runTimers_somid)
theorem it_c_runTimers_somid : ∀ w ∈ tl_c_runTimers_somid, w ∈ v_c_runTimers_somid := fun w h => List.mem_cons_of_mem _ (List.mem_append_right _ h)
theorem in_c_runTimers_somid_X4 : ∀ w ∈ wsX40, w ∈ v_c_runTimers_somid := fun w h => it_c_runTimers_somid w (List.mem_append_left _ h)
theorem in_c_runTimers_somid_X6 : ∀ w ∈ wsX60, w ∈ v_c_runTimers_somid := fun w h => it_c_runTimers_somid w (List.mem_append_right _ (List.mem_append_left _ h))
theorem ic_c_runTimers_somid_c_sendOn_mid : ∀ w ∈ v_c_sendOn_mid, w ∈ v_c_runTimers_somid := fun w h => it_c_runTimers_somid w (List.mem_append_right _ (List.mem_append_right _ (List.mem_append_left _ h)))
theorem ic_c_runTimers_somid_c_AL_size : ∀ w ∈ v_c_AL_size, w ∈ v_c_runTimers_somid := fun w h => it_c_runTimers_somid w (List.mem_append_right _ (List.mem_append_right _ (List.mem_append_right _ (h))))
theorem gt_c_runTimers_somid : ∀ w ∈ tl_c_runTimers_somid, goodWord w = true := List.forall_mem_append.mpr ⟨gw_wsX40, List.forall_mem_append.mpr ⟨gw_wsX60, List.forall_mem_append.mpr ⟨gw_c_sendOn_mid, gw_c_AL_size⟩⟩⟩
theorem gw_c_runTimers_somid : ∀ w ∈ v_c_runTimers_somid, goodWord w = true := List.forall_mem_cons.mpr ⟨by decide +kernel, List.forall_mem_append.mpr ⟨List.all_eq_true.mp (by decide +kernel), gt_c_runTimers_somid⟩⟩
theorem g_c_runTimers_somid_c_sendOn_mid_156 : GoodIn v_c_runTimers_somid (wsV RX4 156 RX4 yX4_sendOn v_c_sendOn_mid) := goodIn_app (goodIn_r [.methodLink RX4 156 yX4_sendOn, .instanceMethod yX4_sendOn, .selects RX4 yX4_sendOn yX4_sendOn, .initialized RX4] [6, 7, 8, 5] (by decide +kernel) (by decide +kernel)) (fun w h => ⟨ic_c_runTimers_somid_c_sendOn_mid w h, good_of_word (gw_c_sendOn_mid w h)⟩)
theorem g_c_runTimers_somid_c_AL_size_96 : GoodIn v_c_runTimers_somid (wsV RX4 96 RJx4a65c yJx4a65c_size_8abf5 v_c_AL_size) := goodIn_app (goodIn_r [.methodLink RX4 96 yJx4a65c_size_8abf5, .instanceMethod yJx4a65c_size_8abf5, .selects RJx4a65c yJx4a65c_size_8abf5 yJx4a65c_size_8abf5, .initialized RJx4a65c] [11, 12, 13, 10] (by decide +kernel) (by decide +kernel)) (fun w h => ⟨ic_c_runTimers_somid_c_AL_size w h, good_of_word (gw_c_AL_size w h)⟩)
set_option maxHeartbeats 4000000 in
set_option maxRecDepth 100000 in
/-- Node.runTimers: a packet to all -/
theorem c_runTimers_somid (l : Launch) (dC : Nat → ClassId) (dI : Nat → Nat → Nat) (nd : Nat) (nh : Int32) (nl : Int32) (nwa : Int32) (nfr : Int32) (nwi : Nat) (r : Nat) (nt : Nat) (ns : Nat) (ib : Nat) (gs : Nat) (cs : Nat) (nu : Nat) (nad : Nat) (ncc : Nat) (rh : Int32) (rl : Int32) (st : Nat) (rf : Nat) (hp : Int32) (tp : Int32) (ml : Nat) (ck : Nat) (ce : Nat) (cJ : ClassId) (fE : Nat → Int64) (mm : Nat) (mi : Nat) (mt : Nat) (mg : Nat) (ms : Nat) (sd : Int32) (np_ : Nat) (sdu : Nat) (cm : Nat) (ce_ : Nat) (cT : ClassId) (fg : Nat → Option Nat) (sz : Nat) (hmi : mi < 8) (hmt : mt < 256) (hmg : mg < 262144) (hms : ms < 1786) (hmt2 : mt = 255) (hms1 : 9 ≤ ms) (hnp : 1 ≤ np_ ∧ np_ < 256) (htm : sdu < 200000) (hpk : np_ + 1 ≤ (ms + 6) / 7) (g0 : fg 0 = none) (g1 : fg 1 = none) (g2 : fg 2 = none) : Met l yX4_runTimers v_c_runTimers_somid ({ frames := 3, cells := 0, slots := 0, locals := 70 }) (va_Pc [.ref nd, .int (nI sdu)] (fun U => U.heap.size = sz ∧ va_P (dC, dI) vwCl [(nd, .inr (5, [.int nh, .int nl, .int nwa, .int nfr, .int (nI nwi), .ref r, .ref nt, .ref ns, .ref ib, .ref gs, .ref cs, .ref nu, .int 0, .int 2, .int (nI nad), .int (nI ncc), .int 0, .int 0])), (ns, .inr (7, [.int 1, .int (nI np_), .int (nI sdu), .ref mm])), (mm, .inr (4, [.int (nI mi), .int (nI mt), .int (nI mg), .int (nI ms), .int sd, .null])), (r, .inr (6, [.int rh, .int rl, .ref st, .null, .null, .int hp, .int tp, .int 0, .int 0, .int 0, .ref rf, .int 0])), (st, .inr (8, [.ref ml, .ref ck])), (ck, .inr (1, [.ref ce, .null])), (ce, .inl (cJ, 128, .inr (.inl fE))), (cs, .inr (0, [.int (nI cm), .ref ce_, .int 0])), (gs, .inl (cT, 3, .inr (.inr (.inr (.inr fg)))))] U.heap ∧ va_K (dC, dI) vwCl [(cJ, .long), (cT, (.object RX9))] U ∧ va_D (fun _ => True) [(nd, .inr (5, [.int nh, .int nl, .int nwa, .int nfr, .int (nI nwi), .ref r, .ref nt, .ref ns, .ref ib, .ref gs, .ref cs, .ref nu, .int 0, .int 2, .int (nI nad), .int (nI ncc), .int 0, .int 0])), (ns, .inr (7, [.int 1, .int (nI np_), .int (nI sdu), .ref mm])), (mm, .inr (4, [.int (nI mi), .int (nI mt), .int (nI mg), .int (nI ms), .int sd, .null])), (r, .inr (6, [.int rh, .int rl, .ref st, .null, .null, .int hp, .int tp, .int 0, .int 0, .int 0, .ref rf, .int 0])), (st, .inr (8, [.ref ml, .ref ck])), (ck, .inr (1, [.ref ce, .null])), (ce, .inl (cJ, 128, .inr (.inl fE))), (cs, .inr (0, [.int (nI cm), .ref ce_, .int 0])), (gs, .inl (cT, 3, .inr (.inr (.inr (.inr fg)))))] ∧ ev U)) (va_Qv (fun _ : Unit => True) (fun (_ : Unit) (t : State) => ∃ (fE2 : Nat → Int64), va_P (dC, dI) vwCl [(nd, .inr (5, [.int nh, .int nl, .int nwa, .int nfr, .int (nI nwi), .ref r, .ref nt, .ref ns, .ref ib, .ref gs, .ref cs, .ref nu, .int 0, .int 2, .int (nI nad), .int (nI ncc), .int 0, .int 0])), (ns, .inr (7, [.int 1, .int (nI (np_ + 1)), .int (nI (sdu + 50)), .ref mm])), (mm, .inr (4, [.int (nI mi), .int (nI mt), .int (nI mg), .int (nI ms), .int sd, .null])), (r, .inr (6, [.int rh, .int rl, .ref st, .ref ck, .ref ck, .int 0, .int 1, .int 1, .int 0, .int 0, .ref rf, .int 0])), (st, .inr (8, [.ref ml, .null])), (ck, .inr (1, [.ref ce, .null])), (ce, .inl (cJ, 128, .inr (.inl fE2))), (cs, .inr (0, [.int (nI cm), .ref ce_, .int 0])), (gs, .inl (cT, 3, .inr (.inr (.inr (.inr fg)))))] t.heap ∧ va_K (dC, dI) vwCl [(cJ, .long), (cT, (.object RX9))] t ∧ va_D (va_A [(nd, .inr (5, [.int nh, .int nl, .int nwa, .int nfr, .int (nI nwi), .ref r, .ref nt, .ref ns, .ref ib, .ref gs, .ref cs, .ref nu, .int 0, .int 2, .int (nI nad), .int (nI ncc), .int 0, .int 0])), (ns, .inr (7, [.int 1, .int (nI np_), .int (nI sdu), .ref mm])), (mm, .inr (4, [.int (nI mi), .int (nI mt), .int (nI mg), .int (nI ms), .int sd, .null])), (r, .inr (6, [.int rh, .int rl, .ref st, .null, .null, .int hp, .int tp, .int 0, .int 0, .int 0, .ref rf, .int 0])), (st, .inr (8, [.ref ml, .ref ck])), (ck, .inr (1, [.ref ce, .null])), (ce, .inl (cJ, 128, .inr (.inl fE))), (cs, .inr (0, [.int (nI cm), .ref ce_, .int 0])), (gs, .inl (cT, 3, .inr (.inr (.inr (.inr fg)))))] sz) [(nd, .inr (5, [.int nh, .int nl, .int nwa, .int nfr, .int (nI nwi), .ref r, .ref nt, .ref ns, .ref ib, .ref gs, .ref cs, .ref nu, .int 0, .int 2, .int (nI nad), .int (nI ncc), .int 0, .int 0])), (ns, .inr (7, [.int 1, .int (nI (np_ + 1)), .int (nI (sdu + 50)), .ref mm])), (mm, .inr (4, [.int (nI mi), .int (nI mt), .int (nI mg), .int (nI ms), .int sd, .null])), (r, .inr (6, [.int rh, .int rl, .ref st, .ref ck, .ref ck, .int 0, .int 1, .int 1, .int 0, .int 0, .ref rf, .int 0])), (st, .inr (8, [.ref ml, .null])), (ck, .inr (1, [.ref ce, .null])), (ce, .inl (cJ, 128, .inr (.inl fE2))), (cs, .inr (0, [.int (nI cm), .ref ce_, .int 0])), (gs, .inl (cT, 3, .inr (.inr (.inr (.inr fg)))))] ∧ ((fE2 0).toInt32 = (nI (16777216 * 255 + 65536 * 235 + 256 * 1 + np_))) ∧ ((fE2 0 >>> ((32 : Int32).toInt64 &&& 63)).toInt32 = (nI mi))) (va_A [(nd, .inr (5, [.int nh, .int nl, .int nwa, .int nfr, .int (nI nwi), .ref r, .ref nt, .ref ns, .ref ib, .ref gs, .ref cs, .ref nu, .int 0, .int 2, .int (nI nad), .int (nI ncc), .int 0, .int 0])), (ns, .inr (7, [.int 1, .int (nI np_), .int (nI sdu), .ref mm])), (mm, .inr (4, [.int (nI mi), .int (nI mt), .int (nI mg), .int (nI ms), .int sd, .null])), (r, .inr (6, [.int rh, .int rl, .ref st, .null, .null, .int hp, .int tp, .int 0, .int 0, .int 0, .ref rf, .int 0])), (st, .inr (8, [.ref ml, .ref ck])), (ck, .inr (1, [.ref ce, .null])), (ce, .inl (cJ, 128, .inr (.inl fE))), (cs, .inr (0, [.int (nI cm), .ref ce_, .int 0])), (gs, .inl (cT, 3, .inr (.inr (.inr (.inr fg)))))] sz)) 0 0 (va_A [(nd, .inr (5, [.int nh, .int nl, .int nwa, .int nfr, .int (nI nwi), .ref r, .ref nt, .ref ns, .ref ib, .ref gs, .ref cs, .ref nu, .int 0, .int 2, .int (nI nad), .int (nI ncc), .int 0, .int 0])), (ns, .inr (7, [.int 1, .int (nI np_), .int (nI sdu), .ref mm])), (mm, .inr (4, [.int (nI mi), .int (nI mt), .int (nI mg), .int (nI ms), .int sd, .null])), (r, .inr (6, [.int rh, .int rl, .ref st, .null, .null, .int hp, .int tp, .int 0, .int 0, .int 0, .ref rf, .int 0])), (st, .inr (8, [.ref ml, .ref ck])), (ck, .inr (1, [.ref ce, .null])), (ce, .inl (cJ, 128, .inr (.inl fE))), (cs, .inr (0, [.int (nI cm), .ref ce_, .int 0])), (gs, .inl (cT, 3, .inr (.inr (.inr (.inr fg)))))] sz) := by
  refine Met.ofW (cc := cX4_runTimers) (maxL := 6) (ret := none) (by decide) rfl ?_
  intro p e s m args below meth c s₁ B hml hv
  obtain ⟨rfl, hsz, hP, hK, hD0, hE⟩ := hv
  have hx := B.exec
  have hb := B.bytes
  have hr := B.returns
  have hts := atoms_spec (ws := v_c_runTimers_somid) B.pre
  have hown : s.vm.findClass RX4 = some m.cls := findClass_of_methodNamed B.named
  have hlocks := B.notSynchronized
  subst hsz
  have hD := hD0.self (sz := s.heap.size)
  generalize hAe : va_A [(nd, .inr (5, [.int nh, .int nl, .int nwa, .int nfr, .int (nI nwi), .ref r, .ref nt, .ref ns, .ref ib, .ref gs, .ref cs, .ref nu, .int 0, .int 2, .int (nI nad), .int (nI ncc), .int 0, .int 0])), (ns, .inr (7, [.int 1, .int (nI np_), .int (nI sdu), .ref mm])), (mm, .inr (4, [.int (nI mi), .int (nI mt), .int (nI mg), .int (nI ms), .int sd, .null])), (r, .inr (6, [.int rh, .int rl, .ref st, .null, .null, .int hp, .int tp, .int 0, .int 0, .int 0, .ref rf, .int 0])), (st, .inr (8, [.ref ml, .ref ck])), (ck, .inr (1, [.ref ce, .null])), (ce, .inl (cJ, 128, .inr (.inl fE))), (cs, .inr (0, [.int (nI cm), .ref ce_, .int 0])), (gs, .inl (cT, 3, .inr (.inr (.inr (.inr fg)))))] s.heap.size = A at hD ⊢
  have hA : ∀ q : Nat, s.heap.size ≤ q → A q := fun q h => by rw [← hAe]; exact Or.inr h
  have hS : va_S A s.heap s.heap [] := va_S.rf
  replace hP : va_P (dC, dI) vwCl [(nd, .inr (5, [.int nh, .int nl, .int nwa, .int nfr, .int (nI nwi), .ref r, .ref nt, .ref ns, .ref ib, .ref gs, .ref cs, .ref nu, .int 0, .int 2, .int (nI nad), .int (nI ncc), .int 0, .int 0])), (ns, .inr (7, [.int 1, .int (nI np_), .int (nI sdu), .ref mm])), (mm, .inr (4, [.int (nI mi), .int (nI mt), .int (nI mg), .int (nI ms), .int sd, .null])), (r, .inr (6, [.int rh, .int rl, .ref st, .null, .null, .int hp, .int tp, .int 0, .int 0, .int 0, .ref rf, .int 0])), (st, .inr (8, [.ref ml, .ref ck])), (ck, .inr (1, [.ref ce, .null])), (ce, .inl (cJ, 128, .inr (.inl fE))), (cs, .inr (0, [.int (nI cm), .ref ce_, .int 0])), (gs, .inl (cT, 3, .inr (.inr (.inr (.inr fg)))))] s.heap := hP
  have hl := lv_entry ([.ref nd, .int (nI sdu)]) (n := 6) (Nat.le_of_ble_eq_true rfl)
  rw [lg_entry_eq]
  generalize (lg_sl ([.ref nd, .int (nI sdu)]) ++ List.replicate (6 - (lg_sl ([.ref nd, .int (nI sdu)])).length) Slot.unset).toArray = ls at hl ⊢
  replace hl : lv_has ls 6 [(0, .ref nd), (1, .int (nI sdu))] := hl
  obtain ⟨H, hH⟩ : ∃ z : Heap, z = s.heap := ⟨_, rfl⟩
  rw [← hH]
  replace hS : va_S A s.heap H [] := by rw [hH]; exact va_S.rf
  replace hP : va_P (dC, dI) vwCl [(nd, .inr (5, [.int nh, .int nl, .int nwa, .int nfr, .int (nI nwi), .ref r, .ref nt, .ref ns, .ref ib, .ref gs, .ref cs, .ref nu, .int 0, .int 2, .int (nI nad), .int (nI ncc), .int 0, .int 0])), (ns, .inr (7, [.int 1, .int (nI np_), .int (nI sdu), .ref mm])), (mm, .inr (4, [.int (nI mi), .int (nI mt), .int (nI mg), .int (nI ms), .int sd, .null])), (r, .inr (6, [.int rh, .int rl, .ref st, .null, .null, .int hp, .int tp, .int 0, .int 0, .int 0, .ref rf, .int 0])), (st, .inr (8, [.ref ml, .ref ck])), (ck, .inr (1, [.ref ce, .null])), (ce, .inl (cJ, 128, .inr (.inl fE))), (cs, .inr (0, [.int (nI cm), .ref ce_, .int 0])), (gs, .inl (cT, 3, .inr (.inr (.inr (.inr fg)))))] H := by rw [hH]; exact hP
  clear hH
  refine lv_aload_n hx hb dX4_runTimers_0 rfl (lv_at hl 0 rfl) ?_
  refine va_get (D := (dC, dI)) (ci := 5) (v := .int 2) (C := RX4) (T := TX4) (N := 18) hx hb hts in_c_runTimers_somid_X4 hown hK hP 0 rfl rfl 13 (by decide) (hts (.fieldLink RX4 53 "ClaimBus$Node" "state" "I") (List.mem_of_getElem? (i := 1) rfl)) (fun _ h9 => h9) rfl dX4_runTimers_1 ?_
  refine lv_iconst (v := 1) hx hb dX4_runTimers_4 (by decide) ?_
  refine lv_icmp_ne (tgt := 33) hx hb dX4_runTimers_5 (by decide) (fun c_1 => ?_) (fun c_1 => ?_)
  rotate_left
  · exact absurd c_1 (by decide)
  refine lv_aload_n hx hb dX4_runTimers_33 rfl (lv_at hl 0 rfl) ?_
  refine va_get (D := (dC, dI)) (ci := 5) (v := .ref ns) (C := RX4) (T := TX4) (N := 18) hx hb hts in_c_runTimers_somid_X4 hown hK hP 0 rfl rfl 7 (by decide) (hts (.fieldLink RX4 21 "ClaimBus$Node" "sending" "LClaimBus$Sending;") (List.mem_of_getElem? (i := 2) rfl)) (fun _ h9 => h9) rfl dX4_runTimers_34 ?_
  refine va_get (D := (dC, dI)) (ci := 7) (v := .int 1) (C := RX6) (T := TX6) (N := 4) hx hb hts in_c_runTimers_somid_X6 hown hK hP 1 rfl rfl 0 (by decide) (hts (.fieldLink RX4 121 "ClaimBus$Sending" "state" "I") (List.mem_of_getElem? (i := 3) rfl)) (fun _ h9 => h9) rfl dX4_runTimers_37 ?_
  refine lv_iconst (v := 1) hx hb dX4_runTimers_40 (by decide) ?_
  refine lv_icmp_ne (tgt := 60) hx hb dX4_runTimers_41 (by decide) (fun c_2 => ?_) (fun c_2 => ?_)
  · exact absurd c_2 (by decide)
  refine lv_iload_n hx hb dX4_runTimers_44 rfl (lv_at hl 1 rfl) ?_
  refine lv_aload_n hx hb dX4_runTimers_45 rfl (lv_at hl 0 rfl) ?_
  refine va_get (D := (dC, dI)) (ci := 5) (v := .ref ns) (C := RX4) (T := TX4) (N := 18) hx hb hts in_c_runTimers_somid_X4 hown hK hP 0 rfl rfl 7 (by decide) (hts (.fieldLink RX4 21 "ClaimBus$Node" "sending" "LClaimBus$Sending;") (List.mem_of_getElem? (i := 2) rfl)) (fun _ h9 => h9) rfl dX4_runTimers_46 ?_
  refine va_get (D := (dC, dI)) (ci := 7) (v := .int (nI sdu)) (C := RX6) (T := TX6) (N := 4) hx hb hts in_c_runTimers_somid_X6 hown hK hP 1 rfl rfl 2 (by decide) (hts (.fieldLink RX4 140 "ClaimBus$Sending" "due" "I") (List.mem_of_getElem? (i := 4) rfl)) (fun _ h9 => h9) rfl dX4_runTimers_49 ?_
  refine lv_icmp_lt (tgt := 60) hx hb dX4_runTimers_52 (by decide) (fun c_3 => ?_) (fun c_3 => ?_)
  · exact absurd ((nI_ltI (a := sdu) (b := sdu) (by omega) (by omega)).mp c_3) (by omega)
  refine lv_aload_n hx hb dX4_runTimers_55 rfl (lv_at hl 0 rfl) ?_
  refine lv_iload_n hx hb dX4_runTimers_56 rfl (lv_at hl 1 rfl) ?_
  have hPc := hP.sub (ws' := [(nd, .inr (5, [.int nh, .int nl, .int nwa, .int nfr, .int (nI nwi), .ref r, .ref nt, .ref ns, .ref ib, .ref gs, .ref cs, .ref nu, .int 0, .int 2, .int (nI nad), .int (nI ncc), .int 0, .int 0])), (ns, .inr (7, [.int 1, .int (nI np_), .int (nI sdu), .ref mm])), (mm, .inr (4, [.int (nI mi), .int (nI mt), .int (nI mg), .int (nI ms), .int sd, .null])), (r, .inr (6, [.int rh, .int rl, .ref st, .null, .null, .int hp, .int tp, .int 0, .int 0, .int 0, .ref rf, .int 0])), (st, .inr (8, [.ref ml, .ref ck])), (ck, .inr (1, [.ref ce, .null])), (ce, .inl (cJ, 128, .inr (.inl fE)))]) [0, 1, 2, 3, 4, 5, 6] rfl
  have hDc := hD.sub (ws' := [(nd, .inr (5, [.int nh, .int nl, .int nwa, .int nfr, .int (nI nwi), .ref r, .ref nt, .ref ns, .ref ib, .ref gs, .ref cs, .ref nu, .int 0, .int 2, .int (nI nad), .int (nI ncc), .int 0, .int 0])), (ns, .inr (7, [.int 1, .int (nI np_), .int (nI sdu), .ref mm])), (mm, .inr (4, [.int (nI mi), .int (nI mt), .int (nI mg), .int (nI ms), .int sd, .null])), (r, .inr (6, [.int rh, .int rl, .ref st, .null, .null, .int hp, .int tp, .int 0, .int 0, .int 0, .ref rf, .int 0])), (st, .inr (8, [.ref ml, .ref ck])), (ck, .inr (1, [.ref ce, .null])), (ce, .inl (cJ, 128, .inr (.inl fE)))]) [0, 1, 2, 3, 4, 5, 6] (by decide +kernel) rfl
  have hKc := hK.sub (tys' := [(cJ, .long)]) [0] rfl
  have hFc := va_free (wc := [(nd, .inr (5, [.int nh, .int nl, .int nwa, .int nfr, .int (nI nwi), .ref r, .ref nt, .ref ns, .ref ib, .ref gs, .ref cs, .ref nu, .int 0, .int 2, .int (nI nad), .int (nI ncc), .int 0, .int 0])), (ns, .inr (7, [.int 1, .int (nI np_), .int (nI sdu), .ref mm])), (mm, .inr (4, [.int (nI mi), .int (nI mt), .int (nI mg), .int (nI ms), .int sd, .null])), (r, .inr (6, [.int rh, .int rl, .ref st, .null, .null, .int hp, .int tp, .int 0, .int 0, .int 0, .ref rf, .int 0])), (st, .inr (8, [.ref ml, .ref ck])), (ck, .inr (1, [.ref ce, .null])), (ce, .inl (cJ, 128, .inr (.inl fE)))]) hD hS hA [0, 1, 2, 3, 4, 5, 6] rfl
  refine va_callv (va_runV (As := [.int (nI sdu)]) (rest := []) ⟨hx, hb, hml, hown, hts⟩ (c_sendOn_mid l dC dI (nd) (nh) (nl) (nwa) (nfr) (nwi) (r) (nt) (ns) (ib) (gs) (cs) (nu) (nad) (ncc) (rh) (rl) (st) (rf) (hp) (tp) (ml) (ck) (ce) (cJ) (fE) (mm) (mi) (mt) (mg) (ms) (sd) (np_) (sdu) (sdu) H.size hmi hmt hmg hms hmt2 hms1 hnp htm hpk) (cwV 1 hts g_c_runTimers_somid_c_sendOn_mid_156 rfl rfl rfl (by decide +kernel) ⟨Nat.le_of_ble_eq_true rfl, Nat.le_of_ble_eq_true rfl⟩) ⟨fun a U g mk q => by obtain ⟨q0, q1, qP, qK, qD, qE⟩ := q; exact ⟨q0, q1, qP, va_K.moved (u := U) (U := U.calling g mk a) (Vm.Alike.refl U.vm) qK, qD, ev.same (u := U) (U := U.calling g mk a) rfl qE⟩, va_recv hKc hPc (ci := 5) (q0 := 0) rfl rfl, fun U hU hW => ⟨rfl, by rw [hU], by rw [hU]; exact hPc, va_K.moved hW.alike hKc, hDc.weaken (fun _ _ _ _ => trivial), hE.warm hW⟩⟩ rfl rfl hl.1 rfl (lv_room (Nat.le_of_ble_eq_true rfl)) dX4_runTimers_57 ⟨Nat.le_of_ble_eq_true rfl, Nat.le_of_ble_eq_true rfl⟩) hS (fun q _ h => hFc q h) hFc (fun u t H1 locs ht hvm hw hB hz1 hk1 hS => ?_)
  clear hPc hDc hKc
  obtain ⟨fE2_4, hP1, hK1, hD1, hlo_4, hhi_4⟩ := hB
  rw [ht] at hP1
  have hK1 := va_K.moved hvm.symm hK1
  obtain ⟨hP, hD⟩ := va_join (wr := [(cs, .inr (0, [.int (nI cm), .ref ce_, .int 0])), (gs, .inl (cT, 3, .inr (.inr (.inr (.inr fg)))))]) (w1 := [(nd, .inr (5, [.int nh, .int nl, .int nwa, .int nfr, .int (nI nwi), .ref r, .ref nt, .ref ns, .ref ib, .ref gs, .ref cs, .ref nu, .int 0, .int 2, .int (nI nad), .int (nI ncc), .int 0, .int 0])), (ns, .inr (7, [.int 1, .int (nI (np_ + 1)), .int (nI (sdu + 50)), .ref mm])), (mm, .inr (4, [.int (nI mi), .int (nI mt), .int (nI mg), .int (nI ms), .int sd, .null])), (r, .inr (6, [.int rh, .int rl, .ref st, .ref ck, .ref ck, .int 0, .int 1, .int 1, .int 0, .int 0, .ref rf, .int 0])), (st, .inr (8, [.ref ml, .null])), (ck, .inr (1, [.ref ce, .null])), (ce, .inl (cJ, 128, .inr (.inl fE2_4)))]) hP hD [0, 1, 2, 3, 4, 5, 6] [7, 8] rfl rfl (by decide +kernel) (by decide +kernel) hk1 hFc hP1 hD1
  generalize H1 = H at hP hS ⊢
  replace hP : va_P (dC, dI) vwCl [(cs, .inr (0, [.int (nI cm), .ref ce_, .int 0])), (gs, .inl (cT, 3, .inr (.inr (.inr (.inr fg))))), (nd, .inr (5, [.int nh, .int nl, .int nwa, .int nfr, .int (nI nwi), .ref r, .ref nt, .ref ns, .ref ib, .ref gs, .ref cs, .ref nu, .int 0, .int 2, .int (nI nad), .int (nI ncc), .int 0, .int 0])), (ns, .inr (7, [.int 1, .int (nI (np_ + 1)), .int (nI (sdu + 50)), .ref mm])), (mm, .inr (4, [.int (nI mi), .int (nI mt), .int (nI mg), .int (nI ms), .int sd, .null])), (r, .inr (6, [.int rh, .int rl, .ref st, .ref ck, .ref ck, .int 0, .int 1, .int 1, .int 0, .int 0, .ref rf, .int 0])), (st, .inr (8, [.ref ml, .null])), (ck, .inr (1, [.ref ce, .null])), (ce, .inl (cJ, 128, .inr (.inl fE2_4)))] H := hP
  replace hD : va_D A [(cs, .inr (0, [.int (nI cm), .ref ce_, .int 0])), (gs, .inl (cT, 3, .inr (.inr (.inr (.inr fg))))), (nd, .inr (5, [.int nh, .int nl, .int nwa, .int nfr, .int (nI nwi), .ref r, .ref nt, .ref ns, .ref ib, .ref gs, .ref cs, .ref nu, .int 0, .int 2, .int (nI nad), .int (nI ncc), .int 0, .int 0])), (ns, .inr (7, [.int 1, .int (nI (np_ + 1)), .int (nI (sdu + 50)), .ref mm])), (mm, .inr (4, [.int (nI mi), .int (nI mt), .int (nI mg), .int (nI ms), .int sd, .null])), (r, .inr (6, [.int rh, .int rl, .ref st, .ref ck, .ref ck, .int 0, .int 1, .int 1, .int 0, .int 0, .ref rf, .int 0])), (st, .inr (8, [.ref ml, .null])), (ck, .inr (1, [.ref ce, .null])), (ce, .inl (cJ, 128, .inr (.inl fE2_4)))] := hD
  clear hw
  refine lv_iconst (v := 0) hx hb dX4_runTimers_60 (by decide) ?_
  refine lv_istore_n (lv' := [(2, .int 0), (0, .ref nd), (1, .int (nI sdu))]) hx hb dX4_runTimers_61 rfl hl (by decide) rfl (fun ls hl => ?_)
  refine lv_iload_n hx hb dX4_runTimers_62 rfl (lv_at hl 0 rfl) ?_
  refine lv_aload_n hx hb dX4_runTimers_63 rfl (lv_at hl 1 rfl) ?_
  refine va_get (D := (dC, dI)) (ci := 5) (v := .ref cs) (C := RX4) (T := TX4) (N := 18) hx hb hts in_c_runTimers_somid_X4 hown hK hP 2 rfl rfl 10 (by decide) (hts (.fieldLink RX4 41 "ClaimBus$Node" "collects" "Ljava/util/ArrayList;") (List.mem_of_getElem? (i := 9) rfl)) (fun _ h9 => h9) rfl dX4_runTimers_64 ?_
  have hPc := hP.sub (ws' := [(cs, .inr (0, [.int (nI cm), .ref ce_, .int (nI 0)]))]) [0] rfl
  have hDc := hD.sub (ws' := [(cs, .inr (0, [.int (nI cm), .ref ce_, .int (nI 0)]))]) [0] (by decide +kernel) rfl
  have hKc := hK.sub (tys' := []) [] rfl
  have hFc := ro_free hS hA
  refine va_calli (va_runV (As := []) (rest := [.int 0]) ⟨hx, hb, hml, hown, hts⟩ (c_AL_size l dC dI (cs) (cm) (ce_) (0) H.size) (cwV 0 hts g_c_runTimers_somid_c_AL_size_96 rfl rfl rfl (by decide +kernel) ⟨Nat.le_of_ble_eq_true rfl, Nat.le_of_ble_eq_true rfl⟩) ⟨fun a U g mk q => by obtain ⟨q0, q1, qP, qK, qD, qE⟩ := q; exact ⟨q0, q1, qP, va_K.moved (u := U) (U := U.calling g mk a) (Vm.Alike.refl U.vm) qK, qD, ev.same (u := U) (U := U.calling g mk a) rfl qE⟩, va_recv hKc hPc (ci := 0) (q0 := 0) rfl rfl, fun U hU hW => ⟨rfl, by rw [hU], by rw [hU]; exact hPc, va_K.moved hW.alike hKc, hDc.weaken (fun _ _ _ _ => trivial), hE.warm hW⟩⟩ rfl rfl hl.1 rfl (lv_room (Nat.le_of_ble_eq_true rfl)) dX4_runTimers_67 ⟨Nat.le_of_ble_eq_true rfl, Nat.le_of_ble_eq_true rfl⟩) hS (fun q _ h => hFc q h) hFc (fun r_5 u t H1 locs ht hvm hw hB hz1 hk1 hS => ?_)
  clear hPc hDc hKc
  replace hP := ro_keep hP hk1
  generalize H1 = H at hP hS ⊢
  replace hP : va_P (dC, dI) vwCl [(cs, .inr (0, [.int (nI cm), .ref ce_, .int 0])), (gs, .inl (cT, 3, .inr (.inr (.inr (.inr fg))))), (nd, .inr (5, [.int nh, .int nl, .int nwa, .int nfr, .int (nI nwi), .ref r, .ref nt, .ref ns, .ref ib, .ref gs, .ref cs, .ref nu, .int 0, .int 2, .int (nI nad), .int (nI ncc), .int 0, .int 0])), (ns, .inr (7, [.int 1, .int (nI (np_ + 1)), .int (nI (sdu + 50)), .ref mm])), (mm, .inr (4, [.int (nI mi), .int (nI mt), .int (nI mg), .int (nI ms), .int sd, .null])), (r, .inr (6, [.int rh, .int rl, .ref st, .ref ck, .ref ck, .int 0, .int 1, .int 1, .int 0, .int 0, .ref rf, .int 0])), (st, .inr (8, [.ref ml, .null])), (ck, .inr (1, [.ref ce, .null])), (ce, .inl (cJ, 128, .inr (.inl fE2_4)))] H := hP
  have hw := hw.symm
  subst hw
  rw [show ((nI 0) : Int32) = 0 from (congrArg nI (show 0 = 0 from by omega)).trans (by decide)]
  refine lv_icmp_ge (tgt := 115) hx hb dX4_runTimers_70 (by decide) (fun c_6 => ?_) (fun c_6 => ?_)
  rotate_left
  · exact absurd (by decide) c_6
  refine lv_aload_n hx hb dX4_runTimers_115 rfl (lv_at hl 1 rfl) ?_
  refine va_get (D := (dC, dI)) (ci := 5) (v := .ref gs) (C := RX4) (T := TX4) (N := 18) hx hb hts in_c_runTimers_somid_X4 hown hK hP 2 rfl rfl 9 (by decide) (hts (.fieldLink RX4 34 "ClaimBus$Node" "gets" "[LClaimBus$Transport;") (List.mem_of_getElem? (i := 14) rfl)) (fun _ h9 => h9) rfl dX4_runTimers_116 ?_
  refine lv_astore_n (lv' := [(2, .ref gs), (0, .ref nd), (1, .int (nI sdu))]) hx hb dX4_runTimers_119 rfl hl (by decide) rfl (fun ls hl => ?_)
  refine lv_aload_n hx hb dX4_runTimers_120 rfl (lv_at hl 0 rfl) ?_
  refine va_alen hx hb hK hP 1 1 rfl rfl (v := 3) rfl dX4_runTimers_121 ?_
  refine lv_istore_n (lv' := [(3, .int 3), (2, .ref gs), (0, .ref nd), (1, .int (nI sdu))]) hx hb dX4_runTimers_122 rfl hl (by decide) rfl (fun ls hl => ?_)
  refine lv_iconst (v := 0) hx hb dX4_runTimers_123 (by decide) ?_
  refine lv_istore (lv' := [(4, .int 0), (3, .int 3), (2, .ref gs), (0, .ref nd), (1, .int (nI sdu))]) hx hb dX4_runTimers_124 hl (by decide) rfl (fun ls hl => ?_)
  refine lv_iload hx hb dX4_runTimers_126 (lv_at hl 0 rfl) ?_
  refine lv_iload_n hx hb dX4_runTimers_128 rfl (lv_at hl 1 rfl) ?_
  refine lv_icmp_ge (tgt := 177) hx hb dX4_runTimers_129 (by decide) (fun c_7 => ?_) (fun c_7 => ?_)
  · exact absurd c_7 (by decide)
  refine lv_aload_n hx hb dX4_runTimers_132 rfl (lv_at hl 2 rfl) ?_
  refine lv_iload hx hb dX4_runTimers_133 (lv_at hl 0 rfl) ?_
  refine va_aldq hx hb hK hP 1 1 rfl rfl (vp_in_nI (n := 0) (by omega) (by omega)) dX4_runTimers_135 ?_
  refine W.eq (g2 := F0 m 136 ls [.null]) (by rw [(show Int32.toNatClampNeg (0 : Int32) = 0 by decide), g0]; rfl) ?_
  refine lv_astoreN (lv' := [(5, .null), (4, .int 0), (3, .int 3), (2, .ref gs), (0, .ref nd), (1, .int (nI sdu))]) hx hb dX4_runTimers_136 hl (by decide) rfl (fun ls hl => ?_)
  refine lv_aloadN hx hb dX4_runTimers_138 (lv_at hl 0 rfl) ?_
  refine lv_ifnullN (tgt := 171) hx hb dX4_runTimers_140 (by decide) ?_
  refine lv_iinc (v := 1) (lv' := [(4, .int 1), (5, .null), (3, .int 3), (2, .ref gs), (0, .ref nd), (1, .int (nI sdu))]) hx hb dX4_runTimers_171 hl (k := 1) rfl (by decide) (by decide) rfl (fun ls hl => ?_)
  refine lv_goto (tgt := 126) hx hb dX4_runTimers_174 (by decide) ?_
  refine lv_iload hx hb dX4_runTimers_126 (lv_at hl 0 rfl) ?_
  refine lv_iload_n hx hb dX4_runTimers_128 rfl (lv_at hl 2 rfl) ?_
  refine lv_icmp_ge (tgt := 177) hx hb dX4_runTimers_129 (by decide) (fun c_8 => ?_) (fun c_8 => ?_)
  · exact absurd c_8 (by decide)
  refine lv_aload_n hx hb dX4_runTimers_132 rfl (lv_at hl 3 rfl) ?_
  refine lv_iload hx hb dX4_runTimers_133 (lv_at hl 0 rfl) ?_
  refine va_aldq hx hb hK hP 1 1 rfl rfl (vp_in_nI (n := 1) (by omega) (by omega)) dX4_runTimers_135 ?_
  refine W.eq (g2 := F0 m 136 ls [.null]) (by rw [(show Int32.toNatClampNeg (1 : Int32) = 1 by decide), g1]; rfl) ?_
  refine lv_astoreN (lv' := [(5, .null), (4, .int 1), (3, .int 3), (2, .ref gs), (0, .ref nd), (1, .int (nI sdu))]) hx hb dX4_runTimers_136 hl (by decide) rfl (fun ls hl => ?_)
  refine lv_aloadN hx hb dX4_runTimers_138 (lv_at hl 0 rfl) ?_
  refine lv_ifnullN (tgt := 171) hx hb dX4_runTimers_140 (by decide) ?_
  refine lv_iinc (v := 2) (lv' := [(4, .int 2), (5, .null), (3, .int 3), (2, .ref gs), (0, .ref nd), (1, .int (nI sdu))]) hx hb dX4_runTimers_171 hl (k := 1) rfl (by decide) (by decide) rfl (fun ls hl => ?_)
  refine lv_goto (tgt := 126) hx hb dX4_runTimers_174 (by decide) ?_
  refine lv_iload hx hb dX4_runTimers_126 (lv_at hl 0 rfl) ?_
  refine lv_iload_n hx hb dX4_runTimers_128 rfl (lv_at hl 2 rfl) ?_
  refine lv_icmp_ge (tgt := 177) hx hb dX4_runTimers_129 (by decide) (fun c_9 => ?_) (fun c_9 => ?_)
  · exact absurd c_9 (by decide)
  refine lv_aload_n hx hb dX4_runTimers_132 rfl (lv_at hl 3 rfl) ?_
  refine lv_iload hx hb dX4_runTimers_133 (lv_at hl 0 rfl) ?_
  refine va_aldq hx hb hK hP 1 1 rfl rfl (vp_in_nI (n := 2) (by omega) (by omega)) dX4_runTimers_135 ?_
  refine W.eq (g2 := F0 m 136 ls [.null]) (by rw [(show Int32.toNatClampNeg (2 : Int32) = 2 by decide), g2]; rfl) ?_
  refine lv_astoreN (lv' := [(5, .null), (4, .int 2), (3, .int 3), (2, .ref gs), (0, .ref nd), (1, .int (nI sdu))]) hx hb dX4_runTimers_136 hl (by decide) rfl (fun ls hl => ?_)
  refine lv_aloadN hx hb dX4_runTimers_138 (lv_at hl 0 rfl) ?_
  refine lv_ifnullN (tgt := 171) hx hb dX4_runTimers_140 (by decide) ?_
  refine lv_iinc (v := 3) (lv' := [(4, .int 3), (5, .null), (3, .int 3), (2, .ref gs), (0, .ref nd), (1, .int (nI sdu))]) hx hb dX4_runTimers_171 hl (k := 1) rfl (by decide) (by decide) rfl (fun ls hl => ?_)
  refine lv_goto (tgt := 126) hx hb dX4_runTimers_174 (by decide) ?_
  refine lv_iload hx hb dX4_runTimers_126 (lv_at hl 0 rfl) ?_
  refine lv_iload_n hx hb dX4_runTimers_128 rfl (lv_at hl 2 rfl) ?_
  refine lv_icmp_ge (tgt := 177) hx hb dX4_runTimers_129 (by decide) (fun c_10 => ?_) (fun c_10 => ?_)
  rotate_left
  · exact absurd (by decide) c_10
  have hP9 := hP.sub (ws' := [(nd, .inr (5, [.int nh, .int nl, .int nwa, .int nfr, .int (nI nwi), .ref r, .ref nt, .ref ns, .ref ib, .ref gs, .ref cs, .ref nu, .int 0, .int 2, .int (nI nad), .int (nI ncc), .int 0, .int 0])), (ns, .inr (7, [.int 1, .int (nI (np_ + 1)), .int (nI (sdu + 50)), .ref mm])), (mm, .inr (4, [.int (nI mi), .int (nI mt), .int (nI mg), .int (nI ms), .int sd, .null])), (r, .inr (6, [.int rh, .int rl, .ref st, .ref ck, .ref ck, .int 0, .int 1, .int 1, .int 0, .int 0, .ref rf, .int 0])), (st, .inr (8, [.ref ml, .null])), (ck, .inr (1, [.ref ce, .null])), (ce, .inl (cJ, 128, .inr (.inl fE2_4))), (cs, .inr (0, [.int (nI cm), .ref ce_, .int 0])), (gs, .inl (cT, 3, .inr (.inr (.inr (.inr fg)))))]) [2, 3, 4, 5, 6, 7, 8, 0, 1] rfl
  have hD9 := hD.sub (ws' := [(nd, .inr (5, [.int nh, .int nl, .int nwa, .int nfr, .int (nI nwi), .ref r, .ref nt, .ref ns, .ref ib, .ref gs, .ref cs, .ref nu, .int 0, .int 2, .int (nI nad), .int (nI ncc), .int 0, .int 0])), (ns, .inr (7, [.int 1, .int (nI (np_ + 1)), .int (nI (sdu + 50)), .ref mm])), (mm, .inr (4, [.int (nI mi), .int (nI mt), .int (nI mg), .int (nI ms), .int sd, .null])), (r, .inr (6, [.int rh, .int rl, .ref st, .ref ck, .ref ck, .int 0, .int 1, .int 1, .int 0, .int 0, .ref rf, .int 0])), (st, .inr (8, [.ref ml, .null])), (ck, .inr (1, [.ref ce, .null])), (ce, .inl (cJ, 128, .inr (.inl fE2_4))), (cs, .inr (0, [.int (nI cm), .ref ce_, .int 0])), (gs, .inl (cT, 3, .inr (.inr (.inr (.inr fg)))))]) [2, 3, 4, 5, 6, 7, 8, 0, 1] (by decide +kernel) rfl
  have hK9 := hK.sub (tys' := [(cJ, .long), (cT, (.object RX9))]) [0, 1] rfl
  exact W.vret hx hb hr (fun t ht hW => ⟨⟨(), rfl, trivial, ⟨fE2_4, by rw [ht]; exact hP9, va_K.moved hW.alike hK9, hD9, hlo_4.trans (congrArg nI (by omega)), hhi_4⟩⟩, hS.F ht⟩) hS.2.2 dX4_runTimers_177
