noncomputable def tl_c_nextTimer_1nn : List Cond := wsX40 ++ (wsX60 ++ (v_c_AL_size))
noncomputable def v_c_nextTimer_1nn : List Cond := .code yX4_nextTimer cX4_nextTimer 6 (some .int) :: ([.constant RX4 146 (2147483647), .fieldLink RX4 53 "ClaimBus$Node" "state" "I", .fieldLink RX4 21 "ClaimBus$Node" "sending" "LClaimBus$Sending;", .fieldLink RX4 121 "ClaimBus$Sending" "state" "I", .fieldLink RX4 140 "ClaimBus$Sending" "due" "I", .methodLink RX4 147 Lib.Math.min.name, .static Lib.Math.min.name, .initialized "java/lang/Math", .code Lib.Math.min.name Lib.Math.min.code 2 (some .int), .fieldLink RX4 41 "ClaimBus$Node" "collects" "Ljava/util/ArrayList;", .initialized RJx4a65c, .methodLink RX4 96 yJx4a65c_size_8abf5, .instanceMethod yJx4a65c_size_8abf5, .selects RJx4a65c yJx4a65c_size_8abf5 yJx4a65c_size_8abf5, .fieldLink RX4 34 "ClaimBus$Node" "gets" "[LClaimBus$Transport;"] ++ tl_c_nextTimer_1nn)
theorem it_c_nextTimer_1nn : ∀ w ∈ tl_c_nextTimer_1nn, w ∈ v_c_nextTimer_1nn := fun w h => List.mem_cons_of_mem _ (List.mem_append_right _ h)
theorem in_c_nextTimer_1nn_X4 : ∀ w ∈ wsX40, w ∈ v_c_nextTimer_1nn := fun w h => it_c_nextTimer_1nn w (List.mem_append_left _ h)
theorem in_c_nextTimer_1nn_X6 : ∀ w ∈ wsX60, w ∈ v_c_nextTimer_1nn := fun w h => it_c_nextTimer_1nn w (List.mem_append_right _ (List.mem_append_left _ h))
theorem ic_c_nextTimer_1nn_c_AL_size : ∀ w ∈ v_c_AL_size, w ∈ v_c_nextTimer_1nn := fun w h => it_c_nextTimer_1nn w (List.mem_append_right _ (List.mem_append_right _ (h)))
theorem gt_c_nextTimer_1nn : ∀ w ∈ tl_c_nextTimer_1nn, goodWord w = true := List.forall_mem_append.mpr ⟨gw_wsX40, List.forall_mem_append.mpr ⟨gw_wsX60, gw_c_AL_size⟩⟩
theorem gw_c_nextTimer_1nn : ∀ w ∈ v_c_nextTimer_1nn, goodWord w = true := List.forall_mem_cons.mpr ⟨by decide +kernel, List.forall_mem_append.mpr ⟨List.all_eq_true.mp (by decide +kernel), gt_c_nextTimer_1nn⟩⟩
theorem g_c_nextTimer_1nn_c_AL_size_96 : GoodIn v_c_nextTimer_1nn (wsV RX4 96 RJx4a65c yJx4a65c_size_8abf5 v_c_AL_size) := goodIn_app (goodIn_r [.methodLink RX4 96 yJx4a65c_size_8abf5, .instanceMethod yJx4a65c_size_8abf5, .selects RJx4a65c yJx4a65c_size_8abf5 yJx4a65c_size_8abf5, .initialized RJx4a65c] [12, 13, 14, 11] (by decide +kernel) (by decide +kernel)) (fun w h => ⟨ic_c_nextTimer_1nn_c_AL_size w h, good_of_word (gw_c_AL_size w h)⟩)
set_option maxHeartbeats 4000000 in
set_option maxRecDepth 100000 in
theorem c_nextTimer_1nn (l : Launch) (dC : Nat → ClassId) (dI : Nat → Nat → Nat) (nd : Nat) (nh : Int32) (nl : Int32) (nwa : Int32) (nfr : Int32) (nwi : Nat) (r : Nat) (nt : Nat) (ns : Nat) (ib : Nat) (gs : Nat) (cs : Nat) (nu : Nat) (nad : Nat) (ncc : Nat) (snp : Int32) (sdu : Nat) (mm : Nat) (cm : Nat) (ce_ : Nat) (cT : ClassId) (fg : Nat → Option Nat) (sz : Nat) (g0 : fg 0 = none) (g1 : fg 1 = none) (g2 : fg 2 = none) (hsd : sdu < 300000) : Met l yX4_nextTimer v_c_nextTimer_1nn ({ frames := 1, cells := 0, slots := 0, locals := 20 }) (va_Pc [.ref nd] (fun U => U.heap.size = sz ∧ va_P (dC, dI) vwCl [(nd, .inr (5, [.int nh, .int nl, .int nwa, .int nfr, .int (nI nwi), .ref r, .ref nt, .ref ns, .ref ib, .ref gs, .ref cs, .ref nu, .int 0, .int 2, .int (nI nad), .int (nI ncc), .int 0, .int 0])), (ns, .inr (7, [.int 1, .int snp, .int (nI sdu), .ref mm])), (cs, .inr (0, [.int (nI cm), .ref ce_, .int 0])), (gs, .inl (cT, 3, .inr (.inr (.inr (.inr fg)))))] U.heap ∧ va_K (dC, dI) vwCl [(cT, (.object RX9))] U ∧ va_D (fun _ => True) [(nd, .inr (5, [.int nh, .int nl, .int nwa, .int nfr, .int (nI nwi), .ref r, .ref nt, .ref ns, .ref ib, .ref gs, .ref cs, .ref nu, .int 0, .int 2, .int (nI nad), .int (nI ncc), .int 0, .int 0])), (ns, .inr (7, [.int 1, .int snp, .int (nI sdu), .ref mm])), (cs, .inr (0, [.int (nI cm), .ref ce_, .int 0])), (gs, .inl (cT, 3, .inr (.inr (.inr (.inr fg)))))] ∧ ev U)) (va_Qi (fun (r : Int32) (_ : Unit) => r = (nI sdu)) (fun (_ : Unit) (_ : State) => True) (va_A [] sz)) 0 0 (va_A [] sz) := by
  refine Met.ofW (cc := cX4_nextTimer) (maxL := 6) (ret := (some .int)) (by decide) rfl ?_
  intro p e s m args below meth c s₁ B hml hv
  obtain ⟨rfl, hsz, hP, hK, hD0, hE⟩ := hv
  have hx := B.exec
  have hb := B.bytes
  have hr := B.returns
  have hts := atoms_spec (ws := v_c_nextTimer_1nn) B.pre
  have hown : s.vm.findClass RX4 = some m.cls := findClass_of_methodNamed B.named
  have hlocks := B.notSynchronized
  subst hsz
  have hD := hD0
  generalize hAe : va_A [] s.heap.size = A
  have hA : ∀ q : Nat, s.heap.size ≤ q → A q := fun q h => by rw [← hAe]; exact Or.inr h
  have hS : va_S A s.heap s.heap [] := va_S.rf
  replace hP : va_P (dC, dI) vwCl [(nd, .inr (5, [.int nh, .int nl, .int nwa, .int nfr, .int (nI nwi), .ref r, .ref nt, .ref ns, .ref ib, .ref gs, .ref cs, .ref nu, .int 0, .int 2, .int (nI nad), .int (nI ncc), .int 0, .int 0])), (ns, .inr (7, [.int 1, .int snp, .int (nI sdu), .ref mm])), (cs, .inr (0, [.int (nI cm), .ref ce_, .int 0])), (gs, .inl (cT, 3, .inr (.inr (.inr (.inr fg)))))] s.heap := hP
  have hl := lv_entry ([.ref nd]) (n := 6) (Nat.le_of_ble_eq_true rfl)
  rw [lg_entry_eq]
  generalize (lg_sl ([.ref nd]) ++ List.replicate (6 - (lg_sl ([.ref nd])).length) Slot.unset).toArray = ls at hl ⊢
  replace hl : lv_has ls 6 [(0, .ref nd)] := hl
  obtain ⟨H, hH⟩ : ∃ z : Heap, z = s.heap := ⟨_, rfl⟩
  rw [← hH]
  replace hS : va_S A s.heap H [] := by rw [hH]; exact va_S.rf
  replace hP : va_P (dC, dI) vwCl [(nd, .inr (5, [.int nh, .int nl, .int nwa, .int nfr, .int (nI nwi), .ref r, .ref nt, .ref ns, .ref ib, .ref gs, .ref cs, .ref nu, .int 0, .int 2, .int (nI nad), .int (nI ncc), .int 0, .int 0])), (ns, .inr (7, [.int 1, .int snp, .int (nI sdu), .ref mm])), (cs, .inr (0, [.int (nI cm), .ref ce_, .int 0])), (gs, .inl (cT, 3, .inr (.inr (.inr (.inr fg)))))] H := by rw [hH]; exact hP
  clear hH
  refine lv_ldc hx hb hown (hts (.constant RX4 146 (2147483647)) (List.mem_of_getElem? (i := 1) rfl)) dX4_nextTimer_0 ?_
  refine lv_istore_n (lv' := [(1, .int 2147483647), (0, .ref nd)]) hx hb dX4_nextTimer_2 rfl hl (by decide) rfl (fun ls hl => ?_)
  refine lv_aload_n hx hb dX4_nextTimer_3 rfl (lv_at hl 1 rfl) ?_
  refine va_get (D := (dC, dI)) (ci := 5) (v := .int 2) (C := RX4) (T := TX4) (N := 18) hx hb hts in_c_nextTimer_1nn_X4 hown hK hP 0 rfl rfl 13 (by decide) (hts (.fieldLink RX4 53 "ClaimBus$Node" "state" "I") (List.mem_of_getElem? (i := 2) rfl)) (fun _ h9 => h9) rfl dX4_nextTimer_4 ?_
  refine lv_iconst (v := 1) hx hb dX4_nextTimer_7 (by decide) ?_
  refine lv_icmp_ne (tgt := 28) hx hb dX4_nextTimer_8 (by decide) (fun c_1 => ?_) (fun c_1 => ?_)
  rotate_left
  · exact absurd c_1 (by decide)
  refine lv_aload_n hx hb dX4_nextTimer_28 rfl (lv_at hl 1 rfl) ?_
  refine va_get (D := (dC, dI)) (ci := 5) (v := .ref ns) (C := RX4) (T := TX4) (N := 18) hx hb hts in_c_nextTimer_1nn_X4 hown hK hP 0 rfl rfl 7 (by decide) (hts (.fieldLink RX4 21 "ClaimBus$Node" "sending" "LClaimBus$Sending;") (List.mem_of_getElem? (i := 3) rfl)) (fun _ h9 => h9) rfl dX4_nextTimer_29 ?_
  refine va_get (D := (dC, dI)) (ci := 7) (v := .int 1) (C := RX6) (T := TX6) (N := 4) hx hb hts in_c_nextTimer_1nn_X6 hown hK hP 1 rfl rfl 0 (by decide) (hts (.fieldLink RX4 121 "ClaimBus$Sending" "state" "I") (List.mem_of_getElem? (i := 4) rfl)) (fun _ h9 => h9) rfl dX4_nextTimer_32 ?_
  refine lv_iconst (v := 1) hx hb dX4_nextTimer_35 (by decide) ?_
  refine lv_icmp_ne (tgt := 51) hx hb dX4_nextTimer_36 (by decide) (fun c_2 => ?_) (fun c_2 => ?_)
  · exact absurd c_2 (by decide)
  refine lv_iload_n hx hb dX4_nextTimer_39 rfl (lv_at hl 0 rfl) ?_
  refine lv_aload_n hx hb dX4_nextTimer_40 rfl (lv_at hl 1 rfl) ?_
  refine va_get (D := (dC, dI)) (ci := 5) (v := .ref ns) (C := RX4) (T := TX4) (N := 18) hx hb hts in_c_nextTimer_1nn_X4 hown hK hP 0 rfl rfl 7 (by decide) (hts (.fieldLink RX4 21 "ClaimBus$Node" "sending" "LClaimBus$Sending;") (List.mem_of_getElem? (i := 3) rfl)) (fun _ h9 => h9) rfl dX4_nextTimer_41 ?_
  refine va_get (D := (dC, dI)) (ci := 7) (v := .int (nI sdu)) (C := RX6) (T := TX6) (N := 4) hx hb hts in_c_nextTimer_1nn_X6 hown hK hP 1 rfl rfl 2 (by decide) (hts (.fieldLink RX4 140 "ClaimBus$Sending" "due" "I") (List.mem_of_getElem? (i := 5) rfl)) (fun _ h9 => h9) rfl dX4_nextTimer_44 ?_
  refine va_mmin hx hb (by rw [hml]; exact hl.1.symm) hown (hts (.methodLink RX4 147 Lib.Math.min.name) (List.mem_of_getElem? (i := 6) rfl)) (hts (.static Lib.Math.min.name) (List.mem_of_getElem? (i := 7) rfl)) (hts (.initialized "java/lang/Math") (List.mem_of_getElem? (i := 8) rfl)) (hts (.code Lib.Math.min.name Lib.Math.min.code 2 (some .int)) (List.mem_of_getElem? (i := 9) rfl)) (Nat.le_of_ble_eq_true rfl) (Nat.le_of_ble_eq_true rfl) (Nat.zero_le _) (Nat.zero_le _) dX4_nextTimer_47 ?_
  obtain ⟨mn_3, hmn_3⟩ : ∃ z : Nat, z = min 2147483647 sdu := ⟨_, rfl⟩
  refine lv_topi (fun x_3 ex_3 => ?_)
  obtain rfl : x_3 = nI mn_3 := ex_3.trans ((q_min (a := 2147483647) (b := sdu) (by omega) (by omega)).trans (congrArg nI hmn_3.symm))
  refine lv_istore_n (lv' := [(1, .int (nI mn_3)), (0, .ref nd)]) hx hb dX4_nextTimer_50 rfl hl (by decide) rfl (fun ls hl => ?_)
  refine lv_iconst (v := 0) hx hb dX4_nextTimer_51 (by decide) ?_
  refine lv_istore_n (lv' := [(2, .int 0), (1, .int (nI mn_3)), (0, .ref nd)]) hx hb dX4_nextTimer_52 rfl hl (by decide) rfl (fun ls hl => ?_)
  refine lv_iload_n hx hb dX4_nextTimer_53 rfl (lv_at hl 0 rfl) ?_
  refine lv_aload_n hx hb dX4_nextTimer_54 rfl (lv_at hl 2 rfl) ?_
  refine va_get (D := (dC, dI)) (ci := 5) (v := .ref cs) (C := RX4) (T := TX4) (N := 18) hx hb hts in_c_nextTimer_1nn_X4 hown hK hP 0 rfl rfl 10 (by decide) (hts (.fieldLink RX4 41 "ClaimBus$Node" "collects" "Ljava/util/ArrayList;") (List.mem_of_getElem? (i := 10) rfl)) (fun _ h9 => h9) rfl dX4_nextTimer_55 ?_
  have hPc := hP.sub (ws' := [(cs, .inr (0, [.int (nI cm), .ref ce_, .int (nI 0)]))]) [2] rfl
  have hDc := hD.sub (ws' := [(cs, .inr (0, [.int (nI cm), .ref ce_, .int (nI 0)]))]) [2] (by decide +kernel) rfl
  have hKc := hK.sub (tys' := []) [] rfl
  have hFc := ro_free hS hA
  refine va_calli (va_runV (As := []) (rest := [.int 0]) ⟨hx, hb, hml, hown, hts⟩ (c_AL_size l dC dI (cs) (cm) (ce_) (0) H.size) (cwV 0 hts g_c_nextTimer_1nn_c_AL_size_96 rfl rfl rfl (by decide +kernel) ⟨Nat.le_of_ble_eq_true rfl, Nat.le_of_ble_eq_true rfl⟩) ⟨fun a U g mk q => by obtain ⟨q0, q1, qP, qK, qD, qE⟩ := q; exact ⟨q0, q1, qP, va_K.moved (u := U) (U := U.calling g mk a) (Vm.Alike.refl U.vm) qK, qD, ev.same (u := U) (U := U.calling g mk a) rfl qE⟩, va_recv hKc hPc (ci := 0) (q0 := 0) rfl rfl, fun U hU hW => ⟨rfl, by rw [hU], by rw [hU]; exact hPc, va_K.moved hW.alike hKc, hDc.weaken (fun _ _ _ _ => trivial), hE.warm hW⟩⟩ rfl rfl hl.1 rfl (lv_room (Nat.le_of_ble_eq_true rfl)) dX4_nextTimer_58 ⟨Nat.le_of_ble_eq_true rfl, Nat.le_of_ble_eq_true rfl⟩) hS (fun q _ h => hFc q h) hFc (fun r_4 u t H1 locs ht hvm hw hB hz1 hk1 hS => ?_)
  clear hPc hDc hKc
  replace hP := ro_keep hP hk1
  generalize H1 = H at hP hS ⊢
  replace hP : va_P (dC, dI) vwCl [(nd, .inr (5, [.int nh, .int nl, .int nwa, .int nfr, .int (nI nwi), .ref r, .ref nt, .ref ns, .ref ib, .ref gs, .ref cs, .ref nu, .int 0, .int 2, .int (nI nad), .int (nI ncc), .int 0, .int 0])), (ns, .inr (7, [.int 1, .int snp, .int (nI sdu), .ref mm])), (cs, .inr (0, [.int (nI cm), .ref ce_, .int 0])), (gs, .inl (cT, 3, .inr (.inr (.inr (.inr fg)))))] H := hP
  have hw := hw.symm
  subst hw
  rw [show ((nI 0) : Int32) = 0 from (congrArg nI (show 0 = 0 from by omega)).trans (by decide)]
  refine lv_icmp_ge (tgt := 110) hx hb dX4_nextTimer_61 (by decide) (fun c_5 => ?_) (fun c_5 => ?_)
  rotate_left
  · exact absurd (by decide) c_5
  refine lv_aload_n hx hb dX4_nextTimer_110 rfl (lv_at hl 2 rfl) ?_
  refine va_get (D := (dC, dI)) (ci := 5) (v := .ref gs) (C := RX4) (T := TX4) (N := 18) hx hb hts in_c_nextTimer_1nn_X4 hown hK hP 0 rfl rfl 9 (by decide) (hts (.fieldLink RX4 34 "ClaimBus$Node" "gets" "[LClaimBus$Transport;") (List.mem_of_getElem? (i := 15) rfl)) (fun _ h9 => h9) rfl dX4_nextTimer_111 ?_
  refine lv_astore_n (lv' := [(2, .ref gs), (1, .int (nI mn_3)), (0, .ref nd)]) hx hb dX4_nextTimer_114 rfl hl (by decide) rfl (fun ls hl => ?_)
  refine lv_aload_n hx hb dX4_nextTimer_115 rfl (lv_at hl 0 rfl) ?_
  refine va_alen hx hb hK hP 3 0 rfl rfl (v := 3) rfl dX4_nextTimer_116 ?_
  refine lv_istore_n (lv' := [(3, .int 3), (2, .ref gs), (1, .int (nI mn_3)), (0, .ref nd)]) hx hb dX4_nextTimer_117 rfl hl (by decide) rfl (fun ls hl => ?_)
  refine lv_iconst (v := 0) hx hb dX4_nextTimer_118 (by decide) ?_
  refine lv_istore (lv' := [(4, .int 0), (3, .int 3), (2, .ref gs), (1, .int (nI mn_3)), (0, .ref nd)]) hx hb dX4_nextTimer_119 hl (by decide) rfl (fun ls hl => ?_)
  refine lv_iload hx hb dX4_nextTimer_121 (lv_at hl 0 rfl) ?_
  refine lv_iload_n hx hb dX4_nextTimer_123 rfl (lv_at hl 1 rfl) ?_
  refine lv_icmp_ge (tgt := 166) hx hb dX4_nextTimer_124 (by decide) (fun c_6 => ?_) (fun c_6 => ?_)
  · exact absurd c_6 (by decide)
  refine lv_aload_n hx hb dX4_nextTimer_127 rfl (lv_at hl 2 rfl) ?_
  refine lv_iload hx hb dX4_nextTimer_128 (lv_at hl 0 rfl) ?_
  refine va_aldq hx hb hK hP 3 0 rfl rfl (vp_in_nI (n := 0) (by omega) (by omega)) dX4_nextTimer_130 ?_
  refine W.eq (g2 := F0 m 131 ls [.null]) (by rw [(show Int32.toNatClampNeg (0 : Int32) = 0 by decide), g0]; rfl) ?_
  refine lv_astoreN (lv' := [(5, .null), (4, .int 0), (3, .int 3), (2, .ref gs), (1, .int (nI mn_3)), (0, .ref nd)]) hx hb dX4_nextTimer_131 hl (by decide) rfl (fun ls hl => ?_)
  refine lv_aloadN hx hb dX4_nextTimer_133 (lv_at hl 0 rfl) ?_
  refine lv_ifnullN (tgt := 160) hx hb dX4_nextTimer_135 (by decide) ?_
  refine lv_iinc (v := 1) (lv' := [(4, .int 1), (5, .null), (3, .int 3), (2, .ref gs), (1, .int (nI mn_3)), (0, .ref nd)]) hx hb dX4_nextTimer_160 hl (k := 1) rfl (by decide) (by decide) rfl (fun ls hl => ?_)
  refine lv_goto (tgt := 121) hx hb dX4_nextTimer_163 (by decide) ?_
  refine lv_iload hx hb dX4_nextTimer_121 (lv_at hl 0 rfl) ?_
  refine lv_iload_n hx hb dX4_nextTimer_123 rfl (lv_at hl 2 rfl) ?_
  refine lv_icmp_ge (tgt := 166) hx hb dX4_nextTimer_124 (by decide) (fun c_7 => ?_) (fun c_7 => ?_)
  · exact absurd c_7 (by decide)
  refine lv_aload_n hx hb dX4_nextTimer_127 rfl (lv_at hl 3 rfl) ?_
  refine lv_iload hx hb dX4_nextTimer_128 (lv_at hl 0 rfl) ?_
  refine va_aldq hx hb hK hP 3 0 rfl rfl (vp_in_nI (n := 1) (by omega) (by omega)) dX4_nextTimer_130 ?_
  refine W.eq (g2 := F0 m 131 ls [.null]) (by rw [(show Int32.toNatClampNeg (1 : Int32) = 1 by decide), g1]; rfl) ?_
  refine lv_astoreN (lv' := [(5, .null), (4, .int 1), (3, .int 3), (2, .ref gs), (1, .int (nI mn_3)), (0, .ref nd)]) hx hb dX4_nextTimer_131 hl (by decide) rfl (fun ls hl => ?_)
  refine lv_aloadN hx hb dX4_nextTimer_133 (lv_at hl 0 rfl) ?_
  refine lv_ifnullN (tgt := 160) hx hb dX4_nextTimer_135 (by decide) ?_
  refine lv_iinc (v := 2) (lv' := [(4, .int 2), (5, .null), (3, .int 3), (2, .ref gs), (1, .int (nI mn_3)), (0, .ref nd)]) hx hb dX4_nextTimer_160 hl (k := 1) rfl (by decide) (by decide) rfl (fun ls hl => ?_)
  refine lv_goto (tgt := 121) hx hb dX4_nextTimer_163 (by decide) ?_
  refine lv_iload hx hb dX4_nextTimer_121 (lv_at hl 0 rfl) ?_
  refine lv_iload_n hx hb dX4_nextTimer_123 rfl (lv_at hl 2 rfl) ?_
  refine lv_icmp_ge (tgt := 166) hx hb dX4_nextTimer_124 (by decide) (fun c_8 => ?_) (fun c_8 => ?_)
  · exact absurd c_8 (by decide)
  refine lv_aload_n hx hb dX4_nextTimer_127 rfl (lv_at hl 3 rfl) ?_
  refine lv_iload hx hb dX4_nextTimer_128 (lv_at hl 0 rfl) ?_
  refine va_aldq hx hb hK hP 3 0 rfl rfl (vp_in_nI (n := 2) (by omega) (by omega)) dX4_nextTimer_130 ?_
  refine W.eq (g2 := F0 m 131 ls [.null]) (by rw [(show Int32.toNatClampNeg (2 : Int32) = 2 by decide), g2]; rfl) ?_
  refine lv_astoreN (lv' := [(5, .null), (4, .int 2), (3, .int 3), (2, .ref gs), (1, .int (nI mn_3)), (0, .ref nd)]) hx hb dX4_nextTimer_131 hl (by decide) rfl (fun ls hl => ?_)
  refine lv_aloadN hx hb dX4_nextTimer_133 (lv_at hl 0 rfl) ?_
  refine lv_ifnullN (tgt := 160) hx hb dX4_nextTimer_135 (by decide) ?_
  refine lv_iinc (v := 3) (lv' := [(4, .int 3), (5, .null), (3, .int 3), (2, .ref gs), (1, .int (nI mn_3)), (0, .ref nd)]) hx hb dX4_nextTimer_160 hl (k := 1) rfl (by decide) (by decide) rfl (fun ls hl => ?_)
  refine lv_goto (tgt := 121) hx hb dX4_nextTimer_163 (by decide) ?_
  refine lv_iload hx hb dX4_nextTimer_121 (lv_at hl 0 rfl) ?_
  refine lv_iload_n hx hb dX4_nextTimer_123 rfl (lv_at hl 2 rfl) ?_
  refine lv_icmp_ge (tgt := 166) hx hb dX4_nextTimer_124 (by decide) (fun c_9 => ?_) (fun c_9 => ?_)
  rotate_left
  · exact absurd (by decide) c_9
  refine lv_iload_n hx hb dX4_nextTimer_166 rfl (lv_at hl 4 rfl) ?_
  exact W.iret (v := (nI mn_3)) hx hb hr (fun t ht hW => ⟨⟨(nI mn_3), (), rfl, congrArg nI (show mn_3 = sdu from by omega), trivial⟩, hS.F ht⟩) hS.2.2 dX4_nextTimer_167

noncomputable def tl_c_nextTimer_2nn : List Cond := wsX40 ++ (wsX60 ++ (v_c_AL_size))
noncomputable def v_c_nextTimer_2nn : List Cond := .code yX4_nextTimer cX4_nextTimer 6 (some .int) :: ([.constant RX4 146 (2147483647), .fieldLink RX4 53 "ClaimBus$Node" "state" "I", .fieldLink RX4 21 "ClaimBus$Node" "sending" "LClaimBus$Sending;", .fieldLink RX4 121 "ClaimBus$Sending" "state" "I", .fieldLink RX4 41 "ClaimBus$Node" "collects" "Ljava/util/ArrayList;", .initialized RJx4a65c, .methodLink RX4 96 yJx4a65c_size_8abf5, .instanceMethod yJx4a65c_size_8abf5, .selects RJx4a65c yJx4a65c_size_8abf5 yJx4a65c_size_8abf5, .fieldLink RX4 34 "ClaimBus$Node" "gets" "[LClaimBus$Transport;"] ++ tl_c_nextTimer_2nn)
theorem it_c_nextTimer_2nn : ∀ w ∈ tl_c_nextTimer_2nn, w ∈ v_c_nextTimer_2nn := fun w h => List.mem_cons_of_mem _ (List.mem_append_right _ h)
theorem in_c_nextTimer_2nn_X4 : ∀ w ∈ wsX40, w ∈ v_c_nextTimer_2nn := fun w h => it_c_nextTimer_2nn w (List.mem_append_left _ h)
theorem in_c_nextTimer_2nn_X6 : ∀ w ∈ wsX60, w ∈ v_c_nextTimer_2nn := fun w h => it_c_nextTimer_2nn w (List.mem_append_right _ (List.mem_append_left _ h))
theorem ic_c_nextTimer_2nn_c_AL_size : ∀ w ∈ v_c_AL_size, w ∈ v_c_nextTimer_2nn := fun w h => it_c_nextTimer_2nn w (List.mem_append_right _ (List.mem_append_right _ (h)))
theorem gt_c_nextTimer_2nn : ∀ w ∈ tl_c_nextTimer_2nn, goodWord w = true := List.forall_mem_append.mpr ⟨gw_wsX40, List.forall_mem_append.mpr ⟨gw_wsX60, gw_c_AL_size⟩⟩
theorem gw_c_nextTimer_2nn : ∀ w ∈ v_c_nextTimer_2nn, goodWord w = true := List.forall_mem_cons.mpr ⟨by decide +kernel, List.forall_mem_append.mpr ⟨List.all_eq_true.mp (by decide +kernel), gt_c_nextTimer_2nn⟩⟩
theorem g_c_nextTimer_2nn_c_AL_size_96 : GoodIn v_c_nextTimer_2nn (wsV RX4 96 RJx4a65c yJx4a65c_size_8abf5 v_c_AL_size) := goodIn_app (goodIn_r [.methodLink RX4 96 yJx4a65c_size_8abf5, .instanceMethod yJx4a65c_size_8abf5, .selects RJx4a65c yJx4a65c_size_8abf5 yJx4a65c_size_8abf5, .initialized RJx4a65c] [7, 8, 9, 6] (by decide +kernel) (by decide +kernel)) (fun w h => ⟨ic_c_nextTimer_2nn_c_AL_size w h, good_of_word (gw_c_AL_size w h)⟩)
set_option maxHeartbeats 4000000 in
set_option maxRecDepth 100000 in
theorem c_nextTimer_2nn (l : Launch) (dC : Nat → ClassId) (dI : Nat → Nat → Nat) (nd : Nat) (nh : Int32) (nl : Int32) (nwa : Int32) (nfr : Int32) (nwi : Nat) (r : Nat) (nt : Nat) (ns : Nat) (ib : Nat) (gs : Nat) (cs : Nat) (nu : Nat) (nad : Nat) (ncc : Nat) (snp : Int32) (sdo : Int32) (mm : Nat) (cm : Nat) (ce_ : Nat) (cT : ClassId) (fg : Nat → Option Nat) (sz : Nat) (g0 : fg 0 = none) (g1 : fg 1 = none) (g2 : fg 2 = none) : Met l yX4_nextTimer v_c_nextTimer_2nn ({ frames := 1, cells := 0, slots := 0, locals := 20 }) (va_Pc [.ref nd] (fun U => U.heap.size = sz ∧ va_P (dC, dI) vwCl [(nd, .inr (5, [.int nh, .int nl, .int nwa, .int nfr, .int (nI nwi), .ref r, .ref nt, .ref ns, .ref ib, .ref gs, .ref cs, .ref nu, .int 0, .int 2, .int (nI nad), .int (nI ncc), .int 0, .int 0])), (ns, .inr (7, [.int 2, .int snp, .int sdo, .ref mm])), (cs, .inr (0, [.int (nI cm), .ref ce_, .int 0])), (gs, .inl (cT, 3, .inr (.inr (.inr (.inr fg)))))] U.heap ∧ va_K (dC, dI) vwCl [(cT, (.object RX9))] U ∧ va_D (fun _ => True) [(nd, .inr (5, [.int nh, .int nl, .int nwa, .int nfr, .int (nI nwi), .ref r, .ref nt, .ref ns, .ref ib, .ref gs, .ref cs, .ref nu, .int 0, .int 2, .int (nI nad), .int (nI ncc), .int 0, .int 0])), (ns, .inr (7, [.int 2, .int snp, .int sdo, .ref mm])), (cs, .inr (0, [.int (nI cm), .ref ce_, .int 0])), (gs, .inl (cT, 3, .inr (.inr (.inr (.inr fg)))))] ∧ ev U)) (va_Qi (fun (r : Int32) (_ : Unit) => r = 2147483647) (fun (_ : Unit) (_ : State) => True) (va_A [] sz)) 0 0 (va_A [] sz) := by
  refine Met.ofW (cc := cX4_nextTimer) (maxL := 6) (ret := (some .int)) (by decide) rfl ?_
  intro p e s m args below meth c s₁ B hml hv
  obtain ⟨rfl, hsz, hP, hK, hD0, hE⟩ := hv
  have hx := B.exec
  have hb := B.bytes
  have hr := B.returns
  have hts := atoms_spec (ws := v_c_nextTimer_2nn) B.pre
  have hown : s.vm.findClass RX4 = some m.cls := findClass_of_methodNamed B.named
  have hlocks := B.notSynchronized
  subst hsz
  have hD := hD0
  generalize hAe : va_A [] s.heap.size = A
  have hA : ∀ q : Nat, s.heap.size ≤ q → A q := fun q h => by rw [← hAe]; exact Or.inr h
  have hS : va_S A s.heap s.heap [] := va_S.rf
  replace hP : va_P (dC, dI) vwCl [(nd, .inr (5, [.int nh, .int nl, .int nwa, .int nfr, .int (nI nwi), .ref r, .ref nt, .ref ns, .ref ib, .ref gs, .ref cs, .ref nu, .int 0, .int 2, .int (nI nad), .int (nI ncc), .int 0, .int 0])), (ns, .inr (7, [.int 2, .int snp, .int sdo, .ref mm])), (cs, .inr (0, [.int (nI cm), .ref ce_, .int 0])), (gs, .inl (cT, 3, .inr (.inr (.inr (.inr fg)))))] s.heap := hP
  have hl := lv_entry ([.ref nd]) (n := 6) (Nat.le_of_ble_eq_true rfl)
  rw [lg_entry_eq]
  generalize (lg_sl ([.ref nd]) ++ List.replicate (6 - (lg_sl ([.ref nd])).length) Slot.unset).toArray = ls at hl ⊢
  replace hl : lv_has ls 6 [(0, .ref nd)] := hl
  obtain ⟨H, hH⟩ : ∃ z : Heap, z = s.heap := ⟨_, rfl⟩
  rw [← hH]
  replace hS : va_S A s.heap H [] := by rw [hH]; exact va_S.rf
  replace hP : va_P (dC, dI) vwCl [(nd, .inr (5, [.int nh, .int nl, .int nwa, .int nfr, .int (nI nwi), .ref r, .ref nt, .ref ns, .ref ib, .ref gs, .ref cs, .ref nu, .int 0, .int 2, .int (nI nad), .int (nI ncc), .int 0, .int 0])), (ns, .inr (7, [.int 2, .int snp, .int sdo, .ref mm])), (cs, .inr (0, [.int (nI cm), .ref ce_, .int 0])), (gs, .inl (cT, 3, .inr (.inr (.inr (.inr fg)))))] H := by rw [hH]; exact hP
  clear hH
  refine lv_ldc hx hb hown (hts (.constant RX4 146 (2147483647)) (List.mem_of_getElem? (i := 1) rfl)) dX4_nextTimer_0 ?_
  refine lv_istore_n (lv' := [(1, .int 2147483647), (0, .ref nd)]) hx hb dX4_nextTimer_2 rfl hl (by decide) rfl (fun ls hl => ?_)
  refine lv_aload_n hx hb dX4_nextTimer_3 rfl (lv_at hl 1 rfl) ?_
  refine va_get (D := (dC, dI)) (ci := 5) (v := .int 2) (C := RX4) (T := TX4) (N := 18) hx hb hts in_c_nextTimer_2nn_X4 hown hK hP 0 rfl rfl 13 (by decide) (hts (.fieldLink RX4 53 "ClaimBus$Node" "state" "I") (List.mem_of_getElem? (i := 2) rfl)) (fun _ h9 => h9) rfl dX4_nextTimer_4 ?_
  refine lv_iconst (v := 1) hx hb dX4_nextTimer_7 (by decide) ?_
  refine lv_icmp_ne (tgt := 28) hx hb dX4_nextTimer_8 (by decide) (fun c_1 => ?_) (fun c_1 => ?_)
  rotate_left
  · exact absurd c_1 (by decide)
  refine lv_aload_n hx hb dX4_nextTimer_28 rfl (lv_at hl 1 rfl) ?_
  refine va_get (D := (dC, dI)) (ci := 5) (v := .ref ns) (C := RX4) (T := TX4) (N := 18) hx hb hts in_c_nextTimer_2nn_X4 hown hK hP 0 rfl rfl 7 (by decide) (hts (.fieldLink RX4 21 "ClaimBus$Node" "sending" "LClaimBus$Sending;") (List.mem_of_getElem? (i := 3) rfl)) (fun _ h9 => h9) rfl dX4_nextTimer_29 ?_
  refine va_get (D := (dC, dI)) (ci := 7) (v := .int 2) (C := RX6) (T := TX6) (N := 4) hx hb hts in_c_nextTimer_2nn_X6 hown hK hP 1 rfl rfl 0 (by decide) (hts (.fieldLink RX4 121 "ClaimBus$Sending" "state" "I") (List.mem_of_getElem? (i := 4) rfl)) (fun _ h9 => h9) rfl dX4_nextTimer_32 ?_
  refine lv_iconst (v := 1) hx hb dX4_nextTimer_35 (by decide) ?_
  refine lv_icmp_ne (tgt := 51) hx hb dX4_nextTimer_36 (by decide) (fun c_2 => ?_) (fun c_2 => ?_)
  rotate_left
  · exact absurd c_2 (by decide)
  refine lv_iconst (v := 0) hx hb dX4_nextTimer_51 (by decide) ?_
  refine lv_istore_n (lv' := [(2, .int 0), (1, .int 2147483647), (0, .ref nd)]) hx hb dX4_nextTimer_52 rfl hl (by decide) rfl (fun ls hl => ?_)
  refine lv_iload_n hx hb dX4_nextTimer_53 rfl (lv_at hl 0 rfl) ?_
  refine lv_aload_n hx hb dX4_nextTimer_54 rfl (lv_at hl 2 rfl) ?_
  refine va_get (D := (dC, dI)) (ci := 5) (v := .ref cs) (C := RX4) (T := TX4) (N := 18) hx hb hts in_c_nextTimer_2nn_X4 hown hK hP 0 rfl rfl 10 (by decide) (hts (.fieldLink RX4 41 "ClaimBus$Node" "collects" "Ljava/util/ArrayList;") (List.mem_of_getElem? (i := 5) rfl)) (fun _ h9 => h9) rfl dX4_nextTimer_55 ?_
  have hPc := hP.sub (ws' := [(cs, .inr (0, [.int (nI cm), .ref ce_, .int (nI 0)]))]) [2] rfl
  have hDc := hD.sub (ws' := [(cs, .inr (0, [.int (nI cm), .ref ce_, .int (nI 0)]))]) [2] (by decide +kernel) rfl
  have hKc := hK.sub (tys' := []) [] rfl
  have hFc := ro_free hS hA
  refine va_calli (va_runV (As := []) (rest := [.int 0]) ⟨hx, hb, hml, hown, hts⟩ (c_AL_size l dC dI (cs) (cm) (ce_) (0) H.size) (cwV 0 hts g_c_nextTimer_2nn_c_AL_size_96 rfl rfl rfl (by decide +kernel) ⟨Nat.le_of_ble_eq_true rfl, Nat.le_of_ble_eq_true rfl⟩) ⟨fun a U g mk q => by obtain ⟨q0, q1, qP, qK, qD, qE⟩ := q; exact ⟨q0, q1, qP, va_K.moved (u := U) (U := U.calling g mk a) (Vm.Alike.refl U.vm) qK, qD, ev.same (u := U) (U := U.calling g mk a) rfl qE⟩, va_recv hKc hPc (ci := 0) (q0 := 0) rfl rfl, fun U hU hW => ⟨rfl, by rw [hU], by rw [hU]; exact hPc, va_K.moved hW.alike hKc, hDc.weaken (fun _ _ _ _ => trivial), hE.warm hW⟩⟩ rfl rfl hl.1 rfl (lv_room (Nat.le_of_ble_eq_true rfl)) dX4_nextTimer_58 ⟨Nat.le_of_ble_eq_true rfl, Nat.le_of_ble_eq_true rfl⟩) hS (fun q _ h => hFc q h) hFc (fun r_3 u t H1 locs ht hvm hw hB hz1 hk1 hS => ?_)
  clear hPc hDc hKc
  replace hP := ro_keep hP hk1
  generalize H1 = H at hP hS ⊢
  replace hP : va_P (dC, dI) vwCl [(nd, .inr (5, [.int nh, .int nl, .int nwa, .int nfr, .int (nI nwi), .ref r, .ref nt, .ref ns, .ref ib, .ref gs, .ref cs, .ref nu, .int 0, .int 2, .int (nI nad), .int (nI ncc), .int 0, .int 0])), (ns, .inr (7, [.int 2, .int snp, .int sdo, .ref mm])), (cs, .inr (0, [.int (nI cm), .ref ce_, .int 0])), (gs, .inl (cT, 3, .inr (.inr (.inr (.inr fg)))))] H := hP
  have hw := hw.symm
  subst hw
  rw [show ((nI 0) : Int32) = 0 from (congrArg nI (show 0 = 0 from by omega)).trans (by decide)]
  refine lv_icmp_ge (tgt := 110) hx hb dX4_nextTimer_61 (by decide) (fun c_4 => ?_) (fun c_4 => ?_)
  rotate_left
  · exact absurd (by decide) c_4
  refine lv_aload_n hx hb dX4_nextTimer_110 rfl (lv_at hl 2 rfl) ?_
  refine va_get (D := (dC, dI)) (ci := 5) (v := .ref gs) (C := RX4) (T := TX4) (N := 18) hx hb hts in_c_nextTimer_2nn_X4 hown hK hP 0 rfl rfl 9 (by decide) (hts (.fieldLink RX4 34 "ClaimBus$Node" "gets" "[LClaimBus$Transport;") (List.mem_of_getElem? (i := 10) rfl)) (fun _ h9 => h9) rfl dX4_nextTimer_111 ?_
  refine lv_astore_n (lv' := [(2, .ref gs), (1, .int 2147483647), (0, .ref nd)]) hx hb dX4_nextTimer_114 rfl hl (by decide) rfl (fun ls hl => ?_)
  refine lv_aload_n hx hb dX4_nextTimer_115 rfl (lv_at hl 0 rfl) ?_
  refine va_alen hx hb hK hP 3 0 rfl rfl (v := 3) rfl dX4_nextTimer_116 ?_
  refine lv_istore_n (lv' := [(3, .int 3), (2, .ref gs), (1, .int 2147483647), (0, .ref nd)]) hx hb dX4_nextTimer_117 rfl hl (by decide) rfl (fun ls hl => ?_)
  refine lv_iconst (v := 0) hx hb dX4_nextTimer_118 (by decide) ?_
  refine lv_istore (lv' := [(4, .int 0), (3, .int 3), (2, .ref gs), (1, .int 2147483647), (0, .ref nd)]) hx hb dX4_nextTimer_119 hl (by decide) rfl (fun ls hl => ?_)
  refine lv_iload hx hb dX4_nextTimer_121 (lv_at hl 0 rfl) ?_
  refine lv_iload_n hx hb dX4_nextTimer_123 rfl (lv_at hl 1 rfl) ?_
  refine lv_icmp_ge (tgt := 166) hx hb dX4_nextTimer_124 (by decide) (fun c_5 => ?_) (fun c_5 => ?_)
  · exact absurd c_5 (by decide)
  refine lv_aload_n hx hb dX4_nextTimer_127 rfl (lv_at hl 2 rfl) ?_
  refine lv_iload hx hb dX4_nextTimer_128 (lv_at hl 0 rfl) ?_
  refine va_aldq hx hb hK hP 3 0 rfl rfl (vp_in_nI (n := 0) (by omega) (by omega)) dX4_nextTimer_130 ?_
  refine W.eq (g2 := F0 m 131 ls [.null]) (by rw [(show Int32.toNatClampNeg (0 : Int32) = 0 by decide), g0]; rfl) ?_
  refine lv_astoreN (lv' := [(5, .null), (4, .int 0), (3, .int 3), (2, .ref gs), (1, .int 2147483647), (0, .ref nd)]) hx hb dX4_nextTimer_131 hl (by decide) rfl (fun ls hl => ?_)
  refine lv_aloadN hx hb dX4_nextTimer_133 (lv_at hl 0 rfl) ?_
  refine lv_ifnullN (tgt := 160) hx hb dX4_nextTimer_135 (by decide) ?_
  refine lv_iinc (v := 1) (lv' := [(4, .int 1), (5, .null), (3, .int 3), (2, .ref gs), (1, .int 2147483647), (0, .ref nd)]) hx hb dX4_nextTimer_160 hl (k := 1) rfl (by decide) (by decide) rfl (fun ls hl => ?_)
  refine lv_goto (tgt := 121) hx hb dX4_nextTimer_163 (by decide) ?_
  refine lv_iload hx hb dX4_nextTimer_121 (lv_at hl 0 rfl) ?_
  refine lv_iload_n hx hb dX4_nextTimer_123 rfl (lv_at hl 2 rfl) ?_
  refine lv_icmp_ge (tgt := 166) hx hb dX4_nextTimer_124 (by decide) (fun c_6 => ?_) (fun c_6 => ?_)
  · exact absurd c_6 (by decide)
  refine lv_aload_n hx hb dX4_nextTimer_127 rfl (lv_at hl 3 rfl) ?_
  refine lv_iload hx hb dX4_nextTimer_128 (lv_at hl 0 rfl) ?_
  refine va_aldq hx hb hK hP 3 0 rfl rfl (vp_in_nI (n := 1) (by omega) (by omega)) dX4_nextTimer_130 ?_
  refine W.eq (g2 := F0 m 131 ls [.null]) (by rw [(show Int32.toNatClampNeg (1 : Int32) = 1 by decide), g1]; rfl) ?_
  refine lv_astoreN (lv' := [(5, .null), (4, .int 1), (3, .int 3), (2, .ref gs), (1, .int 2147483647), (0, .ref nd)]) hx hb dX4_nextTimer_131 hl (by decide) rfl (fun ls hl => ?_)
  refine lv_aloadN hx hb dX4_nextTimer_133 (lv_at hl 0 rfl) ?_
  refine lv_ifnullN (tgt := 160) hx hb dX4_nextTimer_135 (by decide) ?_
  refine lv_iinc (v := 2) (lv' := [(4, .int 2), (5, .null), (3, .int 3), (2, .ref gs), (1, .int 2147483647), (0, .ref nd)]) hx hb dX4_nextTimer_160 hl (k := 1) rfl (by decide) (by decide) rfl (fun ls hl => ?_)
  refine lv_goto (tgt := 121) hx hb dX4_nextTimer_163 (by decide) ?_
  refine lv_iload hx hb dX4_nextTimer_121 (lv_at hl 0 rfl) ?_
  refine lv_iload_n hx hb dX4_nextTimer_123 rfl (lv_at hl 2 rfl) ?_
  refine lv_icmp_ge (tgt := 166) hx hb dX4_nextTimer_124 (by decide) (fun c_7 => ?_) (fun c_7 => ?_)
  · exact absurd c_7 (by decide)
  refine lv_aload_n hx hb dX4_nextTimer_127 rfl (lv_at hl 3 rfl) ?_
  refine lv_iload hx hb dX4_nextTimer_128 (lv_at hl 0 rfl) ?_
  refine va_aldq hx hb hK hP 3 0 rfl rfl (vp_in_nI (n := 2) (by omega) (by omega)) dX4_nextTimer_130 ?_
  refine W.eq (g2 := F0 m 131 ls [.null]) (by rw [(show Int32.toNatClampNeg (2 : Int32) = 2 by decide), g2]; rfl) ?_
  refine lv_astoreN (lv' := [(5, .null), (4, .int 2), (3, .int 3), (2, .ref gs), (1, .int 2147483647), (0, .ref nd)]) hx hb dX4_nextTimer_131 hl (by decide) rfl (fun ls hl => ?_)
  refine lv_aloadN hx hb dX4_nextTimer_133 (lv_at hl 0 rfl) ?_
  refine lv_ifnullN (tgt := 160) hx hb dX4_nextTimer_135 (by decide) ?_
  refine lv_iinc (v := 3) (lv' := [(4, .int 3), (5, .null), (3, .int 3), (2, .ref gs), (1, .int 2147483647), (0, .ref nd)]) hx hb dX4_nextTimer_160 hl (k := 1) rfl (by decide) (by decide) rfl (fun ls hl => ?_)
  refine lv_goto (tgt := 121) hx hb dX4_nextTimer_163 (by decide) ?_
  refine lv_iload hx hb dX4_nextTimer_121 (lv_at hl 0 rfl) ?_
  refine lv_iload_n hx hb dX4_nextTimer_123 rfl (lv_at hl 2 rfl) ?_
  refine lv_icmp_ge (tgt := 166) hx hb dX4_nextTimer_124 (by decide) (fun c_8 => ?_) (fun c_8 => ?_)
  rotate_left
  · exact absurd (by decide) c_8
  refine lv_iload_n hx hb dX4_nextTimer_166 rfl (lv_at hl 4 rfl) ?_
  exact W.iret (v := 2147483647) hx hb hr (fun t ht hW => ⟨⟨2147483647, (), rfl, rfl, trivial⟩, hS.F ht⟩) hS.2.2 dX4_nextTimer_167

noncomputable def tl_c_nextTimer_0nn : List Cond := wsX40 ++ (wsX60 ++ (v_c_AL_size))
noncomputable def v_c_nextTimer_0nn : List Cond := .code yX4_nextTimer cX4_nextTimer 6 (some .int) :: ([.constant RX4 146 (2147483647), .fieldLink RX4 53 "ClaimBus$Node" "state" "I", .fieldLink RX4 21 "ClaimBus$Node" "sending" "LClaimBus$Sending;", .fieldLink RX4 121 "ClaimBus$Sending" "state" "I", .fieldLink RX4 41 "ClaimBus$Node" "collects" "Ljava/util/ArrayList;", .initialized RJx4a65c, .methodLink RX4 96 yJx4a65c_size_8abf5, .instanceMethod yJx4a65c_size_8abf5, .selects RJx4a65c yJx4a65c_size_8abf5 yJx4a65c_size_8abf5, .fieldLink RX4 34 "ClaimBus$Node" "gets" "[LClaimBus$Transport;"] ++ tl_c_nextTimer_0nn)
theorem it_c_nextTimer_0nn : ∀ w ∈ tl_c_nextTimer_0nn, w ∈ v_c_nextTimer_0nn := fun w h => List.mem_cons_of_mem _ (List.mem_append_right _ h)
theorem in_c_nextTimer_0nn_X4 : ∀ w ∈ wsX40, w ∈ v_c_nextTimer_0nn := fun w h => it_c_nextTimer_0nn w (List.mem_append_left _ h)
theorem in_c_nextTimer_0nn_X6 : ∀ w ∈ wsX60, w ∈ v_c_nextTimer_0nn := fun w h => it_c_nextTimer_0nn w (List.mem_append_right _ (List.mem_append_left _ h))
theorem ic_c_nextTimer_0nn_c_AL_size : ∀ w ∈ v_c_AL_size, w ∈ v_c_nextTimer_0nn := fun w h => it_c_nextTimer_0nn w (List.mem_append_right _ (List.mem_append_right _ (h)))
theorem gt_c_nextTimer_0nn : ∀ w ∈ tl_c_nextTimer_0nn, goodWord w = true := List.forall_mem_append.mpr ⟨gw_wsX40, List.forall_mem_append.mpr ⟨gw_wsX60, gw_c_AL_size⟩⟩
theorem gw_c_nextTimer_0nn : ∀ w ∈ v_c_nextTimer_0nn, goodWord w = true := List.forall_mem_cons.mpr ⟨by decide +kernel, List.forall_mem_append.mpr ⟨List.all_eq_true.mp (by decide +kernel), gt_c_nextTimer_0nn⟩⟩
theorem g_c_nextTimer_0nn_c_AL_size_96 : GoodIn v_c_nextTimer_0nn (wsV RX4 96 RJx4a65c yJx4a65c_size_8abf5 v_c_AL_size) := goodIn_app (goodIn_r [.methodLink RX4 96 yJx4a65c_size_8abf5, .instanceMethod yJx4a65c_size_8abf5, .selects RJx4a65c yJx4a65c_size_8abf5 yJx4a65c_size_8abf5, .initialized RJx4a65c] [7, 8, 9, 6] (by decide +kernel) (by decide +kernel)) (fun w h => ⟨ic_c_nextTimer_0nn_c_AL_size w h, good_of_word (gw_c_AL_size w h)⟩)
set_option maxHeartbeats 4000000 in
set_option maxRecDepth 100000 in
theorem c_nextTimer_0nn (l : Launch) (dC : Nat → ClassId) (dI : Nat → Nat → Nat) (nd : Nat) (nh : Int32) (nl : Int32) (nwa : Int32) (nfr : Int32) (nwi : Nat) (r : Nat) (nt : Nat) (ns : Nat) (ib : Nat) (gs : Nat) (cs : Nat) (nu : Nat) (nad : Nat) (ncc : Nat) (snp : Int32) (sdo : Int32) (cm : Nat) (ce_ : Nat) (cT : ClassId) (fg : Nat → Option Nat) (sz : Nat) (g0 : fg 0 = none) (g1 : fg 1 = none) (g2 : fg 2 = none) : Met l yX4_nextTimer v_c_nextTimer_0nn ({ frames := 1, cells := 0, slots := 0, locals := 20 }) (va_Pc [.ref nd] (fun U => U.heap.size = sz ∧ va_P (dC, dI) vwCl [(nd, .inr (5, [.int nh, .int nl, .int nwa, .int nfr, .int (nI nwi), .ref r, .ref nt, .ref ns, .ref ib, .ref gs, .ref cs, .ref nu, .int 0, .int 2, .int (nI nad), .int (nI ncc), .int 0, .int 0])), (ns, .inr (7, [.int 0, .int snp, .int sdo, .null])), (cs, .inr (0, [.int (nI cm), .ref ce_, .int 0])), (gs, .inl (cT, 3, .inr (.inr (.inr (.inr fg)))))] U.heap ∧ va_K (dC, dI) vwCl [(cT, (.object RX9))] U ∧ va_D (fun _ => True) [(nd, .inr (5, [.int nh, .int nl, .int nwa, .int nfr, .int (nI nwi), .ref r, .ref nt, .ref ns, .ref ib, .ref gs, .ref cs, .ref nu, .int 0, .int 2, .int (nI nad), .int (nI ncc), .int 0, .int 0])), (ns, .inr (7, [.int 0, .int snp, .int sdo, .null])), (cs, .inr (0, [.int (nI cm), .ref ce_, .int 0])), (gs, .inl (cT, 3, .inr (.inr (.inr (.inr fg)))))] ∧ ev U)) (va_Qi (fun (r : Int32) (_ : Unit) => r = 2147483647) (fun (_ : Unit) (_ : State) => True) (va_A [] sz)) 0 0 (va_A [] sz) := by
  refine Met.ofW (cc := cX4_nextTimer) (maxL := 6) (ret := (some .int)) (by decide) rfl ?_
  intro p e s m args below meth c s₁ B hml hv
  obtain ⟨rfl, hsz, hP, hK, hD0, hE⟩ := hv
  have hx := B.exec
  have hb := B.bytes
  have hr := B.returns
  have hts := atoms_spec (ws := v_c_nextTimer_0nn) B.pre
  have hown : s.vm.findClass RX4 = some m.cls := findClass_of_methodNamed B.named
  have hlocks := B.notSynchronized
  subst hsz
  have hD := hD0
  generalize hAe : va_A [] s.heap.size = A
  have hA : ∀ q : Nat, s.heap.size ≤ q → A q := fun q h => by rw [← hAe]; exact Or.inr h
  have hS : va_S A s.heap s.heap [] := va_S.rf
  replace hP : va_P (dC, dI) vwCl [(nd, .inr (5, [.int nh, .int nl, .int nwa, .int nfr, .int (nI nwi), .ref r, .ref nt, .ref ns, .ref ib, .ref gs, .ref cs, .ref nu, .int 0, .int 2, .int (nI nad), .int (nI ncc), .int 0, .int 0])), (ns, .inr (7, [.int 0, .int snp, .int sdo, .null])), (cs, .inr (0, [.int (nI cm), .ref ce_, .int 0])), (gs, .inl (cT, 3, .inr (.inr (.inr (.inr fg)))))] s.heap := hP
  have hl := lv_entry ([.ref nd]) (n := 6) (Nat.le_of_ble_eq_true rfl)
  rw [lg_entry_eq]
  generalize (lg_sl ([.ref nd]) ++ List.replicate (6 - (lg_sl ([.ref nd])).length) Slot.unset).toArray = ls at hl ⊢
  replace hl : lv_has ls 6 [(0, .ref nd)] := hl
  obtain ⟨H, hH⟩ : ∃ z : Heap, z = s.heap := ⟨_, rfl⟩
  rw [← hH]
  replace hS : va_S A s.heap H [] := by rw [hH]; exact va_S.rf
  replace hP : va_P (dC, dI) vwCl [(nd, .inr (5, [.int nh, .int nl, .int nwa, .int nfr, .int (nI nwi), .ref r, .ref nt, .ref ns, .ref ib, .ref gs, .ref cs, .ref nu, .int 0, .int 2, .int (nI nad), .int (nI ncc), .int 0, .int 0])), (ns, .inr (7, [.int 0, .int snp, .int sdo, .null])), (cs, .inr (0, [.int (nI cm), .ref ce_, .int 0])), (gs, .inl (cT, 3, .inr (.inr (.inr (.inr fg)))))] H := by rw [hH]; exact hP
  clear hH
  refine lv_ldc hx hb hown (hts (.constant RX4 146 (2147483647)) (List.mem_of_getElem? (i := 1) rfl)) dX4_nextTimer_0 ?_
  refine lv_istore_n (lv' := [(1, .int 2147483647), (0, .ref nd)]) hx hb dX4_nextTimer_2 rfl hl (by decide) rfl (fun ls hl => ?_)
  refine lv_aload_n hx hb dX4_nextTimer_3 rfl (lv_at hl 1 rfl) ?_
  refine va_get (D := (dC, dI)) (ci := 5) (v := .int 2) (C := RX4) (T := TX4) (N := 18) hx hb hts in_c_nextTimer_0nn_X4 hown hK hP 0 rfl rfl 13 (by decide) (hts (.fieldLink RX4 53 "ClaimBus$Node" "state" "I") (List.mem_of_getElem? (i := 2) rfl)) (fun _ h9 => h9) rfl dX4_nextTimer_4 ?_
  refine lv_iconst (v := 1) hx hb dX4_nextTimer_7 (by decide) ?_
  refine lv_icmp_ne (tgt := 28) hx hb dX4_nextTimer_8 (by decide) (fun c_1 => ?_) (fun c_1 => ?_)
  rotate_left
  · exact absurd c_1 (by decide)
  refine lv_aload_n hx hb dX4_nextTimer_28 rfl (lv_at hl 1 rfl) ?_
  refine va_get (D := (dC, dI)) (ci := 5) (v := .ref ns) (C := RX4) (T := TX4) (N := 18) hx hb hts in_c_nextTimer_0nn_X4 hown hK hP 0 rfl rfl 7 (by decide) (hts (.fieldLink RX4 21 "ClaimBus$Node" "sending" "LClaimBus$Sending;") (List.mem_of_getElem? (i := 3) rfl)) (fun _ h9 => h9) rfl dX4_nextTimer_29 ?_
  refine va_get (D := (dC, dI)) (ci := 7) (v := .int 0) (C := RX6) (T := TX6) (N := 4) hx hb hts in_c_nextTimer_0nn_X6 hown hK hP 1 rfl rfl 0 (by decide) (hts (.fieldLink RX4 121 "ClaimBus$Sending" "state" "I") (List.mem_of_getElem? (i := 4) rfl)) (fun _ h9 => h9) rfl dX4_nextTimer_32 ?_
  refine lv_iconst (v := 1) hx hb dX4_nextTimer_35 (by decide) ?_
  refine lv_icmp_ne (tgt := 51) hx hb dX4_nextTimer_36 (by decide) (fun c_2 => ?_) (fun c_2 => ?_)
  rotate_left
  · exact absurd c_2 (by decide)
  refine lv_iconst (v := 0) hx hb dX4_nextTimer_51 (by decide) ?_
  refine lv_istore_n (lv' := [(2, .int 0), (1, .int 2147483647), (0, .ref nd)]) hx hb dX4_nextTimer_52 rfl hl (by decide) rfl (fun ls hl => ?_)
  refine lv_iload_n hx hb dX4_nextTimer_53 rfl (lv_at hl 0 rfl) ?_
  refine lv_aload_n hx hb dX4_nextTimer_54 rfl (lv_at hl 2 rfl) ?_
  refine va_get (D := (dC, dI)) (ci := 5) (v := .ref cs) (C := RX4) (T := TX4) (N := 18) hx hb hts in_c_nextTimer_0nn_X4 hown hK hP 0 rfl rfl 10 (by decide) (hts (.fieldLink RX4 41 "ClaimBus$Node" "collects" "Ljava/util/ArrayList;") (List.mem_of_getElem? (i := 5) rfl)) (fun _ h9 => h9) rfl dX4_nextTimer_55 ?_
  have hPc := hP.sub (ws' := [(cs, .inr (0, [.int (nI cm), .ref ce_, .int (nI 0)]))]) [2] rfl
  have hDc := hD.sub (ws' := [(cs, .inr (0, [.int (nI cm), .ref ce_, .int (nI 0)]))]) [2] (by decide +kernel) rfl
  have hKc := hK.sub (tys' := []) [] rfl
  have hFc := ro_free hS hA
  refine va_calli (va_runV (As := []) (rest := [.int 0]) ⟨hx, hb, hml, hown, hts⟩ (c_AL_size l dC dI (cs) (cm) (ce_) (0) H.size) (cwV 0 hts g_c_nextTimer_0nn_c_AL_size_96 rfl rfl rfl (by decide +kernel) ⟨Nat.le_of_ble_eq_true rfl, Nat.le_of_ble_eq_true rfl⟩) ⟨fun a U g mk q => by obtain ⟨q0, q1, qP, qK, qD, qE⟩ := q; exact ⟨q0, q1, qP, va_K.moved (u := U) (U := U.calling g mk a) (Vm.Alike.refl U.vm) qK, qD, ev.same (u := U) (U := U.calling g mk a) rfl qE⟩, va_recv hKc hPc (ci := 0) (q0 := 0) rfl rfl, fun U hU hW => ⟨rfl, by rw [hU], by rw [hU]; exact hPc, va_K.moved hW.alike hKc, hDc.weaken (fun _ _ _ _ => trivial), hE.warm hW⟩⟩ rfl rfl hl.1 rfl (lv_room (Nat.le_of_ble_eq_true rfl)) dX4_nextTimer_58 ⟨Nat.le_of_ble_eq_true rfl, Nat.le_of_ble_eq_true rfl⟩) hS (fun q _ h => hFc q h) hFc (fun r_3 u t H1 locs ht hvm hw hB hz1 hk1 hS => ?_)
  clear hPc hDc hKc
  replace hP := ro_keep hP hk1
  generalize H1 = H at hP hS ⊢
  replace hP : va_P (dC, dI) vwCl [(nd, .inr (5, [.int nh, .int nl, .int nwa, .int nfr, .int (nI nwi), .ref r, .ref nt, .ref ns, .ref ib, .ref gs, .ref cs, .ref nu, .int 0, .int 2, .int (nI nad), .int (nI ncc), .int 0, .int 0])), (ns, .inr (7, [.int 0, .int snp, .int sdo, .null])), (cs, .inr (0, [.int (nI cm), .ref ce_, .int 0])), (gs, .inl (cT, 3, .inr (.inr (.inr (.inr fg)))))] H := hP
  have hw := hw.symm
  subst hw
  rw [show ((nI 0) : Int32) = 0 from (congrArg nI (show 0 = 0 from by omega)).trans (by decide)]
  refine lv_icmp_ge (tgt := 110) hx hb dX4_nextTimer_61 (by decide) (fun c_4 => ?_) (fun c_4 => ?_)
  rotate_left
  · exact absurd (by decide) c_4
  refine lv_aload_n hx hb dX4_nextTimer_110 rfl (lv_at hl 2 rfl) ?_
  refine va_get (D := (dC, dI)) (ci := 5) (v := .ref gs) (C := RX4) (T := TX4) (N := 18) hx hb hts in_c_nextTimer_0nn_X4 hown hK hP 0 rfl rfl 9 (by decide) (hts (.fieldLink RX4 34 "ClaimBus$Node" "gets" "[LClaimBus$Transport;") (List.mem_of_getElem? (i := 10) rfl)) (fun _ h9 => h9) rfl dX4_nextTimer_111 ?_
  refine lv_astore_n (lv' := [(2, .ref gs), (1, .int 2147483647), (0, .ref nd)]) hx hb dX4_nextTimer_114 rfl hl (by decide) rfl (fun ls hl => ?_)
  refine lv_aload_n hx hb dX4_nextTimer_115 rfl (lv_at hl 0 rfl) ?_
  refine va_alen hx hb hK hP 3 0 rfl rfl (v := 3) rfl dX4_nextTimer_116 ?_
  refine lv_istore_n (lv' := [(3, .int 3), (2, .ref gs), (1, .int 2147483647), (0, .ref nd)]) hx hb dX4_nextTimer_117 rfl hl (by decide) rfl (fun ls hl => ?_)
  refine lv_iconst (v := 0) hx hb dX4_nextTimer_118 (by decide) ?_
  refine lv_istore (lv' := [(4, .int 0), (3, .int 3), (2, .ref gs), (1, .int 2147483647), (0, .ref nd)]) hx hb dX4_nextTimer_119 hl (by decide) rfl (fun ls hl => ?_)
  refine lv_iload hx hb dX4_nextTimer_121 (lv_at hl 0 rfl) ?_
  refine lv_iload_n hx hb dX4_nextTimer_123 rfl (lv_at hl 1 rfl) ?_
  refine lv_icmp_ge (tgt := 166) hx hb dX4_nextTimer_124 (by decide) (fun c_5 => ?_) (fun c_5 => ?_)
  · exact absurd c_5 (by decide)
  refine lv_aload_n hx hb dX4_nextTimer_127 rfl (lv_at hl 2 rfl) ?_
  refine lv_iload hx hb dX4_nextTimer_128 (lv_at hl 0 rfl) ?_
  refine va_aldq hx hb hK hP 3 0 rfl rfl (vp_in_nI (n := 0) (by omega) (by omega)) dX4_nextTimer_130 ?_
  refine W.eq (g2 := F0 m 131 ls [.null]) (by rw [(show Int32.toNatClampNeg (0 : Int32) = 0 by decide), g0]; rfl) ?_
  refine lv_astoreN (lv' := [(5, .null), (4, .int 0), (3, .int 3), (2, .ref gs), (1, .int 2147483647), (0, .ref nd)]) hx hb dX4_nextTimer_131 hl (by decide) rfl (fun ls hl => ?_)
  refine lv_aloadN hx hb dX4_nextTimer_133 (lv_at hl 0 rfl) ?_
  refine lv_ifnullN (tgt := 160) hx hb dX4_nextTimer_135 (by decide) ?_
  refine lv_iinc (v := 1) (lv' := [(4, .int 1), (5, .null), (3, .int 3), (2, .ref gs), (1, .int 2147483647), (0, .ref nd)]) hx hb dX4_nextTimer_160 hl (k := 1) rfl (by decide) (by decide) rfl (fun ls hl => ?_)
  refine lv_goto (tgt := 121) hx hb dX4_nextTimer_163 (by decide) ?_
  refine lv_iload hx hb dX4_nextTimer_121 (lv_at hl 0 rfl) ?_
  refine lv_iload_n hx hb dX4_nextTimer_123 rfl (lv_at hl 2 rfl) ?_
  refine lv_icmp_ge (tgt := 166) hx hb dX4_nextTimer_124 (by decide) (fun c_6 => ?_) (fun c_6 => ?_)
  · exact absurd c_6 (by decide)
  refine lv_aload_n hx hb dX4_nextTimer_127 rfl (lv_at hl 3 rfl) ?_
  refine lv_iload hx hb dX4_nextTimer_128 (lv_at hl 0 rfl) ?_
  refine va_aldq hx hb hK hP 3 0 rfl rfl (vp_in_nI (n := 1) (by omega) (by omega)) dX4_nextTimer_130 ?_
  refine W.eq (g2 := F0 m 131 ls [.null]) (by rw [(show Int32.toNatClampNeg (1 : Int32) = 1 by decide), g1]; rfl) ?_
  refine lv_astoreN (lv' := [(5, .null), (4, .int 1), (3, .int 3), (2, .ref gs), (1, .int 2147483647), (0, .ref nd)]) hx hb dX4_nextTimer_131 hl (by decide) rfl (fun ls hl => ?_)
  refine lv_aloadN hx hb dX4_nextTimer_133 (lv_at hl 0 rfl) ?_
  refine lv_ifnullN (tgt := 160) hx hb dX4_nextTimer_135 (by decide) ?_
  refine lv_iinc (v := 2) (lv' := [(4, .int 2), (5, .null), (3, .int 3), (2, .ref gs), (1, .int 2147483647), (0, .ref nd)]) hx hb dX4_nextTimer_160 hl (k := 1) rfl (by decide) (by decide) rfl (fun ls hl => ?_)
  refine lv_goto (tgt := 121) hx hb dX4_nextTimer_163 (by decide) ?_
  refine lv_iload hx hb dX4_nextTimer_121 (lv_at hl 0 rfl) ?_
  refine lv_iload_n hx hb dX4_nextTimer_123 rfl (lv_at hl 2 rfl) ?_
  refine lv_icmp_ge (tgt := 166) hx hb dX4_nextTimer_124 (by decide) (fun c_7 => ?_) (fun c_7 => ?_)
  · exact absurd c_7 (by decide)
  refine lv_aload_n hx hb dX4_nextTimer_127 rfl (lv_at hl 3 rfl) ?_
  refine lv_iload hx hb dX4_nextTimer_128 (lv_at hl 0 rfl) ?_
  refine va_aldq hx hb hK hP 3 0 rfl rfl (vp_in_nI (n := 2) (by omega) (by omega)) dX4_nextTimer_130 ?_
  refine W.eq (g2 := F0 m 131 ls [.null]) (by rw [(show Int32.toNatClampNeg (2 : Int32) = 2 by decide), g2]; rfl) ?_
  refine lv_astoreN (lv' := [(5, .null), (4, .int 2), (3, .int 3), (2, .ref gs), (1, .int 2147483647), (0, .ref nd)]) hx hb dX4_nextTimer_131 hl (by decide) rfl (fun ls hl => ?_)
  refine lv_aloadN hx hb dX4_nextTimer_133 (lv_at hl 0 rfl) ?_
  refine lv_ifnullN (tgt := 160) hx hb dX4_nextTimer_135 (by decide) ?_
  refine lv_iinc (v := 3) (lv' := [(4, .int 3), (5, .null), (3, .int 3), (2, .ref gs), (1, .int 2147483647), (0, .ref nd)]) hx hb dX4_nextTimer_160 hl (k := 1) rfl (by decide) (by decide) rfl (fun ls hl => ?_)
  refine lv_goto (tgt := 121) hx hb dX4_nextTimer_163 (by decide) ?_
  refine lv_iload hx hb dX4_nextTimer_121 (lv_at hl 0 rfl) ?_
  refine lv_iload_n hx hb dX4_nextTimer_123 rfl (lv_at hl 2 rfl) ?_
  refine lv_icmp_ge (tgt := 166) hx hb dX4_nextTimer_124 (by decide) (fun c_8 => ?_) (fun c_8 => ?_)
  rotate_left
  · exact absurd (by decide) c_8
  refine lv_iload_n hx hb dX4_nextTimer_166 rfl (lv_at hl 4 rfl) ?_
  exact W.iret (v := 2147483647) hx hb hr (fun t ht hW => ⟨⟨2147483647, (), rfl, rfl, trivial⟩, hS.F ht⟩) hS.2.2 dX4_nextTimer_167

noncomputable def tl_c_nextTimer_0cn : List Cond := wsX40 ++ (wsX60 ++ (wsX90 ++ (v_c_AL_size ++ (v_c_AL_get))))
noncomputable def v_c_nextTimer_0cn : List Cond := .code yX4_nextTimer cX4_nextTimer 6 (some .int) :: ([.constant RX4 146 (2147483647), .fieldLink RX4 53 "ClaimBus$Node" "state" "I", .fieldLink RX4 21 "ClaimBus$Node" "sending" "LClaimBus$Sending;", .fieldLink RX4 121 "ClaimBus$Sending" "state" "I", .fieldLink RX4 41 "ClaimBus$Node" "collects" "Ljava/util/ArrayList;", .initialized RJx4a65c, .methodLink RX4 96 yJx4a65c_size_8abf5, .instanceMethod yJx4a65c_size_8abf5, .selects RJx4a65c yJx4a65c_size_8abf5 yJx4a65c_size_8abf5, .methodLink RX4 100 yJx4a65c_get_915e3, .instanceMethod yJx4a65c_get_915e3, .selects RJx4a65c yJx4a65c_get_915e3 yJx4a65c_get_915e3, .classLink RX4 32 "ClaimBus$Transport", .fieldLink RX4 93 "ClaimBus$Transport" "open" "Z", .fieldLink RX4 34 "ClaimBus$Node" "gets" "[LClaimBus$Transport;"] ++ tl_c_nextTimer_0cn)
theorem it_c_nextTimer_0cn : ∀ w ∈ tl_c_nextTimer_0cn, w ∈ v_c_nextTimer_0cn := fun w h => List.mem_cons_of_mem _ (List.mem_append_right _ h)
theorem in_c_nextTimer_0cn_X4 : ∀ w ∈ wsX40, w ∈ v_c_nextTimer_0cn := fun w h => it_c_nextTimer_0cn w (List.mem_append_left _ h)
theorem in_c_nextTimer_0cn_X6 : ∀ w ∈ wsX60, w ∈ v_c_nextTimer_0cn := fun w h => it_c_nextTimer_0cn w (List.mem_append_right _ (List.mem_append_left _ h))
theorem in_c_nextTimer_0cn_X9 : ∀ w ∈ wsX90, w ∈ v_c_nextTimer_0cn := fun w h => it_c_nextTimer_0cn w (List.mem_append_right _ (List.mem_append_right _ (List.mem_append_left _ h)))
theorem ic_c_nextTimer_0cn_c_AL_size : ∀ w ∈ v_c_AL_size, w ∈ v_c_nextTimer_0cn := fun w h => it_c_nextTimer_0cn w (List.mem_append_right _ (List.mem_append_right _ (List.mem_append_right _ (List.mem_append_left _ h))))
theorem ic_c_nextTimer_0cn_c_AL_get : ∀ w ∈ v_c_AL_get, w ∈ v_c_nextTimer_0cn := fun w h => it_c_nextTimer_0cn w (List.mem_append_right _ (List.mem_append_right _ (List.mem_append_right _ (List.mem_append_right _ (h)))))
theorem gt_c_nextTimer_0cn : ∀ w ∈ tl_c_nextTimer_0cn, goodWord w = true := List.forall_mem_append.mpr ⟨gw_wsX40, List.forall_mem_append.mpr ⟨gw_wsX60, List.forall_mem_append.mpr ⟨gw_wsX90, List.forall_mem_append.mpr ⟨gw_c_AL_size, gw_c_AL_get⟩⟩⟩⟩
theorem gw_c_nextTimer_0cn : ∀ w ∈ v_c_nextTimer_0cn, goodWord w = true := List.forall_mem_cons.mpr ⟨by decide +kernel, List.forall_mem_append.mpr ⟨List.all_eq_true.mp (by decide +kernel), gt_c_nextTimer_0cn⟩⟩
theorem g_c_nextTimer_0cn_c_AL_size_96 : GoodIn v_c_nextTimer_0cn (wsV RX4 96 RJx4a65c yJx4a65c_size_8abf5 v_c_AL_size) := goodIn_app (goodIn_r [.methodLink RX4 96 yJx4a65c_size_8abf5, .instanceMethod yJx4a65c_size_8abf5, .selects RJx4a65c yJx4a65c_size_8abf5 yJx4a65c_size_8abf5, .initialized RJx4a65c] [7, 8, 9, 6] (by decide +kernel) (by decide +kernel)) (fun w h => ⟨ic_c_nextTimer_0cn_c_AL_size w h, good_of_word (gw_c_AL_size w h)⟩)
theorem g_c_nextTimer_0cn_c_AL_get_100 : GoodIn v_c_nextTimer_0cn (wsV RX4 100 RJx4a65c yJx4a65c_get_915e3 v_c_AL_get) := goodIn_app (goodIn_r [.methodLink RX4 100 yJx4a65c_get_915e3, .instanceMethod yJx4a65c_get_915e3, .selects RJx4a65c yJx4a65c_get_915e3 yJx4a65c_get_915e3, .initialized RJx4a65c] [10, 11, 12, 6] (by decide +kernel) (by decide +kernel)) (fun w h => ⟨ic_c_nextTimer_0cn_c_AL_get w h, good_of_word (gw_c_AL_get w h)⟩)
set_option maxHeartbeats 4000000 in
set_option maxRecDepth 100000 in
theorem c_nextTimer_0cn (l : Launch) (dC : Nat → ClassId) (dI : Nat → Nat → Nat) (nd : Nat) (nh : Int32) (nl : Int32) (nwa : Int32) (nfr : Int32) (nwi : Nat) (r : Nat) (nt : Nat) (ns : Nat) (ib : Nat) (gs : Nat) (cs : Nat) (nu : Nat) (nad : Nat) (ncc : Nat) (snp : Int32) (sdo : Int32) (cm : Nat) (ce_ : Nat) (cQ : ClassId) (fq : Nat → Option Nat) (tq : Nat) (k1 : Int32) (k2 : Int32) (k3 : Int32) (k4 : Int32) (k5 : Int32) (k6 : Int32) (k7 : Int32) (k8 : Int32) (k9 : Int32) (k10 : Int32) (k11 : Int32) (kw : Nat) (kb : Nat) (cT : ClassId) (fg : Nat → Option Nat) (sz : Nat) (hq : fq 0 = some tq) (g0 : fg 0 = none) (g1 : fg 1 = none) (g2 : fg 2 = none) : Met l yX4_nextTimer v_c_nextTimer_0cn ({ frames := 3, cells := 0, slots := 0, locals := 64 }) (va_Pc [.ref nd] (fun U => U.heap.size = sz ∧ va_P (dC, dI) vwCl [(nd, .inr (5, [.int nh, .int nl, .int nwa, .int nfr, .int (nI nwi), .ref r, .ref nt, .ref ns, .ref ib, .ref gs, .ref cs, .ref nu, .int 0, .int 2, .int (nI nad), .int (nI ncc), .int 0, .int 0])), (ns, .inr (7, [.int 0, .int snp, .int sdo, .null])), (cs, .inr (0, [.int (nI cm), .ref ce_, .int 1])), (ce_, .inl (cQ, 10, .inr (.inr (.inr (.inr fq))))), (tq, .inr (10, [.int 0, .int k1, .int k2, .int k3, .int k4, .int k5, .int k6, .int k7, .int k8, .int k9, .int k10, .int k11, .ref kw, .ref kb])), (gs, .inl (cT, 3, .inr (.inr (.inr (.inr fg)))))] U.heap ∧ va_K (dC, dI) vwCl [(cQ, (.object "java/lang/Object")), (cT, (.object RX9))] U ∧ va_D (fun _ => True) [(nd, .inr (5, [.int nh, .int nl, .int nwa, .int nfr, .int (nI nwi), .ref r, .ref nt, .ref ns, .ref ib, .ref gs, .ref cs, .ref nu, .int 0, .int 2, .int (nI nad), .int (nI ncc), .int 0, .int 0])), (ns, .inr (7, [.int 0, .int snp, .int sdo, .null])), (cs, .inr (0, [.int (nI cm), .ref ce_, .int 1])), (ce_, .inl (cQ, 10, .inr (.inr (.inr (.inr fq))))), (tq, .inr (10, [.int 0, .int k1, .int k2, .int k3, .int k4, .int k5, .int k6, .int k7, .int k8, .int k9, .int k10, .int k11, .ref kw, .ref kb])), (gs, .inl (cT, 3, .inr (.inr (.inr (.inr fg)))))] ∧ ev U)) (va_Qi (fun (r : Int32) (_ : Unit) => r = 2147483647) (fun (_ : Unit) (_ : State) => True) (va_A [] sz)) 0 0 (va_A [] sz) := by
  refine Met.ofW (cc := cX4_nextTimer) (maxL := 6) (ret := (some .int)) (by decide) rfl ?_
  intro p e s m args below meth c s₁ B hml hv
  obtain ⟨rfl, hsz, hP, hK, hD0, hE⟩ := hv
  have hx := B.exec
  have hb := B.bytes
  have hr := B.returns
  have hts := atoms_spec (ws := v_c_nextTimer_0cn) B.pre
  have hown : s.vm.findClass RX4 = some m.cls := findClass_of_methodNamed B.named
  have hlocks := B.notSynchronized
  subst hsz
  have hD := hD0
  generalize hAe : va_A [] s.heap.size = A
  have hA : ∀ q : Nat, s.heap.size ≤ q → A q := fun q h => by rw [← hAe]; exact Or.inr h
  have hS : va_S A s.heap s.heap [] := va_S.rf
  replace hP : va_P (dC, dI) vwCl [(nd, .inr (5, [.int nh, .int nl, .int nwa, .int nfr, .int (nI nwi), .ref r, .ref nt, .ref ns, .ref ib, .ref gs, .ref cs, .ref nu, .int 0, .int 2, .int (nI nad), .int (nI ncc), .int 0, .int 0])), (ns, .inr (7, [.int 0, .int snp, .int sdo, .null])), (cs, .inr (0, [.int (nI cm), .ref ce_, .int 1])), (ce_, .inl (cQ, 10, .inr (.inr (.inr (.inr fq))))), (tq, .inr (10, [.int 0, .int k1, .int k2, .int k3, .int k4, .int k5, .int k6, .int k7, .int k8, .int k9, .int k10, .int k11, .ref kw, .ref kb])), (gs, .inl (cT, 3, .inr (.inr (.inr (.inr fg)))))] s.heap := hP
  have hl := lv_entry ([.ref nd]) (n := 6) (Nat.le_of_ble_eq_true rfl)
  rw [lg_entry_eq]
  generalize (lg_sl ([.ref nd]) ++ List.replicate (6 - (lg_sl ([.ref nd])).length) Slot.unset).toArray = ls at hl ⊢
  replace hl : lv_has ls 6 [(0, .ref nd)] := hl
  obtain ⟨H, hH⟩ : ∃ z : Heap, z = s.heap := ⟨_, rfl⟩
  rw [← hH]
  replace hS : va_S A s.heap H [] := by rw [hH]; exact va_S.rf
  replace hP : va_P (dC, dI) vwCl [(nd, .inr (5, [.int nh, .int nl, .int nwa, .int nfr, .int (nI nwi), .ref r, .ref nt, .ref ns, .ref ib, .ref gs, .ref cs, .ref nu, .int 0, .int 2, .int (nI nad), .int (nI ncc), .int 0, .int 0])), (ns, .inr (7, [.int 0, .int snp, .int sdo, .null])), (cs, .inr (0, [.int (nI cm), .ref ce_, .int 1])), (ce_, .inl (cQ, 10, .inr (.inr (.inr (.inr fq))))), (tq, .inr (10, [.int 0, .int k1, .int k2, .int k3, .int k4, .int k5, .int k6, .int k7, .int k8, .int k9, .int k10, .int k11, .ref kw, .ref kb])), (gs, .inl (cT, 3, .inr (.inr (.inr (.inr fg)))))] H := by rw [hH]; exact hP
  clear hH
  refine lv_ldc hx hb hown (hts (.constant RX4 146 (2147483647)) (List.mem_of_getElem? (i := 1) rfl)) dX4_nextTimer_0 ?_
  refine lv_istore_n (lv' := [(1, .int 2147483647), (0, .ref nd)]) hx hb dX4_nextTimer_2 rfl hl (by decide) rfl (fun ls hl => ?_)
  refine lv_aload_n hx hb dX4_nextTimer_3 rfl (lv_at hl 1 rfl) ?_
  refine va_get (D := (dC, dI)) (ci := 5) (v := .int 2) (C := RX4) (T := TX4) (N := 18) hx hb hts in_c_nextTimer_0cn_X4 hown hK hP 0 rfl rfl 13 (by decide) (hts (.fieldLink RX4 53 "ClaimBus$Node" "state" "I") (List.mem_of_getElem? (i := 2) rfl)) (fun _ h9 => h9) rfl dX4_nextTimer_4 ?_
  refine lv_iconst (v := 1) hx hb dX4_nextTimer_7 (by decide) ?_
  refine lv_icmp_ne (tgt := 28) hx hb dX4_nextTimer_8 (by decide) (fun c_1 => ?_) (fun c_1 => ?_)
  rotate_left
  · exact absurd c_1 (by decide)
  refine lv_aload_n hx hb dX4_nextTimer_28 rfl (lv_at hl 1 rfl) ?_
  refine va_get (D := (dC, dI)) (ci := 5) (v := .ref ns) (C := RX4) (T := TX4) (N := 18) hx hb hts in_c_nextTimer_0cn_X4 hown hK hP 0 rfl rfl 7 (by decide) (hts (.fieldLink RX4 21 "ClaimBus$Node" "sending" "LClaimBus$Sending;") (List.mem_of_getElem? (i := 3) rfl)) (fun _ h9 => h9) rfl dX4_nextTimer_29 ?_
  refine va_get (D := (dC, dI)) (ci := 7) (v := .int 0) (C := RX6) (T := TX6) (N := 4) hx hb hts in_c_nextTimer_0cn_X6 hown hK hP 1 rfl rfl 0 (by decide) (hts (.fieldLink RX4 121 "ClaimBus$Sending" "state" "I") (List.mem_of_getElem? (i := 4) rfl)) (fun _ h9 => h9) rfl dX4_nextTimer_32 ?_
  refine lv_iconst (v := 1) hx hb dX4_nextTimer_35 (by decide) ?_
  refine lv_icmp_ne (tgt := 51) hx hb dX4_nextTimer_36 (by decide) (fun c_2 => ?_) (fun c_2 => ?_)
  rotate_left
  · exact absurd c_2 (by decide)
  refine lv_iconst (v := 0) hx hb dX4_nextTimer_51 (by decide) ?_
  refine lv_istore_n (lv' := [(2, .int 0), (1, .int 2147483647), (0, .ref nd)]) hx hb dX4_nextTimer_52 rfl hl (by decide) rfl (fun ls hl => ?_)
  refine lv_iload_n hx hb dX4_nextTimer_53 rfl (lv_at hl 0 rfl) ?_
  refine lv_aload_n hx hb dX4_nextTimer_54 rfl (lv_at hl 2 rfl) ?_
  refine va_get (D := (dC, dI)) (ci := 5) (v := .ref cs) (C := RX4) (T := TX4) (N := 18) hx hb hts in_c_nextTimer_0cn_X4 hown hK hP 0 rfl rfl 10 (by decide) (hts (.fieldLink RX4 41 "ClaimBus$Node" "collects" "Ljava/util/ArrayList;") (List.mem_of_getElem? (i := 5) rfl)) (fun _ h9 => h9) rfl dX4_nextTimer_55 ?_
  have hPc := hP.sub (ws' := [(cs, .inr (0, [.int (nI cm), .ref ce_, .int (nI 1)]))]) [2] rfl
  have hDc := hD.sub (ws' := [(cs, .inr (0, [.int (nI cm), .ref ce_, .int (nI 1)]))]) [2] (by decide +kernel) rfl
  have hKc := hK.sub (tys' := []) [] rfl
  have hFc := ro_free hS hA
  refine va_calli (va_runV (As := []) (rest := [.int 0]) ⟨hx, hb, hml, hown, hts⟩ (c_AL_size l dC dI (cs) (cm) (ce_) (1) H.size) (cwV 0 hts g_c_nextTimer_0cn_c_AL_size_96 rfl rfl rfl (by decide +kernel) ⟨Nat.le_of_ble_eq_true rfl, Nat.le_of_ble_eq_true rfl⟩) ⟨fun a U g mk q => by obtain ⟨q0, q1, qP, qK, qD, qE⟩ := q; exact ⟨q0, q1, qP, va_K.moved (u := U) (U := U.calling g mk a) (Vm.Alike.refl U.vm) qK, qD, ev.same (u := U) (U := U.calling g mk a) rfl qE⟩, va_recv hKc hPc (ci := 0) (q0 := 0) rfl rfl, fun U hU hW => ⟨rfl, by rw [hU], by rw [hU]; exact hPc, va_K.moved hW.alike hKc, hDc.weaken (fun _ _ _ _ => trivial), hE.warm hW⟩⟩ rfl rfl hl.1 rfl (lv_room (Nat.le_of_ble_eq_true rfl)) dX4_nextTimer_58 ⟨Nat.le_of_ble_eq_true rfl, Nat.le_of_ble_eq_true rfl⟩) hS (fun q _ h => hFc q h) hFc (fun r_3 u t H1 locs ht hvm hw hB hz1 hk1 hS => ?_)
  clear hPc hDc hKc
  replace hP := ro_keep hP hk1
  generalize H1 = H at hP hS ⊢
  replace hP : va_P (dC, dI) vwCl [(nd, .inr (5, [.int nh, .int nl, .int nwa, .int nfr, .int (nI nwi), .ref r, .ref nt, .ref ns, .ref ib, .ref gs, .ref cs, .ref nu, .int 0, .int 2, .int (nI nad), .int (nI ncc), .int 0, .int 0])), (ns, .inr (7, [.int 0, .int snp, .int sdo, .null])), (cs, .inr (0, [.int (nI cm), .ref ce_, .int 1])), (ce_, .inl (cQ, 10, .inr (.inr (.inr (.inr fq))))), (tq, .inr (10, [.int 0, .int k1, .int k2, .int k3, .int k4, .int k5, .int k6, .int k7, .int k8, .int k9, .int k10, .int k11, .ref kw, .ref kb])), (gs, .inl (cT, 3, .inr (.inr (.inr (.inr fg)))))] H := hP
  have hw := hw.symm
  subst hw
  rw [show ((nI 1) : Int32) = 1 from (congrArg nI (show 1 = 1 from by omega)).trans (by decide)]
  refine lv_icmp_ge (tgt := 110) hx hb dX4_nextTimer_61 (by decide) (fun c_4 => ?_) (fun c_4 => ?_)
  · exact absurd c_4 (by decide)
  refine lv_aload_n hx hb dX4_nextTimer_64 rfl (lv_at hl 2 rfl) ?_
  refine va_get (D := (dC, dI)) (ci := 5) (v := .ref cs) (C := RX4) (T := TX4) (N := 18) hx hb hts in_c_nextTimer_0cn_X4 hown hK hP 0 rfl rfl 10 (by decide) (hts (.fieldLink RX4 41 "ClaimBus$Node" "collects" "Ljava/util/ArrayList;") (List.mem_of_getElem? (i := 5) rfl)) (fun _ h9 => h9) rfl dX4_nextTimer_65 ?_
  refine lv_iload_n hx hb dX4_nextTimer_68 rfl (lv_at hl 0 rfl) ?_
  have hPc := hP.sub (ws' := [(cs, .inr (0, [.int (nI cm), .ref ce_, .int (nI 1)])), (ce_, .inl (cQ, 10, .inr (.inr (.inr (.inr fq)))))]) [2, 3] rfl
  have hDc := hD.sub (ws' := [(cs, .inr (0, [.int (nI cm), .ref ce_, .int (nI 1)])), (ce_, .inl (cQ, 10, .inr (.inr (.inr (.inr fq)))))]) [2, 3] (by decide +kernel) rfl
  have hKc := hK.sub (tys' := [(cQ, (.object "java/lang/Object"))]) [0] rfl
  have hFc := ro_free hS hA
  refine va_callq (va_runV (As := [.int 0]) (rest := []) ⟨hx, hb, hml, hown, hts⟩ (c_AL_get l dC dI (cs) (cm) (ce_) (1) (cQ) (fq) (0) (tq) H.size hq (by omega) (by omega)) (cwV 1 hts g_c_nextTimer_0cn_c_AL_get_100 rfl rfl rfl (by decide +kernel) ⟨Nat.le_of_ble_eq_true rfl, Nat.le_of_ble_eq_true rfl⟩) ⟨fun a U g mk q => by obtain ⟨q0, q1, qP, qK, qD, qE⟩ := q; exact ⟨q0, q1, qP, va_K.moved (u := U) (U := U.calling g mk a) (Vm.Alike.refl U.vm) qK, qD, ev.same (u := U) (U := U.calling g mk a) rfl qE⟩, va_recv hKc hPc (ci := 0) (q0 := 0) rfl rfl, fun U hU hW => ⟨rfl, by rw [hU], by rw [hU]; exact hPc, va_K.moved hW.alike hKc, hDc.weaken (fun _ _ _ _ => trivial), hE.warm hW⟩⟩ rfl rfl hl.1 rfl (lv_room (Nat.le_of_ble_eq_true rfl)) dX4_nextTimer_69 ⟨Nat.le_of_ble_eq_true rfl, Nat.le_of_ble_eq_true rfl⟩) hS (fun q _ h => hFc q h) hFc (fun r_5 u t H1 locs ht hvm hw hB hz1 hk1 hS => ?_)
  clear hPc hDc hKc
  replace hP := ro_keep hP hk1
  generalize H1 = H at hP hS ⊢
  replace hP : va_P (dC, dI) vwCl [(nd, .inr (5, [.int nh, .int nl, .int nwa, .int nfr, .int (nI nwi), .ref r, .ref nt, .ref ns, .ref ib, .ref gs, .ref cs, .ref nu, .int 0, .int 2, .int (nI nad), .int (nI ncc), .int 0, .int 0])), (ns, .inr (7, [.int 0, .int snp, .int sdo, .null])), (cs, .inr (0, [.int (nI cm), .ref ce_, .int 1])), (ce_, .inl (cQ, 10, .inr (.inr (.inr (.inr fq))))), (tq, .inr (10, [.int 0, .int k1, .int k2, .int k3, .int k4, .int k5, .int k6, .int k7, .int k8, .int k9, .int k10, .int k11, .ref kw, .ref kb])), (gs, .inl (cT, 3, .inr (.inr (.inr (.inr fg)))))] H := hP
  have hw := hw.symm
  subst hw
  refine W.eq (g2 := F0 m 72 ls [.ref tq]) rfl ?_
  refine va_castS hx hb hown (hts (.classLink RX4 32 "ClaimBus$Transport") (List.mem_of_getElem? (i := 13) rfl)) (hK.1 10 _ rfl).2 (va_recv hK hP (ci := 10) (q0 := 4) rfl rfl) dX4_nextTimer_72 ?_
  refine va_get (D := (dC, dI)) (ci := 10) (v := .int 0) (C := RX9) (T := TX9) (N := 14) hx hb hts in_c_nextTimer_0cn_X9 hown hK hP 4 rfl rfl 0 (by decide) (hts (.fieldLink RX4 93 "ClaimBus$Transport" "open" "Z") (List.mem_of_getElem? (i := 14) rfl)) (fun _ h9 => h9) rfl dX4_nextTimer_75 ?_
  refine lv_if_eq (tgt := 104) hx hb dX4_nextTimer_78 (by decide) (fun c_6 => ?_) (fun c_6 => ?_)
  rotate_left
  · exact absurd (by decide) c_6
  refine lv_iinc (v := 1) (lv' := [(2, .int 1), (1, .int 2147483647), (0, .ref nd)]) hx hb dX4_nextTimer_104 hl (k := 0) rfl (by decide) (by decide) rfl (fun ls hl => ?_)
  refine lv_goto (tgt := 53) hx hb dX4_nextTimer_107 (by decide) ?_
  refine lv_iload_n hx hb dX4_nextTimer_53 rfl (lv_at hl 0 rfl) ?_
  refine lv_aload_n hx hb dX4_nextTimer_54 rfl (lv_at hl 2 rfl) ?_
  refine va_get (D := (dC, dI)) (ci := 5) (v := .ref cs) (C := RX4) (T := TX4) (N := 18) hx hb hts in_c_nextTimer_0cn_X4 hown hK hP 0 rfl rfl 10 (by decide) (hts (.fieldLink RX4 41 "ClaimBus$Node" "collects" "Ljava/util/ArrayList;") (List.mem_of_getElem? (i := 5) rfl)) (fun _ h9 => h9) rfl dX4_nextTimer_55 ?_
  have hPc := hP.sub (ws' := [(cs, .inr (0, [.int (nI cm), .ref ce_, .int (nI 1)]))]) [2] rfl
  have hDc := hD.sub (ws' := [(cs, .inr (0, [.int (nI cm), .ref ce_, .int (nI 1)]))]) [2] (by decide +kernel) rfl
  have hKc := hK.sub (tys' := []) [] rfl
  have hFc := ro_free hS hA
  refine va_calli (va_runV (As := []) (rest := [.int 1]) ⟨hx, hb, hml, hown, hts⟩ (c_AL_size l dC dI (cs) (cm) (ce_) (1) H.size) (cwV 0 hts g_c_nextTimer_0cn_c_AL_size_96 rfl rfl rfl (by decide +kernel) ⟨Nat.le_of_ble_eq_true rfl, Nat.le_of_ble_eq_true rfl⟩) ⟨fun a U g mk q => by obtain ⟨q0, q1, qP, qK, qD, qE⟩ := q; exact ⟨q0, q1, qP, va_K.moved (u := U) (U := U.calling g mk a) (Vm.Alike.refl U.vm) qK, qD, ev.same (u := U) (U := U.calling g mk a) rfl qE⟩, va_recv hKc hPc (ci := 0) (q0 := 0) rfl rfl, fun U hU hW => ⟨rfl, by rw [hU], by rw [hU]; exact hPc, va_K.moved hW.alike hKc, hDc.weaken (fun _ _ _ _ => trivial), hE.warm hW⟩⟩ rfl rfl hl.1 rfl (lv_room (Nat.le_of_ble_eq_true rfl)) dX4_nextTimer_58 ⟨Nat.le_of_ble_eq_true rfl, Nat.le_of_ble_eq_true rfl⟩) hS (fun q _ h => hFc q h) hFc (fun r_7 u t H1 locs ht hvm hw hB hz1 hk1 hS => ?_)
  clear hPc hDc hKc
  replace hP := ro_keep hP hk1
  generalize H1 = H at hP hS ⊢
  replace hP : va_P (dC, dI) vwCl [(nd, .inr (5, [.int nh, .int nl, .int nwa, .int nfr, .int (nI nwi), .ref r, .ref nt, .ref ns, .ref ib, .ref gs, .ref cs, .ref nu, .int 0, .int 2, .int (nI nad), .int (nI ncc), .int 0, .int 0])), (ns, .inr (7, [.int 0, .int snp, .int sdo, .null])), (cs, .inr (0, [.int (nI cm), .ref ce_, .int 1])), (ce_, .inl (cQ, 10, .inr (.inr (.inr (.inr fq))))), (tq, .inr (10, [.int 0, .int k1, .int k2, .int k3, .int k4, .int k5, .int k6, .int k7, .int k8, .int k9, .int k10, .int k11, .ref kw, .ref kb])), (gs, .inl (cT, 3, .inr (.inr (.inr (.inr fg)))))] H := hP
  have hw := hw.symm
  subst hw
  rw [show ((nI 1) : Int32) = 1 from (congrArg nI (show 1 = 1 from by omega)).trans (by decide)]
  refine lv_icmp_ge (tgt := 110) hx hb dX4_nextTimer_61 (by decide) (fun c_8 => ?_) (fun c_8 => ?_)
  rotate_left
  · exact absurd (by decide) c_8
  refine lv_aload_n hx hb dX4_nextTimer_110 rfl (lv_at hl 2 rfl) ?_
  refine va_get (D := (dC, dI)) (ci := 5) (v := .ref gs) (C := RX4) (T := TX4) (N := 18) hx hb hts in_c_nextTimer_0cn_X4 hown hK hP 0 rfl rfl 9 (by decide) (hts (.fieldLink RX4 34 "ClaimBus$Node" "gets" "[LClaimBus$Transport;") (List.mem_of_getElem? (i := 15) rfl)) (fun _ h9 => h9) rfl dX4_nextTimer_111 ?_
  refine lv_astore_n (lv' := [(2, .ref gs), (1, .int 2147483647), (0, .ref nd)]) hx hb dX4_nextTimer_114 rfl hl (by decide) rfl (fun ls hl => ?_)
  refine lv_aload_n hx hb dX4_nextTimer_115 rfl (lv_at hl 0 rfl) ?_
  refine va_alen hx hb hK hP 5 1 rfl rfl (v := 3) rfl dX4_nextTimer_116 ?_
  refine lv_istore_n (lv' := [(3, .int 3), (2, .ref gs), (1, .int 2147483647), (0, .ref nd)]) hx hb dX4_nextTimer_117 rfl hl (by decide) rfl (fun ls hl => ?_)
  refine lv_iconst (v := 0) hx hb dX4_nextTimer_118 (by decide) ?_
  refine lv_istore (lv' := [(4, .int 0), (3, .int 3), (2, .ref gs), (1, .int 2147483647), (0, .ref nd)]) hx hb dX4_nextTimer_119 hl (by decide) rfl (fun ls hl => ?_)
  refine lv_iload hx hb dX4_nextTimer_121 (lv_at hl 0 rfl) ?_
  refine lv_iload_n hx hb dX4_nextTimer_123 rfl (lv_at hl 1 rfl) ?_
  refine lv_icmp_ge (tgt := 166) hx hb dX4_nextTimer_124 (by decide) (fun c_9 => ?_) (fun c_9 => ?_)
  · exact absurd c_9 (by decide)
  refine lv_aload_n hx hb dX4_nextTimer_127 rfl (lv_at hl 2 rfl) ?_
  refine lv_iload hx hb dX4_nextTimer_128 (lv_at hl 0 rfl) ?_
  refine va_aldq hx hb hK hP 5 1 rfl rfl (vp_in_nI (n := 0) (by omega) (by omega)) dX4_nextTimer_130 ?_
  refine W.eq (g2 := F0 m 131 ls [.null]) (by rw [(show Int32.toNatClampNeg (0 : Int32) = 0 by decide), g0]; rfl) ?_
  refine lv_astoreN (lv' := [(5, .null), (4, .int 0), (3, .int 3), (2, .ref gs), (1, .int 2147483647), (0, .ref nd)]) hx hb dX4_nextTimer_131 hl (by decide) rfl (fun ls hl => ?_)
  refine lv_aloadN hx hb dX4_nextTimer_133 (lv_at hl 0 rfl) ?_
  refine lv_ifnullN (tgt := 160) hx hb dX4_nextTimer_135 (by decide) ?_
  refine lv_iinc (v := 1) (lv' := [(4, .int 1), (5, .null), (3, .int 3), (2, .ref gs), (1, .int 2147483647), (0, .ref nd)]) hx hb dX4_nextTimer_160 hl (k := 1) rfl (by decide) (by decide) rfl (fun ls hl => ?_)
  refine lv_goto (tgt := 121) hx hb dX4_nextTimer_163 (by decide) ?_
  refine lv_iload hx hb dX4_nextTimer_121 (lv_at hl 0 rfl) ?_
  refine lv_iload_n hx hb dX4_nextTimer_123 rfl (lv_at hl 2 rfl) ?_
  refine lv_icmp_ge (tgt := 166) hx hb dX4_nextTimer_124 (by decide) (fun c_10 => ?_) (fun c_10 => ?_)
  · exact absurd c_10 (by decide)
  refine lv_aload_n hx hb dX4_nextTimer_127 rfl (lv_at hl 3 rfl) ?_
  refine lv_iload hx hb dX4_nextTimer_128 (lv_at hl 0 rfl) ?_
  refine va_aldq hx hb hK hP 5 1 rfl rfl (vp_in_nI (n := 1) (by omega) (by omega)) dX4_nextTimer_130 ?_
  refine W.eq (g2 := F0 m 131 ls [.null]) (by rw [(show Int32.toNatClampNeg (1 : Int32) = 1 by decide), g1]; rfl) ?_
  refine lv_astoreN (lv' := [(5, .null), (4, .int 1), (3, .int 3), (2, .ref gs), (1, .int 2147483647), (0, .ref nd)]) hx hb dX4_nextTimer_131 hl (by decide) rfl (fun ls hl => ?_)
  refine lv_aloadN hx hb dX4_nextTimer_133 (lv_at hl 0 rfl) ?_
  refine lv_ifnullN (tgt := 160) hx hb dX4_nextTimer_135 (by decide) ?_
  refine lv_iinc (v := 2) (lv' := [(4, .int 2), (5, .null), (3, .int 3), (2, .ref gs), (1, .int 2147483647), (0, .ref nd)]) hx hb dX4_nextTimer_160 hl (k := 1) rfl (by decide) (by decide) rfl (fun ls hl => ?_)
  refine lv_goto (tgt := 121) hx hb dX4_nextTimer_163 (by decide) ?_
  refine lv_iload hx hb dX4_nextTimer_121 (lv_at hl 0 rfl) ?_
  refine lv_iload_n hx hb dX4_nextTimer_123 rfl (lv_at hl 2 rfl) ?_
  refine lv_icmp_ge (tgt := 166) hx hb dX4_nextTimer_124 (by decide) (fun c_11 => ?_) (fun c_11 => ?_)
  · exact absurd c_11 (by decide)
  refine lv_aload_n hx hb dX4_nextTimer_127 rfl (lv_at hl 3 rfl) ?_
  refine lv_iload hx hb dX4_nextTimer_128 (lv_at hl 0 rfl) ?_
  refine va_aldq hx hb hK hP 5 1 rfl rfl (vp_in_nI (n := 2) (by omega) (by omega)) dX4_nextTimer_130 ?_
  refine W.eq (g2 := F0 m 131 ls [.null]) (by rw [(show Int32.toNatClampNeg (2 : Int32) = 2 by decide), g2]; rfl) ?_
  refine lv_astoreN (lv' := [(5, .null), (4, .int 2), (3, .int 3), (2, .ref gs), (1, .int 2147483647), (0, .ref nd)]) hx hb dX4_nextTimer_131 hl (by decide) rfl (fun ls hl => ?_)
  refine lv_aloadN hx hb dX4_nextTimer_133 (lv_at hl 0 rfl) ?_
  refine lv_ifnullN (tgt := 160) hx hb dX4_nextTimer_135 (by decide) ?_
  refine lv_iinc (v := 3) (lv' := [(4, .int 3), (5, .null), (3, .int 3), (2, .ref gs), (1, .int 2147483647), (0, .ref nd)]) hx hb dX4_nextTimer_160 hl (k := 1) rfl (by decide) (by decide) rfl (fun ls hl => ?_)
  refine lv_goto (tgt := 121) hx hb dX4_nextTimer_163 (by decide) ?_
  refine lv_iload hx hb dX4_nextTimer_121 (lv_at hl 0 rfl) ?_
  refine lv_iload_n hx hb dX4_nextTimer_123 rfl (lv_at hl 2 rfl) ?_
  refine lv_icmp_ge (tgt := 166) hx hb dX4_nextTimer_124 (by decide) (fun c_12 => ?_) (fun c_12 => ?_)
  rotate_left
  · exact absurd (by decide) c_12
  refine lv_iload_n hx hb dX4_nextTimer_166 rfl (lv_at hl 4 rfl) ?_
  exact W.iret (v := 2147483647) hx hb hr (fun t ht hW => ⟨⟨2147483647, (), rfl, rfl, trivial⟩, hS.F ht⟩) hS.2.2 dX4_nextTimer_167

noncomputable def tl_c_nextTimer_0on : List Cond := wsX40 ++ (wsX60 ++ (wsX90 ++ (v_c_AL_size ++ (v_c_AL_get))))
noncomputable def v_c_nextTimer_0on : List Cond := .code yX4_nextTimer cX4_nextTimer 6 (some .int) :: ([.constant RX4 146 (2147483647), .fieldLink RX4 53 "ClaimBus$Node" "state" "I", .fieldLink RX4 21 "ClaimBus$Node" "sending" "LClaimBus$Sending;", .fieldLink RX4 121 "ClaimBus$Sending" "state" "I", .fieldLink RX4 41 "ClaimBus$Node" "collects" "Ljava/util/ArrayList;", .initialized RJx4a65c, .methodLink RX4 96 yJx4a65c_size_8abf5, .instanceMethod yJx4a65c_size_8abf5, .selects RJx4a65c yJx4a65c_size_8abf5 yJx4a65c_size_8abf5, .methodLink RX4 100 yJx4a65c_get_915e3, .instanceMethod yJx4a65c_get_915e3, .selects RJx4a65c yJx4a65c_get_915e3 yJx4a65c_get_915e3, .classLink RX4 32 "ClaimBus$Transport", .fieldLink RX4 93 "ClaimBus$Transport" "open" "Z", .fieldLink RX4 153 "ClaimBus$Transport" "lastHeard" "I", .methodLink RX4 147 Lib.Math.min.name, .static Lib.Math.min.name, .initialized "java/lang/Math", .code Lib.Math.min.name Lib.Math.min.code 2 (some .int), .fieldLink RX4 34 "ClaimBus$Node" "gets" "[LClaimBus$Transport;"] ++ tl_c_nextTimer_0on)
theorem it_c_nextTimer_0on : ∀ w ∈ tl_c_nextTimer_0on, w ∈ v_c_nextTimer_0on := fun w h => List.mem_cons_of_mem _ (List.mem_append_right _ h)
theorem in_c_nextTimer_0on_X4 : ∀ w ∈ wsX40, w ∈ v_c_nextTimer_0on := fun w h => it_c_nextTimer_0on w (List.mem_append_left _ h)
theorem in_c_nextTimer_0on_X6 : ∀ w ∈ wsX60, w ∈ v_c_nextTimer_0on := fun w h => it_c_nextTimer_0on w (List.mem_append_right _ (List.mem_append_left _ h))
theorem in_c_nextTimer_0on_X9 : ∀ w ∈ wsX90, w ∈ v_c_nextTimer_0on := fun w h => it_c_nextTimer_0on w (List.mem_append_right _ (List.mem_append_right _ (List.mem_append_left _ h)))
theorem ic_c_nextTimer_0on_c_AL_size : ∀ w ∈ v_c_AL_size, w ∈ v_c_nextTimer_0on := fun w h => it_c_nextTimer_0on w (List.mem_append_right _ (List.mem_append_right _ (List.mem_append_right _ (List.mem_append_left _ h))))
theorem ic_c_nextTimer_0on_c_AL_get : ∀ w ∈ v_c_AL_get, w ∈ v_c_nextTimer_0on := fun w h => it_c_nextTimer_0on w (List.mem_append_right _ (List.mem_append_right _ (List.mem_append_right _ (List.mem_append_right _ (h)))))
theorem gt_c_nextTimer_0on : ∀ w ∈ tl_c_nextTimer_0on, goodWord w = true := List.forall_mem_append.mpr ⟨gw_wsX40, List.forall_mem_append.mpr ⟨gw_wsX60, List.forall_mem_append.mpr ⟨gw_wsX90, List.forall_mem_append.mpr ⟨gw_c_AL_size, gw_c_AL_get⟩⟩⟩⟩
theorem gw_c_nextTimer_0on : ∀ w ∈ v_c_nextTimer_0on, goodWord w = true := List.forall_mem_cons.mpr ⟨by decide +kernel, List.forall_mem_append.mpr ⟨List.all_eq_true.mp (by decide +kernel), gt_c_nextTimer_0on⟩⟩
theorem g_c_nextTimer_0on_c_AL_size_96 : GoodIn v_c_nextTimer_0on (wsV RX4 96 RJx4a65c yJx4a65c_size_8abf5 v_c_AL_size) := goodIn_app (goodIn_r [.methodLink RX4 96 yJx4a65c_size_8abf5, .instanceMethod yJx4a65c_size_8abf5, .selects RJx4a65c yJx4a65c_size_8abf5 yJx4a65c_size_8abf5, .initialized RJx4a65c] [7, 8, 9, 6] (by decide +kernel) (by decide +kernel)) (fun w h => ⟨ic_c_nextTimer_0on_c_AL_size w h, good_of_word (gw_c_AL_size w h)⟩)
theorem g_c_nextTimer_0on_c_AL_get_100 : GoodIn v_c_nextTimer_0on (wsV RX4 100 RJx4a65c yJx4a65c_get_915e3 v_c_AL_get) := goodIn_app (goodIn_r [.methodLink RX4 100 yJx4a65c_get_915e3, .instanceMethod yJx4a65c_get_915e3, .selects RJx4a65c yJx4a65c_get_915e3 yJx4a65c_get_915e3, .initialized RJx4a65c] [10, 11, 12, 6] (by decide +kernel) (by decide +kernel)) (fun w h => ⟨ic_c_nextTimer_0on_c_AL_get w h, good_of_word (gw_c_AL_get w h)⟩)
set_option maxHeartbeats 4000000 in
set_option maxRecDepth 100000 in
theorem c_nextTimer_0on (l : Launch) (dC : Nat → ClassId) (dI : Nat → Nat → Nat) (nd : Nat) (nh : Int32) (nl : Int32) (nwa : Int32) (nfr : Int32) (nwi : Nat) (r : Nat) (nt : Nat) (ns : Nat) (ib : Nat) (gs : Nat) (cs : Nat) (nu : Nat) (nad : Nat) (ncc : Nat) (snp : Int32) (sdo : Int32) (cm : Nat) (ce_ : Nat) (cQ : ClassId) (fq : Nat → Option Nat) (tq : Nat) (k1 : Int32) (k2 : Int32) (k3 : Int32) (k4 : Int32) (k5 : Int32) (k6 : Int32) (k7 : Int32) (kl : Nat) (k9 : Int32) (k10 : Int32) (k11 : Int32) (kw : Nat) (kb : Nat) (cT : ClassId) (fg : Nat → Option Nat) (sz : Nat) (hq : fq 0 = some tq) (g0 : fg 0 = none) (g1 : fg 1 = none) (g2 : fg 2 = none) (hkl : kl < 300000) : Met l yX4_nextTimer v_c_nextTimer_0on ({ frames := 3, cells := 0, slots := 0, locals := 64 }) (va_Pc [.ref nd] (fun U => U.heap.size = sz ∧ va_P (dC, dI) vwCl [(nd, .inr (5, [.int nh, .int nl, .int nwa, .int nfr, .int (nI nwi), .ref r, .ref nt, .ref ns, .ref ib, .ref gs, .ref cs, .ref nu, .int 0, .int 2, .int (nI nad), .int (nI ncc), .int 0, .int 0])), (ns, .inr (7, [.int 0, .int snp, .int sdo, .null])), (cs, .inr (0, [.int (nI cm), .ref ce_, .int 1])), (ce_, .inl (cQ, 10, .inr (.inr (.inr (.inr fq))))), (tq, .inr (10, [.int 1, .int k1, .int k2, .int k3, .int k4, .int k5, .int k6, .int k7, .int (nI kl), .int k9, .int k10, .int k11, .ref kw, .ref kb])), (gs, .inl (cT, 3, .inr (.inr (.inr (.inr fg)))))] U.heap ∧ va_K (dC, dI) vwCl [(cQ, (.object "java/lang/Object")), (cT, (.object RX9))] U ∧ va_D (fun _ => True) [(nd, .inr (5, [.int nh, .int nl, .int nwa, .int nfr, .int (nI nwi), .ref r, .ref nt, .ref ns, .ref ib, .ref gs, .ref cs, .ref nu, .int 0, .int 2, .int (nI nad), .int (nI ncc), .int 0, .int 0])), (ns, .inr (7, [.int 0, .int snp, .int sdo, .null])), (cs, .inr (0, [.int (nI cm), .ref ce_, .int 1])), (ce_, .inl (cQ, 10, .inr (.inr (.inr (.inr fq))))), (tq, .inr (10, [.int 1, .int k1, .int k2, .int k3, .int k4, .int k5, .int k6, .int k7, .int (nI kl), .int k9, .int k10, .int k11, .ref kw, .ref kb])), (gs, .inl (cT, 3, .inr (.inr (.inr (.inr fg)))))] ∧ ev U)) (va_Qi (fun (r : Int32) (_ : Unit) => r = (nI (kl + 750))) (fun (_ : Unit) (_ : State) => True) (va_A [] sz)) 0 0 (va_A [] sz) := by
  refine Met.ofW (cc := cX4_nextTimer) (maxL := 6) (ret := (some .int)) (by decide) rfl ?_
  intro p e s m args below meth c s₁ B hml hv
  obtain ⟨rfl, hsz, hP, hK, hD0, hE⟩ := hv
  have hx := B.exec
  have hb := B.bytes
  have hr := B.returns
  have hts := atoms_spec (ws := v_c_nextTimer_0on) B.pre
  have hown : s.vm.findClass RX4 = some m.cls := findClass_of_methodNamed B.named
  have hlocks := B.notSynchronized
  subst hsz
  have hD := hD0
  generalize hAe : va_A [] s.heap.size = A
  have hA : ∀ q : Nat, s.heap.size ≤ q → A q := fun q h => by rw [← hAe]; exact Or.inr h
  have hS : va_S A s.heap s.heap [] := va_S.rf
  replace hP : va_P (dC, dI) vwCl [(nd, .inr (5, [.int nh, .int nl, .int nwa, .int nfr, .int (nI nwi), .ref r, .ref nt, .ref ns, .ref ib, .ref gs, .ref cs, .ref nu, .int 0, .int 2, .int (nI nad), .int (nI ncc), .int 0, .int 0])), (ns, .inr (7, [.int 0, .int snp, .int sdo, .null])), (cs, .inr (0, [.int (nI cm), .ref ce_, .int 1])), (ce_, .inl (cQ, 10, .inr (.inr (.inr (.inr fq))))), (tq, .inr (10, [.int 1, .int k1, .int k2, .int k3, .int k4, .int k5, .int k6, .int k7, .int (nI kl), .int k9, .int k10, .int k11, .ref kw, .ref kb])), (gs, .inl (cT, 3, .inr (.inr (.inr (.inr fg)))))] s.heap := hP
  have hl := lv_entry ([.ref nd]) (n := 6) (Nat.le_of_ble_eq_true rfl)
  rw [lg_entry_eq]
  generalize (lg_sl ([.ref nd]) ++ List.replicate (6 - (lg_sl ([.ref nd])).length) Slot.unset).toArray = ls at hl ⊢
  replace hl : lv_has ls 6 [(0, .ref nd)] := hl
  obtain ⟨H, hH⟩ : ∃ z : Heap, z = s.heap := ⟨_, rfl⟩
  rw [← hH]
  replace hS : va_S A s.heap H [] := by rw [hH]; exact va_S.rf
  replace hP : va_P (dC, dI) vwCl [(nd, .inr (5, [.int nh, .int nl, .int nwa, .int nfr, .int (nI nwi), .ref r, .ref nt, .ref ns, .ref ib, .ref gs, .ref cs, .ref nu, .int 0, .int 2, .int (nI nad), .int (nI ncc), .int 0, .int 0])), (ns, .inr (7, [.int 0, .int snp, .int sdo, .null])), (cs, .inr (0, [.int (nI cm), .ref ce_, .int 1])), (ce_, .inl (cQ, 10, .inr (.inr (.inr (.inr fq))))), (tq, .inr (10, [.int 1, .int k1, .int k2, .int k3, .int k4, .int k5, .int k6, .int k7, .int (nI kl), .int k9, .int k10, .int k11, .ref kw, .ref kb])), (gs, .inl (cT, 3, .inr (.inr (.inr (.inr fg)))))] H := by rw [hH]; exact hP
  clear hH
  refine lv_ldc hx hb hown (hts (.constant RX4 146 (2147483647)) (List.mem_of_getElem? (i := 1) rfl)) dX4_nextTimer_0 ?_
  refine lv_istore_n (lv' := [(1, .int 2147483647), (0, .ref nd)]) hx hb dX4_nextTimer_2 rfl hl (by decide) rfl (fun ls hl => ?_)
  refine lv_aload_n hx hb dX4_nextTimer_3 rfl (lv_at hl 1 rfl) ?_
  refine va_get (D := (dC, dI)) (ci := 5) (v := .int 2) (C := RX4) (T := TX4) (N := 18) hx hb hts in_c_nextTimer_0on_X4 hown hK hP 0 rfl rfl 13 (by decide) (hts (.fieldLink RX4 53 "ClaimBus$Node" "state" "I") (List.mem_of_getElem? (i := 2) rfl)) (fun _ h9 => h9) rfl dX4_nextTimer_4 ?_
  refine lv_iconst (v := 1) hx hb dX4_nextTimer_7 (by decide) ?_
  refine lv_icmp_ne (tgt := 28) hx hb dX4_nextTimer_8 (by decide) (fun c_1 => ?_) (fun c_1 => ?_)
  rotate_left
  · exact absurd c_1 (by decide)
  refine lv_aload_n hx hb dX4_nextTimer_28 rfl (lv_at hl 1 rfl) ?_
  refine va_get (D := (dC, dI)) (ci := 5) (v := .ref ns) (C := RX4) (T := TX4) (N := 18) hx hb hts in_c_nextTimer_0on_X4 hown hK hP 0 rfl rfl 7 (by decide) (hts (.fieldLink RX4 21 "ClaimBus$Node" "sending" "LClaimBus$Sending;") (List.mem_of_getElem? (i := 3) rfl)) (fun _ h9 => h9) rfl dX4_nextTimer_29 ?_
  refine va_get (D := (dC, dI)) (ci := 7) (v := .int 0) (C := RX6) (T := TX6) (N := 4) hx hb hts in_c_nextTimer_0on_X6 hown hK hP 1 rfl rfl 0 (by decide) (hts (.fieldLink RX4 121 "ClaimBus$Sending" "state" "I") (List.mem_of_getElem? (i := 4) rfl)) (fun _ h9 => h9) rfl dX4_nextTimer_32 ?_
  refine lv_iconst (v := 1) hx hb dX4_nextTimer_35 (by decide) ?_
  refine lv_icmp_ne (tgt := 51) hx hb dX4_nextTimer_36 (by decide) (fun c_2 => ?_) (fun c_2 => ?_)
  rotate_left
  · exact absurd c_2 (by decide)
  refine lv_iconst (v := 0) hx hb dX4_nextTimer_51 (by decide) ?_
  refine lv_istore_n (lv' := [(2, .int 0), (1, .int 2147483647), (0, .ref nd)]) hx hb dX4_nextTimer_52 rfl hl (by decide) rfl (fun ls hl => ?_)
  refine lv_iload_n hx hb dX4_nextTimer_53 rfl (lv_at hl 0 rfl) ?_
  refine lv_aload_n hx hb dX4_nextTimer_54 rfl (lv_at hl 2 rfl) ?_
  refine va_get (D := (dC, dI)) (ci := 5) (v := .ref cs) (C := RX4) (T := TX4) (N := 18) hx hb hts in_c_nextTimer_0on_X4 hown hK hP 0 rfl rfl 10 (by decide) (hts (.fieldLink RX4 41 "ClaimBus$Node" "collects" "Ljava/util/ArrayList;") (List.mem_of_getElem? (i := 5) rfl)) (fun _ h9 => h9) rfl dX4_nextTimer_55 ?_
  have hPc := hP.sub (ws' := [(cs, .inr (0, [.int (nI cm), .ref ce_, .int (nI 1)]))]) [2] rfl
  have hDc := hD.sub (ws' := [(cs, .inr (0, [.int (nI cm), .ref ce_, .int (nI 1)]))]) [2] (by decide +kernel) rfl
  have hKc := hK.sub (tys' := []) [] rfl
  have hFc := ro_free hS hA
  refine va_calli (va_runV (As := []) (rest := [.int 0]) ⟨hx, hb, hml, hown, hts⟩ (c_AL_size l dC dI (cs) (cm) (ce_) (1) H.size) (cwV 0 hts g_c_nextTimer_0on_c_AL_size_96 rfl rfl rfl (by decide +kernel) ⟨Nat.le_of_ble_eq_true rfl, Nat.le_of_ble_eq_true rfl⟩) ⟨fun a U g mk q => by obtain ⟨q0, q1, qP, qK, qD, qE⟩ := q; exact ⟨q0, q1, qP, va_K.moved (u := U) (U := U.calling g mk a) (Vm.Alike.refl U.vm) qK, qD, ev.same (u := U) (U := U.calling g mk a) rfl qE⟩, va_recv hKc hPc (ci := 0) (q0 := 0) rfl rfl, fun U hU hW => ⟨rfl, by rw [hU], by rw [hU]; exact hPc, va_K.moved hW.alike hKc, hDc.weaken (fun _ _ _ _ => trivial), hE.warm hW⟩⟩ rfl rfl hl.1 rfl (lv_room (Nat.le_of_ble_eq_true rfl)) dX4_nextTimer_58 ⟨Nat.le_of_ble_eq_true rfl, Nat.le_of_ble_eq_true rfl⟩) hS (fun q _ h => hFc q h) hFc (fun r_3 u t H1 locs ht hvm hw hB hz1 hk1 hS => ?_)
  clear hPc hDc hKc
  replace hP := ro_keep hP hk1
  generalize H1 = H at hP hS ⊢
  replace hP : va_P (dC, dI) vwCl [(nd, .inr (5, [.int nh, .int nl, .int nwa, .int nfr, .int (nI nwi), .ref r, .ref nt, .ref ns, .ref ib, .ref gs, .ref cs, .ref nu, .int 0, .int 2, .int (nI nad), .int (nI ncc), .int 0, .int 0])), (ns, .inr (7, [.int 0, .int snp, .int sdo, .null])), (cs, .inr (0, [.int (nI cm), .ref ce_, .int 1])), (ce_, .inl (cQ, 10, .inr (.inr (.inr (.inr fq))))), (tq, .inr (10, [.int 1, .int k1, .int k2, .int k3, .int k4, .int k5, .int k6, .int k7, .int (nI kl), .int k9, .int k10, .int k11, .ref kw, .ref kb])), (gs, .inl (cT, 3, .inr (.inr (.inr (.inr fg)))))] H := hP
  have hw := hw.symm
  subst hw
  rw [show ((nI 1) : Int32) = 1 from (congrArg nI (show 1 = 1 from by omega)).trans (by decide)]
  refine lv_icmp_ge (tgt := 110) hx hb dX4_nextTimer_61 (by decide) (fun c_4 => ?_) (fun c_4 => ?_)
  · exact absurd c_4 (by decide)
  refine lv_aload_n hx hb dX4_nextTimer_64 rfl (lv_at hl 2 rfl) ?_
  refine va_get (D := (dC, dI)) (ci := 5) (v := .ref cs) (C := RX4) (T := TX4) (N := 18) hx hb hts in_c_nextTimer_0on_X4 hown hK hP 0 rfl rfl 10 (by decide) (hts (.fieldLink RX4 41 "ClaimBus$Node" "collects" "Ljava/util/ArrayList;") (List.mem_of_getElem? (i := 5) rfl)) (fun _ h9 => h9) rfl dX4_nextTimer_65 ?_
  refine lv_iload_n hx hb dX4_nextTimer_68 rfl (lv_at hl 0 rfl) ?_
  have hPc := hP.sub (ws' := [(cs, .inr (0, [.int (nI cm), .ref ce_, .int (nI 1)])), (ce_, .inl (cQ, 10, .inr (.inr (.inr (.inr fq)))))]) [2, 3] rfl
  have hDc := hD.sub (ws' := [(cs, .inr (0, [.int (nI cm), .ref ce_, .int (nI 1)])), (ce_, .inl (cQ, 10, .inr (.inr (.inr (.inr fq)))))]) [2, 3] (by decide +kernel) rfl
  have hKc := hK.sub (tys' := [(cQ, (.object "java/lang/Object"))]) [0] rfl
  have hFc := ro_free hS hA
  refine va_callq (va_runV (As := [.int 0]) (rest := []) ⟨hx, hb, hml, hown, hts⟩ (c_AL_get l dC dI (cs) (cm) (ce_) (1) (cQ) (fq) (0) (tq) H.size hq (by omega) (by omega)) (cwV 1 hts g_c_nextTimer_0on_c_AL_get_100 rfl rfl rfl (by decide +kernel) ⟨Nat.le_of_ble_eq_true rfl, Nat.le_of_ble_eq_true rfl⟩) ⟨fun a U g mk q => by obtain ⟨q0, q1, qP, qK, qD, qE⟩ := q; exact ⟨q0, q1, qP, va_K.moved (u := U) (U := U.calling g mk a) (Vm.Alike.refl U.vm) qK, qD, ev.same (u := U) (U := U.calling g mk a) rfl qE⟩, va_recv hKc hPc (ci := 0) (q0 := 0) rfl rfl, fun U hU hW => ⟨rfl, by rw [hU], by rw [hU]; exact hPc, va_K.moved hW.alike hKc, hDc.weaken (fun _ _ _ _ => trivial), hE.warm hW⟩⟩ rfl rfl hl.1 rfl (lv_room (Nat.le_of_ble_eq_true rfl)) dX4_nextTimer_69 ⟨Nat.le_of_ble_eq_true rfl, Nat.le_of_ble_eq_true rfl⟩) hS (fun q _ h => hFc q h) hFc (fun r_5 u t H1 locs ht hvm hw hB hz1 hk1 hS => ?_)
  clear hPc hDc hKc
  replace hP := ro_keep hP hk1
  generalize H1 = H at hP hS ⊢
  replace hP : va_P (dC, dI) vwCl [(nd, .inr (5, [.int nh, .int nl, .int nwa, .int nfr, .int (nI nwi), .ref r, .ref nt, .ref ns, .ref ib, .ref gs, .ref cs, .ref nu, .int 0, .int 2, .int (nI nad), .int (nI ncc), .int 0, .int 0])), (ns, .inr (7, [.int 0, .int snp, .int sdo, .null])), (cs, .inr (0, [.int (nI cm), .ref ce_, .int 1])), (ce_, .inl (cQ, 10, .inr (.inr (.inr (.inr fq))))), (tq, .inr (10, [.int 1, .int k1, .int k2, .int k3, .int k4, .int k5, .int k6, .int k7, .int (nI kl), .int k9, .int k10, .int k11, .ref kw, .ref kb])), (gs, .inl (cT, 3, .inr (.inr (.inr (.inr fg)))))] H := hP
  have hw := hw.symm
  subst hw
  refine W.eq (g2 := F0 m 72 ls [.ref tq]) rfl ?_
  refine va_castS hx hb hown (hts (.classLink RX4 32 "ClaimBus$Transport") (List.mem_of_getElem? (i := 13) rfl)) (hK.1 10 _ rfl).2 (va_recv hK hP (ci := 10) (q0 := 4) rfl rfl) dX4_nextTimer_72 ?_
  refine va_get (D := (dC, dI)) (ci := 10) (v := .int 1) (C := RX9) (T := TX9) (N := 14) hx hb hts in_c_nextTimer_0on_X9 hown hK hP 4 rfl rfl 0 (by decide) (hts (.fieldLink RX4 93 "ClaimBus$Transport" "open" "Z") (List.mem_of_getElem? (i := 14) rfl)) (fun _ h9 => h9) rfl dX4_nextTimer_75 ?_
  refine lv_if_eq (tgt := 104) hx hb dX4_nextTimer_78 (by decide) (fun c_6 => ?_) (fun c_6 => ?_)
  · exact absurd c_6 (by decide)
  refine lv_iload_n hx hb dX4_nextTimer_81 rfl (lv_at hl 1 rfl) ?_
  refine lv_aload_n hx hb dX4_nextTimer_82 rfl (lv_at hl 2 rfl) ?_
  refine va_get (D := (dC, dI)) (ci := 5) (v := .ref cs) (C := RX4) (T := TX4) (N := 18) hx hb hts in_c_nextTimer_0on_X4 hown hK hP 0 rfl rfl 10 (by decide) (hts (.fieldLink RX4 41 "ClaimBus$Node" "collects" "Ljava/util/ArrayList;") (List.mem_of_getElem? (i := 5) rfl)) (fun _ h9 => h9) rfl dX4_nextTimer_83 ?_
  refine lv_iload_n hx hb dX4_nextTimer_86 rfl (lv_at hl 0 rfl) ?_
  have hPc := hP.sub (ws' := [(cs, .inr (0, [.int (nI cm), .ref ce_, .int (nI 1)])), (ce_, .inl (cQ, 10, .inr (.inr (.inr (.inr fq)))))]) [2, 3] rfl
  have hDc := hD.sub (ws' := [(cs, .inr (0, [.int (nI cm), .ref ce_, .int (nI 1)])), (ce_, .inl (cQ, 10, .inr (.inr (.inr (.inr fq)))))]) [2, 3] (by decide +kernel) rfl
  have hKc := hK.sub (tys' := [(cQ, (.object "java/lang/Object"))]) [0] rfl
  have hFc := ro_free hS hA
  refine va_callq (va_runV (As := [.int 0]) (rest := [.int 2147483647]) ⟨hx, hb, hml, hown, hts⟩ (c_AL_get l dC dI (cs) (cm) (ce_) (1) (cQ) (fq) (0) (tq) H.size hq (by omega) (by omega)) (cwV 1 hts g_c_nextTimer_0on_c_AL_get_100 rfl rfl rfl (by decide +kernel) ⟨Nat.le_of_ble_eq_true rfl, Nat.le_of_ble_eq_true rfl⟩) ⟨fun a U g mk q => by obtain ⟨q0, q1, qP, qK, qD, qE⟩ := q; exact ⟨q0, q1, qP, va_K.moved (u := U) (U := U.calling g mk a) (Vm.Alike.refl U.vm) qK, qD, ev.same (u := U) (U := U.calling g mk a) rfl qE⟩, va_recv hKc hPc (ci := 0) (q0 := 0) rfl rfl, fun U hU hW => ⟨rfl, by rw [hU], by rw [hU]; exact hPc, va_K.moved hW.alike hKc, hDc.weaken (fun _ _ _ _ => trivial), hE.warm hW⟩⟩ rfl rfl hl.1 rfl (lv_room (Nat.le_of_ble_eq_true rfl)) dX4_nextTimer_87 ⟨Nat.le_of_ble_eq_true rfl, Nat.le_of_ble_eq_true rfl⟩) hS (fun q _ h => hFc q h) hFc (fun r_7 u t H1 locs ht hvm hw hB hz1 hk1 hS => ?_)
  clear hPc hDc hKc
  replace hP := ro_keep hP hk1
  generalize H1 = H at hP hS ⊢
  replace hP : va_P (dC, dI) vwCl [(nd, .inr (5, [.int nh, .int nl, .int nwa, .int nfr, .int (nI nwi), .ref r, .ref nt, .ref ns, .ref ib, .ref gs, .ref cs, .ref nu, .int 0, .int 2, .int (nI nad), .int (nI ncc), .int 0, .int 0])), (ns, .inr (7, [.int 0, .int snp, .int sdo, .null])), (cs, .inr (0, [.int (nI cm), .ref ce_, .int 1])), (ce_, .inl (cQ, 10, .inr (.inr (.inr (.inr fq))))), (tq, .inr (10, [.int 1, .int k1, .int k2, .int k3, .int k4, .int k5, .int k6, .int k7, .int (nI kl), .int k9, .int k10, .int k11, .ref kw, .ref kb])), (gs, .inl (cT, 3, .inr (.inr (.inr (.inr fg)))))] H := hP
  have hw := hw.symm
  subst hw
  refine W.eq (g2 := F0 m 90 ls [.ref tq, .int 2147483647]) rfl ?_
  refine va_castS hx hb hown (hts (.classLink RX4 32 "ClaimBus$Transport") (List.mem_of_getElem? (i := 13) rfl)) (hK.1 10 _ rfl).2 (va_recv hK hP (ci := 10) (q0 := 4) rfl rfl) dX4_nextTimer_90 ?_
  refine va_get (D := (dC, dI)) (ci := 10) (v := .int (nI kl)) (C := RX9) (T := TX9) (N := 14) hx hb hts in_c_nextTimer_0on_X9 hown hK hP 4 rfl rfl 8 (by decide) (hts (.fieldLink RX4 153 "ClaimBus$Transport" "lastHeard" "I") (List.mem_of_getElem? (i := 15) rfl)) (fun _ h9 => h9) rfl dX4_nextTimer_93 ?_
  refine lv_sipush (v := 750) hx hb dX4_nextTimer_96 (by decide) ?_
  refine lv_iadd hx hb dX4_nextTimer_99 ?_
  refine lv_topi (fun x_8 ex_8 => ?_)
  obtain rfl : x_8 = (nI (kl + 750)) := ex_8.trans ((nI_add kl 750).trans (show nI (kl + 750) = nI (kl + 750) from congrArg nI (by omega)))
  refine va_mmin hx hb (by rw [hml]; exact hl.1.symm) hown (hts (.methodLink RX4 147 Lib.Math.min.name) (List.mem_of_getElem? (i := 16) rfl)) (hts (.static Lib.Math.min.name) (List.mem_of_getElem? (i := 17) rfl)) (hts (.initialized "java/lang/Math") (List.mem_of_getElem? (i := 18) rfl)) (hts (.code Lib.Math.min.name Lib.Math.min.code 2 (some .int)) (List.mem_of_getElem? (i := 19) rfl)) (Nat.le_of_ble_eq_true rfl) (Nat.le_of_ble_eq_true rfl) (Nat.zero_le _) (Nat.zero_le _) dX4_nextTimer_100 ?_
  obtain ⟨mn_9, hmn_9⟩ : ∃ z : Nat, z = min 2147483647 (kl + 750) := ⟨_, rfl⟩
  refine lv_topi (fun x_9 ex_9 => ?_)
  obtain rfl : x_9 = nI mn_9 := ex_9.trans ((q_min (a := 2147483647) (b := (kl + 750)) (by omega) (by omega)).trans (congrArg nI hmn_9.symm))
  refine lv_istore_n (lv' := [(1, .int (nI mn_9)), (2, .int 0), (0, .ref nd)]) hx hb dX4_nextTimer_103 rfl hl (by decide) rfl (fun ls hl => ?_)
  refine lv_iinc (v := 1) (lv' := [(2, .int 1), (1, .int (nI mn_9)), (0, .ref nd)]) hx hb dX4_nextTimer_104 hl (k := 1) rfl (by decide) (by decide) rfl (fun ls hl => ?_)
  refine lv_goto (tgt := 53) hx hb dX4_nextTimer_107 (by decide) ?_
  refine lv_iload_n hx hb dX4_nextTimer_53 rfl (lv_at hl 0 rfl) ?_
  refine lv_aload_n hx hb dX4_nextTimer_54 rfl (lv_at hl 2 rfl) ?_
  refine va_get (D := (dC, dI)) (ci := 5) (v := .ref cs) (C := RX4) (T := TX4) (N := 18) hx hb hts in_c_nextTimer_0on_X4 hown hK hP 0 rfl rfl 10 (by decide) (hts (.fieldLink RX4 41 "ClaimBus$Node" "collects" "Ljava/util/ArrayList;") (List.mem_of_getElem? (i := 5) rfl)) (fun _ h9 => h9) rfl dX4_nextTimer_55 ?_
  have hPc := hP.sub (ws' := [(cs, .inr (0, [.int (nI cm), .ref ce_, .int (nI 1)]))]) [2] rfl
  have hDc := hD.sub (ws' := [(cs, .inr (0, [.int (nI cm), .ref ce_, .int (nI 1)]))]) [2] (by decide +kernel) rfl
  have hKc := hK.sub (tys' := []) [] rfl
  have hFc := ro_free hS hA
  refine va_calli (va_runV (As := []) (rest := [.int 1]) ⟨hx, hb, hml, hown, hts⟩ (c_AL_size l dC dI (cs) (cm) (ce_) (1) H.size) (cwV 0 hts g_c_nextTimer_0on_c_AL_size_96 rfl rfl rfl (by decide +kernel) ⟨Nat.le_of_ble_eq_true rfl, Nat.le_of_ble_eq_true rfl⟩) ⟨fun a U g mk q => by obtain ⟨q0, q1, qP, qK, qD, qE⟩ := q; exact ⟨q0, q1, qP, va_K.moved (u := U) (U := U.calling g mk a) (Vm.Alike.refl U.vm) qK, qD, ev.same (u := U) (U := U.calling g mk a) rfl qE⟩, va_recv hKc hPc (ci := 0) (q0 := 0) rfl rfl, fun U hU hW => ⟨rfl, by rw [hU], by rw [hU]; exact hPc, va_K.moved hW.alike hKc, hDc.weaken (fun _ _ _ _ => trivial), hE.warm hW⟩⟩ rfl rfl hl.1 rfl (lv_room (Nat.le_of_ble_eq_true rfl)) dX4_nextTimer_58 ⟨Nat.le_of_ble_eq_true rfl, Nat.le_of_ble_eq_true rfl⟩) hS (fun q _ h => hFc q h) hFc (fun r_10 u t H1 locs ht hvm hw hB hz1 hk1 hS => ?_)
  clear hPc hDc hKc
  replace hP := ro_keep hP hk1
  generalize H1 = H at hP hS ⊢
  replace hP : va_P (dC, dI) vwCl [(nd, .inr (5, [.int nh, .int nl, .int nwa, .int nfr, .int (nI nwi), .ref r, .ref nt, .ref ns, .ref ib, .ref gs, .ref cs, .ref nu, .int 0, .int 2, .int (nI nad), .int (nI ncc), .int 0, .int 0])), (ns, .inr (7, [.int 0, .int snp, .int sdo, .null])), (cs, .inr (0, [.int (nI cm), .ref ce_, .int 1])), (ce_, .inl (cQ, 10, .inr (.inr (.inr (.inr fq))))), (tq, .inr (10, [.int 1, .int k1, .int k2, .int k3, .int k4, .int k5, .int k6, .int k7, .int (nI kl), .int k9, .int k10, .int k11, .ref kw, .ref kb])), (gs, .inl (cT, 3, .inr (.inr (.inr (.inr fg)))))] H := hP
  have hw := hw.symm
  subst hw
  rw [show ((nI 1) : Int32) = 1 from (congrArg nI (show 1 = 1 from by omega)).trans (by decide)]
  refine lv_icmp_ge (tgt := 110) hx hb dX4_nextTimer_61 (by decide) (fun c_11 => ?_) (fun c_11 => ?_)
  rotate_left
  · exact absurd (by decide) c_11
  refine lv_aload_n hx hb dX4_nextTimer_110 rfl (lv_at hl 2 rfl) ?_
  refine va_get (D := (dC, dI)) (ci := 5) (v := .ref gs) (C := RX4) (T := TX4) (N := 18) hx hb hts in_c_nextTimer_0on_X4 hown hK hP 0 rfl rfl 9 (by decide) (hts (.fieldLink RX4 34 "ClaimBus$Node" "gets" "[LClaimBus$Transport;") (List.mem_of_getElem? (i := 20) rfl)) (fun _ h9 => h9) rfl dX4_nextTimer_111 ?_
  refine lv_astore_n (lv' := [(2, .ref gs), (1, .int (nI mn_9)), (0, .ref nd)]) hx hb dX4_nextTimer_114 rfl hl (by decide) rfl (fun ls hl => ?_)
  refine lv_aload_n hx hb dX4_nextTimer_115 rfl (lv_at hl 0 rfl) ?_
  refine va_alen hx hb hK hP 5 1 rfl rfl (v := 3) rfl dX4_nextTimer_116 ?_
  refine lv_istore_n (lv' := [(3, .int 3), (2, .ref gs), (1, .int (nI mn_9)), (0, .ref nd)]) hx hb dX4_nextTimer_117 rfl hl (by decide) rfl (fun ls hl => ?_)
  refine lv_iconst (v := 0) hx hb dX4_nextTimer_118 (by decide) ?_
  refine lv_istore (lv' := [(4, .int 0), (3, .int 3), (2, .ref gs), (1, .int (nI mn_9)), (0, .ref nd)]) hx hb dX4_nextTimer_119 hl (by decide) rfl (fun ls hl => ?_)
  refine lv_iload hx hb dX4_nextTimer_121 (lv_at hl 0 rfl) ?_
  refine lv_iload_n hx hb dX4_nextTimer_123 rfl (lv_at hl 1 rfl) ?_
  refine lv_icmp_ge (tgt := 166) hx hb dX4_nextTimer_124 (by decide) (fun c_12 => ?_) (fun c_12 => ?_)
  · exact absurd c_12 (by decide)
  refine lv_aload_n hx hb dX4_nextTimer_127 rfl (lv_at hl 2 rfl) ?_
  refine lv_iload hx hb dX4_nextTimer_128 (lv_at hl 0 rfl) ?_
  refine va_aldq hx hb hK hP 5 1 rfl rfl (vp_in_nI (n := 0) (by omega) (by omega)) dX4_nextTimer_130 ?_
  refine W.eq (g2 := F0 m 131 ls [.null]) (by rw [(show Int32.toNatClampNeg (0 : Int32) = 0 by decide), g0]; rfl) ?_
  refine lv_astoreN (lv' := [(5, .null), (4, .int 0), (3, .int 3), (2, .ref gs), (1, .int (nI mn_9)), (0, .ref nd)]) hx hb dX4_nextTimer_131 hl (by decide) rfl (fun ls hl => ?_)
  refine lv_aloadN hx hb dX4_nextTimer_133 (lv_at hl 0 rfl) ?_
  refine lv_ifnullN (tgt := 160) hx hb dX4_nextTimer_135 (by decide) ?_
  refine lv_iinc (v := 1) (lv' := [(4, .int 1), (5, .null), (3, .int 3), (2, .ref gs), (1, .int (nI mn_9)), (0, .ref nd)]) hx hb dX4_nextTimer_160 hl (k := 1) rfl (by decide) (by decide) rfl (fun ls hl => ?_)
  refine lv_goto (tgt := 121) hx hb dX4_nextTimer_163 (by decide) ?_
  refine lv_iload hx hb dX4_nextTimer_121 (lv_at hl 0 rfl) ?_
  refine lv_iload_n hx hb dX4_nextTimer_123 rfl (lv_at hl 2 rfl) ?_
  refine lv_icmp_ge (tgt := 166) hx hb dX4_nextTimer_124 (by decide) (fun c_13 => ?_) (fun c_13 => ?_)
  · exact absurd c_13 (by decide)
  refine lv_aload_n hx hb dX4_nextTimer_127 rfl (lv_at hl 3 rfl) ?_
  refine lv_iload hx hb dX4_nextTimer_128 (lv_at hl 0 rfl) ?_
  refine va_aldq hx hb hK hP 5 1 rfl rfl (vp_in_nI (n := 1) (by omega) (by omega)) dX4_nextTimer_130 ?_
  refine W.eq (g2 := F0 m 131 ls [.null]) (by rw [(show Int32.toNatClampNeg (1 : Int32) = 1 by decide), g1]; rfl) ?_
  refine lv_astoreN (lv' := [(5, .null), (4, .int 1), (3, .int 3), (2, .ref gs), (1, .int (nI mn_9)), (0, .ref nd)]) hx hb dX4_nextTimer_131 hl (by decide) rfl (fun ls hl => ?_)
  refine lv_aloadN hx hb dX4_nextTimer_133 (lv_at hl 0 rfl) ?_
  refine lv_ifnullN (tgt := 160) hx hb dX4_nextTimer_135 (by decide) ?_
  refine lv_iinc (v := 2) (lv' := [(4, .int 2), (5, .null), (3, .int 3), (2, .ref gs), (1, .int (nI mn_9)), (0, .ref nd)]) hx hb dX4_nextTimer_160 hl (k := 1) rfl (by decide) (by decide) rfl (fun ls hl => ?_)
  refine lv_goto (tgt := 121) hx hb dX4_nextTimer_163 (by decide) ?_
  refine lv_iload hx hb dX4_nextTimer_121 (lv_at hl 0 rfl) ?_
  refine lv_iload_n hx hb dX4_nextTimer_123 rfl (lv_at hl 2 rfl) ?_
  refine lv_icmp_ge (tgt := 166) hx hb dX4_nextTimer_124 (by decide) (fun c_14 => ?_) (fun c_14 => ?_)
  · exact absurd c_14 (by decide)
  refine lv_aload_n hx hb dX4_nextTimer_127 rfl (lv_at hl 3 rfl) ?_
  refine lv_iload hx hb dX4_nextTimer_128 (lv_at hl 0 rfl) ?_
  refine va_aldq hx hb hK hP 5 1 rfl rfl (vp_in_nI (n := 2) (by omega) (by omega)) dX4_nextTimer_130 ?_
  refine W.eq (g2 := F0 m 131 ls [.null]) (by rw [(show Int32.toNatClampNeg (2 : Int32) = 2 by decide), g2]; rfl) ?_
  refine lv_astoreN (lv' := [(5, .null), (4, .int 2), (3, .int 3), (2, .ref gs), (1, .int (nI mn_9)), (0, .ref nd)]) hx hb dX4_nextTimer_131 hl (by decide) rfl (fun ls hl => ?_)
  refine lv_aloadN hx hb dX4_nextTimer_133 (lv_at hl 0 rfl) ?_
  refine lv_ifnullN (tgt := 160) hx hb dX4_nextTimer_135 (by decide) ?_
  refine lv_iinc (v := 3) (lv' := [(4, .int 3), (5, .null), (3, .int 3), (2, .ref gs), (1, .int (nI mn_9)), (0, .ref nd)]) hx hb dX4_nextTimer_160 hl (k := 1) rfl (by decide) (by decide) rfl (fun ls hl => ?_)
  refine lv_goto (tgt := 121) hx hb dX4_nextTimer_163 (by decide) ?_
  refine lv_iload hx hb dX4_nextTimer_121 (lv_at hl 0 rfl) ?_
  refine lv_iload_n hx hb dX4_nextTimer_123 rfl (lv_at hl 2 rfl) ?_
  refine lv_icmp_ge (tgt := 166) hx hb dX4_nextTimer_124 (by decide) (fun c_15 => ?_) (fun c_15 => ?_)
  rotate_left
  · exact absurd (by decide) c_15
  refine lv_iload_n hx hb dX4_nextTimer_166 rfl (lv_at hl 4 rfl) ?_
  exact W.iret (v := (nI mn_9)) hx hb hr (fun t ht hW => ⟨⟨(nI mn_9), (), rfl, congrArg nI (show mn_9 = (kl + 750) from by omega), trivial⟩, hS.F ht⟩) hS.2.2 dX4_nextTimer_167

noncomputable def tl_c_nextTimer_0nc : List Cond := wsX40 ++ (wsX60 ++ (wsX90 ++ (v_c_AL_size)))
noncomputable def v_c_nextTimer_0nc : List Cond := .code yX4_nextTimer cX4_nextTimer 6 (some .int) :: ([.constant RX4 146 (2147483647), .fieldLink RX4 53 "ClaimBus$Node" "state" "I", .fieldLink RX4 21 "ClaimBus$Node" "sending" "LClaimBus$Sending;", .fieldLink RX4 121 "ClaimBus$Sending" "state" "I", .fieldLink RX4 41 "ClaimBus$Node" "collects" "Ljava/util/ArrayList;", .initialized RJx4a65c, .methodLink RX4 96 yJx4a65c_size_8abf5, .instanceMethod yJx4a65c_size_8abf5, .selects RJx4a65c yJx4a65c_size_8abf5 yJx4a65c_size_8abf5, .fieldLink RX4 34 "ClaimBus$Node" "gets" "[LClaimBus$Transport;", .fieldLink RX4 93 "ClaimBus$Transport" "open" "Z"] ++ tl_c_nextTimer_0nc)
theorem it_c_nextTimer_0nc : ∀ w ∈ tl_c_nextTimer_0nc, w ∈ v_c_nextTimer_0nc := fun w h => List.mem_cons_of_mem _ (List.mem_append_right _ h)
theorem in_c_nextTimer_0nc_X4 : ∀ w ∈ wsX40, w ∈ v_c_nextTimer_0nc := fun w h => it_c_nextTimer_0nc w (List.mem_append_left _ h)
theorem in_c_nextTimer_0nc_X6 : ∀ w ∈ wsX60, w ∈ v_c_nextTimer_0nc := fun w h => it_c_nextTimer_0nc w (List.mem_append_right _ (List.mem_append_left _ h))
theorem in_c_nextTimer_0nc_X9 : ∀ w ∈ wsX90, w ∈ v_c_nextTimer_0nc := fun w h => it_c_nextTimer_0nc w (List.mem_append_right _ (List.mem_append_right _ (List.mem_append_left _ h)))
theorem ic_c_nextTimer_0nc_c_AL_size : ∀ w ∈ v_c_AL_size, w ∈ v_c_nextTimer_0nc := fun w h => it_c_nextTimer_0nc w (List.mem_append_right _ (List.mem_append_right _ (List.mem_append_right _ (h))))
theorem gt_c_nextTimer_0nc : ∀ w ∈ tl_c_nextTimer_0nc, goodWord w = true := List.forall_mem_append.mpr ⟨gw_wsX40, List.forall_mem_append.mpr ⟨gw_wsX60, List.forall_mem_append.mpr ⟨gw_wsX90, gw_c_AL_size⟩⟩⟩
theorem gw_c_nextTimer_0nc : ∀ w ∈ v_c_nextTimer_0nc, goodWord w = true := List.forall_mem_cons.mpr ⟨by decide +kernel, List.forall_mem_append.mpr ⟨List.all_eq_true.mp (by decide +kernel), gt_c_nextTimer_0nc⟩⟩
theorem g_c_nextTimer_0nc_c_AL_size_96 : GoodIn v_c_nextTimer_0nc (wsV RX4 96 RJx4a65c yJx4a65c_size_8abf5 v_c_AL_size) := goodIn_app (goodIn_r [.methodLink RX4 96 yJx4a65c_size_8abf5, .instanceMethod yJx4a65c_size_8abf5, .selects RJx4a65c yJx4a65c_size_8abf5 yJx4a65c_size_8abf5, .initialized RJx4a65c] [7, 8, 9, 6] (by decide +kernel) (by decide +kernel)) (fun w h => ⟨ic_c_nextTimer_0nc_c_AL_size w h, good_of_word (gw_c_AL_size w h)⟩)
set_option maxHeartbeats 4000000 in
set_option maxRecDepth 100000 in
theorem c_nextTimer_0nc (l : Launch) (dC : Nat → ClassId) (dI : Nat → Nat → Nat) (nd : Nat) (nh : Int32) (nl : Int32) (nwa : Int32) (nfr : Int32) (nwi : Nat) (r : Nat) (nt : Nat) (ns : Nat) (ib : Nat) (gs : Nat) (cs : Nat) (nu : Nat) (nad : Nat) (ncc : Nat) (snp : Int32) (sdo : Int32) (cm : Nat) (ce_ : Nat) (cT : ClassId) (fg : Nat → Option Nat) (tr : Nat) (j1 : Int32) (j2 : Int32) (j3 : Int32) (j4 : Int32) (j5 : Int32) (j6 : Int32) (j7 : Int32) (j8 : Int32) (j9 : Int32) (j10 : Int32) (j11 : Int32) (jw : Nat) (jb : Nat) (sz : Nat) (g0 : fg 0 = some tr) (g1 : fg 1 = none) (g2 : fg 2 = none) : Met l yX4_nextTimer v_c_nextTimer_0nc ({ frames := 1, cells := 0, slots := 0, locals := 20 }) (va_Pc [.ref nd] (fun U => U.heap.size = sz ∧ va_P (dC, dI) vwCl [(nd, .inr (5, [.int nh, .int nl, .int nwa, .int nfr, .int (nI nwi), .ref r, .ref nt, .ref ns, .ref ib, .ref gs, .ref cs, .ref nu, .int 0, .int 2, .int (nI nad), .int (nI ncc), .int 0, .int 0])), (ns, .inr (7, [.int 0, .int snp, .int sdo, .null])), (cs, .inr (0, [.int (nI cm), .ref ce_, .int 0])), (gs, .inl (cT, 3, .inr (.inr (.inr (.inr fg))))), (tr, .inr (10, [.int 0, .int j1, .int j2, .int j3, .int j4, .int j5, .int j6, .int j7, .int j8, .int j9, .int j10, .int j11, .ref jw, .ref jb]))] U.heap ∧ va_K (dC, dI) vwCl [(cT, (.object RX9))] U ∧ va_D (fun _ => True) [(nd, .inr (5, [.int nh, .int nl, .int nwa, .int nfr, .int (nI nwi), .ref r, .ref nt, .ref ns, .ref ib, .ref gs, .ref cs, .ref nu, .int 0, .int 2, .int (nI nad), .int (nI ncc), .int 0, .int 0])), (ns, .inr (7, [.int 0, .int snp, .int sdo, .null])), (cs, .inr (0, [.int (nI cm), .ref ce_, .int 0])), (gs, .inl (cT, 3, .inr (.inr (.inr (.inr fg))))), (tr, .inr (10, [.int 0, .int j1, .int j2, .int j3, .int j4, .int j5, .int j6, .int j7, .int j8, .int j9, .int j10, .int j11, .ref jw, .ref jb]))] ∧ ev U)) (va_Qi (fun (r : Int32) (_ : Unit) => r = 2147483647) (fun (_ : Unit) (_ : State) => True) (va_A [] sz)) 0 0 (va_A [] sz) := by
  refine Met.ofW (cc := cX4_nextTimer) (maxL := 6) (ret := (some .int)) (by decide) rfl ?_
  intro p e s m args below meth c s₁ B hml hv
  obtain ⟨rfl, hsz, hP, hK, hD0, hE⟩ := hv
  have hx := B.exec
  have hb := B.bytes
  have hr := B.returns
  have hts := atoms_spec (ws := v_c_nextTimer_0nc) B.pre
  have hown : s.vm.findClass RX4 = some m.cls := findClass_of_methodNamed B.named
  have hlocks := B.notSynchronized
  subst hsz
  have hD := hD0
  generalize hAe : va_A [] s.heap.size = A
  have hA : ∀ q : Nat, s.heap.size ≤ q → A q := fun q h => by rw [← hAe]; exact Or.inr h
  have hS : va_S A s.heap s.heap [] := va_S.rf
  replace hP : va_P (dC, dI) vwCl [(nd, .inr (5, [.int nh, .int nl, .int nwa, .int nfr, .int (nI nwi), .ref r, .ref nt, .ref ns, .ref ib, .ref gs, .ref cs, .ref nu, .int 0, .int 2, .int (nI nad), .int (nI ncc), .int 0, .int 0])), (ns, .inr (7, [.int 0, .int snp, .int sdo, .null])), (cs, .inr (0, [.int (nI cm), .ref ce_, .int 0])), (gs, .inl (cT, 3, .inr (.inr (.inr (.inr fg))))), (tr, .inr (10, [.int 0, .int j1, .int j2, .int j3, .int j4, .int j5, .int j6, .int j7, .int j8, .int j9, .int j10, .int j11, .ref jw, .ref jb]))] s.heap := hP
  have hl := lv_entry ([.ref nd]) (n := 6) (Nat.le_of_ble_eq_true rfl)
  rw [lg_entry_eq]
  generalize (lg_sl ([.ref nd]) ++ List.replicate (6 - (lg_sl ([.ref nd])).length) Slot.unset).toArray = ls at hl ⊢
  replace hl : lv_has ls 6 [(0, .ref nd)] := hl
  obtain ⟨H, hH⟩ : ∃ z : Heap, z = s.heap := ⟨_, rfl⟩
  rw [← hH]
  replace hS : va_S A s.heap H [] := by rw [hH]; exact va_S.rf
  replace hP : va_P (dC, dI) vwCl [(nd, .inr (5, [.int nh, .int nl, .int nwa, .int nfr, .int (nI nwi), .ref r, .ref nt, .ref ns, .ref ib, .ref gs, .ref cs, .ref nu, .int 0, .int 2, .int (nI nad), .int (nI ncc), .int 0, .int 0])), (ns, .inr (7, [.int 0, .int snp, .int sdo, .null])), (cs, .inr (0, [.int (nI cm), .ref ce_, .int 0])), (gs, .inl (cT, 3, .inr (.inr (.inr (.inr fg))))), (tr, .inr (10, [.int 0, .int j1, .int j2, .int j3, .int j4, .int j5, .int j6, .int j7, .int j8, .int j9, .int j10, .int j11, .ref jw, .ref jb]))] H := by rw [hH]; exact hP
  clear hH
  refine lv_ldc hx hb hown (hts (.constant RX4 146 (2147483647)) (List.mem_of_getElem? (i := 1) rfl)) dX4_nextTimer_0 ?_
  refine lv_istore_n (lv' := [(1, .int 2147483647), (0, .ref nd)]) hx hb dX4_nextTimer_2 rfl hl (by decide) rfl (fun ls hl => ?_)
  refine lv_aload_n hx hb dX4_nextTimer_3 rfl (lv_at hl 1 rfl) ?_
  refine va_get (D := (dC, dI)) (ci := 5) (v := .int 2) (C := RX4) (T := TX4) (N := 18) hx hb hts in_c_nextTimer_0nc_X4 hown hK hP 0 rfl rfl 13 (by decide) (hts (.fieldLink RX4 53 "ClaimBus$Node" "state" "I") (List.mem_of_getElem? (i := 2) rfl)) (fun _ h9 => h9) rfl dX4_nextTimer_4 ?_
  refine lv_iconst (v := 1) hx hb dX4_nextTimer_7 (by decide) ?_
  refine lv_icmp_ne (tgt := 28) hx hb dX4_nextTimer_8 (by decide) (fun c_1 => ?_) (fun c_1 => ?_)
  rotate_left
  · exact absurd c_1 (by decide)
  refine lv_aload_n hx hb dX4_nextTimer_28 rfl (lv_at hl 1 rfl) ?_
  refine va_get (D := (dC, dI)) (ci := 5) (v := .ref ns) (C := RX4) (T := TX4) (N := 18) hx hb hts in_c_nextTimer_0nc_X4 hown hK hP 0 rfl rfl 7 (by decide) (hts (.fieldLink RX4 21 "ClaimBus$Node" "sending" "LClaimBus$Sending;") (List.mem_of_getElem? (i := 3) rfl)) (fun _ h9 => h9) rfl dX4_nextTimer_29 ?_
  refine va_get (D := (dC, dI)) (ci := 7) (v := .int 0) (C := RX6) (T := TX6) (N := 4) hx hb hts in_c_nextTimer_0nc_X6 hown hK hP 1 rfl rfl 0 (by decide) (hts (.fieldLink RX4 121 "ClaimBus$Sending" "state" "I") (List.mem_of_getElem? (i := 4) rfl)) (fun _ h9 => h9) rfl dX4_nextTimer_32 ?_
  refine lv_iconst (v := 1) hx hb dX4_nextTimer_35 (by decide) ?_
  refine lv_icmp_ne (tgt := 51) hx hb dX4_nextTimer_36 (by decide) (fun c_2 => ?_) (fun c_2 => ?_)
  rotate_left
  · exact absurd c_2 (by decide)
  refine lv_iconst (v := 0) hx hb dX4_nextTimer_51 (by decide) ?_
  refine lv_istore_n (lv' := [(2, .int 0), (1, .int 2147483647), (0, .ref nd)]) hx hb dX4_nextTimer_52 rfl hl (by decide) rfl (fun ls hl => ?_)
  refine lv_iload_n hx hb dX4_nextTimer_53 rfl (lv_at hl 0 rfl) ?_
  refine lv_aload_n hx hb dX4_nextTimer_54 rfl (lv_at hl 2 rfl) ?_
  refine va_get (D := (dC, dI)) (ci := 5) (v := .ref cs) (C := RX4) (T := TX4) (N := 18) hx hb hts in_c_nextTimer_0nc_X4 hown hK hP 0 rfl rfl 10 (by decide) (hts (.fieldLink RX4 41 "ClaimBus$Node" "collects" "Ljava/util/ArrayList;") (List.mem_of_getElem? (i := 5) rfl)) (fun _ h9 => h9) rfl dX4_nextTimer_55 ?_
  have hPc := hP.sub (ws' := [(cs, .inr (0, [.int (nI cm), .ref ce_, .int (nI 0)]))]) [2] rfl
  have hDc := hD.sub (ws' := [(cs, .inr (0, [.int (nI cm), .ref ce_, .int (nI 0)]))]) [2] (by decide +kernel) rfl
  have hKc := hK.sub (tys' := []) [] rfl
  have hFc := ro_free hS hA
  refine va_calli (va_runV (As := []) (rest := [.int 0]) ⟨hx, hb, hml, hown, hts⟩ (c_AL_size l dC dI (cs) (cm) (ce_) (0) H.size) (cwV 0 hts g_c_nextTimer_0nc_c_AL_size_96 rfl rfl rfl (by decide +kernel) ⟨Nat.le_of_ble_eq_true rfl, Nat.le_of_ble_eq_true rfl⟩) ⟨fun a U g mk q => by obtain ⟨q0, q1, qP, qK, qD, qE⟩ := q; exact ⟨q0, q1, qP, va_K.moved (u := U) (U := U.calling g mk a) (Vm.Alike.refl U.vm) qK, qD, ev.same (u := U) (U := U.calling g mk a) rfl qE⟩, va_recv hKc hPc (ci := 0) (q0 := 0) rfl rfl, fun U hU hW => ⟨rfl, by rw [hU], by rw [hU]; exact hPc, va_K.moved hW.alike hKc, hDc.weaken (fun _ _ _ _ => trivial), hE.warm hW⟩⟩ rfl rfl hl.1 rfl (lv_room (Nat.le_of_ble_eq_true rfl)) dX4_nextTimer_58 ⟨Nat.le_of_ble_eq_true rfl, Nat.le_of_ble_eq_true rfl⟩) hS (fun q _ h => hFc q h) hFc (fun r_3 u t H1 locs ht hvm hw hB hz1 hk1 hS => ?_)
  clear hPc hDc hKc
  replace hP := ro_keep hP hk1
  generalize H1 = H at hP hS ⊢
  replace hP : va_P (dC, dI) vwCl [(nd, .inr (5, [.int nh, .int nl, .int nwa, .int nfr, .int (nI nwi), .ref r, .ref nt, .ref ns, .ref ib, .ref gs, .ref cs, .ref nu, .int 0, .int 2, .int (nI nad), .int (nI ncc), .int 0, .int 0])), (ns, .inr (7, [.int 0, .int snp, .int sdo, .null])), (cs, .inr (0, [.int (nI cm), .ref ce_, .int 0])), (gs, .inl (cT, 3, .inr (.inr (.inr (.inr fg))))), (tr, .inr (10, [.int 0, .int j1, .int j2, .int j3, .int j4, .int j5, .int j6, .int j7, .int j8, .int j9, .int j10, .int j11, .ref jw, .ref jb]))] H := hP
  have hw := hw.symm
  subst hw
  rw [show ((nI 0) : Int32) = 0 from (congrArg nI (show 0 = 0 from by omega)).trans (by decide)]
  refine lv_icmp_ge (tgt := 110) hx hb dX4_nextTimer_61 (by decide) (fun c_4 => ?_) (fun c_4 => ?_)
  rotate_left
  · exact absurd (by decide) c_4
  refine lv_aload_n hx hb dX4_nextTimer_110 rfl (lv_at hl 2 rfl) ?_
  refine va_get (D := (dC, dI)) (ci := 5) (v := .ref gs) (C := RX4) (T := TX4) (N := 18) hx hb hts in_c_nextTimer_0nc_X4 hown hK hP 0 rfl rfl 9 (by decide) (hts (.fieldLink RX4 34 "ClaimBus$Node" "gets" "[LClaimBus$Transport;") (List.mem_of_getElem? (i := 10) rfl)) (fun _ h9 => h9) rfl dX4_nextTimer_111 ?_
  refine lv_astore_n (lv' := [(2, .ref gs), (1, .int 2147483647), (0, .ref nd)]) hx hb dX4_nextTimer_114 rfl hl (by decide) rfl (fun ls hl => ?_)
  refine lv_aload_n hx hb dX4_nextTimer_115 rfl (lv_at hl 0 rfl) ?_
  refine va_alen hx hb hK hP 3 0 rfl rfl (v := 3) rfl dX4_nextTimer_116 ?_
  refine lv_istore_n (lv' := [(3, .int 3), (2, .ref gs), (1, .int 2147483647), (0, .ref nd)]) hx hb dX4_nextTimer_117 rfl hl (by decide) rfl (fun ls hl => ?_)
  refine lv_iconst (v := 0) hx hb dX4_nextTimer_118 (by decide) ?_
  refine lv_istore (lv' := [(4, .int 0), (3, .int 3), (2, .ref gs), (1, .int 2147483647), (0, .ref nd)]) hx hb dX4_nextTimer_119 hl (by decide) rfl (fun ls hl => ?_)
  refine lv_iload hx hb dX4_nextTimer_121 (lv_at hl 0 rfl) ?_
  refine lv_iload_n hx hb dX4_nextTimer_123 rfl (lv_at hl 1 rfl) ?_
  refine lv_icmp_ge (tgt := 166) hx hb dX4_nextTimer_124 (by decide) (fun c_5 => ?_) (fun c_5 => ?_)
  · exact absurd c_5 (by decide)
  refine lv_aload_n hx hb dX4_nextTimer_127 rfl (lv_at hl 2 rfl) ?_
  refine lv_iload hx hb dX4_nextTimer_128 (lv_at hl 0 rfl) ?_
  refine va_aldq hx hb hK hP 3 0 rfl rfl (vp_in_nI (n := 0) (by omega) (by omega)) dX4_nextTimer_130 ?_
  refine W.eq (g2 := F0 m 131 ls [.ref tr]) (by rw [(show Int32.toNatClampNeg (0 : Int32) = 0 by decide), g0]; rfl) ?_
  refine lv_astore (lv' := [(5, .ref tr), (4, .int 0), (3, .int 3), (2, .ref gs), (1, .int 2147483647), (0, .ref nd)]) hx hb dX4_nextTimer_131 hl (by decide) rfl (fun ls hl => ?_)
  refine lv_aload hx hb dX4_nextTimer_133 (lv_at hl 0 rfl) ?_
  refine lv_ifnull hx hb dX4_nextTimer_135 ?_
  refine lv_aload hx hb dX4_nextTimer_138 (lv_at hl 0 rfl) ?_
  refine va_get (D := (dC, dI)) (ci := 10) (v := .int 0) (C := RX9) (T := TX9) (N := 14) hx hb hts in_c_nextTimer_0nc_X9 hown hK hP 4 rfl rfl 0 (by decide) (hts (.fieldLink RX4 93 "ClaimBus$Transport" "open" "Z") (List.mem_of_getElem? (i := 11) rfl)) (fun _ h9 => h9) rfl dX4_nextTimer_140 ?_
  refine lv_if_eq (tgt := 160) hx hb dX4_nextTimer_143 (by decide) (fun c_6 => ?_) (fun c_6 => ?_)
  rotate_left
  · exact absurd (by decide) c_6
  refine lv_iinc (v := 1) (lv' := [(4, .int 1), (5, .ref tr), (3, .int 3), (2, .ref gs), (1, .int 2147483647), (0, .ref nd)]) hx hb dX4_nextTimer_160 hl (k := 1) rfl (by decide) (by decide) rfl (fun ls hl => ?_)
  refine lv_goto (tgt := 121) hx hb dX4_nextTimer_163 (by decide) ?_
  refine lv_iload hx hb dX4_nextTimer_121 (lv_at hl 0 rfl) ?_
  refine lv_iload_n hx hb dX4_nextTimer_123 rfl (lv_at hl 2 rfl) ?_
  refine lv_icmp_ge (tgt := 166) hx hb dX4_nextTimer_124 (by decide) (fun c_7 => ?_) (fun c_7 => ?_)
  · exact absurd c_7 (by decide)
  refine lv_aload_n hx hb dX4_nextTimer_127 rfl (lv_at hl 3 rfl) ?_
  refine lv_iload hx hb dX4_nextTimer_128 (lv_at hl 0 rfl) ?_
  refine va_aldq hx hb hK hP 3 0 rfl rfl (vp_in_nI (n := 1) (by omega) (by omega)) dX4_nextTimer_130 ?_
  refine W.eq (g2 := F0 m 131 ls [.null]) (by rw [(show Int32.toNatClampNeg (1 : Int32) = 1 by decide), g1]; rfl) ?_
  refine lv_astoreN (lv' := [(5, .null), (4, .int 1), (3, .int 3), (2, .ref gs), (1, .int 2147483647), (0, .ref nd)]) hx hb dX4_nextTimer_131 hl (by decide) rfl (fun ls hl => ?_)
  refine lv_aloadN hx hb dX4_nextTimer_133 (lv_at hl 0 rfl) ?_
  refine lv_ifnullN (tgt := 160) hx hb dX4_nextTimer_135 (by decide) ?_
  refine lv_iinc (v := 2) (lv' := [(4, .int 2), (5, .null), (3, .int 3), (2, .ref gs), (1, .int 2147483647), (0, .ref nd)]) hx hb dX4_nextTimer_160 hl (k := 1) rfl (by decide) (by decide) rfl (fun ls hl => ?_)
  refine lv_goto (tgt := 121) hx hb dX4_nextTimer_163 (by decide) ?_
  refine lv_iload hx hb dX4_nextTimer_121 (lv_at hl 0 rfl) ?_
  refine lv_iload_n hx hb dX4_nextTimer_123 rfl (lv_at hl 2 rfl) ?_
  refine lv_icmp_ge (tgt := 166) hx hb dX4_nextTimer_124 (by decide) (fun c_8 => ?_) (fun c_8 => ?_)
  · exact absurd c_8 (by decide)
  refine lv_aload_n hx hb dX4_nextTimer_127 rfl (lv_at hl 3 rfl) ?_
  refine lv_iload hx hb dX4_nextTimer_128 (lv_at hl 0 rfl) ?_
  refine va_aldq hx hb hK hP 3 0 rfl rfl (vp_in_nI (n := 2) (by omega) (by omega)) dX4_nextTimer_130 ?_
  refine W.eq (g2 := F0 m 131 ls [.null]) (by rw [(show Int32.toNatClampNeg (2 : Int32) = 2 by decide), g2]; rfl) ?_
  refine lv_astoreN (lv' := [(5, .null), (4, .int 2), (3, .int 3), (2, .ref gs), (1, .int 2147483647), (0, .ref nd)]) hx hb dX4_nextTimer_131 hl (by decide) rfl (fun ls hl => ?_)
  refine lv_aloadN hx hb dX4_nextTimer_133 (lv_at hl 0 rfl) ?_
  refine lv_ifnullN (tgt := 160) hx hb dX4_nextTimer_135 (by decide) ?_
  refine lv_iinc (v := 3) (lv' := [(4, .int 3), (5, .null), (3, .int 3), (2, .ref gs), (1, .int 2147483647), (0, .ref nd)]) hx hb dX4_nextTimer_160 hl (k := 1) rfl (by decide) (by decide) rfl (fun ls hl => ?_)
  refine lv_goto (tgt := 121) hx hb dX4_nextTimer_163 (by decide) ?_
  refine lv_iload hx hb dX4_nextTimer_121 (lv_at hl 0 rfl) ?_
  refine lv_iload_n hx hb dX4_nextTimer_123 rfl (lv_at hl 2 rfl) ?_
  refine lv_icmp_ge (tgt := 166) hx hb dX4_nextTimer_124 (by decide) (fun c_9 => ?_) (fun c_9 => ?_)
  rotate_left
  · exact absurd (by decide) c_9
  refine lv_iload_n hx hb dX4_nextTimer_166 rfl (lv_at hl 4 rfl) ?_
  exact W.iret (v := 2147483647) hx hb hr (fun t ht hW => ⟨⟨2147483647, (), rfl, rfl, trivial⟩, hS.F ht⟩) hS.2.2 dX4_nextTimer_167

noncomputable def tl_c_nextTimer_0cc : List Cond := wsX40 ++ (wsX60 ++ (wsX90 ++ (v_c_AL_size ++ (v_c_AL_get))))
noncomputable def v_c_nextTimer_0cc : List Cond := .code yX4_nextTimer cX4_nextTimer 6 (some .int) :: ([.constant RX4 146 (2147483647), .fieldLink RX4 53 "ClaimBus$Node" "state" "I", .fieldLink RX4 21 "ClaimBus$Node" "sending" "LClaimBus$Sending;", .fieldLink RX4 121 "ClaimBus$Sending" "state" "I", .fieldLink RX4 41 "ClaimBus$Node" "collects" "Ljava/util/ArrayList;", .initialized RJx4a65c, .methodLink RX4 96 yJx4a65c_size_8abf5, .instanceMethod yJx4a65c_size_8abf5, .selects RJx4a65c yJx4a65c_size_8abf5 yJx4a65c_size_8abf5, .methodLink RX4 100 yJx4a65c_get_915e3, .instanceMethod yJx4a65c_get_915e3, .selects RJx4a65c yJx4a65c_get_915e3 yJx4a65c_get_915e3, .classLink RX4 32 "ClaimBus$Transport", .fieldLink RX4 93 "ClaimBus$Transport" "open" "Z", .fieldLink RX4 34 "ClaimBus$Node" "gets" "[LClaimBus$Transport;"] ++ tl_c_nextTimer_0cc)
theorem it_c_nextTimer_0cc : ∀ w ∈ tl_c_nextTimer_0cc, w ∈ v_c_nextTimer_0cc := fun w h => List.mem_cons_of_mem _ (List.mem_append_right _ h)
theorem in_c_nextTimer_0cc_X4 : ∀ w ∈ wsX40, w ∈ v_c_nextTimer_0cc := fun w h => it_c_nextTimer_0cc w (List.mem_append_left _ h)
theorem in_c_nextTimer_0cc_X6 : ∀ w ∈ wsX60, w ∈ v_c_nextTimer_0cc := fun w h => it_c_nextTimer_0cc w (List.mem_append_right _ (List.mem_append_left _ h))
theorem in_c_nextTimer_0cc_X9 : ∀ w ∈ wsX90, w ∈ v_c_nextTimer_0cc := fun w h => it_c_nextTimer_0cc w (List.mem_append_right _ (List.mem_append_right _ (List.mem_append_left _ h)))
theorem ic_c_nextTimer_0cc_c_AL_size : ∀ w ∈ v_c_AL_size, w ∈ v_c_nextTimer_0cc := fun w h => it_c_nextTimer_0cc w (List.mem_append_right _ (List.mem_append_right _ (List.mem_append_right _ (List.mem_append_left _ h))))
theorem ic_c_nextTimer_0cc_c_AL_get : ∀ w ∈ v_c_AL_get, w ∈ v_c_nextTimer_0cc := fun w h => it_c_nextTimer_0cc w (List.mem_append_right _ (List.mem_append_right _ (List.mem_append_right _ (List.mem_append_right _ (h)))))
theorem gt_c_nextTimer_0cc : ∀ w ∈ tl_c_nextTimer_0cc, goodWord w = true := List.forall_mem_append.mpr ⟨gw_wsX40, List.forall_mem_append.mpr ⟨gw_wsX60, List.forall_mem_append.mpr ⟨gw_wsX90, List.forall_mem_append.mpr ⟨gw_c_AL_size, gw_c_AL_get⟩⟩⟩⟩
theorem gw_c_nextTimer_0cc : ∀ w ∈ v_c_nextTimer_0cc, goodWord w = true := List.forall_mem_cons.mpr ⟨by decide +kernel, List.forall_mem_append.mpr ⟨List.all_eq_true.mp (by decide +kernel), gt_c_nextTimer_0cc⟩⟩
theorem g_c_nextTimer_0cc_c_AL_size_96 : GoodIn v_c_nextTimer_0cc (wsV RX4 96 RJx4a65c yJx4a65c_size_8abf5 v_c_AL_size) := goodIn_app (goodIn_r [.methodLink RX4 96 yJx4a65c_size_8abf5, .instanceMethod yJx4a65c_size_8abf5, .selects RJx4a65c yJx4a65c_size_8abf5 yJx4a65c_size_8abf5, .initialized RJx4a65c] [7, 8, 9, 6] (by decide +kernel) (by decide +kernel)) (fun w h => ⟨ic_c_nextTimer_0cc_c_AL_size w h, good_of_word (gw_c_AL_size w h)⟩)
theorem g_c_nextTimer_0cc_c_AL_get_100 : GoodIn v_c_nextTimer_0cc (wsV RX4 100 RJx4a65c yJx4a65c_get_915e3 v_c_AL_get) := goodIn_app (goodIn_r [.methodLink RX4 100 yJx4a65c_get_915e3, .instanceMethod yJx4a65c_get_915e3, .selects RJx4a65c yJx4a65c_get_915e3 yJx4a65c_get_915e3, .initialized RJx4a65c] [10, 11, 12, 6] (by decide +kernel) (by decide +kernel)) (fun w h => ⟨ic_c_nextTimer_0cc_c_AL_get w h, good_of_word (gw_c_AL_get w h)⟩)
set_option maxHeartbeats 4000000 in
set_option maxRecDepth 100000 in
theorem c_nextTimer_0cc (l : Launch) (dC : Nat → ClassId) (dI : Nat → Nat → Nat) (nd : Nat) (nh : Int32) (nl : Int32) (nwa : Int32) (nfr : Int32) (nwi : Nat) (r : Nat) (nt : Nat) (ns : Nat) (ib : Nat) (gs : Nat) (cs : Nat) (nu : Nat) (nad : Nat) (ncc : Nat) (snp : Int32) (sdo : Int32) (cm : Nat) (ce_ : Nat) (cQ : ClassId) (fq : Nat → Option Nat) (tq : Nat) (k1 : Int32) (k2 : Int32) (k3 : Int32) (k4 : Int32) (k5 : Int32) (k6 : Int32) (k7 : Int32) (k8 : Int32) (k9 : Int32) (k10 : Int32) (k11 : Int32) (kw : Nat) (kb : Nat) (cT : ClassId) (fg : Nat → Option Nat) (tr : Nat) (j1 : Int32) (j2 : Int32) (j3 : Int32) (j4 : Int32) (j5 : Int32) (j6 : Int32) (j7 : Int32) (j8 : Int32) (j9 : Int32) (j10 : Int32) (j11 : Int32) (jw : Nat) (jb : Nat) (sz : Nat) (hq : fq 0 = some tq) (g0 : fg 0 = some tr) (g1 : fg 1 = none) (g2 : fg 2 = none) : Met l yX4_nextTimer v_c_nextTimer_0cc ({ frames := 3, cells := 0, slots := 0, locals := 64 }) (va_Pc [.ref nd] (fun U => U.heap.size = sz ∧ va_P (dC, dI) vwCl [(nd, .inr (5, [.int nh, .int nl, .int nwa, .int nfr, .int (nI nwi), .ref r, .ref nt, .ref ns, .ref ib, .ref gs, .ref cs, .ref nu, .int 0, .int 2, .int (nI nad), .int (nI ncc), .int 0, .int 0])), (ns, .inr (7, [.int 0, .int snp, .int sdo, .null])), (cs, .inr (0, [.int (nI cm), .ref ce_, .int 1])), (ce_, .inl (cQ, 10, .inr (.inr (.inr (.inr fq))))), (tq, .inr (10, [.int 0, .int k1, .int k2, .int k3, .int k4, .int k5, .int k6, .int k7, .int k8, .int k9, .int k10, .int k11, .ref kw, .ref kb])), (gs, .inl (cT, 3, .inr (.inr (.inr (.inr fg))))), (tr, .inr (10, [.int 0, .int j1, .int j2, .int j3, .int j4, .int j5, .int j6, .int j7, .int j8, .int j9, .int j10, .int j11, .ref jw, .ref jb]))] U.heap ∧ va_K (dC, dI) vwCl [(cQ, (.object "java/lang/Object")), (cT, (.object RX9))] U ∧ va_D (fun _ => True) [(nd, .inr (5, [.int nh, .int nl, .int nwa, .int nfr, .int (nI nwi), .ref r, .ref nt, .ref ns, .ref ib, .ref gs, .ref cs, .ref nu, .int 0, .int 2, .int (nI nad), .int (nI ncc), .int 0, .int 0])), (ns, .inr (7, [.int 0, .int snp, .int sdo, .null])), (cs, .inr (0, [.int (nI cm), .ref ce_, .int 1])), (ce_, .inl (cQ, 10, .inr (.inr (.inr (.inr fq))))), (tq, .inr (10, [.int 0, .int k1, .int k2, .int k3, .int k4, .int k5, .int k6, .int k7, .int k8, .int k9, .int k10, .int k11, .ref kw, .ref kb])), (gs, .inl (cT, 3, .inr (.inr (.inr (.inr fg))))), (tr, .inr (10, [.int 0, .int j1, .int j2, .int j3, .int j4, .int j5, .int j6, .int j7, .int j8, .int j9, .int j10, .int j11, .ref jw, .ref jb]))] ∧ ev U)) (va_Qi (fun (r : Int32) (_ : Unit) => r = 2147483647) (fun (_ : Unit) (_ : State) => True) (va_A [] sz)) 0 0 (va_A [] sz) := by
  refine Met.ofW (cc := cX4_nextTimer) (maxL := 6) (ret := (some .int)) (by decide) rfl ?_
  intro p e s m args below meth c s₁ B hml hv
  obtain ⟨rfl, hsz, hP, hK, hD0, hE⟩ := hv
  have hx := B.exec
  have hb := B.bytes
  have hr := B.returns
  have hts := atoms_spec (ws := v_c_nextTimer_0cc) B.pre
  have hown : s.vm.findClass RX4 = some m.cls := findClass_of_methodNamed B.named
  have hlocks := B.notSynchronized
  subst hsz
  have hD := hD0
  generalize hAe : va_A [] s.heap.size = A
  have hA : ∀ q : Nat, s.heap.size ≤ q → A q := fun q h => by rw [← hAe]; exact Or.inr h
  have hS : va_S A s.heap s.heap [] := va_S.rf
  replace hP : va_P (dC, dI) vwCl [(nd, .inr (5, [.int nh, .int nl, .int nwa, .int nfr, .int (nI nwi), .ref r, .ref nt, .ref ns, .ref ib, .ref gs, .ref cs, .ref nu, .int 0, .int 2, .int (nI nad), .int (nI ncc), .int 0, .int 0])), (ns, .inr (7, [.int 0, .int snp, .int sdo, .null])), (cs, .inr (0, [.int (nI cm), .ref ce_, .int 1])), (ce_, .inl (cQ, 10, .inr (.inr (.inr (.inr fq))))), (tq, .inr (10, [.int 0, .int k1, .int k2, .int k3, .int k4, .int k5, .int k6, .int k7, .int k8, .int k9, .int k10, .int k11, .ref kw, .ref kb])), (gs, .inl (cT, 3, .inr (.inr (.inr (.inr fg))))), (tr, .inr (10, [.int 0, .int j1, .int j2, .int j3, .int j4, .int j5, .int j6, .int j7, .int j8, .int j9, .int j10, .int j11, .ref jw, .ref jb]))] s.heap := hP
  have hl := lv_entry ([.ref nd]) (n := 6) (Nat.le_of_ble_eq_true rfl)
  rw [lg_entry_eq]
  generalize (lg_sl ([.ref nd]) ++ List.replicate (6 - (lg_sl ([.ref nd])).length) Slot.unset).toArray = ls at hl ⊢
  replace hl : lv_has ls 6 [(0, .ref nd)] := hl
  obtain ⟨H, hH⟩ : ∃ z : Heap, z = s.heap := ⟨_, rfl⟩
  rw [← hH]
  replace hS : va_S A s.heap H [] := by rw [hH]; exact va_S.rf
  replace hP : va_P (dC, dI) vwCl [(nd, .inr (5, [.int nh, .int nl, .int nwa, .int nfr, .int (nI nwi), .ref r, .ref nt, .ref ns, .ref ib, .ref gs, .ref cs, .ref nu, .int 0, .int 2, .int (nI nad), .int (nI ncc), .int 0, .int 0])), (ns, .inr (7, [.int 0, .int snp, .int sdo, .null])), (cs, .inr (0, [.int (nI cm), .ref ce_, .int 1])), (ce_, .inl (cQ, 10, .inr (.inr (.inr (.inr fq))))), (tq, .inr (10, [.int 0, .int k1, .int k2, .int k3, .int k4, .int k5, .int k6, .int k7, .int k8, .int k9, .int k10, .int k11, .ref kw, .ref kb])), (gs, .inl (cT, 3, .inr (.inr (.inr (.inr fg))))), (tr, .inr (10, [.int 0, .int j1, .int j2, .int j3, .int j4, .int j5, .int j6, .int j7, .int j8, .int j9, .int j10, .int j11, .ref jw, .ref jb]))] H := by rw [hH]; exact hP
  clear hH
  refine lv_ldc hx hb hown (hts (.constant RX4 146 (2147483647)) (List.mem_of_getElem? (i := 1) rfl)) dX4_nextTimer_0 ?_
  refine lv_istore_n (lv' := [(1, .int 2147483647), (0, .ref nd)]) hx hb dX4_nextTimer_2 rfl hl (by decide) rfl (fun ls hl => ?_)
  refine lv_aload_n hx hb dX4_nextTimer_3 rfl (lv_at hl 1 rfl) ?_
  refine va_get (D := (dC, dI)) (ci := 5) (v := .int 2) (C := RX4) (T := TX4) (N := 18) hx hb hts in_c_nextTimer_0cc_X4 hown hK hP 0 rfl rfl 13 (by decide) (hts (.fieldLink RX4 53 "ClaimBus$Node" "state" "I") (List.mem_of_getElem? (i := 2) rfl)) (fun _ h9 => h9) rfl dX4_nextTimer_4 ?_
  refine lv_iconst (v := 1) hx hb dX4_nextTimer_7 (by decide) ?_
  refine lv_icmp_ne (tgt := 28) hx hb dX4_nextTimer_8 (by decide) (fun c_1 => ?_) (fun c_1 => ?_)
  rotate_left
  · exact absurd c_1 (by decide)
  refine lv_aload_n hx hb dX4_nextTimer_28 rfl (lv_at hl 1 rfl) ?_
  refine va_get (D := (dC, dI)) (ci := 5) (v := .ref ns) (C := RX4) (T := TX4) (N := 18) hx hb hts in_c_nextTimer_0cc_X4 hown hK hP 0 rfl rfl 7 (by decide) (hts (.fieldLink RX4 21 "ClaimBus$Node" "sending" "LClaimBus$Sending;") (List.mem_of_getElem? (i := 3) rfl)) (fun _ h9 => h9) rfl dX4_nextTimer_29 ?_
  refine va_get (D := (dC, dI)) (ci := 7) (v := .int 0) (C := RX6) (T := TX6) (N := 4) hx hb hts in_c_nextTimer_0cc_X6 hown hK hP 1 rfl rfl 0 (by decide) (hts (.fieldLink RX4 121 "ClaimBus$Sending" "state" "I") (List.mem_of_getElem? (i := 4) rfl)) (fun _ h9 => h9) rfl dX4_nextTimer_32 ?_
  refine lv_iconst (v := 1) hx hb dX4_nextTimer_35 (by decide) ?_
  refine lv_icmp_ne (tgt := 51) hx hb dX4_nextTimer_36 (by decide) (fun c_2 => ?_) (fun c_2 => ?_)
  rotate_left
  · exact absurd c_2 (by decide)
  refine lv_iconst (v := 0) hx hb dX4_nextTimer_51 (by decide) ?_
  refine lv_istore_n (lv' := [(2, .int 0), (1, .int 2147483647), (0, .ref nd)]) hx hb dX4_nextTimer_52 rfl hl (by decide) rfl (fun ls hl => ?_)
  refine lv_iload_n hx hb dX4_nextTimer_53 rfl (lv_at hl 0 rfl) ?_
  refine lv_aload_n hx hb dX4_nextTimer_54 rfl (lv_at hl 2 rfl) ?_
  refine va_get (D := (dC, dI)) (ci := 5) (v := .ref cs) (C := RX4) (T := TX4) (N := 18) hx hb hts in_c_nextTimer_0cc_X4 hown hK hP 0 rfl rfl 10 (by decide) (hts (.fieldLink RX4 41 "ClaimBus$Node" "collects" "Ljava/util/ArrayList;") (List.mem_of_getElem? (i := 5) rfl)) (fun _ h9 => h9) rfl dX4_nextTimer_55 ?_
  have hPc := hP.sub (ws' := [(cs, .inr (0, [.int (nI cm), .ref ce_, .int (nI 1)]))]) [2] rfl
  have hDc := hD.sub (ws' := [(cs, .inr (0, [.int (nI cm), .ref ce_, .int (nI 1)]))]) [2] (by decide +kernel) rfl
  have hKc := hK.sub (tys' := []) [] rfl
  have hFc := ro_free hS hA
  refine va_calli (va_runV (As := []) (rest := [.int 0]) ⟨hx, hb, hml, hown, hts⟩ (c_AL_size l dC dI (cs) (cm) (ce_) (1) H.size) (cwV 0 hts g_c_nextTimer_0cc_c_AL_size_96 rfl rfl rfl (by decide +kernel) ⟨Nat.le_of_ble_eq_true rfl, Nat.le_of_ble_eq_true rfl⟩) ⟨fun a U g mk q => by obtain ⟨q0, q1, qP, qK, qD, qE⟩ := q; exact ⟨q0, q1, qP, va_K.moved (u := U) (U := U.calling g mk a) (Vm.Alike.refl U.vm) qK, qD, ev.same (u := U) (U := U.calling g mk a) rfl qE⟩, va_recv hKc hPc (ci := 0) (q0 := 0) rfl rfl, fun U hU hW => ⟨rfl, by rw [hU], by rw [hU]; exact hPc, va_K.moved hW.alike hKc, hDc.weaken (fun _ _ _ _ => trivial), hE.warm hW⟩⟩ rfl rfl hl.1 rfl (lv_room (Nat.le_of_ble_eq_true rfl)) dX4_nextTimer_58 ⟨Nat.le_of_ble_eq_true rfl, Nat.le_of_ble_eq_true rfl⟩) hS (fun q _ h => hFc q h) hFc (fun r_3 u t H1 locs ht hvm hw hB hz1 hk1 hS => ?_)
  clear hPc hDc hKc
  replace hP := ro_keep hP hk1
  generalize H1 = H at hP hS ⊢
  replace hP : va_P (dC, dI) vwCl [(nd, .inr (5, [.int nh, .int nl, .int nwa, .int nfr, .int (nI nwi), .ref r, .ref nt, .ref ns, .ref ib, .ref gs, .ref cs, .ref nu, .int 0, .int 2, .int (nI nad), .int (nI ncc), .int 0, .int 0])), (ns, .inr (7, [.int 0, .int snp, .int sdo, .null])), (cs, .inr (0, [.int (nI cm), .ref ce_, .int 1])), (ce_, .inl (cQ, 10, .inr (.inr (.inr (.inr fq))))), (tq, .inr (10, [.int 0, .int k1, .int k2, .int k3, .int k4, .int k5, .int k6, .int k7, .int k8, .int k9, .int k10, .int k11, .ref kw, .ref kb])), (gs, .inl (cT, 3, .inr (.inr (.inr (.inr fg))))), (tr, .inr (10, [.int 0, .int j1, .int j2, .int j3, .int j4, .int j5, .int j6, .int j7, .int j8, .int j9, .int j10, .int j11, .ref jw, .ref jb]))] H := hP
  have hw := hw.symm
  subst hw
  rw [show ((nI 1) : Int32) = 1 from (congrArg nI (show 1 = 1 from by omega)).trans (by decide)]
  refine lv_icmp_ge (tgt := 110) hx hb dX4_nextTimer_61 (by decide) (fun c_4 => ?_) (fun c_4 => ?_)
  · exact absurd c_4 (by decide)
  refine lv_aload_n hx hb dX4_nextTimer_64 rfl (lv_at hl 2 rfl) ?_
  refine va_get (D := (dC, dI)) (ci := 5) (v := .ref cs) (C := RX4) (T := TX4) (N := 18) hx hb hts in_c_nextTimer_0cc_X4 hown hK hP 0 rfl rfl 10 (by decide) (hts (.fieldLink RX4 41 "ClaimBus$Node" "collects" "Ljava/util/ArrayList;") (List.mem_of_getElem? (i := 5) rfl)) (fun _ h9 => h9) rfl dX4_nextTimer_65 ?_
  refine lv_iload_n hx hb dX4_nextTimer_68 rfl (lv_at hl 0 rfl) ?_
  have hPc := hP.sub (ws' := [(cs, .inr (0, [.int (nI cm), .ref ce_, .int (nI 1)])), (ce_, .inl (cQ, 10, .inr (.inr (.inr (.inr fq)))))]) [2, 3] rfl
  have hDc := hD.sub (ws' := [(cs, .inr (0, [.int (nI cm), .ref ce_, .int (nI 1)])), (ce_, .inl (cQ, 10, .inr (.inr (.inr (.inr fq)))))]) [2, 3] (by decide +kernel) rfl
  have hKc := hK.sub (tys' := [(cQ, (.object "java/lang/Object"))]) [0] rfl
  have hFc := ro_free hS hA
  refine va_callq (va_runV (As := [.int 0]) (rest := []) ⟨hx, hb, hml, hown, hts⟩ (c_AL_get l dC dI (cs) (cm) (ce_) (1) (cQ) (fq) (0) (tq) H.size hq (by omega) (by omega)) (cwV 1 hts g_c_nextTimer_0cc_c_AL_get_100 rfl rfl rfl (by decide +kernel) ⟨Nat.le_of_ble_eq_true rfl, Nat.le_of_ble_eq_true rfl⟩) ⟨fun a U g mk q => by obtain ⟨q0, q1, qP, qK, qD, qE⟩ := q; exact ⟨q0, q1, qP, va_K.moved (u := U) (U := U.calling g mk a) (Vm.Alike.refl U.vm) qK, qD, ev.same (u := U) (U := U.calling g mk a) rfl qE⟩, va_recv hKc hPc (ci := 0) (q0 := 0) rfl rfl, fun U hU hW => ⟨rfl, by rw [hU], by rw [hU]; exact hPc, va_K.moved hW.alike hKc, hDc.weaken (fun _ _ _ _ => trivial), hE.warm hW⟩⟩ rfl rfl hl.1 rfl (lv_room (Nat.le_of_ble_eq_true rfl)) dX4_nextTimer_69 ⟨Nat.le_of_ble_eq_true rfl, Nat.le_of_ble_eq_true rfl⟩) hS (fun q _ h => hFc q h) hFc (fun r_5 u t H1 locs ht hvm hw hB hz1 hk1 hS => ?_)
  clear hPc hDc hKc
  replace hP := ro_keep hP hk1
  generalize H1 = H at hP hS ⊢
  replace hP : va_P (dC, dI) vwCl [(nd, .inr (5, [.int nh, .int nl, .int nwa, .int nfr, .int (nI nwi), .ref r, .ref nt, .ref ns, .ref ib, .ref gs, .ref cs, .ref nu, .int 0, .int 2, .int (nI nad), .int (nI ncc), .int 0, .int 0])), (ns, .inr (7, [.int 0, .int snp, .int sdo, .null])), (cs, .inr (0, [.int (nI cm), .ref ce_, .int 1])), (ce_, .inl (cQ, 10, .inr (.inr (.inr (.inr fq))))), (tq, .inr (10, [.int 0, .int k1, .int k2, .int k3, .int k4, .int k5, .int k6, .int k7, .int k8, .int k9, .int k10, .int k11, .ref kw, .ref kb])), (gs, .inl (cT, 3, .inr (.inr (.inr (.inr fg))))), (tr, .inr (10, [.int 0, .int j1, .int j2, .int j3, .int j4, .int j5, .int j6, .int j7, .int j8, .int j9, .int j10, .int j11, .ref jw, .ref jb]))] H := hP
  have hw := hw.symm
  subst hw
  refine W.eq (g2 := F0 m 72 ls [.ref tq]) rfl ?_
  refine va_castS hx hb hown (hts (.classLink RX4 32 "ClaimBus$Transport") (List.mem_of_getElem? (i := 13) rfl)) (hK.1 10 _ rfl).2 (va_recv hK hP (ci := 10) (q0 := 4) rfl rfl) dX4_nextTimer_72 ?_
  refine va_get (D := (dC, dI)) (ci := 10) (v := .int 0) (C := RX9) (T := TX9) (N := 14) hx hb hts in_c_nextTimer_0cc_X9 hown hK hP 4 rfl rfl 0 (by decide) (hts (.fieldLink RX4 93 "ClaimBus$Transport" "open" "Z") (List.mem_of_getElem? (i := 14) rfl)) (fun _ h9 => h9) rfl dX4_nextTimer_75 ?_
  refine lv_if_eq (tgt := 104) hx hb dX4_nextTimer_78 (by decide) (fun c_6 => ?_) (fun c_6 => ?_)
  rotate_left
  · exact absurd (by decide) c_6
  refine lv_iinc (v := 1) (lv' := [(2, .int 1), (1, .int 2147483647), (0, .ref nd)]) hx hb dX4_nextTimer_104 hl (k := 0) rfl (by decide) (by decide) rfl (fun ls hl => ?_)
  refine lv_goto (tgt := 53) hx hb dX4_nextTimer_107 (by decide) ?_
  refine lv_iload_n hx hb dX4_nextTimer_53 rfl (lv_at hl 0 rfl) ?_
  refine lv_aload_n hx hb dX4_nextTimer_54 rfl (lv_at hl 2 rfl) ?_
  refine va_get (D := (dC, dI)) (ci := 5) (v := .ref cs) (C := RX4) (T := TX4) (N := 18) hx hb hts in_c_nextTimer_0cc_X4 hown hK hP 0 rfl rfl 10 (by decide) (hts (.fieldLink RX4 41 "ClaimBus$Node" "collects" "Ljava/util/ArrayList;") (List.mem_of_getElem? (i := 5) rfl)) (fun _ h9 => h9) rfl dX4_nextTimer_55 ?_
  have hPc := hP.sub (ws' := [(cs, .inr (0, [.int (nI cm), .ref ce_, .int (nI 1)]))]) [2] rfl
  have hDc := hD.sub (ws' := [(cs, .inr (0, [.int (nI cm), .ref ce_, .int (nI 1)]))]) [2] (by decide +kernel) rfl
  have hKc := hK.sub (tys' := []) [] rfl
  have hFc := ro_free hS hA
  refine va_calli (va_runV (As := []) (rest := [.int 1]) ⟨hx, hb, hml, hown, hts⟩ (c_AL_size l dC dI (cs) (cm) (ce_) (1) H.size) (cwV 0 hts g_c_nextTimer_0cc_c_AL_size_96 rfl rfl rfl (by decide +kernel) ⟨Nat.le_of_ble_eq_true rfl, Nat.le_of_ble_eq_true rfl⟩) ⟨fun a U g mk q => by obtain ⟨q0, q1, qP, qK, qD, qE⟩ := q; exact ⟨q0, q1, qP, va_K.moved (u := U) (U := U.calling g mk a) (Vm.Alike.refl U.vm) qK, qD, ev.same (u := U) (U := U.calling g mk a) rfl qE⟩, va_recv hKc hPc (ci := 0) (q0 := 0) rfl rfl, fun U hU hW => ⟨rfl, by rw [hU], by rw [hU]; exact hPc, va_K.moved hW.alike hKc, hDc.weaken (fun _ _ _ _ => trivial), hE.warm hW⟩⟩ rfl rfl hl.1 rfl (lv_room (Nat.le_of_ble_eq_true rfl)) dX4_nextTimer_58 ⟨Nat.le_of_ble_eq_true rfl, Nat.le_of_ble_eq_true rfl⟩) hS (fun q _ h => hFc q h) hFc (fun r_7 u t H1 locs ht hvm hw hB hz1 hk1 hS => ?_)
  clear hPc hDc hKc
  replace hP := ro_keep hP hk1
  generalize H1 = H at hP hS ⊢
  replace hP : va_P (dC, dI) vwCl [(nd, .inr (5, [.int nh, .int nl, .int nwa, .int nfr, .int (nI nwi), .ref r, .ref nt, .ref ns, .ref ib, .ref gs, .ref cs, .ref nu, .int 0, .int 2, .int (nI nad), .int (nI ncc), .int 0, .int 0])), (ns, .inr (7, [.int 0, .int snp, .int sdo, .null])), (cs, .inr (0, [.int (nI cm), .ref ce_, .int 1])), (ce_, .inl (cQ, 10, .inr (.inr (.inr (.inr fq))))), (tq, .inr (10, [.int 0, .int k1, .int k2, .int k3, .int k4, .int k5, .int k6, .int k7, .int k8, .int k9, .int k10, .int k11, .ref kw, .ref kb])), (gs, .inl (cT, 3, .inr (.inr (.inr (.inr fg))))), (tr, .inr (10, [.int 0, .int j1, .int j2, .int j3, .int j4, .int j5, .int j6, .int j7, .int j8, .int j9, .int j10, .int j11, .ref jw, .ref jb]))] H := hP
  have hw := hw.symm
  subst hw
  rw [show ((nI 1) : Int32) = 1 from (congrArg nI (show 1 = 1 from by omega)).trans (by decide)]
  refine lv_icmp_ge (tgt := 110) hx hb dX4_nextTimer_61 (by decide) (fun c_8 => ?_) (fun c_8 => ?_)
  rotate_left
  · exact absurd (by decide) c_8
  refine lv_aload_n hx hb dX4_nextTimer_110 rfl (lv_at hl 2 rfl) ?_
  refine va_get (D := (dC, dI)) (ci := 5) (v := .ref gs) (C := RX4) (T := TX4) (N := 18) hx hb hts in_c_nextTimer_0cc_X4 hown hK hP 0 rfl rfl 9 (by decide) (hts (.fieldLink RX4 34 "ClaimBus$Node" "gets" "[LClaimBus$Transport;") (List.mem_of_getElem? (i := 15) rfl)) (fun _ h9 => h9) rfl dX4_nextTimer_111 ?_
  refine lv_astore_n (lv' := [(2, .ref gs), (1, .int 2147483647), (0, .ref nd)]) hx hb dX4_nextTimer_114 rfl hl (by decide) rfl (fun ls hl => ?_)
  refine lv_aload_n hx hb dX4_nextTimer_115 rfl (lv_at hl 0 rfl) ?_
  refine va_alen hx hb hK hP 5 1 rfl rfl (v := 3) rfl dX4_nextTimer_116 ?_
  refine lv_istore_n (lv' := [(3, .int 3), (2, .ref gs), (1, .int 2147483647), (0, .ref nd)]) hx hb dX4_nextTimer_117 rfl hl (by decide) rfl (fun ls hl => ?_)
  refine lv_iconst (v := 0) hx hb dX4_nextTimer_118 (by decide) ?_
  refine lv_istore (lv' := [(4, .int 0), (3, .int 3), (2, .ref gs), (1, .int 2147483647), (0, .ref nd)]) hx hb dX4_nextTimer_119 hl (by decide) rfl (fun ls hl => ?_)
  refine lv_iload hx hb dX4_nextTimer_121 (lv_at hl 0 rfl) ?_
  refine lv_iload_n hx hb dX4_nextTimer_123 rfl (lv_at hl 1 rfl) ?_
  refine lv_icmp_ge (tgt := 166) hx hb dX4_nextTimer_124 (by decide) (fun c_9 => ?_) (fun c_9 => ?_)
  · exact absurd c_9 (by decide)
  refine lv_aload_n hx hb dX4_nextTimer_127 rfl (lv_at hl 2 rfl) ?_
  refine lv_iload hx hb dX4_nextTimer_128 (lv_at hl 0 rfl) ?_
  refine va_aldq hx hb hK hP 5 1 rfl rfl (vp_in_nI (n := 0) (by omega) (by omega)) dX4_nextTimer_130 ?_
  refine W.eq (g2 := F0 m 131 ls [.ref tr]) (by rw [(show Int32.toNatClampNeg (0 : Int32) = 0 by decide), g0]; rfl) ?_
  refine lv_astore (lv' := [(5, .ref tr), (4, .int 0), (3, .int 3), (2, .ref gs), (1, .int 2147483647), (0, .ref nd)]) hx hb dX4_nextTimer_131 hl (by decide) rfl (fun ls hl => ?_)
  refine lv_aload hx hb dX4_nextTimer_133 (lv_at hl 0 rfl) ?_
  refine lv_ifnull hx hb dX4_nextTimer_135 ?_
  refine lv_aload hx hb dX4_nextTimer_138 (lv_at hl 0 rfl) ?_
  refine va_get (D := (dC, dI)) (ci := 10) (v := .int 0) (C := RX9) (T := TX9) (N := 14) hx hb hts in_c_nextTimer_0cc_X9 hown hK hP 6 rfl rfl 0 (by decide) (hts (.fieldLink RX4 93 "ClaimBus$Transport" "open" "Z") (List.mem_of_getElem? (i := 14) rfl)) (fun _ h9 => h9) rfl dX4_nextTimer_140 ?_
  refine lv_if_eq (tgt := 160) hx hb dX4_nextTimer_143 (by decide) (fun c_10 => ?_) (fun c_10 => ?_)
  rotate_left
  · exact absurd (by decide) c_10
  refine lv_iinc (v := 1) (lv' := [(4, .int 1), (5, .ref tr), (3, .int 3), (2, .ref gs), (1, .int 2147483647), (0, .ref nd)]) hx hb dX4_nextTimer_160 hl (k := 1) rfl (by decide) (by decide) rfl (fun ls hl => ?_)
  refine lv_goto (tgt := 121) hx hb dX4_nextTimer_163 (by decide) ?_
  refine lv_iload hx hb dX4_nextTimer_121 (lv_at hl 0 rfl) ?_
  refine lv_iload_n hx hb dX4_nextTimer_123 rfl (lv_at hl 2 rfl) ?_
  refine lv_icmp_ge (tgt := 166) hx hb dX4_nextTimer_124 (by decide) (fun c_11 => ?_) (fun c_11 => ?_)
  · exact absurd c_11 (by decide)
  refine lv_aload_n hx hb dX4_nextTimer_127 rfl (lv_at hl 3 rfl) ?_
  refine lv_iload hx hb dX4_nextTimer_128 (lv_at hl 0 rfl) ?_
  refine va_aldq hx hb hK hP 5 1 rfl rfl (vp_in_nI (n := 1) (by omega) (by omega)) dX4_nextTimer_130 ?_
  refine W.eq (g2 := F0 m 131 ls [.null]) (by rw [(show Int32.toNatClampNeg (1 : Int32) = 1 by decide), g1]; rfl) ?_
  refine lv_astoreN (lv' := [(5, .null), (4, .int 1), (3, .int 3), (2, .ref gs), (1, .int 2147483647), (0, .ref nd)]) hx hb dX4_nextTimer_131 hl (by decide) rfl (fun ls hl => ?_)
  refine lv_aloadN hx hb dX4_nextTimer_133 (lv_at hl 0 rfl) ?_
  refine lv_ifnullN (tgt := 160) hx hb dX4_nextTimer_135 (by decide) ?_
  refine lv_iinc (v := 2) (lv' := [(4, .int 2), (5, .null), (3, .int 3), (2, .ref gs), (1, .int 2147483647), (0, .ref nd)]) hx hb dX4_nextTimer_160 hl (k := 1) rfl (by decide) (by decide) rfl (fun ls hl => ?_)
  refine lv_goto (tgt := 121) hx hb dX4_nextTimer_163 (by decide) ?_
  refine lv_iload hx hb dX4_nextTimer_121 (lv_at hl 0 rfl) ?_
  refine lv_iload_n hx hb dX4_nextTimer_123 rfl (lv_at hl 2 rfl) ?_
  refine lv_icmp_ge (tgt := 166) hx hb dX4_nextTimer_124 (by decide) (fun c_12 => ?_) (fun c_12 => ?_)
  · exact absurd c_12 (by decide)
  refine lv_aload_n hx hb dX4_nextTimer_127 rfl (lv_at hl 3 rfl) ?_
  refine lv_iload hx hb dX4_nextTimer_128 (lv_at hl 0 rfl) ?_
  refine va_aldq hx hb hK hP 5 1 rfl rfl (vp_in_nI (n := 2) (by omega) (by omega)) dX4_nextTimer_130 ?_
  refine W.eq (g2 := F0 m 131 ls [.null]) (by rw [(show Int32.toNatClampNeg (2 : Int32) = 2 by decide), g2]; rfl) ?_
  refine lv_astoreN (lv' := [(5, .null), (4, .int 2), (3, .int 3), (2, .ref gs), (1, .int 2147483647), (0, .ref nd)]) hx hb dX4_nextTimer_131 hl (by decide) rfl (fun ls hl => ?_)
  refine lv_aloadN hx hb dX4_nextTimer_133 (lv_at hl 0 rfl) ?_
  refine lv_ifnullN (tgt := 160) hx hb dX4_nextTimer_135 (by decide) ?_
  refine lv_iinc (v := 3) (lv' := [(4, .int 3), (5, .null), (3, .int 3), (2, .ref gs), (1, .int 2147483647), (0, .ref nd)]) hx hb dX4_nextTimer_160 hl (k := 1) rfl (by decide) (by decide) rfl (fun ls hl => ?_)
  refine lv_goto (tgt := 121) hx hb dX4_nextTimer_163 (by decide) ?_
  refine lv_iload hx hb dX4_nextTimer_121 (lv_at hl 0 rfl) ?_
  refine lv_iload_n hx hb dX4_nextTimer_123 rfl (lv_at hl 2 rfl) ?_
  refine lv_icmp_ge (tgt := 166) hx hb dX4_nextTimer_124 (by decide) (fun c_13 => ?_) (fun c_13 => ?_)
  rotate_left
  · exact absurd (by decide) c_13
  refine lv_iload_n hx hb dX4_nextTimer_166 rfl (lv_at hl 4 rfl) ?_
  exact W.iret (v := 2147483647) hx hb hr (fun t ht hW => ⟨⟨2147483647, (), rfl, rfl, trivial⟩, hS.F ht⟩) hS.2.2 dX4_nextTimer_167

noncomputable def tl_c_nextTimer_0oc : List Cond := wsX40 ++ (wsX60 ++ (wsX90 ++ (v_c_AL_size ++ (v_c_AL_get))))
noncomputable def v_c_nextTimer_0oc : List Cond := .code yX4_nextTimer cX4_nextTimer 6 (some .int) :: ([.constant RX4 146 (2147483647), .fieldLink RX4 53 "ClaimBus$Node" "state" "I", .fieldLink RX4 21 "ClaimBus$Node" "sending" "LClaimBus$Sending;", .fieldLink RX4 121 "ClaimBus$Sending" "state" "I", .fieldLink RX4 41 "ClaimBus$Node" "collects" "Ljava/util/ArrayList;", .initialized RJx4a65c, .methodLink RX4 96 yJx4a65c_size_8abf5, .instanceMethod yJx4a65c_size_8abf5, .selects RJx4a65c yJx4a65c_size_8abf5 yJx4a65c_size_8abf5, .methodLink RX4 100 yJx4a65c_get_915e3, .instanceMethod yJx4a65c_get_915e3, .selects RJx4a65c yJx4a65c_get_915e3 yJx4a65c_get_915e3, .classLink RX4 32 "ClaimBus$Transport", .fieldLink RX4 93 "ClaimBus$Transport" "open" "Z", .fieldLink RX4 153 "ClaimBus$Transport" "lastHeard" "I", .methodLink RX4 147 Lib.Math.min.name, .static Lib.Math.min.name, .initialized "java/lang/Math", .code Lib.Math.min.name Lib.Math.min.code 2 (some .int), .fieldLink RX4 34 "ClaimBus$Node" "gets" "[LClaimBus$Transport;"] ++ tl_c_nextTimer_0oc)
theorem it_c_nextTimer_0oc : ∀ w ∈ tl_c_nextTimer_0oc, w ∈ v_c_nextTimer_0oc := fun w h => List.mem_cons_of_mem _ (List.mem_append_right _ h)
theorem in_c_nextTimer_0oc_X4 : ∀ w ∈ wsX40, w ∈ v_c_nextTimer_0oc := fun w h => it_c_nextTimer_0oc w (List.mem_append_left _ h)
theorem in_c_nextTimer_0oc_X6 : ∀ w ∈ wsX60, w ∈ v_c_nextTimer_0oc := fun w h => it_c_nextTimer_0oc w (List.mem_append_right _ (List.mem_append_left _ h))
theorem in_c_nextTimer_0oc_X9 : ∀ w ∈ wsX90, w ∈ v_c_nextTimer_0oc := fun w h => it_c_nextTimer_0oc w (List.mem_append_right _ (List.mem_append_right _ (List.mem_append_left _ h)))
theorem ic_c_nextTimer_0oc_c_AL_size : ∀ w ∈ v_c_AL_size, w ∈ v_c_nextTimer_0oc := fun w h => it_c_nextTimer_0oc w (List.mem_append_right _ (List.mem_append_right _ (List.mem_append_right _ (List.mem_append_left _ h))))
theorem ic_c_nextTimer_0oc_c_AL_get : ∀ w ∈ v_c_AL_get, w ∈ v_c_nextTimer_0oc := fun w h => it_c_nextTimer_0oc w (List.mem_append_right _ (List.mem_append_right _ (List.mem_append_right _ (List.mem_append_right _ (h)))))
theorem gt_c_nextTimer_0oc : ∀ w ∈ tl_c_nextTimer_0oc, goodWord w = true := List.forall_mem_append.mpr ⟨gw_wsX40, List.forall_mem_append.mpr ⟨gw_wsX60, List.forall_mem_append.mpr ⟨gw_wsX90, List.forall_mem_append.mpr ⟨gw_c_AL_size, gw_c_AL_get⟩⟩⟩⟩
theorem gw_c_nextTimer_0oc : ∀ w ∈ v_c_nextTimer_0oc, goodWord w = true := List.forall_mem_cons.mpr ⟨by decide +kernel, List.forall_mem_append.mpr ⟨List.all_eq_true.mp (by decide +kernel), gt_c_nextTimer_0oc⟩⟩
theorem g_c_nextTimer_0oc_c_AL_size_96 : GoodIn v_c_nextTimer_0oc (wsV RX4 96 RJx4a65c yJx4a65c_size_8abf5 v_c_AL_size) := goodIn_app (goodIn_r [.methodLink RX4 96 yJx4a65c_size_8abf5, .instanceMethod yJx4a65c_size_8abf5, .selects RJx4a65c yJx4a65c_size_8abf5 yJx4a65c_size_8abf5, .initialized RJx4a65c] [7, 8, 9, 6] (by decide +kernel) (by decide +kernel)) (fun w h => ⟨ic_c_nextTimer_0oc_c_AL_size w h, good_of_word (gw_c_AL_size w h)⟩)
theorem g_c_nextTimer_0oc_c_AL_get_100 : GoodIn v_c_nextTimer_0oc (wsV RX4 100 RJx4a65c yJx4a65c_get_915e3 v_c_AL_get) := goodIn_app (goodIn_r [.methodLink RX4 100 yJx4a65c_get_915e3, .instanceMethod yJx4a65c_get_915e3, .selects RJx4a65c yJx4a65c_get_915e3 yJx4a65c_get_915e3, .initialized RJx4a65c] [10, 11, 12, 6] (by decide +kernel) (by decide +kernel)) (fun w h => ⟨ic_c_nextTimer_0oc_c_AL_get w h, good_of_word (gw_c_AL_get w h)⟩)
set_option maxHeartbeats 4000000 in
set_option maxRecDepth 100000 in
theorem c_nextTimer_0oc (l : Launch) (dC : Nat → ClassId) (dI : Nat → Nat → Nat) (nd : Nat) (nh : Int32) (nl : Int32) (nwa : Int32) (nfr : Int32) (nwi : Nat) (r : Nat) (nt : Nat) (ns : Nat) (ib : Nat) (gs : Nat) (cs : Nat) (nu : Nat) (nad : Nat) (ncc : Nat) (snp : Int32) (sdo : Int32) (cm : Nat) (ce_ : Nat) (cQ : ClassId) (fq : Nat → Option Nat) (tq : Nat) (k1 : Int32) (k2 : Int32) (k3 : Int32) (k4 : Int32) (k5 : Int32) (k6 : Int32) (k7 : Int32) (kl : Nat) (k9 : Int32) (k10 : Int32) (k11 : Int32) (kw : Nat) (kb : Nat) (cT : ClassId) (fg : Nat → Option Nat) (tr : Nat) (j1 : Int32) (j2 : Int32) (j3 : Int32) (j4 : Int32) (j5 : Int32) (j6 : Int32) (j7 : Int32) (j8 : Int32) (j9 : Int32) (j10 : Int32) (j11 : Int32) (jw : Nat) (jb : Nat) (sz : Nat) (hq : fq 0 = some tq) (g0 : fg 0 = some tr) (g1 : fg 1 = none) (g2 : fg 2 = none) (hkl : kl < 300000) : Met l yX4_nextTimer v_c_nextTimer_0oc ({ frames := 3, cells := 0, slots := 0, locals := 64 }) (va_Pc [.ref nd] (fun U => U.heap.size = sz ∧ va_P (dC, dI) vwCl [(nd, .inr (5, [.int nh, .int nl, .int nwa, .int nfr, .int (nI nwi), .ref r, .ref nt, .ref ns, .ref ib, .ref gs, .ref cs, .ref nu, .int 0, .int 2, .int (nI nad), .int (nI ncc), .int 0, .int 0])), (ns, .inr (7, [.int 0, .int snp, .int sdo, .null])), (cs, .inr (0, [.int (nI cm), .ref ce_, .int 1])), (ce_, .inl (cQ, 10, .inr (.inr (.inr (.inr fq))))), (tq, .inr (10, [.int 1, .int k1, .int k2, .int k3, .int k4, .int k5, .int k6, .int k7, .int (nI kl), .int k9, .int k10, .int k11, .ref kw, .ref kb])), (gs, .inl (cT, 3, .inr (.inr (.inr (.inr fg))))), (tr, .inr (10, [.int 0, .int j1, .int j2, .int j3, .int j4, .int j5, .int j6, .int j7, .int j8, .int j9, .int j10, .int j11, .ref jw, .ref jb]))] U.heap ∧ va_K (dC, dI) vwCl [(cQ, (.object "java/lang/Object")), (cT, (.object RX9))] U ∧ va_D (fun _ => True) [(nd, .inr (5, [.int nh, .int nl, .int nwa, .int nfr, .int (nI nwi), .ref r, .ref nt, .ref ns, .ref ib, .ref gs, .ref cs, .ref nu, .int 0, .int 2, .int (nI nad), .int (nI ncc), .int 0, .int 0])), (ns, .inr (7, [.int 0, .int snp, .int sdo, .null])), (cs, .inr (0, [.int (nI cm), .ref ce_, .int 1])), (ce_, .inl (cQ, 10, .inr (.inr (.inr (.inr fq))))), (tq, .inr (10, [.int 1, .int k1, .int k2, .int k3, .int k4, .int k5, .int k6, .int k7, .int (nI kl), .int k9, .int k10, .int k11, .ref kw, .ref kb])), (gs, .inl (cT, 3, .inr (.inr (.inr (.inr fg))))), (tr, .inr (10, [.int 0, .int j1, .int j2, .int j3, .int j4, .int j5, .int j6, .int j7, .int j8, .int j9, .int j10, .int j11, .ref jw, .ref jb]))] ∧ ev U)) (va_Qi (fun (r : Int32) (_ : Unit) => r = (nI (kl + 750))) (fun (_ : Unit) (_ : State) => True) (va_A [] sz)) 0 0 (va_A [] sz) := by
  refine Met.ofW (cc := cX4_nextTimer) (maxL := 6) (ret := (some .int)) (by decide) rfl ?_
  intro p e s m args below meth c s₁ B hml hv
  obtain ⟨rfl, hsz, hP, hK, hD0, hE⟩ := hv
  have hx := B.exec
  have hb := B.bytes
  have hr := B.returns
  have hts := atoms_spec (ws := v_c_nextTimer_0oc) B.pre
  have hown : s.vm.findClass RX4 = some m.cls := findClass_of_methodNamed B.named
  have hlocks := B.notSynchronized
  subst hsz
  have hD := hD0
  generalize hAe : va_A [] s.heap.size = A
  have hA : ∀ q : Nat, s.heap.size ≤ q → A q := fun q h => by rw [← hAe]; exact Or.inr h
  have hS : va_S A s.heap s.heap [] := va_S.rf
  replace hP : va_P (dC, dI) vwCl [(nd, .inr (5, [.int nh, .int nl, .int nwa, .int nfr, .int (nI nwi), .ref r, .ref nt, .ref ns, .ref ib, .ref gs, .ref cs, .ref nu, .int 0, .int 2, .int (nI nad), .int (nI ncc), .int 0, .int 0])), (ns, .inr (7, [.int 0, .int snp, .int sdo, .null])), (cs, .inr (0, [.int (nI cm), .ref ce_, .int 1])), (ce_, .inl (cQ, 10, .inr (.inr (.inr (.inr fq))))), (tq, .inr (10, [.int 1, .int k1, .int k2, .int k3, .int k4, .int k5, .int k6, .int k7, .int (nI kl), .int k9, .int k10, .int k11, .ref kw, .ref kb])), (gs, .inl (cT, 3, .inr (.inr (.inr (.inr fg))))), (tr, .inr (10, [.int 0, .int j1, .int j2, .int j3, .int j4, .int j5, .int j6, .int j7, .int j8, .int j9, .int j10, .int j11, .ref jw, .ref jb]))] s.heap := hP
  have hl := lv_entry ([.ref nd]) (n := 6) (Nat.le_of_ble_eq_true rfl)
  rw [lg_entry_eq]
  generalize (lg_sl ([.ref nd]) ++ List.replicate (6 - (lg_sl ([.ref nd])).length) Slot.unset).toArray = ls at hl ⊢
  replace hl : lv_has ls 6 [(0, .ref nd)] := hl
  obtain ⟨H, hH⟩ : ∃ z : Heap, z = s.heap := ⟨_, rfl⟩
  rw [← hH]
  replace hS : va_S A s.heap H [] := by rw [hH]; exact va_S.rf
  replace hP : va_P (dC, dI) vwCl [(nd, .inr (5, [.int nh, .int nl, .int nwa, .int nfr, .int (nI nwi), .ref r, .ref nt, .ref ns, .ref ib, .ref gs, .ref cs, .ref nu, .int 0, .int 2, .int (nI nad), .int (nI ncc), .int 0, .int 0])), (ns, .inr (7, [.int 0, .int snp, .int sdo, .null])), (cs, .inr (0, [.int (nI cm), .ref ce_, .int 1])), (ce_, .inl (cQ, 10, .inr (.inr (.inr (.inr fq))))), (tq, .inr (10, [.int 1, .int k1, .int k2, .int k3, .int k4, .int k5, .int k6, .int k7, .int (nI kl), .int k9, .int k10, .int k11, .ref kw, .ref kb])), (gs, .inl (cT, 3, .inr (.inr (.inr (.inr fg))))), (tr, .inr (10, [.int 0, .int j1, .int j2, .int j3, .int j4, .int j5, .int j6, .int j7, .int j8, .int j9, .int j10, .int j11, .ref jw, .ref jb]))] H := by rw [hH]; exact hP
  clear hH
  refine lv_ldc hx hb hown (hts (.constant RX4 146 (2147483647)) (List.mem_of_getElem? (i := 1) rfl)) dX4_nextTimer_0 ?_
  refine lv_istore_n (lv' := [(1, .int 2147483647), (0, .ref nd)]) hx hb dX4_nextTimer_2 rfl hl (by decide) rfl (fun ls hl => ?_)
  refine lv_aload_n hx hb dX4_nextTimer_3 rfl (lv_at hl 1 rfl) ?_
  refine va_get (D := (dC, dI)) (ci := 5) (v := .int 2) (C := RX4) (T := TX4) (N := 18) hx hb hts in_c_nextTimer_0oc_X4 hown hK hP 0 rfl rfl 13 (by decide) (hts (.fieldLink RX4 53 "ClaimBus$Node" "state" "I") (List.mem_of_getElem? (i := 2) rfl)) (fun _ h9 => h9) rfl dX4_nextTimer_4 ?_
  refine lv_iconst (v := 1) hx hb dX4_nextTimer_7 (by decide) ?_
  refine lv_icmp_ne (tgt := 28) hx hb dX4_nextTimer_8 (by decide) (fun c_1 => ?_) (fun c_1 => ?_)
  rotate_left
  · exact absurd c_1 (by decide)
  refine lv_aload_n hx hb dX4_nextTimer_28 rfl (lv_at hl 1 rfl) ?_
  refine va_get (D := (dC, dI)) (ci := 5) (v := .ref ns) (C := RX4) (T := TX4) (N := 18) hx hb hts in_c_nextTimer_0oc_X4 hown hK hP 0 rfl rfl 7 (by decide) (hts (.fieldLink RX4 21 "ClaimBus$Node" "sending" "LClaimBus$Sending;") (List.mem_of_getElem? (i := 3) rfl)) (fun _ h9 => h9) rfl dX4_nextTimer_29 ?_
  refine va_get (D := (dC, dI)) (ci := 7) (v := .int 0) (C := RX6) (T := TX6) (N := 4) hx hb hts in_c_nextTimer_0oc_X6 hown hK hP 1 rfl rfl 0 (by decide) (hts (.fieldLink RX4 121 "ClaimBus$Sending" "state" "I") (List.mem_of_getElem? (i := 4) rfl)) (fun _ h9 => h9) rfl dX4_nextTimer_32 ?_
  refine lv_iconst (v := 1) hx hb dX4_nextTimer_35 (by decide) ?_
  refine lv_icmp_ne (tgt := 51) hx hb dX4_nextTimer_36 (by decide) (fun c_2 => ?_) (fun c_2 => ?_)
  rotate_left
  · exact absurd c_2 (by decide)
  refine lv_iconst (v := 0) hx hb dX4_nextTimer_51 (by decide) ?_
  refine lv_istore_n (lv' := [(2, .int 0), (1, .int 2147483647), (0, .ref nd)]) hx hb dX4_nextTimer_52 rfl hl (by decide) rfl (fun ls hl => ?_)
  refine lv_iload_n hx hb dX4_nextTimer_53 rfl (lv_at hl 0 rfl) ?_
  refine lv_aload_n hx hb dX4_nextTimer_54 rfl (lv_at hl 2 rfl) ?_
  refine va_get (D := (dC, dI)) (ci := 5) (v := .ref cs) (C := RX4) (T := TX4) (N := 18) hx hb hts in_c_nextTimer_0oc_X4 hown hK hP 0 rfl rfl 10 (by decide) (hts (.fieldLink RX4 41 "ClaimBus$Node" "collects" "Ljava/util/ArrayList;") (List.mem_of_getElem? (i := 5) rfl)) (fun _ h9 => h9) rfl dX4_nextTimer_55 ?_
  have hPc := hP.sub (ws' := [(cs, .inr (0, [.int (nI cm), .ref ce_, .int (nI 1)]))]) [2] rfl
  have hDc := hD.sub (ws' := [(cs, .inr (0, [.int (nI cm), .ref ce_, .int (nI 1)]))]) [2] (by decide +kernel) rfl
  have hKc := hK.sub (tys' := []) [] rfl
  have hFc := ro_free hS hA
  refine va_calli (va_runV (As := []) (rest := [.int 0]) ⟨hx, hb, hml, hown, hts⟩ (c_AL_size l dC dI (cs) (cm) (ce_) (1) H.size) (cwV 0 hts g_c_nextTimer_0oc_c_AL_size_96 rfl rfl rfl (by decide +kernel) ⟨Nat.le_of_ble_eq_true rfl, Nat.le_of_ble_eq_true rfl⟩) ⟨fun a U g mk q => by obtain ⟨q0, q1, qP, qK, qD, qE⟩ := q; exact ⟨q0, q1, qP, va_K.moved (u := U) (U := U.calling g mk a) (Vm.Alike.refl U.vm) qK, qD, ev.same (u := U) (U := U.calling g mk a) rfl qE⟩, va_recv hKc hPc (ci := 0) (q0 := 0) rfl rfl, fun U hU hW => ⟨rfl, by rw [hU], by rw [hU]; exact hPc, va_K.moved hW.alike hKc, hDc.weaken (fun _ _ _ _ => trivial), hE.warm hW⟩⟩ rfl rfl hl.1 rfl (lv_room (Nat.le_of_ble_eq_true rfl)) dX4_nextTimer_58 ⟨Nat.le_of_ble_eq_true rfl, Nat.le_of_ble_eq_true rfl⟩) hS (fun q _ h => hFc q h) hFc (fun r_3 u t H1 locs ht hvm hw hB hz1 hk1 hS => ?_)
  clear hPc hDc hKc
  replace hP := ro_keep hP hk1
  generalize H1 = H at hP hS ⊢
  replace hP : va_P (dC, dI) vwCl [(nd, .inr (5, [.int nh, .int nl, .int nwa, .int nfr, .int (nI nwi), .ref r, .ref nt, .ref ns, .ref ib, .ref gs, .ref cs, .ref nu, .int 0, .int 2, .int (nI nad), .int (nI ncc), .int 0, .int 0])), (ns, .inr (7, [.int 0, .int snp, .int sdo, .null])), (cs, .inr (0, [.int (nI cm), .ref ce_, .int 1])), (ce_, .inl (cQ, 10, .inr (.inr (.inr (.inr fq))))), (tq, .inr (10, [.int 1, .int k1, .int k2, .int k3, .int k4, .int k5, .int k6, .int k7, .int (nI kl), .int k9, .int k10, .int k11, .ref kw, .ref kb])), (gs, .inl (cT, 3, .inr (.inr (.inr (.inr fg))))), (tr, .inr (10, [.int 0, .int j1, .int j2, .int j3, .int j4, .int j5, .int j6, .int j7, .int j8, .int j9, .int j10, .int j11, .ref jw, .ref jb]))] H := hP
  have hw := hw.symm
  subst hw
  rw [show ((nI 1) : Int32) = 1 from (congrArg nI (show 1 = 1 from by omega)).trans (by decide)]
  refine lv_icmp_ge (tgt := 110) hx hb dX4_nextTimer_61 (by decide) (fun c_4 => ?_) (fun c_4 => ?_)
  · exact absurd c_4 (by decide)
  refine lv_aload_n hx hb dX4_nextTimer_64 rfl (lv_at hl 2 rfl) ?_
  refine va_get (D := (dC, dI)) (ci := 5) (v := .ref cs) (C := RX4) (T := TX4) (N := 18) hx hb hts in_c_nextTimer_0oc_X4 hown hK hP 0 rfl rfl 10 (by decide) (hts (.fieldLink RX4 41 "ClaimBus$Node" "collects" "Ljava/util/ArrayList;") (List.mem_of_getElem? (i := 5) rfl)) (fun _ h9 => h9) rfl dX4_nextTimer_65 ?_
  refine lv_iload_n hx hb dX4_nextTimer_68 rfl (lv_at hl 0 rfl) ?_
  have hPc := hP.sub (ws' := [(cs, .inr (0, [.int (nI cm), .ref ce_, .int (nI 1)])), (ce_, .inl (cQ, 10, .inr (.inr (.inr (.inr fq)))))]) [2, 3] rfl
  have hDc := hD.sub (ws' := [(cs, .inr (0, [.int (nI cm), .ref ce_, .int (nI 1)])), (ce_, .inl (cQ, 10, .inr (.inr (.inr (.inr fq)))))]) [2, 3] (by decide +kernel) rfl
  have hKc := hK.sub (tys' := [(cQ, (.object "java/lang/Object"))]) [0] rfl
  have hFc := ro_free hS hA
  refine va_callq (va_runV (As := [.int 0]) (rest := []) ⟨hx, hb, hml, hown, hts⟩ (c_AL_get l dC dI (cs) (cm) (ce_) (1) (cQ) (fq) (0) (tq) H.size hq (by omega) (by omega)) (cwV 1 hts g_c_nextTimer_0oc_c_AL_get_100 rfl rfl rfl (by decide +kernel) ⟨Nat.le_of_ble_eq_true rfl, Nat.le_of_ble_eq_true rfl⟩) ⟨fun a U g mk q => by obtain ⟨q0, q1, qP, qK, qD, qE⟩ := q; exact ⟨q0, q1, qP, va_K.moved (u := U) (U := U.calling g mk a) (Vm.Alike.refl U.vm) qK, qD, ev.same (u := U) (U := U.calling g mk a) rfl qE⟩, va_recv hKc hPc (ci := 0) (q0 := 0) rfl rfl, fun U hU hW => ⟨rfl, by rw [hU], by rw [hU]; exact hPc, va_K.moved hW.alike hKc, hDc.weaken (fun _ _ _ _ => trivial), hE.warm hW⟩⟩ rfl rfl hl.1 rfl (lv_room (Nat.le_of_ble_eq_true rfl)) dX4_nextTimer_69 ⟨Nat.le_of_ble_eq_true rfl, Nat.le_of_ble_eq_true rfl⟩) hS (fun q _ h => hFc q h) hFc (fun r_5 u t H1 locs ht hvm hw hB hz1 hk1 hS => ?_)
  clear hPc hDc hKc
  replace hP := ro_keep hP hk1
  generalize H1 = H at hP hS ⊢
  replace hP : va_P (dC, dI) vwCl [(nd, .inr (5, [.int nh, .int nl, .int nwa, .int nfr, .int (nI nwi), .ref r, .ref nt, .ref ns, .ref ib, .ref gs, .ref cs, .ref nu, .int 0, .int 2, .int (nI nad), .int (nI ncc), .int 0, .int 0])), (ns, .inr (7, [.int 0, .int snp, .int sdo, .null])), (cs, .inr (0, [.int (nI cm), .ref ce_, .int 1])), (ce_, .inl (cQ, 10, .inr (.inr (.inr (.inr fq))))), (tq, .inr (10, [.int 1, .int k1, .int k2, .int k3, .int k4, .int k5, .int k6, .int k7, .int (nI kl), .int k9, .int k10, .int k11, .ref kw, .ref kb])), (gs, .inl (cT, 3, .inr (.inr (.inr (.inr fg))))), (tr, .inr (10, [.int 0, .int j1, .int j2, .int j3, .int j4, .int j5, .int j6, .int j7, .int j8, .int j9, .int j10, .int j11, .ref jw, .ref jb]))] H := hP
  have hw := hw.symm
  subst hw
  refine W.eq (g2 := F0 m 72 ls [.ref tq]) rfl ?_
  refine va_castS hx hb hown (hts (.classLink RX4 32 "ClaimBus$Transport") (List.mem_of_getElem? (i := 13) rfl)) (hK.1 10 _ rfl).2 (va_recv hK hP (ci := 10) (q0 := 4) rfl rfl) dX4_nextTimer_72 ?_
  refine va_get (D := (dC, dI)) (ci := 10) (v := .int 1) (C := RX9) (T := TX9) (N := 14) hx hb hts in_c_nextTimer_0oc_X9 hown hK hP 4 rfl rfl 0 (by decide) (hts (.fieldLink RX4 93 "ClaimBus$Transport" "open" "Z") (List.mem_of_getElem? (i := 14) rfl)) (fun _ h9 => h9) rfl dX4_nextTimer_75 ?_
  refine lv_if_eq (tgt := 104) hx hb dX4_nextTimer_78 (by decide) (fun c_6 => ?_) (fun c_6 => ?_)
  · exact absurd c_6 (by decide)
  refine lv_iload_n hx hb dX4_nextTimer_81 rfl (lv_at hl 1 rfl) ?_
  refine lv_aload_n hx hb dX4_nextTimer_82 rfl (lv_at hl 2 rfl) ?_
  refine va_get (D := (dC, dI)) (ci := 5) (v := .ref cs) (C := RX4) (T := TX4) (N := 18) hx hb hts in_c_nextTimer_0oc_X4 hown hK hP 0 rfl rfl 10 (by decide) (hts (.fieldLink RX4 41 "ClaimBus$Node" "collects" "Ljava/util/ArrayList;") (List.mem_of_getElem? (i := 5) rfl)) (fun _ h9 => h9) rfl dX4_nextTimer_83 ?_
  refine lv_iload_n hx hb dX4_nextTimer_86 rfl (lv_at hl 0 rfl) ?_
  have hPc := hP.sub (ws' := [(cs, .inr (0, [.int (nI cm), .ref ce_, .int (nI 1)])), (ce_, .inl (cQ, 10, .inr (.inr (.inr (.inr fq)))))]) [2, 3] rfl
  have hDc := hD.sub (ws' := [(cs, .inr (0, [.int (nI cm), .ref ce_, .int (nI 1)])), (ce_, .inl (cQ, 10, .inr (.inr (.inr (.inr fq)))))]) [2, 3] (by decide +kernel) rfl
  have hKc := hK.sub (tys' := [(cQ, (.object "java/lang/Object"))]) [0] rfl
  have hFc := ro_free hS hA
  refine va_callq (va_runV (As := [.int 0]) (rest := [.int 2147483647]) ⟨hx, hb, hml, hown, hts⟩ (c_AL_get l dC dI (cs) (cm) (ce_) (1) (cQ) (fq) (0) (tq) H.size hq (by omega) (by omega)) (cwV 1 hts g_c_nextTimer_0oc_c_AL_get_100 rfl rfl rfl (by decide +kernel) ⟨Nat.le_of_ble_eq_true rfl, Nat.le_of_ble_eq_true rfl⟩) ⟨fun a U g mk q => by obtain ⟨q0, q1, qP, qK, qD, qE⟩ := q; exact ⟨q0, q1, qP, va_K.moved (u := U) (U := U.calling g mk a) (Vm.Alike.refl U.vm) qK, qD, ev.same (u := U) (U := U.calling g mk a) rfl qE⟩, va_recv hKc hPc (ci := 0) (q0 := 0) rfl rfl, fun U hU hW => ⟨rfl, by rw [hU], by rw [hU]; exact hPc, va_K.moved hW.alike hKc, hDc.weaken (fun _ _ _ _ => trivial), hE.warm hW⟩⟩ rfl rfl hl.1 rfl (lv_room (Nat.le_of_ble_eq_true rfl)) dX4_nextTimer_87 ⟨Nat.le_of_ble_eq_true rfl, Nat.le_of_ble_eq_true rfl⟩) hS (fun q _ h => hFc q h) hFc (fun r_7 u t H1 locs ht hvm hw hB hz1 hk1 hS => ?_)
  clear hPc hDc hKc
  replace hP := ro_keep hP hk1
  generalize H1 = H at hP hS ⊢
  replace hP : va_P (dC, dI) vwCl [(nd, .inr (5, [.int nh, .int nl, .int nwa, .int nfr, .int (nI nwi), .ref r, .ref nt, .ref ns, .ref ib, .ref gs, .ref cs, .ref nu, .int 0, .int 2, .int (nI nad), .int (nI ncc), .int 0, .int 0])), (ns, .inr (7, [.int 0, .int snp, .int sdo, .null])), (cs, .inr (0, [.int (nI cm), .ref ce_, .int 1])), (ce_, .inl (cQ, 10, .inr (.inr (.inr (.inr fq))))), (tq, .inr (10, [.int 1, .int k1, .int k2, .int k3, .int k4, .int k5, .int k6, .int k7, .int (nI kl), .int k9, .int k10, .int k11, .ref kw, .ref kb])), (gs, .inl (cT, 3, .inr (.inr (.inr (.inr fg))))), (tr, .inr (10, [.int 0, .int j1, .int j2, .int j3, .int j4, .int j5, .int j6, .int j7, .int j8, .int j9, .int j10, .int j11, .ref jw, .ref jb]))] H := hP
  have hw := hw.symm
  subst hw
  refine W.eq (g2 := F0 m 90 ls [.ref tq, .int 2147483647]) rfl ?_
  refine va_castS hx hb hown (hts (.classLink RX4 32 "ClaimBus$Transport") (List.mem_of_getElem? (i := 13) rfl)) (hK.1 10 _ rfl).2 (va_recv hK hP (ci := 10) (q0 := 4) rfl rfl) dX4_nextTimer_90 ?_
  refine va_get (D := (dC, dI)) (ci := 10) (v := .int (nI kl)) (C := RX9) (T := TX9) (N := 14) hx hb hts in_c_nextTimer_0oc_X9 hown hK hP 4 rfl rfl 8 (by decide) (hts (.fieldLink RX4 153 "ClaimBus$Transport" "lastHeard" "I") (List.mem_of_getElem? (i := 15) rfl)) (fun _ h9 => h9) rfl dX4_nextTimer_93 ?_
  refine lv_sipush (v := 750) hx hb dX4_nextTimer_96 (by decide) ?_
  refine lv_iadd hx hb dX4_nextTimer_99 ?_
  refine lv_topi (fun x_8 ex_8 => ?_)
  obtain rfl : x_8 = (nI (kl + 750)) := ex_8.trans ((nI_add kl 750).trans (show nI (kl + 750) = nI (kl + 750) from congrArg nI (by omega)))
  refine va_mmin hx hb (by rw [hml]; exact hl.1.symm) hown (hts (.methodLink RX4 147 Lib.Math.min.name) (List.mem_of_getElem? (i := 16) rfl)) (hts (.static Lib.Math.min.name) (List.mem_of_getElem? (i := 17) rfl)) (hts (.initialized "java/lang/Math") (List.mem_of_getElem? (i := 18) rfl)) (hts (.code Lib.Math.min.name Lib.Math.min.code 2 (some .int)) (List.mem_of_getElem? (i := 19) rfl)) (Nat.le_of_ble_eq_true rfl) (Nat.le_of_ble_eq_true rfl) (Nat.zero_le _) (Nat.zero_le _) dX4_nextTimer_100 ?_
  obtain ⟨mn_9, hmn_9⟩ : ∃ z : Nat, z = min 2147483647 (kl + 750) := ⟨_, rfl⟩
  refine lv_topi (fun x_9 ex_9 => ?_)
  obtain rfl : x_9 = nI mn_9 := ex_9.trans ((q_min (a := 2147483647) (b := (kl + 750)) (by omega) (by omega)).trans (congrArg nI hmn_9.symm))
  refine lv_istore_n (lv' := [(1, .int (nI mn_9)), (2, .int 0), (0, .ref nd)]) hx hb dX4_nextTimer_103 rfl hl (by decide) rfl (fun ls hl => ?_)
  refine lv_iinc (v := 1) (lv' := [(2, .int 1), (1, .int (nI mn_9)), (0, .ref nd)]) hx hb dX4_nextTimer_104 hl (k := 1) rfl (by decide) (by decide) rfl (fun ls hl => ?_)
  refine lv_goto (tgt := 53) hx hb dX4_nextTimer_107 (by decide) ?_
  refine lv_iload_n hx hb dX4_nextTimer_53 rfl (lv_at hl 0 rfl) ?_
  refine lv_aload_n hx hb dX4_nextTimer_54 rfl (lv_at hl 2 rfl) ?_
  refine va_get (D := (dC, dI)) (ci := 5) (v := .ref cs) (C := RX4) (T := TX4) (N := 18) hx hb hts in_c_nextTimer_0oc_X4 hown hK hP 0 rfl rfl 10 (by decide) (hts (.fieldLink RX4 41 "ClaimBus$Node" "collects" "Ljava/util/ArrayList;") (List.mem_of_getElem? (i := 5) rfl)) (fun _ h9 => h9) rfl dX4_nextTimer_55 ?_
  have hPc := hP.sub (ws' := [(cs, .inr (0, [.int (nI cm), .ref ce_, .int (nI 1)]))]) [2] rfl
  have hDc := hD.sub (ws' := [(cs, .inr (0, [.int (nI cm), .ref ce_, .int (nI 1)]))]) [2] (by decide +kernel) rfl
  have hKc := hK.sub (tys' := []) [] rfl
  have hFc := ro_free hS hA
  refine va_calli (va_runV (As := []) (rest := [.int 1]) ⟨hx, hb, hml, hown, hts⟩ (c_AL_size l dC dI (cs) (cm) (ce_) (1) H.size) (cwV 0 hts g_c_nextTimer_0oc_c_AL_size_96 rfl rfl rfl (by decide +kernel) ⟨Nat.le_of_ble_eq_true rfl, Nat.le_of_ble_eq_true rfl⟩) ⟨fun a U g mk q => by obtain ⟨q0, q1, qP, qK, qD, qE⟩ := q; exact ⟨q0, q1, qP, va_K.moved (u := U) (U := U.calling g mk a) (Vm.Alike.refl U.vm) qK, qD, ev.same (u := U) (U := U.calling g mk a) rfl qE⟩, va_recv hKc hPc (ci := 0) (q0 := 0) rfl rfl, fun U hU hW => ⟨rfl, by rw [hU], by rw [hU]; exact hPc, va_K.moved hW.alike hKc, hDc.weaken (fun _ _ _ _ => trivial), hE.warm hW⟩⟩ rfl rfl hl.1 rfl (lv_room (Nat.le_of_ble_eq_true rfl)) dX4_nextTimer_58 ⟨Nat.le_of_ble_eq_true rfl, Nat.le_of_ble_eq_true rfl⟩) hS (fun q _ h => hFc q h) hFc (fun r_10 u t H1 locs ht hvm hw hB hz1 hk1 hS => ?_)
  clear hPc hDc hKc
  replace hP := ro_keep hP hk1
  generalize H1 = H at hP hS ⊢
  replace hP : va_P (dC, dI) vwCl [(nd, .inr (5, [.int nh, .int nl, .int nwa, .int nfr, .int (nI nwi), .ref r, .ref nt, .ref ns, .ref ib, .ref gs, .ref cs, .ref nu, .int 0, .int 2, .int (nI nad), .int (nI ncc), .int 0, .int 0])), (ns, .inr (7, [.int 0, .int snp, .int sdo, .null])), (cs, .inr (0, [.int (nI cm), .ref ce_, .int 1])), (ce_, .inl (cQ, 10, .inr (.inr (.inr (.inr fq))))), (tq, .inr (10, [.int 1, .int k1, .int k2, .int k3, .int k4, .int k5, .int k6, .int k7, .int (nI kl), .int k9, .int k10, .int k11, .ref kw, .ref kb])), (gs, .inl (cT, 3, .inr (.inr (.inr (.inr fg))))), (tr, .inr (10, [.int 0, .int j1, .int j2, .int j3, .int j4, .int j5, .int j6, .int j7, .int j8, .int j9, .int j10, .int j11, .ref jw, .ref jb]))] H := hP
  have hw := hw.symm
  subst hw
  rw [show ((nI 1) : Int32) = 1 from (congrArg nI (show 1 = 1 from by omega)).trans (by decide)]
  refine lv_icmp_ge (tgt := 110) hx hb dX4_nextTimer_61 (by decide) (fun c_11 => ?_) (fun c_11 => ?_)
  rotate_left
  · exact absurd (by decide) c_11
  refine lv_aload_n hx hb dX4_nextTimer_110 rfl (lv_at hl 2 rfl) ?_
  refine va_get (D := (dC, dI)) (ci := 5) (v := .ref gs) (C := RX4) (T := TX4) (N := 18) hx hb hts in_c_nextTimer_0oc_X4 hown hK hP 0 rfl rfl 9 (by decide) (hts (.fieldLink RX4 34 "ClaimBus$Node" "gets" "[LClaimBus$Transport;") (List.mem_of_getElem? (i := 20) rfl)) (fun _ h9 => h9) rfl dX4_nextTimer_111 ?_
  refine lv_astore_n (lv' := [(2, .ref gs), (1, .int (nI mn_9)), (0, .ref nd)]) hx hb dX4_nextTimer_114 rfl hl (by decide) rfl (fun ls hl => ?_)
  refine lv_aload_n hx hb dX4_nextTimer_115 rfl (lv_at hl 0 rfl) ?_
  refine va_alen hx hb hK hP 5 1 rfl rfl (v := 3) rfl dX4_nextTimer_116 ?_
  refine lv_istore_n (lv' := [(3, .int 3), (2, .ref gs), (1, .int (nI mn_9)), (0, .ref nd)]) hx hb dX4_nextTimer_117 rfl hl (by decide) rfl (fun ls hl => ?_)
  refine lv_iconst (v := 0) hx hb dX4_nextTimer_118 (by decide) ?_
  refine lv_istore (lv' := [(4, .int 0), (3, .int 3), (2, .ref gs), (1, .int (nI mn_9)), (0, .ref nd)]) hx hb dX4_nextTimer_119 hl (by decide) rfl (fun ls hl => ?_)
  refine lv_iload hx hb dX4_nextTimer_121 (lv_at hl 0 rfl) ?_
  refine lv_iload_n hx hb dX4_nextTimer_123 rfl (lv_at hl 1 rfl) ?_
  refine lv_icmp_ge (tgt := 166) hx hb dX4_nextTimer_124 (by decide) (fun c_12 => ?_) (fun c_12 => ?_)
  · exact absurd c_12 (by decide)
  refine lv_aload_n hx hb dX4_nextTimer_127 rfl (lv_at hl 2 rfl) ?_
  refine lv_iload hx hb dX4_nextTimer_128 (lv_at hl 0 rfl) ?_
  refine va_aldq hx hb hK hP 5 1 rfl rfl (vp_in_nI (n := 0) (by omega) (by omega)) dX4_nextTimer_130 ?_
  refine W.eq (g2 := F0 m 131 ls [.ref tr]) (by rw [(show Int32.toNatClampNeg (0 : Int32) = 0 by decide), g0]; rfl) ?_
  refine lv_astore (lv' := [(5, .ref tr), (4, .int 0), (3, .int 3), (2, .ref gs), (1, .int (nI mn_9)), (0, .ref nd)]) hx hb dX4_nextTimer_131 hl (by decide) rfl (fun ls hl => ?_)
  refine lv_aload hx hb dX4_nextTimer_133 (lv_at hl 0 rfl) ?_
  refine lv_ifnull hx hb dX4_nextTimer_135 ?_
  refine lv_aload hx hb dX4_nextTimer_138 (lv_at hl 0 rfl) ?_
  refine va_get (D := (dC, dI)) (ci := 10) (v := .int 0) (C := RX9) (T := TX9) (N := 14) hx hb hts in_c_nextTimer_0oc_X9 hown hK hP 6 rfl rfl 0 (by decide) (hts (.fieldLink RX4 93 "ClaimBus$Transport" "open" "Z") (List.mem_of_getElem? (i := 14) rfl)) (fun _ h9 => h9) rfl dX4_nextTimer_140 ?_
  refine lv_if_eq (tgt := 160) hx hb dX4_nextTimer_143 (by decide) (fun c_13 => ?_) (fun c_13 => ?_)
  rotate_left
  · exact absurd (by decide) c_13
  refine lv_iinc (v := 1) (lv' := [(4, .int 1), (5, .ref tr), (3, .int 3), (2, .ref gs), (1, .int (nI mn_9)), (0, .ref nd)]) hx hb dX4_nextTimer_160 hl (k := 1) rfl (by decide) (by decide) rfl (fun ls hl => ?_)
  refine lv_goto (tgt := 121) hx hb dX4_nextTimer_163 (by decide) ?_
  refine lv_iload hx hb dX4_nextTimer_121 (lv_at hl 0 rfl) ?_
  refine lv_iload_n hx hb dX4_nextTimer_123 rfl (lv_at hl 2 rfl) ?_
  refine lv_icmp_ge (tgt := 166) hx hb dX4_nextTimer_124 (by decide) (fun c_14 => ?_) (fun c_14 => ?_)
  · exact absurd c_14 (by decide)
  refine lv_aload_n hx hb dX4_nextTimer_127 rfl (lv_at hl 3 rfl) ?_
  refine lv_iload hx hb dX4_nextTimer_128 (lv_at hl 0 rfl) ?_
  refine va_aldq hx hb hK hP 5 1 rfl rfl (vp_in_nI (n := 1) (by omega) (by omega)) dX4_nextTimer_130 ?_
  refine W.eq (g2 := F0 m 131 ls [.null]) (by rw [(show Int32.toNatClampNeg (1 : Int32) = 1 by decide), g1]; rfl) ?_
  refine lv_astoreN (lv' := [(5, .null), (4, .int 1), (3, .int 3), (2, .ref gs), (1, .int (nI mn_9)), (0, .ref nd)]) hx hb dX4_nextTimer_131 hl (by decide) rfl (fun ls hl => ?_)
  refine lv_aloadN hx hb dX4_nextTimer_133 (lv_at hl 0 rfl) ?_
  refine lv_ifnullN (tgt := 160) hx hb dX4_nextTimer_135 (by decide) ?_
  refine lv_iinc (v := 2) (lv' := [(4, .int 2), (5, .null), (3, .int 3), (2, .ref gs), (1, .int (nI mn_9)), (0, .ref nd)]) hx hb dX4_nextTimer_160 hl (k := 1) rfl (by decide) (by decide) rfl (fun ls hl => ?_)
  refine lv_goto (tgt := 121) hx hb dX4_nextTimer_163 (by decide) ?_
  refine lv_iload hx hb dX4_nextTimer_121 (lv_at hl 0 rfl) ?_
  refine lv_iload_n hx hb dX4_nextTimer_123 rfl (lv_at hl 2 rfl) ?_
  refine lv_icmp_ge (tgt := 166) hx hb dX4_nextTimer_124 (by decide) (fun c_15 => ?_) (fun c_15 => ?_)
  · exact absurd c_15 (by decide)
  refine lv_aload_n hx hb dX4_nextTimer_127 rfl (lv_at hl 3 rfl) ?_
  refine lv_iload hx hb dX4_nextTimer_128 (lv_at hl 0 rfl) ?_
  refine va_aldq hx hb hK hP 5 1 rfl rfl (vp_in_nI (n := 2) (by omega) (by omega)) dX4_nextTimer_130 ?_
  refine W.eq (g2 := F0 m 131 ls [.null]) (by rw [(show Int32.toNatClampNeg (2 : Int32) = 2 by decide), g2]; rfl) ?_
  refine lv_astoreN (lv' := [(5, .null), (4, .int 2), (3, .int 3), (2, .ref gs), (1, .int (nI mn_9)), (0, .ref nd)]) hx hb dX4_nextTimer_131 hl (by decide) rfl (fun ls hl => ?_)
  refine lv_aloadN hx hb dX4_nextTimer_133 (lv_at hl 0 rfl) ?_
  refine lv_ifnullN (tgt := 160) hx hb dX4_nextTimer_135 (by decide) ?_
  refine lv_iinc (v := 3) (lv' := [(4, .int 3), (5, .null), (3, .int 3), (2, .ref gs), (1, .int (nI mn_9)), (0, .ref nd)]) hx hb dX4_nextTimer_160 hl (k := 1) rfl (by decide) (by decide) rfl (fun ls hl => ?_)
  refine lv_goto (tgt := 121) hx hb dX4_nextTimer_163 (by decide) ?_
  refine lv_iload hx hb dX4_nextTimer_121 (lv_at hl 0 rfl) ?_
  refine lv_iload_n hx hb dX4_nextTimer_123 rfl (lv_at hl 2 rfl) ?_
  refine lv_icmp_ge (tgt := 166) hx hb dX4_nextTimer_124 (by decide) (fun c_16 => ?_) (fun c_16 => ?_)
  rotate_left
  · exact absurd (by decide) c_16
  refine lv_iload_n hx hb dX4_nextTimer_166 rfl (lv_at hl 4 rfl) ?_
  exact W.iret (v := (nI mn_9)) hx hb hr (fun t ht hW => ⟨⟨(nI mn_9), (), rfl, congrArg nI (show mn_9 = (kl + 750) from by omega), trivial⟩, hS.F ht⟩) hS.2.2 dX4_nextTimer_167
