noncomputable def tl_c_goesTo_y : List Cond := wsX60 ++ (wsX30)
noncomputable def v_c_goesTo_y : List Cond := .code yX6_goesTo cX6_goesTo 3 (some .boolean) :: ([.fieldLink RX6 9 "ClaimBus$Sending" "state" "I", .fieldLink RX6 21 "ClaimBus$Sending" "whole" "LClaimBus$Message;", .fieldLink RX6 25 "ClaimBus$Message" "to" "I", .fieldLink RX6 30 "ClaimBus$Message" "group" "I"] ++ tl_c_goesTo_y)
theorem it_c_goesTo_y : ∀ w ∈ tl_c_goesTo_y, w ∈ v_c_goesTo_y := fun w h => List.mem_cons_of_mem _ (List.mem_append_right _ h)
theorem in_c_goesTo_y_X6 : ∀ w ∈ wsX60, w ∈ v_c_goesTo_y := fun w h => it_c_goesTo_y w (List.mem_append_left _ h)
theorem in_c_goesTo_y_X3 : ∀ w ∈ wsX30, w ∈ v_c_goesTo_y := fun w h => it_c_goesTo_y w (List.mem_append_right _ (h))
theorem gt_c_goesTo_y : ∀ w ∈ tl_c_goesTo_y, goodWord w = true := List.forall_mem_append.mpr ⟨gw_wsX60, gw_wsX30⟩
theorem gw_c_goesTo_y : ∀ w ∈ v_c_goesTo_y, goodWord w = true := List.forall_mem_cons.mpr ⟨by decide +kernel, List.forall_mem_append.mpr ⟨List.all_eq_true.mp (by decide +kernel), gt_c_goesTo_y⟩⟩
set_option maxHeartbeats 4000000 in
set_option maxRecDepth 100000 in
theorem c_goesTo_y (l : Launch) (dC : Nat → ClassId) (dI : Nat → Nat → Nat) (ns : Nat) (snp : Int32) (sdu : Nat) (mm : Nat) (mi : Nat) (mt : Nat) (mg : Nat) (ms : Nat) (sd : Int32) (sz : Nat) (hmi : mi < 8) (hmt : mt < 256) (hmg : mg < 262144) (hms : ms < 1786) : Met l yX6_goesTo v_c_goesTo_y ({ frames := 0, cells := 0, slots := 0, locals := 0 }) (va_Pc [.ref ns, .int (nI mt), .int (nI mg)] (fun U => U.heap.size = sz ∧ va_P (dC, dI) vwCl [(ns, .inr (7, [.int 1, .int snp, .int (nI sdu), .ref mm])), (mm, .inr (4, [.int (nI mi), .int (nI mt), .int (nI mg), .int (nI ms), .int sd, .null]))] U.heap ∧ va_K (dC, dI) vwCl [] U ∧ va_D (fun _ => True) [(ns, .inr (7, [.int 1, .int snp, .int (nI sdu), .ref mm])), (mm, .inr (4, [.int (nI mi), .int (nI mt), .int (nI mg), .int (nI ms), .int sd, .null]))] ∧ ev U)) (va_Qi (fun (r : Int32) (_ : Unit) => r = 1) (fun (_ : Unit) (_ : State) => True) (va_A [] sz)) 0 0 (va_A [] sz) := by
  refine Met.ofW (cc := cX6_goesTo) (maxL := 3) (ret := (some .boolean)) (by decide) rfl ?_
  intro p e s m args below meth c s₁ B hml hv
  obtain ⟨rfl, hsz, hP, hK, hD0, hE⟩ := hv
  have hx := B.exec
  have hb := B.bytes
  have hr := B.returns
  have hts := atoms_spec (ws := v_c_goesTo_y) B.pre
  have hown : s.vm.findClass RX6 = some m.cls := findClass_of_methodNamed B.named
  have hlocks := B.notSynchronized
  subst hsz
  have hD := hD0
  generalize hAe : va_A [] s.heap.size = A
  have hA : ∀ q : Nat, s.heap.size ≤ q → A q := fun q h => by rw [← hAe]; exact Or.inr h
  have hS : va_S A s.heap s.heap [] := va_S.rf
  replace hP : va_P (dC, dI) vwCl [(ns, .inr (7, [.int 1, .int snp, .int (nI sdu), .ref mm])), (mm, .inr (4, [.int (nI mi), .int (nI mt), .int (nI mg), .int (nI ms), .int sd, .null]))] s.heap := hP
  have hl := lv_entry ([.ref ns, .int (nI mt), .int (nI mg)]) (n := 3) (Nat.le_of_ble_eq_true rfl)
  rw [lg_entry_eq]
  generalize (lg_sl ([.ref ns, .int (nI mt), .int (nI mg)]) ++ List.replicate (3 - (lg_sl ([.ref ns, .int (nI mt), .int (nI mg)])).length) Slot.unset).toArray = ls at hl ⊢
  replace hl : lv_has ls 3 [(0, .ref ns), (1, .int (nI mt)), (2, .int (nI mg))] := hl
  obtain ⟨H, hH⟩ : ∃ z : Heap, z = s.heap := ⟨_, rfl⟩
  rw [← hH]
  replace hS : va_S A s.heap H [] := by rw [hH]; exact va_S.rf
  replace hP : va_P (dC, dI) vwCl [(ns, .inr (7, [.int 1, .int snp, .int (nI sdu), .ref mm])), (mm, .inr (4, [.int (nI mi), .int (nI mt), .int (nI mg), .int (nI ms), .int sd, .null]))] H := by rw [hH]; exact hP
  clear hH
  refine lv_aload_n hx hb dX6_goesTo_0 rfl (lv_at hl 0 rfl) ?_
  refine va_get (D := (dC, dI)) (ci := 7) (v := .int 1) (C := RX6) (T := TX6) (N := 4) hx hb hts in_c_goesTo_y_X6 hown hK hP 0 rfl rfl 0 (by decide) (hts (.fieldLink RX6 9 "ClaimBus$Sending" "state" "I") (List.mem_of_getElem? (i := 1) rfl)) (fun _ h9 => h9) rfl dX6_goesTo_1 ?_
  refine lv_iconst (v := 1) hx hb dX6_goesTo_4 (by decide) ?_
  refine lv_icmp_ne (tgt := 41) hx hb dX6_goesTo_5 (by decide) (fun c_1 => ?_) (fun c_1 => ?_)
  · exact absurd c_1 (by decide)
  refine lv_aload_n hx hb dX6_goesTo_8 rfl (lv_at hl 0 rfl) ?_
  refine va_get (D := (dC, dI)) (ci := 7) (v := .ref mm) (C := RX6) (T := TX6) (N := 4) hx hb hts in_c_goesTo_y_X6 hown hK hP 0 rfl rfl 3 (by decide) (hts (.fieldLink RX6 21 "ClaimBus$Sending" "whole" "LClaimBus$Message;") (List.mem_of_getElem? (i := 2) rfl)) (fun _ h9 => h9) rfl dX6_goesTo_9 ?_
  refine lv_ifnull hx hb dX6_goesTo_12 ?_
  refine lv_aload_n hx hb dX6_goesTo_15 rfl (lv_at hl 0 rfl) ?_
  refine va_get (D := (dC, dI)) (ci := 7) (v := .ref mm) (C := RX6) (T := TX6) (N := 4) hx hb hts in_c_goesTo_y_X6 hown hK hP 0 rfl rfl 3 (by decide) (hts (.fieldLink RX6 21 "ClaimBus$Sending" "whole" "LClaimBus$Message;") (List.mem_of_getElem? (i := 2) rfl)) (fun _ h9 => h9) rfl dX6_goesTo_16 ?_
  refine va_get (D := (dC, dI)) (ci := 4) (v := .int (nI mt)) (C := RX3) (T := TX3) (N := 6) hx hb hts in_c_goesTo_y_X3 hown hK hP 1 rfl rfl 1 (by decide) (hts (.fieldLink RX6 25 "ClaimBus$Message" "to" "I") (List.mem_of_getElem? (i := 3) rfl)) (fun _ h9 => h9) rfl dX6_goesTo_19 ?_
  refine lv_iload_n hx hb dX6_goesTo_22 rfl (lv_at hl 1 rfl) ?_
  refine lv_icmp_ne (tgt := 41) hx hb dX6_goesTo_23 (by decide) (fun c_2 => ?_) (fun c_2 => ?_)
  · exact absurd rfl c_2
  refine lv_aload_n hx hb dX6_goesTo_26 rfl (lv_at hl 0 rfl) ?_
  refine va_get (D := (dC, dI)) (ci := 7) (v := .ref mm) (C := RX6) (T := TX6) (N := 4) hx hb hts in_c_goesTo_y_X6 hown hK hP 0 rfl rfl 3 (by decide) (hts (.fieldLink RX6 21 "ClaimBus$Sending" "whole" "LClaimBus$Message;") (List.mem_of_getElem? (i := 2) rfl)) (fun _ h9 => h9) rfl dX6_goesTo_27 ?_
  refine va_get (D := (dC, dI)) (ci := 4) (v := .int (nI mg)) (C := RX3) (T := TX3) (N := 6) hx hb hts in_c_goesTo_y_X3 hown hK hP 1 rfl rfl 2 (by decide) (hts (.fieldLink RX6 30 "ClaimBus$Message" "group" "I") (List.mem_of_getElem? (i := 4) rfl)) (fun _ h9 => h9) rfl dX6_goesTo_30 ?_
  refine lv_iload_n hx hb dX6_goesTo_33 rfl (lv_at hl 2 rfl) ?_
  refine lv_icmp_ne (tgt := 41) hx hb dX6_goesTo_34 (by decide) (fun c_3 => ?_) (fun c_3 => ?_)
  · exact absurd rfl c_3
  refine lv_iconst (v := 1) hx hb dX6_goesTo_37 (by decide) ?_
  refine lv_goto (tgt := 42) hx hb dX6_goesTo_38 (by decide) ?_
  exact W.zret (v := 1) hx hb hr (by decide) (fun t ht hW => ⟨⟨1, (), rfl, rfl, trivial⟩, hS.F ht⟩) hS.2.2 dX6_goesTo_42

noncomputable def tl_c_goesTo_0 : List Cond := wsX60
noncomputable def v_c_goesTo_0 : List Cond := .code yX6_goesTo cX6_goesTo 3 (some .boolean) :: ([.fieldLink RX6 9 "ClaimBus$Sending" "state" "I"] ++ tl_c_goesTo_0)
theorem it_c_goesTo_0 : ∀ w ∈ tl_c_goesTo_0, w ∈ v_c_goesTo_0 := fun w h => List.mem_cons_of_mem _ (List.mem_append_right _ h)
theorem in_c_goesTo_0_X6 : ∀ w ∈ wsX60, w ∈ v_c_goesTo_0 := fun w h => it_c_goesTo_0 w (h)
theorem gt_c_goesTo_0 : ∀ w ∈ tl_c_goesTo_0, goodWord w = true := gw_wsX60
theorem gw_c_goesTo_0 : ∀ w ∈ v_c_goesTo_0, goodWord w = true := List.forall_mem_cons.mpr ⟨by decide +kernel, List.forall_mem_append.mpr ⟨List.all_eq_true.mp (by decide +kernel), gt_c_goesTo_0⟩⟩
set_option maxHeartbeats 4000000 in
set_option maxRecDepth 100000 in
theorem c_goesTo_0 (l : Launch) (dC : Nat → ClassId) (dI : Nat → Nat → Nat) (ns : Nat) (snp : Int32) (sdo : Int32) (p0 : Int32) (p1 : Int32) (sz : Nat)  : Met l yX6_goesTo v_c_goesTo_0 ({ frames := 0, cells := 0, slots := 0, locals := 0 }) (va_Pc [.ref ns, .int p0, .int p1] (fun U => U.heap.size = sz ∧ va_P (dC, dI) vwCl [(ns, .inr (7, [.int 0, .int snp, .int sdo, .null]))] U.heap ∧ va_K (dC, dI) vwCl [] U ∧ va_D (fun _ => True) [(ns, .inr (7, [.int 0, .int snp, .int sdo, .null]))] ∧ ev U)) (va_Qi (fun (r : Int32) (_ : Unit) => r = 0) (fun (_ : Unit) (_ : State) => True) (va_A [] sz)) 0 0 (va_A [] sz) := by
  refine Met.ofW (cc := cX6_goesTo) (maxL := 3) (ret := (some .boolean)) (by decide) rfl ?_
  intro p e s m args below meth c s₁ B hml hv
  obtain ⟨rfl, hsz, hP, hK, hD0, hE⟩ := hv
  have hx := B.exec
  have hb := B.bytes
  have hr := B.returns
  have hts := atoms_spec (ws := v_c_goesTo_0) B.pre
  have hown : s.vm.findClass RX6 = some m.cls := findClass_of_methodNamed B.named
  have hlocks := B.notSynchronized
  subst hsz
  have hD := hD0
  generalize hAe : va_A [] s.heap.size = A
  have hA : ∀ q : Nat, s.heap.size ≤ q → A q := fun q h => by rw [← hAe]; exact Or.inr h
  have hS : va_S A s.heap s.heap [] := va_S.rf
  replace hP : va_P (dC, dI) vwCl [(ns, .inr (7, [.int 0, .int snp, .int sdo, .null]))] s.heap := hP
  have hl := lv_entry ([.ref ns, .int p0, .int p1]) (n := 3) (Nat.le_of_ble_eq_true rfl)
  rw [lg_entry_eq]
  generalize (lg_sl ([.ref ns, .int p0, .int p1]) ++ List.replicate (3 - (lg_sl ([.ref ns, .int p0, .int p1])).length) Slot.unset).toArray = ls at hl ⊢
  replace hl : lv_has ls 3 [(0, .ref ns), (1, .int p0), (2, .int p1)] := hl
  obtain ⟨H, hH⟩ : ∃ z : Heap, z = s.heap := ⟨_, rfl⟩
  rw [← hH]
  replace hS : va_S A s.heap H [] := by rw [hH]; exact va_S.rf
  replace hP : va_P (dC, dI) vwCl [(ns, .inr (7, [.int 0, .int snp, .int sdo, .null]))] H := by rw [hH]; exact hP
  clear hH
  refine lv_aload_n hx hb dX6_goesTo_0 rfl (lv_at hl 0 rfl) ?_
  refine va_get (D := (dC, dI)) (ci := 7) (v := .int 0) (C := RX6) (T := TX6) (N := 4) hx hb hts in_c_goesTo_0_X6 hown hK hP 0 rfl rfl 0 (by decide) (hts (.fieldLink RX6 9 "ClaimBus$Sending" "state" "I") (List.mem_of_getElem? (i := 1) rfl)) (fun _ h9 => h9) rfl dX6_goesTo_1 ?_
  refine lv_iconst (v := 1) hx hb dX6_goesTo_4 (by decide) ?_
  refine lv_icmp_ne (tgt := 41) hx hb dX6_goesTo_5 (by decide) (fun c_1 => ?_) (fun c_1 => ?_)
  rotate_left
  · exact absurd c_1 (by decide)
  refine lv_iconst (v := 0) hx hb dX6_goesTo_41 (by decide) ?_
  exact W.zret (v := 0) hx hb hr (by decide) (fun t ht hW => ⟨⟨0, (), rfl, rfl, trivial⟩, hS.F ht⟩) hS.2.2 dX6_goesTo_42

noncomputable def tl_c_maySend_0N : List Cond := wsX40 ++ (wsX60)
noncomputable def v_c_maySend_0N : List Cond := .code yX4_maySend cX4_maySend 1 (some .boolean) :: ([.fieldLink RX4 53 "ClaimBus$Node" "state" "I", .fieldLink RX4 21 "ClaimBus$Node" "sending" "LClaimBus$Sending;", .fieldLink RX4 121 "ClaimBus$Sending" "state" "I"] ++ tl_c_maySend_0N)
theorem it_c_maySend_0N : ∀ w ∈ tl_c_maySend_0N, w ∈ v_c_maySend_0N := fun w h => List.mem_cons_of_mem _ (List.mem_append_right _ h)
theorem in_c_maySend_0N_X4 : ∀ w ∈ wsX40, w ∈ v_c_maySend_0N := fun w h => it_c_maySend_0N w (List.mem_append_left _ h)
theorem in_c_maySend_0N_X6 : ∀ w ∈ wsX60, w ∈ v_c_maySend_0N := fun w h => it_c_maySend_0N w (List.mem_append_right _ (h))
theorem gt_c_maySend_0N : ∀ w ∈ tl_c_maySend_0N, goodWord w = true := List.forall_mem_append.mpr ⟨gw_wsX40, gw_wsX60⟩
theorem gw_c_maySend_0N : ∀ w ∈ v_c_maySend_0N, goodWord w = true := List.forall_mem_cons.mpr ⟨by decide +kernel, List.forall_mem_append.mpr ⟨List.all_eq_true.mp (by decide +kernel), gt_c_maySend_0N⟩⟩
set_option maxHeartbeats 4000000 in
set_option maxRecDepth 100000 in
theorem c_maySend_0N (l : Launch) (dC : Nat → ClassId) (dI : Nat → Nat → Nat) (nd : Nat) (nh : Int32) (nl : Int32) (nwa : Int32) (nfr : Int32) (nwi : Nat) (r : Nat) (nt : Nat) (ns : Nat) (ib : Nat) (gs : Nat) (cs : Nat) (nu : Nat) (nad : Nat) (ncc : Nat) (snp : Int32) (sdo : Int32) (sz : Nat)  : Met l yX4_maySend v_c_maySend_0N ({ frames := 0, cells := 0, slots := 0, locals := 0 }) (va_Pc [.ref nd] (fun U => U.heap.size = sz ∧ va_P (dC, dI) vwCl [(nd, .inr (5, [.int nh, .int nl, .int nwa, .int nfr, .int (nI nwi), .ref r, .ref nt, .ref ns, .ref ib, .ref gs, .ref cs, .ref nu, .int 0, .int 2, .int (nI nad), .int (nI ncc), .int 0, .int 0])), (ns, .inr (7, [.int 0, .int snp, .int sdo, .null]))] U.heap ∧ va_K (dC, dI) vwCl [] U ∧ va_D (fun _ => True) [(nd, .inr (5, [.int nh, .int nl, .int nwa, .int nfr, .int (nI nwi), .ref r, .ref nt, .ref ns, .ref ib, .ref gs, .ref cs, .ref nu, .int 0, .int 2, .int (nI nad), .int (nI ncc), .int 0, .int 0])), (ns, .inr (7, [.int 0, .int snp, .int sdo, .null]))] ∧ ev U)) (va_Qi (fun (r : Int32) (_ : Unit) => r = 1) (fun (_ : Unit) (_ : State) => True) (va_A [] sz)) 0 0 (va_A [] sz) := by
  refine Met.ofW (cc := cX4_maySend) (maxL := 1) (ret := (some .boolean)) (by decide) rfl ?_
  intro p e s m args below meth c s₁ B hml hv
  obtain ⟨rfl, hsz, hP, hK, hD0, hE⟩ := hv
  have hx := B.exec
  have hb := B.bytes
  have hr := B.returns
  have hts := atoms_spec (ws := v_c_maySend_0N) B.pre
  have hown : s.vm.findClass RX4 = some m.cls := findClass_of_methodNamed B.named
  have hlocks := B.notSynchronized
  subst hsz
  have hD := hD0
  generalize hAe : va_A [] s.heap.size = A
  have hA : ∀ q : Nat, s.heap.size ≤ q → A q := fun q h => by rw [← hAe]; exact Or.inr h
  have hS : va_S A s.heap s.heap [] := va_S.rf
  replace hP : va_P (dC, dI) vwCl [(nd, .inr (5, [.int nh, .int nl, .int nwa, .int nfr, .int (nI nwi), .ref r, .ref nt, .ref ns, .ref ib, .ref gs, .ref cs, .ref nu, .int 0, .int 2, .int (nI nad), .int (nI ncc), .int 0, .int 0])), (ns, .inr (7, [.int 0, .int snp, .int sdo, .null]))] s.heap := hP
  have hl := lv_entry ([.ref nd]) (n := 1) (Nat.le_of_ble_eq_true rfl)
  rw [lg_entry_eq]
  generalize (lg_sl ([.ref nd]) ++ List.replicate (1 - (lg_sl ([.ref nd])).length) Slot.unset).toArray = ls at hl ⊢
  replace hl : lv_has ls 1 [(0, .ref nd)] := hl
  obtain ⟨H, hH⟩ : ∃ z : Heap, z = s.heap := ⟨_, rfl⟩
  rw [← hH]
  replace hS : va_S A s.heap H [] := by rw [hH]; exact va_S.rf
  replace hP : va_P (dC, dI) vwCl [(nd, .inr (5, [.int nh, .int nl, .int nwa, .int nfr, .int (nI nwi), .ref r, .ref nt, .ref ns, .ref ib, .ref gs, .ref cs, .ref nu, .int 0, .int 2, .int (nI nad), .int (nI ncc), .int 0, .int 0])), (ns, .inr (7, [.int 0, .int snp, .int sdo, .null]))] H := by rw [hH]; exact hP
  clear hH
  refine lv_aload_n hx hb dX4_maySend_0 rfl (lv_at hl 0 rfl) ?_
  refine va_get (D := (dC, dI)) (ci := 5) (v := .int 2) (C := RX4) (T := TX4) (N := 18) hx hb hts in_c_maySend_0N_X4 hown hK hP 0 rfl rfl 13 (by decide) (hts (.fieldLink RX4 53 "ClaimBus$Node" "state" "I") (List.mem_of_getElem? (i := 1) rfl)) (fun _ h9 => h9) rfl dX4_maySend_1 ?_
  refine lv_iconst (v := 2) hx hb dX4_maySend_4 (by decide) ?_
  refine lv_icmp_ne (tgt := 23) hx hb dX4_maySend_5 (by decide) (fun c_1 => ?_) (fun c_1 => ?_)
  · exact absurd c_1 (by decide)
  refine lv_aload_n hx hb dX4_maySend_8 rfl (lv_at hl 0 rfl) ?_
  refine va_get (D := (dC, dI)) (ci := 5) (v := .ref ns) (C := RX4) (T := TX4) (N := 18) hx hb hts in_c_maySend_0N_X4 hown hK hP 0 rfl rfl 7 (by decide) (hts (.fieldLink RX4 21 "ClaimBus$Node" "sending" "LClaimBus$Sending;") (List.mem_of_getElem? (i := 2) rfl)) (fun _ h9 => h9) rfl dX4_maySend_9 ?_
  refine va_get (D := (dC, dI)) (ci := 7) (v := .int 0) (C := RX6) (T := TX6) (N := 4) hx hb hts in_c_maySend_0N_X6 hown hK hP 1 rfl rfl 0 (by decide) (hts (.fieldLink RX4 121 "ClaimBus$Sending" "state" "I") (List.mem_of_getElem? (i := 3) rfl)) (fun _ h9 => h9) rfl dX4_maySend_12 ?_
  refine lv_iconst (v := 1) hx hb dX4_maySend_15 (by decide) ?_
  refine lv_icmp_eq (tgt := 23) hx hb dX4_maySend_16 (by decide) (fun c_2 => ?_) (fun c_2 => ?_)
  · exact absurd c_2 (by decide)
  refine lv_iconst (v := 1) hx hb dX4_maySend_19 (by decide) ?_
  refine lv_goto (tgt := 24) hx hb dX4_maySend_20 (by decide) ?_
  exact W.zret (v := 1) hx hb hr (by decide) (fun t ht hW => ⟨⟨1, (), rfl, rfl, trivial⟩, hS.F ht⟩) hS.2.2 dX4_maySend_24

noncomputable def tl_c_maySend_0 : List Cond := wsX40 ++ (wsX60)
noncomputable def v_c_maySend_0 : List Cond := .code yX4_maySend cX4_maySend 1 (some .boolean) :: ([.fieldLink RX4 53 "ClaimBus$Node" "state" "I", .fieldLink RX4 21 "ClaimBus$Node" "sending" "LClaimBus$Sending;", .fieldLink RX4 121 "ClaimBus$Sending" "state" "I"] ++ tl_c_maySend_0)
theorem it_c_maySend_0 : ∀ w ∈ tl_c_maySend_0, w ∈ v_c_maySend_0 := fun w h => List.mem_cons_of_mem _ (List.mem_append_right _ h)
theorem in_c_maySend_0_X4 : ∀ w ∈ wsX40, w ∈ v_c_maySend_0 := fun w h => it_c_maySend_0 w (List.mem_append_left _ h)
theorem in_c_maySend_0_X6 : ∀ w ∈ wsX60, w ∈ v_c_maySend_0 := fun w h => it_c_maySend_0 w (List.mem_append_right _ (h))
theorem gt_c_maySend_0 : ∀ w ∈ tl_c_maySend_0, goodWord w = true := List.forall_mem_append.mpr ⟨gw_wsX40, gw_wsX60⟩
theorem gw_c_maySend_0 : ∀ w ∈ v_c_maySend_0, goodWord w = true := List.forall_mem_cons.mpr ⟨by decide +kernel, List.forall_mem_append.mpr ⟨List.all_eq_true.mp (by decide +kernel), gt_c_maySend_0⟩⟩
set_option maxHeartbeats 4000000 in
set_option maxRecDepth 100000 in
theorem c_maySend_0 (l : Launch) (dC : Nat → ClassId) (dI : Nat → Nat → Nat) (nd : Nat) (nh : Int32) (nl : Int32) (nwa : Int32) (nfr : Int32) (nwi : Nat) (r : Nat) (nt : Nat) (ns : Nat) (ib : Nat) (gs : Nat) (cs : Nat) (nu : Nat) (nad : Nat) (ncc : Nat) (snp : Int32) (sdo : Int32) (mo : Nat) (sz : Nat)  : Met l yX4_maySend v_c_maySend_0 ({ frames := 0, cells := 0, slots := 0, locals := 0 }) (va_Pc [.ref nd] (fun U => U.heap.size = sz ∧ va_P (dC, dI) vwCl [(nd, .inr (5, [.int nh, .int nl, .int nwa, .int nfr, .int (nI nwi), .ref r, .ref nt, .ref ns, .ref ib, .ref gs, .ref cs, .ref nu, .int 0, .int 2, .int (nI nad), .int (nI ncc), .int 0, .int 0])), (ns, .inr (7, [.int 0, .int snp, .int sdo, .ref mo]))] U.heap ∧ va_K (dC, dI) vwCl [] U ∧ va_D (fun _ => True) [(nd, .inr (5, [.int nh, .int nl, .int nwa, .int nfr, .int (nI nwi), .ref r, .ref nt, .ref ns, .ref ib, .ref gs, .ref cs, .ref nu, .int 0, .int 2, .int (nI nad), .int (nI ncc), .int 0, .int 0])), (ns, .inr (7, [.int 0, .int snp, .int sdo, .ref mo]))] ∧ ev U)) (va_Qi (fun (r : Int32) (_ : Unit) => r = 1) (fun (_ : Unit) (_ : State) => True) (va_A [] sz)) 0 0 (va_A [] sz) := by
  refine Met.ofW (cc := cX4_maySend) (maxL := 1) (ret := (some .boolean)) (by decide) rfl ?_
  intro p e s m args below meth c s₁ B hml hv
  obtain ⟨rfl, hsz, hP, hK, hD0, hE⟩ := hv
  have hx := B.exec
  have hb := B.bytes
  have hr := B.returns
  have hts := atoms_spec (ws := v_c_maySend_0) B.pre
  have hown : s.vm.findClass RX4 = some m.cls := findClass_of_methodNamed B.named
  have hlocks := B.notSynchronized
  subst hsz
  have hD := hD0
  generalize hAe : va_A [] s.heap.size = A
  have hA : ∀ q : Nat, s.heap.size ≤ q → A q := fun q h => by rw [← hAe]; exact Or.inr h
  have hS : va_S A s.heap s.heap [] := va_S.rf
  replace hP : va_P (dC, dI) vwCl [(nd, .inr (5, [.int nh, .int nl, .int nwa, .int nfr, .int (nI nwi), .ref r, .ref nt, .ref ns, .ref ib, .ref gs, .ref cs, .ref nu, .int 0, .int 2, .int (nI nad), .int (nI ncc), .int 0, .int 0])), (ns, .inr (7, [.int 0, .int snp, .int sdo, .ref mo]))] s.heap := hP
  have hl := lv_entry ([.ref nd]) (n := 1) (Nat.le_of_ble_eq_true rfl)
  rw [lg_entry_eq]
  generalize (lg_sl ([.ref nd]) ++ List.replicate (1 - (lg_sl ([.ref nd])).length) Slot.unset).toArray = ls at hl ⊢
  replace hl : lv_has ls 1 [(0, .ref nd)] := hl
  obtain ⟨H, hH⟩ : ∃ z : Heap, z = s.heap := ⟨_, rfl⟩
  rw [← hH]
  replace hS : va_S A s.heap H [] := by rw [hH]; exact va_S.rf
  replace hP : va_P (dC, dI) vwCl [(nd, .inr (5, [.int nh, .int nl, .int nwa, .int nfr, .int (nI nwi), .ref r, .ref nt, .ref ns, .ref ib, .ref gs, .ref cs, .ref nu, .int 0, .int 2, .int (nI nad), .int (nI ncc), .int 0, .int 0])), (ns, .inr (7, [.int 0, .int snp, .int sdo, .ref mo]))] H := by rw [hH]; exact hP
  clear hH
  refine lv_aload_n hx hb dX4_maySend_0 rfl (lv_at hl 0 rfl) ?_
  refine va_get (D := (dC, dI)) (ci := 5) (v := .int 2) (C := RX4) (T := TX4) (N := 18) hx hb hts in_c_maySend_0_X4 hown hK hP 0 rfl rfl 13 (by decide) (hts (.fieldLink RX4 53 "ClaimBus$Node" "state" "I") (List.mem_of_getElem? (i := 1) rfl)) (fun _ h9 => h9) rfl dX4_maySend_1 ?_
  refine lv_iconst (v := 2) hx hb dX4_maySend_4 (by decide) ?_
  refine lv_icmp_ne (tgt := 23) hx hb dX4_maySend_5 (by decide) (fun c_1 => ?_) (fun c_1 => ?_)
  · exact absurd c_1 (by decide)
  refine lv_aload_n hx hb dX4_maySend_8 rfl (lv_at hl 0 rfl) ?_
  refine va_get (D := (dC, dI)) (ci := 5) (v := .ref ns) (C := RX4) (T := TX4) (N := 18) hx hb hts in_c_maySend_0_X4 hown hK hP 0 rfl rfl 7 (by decide) (hts (.fieldLink RX4 21 "ClaimBus$Node" "sending" "LClaimBus$Sending;") (List.mem_of_getElem? (i := 2) rfl)) (fun _ h9 => h9) rfl dX4_maySend_9 ?_
  refine va_get (D := (dC, dI)) (ci := 7) (v := .int 0) (C := RX6) (T := TX6) (N := 4) hx hb hts in_c_maySend_0_X6 hown hK hP 1 rfl rfl 0 (by decide) (hts (.fieldLink RX4 121 "ClaimBus$Sending" "state" "I") (List.mem_of_getElem? (i := 3) rfl)) (fun _ h9 => h9) rfl dX4_maySend_12 ?_
  refine lv_iconst (v := 1) hx hb dX4_maySend_15 (by decide) ?_
  refine lv_icmp_eq (tgt := 23) hx hb dX4_maySend_16 (by decide) (fun c_2 => ?_) (fun c_2 => ?_)
  · exact absurd c_2 (by decide)
  refine lv_iconst (v := 1) hx hb dX4_maySend_19 (by decide) ?_
  refine lv_goto (tgt := 24) hx hb dX4_maySend_20 (by decide) ?_
  exact W.zret (v := 1) hx hb hr (by decide) (fun t ht hW => ⟨⟨1, (), rfl, rfl, trivial⟩, hS.F ht⟩) hS.2.2 dX4_maySend_24

noncomputable def tl_c_maySend_2N : List Cond := wsX40 ++ (wsX60)
noncomputable def v_c_maySend_2N : List Cond := .code yX4_maySend cX4_maySend 1 (some .boolean) :: ([.fieldLink RX4 53 "ClaimBus$Node" "state" "I", .fieldLink RX4 21 "ClaimBus$Node" "sending" "LClaimBus$Sending;", .fieldLink RX4 121 "ClaimBus$Sending" "state" "I"] ++ tl_c_maySend_2N)
theorem it_c_maySend_2N : ∀ w ∈ tl_c_maySend_2N, w ∈ v_c_maySend_2N := fun w h => List.mem_cons_of_mem _ (List.mem_append_right _ h)
theorem in_c_maySend_2N_X4 : ∀ w ∈ wsX40, w ∈ v_c_maySend_2N := fun w h => it_c_maySend_2N w (List.mem_append_left _ h)
theorem in_c_maySend_2N_X6 : ∀ w ∈ wsX60, w ∈ v_c_maySend_2N := fun w h => it_c_maySend_2N w (List.mem_append_right _ (h))
theorem gt_c_maySend_2N : ∀ w ∈ tl_c_maySend_2N, goodWord w = true := List.forall_mem_append.mpr ⟨gw_wsX40, gw_wsX60⟩
theorem gw_c_maySend_2N : ∀ w ∈ v_c_maySend_2N, goodWord w = true := List.forall_mem_cons.mpr ⟨by decide +kernel, List.forall_mem_append.mpr ⟨List.all_eq_true.mp (by decide +kernel), gt_c_maySend_2N⟩⟩
set_option maxHeartbeats 4000000 in
set_option maxRecDepth 100000 in
theorem c_maySend_2N (l : Launch) (dC : Nat → ClassId) (dI : Nat → Nat → Nat) (nd : Nat) (nh : Int32) (nl : Int32) (nwa : Int32) (nfr : Int32) (nwi : Nat) (r : Nat) (nt : Nat) (ns : Nat) (ib : Nat) (gs : Nat) (cs : Nat) (nu : Nat) (nad : Nat) (ncc : Nat) (snp : Int32) (sdo : Int32) (sz : Nat)  : Met l yX4_maySend v_c_maySend_2N ({ frames := 0, cells := 0, slots := 0, locals := 0 }) (va_Pc [.ref nd] (fun U => U.heap.size = sz ∧ va_P (dC, dI) vwCl [(nd, .inr (5, [.int nh, .int nl, .int nwa, .int nfr, .int (nI nwi), .ref r, .ref nt, .ref ns, .ref ib, .ref gs, .ref cs, .ref nu, .int 0, .int 2, .int (nI nad), .int (nI ncc), .int 0, .int 0])), (ns, .inr (7, [.int 2, .int snp, .int sdo, .null]))] U.heap ∧ va_K (dC, dI) vwCl [] U ∧ va_D (fun _ => True) [(nd, .inr (5, [.int nh, .int nl, .int nwa, .int nfr, .int (nI nwi), .ref r, .ref nt, .ref ns, .ref ib, .ref gs, .ref cs, .ref nu, .int 0, .int 2, .int (nI nad), .int (nI ncc), .int 0, .int 0])), (ns, .inr (7, [.int 2, .int snp, .int sdo, .null]))] ∧ ev U)) (va_Qi (fun (r : Int32) (_ : Unit) => r = 1) (fun (_ : Unit) (_ : State) => True) (va_A [] sz)) 0 0 (va_A [] sz) := by
  refine Met.ofW (cc := cX4_maySend) (maxL := 1) (ret := (some .boolean)) (by decide) rfl ?_
  intro p e s m args below meth c s₁ B hml hv
  obtain ⟨rfl, hsz, hP, hK, hD0, hE⟩ := hv
  have hx := B.exec
  have hb := B.bytes
  have hr := B.returns
  have hts := atoms_spec (ws := v_c_maySend_2N) B.pre
  have hown : s.vm.findClass RX4 = some m.cls := findClass_of_methodNamed B.named
  have hlocks := B.notSynchronized
  subst hsz
  have hD := hD0
  generalize hAe : va_A [] s.heap.size = A
  have hA : ∀ q : Nat, s.heap.size ≤ q → A q := fun q h => by rw [← hAe]; exact Or.inr h
  have hS : va_S A s.heap s.heap [] := va_S.rf
  replace hP : va_P (dC, dI) vwCl [(nd, .inr (5, [.int nh, .int nl, .int nwa, .int nfr, .int (nI nwi), .ref r, .ref nt, .ref ns, .ref ib, .ref gs, .ref cs, .ref nu, .int 0, .int 2, .int (nI nad), .int (nI ncc), .int 0, .int 0])), (ns, .inr (7, [.int 2, .int snp, .int sdo, .null]))] s.heap := hP
  have hl := lv_entry ([.ref nd]) (n := 1) (Nat.le_of_ble_eq_true rfl)
  rw [lg_entry_eq]
  generalize (lg_sl ([.ref nd]) ++ List.replicate (1 - (lg_sl ([.ref nd])).length) Slot.unset).toArray = ls at hl ⊢
  replace hl : lv_has ls 1 [(0, .ref nd)] := hl
  obtain ⟨H, hH⟩ : ∃ z : Heap, z = s.heap := ⟨_, rfl⟩
  rw [← hH]
  replace hS : va_S A s.heap H [] := by rw [hH]; exact va_S.rf
  replace hP : va_P (dC, dI) vwCl [(nd, .inr (5, [.int nh, .int nl, .int nwa, .int nfr, .int (nI nwi), .ref r, .ref nt, .ref ns, .ref ib, .ref gs, .ref cs, .ref nu, .int 0, .int 2, .int (nI nad), .int (nI ncc), .int 0, .int 0])), (ns, .inr (7, [.int 2, .int snp, .int sdo, .null]))] H := by rw [hH]; exact hP
  clear hH
  refine lv_aload_n hx hb dX4_maySend_0 rfl (lv_at hl 0 rfl) ?_
  refine va_get (D := (dC, dI)) (ci := 5) (v := .int 2) (C := RX4) (T := TX4) (N := 18) hx hb hts in_c_maySend_2N_X4 hown hK hP 0 rfl rfl 13 (by decide) (hts (.fieldLink RX4 53 "ClaimBus$Node" "state" "I") (List.mem_of_getElem? (i := 1) rfl)) (fun _ h9 => h9) rfl dX4_maySend_1 ?_
  refine lv_iconst (v := 2) hx hb dX4_maySend_4 (by decide) ?_
  refine lv_icmp_ne (tgt := 23) hx hb dX4_maySend_5 (by decide) (fun c_1 => ?_) (fun c_1 => ?_)
  · exact absurd c_1 (by decide)
  refine lv_aload_n hx hb dX4_maySend_8 rfl (lv_at hl 0 rfl) ?_
  refine va_get (D := (dC, dI)) (ci := 5) (v := .ref ns) (C := RX4) (T := TX4) (N := 18) hx hb hts in_c_maySend_2N_X4 hown hK hP 0 rfl rfl 7 (by decide) (hts (.fieldLink RX4 21 "ClaimBus$Node" "sending" "LClaimBus$Sending;") (List.mem_of_getElem? (i := 2) rfl)) (fun _ h9 => h9) rfl dX4_maySend_9 ?_
  refine va_get (D := (dC, dI)) (ci := 7) (v := .int 2) (C := RX6) (T := TX6) (N := 4) hx hb hts in_c_maySend_2N_X6 hown hK hP 1 rfl rfl 0 (by decide) (hts (.fieldLink RX4 121 "ClaimBus$Sending" "state" "I") (List.mem_of_getElem? (i := 3) rfl)) (fun _ h9 => h9) rfl dX4_maySend_12 ?_
  refine lv_iconst (v := 1) hx hb dX4_maySend_15 (by decide) ?_
  refine lv_icmp_eq (tgt := 23) hx hb dX4_maySend_16 (by decide) (fun c_2 => ?_) (fun c_2 => ?_)
  · exact absurd c_2 (by decide)
  refine lv_iconst (v := 1) hx hb dX4_maySend_19 (by decide) ?_
  refine lv_goto (tgt := 24) hx hb dX4_maySend_20 (by decide) ?_
  exact W.zret (v := 1) hx hb hr (by decide) (fun t ht hW => ⟨⟨1, (), rfl, rfl, trivial⟩, hS.F ht⟩) hS.2.2 dX4_maySend_24

noncomputable def tl_c_maySend_2 : List Cond := wsX40 ++ (wsX60)
noncomputable def v_c_maySend_2 : List Cond := .code yX4_maySend cX4_maySend 1 (some .boolean) :: ([.fieldLink RX4 53 "ClaimBus$Node" "state" "I", .fieldLink RX4 21 "ClaimBus$Node" "sending" "LClaimBus$Sending;", .fieldLink RX4 121 "ClaimBus$Sending" "state" "I"] ++ tl_c_maySend_2)
theorem it_c_maySend_2 : ∀ w ∈ tl_c_maySend_2, w ∈ v_c_maySend_2 := fun w h => List.mem_cons_of_mem _ (List.mem_append_right _ h)
theorem in_c_maySend_2_X4 : ∀ w ∈ wsX40, w ∈ v_c_maySend_2 := fun w h => it_c_maySend_2 w (List.mem_append_left _ h)
theorem in_c_maySend_2_X6 : ∀ w ∈ wsX60, w ∈ v_c_maySend_2 := fun w h => it_c_maySend_2 w (List.mem_append_right _ (h))
theorem gt_c_maySend_2 : ∀ w ∈ tl_c_maySend_2, goodWord w = true := List.forall_mem_append.mpr ⟨gw_wsX40, gw_wsX60⟩
theorem gw_c_maySend_2 : ∀ w ∈ v_c_maySend_2, goodWord w = true := List.forall_mem_cons.mpr ⟨by decide +kernel, List.forall_mem_append.mpr ⟨List.all_eq_true.mp (by decide +kernel), gt_c_maySend_2⟩⟩
set_option maxHeartbeats 4000000 in
set_option maxRecDepth 100000 in
theorem c_maySend_2 (l : Launch) (dC : Nat → ClassId) (dI : Nat → Nat → Nat) (nd : Nat) (nh : Int32) (nl : Int32) (nwa : Int32) (nfr : Int32) (nwi : Nat) (r : Nat) (nt : Nat) (ns : Nat) (ib : Nat) (gs : Nat) (cs : Nat) (nu : Nat) (nad : Nat) (ncc : Nat) (snp : Int32) (sdo : Int32) (mo : Nat) (sz : Nat)  : Met l yX4_maySend v_c_maySend_2 ({ frames := 0, cells := 0, slots := 0, locals := 0 }) (va_Pc [.ref nd] (fun U => U.heap.size = sz ∧ va_P (dC, dI) vwCl [(nd, .inr (5, [.int nh, .int nl, .int nwa, .int nfr, .int (nI nwi), .ref r, .ref nt, .ref ns, .ref ib, .ref gs, .ref cs, .ref nu, .int 0, .int 2, .int (nI nad), .int (nI ncc), .int 0, .int 0])), (ns, .inr (7, [.int 2, .int snp, .int sdo, .ref mo]))] U.heap ∧ va_K (dC, dI) vwCl [] U ∧ va_D (fun _ => True) [(nd, .inr (5, [.int nh, .int nl, .int nwa, .int nfr, .int (nI nwi), .ref r, .ref nt, .ref ns, .ref ib, .ref gs, .ref cs, .ref nu, .int 0, .int 2, .int (nI nad), .int (nI ncc), .int 0, .int 0])), (ns, .inr (7, [.int 2, .int snp, .int sdo, .ref mo]))] ∧ ev U)) (va_Qi (fun (r : Int32) (_ : Unit) => r = 1) (fun (_ : Unit) (_ : State) => True) (va_A [] sz)) 0 0 (va_A [] sz) := by
  refine Met.ofW (cc := cX4_maySend) (maxL := 1) (ret := (some .boolean)) (by decide) rfl ?_
  intro p e s m args below meth c s₁ B hml hv
  obtain ⟨rfl, hsz, hP, hK, hD0, hE⟩ := hv
  have hx := B.exec
  have hb := B.bytes
  have hr := B.returns
  have hts := atoms_spec (ws := v_c_maySend_2) B.pre
  have hown : s.vm.findClass RX4 = some m.cls := findClass_of_methodNamed B.named
  have hlocks := B.notSynchronized
  subst hsz
  have hD := hD0
  generalize hAe : va_A [] s.heap.size = A
  have hA : ∀ q : Nat, s.heap.size ≤ q → A q := fun q h => by rw [← hAe]; exact Or.inr h
  have hS : va_S A s.heap s.heap [] := va_S.rf
  replace hP : va_P (dC, dI) vwCl [(nd, .inr (5, [.int nh, .int nl, .int nwa, .int nfr, .int (nI nwi), .ref r, .ref nt, .ref ns, .ref ib, .ref gs, .ref cs, .ref nu, .int 0, .int 2, .int (nI nad), .int (nI ncc), .int 0, .int 0])), (ns, .inr (7, [.int 2, .int snp, .int sdo, .ref mo]))] s.heap := hP
  have hl := lv_entry ([.ref nd]) (n := 1) (Nat.le_of_ble_eq_true rfl)
  rw [lg_entry_eq]
  generalize (lg_sl ([.ref nd]) ++ List.replicate (1 - (lg_sl ([.ref nd])).length) Slot.unset).toArray = ls at hl ⊢
  replace hl : lv_has ls 1 [(0, .ref nd)] := hl
  obtain ⟨H, hH⟩ : ∃ z : Heap, z = s.heap := ⟨_, rfl⟩
  rw [← hH]
  replace hS : va_S A s.heap H [] := by rw [hH]; exact va_S.rf
  replace hP : va_P (dC, dI) vwCl [(nd, .inr (5, [.int nh, .int nl, .int nwa, .int nfr, .int (nI nwi), .ref r, .ref nt, .ref ns, .ref ib, .ref gs, .ref cs, .ref nu, .int 0, .int 2, .int (nI nad), .int (nI ncc), .int 0, .int 0])), (ns, .inr (7, [.int 2, .int snp, .int sdo, .ref mo]))] H := by rw [hH]; exact hP
  clear hH
  refine lv_aload_n hx hb dX4_maySend_0 rfl (lv_at hl 0 rfl) ?_
  refine va_get (D := (dC, dI)) (ci := 5) (v := .int 2) (C := RX4) (T := TX4) (N := 18) hx hb hts in_c_maySend_2_X4 hown hK hP 0 rfl rfl 13 (by decide) (hts (.fieldLink RX4 53 "ClaimBus$Node" "state" "I") (List.mem_of_getElem? (i := 1) rfl)) (fun _ h9 => h9) rfl dX4_maySend_1 ?_
  refine lv_iconst (v := 2) hx hb dX4_maySend_4 (by decide) ?_
  refine lv_icmp_ne (tgt := 23) hx hb dX4_maySend_5 (by decide) (fun c_1 => ?_) (fun c_1 => ?_)
  · exact absurd c_1 (by decide)
  refine lv_aload_n hx hb dX4_maySend_8 rfl (lv_at hl 0 rfl) ?_
  refine va_get (D := (dC, dI)) (ci := 5) (v := .ref ns) (C := RX4) (T := TX4) (N := 18) hx hb hts in_c_maySend_2_X4 hown hK hP 0 rfl rfl 7 (by decide) (hts (.fieldLink RX4 21 "ClaimBus$Node" "sending" "LClaimBus$Sending;") (List.mem_of_getElem? (i := 2) rfl)) (fun _ h9 => h9) rfl dX4_maySend_9 ?_
  refine va_get (D := (dC, dI)) (ci := 7) (v := .int 2) (C := RX6) (T := TX6) (N := 4) hx hb hts in_c_maySend_2_X6 hown hK hP 1 rfl rfl 0 (by decide) (hts (.fieldLink RX4 121 "ClaimBus$Sending" "state" "I") (List.mem_of_getElem? (i := 3) rfl)) (fun _ h9 => h9) rfl dX4_maySend_12 ?_
  refine lv_iconst (v := 1) hx hb dX4_maySend_15 (by decide) ?_
  refine lv_icmp_eq (tgt := 23) hx hb dX4_maySend_16 (by decide) (fun c_2 => ?_) (fun c_2 => ?_)
  · exact absurd c_2 (by decide)
  refine lv_iconst (v := 1) hx hb dX4_maySend_19 (by decide) ?_
  refine lv_goto (tgt := 24) hx hb dX4_maySend_20 (by decide) ?_
  exact W.zret (v := 1) hx hb hr (by decide) (fun t ht hW => ⟨⟨1, (), rfl, rfl, trivial⟩, hS.F ht⟩) hS.2.2 dX4_maySend_24

noncomputable def tl_c_maySend_1N : List Cond := wsX40 ++ (wsX60)
noncomputable def v_c_maySend_1N : List Cond := .code yX4_maySend cX4_maySend 1 (some .boolean) :: ([.fieldLink RX4 53 "ClaimBus$Node" "state" "I", .fieldLink RX4 21 "ClaimBus$Node" "sending" "LClaimBus$Sending;", .fieldLink RX4 121 "ClaimBus$Sending" "state" "I"] ++ tl_c_maySend_1N)
theorem it_c_maySend_1N : ∀ w ∈ tl_c_maySend_1N, w ∈ v_c_maySend_1N := fun w h => List.mem_cons_of_mem _ (List.mem_append_right _ h)
theorem in_c_maySend_1N_X4 : ∀ w ∈ wsX40, w ∈ v_c_maySend_1N := fun w h => it_c_maySend_1N w (List.mem_append_left _ h)
theorem in_c_maySend_1N_X6 : ∀ w ∈ wsX60, w ∈ v_c_maySend_1N := fun w h => it_c_maySend_1N w (List.mem_append_right _ (h))
theorem gt_c_maySend_1N : ∀ w ∈ tl_c_maySend_1N, goodWord w = true := List.forall_mem_append.mpr ⟨gw_wsX40, gw_wsX60⟩
theorem gw_c_maySend_1N : ∀ w ∈ v_c_maySend_1N, goodWord w = true := List.forall_mem_cons.mpr ⟨by decide +kernel, List.forall_mem_append.mpr ⟨List.all_eq_true.mp (by decide +kernel), gt_c_maySend_1N⟩⟩
set_option maxHeartbeats 4000000 in
set_option maxRecDepth 100000 in
theorem c_maySend_1N (l : Launch) (dC : Nat → ClassId) (dI : Nat → Nat → Nat) (nd : Nat) (nh : Int32) (nl : Int32) (nwa : Int32) (nfr : Int32) (nwi : Nat) (r : Nat) (nt : Nat) (ns : Nat) (ib : Nat) (gs : Nat) (cs : Nat) (nu : Nat) (nad : Nat) (ncc : Nat) (snp : Int32) (sdo : Int32) (sz : Nat)  : Met l yX4_maySend v_c_maySend_1N ({ frames := 0, cells := 0, slots := 0, locals := 0 }) (va_Pc [.ref nd] (fun U => U.heap.size = sz ∧ va_P (dC, dI) vwCl [(nd, .inr (5, [.int nh, .int nl, .int nwa, .int nfr, .int (nI nwi), .ref r, .ref nt, .ref ns, .ref ib, .ref gs, .ref cs, .ref nu, .int 0, .int 2, .int (nI nad), .int (nI ncc), .int 0, .int 0])), (ns, .inr (7, [.int 1, .int snp, .int sdo, .null]))] U.heap ∧ va_K (dC, dI) vwCl [] U ∧ va_D (fun _ => True) [(nd, .inr (5, [.int nh, .int nl, .int nwa, .int nfr, .int (nI nwi), .ref r, .ref nt, .ref ns, .ref ib, .ref gs, .ref cs, .ref nu, .int 0, .int 2, .int (nI nad), .int (nI ncc), .int 0, .int 0])), (ns, .inr (7, [.int 1, .int snp, .int sdo, .null]))] ∧ ev U)) (va_Qi (fun (r : Int32) (_ : Unit) => r = 0) (fun (_ : Unit) (_ : State) => True) (va_A [] sz)) 0 0 (va_A [] sz) := by
  refine Met.ofW (cc := cX4_maySend) (maxL := 1) (ret := (some .boolean)) (by decide) rfl ?_
  intro p e s m args below meth c s₁ B hml hv
  obtain ⟨rfl, hsz, hP, hK, hD0, hE⟩ := hv
  have hx := B.exec
  have hb := B.bytes
  have hr := B.returns
  have hts := atoms_spec (ws := v_c_maySend_1N) B.pre
  have hown : s.vm.findClass RX4 = some m.cls := findClass_of_methodNamed B.named
  have hlocks := B.notSynchronized
  subst hsz
  have hD := hD0
  generalize hAe : va_A [] s.heap.size = A
  have hA : ∀ q : Nat, s.heap.size ≤ q → A q := fun q h => by rw [← hAe]; exact Or.inr h
  have hS : va_S A s.heap s.heap [] := va_S.rf
  replace hP : va_P (dC, dI) vwCl [(nd, .inr (5, [.int nh, .int nl, .int nwa, .int nfr, .int (nI nwi), .ref r, .ref nt, .ref ns, .ref ib, .ref gs, .ref cs, .ref nu, .int 0, .int 2, .int (nI nad), .int (nI ncc), .int 0, .int 0])), (ns, .inr (7, [.int 1, .int snp, .int sdo, .null]))] s.heap := hP
  have hl := lv_entry ([.ref nd]) (n := 1) (Nat.le_of_ble_eq_true rfl)
  rw [lg_entry_eq]
  generalize (lg_sl ([.ref nd]) ++ List.replicate (1 - (lg_sl ([.ref nd])).length) Slot.unset).toArray = ls at hl ⊢
  replace hl : lv_has ls 1 [(0, .ref nd)] := hl
  obtain ⟨H, hH⟩ : ∃ z : Heap, z = s.heap := ⟨_, rfl⟩
  rw [← hH]
  replace hS : va_S A s.heap H [] := by rw [hH]; exact va_S.rf
  replace hP : va_P (dC, dI) vwCl [(nd, .inr (5, [.int nh, .int nl, .int nwa, .int nfr, .int (nI nwi), .ref r, .ref nt, .ref ns, .ref ib, .ref gs, .ref cs, .ref nu, .int 0, .int 2, .int (nI nad), .int (nI ncc), .int 0, .int 0])), (ns, .inr (7, [.int 1, .int snp, .int sdo, .null]))] H := by rw [hH]; exact hP
  clear hH
  refine lv_aload_n hx hb dX4_maySend_0 rfl (lv_at hl 0 rfl) ?_
  refine va_get (D := (dC, dI)) (ci := 5) (v := .int 2) (C := RX4) (T := TX4) (N := 18) hx hb hts in_c_maySend_1N_X4 hown hK hP 0 rfl rfl 13 (by decide) (hts (.fieldLink RX4 53 "ClaimBus$Node" "state" "I") (List.mem_of_getElem? (i := 1) rfl)) (fun _ h9 => h9) rfl dX4_maySend_1 ?_
  refine lv_iconst (v := 2) hx hb dX4_maySend_4 (by decide) ?_
  refine lv_icmp_ne (tgt := 23) hx hb dX4_maySend_5 (by decide) (fun c_1 => ?_) (fun c_1 => ?_)
  · exact absurd c_1 (by decide)
  refine lv_aload_n hx hb dX4_maySend_8 rfl (lv_at hl 0 rfl) ?_
  refine va_get (D := (dC, dI)) (ci := 5) (v := .ref ns) (C := RX4) (T := TX4) (N := 18) hx hb hts in_c_maySend_1N_X4 hown hK hP 0 rfl rfl 7 (by decide) (hts (.fieldLink RX4 21 "ClaimBus$Node" "sending" "LClaimBus$Sending;") (List.mem_of_getElem? (i := 2) rfl)) (fun _ h9 => h9) rfl dX4_maySend_9 ?_
  refine va_get (D := (dC, dI)) (ci := 7) (v := .int 1) (C := RX6) (T := TX6) (N := 4) hx hb hts in_c_maySend_1N_X6 hown hK hP 1 rfl rfl 0 (by decide) (hts (.fieldLink RX4 121 "ClaimBus$Sending" "state" "I") (List.mem_of_getElem? (i := 3) rfl)) (fun _ h9 => h9) rfl dX4_maySend_12 ?_
  refine lv_iconst (v := 1) hx hb dX4_maySend_15 (by decide) ?_
  refine lv_icmp_eq (tgt := 23) hx hb dX4_maySend_16 (by decide) (fun c_2 => ?_) (fun c_2 => ?_)
  rotate_left
  · exact absurd (by decide) c_2
  refine lv_iconst (v := 0) hx hb dX4_maySend_23 (by decide) ?_
  exact W.zret (v := 0) hx hb hr (by decide) (fun t ht hW => ⟨⟨0, (), rfl, rfl, trivial⟩, hS.F ht⟩) hS.2.2 dX4_maySend_24

noncomputable def tl_c_maySend_1 : List Cond := wsX40 ++ (wsX60)
noncomputable def v_c_maySend_1 : List Cond := .code yX4_maySend cX4_maySend 1 (some .boolean) :: ([.fieldLink RX4 53 "ClaimBus$Node" "state" "I", .fieldLink RX4 21 "ClaimBus$Node" "sending" "LClaimBus$Sending;", .fieldLink RX4 121 "ClaimBus$Sending" "state" "I"] ++ tl_c_maySend_1)
theorem it_c_maySend_1 : ∀ w ∈ tl_c_maySend_1, w ∈ v_c_maySend_1 := fun w h => List.mem_cons_of_mem _ (List.mem_append_right _ h)
theorem in_c_maySend_1_X4 : ∀ w ∈ wsX40, w ∈ v_c_maySend_1 := fun w h => it_c_maySend_1 w (List.mem_append_left _ h)
theorem in_c_maySend_1_X6 : ∀ w ∈ wsX60, w ∈ v_c_maySend_1 := fun w h => it_c_maySend_1 w (List.mem_append_right _ (h))
theorem gt_c_maySend_1 : ∀ w ∈ tl_c_maySend_1, goodWord w = true := List.forall_mem_append.mpr ⟨gw_wsX40, gw_wsX60⟩
theorem gw_c_maySend_1 : ∀ w ∈ v_c_maySend_1, goodWord w = true := List.forall_mem_cons.mpr ⟨by decide +kernel, List.forall_mem_append.mpr ⟨List.all_eq_true.mp (by decide +kernel), gt_c_maySend_1⟩⟩
set_option maxHeartbeats 4000000 in
set_option maxRecDepth 100000 in
theorem c_maySend_1 (l : Launch) (dC : Nat → ClassId) (dI : Nat → Nat → Nat) (nd : Nat) (nh : Int32) (nl : Int32) (nwa : Int32) (nfr : Int32) (nwi : Nat) (r : Nat) (nt : Nat) (ns : Nat) (ib : Nat) (gs : Nat) (cs : Nat) (nu : Nat) (nad : Nat) (ncc : Nat) (snp : Int32) (sdo : Int32) (mo : Nat) (sz : Nat)  : Met l yX4_maySend v_c_maySend_1 ({ frames := 0, cells := 0, slots := 0, locals := 0 }) (va_Pc [.ref nd] (fun U => U.heap.size = sz ∧ va_P (dC, dI) vwCl [(nd, .inr (5, [.int nh, .int nl, .int nwa, .int nfr, .int (nI nwi), .ref r, .ref nt, .ref ns, .ref ib, .ref gs, .ref cs, .ref nu, .int 0, .int 2, .int (nI nad), .int (nI ncc), .int 0, .int 0])), (ns, .inr (7, [.int 1, .int snp, .int sdo, .ref mo]))] U.heap ∧ va_K (dC, dI) vwCl [] U ∧ va_D (fun _ => True) [(nd, .inr (5, [.int nh, .int nl, .int nwa, .int nfr, .int (nI nwi), .ref r, .ref nt, .ref ns, .ref ib, .ref gs, .ref cs, .ref nu, .int 0, .int 2, .int (nI nad), .int (nI ncc), .int 0, .int 0])), (ns, .inr (7, [.int 1, .int snp, .int sdo, .ref mo]))] ∧ ev U)) (va_Qi (fun (r : Int32) (_ : Unit) => r = 0) (fun (_ : Unit) (_ : State) => True) (va_A [] sz)) 0 0 (va_A [] sz) := by
  refine Met.ofW (cc := cX4_maySend) (maxL := 1) (ret := (some .boolean)) (by decide) rfl ?_
  intro p e s m args below meth c s₁ B hml hv
  obtain ⟨rfl, hsz, hP, hK, hD0, hE⟩ := hv
  have hx := B.exec
  have hb := B.bytes
  have hr := B.returns
  have hts := atoms_spec (ws := v_c_maySend_1) B.pre
  have hown : s.vm.findClass RX4 = some m.cls := findClass_of_methodNamed B.named
  have hlocks := B.notSynchronized
  subst hsz
  have hD := hD0
  generalize hAe : va_A [] s.heap.size = A
  have hA : ∀ q : Nat, s.heap.size ≤ q → A q := fun q h => by rw [← hAe]; exact Or.inr h
  have hS : va_S A s.heap s.heap [] := va_S.rf
  replace hP : va_P (dC, dI) vwCl [(nd, .inr (5, [.int nh, .int nl, .int nwa, .int nfr, .int (nI nwi), .ref r, .ref nt, .ref ns, .ref ib, .ref gs, .ref cs, .ref nu, .int 0, .int 2, .int (nI nad), .int (nI ncc), .int 0, .int 0])), (ns, .inr (7, [.int 1, .int snp, .int sdo, .ref mo]))] s.heap := hP
  have hl := lv_entry ([.ref nd]) (n := 1) (Nat.le_of_ble_eq_true rfl)
  rw [lg_entry_eq]
  generalize (lg_sl ([.ref nd]) ++ List.replicate (1 - (lg_sl ([.ref nd])).length) Slot.unset).toArray = ls at hl ⊢
  replace hl : lv_has ls 1 [(0, .ref nd)] := hl
  obtain ⟨H, hH⟩ : ∃ z : Heap, z = s.heap := ⟨_, rfl⟩
  rw [← hH]
  replace hS : va_S A s.heap H [] := by rw [hH]; exact va_S.rf
  replace hP : va_P (dC, dI) vwCl [(nd, .inr (5, [.int nh, .int nl, .int nwa, .int nfr, .int (nI nwi), .ref r, .ref nt, .ref ns, .ref ib, .ref gs, .ref cs, .ref nu, .int 0, .int 2, .int (nI nad), .int (nI ncc), .int 0, .int 0])), (ns, .inr (7, [.int 1, .int snp, .int sdo, .ref mo]))] H := by rw [hH]; exact hP
  clear hH
  refine lv_aload_n hx hb dX4_maySend_0 rfl (lv_at hl 0 rfl) ?_
  refine va_get (D := (dC, dI)) (ci := 5) (v := .int 2) (C := RX4) (T := TX4) (N := 18) hx hb hts in_c_maySend_1_X4 hown hK hP 0 rfl rfl 13 (by decide) (hts (.fieldLink RX4 53 "ClaimBus$Node" "state" "I") (List.mem_of_getElem? (i := 1) rfl)) (fun _ h9 => h9) rfl dX4_maySend_1 ?_
  refine lv_iconst (v := 2) hx hb dX4_maySend_4 (by decide) ?_
  refine lv_icmp_ne (tgt := 23) hx hb dX4_maySend_5 (by decide) (fun c_1 => ?_) (fun c_1 => ?_)
  · exact absurd c_1 (by decide)
  refine lv_aload_n hx hb dX4_maySend_8 rfl (lv_at hl 0 rfl) ?_
  refine va_get (D := (dC, dI)) (ci := 5) (v := .ref ns) (C := RX4) (T := TX4) (N := 18) hx hb hts in_c_maySend_1_X4 hown hK hP 0 rfl rfl 7 (by decide) (hts (.fieldLink RX4 21 "ClaimBus$Node" "sending" "LClaimBus$Sending;") (List.mem_of_getElem? (i := 2) rfl)) (fun _ h9 => h9) rfl dX4_maySend_9 ?_
  refine va_get (D := (dC, dI)) (ci := 7) (v := .int 1) (C := RX6) (T := TX6) (N := 4) hx hb hts in_c_maySend_1_X6 hown hK hP 1 rfl rfl 0 (by decide) (hts (.fieldLink RX4 121 "ClaimBus$Sending" "state" "I") (List.mem_of_getElem? (i := 3) rfl)) (fun _ h9 => h9) rfl dX4_maySend_12 ?_
  refine lv_iconst (v := 1) hx hb dX4_maySend_15 (by decide) ?_
  refine lv_icmp_eq (tgt := 23) hx hb dX4_maySend_16 (by decide) (fun c_2 => ?_) (fun c_2 => ?_)
  rotate_left
  · exact absurd (by decide) c_2
  refine lv_iconst (v := 0) hx hb dX4_maySend_23 (by decide) ?_
  exact W.zret (v := 0) hx hb hr (by decide) (fun t ht hW => ⟨⟨0, (), rfl, rfl, trivial⟩, hS.F ht⟩) hS.2.2 dX4_maySend_24

noncomputable def tl_c_beginSending_one_nN : List Cond := wsX40 ++ (wsX60 ++ (wsX30 ++ (v_c_put_n)))
noncomputable def v_c_beginSending_one_nN : List Cond := .code yX4_beginSending cX4_beginSending 3 none :: ([.fieldLink RX4 21 "ClaimBus$Node" "sending" "LClaimBus$Sending;", .fieldLink RX4 122 "ClaimBus$Sending" "whole" "LClaimBus$Message;", .fieldLink RX4 126 "ClaimBus$Sending" "nextPacket" "I", .fieldLink RX4 129 "ClaimBus$Message" "size" "I", .fieldLink RX4 133 "ClaimBus$Message" "to" "I", .fieldLink RX4 89 "ClaimBus$Node" "row" "LClaimBus$Row;", .fieldLink RX4 78 "ClaimBus$Node" "window" "I", .initialized RX5, .methodLink RX4 136 yX5_put, .instanceMethod yX5_put, .selects RX5 yX5_put yX5_put, .fieldLink RX4 140 "ClaimBus$Sending" "due" "I", .fieldLink RX4 121 "ClaimBus$Sending" "state" "I"] ++ tl_c_beginSending_one_nN)
theorem it_c_beginSending_one_nN : ∀ w ∈ tl_c_beginSending_one_nN, w ∈ v_c_beginSending_one_nN := fun w h => List.mem_cons_of_mem _ (List.mem_append_right _ h)
theorem in_c_beginSending_one_nN_X4 : ∀ w ∈ wsX40, w ∈ v_c_beginSending_one_nN := fun w h => it_c_beginSending_one_nN w (List.mem_append_left _ h)
theorem in_c_beginSending_one_nN_X6 : ∀ w ∈ wsX60, w ∈ v_c_beginSending_one_nN := fun w h => it_c_beginSending_one_nN w (List.mem_append_right _ (List.mem_append_left _ h))
theorem in_c_beginSending_one_nN_X3 : ∀ w ∈ wsX30, w ∈ v_c_beginSending_one_nN := fun w h => it_c_beginSending_one_nN w (List.mem_append_right _ (List.mem_append_right _ (List.mem_append_left _ h)))
theorem ic_c_beginSending_one_nN_c_put_n : ∀ w ∈ v_c_put_n, w ∈ v_c_beginSending_one_nN := fun w h => it_c_beginSending_one_nN w (List.mem_append_right _ (List.mem_append_right _ (List.mem_append_right _ (h))))
theorem gt_c_beginSending_one_nN : ∀ w ∈ tl_c_beginSending_one_nN, goodWord w = true := List.forall_mem_append.mpr ⟨gw_wsX40, List.forall_mem_append.mpr ⟨gw_wsX60, List.forall_mem_append.mpr ⟨gw_wsX30, gw_c_put_n⟩⟩⟩
theorem gw_c_beginSending_one_nN : ∀ w ∈ v_c_beginSending_one_nN, goodWord w = true := List.forall_mem_cons.mpr ⟨by decide +kernel, List.forall_mem_append.mpr ⟨List.all_eq_true.mp (by decide +kernel), gt_c_beginSending_one_nN⟩⟩
theorem g_c_beginSending_one_nN_c_put_n_136 : GoodIn v_c_beginSending_one_nN (wsV RX4 136 RX5 yX5_put v_c_put_n) := goodIn_app (goodIn_r [.methodLink RX4 136 yX5_put, .instanceMethod yX5_put, .selects RX5 yX5_put yX5_put, .initialized RX5] [9, 10, 11, 8] (by decide +kernel) (by decide +kernel)) (fun w h => ⟨ic_c_beginSending_one_nN_c_put_n w h, good_of_word (gw_c_put_n w h)⟩)
set_option maxHeartbeats 4000000 in
set_option maxRecDepth 100000 in
/-- Node.beginSending -/
theorem c_beginSending_one_nN (l : Launch) (dC : Nat → ClassId) (dI : Nat → Nat → Nat) (nd : Nat) (nh : Int32) (nl : Int32) (nwa : Int32) (nfr : Int32) (nwi : Nat) (r : Nat) (nt : Nat) (ns : Nat) (ib : Nat) (gs : Nat) (cs : Nat) (nu : Nat) (nad : Nat) (ncc : Nat) (rh : Int32) (rl : Int32) (st : Nat) (rf : Nat) (hp : Int32) (tp : Int32) (ml : Nat) (mm : Nat) (mi : Nat) (mt : Nat) (mg : Nat) (ms : Nat) (sd : Int32) (sst : Int32) (snp : Int32) (sdo : Int32) (tm : Nat) (sz : Nat) (hmi : mi < 8) (hmt : mt < 256) (hmg : mg < 262144) (hms : ms < 1786) (hmt2 : mt ≠ 255) (hms1 : 9 ≤ ms) (hwi : nwi < 17) (htm : tm < 200000) : Met l yX4_beginSending v_c_beginSending_one_nN ({ frames := 3, cells := 2, slots := 130, locals := 60 }) (va_Pc [.ref nd, .ref mm, .int (nI tm)] (fun U => U.heap.size = sz ∧ va_P (dC, dI) vwCl [(nd, .inr (5, [.int nh, .int nl, .int nwa, .int nfr, .int (nI nwi), .ref r, .ref nt, .ref ns, .ref ib, .ref gs, .ref cs, .ref nu, .int 0, .int 2, .int (nI nad), .int (nI ncc), .int 0, .int 0])), (ns, .inr (7, [.int sst, .int snp, .int sdo, .null])), (mm, .inr (4, [.int (nI mi), .int (nI mt), .int (nI mg), .int (nI ms), .int sd, .null])), (r, .inr (6, [.int rh, .int rl, .ref st, .null, .null, .int hp, .int tp, .int 0, .int 0, .int 0, .ref rf, .int 0])), (st, .inr (8, [.ref ml, .null]))] U.heap ∧ va_K (dC, dI) vwCl [] U ∧ va_D (fun _ => True) [(nd, .inr (5, [.int nh, .int nl, .int nwa, .int nfr, .int (nI nwi), .ref r, .ref nt, .ref ns, .ref ib, .ref gs, .ref cs, .ref nu, .int 0, .int 2, .int (nI nad), .int (nI ncc), .int 0, .int 0])), (ns, .inr (7, [.int sst, .int snp, .int sdo, .null])), (mm, .inr (4, [.int (nI mi), .int (nI mt), .int (nI mg), .int (nI ms), .int sd, .null])), (r, .inr (6, [.int rh, .int rl, .ref st, .null, .null, .int hp, .int tp, .int 0, .int 0, .int 0, .ref rf, .int 0])), (st, .inr (8, [.ref ml, .null]))] ∧ ev U)) (va_Qv (fun _ : Unit => True) (fun (_ : Unit) (t : State) => ∃ (ck : Nat) (ce : Nat) (cJ : ClassId) (fE2 : Nat → Int64), va_P (dC, dI) vwCl [(nd, .inr (5, [.int nh, .int nl, .int nwa, .int nfr, .int (nI nwi), .ref r, .ref nt, .ref ns, .ref ib, .ref gs, .ref cs, .ref nu, .int 0, .int 2, .int (nI nad), .int (nI ncc), .int 0, .int 0])), (ns, .inr (7, [.int 1, .int 1, .int (nI (tm + 1250)), .ref mm])), (mm, .inr (4, [.int (nI mi), .int (nI mt), .int (nI mg), .int (nI ms), .int sd, .null])), (r, .inr (6, [.int rh, .int rl, .ref st, .ref ck, .ref ck, .int 0, .int 1, .int 1, .int 0, .int 0, .ref rf, .int 0])), (st, .inr (8, [.ref ml, .null])), (ck, .inr (1, [.ref ce, .null])), (ce, .inl (cJ, 128, .inr (.inl fE2)))] t.heap ∧ va_K (dC, dI) vwCl [(cJ, .long)] t ∧ va_D (va_A [(nd, .inr (5, [.int nh, .int nl, .int nwa, .int nfr, .int (nI nwi), .ref r, .ref nt, .ref ns, .ref ib, .ref gs, .ref cs, .ref nu, .int 0, .int 2, .int (nI nad), .int (nI ncc), .int 0, .int 0])), (ns, .inr (7, [.int sst, .int snp, .int sdo, .null])), (mm, .inr (4, [.int (nI mi), .int (nI mt), .int (nI mg), .int (nI ms), .int sd, .null])), (r, .inr (6, [.int rh, .int rl, .ref st, .null, .null, .int hp, .int tp, .int 0, .int 0, .int 0, .ref rf, .int 0])), (st, .inr (8, [.ref ml, .null]))] sz) [(nd, .inr (5, [.int nh, .int nl, .int nwa, .int nfr, .int (nI nwi), .ref r, .ref nt, .ref ns, .ref ib, .ref gs, .ref cs, .ref nu, .int 0, .int 2, .int (nI nad), .int (nI ncc), .int 0, .int 0])), (ns, .inr (7, [.int 1, .int 1, .int (nI (tm + 1250)), .ref mm])), (mm, .inr (4, [.int (nI mi), .int (nI mt), .int (nI mg), .int (nI ms), .int sd, .null])), (r, .inr (6, [.int rh, .int rl, .ref st, .ref ck, .ref ck, .int 0, .int 1, .int 1, .int 0, .int 0, .ref rf, .int 0])), (st, .inr (8, [.ref ml, .null])), (ck, .inr (1, [.ref ce, .null])), (ce, .inl (cJ, 128, .inr (.inl fE2)))] ∧ ((fE2 0).toInt32 = (nI (16777216 * mt + 65536 * 16 + 256 * nwi + 0))) ∧ ((fE2 0 >>> ((32 : Int32).toInt64 &&& 63)).toInt32 = (nI mi))) (va_A [(nd, .inr (5, [.int nh, .int nl, .int nwa, .int nfr, .int (nI nwi), .ref r, .ref nt, .ref ns, .ref ib, .ref gs, .ref cs, .ref nu, .int 0, .int 2, .int (nI nad), .int (nI ncc), .int 0, .int 0])), (ns, .inr (7, [.int sst, .int snp, .int sdo, .null])), (mm, .inr (4, [.int (nI mi), .int (nI mt), .int (nI mg), .int (nI ms), .int sd, .null])), (r, .inr (6, [.int rh, .int rl, .ref st, .null, .null, .int hp, .int tp, .int 0, .int 0, .int 0, .ref rf, .int 0])), (st, .inr (8, [.ref ml, .null]))] sz)) 2 130 (va_A [(nd, .inr (5, [.int nh, .int nl, .int nwa, .int nfr, .int (nI nwi), .ref r, .ref nt, .ref ns, .ref ib, .ref gs, .ref cs, .ref nu, .int 0, .int 2, .int (nI nad), .int (nI ncc), .int 0, .int 0])), (ns, .inr (7, [.int sst, .int snp, .int sdo, .null])), (mm, .inr (4, [.int (nI mi), .int (nI mt), .int (nI mg), .int (nI ms), .int sd, .null])), (r, .inr (6, [.int rh, .int rl, .ref st, .null, .null, .int hp, .int tp, .int 0, .int 0, .int 0, .ref rf, .int 0])), (st, .inr (8, [.ref ml, .null]))] sz) := by
  refine Met.ofW (cc := cX4_beginSending) (maxL := 3) (ret := none) (by decide) rfl ?_
  intro p e s m args below meth c s₁ B hml hv
  obtain ⟨rfl, hsz, hP, hK, hD0, hE⟩ := hv
  have hx := B.exec
  have hb := B.bytes
  have hr := B.returns
  have hts := atoms_spec (ws := v_c_beginSending_one_nN) B.pre
  have hown : s.vm.findClass RX4 = some m.cls := findClass_of_methodNamed B.named
  have hlocks := B.notSynchronized
  subst hsz
  have hD := hD0.self (sz := s.heap.size)
  generalize hAe : va_A [(nd, .inr (5, [.int nh, .int nl, .int nwa, .int nfr, .int (nI nwi), .ref r, .ref nt, .ref ns, .ref ib, .ref gs, .ref cs, .ref nu, .int 0, .int 2, .int (nI nad), .int (nI ncc), .int 0, .int 0])), (ns, .inr (7, [.int sst, .int snp, .int sdo, .null])), (mm, .inr (4, [.int (nI mi), .int (nI mt), .int (nI mg), .int (nI ms), .int sd, .null])), (r, .inr (6, [.int rh, .int rl, .ref st, .null, .null, .int hp, .int tp, .int 0, .int 0, .int 0, .ref rf, .int 0])), (st, .inr (8, [.ref ml, .null]))] s.heap.size = A at hD ⊢
  have hA : ∀ q : Nat, s.heap.size ≤ q → A q := fun q h => by rw [← hAe]; exact Or.inr h
  have hS : va_S A s.heap s.heap [] := va_S.rf
  replace hP : va_P (dC, dI) vwCl [(nd, .inr (5, [.int nh, .int nl, .int nwa, .int nfr, .int (nI nwi), .ref r, .ref nt, .ref ns, .ref ib, .ref gs, .ref cs, .ref nu, .int 0, .int 2, .int (nI nad), .int (nI ncc), .int 0, .int 0])), (ns, .inr (7, [.int sst, .int snp, .int sdo, .null])), (mm, .inr (4, [.int (nI mi), .int (nI mt), .int (nI mg), .int (nI ms), .int sd, .null])), (r, .inr (6, [.int rh, .int rl, .ref st, .null, .null, .int hp, .int tp, .int 0, .int 0, .int 0, .ref rf, .int 0])), (st, .inr (8, [.ref ml, .null]))] s.heap := hP
  have hl := lv_entry ([.ref nd, .ref mm, .int (nI tm)]) (n := 3) (Nat.le_of_ble_eq_true rfl)
  rw [lg_entry_eq]
  generalize (lg_sl ([.ref nd, .ref mm, .int (nI tm)]) ++ List.replicate (3 - (lg_sl ([.ref nd, .ref mm, .int (nI tm)])).length) Slot.unset).toArray = ls at hl ⊢
  replace hl : lv_has ls 3 [(0, .ref nd), (1, .ref mm), (2, .int (nI tm))] := hl
  obtain ⟨H, hH⟩ : ∃ z : Heap, z = s.heap := ⟨_, rfl⟩
  rw [← hH]
  replace hS : va_S A s.heap H [] := by rw [hH]; exact va_S.rf
  replace hP : va_P (dC, dI) vwCl [(nd, .inr (5, [.int nh, .int nl, .int nwa, .int nfr, .int (nI nwi), .ref r, .ref nt, .ref ns, .ref ib, .ref gs, .ref cs, .ref nu, .int 0, .int 2, .int (nI nad), .int (nI ncc), .int 0, .int 0])), (ns, .inr (7, [.int sst, .int snp, .int sdo, .null])), (mm, .inr (4, [.int (nI mi), .int (nI mt), .int (nI mg), .int (nI ms), .int sd, .null])), (r, .inr (6, [.int rh, .int rl, .ref st, .null, .null, .int hp, .int tp, .int 0, .int 0, .int 0, .ref rf, .int 0])), (st, .inr (8, [.ref ml, .null]))] H := by rw [hH]; exact hP
  clear hH
  refine lv_aload_n hx hb dX4_beginSending_0 rfl (lv_at hl 0 rfl) ?_
  refine va_get (D := (dC, dI)) (ci := 5) (v := .ref ns) (C := RX4) (T := TX4) (N := 18) hx hb hts in_c_beginSending_one_nN_X4 hown hK hP 0 rfl rfl 7 (by decide) (hts (.fieldLink RX4 21 "ClaimBus$Node" "sending" "LClaimBus$Sending;") (List.mem_of_getElem? (i := 1) rfl)) (fun _ h9 => h9) rfl dX4_beginSending_1 ?_
  refine lv_aload_n hx hb dX4_beginSending_4 rfl (lv_at hl 1 rfl) ?_
  refine va_put (D := (dC, dI)) (ci := 7) (v := .ref mm) (ty := (.object "ClaimBus$Message")) (C := RX6) (T := TX6) (N := 4) hx hb hts in_c_beginSending_one_nN_X6 tyX6 tyX6_ok nmX6 hown hK hP hD hS 1 rfl rfl 3 (by decide) (hts (.fieldLink RX4 122 "ClaimBus$Sending" "whole" "LClaimBus$Message;") (List.mem_of_getElem? (i := 2) rfl)) (fun _ h9 => h9) rfl (by decide +kernel) rfl rfl (Nat.le_of_ble_eq_true rfl) dX4_beginSending_5 (fun H locs hP hD hS => ?_)
  replace hP : va_P (dC, dI) vwCl [(nd, .inr (5, [.int nh, .int nl, .int nwa, .int nfr, .int (nI nwi), .ref r, .ref nt, .ref ns, .ref ib, .ref gs, .ref cs, .ref nu, .int 0, .int 2, .int (nI nad), .int (nI ncc), .int 0, .int 0])), (ns, .inr (7, [.int sst, .int snp, .int sdo, .ref mm])), (mm, .inr (4, [.int (nI mi), .int (nI mt), .int (nI mg), .int (nI ms), .int sd, .null])), (r, .inr (6, [.int rh, .int rl, .ref st, .null, .null, .int hp, .int tp, .int 0, .int 0, .int 0, .ref rf, .int 0])), (st, .inr (8, [.ref ml, .null]))] H := hP
  replace hD : va_D A [(nd, .inr (5, [.int nh, .int nl, .int nwa, .int nfr, .int (nI nwi), .ref r, .ref nt, .ref ns, .ref ib, .ref gs, .ref cs, .ref nu, .int 0, .int 2, .int (nI nad), .int (nI ncc), .int 0, .int 0])), (ns, .inr (7, [.int sst, .int snp, .int sdo, .ref mm])), (mm, .inr (4, [.int (nI mi), .int (nI mt), .int (nI mg), .int (nI ms), .int sd, .null])), (r, .inr (6, [.int rh, .int rl, .ref st, .null, .null, .int hp, .int tp, .int 0, .int 0, .int 0, .ref rf, .int 0])), (st, .inr (8, [.ref ml, .null]))] := hD
  refine lv_aload_n hx hb dX4_beginSending_8 rfl (lv_at hl 0 rfl) ?_
  refine va_get (D := (dC, dI)) (ci := 5) (v := .ref ns) (C := RX4) (T := TX4) (N := 18) hx hb hts in_c_beginSending_one_nN_X4 hown hK hP 0 rfl rfl 7 (by decide) (hts (.fieldLink RX4 21 "ClaimBus$Node" "sending" "LClaimBus$Sending;") (List.mem_of_getElem? (i := 1) rfl)) (fun _ h9 => h9) rfl dX4_beginSending_9 ?_
  refine lv_iconst (v := 1) hx hb dX4_beginSending_12 (by decide) ?_
  refine va_put (D := (dC, dI)) (ci := 7) (v := .int 1) (ty := .int) (C := RX6) (T := TX6) (N := 4) hx hb hts in_c_beginSending_one_nN_X6 tyX6 tyX6_ok nmX6 hown hK hP hD hS 1 rfl rfl 1 (by decide) (hts (.fieldLink RX4 126 "ClaimBus$Sending" "nextPacket" "I") (List.mem_of_getElem? (i := 3) rfl)) (fun _ h9 => h9) rfl (by decide +kernel) rfl rfl (Nat.le_of_ble_eq_true rfl) dX4_beginSending_13 (fun H locs hP hD hS => ?_)
  replace hP : va_P (dC, dI) vwCl [(nd, .inr (5, [.int nh, .int nl, .int nwa, .int nfr, .int (nI nwi), .ref r, .ref nt, .ref ns, .ref ib, .ref gs, .ref cs, .ref nu, .int 0, .int 2, .int (nI nad), .int (nI ncc), .int 0, .int 0])), (ns, .inr (7, [.int sst, .int 1, .int sdo, .ref mm])), (mm, .inr (4, [.int (nI mi), .int (nI mt), .int (nI mg), .int (nI ms), .int sd, .null])), (r, .inr (6, [.int rh, .int rl, .ref st, .null, .null, .int hp, .int tp, .int 0, .int 0, .int 0, .ref rf, .int 0])), (st, .inr (8, [.ref ml, .null]))] H := hP
  replace hD : va_D A [(nd, .inr (5, [.int nh, .int nl, .int nwa, .int nfr, .int (nI nwi), .ref r, .ref nt, .ref ns, .ref ib, .ref gs, .ref cs, .ref nu, .int 0, .int 2, .int (nI nad), .int (nI ncc), .int 0, .int 0])), (ns, .inr (7, [.int sst, .int 1, .int sdo, .ref mm])), (mm, .inr (4, [.int (nI mi), .int (nI mt), .int (nI mg), .int (nI ms), .int sd, .null])), (r, .inr (6, [.int rh, .int rl, .ref st, .null, .null, .int hp, .int tp, .int 0, .int 0, .int 0, .ref rf, .int 0])), (st, .inr (8, [.ref ml, .null]))] := hD
  refine lv_aload_n hx hb dX4_beginSending_16 rfl (lv_at hl 1 rfl) ?_
  refine va_get (D := (dC, dI)) (ci := 4) (v := .int (nI ms)) (C := RX3) (T := TX3) (N := 6) hx hb hts in_c_beginSending_one_nN_X3 hown hK hP 2 rfl rfl 3 (by decide) (hts (.fieldLink RX4 129 "ClaimBus$Message" "size" "I") (List.mem_of_getElem? (i := 4) rfl)) (fun _ h9 => h9) rfl dX4_beginSending_17 ?_
  refine lv_bipush (v := 8) hx hb dX4_beginSending_20 (by decide) ?_
  refine lv_icmp_gt (tgt := 49) hx hb dX4_beginSending_22 (by decide) (fun c_1 => ?_) (fun c_1 => ?_)
  rotate_left
  · exact absurd ((nI_ltI (a := 8) (b := ms) (by omega) (by omega)).mpr (by omega)) c_1
  refine lv_aload_n hx hb dX4_beginSending_49 rfl (lv_at hl 1 rfl) ?_
  refine va_get (D := (dC, dI)) (ci := 4) (v := .int (nI mt)) (C := RX3) (T := TX3) (N := 6) hx hb hts in_c_beginSending_one_nN_X3 hown hK hP 2 rfl rfl 1 (by decide) (hts (.fieldLink RX4 133 "ClaimBus$Message" "to" "I") (List.mem_of_getElem? (i := 5) rfl)) (fun _ h9 => h9) rfl dX4_beginSending_50 ?_
  refine lv_sipush (v := 255) hx hb dX4_beginSending_53 (by decide) ?_
  refine lv_icmp_ne (tgt := 90) hx hb dX4_beginSending_56 (by decide) (fun c_2 => ?_) (fun c_2 => ?_)
  rotate_left
  · exact absurd ((nI_eq (a := mt) (b := 255) (by omega) (by omega)).mp c_2) (by omega)
  refine lv_aload_n hx hb dX4_beginSending_90 rfl (lv_at hl 0 rfl) ?_
  refine va_get (D := (dC, dI)) (ci := 5) (v := .ref r) (C := RX4) (T := TX4) (N := 18) hx hb hts in_c_beginSending_one_nN_X4 hown hK hP 0 rfl rfl 5 (by decide) (hts (.fieldLink RX4 89 "ClaimBus$Node" "row" "LClaimBus$Row;") (List.mem_of_getElem? (i := 6) rfl)) (fun _ h9 => h9) rfl dX4_beginSending_91 ?_
  refine lv_aload_n hx hb dX4_beginSending_94 rfl (lv_at hl 1 rfl) ?_
  refine lv_aload_n hx hb dX4_beginSending_95 rfl (lv_at hl 1 rfl) ?_
  refine va_get (D := (dC, dI)) (ci := 4) (v := .int (nI mt)) (C := RX3) (T := TX3) (N := 6) hx hb hts in_c_beginSending_one_nN_X3 hown hK hP 2 rfl rfl 1 (by decide) (hts (.fieldLink RX4 133 "ClaimBus$Message" "to" "I") (List.mem_of_getElem? (i := 5) rfl)) (fun _ h9 => h9) rfl dX4_beginSending_96 ?_
  refine lv_bipush (v := 16) hx hb dX4_beginSending_99 (by decide) ?_
  refine lv_aload_n hx hb dX4_beginSending_101 rfl (lv_at hl 0 rfl) ?_
  refine va_get (D := (dC, dI)) (ci := 5) (v := .int (nI nwi)) (C := RX4) (T := TX4) (N := 18) hx hb hts in_c_beginSending_one_nN_X4 hown hK hP 0 rfl rfl 4 (by decide) (hts (.fieldLink RX4 78 "ClaimBus$Node" "window" "I") (List.mem_of_getElem? (i := 7) rfl)) (fun _ h9 => h9) rfl dX4_beginSending_102 ?_
  refine lv_iconst (v := 0) hx hb dX4_beginSending_105 (by decide) ?_
  have hPc := hP.sub (ws' := [(r, .inr (6, [.int rh, .int rl, .ref st, .null, .null, .int hp, .int tp, .int 0, .int 0, .int 0, .ref rf, .int 0])), (st, .inr (8, [.ref ml, .null])), (mm, .inr (4, [.int (nI mi), .int (nI mt), .int (nI mg), .int (nI ms), .int sd, .null]))]) [3, 4, 2] rfl
  have hDc := hD.sub (ws' := [(r, .inr (6, [.int rh, .int rl, .ref st, .null, .null, .int hp, .int tp, .int 0, .int 0, .int 0, .ref rf, .int 0])), (st, .inr (8, [.ref ml, .null])), (mm, .inr (4, [.int (nI mi), .int (nI mt), .int (nI mg), .int (nI ms), .int sd, .null]))]) [3, 4, 2] (by decide +kernel) rfl
  have hKc := hK.sub (tys' := []) [] rfl
  have hFc := va_free (wc := [(r, .inr (6, [.int rh, .int rl, .ref st, .null, .null, .int hp, .int tp, .int 0, .int 0, .int 0, .ref rf, .int 0])), (st, .inr (8, [.ref ml, .null])), (mm, .inr (4, [.int (nI mi), .int (nI mt), .int (nI mg), .int (nI ms), .int sd, .null]))]) hD hS hA [3, 4, 2] rfl
  refine va_callv (va_runV (As := [.ref mm, .int (nI mt), .int 16, .int (nI nwi), .int 0]) (rest := []) ⟨hx, hb, hml, hown, hts⟩ (c_put_n l dC dI (r) (rh) (rl) (st) (rf) (hp) (tp) (ml) (mm) (mi) (mt) (mg) (ms) (sd) (mt) (16) (nwi) (0) H.size hmt (by omega) (by omega) (by omega) hmi (by omega)) (cwV 5 hts g_c_beginSending_one_nN_c_put_n_136 rfl rfl rfl (by decide +kernel) ⟨Nat.le_of_ble_eq_true rfl, Nat.le_of_ble_eq_true rfl⟩) ⟨fun a U g mk q => by obtain ⟨q0, q1, qP, qK, qD, qE⟩ := q; exact ⟨q0, q1, qP, va_K.moved (u := U) (U := U.calling g mk a) (Vm.Alike.refl U.vm) qK, qD, ev.same (u := U) (U := U.calling g mk a) rfl qE⟩, va_recv hKc hPc (ci := 6) (q0 := 0) rfl rfl, fun U hU hW => ⟨rfl, by rw [hU], by rw [hU]; exact hPc, va_K.moved hW.alike hKc, hDc.weaken (fun _ _ _ _ => trivial), hE.warm hW⟩⟩ rfl rfl hl.1 rfl (lv_room (Nat.le_of_ble_eq_true rfl)) dX4_beginSending_106 ⟨Nat.le_of_ble_eq_true rfl, Nat.le_of_ble_eq_true rfl⟩) hS (fun q _ h => hFc q h) hFc (fun u t H1 locs ht hvm hw hB hz1 hk1 hS => ?_)
  clear hPc hDc hKc
  obtain ⟨ck_3, ce_3, cJ_3, fE2_3, hP1, hK1, hD1, hlo_3, hhi_3⟩ := hB
  rw [ht] at hP1
  have hK1 := va_K.moved hvm.symm hK1
  obtain ⟨hP, hD⟩ := va_join (wr := [(nd, .inr (5, [.int nh, .int nl, .int nwa, .int nfr, .int (nI nwi), .ref r, .ref nt, .ref ns, .ref ib, .ref gs, .ref cs, .ref nu, .int 0, .int 2, .int (nI nad), .int (nI ncc), .int 0, .int 0])), (ns, .inr (7, [.int sst, .int 1, .int sdo, .ref mm]))]) (w1 := [(r, .inr (6, [.int rh, .int rl, .ref st, .ref ck_3, .ref ck_3, .int 0, .int 1, .int 1, .int 0, .int 0, .ref rf, .int 0])), (st, .inr (8, [.ref ml, .null])), (ck_3, .inr (1, [.ref ce_3, .null])), (ce_3, .inl (cJ_3, 128, .inr (.inl fE2_3))), (mm, .inr (4, [.int (nI mi), .int (nI mt), .int (nI mg), .int (nI ms), .int sd, .null]))]) hP hD [3, 4, 2] [0, 1] rfl rfl (by decide +kernel) (by decide +kernel) hk1 hFc hP1 hD1
  replace hK := hK.app hK1
  replace hK : va_K (dC, dI) vwCl [(cJ_3, .long)] s := hK
  generalize H1 = H at hP hS ⊢
  replace hP : va_P (dC, dI) vwCl [(nd, .inr (5, [.int nh, .int nl, .int nwa, .int nfr, .int (nI nwi), .ref r, .ref nt, .ref ns, .ref ib, .ref gs, .ref cs, .ref nu, .int 0, .int 2, .int (nI nad), .int (nI ncc), .int 0, .int 0])), (ns, .inr (7, [.int sst, .int 1, .int sdo, .ref mm])), (r, .inr (6, [.int rh, .int rl, .ref st, .ref ck_3, .ref ck_3, .int 0, .int 1, .int 1, .int 0, .int 0, .ref rf, .int 0])), (st, .inr (8, [.ref ml, .null])), (ck_3, .inr (1, [.ref ce_3, .null])), (ce_3, .inl (cJ_3, 128, .inr (.inl fE2_3))), (mm, .inr (4, [.int (nI mi), .int (nI mt), .int (nI mg), .int (nI ms), .int sd, .null]))] H := hP
  replace hD : va_D A [(nd, .inr (5, [.int nh, .int nl, .int nwa, .int nfr, .int (nI nwi), .ref r, .ref nt, .ref ns, .ref ib, .ref gs, .ref cs, .ref nu, .int 0, .int 2, .int (nI nad), .int (nI ncc), .int 0, .int 0])), (ns, .inr (7, [.int sst, .int 1, .int sdo, .ref mm])), (r, .inr (6, [.int rh, .int rl, .ref st, .ref ck_3, .ref ck_3, .int 0, .int 1, .int 1, .int 0, .int 0, .ref rf, .int 0])), (st, .inr (8, [.ref ml, .null])), (ck_3, .inr (1, [.ref ce_3, .null])), (ce_3, .inl (cJ_3, 128, .inr (.inl fE2_3))), (mm, .inr (4, [.int (nI mi), .int (nI mt), .int (nI mg), .int (nI ms), .int sd, .null]))] := hD
  refine W.widen (k := 2) (n := 130) (Nat.le_of_ble_eq_true rfl) (Nat.le_of_ble_eq_true rfl) ?_
  clear hw
  refine lv_aload_n hx hb dX4_beginSending_109 rfl (lv_at hl 0 rfl) ?_
  refine va_get (D := (dC, dI)) (ci := 5) (v := .ref ns) (C := RX4) (T := TX4) (N := 18) hx hb hts in_c_beginSending_one_nN_X4 hown hK hP 0 rfl rfl 7 (by decide) (hts (.fieldLink RX4 21 "ClaimBus$Node" "sending" "LClaimBus$Sending;") (List.mem_of_getElem? (i := 1) rfl)) (fun _ h9 => h9) rfl dX4_beginSending_110 ?_
  refine lv_iload_n hx hb dX4_beginSending_113 rfl (lv_at hl 2 rfl) ?_
  refine lv_sipush (v := 1250) hx hb dX4_beginSending_114 (by decide) ?_
  refine lv_iadd hx hb dX4_beginSending_117 ?_
  refine lv_topi (fun x_4 ex_4 => ?_)
  obtain rfl : x_4 = (nI (tm + 1250)) := ex_4.trans ((nI_add tm 1250).trans (show nI (tm + 1250) = nI (tm + 1250) from congrArg nI (by omega)))
  refine va_put (D := (dC, dI)) (ci := 7) (v := .int (nI (tm + 1250))) (ty := .int) (C := RX6) (T := TX6) (N := 4) hx hb hts in_c_beginSending_one_nN_X6 tyX6 tyX6_ok nmX6 hown hK hP hD hS 1 rfl rfl 2 (by decide) (hts (.fieldLink RX4 140 "ClaimBus$Sending" "due" "I") (List.mem_of_getElem? (i := 12) rfl)) (fun _ h9 => h9) rfl (by decide +kernel) rfl rfl (Nat.le_of_ble_eq_true rfl) dX4_beginSending_118 (fun H locs hP hD hS => ?_)
  replace hP : va_P (dC, dI) vwCl [(nd, .inr (5, [.int nh, .int nl, .int nwa, .int nfr, .int (nI nwi), .ref r, .ref nt, .ref ns, .ref ib, .ref gs, .ref cs, .ref nu, .int 0, .int 2, .int (nI nad), .int (nI ncc), .int 0, .int 0])), (ns, .inr (7, [.int sst, .int 1, .int (nI (tm + 1250)), .ref mm])), (r, .inr (6, [.int rh, .int rl, .ref st, .ref ck_3, .ref ck_3, .int 0, .int 1, .int 1, .int 0, .int 0, .ref rf, .int 0])), (st, .inr (8, [.ref ml, .null])), (ck_3, .inr (1, [.ref ce_3, .null])), (ce_3, .inl (cJ_3, 128, .inr (.inl fE2_3))), (mm, .inr (4, [.int (nI mi), .int (nI mt), .int (nI mg), .int (nI ms), .int sd, .null]))] H := hP
  replace hD : va_D A [(nd, .inr (5, [.int nh, .int nl, .int nwa, .int nfr, .int (nI nwi), .ref r, .ref nt, .ref ns, .ref ib, .ref gs, .ref cs, .ref nu, .int 0, .int 2, .int (nI nad), .int (nI ncc), .int 0, .int 0])), (ns, .inr (7, [.int sst, .int 1, .int (nI (tm + 1250)), .ref mm])), (r, .inr (6, [.int rh, .int rl, .ref st, .ref ck_3, .ref ck_3, .int 0, .int 1, .int 1, .int 0, .int 0, .ref rf, .int 0])), (st, .inr (8, [.ref ml, .null])), (ck_3, .inr (1, [.ref ce_3, .null])), (ce_3, .inl (cJ_3, 128, .inr (.inl fE2_3))), (mm, .inr (4, [.int (nI mi), .int (nI mt), .int (nI mg), .int (nI ms), .int sd, .null]))] := hD
  refine lv_aload_n hx hb dX4_beginSending_121 rfl (lv_at hl 0 rfl) ?_
  refine va_get (D := (dC, dI)) (ci := 5) (v := .ref ns) (C := RX4) (T := TX4) (N := 18) hx hb hts in_c_beginSending_one_nN_X4 hown hK hP 0 rfl rfl 7 (by decide) (hts (.fieldLink RX4 21 "ClaimBus$Node" "sending" "LClaimBus$Sending;") (List.mem_of_getElem? (i := 1) rfl)) (fun _ h9 => h9) rfl dX4_beginSending_122 ?_
  refine lv_iconst (v := 1) hx hb dX4_beginSending_125 (by decide) ?_
  refine va_put (D := (dC, dI)) (ci := 7) (v := .int 1) (ty := .int) (C := RX6) (T := TX6) (N := 4) hx hb hts in_c_beginSending_one_nN_X6 tyX6 tyX6_ok nmX6 hown hK hP hD hS 1 rfl rfl 0 (by decide) (hts (.fieldLink RX4 121 "ClaimBus$Sending" "state" "I") (List.mem_of_getElem? (i := 13) rfl)) (fun _ h9 => h9) rfl (by decide +kernel) rfl rfl (Nat.le_of_ble_eq_true rfl) dX4_beginSending_126 (fun H locs hP hD hS => ?_)
  replace hP : va_P (dC, dI) vwCl [(nd, .inr (5, [.int nh, .int nl, .int nwa, .int nfr, .int (nI nwi), .ref r, .ref nt, .ref ns, .ref ib, .ref gs, .ref cs, .ref nu, .int 0, .int 2, .int (nI nad), .int (nI ncc), .int 0, .int 0])), (ns, .inr (7, [.int 1, .int 1, .int (nI (tm + 1250)), .ref mm])), (r, .inr (6, [.int rh, .int rl, .ref st, .ref ck_3, .ref ck_3, .int 0, .int 1, .int 1, .int 0, .int 0, .ref rf, .int 0])), (st, .inr (8, [.ref ml, .null])), (ck_3, .inr (1, [.ref ce_3, .null])), (ce_3, .inl (cJ_3, 128, .inr (.inl fE2_3))), (mm, .inr (4, [.int (nI mi), .int (nI mt), .int (nI mg), .int (nI ms), .int sd, .null]))] H := hP
  replace hD : va_D A [(nd, .inr (5, [.int nh, .int nl, .int nwa, .int nfr, .int (nI nwi), .ref r, .ref nt, .ref ns, .ref ib, .ref gs, .ref cs, .ref nu, .int 0, .int 2, .int (nI nad), .int (nI ncc), .int 0, .int 0])), (ns, .inr (7, [.int 1, .int 1, .int (nI (tm + 1250)), .ref mm])), (r, .inr (6, [.int rh, .int rl, .ref st, .ref ck_3, .ref ck_3, .int 0, .int 1, .int 1, .int 0, .int 0, .ref rf, .int 0])), (st, .inr (8, [.ref ml, .null])), (ck_3, .inr (1, [.ref ce_3, .null])), (ce_3, .inl (cJ_3, 128, .inr (.inl fE2_3))), (mm, .inr (4, [.int (nI mi), .int (nI mt), .int (nI mg), .int (nI ms), .int sd, .null]))] := hD
  have hP9 := hP.sub (ws' := [(nd, .inr (5, [.int nh, .int nl, .int nwa, .int nfr, .int (nI nwi), .ref r, .ref nt, .ref ns, .ref ib, .ref gs, .ref cs, .ref nu, .int 0, .int 2, .int (nI nad), .int (nI ncc), .int 0, .int 0])), (ns, .inr (7, [.int 1, .int 1, .int (nI (tm + 1250)), .ref mm])), (mm, .inr (4, [.int (nI mi), .int (nI mt), .int (nI mg), .int (nI ms), .int sd, .null])), (r, .inr (6, [.int rh, .int rl, .ref st, .ref ck_3, .ref ck_3, .int 0, .int 1, .int 1, .int 0, .int 0, .ref rf, .int 0])), (st, .inr (8, [.ref ml, .null])), (ck_3, .inr (1, [.ref ce_3, .null])), (ce_3, .inl (cJ_3, 128, .inr (.inl fE2_3)))]) [0, 1, 6, 2, 3, 4, 5] rfl
  have hD9 := hD.sub (ws' := [(nd, .inr (5, [.int nh, .int nl, .int nwa, .int nfr, .int (nI nwi), .ref r, .ref nt, .ref ns, .ref ib, .ref gs, .ref cs, .ref nu, .int 0, .int 2, .int (nI nad), .int (nI ncc), .int 0, .int 0])), (ns, .inr (7, [.int 1, .int 1, .int (nI (tm + 1250)), .ref mm])), (mm, .inr (4, [.int (nI mi), .int (nI mt), .int (nI mg), .int (nI ms), .int sd, .null])), (r, .inr (6, [.int rh, .int rl, .ref st, .ref ck_3, .ref ck_3, .int 0, .int 1, .int 1, .int 0, .int 0, .ref rf, .int 0])), (st, .inr (8, [.ref ml, .null])), (ck_3, .inr (1, [.ref ce_3, .null])), (ce_3, .inl (cJ_3, 128, .inr (.inl fE2_3)))]) [0, 1, 6, 2, 3, 4, 5] (by decide +kernel) rfl
  have hK9 := hK.sub (tys' := [(cJ_3, .long)]) [0] rfl
  exact W.vret hx hb hr (fun t ht hW => ⟨⟨(), rfl, trivial, ⟨ck_3, ce_3, cJ_3, fE2_3, by rw [ht]; exact hP9, va_K.moved hW.alike hK9, hD9, hlo_3.trans (congrArg nI (by omega)), hhi_3⟩⟩, hS.F ht⟩) hS.2.2 dX4_beginSending_129

noncomputable def tl_c_beginSending_one_n : List Cond := wsX40 ++ (wsX60 ++ (wsX30 ++ (v_c_put_n)))
noncomputable def v_c_beginSending_one_n : List Cond := .code yX4_beginSending cX4_beginSending 3 none :: ([.fieldLink RX4 21 "ClaimBus$Node" "sending" "LClaimBus$Sending;", .fieldLink RX4 122 "ClaimBus$Sending" "whole" "LClaimBus$Message;", .fieldLink RX4 126 "ClaimBus$Sending" "nextPacket" "I", .fieldLink RX4 129 "ClaimBus$Message" "size" "I", .fieldLink RX4 133 "ClaimBus$Message" "to" "I", .fieldLink RX4 89 "ClaimBus$Node" "row" "LClaimBus$Row;", .fieldLink RX4 78 "ClaimBus$Node" "window" "I", .initialized RX5, .methodLink RX4 136 yX5_put, .instanceMethod yX5_put, .selects RX5 yX5_put yX5_put, .fieldLink RX4 140 "ClaimBus$Sending" "due" "I", .fieldLink RX4 121 "ClaimBus$Sending" "state" "I"] ++ tl_c_beginSending_one_n)
theorem it_c_beginSending_one_n : ∀ w ∈ tl_c_beginSending_one_n, w ∈ v_c_beginSending_one_n := fun w h => List.mem_cons_of_mem _ (List.mem_append_right _ h)
theorem in_c_beginSending_one_n_X4 : ∀ w ∈ wsX40, w ∈ v_c_beginSending_one_n := fun w h => it_c_beginSending_one_n w (List.mem_append_left _ h)
theorem in_c_beginSending_one_n_X6 : ∀ w ∈ wsX60, w ∈ v_c_beginSending_one_n := fun w h => it_c_beginSending_one_n w (List.mem_append_right _ (List.mem_append_left _ h))
theorem in_c_beginSending_one_n_X3 : ∀ w ∈ wsX30, w ∈ v_c_beginSending_one_n := fun w h => it_c_beginSending_one_n w (List.mem_append_right _ (List.mem_append_right _ (List.mem_append_left _ h)))
theorem ic_c_beginSending_one_n_c_put_n : ∀ w ∈ v_c_put_n, w ∈ v_c_beginSending_one_n := fun w h => it_c_beginSending_one_n w (List.mem_append_right _ (List.mem_append_right _ (List.mem_append_right _ (h))))
theorem gt_c_beginSending_one_n : ∀ w ∈ tl_c_beginSending_one_n, goodWord w = true := List.forall_mem_append.mpr ⟨gw_wsX40, List.forall_mem_append.mpr ⟨gw_wsX60, List.forall_mem_append.mpr ⟨gw_wsX30, gw_c_put_n⟩⟩⟩
theorem gw_c_beginSending_one_n : ∀ w ∈ v_c_beginSending_one_n, goodWord w = true := List.forall_mem_cons.mpr ⟨by decide +kernel, List.forall_mem_append.mpr ⟨List.all_eq_true.mp (by decide +kernel), gt_c_beginSending_one_n⟩⟩
theorem g_c_beginSending_one_n_c_put_n_136 : GoodIn v_c_beginSending_one_n (wsV RX4 136 RX5 yX5_put v_c_put_n) := goodIn_app (goodIn_r [.methodLink RX4 136 yX5_put, .instanceMethod yX5_put, .selects RX5 yX5_put yX5_put, .initialized RX5] [9, 10, 11, 8] (by decide +kernel) (by decide +kernel)) (fun w h => ⟨ic_c_beginSending_one_n_c_put_n w h, good_of_word (gw_c_put_n w h)⟩)
set_option maxHeartbeats 4000000 in
set_option maxRecDepth 100000 in
/-- Node.beginSending -/
theorem c_beginSending_one_n (l : Launch) (dC : Nat → ClassId) (dI : Nat → Nat → Nat) (nd : Nat) (nh : Int32) (nl : Int32) (nwa : Int32) (nfr : Int32) (nwi : Nat) (r : Nat) (nt : Nat) (ns : Nat) (ib : Nat) (gs : Nat) (cs : Nat) (nu : Nat) (nad : Nat) (ncc : Nat) (rh : Int32) (rl : Int32) (st : Nat) (rf : Nat) (hp : Int32) (tp : Int32) (ml : Nat) (mm : Nat) (mi : Nat) (mt : Nat) (mg : Nat) (ms : Nat) (sd : Int32) (sst : Int32) (snp : Int32) (sdo : Int32) (mo : Nat) (tm : Nat) (sz : Nat) (hmi : mi < 8) (hmt : mt < 256) (hmg : mg < 262144) (hms : ms < 1786) (hmt2 : mt ≠ 255) (hms1 : 9 ≤ ms) (hwi : nwi < 17) (htm : tm < 200000) : Met l yX4_beginSending v_c_beginSending_one_n ({ frames := 3, cells := 2, slots := 130, locals := 60 }) (va_Pc [.ref nd, .ref mm, .int (nI tm)] (fun U => U.heap.size = sz ∧ va_P (dC, dI) vwCl [(nd, .inr (5, [.int nh, .int nl, .int nwa, .int nfr, .int (nI nwi), .ref r, .ref nt, .ref ns, .ref ib, .ref gs, .ref cs, .ref nu, .int 0, .int 2, .int (nI nad), .int (nI ncc), .int 0, .int 0])), (ns, .inr (7, [.int sst, .int snp, .int sdo, .ref mo])), (mm, .inr (4, [.int (nI mi), .int (nI mt), .int (nI mg), .int (nI ms), .int sd, .null])), (r, .inr (6, [.int rh, .int rl, .ref st, .null, .null, .int hp, .int tp, .int 0, .int 0, .int 0, .ref rf, .int 0])), (st, .inr (8, [.ref ml, .null]))] U.heap ∧ va_K (dC, dI) vwCl [] U ∧ va_D (fun _ => True) [(nd, .inr (5, [.int nh, .int nl, .int nwa, .int nfr, .int (nI nwi), .ref r, .ref nt, .ref ns, .ref ib, .ref gs, .ref cs, .ref nu, .int 0, .int 2, .int (nI nad), .int (nI ncc), .int 0, .int 0])), (ns, .inr (7, [.int sst, .int snp, .int sdo, .ref mo])), (mm, .inr (4, [.int (nI mi), .int (nI mt), .int (nI mg), .int (nI ms), .int sd, .null])), (r, .inr (6, [.int rh, .int rl, .ref st, .null, .null, .int hp, .int tp, .int 0, .int 0, .int 0, .ref rf, .int 0])), (st, .inr (8, [.ref ml, .null]))] ∧ ev U)) (va_Qv (fun _ : Unit => True) (fun (_ : Unit) (t : State) => ∃ (ck : Nat) (ce : Nat) (cJ : ClassId) (fE2 : Nat → Int64), va_P (dC, dI) vwCl [(nd, .inr (5, [.int nh, .int nl, .int nwa, .int nfr, .int (nI nwi), .ref r, .ref nt, .ref ns, .ref ib, .ref gs, .ref cs, .ref nu, .int 0, .int 2, .int (nI nad), .int (nI ncc), .int 0, .int 0])), (ns, .inr (7, [.int 1, .int 1, .int (nI (tm + 1250)), .ref mm])), (mm, .inr (4, [.int (nI mi), .int (nI mt), .int (nI mg), .int (nI ms), .int sd, .null])), (r, .inr (6, [.int rh, .int rl, .ref st, .ref ck, .ref ck, .int 0, .int 1, .int 1, .int 0, .int 0, .ref rf, .int 0])), (st, .inr (8, [.ref ml, .null])), (ck, .inr (1, [.ref ce, .null])), (ce, .inl (cJ, 128, .inr (.inl fE2)))] t.heap ∧ va_K (dC, dI) vwCl [(cJ, .long)] t ∧ va_D (va_A [(nd, .inr (5, [.int nh, .int nl, .int nwa, .int nfr, .int (nI nwi), .ref r, .ref nt, .ref ns, .ref ib, .ref gs, .ref cs, .ref nu, .int 0, .int 2, .int (nI nad), .int (nI ncc), .int 0, .int 0])), (ns, .inr (7, [.int sst, .int snp, .int sdo, .ref mo])), (mm, .inr (4, [.int (nI mi), .int (nI mt), .int (nI mg), .int (nI ms), .int sd, .null])), (r, .inr (6, [.int rh, .int rl, .ref st, .null, .null, .int hp, .int tp, .int 0, .int 0, .int 0, .ref rf, .int 0])), (st, .inr (8, [.ref ml, .null]))] sz) [(nd, .inr (5, [.int nh, .int nl, .int nwa, .int nfr, .int (nI nwi), .ref r, .ref nt, .ref ns, .ref ib, .ref gs, .ref cs, .ref nu, .int 0, .int 2, .int (nI nad), .int (nI ncc), .int 0, .int 0])), (ns, .inr (7, [.int 1, .int 1, .int (nI (tm + 1250)), .ref mm])), (mm, .inr (4, [.int (nI mi), .int (nI mt), .int (nI mg), .int (nI ms), .int sd, .null])), (r, .inr (6, [.int rh, .int rl, .ref st, .ref ck, .ref ck, .int 0, .int 1, .int 1, .int 0, .int 0, .ref rf, .int 0])), (st, .inr (8, [.ref ml, .null])), (ck, .inr (1, [.ref ce, .null])), (ce, .inl (cJ, 128, .inr (.inl fE2)))] ∧ ((fE2 0).toInt32 = (nI (16777216 * mt + 65536 * 16 + 256 * nwi + 0))) ∧ ((fE2 0 >>> ((32 : Int32).toInt64 &&& 63)).toInt32 = (nI mi))) (va_A [(nd, .inr (5, [.int nh, .int nl, .int nwa, .int nfr, .int (nI nwi), .ref r, .ref nt, .ref ns, .ref ib, .ref gs, .ref cs, .ref nu, .int 0, .int 2, .int (nI nad), .int (nI ncc), .int 0, .int 0])), (ns, .inr (7, [.int sst, .int snp, .int sdo, .ref mo])), (mm, .inr (4, [.int (nI mi), .int (nI mt), .int (nI mg), .int (nI ms), .int sd, .null])), (r, .inr (6, [.int rh, .int rl, .ref st, .null, .null, .int hp, .int tp, .int 0, .int 0, .int 0, .ref rf, .int 0])), (st, .inr (8, [.ref ml, .null]))] sz)) 2 130 (va_A [(nd, .inr (5, [.int nh, .int nl, .int nwa, .int nfr, .int (nI nwi), .ref r, .ref nt, .ref ns, .ref ib, .ref gs, .ref cs, .ref nu, .int 0, .int 2, .int (nI nad), .int (nI ncc), .int 0, .int 0])), (ns, .inr (7, [.int sst, .int snp, .int sdo, .ref mo])), (mm, .inr (4, [.int (nI mi), .int (nI mt), .int (nI mg), .int (nI ms), .int sd, .null])), (r, .inr (6, [.int rh, .int rl, .ref st, .null, .null, .int hp, .int tp, .int 0, .int 0, .int 0, .ref rf, .int 0])), (st, .inr (8, [.ref ml, .null]))] sz) := by
  refine Met.ofW (cc := cX4_beginSending) (maxL := 3) (ret := none) (by decide) rfl ?_
  intro p e s m args below meth c s₁ B hml hv
  obtain ⟨rfl, hsz, hP, hK, hD0, hE⟩ := hv
  have hx := B.exec
  have hb := B.bytes
  have hr := B.returns
  have hts := atoms_spec (ws := v_c_beginSending_one_n) B.pre
  have hown : s.vm.findClass RX4 = some m.cls := findClass_of_methodNamed B.named
  have hlocks := B.notSynchronized
  subst hsz
  have hD := hD0.self (sz := s.heap.size)
  generalize hAe : va_A [(nd, .inr (5, [.int nh, .int nl, .int nwa, .int nfr, .int (nI nwi), .ref r, .ref nt, .ref ns, .ref ib, .ref gs, .ref cs, .ref nu, .int 0, .int 2, .int (nI nad), .int (nI ncc), .int 0, .int 0])), (ns, .inr (7, [.int sst, .int snp, .int sdo, .ref mo])), (mm, .inr (4, [.int (nI mi), .int (nI mt), .int (nI mg), .int (nI ms), .int sd, .null])), (r, .inr (6, [.int rh, .int rl, .ref st, .null, .null, .int hp, .int tp, .int 0, .int 0, .int 0, .ref rf, .int 0])), (st, .inr (8, [.ref ml, .null]))] s.heap.size = A at hD ⊢
  have hA : ∀ q : Nat, s.heap.size ≤ q → A q := fun q h => by rw [← hAe]; exact Or.inr h
  have hS : va_S A s.heap s.heap [] := va_S.rf
  replace hP : va_P (dC, dI) vwCl [(nd, .inr (5, [.int nh, .int nl, .int nwa, .int nfr, .int (nI nwi), .ref r, .ref nt, .ref ns, .ref ib, .ref gs, .ref cs, .ref nu, .int 0, .int 2, .int (nI nad), .int (nI ncc), .int 0, .int 0])), (ns, .inr (7, [.int sst, .int snp, .int sdo, .ref mo])), (mm, .inr (4, [.int (nI mi), .int (nI mt), .int (nI mg), .int (nI ms), .int sd, .null])), (r, .inr (6, [.int rh, .int rl, .ref st, .null, .null, .int hp, .int tp, .int 0, .int 0, .int 0, .ref rf, .int 0])), (st, .inr (8, [.ref ml, .null]))] s.heap := hP
  have hl := lv_entry ([.ref nd, .ref mm, .int (nI tm)]) (n := 3) (Nat.le_of_ble_eq_true rfl)
  rw [lg_entry_eq]
  generalize (lg_sl ([.ref nd, .ref mm, .int (nI tm)]) ++ List.replicate (3 - (lg_sl ([.ref nd, .ref mm, .int (nI tm)])).length) Slot.unset).toArray = ls at hl ⊢
  replace hl : lv_has ls 3 [(0, .ref nd), (1, .ref mm), (2, .int (nI tm))] := hl
  obtain ⟨H, hH⟩ : ∃ z : Heap, z = s.heap := ⟨_, rfl⟩
  rw [← hH]
  replace hS : va_S A s.heap H [] := by rw [hH]; exact va_S.rf
  replace hP : va_P (dC, dI) vwCl [(nd, .inr (5, [.int nh, .int nl, .int nwa, .int nfr, .int (nI nwi), .ref r, .ref nt, .ref ns, .ref ib, .ref gs, .ref cs, .ref nu, .int 0, .int 2, .int (nI nad), .int (nI ncc), .int 0, .int 0])), (ns, .inr (7, [.int sst, .int snp, .int sdo, .ref mo])), (mm, .inr (4, [.int (nI mi), .int (nI mt), .int (nI mg), .int (nI ms), .int sd, .null])), (r, .inr (6, [.int rh, .int rl, .ref st, .null, .null, .int hp, .int tp, .int 0, .int 0, .int 0, .ref rf, .int 0])), (st, .inr (8, [.ref ml, .null]))] H := by rw [hH]; exact hP
  clear hH
  refine lv_aload_n hx hb dX4_beginSending_0 rfl (lv_at hl 0 rfl) ?_
  refine va_get (D := (dC, dI)) (ci := 5) (v := .ref ns) (C := RX4) (T := TX4) (N := 18) hx hb hts in_c_beginSending_one_n_X4 hown hK hP 0 rfl rfl 7 (by decide) (hts (.fieldLink RX4 21 "ClaimBus$Node" "sending" "LClaimBus$Sending;") (List.mem_of_getElem? (i := 1) rfl)) (fun _ h9 => h9) rfl dX4_beginSending_1 ?_
  refine lv_aload_n hx hb dX4_beginSending_4 rfl (lv_at hl 1 rfl) ?_
  refine va_put (D := (dC, dI)) (ci := 7) (v := .ref mm) (ty := (.object "ClaimBus$Message")) (C := RX6) (T := TX6) (N := 4) hx hb hts in_c_beginSending_one_n_X6 tyX6 tyX6_ok nmX6 hown hK hP hD hS 1 rfl rfl 3 (by decide) (hts (.fieldLink RX4 122 "ClaimBus$Sending" "whole" "LClaimBus$Message;") (List.mem_of_getElem? (i := 2) rfl)) (fun _ h9 => h9) rfl (by decide +kernel) rfl rfl (Nat.le_of_ble_eq_true rfl) dX4_beginSending_5 (fun H locs hP hD hS => ?_)
  replace hP : va_P (dC, dI) vwCl [(nd, .inr (5, [.int nh, .int nl, .int nwa, .int nfr, .int (nI nwi), .ref r, .ref nt, .ref ns, .ref ib, .ref gs, .ref cs, .ref nu, .int 0, .int 2, .int (nI nad), .int (nI ncc), .int 0, .int 0])), (ns, .inr (7, [.int sst, .int snp, .int sdo, .ref mm])), (mm, .inr (4, [.int (nI mi), .int (nI mt), .int (nI mg), .int (nI ms), .int sd, .null])), (r, .inr (6, [.int rh, .int rl, .ref st, .null, .null, .int hp, .int tp, .int 0, .int 0, .int 0, .ref rf, .int 0])), (st, .inr (8, [.ref ml, .null]))] H := hP
  replace hD : va_D A [(nd, .inr (5, [.int nh, .int nl, .int nwa, .int nfr, .int (nI nwi), .ref r, .ref nt, .ref ns, .ref ib, .ref gs, .ref cs, .ref nu, .int 0, .int 2, .int (nI nad), .int (nI ncc), .int 0, .int 0])), (ns, .inr (7, [.int sst, .int snp, .int sdo, .ref mm])), (mm, .inr (4, [.int (nI mi), .int (nI mt), .int (nI mg), .int (nI ms), .int sd, .null])), (r, .inr (6, [.int rh, .int rl, .ref st, .null, .null, .int hp, .int tp, .int 0, .int 0, .int 0, .ref rf, .int 0])), (st, .inr (8, [.ref ml, .null]))] := hD
  refine lv_aload_n hx hb dX4_beginSending_8 rfl (lv_at hl 0 rfl) ?_
  refine va_get (D := (dC, dI)) (ci := 5) (v := .ref ns) (C := RX4) (T := TX4) (N := 18) hx hb hts in_c_beginSending_one_n_X4 hown hK hP 0 rfl rfl 7 (by decide) (hts (.fieldLink RX4 21 "ClaimBus$Node" "sending" "LClaimBus$Sending;") (List.mem_of_getElem? (i := 1) rfl)) (fun _ h9 => h9) rfl dX4_beginSending_9 ?_
  refine lv_iconst (v := 1) hx hb dX4_beginSending_12 (by decide) ?_
  refine va_put (D := (dC, dI)) (ci := 7) (v := .int 1) (ty := .int) (C := RX6) (T := TX6) (N := 4) hx hb hts in_c_beginSending_one_n_X6 tyX6 tyX6_ok nmX6 hown hK hP hD hS 1 rfl rfl 1 (by decide) (hts (.fieldLink RX4 126 "ClaimBus$Sending" "nextPacket" "I") (List.mem_of_getElem? (i := 3) rfl)) (fun _ h9 => h9) rfl (by decide +kernel) rfl rfl (Nat.le_of_ble_eq_true rfl) dX4_beginSending_13 (fun H locs hP hD hS => ?_)
  replace hP : va_P (dC, dI) vwCl [(nd, .inr (5, [.int nh, .int nl, .int nwa, .int nfr, .int (nI nwi), .ref r, .ref nt, .ref ns, .ref ib, .ref gs, .ref cs, .ref nu, .int 0, .int 2, .int (nI nad), .int (nI ncc), .int 0, .int 0])), (ns, .inr (7, [.int sst, .int 1, .int sdo, .ref mm])), (mm, .inr (4, [.int (nI mi), .int (nI mt), .int (nI mg), .int (nI ms), .int sd, .null])), (r, .inr (6, [.int rh, .int rl, .ref st, .null, .null, .int hp, .int tp, .int 0, .int 0, .int 0, .ref rf, .int 0])), (st, .inr (8, [.ref ml, .null]))] H := hP
  replace hD : va_D A [(nd, .inr (5, [.int nh, .int nl, .int nwa, .int nfr, .int (nI nwi), .ref r, .ref nt, .ref ns, .ref ib, .ref gs, .ref cs, .ref nu, .int 0, .int 2, .int (nI nad), .int (nI ncc), .int 0, .int 0])), (ns, .inr (7, [.int sst, .int 1, .int sdo, .ref mm])), (mm, .inr (4, [.int (nI mi), .int (nI mt), .int (nI mg), .int (nI ms), .int sd, .null])), (r, .inr (6, [.int rh, .int rl, .ref st, .null, .null, .int hp, .int tp, .int 0, .int 0, .int 0, .ref rf, .int 0])), (st, .inr (8, [.ref ml, .null]))] := hD
  refine lv_aload_n hx hb dX4_beginSending_16 rfl (lv_at hl 1 rfl) ?_
  refine va_get (D := (dC, dI)) (ci := 4) (v := .int (nI ms)) (C := RX3) (T := TX3) (N := 6) hx hb hts in_c_beginSending_one_n_X3 hown hK hP 2 rfl rfl 3 (by decide) (hts (.fieldLink RX4 129 "ClaimBus$Message" "size" "I") (List.mem_of_getElem? (i := 4) rfl)) (fun _ h9 => h9) rfl dX4_beginSending_17 ?_
  refine lv_bipush (v := 8) hx hb dX4_beginSending_20 (by decide) ?_
  refine lv_icmp_gt (tgt := 49) hx hb dX4_beginSending_22 (by decide) (fun c_1 => ?_) (fun c_1 => ?_)
  rotate_left
  · exact absurd ((nI_ltI (a := 8) (b := ms) (by omega) (by omega)).mpr (by omega)) c_1
  refine lv_aload_n hx hb dX4_beginSending_49 rfl (lv_at hl 1 rfl) ?_
  refine va_get (D := (dC, dI)) (ci := 4) (v := .int (nI mt)) (C := RX3) (T := TX3) (N := 6) hx hb hts in_c_beginSending_one_n_X3 hown hK hP 2 rfl rfl 1 (by decide) (hts (.fieldLink RX4 133 "ClaimBus$Message" "to" "I") (List.mem_of_getElem? (i := 5) rfl)) (fun _ h9 => h9) rfl dX4_beginSending_50 ?_
  refine lv_sipush (v := 255) hx hb dX4_beginSending_53 (by decide) ?_
  refine lv_icmp_ne (tgt := 90) hx hb dX4_beginSending_56 (by decide) (fun c_2 => ?_) (fun c_2 => ?_)
  rotate_left
  · exact absurd ((nI_eq (a := mt) (b := 255) (by omega) (by omega)).mp c_2) (by omega)
  refine lv_aload_n hx hb dX4_beginSending_90 rfl (lv_at hl 0 rfl) ?_
  refine va_get (D := (dC, dI)) (ci := 5) (v := .ref r) (C := RX4) (T := TX4) (N := 18) hx hb hts in_c_beginSending_one_n_X4 hown hK hP 0 rfl rfl 5 (by decide) (hts (.fieldLink RX4 89 "ClaimBus$Node" "row" "LClaimBus$Row;") (List.mem_of_getElem? (i := 6) rfl)) (fun _ h9 => h9) rfl dX4_beginSending_91 ?_
  refine lv_aload_n hx hb dX4_beginSending_94 rfl (lv_at hl 1 rfl) ?_
  refine lv_aload_n hx hb dX4_beginSending_95 rfl (lv_at hl 1 rfl) ?_
  refine va_get (D := (dC, dI)) (ci := 4) (v := .int (nI mt)) (C := RX3) (T := TX3) (N := 6) hx hb hts in_c_beginSending_one_n_X3 hown hK hP 2 rfl rfl 1 (by decide) (hts (.fieldLink RX4 133 "ClaimBus$Message" "to" "I") (List.mem_of_getElem? (i := 5) rfl)) (fun _ h9 => h9) rfl dX4_beginSending_96 ?_
  refine lv_bipush (v := 16) hx hb dX4_beginSending_99 (by decide) ?_
  refine lv_aload_n hx hb dX4_beginSending_101 rfl (lv_at hl 0 rfl) ?_
  refine va_get (D := (dC, dI)) (ci := 5) (v := .int (nI nwi)) (C := RX4) (T := TX4) (N := 18) hx hb hts in_c_beginSending_one_n_X4 hown hK hP 0 rfl rfl 4 (by decide) (hts (.fieldLink RX4 78 "ClaimBus$Node" "window" "I") (List.mem_of_getElem? (i := 7) rfl)) (fun _ h9 => h9) rfl dX4_beginSending_102 ?_
  refine lv_iconst (v := 0) hx hb dX4_beginSending_105 (by decide) ?_
  have hPc := hP.sub (ws' := [(r, .inr (6, [.int rh, .int rl, .ref st, .null, .null, .int hp, .int tp, .int 0, .int 0, .int 0, .ref rf, .int 0])), (st, .inr (8, [.ref ml, .null])), (mm, .inr (4, [.int (nI mi), .int (nI mt), .int (nI mg), .int (nI ms), .int sd, .null]))]) [3, 4, 2] rfl
  have hDc := hD.sub (ws' := [(r, .inr (6, [.int rh, .int rl, .ref st, .null, .null, .int hp, .int tp, .int 0, .int 0, .int 0, .ref rf, .int 0])), (st, .inr (8, [.ref ml, .null])), (mm, .inr (4, [.int (nI mi), .int (nI mt), .int (nI mg), .int (nI ms), .int sd, .null]))]) [3, 4, 2] (by decide +kernel) rfl
  have hKc := hK.sub (tys' := []) [] rfl
  have hFc := va_free (wc := [(r, .inr (6, [.int rh, .int rl, .ref st, .null, .null, .int hp, .int tp, .int 0, .int 0, .int 0, .ref rf, .int 0])), (st, .inr (8, [.ref ml, .null])), (mm, .inr (4, [.int (nI mi), .int (nI mt), .int (nI mg), .int (nI ms), .int sd, .null]))]) hD hS hA [3, 4, 2] rfl
  refine va_callv (va_runV (As := [.ref mm, .int (nI mt), .int 16, .int (nI nwi), .int 0]) (rest := []) ⟨hx, hb, hml, hown, hts⟩ (c_put_n l dC dI (r) (rh) (rl) (st) (rf) (hp) (tp) (ml) (mm) (mi) (mt) (mg) (ms) (sd) (mt) (16) (nwi) (0) H.size hmt (by omega) (by omega) (by omega) hmi (by omega)) (cwV 5 hts g_c_beginSending_one_n_c_put_n_136 rfl rfl rfl (by decide +kernel) ⟨Nat.le_of_ble_eq_true rfl, Nat.le_of_ble_eq_true rfl⟩) ⟨fun a U g mk q => by obtain ⟨q0, q1, qP, qK, qD, qE⟩ := q; exact ⟨q0, q1, qP, va_K.moved (u := U) (U := U.calling g mk a) (Vm.Alike.refl U.vm) qK, qD, ev.same (u := U) (U := U.calling g mk a) rfl qE⟩, va_recv hKc hPc (ci := 6) (q0 := 0) rfl rfl, fun U hU hW => ⟨rfl, by rw [hU], by rw [hU]; exact hPc, va_K.moved hW.alike hKc, hDc.weaken (fun _ _ _ _ => trivial), hE.warm hW⟩⟩ rfl rfl hl.1 rfl (lv_room (Nat.le_of_ble_eq_true rfl)) dX4_beginSending_106 ⟨Nat.le_of_ble_eq_true rfl, Nat.le_of_ble_eq_true rfl⟩) hS (fun q _ h => hFc q h) hFc (fun u t H1 locs ht hvm hw hB hz1 hk1 hS => ?_)
  clear hPc hDc hKc
  obtain ⟨ck_3, ce_3, cJ_3, fE2_3, hP1, hK1, hD1, hlo_3, hhi_3⟩ := hB
  rw [ht] at hP1
  have hK1 := va_K.moved hvm.symm hK1
  obtain ⟨hP, hD⟩ := va_join (wr := [(nd, .inr (5, [.int nh, .int nl, .int nwa, .int nfr, .int (nI nwi), .ref r, .ref nt, .ref ns, .ref ib, .ref gs, .ref cs, .ref nu, .int 0, .int 2, .int (nI nad), .int (nI ncc), .int 0, .int 0])), (ns, .inr (7, [.int sst, .int 1, .int sdo, .ref mm]))]) (w1 := [(r, .inr (6, [.int rh, .int rl, .ref st, .ref ck_3, .ref ck_3, .int 0, .int 1, .int 1, .int 0, .int 0, .ref rf, .int 0])), (st, .inr (8, [.ref ml, .null])), (ck_3, .inr (1, [.ref ce_3, .null])), (ce_3, .inl (cJ_3, 128, .inr (.inl fE2_3))), (mm, .inr (4, [.int (nI mi), .int (nI mt), .int (nI mg), .int (nI ms), .int sd, .null]))]) hP hD [3, 4, 2] [0, 1] rfl rfl (by decide +kernel) (by decide +kernel) hk1 hFc hP1 hD1
  replace hK := hK.app hK1
  replace hK : va_K (dC, dI) vwCl [(cJ_3, .long)] s := hK
  generalize H1 = H at hP hS ⊢
  replace hP : va_P (dC, dI) vwCl [(nd, .inr (5, [.int nh, .int nl, .int nwa, .int nfr, .int (nI nwi), .ref r, .ref nt, .ref ns, .ref ib, .ref gs, .ref cs, .ref nu, .int 0, .int 2, .int (nI nad), .int (nI ncc), .int 0, .int 0])), (ns, .inr (7, [.int sst, .int 1, .int sdo, .ref mm])), (r, .inr (6, [.int rh, .int rl, .ref st, .ref ck_3, .ref ck_3, .int 0, .int 1, .int 1, .int 0, .int 0, .ref rf, .int 0])), (st, .inr (8, [.ref ml, .null])), (ck_3, .inr (1, [.ref ce_3, .null])), (ce_3, .inl (cJ_3, 128, .inr (.inl fE2_3))), (mm, .inr (4, [.int (nI mi), .int (nI mt), .int (nI mg), .int (nI ms), .int sd, .null]))] H := hP
  replace hD : va_D A [(nd, .inr (5, [.int nh, .int nl, .int nwa, .int nfr, .int (nI nwi), .ref r, .ref nt, .ref ns, .ref ib, .ref gs, .ref cs, .ref nu, .int 0, .int 2, .int (nI nad), .int (nI ncc), .int 0, .int 0])), (ns, .inr (7, [.int sst, .int 1, .int sdo, .ref mm])), (r, .inr (6, [.int rh, .int rl, .ref st, .ref ck_3, .ref ck_3, .int 0, .int 1, .int 1, .int 0, .int 0, .ref rf, .int 0])), (st, .inr (8, [.ref ml, .null])), (ck_3, .inr (1, [.ref ce_3, .null])), (ce_3, .inl (cJ_3, 128, .inr (.inl fE2_3))), (mm, .inr (4, [.int (nI mi), .int (nI mt), .int (nI mg), .int (nI ms), .int sd, .null]))] := hD
  refine W.widen (k := 2) (n := 130) (Nat.le_of_ble_eq_true rfl) (Nat.le_of_ble_eq_true rfl) ?_
  clear hw
  refine lv_aload_n hx hb dX4_beginSending_109 rfl (lv_at hl 0 rfl) ?_
  refine va_get (D := (dC, dI)) (ci := 5) (v := .ref ns) (C := RX4) (T := TX4) (N := 18) hx hb hts in_c_beginSending_one_n_X4 hown hK hP 0 rfl rfl 7 (by decide) (hts (.fieldLink RX4 21 "ClaimBus$Node" "sending" "LClaimBus$Sending;") (List.mem_of_getElem? (i := 1) rfl)) (fun _ h9 => h9) rfl dX4_beginSending_110 ?_
  refine lv_iload_n hx hb dX4_beginSending_113 rfl (lv_at hl 2 rfl) ?_
  refine lv_sipush (v := 1250) hx hb dX4_beginSending_114 (by decide) ?_
  refine lv_iadd hx hb dX4_beginSending_117 ?_
  refine lv_topi (fun x_4 ex_4 => ?_)
  obtain rfl : x_4 = (nI (tm + 1250)) := ex_4.trans ((nI_add tm 1250).trans (show nI (tm + 1250) = nI (tm + 1250) from congrArg nI (by omega)))
  refine va_put (D := (dC, dI)) (ci := 7) (v := .int (nI (tm + 1250))) (ty := .int) (C := RX6) (T := TX6) (N := 4) hx hb hts in_c_beginSending_one_n_X6 tyX6 tyX6_ok nmX6 hown hK hP hD hS 1 rfl rfl 2 (by decide) (hts (.fieldLink RX4 140 "ClaimBus$Sending" "due" "I") (List.mem_of_getElem? (i := 12) rfl)) (fun _ h9 => h9) rfl (by decide +kernel) rfl rfl (Nat.le_of_ble_eq_true rfl) dX4_beginSending_118 (fun H locs hP hD hS => ?_)
  replace hP : va_P (dC, dI) vwCl [(nd, .inr (5, [.int nh, .int nl, .int nwa, .int nfr, .int (nI nwi), .ref r, .ref nt, .ref ns, .ref ib, .ref gs, .ref cs, .ref nu, .int 0, .int 2, .int (nI nad), .int (nI ncc), .int 0, .int 0])), (ns, .inr (7, [.int sst, .int 1, .int (nI (tm + 1250)), .ref mm])), (r, .inr (6, [.int rh, .int rl, .ref st, .ref ck_3, .ref ck_3, .int 0, .int 1, .int 1, .int 0, .int 0, .ref rf, .int 0])), (st, .inr (8, [.ref ml, .null])), (ck_3, .inr (1, [.ref ce_3, .null])), (ce_3, .inl (cJ_3, 128, .inr (.inl fE2_3))), (mm, .inr (4, [.int (nI mi), .int (nI mt), .int (nI mg), .int (nI ms), .int sd, .null]))] H := hP
  replace hD : va_D A [(nd, .inr (5, [.int nh, .int nl, .int nwa, .int nfr, .int (nI nwi), .ref r, .ref nt, .ref ns, .ref ib, .ref gs, .ref cs, .ref nu, .int 0, .int 2, .int (nI nad), .int (nI ncc), .int 0, .int 0])), (ns, .inr (7, [.int sst, .int 1, .int (nI (tm + 1250)), .ref mm])), (r, .inr (6, [.int rh, .int rl, .ref st, .ref ck_3, .ref ck_3, .int 0, .int 1, .int 1, .int 0, .int 0, .ref rf, .int 0])), (st, .inr (8, [.ref ml, .null])), (ck_3, .inr (1, [.ref ce_3, .null])), (ce_3, .inl (cJ_3, 128, .inr (.inl fE2_3))), (mm, .inr (4, [.int (nI mi), .int (nI mt), .int (nI mg), .int (nI ms), .int sd, .null]))] := hD
  refine lv_aload_n hx hb dX4_beginSending_121 rfl (lv_at hl 0 rfl) ?_
  refine va_get (D := (dC, dI)) (ci := 5) (v := .ref ns) (C := RX4) (T := TX4) (N := 18) hx hb hts in_c_beginSending_one_n_X4 hown hK hP 0 rfl rfl 7 (by decide) (hts (.fieldLink RX4 21 "ClaimBus$Node" "sending" "LClaimBus$Sending;") (List.mem_of_getElem? (i := 1) rfl)) (fun _ h9 => h9) rfl dX4_beginSending_122 ?_
  refine lv_iconst (v := 1) hx hb dX4_beginSending_125 (by decide) ?_
  refine va_put (D := (dC, dI)) (ci := 7) (v := .int 1) (ty := .int) (C := RX6) (T := TX6) (N := 4) hx hb hts in_c_beginSending_one_n_X6 tyX6 tyX6_ok nmX6 hown hK hP hD hS 1 rfl rfl 0 (by decide) (hts (.fieldLink RX4 121 "ClaimBus$Sending" "state" "I") (List.mem_of_getElem? (i := 13) rfl)) (fun _ h9 => h9) rfl (by decide +kernel) rfl rfl (Nat.le_of_ble_eq_true rfl) dX4_beginSending_126 (fun H locs hP hD hS => ?_)
  replace hP : va_P (dC, dI) vwCl [(nd, .inr (5, [.int nh, .int nl, .int nwa, .int nfr, .int (nI nwi), .ref r, .ref nt, .ref ns, .ref ib, .ref gs, .ref cs, .ref nu, .int 0, .int 2, .int (nI nad), .int (nI ncc), .int 0, .int 0])), (ns, .inr (7, [.int 1, .int 1, .int (nI (tm + 1250)), .ref mm])), (r, .inr (6, [.int rh, .int rl, .ref st, .ref ck_3, .ref ck_3, .int 0, .int 1, .int 1, .int 0, .int 0, .ref rf, .int 0])), (st, .inr (8, [.ref ml, .null])), (ck_3, .inr (1, [.ref ce_3, .null])), (ce_3, .inl (cJ_3, 128, .inr (.inl fE2_3))), (mm, .inr (4, [.int (nI mi), .int (nI mt), .int (nI mg), .int (nI ms), .int sd, .null]))] H := hP
  replace hD : va_D A [(nd, .inr (5, [.int nh, .int nl, .int nwa, .int nfr, .int (nI nwi), .ref r, .ref nt, .ref ns, .ref ib, .ref gs, .ref cs, .ref nu, .int 0, .int 2, .int (nI nad), .int (nI ncc), .int 0, .int 0])), (ns, .inr (7, [.int 1, .int 1, .int (nI (tm + 1250)), .ref mm])), (r, .inr (6, [.int rh, .int rl, .ref st, .ref ck_3, .ref ck_3, .int 0, .int 1, .int 1, .int 0, .int 0, .ref rf, .int 0])), (st, .inr (8, [.ref ml, .null])), (ck_3, .inr (1, [.ref ce_3, .null])), (ce_3, .inl (cJ_3, 128, .inr (.inl fE2_3))), (mm, .inr (4, [.int (nI mi), .int (nI mt), .int (nI mg), .int (nI ms), .int sd, .null]))] := hD
  have hP9 := hP.sub (ws' := [(nd, .inr (5, [.int nh, .int nl, .int nwa, .int nfr, .int (nI nwi), .ref r, .ref nt, .ref ns, .ref ib, .ref gs, .ref cs, .ref nu, .int 0, .int 2, .int (nI nad), .int (nI ncc), .int 0, .int 0])), (ns, .inr (7, [.int 1, .int 1, .int (nI (tm + 1250)), .ref mm])), (mm, .inr (4, [.int (nI mi), .int (nI mt), .int (nI mg), .int (nI ms), .int sd, .null])), (r, .inr (6, [.int rh, .int rl, .ref st, .ref ck_3, .ref ck_3, .int 0, .int 1, .int 1, .int 0, .int 0, .ref rf, .int 0])), (st, .inr (8, [.ref ml, .null])), (ck_3, .inr (1, [.ref ce_3, .null])), (ce_3, .inl (cJ_3, 128, .inr (.inl fE2_3)))]) [0, 1, 6, 2, 3, 4, 5] rfl
  have hD9 := hD.sub (ws' := [(nd, .inr (5, [.int nh, .int nl, .int nwa, .int nfr, .int (nI nwi), .ref r, .ref nt, .ref ns, .ref ib, .ref gs, .ref cs, .ref nu, .int 0, .int 2, .int (nI nad), .int (nI ncc), .int 0, .int 0])), (ns, .inr (7, [.int 1, .int 1, .int (nI (tm + 1250)), .ref mm])), (mm, .inr (4, [.int (nI mi), .int (nI mt), .int (nI mg), .int (nI ms), .int sd, .null])), (r, .inr (6, [.int rh, .int rl, .ref st, .ref ck_3, .ref ck_3, .int 0, .int 1, .int 1, .int 0, .int 0, .ref rf, .int 0])), (st, .inr (8, [.ref ml, .null])), (ck_3, .inr (1, [.ref ce_3, .null])), (ce_3, .inl (cJ_3, 128, .inr (.inl fE2_3)))]) [0, 1, 6, 2, 3, 4, 5] (by decide +kernel) rfl
  have hK9 := hK.sub (tys' := [(cJ_3, .long)]) [0] rfl
  exact W.vret hx hb hr (fun t ht hW => ⟨⟨(), rfl, trivial, ⟨ck_3, ce_3, cJ_3, fE2_3, by rw [ht]; exact hP9, va_K.moved hW.alike hK9, hD9, hlo_3.trans (congrArg nI (by omega)), hhi_3⟩⟩, hS.F ht⟩) hS.2.2 dX4_beginSending_129

noncomputable def tl_c_beginSending_one_cN : List Cond := wsX40 ++ (wsX60 ++ (wsX30 ++ (v_c_put_c)))
noncomputable def v_c_beginSending_one_cN : List Cond := .code yX4_beginSending cX4_beginSending 3 none :: ([.fieldLink RX4 21 "ClaimBus$Node" "sending" "LClaimBus$Sending;", .fieldLink RX4 122 "ClaimBus$Sending" "whole" "LClaimBus$Message;", .fieldLink RX4 126 "ClaimBus$Sending" "nextPacket" "I", .fieldLink RX4 129 "ClaimBus$Message" "size" "I", .fieldLink RX4 133 "ClaimBus$Message" "to" "I", .fieldLink RX4 89 "ClaimBus$Node" "row" "LClaimBus$Row;", .fieldLink RX4 78 "ClaimBus$Node" "window" "I", .initialized RX5, .methodLink RX4 136 yX5_put, .instanceMethod yX5_put, .selects RX5 yX5_put yX5_put, .fieldLink RX4 140 "ClaimBus$Sending" "due" "I", .fieldLink RX4 121 "ClaimBus$Sending" "state" "I"] ++ tl_c_beginSending_one_cN)
theorem it_c_beginSending_one_cN : ∀ w ∈ tl_c_beginSending_one_cN, w ∈ v_c_beginSending_one_cN := fun w h => List.mem_cons_of_mem _ (List.mem_append_right _ h)
theorem in_c_beginSending_one_cN_X4 : ∀ w ∈ wsX40, w ∈ v_c_beginSending_one_cN := fun w h => it_c_beginSending_one_cN w (List.mem_append_left _ h)
theorem in_c_beginSending_one_cN_X6 : ∀ w ∈ wsX60, w ∈ v_c_beginSending_one_cN := fun w h => it_c_beginSending_one_cN w (List.mem_append_right _ (List.mem_append_left _ h))
theorem in_c_beginSending_one_cN_X3 : ∀ w ∈ wsX30, w ∈ v_c_beginSending_one_cN := fun w h => it_c_beginSending_one_cN w (List.mem_append_right _ (List.mem_append_right _ (List.mem_append_left _ h)))
theorem ic_c_beginSending_one_cN_c_put_c : ∀ w ∈ v_c_put_c, w ∈ v_c_beginSending_one_cN := fun w h => it_c_beginSending_one_cN w (List.mem_append_right _ (List.mem_append_right _ (List.mem_append_right _ (h))))
theorem gt_c_beginSending_one_cN : ∀ w ∈ tl_c_beginSending_one_cN, goodWord w = true := List.forall_mem_append.mpr ⟨gw_wsX40, List.forall_mem_append.mpr ⟨gw_wsX60, List.forall_mem_append.mpr ⟨gw_wsX30, gw_c_put_c⟩⟩⟩
theorem gw_c_beginSending_one_cN : ∀ w ∈ v_c_beginSending_one_cN, goodWord w = true := List.forall_mem_cons.mpr ⟨by decide +kernel, List.forall_mem_append.mpr ⟨List.all_eq_true.mp (by decide +kernel), gt_c_beginSending_one_cN⟩⟩
theorem g_c_beginSending_one_cN_c_put_c_136 : GoodIn v_c_beginSending_one_cN (wsV RX4 136 RX5 yX5_put v_c_put_c) := goodIn_app (goodIn_r [.methodLink RX4 136 yX5_put, .instanceMethod yX5_put, .selects RX5 yX5_put yX5_put, .initialized RX5] [9, 10, 11, 8] (by decide +kernel) (by decide +kernel)) (fun w h => ⟨ic_c_beginSending_one_cN_c_put_c w h, good_of_word (gw_c_put_c w h)⟩)
set_option maxHeartbeats 4000000 in
set_option maxRecDepth 100000 in
/-- Node.beginSending -/
theorem c_beginSending_one_cN (l : Launch) (dC : Nat → ClassId) (dI : Nat → Nat → Nat) (nd : Nat) (nh : Int32) (nl : Int32) (nwa : Int32) (nfr : Int32) (nwi : Nat) (r : Nat) (nt : Nat) (ns : Nat) (ib : Nat) (gs : Nat) (cs : Nat) (nu : Nat) (nad : Nat) (ncc : Nat) (rh : Int32) (rl : Int32) (st : Nat) (rf : Nat) (hp : Int32) (tp : Int32) (ml : Nat) (ck : Nat) (ce : Nat) (cJ : ClassId) (fE : Nat → Int64) (mm : Nat) (mi : Nat) (mt : Nat) (mg : Nat) (ms : Nat) (sd : Int32) (sst : Int32) (snp : Int32) (sdo : Int32) (tm : Nat) (sz : Nat) (hmi : mi < 8) (hmt : mt < 256) (hmg : mg < 262144) (hms : ms < 1786) (hmt2 : mt ≠ 255) (hms1 : 9 ≤ ms) (hwi : nwi < 17) (htm : tm < 200000) : Met l yX4_beginSending v_c_beginSending_one_cN ({ frames := 2, cells := 0, slots := 0, locals := 48 }) (va_Pc [.ref nd, .ref mm, .int (nI tm)] (fun U => U.heap.size = sz ∧ va_P (dC, dI) vwCl [(nd, .inr (5, [.int nh, .int nl, .int nwa, .int nfr, .int (nI nwi), .ref r, .ref nt, .ref ns, .ref ib, .ref gs, .ref cs, .ref nu, .int 0, .int 2, .int (nI nad), .int (nI ncc), .int 0, .int 0])), (ns, .inr (7, [.int sst, .int snp, .int sdo, .null])), (mm, .inr (4, [.int (nI mi), .int (nI mt), .int (nI mg), .int (nI ms), .int sd, .null])), (r, .inr (6, [.int rh, .int rl, .ref st, .null, .null, .int hp, .int tp, .int 0, .int 0, .int 0, .ref rf, .int 0])), (st, .inr (8, [.ref ml, .ref ck])), (ck, .inr (1, [.ref ce, .null])), (ce, .inl (cJ, 128, .inr (.inl fE)))] U.heap ∧ va_K (dC, dI) vwCl [(cJ, .long)] U ∧ va_D (fun _ => True) [(nd, .inr (5, [.int nh, .int nl, .int nwa, .int nfr, .int (nI nwi), .ref r, .ref nt, .ref ns, .ref ib, .ref gs, .ref cs, .ref nu, .int 0, .int 2, .int (nI nad), .int (nI ncc), .int 0, .int 0])), (ns, .inr (7, [.int sst, .int snp, .int sdo, .null])), (mm, .inr (4, [.int (nI mi), .int (nI mt), .int (nI mg), .int (nI ms), .int sd, .null])), (r, .inr (6, [.int rh, .int rl, .ref st, .null, .null, .int hp, .int tp, .int 0, .int 0, .int 0, .ref rf, .int 0])), (st, .inr (8, [.ref ml, .ref ck])), (ck, .inr (1, [.ref ce, .null])), (ce, .inl (cJ, 128, .inr (.inl fE)))] ∧ ev U)) (va_Qv (fun _ : Unit => True) (fun (_ : Unit) (t : State) => ∃ (fE2 : Nat → Int64), va_P (dC, dI) vwCl [(nd, .inr (5, [.int nh, .int nl, .int nwa, .int nfr, .int (nI nwi), .ref r, .ref nt, .ref ns, .ref ib, .ref gs, .ref cs, .ref nu, .int 0, .int 2, .int (nI nad), .int (nI ncc), .int 0, .int 0])), (ns, .inr (7, [.int 1, .int 1, .int (nI (tm + 1250)), .ref mm])), (mm, .inr (4, [.int (nI mi), .int (nI mt), .int (nI mg), .int (nI ms), .int sd, .null])), (r, .inr (6, [.int rh, .int rl, .ref st, .ref ck, .ref ck, .int 0, .int 1, .int 1, .int 0, .int 0, .ref rf, .int 0])), (st, .inr (8, [.ref ml, .null])), (ck, .inr (1, [.ref ce, .null])), (ce, .inl (cJ, 128, .inr (.inl fE2)))] t.heap ∧ va_K (dC, dI) vwCl [(cJ, .long)] t ∧ va_D (va_A [(nd, .inr (5, [.int nh, .int nl, .int nwa, .int nfr, .int (nI nwi), .ref r, .ref nt, .ref ns, .ref ib, .ref gs, .ref cs, .ref nu, .int 0, .int 2, .int (nI nad), .int (nI ncc), .int 0, .int 0])), (ns, .inr (7, [.int sst, .int snp, .int sdo, .null])), (mm, .inr (4, [.int (nI mi), .int (nI mt), .int (nI mg), .int (nI ms), .int sd, .null])), (r, .inr (6, [.int rh, .int rl, .ref st, .null, .null, .int hp, .int tp, .int 0, .int 0, .int 0, .ref rf, .int 0])), (st, .inr (8, [.ref ml, .ref ck])), (ck, .inr (1, [.ref ce, .null])), (ce, .inl (cJ, 128, .inr (.inl fE)))] sz) [(nd, .inr (5, [.int nh, .int nl, .int nwa, .int nfr, .int (nI nwi), .ref r, .ref nt, .ref ns, .ref ib, .ref gs, .ref cs, .ref nu, .int 0, .int 2, .int (nI nad), .int (nI ncc), .int 0, .int 0])), (ns, .inr (7, [.int 1, .int 1, .int (nI (tm + 1250)), .ref mm])), (mm, .inr (4, [.int (nI mi), .int (nI mt), .int (nI mg), .int (nI ms), .int sd, .null])), (r, .inr (6, [.int rh, .int rl, .ref st, .ref ck, .ref ck, .int 0, .int 1, .int 1, .int 0, .int 0, .ref rf, .int 0])), (st, .inr (8, [.ref ml, .null])), (ck, .inr (1, [.ref ce, .null])), (ce, .inl (cJ, 128, .inr (.inl fE2)))] ∧ ((fE2 0).toInt32 = (nI (16777216 * mt + 65536 * 16 + 256 * nwi + 0))) ∧ ((fE2 0 >>> ((32 : Int32).toInt64 &&& 63)).toInt32 = (nI mi))) (va_A [(nd, .inr (5, [.int nh, .int nl, .int nwa, .int nfr, .int (nI nwi), .ref r, .ref nt, .ref ns, .ref ib, .ref gs, .ref cs, .ref nu, .int 0, .int 2, .int (nI nad), .int (nI ncc), .int 0, .int 0])), (ns, .inr (7, [.int sst, .int snp, .int sdo, .null])), (mm, .inr (4, [.int (nI mi), .int (nI mt), .int (nI mg), .int (nI ms), .int sd, .null])), (r, .inr (6, [.int rh, .int rl, .ref st, .null, .null, .int hp, .int tp, .int 0, .int 0, .int 0, .ref rf, .int 0])), (st, .inr (8, [.ref ml, .ref ck])), (ck, .inr (1, [.ref ce, .null])), (ce, .inl (cJ, 128, .inr (.inl fE)))] sz)) 0 0 (va_A [(nd, .inr (5, [.int nh, .int nl, .int nwa, .int nfr, .int (nI nwi), .ref r, .ref nt, .ref ns, .ref ib, .ref gs, .ref cs, .ref nu, .int 0, .int 2, .int (nI nad), .int (nI ncc), .int 0, .int 0])), (ns, .inr (7, [.int sst, .int snp, .int sdo, .null])), (mm, .inr (4, [.int (nI mi), .int (nI mt), .int (nI mg), .int (nI ms), .int sd, .null])), (r, .inr (6, [.int rh, .int rl, .ref st, .null, .null, .int hp, .int tp, .int 0, .int 0, .int 0, .ref rf, .int 0])), (st, .inr (8, [.ref ml, .ref ck])), (ck, .inr (1, [.ref ce, .null])), (ce, .inl (cJ, 128, .inr (.inl fE)))] sz) := by
  refine Met.ofW (cc := cX4_beginSending) (maxL := 3) (ret := none) (by decide) rfl ?_
  intro p e s m args below meth c s₁ B hml hv
  obtain ⟨rfl, hsz, hP, hK, hD0, hE⟩ := hv
  have hx := B.exec
  have hb := B.bytes
  have hr := B.returns
  have hts := atoms_spec (ws := v_c_beginSending_one_cN) B.pre
  have hown : s.vm.findClass RX4 = some m.cls := findClass_of_methodNamed B.named
  have hlocks := B.notSynchronized
  subst hsz
  have hD := hD0.self (sz := s.heap.size)
  generalize hAe : va_A [(nd, .inr (5, [.int nh, .int nl, .int nwa, .int nfr, .int (nI nwi), .ref r, .ref nt, .ref ns, .ref ib, .ref gs, .ref cs, .ref nu, .int 0, .int 2, .int (nI nad), .int (nI ncc), .int 0, .int 0])), (ns, .inr (7, [.int sst, .int snp, .int sdo, .null])), (mm, .inr (4, [.int (nI mi), .int (nI mt), .int (nI mg), .int (nI ms), .int sd, .null])), (r, .inr (6, [.int rh, .int rl, .ref st, .null, .null, .int hp, .int tp, .int 0, .int 0, .int 0, .ref rf, .int 0])), (st, .inr (8, [.ref ml, .ref ck])), (ck, .inr (1, [.ref ce, .null])), (ce, .inl (cJ, 128, .inr (.inl fE)))] s.heap.size = A at hD ⊢
  have hA : ∀ q : Nat, s.heap.size ≤ q → A q := fun q h => by rw [← hAe]; exact Or.inr h
  have hS : va_S A s.heap s.heap [] := va_S.rf
  replace hP : va_P (dC, dI) vwCl [(nd, .inr (5, [.int nh, .int nl, .int nwa, .int nfr, .int (nI nwi), .ref r, .ref nt, .ref ns, .ref ib, .ref gs, .ref cs, .ref nu, .int 0, .int 2, .int (nI nad), .int (nI ncc), .int 0, .int 0])), (ns, .inr (7, [.int sst, .int snp, .int sdo, .null])), (mm, .inr (4, [.int (nI mi), .int (nI mt), .int (nI mg), .int (nI ms), .int sd, .null])), (r, .inr (6, [.int rh, .int rl, .ref st, .null, .null, .int hp, .int tp, .int 0, .int 0, .int 0, .ref rf, .int 0])), (st, .inr (8, [.ref ml, .ref ck])), (ck, .inr (1, [.ref ce, .null])), (ce, .inl (cJ, 128, .inr (.inl fE)))] s.heap := hP
  have hl := lv_entry ([.ref nd, .ref mm, .int (nI tm)]) (n := 3) (Nat.le_of_ble_eq_true rfl)
  rw [lg_entry_eq]
  generalize (lg_sl ([.ref nd, .ref mm, .int (nI tm)]) ++ List.replicate (3 - (lg_sl ([.ref nd, .ref mm, .int (nI tm)])).length) Slot.unset).toArray = ls at hl ⊢
  replace hl : lv_has ls 3 [(0, .ref nd), (1, .ref mm), (2, .int (nI tm))] := hl
  obtain ⟨H, hH⟩ : ∃ z : Heap, z = s.heap := ⟨_, rfl⟩
  rw [← hH]
  replace hS : va_S A s.heap H [] := by rw [hH]; exact va_S.rf
  replace hP : va_P (dC, dI) vwCl [(nd, .inr (5, [.int nh, .int nl, .int nwa, .int nfr, .int (nI nwi), .ref r, .ref nt, .ref ns, .ref ib, .ref gs, .ref cs, .ref nu, .int 0, .int 2, .int (nI nad), .int (nI ncc), .int 0, .int 0])), (ns, .inr (7, [.int sst, .int snp, .int sdo, .null])), (mm, .inr (4, [.int (nI mi), .int (nI mt), .int (nI mg), .int (nI ms), .int sd, .null])), (r, .inr (6, [.int rh, .int rl, .ref st, .null, .null, .int hp, .int tp, .int 0, .int 0, .int 0, .ref rf, .int 0])), (st, .inr (8, [.ref ml, .ref ck])), (ck, .inr (1, [.ref ce, .null])), (ce, .inl (cJ, 128, .inr (.inl fE)))] H := by rw [hH]; exact hP
  clear hH
  refine lv_aload_n hx hb dX4_beginSending_0 rfl (lv_at hl 0 rfl) ?_
  refine va_get (D := (dC, dI)) (ci := 5) (v := .ref ns) (C := RX4) (T := TX4) (N := 18) hx hb hts in_c_beginSending_one_cN_X4 hown hK hP 0 rfl rfl 7 (by decide) (hts (.fieldLink RX4 21 "ClaimBus$Node" "sending" "LClaimBus$Sending;") (List.mem_of_getElem? (i := 1) rfl)) (fun _ h9 => h9) rfl dX4_beginSending_1 ?_
  refine lv_aload_n hx hb dX4_beginSending_4 rfl (lv_at hl 1 rfl) ?_
  refine va_put (D := (dC, dI)) (ci := 7) (v := .ref mm) (ty := (.object "ClaimBus$Message")) (C := RX6) (T := TX6) (N := 4) hx hb hts in_c_beginSending_one_cN_X6 tyX6 tyX6_ok nmX6 hown hK hP hD hS 1 rfl rfl 3 (by decide) (hts (.fieldLink RX4 122 "ClaimBus$Sending" "whole" "LClaimBus$Message;") (List.mem_of_getElem? (i := 2) rfl)) (fun _ h9 => h9) rfl (by decide +kernel) rfl rfl (Nat.le_of_ble_eq_true rfl) dX4_beginSending_5 (fun H locs hP hD hS => ?_)
  replace hP : va_P (dC, dI) vwCl [(nd, .inr (5, [.int nh, .int nl, .int nwa, .int nfr, .int (nI nwi), .ref r, .ref nt, .ref ns, .ref ib, .ref gs, .ref cs, .ref nu, .int 0, .int 2, .int (nI nad), .int (nI ncc), .int 0, .int 0])), (ns, .inr (7, [.int sst, .int snp, .int sdo, .ref mm])), (mm, .inr (4, [.int (nI mi), .int (nI mt), .int (nI mg), .int (nI ms), .int sd, .null])), (r, .inr (6, [.int rh, .int rl, .ref st, .null, .null, .int hp, .int tp, .int 0, .int 0, .int 0, .ref rf, .int 0])), (st, .inr (8, [.ref ml, .ref ck])), (ck, .inr (1, [.ref ce, .null])), (ce, .inl (cJ, 128, .inr (.inl fE)))] H := hP
  replace hD : va_D A [(nd, .inr (5, [.int nh, .int nl, .int nwa, .int nfr, .int (nI nwi), .ref r, .ref nt, .ref ns, .ref ib, .ref gs, .ref cs, .ref nu, .int 0, .int 2, .int (nI nad), .int (nI ncc), .int 0, .int 0])), (ns, .inr (7, [.int sst, .int snp, .int sdo, .ref mm])), (mm, .inr (4, [.int (nI mi), .int (nI mt), .int (nI mg), .int (nI ms), .int sd, .null])), (r, .inr (6, [.int rh, .int rl, .ref st, .null, .null, .int hp, .int tp, .int 0, .int 0, .int 0, .ref rf, .int 0])), (st, .inr (8, [.ref ml, .ref ck])), (ck, .inr (1, [.ref ce, .null])), (ce, .inl (cJ, 128, .inr (.inl fE)))] := hD
  refine lv_aload_n hx hb dX4_beginSending_8 rfl (lv_at hl 0 rfl) ?_
  refine va_get (D := (dC, dI)) (ci := 5) (v := .ref ns) (C := RX4) (T := TX4) (N := 18) hx hb hts in_c_beginSending_one_cN_X4 hown hK hP 0 rfl rfl 7 (by decide) (hts (.fieldLink RX4 21 "ClaimBus$Node" "sending" "LClaimBus$Sending;") (List.mem_of_getElem? (i := 1) rfl)) (fun _ h9 => h9) rfl dX4_beginSending_9 ?_
  refine lv_iconst (v := 1) hx hb dX4_beginSending_12 (by decide) ?_
  refine va_put (D := (dC, dI)) (ci := 7) (v := .int 1) (ty := .int) (C := RX6) (T := TX6) (N := 4) hx hb hts in_c_beginSending_one_cN_X6 tyX6 tyX6_ok nmX6 hown hK hP hD hS 1 rfl rfl 1 (by decide) (hts (.fieldLink RX4 126 "ClaimBus$Sending" "nextPacket" "I") (List.mem_of_getElem? (i := 3) rfl)) (fun _ h9 => h9) rfl (by decide +kernel) rfl rfl (Nat.le_of_ble_eq_true rfl) dX4_beginSending_13 (fun H locs hP hD hS => ?_)
  replace hP : va_P (dC, dI) vwCl [(nd, .inr (5, [.int nh, .int nl, .int nwa, .int nfr, .int (nI nwi), .ref r, .ref nt, .ref ns, .ref ib, .ref gs, .ref cs, .ref nu, .int 0, .int 2, .int (nI nad), .int (nI ncc), .int 0, .int 0])), (ns, .inr (7, [.int sst, .int 1, .int sdo, .ref mm])), (mm, .inr (4, [.int (nI mi), .int (nI mt), .int (nI mg), .int (nI ms), .int sd, .null])), (r, .inr (6, [.int rh, .int rl, .ref st, .null, .null, .int hp, .int tp, .int 0, .int 0, .int 0, .ref rf, .int 0])), (st, .inr (8, [.ref ml, .ref ck])), (ck, .inr (1, [.ref ce, .null])), (ce, .inl (cJ, 128, .inr (.inl fE)))] H := hP
  replace hD : va_D A [(nd, .inr (5, [.int nh, .int nl, .int nwa, .int nfr, .int (nI nwi), .ref r, .ref nt, .ref ns, .ref ib, .ref gs, .ref cs, .ref nu, .int 0, .int 2, .int (nI nad), .int (nI ncc), .int 0, .int 0])), (ns, .inr (7, [.int sst, .int 1, .int sdo, .ref mm])), (mm, .inr (4, [.int (nI mi), .int (nI mt), .int (nI mg), .int (nI ms), .int sd, .null])), (r, .inr (6, [.int rh, .int rl, .ref st, .null, .null, .int hp, .int tp, .int 0, .int 0, .int 0, .ref rf, .int 0])), (st, .inr (8, [.ref ml, .ref ck])), (ck, .inr (1, [.ref ce, .null])), (ce, .inl (cJ, 128, .inr (.inl fE)))] := hD
  refine lv_aload_n hx hb dX4_beginSending_16 rfl (lv_at hl 1 rfl) ?_
  refine va_get (D := (dC, dI)) (ci := 4) (v := .int (nI ms)) (C := RX3) (T := TX3) (N := 6) hx hb hts in_c_beginSending_one_cN_X3 hown hK hP 2 rfl rfl 3 (by decide) (hts (.fieldLink RX4 129 "ClaimBus$Message" "size" "I") (List.mem_of_getElem? (i := 4) rfl)) (fun _ h9 => h9) rfl dX4_beginSending_17 ?_
  refine lv_bipush (v := 8) hx hb dX4_beginSending_20 (by decide) ?_
  refine lv_icmp_gt (tgt := 49) hx hb dX4_beginSending_22 (by decide) (fun c_1 => ?_) (fun c_1 => ?_)
  rotate_left
  · exact absurd ((nI_ltI (a := 8) (b := ms) (by omega) (by omega)).mpr (by omega)) c_1
  refine lv_aload_n hx hb dX4_beginSending_49 rfl (lv_at hl 1 rfl) ?_
  refine va_get (D := (dC, dI)) (ci := 4) (v := .int (nI mt)) (C := RX3) (T := TX3) (N := 6) hx hb hts in_c_beginSending_one_cN_X3 hown hK hP 2 rfl rfl 1 (by decide) (hts (.fieldLink RX4 133 "ClaimBus$Message" "to" "I") (List.mem_of_getElem? (i := 5) rfl)) (fun _ h9 => h9) rfl dX4_beginSending_50 ?_
  refine lv_sipush (v := 255) hx hb dX4_beginSending_53 (by decide) ?_
  refine lv_icmp_ne (tgt := 90) hx hb dX4_beginSending_56 (by decide) (fun c_2 => ?_) (fun c_2 => ?_)
  rotate_left
  · exact absurd ((nI_eq (a := mt) (b := 255) (by omega) (by omega)).mp c_2) (by omega)
  refine lv_aload_n hx hb dX4_beginSending_90 rfl (lv_at hl 0 rfl) ?_
  refine va_get (D := (dC, dI)) (ci := 5) (v := .ref r) (C := RX4) (T := TX4) (N := 18) hx hb hts in_c_beginSending_one_cN_X4 hown hK hP 0 rfl rfl 5 (by decide) (hts (.fieldLink RX4 89 "ClaimBus$Node" "row" "LClaimBus$Row;") (List.mem_of_getElem? (i := 6) rfl)) (fun _ h9 => h9) rfl dX4_beginSending_91 ?_
  refine lv_aload_n hx hb dX4_beginSending_94 rfl (lv_at hl 1 rfl) ?_
  refine lv_aload_n hx hb dX4_beginSending_95 rfl (lv_at hl 1 rfl) ?_
  refine va_get (D := (dC, dI)) (ci := 4) (v := .int (nI mt)) (C := RX3) (T := TX3) (N := 6) hx hb hts in_c_beginSending_one_cN_X3 hown hK hP 2 rfl rfl 1 (by decide) (hts (.fieldLink RX4 133 "ClaimBus$Message" "to" "I") (List.mem_of_getElem? (i := 5) rfl)) (fun _ h9 => h9) rfl dX4_beginSending_96 ?_
  refine lv_bipush (v := 16) hx hb dX4_beginSending_99 (by decide) ?_
  refine lv_aload_n hx hb dX4_beginSending_101 rfl (lv_at hl 0 rfl) ?_
  refine va_get (D := (dC, dI)) (ci := 5) (v := .int (nI nwi)) (C := RX4) (T := TX4) (N := 18) hx hb hts in_c_beginSending_one_cN_X4 hown hK hP 0 rfl rfl 4 (by decide) (hts (.fieldLink RX4 78 "ClaimBus$Node" "window" "I") (List.mem_of_getElem? (i := 7) rfl)) (fun _ h9 => h9) rfl dX4_beginSending_102 ?_
  refine lv_iconst (v := 0) hx hb dX4_beginSending_105 (by decide) ?_
  have hPc := hP.sub (ws' := [(r, .inr (6, [.int rh, .int rl, .ref st, .null, .null, .int hp, .int tp, .int 0, .int 0, .int 0, .ref rf, .int 0])), (st, .inr (8, [.ref ml, .ref ck])), (ck, .inr (1, [.ref ce, .null])), (ce, .inl (cJ, 128, .inr (.inl fE))), (mm, .inr (4, [.int (nI mi), .int (nI mt), .int (nI mg), .int (nI ms), .int sd, .null]))]) [3, 4, 5, 6, 2] rfl
  have hDc := hD.sub (ws' := [(r, .inr (6, [.int rh, .int rl, .ref st, .null, .null, .int hp, .int tp, .int 0, .int 0, .int 0, .ref rf, .int 0])), (st, .inr (8, [.ref ml, .ref ck])), (ck, .inr (1, [.ref ce, .null])), (ce, .inl (cJ, 128, .inr (.inl fE))), (mm, .inr (4, [.int (nI mi), .int (nI mt), .int (nI mg), .int (nI ms), .int sd, .null]))]) [3, 4, 5, 6, 2] (by decide +kernel) rfl
  have hKc := hK.sub (tys' := [(cJ, .long)]) [0] rfl
  have hFc := va_free (wc := [(r, .inr (6, [.int rh, .int rl, .ref st, .null, .null, .int hp, .int tp, .int 0, .int 0, .int 0, .ref rf, .int 0])), (st, .inr (8, [.ref ml, .ref ck])), (ck, .inr (1, [.ref ce, .null])), (ce, .inl (cJ, 128, .inr (.inl fE))), (mm, .inr (4, [.int (nI mi), .int (nI mt), .int (nI mg), .int (nI ms), .int sd, .null]))]) hD hS hA [3, 4, 5, 6, 2] rfl
  refine va_callv (va_runV (As := [.ref mm, .int (nI mt), .int 16, .int (nI nwi), .int 0]) (rest := []) ⟨hx, hb, hml, hown, hts⟩ (c_put_c l dC dI (r) (rh) (rl) (st) (rf) (hp) (tp) (ml) (ck) (ce) (cJ) (fE) (mm) (mi) (mt) (mg) (ms) (sd) (mt) (16) (nwi) (0) H.size hmt (by omega) (by omega) (by omega) hmi (by omega)) (cwV 5 hts g_c_beginSending_one_cN_c_put_c_136 rfl rfl rfl (by decide +kernel) ⟨Nat.le_of_ble_eq_true rfl, Nat.le_of_ble_eq_true rfl⟩) ⟨fun a U g mk q => by obtain ⟨q0, q1, qP, qK, qD, qE⟩ := q; exact ⟨q0, q1, qP, va_K.moved (u := U) (U := U.calling g mk a) (Vm.Alike.refl U.vm) qK, qD, ev.same (u := U) (U := U.calling g mk a) rfl qE⟩, va_recv hKc hPc (ci := 6) (q0 := 0) rfl rfl, fun U hU hW => ⟨rfl, by rw [hU], by rw [hU]; exact hPc, va_K.moved hW.alike hKc, hDc.weaken (fun _ _ _ _ => trivial), hE.warm hW⟩⟩ rfl rfl hl.1 rfl (lv_room (Nat.le_of_ble_eq_true rfl)) dX4_beginSending_106 ⟨Nat.le_of_ble_eq_true rfl, Nat.le_of_ble_eq_true rfl⟩) hS (fun q _ h => hFc q h) hFc (fun u t H1 locs ht hvm hw hB hz1 hk1 hS => ?_)
  clear hPc hDc hKc
  obtain ⟨fE2_3, hP1, hK1, hD1, hlo_3, hhi_3⟩ := hB
  rw [ht] at hP1
  have hK1 := va_K.moved hvm.symm hK1
  obtain ⟨hP, hD⟩ := va_join (wr := [(nd, .inr (5, [.int nh, .int nl, .int nwa, .int nfr, .int (nI nwi), .ref r, .ref nt, .ref ns, .ref ib, .ref gs, .ref cs, .ref nu, .int 0, .int 2, .int (nI nad), .int (nI ncc), .int 0, .int 0])), (ns, .inr (7, [.int sst, .int 1, .int sdo, .ref mm]))]) (w1 := [(r, .inr (6, [.int rh, .int rl, .ref st, .ref ck, .ref ck, .int 0, .int 1, .int 1, .int 0, .int 0, .ref rf, .int 0])), (st, .inr (8, [.ref ml, .null])), (ck, .inr (1, [.ref ce, .null])), (ce, .inl (cJ, 128, .inr (.inl fE2_3))), (mm, .inr (4, [.int (nI mi), .int (nI mt), .int (nI mg), .int (nI ms), .int sd, .null]))]) hP hD [3, 4, 5, 6, 2] [0, 1] rfl rfl (by decide +kernel) (by decide +kernel) hk1 hFc hP1 hD1
  generalize H1 = H at hP hS ⊢
  replace hP : va_P (dC, dI) vwCl [(nd, .inr (5, [.int nh, .int nl, .int nwa, .int nfr, .int (nI nwi), .ref r, .ref nt, .ref ns, .ref ib, .ref gs, .ref cs, .ref nu, .int 0, .int 2, .int (nI nad), .int (nI ncc), .int 0, .int 0])), (ns, .inr (7, [.int sst, .int 1, .int sdo, .ref mm])), (r, .inr (6, [.int rh, .int rl, .ref st, .ref ck, .ref ck, .int 0, .int 1, .int 1, .int 0, .int 0, .ref rf, .int 0])), (st, .inr (8, [.ref ml, .null])), (ck, .inr (1, [.ref ce, .null])), (ce, .inl (cJ, 128, .inr (.inl fE2_3))), (mm, .inr (4, [.int (nI mi), .int (nI mt), .int (nI mg), .int (nI ms), .int sd, .null]))] H := hP
  replace hD : va_D A [(nd, .inr (5, [.int nh, .int nl, .int nwa, .int nfr, .int (nI nwi), .ref r, .ref nt, .ref ns, .ref ib, .ref gs, .ref cs, .ref nu, .int 0, .int 2, .int (nI nad), .int (nI ncc), .int 0, .int 0])), (ns, .inr (7, [.int sst, .int 1, .int sdo, .ref mm])), (r, .inr (6, [.int rh, .int rl, .ref st, .ref ck, .ref ck, .int 0, .int 1, .int 1, .int 0, .int 0, .ref rf, .int 0])), (st, .inr (8, [.ref ml, .null])), (ck, .inr (1, [.ref ce, .null])), (ce, .inl (cJ, 128, .inr (.inl fE2_3))), (mm, .inr (4, [.int (nI mi), .int (nI mt), .int (nI mg), .int (nI ms), .int sd, .null]))] := hD
  clear hw
  refine lv_aload_n hx hb dX4_beginSending_109 rfl (lv_at hl 0 rfl) ?_
  refine va_get (D := (dC, dI)) (ci := 5) (v := .ref ns) (C := RX4) (T := TX4) (N := 18) hx hb hts in_c_beginSending_one_cN_X4 hown hK hP 0 rfl rfl 7 (by decide) (hts (.fieldLink RX4 21 "ClaimBus$Node" "sending" "LClaimBus$Sending;") (List.mem_of_getElem? (i := 1) rfl)) (fun _ h9 => h9) rfl dX4_beginSending_110 ?_
  refine lv_iload_n hx hb dX4_beginSending_113 rfl (lv_at hl 2 rfl) ?_
  refine lv_sipush (v := 1250) hx hb dX4_beginSending_114 (by decide) ?_
  refine lv_iadd hx hb dX4_beginSending_117 ?_
  refine lv_topi (fun x_4 ex_4 => ?_)
  obtain rfl : x_4 = (nI (tm + 1250)) := ex_4.trans ((nI_add tm 1250).trans (show nI (tm + 1250) = nI (tm + 1250) from congrArg nI (by omega)))
  refine va_put (D := (dC, dI)) (ci := 7) (v := .int (nI (tm + 1250))) (ty := .int) (C := RX6) (T := TX6) (N := 4) hx hb hts in_c_beginSending_one_cN_X6 tyX6 tyX6_ok nmX6 hown hK hP hD hS 1 rfl rfl 2 (by decide) (hts (.fieldLink RX4 140 "ClaimBus$Sending" "due" "I") (List.mem_of_getElem? (i := 12) rfl)) (fun _ h9 => h9) rfl (by decide +kernel) rfl rfl (Nat.le_of_ble_eq_true rfl) dX4_beginSending_118 (fun H locs hP hD hS => ?_)
  replace hP : va_P (dC, dI) vwCl [(nd, .inr (5, [.int nh, .int nl, .int nwa, .int nfr, .int (nI nwi), .ref r, .ref nt, .ref ns, .ref ib, .ref gs, .ref cs, .ref nu, .int 0, .int 2, .int (nI nad), .int (nI ncc), .int 0, .int 0])), (ns, .inr (7, [.int sst, .int 1, .int (nI (tm + 1250)), .ref mm])), (r, .inr (6, [.int rh, .int rl, .ref st, .ref ck, .ref ck, .int 0, .int 1, .int 1, .int 0, .int 0, .ref rf, .int 0])), (st, .inr (8, [.ref ml, .null])), (ck, .inr (1, [.ref ce, .null])), (ce, .inl (cJ, 128, .inr (.inl fE2_3))), (mm, .inr (4, [.int (nI mi), .int (nI mt), .int (nI mg), .int (nI ms), .int sd, .null]))] H := hP
  replace hD : va_D A [(nd, .inr (5, [.int nh, .int nl, .int nwa, .int nfr, .int (nI nwi), .ref r, .ref nt, .ref ns, .ref ib, .ref gs, .ref cs, .ref nu, .int 0, .int 2, .int (nI nad), .int (nI ncc), .int 0, .int 0])), (ns, .inr (7, [.int sst, .int 1, .int (nI (tm + 1250)), .ref mm])), (r, .inr (6, [.int rh, .int rl, .ref st, .ref ck, .ref ck, .int 0, .int 1, .int 1, .int 0, .int 0, .ref rf, .int 0])), (st, .inr (8, [.ref ml, .null])), (ck, .inr (1, [.ref ce, .null])), (ce, .inl (cJ, 128, .inr (.inl fE2_3))), (mm, .inr (4, [.int (nI mi), .int (nI mt), .int (nI mg), .int (nI ms), .int sd, .null]))] := hD
  refine lv_aload_n hx hb dX4_beginSending_121 rfl (lv_at hl 0 rfl) ?_
  refine va_get (D := (dC, dI)) (ci := 5) (v := .ref ns) (C := RX4) (T := TX4) (N := 18) hx hb hts in_c_beginSending_one_cN_X4 hown hK hP 0 rfl rfl 7 (by decide) (hts (.fieldLink RX4 21 "ClaimBus$Node" "sending" "LClaimBus$Sending;") (List.mem_of_getElem? (i := 1) rfl)) (fun _ h9 => h9) rfl dX4_beginSending_122 ?_
  refine lv_iconst (v := 1) hx hb dX4_beginSending_125 (by decide) ?_
  refine va_put (D := (dC, dI)) (ci := 7) (v := .int 1) (ty := .int) (C := RX6) (T := TX6) (N := 4) hx hb hts in_c_beginSending_one_cN_X6 tyX6 tyX6_ok nmX6 hown hK hP hD hS 1 rfl rfl 0 (by decide) (hts (.fieldLink RX4 121 "ClaimBus$Sending" "state" "I") (List.mem_of_getElem? (i := 13) rfl)) (fun _ h9 => h9) rfl (by decide +kernel) rfl rfl (Nat.le_of_ble_eq_true rfl) dX4_beginSending_126 (fun H locs hP hD hS => ?_)
  replace hP : va_P (dC, dI) vwCl [(nd, .inr (5, [.int nh, .int nl, .int nwa, .int nfr, .int (nI nwi), .ref r, .ref nt, .ref ns, .ref ib, .ref gs, .ref cs, .ref nu, .int 0, .int 2, .int (nI nad), .int (nI ncc), .int 0, .int 0])), (ns, .inr (7, [.int 1, .int 1, .int (nI (tm + 1250)), .ref mm])), (r, .inr (6, [.int rh, .int rl, .ref st, .ref ck, .ref ck, .int 0, .int 1, .int 1, .int 0, .int 0, .ref rf, .int 0])), (st, .inr (8, [.ref ml, .null])), (ck, .inr (1, [.ref ce, .null])), (ce, .inl (cJ, 128, .inr (.inl fE2_3))), (mm, .inr (4, [.int (nI mi), .int (nI mt), .int (nI mg), .int (nI ms), .int sd, .null]))] H := hP
  replace hD : va_D A [(nd, .inr (5, [.int nh, .int nl, .int nwa, .int nfr, .int (nI nwi), .ref r, .ref nt, .ref ns, .ref ib, .ref gs, .ref cs, .ref nu, .int 0, .int 2, .int (nI nad), .int (nI ncc), .int 0, .int 0])), (ns, .inr (7, [.int 1, .int 1, .int (nI (tm + 1250)), .ref mm])), (r, .inr (6, [.int rh, .int rl, .ref st, .ref ck, .ref ck, .int 0, .int 1, .int 1, .int 0, .int 0, .ref rf, .int 0])), (st, .inr (8, [.ref ml, .null])), (ck, .inr (1, [.ref ce, .null])), (ce, .inl (cJ, 128, .inr (.inl fE2_3))), (mm, .inr (4, [.int (nI mi), .int (nI mt), .int (nI mg), .int (nI ms), .int sd, .null]))] := hD
  have hP9 := hP.sub (ws' := [(nd, .inr (5, [.int nh, .int nl, .int nwa, .int nfr, .int (nI nwi), .ref r, .ref nt, .ref ns, .ref ib, .ref gs, .ref cs, .ref nu, .int 0, .int 2, .int (nI nad), .int (nI ncc), .int 0, .int 0])), (ns, .inr (7, [.int 1, .int 1, .int (nI (tm + 1250)), .ref mm])), (mm, .inr (4, [.int (nI mi), .int (nI mt), .int (nI mg), .int (nI ms), .int sd, .null])), (r, .inr (6, [.int rh, .int rl, .ref st, .ref ck, .ref ck, .int 0, .int 1, .int 1, .int 0, .int 0, .ref rf, .int 0])), (st, .inr (8, [.ref ml, .null])), (ck, .inr (1, [.ref ce, .null])), (ce, .inl (cJ, 128, .inr (.inl fE2_3)))]) [0, 1, 6, 2, 3, 4, 5] rfl
  have hD9 := hD.sub (ws' := [(nd, .inr (5, [.int nh, .int nl, .int nwa, .int nfr, .int (nI nwi), .ref r, .ref nt, .ref ns, .ref ib, .ref gs, .ref cs, .ref nu, .int 0, .int 2, .int (nI nad), .int (nI ncc), .int 0, .int 0])), (ns, .inr (7, [.int 1, .int 1, .int (nI (tm + 1250)), .ref mm])), (mm, .inr (4, [.int (nI mi), .int (nI mt), .int (nI mg), .int (nI ms), .int sd, .null])), (r, .inr (6, [.int rh, .int rl, .ref st, .ref ck, .ref ck, .int 0, .int 1, .int 1, .int 0, .int 0, .ref rf, .int 0])), (st, .inr (8, [.ref ml, .null])), (ck, .inr (1, [.ref ce, .null])), (ce, .inl (cJ, 128, .inr (.inl fE2_3)))]) [0, 1, 6, 2, 3, 4, 5] (by decide +kernel) rfl
  have hK9 := hK.sub (tys' := [(cJ, .long)]) [0] rfl
  exact W.vret hx hb hr (fun t ht hW => ⟨⟨(), rfl, trivial, ⟨fE2_3, by rw [ht]; exact hP9, va_K.moved hW.alike hK9, hD9, hlo_3.trans (congrArg nI (by omega)), hhi_3⟩⟩, hS.F ht⟩) hS.2.2 dX4_beginSending_129

noncomputable def tl_c_beginSending_one_c : List Cond := wsX40 ++ (wsX60 ++ (wsX30 ++ (v_c_put_c)))
noncomputable def v_c_beginSending_one_c : List Cond := .code yX4_beginSending cX4_beginSending 3 none :: ([.fieldLink RX4 21 "ClaimBus$Node" "sending" "LClaimBus$Sending;", .fieldLink RX4 122 "ClaimBus$Sending" "whole" "LClaimBus$Message;", .fieldLink RX4 126 "ClaimBus$Sending" "nextPacket" "I", .fieldLink RX4 129 "ClaimBus$Message" "size" "I", .fieldLink RX4 133 "ClaimBus$Message" "to" "I", .fieldLink RX4 89 "ClaimBus$Node" "row" "LClaimBus$Row;", .fieldLink RX4 78 "ClaimBus$Node" "window" "I", .initialized RX5, .methodLink RX4 136 yX5_put, .instanceMethod yX5_put, .selects RX5 yX5_put yX5_put, .fieldLink RX4 140 "ClaimBus$Sending" "due" "I", .fieldLink RX4 121 "ClaimBus$Sending" "state" "I"] ++ tl_c_beginSending_one_c)
theorem it_c_beginSending_one_c : ∀ w ∈ tl_c_beginSending_one_c, w ∈ v_c_beginSending_one_c := fun w h => List.mem_cons_of_mem _ (List.mem_append_right _ h)
theorem in_c_beginSending_one_c_X4 : ∀ w ∈ wsX40, w ∈ v_c_beginSending_one_c := fun w h => it_c_beginSending_one_c w (List.mem_append_left _ h)
theorem in_c_beginSending_one_c_X6 : ∀ w ∈ wsX60, w ∈ v_c_beginSending_one_c := fun w h => it_c_beginSending_one_c w (List.mem_append_right _ (List.mem_append_left _ h))
theorem in_c_beginSending_one_c_X3 : ∀ w ∈ wsX30, w ∈ v_c_beginSending_one_c := fun w h => it_c_beginSending_one_c w (List.mem_append_right _ (List.mem_append_right _ (List.mem_append_left _ h)))
theorem ic_c_beginSending_one_c_c_put_c : ∀ w ∈ v_c_put_c, w ∈ v_c_beginSending_one_c := fun w h => it_c_beginSending_one_c w (List.mem_append_right _ (List.mem_append_right _ (List.mem_append_right _ (h))))
theorem gt_c_beginSending_one_c : ∀ w ∈ tl_c_beginSending_one_c, goodWord w = true := List.forall_mem_append.mpr ⟨gw_wsX40, List.forall_mem_append.mpr ⟨gw_wsX60, List.forall_mem_append.mpr ⟨gw_wsX30, gw_c_put_c⟩⟩⟩
theorem gw_c_beginSending_one_c : ∀ w ∈ v_c_beginSending_one_c, goodWord w = true := List.forall_mem_cons.mpr ⟨by decide +kernel, List.forall_mem_append.mpr ⟨List.all_eq_true.mp (by decide +kernel), gt_c_beginSending_one_c⟩⟩
theorem g_c_beginSending_one_c_c_put_c_136 : GoodIn v_c_beginSending_one_c (wsV RX4 136 RX5 yX5_put v_c_put_c) := goodIn_app (goodIn_r [.methodLink RX4 136 yX5_put, .instanceMethod yX5_put, .selects RX5 yX5_put yX5_put, .initialized RX5] [9, 10, 11, 8] (by decide +kernel) (by decide +kernel)) (fun w h => ⟨ic_c_beginSending_one_c_c_put_c w h, good_of_word (gw_c_put_c w h)⟩)
set_option maxHeartbeats 4000000 in
set_option maxRecDepth 100000 in
/-- Node.beginSending -/
theorem c_beginSending_one_c (l : Launch) (dC : Nat → ClassId) (dI : Nat → Nat → Nat) (nd : Nat) (nh : Int32) (nl : Int32) (nwa : Int32) (nfr : Int32) (nwi : Nat) (r : Nat) (nt : Nat) (ns : Nat) (ib : Nat) (gs : Nat) (cs : Nat) (nu : Nat) (nad : Nat) (ncc : Nat) (rh : Int32) (rl : Int32) (st : Nat) (rf : Nat) (hp : Int32) (tp : Int32) (ml : Nat) (ck : Nat) (ce : Nat) (cJ : ClassId) (fE : Nat → Int64) (mm : Nat) (mi : Nat) (mt : Nat) (mg : Nat) (ms : Nat) (sd : Int32) (sst : Int32) (snp : Int32) (sdo : Int32) (mo : Nat) (tm : Nat) (sz : Nat) (hmi : mi < 8) (hmt : mt < 256) (hmg : mg < 262144) (hms : ms < 1786) (hmt2 : mt ≠ 255) (hms1 : 9 ≤ ms) (hwi : nwi < 17) (htm : tm < 200000) : Met l yX4_beginSending v_c_beginSending_one_c ({ frames := 2, cells := 0, slots := 0, locals := 48 }) (va_Pc [.ref nd, .ref mm, .int (nI tm)] (fun U => U.heap.size = sz ∧ va_P (dC, dI) vwCl [(nd, .inr (5, [.int nh, .int nl, .int nwa, .int nfr, .int (nI nwi), .ref r, .ref nt, .ref ns, .ref ib, .ref gs, .ref cs, .ref nu, .int 0, .int 2, .int (nI nad), .int (nI ncc), .int 0, .int 0])), (ns, .inr (7, [.int sst, .int snp, .int sdo, .ref mo])), (mm, .inr (4, [.int (nI mi), .int (nI mt), .int (nI mg), .int (nI ms), .int sd, .null])), (r, .inr (6, [.int rh, .int rl, .ref st, .null, .null, .int hp, .int tp, .int 0, .int 0, .int 0, .ref rf, .int 0])), (st, .inr (8, [.ref ml, .ref ck])), (ck, .inr (1, [.ref ce, .null])), (ce, .inl (cJ, 128, .inr (.inl fE)))] U.heap ∧ va_K (dC, dI) vwCl [(cJ, .long)] U ∧ va_D (fun _ => True) [(nd, .inr (5, [.int nh, .int nl, .int nwa, .int nfr, .int (nI nwi), .ref r, .ref nt, .ref ns, .ref ib, .ref gs, .ref cs, .ref nu, .int 0, .int 2, .int (nI nad), .int (nI ncc), .int 0, .int 0])), (ns, .inr (7, [.int sst, .int snp, .int sdo, .ref mo])), (mm, .inr (4, [.int (nI mi), .int (nI mt), .int (nI mg), .int (nI ms), .int sd, .null])), (r, .inr (6, [.int rh, .int rl, .ref st, .null, .null, .int hp, .int tp, .int 0, .int 0, .int 0, .ref rf, .int 0])), (st, .inr (8, [.ref ml, .ref ck])), (ck, .inr (1, [.ref ce, .null])), (ce, .inl (cJ, 128, .inr (.inl fE)))] ∧ ev U)) (va_Qv (fun _ : Unit => True) (fun (_ : Unit) (t : State) => ∃ (fE2 : Nat → Int64), va_P (dC, dI) vwCl [(nd, .inr (5, [.int nh, .int nl, .int nwa, .int nfr, .int (nI nwi), .ref r, .ref nt, .ref ns, .ref ib, .ref gs, .ref cs, .ref nu, .int 0, .int 2, .int (nI nad), .int (nI ncc), .int 0, .int 0])), (ns, .inr (7, [.int 1, .int 1, .int (nI (tm + 1250)), .ref mm])), (mm, .inr (4, [.int (nI mi), .int (nI mt), .int (nI mg), .int (nI ms), .int sd, .null])), (r, .inr (6, [.int rh, .int rl, .ref st, .ref ck, .ref ck, .int 0, .int 1, .int 1, .int 0, .int 0, .ref rf, .int 0])), (st, .inr (8, [.ref ml, .null])), (ck, .inr (1, [.ref ce, .null])), (ce, .inl (cJ, 128, .inr (.inl fE2)))] t.heap ∧ va_K (dC, dI) vwCl [(cJ, .long)] t ∧ va_D (va_A [(nd, .inr (5, [.int nh, .int nl, .int nwa, .int nfr, .int (nI nwi), .ref r, .ref nt, .ref ns, .ref ib, .ref gs, .ref cs, .ref nu, .int 0, .int 2, .int (nI nad), .int (nI ncc), .int 0, .int 0])), (ns, .inr (7, [.int sst, .int snp, .int sdo, .ref mo])), (mm, .inr (4, [.int (nI mi), .int (nI mt), .int (nI mg), .int (nI ms), .int sd, .null])), (r, .inr (6, [.int rh, .int rl, .ref st, .null, .null, .int hp, .int tp, .int 0, .int 0, .int 0, .ref rf, .int 0])), (st, .inr (8, [.ref ml, .ref ck])), (ck, .inr (1, [.ref ce, .null])), (ce, .inl (cJ, 128, .inr (.inl fE)))] sz) [(nd, .inr (5, [.int nh, .int nl, .int nwa, .int nfr, .int (nI nwi), .ref r, .ref nt, .ref ns, .ref ib, .ref gs, .ref cs, .ref nu, .int 0, .int 2, .int (nI nad), .int (nI ncc), .int 0, .int 0])), (ns, .inr (7, [.int 1, .int 1, .int (nI (tm + 1250)), .ref mm])), (mm, .inr (4, [.int (nI mi), .int (nI mt), .int (nI mg), .int (nI ms), .int sd, .null])), (r, .inr (6, [.int rh, .int rl, .ref st, .ref ck, .ref ck, .int 0, .int 1, .int 1, .int 0, .int 0, .ref rf, .int 0])), (st, .inr (8, [.ref ml, .null])), (ck, .inr (1, [.ref ce, .null])), (ce, .inl (cJ, 128, .inr (.inl fE2)))] ∧ ((fE2 0).toInt32 = (nI (16777216 * mt + 65536 * 16 + 256 * nwi + 0))) ∧ ((fE2 0 >>> ((32 : Int32).toInt64 &&& 63)).toInt32 = (nI mi))) (va_A [(nd, .inr (5, [.int nh, .int nl, .int nwa, .int nfr, .int (nI nwi), .ref r, .ref nt, .ref ns, .ref ib, .ref gs, .ref cs, .ref nu, .int 0, .int 2, .int (nI nad), .int (nI ncc), .int 0, .int 0])), (ns, .inr (7, [.int sst, .int snp, .int sdo, .ref mo])), (mm, .inr (4, [.int (nI mi), .int (nI mt), .int (nI mg), .int (nI ms), .int sd, .null])), (r, .inr (6, [.int rh, .int rl, .ref st, .null, .null, .int hp, .int tp, .int 0, .int 0, .int 0, .ref rf, .int 0])), (st, .inr (8, [.ref ml, .ref ck])), (ck, .inr (1, [.ref ce, .null])), (ce, .inl (cJ, 128, .inr (.inl fE)))] sz)) 0 0 (va_A [(nd, .inr (5, [.int nh, .int nl, .int nwa, .int nfr, .int (nI nwi), .ref r, .ref nt, .ref ns, .ref ib, .ref gs, .ref cs, .ref nu, .int 0, .int 2, .int (nI nad), .int (nI ncc), .int 0, .int 0])), (ns, .inr (7, [.int sst, .int snp, .int sdo, .ref mo])), (mm, .inr (4, [.int (nI mi), .int (nI mt), .int (nI mg), .int (nI ms), .int sd, .null])), (r, .inr (6, [.int rh, .int rl, .ref st, .null, .null, .int hp, .int tp, .int 0, .int 0, .int 0, .ref rf, .int 0])), (st, .inr (8, [.ref ml, .ref ck])), (ck, .inr (1, [.ref ce, .null])), (ce, .inl (cJ, 128, .inr (.inl fE)))] sz) := by
  refine Met.ofW (cc := cX4_beginSending) (maxL := 3) (ret := none) (by decide) rfl ?_
  intro p e s m args below meth c s₁ B hml hv
  obtain ⟨rfl, hsz, hP, hK, hD0, hE⟩ := hv
  have hx := B.exec
  have hb := B.bytes
  have hr := B.returns
  have hts := atoms_spec (ws := v_c_beginSending_one_c) B.pre
  have hown : s.vm.findClass RX4 = some m.cls := findClass_of_methodNamed B.named
  have hlocks := B.notSynchronized
  subst hsz
  have hD := hD0.self (sz := s.heap.size)
  generalize hAe : va_A [(nd, .inr (5, [.int nh, .int nl, .int nwa, .int nfr, .int (nI nwi), .ref r, .ref nt, .ref ns, .ref ib, .ref gs, .ref cs, .ref nu, .int 0, .int 2, .int (nI nad), .int (nI ncc), .int 0, .int 0])), (ns, .inr (7, [.int sst, .int snp, .int sdo, .ref mo])), (mm, .inr (4, [.int (nI mi), .int (nI mt), .int (nI mg), .int (nI ms), .int sd, .null])), (r, .inr (6, [.int rh, .int rl, .ref st, .null, .null, .int hp, .int tp, .int 0, .int 0, .int 0, .ref rf, .int 0])), (st, .inr (8, [.ref ml, .ref ck])), (ck, .inr (1, [.ref ce, .null])), (ce, .inl (cJ, 128, .inr (.inl fE)))] s.heap.size = A at hD ⊢
  have hA : ∀ q : Nat, s.heap.size ≤ q → A q := fun q h => by rw [← hAe]; exact Or.inr h
  have hS : va_S A s.heap s.heap [] := va_S.rf
  replace hP : va_P (dC, dI) vwCl [(nd, .inr (5, [.int nh, .int nl, .int nwa, .int nfr, .int (nI nwi), .ref r, .ref nt, .ref ns, .ref ib, .ref gs, .ref cs, .ref nu, .int 0, .int 2, .int (nI nad), .int (nI ncc), .int 0, .int 0])), (ns, .inr (7, [.int sst, .int snp, .int sdo, .ref mo])), (mm, .inr (4, [.int (nI mi), .int (nI mt), .int (nI mg), .int (nI ms), .int sd, .null])), (r, .inr (6, [.int rh, .int rl, .ref st, .null, .null, .int hp, .int tp, .int 0, .int 0, .int 0, .ref rf, .int 0])), (st, .inr (8, [.ref ml, .ref ck])), (ck, .inr (1, [.ref ce, .null])), (ce, .inl (cJ, 128, .inr (.inl fE)))] s.heap := hP
  have hl := lv_entry ([.ref nd, .ref mm, .int (nI tm)]) (n := 3) (Nat.le_of_ble_eq_true rfl)
  rw [lg_entry_eq]
  generalize (lg_sl ([.ref nd, .ref mm, .int (nI tm)]) ++ List.replicate (3 - (lg_sl ([.ref nd, .ref mm, .int (nI tm)])).length) Slot.unset).toArray = ls at hl ⊢
  replace hl : lv_has ls 3 [(0, .ref nd), (1, .ref mm), (2, .int (nI tm))] := hl
  obtain ⟨H, hH⟩ : ∃ z : Heap, z = s.heap := ⟨_, rfl⟩
  rw [← hH]
  replace hS : va_S A s.heap H [] := by rw [hH]; exact va_S.rf
  replace hP : va_P (dC, dI) vwCl [(nd, .inr (5, [.int nh, .int nl, .int nwa, .int nfr, .int (nI nwi), .ref r, .ref nt, .ref ns, .ref ib, .ref gs, .ref cs, .ref nu, .int 0, .int 2, .int (nI nad), .int (nI ncc), .int 0, .int 0])), (ns, .inr (7, [.int sst, .int snp, .int sdo, .ref mo])), (mm, .inr (4, [.int (nI mi), .int (nI mt), .int (nI mg), .int (nI ms), .int sd, .null])), (r, .inr (6, [.int rh, .int rl, .ref st, .null, .null, .int hp, .int tp, .int 0, .int 0, .int 0, .ref rf, .int 0])), (st, .inr (8, [.ref ml, .ref ck])), (ck, .inr (1, [.ref ce, .null])), (ce, .inl (cJ, 128, .inr (.inl fE)))] H := by rw [hH]; exact hP
  clear hH
  refine lv_aload_n hx hb dX4_beginSending_0 rfl (lv_at hl 0 rfl) ?_
  refine va_get (D := (dC, dI)) (ci := 5) (v := .ref ns) (C := RX4) (T := TX4) (N := 18) hx hb hts in_c_beginSending_one_c_X4 hown hK hP 0 rfl rfl 7 (by decide) (hts (.fieldLink RX4 21 "ClaimBus$Node" "sending" "LClaimBus$Sending;") (List.mem_of_getElem? (i := 1) rfl)) (fun _ h9 => h9) rfl dX4_beginSending_1 ?_
  refine lv_aload_n hx hb dX4_beginSending_4 rfl (lv_at hl 1 rfl) ?_
  refine va_put (D := (dC, dI)) (ci := 7) (v := .ref mm) (ty := (.object "ClaimBus$Message")) (C := RX6) (T := TX6) (N := 4) hx hb hts in_c_beginSending_one_c_X6 tyX6 tyX6_ok nmX6 hown hK hP hD hS 1 rfl rfl 3 (by decide) (hts (.fieldLink RX4 122 "ClaimBus$Sending" "whole" "LClaimBus$Message;") (List.mem_of_getElem? (i := 2) rfl)) (fun _ h9 => h9) rfl (by decide +kernel) rfl rfl (Nat.le_of_ble_eq_true rfl) dX4_beginSending_5 (fun H locs hP hD hS => ?_)
  replace hP : va_P (dC, dI) vwCl [(nd, .inr (5, [.int nh, .int nl, .int nwa, .int nfr, .int (nI nwi), .ref r, .ref nt, .ref ns, .ref ib, .ref gs, .ref cs, .ref nu, .int 0, .int 2, .int (nI nad), .int (nI ncc), .int 0, .int 0])), (ns, .inr (7, [.int sst, .int snp, .int sdo, .ref mm])), (mm, .inr (4, [.int (nI mi), .int (nI mt), .int (nI mg), .int (nI ms), .int sd, .null])), (r, .inr (6, [.int rh, .int rl, .ref st, .null, .null, .int hp, .int tp, .int 0, .int 0, .int 0, .ref rf, .int 0])), (st, .inr (8, [.ref ml, .ref ck])), (ck, .inr (1, [.ref ce, .null])), (ce, .inl (cJ, 128, .inr (.inl fE)))] H := hP
  replace hD : va_D A [(nd, .inr (5, [.int nh, .int nl, .int nwa, .int nfr, .int (nI nwi), .ref r, .ref nt, .ref ns, .ref ib, .ref gs, .ref cs, .ref nu, .int 0, .int 2, .int (nI nad), .int (nI ncc), .int 0, .int 0])), (ns, .inr (7, [.int sst, .int snp, .int sdo, .ref mm])), (mm, .inr (4, [.int (nI mi), .int (nI mt), .int (nI mg), .int (nI ms), .int sd, .null])), (r, .inr (6, [.int rh, .int rl, .ref st, .null, .null, .int hp, .int tp, .int 0, .int 0, .int 0, .ref rf, .int 0])), (st, .inr (8, [.ref ml, .ref ck])), (ck, .inr (1, [.ref ce, .null])), (ce, .inl (cJ, 128, .inr (.inl fE)))] := hD
  refine lv_aload_n hx hb dX4_beginSending_8 rfl (lv_at hl 0 rfl) ?_
  refine va_get (D := (dC, dI)) (ci := 5) (v := .ref ns) (C := RX4) (T := TX4) (N := 18) hx hb hts in_c_beginSending_one_c_X4 hown hK hP 0 rfl rfl 7 (by decide) (hts (.fieldLink RX4 21 "ClaimBus$Node" "sending" "LClaimBus$Sending;") (List.mem_of_getElem? (i := 1) rfl)) (fun _ h9 => h9) rfl dX4_beginSending_9 ?_
  refine lv_iconst (v := 1) hx hb dX4_beginSending_12 (by decide) ?_
  refine va_put (D := (dC, dI)) (ci := 7) (v := .int 1) (ty := .int) (C := RX6) (T := TX6) (N := 4) hx hb hts in_c_beginSending_one_c_X6 tyX6 tyX6_ok nmX6 hown hK hP hD hS 1 rfl rfl 1 (by decide) (hts (.fieldLink RX4 126 "ClaimBus$Sending" "nextPacket" "I") (List.mem_of_getElem? (i := 3) rfl)) (fun _ h9 => h9) rfl (by decide +kernel) rfl rfl (Nat.le_of_ble_eq_true rfl) dX4_beginSending_13 (fun H locs hP hD hS => ?_)
  replace hP : va_P (dC, dI) vwCl [(nd, .inr (5, [.int nh, .int nl, .int nwa, .int nfr, .int (nI nwi), .ref r, .ref nt, .ref ns, .ref ib, .ref gs, .ref cs, .ref nu, .int 0, .int 2, .int (nI nad), .int (nI ncc), .int 0, .int 0])), (ns, .inr (7, [.int sst, .int 1, .int sdo, .ref mm])), (mm, .inr (4, [.int (nI mi), .int (nI mt), .int (nI mg), .int (nI ms), .int sd, .null])), (r, .inr (6, [.int rh, .int rl, .ref st, .null, .null, .int hp, .int tp, .int 0, .int 0, .int 0, .ref rf, .int 0])), (st, .inr (8, [.ref ml, .ref ck])), (ck, .inr (1, [.ref ce, .null])), (ce, .inl (cJ, 128, .inr (.inl fE)))] H := hP
  replace hD : va_D A [(nd, .inr (5, [.int nh, .int nl, .int nwa, .int nfr, .int (nI nwi), .ref r, .ref nt, .ref ns, .ref ib, .ref gs, .ref cs, .ref nu, .int 0, .int 2, .int (nI nad), .int (nI ncc), .int 0, .int 0])), (ns, .inr (7, [.int sst, .int 1, .int sdo, .ref mm])), (mm, .inr (4, [.int (nI mi), .int (nI mt), .int (nI mg), .int (nI ms), .int sd, .null])), (r, .inr (6, [.int rh, .int rl, .ref st, .null, .null, .int hp, .int tp, .int 0, .int 0, .int 0, .ref rf, .int 0])), (st, .inr (8, [.ref ml, .ref ck])), (ck, .inr (1, [.ref ce, .null])), (ce, .inl (cJ, 128, .inr (.inl fE)))] := hD
  refine lv_aload_n hx hb dX4_beginSending_16 rfl (lv_at hl 1 rfl) ?_
  refine va_get (D := (dC, dI)) (ci := 4) (v := .int (nI ms)) (C := RX3) (T := TX3) (N := 6) hx hb hts in_c_beginSending_one_c_X3 hown hK hP 2 rfl rfl 3 (by decide) (hts (.fieldLink RX4 129 "ClaimBus$Message" "size" "I") (List.mem_of_getElem? (i := 4) rfl)) (fun _ h9 => h9) rfl dX4_beginSending_17 ?_
  refine lv_bipush (v := 8) hx hb dX4_beginSending_20 (by decide) ?_
  refine lv_icmp_gt (tgt := 49) hx hb dX4_beginSending_22 (by decide) (fun c_1 => ?_) (fun c_1 => ?_)
  rotate_left
  · exact absurd ((nI_ltI (a := 8) (b := ms) (by omega) (by omega)).mpr (by omega)) c_1
  refine lv_aload_n hx hb dX4_beginSending_49 rfl (lv_at hl 1 rfl) ?_
  refine va_get (D := (dC, dI)) (ci := 4) (v := .int (nI mt)) (C := RX3) (T := TX3) (N := 6) hx hb hts in_c_beginSending_one_c_X3 hown hK hP 2 rfl rfl 1 (by decide) (hts (.fieldLink RX4 133 "ClaimBus$Message" "to" "I") (List.mem_of_getElem? (i := 5) rfl)) (fun _ h9 => h9) rfl dX4_beginSending_50 ?_
  refine lv_sipush (v := 255) hx hb dX4_beginSending_53 (by decide) ?_
  refine lv_icmp_ne (tgt := 90) hx hb dX4_beginSending_56 (by decide) (fun c_2 => ?_) (fun c_2 => ?_)
  rotate_left
  · exact absurd ((nI_eq (a := mt) (b := 255) (by omega) (by omega)).mp c_2) (by omega)
  refine lv_aload_n hx hb dX4_beginSending_90 rfl (lv_at hl 0 rfl) ?_
  refine va_get (D := (dC, dI)) (ci := 5) (v := .ref r) (C := RX4) (T := TX4) (N := 18) hx hb hts in_c_beginSending_one_c_X4 hown hK hP 0 rfl rfl 5 (by decide) (hts (.fieldLink RX4 89 "ClaimBus$Node" "row" "LClaimBus$Row;") (List.mem_of_getElem? (i := 6) rfl)) (fun _ h9 => h9) rfl dX4_beginSending_91 ?_
  refine lv_aload_n hx hb dX4_beginSending_94 rfl (lv_at hl 1 rfl) ?_
  refine lv_aload_n hx hb dX4_beginSending_95 rfl (lv_at hl 1 rfl) ?_
  refine va_get (D := (dC, dI)) (ci := 4) (v := .int (nI mt)) (C := RX3) (T := TX3) (N := 6) hx hb hts in_c_beginSending_one_c_X3 hown hK hP 2 rfl rfl 1 (by decide) (hts (.fieldLink RX4 133 "ClaimBus$Message" "to" "I") (List.mem_of_getElem? (i := 5) rfl)) (fun _ h9 => h9) rfl dX4_beginSending_96 ?_
  refine lv_bipush (v := 16) hx hb dX4_beginSending_99 (by decide) ?_
  refine lv_aload_n hx hb dX4_beginSending_101 rfl (lv_at hl 0 rfl) ?_
  refine va_get (D := (dC, dI)) (ci := 5) (v := .int (nI nwi)) (C := RX4) (T := TX4) (N := 18) hx hb hts in_c_beginSending_one_c_X4 hown hK hP 0 rfl rfl 4 (by decide) (hts (.fieldLink RX4 78 "ClaimBus$Node" "window" "I") (List.mem_of_getElem? (i := 7) rfl)) (fun _ h9 => h9) rfl dX4_beginSending_102 ?_
  refine lv_iconst (v := 0) hx hb dX4_beginSending_105 (by decide) ?_
  have hPc := hP.sub (ws' := [(r, .inr (6, [.int rh, .int rl, .ref st, .null, .null, .int hp, .int tp, .int 0, .int 0, .int 0, .ref rf, .int 0])), (st, .inr (8, [.ref ml, .ref ck])), (ck, .inr (1, [.ref ce, .null])), (ce, .inl (cJ, 128, .inr (.inl fE))), (mm, .inr (4, [.int (nI mi), .int (nI mt), .int (nI mg), .int (nI ms), .int sd, .null]))]) [3, 4, 5, 6, 2] rfl
  have hDc := hD.sub (ws' := [(r, .inr (6, [.int rh, .int rl, .ref st, .null, .null, .int hp, .int tp, .int 0, .int 0, .int 0, .ref rf, .int 0])), (st, .inr (8, [.ref ml, .ref ck])), (ck, .inr (1, [.ref ce, .null])), (ce, .inl (cJ, 128, .inr (.inl fE))), (mm, .inr (4, [.int (nI mi), .int (nI mt), .int (nI mg), .int (nI ms), .int sd, .null]))]) [3, 4, 5, 6, 2] (by decide +kernel) rfl
  have hKc := hK.sub (tys' := [(cJ, .long)]) [0] rfl
  have hFc := va_free (wc := [(r, .inr (6, [.int rh, .int rl, .ref st, .null, .null, .int hp, .int tp, .int 0, .int 0, .int 0, .ref rf, .int 0])), (st, .inr (8, [.ref ml, .ref ck])), (ck, .inr (1, [.ref ce, .null])), (ce, .inl (cJ, 128, .inr (.inl fE))), (mm, .inr (4, [.int (nI mi), .int (nI mt), .int (nI mg), .int (nI ms), .int sd, .null]))]) hD hS hA [3, 4, 5, 6, 2] rfl
  refine va_callv (va_runV (As := [.ref mm, .int (nI mt), .int 16, .int (nI nwi), .int 0]) (rest := []) ⟨hx, hb, hml, hown, hts⟩ (c_put_c l dC dI (r) (rh) (rl) (st) (rf) (hp) (tp) (ml) (ck) (ce) (cJ) (fE) (mm) (mi) (mt) (mg) (ms) (sd) (mt) (16) (nwi) (0) H.size hmt (by omega) (by omega) (by omega) hmi (by omega)) (cwV 5 hts g_c_beginSending_one_c_c_put_c_136 rfl rfl rfl (by decide +kernel) ⟨Nat.le_of_ble_eq_true rfl, Nat.le_of_ble_eq_true rfl⟩) ⟨fun a U g mk q => by obtain ⟨q0, q1, qP, qK, qD, qE⟩ := q; exact ⟨q0, q1, qP, va_K.moved (u := U) (U := U.calling g mk a) (Vm.Alike.refl U.vm) qK, qD, ev.same (u := U) (U := U.calling g mk a) rfl qE⟩, va_recv hKc hPc (ci := 6) (q0 := 0) rfl rfl, fun U hU hW => ⟨rfl, by rw [hU], by rw [hU]; exact hPc, va_K.moved hW.alike hKc, hDc.weaken (fun _ _ _ _ => trivial), hE.warm hW⟩⟩ rfl rfl hl.1 rfl (lv_room (Nat.le_of_ble_eq_true rfl)) dX4_beginSending_106 ⟨Nat.le_of_ble_eq_true rfl, Nat.le_of_ble_eq_true rfl⟩) hS (fun q _ h => hFc q h) hFc (fun u t H1 locs ht hvm hw hB hz1 hk1 hS => ?_)
  clear hPc hDc hKc
  obtain ⟨fE2_3, hP1, hK1, hD1, hlo_3, hhi_3⟩ := hB
  rw [ht] at hP1
  have hK1 := va_K.moved hvm.symm hK1
  obtain ⟨hP, hD⟩ := va_join (wr := [(nd, .inr (5, [.int nh, .int nl, .int nwa, .int nfr, .int (nI nwi), .ref r, .ref nt, .ref ns, .ref ib, .ref gs, .ref cs, .ref nu, .int 0, .int 2, .int (nI nad), .int (nI ncc), .int 0, .int 0])), (ns, .inr (7, [.int sst, .int 1, .int sdo, .ref mm]))]) (w1 := [(r, .inr (6, [.int rh, .int rl, .ref st, .ref ck, .ref ck, .int 0, .int 1, .int 1, .int 0, .int 0, .ref rf, .int 0])), (st, .inr (8, [.ref ml, .null])), (ck, .inr (1, [.ref ce, .null])), (ce, .inl (cJ, 128, .inr (.inl fE2_3))), (mm, .inr (4, [.int (nI mi), .int (nI mt), .int (nI mg), .int (nI ms), .int sd, .null]))]) hP hD [3, 4, 5, 6, 2] [0, 1] rfl rfl (by decide +kernel) (by decide +kernel) hk1 hFc hP1 hD1
  generalize H1 = H at hP hS ⊢
  replace hP : va_P (dC, dI) vwCl [(nd, .inr (5, [.int nh, .int nl, .int nwa, .int nfr, .int (nI nwi), .ref r, .ref nt, .ref ns, .ref ib, .ref gs, .ref cs, .ref nu, .int 0, .int 2, .int (nI nad), .int (nI ncc), .int 0, .int 0])), (ns, .inr (7, [.int sst, .int 1, .int sdo, .ref mm])), (r, .inr (6, [.int rh, .int rl, .ref st, .ref ck, .ref ck, .int 0, .int 1, .int 1, .int 0, .int 0, .ref rf, .int 0])), (st, .inr (8, [.ref ml, .null])), (ck, .inr (1, [.ref ce, .null])), (ce, .inl (cJ, 128, .inr (.inl fE2_3))), (mm, .inr (4, [.int (nI mi), .int (nI mt), .int (nI mg), .int (nI ms), .int sd, .null]))] H := hP
  replace hD : va_D A [(nd, .inr (5, [.int nh, .int nl, .int nwa, .int nfr, .int (nI nwi), .ref r, .ref nt, .ref ns, .ref ib, .ref gs, .ref cs, .ref nu, .int 0, .int 2, .int (nI nad), .int (nI ncc), .int 0, .int 0])), (ns, .inr (7, [.int sst, .int 1, .int sdo, .ref mm])), (r, .inr (6, [.int rh, .int rl, .ref st, .ref ck, .ref ck, .int 0, .int 1, .int 1, .int 0, .int 0, .ref rf, .int 0])), (st, .inr (8, [.ref ml, .null])), (ck, .inr (1, [.ref ce, .null])), (ce, .inl (cJ, 128, .inr (.inl fE2_3))), (mm, .inr (4, [.int (nI mi), .int (nI mt), .int (nI mg), .int (nI ms), .int sd, .null]))] := hD
  clear hw
  refine lv_aload_n hx hb dX4_beginSending_109 rfl (lv_at hl 0 rfl) ?_
  refine va_get (D := (dC, dI)) (ci := 5) (v := .ref ns) (C := RX4) (T := TX4) (N := 18) hx hb hts in_c_beginSending_one_c_X4 hown hK hP 0 rfl rfl 7 (by decide) (hts (.fieldLink RX4 21 "ClaimBus$Node" "sending" "LClaimBus$Sending;") (List.mem_of_getElem? (i := 1) rfl)) (fun _ h9 => h9) rfl dX4_beginSending_110 ?_
  refine lv_iload_n hx hb dX4_beginSending_113 rfl (lv_at hl 2 rfl) ?_
  refine lv_sipush (v := 1250) hx hb dX4_beginSending_114 (by decide) ?_
  refine lv_iadd hx hb dX4_beginSending_117 ?_
  refine lv_topi (fun x_4 ex_4 => ?_)
  obtain rfl : x_4 = (nI (tm + 1250)) := ex_4.trans ((nI_add tm 1250).trans (show nI (tm + 1250) = nI (tm + 1250) from congrArg nI (by omega)))
  refine va_put (D := (dC, dI)) (ci := 7) (v := .int (nI (tm + 1250))) (ty := .int) (C := RX6) (T := TX6) (N := 4) hx hb hts in_c_beginSending_one_c_X6 tyX6 tyX6_ok nmX6 hown hK hP hD hS 1 rfl rfl 2 (by decide) (hts (.fieldLink RX4 140 "ClaimBus$Sending" "due" "I") (List.mem_of_getElem? (i := 12) rfl)) (fun _ h9 => h9) rfl (by decide +kernel) rfl rfl (Nat.le_of_ble_eq_true rfl) dX4_beginSending_118 (fun H locs hP hD hS => ?_)
  replace hP : va_P (dC, dI) vwCl [(nd, .inr (5, [.int nh, .int nl, .int nwa, .int nfr, .int (nI nwi), .ref r, .ref nt, .ref ns, .ref ib, .ref gs, .ref cs, .ref nu, .int 0, .int 2, .int (nI nad), .int (nI ncc), .int 0, .int 0])), (ns, .inr (7, [.int sst, .int 1, .int (nI (tm + 1250)), .ref mm])), (r, .inr (6, [.int rh, .int rl, .ref st, .ref ck, .ref ck, .int 0, .int 1, .int 1, .int 0, .int 0, .ref rf, .int 0])), (st, .inr (8, [.ref ml, .null])), (ck, .inr (1, [.ref ce, .null])), (ce, .inl (cJ, 128, .inr (.inl fE2_3))), (mm, .inr (4, [.int (nI mi), .int (nI mt), .int (nI mg), .int (nI ms), .int sd, .null]))] H := hP
  replace hD : va_D A [(nd, .inr (5, [.int nh, .int nl, .int nwa, .int nfr, .int (nI nwi), .ref r, .ref nt, .ref ns, .ref ib, .ref gs, .ref cs, .ref nu, .int 0, .int 2, .int (nI nad), .int (nI ncc), .int 0, .int 0])), (ns, .inr (7, [.int sst, .int 1, .int (nI (tm + 1250)), .ref mm])), (r, .inr (6, [.int rh, .int rl, .ref st, .ref ck, .ref ck, .int 0, .int 1, .int 1, .int 0, .int 0, .ref rf, .int 0])), (st, .inr (8, [.ref ml, .null])), (ck, .inr (1, [.ref ce, .null])), (ce, .inl (cJ, 128, .inr (.inl fE2_3))), (mm, .inr (4, [.int (nI mi), .int (nI mt), .int (nI mg), .int (nI ms), .int sd, .null]))] := hD
  refine lv_aload_n hx hb dX4_beginSending_121 rfl (lv_at hl 0 rfl) ?_
  refine va_get (D := (dC, dI)) (ci := 5) (v := .ref ns) (C := RX4) (T := TX4) (N := 18) hx hb hts in_c_beginSending_one_c_X4 hown hK hP 0 rfl rfl 7 (by decide) (hts (.fieldLink RX4 21 "ClaimBus$Node" "sending" "LClaimBus$Sending;") (List.mem_of_getElem? (i := 1) rfl)) (fun _ h9 => h9) rfl dX4_beginSending_122 ?_
  refine lv_iconst (v := 1) hx hb dX4_beginSending_125 (by decide) ?_
  refine va_put (D := (dC, dI)) (ci := 7) (v := .int 1) (ty := .int) (C := RX6) (T := TX6) (N := 4) hx hb hts in_c_beginSending_one_c_X6 tyX6 tyX6_ok nmX6 hown hK hP hD hS 1 rfl rfl 0 (by decide) (hts (.fieldLink RX4 121 "ClaimBus$Sending" "state" "I") (List.mem_of_getElem? (i := 13) rfl)) (fun _ h9 => h9) rfl (by decide +kernel) rfl rfl (Nat.le_of_ble_eq_true rfl) dX4_beginSending_126 (fun H locs hP hD hS => ?_)
  replace hP : va_P (dC, dI) vwCl [(nd, .inr (5, [.int nh, .int nl, .int nwa, .int nfr, .int (nI nwi), .ref r, .ref nt, .ref ns, .ref ib, .ref gs, .ref cs, .ref nu, .int 0, .int 2, .int (nI nad), .int (nI ncc), .int 0, .int 0])), (ns, .inr (7, [.int 1, .int 1, .int (nI (tm + 1250)), .ref mm])), (r, .inr (6, [.int rh, .int rl, .ref st, .ref ck, .ref ck, .int 0, .int 1, .int 1, .int 0, .int 0, .ref rf, .int 0])), (st, .inr (8, [.ref ml, .null])), (ck, .inr (1, [.ref ce, .null])), (ce, .inl (cJ, 128, .inr (.inl fE2_3))), (mm, .inr (4, [.int (nI mi), .int (nI mt), .int (nI mg), .int (nI ms), .int sd, .null]))] H := hP
  replace hD : va_D A [(nd, .inr (5, [.int nh, .int nl, .int nwa, .int nfr, .int (nI nwi), .ref r, .ref nt, .ref ns, .ref ib, .ref gs, .ref cs, .ref nu, .int 0, .int 2, .int (nI nad), .int (nI ncc), .int 0, .int 0])), (ns, .inr (7, [.int 1, .int 1, .int (nI (tm + 1250)), .ref mm])), (r, .inr (6, [.int rh, .int rl, .ref st, .ref ck, .ref ck, .int 0, .int 1, .int 1, .int 0, .int 0, .ref rf, .int 0])), (st, .inr (8, [.ref ml, .null])), (ck, .inr (1, [.ref ce, .null])), (ce, .inl (cJ, 128, .inr (.inl fE2_3))), (mm, .inr (4, [.int (nI mi), .int (nI mt), .int (nI mg), .int (nI ms), .int sd, .null]))] := hD
  have hP9 := hP.sub (ws' := [(nd, .inr (5, [.int nh, .int nl, .int nwa, .int nfr, .int (nI nwi), .ref r, .ref nt, .ref ns, .ref ib, .ref gs, .ref cs, .ref nu, .int 0, .int 2, .int (nI nad), .int (nI ncc), .int 0, .int 0])), (ns, .inr (7, [.int 1, .int 1, .int (nI (tm + 1250)), .ref mm])), (mm, .inr (4, [.int (nI mi), .int (nI mt), .int (nI mg), .int (nI ms), .int sd, .null])), (r, .inr (6, [.int rh, .int rl, .ref st, .ref ck, .ref ck, .int 0, .int 1, .int 1, .int 0, .int 0, .ref rf, .int 0])), (st, .inr (8, [.ref ml, .null])), (ck, .inr (1, [.ref ce, .null])), (ce, .inl (cJ, 128, .inr (.inl fE2_3)))]) [0, 1, 6, 2, 3, 4, 5] rfl
  have hD9 := hD.sub (ws' := [(nd, .inr (5, [.int nh, .int nl, .int nwa, .int nfr, .int (nI nwi), .ref r, .ref nt, .ref ns, .ref ib, .ref gs, .ref cs, .ref nu, .int 0, .int 2, .int (nI nad), .int (nI ncc), .int 0, .int 0])), (ns, .inr (7, [.int 1, .int 1, .int (nI (tm + 1250)), .ref mm])), (mm, .inr (4, [.int (nI mi), .int (nI mt), .int (nI mg), .int (nI ms), .int sd, .null])), (r, .inr (6, [.int rh, .int rl, .ref st, .ref ck, .ref ck, .int 0, .int 1, .int 1, .int 0, .int 0, .ref rf, .int 0])), (st, .inr (8, [.ref ml, .null])), (ck, .inr (1, [.ref ce, .null])), (ce, .inl (cJ, 128, .inr (.inl fE2_3)))]) [0, 1, 6, 2, 3, 4, 5] (by decide +kernel) rfl
  have hK9 := hK.sub (tys' := [(cJ, .long)]) [0] rfl
  exact W.vret hx hb hr (fun t ht hW => ⟨⟨(), rfl, trivial, ⟨fE2_3, by rw [ht]; exact hP9, va_K.moved hW.alike hK9, hD9, hlo_3.trans (congrArg nI (by omega)), hhi_3⟩⟩, hS.F ht⟩) hS.2.2 dX4_beginSending_129

noncomputable def tl_c_beginSending_all_nN : List Cond := wsX40 ++ (wsX60 ++ (wsX30 ++ (v_c_put_n)))
noncomputable def v_c_beginSending_all_nN : List Cond := .code yX4_beginSending cX4_beginSending 3 none :: ([.fieldLink RX4 21 "ClaimBus$Node" "sending" "LClaimBus$Sending;", .fieldLink RX4 122 "ClaimBus$Sending" "whole" "LClaimBus$Message;", .fieldLink RX4 126 "ClaimBus$Sending" "nextPacket" "I", .fieldLink RX4 129 "ClaimBus$Message" "size" "I", .fieldLink RX4 133 "ClaimBus$Message" "to" "I", .fieldLink RX4 89 "ClaimBus$Node" "row" "LClaimBus$Row;", .initialized RX5, .methodLink RX4 136 yX5_put, .instanceMethod yX5_put, .selects RX5 yX5_put yX5_put, .fieldLink RX4 140 "ClaimBus$Sending" "due" "I", .fieldLink RX4 121 "ClaimBus$Sending" "state" "I"] ++ tl_c_beginSending_all_nN)
theorem it_c_beginSending_all_nN : ∀ w ∈ tl_c_beginSending_all_nN, w ∈ v_c_beginSending_all_nN := fun w h => List.mem_cons_of_mem _ (List.mem_append_right _ h)
theorem in_c_beginSending_all_nN_X4 : ∀ w ∈ wsX40, w ∈ v_c_beginSending_all_nN := fun w h => it_c_beginSending_all_nN w (List.mem_append_left _ h)
theorem in_c_beginSending_all_nN_X6 : ∀ w ∈ wsX60, w ∈ v_c_beginSending_all_nN := fun w h => it_c_beginSending_all_nN w (List.mem_append_right _ (List.mem_append_left _ h))
theorem in_c_beginSending_all_nN_X3 : ∀ w ∈ wsX30, w ∈ v_c_beginSending_all_nN := fun w h => it_c_beginSending_all_nN w (List.mem_append_right _ (List.mem_append_right _ (List.mem_append_left _ h)))
theorem ic_c_beginSending_all_nN_c_put_n : ∀ w ∈ v_c_put_n, w ∈ v_c_beginSending_all_nN := fun w h => it_c_beginSending_all_nN w (List.mem_append_right _ (List.mem_append_right _ (List.mem_append_right _ (h))))
theorem gt_c_beginSending_all_nN : ∀ w ∈ tl_c_beginSending_all_nN, goodWord w = true := List.forall_mem_append.mpr ⟨gw_wsX40, List.forall_mem_append.mpr ⟨gw_wsX60, List.forall_mem_append.mpr ⟨gw_wsX30, gw_c_put_n⟩⟩⟩
theorem gw_c_beginSending_all_nN : ∀ w ∈ v_c_beginSending_all_nN, goodWord w = true := List.forall_mem_cons.mpr ⟨by decide +kernel, List.forall_mem_append.mpr ⟨List.all_eq_true.mp (by decide +kernel), gt_c_beginSending_all_nN⟩⟩
theorem g_c_beginSending_all_nN_c_put_n_136 : GoodIn v_c_beginSending_all_nN (wsV RX4 136 RX5 yX5_put v_c_put_n) := goodIn_app (goodIn_r [.methodLink RX4 136 yX5_put, .instanceMethod yX5_put, .selects RX5 yX5_put yX5_put, .initialized RX5] [8, 9, 10, 7] (by decide +kernel) (by decide +kernel)) (fun w h => ⟨ic_c_beginSending_all_nN_c_put_n w h, good_of_word (gw_c_put_n w h)⟩)
set_option maxHeartbeats 4000000 in
set_option maxRecDepth 100000 in
/-- Node.beginSending -/
theorem c_beginSending_all_nN (l : Launch) (dC : Nat → ClassId) (dI : Nat → Nat → Nat) (nd : Nat) (nh : Int32) (nl : Int32) (nwa : Int32) (nfr : Int32) (nwi : Nat) (r : Nat) (nt : Nat) (ns : Nat) (ib : Nat) (gs : Nat) (cs : Nat) (nu : Nat) (nad : Nat) (ncc : Nat) (rh : Int32) (rl : Int32) (st : Nat) (rf : Nat) (hp : Int32) (tp : Int32) (ml : Nat) (mm : Nat) (mi : Nat) (mt : Nat) (mg : Nat) (ms : Nat) (sd : Int32) (sst : Int32) (snp : Int32) (sdo : Int32) (tm : Nat) (sz : Nat) (hmi : mi < 8) (hmt : mt < 256) (hmg : mg < 262144) (hms : ms < 1786) (hmt2 : mt = 255) (hms1 : 9 ≤ ms) (hwi : nwi < 17) (htm : tm < 200000) : Met l yX4_beginSending v_c_beginSending_all_nN ({ frames := 3, cells := 2, slots := 130, locals := 60 }) (va_Pc [.ref nd, .ref mm, .int (nI tm)] (fun U => U.heap.size = sz ∧ va_P (dC, dI) vwCl [(nd, .inr (5, [.int nh, .int nl, .int nwa, .int nfr, .int (nI nwi), .ref r, .ref nt, .ref ns, .ref ib, .ref gs, .ref cs, .ref nu, .int 0, .int 2, .int (nI nad), .int (nI ncc), .int 0, .int 0])), (ns, .inr (7, [.int sst, .int snp, .int sdo, .null])), (mm, .inr (4, [.int (nI mi), .int (nI mt), .int (nI mg), .int (nI ms), .int sd, .null])), (r, .inr (6, [.int rh, .int rl, .ref st, .null, .null, .int hp, .int tp, .int 0, .int 0, .int 0, .ref rf, .int 0])), (st, .inr (8, [.ref ml, .null]))] U.heap ∧ va_K (dC, dI) vwCl [] U ∧ va_D (fun _ => True) [(nd, .inr (5, [.int nh, .int nl, .int nwa, .int nfr, .int (nI nwi), .ref r, .ref nt, .ref ns, .ref ib, .ref gs, .ref cs, .ref nu, .int 0, .int 2, .int (nI nad), .int (nI ncc), .int 0, .int 0])), (ns, .inr (7, [.int sst, .int snp, .int sdo, .null])), (mm, .inr (4, [.int (nI mi), .int (nI mt), .int (nI mg), .int (nI ms), .int sd, .null])), (r, .inr (6, [.int rh, .int rl, .ref st, .null, .null, .int hp, .int tp, .int 0, .int 0, .int 0, .ref rf, .int 0])), (st, .inr (8, [.ref ml, .null]))] ∧ ev U)) (va_Qv (fun _ : Unit => True) (fun (_ : Unit) (t : State) => ∃ (ck : Nat) (ce : Nat) (cJ : ClassId) (fE2 : Nat → Int64), va_P (dC, dI) vwCl [(nd, .inr (5, [.int nh, .int nl, .int nwa, .int nfr, .int (nI nwi), .ref r, .ref nt, .ref ns, .ref ib, .ref gs, .ref cs, .ref nu, .int 0, .int 2, .int (nI nad), .int (nI ncc), .int 0, .int 0])), (ns, .inr (7, [.int 1, .int 1, .int (nI (tm + 50)), .ref mm])), (mm, .inr (4, [.int (nI mi), .int (nI mt), .int (nI mg), .int (nI ms), .int sd, .null])), (r, .inr (6, [.int rh, .int rl, .ref st, .ref ck, .ref ck, .int 0, .int 1, .int 1, .int 0, .int 0, .ref rf, .int 0])), (st, .inr (8, [.ref ml, .null])), (ck, .inr (1, [.ref ce, .null])), (ce, .inl (cJ, 128, .inr (.inl fE2)))] t.heap ∧ va_K (dC, dI) vwCl [(cJ, .long)] t ∧ va_D (va_A [(nd, .inr (5, [.int nh, .int nl, .int nwa, .int nfr, .int (nI nwi), .ref r, .ref nt, .ref ns, .ref ib, .ref gs, .ref cs, .ref nu, .int 0, .int 2, .int (nI nad), .int (nI ncc), .int 0, .int 0])), (ns, .inr (7, [.int sst, .int snp, .int sdo, .null])), (mm, .inr (4, [.int (nI mi), .int (nI mt), .int (nI mg), .int (nI ms), .int sd, .null])), (r, .inr (6, [.int rh, .int rl, .ref st, .null, .null, .int hp, .int tp, .int 0, .int 0, .int 0, .ref rf, .int 0])), (st, .inr (8, [.ref ml, .null]))] sz) [(nd, .inr (5, [.int nh, .int nl, .int nwa, .int nfr, .int (nI nwi), .ref r, .ref nt, .ref ns, .ref ib, .ref gs, .ref cs, .ref nu, .int 0, .int 2, .int (nI nad), .int (nI ncc), .int 0, .int 0])), (ns, .inr (7, [.int 1, .int 1, .int (nI (tm + 50)), .ref mm])), (mm, .inr (4, [.int (nI mi), .int (nI mt), .int (nI mg), .int (nI ms), .int sd, .null])), (r, .inr (6, [.int rh, .int rl, .ref st, .ref ck, .ref ck, .int 0, .int 1, .int 1, .int 0, .int 0, .ref rf, .int 0])), (st, .inr (8, [.ref ml, .null])), (ck, .inr (1, [.ref ce, .null])), (ce, .inl (cJ, 128, .inr (.inl fE2)))] ∧ ((fE2 0).toInt32 = (nI (16777216 * mt + 65536 * 32 + 256 * 255 + 0))) ∧ ((fE2 0 >>> ((32 : Int32).toInt64 &&& 63)).toInt32 = (nI mi))) (va_A [(nd, .inr (5, [.int nh, .int nl, .int nwa, .int nfr, .int (nI nwi), .ref r, .ref nt, .ref ns, .ref ib, .ref gs, .ref cs, .ref nu, .int 0, .int 2, .int (nI nad), .int (nI ncc), .int 0, .int 0])), (ns, .inr (7, [.int sst, .int snp, .int sdo, .null])), (mm, .inr (4, [.int (nI mi), .int (nI mt), .int (nI mg), .int (nI ms), .int sd, .null])), (r, .inr (6, [.int rh, .int rl, .ref st, .null, .null, .int hp, .int tp, .int 0, .int 0, .int 0, .ref rf, .int 0])), (st, .inr (8, [.ref ml, .null]))] sz)) 2 130 (va_A [(nd, .inr (5, [.int nh, .int nl, .int nwa, .int nfr, .int (nI nwi), .ref r, .ref nt, .ref ns, .ref ib, .ref gs, .ref cs, .ref nu, .int 0, .int 2, .int (nI nad), .int (nI ncc), .int 0, .int 0])), (ns, .inr (7, [.int sst, .int snp, .int sdo, .null])), (mm, .inr (4, [.int (nI mi), .int (nI mt), .int (nI mg), .int (nI ms), .int sd, .null])), (r, .inr (6, [.int rh, .int rl, .ref st, .null, .null, .int hp, .int tp, .int 0, .int 0, .int 0, .ref rf, .int 0])), (st, .inr (8, [.ref ml, .null]))] sz) := by
  refine Met.ofW (cc := cX4_beginSending) (maxL := 3) (ret := none) (by decide) rfl ?_
  intro p e s m args below meth c s₁ B hml hv
  obtain ⟨rfl, hsz, hP, hK, hD0, hE⟩ := hv
  have hx := B.exec
  have hb := B.bytes
  have hr := B.returns
  have hts := atoms_spec (ws := v_c_beginSending_all_nN) B.pre
  have hown : s.vm.findClass RX4 = some m.cls := findClass_of_methodNamed B.named
  have hlocks := B.notSynchronized
  subst hsz
  have hD := hD0.self (sz := s.heap.size)
  generalize hAe : va_A [(nd, .inr (5, [.int nh, .int nl, .int nwa, .int nfr, .int (nI nwi), .ref r, .ref nt, .ref ns, .ref ib, .ref gs, .ref cs, .ref nu, .int 0, .int 2, .int (nI nad), .int (nI ncc), .int 0, .int 0])), (ns, .inr (7, [.int sst, .int snp, .int sdo, .null])), (mm, .inr (4, [.int (nI mi), .int (nI mt), .int (nI mg), .int (nI ms), .int sd, .null])), (r, .inr (6, [.int rh, .int rl, .ref st, .null, .null, .int hp, .int tp, .int 0, .int 0, .int 0, .ref rf, .int 0])), (st, .inr (8, [.ref ml, .null]))] s.heap.size = A at hD ⊢
  have hA : ∀ q : Nat, s.heap.size ≤ q → A q := fun q h => by rw [← hAe]; exact Or.inr h
  have hS : va_S A s.heap s.heap [] := va_S.rf
  replace hP : va_P (dC, dI) vwCl [(nd, .inr (5, [.int nh, .int nl, .int nwa, .int nfr, .int (nI nwi), .ref r, .ref nt, .ref ns, .ref ib, .ref gs, .ref cs, .ref nu, .int 0, .int 2, .int (nI nad), .int (nI ncc), .int 0, .int 0])), (ns, .inr (7, [.int sst, .int snp, .int sdo, .null])), (mm, .inr (4, [.int (nI mi), .int (nI mt), .int (nI mg), .int (nI ms), .int sd, .null])), (r, .inr (6, [.int rh, .int rl, .ref st, .null, .null, .int hp, .int tp, .int 0, .int 0, .int 0, .ref rf, .int 0])), (st, .inr (8, [.ref ml, .null]))] s.heap := hP
  have hl := lv_entry ([.ref nd, .ref mm, .int (nI tm)]) (n := 3) (Nat.le_of_ble_eq_true rfl)
  rw [lg_entry_eq]
  generalize (lg_sl ([.ref nd, .ref mm, .int (nI tm)]) ++ List.replicate (3 - (lg_sl ([.ref nd, .ref mm, .int (nI tm)])).length) Slot.unset).toArray = ls at hl ⊢
  replace hl : lv_has ls 3 [(0, .ref nd), (1, .ref mm), (2, .int (nI tm))] := hl
  obtain ⟨H, hH⟩ : ∃ z : Heap, z = s.heap := ⟨_, rfl⟩
  rw [← hH]
  replace hS : va_S A s.heap H [] := by rw [hH]; exact va_S.rf
  replace hP : va_P (dC, dI) vwCl [(nd, .inr (5, [.int nh, .int nl, .int nwa, .int nfr, .int (nI nwi), .ref r, .ref nt, .ref ns, .ref ib, .ref gs, .ref cs, .ref nu, .int 0, .int 2, .int (nI nad), .int (nI ncc), .int 0, .int 0])), (ns, .inr (7, [.int sst, .int snp, .int sdo, .null])), (mm, .inr (4, [.int (nI mi), .int (nI mt), .int (nI mg), .int (nI ms), .int sd, .null])), (r, .inr (6, [.int rh, .int rl, .ref st, .null, .null, .int hp, .int tp, .int 0, .int 0, .int 0, .ref rf, .int 0])), (st, .inr (8, [.ref ml, .null]))] H := by rw [hH]; exact hP
  clear hH
  refine lv_aload_n hx hb dX4_beginSending_0 rfl (lv_at hl 0 rfl) ?_
  refine va_get (D := (dC, dI)) (ci := 5) (v := .ref ns) (C := RX4) (T := TX4) (N := 18) hx hb hts in_c_beginSending_all_nN_X4 hown hK hP 0 rfl rfl 7 (by decide) (hts (.fieldLink RX4 21 "ClaimBus$Node" "sending" "LClaimBus$Sending;") (List.mem_of_getElem? (i := 1) rfl)) (fun _ h9 => h9) rfl dX4_beginSending_1 ?_
  refine lv_aload_n hx hb dX4_beginSending_4 rfl (lv_at hl 1 rfl) ?_
  refine va_put (D := (dC, dI)) (ci := 7) (v := .ref mm) (ty := (.object "ClaimBus$Message")) (C := RX6) (T := TX6) (N := 4) hx hb hts in_c_beginSending_all_nN_X6 tyX6 tyX6_ok nmX6 hown hK hP hD hS 1 rfl rfl 3 (by decide) (hts (.fieldLink RX4 122 "ClaimBus$Sending" "whole" "LClaimBus$Message;") (List.mem_of_getElem? (i := 2) rfl)) (fun _ h9 => h9) rfl (by decide +kernel) rfl rfl (Nat.le_of_ble_eq_true rfl) dX4_beginSending_5 (fun H locs hP hD hS => ?_)
  replace hP : va_P (dC, dI) vwCl [(nd, .inr (5, [.int nh, .int nl, .int nwa, .int nfr, .int (nI nwi), .ref r, .ref nt, .ref ns, .ref ib, .ref gs, .ref cs, .ref nu, .int 0, .int 2, .int (nI nad), .int (nI ncc), .int 0, .int 0])), (ns, .inr (7, [.int sst, .int snp, .int sdo, .ref mm])), (mm, .inr (4, [.int (nI mi), .int (nI mt), .int (nI mg), .int (nI ms), .int sd, .null])), (r, .inr (6, [.int rh, .int rl, .ref st, .null, .null, .int hp, .int tp, .int 0, .int 0, .int 0, .ref rf, .int 0])), (st, .inr (8, [.ref ml, .null]))] H := hP
  replace hD : va_D A [(nd, .inr (5, [.int nh, .int nl, .int nwa, .int nfr, .int (nI nwi), .ref r, .ref nt, .ref ns, .ref ib, .ref gs, .ref cs, .ref nu, .int 0, .int 2, .int (nI nad), .int (nI ncc), .int 0, .int 0])), (ns, .inr (7, [.int sst, .int snp, .int sdo, .ref mm])), (mm, .inr (4, [.int (nI mi), .int (nI mt), .int (nI mg), .int (nI ms), .int sd, .null])), (r, .inr (6, [.int rh, .int rl, .ref st, .null, .null, .int hp, .int tp, .int 0, .int 0, .int 0, .ref rf, .int 0])), (st, .inr (8, [.ref ml, .null]))] := hD
  refine lv_aload_n hx hb dX4_beginSending_8 rfl (lv_at hl 0 rfl) ?_
  refine va_get (D := (dC, dI)) (ci := 5) (v := .ref ns) (C := RX4) (T := TX4) (N := 18) hx hb hts in_c_beginSending_all_nN_X4 hown hK hP 0 rfl rfl 7 (by decide) (hts (.fieldLink RX4 21 "ClaimBus$Node" "sending" "LClaimBus$Sending;") (List.mem_of_getElem? (i := 1) rfl)) (fun _ h9 => h9) rfl dX4_beginSending_9 ?_
  refine lv_iconst (v := 1) hx hb dX4_beginSending_12 (by decide) ?_
  refine va_put (D := (dC, dI)) (ci := 7) (v := .int 1) (ty := .int) (C := RX6) (T := TX6) (N := 4) hx hb hts in_c_beginSending_all_nN_X6 tyX6 tyX6_ok nmX6 hown hK hP hD hS 1 rfl rfl 1 (by decide) (hts (.fieldLink RX4 126 "ClaimBus$Sending" "nextPacket" "I") (List.mem_of_getElem? (i := 3) rfl)) (fun _ h9 => h9) rfl (by decide +kernel) rfl rfl (Nat.le_of_ble_eq_true rfl) dX4_beginSending_13 (fun H locs hP hD hS => ?_)
  replace hP : va_P (dC, dI) vwCl [(nd, .inr (5, [.int nh, .int nl, .int nwa, .int nfr, .int (nI nwi), .ref r, .ref nt, .ref ns, .ref ib, .ref gs, .ref cs, .ref nu, .int 0, .int 2, .int (nI nad), .int (nI ncc), .int 0, .int 0])), (ns, .inr (7, [.int sst, .int 1, .int sdo, .ref mm])), (mm, .inr (4, [.int (nI mi), .int (nI mt), .int (nI mg), .int (nI ms), .int sd, .null])), (r, .inr (6, [.int rh, .int rl, .ref st, .null, .null, .int hp, .int tp, .int 0, .int 0, .int 0, .ref rf, .int 0])), (st, .inr (8, [.ref ml, .null]))] H := hP
  replace hD : va_D A [(nd, .inr (5, [.int nh, .int nl, .int nwa, .int nfr, .int (nI nwi), .ref r, .ref nt, .ref ns, .ref ib, .ref gs, .ref cs, .ref nu, .int 0, .int 2, .int (nI nad), .int (nI ncc), .int 0, .int 0])), (ns, .inr (7, [.int sst, .int 1, .int sdo, .ref mm])), (mm, .inr (4, [.int (nI mi), .int (nI mt), .int (nI mg), .int (nI ms), .int sd, .null])), (r, .inr (6, [.int rh, .int rl, .ref st, .null, .null, .int hp, .int tp, .int 0, .int 0, .int 0, .ref rf, .int 0])), (st, .inr (8, [.ref ml, .null]))] := hD
  refine lv_aload_n hx hb dX4_beginSending_16 rfl (lv_at hl 1 rfl) ?_
  refine va_get (D := (dC, dI)) (ci := 4) (v := .int (nI ms)) (C := RX3) (T := TX3) (N := 6) hx hb hts in_c_beginSending_all_nN_X3 hown hK hP 2 rfl rfl 3 (by decide) (hts (.fieldLink RX4 129 "ClaimBus$Message" "size" "I") (List.mem_of_getElem? (i := 4) rfl)) (fun _ h9 => h9) rfl dX4_beginSending_17 ?_
  refine lv_bipush (v := 8) hx hb dX4_beginSending_20 (by decide) ?_
  refine lv_icmp_gt (tgt := 49) hx hb dX4_beginSending_22 (by decide) (fun c_1 => ?_) (fun c_1 => ?_)
  rotate_left
  · exact absurd ((nI_ltI (a := 8) (b := ms) (by omega) (by omega)).mpr (by omega)) c_1
  refine lv_aload_n hx hb dX4_beginSending_49 rfl (lv_at hl 1 rfl) ?_
  refine va_get (D := (dC, dI)) (ci := 4) (v := .int (nI mt)) (C := RX3) (T := TX3) (N := 6) hx hb hts in_c_beginSending_all_nN_X3 hown hK hP 2 rfl rfl 1 (by decide) (hts (.fieldLink RX4 133 "ClaimBus$Message" "to" "I") (List.mem_of_getElem? (i := 5) rfl)) (fun _ h9 => h9) rfl dX4_beginSending_50 ?_
  refine lv_sipush (v := 255) hx hb dX4_beginSending_53 (by decide) ?_
  refine lv_icmp_ne (tgt := 90) hx hb dX4_beginSending_56 (by decide) (fun c_2 => ?_) (fun c_2 => ?_)
  · exact absurd ((nI_eq (a := mt) (b := 255) (by omega) (by omega)).mpr (by omega)) c_2
  refine lv_aload_n hx hb dX4_beginSending_59 rfl (lv_at hl 0 rfl) ?_
  refine va_get (D := (dC, dI)) (ci := 5) (v := .ref r) (C := RX4) (T := TX4) (N := 18) hx hb hts in_c_beginSending_all_nN_X4 hown hK hP 0 rfl rfl 5 (by decide) (hts (.fieldLink RX4 89 "ClaimBus$Node" "row" "LClaimBus$Row;") (List.mem_of_getElem? (i := 6) rfl)) (fun _ h9 => h9) rfl dX4_beginSending_60 ?_
  refine lv_aload_n hx hb dX4_beginSending_63 rfl (lv_at hl 1 rfl) ?_
  refine lv_sipush (v := 255) hx hb dX4_beginSending_64 (by decide) ?_
  refine lv_bipush (v := 32) hx hb dX4_beginSending_67 (by decide) ?_
  refine lv_sipush (v := 255) hx hb dX4_beginSending_69 (by decide) ?_
  refine lv_iconst (v := 0) hx hb dX4_beginSending_72 (by decide) ?_
  have hPc := hP.sub (ws' := [(r, .inr (6, [.int rh, .int rl, .ref st, .null, .null, .int hp, .int tp, .int 0, .int 0, .int 0, .ref rf, .int 0])), (st, .inr (8, [.ref ml, .null])), (mm, .inr (4, [.int (nI mi), .int (nI mt), .int (nI mg), .int (nI ms), .int sd, .null]))]) [3, 4, 2] rfl
  have hDc := hD.sub (ws' := [(r, .inr (6, [.int rh, .int rl, .ref st, .null, .null, .int hp, .int tp, .int 0, .int 0, .int 0, .ref rf, .int 0])), (st, .inr (8, [.ref ml, .null])), (mm, .inr (4, [.int (nI mi), .int (nI mt), .int (nI mg), .int (nI ms), .int sd, .null]))]) [3, 4, 2] (by decide +kernel) rfl
  have hKc := hK.sub (tys' := []) [] rfl
  have hFc := va_free (wc := [(r, .inr (6, [.int rh, .int rl, .ref st, .null, .null, .int hp, .int tp, .int 0, .int 0, .int 0, .ref rf, .int 0])), (st, .inr (8, [.ref ml, .null])), (mm, .inr (4, [.int (nI mi), .int (nI mt), .int (nI mg), .int (nI ms), .int sd, .null]))]) hD hS hA [3, 4, 2] rfl
  refine va_callv (va_runV (As := [.ref mm, .int 255, .int 32, .int 255, .int 0]) (rest := []) ⟨hx, hb, hml, hown, hts⟩ (c_put_n l dC dI (r) (rh) (rl) (st) (rf) (hp) (tp) (ml) (mm) (mi) (mt) (mg) (ms) (sd) (255) (32) (255) (0) H.size (by omega) (by omega) (by omega) (by omega) hmi (by omega)) (cwV 5 hts g_c_beginSending_all_nN_c_put_n_136 rfl rfl rfl (by decide +kernel) ⟨Nat.le_of_ble_eq_true rfl, Nat.le_of_ble_eq_true rfl⟩) ⟨fun a U g mk q => by obtain ⟨q0, q1, qP, qK, qD, qE⟩ := q; exact ⟨q0, q1, qP, va_K.moved (u := U) (U := U.calling g mk a) (Vm.Alike.refl U.vm) qK, qD, ev.same (u := U) (U := U.calling g mk a) rfl qE⟩, va_recv hKc hPc (ci := 6) (q0 := 0) rfl rfl, fun U hU hW => ⟨rfl, by rw [hU], by rw [hU]; exact hPc, va_K.moved hW.alike hKc, hDc.weaken (fun _ _ _ _ => trivial), hE.warm hW⟩⟩ rfl rfl hl.1 rfl (lv_room (Nat.le_of_ble_eq_true rfl)) dX4_beginSending_73 ⟨Nat.le_of_ble_eq_true rfl, Nat.le_of_ble_eq_true rfl⟩) hS (fun q _ h => hFc q h) hFc (fun u t H1 locs ht hvm hw hB hz1 hk1 hS => ?_)
  clear hPc hDc hKc
  obtain ⟨ck_3, ce_3, cJ_3, fE2_3, hP1, hK1, hD1, hlo_3, hhi_3⟩ := hB
  rw [ht] at hP1
  have hK1 := va_K.moved hvm.symm hK1
  obtain ⟨hP, hD⟩ := va_join (wr := [(nd, .inr (5, [.int nh, .int nl, .int nwa, .int nfr, .int (nI nwi), .ref r, .ref nt, .ref ns, .ref ib, .ref gs, .ref cs, .ref nu, .int 0, .int 2, .int (nI nad), .int (nI ncc), .int 0, .int 0])), (ns, .inr (7, [.int sst, .int 1, .int sdo, .ref mm]))]) (w1 := [(r, .inr (6, [.int rh, .int rl, .ref st, .ref ck_3, .ref ck_3, .int 0, .int 1, .int 1, .int 0, .int 0, .ref rf, .int 0])), (st, .inr (8, [.ref ml, .null])), (ck_3, .inr (1, [.ref ce_3, .null])), (ce_3, .inl (cJ_3, 128, .inr (.inl fE2_3))), (mm, .inr (4, [.int (nI mi), .int (nI mt), .int (nI mg), .int (nI ms), .int sd, .null]))]) hP hD [3, 4, 2] [0, 1] rfl rfl (by decide +kernel) (by decide +kernel) hk1 hFc hP1 hD1
  replace hK := hK.app hK1
  replace hK : va_K (dC, dI) vwCl [(cJ_3, .long)] s := hK
  generalize H1 = H at hP hS ⊢
  replace hP : va_P (dC, dI) vwCl [(nd, .inr (5, [.int nh, .int nl, .int nwa, .int nfr, .int (nI nwi), .ref r, .ref nt, .ref ns, .ref ib, .ref gs, .ref cs, .ref nu, .int 0, .int 2, .int (nI nad), .int (nI ncc), .int 0, .int 0])), (ns, .inr (7, [.int sst, .int 1, .int sdo, .ref mm])), (r, .inr (6, [.int rh, .int rl, .ref st, .ref ck_3, .ref ck_3, .int 0, .int 1, .int 1, .int 0, .int 0, .ref rf, .int 0])), (st, .inr (8, [.ref ml, .null])), (ck_3, .inr (1, [.ref ce_3, .null])), (ce_3, .inl (cJ_3, 128, .inr (.inl fE2_3))), (mm, .inr (4, [.int (nI mi), .int (nI mt), .int (nI mg), .int (nI ms), .int sd, .null]))] H := hP
  replace hD : va_D A [(nd, .inr (5, [.int nh, .int nl, .int nwa, .int nfr, .int (nI nwi), .ref r, .ref nt, .ref ns, .ref ib, .ref gs, .ref cs, .ref nu, .int 0, .int 2, .int (nI nad), .int (nI ncc), .int 0, .int 0])), (ns, .inr (7, [.int sst, .int 1, .int sdo, .ref mm])), (r, .inr (6, [.int rh, .int rl, .ref st, .ref ck_3, .ref ck_3, .int 0, .int 1, .int 1, .int 0, .int 0, .ref rf, .int 0])), (st, .inr (8, [.ref ml, .null])), (ck_3, .inr (1, [.ref ce_3, .null])), (ce_3, .inl (cJ_3, 128, .inr (.inl fE2_3))), (mm, .inr (4, [.int (nI mi), .int (nI mt), .int (nI mg), .int (nI ms), .int sd, .null]))] := hD
  refine W.widen (k := 2) (n := 130) (Nat.le_of_ble_eq_true rfl) (Nat.le_of_ble_eq_true rfl) ?_
  clear hw
  refine lv_aload_n hx hb dX4_beginSending_76 rfl (lv_at hl 0 rfl) ?_
  refine va_get (D := (dC, dI)) (ci := 5) (v := .ref ns) (C := RX4) (T := TX4) (N := 18) hx hb hts in_c_beginSending_all_nN_X4 hown hK hP 0 rfl rfl 7 (by decide) (hts (.fieldLink RX4 21 "ClaimBus$Node" "sending" "LClaimBus$Sending;") (List.mem_of_getElem? (i := 1) rfl)) (fun _ h9 => h9) rfl dX4_beginSending_77 ?_
  refine lv_iload_n hx hb dX4_beginSending_80 rfl (lv_at hl 2 rfl) ?_
  refine lv_bipush (v := 50) hx hb dX4_beginSending_81 (by decide) ?_
  refine lv_iadd hx hb dX4_beginSending_83 ?_
  refine lv_topi (fun x_4 ex_4 => ?_)
  obtain rfl : x_4 = (nI (tm + 50)) := ex_4.trans ((nI_add tm 50).trans (show nI (tm + 50) = nI (tm + 50) from congrArg nI (by omega)))
  refine va_put (D := (dC, dI)) (ci := 7) (v := .int (nI (tm + 50))) (ty := .int) (C := RX6) (T := TX6) (N := 4) hx hb hts in_c_beginSending_all_nN_X6 tyX6 tyX6_ok nmX6 hown hK hP hD hS 1 rfl rfl 2 (by decide) (hts (.fieldLink RX4 140 "ClaimBus$Sending" "due" "I") (List.mem_of_getElem? (i := 11) rfl)) (fun _ h9 => h9) rfl (by decide +kernel) rfl rfl (Nat.le_of_ble_eq_true rfl) dX4_beginSending_84 (fun H locs hP hD hS => ?_)
  replace hP : va_P (dC, dI) vwCl [(nd, .inr (5, [.int nh, .int nl, .int nwa, .int nfr, .int (nI nwi), .ref r, .ref nt, .ref ns, .ref ib, .ref gs, .ref cs, .ref nu, .int 0, .int 2, .int (nI nad), .int (nI ncc), .int 0, .int 0])), (ns, .inr (7, [.int sst, .int 1, .int (nI (tm + 50)), .ref mm])), (r, .inr (6, [.int rh, .int rl, .ref st, .ref ck_3, .ref ck_3, .int 0, .int 1, .int 1, .int 0, .int 0, .ref rf, .int 0])), (st, .inr (8, [.ref ml, .null])), (ck_3, .inr (1, [.ref ce_3, .null])), (ce_3, .inl (cJ_3, 128, .inr (.inl fE2_3))), (mm, .inr (4, [.int (nI mi), .int (nI mt), .int (nI mg), .int (nI ms), .int sd, .null]))] H := hP
  replace hD : va_D A [(nd, .inr (5, [.int nh, .int nl, .int nwa, .int nfr, .int (nI nwi), .ref r, .ref nt, .ref ns, .ref ib, .ref gs, .ref cs, .ref nu, .int 0, .int 2, .int (nI nad), .int (nI ncc), .int 0, .int 0])), (ns, .inr (7, [.int sst, .int 1, .int (nI (tm + 50)), .ref mm])), (r, .inr (6, [.int rh, .int rl, .ref st, .ref ck_3, .ref ck_3, .int 0, .int 1, .int 1, .int 0, .int 0, .ref rf, .int 0])), (st, .inr (8, [.ref ml, .null])), (ck_3, .inr (1, [.ref ce_3, .null])), (ce_3, .inl (cJ_3, 128, .inr (.inl fE2_3))), (mm, .inr (4, [.int (nI mi), .int (nI mt), .int (nI mg), .int (nI ms), .int sd, .null]))] := hD
  refine lv_goto (tgt := 121) hx hb dX4_beginSending_87 (by decide) ?_
  refine lv_aload_n hx hb dX4_beginSending_121 rfl (lv_at hl 0 rfl) ?_
  refine va_get (D := (dC, dI)) (ci := 5) (v := .ref ns) (C := RX4) (T := TX4) (N := 18) hx hb hts in_c_beginSending_all_nN_X4 hown hK hP 0 rfl rfl 7 (by decide) (hts (.fieldLink RX4 21 "ClaimBus$Node" "sending" "LClaimBus$Sending;") (List.mem_of_getElem? (i := 1) rfl)) (fun _ h9 => h9) rfl dX4_beginSending_122 ?_
  refine lv_iconst (v := 1) hx hb dX4_beginSending_125 (by decide) ?_
  refine va_put (D := (dC, dI)) (ci := 7) (v := .int 1) (ty := .int) (C := RX6) (T := TX6) (N := 4) hx hb hts in_c_beginSending_all_nN_X6 tyX6 tyX6_ok nmX6 hown hK hP hD hS 1 rfl rfl 0 (by decide) (hts (.fieldLink RX4 121 "ClaimBus$Sending" "state" "I") (List.mem_of_getElem? (i := 12) rfl)) (fun _ h9 => h9) rfl (by decide +kernel) rfl rfl (Nat.le_of_ble_eq_true rfl) dX4_beginSending_126 (fun H locs hP hD hS => ?_)
  replace hP : va_P (dC, dI) vwCl [(nd, .inr (5, [.int nh, .int nl, .int nwa, .int nfr, .int (nI nwi), .ref r, .ref nt, .ref ns, .ref ib, .ref gs, .ref cs, .ref nu, .int 0, .int 2, .int (nI nad), .int (nI ncc), .int 0, .int 0])), (ns, .inr (7, [.int 1, .int 1, .int (nI (tm + 50)), .ref mm])), (r, .inr (6, [.int rh, .int rl, .ref st, .ref ck_3, .ref ck_3, .int 0, .int 1, .int 1, .int 0, .int 0, .ref rf, .int 0])), (st, .inr (8, [.ref ml, .null])), (ck_3, .inr (1, [.ref ce_3, .null])), (ce_3, .inl (cJ_3, 128, .inr (.inl fE2_3))), (mm, .inr (4, [.int (nI mi), .int (nI mt), .int (nI mg), .int (nI ms), .int sd, .null]))] H := hP
  replace hD : va_D A [(nd, .inr (5, [.int nh, .int nl, .int nwa, .int nfr, .int (nI nwi), .ref r, .ref nt, .ref ns, .ref ib, .ref gs, .ref cs, .ref nu, .int 0, .int 2, .int (nI nad), .int (nI ncc), .int 0, .int 0])), (ns, .inr (7, [.int 1, .int 1, .int (nI (tm + 50)), .ref mm])), (r, .inr (6, [.int rh, .int rl, .ref st, .ref ck_3, .ref ck_3, .int 0, .int 1, .int 1, .int 0, .int 0, .ref rf, .int 0])), (st, .inr (8, [.ref ml, .null])), (ck_3, .inr (1, [.ref ce_3, .null])), (ce_3, .inl (cJ_3, 128, .inr (.inl fE2_3))), (mm, .inr (4, [.int (nI mi), .int (nI mt), .int (nI mg), .int (nI ms), .int sd, .null]))] := hD
  have hP9 := hP.sub (ws' := [(nd, .inr (5, [.int nh, .int nl, .int nwa, .int nfr, .int (nI nwi), .ref r, .ref nt, .ref ns, .ref ib, .ref gs, .ref cs, .ref nu, .int 0, .int 2, .int (nI nad), .int (nI ncc), .int 0, .int 0])), (ns, .inr (7, [.int 1, .int 1, .int (nI (tm + 50)), .ref mm])), (mm, .inr (4, [.int (nI mi), .int (nI mt), .int (nI mg), .int (nI ms), .int sd, .null])), (r, .inr (6, [.int rh, .int rl, .ref st, .ref ck_3, .ref ck_3, .int 0, .int 1, .int 1, .int 0, .int 0, .ref rf, .int 0])), (st, .inr (8, [.ref ml, .null])), (ck_3, .inr (1, [.ref ce_3, .null])), (ce_3, .inl (cJ_3, 128, .inr (.inl fE2_3)))]) [0, 1, 6, 2, 3, 4, 5] rfl
  have hD9 := hD.sub (ws' := [(nd, .inr (5, [.int nh, .int nl, .int nwa, .int nfr, .int (nI nwi), .ref r, .ref nt, .ref ns, .ref ib, .ref gs, .ref cs, .ref nu, .int 0, .int 2, .int (nI nad), .int (nI ncc), .int 0, .int 0])), (ns, .inr (7, [.int 1, .int 1, .int (nI (tm + 50)), .ref mm])), (mm, .inr (4, [.int (nI mi), .int (nI mt), .int (nI mg), .int (nI ms), .int sd, .null])), (r, .inr (6, [.int rh, .int rl, .ref st, .ref ck_3, .ref ck_3, .int 0, .int 1, .int 1, .int 0, .int 0, .ref rf, .int 0])), (st, .inr (8, [.ref ml, .null])), (ck_3, .inr (1, [.ref ce_3, .null])), (ce_3, .inl (cJ_3, 128, .inr (.inl fE2_3)))]) [0, 1, 6, 2, 3, 4, 5] (by decide +kernel) rfl
  have hK9 := hK.sub (tys' := [(cJ_3, .long)]) [0] rfl
  exact W.vret hx hb hr (fun t ht hW => ⟨⟨(), rfl, trivial, ⟨ck_3, ce_3, cJ_3, fE2_3, by rw [ht]; exact hP9, va_K.moved hW.alike hK9, hD9, hlo_3.trans (congrArg nI (by omega)), hhi_3⟩⟩, hS.F ht⟩) hS.2.2 dX4_beginSending_129

noncomputable def tl_c_beginSending_all_n : List Cond := wsX40 ++ (wsX60 ++ (wsX30 ++ (v_c_put_n)))
noncomputable def v_c_beginSending_all_n : List Cond := .code yX4_beginSending cX4_beginSending 3 none :: ([.fieldLink RX4 21 "ClaimBus$Node" "sending" "LClaimBus$Sending;", .fieldLink RX4 122 "ClaimBus$Sending" "whole" "LClaimBus$Message;", .fieldLink RX4 126 "ClaimBus$Sending" "nextPacket" "I", .fieldLink RX4 129 "ClaimBus$Message" "size" "I", .fieldLink RX4 133 "ClaimBus$Message" "to" "I", .fieldLink RX4 89 "ClaimBus$Node" "row" "LClaimBus$Row;", .initialized RX5, .methodLink RX4 136 yX5_put, .instanceMethod yX5_put, .selects RX5 yX5_put yX5_put, .fieldLink RX4 140 "ClaimBus$Sending" "due" "I", .fieldLink RX4 121 "ClaimBus$Sending" "state" "I"] ++ tl_c_beginSending_all_n)
theorem it_c_beginSending_all_n : ∀ w ∈ tl_c_beginSending_all_n, w ∈ v_c_beginSending_all_n := fun w h => List.mem_cons_of_mem _ (List.mem_append_right _ h)
theorem in_c_beginSending_all_n_X4 : ∀ w ∈ wsX40, w ∈ v_c_beginSending_all_n := fun w h => it_c_beginSending_all_n w (List.mem_append_left _ h)
theorem in_c_beginSending_all_n_X6 : ∀ w ∈ wsX60, w ∈ v_c_beginSending_all_n := fun w h => it_c_beginSending_all_n w (List.mem_append_right _ (List.mem_append_left _ h))
theorem in_c_beginSending_all_n_X3 : ∀ w ∈ wsX30, w ∈ v_c_beginSending_all_n := fun w h => it_c_beginSending_all_n w (List.mem_append_right _ (List.mem_append_right _ (List.mem_append_left _ h)))
theorem ic_c_beginSending_all_n_c_put_n : ∀ w ∈ v_c_put_n, w ∈ v_c_beginSending_all_n := fun w h => it_c_beginSending_all_n w (List.mem_append_right _ (List.mem_append_right _ (List.mem_append_right _ (h))))
theorem gt_c_beginSending_all_n : ∀ w ∈ tl_c_beginSending_all_n, goodWord w = true := List.forall_mem_append.mpr ⟨gw_wsX40, List.forall_mem_append.mpr ⟨gw_wsX60, List.forall_mem_append.mpr ⟨gw_wsX30, gw_c_put_n⟩⟩⟩
theorem gw_c_beginSending_all_n : ∀ w ∈ v_c_beginSending_all_n, goodWord w = true := List.forall_mem_cons.mpr ⟨by decide +kernel, List.forall_mem_append.mpr ⟨List.all_eq_true.mp (by decide +kernel), gt_c_beginSending_all_n⟩⟩
theorem g_c_beginSending_all_n_c_put_n_136 : GoodIn v_c_beginSending_all_n (wsV RX4 136 RX5 yX5_put v_c_put_n) := goodIn_app (goodIn_r [.methodLink RX4 136 yX5_put, .instanceMethod yX5_put, .selects RX5 yX5_put yX5_put, .initialized RX5] [8, 9, 10, 7] (by decide +kernel) (by decide +kernel)) (fun w h => ⟨ic_c_beginSending_all_n_c_put_n w h, good_of_word (gw_c_put_n w h)⟩)
set_option maxHeartbeats 4000000 in
set_option maxRecDepth 100000 in
/-- Node.beginSending -/
theorem c_beginSending_all_n (l : Launch) (dC : Nat → ClassId) (dI : Nat → Nat → Nat) (nd : Nat) (nh : Int32) (nl : Int32) (nwa : Int32) (nfr : Int32) (nwi : Nat) (r : Nat) (nt : Nat) (ns : Nat) (ib : Nat) (gs : Nat) (cs : Nat) (nu : Nat) (nad : Nat) (ncc : Nat) (rh : Int32) (rl : Int32) (st : Nat) (rf : Nat) (hp : Int32) (tp : Int32) (ml : Nat) (mm : Nat) (mi : Nat) (mt : Nat) (mg : Nat) (ms : Nat) (sd : Int32) (sst : Int32) (snp : Int32) (sdo : Int32) (mo : Nat) (tm : Nat) (sz : Nat) (hmi : mi < 8) (hmt : mt < 256) (hmg : mg < 262144) (hms : ms < 1786) (hmt2 : mt = 255) (hms1 : 9 ≤ ms) (hwi : nwi < 17) (htm : tm < 200000) : Met l yX4_beginSending v_c_beginSending_all_n ({ frames := 3, cells := 2, slots := 130, locals := 60 }) (va_Pc [.ref nd, .ref mm, .int (nI tm)] (fun U => U.heap.size = sz ∧ va_P (dC, dI) vwCl [(nd, .inr (5, [.int nh, .int nl, .int nwa, .int nfr, .int (nI nwi), .ref r, .ref nt, .ref ns, .ref ib, .ref gs, .ref cs, .ref nu, .int 0, .int 2, .int (nI nad), .int (nI ncc), .int 0, .int 0])), (ns, .inr (7, [.int sst, .int snp, .int sdo, .ref mo])), (mm, .inr (4, [.int (nI mi), .int (nI mt), .int (nI mg), .int (nI ms), .int sd, .null])), (r, .inr (6, [.int rh, .int rl, .ref st, .null, .null, .int hp, .int tp, .int 0, .int 0, .int 0, .ref rf, .int 0])), (st, .inr (8, [.ref ml, .null]))] U.heap ∧ va_K (dC, dI) vwCl [] U ∧ va_D (fun _ => True) [(nd, .inr (5, [.int nh, .int nl, .int nwa, .int nfr, .int (nI nwi), .ref r, .ref nt, .ref ns, .ref ib, .ref gs, .ref cs, .ref nu, .int 0, .int 2, .int (nI nad), .int (nI ncc), .int 0, .int 0])), (ns, .inr (7, [.int sst, .int snp, .int sdo, .ref mo])), (mm, .inr (4, [.int (nI mi), .int (nI mt), .int (nI mg), .int (nI ms), .int sd, .null])), (r, .inr (6, [.int rh, .int rl, .ref st, .null, .null, .int hp, .int tp, .int 0, .int 0, .int 0, .ref rf, .int 0])), (st, .inr (8, [.ref ml, .null]))] ∧ ev U)) (va_Qv (fun _ : Unit => True) (fun (_ : Unit) (t : State) => ∃ (ck : Nat) (ce : Nat) (cJ : ClassId) (fE2 : Nat → Int64), va_P (dC, dI) vwCl [(nd, .inr (5, [.int nh, .int nl, .int nwa, .int nfr, .int (nI nwi), .ref r, .ref nt, .ref ns, .ref ib, .ref gs, .ref cs, .ref nu, .int 0, .int 2, .int (nI nad), .int (nI ncc), .int 0, .int 0])), (ns, .inr (7, [.int 1, .int 1, .int (nI (tm + 50)), .ref mm])), (mm, .inr (4, [.int (nI mi), .int (nI mt), .int (nI mg), .int (nI ms), .int sd, .null])), (r, .inr (6, [.int rh, .int rl, .ref st, .ref ck, .ref ck, .int 0, .int 1, .int 1, .int 0, .int 0, .ref rf, .int 0])), (st, .inr (8, [.ref ml, .null])), (ck, .inr (1, [.ref ce, .null])), (ce, .inl (cJ, 128, .inr (.inl fE2)))] t.heap ∧ va_K (dC, dI) vwCl [(cJ, .long)] t ∧ va_D (va_A [(nd, .inr (5, [.int nh, .int nl, .int nwa, .int nfr, .int (nI nwi), .ref r, .ref nt, .ref ns, .ref ib, .ref gs, .ref cs, .ref nu, .int 0, .int 2, .int (nI nad), .int (nI ncc), .int 0, .int 0])), (ns, .inr (7, [.int sst, .int snp, .int sdo, .ref mo])), (mm, .inr (4, [.int (nI mi), .int (nI mt), .int (nI mg), .int (nI ms), .int sd, .null])), (r, .inr (6, [.int rh, .int rl, .ref st, .null, .null, .int hp, .int tp, .int 0, .int 0, .int 0, .ref rf, .int 0])), (st, .inr (8, [.ref ml, .null]))] sz) [(nd, .inr (5, [.int nh, .int nl, .int nwa, .int nfr, .int (nI nwi), .ref r, .ref nt, .ref ns, .ref ib, .ref gs, .ref cs, .ref nu, .int 0, .int 2, .int (nI nad), .int (nI ncc), .int 0, .int 0])), (ns, .inr (7, [.int 1, .int 1, .int (nI (tm + 50)), .ref mm])), (mm, .inr (4, [.int (nI mi), .int (nI mt), .int (nI mg), .int (nI ms), .int sd, .null])), (r, .inr (6, [.int rh, .int rl, .ref st, .ref ck, .ref ck, .int 0, .int 1, .int 1, .int 0, .int 0, .ref rf, .int 0])), (st, .inr (8, [.ref ml, .null])), (ck, .inr (1, [.ref ce, .null])), (ce, .inl (cJ, 128, .inr (.inl fE2)))] ∧ ((fE2 0).toInt32 = (nI (16777216 * mt + 65536 * 32 + 256 * 255 + 0))) ∧ ((fE2 0 >>> ((32 : Int32).toInt64 &&& 63)).toInt32 = (nI mi))) (va_A [(nd, .inr (5, [.int nh, .int nl, .int nwa, .int nfr, .int (nI nwi), .ref r, .ref nt, .ref ns, .ref ib, .ref gs, .ref cs, .ref nu, .int 0, .int 2, .int (nI nad), .int (nI ncc), .int 0, .int 0])), (ns, .inr (7, [.int sst, .int snp, .int sdo, .ref mo])), (mm, .inr (4, [.int (nI mi), .int (nI mt), .int (nI mg), .int (nI ms), .int sd, .null])), (r, .inr (6, [.int rh, .int rl, .ref st, .null, .null, .int hp, .int tp, .int 0, .int 0, .int 0, .ref rf, .int 0])), (st, .inr (8, [.ref ml, .null]))] sz)) 2 130 (va_A [(nd, .inr (5, [.int nh, .int nl, .int nwa, .int nfr, .int (nI nwi), .ref r, .ref nt, .ref ns, .ref ib, .ref gs, .ref cs, .ref nu, .int 0, .int 2, .int (nI nad), .int (nI ncc), .int 0, .int 0])), (ns, .inr (7, [.int sst, .int snp, .int sdo, .ref mo])), (mm, .inr (4, [.int (nI mi), .int (nI mt), .int (nI mg), .int (nI ms), .int sd, .null])), (r, .inr (6, [.int rh, .int rl, .ref st, .null, .null, .int hp, .int tp, .int 0, .int 0, .int 0, .ref rf, .int 0])), (st, .inr (8, [.ref ml, .null]))] sz) := by
  refine Met.ofW (cc := cX4_beginSending) (maxL := 3) (ret := none) (by decide) rfl ?_
  intro p e s m args below meth c s₁ B hml hv
  obtain ⟨rfl, hsz, hP, hK, hD0, hE⟩ := hv
  have hx := B.exec
  have hb := B.bytes
  have hr := B.returns
  have hts := atoms_spec (ws := v_c_beginSending_all_n) B.pre
  have hown : s.vm.findClass RX4 = some m.cls := findClass_of_methodNamed B.named
  have hlocks := B.notSynchronized
  subst hsz
  have hD := hD0.self (sz := s.heap.size)
  generalize hAe : va_A [(nd, .inr (5, [.int nh, .int nl, .int nwa, .int nfr, .int (nI nwi), .ref r, .ref nt, .ref ns, .ref ib, .ref gs, .ref cs, .ref nu, .int 0, .int 2, .int (nI nad), .int (nI ncc), .int 0, .int 0])), (ns, .inr (7, [.int sst, .int snp, .int sdo, .ref mo])), (mm, .inr (4, [.int (nI mi), .int (nI mt), .int (nI mg), .int (nI ms), .int sd, .null])), (r, .inr (6, [.int rh, .int rl, .ref st, .null, .null, .int hp, .int tp, .int 0, .int 0, .int 0, .ref rf, .int 0])), (st, .inr (8, [.ref ml, .null]))] s.heap.size = A at hD ⊢
  have hA : ∀ q : Nat, s.heap.size ≤ q → A q := fun q h => by rw [← hAe]; exact Or.inr h
  have hS : va_S A s.heap s.heap [] := va_S.rf
  replace hP : va_P (dC, dI) vwCl [(nd, .inr (5, [.int nh, .int nl, .int nwa, .int nfr, .int (nI nwi), .ref r, .ref nt, .ref ns, .ref ib, .ref gs, .ref cs, .ref nu, .int 0, .int 2, .int (nI nad), .int (nI ncc), .int 0, .int 0])), (ns, .inr (7, [.int sst, .int snp, .int sdo, .ref mo])), (mm, .inr (4, [.int (nI mi), .int (nI mt), .int (nI mg), .int (nI ms), .int sd, .null])), (r, .inr (6, [.int rh, .int rl, .ref st, .null, .null, .int hp, .int tp, .int 0, .int 0, .int 0, .ref rf, .int 0])), (st, .inr (8, [.ref ml, .null]))] s.heap := hP
  have hl := lv_entry ([.ref nd, .ref mm, .int (nI tm)]) (n := 3) (Nat.le_of_ble_eq_true rfl)
  rw [lg_entry_eq]
  generalize (lg_sl ([.ref nd, .ref mm, .int (nI tm)]) ++ List.replicate (3 - (lg_sl ([.ref nd, .ref mm, .int (nI tm)])).length) Slot.unset).toArray = ls at hl ⊢
  replace hl : lv_has ls 3 [(0, .ref nd), (1, .ref mm), (2, .int (nI tm))] := hl
  obtain ⟨H, hH⟩ : ∃ z : Heap, z = s.heap := ⟨_, rfl⟩
  rw [← hH]
  replace hS : va_S A s.heap H [] := by rw [hH]; exact va_S.rf
  replace hP : va_P (dC, dI) vwCl [(nd, .inr (5, [.int nh, .int nl, .int nwa, .int nfr, .int (nI nwi), .ref r, .ref nt, .ref ns, .ref ib, .ref gs, .ref cs, .ref nu, .int 0, .int 2, .int (nI nad), .int (nI ncc), .int 0, .int 0])), (ns, .inr (7, [.int sst, .int snp, .int sdo, .ref mo])), (mm, .inr (4, [.int (nI mi), .int (nI mt), .int (nI mg), .int (nI ms), .int sd, .null])), (r, .inr (6, [.int rh, .int rl, .ref st, .null, .null, .int hp, .int tp, .int 0, .int 0, .int 0, .ref rf, .int 0])), (st, .inr (8, [.ref ml, .null]))] H := by rw [hH]; exact hP
  clear hH
  refine lv_aload_n hx hb dX4_beginSending_0 rfl (lv_at hl 0 rfl) ?_
  refine va_get (D := (dC, dI)) (ci := 5) (v := .ref ns) (C := RX4) (T := TX4) (N := 18) hx hb hts in_c_beginSending_all_n_X4 hown hK hP 0 rfl rfl 7 (by decide) (hts (.fieldLink RX4 21 "ClaimBus$Node" "sending" "LClaimBus$Sending;") (List.mem_of_getElem? (i := 1) rfl)) (fun _ h9 => h9) rfl dX4_beginSending_1 ?_
  refine lv_aload_n hx hb dX4_beginSending_4 rfl (lv_at hl 1 rfl) ?_
  refine va_put (D := (dC, dI)) (ci := 7) (v := .ref mm) (ty := (.object "ClaimBus$Message")) (C := RX6) (T := TX6) (N := 4) hx hb hts in_c_beginSending_all_n_X6 tyX6 tyX6_ok nmX6 hown hK hP hD hS 1 rfl rfl 3 (by decide) (hts (.fieldLink RX4 122 "ClaimBus$Sending" "whole" "LClaimBus$Message;") (List.mem_of_getElem? (i := 2) rfl)) (fun _ h9 => h9) rfl (by decide +kernel) rfl rfl (Nat.le_of_ble_eq_true rfl) dX4_beginSending_5 (fun H locs hP hD hS => ?_)
  replace hP : va_P (dC, dI) vwCl [(nd, .inr (5, [.int nh, .int nl, .int nwa, .int nfr, .int (nI nwi), .ref r, .ref nt, .ref ns, .ref ib, .ref gs, .ref cs, .ref nu, .int 0, .int 2, .int (nI nad), .int (nI ncc), .int 0, .int 0])), (ns, .inr (7, [.int sst, .int snp, .int sdo, .ref mm])), (mm, .inr (4, [.int (nI mi), .int (nI mt), .int (nI mg), .int (nI ms), .int sd, .null])), (r, .inr (6, [.int rh, .int rl, .ref st, .null, .null, .int hp, .int tp, .int 0, .int 0, .int 0, .ref rf, .int 0])), (st, .inr (8, [.ref ml, .null]))] H := hP
  replace hD : va_D A [(nd, .inr (5, [.int nh, .int nl, .int nwa, .int nfr, .int (nI nwi), .ref r, .ref nt, .ref ns, .ref ib, .ref gs, .ref cs, .ref nu, .int 0, .int 2, .int (nI nad), .int (nI ncc), .int 0, .int 0])), (ns, .inr (7, [.int sst, .int snp, .int sdo, .ref mm])), (mm, .inr (4, [.int (nI mi), .int (nI mt), .int (nI mg), .int (nI ms), .int sd, .null])), (r, .inr (6, [.int rh, .int rl, .ref st, .null, .null, .int hp, .int tp, .int 0, .int 0, .int 0, .ref rf, .int 0])), (st, .inr (8, [.ref ml, .null]))] := hD
  refine lv_aload_n hx hb dX4_beginSending_8 rfl (lv_at hl 0 rfl) ?_
  refine va_get (D := (dC, dI)) (ci := 5) (v := .ref ns) (C := RX4) (T := TX4) (N := 18) hx hb hts in_c_beginSending_all_n_X4 hown hK hP 0 rfl rfl 7 (by decide) (hts (.fieldLink RX4 21 "ClaimBus$Node" "sending" "LClaimBus$Sending;") (List.mem_of_getElem? (i := 1) rfl)) (fun _ h9 => h9) rfl dX4_beginSending_9 ?_
  refine lv_iconst (v := 1) hx hb dX4_beginSending_12 (by decide) ?_
  refine va_put (D := (dC, dI)) (ci := 7) (v := .int 1) (ty := .int) (C := RX6) (T := TX6) (N := 4) hx hb hts in_c_beginSending_all_n_X6 tyX6 tyX6_ok nmX6 hown hK hP hD hS 1 rfl rfl 1 (by decide) (hts (.fieldLink RX4 126 "ClaimBus$Sending" "nextPacket" "I") (List.mem_of_getElem? (i := 3) rfl)) (fun _ h9 => h9) rfl (by decide +kernel) rfl rfl (Nat.le_of_ble_eq_true rfl) dX4_beginSending_13 (fun H locs hP hD hS => ?_)
  replace hP : va_P (dC, dI) vwCl [(nd, .inr (5, [.int nh, .int nl, .int nwa, .int nfr, .int (nI nwi), .ref r, .ref nt, .ref ns, .ref ib, .ref gs, .ref cs, .ref nu, .int 0, .int 2, .int (nI nad), .int (nI ncc), .int 0, .int 0])), (ns, .inr (7, [.int sst, .int 1, .int sdo, .ref mm])), (mm, .inr (4, [.int (nI mi), .int (nI mt), .int (nI mg), .int (nI ms), .int sd, .null])), (r, .inr (6, [.int rh, .int rl, .ref st, .null, .null, .int hp, .int tp, .int 0, .int 0, .int 0, .ref rf, .int 0])), (st, .inr (8, [.ref ml, .null]))] H := hP
  replace hD : va_D A [(nd, .inr (5, [.int nh, .int nl, .int nwa, .int nfr, .int (nI nwi), .ref r, .ref nt, .ref ns, .ref ib, .ref gs, .ref cs, .ref nu, .int 0, .int 2, .int (nI nad), .int (nI ncc), .int 0, .int 0])), (ns, .inr (7, [.int sst, .int 1, .int sdo, .ref mm])), (mm, .inr (4, [.int (nI mi), .int (nI mt), .int (nI mg), .int (nI ms), .int sd, .null])), (r, .inr (6, [.int rh, .int rl, .ref st, .null, .null, .int hp, .int tp, .int 0, .int 0, .int 0, .ref rf, .int 0])), (st, .inr (8, [.ref ml, .null]))] := hD
  refine lv_aload_n hx hb dX4_beginSending_16 rfl (lv_at hl 1 rfl) ?_
  refine va_get (D := (dC, dI)) (ci := 4) (v := .int (nI ms)) (C := RX3) (T := TX3) (N := 6) hx hb hts in_c_beginSending_all_n_X3 hown hK hP 2 rfl rfl 3 (by decide) (hts (.fieldLink RX4 129 "ClaimBus$Message" "size" "I") (List.mem_of_getElem? (i := 4) rfl)) (fun _ h9 => h9) rfl dX4_beginSending_17 ?_
  refine lv_bipush (v := 8) hx hb dX4_beginSending_20 (by decide) ?_
  refine lv_icmp_gt (tgt := 49) hx hb dX4_beginSending_22 (by decide) (fun c_1 => ?_) (fun c_1 => ?_)
  rotate_left
  · exact absurd ((nI_ltI (a := 8) (b := ms) (by omega) (by omega)).mpr (by omega)) c_1
  refine lv_aload_n hx hb dX4_beginSending_49 rfl (lv_at hl 1 rfl) ?_
  refine va_get (D := (dC, dI)) (ci := 4) (v := .int (nI mt)) (C := RX3) (T := TX3) (N := 6) hx hb hts in_c_beginSending_all_n_X3 hown hK hP 2 rfl rfl 1 (by decide) (hts (.fieldLink RX4 133 "ClaimBus$Message" "to" "I") (List.mem_of_getElem? (i := 5) rfl)) (fun _ h9 => h9) rfl dX4_beginSending_50 ?_
  refine lv_sipush (v := 255) hx hb dX4_beginSending_53 (by decide) ?_
  refine lv_icmp_ne (tgt := 90) hx hb dX4_beginSending_56 (by decide) (fun c_2 => ?_) (fun c_2 => ?_)
  · exact absurd ((nI_eq (a := mt) (b := 255) (by omega) (by omega)).mpr (by omega)) c_2
  refine lv_aload_n hx hb dX4_beginSending_59 rfl (lv_at hl 0 rfl) ?_
  refine va_get (D := (dC, dI)) (ci := 5) (v := .ref r) (C := RX4) (T := TX4) (N := 18) hx hb hts in_c_beginSending_all_n_X4 hown hK hP 0 rfl rfl 5 (by decide) (hts (.fieldLink RX4 89 "ClaimBus$Node" "row" "LClaimBus$Row;") (List.mem_of_getElem? (i := 6) rfl)) (fun _ h9 => h9) rfl dX4_beginSending_60 ?_
  refine lv_aload_n hx hb dX4_beginSending_63 rfl (lv_at hl 1 rfl) ?_
  refine lv_sipush (v := 255) hx hb dX4_beginSending_64 (by decide) ?_
  refine lv_bipush (v := 32) hx hb dX4_beginSending_67 (by decide) ?_
  refine lv_sipush (v := 255) hx hb dX4_beginSending_69 (by decide) ?_
  refine lv_iconst (v := 0) hx hb dX4_beginSending_72 (by decide) ?_
  have hPc := hP.sub (ws' := [(r, .inr (6, [.int rh, .int rl, .ref st, .null, .null, .int hp, .int tp, .int 0, .int 0, .int 0, .ref rf, .int 0])), (st, .inr (8, [.ref ml, .null])), (mm, .inr (4, [.int (nI mi), .int (nI mt), .int (nI mg), .int (nI ms), .int sd, .null]))]) [3, 4, 2] rfl
  have hDc := hD.sub (ws' := [(r, .inr (6, [.int rh, .int rl, .ref st, .null, .null, .int hp, .int tp, .int 0, .int 0, .int 0, .ref rf, .int 0])), (st, .inr (8, [.ref ml, .null])), (mm, .inr (4, [.int (nI mi), .int (nI mt), .int (nI mg), .int (nI ms), .int sd, .null]))]) [3, 4, 2] (by decide +kernel) rfl
  have hKc := hK.sub (tys' := []) [] rfl
  have hFc := va_free (wc := [(r, .inr (6, [.int rh, .int rl, .ref st, .null, .null, .int hp, .int tp, .int 0, .int 0, .int 0, .ref rf, .int 0])), (st, .inr (8, [.ref ml, .null])), (mm, .inr (4, [.int (nI mi), .int (nI mt), .int (nI mg), .int (nI ms), .int sd, .null]))]) hD hS hA [3, 4, 2] rfl
  refine va_callv (va_runV (As := [.ref mm, .int 255, .int 32, .int 255, .int 0]) (rest := []) ⟨hx, hb, hml, hown, hts⟩ (c_put_n l dC dI (r) (rh) (rl) (st) (rf) (hp) (tp) (ml) (mm) (mi) (mt) (mg) (ms) (sd) (255) (32) (255) (0) H.size (by omega) (by omega) (by omega) (by omega) hmi (by omega)) (cwV 5 hts g_c_beginSending_all_n_c_put_n_136 rfl rfl rfl (by decide +kernel) ⟨Nat.le_of_ble_eq_true rfl, Nat.le_of_ble_eq_true rfl⟩) ⟨fun a U g mk q => by obtain ⟨q0, q1, qP, qK, qD, qE⟩ := q; exact ⟨q0, q1, qP, va_K.moved (u := U) (U := U.calling g mk a) (Vm.Alike.refl U.vm) qK, qD, ev.same (u := U) (U := U.calling g mk a) rfl qE⟩, va_recv hKc hPc (ci := 6) (q0 := 0) rfl rfl, fun U hU hW => ⟨rfl, by rw [hU], by rw [hU]; exact hPc, va_K.moved hW.alike hKc, hDc.weaken (fun _ _ _ _ => trivial), hE.warm hW⟩⟩ rfl rfl hl.1 rfl (lv_room (Nat.le_of_ble_eq_true rfl)) dX4_beginSending_73 ⟨Nat.le_of_ble_eq_true rfl, Nat.le_of_ble_eq_true rfl⟩) hS (fun q _ h => hFc q h) hFc (fun u t H1 locs ht hvm hw hB hz1 hk1 hS => ?_)
  clear hPc hDc hKc
  obtain ⟨ck_3, ce_3, cJ_3, fE2_3, hP1, hK1, hD1, hlo_3, hhi_3⟩ := hB
  rw [ht] at hP1
  have hK1 := va_K.moved hvm.symm hK1
  obtain ⟨hP, hD⟩ := va_join (wr := [(nd, .inr (5, [.int nh, .int nl, .int nwa, .int nfr, .int (nI nwi), .ref r, .ref nt, .ref ns, .ref ib, .ref gs, .ref cs, .ref nu, .int 0, .int 2, .int (nI nad), .int (nI ncc), .int 0, .int 0])), (ns, .inr (7, [.int sst, .int 1, .int sdo, .ref mm]))]) (w1 := [(r, .inr (6, [.int rh, .int rl, .ref st, .ref ck_3, .ref ck_3, .int 0, .int 1, .int 1, .int 0, .int 0, .ref rf, .int 0])), (st, .inr (8, [.ref ml, .null])), (ck_3, .inr (1, [.ref ce_3, .null])), (ce_3, .inl (cJ_3, 128, .inr (.inl fE2_3))), (mm, .inr (4, [.int (nI mi), .int (nI mt), .int (nI mg), .int (nI ms), .int sd, .null]))]) hP hD [3, 4, 2] [0, 1] rfl rfl (by decide +kernel) (by decide +kernel) hk1 hFc hP1 hD1
  replace hK := hK.app hK1
  replace hK : va_K (dC, dI) vwCl [(cJ_3, .long)] s := hK
  generalize H1 = H at hP hS ⊢
  replace hP : va_P (dC, dI) vwCl [(nd, .inr (5, [.int nh, .int nl, .int nwa, .int nfr, .int (nI nwi), .ref r, .ref nt, .ref ns, .ref ib, .ref gs, .ref cs, .ref nu, .int 0, .int 2, .int (nI nad), .int (nI ncc), .int 0, .int 0])), (ns, .inr (7, [.int sst, .int 1, .int sdo, .ref mm])), (r, .inr (6, [.int rh, .int rl, .ref st, .ref ck_3, .ref ck_3, .int 0, .int 1, .int 1, .int 0, .int 0, .ref rf, .int 0])), (st, .inr (8, [.ref ml, .null])), (ck_3, .inr (1, [.ref ce_3, .null])), (ce_3, .inl (cJ_3, 128, .inr (.inl fE2_3))), (mm, .inr (4, [.int (nI mi), .int (nI mt), .int (nI mg), .int (nI ms), .int sd, .null]))] H := hP
  replace hD : va_D A [(nd, .inr (5, [.int nh, .int nl, .int nwa, .int nfr, .int (nI nwi), .ref r, .ref nt, .ref ns, .ref ib, .ref gs, .ref cs, .ref nu, .int 0, .int 2, .int (nI nad), .int (nI ncc), .int 0, .int 0])), (ns, .inr (7, [.int sst, .int 1, .int sdo, .ref mm])), (r, .inr (6, [.int rh, .int rl, .ref st, .ref ck_3, .ref ck_3, .int 0, .int 1, .int 1, .int 0, .int 0, .ref rf, .int 0])), (st, .inr (8, [.ref ml, .null])), (ck_3, .inr (1, [.ref ce_3, .null])), (ce_3, .inl (cJ_3, 128, .inr (.inl fE2_3))), (mm, .inr (4, [.int (nI mi), .int (nI mt), .int (nI mg), .int (nI ms), .int sd, .null]))] := hD
  refine W.widen (k := 2) (n := 130) (Nat.le_of_ble_eq_true rfl) (Nat.le_of_ble_eq_true rfl) ?_
  clear hw
  refine lv_aload_n hx hb dX4_beginSending_76 rfl (lv_at hl 0 rfl) ?_
  refine va_get (D := (dC, dI)) (ci := 5) (v := .ref ns) (C := RX4) (T := TX4) (N := 18) hx hb hts in_c_beginSending_all_n_X4 hown hK hP 0 rfl rfl 7 (by decide) (hts (.fieldLink RX4 21 "ClaimBus$Node" "sending" "LClaimBus$Sending;") (List.mem_of_getElem? (i := 1) rfl)) (fun _ h9 => h9) rfl dX4_beginSending_77 ?_
  refine lv_iload_n hx hb dX4_beginSending_80 rfl (lv_at hl 2 rfl) ?_
  refine lv_bipush (v := 50) hx hb dX4_beginSending_81 (by decide) ?_
  refine lv_iadd hx hb dX4_beginSending_83 ?_
  refine lv_topi (fun x_4 ex_4 => ?_)
  obtain rfl : x_4 = (nI (tm + 50)) := ex_4.trans ((nI_add tm 50).trans (show nI (tm + 50) = nI (tm + 50) from congrArg nI (by omega)))
  refine va_put (D := (dC, dI)) (ci := 7) (v := .int (nI (tm + 50))) (ty := .int) (C := RX6) (T := TX6) (N := 4) hx hb hts in_c_beginSending_all_n_X6 tyX6 tyX6_ok nmX6 hown hK hP hD hS 1 rfl rfl 2 (by decide) (hts (.fieldLink RX4 140 "ClaimBus$Sending" "due" "I") (List.mem_of_getElem? (i := 11) rfl)) (fun _ h9 => h9) rfl (by decide +kernel) rfl rfl (Nat.le_of_ble_eq_true rfl) dX4_beginSending_84 (fun H locs hP hD hS => ?_)
  replace hP : va_P (dC, dI) vwCl [(nd, .inr (5, [.int nh, .int nl, .int nwa, .int nfr, .int (nI nwi), .ref r, .ref nt, .ref ns, .ref ib, .ref gs, .ref cs, .ref nu, .int 0, .int 2, .int (nI nad), .int (nI ncc), .int 0, .int 0])), (ns, .inr (7, [.int sst, .int 1, .int (nI (tm + 50)), .ref mm])), (r, .inr (6, [.int rh, .int rl, .ref st, .ref ck_3, .ref ck_3, .int 0, .int 1, .int 1, .int 0, .int 0, .ref rf, .int 0])), (st, .inr (8, [.ref ml, .null])), (ck_3, .inr (1, [.ref ce_3, .null])), (ce_3, .inl (cJ_3, 128, .inr (.inl fE2_3))), (mm, .inr (4, [.int (nI mi), .int (nI mt), .int (nI mg), .int (nI ms), .int sd, .null]))] H := hP
  replace hD : va_D A [(nd, .inr (5, [.int nh, .int nl, .int nwa, .int nfr, .int (nI nwi), .ref r, .ref nt, .ref ns, .ref ib, .ref gs, .ref cs, .ref nu, .int 0, .int 2, .int (nI nad), .int (nI ncc), .int 0, .int 0])), (ns, .inr (7, [.int sst, .int 1, .int (nI (tm + 50)), .ref mm])), (r, .inr (6, [.int rh, .int rl, .ref st, .ref ck_3, .ref ck_3, .int 0, .int 1, .int 1, .int 0, .int 0, .ref rf, .int 0])), (st, .inr (8, [.ref ml, .null])), (ck_3, .inr (1, [.ref ce_3, .null])), (ce_3, .inl (cJ_3, 128, .inr (.inl fE2_3))), (mm, .inr (4, [.int (nI mi), .int (nI mt), .int (nI mg), .int (nI ms), .int sd, .null]))] := hD
  refine lv_goto (tgt := 121) hx hb dX4_beginSending_87 (by decide) ?_
  refine lv_aload_n hx hb dX4_beginSending_121 rfl (lv_at hl 0 rfl) ?_
  refine va_get (D := (dC, dI)) (ci := 5) (v := .ref ns) (C := RX4) (T := TX4) (N := 18) hx hb hts in_c_beginSending_all_n_X4 hown hK hP 0 rfl rfl 7 (by decide) (hts (.fieldLink RX4 21 "ClaimBus$Node" "sending" "LClaimBus$Sending;") (List.mem_of_getElem? (i := 1) rfl)) (fun _ h9 => h9) rfl dX4_beginSending_122 ?_
  refine lv_iconst (v := 1) hx hb dX4_beginSending_125 (by decide) ?_
  refine va_put (D := (dC, dI)) (ci := 7) (v := .int 1) (ty := .int) (C := RX6) (T := TX6) (N := 4) hx hb hts in_c_beginSending_all_n_X6 tyX6 tyX6_ok nmX6 hown hK hP hD hS 1 rfl rfl 0 (by decide) (hts (.fieldLink RX4 121 "ClaimBus$Sending" "state" "I") (List.mem_of_getElem? (i := 12) rfl)) (fun _ h9 => h9) rfl (by decide +kernel) rfl rfl (Nat.le_of_ble_eq_true rfl) dX4_beginSending_126 (fun H locs hP hD hS => ?_)
  replace hP : va_P (dC, dI) vwCl [(nd, .inr (5, [.int nh, .int nl, .int nwa, .int nfr, .int (nI nwi), .ref r, .ref nt, .ref ns, .ref ib, .ref gs, .ref cs, .ref nu, .int 0, .int 2, .int (nI nad), .int (nI ncc), .int 0, .int 0])), (ns, .inr (7, [.int 1, .int 1, .int (nI (tm + 50)), .ref mm])), (r, .inr (6, [.int rh, .int rl, .ref st, .ref ck_3, .ref ck_3, .int 0, .int 1, .int 1, .int 0, .int 0, .ref rf, .int 0])), (st, .inr (8, [.ref ml, .null])), (ck_3, .inr (1, [.ref ce_3, .null])), (ce_3, .inl (cJ_3, 128, .inr (.inl fE2_3))), (mm, .inr (4, [.int (nI mi), .int (nI mt), .int (nI mg), .int (nI ms), .int sd, .null]))] H := hP
  replace hD : va_D A [(nd, .inr (5, [.int nh, .int nl, .int nwa, .int nfr, .int (nI nwi), .ref r, .ref nt, .ref ns, .ref ib, .ref gs, .ref cs, .ref nu, .int 0, .int 2, .int (nI nad), .int (nI ncc), .int 0, .int 0])), (ns, .inr (7, [.int 1, .int 1, .int (nI (tm + 50)), .ref mm])), (r, .inr (6, [.int rh, .int rl, .ref st, .ref ck_3, .ref ck_3, .int 0, .int 1, .int 1, .int 0, .int 0, .ref rf, .int 0])), (st, .inr (8, [.ref ml, .null])), (ck_3, .inr (1, [.ref ce_3, .null])), (ce_3, .inl (cJ_3, 128, .inr (.inl fE2_3))), (mm, .inr (4, [.int (nI mi), .int (nI mt), .int (nI mg), .int (nI ms), .int sd, .null]))] := hD
  have hP9 := hP.sub (ws' := [(nd, .inr (5, [.int nh, .int nl, .int nwa, .int nfr, .int (nI nwi), .ref r, .ref nt, .ref ns, .ref ib, .ref gs, .ref cs, .ref nu, .int 0, .int 2, .int (nI nad), .int (nI ncc), .int 0, .int 0])), (ns, .inr (7, [.int 1, .int 1, .int (nI (tm + 50)), .ref mm])), (mm, .inr (4, [.int (nI mi), .int (nI mt), .int (nI mg), .int (nI ms), .int sd, .null])), (r, .inr (6, [.int rh, .int rl, .ref st, .ref ck_3, .ref ck_3, .int 0, .int 1, .int 1, .int 0, .int 0, .ref rf, .int 0])), (st, .inr (8, [.ref ml, .null])), (ck_3, .inr (1, [.ref ce_3, .null])), (ce_3, .inl (cJ_3, 128, .inr (.inl fE2_3)))]) [0, 1, 6, 2, 3, 4, 5] rfl
  have hD9 := hD.sub (ws' := [(nd, .inr (5, [.int nh, .int nl, .int nwa, .int nfr, .int (nI nwi), .ref r, .ref nt, .ref ns, .ref ib, .ref gs, .ref cs, .ref nu, .int 0, .int 2, .int (nI nad), .int (nI ncc), .int 0, .int 0])), (ns, .inr (7, [.int 1, .int 1, .int (nI (tm + 50)), .ref mm])), (mm, .inr (4, [.int (nI mi), .int (nI mt), .int (nI mg), .int (nI ms), .int sd, .null])), (r, .inr (6, [.int rh, .int rl, .ref st, .ref ck_3, .ref ck_3, .int 0, .int 1, .int 1, .int 0, .int 0, .ref rf, .int 0])), (st, .inr (8, [.ref ml, .null])), (ck_3, .inr (1, [.ref ce_3, .null])), (ce_3, .inl (cJ_3, 128, .inr (.inl fE2_3)))]) [0, 1, 6, 2, 3, 4, 5] (by decide +kernel) rfl
  have hK9 := hK.sub (tys' := [(cJ_3, .long)]) [0] rfl
  exact W.vret hx hb hr (fun t ht hW => ⟨⟨(), rfl, trivial, ⟨ck_3, ce_3, cJ_3, fE2_3, by rw [ht]; exact hP9, va_K.moved hW.alike hK9, hD9, hlo_3.trans (congrArg nI (by omega)), hhi_3⟩⟩, hS.F ht⟩) hS.2.2 dX4_beginSending_129

noncomputable def tl_c_beginSending_all_cN : List Cond := wsX40 ++ (wsX60 ++ (wsX30 ++ (v_c_put_c)))
noncomputable def v_c_beginSending_all_cN : List Cond := .code yX4_beginSending cX4_beginSending 3 none :: ([.fieldLink RX4 21 "ClaimBus$Node" "sending" "LClaimBus$Sending;", .fieldLink RX4 122 "ClaimBus$Sending" "whole" "LClaimBus$Message;", .fieldLink RX4 126 "ClaimBus$Sending" "nextPacket" "I", .fieldLink RX4 129 "ClaimBus$Message" "size" "I", .fieldLink RX4 133 "ClaimBus$Message" "to" "I", .fieldLink RX4 89 "ClaimBus$Node" "row" "LClaimBus$Row;", .initialized RX5, .methodLink RX4 136 yX5_put, .instanceMethod yX5_put, .selects RX5 yX5_put yX5_put, .fieldLink RX4 140 "ClaimBus$Sending" "due" "I", .fieldLink RX4 121 "ClaimBus$Sending" "state" "I"] ++ tl_c_beginSending_all_cN)
theorem it_c_beginSending_all_cN : ∀ w ∈ tl_c_beginSending_all_cN, w ∈ v_c_beginSending_all_cN := fun w h => List.mem_cons_of_mem _ (List.mem_append_right _ h)
theorem in_c_beginSending_all_cN_X4 : ∀ w ∈ wsX40, w ∈ v_c_beginSending_all_cN := fun w h => it_c_beginSending_all_cN w (List.mem_append_left _ h)
theorem in_c_beginSending_all_cN_X6 : ∀ w ∈ wsX60, w ∈ v_c_beginSending_all_cN := fun w h => it_c_beginSending_all_cN w (List.mem_append_right _ (List.mem_append_left _ h))
theorem in_c_beginSending_all_cN_X3 : ∀ w ∈ wsX30, w ∈ v_c_beginSending_all_cN := fun w h => it_c_beginSending_all_cN w (List.mem_append_right _ (List.mem_append_right _ (List.mem_append_left _ h)))
theorem ic_c_beginSending_all_cN_c_put_c : ∀ w ∈ v_c_put_c, w ∈ v_c_beginSending_all_cN := fun w h => it_c_beginSending_all_cN w (List.mem_append_right _ (List.mem_append_right _ (List.mem_append_right _ (h))))
theorem gt_c_beginSending_all_cN : ∀ w ∈ tl_c_beginSending_all_cN, goodWord w = true := List.forall_mem_append.mpr ⟨gw_wsX40, List.forall_mem_append.mpr ⟨gw_wsX60, List.forall_mem_append.mpr ⟨gw_wsX30, gw_c_put_c⟩⟩⟩
theorem gw_c_beginSending_all_cN : ∀ w ∈ v_c_beginSending_all_cN, goodWord w = true := List.forall_mem_cons.mpr ⟨by decide +kernel, List.forall_mem_append.mpr ⟨List.all_eq_true.mp (by decide +kernel), gt_c_beginSending_all_cN⟩⟩
theorem g_c_beginSending_all_cN_c_put_c_136 : GoodIn v_c_beginSending_all_cN (wsV RX4 136 RX5 yX5_put v_c_put_c) := goodIn_app (goodIn_r [.methodLink RX4 136 yX5_put, .instanceMethod yX5_put, .selects RX5 yX5_put yX5_put, .initialized RX5] [8, 9, 10, 7] (by decide +kernel) (by decide +kernel)) (fun w h => ⟨ic_c_beginSending_all_cN_c_put_c w h, good_of_word (gw_c_put_c w h)⟩)
set_option maxHeartbeats 4000000 in
set_option maxRecDepth 100000 in
/-- Node.beginSending -/
theorem c_beginSending_all_cN (l : Launch) (dC : Nat → ClassId) (dI : Nat → Nat → Nat) (nd : Nat) (nh : Int32) (nl : Int32) (nwa : Int32) (nfr : Int32) (nwi : Nat) (r : Nat) (nt : Nat) (ns : Nat) (ib : Nat) (gs : Nat) (cs : Nat) (nu : Nat) (nad : Nat) (ncc : Nat) (rh : Int32) (rl : Int32) (st : Nat) (rf : Nat) (hp : Int32) (tp : Int32) (ml : Nat) (ck : Nat) (ce : Nat) (cJ : ClassId) (fE : Nat → Int64) (mm : Nat) (mi : Nat) (mt : Nat) (mg : Nat) (ms : Nat) (sd : Int32) (sst : Int32) (snp : Int32) (sdo : Int32) (tm : Nat) (sz : Nat) (hmi : mi < 8) (hmt : mt < 256) (hmg : mg < 262144) (hms : ms < 1786) (hmt2 : mt = 255) (hms1 : 9 ≤ ms) (hwi : nwi < 17) (htm : tm < 200000) : Met l yX4_beginSending v_c_beginSending_all_cN ({ frames := 2, cells := 0, slots := 0, locals := 48 }) (va_Pc [.ref nd, .ref mm, .int (nI tm)] (fun U => U.heap.size = sz ∧ va_P (dC, dI) vwCl [(nd, .inr (5, [.int nh, .int nl, .int nwa, .int nfr, .int (nI nwi), .ref r, .ref nt, .ref ns, .ref ib, .ref gs, .ref cs, .ref nu, .int 0, .int 2, .int (nI nad), .int (nI ncc), .int 0, .int 0])), (ns, .inr (7, [.int sst, .int snp, .int sdo, .null])), (mm, .inr (4, [.int (nI mi), .int (nI mt), .int (nI mg), .int (nI ms), .int sd, .null])), (r, .inr (6, [.int rh, .int rl, .ref st, .null, .null, .int hp, .int tp, .int 0, .int 0, .int 0, .ref rf, .int 0])), (st, .inr (8, [.ref ml, .ref ck])), (ck, .inr (1, [.ref ce, .null])), (ce, .inl (cJ, 128, .inr (.inl fE)))] U.heap ∧ va_K (dC, dI) vwCl [(cJ, .long)] U ∧ va_D (fun _ => True) [(nd, .inr (5, [.int nh, .int nl, .int nwa, .int nfr, .int (nI nwi), .ref r, .ref nt, .ref ns, .ref ib, .ref gs, .ref cs, .ref nu, .int 0, .int 2, .int (nI nad), .int (nI ncc), .int 0, .int 0])), (ns, .inr (7, [.int sst, .int snp, .int sdo, .null])), (mm, .inr (4, [.int (nI mi), .int (nI mt), .int (nI mg), .int (nI ms), .int sd, .null])), (r, .inr (6, [.int rh, .int rl, .ref st, .null, .null, .int hp, .int tp, .int 0, .int 0, .int 0, .ref rf, .int 0])), (st, .inr (8, [.ref ml, .ref ck])), (ck, .inr (1, [.ref ce, .null])), (ce, .inl (cJ, 128, .inr (.inl fE)))] ∧ ev U)) (va_Qv (fun _ : Unit => True) (fun (_ : Unit) (t : State) => ∃ (fE2 : Nat → Int64), va_P (dC, dI) vwCl [(nd, .inr (5, [.int nh, .int nl, .int nwa, .int nfr, .int (nI nwi), .ref r, .ref nt, .ref ns, .ref ib, .ref gs, .ref cs, .ref nu, .int 0, .int 2, .int (nI nad), .int (nI ncc), .int 0, .int 0])), (ns, .inr (7, [.int 1, .int 1, .int (nI (tm + 50)), .ref mm])), (mm, .inr (4, [.int (nI mi), .int (nI mt), .int (nI mg), .int (nI ms), .int sd, .null])), (r, .inr (6, [.int rh, .int rl, .ref st, .ref ck, .ref ck, .int 0, .int 1, .int 1, .int 0, .int 0, .ref rf, .int 0])), (st, .inr (8, [.ref ml, .null])), (ck, .inr (1, [.ref ce, .null])), (ce, .inl (cJ, 128, .inr (.inl fE2)))] t.heap ∧ va_K (dC, dI) vwCl [(cJ, .long)] t ∧ va_D (va_A [(nd, .inr (5, [.int nh, .int nl, .int nwa, .int nfr, .int (nI nwi), .ref r, .ref nt, .ref ns, .ref ib, .ref gs, .ref cs, .ref nu, .int 0, .int 2, .int (nI nad), .int (nI ncc), .int 0, .int 0])), (ns, .inr (7, [.int sst, .int snp, .int sdo, .null])), (mm, .inr (4, [.int (nI mi), .int (nI mt), .int (nI mg), .int (nI ms), .int sd, .null])), (r, .inr (6, [.int rh, .int rl, .ref st, .null, .null, .int hp, .int tp, .int 0, .int 0, .int 0, .ref rf, .int 0])), (st, .inr (8, [.ref ml, .ref ck])), (ck, .inr (1, [.ref ce, .null])), (ce, .inl (cJ, 128, .inr (.inl fE)))] sz) [(nd, .inr (5, [.int nh, .int nl, .int nwa, .int nfr, .int (nI nwi), .ref r, .ref nt, .ref ns, .ref ib, .ref gs, .ref cs, .ref nu, .int 0, .int 2, .int (nI nad), .int (nI ncc), .int 0, .int 0])), (ns, .inr (7, [.int 1, .int 1, .int (nI (tm + 50)), .ref mm])), (mm, .inr (4, [.int (nI mi), .int (nI mt), .int (nI mg), .int (nI ms), .int sd, .null])), (r, .inr (6, [.int rh, .int rl, .ref st, .ref ck, .ref ck, .int 0, .int 1, .int 1, .int 0, .int 0, .ref rf, .int 0])), (st, .inr (8, [.ref ml, .null])), (ck, .inr (1, [.ref ce, .null])), (ce, .inl (cJ, 128, .inr (.inl fE2)))] ∧ ((fE2 0).toInt32 = (nI (16777216 * mt + 65536 * 32 + 256 * 255 + 0))) ∧ ((fE2 0 >>> ((32 : Int32).toInt64 &&& 63)).toInt32 = (nI mi))) (va_A [(nd, .inr (5, [.int nh, .int nl, .int nwa, .int nfr, .int (nI nwi), .ref r, .ref nt, .ref ns, .ref ib, .ref gs, .ref cs, .ref nu, .int 0, .int 2, .int (nI nad), .int (nI ncc), .int 0, .int 0])), (ns, .inr (7, [.int sst, .int snp, .int sdo, .null])), (mm, .inr (4, [.int (nI mi), .int (nI mt), .int (nI mg), .int (nI ms), .int sd, .null])), (r, .inr (6, [.int rh, .int rl, .ref st, .null, .null, .int hp, .int tp, .int 0, .int 0, .int 0, .ref rf, .int 0])), (st, .inr (8, [.ref ml, .ref ck])), (ck, .inr (1, [.ref ce, .null])), (ce, .inl (cJ, 128, .inr (.inl fE)))] sz)) 0 0 (va_A [(nd, .inr (5, [.int nh, .int nl, .int nwa, .int nfr, .int (nI nwi), .ref r, .ref nt, .ref ns, .ref ib, .ref gs, .ref cs, .ref nu, .int 0, .int 2, .int (nI nad), .int (nI ncc), .int 0, .int 0])), (ns, .inr (7, [.int sst, .int snp, .int sdo, .null])), (mm, .inr (4, [.int (nI mi), .int (nI mt), .int (nI mg), .int (nI ms), .int sd, .null])), (r, .inr (6, [.int rh, .int rl, .ref st, .null, .null, .int hp, .int tp, .int 0, .int 0, .int 0, .ref rf, .int 0])), (st, .inr (8, [.ref ml, .ref ck])), (ck, .inr (1, [.ref ce, .null])), (ce, .inl (cJ, 128, .inr (.inl fE)))] sz) := by
  refine Met.ofW (cc := cX4_beginSending) (maxL := 3) (ret := none) (by decide) rfl ?_
  intro p e s m args below meth c s₁ B hml hv
  obtain ⟨rfl, hsz, hP, hK, hD0, hE⟩ := hv
  have hx := B.exec
  have hb := B.bytes
  have hr := B.returns
  have hts := atoms_spec (ws := v_c_beginSending_all_cN) B.pre
  have hown : s.vm.findClass RX4 = some m.cls := findClass_of_methodNamed B.named
  have hlocks := B.notSynchronized
  subst hsz
  have hD := hD0.self (sz := s.heap.size)
  generalize hAe : va_A [(nd, .inr (5, [.int nh, .int nl, .int nwa, .int nfr, .int (nI nwi), .ref r, .ref nt, .ref ns, .ref ib, .ref gs, .ref cs, .ref nu, .int 0, .int 2, .int (nI nad), .int (nI ncc), .int 0, .int 0])), (ns, .inr (7, [.int sst, .int snp, .int sdo, .null])), (mm, .inr (4, [.int (nI mi), .int (nI mt), .int (nI mg), .int (nI ms), .int sd, .null])), (r, .inr (6, [.int rh, .int rl, .ref st, .null, .null, .int hp, .int tp, .int 0, .int 0, .int 0, .ref rf, .int 0])), (st, .inr (8, [.ref ml, .ref ck])), (ck, .inr (1, [.ref ce, .null])), (ce, .inl (cJ, 128, .inr (.inl fE)))] s.heap.size = A at hD ⊢
  have hA : ∀ q : Nat, s.heap.size ≤ q → A q := fun q h => by rw [← hAe]; exact Or.inr h
  have hS : va_S A s.heap s.heap [] := va_S.rf
  replace hP : va_P (dC, dI) vwCl [(nd, .inr (5, [.int nh, .int nl, .int nwa, .int nfr, .int (nI nwi), .ref r, .ref nt, .ref ns, .ref ib, .ref gs, .ref cs, .ref nu, .int 0, .int 2, .int (nI nad), .int (nI ncc), .int 0, .int 0])), (ns, .inr (7, [.int sst, .int snp, .int sdo, .null])), (mm, .inr (4, [.int (nI mi), .int (nI mt), .int (nI mg), .int (nI ms), .int sd, .null])), (r, .inr (6, [.int rh, .int rl, .ref st, .null, .null, .int hp, .int tp, .int 0, .int 0, .int 0, .ref rf, .int 0])), (st, .inr (8, [.ref ml, .ref ck])), (ck, .inr (1, [.ref ce, .null])), (ce, .inl (cJ, 128, .inr (.inl fE)))] s.heap := hP
  have hl := lv_entry ([.ref nd, .ref mm, .int (nI tm)]) (n := 3) (Nat.le_of_ble_eq_true rfl)
  rw [lg_entry_eq]
  generalize (lg_sl ([.ref nd, .ref mm, .int (nI tm)]) ++ List.replicate (3 - (lg_sl ([.ref nd, .ref mm, .int (nI tm)])).length) Slot.unset).toArray = ls at hl ⊢
  replace hl : lv_has ls 3 [(0, .ref nd), (1, .ref mm), (2, .int (nI tm))] := hl
  obtain ⟨H, hH⟩ : ∃ z : Heap, z = s.heap := ⟨_, rfl⟩
  rw [← hH]
  replace hS : va_S A s.heap H [] := by rw [hH]; exact va_S.rf
  replace hP : va_P (dC, dI) vwCl [(nd, .inr (5, [.int nh, .int nl, .int nwa, .int nfr, .int (nI nwi), .ref r, .ref nt, .ref ns, .ref ib, .ref gs, .ref cs, .ref nu, .int 0, .int 2, .int (nI nad), .int (nI ncc), .int 0, .int 0])), (ns, .inr (7, [.int sst, .int snp, .int sdo, .null])), (mm, .inr (4, [.int (nI mi), .int (nI mt), .int (nI mg), .int (nI ms), .int sd, .null])), (r, .inr (6, [.int rh, .int rl, .ref st, .null, .null, .int hp, .int tp, .int 0, .int 0, .int 0, .ref rf, .int 0])), (st, .inr (8, [.ref ml, .ref ck])), (ck, .inr (1, [.ref ce, .null])), (ce, .inl (cJ, 128, .inr (.inl fE)))] H := by rw [hH]; exact hP
  clear hH
  refine lv_aload_n hx hb dX4_beginSending_0 rfl (lv_at hl 0 rfl) ?_
  refine va_get (D := (dC, dI)) (ci := 5) (v := .ref ns) (C := RX4) (T := TX4) (N := 18) hx hb hts in_c_beginSending_all_cN_X4 hown hK hP 0 rfl rfl 7 (by decide) (hts (.fieldLink RX4 21 "ClaimBus$Node" "sending" "LClaimBus$Sending;") (List.mem_of_getElem? (i := 1) rfl)) (fun _ h9 => h9) rfl dX4_beginSending_1 ?_
  refine lv_aload_n hx hb dX4_beginSending_4 rfl (lv_at hl 1 rfl) ?_
  refine va_put (D := (dC, dI)) (ci := 7) (v := .ref mm) (ty := (.object "ClaimBus$Message")) (C := RX6) (T := TX6) (N := 4) hx hb hts in_c_beginSending_all_cN_X6 tyX6 tyX6_ok nmX6 hown hK hP hD hS 1 rfl rfl 3 (by decide) (hts (.fieldLink RX4 122 "ClaimBus$Sending" "whole" "LClaimBus$Message;") (List.mem_of_getElem? (i := 2) rfl)) (fun _ h9 => h9) rfl (by decide +kernel) rfl rfl (Nat.le_of_ble_eq_true rfl) dX4_beginSending_5 (fun H locs hP hD hS => ?_)
  replace hP : va_P (dC, dI) vwCl [(nd, .inr (5, [.int nh, .int nl, .int nwa, .int nfr, .int (nI nwi), .ref r, .ref nt, .ref ns, .ref ib, .ref gs, .ref cs, .ref nu, .int 0, .int 2, .int (nI nad), .int (nI ncc), .int 0, .int 0])), (ns, .inr (7, [.int sst, .int snp, .int sdo, .ref mm])), (mm, .inr (4, [.int (nI mi), .int (nI mt), .int (nI mg), .int (nI ms), .int sd, .null])), (r, .inr (6, [.int rh, .int rl, .ref st, .null, .null, .int hp, .int tp, .int 0, .int 0, .int 0, .ref rf, .int 0])), (st, .inr (8, [.ref ml, .ref ck])), (ck, .inr (1, [.ref ce, .null])), (ce, .inl (cJ, 128, .inr (.inl fE)))] H := hP
  replace hD : va_D A [(nd, .inr (5, [.int nh, .int nl, .int nwa, .int nfr, .int (nI nwi), .ref r, .ref nt, .ref ns, .ref ib, .ref gs, .ref cs, .ref nu, .int 0, .int 2, .int (nI nad), .int (nI ncc), .int 0, .int 0])), (ns, .inr (7, [.int sst, .int snp, .int sdo, .ref mm])), (mm, .inr (4, [.int (nI mi), .int (nI mt), .int (nI mg), .int (nI ms), .int sd, .null])), (r, .inr (6, [.int rh, .int rl, .ref st, .null, .null, .int hp, .int tp, .int 0, .int 0, .int 0, .ref rf, .int 0])), (st, .inr (8, [.ref ml, .ref ck])), (ck, .inr (1, [.ref ce, .null])), (ce, .inl (cJ, 128, .inr (.inl fE)))] := hD
  refine lv_aload_n hx hb dX4_beginSending_8 rfl (lv_at hl 0 rfl) ?_
  refine va_get (D := (dC, dI)) (ci := 5) (v := .ref ns) (C := RX4) (T := TX4) (N := 18) hx hb hts in_c_beginSending_all_cN_X4 hown hK hP 0 rfl rfl 7 (by decide) (hts (.fieldLink RX4 21 "ClaimBus$Node" "sending" "LClaimBus$Sending;") (List.mem_of_getElem? (i := 1) rfl)) (fun _ h9 => h9) rfl dX4_beginSending_9 ?_
  refine lv_iconst (v := 1) hx hb dX4_beginSending_12 (by decide) ?_
  refine va_put (D := (dC, dI)) (ci := 7) (v := .int 1) (ty := .int) (C := RX6) (T := TX6) (N := 4) hx hb hts in_c_beginSending_all_cN_X6 tyX6 tyX6_ok nmX6 hown hK hP hD hS 1 rfl rfl 1 (by decide) (hts (.fieldLink RX4 126 "ClaimBus$Sending" "nextPacket" "I") (List.mem_of_getElem? (i := 3) rfl)) (fun _ h9 => h9) rfl (by decide +kernel) rfl rfl (Nat.le_of_ble_eq_true rfl) dX4_beginSending_13 (fun H locs hP hD hS => ?_)
  replace hP : va_P (dC, dI) vwCl [(nd, .inr (5, [.int nh, .int nl, .int nwa, .int nfr, .int (nI nwi), .ref r, .ref nt, .ref ns, .ref ib, .ref gs, .ref cs, .ref nu, .int 0, .int 2, .int (nI nad), .int (nI ncc), .int 0, .int 0])), (ns, .inr (7, [.int sst, .int 1, .int sdo, .ref mm])), (mm, .inr (4, [.int (nI mi), .int (nI mt), .int (nI mg), .int (nI ms), .int sd, .null])), (r, .inr (6, [.int rh, .int rl, .ref st, .null, .null, .int hp, .int tp, .int 0, .int 0, .int 0, .ref rf, .int 0])), (st, .inr (8, [.ref ml, .ref ck])), (ck, .inr (1, [.ref ce, .null])), (ce, .inl (cJ, 128, .inr (.inl fE)))] H := hP
  replace hD : va_D A [(nd, .inr (5, [.int nh, .int nl, .int nwa, .int nfr, .int (nI nwi), .ref r, .ref nt, .ref ns, .ref ib, .ref gs, .ref cs, .ref nu, .int 0, .int 2, .int (nI nad), .int (nI ncc), .int 0, .int 0])), (ns, .inr (7, [.int sst, .int 1, .int sdo, .ref mm])), (mm, .inr (4, [.int (nI mi), .int (nI mt), .int (nI mg), .int (nI ms), .int sd, .null])), (r, .inr (6, [.int rh, .int rl, .ref st, .null, .null, .int hp, .int tp, .int 0, .int 0, .int 0, .ref rf, .int 0])), (st, .inr (8, [.ref ml, .ref ck])), (ck, .inr (1, [.ref ce, .null])), (ce, .inl (cJ, 128, .inr (.inl fE)))] := hD
  refine lv_aload_n hx hb dX4_beginSending_16 rfl (lv_at hl 1 rfl) ?_
  refine va_get (D := (dC, dI)) (ci := 4) (v := .int (nI ms)) (C := RX3) (T := TX3) (N := 6) hx hb hts in_c_beginSending_all_cN_X3 hown hK hP 2 rfl rfl 3 (by decide) (hts (.fieldLink RX4 129 "ClaimBus$Message" "size" "I") (List.mem_of_getElem? (i := 4) rfl)) (fun _ h9 => h9) rfl dX4_beginSending_17 ?_
  refine lv_bipush (v := 8) hx hb dX4_beginSending_20 (by decide) ?_
  refine lv_icmp_gt (tgt := 49) hx hb dX4_beginSending_22 (by decide) (fun c_1 => ?_) (fun c_1 => ?_)
  rotate_left
  · exact absurd ((nI_ltI (a := 8) (b := ms) (by omega) (by omega)).mpr (by omega)) c_1
  refine lv_aload_n hx hb dX4_beginSending_49 rfl (lv_at hl 1 rfl) ?_
  refine va_get (D := (dC, dI)) (ci := 4) (v := .int (nI mt)) (C := RX3) (T := TX3) (N := 6) hx hb hts in_c_beginSending_all_cN_X3 hown hK hP 2 rfl rfl 1 (by decide) (hts (.fieldLink RX4 133 "ClaimBus$Message" "to" "I") (List.mem_of_getElem? (i := 5) rfl)) (fun _ h9 => h9) rfl dX4_beginSending_50 ?_
  refine lv_sipush (v := 255) hx hb dX4_beginSending_53 (by decide) ?_
  refine lv_icmp_ne (tgt := 90) hx hb dX4_beginSending_56 (by decide) (fun c_2 => ?_) (fun c_2 => ?_)
  · exact absurd ((nI_eq (a := mt) (b := 255) (by omega) (by omega)).mpr (by omega)) c_2
  refine lv_aload_n hx hb dX4_beginSending_59 rfl (lv_at hl 0 rfl) ?_
  refine va_get (D := (dC, dI)) (ci := 5) (v := .ref r) (C := RX4) (T := TX4) (N := 18) hx hb hts in_c_beginSending_all_cN_X4 hown hK hP 0 rfl rfl 5 (by decide) (hts (.fieldLink RX4 89 "ClaimBus$Node" "row" "LClaimBus$Row;") (List.mem_of_getElem? (i := 6) rfl)) (fun _ h9 => h9) rfl dX4_beginSending_60 ?_
  refine lv_aload_n hx hb dX4_beginSending_63 rfl (lv_at hl 1 rfl) ?_
  refine lv_sipush (v := 255) hx hb dX4_beginSending_64 (by decide) ?_
  refine lv_bipush (v := 32) hx hb dX4_beginSending_67 (by decide) ?_
  refine lv_sipush (v := 255) hx hb dX4_beginSending_69 (by decide) ?_
  refine lv_iconst (v := 0) hx hb dX4_beginSending_72 (by decide) ?_
  have hPc := hP.sub (ws' := [(r, .inr (6, [.int rh, .int rl, .ref st, .null, .null, .int hp, .int tp, .int 0, .int 0, .int 0, .ref rf, .int 0])), (st, .inr (8, [.ref ml, .ref ck])), (ck, .inr (1, [.ref ce, .null])), (ce, .inl (cJ, 128, .inr (.inl fE))), (mm, .inr (4, [.int (nI mi), .int (nI mt), .int (nI mg), .int (nI ms), .int sd, .null]))]) [3, 4, 5, 6, 2] rfl
  have hDc := hD.sub (ws' := [(r, .inr (6, [.int rh, .int rl, .ref st, .null, .null, .int hp, .int tp, .int 0, .int 0, .int 0, .ref rf, .int 0])), (st, .inr (8, [.ref ml, .ref ck])), (ck, .inr (1, [.ref ce, .null])), (ce, .inl (cJ, 128, .inr (.inl fE))), (mm, .inr (4, [.int (nI mi), .int (nI mt), .int (nI mg), .int (nI ms), .int sd, .null]))]) [3, 4, 5, 6, 2] (by decide +kernel) rfl
  have hKc := hK.sub (tys' := [(cJ, .long)]) [0] rfl
  have hFc := va_free (wc := [(r, .inr (6, [.int rh, .int rl, .ref st, .null, .null, .int hp, .int tp, .int 0, .int 0, .int 0, .ref rf, .int 0])), (st, .inr (8, [.ref ml, .ref ck])), (ck, .inr (1, [.ref ce, .null])), (ce, .inl (cJ, 128, .inr (.inl fE))), (mm, .inr (4, [.int (nI mi), .int (nI mt), .int (nI mg), .int (nI ms), .int sd, .null]))]) hD hS hA [3, 4, 5, 6, 2] rfl
  refine va_callv (va_runV (As := [.ref mm, .int 255, .int 32, .int 255, .int 0]) (rest := []) ⟨hx, hb, hml, hown, hts⟩ (c_put_c l dC dI (r) (rh) (rl) (st) (rf) (hp) (tp) (ml) (ck) (ce) (cJ) (fE) (mm) (mi) (mt) (mg) (ms) (sd) (255) (32) (255) (0) H.size (by omega) (by omega) (by omega) (by omega) hmi (by omega)) (cwV 5 hts g_c_beginSending_all_cN_c_put_c_136 rfl rfl rfl (by decide +kernel) ⟨Nat.le_of_ble_eq_true rfl, Nat.le_of_ble_eq_true rfl⟩) ⟨fun a U g mk q => by obtain ⟨q0, q1, qP, qK, qD, qE⟩ := q; exact ⟨q0, q1, qP, va_K.moved (u := U) (U := U.calling g mk a) (Vm.Alike.refl U.vm) qK, qD, ev.same (u := U) (U := U.calling g mk a) rfl qE⟩, va_recv hKc hPc (ci := 6) (q0 := 0) rfl rfl, fun U hU hW => ⟨rfl, by rw [hU], by rw [hU]; exact hPc, va_K.moved hW.alike hKc, hDc.weaken (fun _ _ _ _ => trivial), hE.warm hW⟩⟩ rfl rfl hl.1 rfl (lv_room (Nat.le_of_ble_eq_true rfl)) dX4_beginSending_73 ⟨Nat.le_of_ble_eq_true rfl, Nat.le_of_ble_eq_true rfl⟩) hS (fun q _ h => hFc q h) hFc (fun u t H1 locs ht hvm hw hB hz1 hk1 hS => ?_)
  clear hPc hDc hKc
  obtain ⟨fE2_3, hP1, hK1, hD1, hlo_3, hhi_3⟩ := hB
  rw [ht] at hP1
  have hK1 := va_K.moved hvm.symm hK1
  obtain ⟨hP, hD⟩ := va_join (wr := [(nd, .inr (5, [.int nh, .int nl, .int nwa, .int nfr, .int (nI nwi), .ref r, .ref nt, .ref ns, .ref ib, .ref gs, .ref cs, .ref nu, .int 0, .int 2, .int (nI nad), .int (nI ncc), .int 0, .int 0])), (ns, .inr (7, [.int sst, .int 1, .int sdo, .ref mm]))]) (w1 := [(r, .inr (6, [.int rh, .int rl, .ref st, .ref ck, .ref ck, .int 0, .int 1, .int 1, .int 0, .int 0, .ref rf, .int 0])), (st, .inr (8, [.ref ml, .null])), (ck, .inr (1, [.ref ce, .null])), (ce, .inl (cJ, 128, .inr (.inl fE2_3))), (mm, .inr (4, [.int (nI mi), .int (nI mt), .int (nI mg), .int (nI ms), .int sd, .null]))]) hP hD [3, 4, 5, 6, 2] [0, 1] rfl rfl (by decide +kernel) (by decide +kernel) hk1 hFc hP1 hD1
  generalize H1 = H at hP hS ⊢
  replace hP : va_P (dC, dI) vwCl [(nd, .inr (5, [.int nh, .int nl, .int nwa, .int nfr, .int (nI nwi), .ref r, .ref nt, .ref ns, .ref ib, .ref gs, .ref cs, .ref nu, .int 0, .int 2, .int (nI nad), .int (nI ncc), .int 0, .int 0])), (ns, .inr (7, [.int sst, .int 1, .int sdo, .ref mm])), (r, .inr (6, [.int rh, .int rl, .ref st, .ref ck, .ref ck, .int 0, .int 1, .int 1, .int 0, .int 0, .ref rf, .int 0])), (st, .inr (8, [.ref ml, .null])), (ck, .inr (1, [.ref ce, .null])), (ce, .inl (cJ, 128, .inr (.inl fE2_3))), (mm, .inr (4, [.int (nI mi), .int (nI mt), .int (nI mg), .int (nI ms), .int sd, .null]))] H := hP
  replace hD : va_D A [(nd, .inr (5, [.int nh, .int nl, .int nwa, .int nfr, .int (nI nwi), .ref r, .ref nt, .ref ns, .ref ib, .ref gs, .ref cs, .ref nu, .int 0, .int 2, .int (nI nad), .int (nI ncc), .int 0, .int 0])), (ns, .inr (7, [.int sst, .int 1, .int sdo, .ref mm])), (r, .inr (6, [.int rh, .int rl, .ref st, .ref ck, .ref ck, .int 0, .int 1, .int 1, .int 0, .int 0, .ref rf, .int 0])), (st, .inr (8, [.ref ml, .null])), (ck, .inr (1, [.ref ce, .null])), (ce, .inl (cJ, 128, .inr (.inl fE2_3))), (mm, .inr (4, [.int (nI mi), .int (nI mt), .int (nI mg), .int (nI ms), .int sd, .null]))] := hD
  clear hw
  refine lv_aload_n hx hb dX4_beginSending_76 rfl (lv_at hl 0 rfl) ?_
  refine va_get (D := (dC, dI)) (ci := 5) (v := .ref ns) (C := RX4) (T := TX4) (N := 18) hx hb hts in_c_beginSending_all_cN_X4 hown hK hP 0 rfl rfl 7 (by decide) (hts (.fieldLink RX4 21 "ClaimBus$Node" "sending" "LClaimBus$Sending;") (List.mem_of_getElem? (i := 1) rfl)) (fun _ h9 => h9) rfl dX4_beginSending_77 ?_
  refine lv_iload_n hx hb dX4_beginSending_80 rfl (lv_at hl 2 rfl) ?_
  refine lv_bipush (v := 50) hx hb dX4_beginSending_81 (by decide) ?_
  refine lv_iadd hx hb dX4_beginSending_83 ?_
  refine lv_topi (fun x_4 ex_4 => ?_)
  obtain rfl : x_4 = (nI (tm + 50)) := ex_4.trans ((nI_add tm 50).trans (show nI (tm + 50) = nI (tm + 50) from congrArg nI (by omega)))
  refine va_put (D := (dC, dI)) (ci := 7) (v := .int (nI (tm + 50))) (ty := .int) (C := RX6) (T := TX6) (N := 4) hx hb hts in_c_beginSending_all_cN_X6 tyX6 tyX6_ok nmX6 hown hK hP hD hS 1 rfl rfl 2 (by decide) (hts (.fieldLink RX4 140 "ClaimBus$Sending" "due" "I") (List.mem_of_getElem? (i := 11) rfl)) (fun _ h9 => h9) rfl (by decide +kernel) rfl rfl (Nat.le_of_ble_eq_true rfl) dX4_beginSending_84 (fun H locs hP hD hS => ?_)
  replace hP : va_P (dC, dI) vwCl [(nd, .inr (5, [.int nh, .int nl, .int nwa, .int nfr, .int (nI nwi), .ref r, .ref nt, .ref ns, .ref ib, .ref gs, .ref cs, .ref nu, .int 0, .int 2, .int (nI nad), .int (nI ncc), .int 0, .int 0])), (ns, .inr (7, [.int sst, .int 1, .int (nI (tm + 50)), .ref mm])), (r, .inr (6, [.int rh, .int rl, .ref st, .ref ck, .ref ck, .int 0, .int 1, .int 1, .int 0, .int 0, .ref rf, .int 0])), (st, .inr (8, [.ref ml, .null])), (ck, .inr (1, [.ref ce, .null])), (ce, .inl (cJ, 128, .inr (.inl fE2_3))), (mm, .inr (4, [.int (nI mi), .int (nI mt), .int (nI mg), .int (nI ms), .int sd, .null]))] H := hP
  replace hD : va_D A [(nd, .inr (5, [.int nh, .int nl, .int nwa, .int nfr, .int (nI nwi), .ref r, .ref nt, .ref ns, .ref ib, .ref gs, .ref cs, .ref nu, .int 0, .int 2, .int (nI nad), .int (nI ncc), .int 0, .int 0])), (ns, .inr (7, [.int sst, .int 1, .int (nI (tm + 50)), .ref mm])), (r, .inr (6, [.int rh, .int rl, .ref st, .ref ck, .ref ck, .int 0, .int 1, .int 1, .int 0, .int 0, .ref rf, .int 0])), (st, .inr (8, [.ref ml, .null])), (ck, .inr (1, [.ref ce, .null])), (ce, .inl (cJ, 128, .inr (.inl fE2_3))), (mm, .inr (4, [.int (nI mi), .int (nI mt), .int (nI mg), .int (nI ms), .int sd, .null]))] := hD
  refine lv_goto (tgt := 121) hx hb dX4_beginSending_87 (by decide) ?_
  refine lv_aload_n hx hb dX4_beginSending_121 rfl (lv_at hl 0 rfl) ?_
  refine va_get (D := (dC, dI)) (ci := 5) (v := .ref ns) (C := RX4) (T := TX4) (N := 18) hx hb hts in_c_beginSending_all_cN_X4 hown hK hP 0 rfl rfl 7 (by decide) (hts (.fieldLink RX4 21 "ClaimBus$Node" "sending" "LClaimBus$Sending;") (List.mem_of_getElem? (i := 1) rfl)) (fun _ h9 => h9) rfl dX4_beginSending_122 ?_
  refine lv_iconst (v := 1) hx hb dX4_beginSending_125 (by decide) ?_
  refine va_put (D := (dC, dI)) (ci := 7) (v := .int 1) (ty := .int) (C := RX6) (T := TX6) (N := 4) hx hb hts in_c_beginSending_all_cN_X6 tyX6 tyX6_ok nmX6 hown hK hP hD hS 1 rfl rfl 0 (by decide) (hts (.fieldLink RX4 121 "ClaimBus$Sending" "state" "I") (List.mem_of_getElem? (i := 12) rfl)) (fun _ h9 => h9) rfl (by decide +kernel) rfl rfl (Nat.le_of_ble_eq_true rfl) dX4_beginSending_126 (fun H locs hP hD hS => ?_)
  replace hP : va_P (dC, dI) vwCl [(nd, .inr (5, [.int nh, .int nl, .int nwa, .int nfr, .int (nI nwi), .ref r, .ref nt, .ref ns, .ref ib, .ref gs, .ref cs, .ref nu, .int 0, .int 2, .int (nI nad), .int (nI ncc), .int 0, .int 0])), (ns, .inr (7, [.int 1, .int 1, .int (nI (tm + 50)), .ref mm])), (r, .inr (6, [.int rh, .int rl, .ref st, .ref ck, .ref ck, .int 0, .int 1, .int 1, .int 0, .int 0, .ref rf, .int 0])), (st, .inr (8, [.ref ml, .null])), (ck, .inr (1, [.ref ce, .null])), (ce, .inl (cJ, 128, .inr (.inl fE2_3))), (mm, .inr (4, [.int (nI mi), .int (nI mt), .int (nI mg), .int (nI ms), .int sd, .null]))] H := hP
  replace hD : va_D A [(nd, .inr (5, [.int nh, .int nl, .int nwa, .int nfr, .int (nI nwi), .ref r, .ref nt, .ref ns, .ref ib, .ref gs, .ref cs, .ref nu, .int 0, .int 2, .int (nI nad), .int (nI ncc), .int 0, .int 0])), (ns, .inr (7, [.int 1, .int 1, .int (nI (tm + 50)), .ref mm])), (r, .inr (6, [.int rh, .int rl, .ref st, .ref ck, .ref ck, .int 0, .int 1, .int 1, .int 0, .int 0, .ref rf, .int 0])), (st, .inr (8, [.ref ml, .null])), (ck, .inr (1, [.ref ce, .null])), (ce, .inl (cJ, 128, .inr (.inl fE2_3))), (mm, .inr (4, [.int (nI mi), .int (nI mt), .int (nI mg), .int (nI ms), .int sd, .null]))] := hD
  have hP9 := hP.sub (ws' := [(nd, .inr (5, [.int nh, .int nl, .int nwa, .int nfr, .int (nI nwi), .ref r, .ref nt, .ref ns, .ref ib, .ref gs, .ref cs, .ref nu, .int 0, .int 2, .int (nI nad), .int (nI ncc), .int 0, .int 0])), (ns, .inr (7, [.int 1, .int 1, .int (nI (tm + 50)), .ref mm])), (mm, .inr (4, [.int (nI mi), .int (nI mt), .int (nI mg), .int (nI ms), .int sd, .null])), (r, .inr (6, [.int rh, .int rl, .ref st, .ref ck, .ref ck, .int 0, .int 1, .int 1, .int 0, .int 0, .ref rf, .int 0])), (st, .inr (8, [.ref ml, .null])), (ck, .inr (1, [.ref ce, .null])), (ce, .inl (cJ, 128, .inr (.inl fE2_3)))]) [0, 1, 6, 2, 3, 4, 5] rfl
  have hD9 := hD.sub (ws' := [(nd, .inr (5, [.int nh, .int nl, .int nwa, .int nfr, .int (nI nwi), .ref r, .ref nt, .ref ns, .ref ib, .ref gs, .ref cs, .ref nu, .int 0, .int 2, .int (nI nad), .int (nI ncc), .int 0, .int 0])), (ns, .inr (7, [.int 1, .int 1, .int (nI (tm + 50)), .ref mm])), (mm, .inr (4, [.int (nI mi), .int (nI mt), .int (nI mg), .int (nI ms), .int sd, .null])), (r, .inr (6, [.int rh, .int rl, .ref st, .ref ck, .ref ck, .int 0, .int 1, .int 1, .int 0, .int 0, .ref rf, .int 0])), (st, .inr (8, [.ref ml, .null])), (ck, .inr (1, [.ref ce, .null])), (ce, .inl (cJ, 128, .inr (.inl fE2_3)))]) [0, 1, 6, 2, 3, 4, 5] (by decide +kernel) rfl
  have hK9 := hK.sub (tys' := [(cJ, .long)]) [0] rfl
  exact W.vret hx hb hr (fun t ht hW => ⟨⟨(), rfl, trivial, ⟨fE2_3, by rw [ht]; exact hP9, va_K.moved hW.alike hK9, hD9, hlo_3.trans (congrArg nI (by omega)), hhi_3⟩⟩, hS.F ht⟩) hS.2.2 dX4_beginSending_129

noncomputable def tl_c_beginSending_all_c : List Cond := wsX40 ++ (wsX60 ++ (wsX30 ++ (v_c_put_c)))
noncomputable def v_c_beginSending_all_c : List Cond := .code yX4_beginSending cX4_beginSending 3 none :: ([.fieldLink RX4 21 "ClaimBus$Node" "sending" "LClaimBus$Sending;", .fieldLink RX4 122 "ClaimBus$Sending" "whole" "LClaimBus$Message;", .fieldLink RX4 126 "ClaimBus$Sending" "nextPacket" "I", .fieldLink RX4 129 "ClaimBus$Message" "size" "I", .fieldLink RX4 133 "ClaimBus$Message" "to" "I", .fieldLink RX4 89 "ClaimBus$Node" "row" "LClaimBus$Row;", .initialized RX5, .methodLink RX4 136 yX5_put, .instanceMethod yX5_put, .selects RX5 yX5_put yX5_put, .fieldLink RX4 140 "ClaimBus$Sending" "due" "I", .fieldLink RX4 121 "ClaimBus$Sending" "state" "I"] ++ tl_c_beginSending_all_c)
theorem it_c_beginSending_all_c : ∀ w ∈ tl_c_beginSending_all_c, w ∈ v_c_beginSending_all_c := fun w h => List.mem_cons_of_mem _ (List.mem_append_right _ h)
theorem in_c_beginSending_all_c_X4 : ∀ w ∈ wsX40, w ∈ v_c_beginSending_all_c := fun w h => it_c_beginSending_all_c w (List.mem_append_left _ h)
theorem in_c_beginSending_all_c_X6 : ∀ w ∈ wsX60, w ∈ v_c_beginSending_all_c := fun w h => it_c_beginSending_all_c w (List.mem_append_right _ (List.mem_append_left _ h))
theorem in_c_beginSending_all_c_X3 : ∀ w ∈ wsX30, w ∈ v_c_beginSending_all_c := fun w h => it_c_beginSending_all_c w (List.mem_append_right _ (List.mem_append_right _ (List.mem_append_left _ h)))
theorem ic_c_beginSending_all_c_c_put_c : ∀ w ∈ v_c_put_c, w ∈ v_c_beginSending_all_c := fun w h => it_c_beginSending_all_c w (List.mem_append_right _ (List.mem_append_right _ (List.mem_append_right _ (h))))
theorem gt_c_beginSending_all_c : ∀ w ∈ tl_c_beginSending_all_c, goodWord w = true := List.forall_mem_append.mpr ⟨gw_wsX40, List.forall_mem_append.mpr ⟨gw_wsX60, List.forall_mem_append.mpr ⟨gw_wsX30, gw_c_put_c⟩⟩⟩
theorem gw_c_beginSending_all_c : ∀ w ∈ v_c_beginSending_all_c, goodWord w = true := List.forall_mem_cons.mpr ⟨by decide +kernel, List.forall_mem_append.mpr ⟨List.all_eq_true.mp (by decide +kernel), gt_c_beginSending_all_c⟩⟩
theorem g_c_beginSending_all_c_c_put_c_136 : GoodIn v_c_beginSending_all_c (wsV RX4 136 RX5 yX5_put v_c_put_c) := goodIn_app (goodIn_r [.methodLink RX4 136 yX5_put, .instanceMethod yX5_put, .selects RX5 yX5_put yX5_put, .initialized RX5] [8, 9, 10, 7] (by decide +kernel) (by decide +kernel)) (fun w h => ⟨ic_c_beginSending_all_c_c_put_c w h, good_of_word (gw_c_put_c w h)⟩)
set_option maxHeartbeats 4000000 in
set_option maxRecDepth 100000 in
/-- Node.beginSending -/
theorem c_beginSending_all_c (l : Launch) (dC : Nat → ClassId) (dI : Nat → Nat → Nat) (nd : Nat) (nh : Int32) (nl : Int32) (nwa : Int32) (nfr : Int32) (nwi : Nat) (r : Nat) (nt : Nat) (ns : Nat) (ib : Nat) (gs : Nat) (cs : Nat) (nu : Nat) (nad : Nat) (ncc : Nat) (rh : Int32) (rl : Int32) (st : Nat) (rf : Nat) (hp : Int32) (tp : Int32) (ml : Nat) (ck : Nat) (ce : Nat) (cJ : ClassId) (fE : Nat → Int64) (mm : Nat) (mi : Nat) (mt : Nat) (mg : Nat) (ms : Nat) (sd : Int32) (sst : Int32) (snp : Int32) (sdo : Int32) (mo : Nat) (tm : Nat) (sz : Nat) (hmi : mi < 8) (hmt : mt < 256) (hmg : mg < 262144) (hms : ms < 1786) (hmt2 : mt = 255) (hms1 : 9 ≤ ms) (hwi : nwi < 17) (htm : tm < 200000) : Met l yX4_beginSending v_c_beginSending_all_c ({ frames := 2, cells := 0, slots := 0, locals := 48 }) (va_Pc [.ref nd, .ref mm, .int (nI tm)] (fun U => U.heap.size = sz ∧ va_P (dC, dI) vwCl [(nd, .inr (5, [.int nh, .int nl, .int nwa, .int nfr, .int (nI nwi), .ref r, .ref nt, .ref ns, .ref ib, .ref gs, .ref cs, .ref nu, .int 0, .int 2, .int (nI nad), .int (nI ncc), .int 0, .int 0])), (ns, .inr (7, [.int sst, .int snp, .int sdo, .ref mo])), (mm, .inr (4, [.int (nI mi), .int (nI mt), .int (nI mg), .int (nI ms), .int sd, .null])), (r, .inr (6, [.int rh, .int rl, .ref st, .null, .null, .int hp, .int tp, .int 0, .int 0, .int 0, .ref rf, .int 0])), (st, .inr (8, [.ref ml, .ref ck])), (ck, .inr (1, [.ref ce, .null])), (ce, .inl (cJ, 128, .inr (.inl fE)))] U.heap ∧ va_K (dC, dI) vwCl [(cJ, .long)] U ∧ va_D (fun _ => True) [(nd, .inr (5, [.int nh, .int nl, .int nwa, .int nfr, .int (nI nwi), .ref r, .ref nt, .ref ns, .ref ib, .ref gs, .ref cs, .ref nu, .int 0, .int 2, .int (nI nad), .int (nI ncc), .int 0, .int 0])), (ns, .inr (7, [.int sst, .int snp, .int sdo, .ref mo])), (mm, .inr (4, [.int (nI mi), .int (nI mt), .int (nI mg), .int (nI ms), .int sd, .null])), (r, .inr (6, [.int rh, .int rl, .ref st, .null, .null, .int hp, .int tp, .int 0, .int 0, .int 0, .ref rf, .int 0])), (st, .inr (8, [.ref ml, .ref ck])), (ck, .inr (1, [.ref ce, .null])), (ce, .inl (cJ, 128, .inr (.inl fE)))] ∧ ev U)) (va_Qv (fun _ : Unit => True) (fun (_ : Unit) (t : State) => ∃ (fE2 : Nat → Int64), va_P (dC, dI) vwCl [(nd, .inr (5, [.int nh, .int nl, .int nwa, .int nfr, .int (nI nwi), .ref r, .ref nt, .ref ns, .ref ib, .ref gs, .ref cs, .ref nu, .int 0, .int 2, .int (nI nad), .int (nI ncc), .int 0, .int 0])), (ns, .inr (7, [.int 1, .int 1, .int (nI (tm + 50)), .ref mm])), (mm, .inr (4, [.int (nI mi), .int (nI mt), .int (nI mg), .int (nI ms), .int sd, .null])), (r, .inr (6, [.int rh, .int rl, .ref st, .ref ck, .ref ck, .int 0, .int 1, .int 1, .int 0, .int 0, .ref rf, .int 0])), (st, .inr (8, [.ref ml, .null])), (ck, .inr (1, [.ref ce, .null])), (ce, .inl (cJ, 128, .inr (.inl fE2)))] t.heap ∧ va_K (dC, dI) vwCl [(cJ, .long)] t ∧ va_D (va_A [(nd, .inr (5, [.int nh, .int nl, .int nwa, .int nfr, .int (nI nwi), .ref r, .ref nt, .ref ns, .ref ib, .ref gs, .ref cs, .ref nu, .int 0, .int 2, .int (nI nad), .int (nI ncc), .int 0, .int 0])), (ns, .inr (7, [.int sst, .int snp, .int sdo, .ref mo])), (mm, .inr (4, [.int (nI mi), .int (nI mt), .int (nI mg), .int (nI ms), .int sd, .null])), (r, .inr (6, [.int rh, .int rl, .ref st, .null, .null, .int hp, .int tp, .int 0, .int 0, .int 0, .ref rf, .int 0])), (st, .inr (8, [.ref ml, .ref ck])), (ck, .inr (1, [.ref ce, .null])), (ce, .inl (cJ, 128, .inr (.inl fE)))] sz) [(nd, .inr (5, [.int nh, .int nl, .int nwa, .int nfr, .int (nI nwi), .ref r, .ref nt, .ref ns, .ref ib, .ref gs, .ref cs, .ref nu, .int 0, .int 2, .int (nI nad), .int (nI ncc), .int 0, .int 0])), (ns, .inr (7, [.int 1, .int 1, .int (nI (tm + 50)), .ref mm])), (mm, .inr (4, [.int (nI mi), .int (nI mt), .int (nI mg), .int (nI ms), .int sd, .null])), (r, .inr (6, [.int rh, .int rl, .ref st, .ref ck, .ref ck, .int 0, .int 1, .int 1, .int 0, .int 0, .ref rf, .int 0])), (st, .inr (8, [.ref ml, .null])), (ck, .inr (1, [.ref ce, .null])), (ce, .inl (cJ, 128, .inr (.inl fE2)))] ∧ ((fE2 0).toInt32 = (nI (16777216 * mt + 65536 * 32 + 256 * 255 + 0))) ∧ ((fE2 0 >>> ((32 : Int32).toInt64 &&& 63)).toInt32 = (nI mi))) (va_A [(nd, .inr (5, [.int nh, .int nl, .int nwa, .int nfr, .int (nI nwi), .ref r, .ref nt, .ref ns, .ref ib, .ref gs, .ref cs, .ref nu, .int 0, .int 2, .int (nI nad), .int (nI ncc), .int 0, .int 0])), (ns, .inr (7, [.int sst, .int snp, .int sdo, .ref mo])), (mm, .inr (4, [.int (nI mi), .int (nI mt), .int (nI mg), .int (nI ms), .int sd, .null])), (r, .inr (6, [.int rh, .int rl, .ref st, .null, .null, .int hp, .int tp, .int 0, .int 0, .int 0, .ref rf, .int 0])), (st, .inr (8, [.ref ml, .ref ck])), (ck, .inr (1, [.ref ce, .null])), (ce, .inl (cJ, 128, .inr (.inl fE)))] sz)) 0 0 (va_A [(nd, .inr (5, [.int nh, .int nl, .int nwa, .int nfr, .int (nI nwi), .ref r, .ref nt, .ref ns, .ref ib, .ref gs, .ref cs, .ref nu, .int 0, .int 2, .int (nI nad), .int (nI ncc), .int 0, .int 0])), (ns, .inr (7, [.int sst, .int snp, .int sdo, .ref mo])), (mm, .inr (4, [.int (nI mi), .int (nI mt), .int (nI mg), .int (nI ms), .int sd, .null])), (r, .inr (6, [.int rh, .int rl, .ref st, .null, .null, .int hp, .int tp, .int 0, .int 0, .int 0, .ref rf, .int 0])), (st, .inr (8, [.ref ml, .ref ck])), (ck, .inr (1, [.ref ce, .null])), (ce, .inl (cJ, 128, .inr (.inl fE)))] sz) := by
  refine Met.ofW (cc := cX4_beginSending) (maxL := 3) (ret := none) (by decide) rfl ?_
  intro p e s m args below meth c s₁ B hml hv
  obtain ⟨rfl, hsz, hP, hK, hD0, hE⟩ := hv
  have hx := B.exec
  have hb := B.bytes
  have hr := B.returns
  have hts := atoms_spec (ws := v_c_beginSending_all_c) B.pre
  have hown : s.vm.findClass RX4 = some m.cls := findClass_of_methodNamed B.named
  have hlocks := B.notSynchronized
  subst hsz
  have hD := hD0.self (sz := s.heap.size)
  generalize hAe : va_A [(nd, .inr (5, [.int nh, .int nl, .int nwa, .int nfr, .int (nI nwi), .ref r, .ref nt, .ref ns, .ref ib, .ref gs, .ref cs, .ref nu, .int 0, .int 2, .int (nI nad), .int (nI ncc), .int 0, .int 0])), (ns, .inr (7, [.int sst, .int snp, .int sdo, .ref mo])), (mm, .inr (4, [.int (nI mi), .int (nI mt), .int (nI mg), .int (nI ms), .int sd, .null])), (r, .inr (6, [.int rh, .int rl, .ref st, .null, .null, .int hp, .int tp, .int 0, .int 0, .int 0, .ref rf, .int 0])), (st, .inr (8, [.ref ml, .ref ck])), (ck, .inr (1, [.ref ce, .null])), (ce, .inl (cJ, 128, .inr (.inl fE)))] s.heap.size = A at hD ⊢
  have hA : ∀ q : Nat, s.heap.size ≤ q → A q := fun q h => by rw [← hAe]; exact Or.inr h
  have hS : va_S A s.heap s.heap [] := va_S.rf
  replace hP : va_P (dC, dI) vwCl [(nd, .inr (5, [.int nh, .int nl, .int nwa, .int nfr, .int (nI nwi), .ref r, .ref nt, .ref ns, .ref ib, .ref gs, .ref cs, .ref nu, .int 0, .int 2, .int (nI nad), .int (nI ncc), .int 0, .int 0])), (ns, .inr (7, [.int sst, .int snp, .int sdo, .ref mo])), (mm, .inr (4, [.int (nI mi), .int (nI mt), .int (nI mg), .int (nI ms), .int sd, .null])), (r, .inr (6, [.int rh, .int rl, .ref st, .null, .null, .int hp, .int tp, .int 0, .int 0, .int 0, .ref rf, .int 0])), (st, .inr (8, [.ref ml, .ref ck])), (ck, .inr (1, [.ref ce, .null])), (ce, .inl (cJ, 128, .inr (.inl fE)))] s.heap := hP
  have hl := lv_entry ([.ref nd, .ref mm, .int (nI tm)]) (n := 3) (Nat.le_of_ble_eq_true rfl)
  rw [lg_entry_eq]
  generalize (lg_sl ([.ref nd, .ref mm, .int (nI tm)]) ++ List.replicate (3 - (lg_sl ([.ref nd, .ref mm, .int (nI tm)])).length) Slot.unset).toArray = ls at hl ⊢
  replace hl : lv_has ls 3 [(0, .ref nd), (1, .ref mm), (2, .int (nI tm))] := hl
  obtain ⟨H, hH⟩ : ∃ z : Heap, z = s.heap := ⟨_, rfl⟩
  rw [← hH]
  replace hS : va_S A s.heap H [] := by rw [hH]; exact va_S.rf
  replace hP : va_P (dC, dI) vwCl [(nd, .inr (5, [.int nh, .int nl, .int nwa, .int nfr, .int (nI nwi), .ref r, .ref nt, .ref ns, .ref ib, .ref gs, .ref cs, .ref nu, .int 0, .int 2, .int (nI nad), .int (nI ncc), .int 0, .int 0])), (ns, .inr (7, [.int sst, .int snp, .int sdo, .ref mo])), (mm, .inr (4, [.int (nI mi), .int (nI mt), .int (nI mg), .int (nI ms), .int sd, .null])), (r, .inr (6, [.int rh, .int rl, .ref st, .null, .null, .int hp, .int tp, .int 0, .int 0, .int 0, .ref rf, .int 0])), (st, .inr (8, [.ref ml, .ref ck])), (ck, .inr (1, [.ref ce, .null])), (ce, .inl (cJ, 128, .inr (.inl fE)))] H := by rw [hH]; exact hP
  clear hH
  refine lv_aload_n hx hb dX4_beginSending_0 rfl (lv_at hl 0 rfl) ?_
  refine va_get (D := (dC, dI)) (ci := 5) (v := .ref ns) (C := RX4) (T := TX4) (N := 18) hx hb hts in_c_beginSending_all_c_X4 hown hK hP 0 rfl rfl 7 (by decide) (hts (.fieldLink RX4 21 "ClaimBus$Node" "sending" "LClaimBus$Sending;") (List.mem_of_getElem? (i := 1) rfl)) (fun _ h9 => h9) rfl dX4_beginSending_1 ?_
  refine lv_aload_n hx hb dX4_beginSending_4 rfl (lv_at hl 1 rfl) ?_
  refine va_put (D := (dC, dI)) (ci := 7) (v := .ref mm) (ty := (.object "ClaimBus$Message")) (C := RX6) (T := TX6) (N := 4) hx hb hts in_c_beginSending_all_c_X6 tyX6 tyX6_ok nmX6 hown hK hP hD hS 1 rfl rfl 3 (by decide) (hts (.fieldLink RX4 122 "ClaimBus$Sending" "whole" "LClaimBus$Message;") (List.mem_of_getElem? (i := 2) rfl)) (fun _ h9 => h9) rfl (by decide +kernel) rfl rfl (Nat.le_of_ble_eq_true rfl) dX4_beginSending_5 (fun H locs hP hD hS => ?_)
  replace hP : va_P (dC, dI) vwCl [(nd, .inr (5, [.int nh, .int nl, .int nwa, .int nfr, .int (nI nwi), .ref r, .ref nt, .ref ns, .ref ib, .ref gs, .ref cs, .ref nu, .int 0, .int 2, .int (nI nad), .int (nI ncc), .int 0, .int 0])), (ns, .inr (7, [.int sst, .int snp, .int sdo, .ref mm])), (mm, .inr (4, [.int (nI mi), .int (nI mt), .int (nI mg), .int (nI ms), .int sd, .null])), (r, .inr (6, [.int rh, .int rl, .ref st, .null, .null, .int hp, .int tp, .int 0, .int 0, .int 0, .ref rf, .int 0])), (st, .inr (8, [.ref ml, .ref ck])), (ck, .inr (1, [.ref ce, .null])), (ce, .inl (cJ, 128, .inr (.inl fE)))] H := hP
  replace hD : va_D A [(nd, .inr (5, [.int nh, .int nl, .int nwa, .int nfr, .int (nI nwi), .ref r, .ref nt, .ref ns, .ref ib, .ref gs, .ref cs, .ref nu, .int 0, .int 2, .int (nI nad), .int (nI ncc), .int 0, .int 0])), (ns, .inr (7, [.int sst, .int snp, .int sdo, .ref mm])), (mm, .inr (4, [.int (nI mi), .int (nI mt), .int (nI mg), .int (nI ms), .int sd, .null])), (r, .inr (6, [.int rh, .int rl, .ref st, .null, .null, .int hp, .int tp, .int 0, .int 0, .int 0, .ref rf, .int 0])), (st, .inr (8, [.ref ml, .ref ck])), (ck, .inr (1, [.ref ce, .null])), (ce, .inl (cJ, 128, .inr (.inl fE)))] := hD
  refine lv_aload_n hx hb dX4_beginSending_8 rfl (lv_at hl 0 rfl) ?_
  refine va_get (D := (dC, dI)) (ci := 5) (v := .ref ns) (C := RX4) (T := TX4) (N := 18) hx hb hts in_c_beginSending_all_c_X4 hown hK hP 0 rfl rfl 7 (by decide) (hts (.fieldLink RX4 21 "ClaimBus$Node" "sending" "LClaimBus$Sending;") (List.mem_of_getElem? (i := 1) rfl)) (fun _ h9 => h9) rfl dX4_beginSending_9 ?_
  refine lv_iconst (v := 1) hx hb dX4_beginSending_12 (by decide) ?_
  refine va_put (D := (dC, dI)) (ci := 7) (v := .int 1) (ty := .int) (C := RX6) (T := TX6) (N := 4) hx hb hts in_c_beginSending_all_c_X6 tyX6 tyX6_ok nmX6 hown hK hP hD hS 1 rfl rfl 1 (by decide) (hts (.fieldLink RX4 126 "ClaimBus$Sending" "nextPacket" "I") (List.mem_of_getElem? (i := 3) rfl)) (fun _ h9 => h9) rfl (by decide +kernel) rfl rfl (Nat.le_of_ble_eq_true rfl) dX4_beginSending_13 (fun H locs hP hD hS => ?_)
  replace hP : va_P (dC, dI) vwCl [(nd, .inr (5, [.int nh, .int nl, .int nwa, .int nfr, .int (nI nwi), .ref r, .ref nt, .ref ns, .ref ib, .ref gs, .ref cs, .ref nu, .int 0, .int 2, .int (nI nad), .int (nI ncc), .int 0, .int 0])), (ns, .inr (7, [.int sst, .int 1, .int sdo, .ref mm])), (mm, .inr (4, [.int (nI mi), .int (nI mt), .int (nI mg), .int (nI ms), .int sd, .null])), (r, .inr (6, [.int rh, .int rl, .ref st, .null, .null, .int hp, .int tp, .int 0, .int 0, .int 0, .ref rf, .int 0])), (st, .inr (8, [.ref ml, .ref ck])), (ck, .inr (1, [.ref ce, .null])), (ce, .inl (cJ, 128, .inr (.inl fE)))] H := hP
  replace hD : va_D A [(nd, .inr (5, [.int nh, .int nl, .int nwa, .int nfr, .int (nI nwi), .ref r, .ref nt, .ref ns, .ref ib, .ref gs, .ref cs, .ref nu, .int 0, .int 2, .int (nI nad), .int (nI ncc), .int 0, .int 0])), (ns, .inr (7, [.int sst, .int 1, .int sdo, .ref mm])), (mm, .inr (4, [.int (nI mi), .int (nI mt), .int (nI mg), .int (nI ms), .int sd, .null])), (r, .inr (6, [.int rh, .int rl, .ref st, .null, .null, .int hp, .int tp, .int 0, .int 0, .int 0, .ref rf, .int 0])), (st, .inr (8, [.ref ml, .ref ck])), (ck, .inr (1, [.ref ce, .null])), (ce, .inl (cJ, 128, .inr (.inl fE)))] := hD
  refine lv_aload_n hx hb dX4_beginSending_16 rfl (lv_at hl 1 rfl) ?_
  refine va_get (D := (dC, dI)) (ci := 4) (v := .int (nI ms)) (C := RX3) (T := TX3) (N := 6) hx hb hts in_c_beginSending_all_c_X3 hown hK hP 2 rfl rfl 3 (by decide) (hts (.fieldLink RX4 129 "ClaimBus$Message" "size" "I") (List.mem_of_getElem? (i := 4) rfl)) (fun _ h9 => h9) rfl dX4_beginSending_17 ?_
  refine lv_bipush (v := 8) hx hb dX4_beginSending_20 (by decide) ?_
  refine lv_icmp_gt (tgt := 49) hx hb dX4_beginSending_22 (by decide) (fun c_1 => ?_) (fun c_1 => ?_)
  rotate_left
  · exact absurd ((nI_ltI (a := 8) (b := ms) (by omega) (by omega)).mpr (by omega)) c_1
  refine lv_aload_n hx hb dX4_beginSending_49 rfl (lv_at hl 1 rfl) ?_
  refine va_get (D := (dC, dI)) (ci := 4) (v := .int (nI mt)) (C := RX3) (T := TX3) (N := 6) hx hb hts in_c_beginSending_all_c_X3 hown hK hP 2 rfl rfl 1 (by decide) (hts (.fieldLink RX4 133 "ClaimBus$Message" "to" "I") (List.mem_of_getElem? (i := 5) rfl)) (fun _ h9 => h9) rfl dX4_beginSending_50 ?_
  refine lv_sipush (v := 255) hx hb dX4_beginSending_53 (by decide) ?_
  refine lv_icmp_ne (tgt := 90) hx hb dX4_beginSending_56 (by decide) (fun c_2 => ?_) (fun c_2 => ?_)
  · exact absurd ((nI_eq (a := mt) (b := 255) (by omega) (by omega)).mpr (by omega)) c_2
  refine lv_aload_n hx hb dX4_beginSending_59 rfl (lv_at hl 0 rfl) ?_
  refine va_get (D := (dC, dI)) (ci := 5) (v := .ref r) (C := RX4) (T := TX4) (N := 18) hx hb hts in_c_beginSending_all_c_X4 hown hK hP 0 rfl rfl 5 (by decide) (hts (.fieldLink RX4 89 "ClaimBus$Node" "row" "LClaimBus$Row;") (List.mem_of_getElem? (i := 6) rfl)) (fun _ h9 => h9) rfl dX4_beginSending_60 ?_
  refine lv_aload_n hx hb dX4_beginSending_63 rfl (lv_at hl 1 rfl) ?_
  refine lv_sipush (v := 255) hx hb dX4_beginSending_64 (by decide) ?_
  refine lv_bipush (v := 32) hx hb dX4_beginSending_67 (by decide) ?_
  refine lv_sipush (v := 255) hx hb dX4_beginSending_69 (by decide) ?_
  refine lv_iconst (v := 0) hx hb dX4_beginSending_72 (by decide) ?_
  have hPc := hP.sub (ws' := [(r, .inr (6, [.int rh, .int rl, .ref st, .null, .null, .int hp, .int tp, .int 0, .int 0, .int 0, .ref rf, .int 0])), (st, .inr (8, [.ref ml, .ref ck])), (ck, .inr (1, [.ref ce, .null])), (ce, .inl (cJ, 128, .inr (.inl fE))), (mm, .inr (4, [.int (nI mi), .int (nI mt), .int (nI mg), .int (nI ms), .int sd, .null]))]) [3, 4, 5, 6, 2] rfl
  have hDc := hD.sub (ws' := [(r, .inr (6, [.int rh, .int rl, .ref st, .null, .null, .int hp, .int tp, .int 0, .int 0, .int 0, .ref rf, .int 0])), (st, .inr (8, [.ref ml, .ref ck])), (ck, .inr (1, [.ref ce, .null])), (ce, .inl (cJ, 128, .inr (.inl fE))), (mm, .inr (4, [.int (nI mi), .int (nI mt), .int (nI mg), .int (nI ms), .int sd, .null]))]) [3, 4, 5, 6, 2] (by decide +kernel) rfl
  have hKc := hK.sub (tys' := [(cJ, .long)]) [0] rfl
  have hFc := va_free (wc := [(r, .inr (6, [.int rh, .int rl, .ref st, .null, .null, .int hp, .int tp, .int 0, .int 0, .int 0, .ref rf, .int 0])), (st, .inr (8, [.ref ml, .ref ck])), (ck, .inr (1, [.ref ce, .null])), (ce, .inl (cJ, 128, .inr (.inl fE))), (mm, .inr (4, [.int (nI mi), .int (nI mt), .int (nI mg), .int (nI ms), .int sd, .null]))]) hD hS hA [3, 4, 5, 6, 2] rfl
  refine va_callv (va_runV (As := [.ref mm, .int 255, .int 32, .int 255, .int 0]) (rest := []) ⟨hx, hb, hml, hown, hts⟩ (c_put_c l dC dI (r) (rh) (rl) (st) (rf) (hp) (tp) (ml) (ck) (ce) (cJ) (fE) (mm) (mi) (mt) (mg) (ms) (sd) (255) (32) (255) (0) H.size (by omega) (by omega) (by omega) (by omega) hmi (by omega)) (cwV 5 hts g_c_beginSending_all_c_c_put_c_136 rfl rfl rfl (by decide +kernel) ⟨Nat.le_of_ble_eq_true rfl, Nat.le_of_ble_eq_true rfl⟩) ⟨fun a U g mk q => by obtain ⟨q0, q1, qP, qK, qD, qE⟩ := q; exact ⟨q0, q1, qP, va_K.moved (u := U) (U := U.calling g mk a) (Vm.Alike.refl U.vm) qK, qD, ev.same (u := U) (U := U.calling g mk a) rfl qE⟩, va_recv hKc hPc (ci := 6) (q0 := 0) rfl rfl, fun U hU hW => ⟨rfl, by rw [hU], by rw [hU]; exact hPc, va_K.moved hW.alike hKc, hDc.weaken (fun _ _ _ _ => trivial), hE.warm hW⟩⟩ rfl rfl hl.1 rfl (lv_room (Nat.le_of_ble_eq_true rfl)) dX4_beginSending_73 ⟨Nat.le_of_ble_eq_true rfl, Nat.le_of_ble_eq_true rfl⟩) hS (fun q _ h => hFc q h) hFc (fun u t H1 locs ht hvm hw hB hz1 hk1 hS => ?_)
  clear hPc hDc hKc
  obtain ⟨fE2_3, hP1, hK1, hD1, hlo_3, hhi_3⟩ := hB
  rw [ht] at hP1
  have hK1 := va_K.moved hvm.symm hK1
  obtain ⟨hP, hD⟩ := va_join (wr := [(nd, .inr (5, [.int nh, .int nl, .int nwa, .int nfr, .int (nI nwi), .ref r, .ref nt, .ref ns, .ref ib, .ref gs, .ref cs, .ref nu, .int 0, .int 2, .int (nI nad), .int (nI ncc), .int 0, .int 0])), (ns, .inr (7, [.int sst, .int 1, .int sdo, .ref mm]))]) (w1 := [(r, .inr (6, [.int rh, .int rl, .ref st, .ref ck, .ref ck, .int 0, .int 1, .int 1, .int 0, .int 0, .ref rf, .int 0])), (st, .inr (8, [.ref ml, .null])), (ck, .inr (1, [.ref ce, .null])), (ce, .inl (cJ, 128, .inr (.inl fE2_3))), (mm, .inr (4, [.int (nI mi), .int (nI mt), .int (nI mg), .int (nI ms), .int sd, .null]))]) hP hD [3, 4, 5, 6, 2] [0, 1] rfl rfl (by decide +kernel) (by decide +kernel) hk1 hFc hP1 hD1
  generalize H1 = H at hP hS ⊢
  replace hP : va_P (dC, dI) vwCl [(nd, .inr (5, [.int nh, .int nl, .int nwa, .int nfr, .int (nI nwi), .ref r, .ref nt, .ref ns, .ref ib, .ref gs, .ref cs, .ref nu, .int 0, .int 2, .int (nI nad), .int (nI ncc), .int 0, .int 0])), (ns, .inr (7, [.int sst, .int 1, .int sdo, .ref mm])), (r, .inr (6, [.int rh, .int rl, .ref st, .ref ck, .ref ck, .int 0, .int 1, .int 1, .int 0, .int 0, .ref rf, .int 0])), (st, .inr (8, [.ref ml, .null])), (ck, .inr (1, [.ref ce, .null])), (ce, .inl (cJ, 128, .inr (.inl fE2_3))), (mm, .inr (4, [.int (nI mi), .int (nI mt), .int (nI mg), .int (nI ms), .int sd, .null]))] H := hP
  replace hD : va_D A [(nd, .inr (5, [.int nh, .int nl, .int nwa, .int nfr, .int (nI nwi), .ref r, .ref nt, .ref ns, .ref ib, .ref gs, .ref cs, .ref nu, .int 0, .int 2, .int (nI nad), .int (nI ncc), .int 0, .int 0])), (ns, .inr (7, [.int sst, .int 1, .int sdo, .ref mm])), (r, .inr (6, [.int rh, .int rl, .ref st, .ref ck, .ref ck, .int 0, .int 1, .int 1, .int 0, .int 0, .ref rf, .int 0])), (st, .inr (8, [.ref ml, .null])), (ck, .inr (1, [.ref ce, .null])), (ce, .inl (cJ, 128, .inr (.inl fE2_3))), (mm, .inr (4, [.int (nI mi), .int (nI mt), .int (nI mg), .int (nI ms), .int sd, .null]))] := hD
  clear hw
  refine lv_aload_n hx hb dX4_beginSending_76 rfl (lv_at hl 0 rfl) ?_
  refine va_get (D := (dC, dI)) (ci := 5) (v := .ref ns) (C := RX4) (T := TX4) (N := 18) hx hb hts in_c_beginSending_all_c_X4 hown hK hP 0 rfl rfl 7 (by decide) (hts (.fieldLink RX4 21 "ClaimBus$Node" "sending" "LClaimBus$Sending;") (List.mem_of_getElem? (i := 1) rfl)) (fun _ h9 => h9) rfl dX4_beginSending_77 ?_
  refine lv_iload_n hx hb dX4_beginSending_80 rfl (lv_at hl 2 rfl) ?_
  refine lv_bipush (v := 50) hx hb dX4_beginSending_81 (by decide) ?_
  refine lv_iadd hx hb dX4_beginSending_83 ?_
  refine lv_topi (fun x_4 ex_4 => ?_)
  obtain rfl : x_4 = (nI (tm + 50)) := ex_4.trans ((nI_add tm 50).trans (show nI (tm + 50) = nI (tm + 50) from congrArg nI (by omega)))
  refine va_put (D := (dC, dI)) (ci := 7) (v := .int (nI (tm + 50))) (ty := .int) (C := RX6) (T := TX6) (N := 4) hx hb hts in_c_beginSending_all_c_X6 tyX6 tyX6_ok nmX6 hown hK hP hD hS 1 rfl rfl 2 (by decide) (hts (.fieldLink RX4 140 "ClaimBus$Sending" "due" "I") (List.mem_of_getElem? (i := 11) rfl)) (fun _ h9 => h9) rfl (by decide +kernel) rfl rfl (Nat.le_of_ble_eq_true rfl) dX4_beginSending_84 (fun H locs hP hD hS => ?_)
  replace hP : va_P (dC, dI) vwCl [(nd, .inr (5, [.int nh, .int nl, .int nwa, .int nfr, .int (nI nwi), .ref r, .ref nt, .ref ns, .ref ib, .ref gs, .ref cs, .ref nu, .int 0, .int 2, .int (nI nad), .int (nI ncc), .int 0, .int 0])), (ns, .inr (7, [.int sst, .int 1, .int (nI (tm + 50)), .ref mm])), (r, .inr (6, [.int rh, .int rl, .ref st, .ref ck, .ref ck, .int 0, .int 1, .int 1, .int 0, .int 0, .ref rf, .int 0])), (st, .inr (8, [.ref ml, .null])), (ck, .inr (1, [.ref ce, .null])), (ce, .inl (cJ, 128, .inr (.inl fE2_3))), (mm, .inr (4, [.int (nI mi), .int (nI mt), .int (nI mg), .int (nI ms), .int sd, .null]))] H := hP
  replace hD : va_D A [(nd, .inr (5, [.int nh, .int nl, .int nwa, .int nfr, .int (nI nwi), .ref r, .ref nt, .ref ns, .ref ib, .ref gs, .ref cs, .ref nu, .int 0, .int 2, .int (nI nad), .int (nI ncc), .int 0, .int 0])), (ns, .inr (7, [.int sst, .int 1, .int (nI (tm + 50)), .ref mm])), (r, .inr (6, [.int rh, .int rl, .ref st, .ref ck, .ref ck, .int 0, .int 1, .int 1, .int 0, .int 0, .ref rf, .int 0])), (st, .inr (8, [.ref ml, .null])), (ck, .inr (1, [.ref ce, .null])), (ce, .inl (cJ, 128, .inr (.inl fE2_3))), (mm, .inr (4, [.int (nI mi), .int (nI mt), .int (nI mg), .int (nI ms), .int sd, .null]))] := hD
  refine lv_goto (tgt := 121) hx hb dX4_beginSending_87 (by decide) ?_
  refine lv_aload_n hx hb dX4_beginSending_121 rfl (lv_at hl 0 rfl) ?_
  refine va_get (D := (dC, dI)) (ci := 5) (v := .ref ns) (C := RX4) (T := TX4) (N := 18) hx hb hts in_c_beginSending_all_c_X4 hown hK hP 0 rfl rfl 7 (by decide) (hts (.fieldLink RX4 21 "ClaimBus$Node" "sending" "LClaimBus$Sending;") (List.mem_of_getElem? (i := 1) rfl)) (fun _ h9 => h9) rfl dX4_beginSending_122 ?_
  refine lv_iconst (v := 1) hx hb dX4_beginSending_125 (by decide) ?_
  refine va_put (D := (dC, dI)) (ci := 7) (v := .int 1) (ty := .int) (C := RX6) (T := TX6) (N := 4) hx hb hts in_c_beginSending_all_c_X6 tyX6 tyX6_ok nmX6 hown hK hP hD hS 1 rfl rfl 0 (by decide) (hts (.fieldLink RX4 121 "ClaimBus$Sending" "state" "I") (List.mem_of_getElem? (i := 12) rfl)) (fun _ h9 => h9) rfl (by decide +kernel) rfl rfl (Nat.le_of_ble_eq_true rfl) dX4_beginSending_126 (fun H locs hP hD hS => ?_)
  replace hP : va_P (dC, dI) vwCl [(nd, .inr (5, [.int nh, .int nl, .int nwa, .int nfr, .int (nI nwi), .ref r, .ref nt, .ref ns, .ref ib, .ref gs, .ref cs, .ref nu, .int 0, .int 2, .int (nI nad), .int (nI ncc), .int 0, .int 0])), (ns, .inr (7, [.int 1, .int 1, .int (nI (tm + 50)), .ref mm])), (r, .inr (6, [.int rh, .int rl, .ref st, .ref ck, .ref ck, .int 0, .int 1, .int 1, .int 0, .int 0, .ref rf, .int 0])), (st, .inr (8, [.ref ml, .null])), (ck, .inr (1, [.ref ce, .null])), (ce, .inl (cJ, 128, .inr (.inl fE2_3))), (mm, .inr (4, [.int (nI mi), .int (nI mt), .int (nI mg), .int (nI ms), .int sd, .null]))] H := hP
  replace hD : va_D A [(nd, .inr (5, [.int nh, .int nl, .int nwa, .int nfr, .int (nI nwi), .ref r, .ref nt, .ref ns, .ref ib, .ref gs, .ref cs, .ref nu, .int 0, .int 2, .int (nI nad), .int (nI ncc), .int 0, .int 0])), (ns, .inr (7, [.int 1, .int 1, .int (nI (tm + 50)), .ref mm])), (r, .inr (6, [.int rh, .int rl, .ref st, .ref ck, .ref ck, .int 0, .int 1, .int 1, .int 0, .int 0, .ref rf, .int 0])), (st, .inr (8, [.ref ml, .null])), (ck, .inr (1, [.ref ce, .null])), (ce, .inl (cJ, 128, .inr (.inl fE2_3))), (mm, .inr (4, [.int (nI mi), .int (nI mt), .int (nI mg), .int (nI ms), .int sd, .null]))] := hD
  have hP9 := hP.sub (ws' := [(nd, .inr (5, [.int nh, .int nl, .int nwa, .int nfr, .int (nI nwi), .ref r, .ref nt, .ref ns, .ref ib, .ref gs, .ref cs, .ref nu, .int 0, .int 2, .int (nI nad), .int (nI ncc), .int 0, .int 0])), (ns, .inr (7, [.int 1, .int 1, .int (nI (tm + 50)), .ref mm])), (mm, .inr (4, [.int (nI mi), .int (nI mt), .int (nI mg), .int (nI ms), .int sd, .null])), (r, .inr (6, [.int rh, .int rl, .ref st, .ref ck, .ref ck, .int 0, .int 1, .int 1, .int 0, .int 0, .ref rf, .int 0])), (st, .inr (8, [.ref ml, .null])), (ck, .inr (1, [.ref ce, .null])), (ce, .inl (cJ, 128, .inr (.inl fE2_3)))]) [0, 1, 6, 2, 3, 4, 5] rfl
  have hD9 := hD.sub (ws' := [(nd, .inr (5, [.int nh, .int nl, .int nwa, .int nfr, .int (nI nwi), .ref r, .ref nt, .ref ns, .ref ib, .ref gs, .ref cs, .ref nu, .int 0, .int 2, .int (nI nad), .int (nI ncc), .int 0, .int 0])), (ns, .inr (7, [.int 1, .int 1, .int (nI (tm + 50)), .ref mm])), (mm, .inr (4, [.int (nI mi), .int (nI mt), .int (nI mg), .int (nI ms), .int sd, .null])), (r, .inr (6, [.int rh, .int rl, .ref st, .ref ck, .ref ck, .int 0, .int 1, .int 1, .int 0, .int 0, .ref rf, .int 0])), (st, .inr (8, [.ref ml, .null])), (ck, .inr (1, [.ref ce, .null])), (ce, .inl (cJ, 128, .inr (.inl fE2_3)))]) [0, 1, 6, 2, 3, 4, 5] (by decide +kernel) rfl
  have hK9 := hK.sub (tys' := [(cJ, .long)]) [0] rfl
  exact W.vret hx hb hr (fun t ht hW => ⟨⟨(), rfl, trivial, ⟨fE2_3, by rw [ht]; exact hP9, va_K.moved hW.alike hK9, hD9, hlo_3.trans (congrArg nI (by omega)), hhi_3⟩⟩, hS.F ht⟩) hS.2.2 dX4_beginSending_129

noncomputable def tl_c_fwc_1 : List Cond := wsX40 ++ (v_c_removeFirst_1)
noncomputable def v_c_fwc_1 : List Cond := .code yX4_frameWasCarried cX4_frameWasCarried 3 none :: ([.fieldLink RX4 89 "ClaimBus$Node" "row" "LClaimBus$Row;", .initialized RX5, .methodLink RX4 143 yX5_removeFirst, .instanceMethod yX5_removeFirst, .selects RX5 yX5_removeFirst yX5_removeFirst] ++ tl_c_fwc_1)
theorem it_c_fwc_1 : ∀ w ∈ tl_c_fwc_1, w ∈ v_c_fwc_1 := fun w h => List.mem_cons_of_mem _ (List.mem_append_right _ h)
theorem in_c_fwc_1_X4 : ∀ w ∈ wsX40, w ∈ v_c_fwc_1 := fun w h => it_c_fwc_1 w (List.mem_append_left _ h)
theorem ic_c_fwc_1_c_removeFirst_1 : ∀ w ∈ v_c_removeFirst_1, w ∈ v_c_fwc_1 := fun w h => it_c_fwc_1 w (List.mem_append_right _ (h))
theorem gt_c_fwc_1 : ∀ w ∈ tl_c_fwc_1, goodWord w = true := List.forall_mem_append.mpr ⟨gw_wsX40, gw_c_removeFirst_1⟩
theorem gw_c_fwc_1 : ∀ w ∈ v_c_fwc_1, goodWord w = true := List.forall_mem_cons.mpr ⟨by decide +kernel, List.forall_mem_append.mpr ⟨List.all_eq_true.mp (by decide +kernel), gt_c_fwc_1⟩⟩
theorem g_c_fwc_1_c_removeFirst_1_143 : GoodIn v_c_fwc_1 (wsV RX4 143 RX5 yX5_removeFirst v_c_removeFirst_1) := goodIn_app (goodIn_r [.methodLink RX4 143 yX5_removeFirst, .instanceMethod yX5_removeFirst, .selects RX5 yX5_removeFirst yX5_removeFirst, .initialized RX5] [3, 4, 5, 2] (by decide +kernel) (by decide +kernel)) (fun w h => ⟨ic_c_fwc_1_c_removeFirst_1 w h, good_of_word (gw_c_removeFirst_1 w h)⟩)
set_option maxHeartbeats 4000000 in
set_option maxRecDepth 100000 in
theorem c_fwc_1 (l : Launch) (dC : Nat → ClassId) (dI : Nat → Nat → Nat) (nd : Nat) (nh : Int32) (nl : Int32) (nwa : Int32) (nfr : Int32) (nwi : Nat) (r : Nat) (nt : Nat) (ns : Nat) (ib : Nat) (gs : Nat) (cs : Nat) (nu : Nat) (nad : Nat) (ncc : Nat) (rh : Int32) (rl : Int32) (st : Nat) (rf : Nat) (ng : Nat) (ml : Nat) (ck : Nat) (ce : Nat) (tm : Nat) (sz : Nat)  : Met l yX4_frameWasCarried v_c_fwc_1 ({ frames := 3, cells := 0, slots := 0, locals := 62 }) (va_Pc [.ref nd, .int 0, .int (nI tm)] (fun U => U.heap.size = sz ∧ va_P (dC, dI) vwCl [(nd, .inr (5, [.int nh, .int nl, .int nwa, .int nfr, .int (nI nwi), .ref r, .ref nt, .ref ns, .ref ib, .ref gs, .ref cs, .ref nu, .int 0, .int 2, .int (nI nad), .int (nI ncc), .int 0, .int 0])), (r, .inr (6, [.int rh, .int rl, .ref st, .ref ck, .ref ck, .int 0, .int 1, .int 1, .int (nI ng), .int 0, .ref rf, .int 1])), (st, .inr (8, [.ref ml, .null])), (ck, .inr (1, [.ref ce, .null]))] U.heap ∧ va_K (dC, dI) vwCl [] U ∧ va_D (fun _ => True) [(nd, .inr (5, [.int nh, .int nl, .int nwa, .int nfr, .int (nI nwi), .ref r, .ref nt, .ref ns, .ref ib, .ref gs, .ref cs, .ref nu, .int 0, .int 2, .int (nI nad), .int (nI ncc), .int 0, .int 0])), (r, .inr (6, [.int rh, .int rl, .ref st, .ref ck, .ref ck, .int 0, .int 1, .int 1, .int (nI ng), .int 0, .ref rf, .int 1])), (st, .inr (8, [.ref ml, .null])), (ck, .inr (1, [.ref ce, .null]))] ∧ ev U)) (va_Qv (fun _ : Unit => True) (fun (_ : Unit) (t : State) => va_P (dC, dI) vwCl [(nd, .inr (5, [.int nh, .int nl, .int nwa, .int nfr, .int (nI nwi), .ref r, .ref nt, .ref ns, .ref ib, .ref gs, .ref cs, .ref nu, .int 0, .int 2, .int (nI nad), .int (nI ncc), .int 0, .int 0])), (r, .inr (6, [.int rh, .int rl, .ref st, .null, .null, .int 0, .int 1, .int 0, .int 0, .int 0, .ref rf, .int 0])), (st, .inr (8, [.ref ml, .ref ck])), (ck, .inr (1, [.ref ce, .null]))] t.heap ∧ va_K (dC, dI) vwCl [] t ∧ va_D (va_A [(nd, .inr (5, [.int nh, .int nl, .int nwa, .int nfr, .int (nI nwi), .ref r, .ref nt, .ref ns, .ref ib, .ref gs, .ref cs, .ref nu, .int 0, .int 2, .int (nI nad), .int (nI ncc), .int 0, .int 0])), (r, .inr (6, [.int rh, .int rl, .ref st, .ref ck, .ref ck, .int 0, .int 1, .int 1, .int (nI ng), .int 0, .ref rf, .int 1])), (st, .inr (8, [.ref ml, .null])), (ck, .inr (1, [.ref ce, .null]))] sz) [(nd, .inr (5, [.int nh, .int nl, .int nwa, .int nfr, .int (nI nwi), .ref r, .ref nt, .ref ns, .ref ib, .ref gs, .ref cs, .ref nu, .int 0, .int 2, .int (nI nad), .int (nI ncc), .int 0, .int 0])), (r, .inr (6, [.int rh, .int rl, .ref st, .null, .null, .int 0, .int 1, .int 0, .int 0, .int 0, .ref rf, .int 0])), (st, .inr (8, [.ref ml, .ref ck])), (ck, .inr (1, [.ref ce, .null]))]) (va_A [(nd, .inr (5, [.int nh, .int nl, .int nwa, .int nfr, .int (nI nwi), .ref r, .ref nt, .ref ns, .ref ib, .ref gs, .ref cs, .ref nu, .int 0, .int 2, .int (nI nad), .int (nI ncc), .int 0, .int 0])), (r, .inr (6, [.int rh, .int rl, .ref st, .ref ck, .ref ck, .int 0, .int 1, .int 1, .int (nI ng), .int 0, .ref rf, .int 1])), (st, .inr (8, [.ref ml, .null])), (ck, .inr (1, [.ref ce, .null]))] sz)) 0 0 (va_A [(nd, .inr (5, [.int nh, .int nl, .int nwa, .int nfr, .int (nI nwi), .ref r, .ref nt, .ref ns, .ref ib, .ref gs, .ref cs, .ref nu, .int 0, .int 2, .int (nI nad), .int (nI ncc), .int 0, .int 0])), (r, .inr (6, [.int rh, .int rl, .ref st, .ref ck, .ref ck, .int 0, .int 1, .int 1, .int (nI ng), .int 0, .ref rf, .int 1])), (st, .inr (8, [.ref ml, .null])), (ck, .inr (1, [.ref ce, .null]))] sz) := by
  refine Met.ofW (cc := cX4_frameWasCarried) (maxL := 3) (ret := none) (by decide) rfl ?_
  intro p e s m args below meth c s₁ B hml hv
  obtain ⟨rfl, hsz, hP, hK, hD0, hE⟩ := hv
  have hx := B.exec
  have hb := B.bytes
  have hr := B.returns
  have hts := atoms_spec (ws := v_c_fwc_1) B.pre
  have hown : s.vm.findClass RX4 = some m.cls := findClass_of_methodNamed B.named
  have hlocks := B.notSynchronized
  subst hsz
  have hD := hD0.self (sz := s.heap.size)
  generalize hAe : va_A [(nd, .inr (5, [.int nh, .int nl, .int nwa, .int nfr, .int (nI nwi), .ref r, .ref nt, .ref ns, .ref ib, .ref gs, .ref cs, .ref nu, .int 0, .int 2, .int (nI nad), .int (nI ncc), .int 0, .int 0])), (r, .inr (6, [.int rh, .int rl, .ref st, .ref ck, .ref ck, .int 0, .int 1, .int 1, .int (nI ng), .int 0, .ref rf, .int 1])), (st, .inr (8, [.ref ml, .null])), (ck, .inr (1, [.ref ce, .null]))] s.heap.size = A at hD ⊢
  have hA : ∀ q : Nat, s.heap.size ≤ q → A q := fun q h => by rw [← hAe]; exact Or.inr h
  have hS : va_S A s.heap s.heap [] := va_S.rf
  replace hP : va_P (dC, dI) vwCl [(nd, .inr (5, [.int nh, .int nl, .int nwa, .int nfr, .int (nI nwi), .ref r, .ref nt, .ref ns, .ref ib, .ref gs, .ref cs, .ref nu, .int 0, .int 2, .int (nI nad), .int (nI ncc), .int 0, .int 0])), (r, .inr (6, [.int rh, .int rl, .ref st, .ref ck, .ref ck, .int 0, .int 1, .int 1, .int (nI ng), .int 0, .ref rf, .int 1])), (st, .inr (8, [.ref ml, .null])), (ck, .inr (1, [.ref ce, .null]))] s.heap := hP
  have hl := lv_entry ([.ref nd, .int 0, .int (nI tm)]) (n := 3) (Nat.le_of_ble_eq_true rfl)
  rw [lg_entry_eq]
  generalize (lg_sl ([.ref nd, .int 0, .int (nI tm)]) ++ List.replicate (3 - (lg_sl ([.ref nd, .int 0, .int (nI tm)])).length) Slot.unset).toArray = ls at hl ⊢
  replace hl : lv_has ls 3 [(0, .ref nd), (1, .int 0), (2, .int (nI tm))] := hl
  obtain ⟨H, hH⟩ : ∃ z : Heap, z = s.heap := ⟨_, rfl⟩
  rw [← hH]
  replace hS : va_S A s.heap H [] := by rw [hH]; exact va_S.rf
  replace hP : va_P (dC, dI) vwCl [(nd, .inr (5, [.int nh, .int nl, .int nwa, .int nfr, .int (nI nwi), .ref r, .ref nt, .ref ns, .ref ib, .ref gs, .ref cs, .ref nu, .int 0, .int 2, .int (nI nad), .int (nI ncc), .int 0, .int 0])), (r, .inr (6, [.int rh, .int rl, .ref st, .ref ck, .ref ck, .int 0, .int 1, .int 1, .int (nI ng), .int 0, .ref rf, .int 1])), (st, .inr (8, [.ref ml, .null])), (ck, .inr (1, [.ref ce, .null]))] H := by rw [hH]; exact hP
  clear hH
  refine lv_aload_n hx hb dX4_frameWasCarried_0 rfl (lv_at hl 0 rfl) ?_
  refine va_get (D := (dC, dI)) (ci := 5) (v := .ref r) (C := RX4) (T := TX4) (N := 18) hx hb hts in_c_fwc_1_X4 hown hK hP 0 rfl rfl 5 (by decide) (hts (.fieldLink RX4 89 "ClaimBus$Node" "row" "LClaimBus$Row;") (List.mem_of_getElem? (i := 1) rfl)) (fun _ h9 => h9) rfl dX4_frameWasCarried_1 ?_
  have hPc := hP.sub (ws' := [(r, .inr (6, [.int rh, .int rl, .ref st, .ref ck, .ref ck, .int 0, .int 1, .int 1, .int (nI ng), .int 0, .ref rf, .int 1])), (st, .inr (8, [.ref ml, .null])), (ck, .inr (1, [.ref ce, .null]))]) [1, 2, 3] rfl
  have hDc := hD.sub (ws' := [(r, .inr (6, [.int rh, .int rl, .ref st, .ref ck, .ref ck, .int 0, .int 1, .int 1, .int (nI ng), .int 0, .ref rf, .int 1])), (st, .inr (8, [.ref ml, .null])), (ck, .inr (1, [.ref ce, .null]))]) [1, 2, 3] (by decide +kernel) rfl
  have hKc := hK.sub (tys' := []) [] rfl
  have hFc := va_free (wc := [(r, .inr (6, [.int rh, .int rl, .ref st, .ref ck, .ref ck, .int 0, .int 1, .int 1, .int (nI ng), .int 0, .ref rf, .int 1])), (st, .inr (8, [.ref ml, .null])), (ck, .inr (1, [.ref ce, .null]))]) hD hS hA [1, 2, 3] rfl
  refine va_callv (va_runV (As := []) (rest := []) ⟨hx, hb, hml, hown, hts⟩ (c_removeFirst_1 l dC dI (r) (rh) (rl) (st) (rf) (ng) (ml) (ck) (ce) H.size) (cwV 0 hts g_c_fwc_1_c_removeFirst_1_143 rfl rfl rfl (by decide +kernel) ⟨Nat.le_of_ble_eq_true rfl, Nat.le_of_ble_eq_true rfl⟩) ⟨fun a U g mk q => by obtain ⟨q0, q1, qP, qK, qD, qE⟩ := q; exact ⟨q0, q1, qP, va_K.moved (u := U) (U := U.calling g mk a) (Vm.Alike.refl U.vm) qK, qD, ev.same (u := U) (U := U.calling g mk a) rfl qE⟩, va_recv hKc hPc (ci := 6) (q0 := 0) rfl rfl, fun U hU hW => ⟨rfl, by rw [hU], by rw [hU]; exact hPc, va_K.moved hW.alike hKc, hDc.weaken (fun _ _ _ _ => trivial), hE.warm hW⟩⟩ rfl rfl hl.1 rfl (lv_room (Nat.le_of_ble_eq_true rfl)) dX4_frameWasCarried_4 ⟨Nat.le_of_ble_eq_true rfl, Nat.le_of_ble_eq_true rfl⟩) hS (fun q _ h => hFc q h) hFc (fun u t H1 locs ht hvm hw hB hz1 hk1 hS => ?_)
  clear hPc hDc hKc
  obtain ⟨hP1, hK1, hD1⟩ := hB
  rw [ht] at hP1
  have hK1 := va_K.moved hvm.symm hK1
  obtain ⟨hP, hD⟩ := va_join (wr := [(nd, .inr (5, [.int nh, .int nl, .int nwa, .int nfr, .int (nI nwi), .ref r, .ref nt, .ref ns, .ref ib, .ref gs, .ref cs, .ref nu, .int 0, .int 2, .int (nI nad), .int (nI ncc), .int 0, .int 0]))]) (w1 := [(r, .inr (6, [.int rh, .int rl, .ref st, .null, .null, .int 0, .int 1, .int 0, .int 0, .int 0, .ref rf, .int 0])), (st, .inr (8, [.ref ml, .ref ck])), (ck, .inr (1, [.ref ce, .null]))]) hP hD [1, 2, 3] [0] rfl rfl (by decide +kernel) (by decide +kernel) hk1 hFc hP1 hD1
  generalize H1 = H at hP hS ⊢
  replace hP : va_P (dC, dI) vwCl [(nd, .inr (5, [.int nh, .int nl, .int nwa, .int nfr, .int (nI nwi), .ref r, .ref nt, .ref ns, .ref ib, .ref gs, .ref cs, .ref nu, .int 0, .int 2, .int (nI nad), .int (nI ncc), .int 0, .int 0])), (r, .inr (6, [.int rh, .int rl, .ref st, .null, .null, .int 0, .int 1, .int 0, .int 0, .int 0, .ref rf, .int 0])), (st, .inr (8, [.ref ml, .ref ck])), (ck, .inr (1, [.ref ce, .null]))] H := hP
  replace hD : va_D A [(nd, .inr (5, [.int nh, .int nl, .int nwa, .int nfr, .int (nI nwi), .ref r, .ref nt, .ref ns, .ref ib, .ref gs, .ref cs, .ref nu, .int 0, .int 2, .int (nI nad), .int (nI ncc), .int 0, .int 0])), (r, .inr (6, [.int rh, .int rl, .ref st, .null, .null, .int 0, .int 1, .int 0, .int 0, .int 0, .ref rf, .int 0])), (st, .inr (8, [.ref ml, .ref ck])), (ck, .inr (1, [.ref ce, .null]))] := hD
  clear hw
  refine lv_iload_n hx hb dX4_frameWasCarried_7 rfl (lv_at hl 1 rfl) ?_
  refine lv_if_eq (tgt := 16) hx hb dX4_frameWasCarried_8 (by decide) (fun c_2 => ?_) (fun c_2 => ?_)
  rotate_left
  · exact absurd (by decide) c_2
  have hP9 := hP.sub (ws' := [(nd, .inr (5, [.int nh, .int nl, .int nwa, .int nfr, .int (nI nwi), .ref r, .ref nt, .ref ns, .ref ib, .ref gs, .ref cs, .ref nu, .int 0, .int 2, .int (nI nad), .int (nI ncc), .int 0, .int 0])), (r, .inr (6, [.int rh, .int rl, .ref st, .null, .null, .int 0, .int 1, .int 0, .int 0, .int 0, .ref rf, .int 0])), (st, .inr (8, [.ref ml, .ref ck])), (ck, .inr (1, [.ref ce, .null]))]) [0, 1, 2, 3] rfl
  have hD9 := hD.sub (ws' := [(nd, .inr (5, [.int nh, .int nl, .int nwa, .int nfr, .int (nI nwi), .ref r, .ref nt, .ref ns, .ref ib, .ref gs, .ref cs, .ref nu, .int 0, .int 2, .int (nI nad), .int (nI ncc), .int 0, .int 0])), (r, .inr (6, [.int rh, .int rl, .ref st, .null, .null, .int 0, .int 1, .int 0, .int 0, .int 0, .ref rf, .int 0])), (st, .inr (8, [.ref ml, .ref ck])), (ck, .inr (1, [.ref ce, .null]))]) [0, 1, 2, 3] (by decide +kernel) rfl
  have hK9 := hK.sub (tys' := []) [] rfl
  exact W.vret hx hb hr (fun t ht hW => ⟨⟨(), rfl, trivial, ⟨by rw [ht]; exact hP9, va_K.moved hW.alike hK9, hD9⟩⟩, hS.F ht⟩) hS.2.2 dX4_frameWasCarried_16

noncomputable def tl_c_fwc_p : List Cond := wsX40 ++ (v_c_removeFirst_p)
noncomputable def v_c_fwc_p : List Cond := .code yX4_frameWasCarried cX4_frameWasCarried 3 none :: ([.fieldLink RX4 89 "ClaimBus$Node" "row" "LClaimBus$Row;", .initialized RX5, .methodLink RX4 143 yX5_removeFirst, .instanceMethod yX5_removeFirst, .selects RX5 yX5_removeFirst yX5_removeFirst] ++ tl_c_fwc_p)
theorem it_c_fwc_p : ∀ w ∈ tl_c_fwc_p, w ∈ v_c_fwc_p := fun w h => List.mem_cons_of_mem _ (List.mem_append_right _ h)
theorem in_c_fwc_p_X4 : ∀ w ∈ wsX40, w ∈ v_c_fwc_p := fun w h => it_c_fwc_p w (List.mem_append_left _ h)
theorem ic_c_fwc_p_c_removeFirst_p : ∀ w ∈ v_c_removeFirst_p, w ∈ v_c_fwc_p := fun w h => it_c_fwc_p w (List.mem_append_right _ (h))
theorem gt_c_fwc_p : ∀ w ∈ tl_c_fwc_p, goodWord w = true := List.forall_mem_append.mpr ⟨gw_wsX40, gw_c_removeFirst_p⟩
theorem gw_c_fwc_p : ∀ w ∈ v_c_fwc_p, goodWord w = true := List.forall_mem_cons.mpr ⟨by decide +kernel, List.forall_mem_append.mpr ⟨List.all_eq_true.mp (by decide +kernel), gt_c_fwc_p⟩⟩
theorem g_c_fwc_p_c_removeFirst_p_143 : GoodIn v_c_fwc_p (wsV RX4 143 RX5 yX5_removeFirst v_c_removeFirst_p) := goodIn_app (goodIn_r [.methodLink RX4 143 yX5_removeFirst, .instanceMethod yX5_removeFirst, .selects RX5 yX5_removeFirst yX5_removeFirst, .initialized RX5] [3, 4, 5, 2] (by decide +kernel) (by decide +kernel)) (fun w h => ⟨ic_c_fwc_p_c_removeFirst_p w h, good_of_word (gw_c_removeFirst_p w h)⟩)
set_option maxHeartbeats 4000000 in
set_option maxRecDepth 100000 in
theorem c_fwc_p (l : Launch) (dC : Nat → ClassId) (dI : Nat → Nat → Nat) (nd : Nat) (nh : Int32) (nl : Int32) (nwa : Int32) (nfr : Int32) (nwi : Nat) (r : Nat) (nt : Nat) (ns : Nat) (ib : Nat) (gs : Nat) (cs : Nat) (nu : Nat) (nad : Nat) (ncc : Nat) (rh : Int32) (rl : Int32) (st : Nat) (rf : Nat) (nf : Nat) (ng : Nat) (ck : Nat) (ce : Nat) (cJ : ClassId) (fE : Nat → Int64) (to : Nat) (se : Nat) (th : Nat) (tm : Nat) (sz : Nat) (hnf : 1 ≤ nf) (hnf2 : nf < 300) (hng : ng < 300) (h_to : to < 256) (h_se : se < 256) (h_th : th < 256) (hlo : (fE 0).toInt32 = (nI (16777216 * to + 65536 * 235 + 256 * se + th))) (hg : ng + 1 < se) (hnf1 : 1 < nf) : Met l yX4_frameWasCarried v_c_fwc_p ({ frames := 3, cells := 0, slots := 0, locals := 64 }) (va_Pc [.ref nd, .int 0, .int (nI tm)] (fun U => U.heap.size = sz ∧ va_P (dC, dI) vwCl [(nd, .inr (5, [.int nh, .int nl, .int nwa, .int nfr, .int (nI nwi), .ref r, .ref nt, .ref ns, .ref ib, .ref gs, .ref cs, .ref nu, .int 0, .int 2, .int (nI nad), .int (nI ncc), .int 0, .int 0])), (r, .inr (6, [.int rh, .int rl, .ref st, .ref ck, .ref ck, .int 0, .int 1, .int (nI nf), .int (nI ng), .int 0, .ref rf, .int 1])), (ck, .inr (1, [.ref ce, .null])), (ce, .inl (cJ, 128, .inr (.inl fE)))] U.heap ∧ va_K (dC, dI) vwCl [(cJ, .long)] U ∧ va_D (fun _ => True) [(nd, .inr (5, [.int nh, .int nl, .int nwa, .int nfr, .int (nI nwi), .ref r, .ref nt, .ref ns, .ref ib, .ref gs, .ref cs, .ref nu, .int 0, .int 2, .int (nI nad), .int (nI ncc), .int 0, .int 0])), (r, .inr (6, [.int rh, .int rl, .ref st, .ref ck, .ref ck, .int 0, .int 1, .int (nI nf), .int (nI ng), .int 0, .ref rf, .int 1])), (ck, .inr (1, [.ref ce, .null])), (ce, .inl (cJ, 128, .inr (.inl fE)))] ∧ ev U)) (va_Qv (fun _ : Unit => True) (fun (_ : Unit) (t : State) => va_P (dC, dI) vwCl [(nd, .inr (5, [.int nh, .int nl, .int nwa, .int nfr, .int (nI nwi), .ref r, .ref nt, .ref ns, .ref ib, .ref gs, .ref cs, .ref nu, .int 0, .int 2, .int (nI nad), .int (nI ncc), .int 0, .int 0])), (r, .inr (6, [.int rh, .int rl, .ref st, .ref ck, .ref ck, .int 0, .int 1, .int (nI (nf - 1)), .int (nI (ng + 1)), .int 0, .ref rf, .int 0])), (ck, .inr (1, [.ref ce, .null])), (ce, .inl (cJ, 128, .inr (.inl fE)))] t.heap ∧ va_K (dC, dI) vwCl [(cJ, .long)] t ∧ va_D (va_A [(nd, .inr (5, [.int nh, .int nl, .int nwa, .int nfr, .int (nI nwi), .ref r, .ref nt, .ref ns, .ref ib, .ref gs, .ref cs, .ref nu, .int 0, .int 2, .int (nI nad), .int (nI ncc), .int 0, .int 0])), (r, .inr (6, [.int rh, .int rl, .ref st, .ref ck, .ref ck, .int 0, .int 1, .int (nI nf), .int (nI ng), .int 0, .ref rf, .int 1])), (ck, .inr (1, [.ref ce, .null])), (ce, .inl (cJ, 128, .inr (.inl fE)))] sz) [(nd, .inr (5, [.int nh, .int nl, .int nwa, .int nfr, .int (nI nwi), .ref r, .ref nt, .ref ns, .ref ib, .ref gs, .ref cs, .ref nu, .int 0, .int 2, .int (nI nad), .int (nI ncc), .int 0, .int 0])), (r, .inr (6, [.int rh, .int rl, .ref st, .ref ck, .ref ck, .int 0, .int 1, .int (nI (nf - 1)), .int (nI (ng + 1)), .int 0, .ref rf, .int 0])), (ck, .inr (1, [.ref ce, .null])), (ce, .inl (cJ, 128, .inr (.inl fE)))]) (va_A [(nd, .inr (5, [.int nh, .int nl, .int nwa, .int nfr, .int (nI nwi), .ref r, .ref nt, .ref ns, .ref ib, .ref gs, .ref cs, .ref nu, .int 0, .int 2, .int (nI nad), .int (nI ncc), .int 0, .int 0])), (r, .inr (6, [.int rh, .int rl, .ref st, .ref ck, .ref ck, .int 0, .int 1, .int (nI nf), .int (nI ng), .int 0, .ref rf, .int 1])), (ck, .inr (1, [.ref ce, .null])), (ce, .inl (cJ, 128, .inr (.inl fE)))] sz)) 0 0 (va_A [(nd, .inr (5, [.int nh, .int nl, .int nwa, .int nfr, .int (nI nwi), .ref r, .ref nt, .ref ns, .ref ib, .ref gs, .ref cs, .ref nu, .int 0, .int 2, .int (nI nad), .int (nI ncc), .int 0, .int 0])), (r, .inr (6, [.int rh, .int rl, .ref st, .ref ck, .ref ck, .int 0, .int 1, .int (nI nf), .int (nI ng), .int 0, .ref rf, .int 1])), (ck, .inr (1, [.ref ce, .null])), (ce, .inl (cJ, 128, .inr (.inl fE)))] sz) := by
  refine Met.ofW (cc := cX4_frameWasCarried) (maxL := 3) (ret := none) (by decide) rfl ?_
  intro p e s m args below meth c s₁ B hml hv
  obtain ⟨rfl, hsz, hP, hK, hD0, hE⟩ := hv
  have hx := B.exec
  have hb := B.bytes
  have hr := B.returns
  have hts := atoms_spec (ws := v_c_fwc_p) B.pre
  have hown : s.vm.findClass RX4 = some m.cls := findClass_of_methodNamed B.named
  have hlocks := B.notSynchronized
  subst hsz
  have hD := hD0.self (sz := s.heap.size)
  generalize hAe : va_A [(nd, .inr (5, [.int nh, .int nl, .int nwa, .int nfr, .int (nI nwi), .ref r, .ref nt, .ref ns, .ref ib, .ref gs, .ref cs, .ref nu, .int 0, .int 2, .int (nI nad), .int (nI ncc), .int 0, .int 0])), (r, .inr (6, [.int rh, .int rl, .ref st, .ref ck, .ref ck, .int 0, .int 1, .int (nI nf), .int (nI ng), .int 0, .ref rf, .int 1])), (ck, .inr (1, [.ref ce, .null])), (ce, .inl (cJ, 128, .inr (.inl fE)))] s.heap.size = A at hD ⊢
  have hA : ∀ q : Nat, s.heap.size ≤ q → A q := fun q h => by rw [← hAe]; exact Or.inr h
  have hS : va_S A s.heap s.heap [] := va_S.rf
  replace hP : va_P (dC, dI) vwCl [(nd, .inr (5, [.int nh, .int nl, .int nwa, .int nfr, .int (nI nwi), .ref r, .ref nt, .ref ns, .ref ib, .ref gs, .ref cs, .ref nu, .int 0, .int 2, .int (nI nad), .int (nI ncc), .int 0, .int 0])), (r, .inr (6, [.int rh, .int rl, .ref st, .ref ck, .ref ck, .int 0, .int 1, .int (nI nf), .int (nI ng), .int 0, .ref rf, .int 1])), (ck, .inr (1, [.ref ce, .null])), (ce, .inl (cJ, 128, .inr (.inl fE)))] s.heap := hP
  have hl := lv_entry ([.ref nd, .int 0, .int (nI tm)]) (n := 3) (Nat.le_of_ble_eq_true rfl)
  rw [lg_entry_eq]
  generalize (lg_sl ([.ref nd, .int 0, .int (nI tm)]) ++ List.replicate (3 - (lg_sl ([.ref nd, .int 0, .int (nI tm)])).length) Slot.unset).toArray = ls at hl ⊢
  replace hl : lv_has ls 3 [(0, .ref nd), (1, .int 0), (2, .int (nI tm))] := hl
  obtain ⟨H, hH⟩ : ∃ z : Heap, z = s.heap := ⟨_, rfl⟩
  rw [← hH]
  replace hS : va_S A s.heap H [] := by rw [hH]; exact va_S.rf
  replace hP : va_P (dC, dI) vwCl [(nd, .inr (5, [.int nh, .int nl, .int nwa, .int nfr, .int (nI nwi), .ref r, .ref nt, .ref ns, .ref ib, .ref gs, .ref cs, .ref nu, .int 0, .int 2, .int (nI nad), .int (nI ncc), .int 0, .int 0])), (r, .inr (6, [.int rh, .int rl, .ref st, .ref ck, .ref ck, .int 0, .int 1, .int (nI nf), .int (nI ng), .int 0, .ref rf, .int 1])), (ck, .inr (1, [.ref ce, .null])), (ce, .inl (cJ, 128, .inr (.inl fE)))] H := by rw [hH]; exact hP
  clear hH
  refine lv_aload_n hx hb dX4_frameWasCarried_0 rfl (lv_at hl 0 rfl) ?_
  refine va_get (D := (dC, dI)) (ci := 5) (v := .ref r) (C := RX4) (T := TX4) (N := 18) hx hb hts in_c_fwc_p_X4 hown hK hP 0 rfl rfl 5 (by decide) (hts (.fieldLink RX4 89 "ClaimBus$Node" "row" "LClaimBus$Row;") (List.mem_of_getElem? (i := 1) rfl)) (fun _ h9 => h9) rfl dX4_frameWasCarried_1 ?_
  have hPc := hP.sub (ws' := [(r, .inr (6, [.int rh, .int rl, .ref st, .ref ck, .ref ck, .int 0, .int 1, .int (nI nf), .int (nI ng), .int 0, .ref rf, .int 1])), (ck, .inr (1, [.ref ce, .null])), (ce, .inl (cJ, 128, .inr (.inl fE)))]) [1, 2, 3] rfl
  have hDc := hD.sub (ws' := [(r, .inr (6, [.int rh, .int rl, .ref st, .ref ck, .ref ck, .int 0, .int 1, .int (nI nf), .int (nI ng), .int 0, .ref rf, .int 1])), (ck, .inr (1, [.ref ce, .null])), (ce, .inl (cJ, 128, .inr (.inl fE)))]) [1, 2, 3] (by decide +kernel) rfl
  have hKc := hK.sub (tys' := [(cJ, .long)]) [0] rfl
  have hFc := va_free (wc := [(r, .inr (6, [.int rh, .int rl, .ref st, .ref ck, .ref ck, .int 0, .int 1, .int (nI nf), .int (nI ng), .int 0, .ref rf, .int 1])), (ck, .inr (1, [.ref ce, .null])), (ce, .inl (cJ, 128, .inr (.inl fE)))]) hD hS hA [1, 2, 3] rfl
  refine va_callv (va_runV (As := []) (rest := []) ⟨hx, hb, hml, hown, hts⟩ (c_removeFirst_p l dC dI (r) (rh) (rl) (st) (rf) (nf) (ng) (ck) (ce) (cJ) (fE) (to) (se) (th) H.size hnf hnf2 hng h_to h_se h_th hlo hg hnf1) (cwV 0 hts g_c_fwc_p_c_removeFirst_p_143 rfl rfl rfl (by decide +kernel) ⟨Nat.le_of_ble_eq_true rfl, Nat.le_of_ble_eq_true rfl⟩) ⟨fun a U g mk q => by obtain ⟨q0, q1, qP, qK, qD, qE⟩ := q; exact ⟨q0, q1, qP, va_K.moved (u := U) (U := U.calling g mk a) (Vm.Alike.refl U.vm) qK, qD, ev.same (u := U) (U := U.calling g mk a) rfl qE⟩, va_recv hKc hPc (ci := 6) (q0 := 0) rfl rfl, fun U hU hW => ⟨rfl, by rw [hU], by rw [hU]; exact hPc, va_K.moved hW.alike hKc, hDc.weaken (fun _ _ _ _ => trivial), hE.warm hW⟩⟩ rfl rfl hl.1 rfl (lv_room (Nat.le_of_ble_eq_true rfl)) dX4_frameWasCarried_4 ⟨Nat.le_of_ble_eq_true rfl, Nat.le_of_ble_eq_true rfl⟩) hS (fun q _ h => hFc q h) hFc (fun u t H1 locs ht hvm hw hB hz1 hk1 hS => ?_)
  clear hPc hDc hKc
  obtain ⟨hP1, hK1, hD1⟩ := hB
  rw [ht] at hP1
  have hK1 := va_K.moved hvm.symm hK1
  obtain ⟨hP, hD⟩ := va_join (wr := [(nd, .inr (5, [.int nh, .int nl, .int nwa, .int nfr, .int (nI nwi), .ref r, .ref nt, .ref ns, .ref ib, .ref gs, .ref cs, .ref nu, .int 0, .int 2, .int (nI nad), .int (nI ncc), .int 0, .int 0]))]) (w1 := [(r, .inr (6, [.int rh, .int rl, .ref st, .ref ck, .ref ck, .int 0, .int 1, .int (nI (nf - 1)), .int (nI (ng + 1)), .int 0, .ref rf, .int 0])), (ck, .inr (1, [.ref ce, .null])), (ce, .inl (cJ, 128, .inr (.inl fE)))]) hP hD [1, 2, 3] [0] rfl rfl (by decide +kernel) (by decide +kernel) hk1 hFc hP1 hD1
  generalize H1 = H at hP hS ⊢
  replace hP : va_P (dC, dI) vwCl [(nd, .inr (5, [.int nh, .int nl, .int nwa, .int nfr, .int (nI nwi), .ref r, .ref nt, .ref ns, .ref ib, .ref gs, .ref cs, .ref nu, .int 0, .int 2, .int (nI nad), .int (nI ncc), .int 0, .int 0])), (r, .inr (6, [.int rh, .int rl, .ref st, .ref ck, .ref ck, .int 0, .int 1, .int (nI (nf - 1)), .int (nI (ng + 1)), .int 0, .ref rf, .int 0])), (ck, .inr (1, [.ref ce, .null])), (ce, .inl (cJ, 128, .inr (.inl fE)))] H := hP
  replace hD : va_D A [(nd, .inr (5, [.int nh, .int nl, .int nwa, .int nfr, .int (nI nwi), .ref r, .ref nt, .ref ns, .ref ib, .ref gs, .ref cs, .ref nu, .int 0, .int 2, .int (nI nad), .int (nI ncc), .int 0, .int 0])), (r, .inr (6, [.int rh, .int rl, .ref st, .ref ck, .ref ck, .int 0, .int 1, .int (nI (nf - 1)), .int (nI (ng + 1)), .int 0, .ref rf, .int 0])), (ck, .inr (1, [.ref ce, .null])), (ce, .inl (cJ, 128, .inr (.inl fE)))] := hD
  clear hw
  refine lv_iload_n hx hb dX4_frameWasCarried_7 rfl (lv_at hl 1 rfl) ?_
  refine lv_if_eq (tgt := 16) hx hb dX4_frameWasCarried_8 (by decide) (fun c_2 => ?_) (fun c_2 => ?_)
  rotate_left
  · exact absurd (by decide) c_2
  have hP9 := hP.sub (ws' := [(nd, .inr (5, [.int nh, .int nl, .int nwa, .int nfr, .int (nI nwi), .ref r, .ref nt, .ref ns, .ref ib, .ref gs, .ref cs, .ref nu, .int 0, .int 2, .int (nI nad), .int (nI ncc), .int 0, .int 0])), (r, .inr (6, [.int rh, .int rl, .ref st, .ref ck, .ref ck, .int 0, .int 1, .int (nI (nf - 1)), .int (nI (ng + 1)), .int 0, .ref rf, .int 0])), (ck, .inr (1, [.ref ce, .null])), (ce, .inl (cJ, 128, .inr (.inl fE)))]) [0, 1, 2, 3] rfl
  have hD9 := hD.sub (ws' := [(nd, .inr (5, [.int nh, .int nl, .int nwa, .int nfr, .int (nI nwi), .ref r, .ref nt, .ref ns, .ref ib, .ref gs, .ref cs, .ref nu, .int 0, .int 2, .int (nI nad), .int (nI ncc), .int 0, .int 0])), (r, .inr (6, [.int rh, .int rl, .ref st, .ref ck, .ref ck, .int 0, .int 1, .int (nI (nf - 1)), .int (nI (ng + 1)), .int 0, .ref rf, .int 0])), (ck, .inr (1, [.ref ce, .null])), (ce, .inl (cJ, 128, .inr (.inl fE)))]) [0, 1, 2, 3] (by decide +kernel) rfl
  have hK9 := hK.sub (tys' := [(cJ, .long)]) [0] rfl
  exact W.vret hx hb hr (fun t ht hW => ⟨⟨(), rfl, trivial, ⟨by rw [ht]; exact hP9, va_K.moved hW.alike hK9, hD9⟩⟩, hS.F ht⟩) hS.2.2 dX4_frameWasCarried_16

noncomputable def tl_c_sendCleared : List Cond := wsX40 ++ (wsX60 ++ (wsX30 ++ (v_c_put_cp)))
noncomputable def v_c_sendCleared : List Cond := .code yX4_sendCleared cX4_sendCleared 5 none :: ([.fieldLink RX4 21 "ClaimBus$Node" "sending" "LClaimBus$Sending;", .fieldLink RX4 122 "ClaimBus$Sending" "whole" "LClaimBus$Message;", .fieldLink RX4 89 "ClaimBus$Node" "row" "LClaimBus$Row;", .fieldLink RX4 133 "ClaimBus$Message" "to" "I", .initialized RX5, .methodLink RX4 136 yX5_put, .instanceMethod yX5_put, .selects RX5 yX5_put yX5_put, .fieldLink RX4 140 "ClaimBus$Sending" "due" "I"] ++ tl_c_sendCleared)
theorem it_c_sendCleared : ∀ w ∈ tl_c_sendCleared, w ∈ v_c_sendCleared := fun w h => List.mem_cons_of_mem _ (List.mem_append_right _ h)
theorem in_c_sendCleared_X4 : ∀ w ∈ wsX40, w ∈ v_c_sendCleared := fun w h => it_c_sendCleared w (List.mem_append_left _ h)
theorem in_c_sendCleared_X6 : ∀ w ∈ wsX60, w ∈ v_c_sendCleared := fun w h => it_c_sendCleared w (List.mem_append_right _ (List.mem_append_left _ h))
theorem in_c_sendCleared_X3 : ∀ w ∈ wsX30, w ∈ v_c_sendCleared := fun w h => it_c_sendCleared w (List.mem_append_right _ (List.mem_append_right _ (List.mem_append_left _ h)))
theorem ic_c_sendCleared_c_put_cp : ∀ w ∈ v_c_put_cp, w ∈ v_c_sendCleared := fun w h => it_c_sendCleared w (List.mem_append_right _ (List.mem_append_right _ (List.mem_append_right _ (h))))
theorem gt_c_sendCleared : ∀ w ∈ tl_c_sendCleared, goodWord w = true := List.forall_mem_append.mpr ⟨gw_wsX40, List.forall_mem_append.mpr ⟨gw_wsX60, List.forall_mem_append.mpr ⟨gw_wsX30, gw_c_put_cp⟩⟩⟩
theorem gw_c_sendCleared : ∀ w ∈ v_c_sendCleared, goodWord w = true := List.forall_mem_cons.mpr ⟨by decide +kernel, List.forall_mem_append.mpr ⟨List.all_eq_true.mp (by decide +kernel), gt_c_sendCleared⟩⟩
theorem g_c_sendCleared_c_put_cp_136 : GoodIn v_c_sendCleared (wsV RX4 136 RX5 yX5_put v_c_put_cp) := goodIn_app (goodIn_r [.methodLink RX4 136 yX5_put, .instanceMethod yX5_put, .selects RX5 yX5_put yX5_put, .initialized RX5] [6, 7, 8, 5] (by decide +kernel) (by decide +kernel)) (fun w h => ⟨ic_c_sendCleared_c_put_cp w h, good_of_word (gw_c_put_cp w h)⟩)
set_option maxHeartbeats 4000000 in
set_option maxRecDepth 100000 in
/-- Node.sendCleared -/
theorem c_sendCleared (l : Launch) (dC : Nat → ClassId) (dI : Nat → Nat → Nat) (nd : Nat) (nh : Int32) (nl : Int32) (nwa : Int32) (nfr : Int32) (nwi : Nat) (r : Nat) (nt : Nat) (ns : Nat) (ib : Nat) (gs : Nat) (cs : Nat) (nu : Nat) (nad : Nat) (ncc : Nat) (rh : Int32) (rl : Int32) (st : Nat) (rf : Nat) (hp : Int32) (tp : Int32) (ml : Nat) (ck : Nat) (ce : Nat) (cJ : ClassId) (fE : Nat → Int64) (mm : Nat) (mi : Nat) (mt : Nat) (mg : Nat) (ms : Nat) (sd : Int32) (snp : Int32) (sdu : Nat) (p0 : Nat) (p1 : Nat) (tm : Nat) (sz : Nat) (hmi : mi < 8) (hmt : mt < 256) (hmg : mg < 262144) (hms : ms < 1786) (h_p0 : p0 < 256) (h_p1 : p1 < 256) (hq0 : 1 ≤ p0) (htm : tm < 200000) : Met l yX4_sendCleared v_c_sendCleared ({ frames := 2, cells := 0, slots := 0, locals := 48 }) (va_Pc [.ref nd, .int (nI p0), .int (nI p1), .int (nI tm)] (fun U => U.heap.size = sz ∧ va_P (dC, dI) vwCl [(nd, .inr (5, [.int nh, .int nl, .int nwa, .int nfr, .int (nI nwi), .ref r, .ref nt, .ref ns, .ref ib, .ref gs, .ref cs, .ref nu, .int 0, .int 2, .int (nI nad), .int (nI ncc), .int 0, .int 0])), (ns, .inr (7, [.int 1, .int snp, .int (nI sdu), .ref mm])), (mm, .inr (4, [.int (nI mi), .int (nI mt), .int (nI mg), .int (nI ms), .int sd, .null])), (r, .inr (6, [.int rh, .int rl, .ref st, .null, .null, .int hp, .int tp, .int 0, .int 0, .int 0, .ref rf, .int 0])), (st, .inr (8, [.ref ml, .ref ck])), (ck, .inr (1, [.ref ce, .null])), (ce, .inl (cJ, 128, .inr (.inl fE)))] U.heap ∧ va_K (dC, dI) vwCl [(cJ, .long)] U ∧ va_D (fun _ => True) [(nd, .inr (5, [.int nh, .int nl, .int nwa, .int nfr, .int (nI nwi), .ref r, .ref nt, .ref ns, .ref ib, .ref gs, .ref cs, .ref nu, .int 0, .int 2, .int (nI nad), .int (nI ncc), .int 0, .int 0])), (ns, .inr (7, [.int 1, .int snp, .int (nI sdu), .ref mm])), (mm, .inr (4, [.int (nI mi), .int (nI mt), .int (nI mg), .int (nI ms), .int sd, .null])), (r, .inr (6, [.int rh, .int rl, .ref st, .null, .null, .int hp, .int tp, .int 0, .int 0, .int 0, .ref rf, .int 0])), (st, .inr (8, [.ref ml, .ref ck])), (ck, .inr (1, [.ref ce, .null])), (ce, .inl (cJ, 128, .inr (.inl fE)))] ∧ ev U)) (va_Qv (fun _ : Unit => True) (fun (_ : Unit) (t : State) => ∃ (fE2 : Nat → Int64), va_P (dC, dI) vwCl [(nd, .inr (5, [.int nh, .int nl, .int nwa, .int nfr, .int (nI nwi), .ref r, .ref nt, .ref ns, .ref ib, .ref gs, .ref cs, .ref nu, .int 0, .int 2, .int (nI nad), .int (nI ncc), .int 0, .int 0])), (ns, .inr (7, [.int 1, .int snp, .int (nI (tm + 1250)), .ref mm])), (mm, .inr (4, [.int (nI mi), .int (nI mt), .int (nI mg), .int (nI ms), .int sd, .null])), (r, .inr (6, [.int rh, .int rl, .ref st, .ref ck, .ref ck, .int 0, .int 1, .int (nI p0), .int 0, .int 0, .ref rf, .int 0])), (st, .inr (8, [.ref ml, .null])), (ck, .inr (1, [.ref ce, .null])), (ce, .inl (cJ, 128, .inr (.inl fE2)))] t.heap ∧ va_K (dC, dI) vwCl [(cJ, .long)] t ∧ va_D (va_A [(nd, .inr (5, [.int nh, .int nl, .int nwa, .int nfr, .int (nI nwi), .ref r, .ref nt, .ref ns, .ref ib, .ref gs, .ref cs, .ref nu, .int 0, .int 2, .int (nI nad), .int (nI ncc), .int 0, .int 0])), (ns, .inr (7, [.int 1, .int snp, .int (nI sdu), .ref mm])), (mm, .inr (4, [.int (nI mi), .int (nI mt), .int (nI mg), .int (nI ms), .int sd, .null])), (r, .inr (6, [.int rh, .int rl, .ref st, .null, .null, .int hp, .int tp, .int 0, .int 0, .int 0, .ref rf, .int 0])), (st, .inr (8, [.ref ml, .ref ck])), (ck, .inr (1, [.ref ce, .null])), (ce, .inl (cJ, 128, .inr (.inl fE)))] sz) [(nd, .inr (5, [.int nh, .int nl, .int nwa, .int nfr, .int (nI nwi), .ref r, .ref nt, .ref ns, .ref ib, .ref gs, .ref cs, .ref nu, .int 0, .int 2, .int (nI nad), .int (nI ncc), .int 0, .int 0])), (ns, .inr (7, [.int 1, .int snp, .int (nI (tm + 1250)), .ref mm])), (mm, .inr (4, [.int (nI mi), .int (nI mt), .int (nI mg), .int (nI ms), .int sd, .null])), (r, .inr (6, [.int rh, .int rl, .ref st, .ref ck, .ref ck, .int 0, .int 1, .int (nI p0), .int 0, .int 0, .ref rf, .int 0])), (st, .inr (8, [.ref ml, .null])), (ck, .inr (1, [.ref ce, .null])), (ce, .inl (cJ, 128, .inr (.inl fE2)))] ∧ ((fE2 0).toInt32 = (nI (16777216 * mt + 65536 * 235 + 256 * p0 + p1))) ∧ ((fE2 0 >>> ((32 : Int32).toInt64 &&& 63)).toInt32 = (nI mi))) (va_A [(nd, .inr (5, [.int nh, .int nl, .int nwa, .int nfr, .int (nI nwi), .ref r, .ref nt, .ref ns, .ref ib, .ref gs, .ref cs, .ref nu, .int 0, .int 2, .int (nI nad), .int (nI ncc), .int 0, .int 0])), (ns, .inr (7, [.int 1, .int snp, .int (nI sdu), .ref mm])), (mm, .inr (4, [.int (nI mi), .int (nI mt), .int (nI mg), .int (nI ms), .int sd, .null])), (r, .inr (6, [.int rh, .int rl, .ref st, .null, .null, .int hp, .int tp, .int 0, .int 0, .int 0, .ref rf, .int 0])), (st, .inr (8, [.ref ml, .ref ck])), (ck, .inr (1, [.ref ce, .null])), (ce, .inl (cJ, 128, .inr (.inl fE)))] sz)) 0 0 (va_A [(nd, .inr (5, [.int nh, .int nl, .int nwa, .int nfr, .int (nI nwi), .ref r, .ref nt, .ref ns, .ref ib, .ref gs, .ref cs, .ref nu, .int 0, .int 2, .int (nI nad), .int (nI ncc), .int 0, .int 0])), (ns, .inr (7, [.int 1, .int snp, .int (nI sdu), .ref mm])), (mm, .inr (4, [.int (nI mi), .int (nI mt), .int (nI mg), .int (nI ms), .int sd, .null])), (r, .inr (6, [.int rh, .int rl, .ref st, .null, .null, .int hp, .int tp, .int 0, .int 0, .int 0, .ref rf, .int 0])), (st, .inr (8, [.ref ml, .ref ck])), (ck, .inr (1, [.ref ce, .null])), (ce, .inl (cJ, 128, .inr (.inl fE)))] sz) := by
  refine Met.ofW (cc := cX4_sendCleared) (maxL := 5) (ret := none) (by decide) rfl ?_
  intro p e s m args below meth c s₁ B hml hv
  obtain ⟨rfl, hsz, hP, hK, hD0, hE⟩ := hv
  have hx := B.exec
  have hb := B.bytes
  have hr := B.returns
  have hts := atoms_spec (ws := v_c_sendCleared) B.pre
  have hown : s.vm.findClass RX4 = some m.cls := findClass_of_methodNamed B.named
  have hlocks := B.notSynchronized
  subst hsz
  have hD := hD0.self (sz := s.heap.size)
  generalize hAe : va_A [(nd, .inr (5, [.int nh, .int nl, .int nwa, .int nfr, .int (nI nwi), .ref r, .ref nt, .ref ns, .ref ib, .ref gs, .ref cs, .ref nu, .int 0, .int 2, .int (nI nad), .int (nI ncc), .int 0, .int 0])), (ns, .inr (7, [.int 1, .int snp, .int (nI sdu), .ref mm])), (mm, .inr (4, [.int (nI mi), .int (nI mt), .int (nI mg), .int (nI ms), .int sd, .null])), (r, .inr (6, [.int rh, .int rl, .ref st, .null, .null, .int hp, .int tp, .int 0, .int 0, .int 0, .ref rf, .int 0])), (st, .inr (8, [.ref ml, .ref ck])), (ck, .inr (1, [.ref ce, .null])), (ce, .inl (cJ, 128, .inr (.inl fE)))] s.heap.size = A at hD ⊢
  have hA : ∀ q : Nat, s.heap.size ≤ q → A q := fun q h => by rw [← hAe]; exact Or.inr h
  have hS : va_S A s.heap s.heap [] := va_S.rf
  replace hP : va_P (dC, dI) vwCl [(nd, .inr (5, [.int nh, .int nl, .int nwa, .int nfr, .int (nI nwi), .ref r, .ref nt, .ref ns, .ref ib, .ref gs, .ref cs, .ref nu, .int 0, .int 2, .int (nI nad), .int (nI ncc), .int 0, .int 0])), (ns, .inr (7, [.int 1, .int snp, .int (nI sdu), .ref mm])), (mm, .inr (4, [.int (nI mi), .int (nI mt), .int (nI mg), .int (nI ms), .int sd, .null])), (r, .inr (6, [.int rh, .int rl, .ref st, .null, .null, .int hp, .int tp, .int 0, .int 0, .int 0, .ref rf, .int 0])), (st, .inr (8, [.ref ml, .ref ck])), (ck, .inr (1, [.ref ce, .null])), (ce, .inl (cJ, 128, .inr (.inl fE)))] s.heap := hP
  have hl := lv_entry ([.ref nd, .int (nI p0), .int (nI p1), .int (nI tm)]) (n := 5) (Nat.le_of_ble_eq_true rfl)
  rw [lg_entry_eq]
  generalize (lg_sl ([.ref nd, .int (nI p0), .int (nI p1), .int (nI tm)]) ++ List.replicate (5 - (lg_sl ([.ref nd, .int (nI p0), .int (nI p1), .int (nI tm)])).length) Slot.unset).toArray = ls at hl ⊢
  replace hl : lv_has ls 5 [(0, .ref nd), (1, .int (nI p0)), (2, .int (nI p1)), (3, .int (nI tm))] := hl
  obtain ⟨H, hH⟩ : ∃ z : Heap, z = s.heap := ⟨_, rfl⟩
  rw [← hH]
  replace hS : va_S A s.heap H [] := by rw [hH]; exact va_S.rf
  replace hP : va_P (dC, dI) vwCl [(nd, .inr (5, [.int nh, .int nl, .int nwa, .int nfr, .int (nI nwi), .ref r, .ref nt, .ref ns, .ref ib, .ref gs, .ref cs, .ref nu, .int 0, .int 2, .int (nI nad), .int (nI ncc), .int 0, .int 0])), (ns, .inr (7, [.int 1, .int snp, .int (nI sdu), .ref mm])), (mm, .inr (4, [.int (nI mi), .int (nI mt), .int (nI mg), .int (nI ms), .int sd, .null])), (r, .inr (6, [.int rh, .int rl, .ref st, .null, .null, .int hp, .int tp, .int 0, .int 0, .int 0, .ref rf, .int 0])), (st, .inr (8, [.ref ml, .ref ck])), (ck, .inr (1, [.ref ce, .null])), (ce, .inl (cJ, 128, .inr (.inl fE)))] H := by rw [hH]; exact hP
  clear hH
  refine lv_aload_n hx hb dX4_sendCleared_0 rfl (lv_at hl 0 rfl) ?_
  refine va_get (D := (dC, dI)) (ci := 5) (v := .ref ns) (C := RX4) (T := TX4) (N := 18) hx hb hts in_c_sendCleared_X4 hown hK hP 0 rfl rfl 7 (by decide) (hts (.fieldLink RX4 21 "ClaimBus$Node" "sending" "LClaimBus$Sending;") (List.mem_of_getElem? (i := 1) rfl)) (fun _ h9 => h9) rfl dX4_sendCleared_1 ?_
  refine va_get (D := (dC, dI)) (ci := 7) (v := .ref mm) (C := RX6) (T := TX6) (N := 4) hx hb hts in_c_sendCleared_X6 hown hK hP 1 rfl rfl 3 (by decide) (hts (.fieldLink RX4 122 "ClaimBus$Sending" "whole" "LClaimBus$Message;") (List.mem_of_getElem? (i := 2) rfl)) (fun _ h9 => h9) rfl dX4_sendCleared_4 ?_
  refine lv_astore (lv' := [(4, .ref mm), (0, .ref nd), (1, .int (nI p0)), (2, .int (nI p1)), (3, .int (nI tm))]) hx hb dX4_sendCleared_7 hl (by decide) rfl (fun ls hl => ?_)
  refine lv_aload hx hb dX4_sendCleared_9 (lv_at hl 0 rfl) ?_
  refine lv_ifnull hx hb dX4_sendCleared_11 ?_
  refine lv_iload_n hx hb dX4_sendCleared_14 rfl (lv_at hl 2 rfl) ?_
  refine lv_if_le (tgt := 37) hx hb dX4_sendCleared_15 (by decide) (fun c_1 => ?_) (fun c_1 => ?_)
  · exact absurd ((nI_leI (a := p0) (b := 0) (by omega) (by omega)).mp c_1) (by omega)
  refine lv_aload_n hx hb dX4_sendCleared_18 rfl (lv_at hl 1 rfl) ?_
  refine va_get (D := (dC, dI)) (ci := 5) (v := .ref r) (C := RX4) (T := TX4) (N := 18) hx hb hts in_c_sendCleared_X4 hown hK hP 0 rfl rfl 5 (by decide) (hts (.fieldLink RX4 89 "ClaimBus$Node" "row" "LClaimBus$Row;") (List.mem_of_getElem? (i := 3) rfl)) (fun _ h9 => h9) rfl dX4_sendCleared_19 ?_
  refine lv_aload hx hb dX4_sendCleared_22 (lv_at hl 0 rfl) ?_
  refine lv_aload hx hb dX4_sendCleared_24 (lv_at hl 0 rfl) ?_
  refine va_get (D := (dC, dI)) (ci := 4) (v := .int (nI mt)) (C := RX3) (T := TX3) (N := 6) hx hb hts in_c_sendCleared_X3 hown hK hP 2 rfl rfl 1 (by decide) (hts (.fieldLink RX4 133 "ClaimBus$Message" "to" "I") (List.mem_of_getElem? (i := 4) rfl)) (fun _ h9 => h9) rfl dX4_sendCleared_26 ?_
  refine lv_sipush (v := 235) hx hb dX4_sendCleared_29 (by decide) ?_
  refine lv_iload_n hx hb dX4_sendCleared_32 rfl (lv_at hl 2 rfl) ?_
  refine lv_iload_n hx hb dX4_sendCleared_33 rfl (lv_at hl 3 rfl) ?_
  have hPc := hP.sub (ws' := [(r, .inr (6, [.int rh, .int rl, .ref st, .null, .null, .int hp, .int tp, .int 0, .int 0, .int 0, .ref rf, .int 0])), (st, .inr (8, [.ref ml, .ref ck])), (ck, .inr (1, [.ref ce, .null])), (ce, .inl (cJ, 128, .inr (.inl fE))), (mm, .inr (4, [.int (nI mi), .int (nI mt), .int (nI mg), .int (nI ms), .int sd, .null]))]) [3, 4, 5, 6, 2] rfl
  have hDc := hD.sub (ws' := [(r, .inr (6, [.int rh, .int rl, .ref st, .null, .null, .int hp, .int tp, .int 0, .int 0, .int 0, .ref rf, .int 0])), (st, .inr (8, [.ref ml, .ref ck])), (ck, .inr (1, [.ref ce, .null])), (ce, .inl (cJ, 128, .inr (.inl fE))), (mm, .inr (4, [.int (nI mi), .int (nI mt), .int (nI mg), .int (nI ms), .int sd, .null]))]) [3, 4, 5, 6, 2] (by decide +kernel) rfl
  have hKc := hK.sub (tys' := [(cJ, .long)]) [0] rfl
  have hFc := va_free (wc := [(r, .inr (6, [.int rh, .int rl, .ref st, .null, .null, .int hp, .int tp, .int 0, .int 0, .int 0, .ref rf, .int 0])), (st, .inr (8, [.ref ml, .ref ck])), (ck, .inr (1, [.ref ce, .null])), (ce, .inl (cJ, 128, .inr (.inl fE))), (mm, .inr (4, [.int (nI mi), .int (nI mt), .int (nI mg), .int (nI ms), .int sd, .null]))]) hD hS hA [3, 4, 5, 6, 2] rfl
  refine va_callv (va_runV (As := [.ref mm, .int (nI mt), .int 235, .int (nI p0), .int (nI p1)]) (rest := []) ⟨hx, hb, hml, hown, hts⟩ (c_put_cp l dC dI (r) (rh) (rl) (st) (rf) (hp) (tp) (ml) (ck) (ce) (cJ) (fE) (mm) (mi) (mt) (mg) (ms) (sd) (mt) (235) (p0) (p1) H.size hmt (by omega) h_p0 h_p1 hmi (by omega)) (cwV 5 hts g_c_sendCleared_c_put_cp_136 rfl rfl rfl (by decide +kernel) ⟨Nat.le_of_ble_eq_true rfl, Nat.le_of_ble_eq_true rfl⟩) ⟨fun a U g mk q => by obtain ⟨q0, q1, qP, qK, qD, qE⟩ := q; exact ⟨q0, q1, qP, va_K.moved (u := U) (U := U.calling g mk a) (Vm.Alike.refl U.vm) qK, qD, ev.same (u := U) (U := U.calling g mk a) rfl qE⟩, va_recv hKc hPc (ci := 6) (q0 := 0) rfl rfl, fun U hU hW => ⟨rfl, by rw [hU], by rw [hU]; exact hPc, va_K.moved hW.alike hKc, hDc.weaken (fun _ _ _ _ => trivial), hE.warm hW⟩⟩ rfl rfl hl.1 rfl (lv_room (Nat.le_of_ble_eq_true rfl)) dX4_sendCleared_34 ⟨Nat.le_of_ble_eq_true rfl, Nat.le_of_ble_eq_true rfl⟩) hS (fun q _ h => hFc q h) hFc (fun u t H1 locs ht hvm hw hB hz1 hk1 hS => ?_)
  clear hPc hDc hKc
  obtain ⟨fE2_2, hP1, hK1, hD1, hlo_2, hhi_2⟩ := hB
  rw [ht] at hP1
  have hK1 := va_K.moved hvm.symm hK1
  obtain ⟨hP, hD⟩ := va_join (wr := [(nd, .inr (5, [.int nh, .int nl, .int nwa, .int nfr, .int (nI nwi), .ref r, .ref nt, .ref ns, .ref ib, .ref gs, .ref cs, .ref nu, .int 0, .int 2, .int (nI nad), .int (nI ncc), .int 0, .int 0])), (ns, .inr (7, [.int 1, .int snp, .int (nI sdu), .ref mm]))]) (w1 := [(r, .inr (6, [.int rh, .int rl, .ref st, .ref ck, .ref ck, .int 0, .int 1, .int (nI p0), .int 0, .int 0, .ref rf, .int 0])), (st, .inr (8, [.ref ml, .null])), (ck, .inr (1, [.ref ce, .null])), (ce, .inl (cJ, 128, .inr (.inl fE2_2))), (mm, .inr (4, [.int (nI mi), .int (nI mt), .int (nI mg), .int (nI ms), .int sd, .null]))]) hP hD [3, 4, 5, 6, 2] [0, 1] rfl rfl (by decide +kernel) (by decide +kernel) hk1 hFc hP1 hD1
  generalize H1 = H at hP hS ⊢
  replace hP : va_P (dC, dI) vwCl [(nd, .inr (5, [.int nh, .int nl, .int nwa, .int nfr, .int (nI nwi), .ref r, .ref nt, .ref ns, .ref ib, .ref gs, .ref cs, .ref nu, .int 0, .int 2, .int (nI nad), .int (nI ncc), .int 0, .int 0])), (ns, .inr (7, [.int 1, .int snp, .int (nI sdu), .ref mm])), (r, .inr (6, [.int rh, .int rl, .ref st, .ref ck, .ref ck, .int 0, .int 1, .int (nI p0), .int 0, .int 0, .ref rf, .int 0])), (st, .inr (8, [.ref ml, .null])), (ck, .inr (1, [.ref ce, .null])), (ce, .inl (cJ, 128, .inr (.inl fE2_2))), (mm, .inr (4, [.int (nI mi), .int (nI mt), .int (nI mg), .int (nI ms), .int sd, .null]))] H := hP
  replace hD : va_D A [(nd, .inr (5, [.int nh, .int nl, .int nwa, .int nfr, .int (nI nwi), .ref r, .ref nt, .ref ns, .ref ib, .ref gs, .ref cs, .ref nu, .int 0, .int 2, .int (nI nad), .int (nI ncc), .int 0, .int 0])), (ns, .inr (7, [.int 1, .int snp, .int (nI sdu), .ref mm])), (r, .inr (6, [.int rh, .int rl, .ref st, .ref ck, .ref ck, .int 0, .int 1, .int (nI p0), .int 0, .int 0, .ref rf, .int 0])), (st, .inr (8, [.ref ml, .null])), (ck, .inr (1, [.ref ce, .null])), (ce, .inl (cJ, 128, .inr (.inl fE2_2))), (mm, .inr (4, [.int (nI mi), .int (nI mt), .int (nI mg), .int (nI ms), .int sd, .null]))] := hD
  clear hw
  refine lv_aload_n hx hb dX4_sendCleared_37 rfl (lv_at hl 1 rfl) ?_
  refine va_get (D := (dC, dI)) (ci := 5) (v := .ref ns) (C := RX4) (T := TX4) (N := 18) hx hb hts in_c_sendCleared_X4 hown hK hP 0 rfl rfl 7 (by decide) (hts (.fieldLink RX4 21 "ClaimBus$Node" "sending" "LClaimBus$Sending;") (List.mem_of_getElem? (i := 1) rfl)) (fun _ h9 => h9) rfl dX4_sendCleared_38 ?_
  refine lv_iload_n hx hb dX4_sendCleared_41 rfl (lv_at hl 4 rfl) ?_
  refine lv_sipush (v := 1250) hx hb dX4_sendCleared_42 (by decide) ?_
  refine lv_iadd hx hb dX4_sendCleared_45 ?_
  refine lv_topi (fun x_3 ex_3 => ?_)
  obtain rfl : x_3 = (nI (tm + 1250)) := ex_3.trans ((nI_add tm 1250).trans (show nI (tm + 1250) = nI (tm + 1250) from congrArg nI (by omega)))
  refine va_put (D := (dC, dI)) (ci := 7) (v := .int (nI (tm + 1250))) (ty := .int) (C := RX6) (T := TX6) (N := 4) hx hb hts in_c_sendCleared_X6 tyX6 tyX6_ok nmX6 hown hK hP hD hS 1 rfl rfl 2 (by decide) (hts (.fieldLink RX4 140 "ClaimBus$Sending" "due" "I") (List.mem_of_getElem? (i := 9) rfl)) (fun _ h9 => h9) rfl (by decide +kernel) rfl rfl (Nat.le_of_ble_eq_true rfl) dX4_sendCleared_46 (fun H locs hP hD hS => ?_)
  replace hP : va_P (dC, dI) vwCl [(nd, .inr (5, [.int nh, .int nl, .int nwa, .int nfr, .int (nI nwi), .ref r, .ref nt, .ref ns, .ref ib, .ref gs, .ref cs, .ref nu, .int 0, .int 2, .int (nI nad), .int (nI ncc), .int 0, .int 0])), (ns, .inr (7, [.int 1, .int snp, .int (nI (tm + 1250)), .ref mm])), (r, .inr (6, [.int rh, .int rl, .ref st, .ref ck, .ref ck, .int 0, .int 1, .int (nI p0), .int 0, .int 0, .ref rf, .int 0])), (st, .inr (8, [.ref ml, .null])), (ck, .inr (1, [.ref ce, .null])), (ce, .inl (cJ, 128, .inr (.inl fE2_2))), (mm, .inr (4, [.int (nI mi), .int (nI mt), .int (nI mg), .int (nI ms), .int sd, .null]))] H := hP
  replace hD : va_D A [(nd, .inr (5, [.int nh, .int nl, .int nwa, .int nfr, .int (nI nwi), .ref r, .ref nt, .ref ns, .ref ib, .ref gs, .ref cs, .ref nu, .int 0, .int 2, .int (nI nad), .int (nI ncc), .int 0, .int 0])), (ns, .inr (7, [.int 1, .int snp, .int (nI (tm + 1250)), .ref mm])), (r, .inr (6, [.int rh, .int rl, .ref st, .ref ck, .ref ck, .int 0, .int 1, .int (nI p0), .int 0, .int 0, .ref rf, .int 0])), (st, .inr (8, [.ref ml, .null])), (ck, .inr (1, [.ref ce, .null])), (ce, .inl (cJ, 128, .inr (.inl fE2_2))), (mm, .inr (4, [.int (nI mi), .int (nI mt), .int (nI mg), .int (nI ms), .int sd, .null]))] := hD
  have hP9 := hP.sub (ws' := [(nd, .inr (5, [.int nh, .int nl, .int nwa, .int nfr, .int (nI nwi), .ref r, .ref nt, .ref ns, .ref ib, .ref gs, .ref cs, .ref nu, .int 0, .int 2, .int (nI nad), .int (nI ncc), .int 0, .int 0])), (ns, .inr (7, [.int 1, .int snp, .int (nI (tm + 1250)), .ref mm])), (mm, .inr (4, [.int (nI mi), .int (nI mt), .int (nI mg), .int (nI ms), .int sd, .null])), (r, .inr (6, [.int rh, .int rl, .ref st, .ref ck, .ref ck, .int 0, .int 1, .int (nI p0), .int 0, .int 0, .ref rf, .int 0])), (st, .inr (8, [.ref ml, .null])), (ck, .inr (1, [.ref ce, .null])), (ce, .inl (cJ, 128, .inr (.inl fE2_2)))]) [0, 1, 6, 2, 3, 4, 5] rfl
  have hD9 := hD.sub (ws' := [(nd, .inr (5, [.int nh, .int nl, .int nwa, .int nfr, .int (nI nwi), .ref r, .ref nt, .ref ns, .ref ib, .ref gs, .ref cs, .ref nu, .int 0, .int 2, .int (nI nad), .int (nI ncc), .int 0, .int 0])), (ns, .inr (7, [.int 1, .int snp, .int (nI (tm + 1250)), .ref mm])), (mm, .inr (4, [.int (nI mi), .int (nI mt), .int (nI mg), .int (nI ms), .int sd, .null])), (r, .inr (6, [.int rh, .int rl, .ref st, .ref ck, .ref ck, .int 0, .int 1, .int (nI p0), .int 0, .int 0, .ref rf, .int 0])), (st, .inr (8, [.ref ml, .null])), (ck, .inr (1, [.ref ce, .null])), (ce, .inl (cJ, 128, .inr (.inl fE2_2)))]) [0, 1, 6, 2, 3, 4, 5] (by decide +kernel) rfl
  have hK9 := hK.sub (tys' := [(cJ, .long)]) [0] rfl
  exact W.vret hx hb hr (fun t ht hW => ⟨⟨(), rfl, trivial, ⟨fE2_2, by rw [ht]; exact hP9, va_K.moved hW.alike hK9, hD9, hlo_2.trans (congrArg nI (by omega)), hhi_2⟩⟩, hS.F ht⟩) hS.2.2 dX4_sendCleared_49

noncomputable def tl_c_clearNext : List Cond := wsX90 ++ (wsX40 ++ (v_c_put_c))
noncomputable def v_c_clearNext : List Cond := .code yX4_clearNext cX4_clearNext 5 none :: ([.fieldLink RX4 181 "ClaimBus$Transport" "packets" "I", .fieldLink RX4 183 "ClaimBus$Transport" "expected" "I", .fieldLink RX4 78 "ClaimBus$Node" "window" "I", .fieldLink RX4 186 "ClaimBus$Transport" "window" "I", .methodLink RX4 147 Lib.Math.min.name, .static Lib.Math.min.name, .initialized "java/lang/Math", .code Lib.Math.min.name Lib.Math.min.code 2 (some .int), .fieldLink RX4 187 "ClaimBus$Transport" "clearedTo" "I", .fieldLink RX4 153 "ClaimBus$Transport" "lastHeard" "I", .fieldLink RX4 89 "ClaimBus$Node" "row" "LClaimBus$Row;", .fieldLink RX4 177 "ClaimBus$Transport" "whole" "LClaimBus$Message;", .fieldLink RX4 178 "ClaimBus$Transport" "source" "I", .initialized RX5, .methodLink RX4 136 yX5_put, .instanceMethod yX5_put, .selects RX5 yX5_put yX5_put] ++ tl_c_clearNext)
theorem it_c_clearNext : ∀ w ∈ tl_c_clearNext, w ∈ v_c_clearNext := fun w h => List.mem_cons_of_mem _ (List.mem_append_right _ h)
theorem in_c_clearNext_X9 : ∀ w ∈ wsX90, w ∈ v_c_clearNext := fun w h => it_c_clearNext w (List.mem_append_left _ h)
theorem in_c_clearNext_X4 : ∀ w ∈ wsX40, w ∈ v_c_clearNext := fun w h => it_c_clearNext w (List.mem_append_right _ (List.mem_append_left _ h))
theorem ic_c_clearNext_c_put_c : ∀ w ∈ v_c_put_c, w ∈ v_c_clearNext := fun w h => it_c_clearNext w (List.mem_append_right _ (List.mem_append_right _ (h)))
theorem gt_c_clearNext : ∀ w ∈ tl_c_clearNext, goodWord w = true := List.forall_mem_append.mpr ⟨gw_wsX90, List.forall_mem_append.mpr ⟨gw_wsX40, gw_c_put_c⟩⟩
theorem gw_c_clearNext : ∀ w ∈ v_c_clearNext, goodWord w = true := List.forall_mem_cons.mpr ⟨by decide +kernel, List.forall_mem_append.mpr ⟨List.all_eq_true.mp (by decide +kernel), gt_c_clearNext⟩⟩
theorem g_c_clearNext_c_put_c_136 : GoodIn v_c_clearNext (wsV RX4 136 RX5 yX5_put v_c_put_c) := goodIn_app (goodIn_r [.methodLink RX4 136 yX5_put, .instanceMethod yX5_put, .selects RX5 yX5_put yX5_put, .initialized RX5] [15, 16, 17, 14] (by decide +kernel) (by decide +kernel)) (fun w h => ⟨ic_c_clearNext_c_put_c w h, good_of_word (gw_c_put_c w h)⟩)
set_option maxHeartbeats 4000000 in
set_option maxRecDepth 100000 in
/-- Node.clearNext -/
theorem c_clearNext (l : Launch) (dC : Nat → ClassId) (dI : Nat → Nat → Nat) (nd : Nat) (nh : Int32) (nl : Int32) (nwa : Int32) (nfr : Int32) (nwi : Nat) (r : Nat) (nt : Nat) (ns : Nat) (ib : Nat) (gs : Nat) (cs : Nat) (nu : Nat) (nad : Nat) (ncc : Nat) (rh : Int32) (rl : Int32) (st : Nat) (rf : Nat) (hp : Int32) (tp : Int32) (ml : Nat) (ck : Nat) (ce : Nat) (cJ : ClassId) (fE : Nat → Int64) (tr : Nat) (tso : Nat) (tg : Nat) (ts : Nat) (tpk : Nat) (tw : Nat) (te : Nat) (tc : Nat) (tl : Nat) (tsu : Int32) (mm : Nat) (tb : Nat) (mi : Nat) (mt : Nat) (mg : Nat) (ms : Nat) (sd : Int32) (tm : Nat) (sz : Nat) (hmi : mi < 8) (hmt : mt < 256) (hmg : mg < 262144) (hms : ms < 1786) (hwi : 1 ≤ nwi ∧ nwi < 17) (htw : 1 ≤ tw ∧ tw < 17) (hte : 1 ≤ te ∧ te ≤ tpk) (htp : tpk < 256) (htso : tso < 256) : Met l yX4_clearNext v_c_clearNext ({ frames := 2, cells := 0, slots := 0, locals := 48 }) (va_Pc [.ref nd, .ref tr, .int (nI tm)] (fun U => U.heap.size = sz ∧ va_P (dC, dI) vwCl [(nd, .inr (5, [.int nh, .int nl, .int nwa, .int nfr, .int (nI nwi), .ref r, .ref nt, .ref ns, .ref ib, .ref gs, .ref cs, .ref nu, .int 0, .int 2, .int (nI nad), .int (nI ncc), .int 0, .int 0])), (tr, .inr (10, [.int 1, .int (nI tso), .int (nI tg), .int (nI ts), .int (nI tpk), .int (nI tw), .int (nI te), .int (nI tc), .int (nI tl), .int 0, .int tsu, .int 1, .ref mm, .ref tb])), (mm, .inr (4, [.int (nI mi), .int (nI mt), .int (nI mg), .int (nI ms), .int sd, .null])), (r, .inr (6, [.int rh, .int rl, .ref st, .null, .null, .int hp, .int tp, .int 0, .int 0, .int 0, .ref rf, .int 0])), (st, .inr (8, [.ref ml, .ref ck])), (ck, .inr (1, [.ref ce, .null])), (ce, .inl (cJ, 128, .inr (.inl fE)))] U.heap ∧ va_K (dC, dI) vwCl [(cJ, .long)] U ∧ va_D (fun _ => True) [(nd, .inr (5, [.int nh, .int nl, .int nwa, .int nfr, .int (nI nwi), .ref r, .ref nt, .ref ns, .ref ib, .ref gs, .ref cs, .ref nu, .int 0, .int 2, .int (nI nad), .int (nI ncc), .int 0, .int 0])), (tr, .inr (10, [.int 1, .int (nI tso), .int (nI tg), .int (nI ts), .int (nI tpk), .int (nI tw), .int (nI te), .int (nI tc), .int (nI tl), .int 0, .int tsu, .int 1, .ref mm, .ref tb])), (mm, .inr (4, [.int (nI mi), .int (nI mt), .int (nI mg), .int (nI ms), .int sd, .null])), (r, .inr (6, [.int rh, .int rl, .ref st, .null, .null, .int hp, .int tp, .int 0, .int 0, .int 0, .ref rf, .int 0])), (st, .inr (8, [.ref ml, .ref ck])), (ck, .inr (1, [.ref ce, .null])), (ce, .inl (cJ, 128, .inr (.inl fE)))] ∧ ev U)) (va_Qv (fun _ : Unit => True) (fun (_ : Unit) (t : State) => ∃ (mn : Nat) (fE2 : Nat → Int64), va_P (dC, dI) vwCl [(nd, .inr (5, [.int nh, .int nl, .int nwa, .int nfr, .int (nI nwi), .ref r, .ref nt, .ref ns, .ref ib, .ref gs, .ref cs, .ref nu, .int 0, .int 2, .int (nI nad), .int (nI ncc), .int 0, .int 0])), (tr, .inr (10, [.int 1, .int (nI tso), .int (nI tg), .int (nI ts), .int (nI tpk), .int (nI tw), .int (nI te), .int (nI (te + mn - 1)), .int (nI tm), .int 0, .int tsu, .int 1, .ref mm, .ref tb])), (mm, .inr (4, [.int (nI mi), .int (nI mt), .int (nI mg), .int (nI ms), .int sd, .null])), (r, .inr (6, [.int rh, .int rl, .ref st, .ref ck, .ref ck, .int 0, .int 1, .int 1, .int 0, .int 0, .ref rf, .int 0])), (st, .inr (8, [.ref ml, .null])), (ck, .inr (1, [.ref ce, .null])), (ce, .inl (cJ, 128, .inr (.inl fE2)))] t.heap ∧ va_K (dC, dI) vwCl [(cJ, .long)] t ∧ va_D (va_A [(nd, .inr (5, [.int nh, .int nl, .int nwa, .int nfr, .int (nI nwi), .ref r, .ref nt, .ref ns, .ref ib, .ref gs, .ref cs, .ref nu, .int 0, .int 2, .int (nI nad), .int (nI ncc), .int 0, .int 0])), (tr, .inr (10, [.int 1, .int (nI tso), .int (nI tg), .int (nI ts), .int (nI tpk), .int (nI tw), .int (nI te), .int (nI tc), .int (nI tl), .int 0, .int tsu, .int 1, .ref mm, .ref tb])), (mm, .inr (4, [.int (nI mi), .int (nI mt), .int (nI mg), .int (nI ms), .int sd, .null])), (r, .inr (6, [.int rh, .int rl, .ref st, .null, .null, .int hp, .int tp, .int 0, .int 0, .int 0, .ref rf, .int 0])), (st, .inr (8, [.ref ml, .ref ck])), (ck, .inr (1, [.ref ce, .null])), (ce, .inl (cJ, 128, .inr (.inl fE)))] sz) [(nd, .inr (5, [.int nh, .int nl, .int nwa, .int nfr, .int (nI nwi), .ref r, .ref nt, .ref ns, .ref ib, .ref gs, .ref cs, .ref nu, .int 0, .int 2, .int (nI nad), .int (nI ncc), .int 0, .int 0])), (tr, .inr (10, [.int 1, .int (nI tso), .int (nI tg), .int (nI ts), .int (nI tpk), .int (nI tw), .int (nI te), .int (nI (te + mn - 1)), .int (nI tm), .int 0, .int tsu, .int 1, .ref mm, .ref tb])), (mm, .inr (4, [.int (nI mi), .int (nI mt), .int (nI mg), .int (nI ms), .int sd, .null])), (r, .inr (6, [.int rh, .int rl, .ref st, .ref ck, .ref ck, .int 0, .int 1, .int 1, .int 0, .int 0, .ref rf, .int 0])), (st, .inr (8, [.ref ml, .null])), (ck, .inr (1, [.ref ce, .null])), (ce, .inl (cJ, 128, .inr (.inl fE2)))] ∧ (mn = min (min nwi tw) (tpk + 1 - te)) ∧ ((fE2 0).toInt32 = (nI (16777216 * tso + 65536 * 17 + 256 * mn + te))) ∧ ((fE2 0 >>> ((32 : Int32).toInt64 &&& 63)).toInt32 = (nI mi))) (va_A [(nd, .inr (5, [.int nh, .int nl, .int nwa, .int nfr, .int (nI nwi), .ref r, .ref nt, .ref ns, .ref ib, .ref gs, .ref cs, .ref nu, .int 0, .int 2, .int (nI nad), .int (nI ncc), .int 0, .int 0])), (tr, .inr (10, [.int 1, .int (nI tso), .int (nI tg), .int (nI ts), .int (nI tpk), .int (nI tw), .int (nI te), .int (nI tc), .int (nI tl), .int 0, .int tsu, .int 1, .ref mm, .ref tb])), (mm, .inr (4, [.int (nI mi), .int (nI mt), .int (nI mg), .int (nI ms), .int sd, .null])), (r, .inr (6, [.int rh, .int rl, .ref st, .null, .null, .int hp, .int tp, .int 0, .int 0, .int 0, .ref rf, .int 0])), (st, .inr (8, [.ref ml, .ref ck])), (ck, .inr (1, [.ref ce, .null])), (ce, .inl (cJ, 128, .inr (.inl fE)))] sz)) 0 0 (va_A [(nd, .inr (5, [.int nh, .int nl, .int nwa, .int nfr, .int (nI nwi), .ref r, .ref nt, .ref ns, .ref ib, .ref gs, .ref cs, .ref nu, .int 0, .int 2, .int (nI nad), .int (nI ncc), .int 0, .int 0])), (tr, .inr (10, [.int 1, .int (nI tso), .int (nI tg), .int (nI ts), .int (nI tpk), .int (nI tw), .int (nI te), .int (nI tc), .int (nI tl), .int 0, .int tsu, .int 1, .ref mm, .ref tb])), (mm, .inr (4, [.int (nI mi), .int (nI mt), .int (nI mg), .int (nI ms), .int sd, .null])), (r, .inr (6, [.int rh, .int rl, .ref st, .null, .null, .int hp, .int tp, .int 0, .int 0, .int 0, .ref rf, .int 0])), (st, .inr (8, [.ref ml, .ref ck])), (ck, .inr (1, [.ref ce, .null])), (ce, .inl (cJ, 128, .inr (.inl fE)))] sz) := by
  refine Met.ofW (cc := cX4_clearNext) (maxL := 5) (ret := none) (by decide) rfl ?_
  intro p e s m args below meth c s₁ B hml hv
  obtain ⟨rfl, hsz, hP, hK, hD0, hE⟩ := hv
  have hx := B.exec
  have hb := B.bytes
  have hr := B.returns
  have hts := atoms_spec (ws := v_c_clearNext) B.pre
  have hown : s.vm.findClass RX4 = some m.cls := findClass_of_methodNamed B.named
  have hlocks := B.notSynchronized
  subst hsz
  have hD := hD0.self (sz := s.heap.size)
  generalize hAe : va_A [(nd, .inr (5, [.int nh, .int nl, .int nwa, .int nfr, .int (nI nwi), .ref r, .ref nt, .ref ns, .ref ib, .ref gs, .ref cs, .ref nu, .int 0, .int 2, .int (nI nad), .int (nI ncc), .int 0, .int 0])), (tr, .inr (10, [.int 1, .int (nI tso), .int (nI tg), .int (nI ts), .int (nI tpk), .int (nI tw), .int (nI te), .int (nI tc), .int (nI tl), .int 0, .int tsu, .int 1, .ref mm, .ref tb])), (mm, .inr (4, [.int (nI mi), .int (nI mt), .int (nI mg), .int (nI ms), .int sd, .null])), (r, .inr (6, [.int rh, .int rl, .ref st, .null, .null, .int hp, .int tp, .int 0, .int 0, .int 0, .ref rf, .int 0])), (st, .inr (8, [.ref ml, .ref ck])), (ck, .inr (1, [.ref ce, .null])), (ce, .inl (cJ, 128, .inr (.inl fE)))] s.heap.size = A at hD ⊢
  have hA : ∀ q : Nat, s.heap.size ≤ q → A q := fun q h => by rw [← hAe]; exact Or.inr h
  have hS : va_S A s.heap s.heap [] := va_S.rf
  replace hP : va_P (dC, dI) vwCl [(nd, .inr (5, [.int nh, .int nl, .int nwa, .int nfr, .int (nI nwi), .ref r, .ref nt, .ref ns, .ref ib, .ref gs, .ref cs, .ref nu, .int 0, .int 2, .int (nI nad), .int (nI ncc), .int 0, .int 0])), (tr, .inr (10, [.int 1, .int (nI tso), .int (nI tg), .int (nI ts), .int (nI tpk), .int (nI tw), .int (nI te), .int (nI tc), .int (nI tl), .int 0, .int tsu, .int 1, .ref mm, .ref tb])), (mm, .inr (4, [.int (nI mi), .int (nI mt), .int (nI mg), .int (nI ms), .int sd, .null])), (r, .inr (6, [.int rh, .int rl, .ref st, .null, .null, .int hp, .int tp, .int 0, .int 0, .int 0, .ref rf, .int 0])), (st, .inr (8, [.ref ml, .ref ck])), (ck, .inr (1, [.ref ce, .null])), (ce, .inl (cJ, 128, .inr (.inl fE)))] s.heap := hP
  have hl := lv_entry ([.ref nd, .ref tr, .int (nI tm)]) (n := 5) (Nat.le_of_ble_eq_true rfl)
  rw [lg_entry_eq]
  generalize (lg_sl ([.ref nd, .ref tr, .int (nI tm)]) ++ List.replicate (5 - (lg_sl ([.ref nd, .ref tr, .int (nI tm)])).length) Slot.unset).toArray = ls at hl ⊢
  replace hl : lv_has ls 5 [(0, .ref nd), (1, .ref tr), (2, .int (nI tm))] := hl
  obtain ⟨H, hH⟩ : ∃ z : Heap, z = s.heap := ⟨_, rfl⟩
  rw [← hH]
  replace hS : va_S A s.heap H [] := by rw [hH]; exact va_S.rf
  replace hP : va_P (dC, dI) vwCl [(nd, .inr (5, [.int nh, .int nl, .int nwa, .int nfr, .int (nI nwi), .ref r, .ref nt, .ref ns, .ref ib, .ref gs, .ref cs, .ref nu, .int 0, .int 2, .int (nI nad), .int (nI ncc), .int 0, .int 0])), (tr, .inr (10, [.int 1, .int (nI tso), .int (nI tg), .int (nI ts), .int (nI tpk), .int (nI tw), .int (nI te), .int (nI tc), .int (nI tl), .int 0, .int tsu, .int 1, .ref mm, .ref tb])), (mm, .inr (4, [.int (nI mi), .int (nI mt), .int (nI mg), .int (nI ms), .int sd, .null])), (r, .inr (6, [.int rh, .int rl, .ref st, .null, .null, .int hp, .int tp, .int 0, .int 0, .int 0, .ref rf, .int 0])), (st, .inr (8, [.ref ml, .ref ck])), (ck, .inr (1, [.ref ce, .null])), (ce, .inl (cJ, 128, .inr (.inl fE)))] H := by rw [hH]; exact hP
  clear hH
  refine lv_aload_n hx hb dX4_clearNext_0 rfl (lv_at hl 1 rfl) ?_
  refine va_get (D := (dC, dI)) (ci := 10) (v := .int (nI tpk)) (C := RX9) (T := TX9) (N := 14) hx hb hts in_c_clearNext_X9 hown hK hP 1 rfl rfl 4 (by decide) (hts (.fieldLink RX4 181 "ClaimBus$Transport" "packets" "I") (List.mem_of_getElem? (i := 1) rfl)) (fun _ h9 => h9) rfl dX4_clearNext_1 ?_
  refine lv_aload_n hx hb dX4_clearNext_4 rfl (lv_at hl 1 rfl) ?_
  refine va_get (D := (dC, dI)) (ci := 10) (v := .int (nI te)) (C := RX9) (T := TX9) (N := 14) hx hb hts in_c_clearNext_X9 hown hK hP 1 rfl rfl 6 (by decide) (hts (.fieldLink RX4 183 "ClaimBus$Transport" "expected" "I") (List.mem_of_getElem? (i := 2) rfl)) (fun _ h9 => h9) rfl dX4_clearNext_5 ?_
  refine lv_isub hx hb dX4_clearNext_8 ?_
  refine lv_topi (fun x_1 ex_1 => ?_)
  obtain rfl : x_1 = (nI (tpk - te)) := ex_1.trans ((pk_sub (a := tpk) (b := te) (by omega)).trans (show nI (tpk - te) = nI (tpk - te) from congrArg nI (by omega)))
  refine lv_iconst (v := 1) hx hb dX4_clearNext_9 (by decide) ?_
  refine lv_iadd hx hb dX4_clearNext_10 ?_
  refine lv_topi (fun x_2 ex_2 => ?_)
  obtain rfl : x_2 = (nI ((tpk + 1) - te)) := ex_2.trans ((nI_add (tpk - te) 1).trans (show nI ((tpk - te) + 1) = nI ((tpk + 1) - te) from congrArg nI (by omega)))
  refine lv_istore_n (lv' := [(3, .int (nI ((tpk + 1) - te))), (0, .ref nd), (1, .ref tr), (2, .int (nI tm))]) hx hb dX4_clearNext_11 rfl hl (by decide) rfl (fun ls hl => ?_)
  refine lv_aload_n hx hb dX4_clearNext_12 rfl (lv_at hl 1 rfl) ?_
  refine va_get (D := (dC, dI)) (ci := 5) (v := .int (nI nwi)) (C := RX4) (T := TX4) (N := 18) hx hb hts in_c_clearNext_X4 hown hK hP 0 rfl rfl 4 (by decide) (hts (.fieldLink RX4 78 "ClaimBus$Node" "window" "I") (List.mem_of_getElem? (i := 3) rfl)) (fun _ h9 => h9) rfl dX4_clearNext_13 ?_
  refine lv_aload_n hx hb dX4_clearNext_16 rfl (lv_at hl 2 rfl) ?_
  refine va_get (D := (dC, dI)) (ci := 10) (v := .int (nI tw)) (C := RX9) (T := TX9) (N := 14) hx hb hts in_c_clearNext_X9 hown hK hP 1 rfl rfl 5 (by decide) (hts (.fieldLink RX4 186 "ClaimBus$Transport" "window" "I") (List.mem_of_getElem? (i := 4) rfl)) (fun _ h9 => h9) rfl dX4_clearNext_17 ?_
  refine va_mmin hx hb (by rw [hml]; exact hl.1.symm) hown (hts (.methodLink RX4 147 Lib.Math.min.name) (List.mem_of_getElem? (i := 5) rfl)) (hts (.static Lib.Math.min.name) (List.mem_of_getElem? (i := 6) rfl)) (hts (.initialized "java/lang/Math") (List.mem_of_getElem? (i := 7) rfl)) (hts (.code Lib.Math.min.name Lib.Math.min.code 2 (some .int)) (List.mem_of_getElem? (i := 8) rfl)) (Nat.le_of_ble_eq_true rfl) (Nat.le_of_ble_eq_true rfl) (Nat.zero_le _) (Nat.zero_le _) dX4_clearNext_20 ?_
  obtain ⟨mn_3, hmn_3⟩ : ∃ z : Nat, z = min nwi tw := ⟨_, rfl⟩
  refine lv_topi (fun x_3 ex_3 => ?_)
  obtain rfl : x_3 = nI mn_3 := ex_3.trans ((q_min (a := nwi) (b := tw) (by omega) (by omega)).trans (congrArg nI hmn_3.symm))
  refine lv_iload_n hx hb dX4_clearNext_23 rfl (lv_at hl 0 rfl) ?_
  refine va_mmin hx hb (by rw [hml]; exact hl.1.symm) hown (hts (.methodLink RX4 147 Lib.Math.min.name) (List.mem_of_getElem? (i := 5) rfl)) (hts (.static Lib.Math.min.name) (List.mem_of_getElem? (i := 6) rfl)) (hts (.initialized "java/lang/Math") (List.mem_of_getElem? (i := 7) rfl)) (hts (.code Lib.Math.min.name Lib.Math.min.code 2 (some .int)) (List.mem_of_getElem? (i := 8) rfl)) (Nat.le_of_ble_eq_true rfl) (Nat.le_of_ble_eq_true rfl) (Nat.zero_le _) (Nat.zero_le _) dX4_clearNext_24 ?_
  obtain ⟨mn_4, hmn_4⟩ : ∃ z : Nat, z = min mn_3 ((tpk + 1) - te) := ⟨_, rfl⟩
  refine lv_topi (fun x_4 ex_4 => ?_)
  obtain rfl : x_4 = nI mn_4 := ex_4.trans ((q_min (a := mn_3) (b := ((tpk + 1) - te)) (by omega) (by omega)).trans (congrArg nI hmn_4.symm))
  refine lv_istore (lv' := [(4, .int (nI mn_4)), (3, .int (nI ((tpk + 1) - te))), (0, .ref nd), (1, .ref tr), (2, .int (nI tm))]) hx hb dX4_clearNext_27 hl (by decide) rfl (fun ls hl => ?_)
  refine lv_aload_n hx hb dX4_clearNext_29 rfl (lv_at hl 3 rfl) ?_
  refine lv_aload_n hx hb dX4_clearNext_30 rfl (lv_at hl 3 rfl) ?_
  refine va_get (D := (dC, dI)) (ci := 10) (v := .int (nI te)) (C := RX9) (T := TX9) (N := 14) hx hb hts in_c_clearNext_X9 hown hK hP 1 rfl rfl 6 (by decide) (hts (.fieldLink RX4 183 "ClaimBus$Transport" "expected" "I") (List.mem_of_getElem? (i := 2) rfl)) (fun _ h9 => h9) rfl dX4_clearNext_31 ?_
  refine lv_iload hx hb dX4_clearNext_34 (lv_at hl 0 rfl) ?_
  refine lv_iadd hx hb dX4_clearNext_36 ?_
  refine lv_topi (fun x_5 ex_5 => ?_)
  obtain rfl : x_5 = (nI (mn_4 + te)) := ex_5.trans ((nI_add te mn_4).trans (show nI (te + mn_4) = nI (mn_4 + te) from congrArg nI (by omega)))
  refine lv_iconst (v := 1) hx hb dX4_clearNext_37 (by decide) ?_
  refine lv_isub hx hb dX4_clearNext_38 ?_
  refine lv_topi (fun x_6 ex_6 => ?_)
  obtain rfl : x_6 = (nI ((mn_4 + te) - 1)) := ex_6.trans ((pk_sub (a := (mn_4 + te)) (b := 1) (by omega)).trans (show nI ((mn_4 + te) - 1) = nI ((mn_4 + te) - 1) from congrArg nI (by omega)))
  refine va_put (D := (dC, dI)) (ci := 10) (v := .int (nI ((mn_4 + te) - 1))) (ty := .int) (C := RX9) (T := TX9) (N := 14) hx hb hts in_c_clearNext_X9 tyX9 tyX9_ok nmX9 hown hK hP hD hS 1 rfl rfl 7 (by decide) (hts (.fieldLink RX4 187 "ClaimBus$Transport" "clearedTo" "I") (List.mem_of_getElem? (i := 9) rfl)) (fun _ h9 => h9) rfl (by decide +kernel) rfl rfl (Nat.le_of_ble_eq_true rfl) dX4_clearNext_39 (fun H locs hP hD hS => ?_)
  replace hP : va_P (dC, dI) vwCl [(nd, .inr (5, [.int nh, .int nl, .int nwa, .int nfr, .int (nI nwi), .ref r, .ref nt, .ref ns, .ref ib, .ref gs, .ref cs, .ref nu, .int 0, .int 2, .int (nI nad), .int (nI ncc), .int 0, .int 0])), (tr, .inr (10, [.int 1, .int (nI tso), .int (nI tg), .int (nI ts), .int (nI tpk), .int (nI tw), .int (nI te), .int (nI ((mn_4 + te) - 1)), .int (nI tl), .int 0, .int tsu, .int 1, .ref mm, .ref tb])), (mm, .inr (4, [.int (nI mi), .int (nI mt), .int (nI mg), .int (nI ms), .int sd, .null])), (r, .inr (6, [.int rh, .int rl, .ref st, .null, .null, .int hp, .int tp, .int 0, .int 0, .int 0, .ref rf, .int 0])), (st, .inr (8, [.ref ml, .ref ck])), (ck, .inr (1, [.ref ce, .null])), (ce, .inl (cJ, 128, .inr (.inl fE)))] H := hP
  replace hD : va_D A [(nd, .inr (5, [.int nh, .int nl, .int nwa, .int nfr, .int (nI nwi), .ref r, .ref nt, .ref ns, .ref ib, .ref gs, .ref cs, .ref nu, .int 0, .int 2, .int (nI nad), .int (nI ncc), .int 0, .int 0])), (tr, .inr (10, [.int 1, .int (nI tso), .int (nI tg), .int (nI ts), .int (nI tpk), .int (nI tw), .int (nI te), .int (nI ((mn_4 + te) - 1)), .int (nI tl), .int 0, .int tsu, .int 1, .ref mm, .ref tb])), (mm, .inr (4, [.int (nI mi), .int (nI mt), .int (nI mg), .int (nI ms), .int sd, .null])), (r, .inr (6, [.int rh, .int rl, .ref st, .null, .null, .int hp, .int tp, .int 0, .int 0, .int 0, .ref rf, .int 0])), (st, .inr (8, [.ref ml, .ref ck])), (ck, .inr (1, [.ref ce, .null])), (ce, .inl (cJ, 128, .inr (.inl fE)))] := hD
  refine lv_aload_n hx hb dX4_clearNext_42 rfl (lv_at hl 3 rfl) ?_
  refine lv_iload_n hx hb dX4_clearNext_43 rfl (lv_at hl 4 rfl) ?_
  refine va_put (D := (dC, dI)) (ci := 10) (v := .int (nI tm)) (ty := .int) (C := RX9) (T := TX9) (N := 14) hx hb hts in_c_clearNext_X9 tyX9 tyX9_ok nmX9 hown hK hP hD hS 1 rfl rfl 8 (by decide) (hts (.fieldLink RX4 153 "ClaimBus$Transport" "lastHeard" "I") (List.mem_of_getElem? (i := 10) rfl)) (fun _ h9 => h9) rfl (by decide +kernel) rfl rfl (Nat.le_of_ble_eq_true rfl) dX4_clearNext_44 (fun H locs hP hD hS => ?_)
  replace hP : va_P (dC, dI) vwCl [(nd, .inr (5, [.int nh, .int nl, .int nwa, .int nfr, .int (nI nwi), .ref r, .ref nt, .ref ns, .ref ib, .ref gs, .ref cs, .ref nu, .int 0, .int 2, .int (nI nad), .int (nI ncc), .int 0, .int 0])), (tr, .inr (10, [.int 1, .int (nI tso), .int (nI tg), .int (nI ts), .int (nI tpk), .int (nI tw), .int (nI te), .int (nI ((mn_4 + te) - 1)), .int (nI tm), .int 0, .int tsu, .int 1, .ref mm, .ref tb])), (mm, .inr (4, [.int (nI mi), .int (nI mt), .int (nI mg), .int (nI ms), .int sd, .null])), (r, .inr (6, [.int rh, .int rl, .ref st, .null, .null, .int hp, .int tp, .int 0, .int 0, .int 0, .ref rf, .int 0])), (st, .inr (8, [.ref ml, .ref ck])), (ck, .inr (1, [.ref ce, .null])), (ce, .inl (cJ, 128, .inr (.inl fE)))] H := hP
  replace hD : va_D A [(nd, .inr (5, [.int nh, .int nl, .int nwa, .int nfr, .int (nI nwi), .ref r, .ref nt, .ref ns, .ref ib, .ref gs, .ref cs, .ref nu, .int 0, .int 2, .int (nI nad), .int (nI ncc), .int 0, .int 0])), (tr, .inr (10, [.int 1, .int (nI tso), .int (nI tg), .int (nI ts), .int (nI tpk), .int (nI tw), .int (nI te), .int (nI ((mn_4 + te) - 1)), .int (nI tm), .int 0, .int tsu, .int 1, .ref mm, .ref tb])), (mm, .inr (4, [.int (nI mi), .int (nI mt), .int (nI mg), .int (nI ms), .int sd, .null])), (r, .inr (6, [.int rh, .int rl, .ref st, .null, .null, .int hp, .int tp, .int 0, .int 0, .int 0, .ref rf, .int 0])), (st, .inr (8, [.ref ml, .ref ck])), (ck, .inr (1, [.ref ce, .null])), (ce, .inl (cJ, 128, .inr (.inl fE)))] := hD
  refine lv_aload_n hx hb dX4_clearNext_47 rfl (lv_at hl 2 rfl) ?_
  refine va_get (D := (dC, dI)) (ci := 5) (v := .ref r) (C := RX4) (T := TX4) (N := 18) hx hb hts in_c_clearNext_X4 hown hK hP 0 rfl rfl 5 (by decide) (hts (.fieldLink RX4 89 "ClaimBus$Node" "row" "LClaimBus$Row;") (List.mem_of_getElem? (i := 11) rfl)) (fun _ h9 => h9) rfl dX4_clearNext_48 ?_
  refine lv_aload_n hx hb dX4_clearNext_51 rfl (lv_at hl 3 rfl) ?_
  refine va_get (D := (dC, dI)) (ci := 10) (v := .ref mm) (C := RX9) (T := TX9) (N := 14) hx hb hts in_c_clearNext_X9 hown hK hP 1 rfl rfl 12 (by decide) (hts (.fieldLink RX4 177 "ClaimBus$Transport" "whole" "LClaimBus$Message;") (List.mem_of_getElem? (i := 12) rfl)) (fun _ h9 => h9) rfl dX4_clearNext_52 ?_
  refine lv_aload_n hx hb dX4_clearNext_55 rfl (lv_at hl 3 rfl) ?_
  refine va_get (D := (dC, dI)) (ci := 10) (v := .int (nI tso)) (C := RX9) (T := TX9) (N := 14) hx hb hts in_c_clearNext_X9 hown hK hP 1 rfl rfl 1 (by decide) (hts (.fieldLink RX4 178 "ClaimBus$Transport" "source" "I") (List.mem_of_getElem? (i := 13) rfl)) (fun _ h9 => h9) rfl dX4_clearNext_56 ?_
  refine lv_bipush (v := 17) hx hb dX4_clearNext_59 (by decide) ?_
  refine lv_iload hx hb dX4_clearNext_61 (lv_at hl 0 rfl) ?_
  refine lv_aload_n hx hb dX4_clearNext_63 rfl (lv_at hl 3 rfl) ?_
  refine va_get (D := (dC, dI)) (ci := 10) (v := .int (nI te)) (C := RX9) (T := TX9) (N := 14) hx hb hts in_c_clearNext_X9 hown hK hP 1 rfl rfl 6 (by decide) (hts (.fieldLink RX4 183 "ClaimBus$Transport" "expected" "I") (List.mem_of_getElem? (i := 2) rfl)) (fun _ h9 => h9) rfl dX4_clearNext_64 ?_
  have hPc := hP.sub (ws' := [(r, .inr (6, [.int rh, .int rl, .ref st, .null, .null, .int hp, .int tp, .int 0, .int 0, .int 0, .ref rf, .int 0])), (st, .inr (8, [.ref ml, .ref ck])), (ck, .inr (1, [.ref ce, .null])), (ce, .inl (cJ, 128, .inr (.inl fE))), (mm, .inr (4, [.int (nI mi), .int (nI mt), .int (nI mg), .int (nI ms), .int sd, .null]))]) [3, 4, 5, 6, 2] rfl
  have hDc := hD.sub (ws' := [(r, .inr (6, [.int rh, .int rl, .ref st, .null, .null, .int hp, .int tp, .int 0, .int 0, .int 0, .ref rf, .int 0])), (st, .inr (8, [.ref ml, .ref ck])), (ck, .inr (1, [.ref ce, .null])), (ce, .inl (cJ, 128, .inr (.inl fE))), (mm, .inr (4, [.int (nI mi), .int (nI mt), .int (nI mg), .int (nI ms), .int sd, .null]))]) [3, 4, 5, 6, 2] (by decide +kernel) rfl
  have hKc := hK.sub (tys' := [(cJ, .long)]) [0] rfl
  have hFc := va_free (wc := [(r, .inr (6, [.int rh, .int rl, .ref st, .null, .null, .int hp, .int tp, .int 0, .int 0, .int 0, .ref rf, .int 0])), (st, .inr (8, [.ref ml, .ref ck])), (ck, .inr (1, [.ref ce, .null])), (ce, .inl (cJ, 128, .inr (.inl fE))), (mm, .inr (4, [.int (nI mi), .int (nI mt), .int (nI mg), .int (nI ms), .int sd, .null]))]) hD hS hA [3, 4, 5, 6, 2] rfl
  refine va_callv (va_runV (As := [.ref mm, .int (nI tso), .int 17, .int (nI mn_4), .int (nI te)]) (rest := []) ⟨hx, hb, hml, hown, hts⟩ (c_put_c l dC dI (r) (rh) (rl) (st) (rf) (hp) (tp) (ml) (ck) (ce) (cJ) (fE) (mm) (mi) (mt) (mg) (ms) (sd) (tso) (17) (mn_4) (te) H.size htso (by omega) (by omega) (by omega) hmi (by omega)) (cwV 5 hts g_c_clearNext_c_put_c_136 rfl rfl rfl (by decide +kernel) ⟨Nat.le_of_ble_eq_true rfl, Nat.le_of_ble_eq_true rfl⟩) ⟨fun a U g mk q => by obtain ⟨q0, q1, qP, qK, qD, qE⟩ := q; exact ⟨q0, q1, qP, va_K.moved (u := U) (U := U.calling g mk a) (Vm.Alike.refl U.vm) qK, qD, ev.same (u := U) (U := U.calling g mk a) rfl qE⟩, va_recv hKc hPc (ci := 6) (q0 := 0) rfl rfl, fun U hU hW => ⟨rfl, by rw [hU], by rw [hU]; exact hPc, va_K.moved hW.alike hKc, hDc.weaken (fun _ _ _ _ => trivial), hE.warm hW⟩⟩ rfl rfl hl.1 rfl (lv_room (Nat.le_of_ble_eq_true rfl)) dX4_clearNext_67 ⟨Nat.le_of_ble_eq_true rfl, Nat.le_of_ble_eq_true rfl⟩) hS (fun q _ h => hFc q h) hFc (fun u t H1 locs ht hvm hw hB hz1 hk1 hS => ?_)
  clear hPc hDc hKc
  obtain ⟨fE2_7, hP1, hK1, hD1, hlo_7, hhi_7⟩ := hB
  rw [ht] at hP1
  have hK1 := va_K.moved hvm.symm hK1
  obtain ⟨hP, hD⟩ := va_join (wr := [(nd, .inr (5, [.int nh, .int nl, .int nwa, .int nfr, .int (nI nwi), .ref r, .ref nt, .ref ns, .ref ib, .ref gs, .ref cs, .ref nu, .int 0, .int 2, .int (nI nad), .int (nI ncc), .int 0, .int 0])), (tr, .inr (10, [.int 1, .int (nI tso), .int (nI tg), .int (nI ts), .int (nI tpk), .int (nI tw), .int (nI te), .int (nI ((mn_4 + te) - 1)), .int (nI tm), .int 0, .int tsu, .int 1, .ref mm, .ref tb]))]) (w1 := [(r, .inr (6, [.int rh, .int rl, .ref st, .ref ck, .ref ck, .int 0, .int 1, .int 1, .int 0, .int 0, .ref rf, .int 0])), (st, .inr (8, [.ref ml, .null])), (ck, .inr (1, [.ref ce, .null])), (ce, .inl (cJ, 128, .inr (.inl fE2_7))), (mm, .inr (4, [.int (nI mi), .int (nI mt), .int (nI mg), .int (nI ms), .int sd, .null]))]) hP hD [3, 4, 5, 6, 2] [0, 1] rfl rfl (by decide +kernel) (by decide +kernel) hk1 hFc hP1 hD1
  generalize H1 = H at hP hS ⊢
  replace hP : va_P (dC, dI) vwCl [(nd, .inr (5, [.int nh, .int nl, .int nwa, .int nfr, .int (nI nwi), .ref r, .ref nt, .ref ns, .ref ib, .ref gs, .ref cs, .ref nu, .int 0, .int 2, .int (nI nad), .int (nI ncc), .int 0, .int 0])), (tr, .inr (10, [.int 1, .int (nI tso), .int (nI tg), .int (nI ts), .int (nI tpk), .int (nI tw), .int (nI te), .int (nI ((mn_4 + te) - 1)), .int (nI tm), .int 0, .int tsu, .int 1, .ref mm, .ref tb])), (r, .inr (6, [.int rh, .int rl, .ref st, .ref ck, .ref ck, .int 0, .int 1, .int 1, .int 0, .int 0, .ref rf, .int 0])), (st, .inr (8, [.ref ml, .null])), (ck, .inr (1, [.ref ce, .null])), (ce, .inl (cJ, 128, .inr (.inl fE2_7))), (mm, .inr (4, [.int (nI mi), .int (nI mt), .int (nI mg), .int (nI ms), .int sd, .null]))] H := hP
  replace hD : va_D A [(nd, .inr (5, [.int nh, .int nl, .int nwa, .int nfr, .int (nI nwi), .ref r, .ref nt, .ref ns, .ref ib, .ref gs, .ref cs, .ref nu, .int 0, .int 2, .int (nI nad), .int (nI ncc), .int 0, .int 0])), (tr, .inr (10, [.int 1, .int (nI tso), .int (nI tg), .int (nI ts), .int (nI tpk), .int (nI tw), .int (nI te), .int (nI ((mn_4 + te) - 1)), .int (nI tm), .int 0, .int tsu, .int 1, .ref mm, .ref tb])), (r, .inr (6, [.int rh, .int rl, .ref st, .ref ck, .ref ck, .int 0, .int 1, .int 1, .int 0, .int 0, .ref rf, .int 0])), (st, .inr (8, [.ref ml, .null])), (ck, .inr (1, [.ref ce, .null])), (ce, .inl (cJ, 128, .inr (.inl fE2_7))), (mm, .inr (4, [.int (nI mi), .int (nI mt), .int (nI mg), .int (nI ms), .int sd, .null]))] := hD
  clear hw
  rw [show ((nI ((mn_4 + te) - 1)) : Int32) = (nI (te + mn_4 - 1)) from congrArg nI (show ((mn_4 + te) - 1) = (te + mn_4 - 1) from by omega)] at hP hD
  have hP9 := hP.sub (ws' := [(nd, .inr (5, [.int nh, .int nl, .int nwa, .int nfr, .int (nI nwi), .ref r, .ref nt, .ref ns, .ref ib, .ref gs, .ref cs, .ref nu, .int 0, .int 2, .int (nI nad), .int (nI ncc), .int 0, .int 0])), (tr, .inr (10, [.int 1, .int (nI tso), .int (nI tg), .int (nI ts), .int (nI tpk), .int (nI tw), .int (nI te), .int (nI (te + mn_4 - 1)), .int (nI tm), .int 0, .int tsu, .int 1, .ref mm, .ref tb])), (mm, .inr (4, [.int (nI mi), .int (nI mt), .int (nI mg), .int (nI ms), .int sd, .null])), (r, .inr (6, [.int rh, .int rl, .ref st, .ref ck, .ref ck, .int 0, .int 1, .int 1, .int 0, .int 0, .ref rf, .int 0])), (st, .inr (8, [.ref ml, .null])), (ck, .inr (1, [.ref ce, .null])), (ce, .inl (cJ, 128, .inr (.inl fE2_7)))]) [0, 1, 6, 2, 3, 4, 5] rfl
  have hD9 := hD.sub (ws' := [(nd, .inr (5, [.int nh, .int nl, .int nwa, .int nfr, .int (nI nwi), .ref r, .ref nt, .ref ns, .ref ib, .ref gs, .ref cs, .ref nu, .int 0, .int 2, .int (nI nad), .int (nI ncc), .int 0, .int 0])), (tr, .inr (10, [.int 1, .int (nI tso), .int (nI tg), .int (nI ts), .int (nI tpk), .int (nI tw), .int (nI te), .int (nI (te + mn_4 - 1)), .int (nI tm), .int 0, .int tsu, .int 1, .ref mm, .ref tb])), (mm, .inr (4, [.int (nI mi), .int (nI mt), .int (nI mg), .int (nI ms), .int sd, .null])), (r, .inr (6, [.int rh, .int rl, .ref st, .ref ck, .ref ck, .int 0, .int 1, .int 1, .int 0, .int 0, .ref rf, .int 0])), (st, .inr (8, [.ref ml, .null])), (ck, .inr (1, [.ref ce, .null])), (ce, .inl (cJ, 128, .inr (.inl fE2_7)))]) [0, 1, 6, 2, 3, 4, 5] (by decide +kernel) rfl
  have hK9 := hK.sub (tys' := [(cJ, .long)]) [0] rfl
  exact W.vret hx hb hr (fun t ht hW => ⟨⟨(), rfl, trivial, ⟨mn_4, fE2_7, by rw [ht]; exact hP9, va_K.moved hW.alike hK9, hD9, by omega, hlo_7.trans (congrArg nI (by omega)), hhi_7⟩⟩, hS.F ht⟩) hS.2.2 dX4_clearNext_70

noncomputable def tl_c_gotFrom_n : List Cond := wsX40
noncomputable def v_c_gotFrom_n : List Cond := .code yX4_gotFrom cX4_gotFrom 6 (some (.object "ClaimBus$Transport")) :: ([.fieldLink RX4 34 "ClaimBus$Node" "gets" "[LClaimBus$Transport;"] ++ tl_c_gotFrom_n)
theorem it_c_gotFrom_n : ∀ w ∈ tl_c_gotFrom_n, w ∈ v_c_gotFrom_n := fun w h => List.mem_cons_of_mem _ (List.mem_append_right _ h)
theorem in_c_gotFrom_n_X4 : ∀ w ∈ wsX40, w ∈ v_c_gotFrom_n := fun w h => it_c_gotFrom_n w (h)
theorem gt_c_gotFrom_n : ∀ w ∈ tl_c_gotFrom_n, goodWord w = true := gw_wsX40
theorem gw_c_gotFrom_n : ∀ w ∈ v_c_gotFrom_n, goodWord w = true := List.forall_mem_cons.mpr ⟨by decide +kernel, List.forall_mem_append.mpr ⟨List.all_eq_true.mp (by decide +kernel), gt_c_gotFrom_n⟩⟩
set_option maxHeartbeats 4000000 in
set_option maxRecDepth 100000 in
theorem c_gotFrom_n (l : Launch) (dC : Nat → ClassId) (dI : Nat → Nat → Nat) (nd : Nat) (nh : Int32) (nl : Int32) (nwa : Int32) (nfr : Int32) (nwi : Nat) (r : Nat) (nt : Nat) (ns : Nat) (ib : Nat) (gs : Nat) (cs : Nat) (nu : Nat) (nad : Nat) (ncc : Nat) (cT : ClassId) (fg : Nat → Option Nat) (p0 : Nat) (sz : Nat) (g0 : fg 0 = none) (g1 : fg 1 = none) (g2 : fg 2 = none) : Met l yX4_gotFrom v_c_gotFrom_n ({ frames := 0, cells := 0, slots := 0, locals := 0 }) (va_Pc [.ref nd, .int (nI p0)] (fun U => U.heap.size = sz ∧ va_P (dC, dI) vwCl [(nd, .inr (5, [.int nh, .int nl, .int nwa, .int nfr, .int (nI nwi), .ref r, .ref nt, .ref ns, .ref ib, .ref gs, .ref cs, .ref nu, .int 0, .int 2, .int (nI nad), .int (nI ncc), .int 0, .int 0])), (gs, .inl (cT, 3, .inr (.inr (.inr (.inr fg)))))] U.heap ∧ va_K (dC, dI) vwCl [(cT, (.object RX9))] U ∧ va_D (fun _ => True) [(nd, .inr (5, [.int nh, .int nl, .int nwa, .int nfr, .int (nI nwi), .ref r, .ref nt, .ref ns, .ref ib, .ref gs, .ref cs, .ref nu, .int 0, .int 2, .int (nI nad), .int (nI ncc), .int 0, .int 0])), (gs, .inl (cT, 3, .inr (.inr (.inr (.inr fg)))))] ∧ ev U)) (va_Qq (fun (r : Option Nat) (_ : Unit) => r = none) (fun (_ : Unit) (_ : State) => True) (va_A [] sz)) 0 0 (va_A [] sz) := by
  refine Met.ofW (cc := cX4_gotFrom) (maxL := 6) (ret := (some (.object "ClaimBus$Transport"))) (by decide) rfl ?_
  intro p e s m args below meth c s₁ B hml hv
  obtain ⟨rfl, hsz, hP, hK, hD0, hE⟩ := hv
  have hx := B.exec
  have hb := B.bytes
  have hr := B.returns
  have hts := atoms_spec (ws := v_c_gotFrom_n) B.pre
  have hown : s.vm.findClass RX4 = some m.cls := findClass_of_methodNamed B.named
  have hlocks := B.notSynchronized
  subst hsz
  have hD := hD0
  generalize hAe : va_A [] s.heap.size = A
  have hA : ∀ q : Nat, s.heap.size ≤ q → A q := fun q h => by rw [← hAe]; exact Or.inr h
  have hS : va_S A s.heap s.heap [] := va_S.rf
  replace hP : va_P (dC, dI) vwCl [(nd, .inr (5, [.int nh, .int nl, .int nwa, .int nfr, .int (nI nwi), .ref r, .ref nt, .ref ns, .ref ib, .ref gs, .ref cs, .ref nu, .int 0, .int 2, .int (nI nad), .int (nI ncc), .int 0, .int 0])), (gs, .inl (cT, 3, .inr (.inr (.inr (.inr fg)))))] s.heap := hP
  have hl := lv_entry ([.ref nd, .int (nI p0)]) (n := 6) (Nat.le_of_ble_eq_true rfl)
  rw [lg_entry_eq]
  generalize (lg_sl ([.ref nd, .int (nI p0)]) ++ List.replicate (6 - (lg_sl ([.ref nd, .int (nI p0)])).length) Slot.unset).toArray = ls at hl ⊢
  replace hl : lv_has ls 6 [(0, .ref nd), (1, .int (nI p0))] := hl
  obtain ⟨H, hH⟩ : ∃ z : Heap, z = s.heap := ⟨_, rfl⟩
  rw [← hH]
  replace hS : va_S A s.heap H [] := by rw [hH]; exact va_S.rf
  replace hP : va_P (dC, dI) vwCl [(nd, .inr (5, [.int nh, .int nl, .int nwa, .int nfr, .int (nI nwi), .ref r, .ref nt, .ref ns, .ref ib, .ref gs, .ref cs, .ref nu, .int 0, .int 2, .int (nI nad), .int (nI ncc), .int 0, .int 0])), (gs, .inl (cT, 3, .inr (.inr (.inr (.inr fg)))))] H := by rw [hH]; exact hP
  clear hH
  refine lv_aload_n hx hb dX4_gotFrom_0 rfl (lv_at hl 0 rfl) ?_
  refine va_get (D := (dC, dI)) (ci := 5) (v := .ref gs) (C := RX4) (T := TX4) (N := 18) hx hb hts in_c_gotFrom_n_X4 hown hK hP 0 rfl rfl 9 (by decide) (hts (.fieldLink RX4 34 "ClaimBus$Node" "gets" "[LClaimBus$Transport;") (List.mem_of_getElem? (i := 1) rfl)) (fun _ h9 => h9) rfl dX4_gotFrom_1 ?_
  refine lv_astore_n (lv' := [(2, .ref gs), (0, .ref nd), (1, .int (nI p0))]) hx hb dX4_gotFrom_4 rfl hl (by decide) rfl (fun ls hl => ?_)
  refine lv_aload_n hx hb dX4_gotFrom_5 rfl (lv_at hl 0 rfl) ?_
  refine va_alen hx hb hK hP 1 0 rfl rfl (v := 3) rfl dX4_gotFrom_6 ?_
  refine lv_istore_n (lv' := [(3, .int 3), (2, .ref gs), (0, .ref nd), (1, .int (nI p0))]) hx hb dX4_gotFrom_7 rfl hl (by decide) rfl (fun ls hl => ?_)
  refine lv_iconst (v := 0) hx hb dX4_gotFrom_8 (by decide) ?_
  refine lv_istore (lv' := [(4, .int 0), (3, .int 3), (2, .ref gs), (0, .ref nd), (1, .int (nI p0))]) hx hb dX4_gotFrom_9 hl (by decide) rfl (fun ls hl => ?_)
  refine lv_iload hx hb dX4_gotFrom_11 (lv_at hl 0 rfl) ?_
  refine lv_iload_n hx hb dX4_gotFrom_13 rfl (lv_at hl 1 rfl) ?_
  refine lv_icmp_ge (tgt := 54) hx hb dX4_gotFrom_14 (by decide) (fun c_1 => ?_) (fun c_1 => ?_)
  · exact absurd c_1 (by decide)
  refine lv_aload_n hx hb dX4_gotFrom_17 rfl (lv_at hl 2 rfl) ?_
  refine lv_iload hx hb dX4_gotFrom_18 (lv_at hl 0 rfl) ?_
  refine va_aldq hx hb hK hP 1 0 rfl rfl (vp_in_nI (n := 0) (by omega) (by omega)) dX4_gotFrom_20 ?_
  refine W.eq (g2 := F0 m 21 ls [.null]) (by rw [(show Int32.toNatClampNeg (0 : Int32) = 0 by decide), g0]; rfl) ?_
  refine lv_astoreN (lv' := [(5, .null), (4, .int 0), (3, .int 3), (2, .ref gs), (0, .ref nd), (1, .int (nI p0))]) hx hb dX4_gotFrom_21 hl (by decide) rfl (fun ls hl => ?_)
  refine lv_aloadN hx hb dX4_gotFrom_23 (lv_at hl 0 rfl) ?_
  refine lv_ifnullN (tgt := 48) hx hb dX4_gotFrom_25 (by decide) ?_
  refine lv_iinc (v := 1) (lv' := [(4, .int 1), (5, .null), (3, .int 3), (2, .ref gs), (0, .ref nd), (1, .int (nI p0))]) hx hb dX4_gotFrom_48 hl (k := 1) rfl (by decide) (by decide) rfl (fun ls hl => ?_)
  refine lv_goto (tgt := 11) hx hb dX4_gotFrom_51 (by decide) ?_
  refine lv_iload hx hb dX4_gotFrom_11 (lv_at hl 0 rfl) ?_
  refine lv_iload_n hx hb dX4_gotFrom_13 rfl (lv_at hl 2 rfl) ?_
  refine lv_icmp_ge (tgt := 54) hx hb dX4_gotFrom_14 (by decide) (fun c_2 => ?_) (fun c_2 => ?_)
  · exact absurd c_2 (by decide)
  refine lv_aload_n hx hb dX4_gotFrom_17 rfl (lv_at hl 3 rfl) ?_
  refine lv_iload hx hb dX4_gotFrom_18 (lv_at hl 0 rfl) ?_
  refine va_aldq hx hb hK hP 1 0 rfl rfl (vp_in_nI (n := 1) (by omega) (by omega)) dX4_gotFrom_20 ?_
  refine W.eq (g2 := F0 m 21 ls [.null]) (by rw [(show Int32.toNatClampNeg (1 : Int32) = 1 by decide), g1]; rfl) ?_
  refine lv_astoreN (lv' := [(5, .null), (4, .int 1), (3, .int 3), (2, .ref gs), (0, .ref nd), (1, .int (nI p0))]) hx hb dX4_gotFrom_21 hl (by decide) rfl (fun ls hl => ?_)
  refine lv_aloadN hx hb dX4_gotFrom_23 (lv_at hl 0 rfl) ?_
  refine lv_ifnullN (tgt := 48) hx hb dX4_gotFrom_25 (by decide) ?_
  refine lv_iinc (v := 2) (lv' := [(4, .int 2), (5, .null), (3, .int 3), (2, .ref gs), (0, .ref nd), (1, .int (nI p0))]) hx hb dX4_gotFrom_48 hl (k := 1) rfl (by decide) (by decide) rfl (fun ls hl => ?_)
  refine lv_goto (tgt := 11) hx hb dX4_gotFrom_51 (by decide) ?_
  refine lv_iload hx hb dX4_gotFrom_11 (lv_at hl 0 rfl) ?_
  refine lv_iload_n hx hb dX4_gotFrom_13 rfl (lv_at hl 2 rfl) ?_
  refine lv_icmp_ge (tgt := 54) hx hb dX4_gotFrom_14 (by decide) (fun c_3 => ?_) (fun c_3 => ?_)
  · exact absurd c_3 (by decide)
  refine lv_aload_n hx hb dX4_gotFrom_17 rfl (lv_at hl 3 rfl) ?_
  refine lv_iload hx hb dX4_gotFrom_18 (lv_at hl 0 rfl) ?_
  refine va_aldq hx hb hK hP 1 0 rfl rfl (vp_in_nI (n := 2) (by omega) (by omega)) dX4_gotFrom_20 ?_
  refine W.eq (g2 := F0 m 21 ls [.null]) (by rw [(show Int32.toNatClampNeg (2 : Int32) = 2 by decide), g2]; rfl) ?_
  refine lv_astoreN (lv' := [(5, .null), (4, .int 2), (3, .int 3), (2, .ref gs), (0, .ref nd), (1, .int (nI p0))]) hx hb dX4_gotFrom_21 hl (by decide) rfl (fun ls hl => ?_)
  refine lv_aloadN hx hb dX4_gotFrom_23 (lv_at hl 0 rfl) ?_
  refine lv_ifnullN (tgt := 48) hx hb dX4_gotFrom_25 (by decide) ?_
  refine lv_iinc (v := 3) (lv' := [(4, .int 3), (5, .null), (3, .int 3), (2, .ref gs), (0, .ref nd), (1, .int (nI p0))]) hx hb dX4_gotFrom_48 hl (k := 1) rfl (by decide) (by decide) rfl (fun ls hl => ?_)
  refine lv_goto (tgt := 11) hx hb dX4_gotFrom_51 (by decide) ?_
  refine lv_iload hx hb dX4_gotFrom_11 (lv_at hl 0 rfl) ?_
  refine lv_iload_n hx hb dX4_gotFrom_13 rfl (lv_at hl 2 rfl) ?_
  refine lv_icmp_ge (tgt := 54) hx hb dX4_gotFrom_14 (by decide) (fun c_4 => ?_) (fun c_4 => ?_)
  rotate_left
  · exact absurd (by decide) c_4
  refine lv_null hx hb dX4_gotFrom_54 ?_
  exact W.aret (v := .null) hx hb hr (Or.inl ⟨_, rfl⟩) (Or.inl rfl) (fun t ht hW => ⟨⟨none, (), rfl, rfl, trivial⟩, hS.F ht⟩) hS.2.2 dX4_gotFrom_55

noncomputable def tl_c_gotFrom_c : List Cond := wsX40 ++ (wsX90)
noncomputable def v_c_gotFrom_c : List Cond := .code yX4_gotFrom cX4_gotFrom 6 (some (.object "ClaimBus$Transport")) :: ([.fieldLink RX4 34 "ClaimBus$Node" "gets" "[LClaimBus$Transport;", .fieldLink RX4 93 "ClaimBus$Transport" "open" "Z"] ++ tl_c_gotFrom_c)
theorem it_c_gotFrom_c : ∀ w ∈ tl_c_gotFrom_c, w ∈ v_c_gotFrom_c := fun w h => List.mem_cons_of_mem _ (List.mem_append_right _ h)
theorem in_c_gotFrom_c_X4 : ∀ w ∈ wsX40, w ∈ v_c_gotFrom_c := fun w h => it_c_gotFrom_c w (List.mem_append_left _ h)
theorem in_c_gotFrom_c_X9 : ∀ w ∈ wsX90, w ∈ v_c_gotFrom_c := fun w h => it_c_gotFrom_c w (List.mem_append_right _ (h))
theorem gt_c_gotFrom_c : ∀ w ∈ tl_c_gotFrom_c, goodWord w = true := List.forall_mem_append.mpr ⟨gw_wsX40, gw_wsX90⟩
theorem gw_c_gotFrom_c : ∀ w ∈ v_c_gotFrom_c, goodWord w = true := List.forall_mem_cons.mpr ⟨by decide +kernel, List.forall_mem_append.mpr ⟨List.all_eq_true.mp (by decide +kernel), gt_c_gotFrom_c⟩⟩
set_option maxHeartbeats 4000000 in
set_option maxRecDepth 100000 in
theorem c_gotFrom_c (l : Launch) (dC : Nat → ClassId) (dI : Nat → Nat → Nat) (nd : Nat) (nh : Int32) (nl : Int32) (nwa : Int32) (nfr : Int32) (nwi : Nat) (r : Nat) (nt : Nat) (ns : Nat) (ib : Nat) (gs : Nat) (cs : Nat) (nu : Nat) (nad : Nat) (ncc : Nat) (cT : ClassId) (fg : Nat → Option Nat) (tr : Nat) (j1 : Int32) (j2 : Int32) (j3 : Int32) (j4 : Int32) (j5 : Int32) (j6 : Int32) (j7 : Int32) (j8 : Int32) (j9 : Int32) (j10 : Int32) (j11 : Int32) (jw : Nat) (tb : Nat) (p0 : Nat) (sz : Nat) (g0 : fg 0 = some tr) (g1 : fg 1 = none) (g2 : fg 2 = none) : Met l yX4_gotFrom v_c_gotFrom_c ({ frames := 0, cells := 0, slots := 0, locals := 0 }) (va_Pc [.ref nd, .int (nI p0)] (fun U => U.heap.size = sz ∧ va_P (dC, dI) vwCl [(nd, .inr (5, [.int nh, .int nl, .int nwa, .int nfr, .int (nI nwi), .ref r, .ref nt, .ref ns, .ref ib, .ref gs, .ref cs, .ref nu, .int 0, .int 2, .int (nI nad), .int (nI ncc), .int 0, .int 0])), (gs, .inl (cT, 3, .inr (.inr (.inr (.inr fg))))), (tr, .inr (10, [.int 0, .int j1, .int j2, .int j3, .int j4, .int j5, .int j6, .int j7, .int j8, .int j9, .int j10, .int j11, .ref jw, .ref tb]))] U.heap ∧ va_K (dC, dI) vwCl [(cT, (.object RX9))] U ∧ va_D (fun _ => True) [(nd, .inr (5, [.int nh, .int nl, .int nwa, .int nfr, .int (nI nwi), .ref r, .ref nt, .ref ns, .ref ib, .ref gs, .ref cs, .ref nu, .int 0, .int 2, .int (nI nad), .int (nI ncc), .int 0, .int 0])), (gs, .inl (cT, 3, .inr (.inr (.inr (.inr fg))))), (tr, .inr (10, [.int 0, .int j1, .int j2, .int j3, .int j4, .int j5, .int j6, .int j7, .int j8, .int j9, .int j10, .int j11, .ref jw, .ref tb]))] ∧ ev U)) (va_Qq (fun (r : Option Nat) (_ : Unit) => r = none) (fun (_ : Unit) (_ : State) => True) (va_A [] sz)) 0 0 (va_A [] sz) := by
  refine Met.ofW (cc := cX4_gotFrom) (maxL := 6) (ret := (some (.object "ClaimBus$Transport"))) (by decide) rfl ?_
  intro p e s m args below meth c s₁ B hml hv
  obtain ⟨rfl, hsz, hP, hK, hD0, hE⟩ := hv
  have hx := B.exec
  have hb := B.bytes
  have hr := B.returns
  have hts := atoms_spec (ws := v_c_gotFrom_c) B.pre
  have hown : s.vm.findClass RX4 = some m.cls := findClass_of_methodNamed B.named
  have hlocks := B.notSynchronized
  subst hsz
  have hD := hD0
  generalize hAe : va_A [] s.heap.size = A
  have hA : ∀ q : Nat, s.heap.size ≤ q → A q := fun q h => by rw [← hAe]; exact Or.inr h
  have hS : va_S A s.heap s.heap [] := va_S.rf
  replace hP : va_P (dC, dI) vwCl [(nd, .inr (5, [.int nh, .int nl, .int nwa, .int nfr, .int (nI nwi), .ref r, .ref nt, .ref ns, .ref ib, .ref gs, .ref cs, .ref nu, .int 0, .int 2, .int (nI nad), .int (nI ncc), .int 0, .int 0])), (gs, .inl (cT, 3, .inr (.inr (.inr (.inr fg))))), (tr, .inr (10, [.int 0, .int j1, .int j2, .int j3, .int j4, .int j5, .int j6, .int j7, .int j8, .int j9, .int j10, .int j11, .ref jw, .ref tb]))] s.heap := hP
  have hl := lv_entry ([.ref nd, .int (nI p0)]) (n := 6) (Nat.le_of_ble_eq_true rfl)
  rw [lg_entry_eq]
  generalize (lg_sl ([.ref nd, .int (nI p0)]) ++ List.replicate (6 - (lg_sl ([.ref nd, .int (nI p0)])).length) Slot.unset).toArray = ls at hl ⊢
  replace hl : lv_has ls 6 [(0, .ref nd), (1, .int (nI p0))] := hl
  obtain ⟨H, hH⟩ : ∃ z : Heap, z = s.heap := ⟨_, rfl⟩
  rw [← hH]
  replace hS : va_S A s.heap H [] := by rw [hH]; exact va_S.rf
  replace hP : va_P (dC, dI) vwCl [(nd, .inr (5, [.int nh, .int nl, .int nwa, .int nfr, .int (nI nwi), .ref r, .ref nt, .ref ns, .ref ib, .ref gs, .ref cs, .ref nu, .int 0, .int 2, .int (nI nad), .int (nI ncc), .int 0, .int 0])), (gs, .inl (cT, 3, .inr (.inr (.inr (.inr fg))))), (tr, .inr (10, [.int 0, .int j1, .int j2, .int j3, .int j4, .int j5, .int j6, .int j7, .int j8, .int j9, .int j10, .int j11, .ref jw, .ref tb]))] H := by rw [hH]; exact hP
  clear hH
  refine lv_aload_n hx hb dX4_gotFrom_0 rfl (lv_at hl 0 rfl) ?_
  refine va_get (D := (dC, dI)) (ci := 5) (v := .ref gs) (C := RX4) (T := TX4) (N := 18) hx hb hts in_c_gotFrom_c_X4 hown hK hP 0 rfl rfl 9 (by decide) (hts (.fieldLink RX4 34 "ClaimBus$Node" "gets" "[LClaimBus$Transport;") (List.mem_of_getElem? (i := 1) rfl)) (fun _ h9 => h9) rfl dX4_gotFrom_1 ?_
  refine lv_astore_n (lv' := [(2, .ref gs), (0, .ref nd), (1, .int (nI p0))]) hx hb dX4_gotFrom_4 rfl hl (by decide) rfl (fun ls hl => ?_)
  refine lv_aload_n hx hb dX4_gotFrom_5 rfl (lv_at hl 0 rfl) ?_
  refine va_alen hx hb hK hP 1 0 rfl rfl (v := 3) rfl dX4_gotFrom_6 ?_
  refine lv_istore_n (lv' := [(3, .int 3), (2, .ref gs), (0, .ref nd), (1, .int (nI p0))]) hx hb dX4_gotFrom_7 rfl hl (by decide) rfl (fun ls hl => ?_)
  refine lv_iconst (v := 0) hx hb dX4_gotFrom_8 (by decide) ?_
  refine lv_istore (lv' := [(4, .int 0), (3, .int 3), (2, .ref gs), (0, .ref nd), (1, .int (nI p0))]) hx hb dX4_gotFrom_9 hl (by decide) rfl (fun ls hl => ?_)
  refine lv_iload hx hb dX4_gotFrom_11 (lv_at hl 0 rfl) ?_
  refine lv_iload_n hx hb dX4_gotFrom_13 rfl (lv_at hl 1 rfl) ?_
  refine lv_icmp_ge (tgt := 54) hx hb dX4_gotFrom_14 (by decide) (fun c_1 => ?_) (fun c_1 => ?_)
  · exact absurd c_1 (by decide)
  refine lv_aload_n hx hb dX4_gotFrom_17 rfl (lv_at hl 2 rfl) ?_
  refine lv_iload hx hb dX4_gotFrom_18 (lv_at hl 0 rfl) ?_
  refine va_aldq hx hb hK hP 1 0 rfl rfl (vp_in_nI (n := 0) (by omega) (by omega)) dX4_gotFrom_20 ?_
  refine W.eq (g2 := F0 m 21 ls [.ref tr]) (by rw [(show Int32.toNatClampNeg (0 : Int32) = 0 by decide), g0]; rfl) ?_
  refine lv_astore (lv' := [(5, .ref tr), (4, .int 0), (3, .int 3), (2, .ref gs), (0, .ref nd), (1, .int (nI p0))]) hx hb dX4_gotFrom_21 hl (by decide) rfl (fun ls hl => ?_)
  refine lv_aload hx hb dX4_gotFrom_23 (lv_at hl 0 rfl) ?_
  refine lv_ifnull hx hb dX4_gotFrom_25 ?_
  refine lv_aload hx hb dX4_gotFrom_28 (lv_at hl 0 rfl) ?_
  refine va_get (D := (dC, dI)) (ci := 10) (v := .int 0) (C := RX9) (T := TX9) (N := 14) hx hb hts in_c_gotFrom_c_X9 hown hK hP 2 rfl rfl 0 (by decide) (hts (.fieldLink RX4 93 "ClaimBus$Transport" "open" "Z") (List.mem_of_getElem? (i := 2) rfl)) (fun _ h9 => h9) rfl dX4_gotFrom_30 ?_
  refine lv_if_eq (tgt := 48) hx hb dX4_gotFrom_33 (by decide) (fun c_2 => ?_) (fun c_2 => ?_)
  rotate_left
  · exact absurd (by decide) c_2
  refine lv_iinc (v := 1) (lv' := [(4, .int 1), (5, .ref tr), (3, .int 3), (2, .ref gs), (0, .ref nd), (1, .int (nI p0))]) hx hb dX4_gotFrom_48 hl (k := 1) rfl (by decide) (by decide) rfl (fun ls hl => ?_)
  refine lv_goto (tgt := 11) hx hb dX4_gotFrom_51 (by decide) ?_
  refine lv_iload hx hb dX4_gotFrom_11 (lv_at hl 0 rfl) ?_
  refine lv_iload_n hx hb dX4_gotFrom_13 rfl (lv_at hl 2 rfl) ?_
  refine lv_icmp_ge (tgt := 54) hx hb dX4_gotFrom_14 (by decide) (fun c_3 => ?_) (fun c_3 => ?_)
  · exact absurd c_3 (by decide)
  refine lv_aload_n hx hb dX4_gotFrom_17 rfl (lv_at hl 3 rfl) ?_
  refine lv_iload hx hb dX4_gotFrom_18 (lv_at hl 0 rfl) ?_
  refine va_aldq hx hb hK hP 1 0 rfl rfl (vp_in_nI (n := 1) (by omega) (by omega)) dX4_gotFrom_20 ?_
  refine W.eq (g2 := F0 m 21 ls [.null]) (by rw [(show Int32.toNatClampNeg (1 : Int32) = 1 by decide), g1]; rfl) ?_
  refine lv_astoreN (lv' := [(5, .null), (4, .int 1), (3, .int 3), (2, .ref gs), (0, .ref nd), (1, .int (nI p0))]) hx hb dX4_gotFrom_21 hl (by decide) rfl (fun ls hl => ?_)
  refine lv_aloadN hx hb dX4_gotFrom_23 (lv_at hl 0 rfl) ?_
  refine lv_ifnullN (tgt := 48) hx hb dX4_gotFrom_25 (by decide) ?_
  refine lv_iinc (v := 2) (lv' := [(4, .int 2), (5, .null), (3, .int 3), (2, .ref gs), (0, .ref nd), (1, .int (nI p0))]) hx hb dX4_gotFrom_48 hl (k := 1) rfl (by decide) (by decide) rfl (fun ls hl => ?_)
  refine lv_goto (tgt := 11) hx hb dX4_gotFrom_51 (by decide) ?_
  refine lv_iload hx hb dX4_gotFrom_11 (lv_at hl 0 rfl) ?_
  refine lv_iload_n hx hb dX4_gotFrom_13 rfl (lv_at hl 2 rfl) ?_
  refine lv_icmp_ge (tgt := 54) hx hb dX4_gotFrom_14 (by decide) (fun c_4 => ?_) (fun c_4 => ?_)
  · exact absurd c_4 (by decide)
  refine lv_aload_n hx hb dX4_gotFrom_17 rfl (lv_at hl 3 rfl) ?_
  refine lv_iload hx hb dX4_gotFrom_18 (lv_at hl 0 rfl) ?_
  refine va_aldq hx hb hK hP 1 0 rfl rfl (vp_in_nI (n := 2) (by omega) (by omega)) dX4_gotFrom_20 ?_
  refine W.eq (g2 := F0 m 21 ls [.null]) (by rw [(show Int32.toNatClampNeg (2 : Int32) = 2 by decide), g2]; rfl) ?_
  refine lv_astoreN (lv' := [(5, .null), (4, .int 2), (3, .int 3), (2, .ref gs), (0, .ref nd), (1, .int (nI p0))]) hx hb dX4_gotFrom_21 hl (by decide) rfl (fun ls hl => ?_)
  refine lv_aloadN hx hb dX4_gotFrom_23 (lv_at hl 0 rfl) ?_
  refine lv_ifnullN (tgt := 48) hx hb dX4_gotFrom_25 (by decide) ?_
  refine lv_iinc (v := 3) (lv' := [(4, .int 3), (5, .null), (3, .int 3), (2, .ref gs), (0, .ref nd), (1, .int (nI p0))]) hx hb dX4_gotFrom_48 hl (k := 1) rfl (by decide) (by decide) rfl (fun ls hl => ?_)
  refine lv_goto (tgt := 11) hx hb dX4_gotFrom_51 (by decide) ?_
  refine lv_iload hx hb dX4_gotFrom_11 (lv_at hl 0 rfl) ?_
  refine lv_iload_n hx hb dX4_gotFrom_13 rfl (lv_at hl 2 rfl) ?_
  refine lv_icmp_ge (tgt := 54) hx hb dX4_gotFrom_14 (by decide) (fun c_5 => ?_) (fun c_5 => ?_)
  rotate_left
  · exact absurd (by decide) c_5
  refine lv_null hx hb dX4_gotFrom_54 ?_
  exact W.aret (v := .null) hx hb hr (Or.inl ⟨_, rfl⟩) (Or.inl rfl) (fun t ht hW => ⟨⟨none, (), rfl, rfl, trivial⟩, hS.F ht⟩) hS.2.2 dX4_gotFrom_55

noncomputable def tl_c_gotFrom_o : List Cond := wsX40 ++ (wsX90)
noncomputable def v_c_gotFrom_o : List Cond := .code yX4_gotFrom cX4_gotFrom 6 (some (.object "ClaimBus$Transport")) :: ([.fieldLink RX4 34 "ClaimBus$Node" "gets" "[LClaimBus$Transport;", .fieldLink RX4 93 "ClaimBus$Transport" "open" "Z", .fieldLink RX4 178 "ClaimBus$Transport" "source" "I"] ++ tl_c_gotFrom_o)
theorem it_c_gotFrom_o : ∀ w ∈ tl_c_gotFrom_o, w ∈ v_c_gotFrom_o := fun w h => List.mem_cons_of_mem _ (List.mem_append_right _ h)
theorem in_c_gotFrom_o_X4 : ∀ w ∈ wsX40, w ∈ v_c_gotFrom_o := fun w h => it_c_gotFrom_o w (List.mem_append_left _ h)
theorem in_c_gotFrom_o_X9 : ∀ w ∈ wsX90, w ∈ v_c_gotFrom_o := fun w h => it_c_gotFrom_o w (List.mem_append_right _ (h))
theorem gt_c_gotFrom_o : ∀ w ∈ tl_c_gotFrom_o, goodWord w = true := List.forall_mem_append.mpr ⟨gw_wsX40, gw_wsX90⟩
theorem gw_c_gotFrom_o : ∀ w ∈ v_c_gotFrom_o, goodWord w = true := List.forall_mem_cons.mpr ⟨by decide +kernel, List.forall_mem_append.mpr ⟨List.all_eq_true.mp (by decide +kernel), gt_c_gotFrom_o⟩⟩
set_option maxHeartbeats 4000000 in
set_option maxRecDepth 100000 in
theorem c_gotFrom_o (l : Launch) (dC : Nat → ClassId) (dI : Nat → Nat → Nat) (nd : Nat) (nh : Int32) (nl : Int32) (nwa : Int32) (nfr : Int32) (nwi : Nat) (r : Nat) (nt : Nat) (ns : Nat) (ib : Nat) (gs : Nat) (cs : Nat) (nu : Nat) (nad : Nat) (ncc : Nat) (cT : ClassId) (fg : Nat → Option Nat) (tr : Nat) (tso : Nat) (tg : Nat) (ts : Nat) (tp : Nat) (tw : Nat) (te : Nat) (tc : Nat) (tl : Nat) (tsu : Int32) (mm : Nat) (tb : Nat) (sz : Nat) (g0 : fg 0 = some tr) (g1 : fg 1 = none) (g2 : fg 2 = none) : Met l yX4_gotFrom v_c_gotFrom_o ({ frames := 0, cells := 0, slots := 0, locals := 0 }) (va_Pc [.ref nd, .int (nI tso)] (fun U => U.heap.size = sz ∧ va_P (dC, dI) vwCl [(nd, .inr (5, [.int nh, .int nl, .int nwa, .int nfr, .int (nI nwi), .ref r, .ref nt, .ref ns, .ref ib, .ref gs, .ref cs, .ref nu, .int 0, .int 2, .int (nI nad), .int (nI ncc), .int 0, .int 0])), (gs, .inl (cT, 3, .inr (.inr (.inr (.inr fg))))), (tr, .inr (10, [.int 1, .int (nI tso), .int (nI tg), .int (nI ts), .int (nI tp), .int (nI tw), .int (nI te), .int (nI tc), .int (nI tl), .int 0, .int tsu, .int 1, .ref mm, .ref tb]))] U.heap ∧ va_K (dC, dI) vwCl [(cT, (.object RX9))] U ∧ va_D (fun _ => True) [(nd, .inr (5, [.int nh, .int nl, .int nwa, .int nfr, .int (nI nwi), .ref r, .ref nt, .ref ns, .ref ib, .ref gs, .ref cs, .ref nu, .int 0, .int 2, .int (nI nad), .int (nI ncc), .int 0, .int 0])), (gs, .inl (cT, 3, .inr (.inr (.inr (.inr fg))))), (tr, .inr (10, [.int 1, .int (nI tso), .int (nI tg), .int (nI ts), .int (nI tp), .int (nI tw), .int (nI te), .int (nI tc), .int (nI tl), .int 0, .int tsu, .int 1, .ref mm, .ref tb]))] ∧ ev U)) (va_Qq (fun (r : Option Nat) (_ : Unit) => r = some tr) (fun (_ : Unit) (_ : State) => True) (va_A [] sz)) 0 0 (va_A [] sz) := by
  refine Met.ofW (cc := cX4_gotFrom) (maxL := 6) (ret := (some (.object "ClaimBus$Transport"))) (by decide) rfl ?_
  intro p e s m args below meth c s₁ B hml hv
  obtain ⟨rfl, hsz, hP, hK, hD0, hE⟩ := hv
  have hx := B.exec
  have hb := B.bytes
  have hr := B.returns
  have hts := atoms_spec (ws := v_c_gotFrom_o) B.pre
  have hown : s.vm.findClass RX4 = some m.cls := findClass_of_methodNamed B.named
  have hlocks := B.notSynchronized
  subst hsz
  have hD := hD0
  generalize hAe : va_A [] s.heap.size = A
  have hA : ∀ q : Nat, s.heap.size ≤ q → A q := fun q h => by rw [← hAe]; exact Or.inr h
  have hS : va_S A s.heap s.heap [] := va_S.rf
  replace hP : va_P (dC, dI) vwCl [(nd, .inr (5, [.int nh, .int nl, .int nwa, .int nfr, .int (nI nwi), .ref r, .ref nt, .ref ns, .ref ib, .ref gs, .ref cs, .ref nu, .int 0, .int 2, .int (nI nad), .int (nI ncc), .int 0, .int 0])), (gs, .inl (cT, 3, .inr (.inr (.inr (.inr fg))))), (tr, .inr (10, [.int 1, .int (nI tso), .int (nI tg), .int (nI ts), .int (nI tp), .int (nI tw), .int (nI te), .int (nI tc), .int (nI tl), .int 0, .int tsu, .int 1, .ref mm, .ref tb]))] s.heap := hP
  have hl := lv_entry ([.ref nd, .int (nI tso)]) (n := 6) (Nat.le_of_ble_eq_true rfl)
  rw [lg_entry_eq]
  generalize (lg_sl ([.ref nd, .int (nI tso)]) ++ List.replicate (6 - (lg_sl ([.ref nd, .int (nI tso)])).length) Slot.unset).toArray = ls at hl ⊢
  replace hl : lv_has ls 6 [(0, .ref nd), (1, .int (nI tso))] := hl
  obtain ⟨H, hH⟩ : ∃ z : Heap, z = s.heap := ⟨_, rfl⟩
  rw [← hH]
  replace hS : va_S A s.heap H [] := by rw [hH]; exact va_S.rf
  replace hP : va_P (dC, dI) vwCl [(nd, .inr (5, [.int nh, .int nl, .int nwa, .int nfr, .int (nI nwi), .ref r, .ref nt, .ref ns, .ref ib, .ref gs, .ref cs, .ref nu, .int 0, .int 2, .int (nI nad), .int (nI ncc), .int 0, .int 0])), (gs, .inl (cT, 3, .inr (.inr (.inr (.inr fg))))), (tr, .inr (10, [.int 1, .int (nI tso), .int (nI tg), .int (nI ts), .int (nI tp), .int (nI tw), .int (nI te), .int (nI tc), .int (nI tl), .int 0, .int tsu, .int 1, .ref mm, .ref tb]))] H := by rw [hH]; exact hP
  clear hH
  refine lv_aload_n hx hb dX4_gotFrom_0 rfl (lv_at hl 0 rfl) ?_
  refine va_get (D := (dC, dI)) (ci := 5) (v := .ref gs) (C := RX4) (T := TX4) (N := 18) hx hb hts in_c_gotFrom_o_X4 hown hK hP 0 rfl rfl 9 (by decide) (hts (.fieldLink RX4 34 "ClaimBus$Node" "gets" "[LClaimBus$Transport;") (List.mem_of_getElem? (i := 1) rfl)) (fun _ h9 => h9) rfl dX4_gotFrom_1 ?_
  refine lv_astore_n (lv' := [(2, .ref gs), (0, .ref nd), (1, .int (nI tso))]) hx hb dX4_gotFrom_4 rfl hl (by decide) rfl (fun ls hl => ?_)
  refine lv_aload_n hx hb dX4_gotFrom_5 rfl (lv_at hl 0 rfl) ?_
  refine va_alen hx hb hK hP 1 0 rfl rfl (v := 3) rfl dX4_gotFrom_6 ?_
  refine lv_istore_n (lv' := [(3, .int 3), (2, .ref gs), (0, .ref nd), (1, .int (nI tso))]) hx hb dX4_gotFrom_7 rfl hl (by decide) rfl (fun ls hl => ?_)
  refine lv_iconst (v := 0) hx hb dX4_gotFrom_8 (by decide) ?_
  refine lv_istore (lv' := [(4, .int 0), (3, .int 3), (2, .ref gs), (0, .ref nd), (1, .int (nI tso))]) hx hb dX4_gotFrom_9 hl (by decide) rfl (fun ls hl => ?_)
  refine lv_iload hx hb dX4_gotFrom_11 (lv_at hl 0 rfl) ?_
  refine lv_iload_n hx hb dX4_gotFrom_13 rfl (lv_at hl 1 rfl) ?_
  refine lv_icmp_ge (tgt := 54) hx hb dX4_gotFrom_14 (by decide) (fun c_1 => ?_) (fun c_1 => ?_)
  · exact absurd c_1 (by decide)
  refine lv_aload_n hx hb dX4_gotFrom_17 rfl (lv_at hl 2 rfl) ?_
  refine lv_iload hx hb dX4_gotFrom_18 (lv_at hl 0 rfl) ?_
  refine va_aldq hx hb hK hP 1 0 rfl rfl (vp_in_nI (n := 0) (by omega) (by omega)) dX4_gotFrom_20 ?_
  refine W.eq (g2 := F0 m 21 ls [.ref tr]) (by rw [(show Int32.toNatClampNeg (0 : Int32) = 0 by decide), g0]; rfl) ?_
  refine lv_astore (lv' := [(5, .ref tr), (4, .int 0), (3, .int 3), (2, .ref gs), (0, .ref nd), (1, .int (nI tso))]) hx hb dX4_gotFrom_21 hl (by decide) rfl (fun ls hl => ?_)
  refine lv_aload hx hb dX4_gotFrom_23 (lv_at hl 0 rfl) ?_
  refine lv_ifnull hx hb dX4_gotFrom_25 ?_
  refine lv_aload hx hb dX4_gotFrom_28 (lv_at hl 0 rfl) ?_
  refine va_get (D := (dC, dI)) (ci := 10) (v := .int 1) (C := RX9) (T := TX9) (N := 14) hx hb hts in_c_gotFrom_o_X9 hown hK hP 2 rfl rfl 0 (by decide) (hts (.fieldLink RX4 93 "ClaimBus$Transport" "open" "Z") (List.mem_of_getElem? (i := 2) rfl)) (fun _ h9 => h9) rfl dX4_gotFrom_30 ?_
  refine lv_if_eq (tgt := 48) hx hb dX4_gotFrom_33 (by decide) (fun c_2 => ?_) (fun c_2 => ?_)
  · exact absurd c_2 (by decide)
  refine lv_aload hx hb dX4_gotFrom_36 (lv_at hl 0 rfl) ?_
  refine va_get (D := (dC, dI)) (ci := 10) (v := .int (nI tso)) (C := RX9) (T := TX9) (N := 14) hx hb hts in_c_gotFrom_o_X9 hown hK hP 2 rfl rfl 1 (by decide) (hts (.fieldLink RX4 178 "ClaimBus$Transport" "source" "I") (List.mem_of_getElem? (i := 3) rfl)) (fun _ h9 => h9) rfl dX4_gotFrom_38 ?_
  refine lv_iload_n hx hb dX4_gotFrom_41 rfl (lv_at hl 5 rfl) ?_
  refine lv_icmp_ne (tgt := 48) hx hb dX4_gotFrom_42 (by decide) (fun c_3 => ?_) (fun c_3 => ?_)
  · exact absurd rfl c_3
  refine lv_aload hx hb dX4_gotFrom_45 (lv_at hl 0 rfl) ?_
  exact W.aret (v := .ref tr) hx hb hr (Or.inl ⟨_, rfl⟩) (Or.inr ⟨_, rfl⟩) (fun t ht hW => ⟨⟨some tr, (), rfl, rfl, trivial⟩, hS.F ht⟩) hS.2.2 dX4_gotFrom_47

noncomputable def tl_c_placeFor_n : List Cond := wsX40 ++ (wsX90 ++ (v_c_gotFrom_n ++ (v_c_X9_init)))
noncomputable def v_c_placeFor_n : List Cond := .code yX4_placeFor cX4_placeFor 4 (some (.object "ClaimBus$Transport")) :: ([.initialized RX4, .methodLink RX4 276 yX4_gotFrom, .instanceMethod yX4_gotFrom, .selects RX4 yX4_gotFrom yX4_gotFrom, .fieldLink RX4 34 "ClaimBus$Node" "gets" "[LClaimBus$Transport;", .classLink RX4 32 RX9, .instantiable RX9 14, .initialized RX9, .instanceMethod yX9_init, .fieldLink RX4 93 "ClaimBus$Transport" "open" "Z"] ++ tl_c_placeFor_n)
theorem it_c_placeFor_n : ∀ w ∈ tl_c_placeFor_n, w ∈ v_c_placeFor_n := fun w h => List.mem_cons_of_mem _ (List.mem_append_right _ h)
theorem in_c_placeFor_n_X4 : ∀ w ∈ wsX40, w ∈ v_c_placeFor_n := fun w h => it_c_placeFor_n w (List.mem_append_left _ h)
theorem in_c_placeFor_n_X9 : ∀ w ∈ wsX90, w ∈ v_c_placeFor_n := fun w h => it_c_placeFor_n w (List.mem_append_right _ (List.mem_append_left _ h))
theorem ic_c_placeFor_n_c_gotFrom_n : ∀ w ∈ v_c_gotFrom_n, w ∈ v_c_placeFor_n := fun w h => it_c_placeFor_n w (List.mem_append_right _ (List.mem_append_right _ (List.mem_append_left _ h)))
theorem ic_c_placeFor_n_c_X9_init : ∀ w ∈ v_c_X9_init, w ∈ v_c_placeFor_n := fun w h => it_c_placeFor_n w (List.mem_append_right _ (List.mem_append_right _ (List.mem_append_right _ (h))))
theorem gt_c_placeFor_n : ∀ w ∈ tl_c_placeFor_n, goodWord w = true := List.forall_mem_append.mpr ⟨gw_wsX40, List.forall_mem_append.mpr ⟨gw_wsX90, List.forall_mem_append.mpr ⟨gw_c_gotFrom_n, gw_c_X9_init⟩⟩⟩
theorem gw_c_placeFor_n : ∀ w ∈ v_c_placeFor_n, goodWord w = true := List.forall_mem_cons.mpr ⟨by decide +kernel, List.forall_mem_append.mpr ⟨List.all_eq_true.mp (by decide +kernel), gt_c_placeFor_n⟩⟩
theorem g_c_placeFor_n_c_gotFrom_n_276 : GoodIn v_c_placeFor_n (wsV RX4 276 RX4 yX4_gotFrom v_c_gotFrom_n) := goodIn_app (goodIn_r [.methodLink RX4 276 yX4_gotFrom, .instanceMethod yX4_gotFrom, .selects RX4 yX4_gotFrom yX4_gotFrom, .initialized RX4] [2, 3, 4, 1] (by decide +kernel) (by decide +kernel)) (fun w h => ⟨ic_c_placeFor_n_c_gotFrom_n w h, good_of_word (gw_c_gotFrom_n w h)⟩)
theorem g_c_placeFor_n_c_X9_init_282 : GoodIn v_c_placeFor_n v_c_X9_init := fun w h => ⟨ic_c_placeFor_n_c_X9_init w h, good_of_word (gw_c_X9_init w h)⟩
set_option maxHeartbeats 4000000 in
set_option maxRecDepth 100000 in
/-- Node.placeFor: the first time -/
theorem c_placeFor_n (l : Launch) (dC : Nat → ClassId) (dI : Nat → Nat → Nat) (nd : Nat) (nh : Int32) (nl : Int32) (nwa : Int32) (nfr : Int32) (nwi : Nat) (r : Nat) (nt : Nat) (ns : Nat) (ib : Nat) (gs : Nat) (cs : Nat) (nu : Nat) (nad : Nat) (ncc : Nat) (cT : ClassId) (fg : Nat → Option Nat) (p0 : Nat) (sz : Nat) (g0 : fg 0 = none) (g1 : fg 1 = none) (g2 : fg 2 = none) : Met l yX4_placeFor v_c_placeFor_n ({ frames := 2, cells := 2, slots := 56, locals := 33 }) (va_Pc [.ref nd, .int (nI p0)] (fun U => U.heap.size = sz ∧ va_P (dC, dI) vwCl [(nd, .inr (5, [.int nh, .int nl, .int nwa, .int nfr, .int (nI nwi), .ref r, .ref nt, .ref ns, .ref ib, .ref gs, .ref cs, .ref nu, .int 0, .int 2, .int (nI nad), .int (nI ncc), .int 0, .int 0])), (gs, .inl (cT, 3, .inr (.inr (.inr (.inr fg)))))] U.heap ∧ va_K (dC, dI) vwCl [(cT, (.object RX9))] U ∧ va_D (fun _ => True) [(nd, .inr (5, [.int nh, .int nl, .int nwa, .int nfr, .int (nI nwi), .ref r, .ref nt, .ref ns, .ref ib, .ref gs, .ref cs, .ref nu, .int 0, .int 2, .int (nI nad), .int (nI ncc), .int 0, .int 0])), (gs, .inl (cT, 3, .inr (.inr (.inr (.inr fg)))))] ∧ ev U)) (va_Qr (fun _ : Unit => True) (fun (_ : Unit) (ra : Nat) (t : State) => ∃ (tb : Nat) (cB : ClassId) (fg2 : Nat → Option Nat) (fb2 : Nat → Int32), va_P (dC, dI) vwCl [(nd, .inr (5, [.int nh, .int nl, .int nwa, .int nfr, .int (nI nwi), .ref r, .ref nt, .ref ns, .ref ib, .ref gs, .ref cs, .ref nu, .int 0, .int 2, .int (nI nad), .int (nI ncc), .int 0, .int 0])), (gs, .inl (cT, 3, .inr (.inr (.inr (.inr fg2))))), (ra, .inr (10, [.int 0, .int 0, .int 0, .int 0, .int 0, .int 0, .int 1, .int 0, .int 0, .int 0, .int 0, .int 1, .null, .ref tb])), (tb, .inl (cB, 42, .inl fb2))] t.heap ∧ va_K (dC, dI) vwCl [(cT, (.object RX9)), (cB, .int)] t ∧ va_D (va_A [(nd, .inr (5, [.int nh, .int nl, .int nwa, .int nfr, .int (nI nwi), .ref r, .ref nt, .ref ns, .ref ib, .ref gs, .ref cs, .ref nu, .int 0, .int 2, .int (nI nad), .int (nI ncc), .int 0, .int 0])), (gs, .inl (cT, 3, .inr (.inr (.inr (.inr fg)))))] sz) [(nd, .inr (5, [.int nh, .int nl, .int nwa, .int nfr, .int (nI nwi), .ref r, .ref nt, .ref ns, .ref ib, .ref gs, .ref cs, .ref nu, .int 0, .int 2, .int (nI nad), .int (nI ncc), .int 0, .int 0])), (gs, .inl (cT, 3, .inr (.inr (.inr (.inr fg2))))), (ra, .inr (10, [.int 0, .int 0, .int 0, .int 0, .int 0, .int 0, .int 1, .int 0, .int 0, .int 0, .int 0, .int 1, .null, .ref tb])), (tb, .inl (cB, 42, .inl fb2))] ∧ (fg2 0 = some ra) ∧ (fg2 1 = none) ∧ (fg2 2 = none)) (va_A [(nd, .inr (5, [.int nh, .int nl, .int nwa, .int nfr, .int (nI nwi), .ref r, .ref nt, .ref ns, .ref ib, .ref gs, .ref cs, .ref nu, .int 0, .int 2, .int (nI nad), .int (nI ncc), .int 0, .int 0])), (gs, .inl (cT, 3, .inr (.inr (.inr (.inr fg)))))] sz)) 2 56 (va_A [(nd, .inr (5, [.int nh, .int nl, .int nwa, .int nfr, .int (nI nwi), .ref r, .ref nt, .ref ns, .ref ib, .ref gs, .ref cs, .ref nu, .int 0, .int 2, .int (nI nad), .int (nI ncc), .int 0, .int 0])), (gs, .inl (cT, 3, .inr (.inr (.inr (.inr fg)))))] sz) := by
  refine Met.ofW (cc := cX4_placeFor) (maxL := 4) (ret := (some (.object "ClaimBus$Transport"))) (by decide) rfl ?_
  intro p e s m args below meth c s₁ B hml hv
  obtain ⟨rfl, hsz, hP, hK, hD0, hE⟩ := hv
  have hx := B.exec
  have hb := B.bytes
  have hr := B.returns
  have hts := atoms_spec (ws := v_c_placeFor_n) B.pre
  have hown : s.vm.findClass RX4 = some m.cls := findClass_of_methodNamed B.named
  have hlocks := B.notSynchronized
  subst hsz
  have hD := hD0.self (sz := s.heap.size)
  generalize hAe : va_A [(nd, .inr (5, [.int nh, .int nl, .int nwa, .int nfr, .int (nI nwi), .ref r, .ref nt, .ref ns, .ref ib, .ref gs, .ref cs, .ref nu, .int 0, .int 2, .int (nI nad), .int (nI ncc), .int 0, .int 0])), (gs, .inl (cT, 3, .inr (.inr (.inr (.inr fg)))))] s.heap.size = A at hD ⊢
  have hA : ∀ q : Nat, s.heap.size ≤ q → A q := fun q h => by rw [← hAe]; exact Or.inr h
  have hS : va_S A s.heap s.heap [] := va_S.rf
  replace hP : va_P (dC, dI) vwCl [(nd, .inr (5, [.int nh, .int nl, .int nwa, .int nfr, .int (nI nwi), .ref r, .ref nt, .ref ns, .ref ib, .ref gs, .ref cs, .ref nu, .int 0, .int 2, .int (nI nad), .int (nI ncc), .int 0, .int 0])), (gs, .inl (cT, 3, .inr (.inr (.inr (.inr fg)))))] s.heap := hP
  have hl := lv_entry ([.ref nd, .int (nI p0)]) (n := 4) (Nat.le_of_ble_eq_true rfl)
  rw [lg_entry_eq]
  generalize (lg_sl ([.ref nd, .int (nI p0)]) ++ List.replicate (4 - (lg_sl ([.ref nd, .int (nI p0)])).length) Slot.unset).toArray = ls at hl ⊢
  replace hl : lv_has ls 4 [(0, .ref nd), (1, .int (nI p0))] := hl
  obtain ⟨H, hH⟩ : ∃ z : Heap, z = s.heap := ⟨_, rfl⟩
  rw [← hH]
  replace hS : va_S A s.heap H [] := by rw [hH]; exact va_S.rf
  replace hP : va_P (dC, dI) vwCl [(nd, .inr (5, [.int nh, .int nl, .int nwa, .int nfr, .int (nI nwi), .ref r, .ref nt, .ref ns, .ref ib, .ref gs, .ref cs, .ref nu, .int 0, .int 2, .int (nI nad), .int (nI ncc), .int 0, .int 0])), (gs, .inl (cT, 3, .inr (.inr (.inr (.inr fg)))))] H := by rw [hH]; exact hP
  clear hH
  refine lv_aload_n hx hb dX4_placeFor_0 rfl (lv_at hl 0 rfl) ?_
  refine lv_iload_n hx hb dX4_placeFor_1 rfl (lv_at hl 1 rfl) ?_
  have hPc := hP.sub (ws' := [(nd, .inr (5, [.int nh, .int nl, .int nwa, .int nfr, .int (nI nwi), .ref r, .ref nt, .ref ns, .ref ib, .ref gs, .ref cs, .ref nu, .int 0, .int 2, .int (nI nad), .int (nI ncc), .int 0, .int 0])), (gs, .inl (cT, 3, .inr (.inr (.inr (.inr fg)))))]) [0, 1] rfl
  have hDc := hD.sub (ws' := [(nd, .inr (5, [.int nh, .int nl, .int nwa, .int nfr, .int (nI nwi), .ref r, .ref nt, .ref ns, .ref ib, .ref gs, .ref cs, .ref nu, .int 0, .int 2, .int (nI nad), .int (nI ncc), .int 0, .int 0])), (gs, .inl (cT, 3, .inr (.inr (.inr (.inr fg)))))]) [0, 1] (by decide +kernel) rfl
  have hKc := hK.sub (tys' := [(cT, (.object RX9))]) [0] rfl
  have hFc := ro_free hS hA
  refine va_callq (va_runV (As := [.int (nI p0)]) (rest := []) ⟨hx, hb, hml, hown, hts⟩ (c_gotFrom_n l dC dI (nd) (nh) (nl) (nwa) (nfr) (nwi) (r) (nt) (ns) (ib) (gs) (cs) (nu) (nad) (ncc) (cT) (fg) (p0) H.size g0 g1 g2) (cwV 1 hts g_c_placeFor_n_c_gotFrom_n_276 rfl rfl rfl (by decide +kernel) ⟨Nat.le_of_ble_eq_true rfl, Nat.le_of_ble_eq_true rfl⟩) ⟨fun a U g mk q => by obtain ⟨q0, q1, qP, qK, qD, qE⟩ := q; exact ⟨q0, q1, qP, va_K.moved (u := U) (U := U.calling g mk a) (Vm.Alike.refl U.vm) qK, qD, ev.same (u := U) (U := U.calling g mk a) rfl qE⟩, va_recv hKc hPc (ci := 5) (q0 := 0) rfl rfl, fun U hU hW => ⟨rfl, by rw [hU], by rw [hU]; exact hPc, va_K.moved hW.alike hKc, hDc.weaken (fun _ _ _ _ => trivial), hE.warm hW⟩⟩ rfl rfl hl.1 rfl (lv_room (Nat.le_of_ble_eq_true rfl)) dX4_placeFor_2 ⟨Nat.le_of_ble_eq_true rfl, Nat.le_of_ble_eq_true rfl⟩) hS (fun q _ h => hFc q h) hFc (fun r_1 u t H1 locs ht hvm hw hB hz1 hk1 hS => ?_)
  clear hPc hDc hKc
  replace hP := ro_keep hP hk1
  generalize H1 = H at hP hS ⊢
  replace hP : va_P (dC, dI) vwCl [(nd, .inr (5, [.int nh, .int nl, .int nwa, .int nfr, .int (nI nwi), .ref r, .ref nt, .ref ns, .ref ib, .ref gs, .ref cs, .ref nu, .int 0, .int 2, .int (nI nad), .int (nI ncc), .int 0, .int 0])), (gs, .inl (cT, 3, .inr (.inr (.inr (.inr fg)))))] H := hP
  have hw := hw.symm
  subst hw
  refine W.eq (g2 := F0 m 5 ls [.null]) rfl ?_
  refine lv_astore_nN (lv' := [(2, .null), (0, .ref nd), (1, .int (nI p0))]) hx hb dX4_placeFor_5 rfl hl (by decide) rfl (fun ls hl => ?_)
  refine lv_iconst (v := 0) hx hb dX4_placeFor_6 (by decide) ?_
  refine lv_istore_n (lv' := [(3, .int 0), (2, .null), (0, .ref nd), (1, .int (nI p0))]) hx hb dX4_placeFor_7 rfl hl (by decide) rfl (fun ls hl => ?_)
  refine lv_aload_nN hx hb dX4_placeFor_8 rfl (lv_at hl 1 rfl) ?_
  refine lv_ifnonnullN hx hb dX4_placeFor_9 ?_
  refine lv_iload_n hx hb dX4_placeFor_12 rfl (lv_at hl 0 rfl) ?_
  refine lv_iconst (v := 3) hx hb dX4_placeFor_13 (by decide) ?_
  refine lv_icmp_ge (tgt := 68) hx hb dX4_placeFor_14 (by decide) (fun c_2 => ?_) (fun c_2 => ?_)
  · exact absurd c_2 (by decide)
  refine lv_aload_n hx hb dX4_placeFor_17 rfl (lv_at hl 2 rfl) ?_
  refine va_get (D := (dC, dI)) (ci := 5) (v := .ref gs) (C := RX4) (T := TX4) (N := 18) hx hb hts in_c_placeFor_n_X4 hown hK hP 0 rfl rfl 9 (by decide) (hts (.fieldLink RX4 34 "ClaimBus$Node" "gets" "[LClaimBus$Transport;") (List.mem_of_getElem? (i := 5) rfl)) (fun _ h9 => h9) rfl dX4_placeFor_18 ?_
  refine lv_iload_n hx hb dX4_placeFor_21 rfl (lv_at hl 0 rfl) ?_
  refine va_aldq hx hb hK hP 1 0 rfl rfl (vp_in_nI (n := 0) (by omega) (by omega)) dX4_placeFor_22 ?_
  refine W.eq (g2 := F0 m 23 ls [.null]) (by rw [(show Int32.toNatClampNeg (0 : Int32) = 0 by decide), g0]; rfl) ?_
  refine lv_ifnonnullN hx hb dX4_placeFor_23 ?_
  refine lv_aload_n hx hb dX4_placeFor_26 rfl (lv_at hl 2 rfl) ?_
  refine va_get (D := (dC, dI)) (ci := 5) (v := .ref gs) (C := RX4) (T := TX4) (N := 18) hx hb hts in_c_placeFor_n_X4 hown hK hP 0 rfl rfl 9 (by decide) (hts (.fieldLink RX4 34 "ClaimBus$Node" "gets" "[LClaimBus$Transport;") (List.mem_of_getElem? (i := 5) rfl)) (fun _ h9 => h9) rfl dX4_placeFor_27 ?_
  refine lv_iload_n hx hb dX4_placeFor_30 rfl (lv_at hl 0 rfl) ?_
  refine va_new (ci := 10) (fs := [.int 0, .int 0, .int 0, .int 0, .int 0, .int 0, .int 0, .int 0, .int 0, .int 0, .int 0, .int 0, .null, .null]) (C := RX9) (T := TX9) (N := 14) hx hb hts in_c_placeFor_n_X9 tyX9 tyX9_ok hown (hts (.classLink RX4 32 RX9) (List.mem_of_getElem? (i := 6) rfl)) (hts (.instantiable RX9 14) (List.mem_of_getElem? (i := 7) rfl)) (hts (.initialized RX9) (List.mem_of_getElem? (i := 8) rfl)) hK hP hD hS hA rfl df_X9 (Nat.le_of_ble_eq_true rfl) (Nat.le_of_ble_eq_true rfl) dX4_placeFor_31 (fun q3 H hP hD hS => ?_)
  replace hP : va_P (dC, dI) vwCl [(nd, .inr (5, [.int nh, .int nl, .int nwa, .int nfr, .int (nI nwi), .ref r, .ref nt, .ref ns, .ref ib, .ref gs, .ref cs, .ref nu, .int 0, .int 2, .int (nI nad), .int (nI ncc), .int 0, .int 0])), (gs, .inl (cT, 3, .inr (.inr (.inr (.inr fg))))), (q3, .inr (10, [.int 0, .int 0, .int 0, .int 0, .int 0, .int 0, .int 0, .int 0, .int 0, .int 0, .int 0, .int 0, .null, .null]))] H := hP
  replace hD : va_D A [(nd, .inr (5, [.int nh, .int nl, .int nwa, .int nfr, .int (nI nwi), .ref r, .ref nt, .ref ns, .ref ib, .ref gs, .ref cs, .ref nu, .int 0, .int 2, .int (nI nad), .int (nI ncc), .int 0, .int 0])), (gs, .inl (cT, 3, .inr (.inr (.inr (.inr fg))))), (q3, .inr (10, [.int 0, .int 0, .int 0, .int 0, .int 0, .int 0, .int 0, .int 0, .int 0, .int 0, .int 0, .int 0, .null, .null]))] := hD
  refine W.widen (k := 1) (n := 14) (Nat.le_of_ble_eq_true rfl) (Nat.le_of_ble_eq_true rfl) ?_
  refine lv_dup hx hb dX4_placeFor_34 rfl ?_
  have hPc := hP.sub (ws' := [(q3, .inr (10, [.int 0, .int 0, .int 0, .int 0, .int 0, .int 0, .int 0, .int 0, .int 0, .int 0, .int 0, .int 0, .null, .null]))]) [2] rfl
  have hDc := hD.sub (ws' := [(q3, .inr (10, [.int 0, .int 0, .int 0, .int 0, .int 0, .int 0, .int 0, .int 0, .int 0, .int 0, .int 0, .int 0, .null, .null]))]) [2] (by decide +kernel) rfl
  have hKc := hK.sub (tys' := []) [] rfl
  have hFc := va_free (wc := [(q3, .inr (10, [.int 0, .int 0, .int 0, .int 0, .int 0, .int 0, .int 0, .int 0, .int 0, .int 0, .int 0, .int 0, .null, .null]))]) hD hS hA [2] rfl
  refine va_callv (va_runIN (As := []) (rest := [.ref q3, .int 0, .ref gs]) ⟨hx, hb, hml, hown, hts⟩ (c_X9_init l dC dI (q3) H.size) ⟨va_cnB 0 hts g_c_placeFor_n_c_X9_init_282 rfl rfl rfl hE.n7 (hts (.initialized RX9) (List.mem_of_getElem? (i := 8) rfl)) (by decide +kernel) ⟨Nat.le_of_ble_eq_true rfl, Nat.le_of_ble_eq_true rfl⟩, rfl, (hts (.instanceMethod yX9_init) (List.mem_of_getElem? (i := 9) rfl))⟩ ⟨fun a U g mk q => by obtain ⟨q0, q1, qP, qK, qD, qE⟩ := q; exact ⟨q0, q1, qP, va_K.moved (u := U) (U := U.calling g mk a) (Vm.Alike.refl U.vm) qK, qD, ev.same (u := U) (U := U.calling g mk a) rfl qE⟩, fun U hU hW => ⟨rfl, by rw [hU], by rw [hU]; exact hPc, va_K.moved hW.alike hKc, hDc.weaken (fun _ _ _ _ => trivial), hE.warm hW⟩⟩ rfl rfl hl.1 rfl (lv_room (Nat.le_of_ble_eq_true rfl)) dX4_placeFor_35 ⟨Nat.le_of_ble_eq_true rfl, Nat.le_of_ble_eq_true rfl⟩) hS (fun q _ h => hFc q h) hFc (fun u t H1 locs ht hvm hw hB hz1 hk1 hS => ?_)
  clear hPc hDc hKc
  obtain ⟨tb_4, cB_4, hP1, hK1, hD1⟩ := hB
  rw [ht] at hP1
  have hK1 := va_K.moved hvm.symm hK1
  obtain ⟨hP, hD⟩ := va_join (wr := [(nd, .inr (5, [.int nh, .int nl, .int nwa, .int nfr, .int (nI nwi), .ref r, .ref nt, .ref ns, .ref ib, .ref gs, .ref cs, .ref nu, .int 0, .int 2, .int (nI nad), .int (nI ncc), .int 0, .int 0])), (gs, .inl (cT, 3, .inr (.inr (.inr (.inr fg)))))]) (w1 := [(q3, .inr (10, [.int 0, .int 0, .int 0, .int 0, .int 0, .int 0, .int 1, .int 0, .int 0, .int 0, .int 0, .int 1, .null, .ref tb_4])), (tb_4, .inl (cB_4, 42, .inl (fun _ => 0)))]) hP hD [2] [0, 1] rfl rfl (by decide +kernel) (by decide +kernel) hk1 hFc hP1 hD1
  replace hK := hK.app hK1
  replace hK : va_K (dC, dI) vwCl [(cT, (.object RX9)), (cB_4, .int)] s := hK
  generalize H1 = H at hP hS ⊢
  replace hP : va_P (dC, dI) vwCl [(nd, .inr (5, [.int nh, .int nl, .int nwa, .int nfr, .int (nI nwi), .ref r, .ref nt, .ref ns, .ref ib, .ref gs, .ref cs, .ref nu, .int 0, .int 2, .int (nI nad), .int (nI ncc), .int 0, .int 0])), (gs, .inl (cT, 3, .inr (.inr (.inr (.inr fg))))), (q3, .inr (10, [.int 0, .int 0, .int 0, .int 0, .int 0, .int 0, .int 1, .int 0, .int 0, .int 0, .int 0, .int 1, .null, .ref tb_4])), (tb_4, .inl (cB_4, 42, .inl (fun _ => 0)))] H := hP
  replace hD : va_D A [(nd, .inr (5, [.int nh, .int nl, .int nwa, .int nfr, .int (nI nwi), .ref r, .ref nt, .ref ns, .ref ib, .ref gs, .ref cs, .ref nu, .int 0, .int 2, .int (nI nad), .int (nI ncc), .int 0, .int 0])), (gs, .inl (cT, 3, .inr (.inr (.inr (.inr fg))))), (q3, .inr (10, [.int 0, .int 0, .int 0, .int 0, .int 0, .int 0, .int 1, .int 0, .int 0, .int 0, .int 0, .int 1, .null, .ref tb_4])), (tb_4, .inl (cB_4, 42, .inl (fun _ => 0)))] := hD
  refine W.widen (k := 2) (n := 56) (Nat.le_of_ble_eq_true rfl) (Nat.le_of_ble_eq_true rfl) ?_
  clear hw
  refine va_astq hx hb hK hP hD hS 1 0 2 10 rfl rfl rfl rfl (vp_in_nI (n := 0) (by omega) (by omega)) dX4_placeFor_38 (fun H locs hP hD hS => ?_)
  obtain ⟨f_5, ef_5⟩ : ∃ z : Nat → Option Nat, z = va_up fg 0 (some q3) := ⟨_, rfl⟩
  rw [(show Int32.toNatClampNeg (0 : Int32) = 0 by decide)] at hP hD
  replace hP : va_P (dC, dI) vwCl [(nd, .inr (5, [.int nh, .int nl, .int nwa, .int nfr, .int (nI nwi), .ref r, .ref nt, .ref ns, .ref ib, .ref gs, .ref cs, .ref nu, .int 0, .int 2, .int (nI nad), .int (nI ncc), .int 0, .int 0])), (gs, .inl (cT, 3, .inr (.inr (.inr (.inr f_5))))), (q3, .inr (10, [.int 0, .int 0, .int 0, .int 0, .int 0, .int 0, .int 1, .int 0, .int 0, .int 0, .int 0, .int 1, .null, .ref tb_4])), (tb_4, .inl (cB_4, 42, .inl (fun _ => 0)))] H := by rw [ef_5]; exact hP
  replace hD : va_D A [(nd, .inr (5, [.int nh, .int nl, .int nwa, .int nfr, .int (nI nwi), .ref r, .ref nt, .ref ns, .ref ib, .ref gs, .ref cs, .ref nu, .int 0, .int 2, .int (nI nad), .int (nI ncc), .int 0, .int 0])), (gs, .inl (cT, 3, .inr (.inr (.inr (.inr f_5))))), (q3, .inr (10, [.int 0, .int 0, .int 0, .int 0, .int 0, .int 0, .int 1, .int 0, .int 0, .int 0, .int 0, .int 1, .null, .ref tb_4])), (tb_4, .inl (cB_4, 42, .inl (fun _ => 0)))] := by rw [ef_5]; exact hD
  have g5_n : f_5 0 = some q3 := by rw [ef_5]; exact if_pos rfl
  have g5_1 : f_5 1 = none := by rw [ef_5]; exact (if_neg (by omega)).trans g1
  have g5_2 : f_5 2 = none := by rw [ef_5]; exact (if_neg (by omega)).trans g2
  refine lv_aload_n hx hb dX4_placeFor_39 rfl (lv_at hl 2 rfl) ?_
  refine va_get (D := (dC, dI)) (ci := 5) (v := .ref gs) (C := RX4) (T := TX4) (N := 18) hx hb hts in_c_placeFor_n_X4 hown hK hP 0 rfl rfl 9 (by decide) (hts (.fieldLink RX4 34 "ClaimBus$Node" "gets" "[LClaimBus$Transport;") (List.mem_of_getElem? (i := 5) rfl)) (fun _ h9 => h9) rfl dX4_placeFor_40 ?_
  refine lv_iload_n hx hb dX4_placeFor_43 rfl (lv_at hl 0 rfl) ?_
  refine va_aldq hx hb hK hP 1 0 rfl rfl (vp_in_nI (n := 0) (by omega) (by omega)) dX4_placeFor_44 ?_
  refine W.eq (g2 := F0 m 45 ls [.ref q3]) (by rw [(show Int32.toNatClampNeg (0 : Int32) = 0 by decide), g5_n]; rfl) ?_
  refine va_get (D := (dC, dI)) (ci := 10) (v := .int 0) (C := RX9) (T := TX9) (N := 14) hx hb hts in_c_placeFor_n_X9 hown hK hP 2 rfl rfl 0 (by decide) (hts (.fieldLink RX4 93 "ClaimBus$Transport" "open" "Z") (List.mem_of_getElem? (i := 10) rfl)) (fun _ h9 => h9) rfl dX4_placeFor_45 ?_
  refine lv_if_eq (tgt := 55) hx hb dX4_placeFor_48 (by decide) (fun c_6 => ?_) (fun c_6 => ?_)
  rotate_left
  · exact absurd (by decide) c_6
  refine lv_aload_n hx hb dX4_placeFor_55 rfl (lv_at hl 2 rfl) ?_
  refine va_get (D := (dC, dI)) (ci := 5) (v := .ref gs) (C := RX4) (T := TX4) (N := 18) hx hb hts in_c_placeFor_n_X4 hown hK hP 0 rfl rfl 9 (by decide) (hts (.fieldLink RX4 34 "ClaimBus$Node" "gets" "[LClaimBus$Transport;") (List.mem_of_getElem? (i := 5) rfl)) (fun _ h9 => h9) rfl dX4_placeFor_56 ?_
  refine lv_iload_n hx hb dX4_placeFor_59 rfl (lv_at hl 0 rfl) ?_
  refine va_aldq hx hb hK hP 1 0 rfl rfl (vp_in_nI (n := 0) (by omega) (by omega)) dX4_placeFor_60 ?_
  refine W.eq (g2 := F0 m 61 ls [.ref q3]) (by rw [(show Int32.toNatClampNeg (0 : Int32) = 0 by decide), g5_n]; rfl) ?_
  refine lv_astore_n (lv' := [(2, .ref q3), (3, .int 0), (0, .ref nd), (1, .int (nI p0))]) hx hb dX4_placeFor_61 rfl hl (by decide) rfl (fun ls hl => ?_)
  refine lv_iinc (v := 1) (lv' := [(3, .int 1), (2, .ref q3), (0, .ref nd), (1, .int (nI p0))]) hx hb dX4_placeFor_62 hl (k := 1) rfl (by decide) (by decide) rfl (fun ls hl => ?_)
  refine lv_goto (tgt := 8) hx hb dX4_placeFor_65 (by decide) ?_
  refine lv_aload_n hx hb dX4_placeFor_8 rfl (lv_at hl 1 rfl) ?_
  refine lv_ifnonnull (tgt := 68) hx hb dX4_placeFor_9 (by decide) ?_
  refine lv_aload_n hx hb dX4_placeFor_68 rfl (lv_at hl 1 rfl) ?_
  have hP9 := hP.sub (ws' := [(nd, .inr (5, [.int nh, .int nl, .int nwa, .int nfr, .int (nI nwi), .ref r, .ref nt, .ref ns, .ref ib, .ref gs, .ref cs, .ref nu, .int 0, .int 2, .int (nI nad), .int (nI ncc), .int 0, .int 0])), (gs, .inl (cT, 3, .inr (.inr (.inr (.inr f_5))))), (q3, .inr (10, [.int 0, .int 0, .int 0, .int 0, .int 0, .int 0, .int 1, .int 0, .int 0, .int 0, .int 0, .int 1, .null, .ref tb_4])), (tb_4, .inl (cB_4, 42, .inl (fun _ => 0)))]) [0, 1, 2, 3] rfl
  have hD9 := hD.sub (ws' := [(nd, .inr (5, [.int nh, .int nl, .int nwa, .int nfr, .int (nI nwi), .ref r, .ref nt, .ref ns, .ref ib, .ref gs, .ref cs, .ref nu, .int 0, .int 2, .int (nI nad), .int (nI ncc), .int 0, .int 0])), (gs, .inl (cT, 3, .inr (.inr (.inr (.inr f_5))))), (q3, .inr (10, [.int 0, .int 0, .int 0, .int 0, .int 0, .int 0, .int 1, .int 0, .int 0, .int 0, .int 0, .int 1, .null, .ref tb_4])), (tb_4, .inl (cB_4, 42, .inl (fun _ => 0)))]) [0, 1, 2, 3] (by decide +kernel) rfl
  have hK9 := hK.sub (tys' := [(cT, (.object RX9)), (cB_4, .int)]) [0, 1] rfl
  exact W.aret (v := .ref q3) hx hb hr (Or.inl ⟨_, rfl⟩) (Or.inr ⟨_, rfl⟩) (fun t ht hW => ⟨⟨(), q3, rfl, trivial, ⟨tb_4, cB_4, f_5, (fun _ => 0), by rw [ht]; exact hP9, va_K.moved hW.alike hK9, hD9, g5_n, g5_1, g5_2⟩⟩, hS.F ht⟩) hS.2.2 dX4_placeFor_69

noncomputable def tl_c_placeFor_c : List Cond := wsX40 ++ (wsX90 ++ (v_c_gotFrom_c))
noncomputable def v_c_placeFor_c : List Cond := .code yX4_placeFor cX4_placeFor 4 (some (.object "ClaimBus$Transport")) :: ([.initialized RX4, .methodLink RX4 276 yX4_gotFrom, .instanceMethod yX4_gotFrom, .selects RX4 yX4_gotFrom yX4_gotFrom, .fieldLink RX4 34 "ClaimBus$Node" "gets" "[LClaimBus$Transport;", .fieldLink RX4 93 "ClaimBus$Transport" "open" "Z"] ++ tl_c_placeFor_c)
theorem it_c_placeFor_c : ∀ w ∈ tl_c_placeFor_c, w ∈ v_c_placeFor_c := fun w h => List.mem_cons_of_mem _ (List.mem_append_right _ h)
theorem in_c_placeFor_c_X4 : ∀ w ∈ wsX40, w ∈ v_c_placeFor_c := fun w h => it_c_placeFor_c w (List.mem_append_left _ h)
theorem in_c_placeFor_c_X9 : ∀ w ∈ wsX90, w ∈ v_c_placeFor_c := fun w h => it_c_placeFor_c w (List.mem_append_right _ (List.mem_append_left _ h))
theorem ic_c_placeFor_c_c_gotFrom_c : ∀ w ∈ v_c_gotFrom_c, w ∈ v_c_placeFor_c := fun w h => it_c_placeFor_c w (List.mem_append_right _ (List.mem_append_right _ (h)))
theorem gt_c_placeFor_c : ∀ w ∈ tl_c_placeFor_c, goodWord w = true := List.forall_mem_append.mpr ⟨gw_wsX40, List.forall_mem_append.mpr ⟨gw_wsX90, gw_c_gotFrom_c⟩⟩
theorem gw_c_placeFor_c : ∀ w ∈ v_c_placeFor_c, goodWord w = true := List.forall_mem_cons.mpr ⟨by decide +kernel, List.forall_mem_append.mpr ⟨List.all_eq_true.mp (by decide +kernel), gt_c_placeFor_c⟩⟩
theorem g_c_placeFor_c_c_gotFrom_c_276 : GoodIn v_c_placeFor_c (wsV RX4 276 RX4 yX4_gotFrom v_c_gotFrom_c) := goodIn_app (goodIn_r [.methodLink RX4 276 yX4_gotFrom, .instanceMethod yX4_gotFrom, .selects RX4 yX4_gotFrom yX4_gotFrom, .initialized RX4] [2, 3, 4, 1] (by decide +kernel) (by decide +kernel)) (fun w h => ⟨ic_c_placeFor_c_c_gotFrom_c w h, good_of_word (gw_c_gotFrom_c w h)⟩)
set_option maxHeartbeats 4000000 in
set_option maxRecDepth 100000 in
theorem c_placeFor_c (l : Launch) (dC : Nat → ClassId) (dI : Nat → Nat → Nat) (nd : Nat) (nh : Int32) (nl : Int32) (nwa : Int32) (nfr : Int32) (nwi : Nat) (r : Nat) (nt : Nat) (ns : Nat) (ib : Nat) (gs : Nat) (cs : Nat) (nu : Nat) (nad : Nat) (ncc : Nat) (cT : ClassId) (fg : Nat → Option Nat) (tr : Nat) (j1 : Int32) (j2 : Int32) (j3 : Int32) (j4 : Int32) (j5 : Int32) (j6 : Int32) (j7 : Int32) (j8 : Int32) (j9 : Int32) (j10 : Int32) (j11 : Int32) (jw : Nat) (tb : Nat) (p0 : Nat) (sz : Nat) (g0 : fg 0 = some tr) (g1 : fg 1 = none) (g2 : fg 2 = none) : Met l yX4_placeFor v_c_placeFor_c ({ frames := 1, cells := 0, slots := 0, locals := 25 }) (va_Pc [.ref nd, .int (nI p0)] (fun U => U.heap.size = sz ∧ va_P (dC, dI) vwCl [(nd, .inr (5, [.int nh, .int nl, .int nwa, .int nfr, .int (nI nwi), .ref r, .ref nt, .ref ns, .ref ib, .ref gs, .ref cs, .ref nu, .int 0, .int 2, .int (nI nad), .int (nI ncc), .int 0, .int 0])), (gs, .inl (cT, 3, .inr (.inr (.inr (.inr fg))))), (tr, .inr (10, [.int 0, .int j1, .int j2, .int j3, .int j4, .int j5, .int j6, .int j7, .int j8, .int j9, .int j10, .int j11, .ref jw, .ref tb]))] U.heap ∧ va_K (dC, dI) vwCl [(cT, (.object RX9))] U ∧ va_D (fun _ => True) [(nd, .inr (5, [.int nh, .int nl, .int nwa, .int nfr, .int (nI nwi), .ref r, .ref nt, .ref ns, .ref ib, .ref gs, .ref cs, .ref nu, .int 0, .int 2, .int (nI nad), .int (nI ncc), .int 0, .int 0])), (gs, .inl (cT, 3, .inr (.inr (.inr (.inr fg))))), (tr, .inr (10, [.int 0, .int j1, .int j2, .int j3, .int j4, .int j5, .int j6, .int j7, .int j8, .int j9, .int j10, .int j11, .ref jw, .ref tb]))] ∧ ev U)) (va_Qq (fun (r : Option Nat) (_ : Unit) => r = some tr) (fun (_ : Unit) (_ : State) => True) (va_A [] sz)) 0 0 (va_A [] sz) := by
  refine Met.ofW (cc := cX4_placeFor) (maxL := 4) (ret := (some (.object "ClaimBus$Transport"))) (by decide) rfl ?_
  intro p e s m args below meth c s₁ B hml hv
  obtain ⟨rfl, hsz, hP, hK, hD0, hE⟩ := hv
  have hx := B.exec
  have hb := B.bytes
  have hr := B.returns
  have hts := atoms_spec (ws := v_c_placeFor_c) B.pre
  have hown : s.vm.findClass RX4 = some m.cls := findClass_of_methodNamed B.named
  have hlocks := B.notSynchronized
  subst hsz
  have hD := hD0
  generalize hAe : va_A [] s.heap.size = A
  have hA : ∀ q : Nat, s.heap.size ≤ q → A q := fun q h => by rw [← hAe]; exact Or.inr h
  have hS : va_S A s.heap s.heap [] := va_S.rf
  replace hP : va_P (dC, dI) vwCl [(nd, .inr (5, [.int nh, .int nl, .int nwa, .int nfr, .int (nI nwi), .ref r, .ref nt, .ref ns, .ref ib, .ref gs, .ref cs, .ref nu, .int 0, .int 2, .int (nI nad), .int (nI ncc), .int 0, .int 0])), (gs, .inl (cT, 3, .inr (.inr (.inr (.inr fg))))), (tr, .inr (10, [.int 0, .int j1, .int j2, .int j3, .int j4, .int j5, .int j6, .int j7, .int j8, .int j9, .int j10, .int j11, .ref jw, .ref tb]))] s.heap := hP
  have hl := lv_entry ([.ref nd, .int (nI p0)]) (n := 4) (Nat.le_of_ble_eq_true rfl)
  rw [lg_entry_eq]
  generalize (lg_sl ([.ref nd, .int (nI p0)]) ++ List.replicate (4 - (lg_sl ([.ref nd, .int (nI p0)])).length) Slot.unset).toArray = ls at hl ⊢
  replace hl : lv_has ls 4 [(0, .ref nd), (1, .int (nI p0))] := hl
  obtain ⟨H, hH⟩ : ∃ z : Heap, z = s.heap := ⟨_, rfl⟩
  rw [← hH]
  replace hS : va_S A s.heap H [] := by rw [hH]; exact va_S.rf
  replace hP : va_P (dC, dI) vwCl [(nd, .inr (5, [.int nh, .int nl, .int nwa, .int nfr, .int (nI nwi), .ref r, .ref nt, .ref ns, .ref ib, .ref gs, .ref cs, .ref nu, .int 0, .int 2, .int (nI nad), .int (nI ncc), .int 0, .int 0])), (gs, .inl (cT, 3, .inr (.inr (.inr (.inr fg))))), (tr, .inr (10, [.int 0, .int j1, .int j2, .int j3, .int j4, .int j5, .int j6, .int j7, .int j8, .int j9, .int j10, .int j11, .ref jw, .ref tb]))] H := by rw [hH]; exact hP
  clear hH
  refine lv_aload_n hx hb dX4_placeFor_0 rfl (lv_at hl 0 rfl) ?_
  refine lv_iload_n hx hb dX4_placeFor_1 rfl (lv_at hl 1 rfl) ?_
  have hPc := hP.sub (ws' := [(nd, .inr (5, [.int nh, .int nl, .int nwa, .int nfr, .int (nI nwi), .ref r, .ref nt, .ref ns, .ref ib, .ref gs, .ref cs, .ref nu, .int 0, .int 2, .int (nI nad), .int (nI ncc), .int 0, .int 0])), (gs, .inl (cT, 3, .inr (.inr (.inr (.inr fg))))), (tr, .inr (10, [.int 0, .int j1, .int j2, .int j3, .int j4, .int j5, .int j6, .int j7, .int j8, .int j9, .int j10, .int j11, .ref jw, .ref tb]))]) [0, 1, 2] rfl
  have hDc := hD.sub (ws' := [(nd, .inr (5, [.int nh, .int nl, .int nwa, .int nfr, .int (nI nwi), .ref r, .ref nt, .ref ns, .ref ib, .ref gs, .ref cs, .ref nu, .int 0, .int 2, .int (nI nad), .int (nI ncc), .int 0, .int 0])), (gs, .inl (cT, 3, .inr (.inr (.inr (.inr fg))))), (tr, .inr (10, [.int 0, .int j1, .int j2, .int j3, .int j4, .int j5, .int j6, .int j7, .int j8, .int j9, .int j10, .int j11, .ref jw, .ref tb]))]) [0, 1, 2] (by decide +kernel) rfl
  have hKc := hK.sub (tys' := [(cT, (.object RX9))]) [0] rfl
  have hFc := ro_free hS hA
  refine va_callq (va_runV (As := [.int (nI p0)]) (rest := []) ⟨hx, hb, hml, hown, hts⟩ (c_gotFrom_c l dC dI (nd) (nh) (nl) (nwa) (nfr) (nwi) (r) (nt) (ns) (ib) (gs) (cs) (nu) (nad) (ncc) (cT) (fg) (tr) (j1) (j2) (j3) (j4) (j5) (j6) (j7) (j8) (j9) (j10) (j11) (jw) (tb) (p0) H.size g0 g1 g2) (cwV 1 hts g_c_placeFor_c_c_gotFrom_c_276 rfl rfl rfl (by decide +kernel) ⟨Nat.le_of_ble_eq_true rfl, Nat.le_of_ble_eq_true rfl⟩) ⟨fun a U g mk q => by obtain ⟨q0, q1, qP, qK, qD, qE⟩ := q; exact ⟨q0, q1, qP, va_K.moved (u := U) (U := U.calling g mk a) (Vm.Alike.refl U.vm) qK, qD, ev.same (u := U) (U := U.calling g mk a) rfl qE⟩, va_recv hKc hPc (ci := 5) (q0 := 0) rfl rfl, fun U hU hW => ⟨rfl, by rw [hU], by rw [hU]; exact hPc, va_K.moved hW.alike hKc, hDc.weaken (fun _ _ _ _ => trivial), hE.warm hW⟩⟩ rfl rfl hl.1 rfl (lv_room (Nat.le_of_ble_eq_true rfl)) dX4_placeFor_2 ⟨Nat.le_of_ble_eq_true rfl, Nat.le_of_ble_eq_true rfl⟩) hS (fun q _ h => hFc q h) hFc (fun r_1 u t H1 locs ht hvm hw hB hz1 hk1 hS => ?_)
  clear hPc hDc hKc
  replace hP := ro_keep hP hk1
  generalize H1 = H at hP hS ⊢
  replace hP : va_P (dC, dI) vwCl [(nd, .inr (5, [.int nh, .int nl, .int nwa, .int nfr, .int (nI nwi), .ref r, .ref nt, .ref ns, .ref ib, .ref gs, .ref cs, .ref nu, .int 0, .int 2, .int (nI nad), .int (nI ncc), .int 0, .int 0])), (gs, .inl (cT, 3, .inr (.inr (.inr (.inr fg))))), (tr, .inr (10, [.int 0, .int j1, .int j2, .int j3, .int j4, .int j5, .int j6, .int j7, .int j8, .int j9, .int j10, .int j11, .ref jw, .ref tb]))] H := hP
  have hw := hw.symm
  subst hw
  refine W.eq (g2 := F0 m 5 ls [.null]) rfl ?_
  refine lv_astore_nN (lv' := [(2, .null), (0, .ref nd), (1, .int (nI p0))]) hx hb dX4_placeFor_5 rfl hl (by decide) rfl (fun ls hl => ?_)
  refine lv_iconst (v := 0) hx hb dX4_placeFor_6 (by decide) ?_
  refine lv_istore_n (lv' := [(3, .int 0), (2, .null), (0, .ref nd), (1, .int (nI p0))]) hx hb dX4_placeFor_7 rfl hl (by decide) rfl (fun ls hl => ?_)
  refine lv_aload_nN hx hb dX4_placeFor_8 rfl (lv_at hl 1 rfl) ?_
  refine lv_ifnonnullN hx hb dX4_placeFor_9 ?_
  refine lv_iload_n hx hb dX4_placeFor_12 rfl (lv_at hl 0 rfl) ?_
  refine lv_iconst (v := 3) hx hb dX4_placeFor_13 (by decide) ?_
  refine lv_icmp_ge (tgt := 68) hx hb dX4_placeFor_14 (by decide) (fun c_2 => ?_) (fun c_2 => ?_)
  · exact absurd c_2 (by decide)
  refine lv_aload_n hx hb dX4_placeFor_17 rfl (lv_at hl 2 rfl) ?_
  refine va_get (D := (dC, dI)) (ci := 5) (v := .ref gs) (C := RX4) (T := TX4) (N := 18) hx hb hts in_c_placeFor_c_X4 hown hK hP 0 rfl rfl 9 (by decide) (hts (.fieldLink RX4 34 "ClaimBus$Node" "gets" "[LClaimBus$Transport;") (List.mem_of_getElem? (i := 5) rfl)) (fun _ h9 => h9) rfl dX4_placeFor_18 ?_
  refine lv_iload_n hx hb dX4_placeFor_21 rfl (lv_at hl 0 rfl) ?_
  refine va_aldq hx hb hK hP 1 0 rfl rfl (vp_in_nI (n := 0) (by omega) (by omega)) dX4_placeFor_22 ?_
  refine W.eq (g2 := F0 m 23 ls [.ref tr]) (by rw [(show Int32.toNatClampNeg (0 : Int32) = 0 by decide), g0]; rfl) ?_
  refine lv_ifnonnull (tgt := 39) hx hb dX4_placeFor_23 (by decide) ?_
  refine lv_aload_n hx hb dX4_placeFor_39 rfl (lv_at hl 2 rfl) ?_
  refine va_get (D := (dC, dI)) (ci := 5) (v := .ref gs) (C := RX4) (T := TX4) (N := 18) hx hb hts in_c_placeFor_c_X4 hown hK hP 0 rfl rfl 9 (by decide) (hts (.fieldLink RX4 34 "ClaimBus$Node" "gets" "[LClaimBus$Transport;") (List.mem_of_getElem? (i := 5) rfl)) (fun _ h9 => h9) rfl dX4_placeFor_40 ?_
  refine lv_iload_n hx hb dX4_placeFor_43 rfl (lv_at hl 0 rfl) ?_
  refine va_aldq hx hb hK hP 1 0 rfl rfl (vp_in_nI (n := 0) (by omega) (by omega)) dX4_placeFor_44 ?_
  refine W.eq (g2 := F0 m 45 ls [.ref tr]) (by rw [(show Int32.toNatClampNeg (0 : Int32) = 0 by decide), g0]; rfl) ?_
  refine va_get (D := (dC, dI)) (ci := 10) (v := .int 0) (C := RX9) (T := TX9) (N := 14) hx hb hts in_c_placeFor_c_X9 hown hK hP 2 rfl rfl 0 (by decide) (hts (.fieldLink RX4 93 "ClaimBus$Transport" "open" "Z") (List.mem_of_getElem? (i := 6) rfl)) (fun _ h9 => h9) rfl dX4_placeFor_45 ?_
  refine lv_if_eq (tgt := 55) hx hb dX4_placeFor_48 (by decide) (fun c_3 => ?_) (fun c_3 => ?_)
  rotate_left
  · exact absurd (by decide) c_3
  refine lv_aload_n hx hb dX4_placeFor_55 rfl (lv_at hl 2 rfl) ?_
  refine va_get (D := (dC, dI)) (ci := 5) (v := .ref gs) (C := RX4) (T := TX4) (N := 18) hx hb hts in_c_placeFor_c_X4 hown hK hP 0 rfl rfl 9 (by decide) (hts (.fieldLink RX4 34 "ClaimBus$Node" "gets" "[LClaimBus$Transport;") (List.mem_of_getElem? (i := 5) rfl)) (fun _ h9 => h9) rfl dX4_placeFor_56 ?_
  refine lv_iload_n hx hb dX4_placeFor_59 rfl (lv_at hl 0 rfl) ?_
  refine va_aldq hx hb hK hP 1 0 rfl rfl (vp_in_nI (n := 0) (by omega) (by omega)) dX4_placeFor_60 ?_
  refine W.eq (g2 := F0 m 61 ls [.ref tr]) (by rw [(show Int32.toNatClampNeg (0 : Int32) = 0 by decide), g0]; rfl) ?_
  refine lv_astore_n (lv' := [(2, .ref tr), (3, .int 0), (0, .ref nd), (1, .int (nI p0))]) hx hb dX4_placeFor_61 rfl hl (by decide) rfl (fun ls hl => ?_)
  refine lv_iinc (v := 1) (lv' := [(3, .int 1), (2, .ref tr), (0, .ref nd), (1, .int (nI p0))]) hx hb dX4_placeFor_62 hl (k := 1) rfl (by decide) (by decide) rfl (fun ls hl => ?_)
  refine lv_goto (tgt := 8) hx hb dX4_placeFor_65 (by decide) ?_
  refine lv_aload_n hx hb dX4_placeFor_8 rfl (lv_at hl 1 rfl) ?_
  refine lv_ifnonnull (tgt := 68) hx hb dX4_placeFor_9 (by decide) ?_
  refine lv_aload_n hx hb dX4_placeFor_68 rfl (lv_at hl 1 rfl) ?_
  exact W.aret (v := .ref tr) hx hb hr (Or.inl ⟨_, rfl⟩) (Or.inr ⟨_, rfl⟩) (fun t ht hW => ⟨⟨some tr, (), rfl, rfl, trivial⟩, hS.F ht⟩) hS.2.2 dX4_placeFor_69
