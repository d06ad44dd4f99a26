set_option maxHeartbeats 8000000 in
set_option maxRecDepth 100000 in
/-- THE LAW, from its entry -/
theorem whole_start {p : Program} {e : Env} {s : State} {m : MethodId} {below : List Frame} {meth : Method} {c : Code} (l : Launch) (hflags : l.flags = flags0) {b L : Nat} {xs : Nat → Int32} (hL : L ≤ 260) (C0 : lw_At p s m meth c b L xs) : W p l e room_1 s m #[Value.ref b] below meth c s.heap [] 0 0 (lw_Z below #[Value.ref b] s) (entryFrame m ([Value.ref b] : List Value).toArray 19) := by
  obtain ⟨hx, hb, hr, hml, hown0, hts0, hX, hbl, hlocks, hgv⟩ := id C0
  have hown : s.vm.findClass RL = some m.cls := hown0
  have hts : ∀ w ∈ v_law, w.before #[Value.ref b] s = true := fun w h => hts0 w (v_law_in w h)
  have hA : ∀ q : Nat, s.heap.size ≤ q → (fun q : Nat => s.heap.size ≤ q) q := fun _ h => h
  have hbA : ¬ (fun q : Nat => s.heap.size ≤ q) b := Nat.not_le.mpr hbl
  obtain ⟨kc0, ki0, hKn0⟩ := u_known (C := RJx4a65c) (T := TJx4a65c) (N := 3) (n := 3) hts in_law_Jx4a65c (hts (.instantiable RJx4a65c 3) (List.mem_of_getElem? (i := 30) rfl))
  obtain ⟨kc1, ki1, hKn1⟩ := u_known (C := RX0) (T := TX0) (N := 2) (n := 2) hts in_law_X0 (hts (.instantiable RX0 2) (List.mem_of_getElem? (i := 31) rfl))
  obtain ⟨kc2, ki2, hKn2⟩ := u_known (C := RX1) (T := TX1) (N := 4) (n := 4) hts in_law_X1 (hts (.instantiable RX1 4) (List.mem_of_getElem? (i := 32) rfl))
  obtain ⟨kc3, ki3, hKn3⟩ := u_known (C := RX2) (T := TX2) (N := 4) (n := 4) hts in_law_X2 (hts (.instantiable RX2 4) (List.mem_of_getElem? (i := 33) rfl))
  obtain ⟨kc4, ki4, hKn4⟩ := u_known (C := RX3) (T := TX3) (N := 6) (n := 6) hts in_law_X3 (hts (.instantiable RX3 6) (List.mem_of_getElem? (i := 34) rfl))
  obtain ⟨kc5, ki5, hKn5⟩ := u_known (C := RX4) (T := TX4) (N := 18) (n := 18) hts in_law_X4 (hts (.instantiable RX4 18) (List.mem_of_getElem? (i := 35) rfl))
  obtain ⟨kc6, ki6, hKn6⟩ := u_known (C := RX5) (T := TX5) (N := 12) (n := 12) hts in_law_X5 (hts (.instantiable RX5 12) (List.mem_of_getElem? (i := 36) rfl))
  obtain ⟨kc7, ki7, hKn7⟩ := u_known (C := RX6) (T := TX6) (N := 4) (n := 4) hts in_law_X6 (hts (.instantiable RX6 4) (List.mem_of_getElem? (i := 37) rfl))
  obtain ⟨kc8, ki8, hKn8⟩ := u_known (C := RX7) (T := TX7) (N := 2) (n := 2) hts in_law_X7 (hts (.instantiable RX7 2) (List.mem_of_getElem? (i := 38) rfl))
  obtain ⟨kc9, ki9, hKn9⟩ := u_known (C := RX8) (T := TX8) (N := 1) (n := 1) hts in_law_X8 (hts (.instantiable RX8 1) (List.mem_of_getElem? (i := 39) rfl))
  obtain ⟨kc10, ki10, hKn10⟩ := u_known (C := RX9) (T := TX9) (N := 14) (n := 14) hts in_law_X9 (hts (.instantiable RX9 14) (List.mem_of_getElem? (i := 40) rfl))
  obtain ⟨kc11, ki11, hKn11⟩ := u_known (C := RX10) (T := TX10) (N := 8) (n := 8) hts in_law_X10 (hts (.instantiable RX10 8) (List.mem_of_getElem? (i := 41) rfl))
  obtain ⟨dC, dI, hKc0⟩ : ∃ (dC : Nat → ClassId) (dI : Nat → Nat → Nat), ∀ (k : Nat) (q : vw_C), vwCl[k]? = some q → u_Kn s q.1 q.2.1 q.2.2 (dC k) (dI k) := by
    refine ⟨fun k => ([kc0, kc1, kc2, kc3, kc4, kc5, kc6, kc7, kc8, kc9, kc10, kc11] : List ClassId).getD k kc0, fun k => ([ki0, ki1, ki2, ki3, ki4, ki5, ki6, ki7, ki8, ki9, ki10, ki11] : List (Nat → Nat)).getD k ki0, ?_⟩
    intro k q hq
    match k, hq with
    | 0, hq => cases hq; exact hKn0
    | 1, hq => cases hq; exact hKn1
    | 2, hq => cases hq; exact hKn2
    | 3, hq => cases hq; exact hKn3
    | 4, hq => cases hq; exact hKn4
    | 5, hq => cases hq; exact hKn5
    | 6, hq => cases hq; exact hKn6
    | 7, hq => cases hq; exact hKn7
    | 8, hq => cases hq; exact hKn8
    | 9, hq => cases hq; exact hKn9
    | 10, hq => cases hq; exact hKn10
    | 11, hq => cases hq; exact hKn11
    | k + 12, hq => simp [vwCl] at hq
  have hS : va_S (fun q : Nat => s.heap.size ≤ q) s.heap s.heap [] := va_S.rf
  have hK : va_K (dC, dI) vwCl [] s := ⟨hKc0, fun k q h => by simp at h⟩
  have hP : va_P (dC, dI) vwCl [] s.heap := p_nil
  have hD : va_D (fun q : Nat => s.heap.size ≤ q) [] := d_nil
  have hE : ev s := ⟨va_Nw.of rfl (hts0 (.methodLinkNest RX10 17 yX7_init "ClaimBus") (List.mem_append_right _ (List.mem_of_getElem? (i := 33) (by decide +kernel)))), va_Nw.of rfl (hts0 (.methodLinkNest RX10 24 yX1_init "ClaimBus") (List.mem_append_right _ (List.mem_of_getElem? (i := 72) (by decide +kernel)))), va_Nw.of rfl (hts0 (.methodLinkNest RX4 20 yX6_init "ClaimBus") (List.mem_append_right _ (List.mem_of_getElem? (i := 152) (by decide +kernel)))), va_Nw.of rfl (hts0 (.methodLinkNest RX4 27 yX2_init "ClaimBus") (List.mem_append_right _ (List.mem_of_getElem? (i := 176) (by decide +kernel)))), va_Nw.of rfl (hts0 (.methodLinkNest RX5 37 yX1_init "ClaimBus") (List.mem_append_right _ (List.mem_of_getElem? (i := 208) (by decide +kernel)))), va_Nw.of rfl (hts0 (.methodLinkNest RX5 63 yX0_init "ClaimBus") (List.mem_append_right _ (List.mem_of_getElem? (i := 450) (by decide +kernel)))), va_Nw.of rfl (hts0 (.methodLinkNest RX4 282 yX9_init "ClaimBus") (List.mem_append_right _ (List.mem_of_getElem? (i := 698) (by decide +kernel)))), va_Nw.of rfl (hts0 (.methodLinkNest RX5 103 yX10_identifier "ClaimBus") (List.mem_append_right _ (List.mem_of_getElem? (i := 564) (by decide +kernel)))), va_Nw.of rfl (hts0 (.methodLinkNest RX5 107 yX10_pack "ClaimBus") (List.mem_append_right _ (List.mem_of_getElem? (i := 568) (by decide +kernel)))), va_Nw.of rfl (hts0 (.methodLinkNest RX3 50 yX10_pack "ClaimBus") (List.mem_append_right _ (List.mem_of_getElem? (i := 584) (by decide +kernel)))), va_Nw.of rfl (hts0 (.methodLinkNest RX3 42 yX10_identifier "ClaimBus") (List.mem_append_right _ (List.mem_of_getElem? (i := 590) (by decide +kernel)))), va_AO.of (hts0 (.arrayOver (.object "ClaimBus$Node")) (List.mem_append_right _ (List.mem_of_getElem? (i := 30) (by decide +kernel)))), va_AO.of (hts0 (.arrayOver (.object "ClaimBus$Transport")) (List.mem_append_right _ (List.mem_of_getElem? (i := 198) (by decide +kernel)))), va_AO.of (hts0 (.arrayOver (.object "java/lang/Object")) (List.mem_append_right _ (List.mem_of_getElem? (i := 426) (by decide +kernel)))), (hts0 (.arrayOver (.array .int)) (List.mem_append_right _ (List.mem_of_getElem? (i := 181) (by decide +kernel)))), va_Nw.of rfl (hts0 (.castable RX3 "java/lang/Object") (List.mem_append_right _ (List.mem_of_getElem? (i := 905) (by decide +kernel)))), va_Nw.of rfl (hts0 (.castable RX9 "java/lang/Object") (List.mem_append_right _ (List.mem_of_getElem? (i := 895) (by decide +kernel))))⟩
  obtain ⟨zt, hzt, hTz⟩ := va_Tof (tm := .static "java/util/ArrayList" "DEFAULTCAPACITY_EMPTY_ELEMENTDATA" "[Ljava/lang/Object;") (ty := .object "java/lang/Object") (f := fun _ => Value.null) (N := 0) (A := (fun q : Nat => s.heap.size ≤ q)) (by decide) (flat_of_before _ hgv (.arrayOf (.static "java/util/ArrayList" "DEFAULTCAPACITY_EMPTY_ELEMENTDATA" "[Ljava/lang/Object;") (.object "java/lang/Object")) (by decide +kernel)) (va_eqt (flat_of_before _ hgv (.eq (.length (.static "java/util/ArrayList" "DEFAULTCAPACITY_EMPTY_ELEMENTDATA" "[Ljava/lang/Object;")) (.int 0)) (by decide +kernel))) (fun j hj => absurd hj (by omega)) (fun a ha => Nat.not_le.mpr ha)
  have hZ : va_Z "java/util/ArrayList" "DEFAULTCAPACITY_EMPTY_ELEMENTDATA" "[Ljava/lang/Object;" (.ref zt) (fun q : Nat => s.heap.size ≤ q) s s.heap := va_Zref (hts0 (.laysStatic "java/util/ArrayList" "DEFAULTCAPACITY_EMPTY_ELEMENTDATA" "[Ljava/lang/Object;") (List.mem_append_right _ (List.mem_of_getElem? (i := 50) (by decide +kernel)))) (hts (.initialized RJx4a65c) (List.mem_of_getElem? (i := 42) rfl)) hzt (fun a ha => Nat.not_le.mpr ha)
  have hl := lv_entry ([.ref b]) (n := 19) (Nat.le_of_ble_eq_true rfl)
  rw [lg_entry_eq]
  generalize (lg_sl ([.ref b]) ++ List.replicate (19 - (lg_sl ([.ref b])).length) Slot.unset).toArray = ls at hl ⊢
  replace hl : lv_has ls 19 [(0, .ref b)] := hl
  obtain ⟨H, hH⟩ : ∃ z : Heap, z = s.heap := ⟨_, rfl⟩
  rw [← hH]
  replace hS : va_S (fun q : Nat => s.heap.size ≤ q) s.heap H [] := by rw [hH]; exact va_S.rf
  replace hP : va_P (dC, dI) vwCl [] H := p_nil
  clear hH
  refine va_new (ci := 11) (fs := [.null, .null, .null, .int 0, .int 0, .int 0, .int 0, .int 0]) (C := RX10) (T := TX10) (N := 8) hx hb hts in_law_X10 tyX10 tyX10_ok hown (hts (.classLink RL 7 RX10) (List.mem_of_getElem? (i := 43) rfl)) (hts (.instantiable RX10 8) (List.mem_of_getElem? (i := 41) rfl)) (hts (.initialized RX10) (List.mem_of_getElem? (i := 0) rfl)) hK hP hD hS hA rfl df_X10 (Nat.le_of_ble_eq_true rfl) (Nat.le_of_ble_eq_true rfl) dL_law_0 (fun q1 H hP hD hS => ?_)
  replace hP : va_P (dC, dI) vwCl [(q1, .inr (11, [.null, .null, .null, .int 0, .int 0, .int 0, .int 0, .int 0]))] H := hP
  replace hD : va_D (fun q : Nat => s.heap.size ≤ q) [(q1, .inr (11, [.null, .null, .null, .int 0, .int 0, .int 0, .int 0, .int 0]))] := hD
  refine lv_dup hx hb dL_law_3 rfl ?_
  have hPc := hP.sub (ws' := [(q1, .inr (11, [.null, .null, .null, .int 0, .int 0, .int 0, .int 0, .int 0]))]) [0] rfl
  have hDc := hD.sub (ws' := [(q1, .inr (11, [.null, .null, .null, .int 0, .int 0, .int 0, .int 0, .int 0]))]) [0] (by decide +kernel) rfl
  have hKc := hK.sub (tys' := []) [] rfl
  have hFc := va_free (wc := [(q1, .inr (11, [.null, .null, .null, .int 0, .int 0, .int 0, .int 0, .int 0]))]) hD hS hA [0] rfl
  have hZc := (hZ.kept hS.2.1).narrow (fun q h => hFc q h)
  have hTc := (hTz.kept hS.2.1).narrow (fun q h => hFc q h)
  refine va_callv (va_runI (As := []) (rest := [.ref q1]) ⟨hx, hb, hml, hown, hts⟩ (c_X10_init l dC dI (zt) (q1) H.size) (cwI 0 hts g_law_c_X10_init_9 rfl rfl rfl (hts (.initialized RX10) (List.mem_of_getElem? (i := 0) rfl)) (hts (.methodLink RL 9 yX10_init) (List.mem_of_getElem? (i := 44) rfl)) (hts (.instanceMethod yX10_init) (List.mem_of_getElem? (i := 45) rfl)) rfl (by decide +kernel) ⟨Nat.le_of_ble_eq_true rfl, Nat.le_of_ble_eq_true rfl⟩) ⟨fun a U g mk q => by obtain ⟨q0, q1, qP, qK, qD, qE, qZ, qT⟩ := q; exact ⟨q0, q1, qP, va_K.moved (u := U) (U := U.calling g mk a) (Vm.Alike.refl U.vm) qK, qD, ev.same (u := U) (U := U.calling g mk a) rfl qE, va_Z.moved (u := U) (U := U.calling g mk a) (Vm.Alike.refl U.vm) qZ, va_T.moved (u := U) (U := U.calling g mk a) (Vm.Alike.refl U.vm) qT⟩, fun U hU hW => ⟨rfl, by rw [hU], by rw [hU]; exact hPc, va_K.moved hW.alike hKc, hDc.weaken (fun _ _ _ _ => trivial), hE.warm hW, by rw [hU]; exact hZc.moved hW.alike, by rw [hU]; exact hTc.moved hW.alike⟩⟩ rfl rfl hl.1 rfl (lv_room (Nat.le_of_ble_eq_true rfl)) dL_law_4 ⟨show _ ≤ 600000 from by omega, show _ ≤ 7302250 from by omega⟩) hS (fun q _ h => hFc q h) hFc (fun u t H1 locs ht hvm hw hB hz1 hk1 hS => ?_)
  clear hPc hDc hKc
  obtain ⟨nr_2, cN_2, fn_2, st_2, lf_2, ml_2, hP1, hK1, hD1, n0_2, n1_2⟩ := hB
  rw [ht] at hP1
  have hK1 := va_K.moved hvm.symm hK1
  obtain ⟨hP, hD⟩ := va_join (wr := []) (w1 := [(q1, .inr (11, [.ref nr_2, .ref st_2, .ref lf_2, .int 0, .int 0, .int 0, .int (-1), .int 0])), (nr_2, .inl (cN_2, 8, .inr (.inr (.inr (.inr fn_2))))), (st_2, .inr (8, [.ref ml_2, .null])), (ml_2, .inr (0, [.int 0, .ref zt, .int 0])), (lf_2, .inr (2, [.int 0, .int 0, .int 0, .null]))]) hP hD [0] [] rfl rfl (by decide +kernel) (by decide +kernel) hk1 hFc hP1 hD1
  replace hK := hK.app hK1
  replace hK : va_K (dC, dI) vwCl [(cN_2, (.object RX4))] s := hK
  generalize H1 = H at hP hS ⊢
  replace hP : va_P (dC, dI) vwCl [(q1, .inr (11, [.ref nr_2, .ref st_2, .ref lf_2, .int 0, .int 0, .int 0, .int (-1), .int 0])), (nr_2, .inl (cN_2, 8, .inr (.inr (.inr (.inr fn_2))))), (st_2, .inr (8, [.ref ml_2, .null])), (ml_2, .inr (0, [.int 0, .ref zt, .int 0])), (lf_2, .inr (2, [.int 0, .int 0, .int 0, .null]))] H := hP
  replace hD : va_D (fun q : Nat => s.heap.size ≤ q) [(q1, .inr (11, [.ref nr_2, .ref st_2, .ref lf_2, .int 0, .int 0, .int 0, .int (-1), .int 0])), (nr_2, .inl (cN_2, 8, .inr (.inr (.inr (.inr fn_2))))), (st_2, .inr (8, [.ref ml_2, .null])), (ml_2, .inr (0, [.int 0, .ref zt, .int 0])), (lf_2, .inr (2, [.int 0, .int 0, .int 0, .null]))] := hD
  clear hw
  refine lv_astore_n (lv' := [(1, .ref q1), (0, .ref b)]) hx hb dL_law_7 rfl hl (by decide) rfl (fun ls hl => ?_)
  refine lv_aload_n hx hb dL_law_8 rfl (lv_at hl 1 rfl) ?_
  refine va_slen hx hb hX hbl hbA hS dL_law_9 ?_
  refine W.eq (g2 := F0 m 10 ls [.int (nI L)]) rfl ?_
  refine lv_if_le (tgt := 19) hx hb dL_law_10 (by decide) (fun c_3 => ?_) (fun c_3 => ?_)
  · have pc_3 : L ≤ 0 := (nI_leI (a := L) (b := 0) (by omega) (by omega)).mp c_3
    refine lv_ldc hx hb hown (hts (.constant RL 10 (77777)) (List.mem_of_getElem? (i := 46) rfl)) dL_law_19 ?_
    have hPq := hP.sub (ws' := [(q1, .inr (11, [.ref nr_2, .ref st_2, .ref lf_2, .int 0, .int 0, .int 0, .int (-1), .int 0])), (nr_2, .inl (cN_2, 8, .inr (.inr (.inr (.inr fn_2))))), (st_2, .inr (8, [.ref ml_2, .null])), (ml_2, .inr (0, [.int 0, .ref zt, .int 0])), (lf_2, .inr (2, [.int 0, .int 0, .int 0, .null]))]) [0, 1, 2, 3, 4] rfl
    have hDq := hD.sub (ws' := [(q1, .inr (11, [.ref nr_2, .ref st_2, .ref lf_2, .int 0, .int 0, .int 0, .int (-1), .int 0])), (nr_2, .inl (cN_2, 8, .inr (.inr (.inr (.inr fn_2))))), (st_2, .inr (8, [.ref ml_2, .null])), (ml_2, .inr (0, [.int 0, .ref zt, .int 0])), (lf_2, .inr (2, [.int 0, .int 0, .int 0, .null]))]) [0, 1, 2, 3, 4] (by decide +kernel) rfl
    have hKq := hK.sub (tys' := [(cN_2, (.object RX4))]) [0] rfl
    have hlq : lv_has ls 19 [(0, .ref b), (1, .ref q1)] := lv_sub hl [1, 0] rfl
    exact law_start hL C0 hE hZ hTz (x := q1) (nr := nr_2) (st := st_2) (lf := lf_2) (cN := cN_2) (fn := fn_2) (ml := ml_2) (xv := (77777 : Int32)) (n0 := n0_2) (n1 := n1_2) (hcs := (⟨by omega, by omega⟩))  (hK := hKq) (hP := hPq) (hD := hDq) (hS := hS) (hl := hlq)
  · have pc_3 : ¬ L ≤ 0 := fun h => c_3 ((nI_leI (a := L) (b := 0) (by omega) (by omega)).mpr h)
    refine lv_aload_n hx hb dL_law_13 rfl (lv_at hl 1 rfl) ?_
    refine lv_iconst (v := 0) hx hb dL_law_14 (by decide) ?_
    refine va_sld hx hb hX hbl hbA hS (vp_in_nI (n := 0) (by omega) (by omega)) dL_law_15 ?_
    refine W.eq (g2 := F0 m 16 ls [.int (xs 0)]) (by rw [show Int32.toNatClampNeg 0 = 0 from nI_clamp (n := 0) (by omega)]) ?_
    refine lv_goto (tgt := 21) hx hb dL_law_16 (by decide) ?_
    have hPq := hP.sub (ws' := [(q1, .inr (11, [.ref nr_2, .ref st_2, .ref lf_2, .int 0, .int 0, .int 0, .int (-1), .int 0])), (nr_2, .inl (cN_2, 8, .inr (.inr (.inr (.inr fn_2))))), (st_2, .inr (8, [.ref ml_2, .null])), (ml_2, .inr (0, [.int 0, .ref zt, .int 0])), (lf_2, .inr (2, [.int 0, .int 0, .int 0, .null]))]) [0, 1, 2, 3, 4] rfl
    have hDq := hD.sub (ws' := [(q1, .inr (11, [.ref nr_2, .ref st_2, .ref lf_2, .int 0, .int 0, .int 0, .int (-1), .int 0])), (nr_2, .inl (cN_2, 8, .inr (.inr (.inr (.inr fn_2))))), (st_2, .inr (8, [.ref ml_2, .null])), (ml_2, .inr (0, [.int 0, .ref zt, .int 0])), (lf_2, .inr (2, [.int 0, .int 0, .int 0, .null]))]) [0, 1, 2, 3, 4] (by decide +kernel) rfl
    have hKq := hK.sub (tys' := [(cN_2, (.object RX4))]) [0] rfl
    have hlq : lv_has ls 19 [(0, .ref b), (1, .ref q1)] := lv_sub hl [1, 0] rfl
    exact law_start hL C0 hE hZ hTz (x := q1) (nr := nr_2) (st := st_2) (lf := lf_2) (cN := cN_2) (fn := fn_2) (ml := ml_2) (xv := (xs 0)) (n0 := n0_2) (n1 := n1_2) (hcs := (⟨by omega, by omega⟩))  (hK := hKq) (hP := hPq) (hD := hDq) (hS := hS) (hl := hlq)
