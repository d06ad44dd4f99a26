set_option maxHeartbeats 4000000 in
set_option maxRecDepth 100000 in
theorem law_end {p : Program} {e : Env} {s : State} {m : MethodId} {below : List Frame} {meth : Method} {c : Code} {l : Launch} {b L : Nat} {xs : Nat → Int32} (hL : L ≤ 6) (C0 : lw_At p s m meth c b L xs) {H : Heap} {locs : List Loc} {cells slots : Nat} {ls : Array Slot} (hc : cells ≤ 600000) (hs : slots ≤ 7302250) (hS : va_S (fun q : Nat => s.heap.size ≤ q) s.heap H locs) (hl : lv_has ls 4 [(3, .int 6), (0, .ref b)]) : W p l e room_1 s m #[Value.ref b] below meth c H locs cells slots (lw_Z below #[Value.ref b] s) (F0 m 18 ls []) := by
  obtain ⟨hx, hb, hr, hml, hown0, hts0, hX, hbl, hlocks, hgv⟩ := id C0
  have hown : s.vm.findClass RL = some m.cls := hown0
  have hts : ∀ w ∈ v_law, w.before #[Value.ref b] s = true := fun w h => hts0 w (v_law_in w h)
  have hA : ∀ q : Nat, s.heap.size ≤ q → (fun q : Nat => s.heap.size ≤ q) q := fun _ h => h
  have hbA : ¬ (fun q : Nat => s.heap.size ≤ q) b := Nat.not_le.mpr hbl
  refine lv_iload_n hx hb dL_law_18 rfl (lv_at hl 0 rfl) ?_
  refine lv_aload_n hx hb dL_law_19 rfl (lv_at hl 1 rfl) ?_
  refine va_slen hx hb hX hbl hbA hS dL_law_20 ?_
  refine lv_bipush (v := 6) hx hb dL_law_21 (by decide) ?_
  refine lv_isub hx hb dL_law_23 ?_
  refine lv_topi (fun x_1 ex_1 => ?_)
  refine lv_icmp_gt (tgt := 692) hx hb dL_law_24 (by decide) (fun c_2 => ?_) (fun c_2 => ?_)
  rotate_left
  · exact absurd (show x_1 < 6 from by rw [ex_1]; rcases (by omega : L = 0 ∨ L = 1 ∨ L = 2 ∨ L = 3 ∨ L = 4 ∨ L = 5 ∨ L = 6) with rfl | rfl | rfl | rfl | rfl | rfl | rfl <;> decide) c_2
  refine lv_iconst (v := 1) hx hb dL_law_692 (by decide) ?_
  refine va_forget (fun q hq => hS.2.2 q hq) ?_
  refine W.widen (k := 600000) (n := 7302250) hc hs ?_
  exact lw_ret hx hb hr hlocks dL_law_693
set_option maxHeartbeats 8000000 in
set_option maxRecDepth 100000 in
/-- THE LAW, from its entry -/
theorem whole_start {p : Program} {e : Env} {s : State} {m : MethodId} {below : List Frame} {meth : Method} {c : Code} (l : Launch) (hflags : l.flags = flags0) {b L : Nat} {xs : Nat → Int32} (hL : L ≤ 6) (C0 : lw_At p s m meth c b L xs) : W p l e room_1 s m #[Value.ref b] below meth c s.heap [] 0 0 (lw_Z below #[Value.ref b] s) (entryFrame m ([Value.ref b] : List Value).toArray 4) := by
  obtain ⟨hx, hb, hr, hml, hown0, hts0, hX, hbl, hlocks, hgv⟩ := id C0
  have hown : s.vm.findClass RL = some m.cls := hown0
  have hts : ∀ w ∈ v_law, w.before #[Value.ref b] s = true := fun w h => hts0 w (v_law_in w h)
  have hA : ∀ q : Nat, s.heap.size ≤ q → (fun q : Nat => s.heap.size ≤ q) q := fun _ h => h
  have hbA : ¬ (fun q : Nat => s.heap.size ≤ q) b := Nat.not_le.mpr hbl
  obtain ⟨kc0, ki0, hKn0⟩ := u_known (C := RJx4a65c) (T := TJx4a65c) (N := 3) (n := 3) hts in_law_Jx4a65c (hts (.instantiable RJx4a65c 3) (List.mem_of_getElem? (i := 0) rfl))
  obtain ⟨kc1, ki1, hKn1⟩ := u_known (C := RX0) (T := TX0) (N := 2) (n := 2) hts in_law_X0 (hts (.instantiable RX0 2) (List.mem_of_getElem? (i := 1) rfl))
  obtain ⟨kc2, ki2, hKn2⟩ := u_known (C := RX1) (T := TX1) (N := 4) (n := 4) hts in_law_X1 (hts (.instantiable RX1 4) (List.mem_of_getElem? (i := 2) rfl))
  obtain ⟨kc3, ki3, hKn3⟩ := u_known (C := RX2) (T := TX2) (N := 4) (n := 4) hts in_law_X2 (hts (.instantiable RX2 4) (List.mem_of_getElem? (i := 3) rfl))
  obtain ⟨kc4, ki4, hKn4⟩ := u_known (C := RX3) (T := TX3) (N := 6) (n := 6) hts in_law_X3 (hts (.instantiable RX3 6) (List.mem_of_getElem? (i := 4) rfl))
  obtain ⟨kc5, ki5, hKn5⟩ := u_known (C := RX4) (T := TX4) (N := 18) (n := 18) hts in_law_X4 (hts (.instantiable RX4 18) (List.mem_of_getElem? (i := 5) rfl))
  obtain ⟨kc6, ki6, hKn6⟩ := u_known (C := RX5) (T := TX5) (N := 12) (n := 12) hts in_law_X5 (hts (.instantiable RX5 12) (List.mem_of_getElem? (i := 6) rfl))
  obtain ⟨kc7, ki7, hKn7⟩ := u_known (C := RX6) (T := TX6) (N := 4) (n := 4) hts in_law_X6 (hts (.instantiable RX6 4) (List.mem_of_getElem? (i := 7) rfl))
  obtain ⟨kc8, ki8, hKn8⟩ := u_known (C := RX7) (T := TX7) (N := 2) (n := 2) hts in_law_X7 (hts (.instantiable RX7 2) (List.mem_of_getElem? (i := 8) rfl))
  obtain ⟨kc9, ki9, hKn9⟩ := u_known (C := RX8) (T := TX8) (N := 1) (n := 1) hts in_law_X8 (hts (.instantiable RX8 1) (List.mem_of_getElem? (i := 9) rfl))
  obtain ⟨kc10, ki10, hKn10⟩ := u_known (C := RX9) (T := TX9) (N := 14) (n := 14) hts in_law_X9 (hts (.instantiable RX9 14) (List.mem_of_getElem? (i := 10) rfl))
  obtain ⟨kc11, ki11, hKn11⟩ := u_known (C := RX10) (T := TX10) (N := 8) (n := 8) hts in_law_X10 (hts (.instantiable RX10 8) (List.mem_of_getElem? (i := 11) rfl))
  obtain ⟨kc12, ki12, hKn12⟩ := u_known (C := RX11) (T := TX11) (N := 63) (n := 63) hts in_law_X11 (hts (.instantiable RX11 63) (List.mem_of_getElem? (i := 12) rfl))
  obtain ⟨dC, dI, hKc0⟩ : ∃ (dC : Nat → ClassId) (dI : Nat → Nat → Nat), ∀ (k : Nat) (q : vw_C), vwCl[k]? = some q → u_Kn s q.1 q.2.1 q.2.2 (dC k) (dI k) := by
    refine ⟨fun k => ([kc0, kc1, kc2, kc3, kc4, kc5, kc6, kc7, kc8, kc9, kc10, kc11, kc12] : List ClassId).getD k kc0, fun k => ([ki0, ki1, ki2, ki3, ki4, ki5, ki6, ki7, ki8, ki9, ki10, ki11, ki12] : List (Nat → Nat)).getD k ki0, ?_⟩
    intro k q hq
    match k, hq with
    | 0, hq => cases hq; exact hKn0
    | 1, hq => cases hq; exact hKn1
    | 2, hq => cases hq; exact hKn2
    | 3, hq => cases hq; exact hKn3
    | 4, hq => cases hq; exact hKn4
    | 5, hq => cases hq; exact hKn5
    | 6, hq => cases hq; exact hKn6
    | 7, hq => cases hq; exact hKn7
    | 8, hq => cases hq; exact hKn8
    | 9, hq => cases hq; exact hKn9
    | 10, hq => cases hq; exact hKn10
    | 11, hq => cases hq; exact hKn11
    | 12, hq => cases hq; exact hKn12
    | k + 13, hq => simp [vwCl] at hq
  have hS : va_S (fun q : Nat => s.heap.size ≤ q) s.heap s.heap [] := va_S.rf
  have hK : va_K (dC, dI) vwCl [] s := ⟨hKc0, fun k q h => by simp at h⟩
  have hP : va_P (dC, dI) vwCl [] s.heap := p_nil
  have hD : va_D (fun q : Nat => s.heap.size ≤ q) [] := d_nil
  have hE : ev s := ⟨va_Nw.of rfl (hts0 (.methodLinkNest RX10 17 yX7_init "ClaimBus") (List.mem_append_right _ (List.mem_of_getElem? (i := 34) (by decide +kernel)))), va_Nw.of rfl (hts0 (.methodLinkNest RX10 24 yX1_init "ClaimBus") (List.mem_append_right _ (List.mem_of_getElem? (i := 73) (by decide +kernel)))), va_Nw.of rfl (hts0 (.methodLinkNest RX4 20 yX6_init "ClaimBus") (List.mem_append_right _ (List.mem_of_getElem? (i := 156) (by decide +kernel)))), va_Nw.of rfl (hts0 (.methodLinkNest RX4 27 yX2_init "ClaimBus") (List.mem_append_right _ (List.mem_of_getElem? (i := 180) (by decide +kernel)))), va_Nw.of rfl (hts0 (.methodLinkNest RX5 37 yX1_init "ClaimBus") (List.mem_append_right _ (List.mem_of_getElem? (i := 212) (by decide +kernel)))), va_AO.of (hts0 (.arrayOver (.object "ClaimBus$Node")) (List.mem_append_right _ (List.mem_of_getElem? (i := 31) (by decide +kernel)))), va_AO.of (hts0 (.arrayOver (.object "ClaimBus$Transport")) (List.mem_append_right _ (List.mem_of_getElem? (i := 202) (by decide +kernel)))), (hts0 (.arrayOver (.array .int)) (List.mem_append_right _ (List.mem_of_getElem? (i := 185) (by decide +kernel))))⟩
  have hZ : va_Zq "java/util/ArrayList" "DEFAULTCAPACITY_EMPTY_ELEMENTDATA" "[Ljava/lang/Object;" (fun q : Nat => s.heap.size ≤ q) s s.heap := va_Zqof (hts0 (.laysStatic "java/util/ArrayList" "DEFAULTCAPACITY_EMPTY_ELEMENTDATA" "[Ljava/lang/Object;") (List.mem_append_right _ (List.mem_of_getElem? (i := 51) (by decide +kernel)))) (hts (.initialized RJx4a65c) (List.mem_of_getElem? (i := 13) rfl)) (flat_of_before _ hgv (.isRef (.static "java/util/ArrayList" "DEFAULTCAPACITY_EMPTY_ELEMENTDATA" "[Ljava/lang/Object;")) (by decide +kernel)) (fun a ha => Nat.not_le.mpr ha)
  have hl := lv_entry ([.ref b]) (n := 4) (Nat.le_of_ble_eq_true rfl)
  rw [lg_entry_eq]
  generalize (lg_sl ([.ref b]) ++ List.replicate (4 - (lg_sl ([.ref b])).length) Slot.unset).toArray = ls at hl ⊢
  replace hl : lv_has ls 4 [(0, .ref b)] := hl
  refine va_new (ci := 11) (fs := [.null, .null, .null, .int 0, .int 0, .int 0, .int 0, .int 0]) (C := RX10) (T := TX10) (N := 8) hx hb hts in_law_X10 tyX10 tyX10_ok hown (hts (.classLink RL 7 RX10) (List.mem_of_getElem? (i := 14) rfl)) (hts (.instantiable RX10 8) (List.mem_of_getElem? (i := 11) rfl)) (hts (.initialized RX10) (List.mem_of_getElem? (i := 15) rfl)) hK hP hD hS hA rfl df_X10 (Nat.le_of_ble_eq_true rfl) (Nat.le_of_ble_eq_true rfl) dL_law_0 (fun q1 H hP hD hS => ?_)
  replace hP : va_P (dC, dI) vwCl [(q1, .inr (11, [.null, .null, .null, .int 0, .int 0, .int 0, .int 0, .int 0]))] H := hP
  replace hD : va_D (fun q : Nat => s.heap.size ≤ q) [(q1, .inr (11, [.null, .null, .null, .int 0, .int 0, .int 0, .int 0, .int 0]))] := hD
  refine W.widen (k := 1) (n := 8) (Nat.le_of_ble_eq_true rfl) (Nat.le_of_ble_eq_true rfl) ?_
  refine lv_dup hx hb dL_law_3 rfl ?_
  have hPc := hP.sub (ws' := [(q1, .inr (11, [.null, .null, .null, .int 0, .int 0, .int 0, .int 0, .int 0]))]) [0] rfl
  have hDc := hD.sub (ws' := [(q1, .inr (11, [.null, .null, .null, .int 0, .int 0, .int 0, .int 0, .int 0]))]) [0] (by decide) rfl
  have hKc := hK.sub (tys' := []) [] rfl
  have hFc := va_free (wc := [(q1, .inr (11, [.null, .null, .null, .int 0, .int 0, .int 0, .int 0, .int 0]))]) hD hS hA [0] rfl
  have hZc := (w_zq hZ hS).narrow (fun q h => hFc q h)
  refine va_callv (va_runI (As := []) (rest := [.ref q1]) ⟨hx, hb, hml, hown, hts⟩ (c_X10_init l dC dI (q1) H.size) (cwI 0 hts g_law_c_X10_init_9 rfl rfl rfl (hts (.initialized RX10) (List.mem_of_getElem? (i := 15) rfl)) (hts (.methodLink RL 9 yX10_init) (List.mem_of_getElem? (i := 61) rfl)) (hts (.instanceMethod yX10_init) (List.mem_of_getElem? (i := 62) rfl)) rfl (by decide +kernel) ⟨Nat.le_of_ble_eq_true rfl, Nat.le_of_ble_eq_true rfl⟩) ⟨fun a U g mk q => by obtain ⟨q0, q1, qP, qK, qD, qE, qZ⟩ := q; exact ⟨q0, q1, qP, va_K.moved (u := U) (U := U.calling g mk a) (Vm.Alike.refl U.vm) qK, qD, ev.same (u := U) (U := U.calling g mk a) rfl qE, va_Zq.moved (u := U) (U := U.calling g mk a) (Vm.Alike.refl U.vm) qZ⟩, fun U hU hW => ⟨rfl, by rw [hU], by rw [hU]; exact hPc, va_K.moved hW.alike hKc, hDc.weaken (fun _ _ _ _ => trivial), hE.warm hW, by rw [hU]; exact hZc.moved hW.alike⟩⟩ rfl rfl hl.1 rfl (lv_room (Nat.le_of_ble_eq_true rfl)) dL_law_4 ⟨Nat.le_of_ble_eq_true rfl, Nat.le_of_ble_eq_true rfl⟩) hS (fun q _ h => hFc q h) hFc (fun u t H1 locs ht hvm hw hB hz1 hk1 hS => ?_)
  clear hPc hDc hKc
  obtain ⟨n0, st, la, cN, hP1, hK1, hD1⟩ := hB
  rw [ht] at hP1
  have hK1 := va_K.moved hvm.symm hK1
  obtain ⟨hP, hD⟩ := va_join (wr := []) (w1 := [(q1, .inr (11, [.ref n0, .ref st, .ref la, .int 0, .int 0, .int 0, .int (-1), .int 0])), (n0, .inl (cN, 8, .inr (.inr (.inr (.inr (fun _ => none))))))]) hP hD [0] [] rfl rfl (by decide) (by decide) hk1 hFc hP1 hD1
  replace hK := hK.app hK1
  replace hK : va_K (dC, dI) vwCl [(cN, (.object RX4))] s := hK
  generalize H1 = H at hP hS ⊢
  replace hP : va_P (dC, dI) vwCl [(q1, .inr (11, [.ref n0, .ref st, .ref la, .int 0, .int 0, .int 0, .int (-1), .int 0])), (n0, .inl (cN, 8, .inr (.inr (.inr (.inr (fun _ => none))))))] H := hP
  replace hD : va_D (fun q : Nat => s.heap.size ≤ q) [(q1, .inr (11, [.ref n0, .ref st, .ref la, .int 0, .int 0, .int 0, .int (-1), .int 0])), (n0, .inl (cN, 8, .inr (.inr (.inr (.inr (fun _ => none))))))] := hD
  refine W.widen (k := 5) (n := 25) (Nat.le_of_ble_eq_true rfl) (Nat.le_of_ble_eq_true rfl) ?_
  refine lv_astore_n (lv' := [(1, .ref q1), (0, .ref b)]) hx hb dL_law_7 rfl hl (by decide) rfl (fun ls hl => ?_)
  refine va_new (ci := 12) (fs := [.int 0, .int 0, .null, .null, .null, .null, .null, .null, .null, .null, .null, .null, .null, .null, .null, .null, .null, .int 0, .int 0, .null, .null, .null, .null, .null, .null, .null, .null, .null, .null, .null, .null, .null, .null, .null, .null, .null, .null, .null, .null, .null, .null, .null, .null, .null, .null, .null, .int 0, .int 0, .int 0, .int 0, .int 0, .int 0, .int 0, .int 0, .null, .null, .null, .null, .null, .null, .int 0, .null, .null]) (C := RX11) (T := TX11) (N := 63) hx hb hts in_law_X11 tyX11 tyX11_ok hown (hts (.classLink RL 10 RX11) (List.mem_of_getElem? (i := 63) rfl)) (hts (.instantiable RX11 63) (List.mem_of_getElem? (i := 12) rfl)) (hts (.initialized RX11) (List.mem_of_getElem? (i := 64) rfl)) hK hP hD hS hA rfl df_X11 (Nat.le_of_ble_eq_true rfl) (Nat.le_of_ble_eq_true rfl) dL_law_8 (fun q3 H hP hD hS => ?_)
  replace hP : va_P (dC, dI) vwCl [(q1, .inr (11, [.ref n0, .ref st, .ref la, .int 0, .int 0, .int 0, .int (-1), .int 0])), (n0, .inl (cN, 8, .inr (.inr (.inr (.inr (fun _ => none)))))), (q3, .inr (12, [.int 0, .int 0, .null, .null, .null, .null, .null, .null, .null, .null, .null, .null, .null, .null, .null, .null, .null, .int 0, .int 0, .null, .null, .null, .null, .null, .null, .null, .null, .null, .null, .null, .null, .null, .null, .null, .null, .null, .null, .null, .null, .null, .null, .null, .null, .null, .null, .null, .int 0, .int 0, .int 0, .int 0, .int 0, .int 0, .int 0, .int 0, .null, .null, .null, .null, .null, .null, .int 0, .null, .null]))] H := hP
  replace hD : va_D (fun q : Nat => s.heap.size ≤ q) [(q1, .inr (11, [.ref n0, .ref st, .ref la, .int 0, .int 0, .int 0, .int (-1), .int 0])), (n0, .inl (cN, 8, .inr (.inr (.inr (.inr (fun _ => none)))))), (q3, .inr (12, [.int 0, .int 0, .null, .null, .null, .null, .null, .null, .null, .null, .null, .null, .null, .null, .null, .null, .null, .int 0, .int 0, .null, .null, .null, .null, .null, .null, .null, .null, .null, .null, .null, .null, .null, .null, .null, .null, .null, .null, .null, .null, .null, .null, .null, .null, .null, .null, .null, .int 0, .int 0, .int 0, .int 0, .int 0, .int 0, .int 0, .int 0, .null, .null, .null, .null, .null, .null, .int 0, .null, .null]))] := hD
  refine W.widen (k := 6) (n := 88) (Nat.le_of_ble_eq_true rfl) (Nat.le_of_ble_eq_true rfl) ?_
  refine lv_dup hx hb dL_law_11 rfl ?_
  have hPc := hP.sub (ws' := [(q3, .inr (12, [.int 0, .int 0, .null, .null, .null, .null, .null, .null, .null, .null, .null, .null, .null, .null, .null, .null, .null, .int 0, .int 0, .null, .null, .null, .null, .null, .null, .null, .null, .null, .null, .null, .null, .null, .null, .null, .null, .null, .null, .null, .null, .null, .null, .null, .null, .null, .null, .null, .int 0, .int 0, .int 0, .int 0, .int 0, .int 0, .int 0, .int 0, .null, .null, .null, .null, .null, .null, .int 0, .null, .null]))]) [2] rfl
  have hDc := hD.sub (ws' := [(q3, .inr (12, [.int 0, .int 0, .null, .null, .null, .null, .null, .null, .null, .null, .null, .null, .null, .null, .null, .null, .null, .int 0, .int 0, .null, .null, .null, .null, .null, .null, .null, .null, .null, .null, .null, .null, .null, .null, .null, .null, .null, .null, .null, .null, .null, .null, .null, .null, .null, .null, .null, .int 0, .int 0, .int 0, .int 0, .int 0, .int 0, .int 0, .int 0, .null, .null, .null, .null, .null, .null, .int 0, .null, .null]))]) [2] (by decide) rfl
  have hKc := hK.sub (tys' := []) [] rfl
  have hFc := va_free (wc := [(q3, .inr (12, [.int 0, .int 0, .null, .null, .null, .null, .null, .null, .null, .null, .null, .null, .null, .null, .null, .null, .null, .int 0, .int 0, .null, .null, .null, .null, .null, .null, .null, .null, .null, .null, .null, .null, .null, .null, .null, .null, .null, .null, .null, .null, .null, .null, .null, .null, .null, .null, .null, .int 0, .int 0, .int 0, .int 0, .int 0, .int 0, .int 0, .int 0, .null, .null, .null, .null, .null, .null, .int 0, .null, .null]))]) hD hS hA [2] rfl
  refine va_callv (va_runI (As := []) (rest := [.ref q3]) ⟨hx, hb, hml, hown, hts⟩ (c_X11_init l dC dI (q3) ([.int 0, .int 0, .null, .null, .null, .null, .null, .null, .null, .null, .null, .null, .null, .null, .null, .null, .null, .int 0, .int 0, .null, .null, .null, .null, .null, .null, .null, .null, .null, .null, .null, .null, .null, .null, .null, .null, .null, .null, .null, .null, .null, .null, .null, .null, .null, .null, .null, .int 0, .int 0, .int 0, .int 0, .int 0, .int 0, .int 0, .int 0, .null, .null, .null, .null, .null, .null, .int 0, .null, .null]) H.size (rfl) (rfl) (rfl) (rfl) (rfl) (rfl) (rfl) (rfl) (rfl)) (cwI 0 hts g_law_c_X11_init_12 rfl rfl rfl (hts (.initialized RX11) (List.mem_of_getElem? (i := 64) rfl)) (hts (.methodLink RL 12 yX11_init) (List.mem_of_getElem? (i := 125) rfl)) (hts (.instanceMethod yX11_init) (List.mem_of_getElem? (i := 126) rfl)) rfl (by decide +kernel) ⟨Nat.le_of_ble_eq_true rfl, Nat.le_of_ble_eq_true rfl⟩) ⟨fun a U g mk q => by obtain ⟨q0, q1, qP, qK, qD, qE⟩ := q; exact ⟨q0, q1, qP, va_K.moved (u := U) (U := U.calling g mk a) (Vm.Alike.refl U.vm) qK, qD, ev.same (u := U) (U := U.calling g mk a) rfl qE⟩, fun U hU hW => ⟨rfl, by rw [hU], by rw [hU]; exact hPc, va_K.moved hW.alike hKc, hDc.weaken (fun _ _ _ _ => trivial), hE.warm hW⟩⟩ rfl rfl hl.1 rfl (lv_room (Nat.le_of_ble_eq_true rfl)) dL_law_12 ⟨Nat.le_of_ble_eq_true rfl, Nat.le_of_ble_eq_true rfl⟩) hS (fun q _ h => hFc q h) hFc (fun u t H1 locs ht hvm hw hB hz1 hk1 hS => ?_)
  clear hPc hDc hKc
  obtain ⟨fs, a2, a3, a4, a5, a6, c2, c3, c4, c5, c6, hP1, hK1, hD1, hf0, hf1, hf2, hf3, hf4, hf5, hf6, hf46, hf47, hf48, hf49, hf50, hf51, hf52, hlen⟩ := hB
  rw [ht] at hP1
  have hK1 := va_K.moved hvm.symm hK1
  obtain ⟨hP, hD⟩ := va_join (wr := [(q1, .inr (11, [.ref n0, .ref st, .ref la, .int 0, .int 0, .int 0, .int (-1), .int 0])), (n0, .inl (cN, 8, .inr (.inr (.inr (.inr (fun _ => none))))))]) (w1 := [(q3, .inr (12, fs)), (a2, .inl (c2, 8, .inr (.inl (fun _ => 0)))), (a3, .inl (c3, 8, .inl (fun _ => 0))), (a4, .inl (c4, 8, .inl (fun _ => 0))), (a5, .inl (c5, 8, .inl (fun _ => 0))), (a6, .inl (c6, 8, .inl (fun _ => 0)))]) hP hD [2] [0, 1] rfl rfl (by decide) (by decide) hk1 hFc hP1 hD1
  replace hK := hK.app hK1
  replace hK : va_K (dC, dI) vwCl [(cN, (.object RX4)), (c2, .long), (c3, .int), (c4, .int), (c5, .boolean), (c6, .int)] s := hK
  generalize H1 = H at hP hS ⊢
  replace hP : va_P (dC, dI) vwCl [(q1, .inr (11, [.ref n0, .ref st, .ref la, .int 0, .int 0, .int 0, .int (-1), .int 0])), (n0, .inl (cN, 8, .inr (.inr (.inr (.inr (fun _ => none)))))), (q3, .inr (12, fs)), (a2, .inl (c2, 8, .inr (.inl (fun _ => 0)))), (a3, .inl (c3, 8, .inl (fun _ => 0))), (a4, .inl (c4, 8, .inl (fun _ => 0))), (a5, .inl (c5, 8, .inl (fun _ => 0))), (a6, .inl (c6, 8, .inl (fun _ => 0)))] H := hP
  replace hD : va_D (fun q : Nat => s.heap.size ≤ q) [(q1, .inr (11, [.ref n0, .ref st, .ref la, .int 0, .int 0, .int 0, .int (-1), .int 0])), (n0, .inl (cN, 8, .inr (.inr (.inr (.inr (fun _ => none)))))), (q3, .inr (12, fs)), (a2, .inl (c2, 8, .inr (.inl (fun _ => 0)))), (a3, .inl (c3, 8, .inl (fun _ => 0))), (a4, .inl (c4, 8, .inl (fun _ => 0))), (a5, .inl (c5, 8, .inl (fun _ => 0))), (a6, .inl (c6, 8, .inl (fun _ => 0)))] := hD
  refine W.widen (k := 56) (n := 1330088) (Nat.le_of_ble_eq_true rfl) (Nat.le_of_ble_eq_true rfl) ?_
  refine lv_astore_n (lv' := [(2, .ref q3), (1, .ref q1), (0, .ref b)]) hx hb dL_law_15 rfl hl (by decide) rfl (fun ls hl => ?_)
  refine lv_iconst (v := 0) hx hb dL_law_16 (by decide) ?_
  refine lv_istore_n (lv' := [(3, .int 0), (2, .ref q3), (1, .ref q1), (0, .ref b)]) hx hb dL_law_17 rfl hl (by decide) rfl (fun ls hl => ?_)
  refine lv_iload_n hx hb dL_law_18 rfl (lv_at hl 0 rfl) ?_
  refine lv_aload_n hx hb dL_law_19 rfl (lv_at hl 3 rfl) ?_
  refine va_slen hx hb hX hbl hbA hS dL_law_20 ?_
  refine lv_bipush (v := 6) hx hb dL_law_21 (by decide) ?_
  refine lv_isub hx hb dL_law_23 ?_
  refine lv_topi (fun x_5 ex_5 => ?_)
  refine lv_icmp_gt (tgt := 692) hx hb dL_law_24 (by decide) (fun c_6 => ?_) (fun c_6 => ?_)
  · refine lv_iconst (v := 1) hx hb dL_law_692 (by decide) ?_
    refine va_forget (fun q hq => hS.2.2 q hq) ?_
    refine W.widen (k := 600000) (n := 7302250) (Nat.le_of_ble_eq_true rfl) (Nat.le_of_ble_eq_true rfl) ?_
    exact lw_ret hx hb hr hlocks dL_law_693
  · obtain rfl : L = 6 := by
      rcases (by omega : L = 0 ∨ L = 1 ∨ L = 2 ∨ L = 3 ∨ L = 4 ∨ L = 5 ∨ L = 6) with rfl | rfl | rfl | rfl | rfl | rfl | rfl <;> first | rfl | exact absurd (show x_5 < 0 from by rw [ex_5]; decide) c_6
    refine lv_aload_n hx hb dL_law_27 rfl (lv_at hl 3 rfl) ?_
    refine lv_iload_n hx hb dL_law_28 rfl (lv_at hl 0 rfl) ?_
    refine va_sld hx hb hX hbl hbA hS (show ¬ ((0 : Int32) < 0 ∨ 6 ≤ (0 : Int32).toNatClampNeg) by decide) dL_law_29 ?_
    refine lv_bipush (v := 15) hx hb dL_law_30 (by decide) ?_
    refine lv_iand hx hb dL_law_32 ?_
    refine lv_topi (fun x_7 ex_7 => ?_)
    rcases (by omega : x_7.toInt < 0 ∨ x_7.toInt = 0 ∨ x_7.toInt = 1 ∨ x_7.toInt = 2 ∨ x_7.toInt = 3 ∨ x_7.toInt = 4 ∨ x_7.toInt = 5 ∨ x_7.toInt = 6 ∨ x_7.toInt = 7 ∨ x_7.toInt = 8 ∨ x_7.toInt = 9 ∨ x_7.toInt = 10 ∨ x_7.toInt = 11 ∨ x_7.toInt = 12 ∨ x_7.toInt = 13 ∨ x_7.toInt = 14 ∨ x_7.toInt = 15 ∨ 15 < x_7.toInt) with c_8 | c_8 | c_8 | c_8 | c_8 | c_8 | c_8 | c_8 | c_8 | c_8 | c_8 | c_8 | c_8 | c_8 | c_8 | c_8 | c_8 | c_8
    · refine lv_tableOut (tgt := 686) hx hb dL_law_33 (Or.inl c_8) (by decide) ?_
      refine lv_iinc (v := 6) (lv' := [(3, .int 6), (2, .ref q3), (1, .ref q1), (0, .ref b)]) hx hb dL_law_686 hl (k := 0) rfl (by decide) (by decide) rfl (fun ls hl => ?_)
      refine lv_goto (tgt := 18) hx hb dL_law_689 (by decide) ?_
      exact law_end hL C0 (Nat.le_of_ble_eq_true rfl) (Nat.le_of_ble_eq_true rfl) hS (lv_sub hl [0, 3] rfl)
    · obtain rfl : x_7 = 0 := Int32.toInt_inj.mp (c_8.trans (by decide))
      refine lv_tableIn (tgt := 112) hx hb dL_law_33 (by decide) (by decide) rfl (by decide) ?_
      refine lv_aload_n hx hb dL_law_112 rfl (lv_at hl 2 rfl) ?_
      refine lv_aload_n hx hb dL_law_113 rfl (lv_at hl 3 rfl) ?_
      refine lv_iload_n hx hb dL_law_114 rfl (lv_at hl 0 rfl) ?_
      refine lv_iconst (v := 1) hx hb dL_law_115 (by decide) ?_
      refine lv_iadd hx hb dL_law_116 ?_
      refine lv_topi (fun x_9 ex_9 => ?_)
      obtain rfl : x_9 = 1 := ex_9.trans (by decide)
      refine va_sld hx hb hX hbl hbA hS (show ¬ ((1 : Int32) < 0 ∨ 6 ≤ (1 : Int32).toNatClampNeg) by decide) dL_law_117 ?_
      refine lv_aload_n hx hb dL_law_118 rfl (lv_at hl 3 rfl) ?_
      refine lv_iload_n hx hb dL_law_119 rfl (lv_at hl 0 rfl) ?_
      refine lv_iconst (v := 2) hx hb dL_law_120 (by decide) ?_
      refine lv_iadd hx hb dL_law_121 ?_
      refine lv_topi (fun x_10 ex_10 => ?_)
      obtain rfl : x_10 = 2 := ex_10.trans (by decide)
      refine va_sld hx hb hX hbl hbA hS (show ¬ ((2 : Int32) < 0 ∨ 6 ≤ (2 : Int32).toNatClampNeg) by decide) dL_law_122 ?_
      refine lv_aload_n hx hb dL_law_123 rfl (lv_at hl 3 rfl) ?_
      refine lv_iload_n hx hb dL_law_124 rfl (lv_at hl 0 rfl) ?_
      refine lv_iconst (v := 3) hx hb dL_law_125 (by decide) ?_
      refine lv_iadd hx hb dL_law_126 ?_
      refine lv_topi (fun x_11 ex_11 => ?_)
      obtain rfl : x_11 = 3 := ex_11.trans (by decide)
      refine va_sld hx hb hX hbl hbA hS (show ¬ ((3 : Int32) < 0 ∨ 6 ≤ (3 : Int32).toNatClampNeg) by decide) dL_law_127 ?_
      refine lv_aload_n hx hb dL_law_128 rfl (lv_at hl 3 rfl) ?_
      refine lv_iload_n hx hb dL_law_129 rfl (lv_at hl 0 rfl) ?_
      refine lv_iconst (v := 4) hx hb dL_law_130 (by decide) ?_
      refine lv_iadd hx hb dL_law_131 ?_
      refine lv_topi (fun x_12 ex_12 => ?_)
      obtain rfl : x_12 = 4 := ex_12.trans (by decide)
      refine va_sld hx hb hX hbl hbA hS (show ¬ ((4 : Int32) < 0 ∨ 6 ≤ (4 : Int32).toNatClampNeg) by decide) dL_law_132 ?_
      refine lv_if_eq (tgt := 140) hx hb dL_law_133 (by decide) (fun c_13 => ?_) (fun c_13 => ?_)
      · refine lv_iconst (v := 0) hx hb dL_law_140 (by decide) ?_
        refine lv_aload_n hx hb dL_law_141 rfl (lv_at hl 3 rfl) ?_
        refine lv_iload_n hx hb dL_law_142 rfl (lv_at hl 0 rfl) ?_
        refine lv_iconst (v := 5) hx hb dL_law_143 (by decide) ?_
        refine lv_iadd hx hb dL_law_144 ?_
        refine lv_topi (fun x_14 ex_14 => ?_)
        obtain rfl : x_14 = 5 := ex_14.trans (by decide)
        refine va_sld hx hb hX hbl hbA hS (show ¬ ((5 : Int32) < 0 ∨ 6 ≤ (5 : Int32).toNatClampNeg) by decide) dL_law_145 ?_
        have hPc := hP.sub (ws' := [(q1, .inr (11, [.ref n0, .ref st, .ref la, .int 0, .int 0, .int 0, .int (-1), .int 0])), (n0, .inl (cN, 8, .inr (.inr (.inr (.inr (fun _ => none))))))]) [0, 1] rfl
        have hDc := hD.sub (ws' := [(q1, .inr (11, [.ref n0, .ref st, .ref la, .int 0, .int 0, .int 0, .int (-1), .int 0])), (n0, .inl (cN, 8, .inr (.inr (.inr (.inr (fun _ => none))))))]) [0, 1] (by decide) rfl
        have hKc := hK.sub (tys' := [(cN, (.object RX4))]) [0] rfl
        have hFc := va_free (wc := [(q1, .inr (11, [.ref n0, .ref st, .ref la, .int 0, .int 0, .int 0, .int (-1), .int 0])), (n0, .inl (cN, 8, .inr (.inr (.inr (.inr (fun _ => none))))))]) hD hS hA [0, 1] rfl
        have hZc := (w_zq hZ hS).narrow (fun q h => hFc q h)
        refine va_calli (va_runV (As := [.int (xs (Int32.toNatClampNeg 1)), .int (xs (Int32.toNatClampNeg 2)), .int (xs (Int32.toNatClampNeg 3)), .int 0, .int (xs (Int32.toNatClampNeg 5))]) (rest := []) ⟨hx, hb, hml, hown, hts⟩ (c_X10_node l dC dI (q1) (n0) (st) (la) (cN) ((xs (Int32.toNatClampNeg 1))) ((xs (Int32.toNatClampNeg 2))) ((xs (Int32.toNatClampNeg 3))) (0) ((xs (Int32.toNatClampNeg 5))) H.size (rfl) (rfl)) (cwV 5 hts g_law_c_X10_node_13 rfl rfl rfl (by decide +kernel) ⟨Nat.le_of_ble_eq_true rfl, Nat.le_of_ble_eq_true rfl⟩) ⟨fun a U g mk q => by obtain ⟨q0, q1, qP, qK, qD, qE, qZ⟩ := q; exact ⟨q0, q1, qP, va_K.moved (u := U) (U := U.calling g mk a) (Vm.Alike.refl U.vm) qK, qD, ev.same (u := U) (U := U.calling g mk a) rfl qE, va_Zq.moved (u := U) (U := U.calling g mk a) (Vm.Alike.refl U.vm) qZ⟩, va_recv hKc hPc (ci := 11) (q0 := 0) rfl rfl, fun U hU hW => ⟨rfl, by rw [hU], by rw [hU]; exact hPc, va_K.moved hW.alike hKc, hDc.weaken (fun _ _ _ _ => trivial), hE.warm hW, by rw [hU]; exact hZc.moved hW.alike⟩⟩ rfl rfl hl.1 rfl (lv_room (Nat.le_of_ble_eq_true rfl)) dL_law_146 ⟨Nat.le_of_ble_eq_true rfl, Nat.le_of_ble_eq_true rfl⟩) hS (fun q _ h => hFc q h) hFc (fun r_15 u t H1 locs ht hvm hw hB hz1 hk1 hS => ?_)
        clear hPc hDc hKc
        obtain ⟨hP, hD⟩ := va_join (wr := [(q3, .inr (12, fs)), (a2, .inl (c2, 8, .inr (.inl (fun _ => 0)))), (a3, .inl (c3, 8, .inl (fun _ => 0))), (a4, .inl (c4, 8, .inl (fun _ => 0))), (a5, .inl (c5, 8, .inl (fun _ => 0))), (a6, .inl (c6, 8, .inl (fun _ => 0)))]) (w1 := []) hP hD [0, 1] [2, 3, 4, 5, 6, 7] rfl rfl (by decide) (by decide) hk1 hFc p_nil d_nil
        generalize H1 = H at hP hS ⊢
        replace hP : va_P (dC, dI) vwCl [(q3, .inr (12, fs)), (a2, .inl (c2, 8, .inr (.inl (fun _ => 0)))), (a3, .inl (c3, 8, .inl (fun _ => 0))), (a4, .inl (c4, 8, .inl (fun _ => 0))), (a5, .inl (c5, 8, .inl (fun _ => 0))), (a6, .inl (c6, 8, .inl (fun _ => 0)))] H := hP
        replace hD : va_D (fun q : Nat => s.heap.size ≤ q) [(q3, .inr (12, fs)), (a2, .inl (c2, 8, .inr (.inl (fun _ => 0)))), (a3, .inl (c3, 8, .inl (fun _ => 0))), (a4, .inl (c4, 8, .inl (fun _ => 0))), (a5, .inl (c5, 8, .inl (fun _ => 0))), (a6, .inl (c6, 8, .inl (fun _ => 0)))] := hD
        refine W.widen (k := 68) (n := 1330489) (Nat.le_of_ble_eq_true rfl) (Nat.le_of_ble_eq_true rfl) ?_
        have er_15 := hw
        clear hw
        refine lv_aload_n hx hb dL_law_149 rfl (lv_at hl 1 rfl) ?_
        refine lv_aload_n hx hb dL_law_150 rfl (lv_at hl 3 rfl) ?_
        refine lv_iload_n hx hb dL_law_151 rfl (lv_at hl 0 rfl) ?_
        refine lv_iconst (v := 1) hx hb dL_law_152 (by decide) ?_
        refine lv_iadd hx hb dL_law_153 ?_
        refine lv_topi (fun x_16 ex_16 => ?_)
        obtain rfl : x_16 = 1 := ex_16.trans (by decide)
        refine va_sld hx hb hX hbl hbA hS (show ¬ ((1 : Int32) < 0 ∨ 6 ≤ (1 : Int32).toNatClampNeg) by decide) dL_law_154 ?_
        refine lv_aload_n hx hb dL_law_155 rfl (lv_at hl 3 rfl) ?_
        refine lv_iload_n hx hb dL_law_156 rfl (lv_at hl 0 rfl) ?_
        refine lv_iconst (v := 2) hx hb dL_law_157 (by decide) ?_
        refine lv_iadd hx hb dL_law_158 ?_
        refine lv_topi (fun x_17 ex_17 => ?_)
        obtain rfl : x_17 = 2 := ex_17.trans (by decide)
        refine va_sld hx hb hX hbl hbA hS (show ¬ ((2 : Int32) < 0 ∨ 6 ≤ (2 : Int32).toNatClampNeg) by decide) dL_law_159 ?_
        refine lv_aload_n hx hb dL_law_160 rfl (lv_at hl 3 rfl) ?_
        refine lv_iload_n hx hb dL_law_161 rfl (lv_at hl 0 rfl) ?_
        refine lv_iconst (v := 3) hx hb dL_law_162 (by decide) ?_
        refine lv_iadd hx hb dL_law_163 ?_
        refine lv_topi (fun x_18 ex_18 => ?_)
        obtain rfl : x_18 = 3 := ex_18.trans (by decide)
        refine va_sld hx hb hX hbl hbA hS (show ¬ ((3 : Int32) < 0 ∨ 6 ≤ (3 : Int32).toNatClampNeg) by decide) dL_law_164 ?_
        refine lv_aload_n hx hb dL_law_165 rfl (lv_at hl 3 rfl) ?_
        refine lv_iload_n hx hb dL_law_166 rfl (lv_at hl 0 rfl) ?_
        refine lv_iconst (v := 4) hx hb dL_law_167 (by decide) ?_
        refine lv_iadd hx hb dL_law_168 ?_
        refine lv_topi (fun x_19 ex_19 => ?_)
        obtain rfl : x_19 = 4 := ex_19.trans (by decide)
        refine va_sld hx hb hX hbl hbA hS (show ¬ ((4 : Int32) < 0 ∨ 6 ≤ (4 : Int32).toNatClampNeg) by decide) dL_law_169 ?_
        refine lv_if_eq (tgt := 177) hx hb dL_law_170 (by decide) (fun c_20 => ?_) (fun c_20 => ?_)
        rotate_left
        · exact absurd c_13 c_20
        refine lv_iconst (v := 0) hx hb dL_law_177 (by decide) ?_
        refine lv_aload_n hx hb dL_law_178 rfl (lv_at hl 3 rfl) ?_
        refine lv_iload_n hx hb dL_law_179 rfl (lv_at hl 0 rfl) ?_
        refine lv_iconst (v := 5) hx hb dL_law_180 (by decide) ?_
        refine lv_iadd hx hb dL_law_181 ?_
        refine lv_topi (fun x_21 ex_21 => ?_)
        obtain rfl : x_21 = 5 := ex_21.trans (by decide)
        refine va_sld hx hb hX hbl hbA hS (show ¬ ((5 : Int32) < 0 ∨ 6 ≤ (5 : Int32).toNatClampNeg) by decide) dL_law_182 ?_
        have hPc := hP.sub (ws' := [(q3, .inr (12, fs)), (a2, .inl (c2, 8, .inr (.inl (fun _ => 0)))), (a3, .inl (c3, 8, .inl (fun _ => 0))), (a4, .inl (c4, 8, .inl (fun _ => 0))), (a5, .inl (c5, 8, .inl (fun _ => 0))), (a6, .inl (c6, 8, .inl (fun _ => 0)))]) [0, 1, 2, 3, 4, 5] rfl
        have hDc := hD.sub (ws' := [(q3, .inr (12, fs)), (a2, .inl (c2, 8, .inr (.inl (fun _ => 0)))), (a3, .inl (c3, 8, .inl (fun _ => 0))), (a4, .inl (c4, 8, .inl (fun _ => 0))), (a5, .inl (c5, 8, .inl (fun _ => 0))), (a6, .inl (c6, 8, .inl (fun _ => 0)))]) [0, 1, 2, 3, 4, 5] (by decide) rfl
        have hKc := hK.sub (tys' := [(c2, .long), (c3, .int), (c4, .int), (c5, .boolean), (c6, .int)]) [1, 2, 3, 4, 5] rfl
        have hFc := va_free (wc := [(q3, .inr (12, fs)), (a2, .inl (c2, 8, .inr (.inl (fun _ => 0)))), (a3, .inl (c3, 8, .inl (fun _ => 0))), (a4, .inl (c4, 8, .inl (fun _ => 0))), (a5, .inl (c5, 8, .inl (fun _ => 0))), (a6, .inl (c6, 8, .inl (fun _ => 0)))]) hD hS hA [0, 1, 2, 3, 4, 5] rfl
        refine va_calli (va_runV (As := [.int (xs (Int32.toNatClampNeg 1)), .int (xs (Int32.toNatClampNeg 2)), .int (xs (Int32.toNatClampNeg 3)), .int 0, .int (xs (Int32.toNatClampNeg 5))]) (rest := [.int r_15]) ⟨hx, hb, hml, hown, hts⟩ (c_X11_node l dC dI (q3) (fs) (a2) (a3) (a4) (a5) (a6) (c2) (c3) (c4) (c5) (c6) ((fun _ => 0)) ((fun _ => 0)) ((fun _ => 0)) ((fun _ => 0)) ((fun _ => 0)) ((xs (Int32.toNatClampNeg 1))) ((xs (Int32.toNatClampNeg 2))) ((xs (Int32.toNatClampNeg 3))) (0) ((xs (Int32.toNatClampNeg 5))) H.size (hf0) (hf2) (hf3) (hf4) (hf5) (hf6) (hlen)) (cwV 5 hts g_law_c_X11_node_17 rfl rfl rfl (by decide +kernel) ⟨Nat.le_of_ble_eq_true rfl, Nat.le_of_ble_eq_true rfl⟩) ⟨fun a U g mk q => by obtain ⟨q0, q1, qP, qK, qD, qE⟩ := q; exact ⟨q0, q1, qP, va_K.moved (u := U) (U := U.calling g mk a) (Vm.Alike.refl U.vm) qK, qD, ev.same (u := U) (U := U.calling g mk a) rfl qE⟩, va_recv hKc hPc (ci := 12) (q0 := 0) rfl rfl, fun U hU hW => ⟨rfl, by rw [hU], by rw [hU]; exact hPc, va_K.moved hW.alike hKc, hDc.weaken (fun _ _ _ _ => trivial), hE.warm hW⟩⟩ rfl rfl hl.1 rfl (lv_room (Nat.le_of_ble_eq_true rfl)) dL_law_183 ⟨Nat.le_of_ble_eq_true rfl, Nat.le_of_ble_eq_true rfl⟩) hS (fun q _ h => hFc q h) hFc (fun r_22 u t H1 locs ht hvm hw hB hz1 hk1 hS => ?_)
        clear hPc hDc hKc
        obtain ⟨hP, hD⟩ := va_join (wr := []) (w1 := []) hP hD [0, 1, 2, 3, 4, 5] [] rfl rfl (by decide) (by decide) hk1 hFc p_nil d_nil
        generalize H1 = H at hP hS ⊢
        replace hP : va_P (dC, dI) vwCl [] H := hP
        replace hD : va_D (fun q : Nat => s.heap.size ≤ q) [] := hD
        have er_22 := hw
        clear hw
        refine lv_icmp_eq (tgt := 686) hx hb dL_law_186 (by decide) (fun c_23 => ?_) (fun c_23 => ?_)
        rotate_left
        · exact absurd (er_15.trans er_22.symm) c_23
        refine lv_iinc (v := 6) (lv' := [(3, .int 6), (2, .ref q3), (1, .ref q1), (0, .ref b)]) hx hb dL_law_686 hl (k := 0) rfl (by decide) (by decide) rfl (fun ls hl => ?_)
        refine lv_goto (tgt := 18) hx hb dL_law_689 (by decide) ?_
        exact law_end hL C0 (Nat.le_of_ble_eq_true rfl) (Nat.le_of_ble_eq_true rfl) hS (lv_sub hl [0, 3] rfl)
      · refine lv_iconst (v := 1) hx hb dL_law_136 (by decide) ?_
        refine lv_goto (tgt := 141) hx hb dL_law_137 (by decide) ?_
        refine lv_aload_n hx hb dL_law_141 rfl (lv_at hl 3 rfl) ?_
        refine lv_iload_n hx hb dL_law_142 rfl (lv_at hl 0 rfl) ?_
        refine lv_iconst (v := 5) hx hb dL_law_143 (by decide) ?_
        refine lv_iadd hx hb dL_law_144 ?_
        refine lv_topi (fun x_24 ex_24 => ?_)
        obtain rfl : x_24 = 5 := ex_24.trans (by decide)
        refine va_sld hx hb hX hbl hbA hS (show ¬ ((5 : Int32) < 0 ∨ 6 ≤ (5 : Int32).toNatClampNeg) by decide) dL_law_145 ?_
        have hPc := hP.sub (ws' := [(q1, .inr (11, [.ref n0, .ref st, .ref la, .int 0, .int 0, .int 0, .int (-1), .int 0])), (n0, .inl (cN, 8, .inr (.inr (.inr (.inr (fun _ => none))))))]) [0, 1] rfl
        have hDc := hD.sub (ws' := [(q1, .inr (11, [.ref n0, .ref st, .ref la, .int 0, .int 0, .int 0, .int (-1), .int 0])), (n0, .inl (cN, 8, .inr (.inr (.inr (.inr (fun _ => none))))))]) [0, 1] (by decide) rfl
        have hKc := hK.sub (tys' := [(cN, (.object RX4))]) [0] rfl
        have hFc := va_free (wc := [(q1, .inr (11, [.ref n0, .ref st, .ref la, .int 0, .int 0, .int 0, .int (-1), .int 0])), (n0, .inl (cN, 8, .inr (.inr (.inr (.inr (fun _ => none))))))]) hD hS hA [0, 1] rfl
        have hZc := (w_zq hZ hS).narrow (fun q h => hFc q h)
        refine va_calli (va_runV (As := [.int (xs (Int32.toNatClampNeg 1)), .int (xs (Int32.toNatClampNeg 2)), .int (xs (Int32.toNatClampNeg 3)), .int 1, .int (xs (Int32.toNatClampNeg 5))]) (rest := []) ⟨hx, hb, hml, hown, hts⟩ (c_X10_node l dC dI (q1) (n0) (st) (la) (cN) ((xs (Int32.toNatClampNeg 1))) ((xs (Int32.toNatClampNeg 2))) ((xs (Int32.toNatClampNeg 3))) (1) ((xs (Int32.toNatClampNeg 5))) H.size (rfl) (rfl)) (cwV 5 hts g_law_c_X10_node_13 rfl rfl rfl (by decide +kernel) ⟨Nat.le_of_ble_eq_true rfl, Nat.le_of_ble_eq_true rfl⟩) ⟨fun a U g mk q => by obtain ⟨q0, q1, qP, qK, qD, qE, qZ⟩ := q; exact ⟨q0, q1, qP, va_K.moved (u := U) (U := U.calling g mk a) (Vm.Alike.refl U.vm) qK, qD, ev.same (u := U) (U := U.calling g mk a) rfl qE, va_Zq.moved (u := U) (U := U.calling g mk a) (Vm.Alike.refl U.vm) qZ⟩, va_recv hKc hPc (ci := 11) (q0 := 0) rfl rfl, fun U hU hW => ⟨rfl, by rw [hU], by rw [hU]; exact hPc, va_K.moved hW.alike hKc, hDc.weaken (fun _ _ _ _ => trivial), hE.warm hW, by rw [hU]; exact hZc.moved hW.alike⟩⟩ rfl rfl hl.1 rfl (lv_room (Nat.le_of_ble_eq_true rfl)) dL_law_146 ⟨Nat.le_of_ble_eq_true rfl, Nat.le_of_ble_eq_true rfl⟩) hS (fun q _ h => hFc q h) hFc (fun r_25 u t H1 locs ht hvm hw hB hz1 hk1 hS => ?_)
        clear hPc hDc hKc
        obtain ⟨hP, hD⟩ := va_join (wr := [(q3, .inr (12, fs)), (a2, .inl (c2, 8, .inr (.inl (fun _ => 0)))), (a3, .inl (c3, 8, .inl (fun _ => 0))), (a4, .inl (c4, 8, .inl (fun _ => 0))), (a5, .inl (c5, 8, .inl (fun _ => 0))), (a6, .inl (c6, 8, .inl (fun _ => 0)))]) (w1 := []) hP hD [0, 1] [2, 3, 4, 5, 6, 7] rfl rfl (by decide) (by decide) hk1 hFc p_nil d_nil
        generalize H1 = H at hP hS ⊢
        replace hP : va_P (dC, dI) vwCl [(q3, .inr (12, fs)), (a2, .inl (c2, 8, .inr (.inl (fun _ => 0)))), (a3, .inl (c3, 8, .inl (fun _ => 0))), (a4, .inl (c4, 8, .inl (fun _ => 0))), (a5, .inl (c5, 8, .inl (fun _ => 0))), (a6, .inl (c6, 8, .inl (fun _ => 0)))] H := hP
        replace hD : va_D (fun q : Nat => s.heap.size ≤ q) [(q3, .inr (12, fs)), (a2, .inl (c2, 8, .inr (.inl (fun _ => 0)))), (a3, .inl (c3, 8, .inl (fun _ => 0))), (a4, .inl (c4, 8, .inl (fun _ => 0))), (a5, .inl (c5, 8, .inl (fun _ => 0))), (a6, .inl (c6, 8, .inl (fun _ => 0)))] := hD
        refine W.widen (k := 68) (n := 1330489) (Nat.le_of_ble_eq_true rfl) (Nat.le_of_ble_eq_true rfl) ?_
        have er_25 := hw
        clear hw
        refine lv_aload_n hx hb dL_law_149 rfl (lv_at hl 1 rfl) ?_
        refine lv_aload_n hx hb dL_law_150 rfl (lv_at hl 3 rfl) ?_
        refine lv_iload_n hx hb dL_law_151 rfl (lv_at hl 0 rfl) ?_
        refine lv_iconst (v := 1) hx hb dL_law_152 (by decide) ?_
        refine lv_iadd hx hb dL_law_153 ?_
        refine lv_topi (fun x_26 ex_26 => ?_)
        obtain rfl : x_26 = 1 := ex_26.trans (by decide)
        refine va_sld hx hb hX hbl hbA hS (show ¬ ((1 : Int32) < 0 ∨ 6 ≤ (1 : Int32).toNatClampNeg) by decide) dL_law_154 ?_
        refine lv_aload_n hx hb dL_law_155 rfl (lv_at hl 3 rfl) ?_
        refine lv_iload_n hx hb dL_law_156 rfl (lv_at hl 0 rfl) ?_
        refine lv_iconst (v := 2) hx hb dL_law_157 (by decide) ?_
        refine lv_iadd hx hb dL_law_158 ?_
        refine lv_topi (fun x_27 ex_27 => ?_)
        obtain rfl : x_27 = 2 := ex_27.trans (by decide)
        refine va_sld hx hb hX hbl hbA hS (show ¬ ((2 : Int32) < 0 ∨ 6 ≤ (2 : Int32).toNatClampNeg) by decide) dL_law_159 ?_
        refine lv_aload_n hx hb dL_law_160 rfl (lv_at hl 3 rfl) ?_
        refine lv_iload_n hx hb dL_law_161 rfl (lv_at hl 0 rfl) ?_
        refine lv_iconst (v := 3) hx hb dL_law_162 (by decide) ?_
        refine lv_iadd hx hb dL_law_163 ?_
        refine lv_topi (fun x_28 ex_28 => ?_)
        obtain rfl : x_28 = 3 := ex_28.trans (by decide)
        refine va_sld hx hb hX hbl hbA hS (show ¬ ((3 : Int32) < 0 ∨ 6 ≤ (3 : Int32).toNatClampNeg) by decide) dL_law_164 ?_
        refine lv_aload_n hx hb dL_law_165 rfl (lv_at hl 3 rfl) ?_
        refine lv_iload_n hx hb dL_law_166 rfl (lv_at hl 0 rfl) ?_
        refine lv_iconst (v := 4) hx hb dL_law_167 (by decide) ?_
        refine lv_iadd hx hb dL_law_168 ?_
        refine lv_topi (fun x_29 ex_29 => ?_)
        obtain rfl : x_29 = 4 := ex_29.trans (by decide)
        refine va_sld hx hb hX hbl hbA hS (show ¬ ((4 : Int32) < 0 ∨ 6 ≤ (4 : Int32).toNatClampNeg) by decide) dL_law_169 ?_
        refine lv_if_eq (tgt := 177) hx hb dL_law_170 (by decide) (fun c_30 => ?_) (fun c_30 => ?_)
        · exact absurd c_30 c_13
        refine lv_iconst (v := 1) hx hb dL_law_173 (by decide) ?_
        refine lv_goto (tgt := 178) hx hb dL_law_174 (by decide) ?_
        refine lv_aload_n hx hb dL_law_178 rfl (lv_at hl 3 rfl) ?_
        refine lv_iload_n hx hb dL_law_179 rfl (lv_at hl 0 rfl) ?_
        refine lv_iconst (v := 5) hx hb dL_law_180 (by decide) ?_
        refine lv_iadd hx hb dL_law_181 ?_
        refine lv_topi (fun x_31 ex_31 => ?_)
        obtain rfl : x_31 = 5 := ex_31.trans (by decide)
        refine va_sld hx hb hX hbl hbA hS (show ¬ ((5 : Int32) < 0 ∨ 6 ≤ (5 : Int32).toNatClampNeg) by decide) dL_law_182 ?_
        have hPc := hP.sub (ws' := [(q3, .inr (12, fs)), (a2, .inl (c2, 8, .inr (.inl (fun _ => 0)))), (a3, .inl (c3, 8, .inl (fun _ => 0))), (a4, .inl (c4, 8, .inl (fun _ => 0))), (a5, .inl (c5, 8, .inl (fun _ => 0))), (a6, .inl (c6, 8, .inl (fun _ => 0)))]) [0, 1, 2, 3, 4, 5] rfl
        have hDc := hD.sub (ws' := [(q3, .inr (12, fs)), (a2, .inl (c2, 8, .inr (.inl (fun _ => 0)))), (a3, .inl (c3, 8, .inl (fun _ => 0))), (a4, .inl (c4, 8, .inl (fun _ => 0))), (a5, .inl (c5, 8, .inl (fun _ => 0))), (a6, .inl (c6, 8, .inl (fun _ => 0)))]) [0, 1, 2, 3, 4, 5] (by decide) rfl
        have hKc := hK.sub (tys' := [(c2, .long), (c3, .int), (c4, .int), (c5, .boolean), (c6, .int)]) [1, 2, 3, 4, 5] rfl
        have hFc := va_free (wc := [(q3, .inr (12, fs)), (a2, .inl (c2, 8, .inr (.inl (fun _ => 0)))), (a3, .inl (c3, 8, .inl (fun _ => 0))), (a4, .inl (c4, 8, .inl (fun _ => 0))), (a5, .inl (c5, 8, .inl (fun _ => 0))), (a6, .inl (c6, 8, .inl (fun _ => 0)))]) hD hS hA [0, 1, 2, 3, 4, 5] rfl
        refine va_calli (va_runV (As := [.int (xs (Int32.toNatClampNeg 1)), .int (xs (Int32.toNatClampNeg 2)), .int (xs (Int32.toNatClampNeg 3)), .int 1, .int (xs (Int32.toNatClampNeg 5))]) (rest := [.int r_25]) ⟨hx, hb, hml, hown, hts⟩ (c_X11_node l dC dI (q3) (fs) (a2) (a3) (a4) (a5) (a6) (c2) (c3) (c4) (c5) (c6) ((fun _ => 0)) ((fun _ => 0)) ((fun _ => 0)) ((fun _ => 0)) ((fun _ => 0)) ((xs (Int32.toNatClampNeg 1))) ((xs (Int32.toNatClampNeg 2))) ((xs (Int32.toNatClampNeg 3))) (1) ((xs (Int32.toNatClampNeg 5))) H.size (hf0) (hf2) (hf3) (hf4) (hf5) (hf6) (hlen)) (cwV 5 hts g_law_c_X11_node_17 rfl rfl rfl (by decide +kernel) ⟨Nat.le_of_ble_eq_true rfl, Nat.le_of_ble_eq_true rfl⟩) ⟨fun a U g mk q => by obtain ⟨q0, q1, qP, qK, qD, qE⟩ := q; exact ⟨q0, q1, qP, va_K.moved (u := U) (U := U.calling g mk a) (Vm.Alike.refl U.vm) qK, qD, ev.same (u := U) (U := U.calling g mk a) rfl qE⟩, va_recv hKc hPc (ci := 12) (q0 := 0) rfl rfl, fun U hU hW => ⟨rfl, by rw [hU], by rw [hU]; exact hPc, va_K.moved hW.alike hKc, hDc.weaken (fun _ _ _ _ => trivial), hE.warm hW⟩⟩ rfl rfl hl.1 rfl (lv_room (Nat.le_of_ble_eq_true rfl)) dL_law_183 ⟨Nat.le_of_ble_eq_true rfl, Nat.le_of_ble_eq_true rfl⟩) hS (fun q _ h => hFc q h) hFc (fun r_32 u t H1 locs ht hvm hw hB hz1 hk1 hS => ?_)
        clear hPc hDc hKc
        obtain ⟨hP, hD⟩ := va_join (wr := []) (w1 := []) hP hD [0, 1, 2, 3, 4, 5] [] rfl rfl (by decide) (by decide) hk1 hFc p_nil d_nil
        generalize H1 = H at hP hS ⊢
        replace hP : va_P (dC, dI) vwCl [] H := hP
        replace hD : va_D (fun q : Nat => s.heap.size ≤ q) [] := hD
        have er_32 := hw
        clear hw
        refine lv_icmp_eq (tgt := 686) hx hb dL_law_186 (by decide) (fun c_33 => ?_) (fun c_33 => ?_)
        rotate_left
        · exact absurd (er_25.trans er_32.symm) c_33
        refine lv_iinc (v := 6) (lv' := [(3, .int 6), (2, .ref q3), (1, .ref q1), (0, .ref b)]) hx hb dL_law_686 hl (k := 0) rfl (by decide) (by decide) rfl (fun ls hl => ?_)
        refine lv_goto (tgt := 18) hx hb dL_law_689 (by decide) ?_
        exact law_end hL C0 (Nat.le_of_ble_eq_true rfl) (Nat.le_of_ble_eq_true rfl) hS (lv_sub hl [0, 3] rfl)
    · obtain rfl : x_7 = 1 := Int32.toInt_inj.mp (c_8.trans (by decide))
      refine lv_tableIn (tgt := 191) hx hb dL_law_33 (by decide) (by decide) rfl (by decide) ?_
      refine lv_aload_n hx hb dL_law_191 rfl (lv_at hl 2 rfl) ?_
      refine lv_aload_n hx hb dL_law_192 rfl (lv_at hl 3 rfl) ?_
      refine lv_iload_n hx hb dL_law_193 rfl (lv_at hl 0 rfl) ?_
      refine lv_iconst (v := 1) hx hb dL_law_194 (by decide) ?_
      refine lv_iadd hx hb dL_law_195 ?_
      refine lv_topi (fun x_34 ex_34 => ?_)
      obtain rfl : x_34 = 1 := ex_34.trans (by decide)
      refine va_sld hx hb hX hbl hbA hS (show ¬ ((1 : Int32) < 0 ∨ 6 ≤ (1 : Int32).toNatClampNeg) by decide) dL_law_196 ?_
      have hPc := hP.sub (ws' := [(q1, .inr (11, [.ref n0, .ref st, .ref la, .int 0, .int 0, .int 0, .int (-1), .int 0]))]) [0] rfl
      have hDc := hD.sub (ws' := [(q1, .inr (11, [.ref n0, .ref st, .ref la, .int 0, .int 0, .int 0, .int (-1), .int 0]))]) [0] (by decide) rfl
      have hKc := hK.sub (tys' := []) [] rfl
      have hFc := ro_free hS hA
      refine va_calli (va_runV (As := [.int (xs (Int32.toNatClampNeg 1))]) (rest := []) ⟨hx, hb, hml, hown, hts⟩ (c_X10_start l dC dI (q1) (n0) (st) (la) (0) ((xs (Int32.toNatClampNeg 1))) H.size) (cwV 1 hts g_law_c_X10_start_18 rfl rfl rfl (by decide +kernel) ⟨Nat.le_of_ble_eq_true rfl, Nat.le_of_ble_eq_true rfl⟩) ⟨fun a U g mk q => by obtain ⟨q0, q1, qP, qK, qD, qE⟩ := q; exact ⟨q0, q1, qP, va_K.moved (u := U) (U := U.calling g mk a) (Vm.Alike.refl U.vm) qK, qD, ev.same (u := U) (U := U.calling g mk a) rfl qE⟩, va_recv hKc hPc (ci := 11) (q0 := 0) rfl rfl, fun U hU hW => ⟨rfl, by rw [hU], by rw [hU]; exact hPc, va_K.moved hW.alike hKc, hDc.weaken (fun _ _ _ _ => trivial), hE.warm hW⟩⟩ rfl rfl hl.1 rfl (lv_room (Nat.le_of_ble_eq_true rfl)) dL_law_197 ⟨Nat.le_of_ble_eq_true rfl, Nat.le_of_ble_eq_true rfl⟩) hS (fun q _ h => hFc q h) hFc (fun r_35 u t H1 locs ht hvm hw hB hz1 hk1 hS => ?_)
      clear hPc hDc hKc
      replace hP := ro_keep hP hk1
      generalize H1 = H at hP hS ⊢
      replace hP : va_P (dC, dI) vwCl [(q1, .inr (11, [.ref n0, .ref st, .ref la, .int 0, .int 0, .int 0, .int (-1), .int 0])), (n0, .inl (cN, 8, .inr (.inr (.inr (.inr (fun _ => none)))))), (q3, .inr (12, fs)), (a2, .inl (c2, 8, .inr (.inl (fun _ => 0)))), (a3, .inl (c3, 8, .inl (fun _ => 0))), (a4, .inl (c4, 8, .inl (fun _ => 0))), (a5, .inl (c5, 8, .inl (fun _ => 0))), (a6, .inl (c6, 8, .inl (fun _ => 0)))] H := hP
      have hw := hw.symm
      subst hw
      refine lv_aload_n hx hb dL_law_200 rfl (lv_at hl 1 rfl) ?_
      refine lv_aload_n hx hb dL_law_201 rfl (lv_at hl 3 rfl) ?_
      refine lv_iload_n hx hb dL_law_202 rfl (lv_at hl 0 rfl) ?_
      refine lv_iconst (v := 1) hx hb dL_law_203 (by decide) ?_
      refine lv_iadd hx hb dL_law_204 ?_
      refine lv_topi (fun x_36 ex_36 => ?_)
      obtain rfl : x_36 = 1 := ex_36.trans (by decide)
      refine va_sld hx hb hX hbl hbA hS (show ¬ ((1 : Int32) < 0 ∨ 6 ≤ (1 : Int32).toNatClampNeg) by decide) dL_law_205 ?_
      have hPc := hP.sub (ws' := [(q3, .inr (12, fs))]) [2] rfl
      have hDc := hD.sub (ws' := [(q3, .inr (12, fs))]) [2] (by decide) rfl
      have hKc := hK.sub (tys' := []) [] rfl
      have hFc := ro_free hS hA
      refine va_calli (va_runV (As := [.int (xs (Int32.toNatClampNeg 1))]) (rest := [.int 0]) ⟨hx, hb, hml, hown, hts⟩ (c_X11_start l dC dI (q3) (fs) ((xs (Int32.toNatClampNeg 1))) H.size (hf0)) (cwV 1 hts g_law_c_X11_start_22 rfl rfl rfl (by decide +kernel) ⟨Nat.le_of_ble_eq_true rfl, Nat.le_of_ble_eq_true rfl⟩) ⟨fun a U g mk q => by obtain ⟨q0, q1, qP, qK, qD, qE⟩ := q; exact ⟨q0, q1, qP, va_K.moved (u := U) (U := U.calling g mk a) (Vm.Alike.refl U.vm) qK, qD, ev.same (u := U) (U := U.calling g mk a) rfl qE⟩, va_recv hKc hPc (ci := 12) (q0 := 0) rfl rfl, fun U hU hW => ⟨rfl, by rw [hU], by rw [hU]; exact hPc, va_K.moved hW.alike hKc, hDc.weaken (fun _ _ _ _ => trivial), hE.warm hW⟩⟩ rfl rfl hl.1 rfl (lv_room (Nat.le_of_ble_eq_true rfl)) dL_law_206 ⟨Nat.le_of_ble_eq_true rfl, Nat.le_of_ble_eq_true rfl⟩) hS (fun q _ h => hFc q h) hFc (fun r_37 u t H1 locs ht hvm hw hB hz1 hk1 hS => ?_)
      clear hPc hDc hKc
      replace hP := ro_keep hP hk1
      generalize H1 = H at hP hS ⊢
      replace hP : va_P (dC, dI) vwCl [(q1, .inr (11, [.ref n0, .ref st, .ref la, .int 0, .int 0, .int 0, .int (-1), .int 0])), (n0, .inl (cN, 8, .inr (.inr (.inr (.inr (fun _ => none)))))), (q3, .inr (12, fs)), (a2, .inl (c2, 8, .inr (.inl (fun _ => 0)))), (a3, .inl (c3, 8, .inl (fun _ => 0))), (a4, .inl (c4, 8, .inl (fun _ => 0))), (a5, .inl (c5, 8, .inl (fun _ => 0))), (a6, .inl (c6, 8, .inl (fun _ => 0)))] H := hP
      have hw := hw.symm
      subst hw
      refine lv_icmp_eq (tgt := 686) hx hb dL_law_209 (by decide) (fun c_38 => ?_) (fun c_38 => ?_)
      rotate_left
      · exact absurd (by decide) c_38
      refine lv_iinc (v := 6) (lv' := [(3, .int 6), (2, .ref q3), (1, .ref q1), (0, .ref b)]) hx hb dL_law_686 hl (k := 0) rfl (by decide) (by decide) rfl (fun ls hl => ?_)
      refine lv_goto (tgt := 18) hx hb dL_law_689 (by decide) ?_
      exact law_end hL C0 (Nat.le_of_ble_eq_true rfl) (Nat.le_of_ble_eq_true rfl) hS (lv_sub hl [0, 3] rfl)
    · obtain rfl : x_7 = 2 := Int32.toInt_inj.mp (c_8.trans (by decide))
      refine lv_tableIn (tgt := 214) hx hb dL_law_33 (by decide) (by decide) rfl (by decide) ?_
      refine lv_aload_n hx hb dL_law_214 rfl (lv_at hl 2 rfl) ?_
      refine lv_aload_n hx hb dL_law_215 rfl (lv_at hl 3 rfl) ?_
      refine lv_iload_n hx hb dL_law_216 rfl (lv_at hl 0 rfl) ?_
      refine lv_iconst (v := 1) hx hb dL_law_217 (by decide) ?_
      refine lv_iadd hx hb dL_law_218 ?_
      refine lv_topi (fun x_39 ex_39 => ?_)
      obtain rfl : x_39 = 1 := ex_39.trans (by decide)
      refine va_sld hx hb hX hbl hbA hS (show ¬ ((1 : Int32) < 0 ∨ 6 ≤ (1 : Int32).toNatClampNeg) by decide) dL_law_219 ?_
      have hPc := hP.sub (ws' := [(q1, .inr (11, [.ref n0, .ref st, .ref la, .int 0, .int 0, .int 0, .int (-1), .int 0]))]) [0] rfl
      have hDc := hD.sub (ws' := [(q1, .inr (11, [.ref n0, .ref st, .ref la, .int 0, .int 0, .int 0, .int (-1), .int 0]))]) [0] (by decide) rfl
      have hKc := hK.sub (tys' := []) [] rfl
      have hFc := ro_free hS hA
      refine va_calli (va_runV (As := [.int (xs (Int32.toNatClampNeg 1))]) (rest := []) ⟨hx, hb, hml, hown, hts⟩ (c_X10_stop l dC dI (q1) (n0) (st) (la) (0) ((xs (Int32.toNatClampNeg 1))) H.size) (cwV 1 hts g_law_c_X10_stop_23 rfl rfl rfl (by decide +kernel) ⟨Nat.le_of_ble_eq_true rfl, Nat.le_of_ble_eq_true rfl⟩) ⟨fun a U g mk q => by obtain ⟨q0, q1, qP, qK, qD, qE⟩ := q; exact ⟨q0, q1, qP, va_K.moved (u := U) (U := U.calling g mk a) (Vm.Alike.refl U.vm) qK, qD, ev.same (u := U) (U := U.calling g mk a) rfl qE⟩, va_recv hKc hPc (ci := 11) (q0 := 0) rfl rfl, fun U hU hW => ⟨rfl, by rw [hU], by rw [hU]; exact hPc, va_K.moved hW.alike hKc, hDc.weaken (fun _ _ _ _ => trivial), hE.warm hW⟩⟩ rfl rfl hl.1 rfl (lv_room (Nat.le_of_ble_eq_true rfl)) dL_law_220 ⟨Nat.le_of_ble_eq_true rfl, Nat.le_of_ble_eq_true rfl⟩) hS (fun q _ h => hFc q h) hFc (fun r_40 u t H1 locs ht hvm hw hB hz1 hk1 hS => ?_)
      clear hPc hDc hKc
      replace hP := ro_keep hP hk1
      generalize H1 = H at hP hS ⊢
      replace hP : va_P (dC, dI) vwCl [(q1, .inr (11, [.ref n0, .ref st, .ref la, .int 0, .int 0, .int 0, .int (-1), .int 0])), (n0, .inl (cN, 8, .inr (.inr (.inr (.inr (fun _ => none)))))), (q3, .inr (12, fs)), (a2, .inl (c2, 8, .inr (.inl (fun _ => 0)))), (a3, .inl (c3, 8, .inl (fun _ => 0))), (a4, .inl (c4, 8, .inl (fun _ => 0))), (a5, .inl (c5, 8, .inl (fun _ => 0))), (a6, .inl (c6, 8, .inl (fun _ => 0)))] H := hP
      have hw := hw.symm
      subst hw
      refine lv_aload_n hx hb dL_law_223 rfl (lv_at hl 1 rfl) ?_
      refine lv_aload_n hx hb dL_law_224 rfl (lv_at hl 3 rfl) ?_
      refine lv_iload_n hx hb dL_law_225 rfl (lv_at hl 0 rfl) ?_
      refine lv_iconst (v := 1) hx hb dL_law_226 (by decide) ?_
      refine lv_iadd hx hb dL_law_227 ?_
      refine lv_topi (fun x_41 ex_41 => ?_)
      obtain rfl : x_41 = 1 := ex_41.trans (by decide)
      refine va_sld hx hb hX hbl hbA hS (show ¬ ((1 : Int32) < 0 ∨ 6 ≤ (1 : Int32).toNatClampNeg) by decide) dL_law_228 ?_
      have hPc := hP.sub (ws' := [(q3, .inr (12, fs))]) [2] rfl
      have hDc := hD.sub (ws' := [(q3, .inr (12, fs))]) [2] (by decide) rfl
      have hKc := hK.sub (tys' := []) [] rfl
      have hFc := ro_free hS hA
      refine va_calli (va_runV (As := [.int (xs (Int32.toNatClampNeg 1))]) (rest := [.int 0]) ⟨hx, hb, hml, hown, hts⟩ (c_X11_stop l dC dI (q3) (fs) ((xs (Int32.toNatClampNeg 1))) H.size (hf0)) (cwV 1 hts g_law_c_X11_stop_26 rfl rfl rfl (by decide +kernel) ⟨Nat.le_of_ble_eq_true rfl, Nat.le_of_ble_eq_true rfl⟩) ⟨fun a U g mk q => by obtain ⟨q0, q1, qP, qK, qD, qE⟩ := q; exact ⟨q0, q1, qP, va_K.moved (u := U) (U := U.calling g mk a) (Vm.Alike.refl U.vm) qK, qD, ev.same (u := U) (U := U.calling g mk a) rfl qE⟩, va_recv hKc hPc (ci := 12) (q0 := 0) rfl rfl, fun U hU hW => ⟨rfl, by rw [hU], by rw [hU]; exact hPc, va_K.moved hW.alike hKc, hDc.weaken (fun _ _ _ _ => trivial), hE.warm hW⟩⟩ rfl rfl hl.1 rfl (lv_room (Nat.le_of_ble_eq_true rfl)) dL_law_229 ⟨Nat.le_of_ble_eq_true rfl, Nat.le_of_ble_eq_true rfl⟩) hS (fun q _ h => hFc q h) hFc (fun r_42 u t H1 locs ht hvm hw hB hz1 hk1 hS => ?_)
      clear hPc hDc hKc
      replace hP := ro_keep hP hk1
      generalize H1 = H at hP hS ⊢
      replace hP : va_P (dC, dI) vwCl [(q1, .inr (11, [.ref n0, .ref st, .ref la, .int 0, .int 0, .int 0, .int (-1), .int 0])), (n0, .inl (cN, 8, .inr (.inr (.inr (.inr (fun _ => none)))))), (q3, .inr (12, fs)), (a2, .inl (c2, 8, .inr (.inl (fun _ => 0)))), (a3, .inl (c3, 8, .inl (fun _ => 0))), (a4, .inl (c4, 8, .inl (fun _ => 0))), (a5, .inl (c5, 8, .inl (fun _ => 0))), (a6, .inl (c6, 8, .inl (fun _ => 0)))] H := hP
      have hw := hw.symm
      subst hw
      refine lv_icmp_eq (tgt := 686) hx hb dL_law_232 (by decide) (fun c_43 => ?_) (fun c_43 => ?_)
      rotate_left
      · exact absurd (by decide) c_43
      refine lv_iinc (v := 6) (lv' := [(3, .int 6), (2, .ref q3), (1, .ref q1), (0, .ref b)]) hx hb dL_law_686 hl (k := 0) rfl (by decide) (by decide) rfl (fun ls hl => ?_)
      refine lv_goto (tgt := 18) hx hb dL_law_689 (by decide) ?_
      exact law_end hL C0 (Nat.le_of_ble_eq_true rfl) (Nat.le_of_ble_eq_true rfl) hS (lv_sub hl [0, 3] rfl)
    · obtain rfl : x_7 = 3 := Int32.toInt_inj.mp (c_8.trans (by decide))
      refine lv_tableIn (tgt := 237) hx hb dL_law_33 (by decide) (by decide) rfl (by decide) ?_
      refine lv_aload_n hx hb dL_law_237 rfl (lv_at hl 2 rfl) ?_
      refine lv_aload_n hx hb dL_law_238 rfl (lv_at hl 3 rfl) ?_
      refine lv_iload_n hx hb dL_law_239 rfl (lv_at hl 0 rfl) ?_
      refine lv_iconst (v := 1) hx hb dL_law_240 (by decide) ?_
      refine lv_iadd hx hb dL_law_241 ?_
      refine lv_topi (fun x_44 ex_44 => ?_)
      obtain rfl : x_44 = 1 := ex_44.trans (by decide)
      refine va_sld hx hb hX hbl hbA hS (show ¬ ((1 : Int32) < 0 ∨ 6 ≤ (1 : Int32).toNatClampNeg) by decide) dL_law_242 ?_
      refine lv_aload_n hx hb dL_law_243 rfl (lv_at hl 3 rfl) ?_
      refine lv_iload_n hx hb dL_law_244 rfl (lv_at hl 0 rfl) ?_
      refine lv_iconst (v := 2) hx hb dL_law_245 (by decide) ?_
      refine lv_iadd hx hb dL_law_246 ?_
      refine lv_topi (fun x_45 ex_45 => ?_)
      obtain rfl : x_45 = 2 := ex_45.trans (by decide)
      refine va_sld hx hb hX hbl hbA hS (show ¬ ((2 : Int32) < 0 ∨ 6 ≤ (2 : Int32).toNatClampNeg) by decide) dL_law_247 ?_
      have hPc := hP.sub (ws' := [(q1, .inr (11, [.ref n0, .ref st, .ref la, .int 0, .int 0, .int 0, .int (-1), .int 0]))]) [0] rfl
      have hDc := hD.sub (ws' := [(q1, .inr (11, [.ref n0, .ref st, .ref la, .int 0, .int 0, .int 0, .int (-1), .int 0]))]) [0] (by decide) rfl
      have hKc := hK.sub (tys' := []) [] rfl
      have hFc := ro_free hS hA
      refine va_calli (va_runV (As := [.int (xs (Int32.toNatClampNeg 1)), .int (xs (Int32.toNatClampNeg 2))]) (rest := []) ⟨hx, hb, hml, hown, hts⟩ (c_X10_request l dC dI (q1) (n0) (st) (la) (0) ((xs (Int32.toNatClampNeg 1))) ((xs (Int32.toNatClampNeg 2))) H.size) (cwV 2 hts g_law_c_X10_request_27 rfl rfl rfl (by decide +kernel) ⟨Nat.le_of_ble_eq_true rfl, Nat.le_of_ble_eq_true rfl⟩) ⟨fun a U g mk q => by obtain ⟨q0, q1, qP, qK, qD, qE⟩ := q; exact ⟨q0, q1, qP, va_K.moved (u := U) (U := U.calling g mk a) (Vm.Alike.refl U.vm) qK, qD, ev.same (u := U) (U := U.calling g mk a) rfl qE⟩, va_recv hKc hPc (ci := 11) (q0 := 0) rfl rfl, fun U hU hW => ⟨rfl, by rw [hU], by rw [hU]; exact hPc, va_K.moved hW.alike hKc, hDc.weaken (fun _ _ _ _ => trivial), hE.warm hW⟩⟩ rfl rfl hl.1 rfl (lv_room (Nat.le_of_ble_eq_true rfl)) dL_law_248 ⟨Nat.le_of_ble_eq_true rfl, Nat.le_of_ble_eq_true rfl⟩) hS (fun q _ h => hFc q h) hFc (fun r_46 u t H1 locs ht hvm hw hB hz1 hk1 hS => ?_)
      clear hPc hDc hKc
      replace hP := ro_keep hP hk1
      generalize H1 = H at hP hS ⊢
      replace hP : va_P (dC, dI) vwCl [(q1, .inr (11, [.ref n0, .ref st, .ref la, .int 0, .int 0, .int 0, .int (-1), .int 0])), (n0, .inl (cN, 8, .inr (.inr (.inr (.inr (fun _ => none)))))), (q3, .inr (12, fs)), (a2, .inl (c2, 8, .inr (.inl (fun _ => 0)))), (a3, .inl (c3, 8, .inl (fun _ => 0))), (a4, .inl (c4, 8, .inl (fun _ => 0))), (a5, .inl (c5, 8, .inl (fun _ => 0))), (a6, .inl (c6, 8, .inl (fun _ => 0)))] H := hP
      have hw := hw.symm
      subst hw
      refine lv_aload_n hx hb dL_law_251 rfl (lv_at hl 1 rfl) ?_
      refine lv_aload_n hx hb dL_law_252 rfl (lv_at hl 3 rfl) ?_
      refine lv_iload_n hx hb dL_law_253 rfl (lv_at hl 0 rfl) ?_
      refine lv_iconst (v := 1) hx hb dL_law_254 (by decide) ?_
      refine lv_iadd hx hb dL_law_255 ?_
      refine lv_topi (fun x_47 ex_47 => ?_)
      obtain rfl : x_47 = 1 := ex_47.trans (by decide)
      refine va_sld hx hb hX hbl hbA hS (show ¬ ((1 : Int32) < 0 ∨ 6 ≤ (1 : Int32).toNatClampNeg) by decide) dL_law_256 ?_
      refine lv_aload_n hx hb dL_law_257 rfl (lv_at hl 3 rfl) ?_
      refine lv_iload_n hx hb dL_law_258 rfl (lv_at hl 0 rfl) ?_
      refine lv_iconst (v := 2) hx hb dL_law_259 (by decide) ?_
      refine lv_iadd hx hb dL_law_260 ?_
      refine lv_topi (fun x_48 ex_48 => ?_)
      obtain rfl : x_48 = 2 := ex_48.trans (by decide)
      refine va_sld hx hb hX hbl hbA hS (show ¬ ((2 : Int32) < 0 ∨ 6 ≤ (2 : Int32).toNatClampNeg) by decide) dL_law_261 ?_
      have hPc := hP.sub (ws' := [(q3, .inr (12, fs))]) [2] rfl
      have hDc := hD.sub (ws' := [(q3, .inr (12, fs))]) [2] (by decide) rfl
      have hKc := hK.sub (tys' := []) [] rfl
      have hFc := ro_free hS hA
      refine va_calli (va_runV (As := [.int (xs (Int32.toNatClampNeg 1)), .int (xs (Int32.toNatClampNeg 2))]) (rest := [.int 0]) ⟨hx, hb, hml, hown, hts⟩ (c_X11_request l dC dI (q3) (fs) ((xs (Int32.toNatClampNeg 1))) ((xs (Int32.toNatClampNeg 2))) H.size (hf0)) (cwV 2 hts g_law_c_X11_request_31 rfl rfl rfl (by decide +kernel) ⟨Nat.le_of_ble_eq_true rfl, Nat.le_of_ble_eq_true rfl⟩) ⟨fun a U g mk q => by obtain ⟨q0, q1, qP, qK, qD, qE⟩ := q; exact ⟨q0, q1, qP, va_K.moved (u := U) (U := U.calling g mk a) (Vm.Alike.refl U.vm) qK, qD, ev.same (u := U) (U := U.calling g mk a) rfl qE⟩, va_recv hKc hPc (ci := 12) (q0 := 0) rfl rfl, fun U hU hW => ⟨rfl, by rw [hU], by rw [hU]; exact hPc, va_K.moved hW.alike hKc, hDc.weaken (fun _ _ _ _ => trivial), hE.warm hW⟩⟩ rfl rfl hl.1 rfl (lv_room (Nat.le_of_ble_eq_true rfl)) dL_law_262 ⟨Nat.le_of_ble_eq_true rfl, Nat.le_of_ble_eq_true rfl⟩) hS (fun q _ h => hFc q h) hFc (fun r_49 u t H1 locs ht hvm hw hB hz1 hk1 hS => ?_)
      clear hPc hDc hKc
      replace hP := ro_keep hP hk1
      generalize H1 = H at hP hS ⊢
      replace hP : va_P (dC, dI) vwCl [(q1, .inr (11, [.ref n0, .ref st, .ref la, .int 0, .int 0, .int 0, .int (-1), .int 0])), (n0, .inl (cN, 8, .inr (.inr (.inr (.inr (fun _ => none)))))), (q3, .inr (12, fs)), (a2, .inl (c2, 8, .inr (.inl (fun _ => 0)))), (a3, .inl (c3, 8, .inl (fun _ => 0))), (a4, .inl (c4, 8, .inl (fun _ => 0))), (a5, .inl (c5, 8, .inl (fun _ => 0))), (a6, .inl (c6, 8, .inl (fun _ => 0)))] H := hP
      have hw := hw.symm
      subst hw
      refine lv_icmp_eq (tgt := 686) hx hb dL_law_265 (by decide) (fun c_50 => ?_) (fun c_50 => ?_)
      rotate_left
      · exact absurd (by decide) c_50
      refine lv_iinc (v := 6) (lv' := [(3, .int 6), (2, .ref q3), (1, .ref q1), (0, .ref b)]) hx hb dL_law_686 hl (k := 0) rfl (by decide) (by decide) rfl (fun ls hl => ?_)
      refine lv_goto (tgt := 18) hx hb dL_law_689 (by decide) ?_
      exact law_end hL C0 (Nat.le_of_ble_eq_true rfl) (Nat.le_of_ble_eq_true rfl) hS (lv_sub hl [0, 3] rfl)
    · obtain rfl : x_7 = 4 := Int32.toInt_inj.mp (c_8.trans (by decide))
      refine lv_tableIn (tgt := 270) hx hb dL_law_33 (by decide) (by decide) rfl (by decide) ?_
      refine lv_aload_n hx hb dL_law_270 rfl (lv_at hl 2 rfl) ?_
      refine lv_aload_n hx hb dL_law_271 rfl (lv_at hl 3 rfl) ?_
      refine lv_iload_n hx hb dL_law_272 rfl (lv_at hl 0 rfl) ?_
      refine lv_iconst (v := 1) hx hb dL_law_273 (by decide) ?_
      refine lv_iadd hx hb dL_law_274 ?_
      refine lv_topi (fun x_51 ex_51 => ?_)
      obtain rfl : x_51 = 1 := ex_51.trans (by decide)
      refine va_sld hx hb hX hbl hbA hS (show ¬ ((1 : Int32) < 0 ∨ 6 ≤ (1 : Int32).toNatClampNeg) by decide) dL_law_275 ?_
      refine lv_aload_n hx hb dL_law_276 rfl (lv_at hl 3 rfl) ?_
      refine lv_iload_n hx hb dL_law_277 rfl (lv_at hl 0 rfl) ?_
      refine lv_iconst (v := 2) hx hb dL_law_278 (by decide) ?_
      refine lv_iadd hx hb dL_law_279 ?_
      refine lv_topi (fun x_52 ex_52 => ?_)
      obtain rfl : x_52 = 2 := ex_52.trans (by decide)
      refine va_sld hx hb hX hbl hbA hS (show ¬ ((2 : Int32) < 0 ∨ 6 ≤ (2 : Int32).toNatClampNeg) by decide) dL_law_280 ?_
      refine lv_aload_n hx hb dL_law_281 rfl (lv_at hl 3 rfl) ?_
      refine lv_iload_n hx hb dL_law_282 rfl (lv_at hl 0 rfl) ?_
      refine lv_iconst (v := 3) hx hb dL_law_283 (by decide) ?_
      refine lv_iadd hx hb dL_law_284 ?_
      refine lv_topi (fun x_53 ex_53 => ?_)
      obtain rfl : x_53 = 3 := ex_53.trans (by decide)
      refine va_sld hx hb hX hbl hbA hS (show ¬ ((3 : Int32) < 0 ∨ 6 ≤ (3 : Int32).toNatClampNeg) by decide) dL_law_285 ?_
      refine lv_aload_n hx hb dL_law_286 rfl (lv_at hl 3 rfl) ?_
      refine lv_iload_n hx hb dL_law_287 rfl (lv_at hl 0 rfl) ?_
      refine lv_iconst (v := 4) hx hb dL_law_288 (by decide) ?_
      refine lv_iadd hx hb dL_law_289 ?_
      refine lv_topi (fun x_54 ex_54 => ?_)
      obtain rfl : x_54 = 4 := ex_54.trans (by decide)
      refine va_sld hx hb hX hbl hbA hS (show ¬ ((4 : Int32) < 0 ∨ 6 ≤ (4 : Int32).toNatClampNeg) by decide) dL_law_290 ?_
      refine lv_aload_n hx hb dL_law_291 rfl (lv_at hl 3 rfl) ?_
      refine lv_iload_n hx hb dL_law_292 rfl (lv_at hl 0 rfl) ?_
      refine lv_iconst (v := 5) hx hb dL_law_293 (by decide) ?_
      refine lv_iadd hx hb dL_law_294 ?_
      refine lv_topi (fun x_55 ex_55 => ?_)
      obtain rfl : x_55 = 5 := ex_55.trans (by decide)
      refine va_sld hx hb hX hbl hbA hS (show ¬ ((5 : Int32) < 0 ∨ 6 ≤ (5 : Int32).toNatClampNeg) by decide) dL_law_295 ?_
      have hPc := hP.sub (ws' := [(q1, .inr (11, [.ref n0, .ref st, .ref la, .int 0, .int 0, .int 0, .int (-1), .int 0]))]) [0] rfl
      have hDc := hD.sub (ws' := [(q1, .inr (11, [.ref n0, .ref st, .ref la, .int 0, .int 0, .int 0, .int (-1), .int 0]))]) [0] (by decide) rfl
      have hKc := hK.sub (tys' := []) [] rfl
      have hFc := ro_free hS hA
      refine va_calli (va_runV (As := [.int (xs (Int32.toNatClampNeg 1)), .int (xs (Int32.toNatClampNeg 2)), .int (xs (Int32.toNatClampNeg 3)), .int (xs (Int32.toNatClampNeg 4)), .int (xs (Int32.toNatClampNeg 5))]) (rest := []) ⟨hx, hb, hml, hown, hts⟩ (c_X10_send l dC dI (q1) (n0) (st) (la) (0) ((xs (Int32.toNatClampNeg 1))) ((xs (Int32.toNatClampNeg 2))) ((xs (Int32.toNatClampNeg 3))) ((xs (Int32.toNatClampNeg 4))) ((xs (Int32.toNatClampNeg 5))) H.size) (cwV 5 hts g_law_c_X10_send_32 rfl rfl rfl (by decide +kernel) ⟨Nat.le_of_ble_eq_true rfl, Nat.le_of_ble_eq_true rfl⟩) ⟨fun a U g mk q => by obtain ⟨q0, q1, qP, qK, qD, qE⟩ := q; exact ⟨q0, q1, qP, va_K.moved (u := U) (U := U.calling g mk a) (Vm.Alike.refl U.vm) qK, qD, ev.same (u := U) (U := U.calling g mk a) rfl qE⟩, va_recv hKc hPc (ci := 11) (q0 := 0) rfl rfl, fun U hU hW => ⟨rfl, by rw [hU], by rw [hU]; exact hPc, va_K.moved hW.alike hKc, hDc.weaken (fun _ _ _ _ => trivial), hE.warm hW⟩⟩ rfl rfl hl.1 rfl (lv_room (Nat.le_of_ble_eq_true rfl)) dL_law_296 ⟨Nat.le_of_ble_eq_true rfl, Nat.le_of_ble_eq_true rfl⟩) hS (fun q _ h => hFc q h) hFc (fun r_56 u t H1 locs ht hvm hw hB hz1 hk1 hS => ?_)
      clear hPc hDc hKc
      replace hP := ro_keep hP hk1
      generalize H1 = H at hP hS ⊢
      replace hP : va_P (dC, dI) vwCl [(q1, .inr (11, [.ref n0, .ref st, .ref la, .int 0, .int 0, .int 0, .int (-1), .int 0])), (n0, .inl (cN, 8, .inr (.inr (.inr (.inr (fun _ => none)))))), (q3, .inr (12, fs)), (a2, .inl (c2, 8, .inr (.inl (fun _ => 0)))), (a3, .inl (c3, 8, .inl (fun _ => 0))), (a4, .inl (c4, 8, .inl (fun _ => 0))), (a5, .inl (c5, 8, .inl (fun _ => 0))), (a6, .inl (c6, 8, .inl (fun _ => 0)))] H := hP
      have hw := hw.symm
      subst hw
      refine lv_aload_n hx hb dL_law_299 rfl (lv_at hl 1 rfl) ?_
      refine lv_aload_n hx hb dL_law_300 rfl (lv_at hl 3 rfl) ?_
      refine lv_iload_n hx hb dL_law_301 rfl (lv_at hl 0 rfl) ?_
      refine lv_iconst (v := 1) hx hb dL_law_302 (by decide) ?_
      refine lv_iadd hx hb dL_law_303 ?_
      refine lv_topi (fun x_57 ex_57 => ?_)
      obtain rfl : x_57 = 1 := ex_57.trans (by decide)
      refine va_sld hx hb hX hbl hbA hS (show ¬ ((1 : Int32) < 0 ∨ 6 ≤ (1 : Int32).toNatClampNeg) by decide) dL_law_304 ?_
      refine lv_aload_n hx hb dL_law_305 rfl (lv_at hl 3 rfl) ?_
      refine lv_iload_n hx hb dL_law_306 rfl (lv_at hl 0 rfl) ?_
      refine lv_iconst (v := 2) hx hb dL_law_307 (by decide) ?_
      refine lv_iadd hx hb dL_law_308 ?_
      refine lv_topi (fun x_58 ex_58 => ?_)
      obtain rfl : x_58 = 2 := ex_58.trans (by decide)
      refine va_sld hx hb hX hbl hbA hS (show ¬ ((2 : Int32) < 0 ∨ 6 ≤ (2 : Int32).toNatClampNeg) by decide) dL_law_309 ?_
      refine lv_aload_n hx hb dL_law_310 rfl (lv_at hl 3 rfl) ?_
      refine lv_iload_n hx hb dL_law_311 rfl (lv_at hl 0 rfl) ?_
      refine lv_iconst (v := 3) hx hb dL_law_312 (by decide) ?_
      refine lv_iadd hx hb dL_law_313 ?_
      refine lv_topi (fun x_59 ex_59 => ?_)
      obtain rfl : x_59 = 3 := ex_59.trans (by decide)
      refine va_sld hx hb hX hbl hbA hS (show ¬ ((3 : Int32) < 0 ∨ 6 ≤ (3 : Int32).toNatClampNeg) by decide) dL_law_314 ?_
      refine lv_aload_n hx hb dL_law_315 rfl (lv_at hl 3 rfl) ?_
      refine lv_iload_n hx hb dL_law_316 rfl (lv_at hl 0 rfl) ?_
      refine lv_iconst (v := 4) hx hb dL_law_317 (by decide) ?_
      refine lv_iadd hx hb dL_law_318 ?_
      refine lv_topi (fun x_60 ex_60 => ?_)
      obtain rfl : x_60 = 4 := ex_60.trans (by decide)
      refine va_sld hx hb hX hbl hbA hS (show ¬ ((4 : Int32) < 0 ∨ 6 ≤ (4 : Int32).toNatClampNeg) by decide) dL_law_319 ?_
      refine lv_aload_n hx hb dL_law_320 rfl (lv_at hl 3 rfl) ?_
      refine lv_iload_n hx hb dL_law_321 rfl (lv_at hl 0 rfl) ?_
      refine lv_iconst (v := 5) hx hb dL_law_322 (by decide) ?_
      refine lv_iadd hx hb dL_law_323 ?_
      refine lv_topi (fun x_61 ex_61 => ?_)
      obtain rfl : x_61 = 5 := ex_61.trans (by decide)
      refine va_sld hx hb hX hbl hbA hS (show ¬ ((5 : Int32) < 0 ∨ 6 ≤ (5 : Int32).toNatClampNeg) by decide) dL_law_324 ?_
      have hPc := hP.sub (ws' := [(q3, .inr (12, fs))]) [2] rfl
      have hDc := hD.sub (ws' := [(q3, .inr (12, fs))]) [2] (by decide) rfl
      have hKc := hK.sub (tys' := []) [] rfl
      have hFc := ro_free hS hA
      refine va_calli (va_runV (As := [.int (xs (Int32.toNatClampNeg 1)), .int (xs (Int32.toNatClampNeg 2)), .int (xs (Int32.toNatClampNeg 3)), .int (xs (Int32.toNatClampNeg 4)), .int (xs (Int32.toNatClampNeg 5))]) (rest := [.int 0]) ⟨hx, hb, hml, hown, hts⟩ (c_X11_send l dC dI (q3) (fs) ((xs (Int32.toNatClampNeg 1))) ((xs (Int32.toNatClampNeg 2))) ((xs (Int32.toNatClampNeg 3))) ((xs (Int32.toNatClampNeg 4))) ((xs (Int32.toNatClampNeg 5))) H.size (hf0)) (cwV 5 hts g_law_c_X11_send_36 rfl rfl rfl (by decide +kernel) ⟨Nat.le_of_ble_eq_true rfl, Nat.le_of_ble_eq_true rfl⟩) ⟨fun a U g mk q => by obtain ⟨q0, q1, qP, qK, qD, qE⟩ := q; exact ⟨q0, q1, qP, va_K.moved (u := U) (U := U.calling g mk a) (Vm.Alike.refl U.vm) qK, qD, ev.same (u := U) (U := U.calling g mk a) rfl qE⟩, va_recv hKc hPc (ci := 12) (q0 := 0) rfl rfl, fun U hU hW => ⟨rfl, by rw [hU], by rw [hU]; exact hPc, va_K.moved hW.alike hKc, hDc.weaken (fun _ _ _ _ => trivial), hE.warm hW⟩⟩ rfl rfl hl.1 rfl (lv_room (Nat.le_of_ble_eq_true rfl)) dL_law_325 ⟨Nat.le_of_ble_eq_true rfl, Nat.le_of_ble_eq_true rfl⟩) hS (fun q _ h => hFc q h) hFc (fun r_62 u t H1 locs ht hvm hw hB hz1 hk1 hS => ?_)
      clear hPc hDc hKc
      replace hP := ro_keep hP hk1
      generalize H1 = H at hP hS ⊢
      replace hP : va_P (dC, dI) vwCl [(q1, .inr (11, [.ref n0, .ref st, .ref la, .int 0, .int 0, .int 0, .int (-1), .int 0])), (n0, .inl (cN, 8, .inr (.inr (.inr (.inr (fun _ => none)))))), (q3, .inr (12, fs)), (a2, .inl (c2, 8, .inr (.inl (fun _ => 0)))), (a3, .inl (c3, 8, .inl (fun _ => 0))), (a4, .inl (c4, 8, .inl (fun _ => 0))), (a5, .inl (c5, 8, .inl (fun _ => 0))), (a6, .inl (c6, 8, .inl (fun _ => 0)))] H := hP
      have hw := hw.symm
      subst hw
      refine lv_icmp_eq (tgt := 686) hx hb dL_law_328 (by decide) (fun c_63 => ?_) (fun c_63 => ?_)
      rotate_left
      · exact absurd (by decide) c_63
      refine lv_iinc (v := 6) (lv' := [(3, .int 6), (2, .ref q3), (1, .ref q1), (0, .ref b)]) hx hb dL_law_686 hl (k := 0) rfl (by decide) (by decide) rfl (fun ls hl => ?_)
      refine lv_goto (tgt := 18) hx hb dL_law_689 (by decide) ?_
      exact law_end hL C0 (Nat.le_of_ble_eq_true rfl) (Nat.le_of_ble_eq_true rfl) hS (lv_sub hl [0, 3] rfl)
    · obtain rfl : x_7 = 5 := Int32.toInt_inj.mp (c_8.trans (by decide))
      refine lv_tableIn (tgt := 333) hx hb dL_law_33 (by decide) (by decide) rfl (by decide) ?_
      refine lv_aload_n hx hb dL_law_333 rfl (lv_at hl 2 rfl) ?_
      refine lv_aload_n hx hb dL_law_334 rfl (lv_at hl 3 rfl) ?_
      refine lv_iload_n hx hb dL_law_335 rfl (lv_at hl 0 rfl) ?_
      refine lv_iconst (v := 1) hx hb dL_law_336 (by decide) ?_
      refine lv_iadd hx hb dL_law_337 ?_
      refine lv_topi (fun x_64 ex_64 => ?_)
      obtain rfl : x_64 = 1 := ex_64.trans (by decide)
      refine va_sld hx hb hX hbl hbA hS (show ¬ ((1 : Int32) < 0 ∨ 6 ≤ (1 : Int32).toNatClampNeg) by decide) dL_law_338 ?_
      refine lv_aload_n hx hb dL_law_339 rfl (lv_at hl 3 rfl) ?_
      refine lv_iload_n hx hb dL_law_340 rfl (lv_at hl 0 rfl) ?_
      refine lv_iconst (v := 2) hx hb dL_law_341 (by decide) ?_
      refine lv_iadd hx hb dL_law_342 ?_
      refine lv_topi (fun x_65 ex_65 => ?_)
      obtain rfl : x_65 = 2 := ex_65.trans (by decide)
      refine va_sld hx hb hX hbl hbA hS (show ¬ ((2 : Int32) < 0 ∨ 6 ≤ (2 : Int32).toNatClampNeg) by decide) dL_law_343 ?_
      refine lv_aload_n hx hb dL_law_344 rfl (lv_at hl 3 rfl) ?_
      refine lv_iload_n hx hb dL_law_345 rfl (lv_at hl 0 rfl) ?_
      refine lv_iconst (v := 3) hx hb dL_law_346 (by decide) ?_
      refine lv_iadd hx hb dL_law_347 ?_
      refine lv_topi (fun x_66 ex_66 => ?_)
      obtain rfl : x_66 = 3 := ex_66.trans (by decide)
      refine va_sld hx hb hX hbl hbA hS (show ¬ ((3 : Int32) < 0 ∨ 6 ≤ (3 : Int32).toNatClampNeg) by decide) dL_law_348 ?_
      refine lv_aload_n hx hb dL_law_349 rfl (lv_at hl 3 rfl) ?_
      refine lv_iload_n hx hb dL_law_350 rfl (lv_at hl 0 rfl) ?_
      refine lv_iconst (v := 4) hx hb dL_law_351 (by decide) ?_
      refine lv_iadd hx hb dL_law_352 ?_
      refine lv_topi (fun x_67 ex_67 => ?_)
      obtain rfl : x_67 = 4 := ex_67.trans (by decide)
      refine va_sld hx hb hX hbl hbA hS (show ¬ ((4 : Int32) < 0 ∨ 6 ≤ (4 : Int32).toNatClampNeg) by decide) dL_law_353 ?_
      have hPc := hP.sub (ws' := [(q1, .inr (11, [.ref n0, .ref st, .ref la, .int 0, .int 0, .int 0, .int (-1), .int 0]))]) [0] rfl
      have hDc := hD.sub (ws' := [(q1, .inr (11, [.ref n0, .ref st, .ref la, .int 0, .int 0, .int 0, .int (-1), .int 0]))]) [0] (by decide) rfl
      have hKc := hK.sub (tys' := []) [] rfl
      have hFc := ro_free hS hA
      refine va_calli (va_runV (As := [.int (xs (Int32.toNatClampNeg 1)), .int (xs (Int32.toNatClampNeg 2)), .int (xs (Int32.toNatClampNeg 3)), .int (xs (Int32.toNatClampNeg 4))]) (rest := []) ⟨hx, hb, hml, hown, hts⟩ (c_X10_trouble l dC dI (q1) (n0) (st) (la) (0) ((xs (Int32.toNatClampNeg 1))) ((xs (Int32.toNatClampNeg 2))) ((xs (Int32.toNatClampNeg 3))) ((xs (Int32.toNatClampNeg 4))) H.size) (cwV 4 hts g_law_c_X10_trouble_37 rfl rfl rfl (by decide +kernel) ⟨Nat.le_of_ble_eq_true rfl, Nat.le_of_ble_eq_true rfl⟩) ⟨fun a U g mk q => by obtain ⟨q0, q1, qP, qK, qD, qE⟩ := q; exact ⟨q0, q1, qP, va_K.moved (u := U) (U := U.calling g mk a) (Vm.Alike.refl U.vm) qK, qD, ev.same (u := U) (U := U.calling g mk a) rfl qE⟩, va_recv hKc hPc (ci := 11) (q0 := 0) rfl rfl, fun U hU hW => ⟨rfl, by rw [hU], by rw [hU]; exact hPc, va_K.moved hW.alike hKc, hDc.weaken (fun _ _ _ _ => trivial), hE.warm hW⟩⟩ rfl rfl hl.1 rfl (lv_room (Nat.le_of_ble_eq_true rfl)) dL_law_354 ⟨Nat.le_of_ble_eq_true rfl, Nat.le_of_ble_eq_true rfl⟩) hS (fun q _ h => hFc q h) hFc (fun r_68 u t H1 locs ht hvm hw hB hz1 hk1 hS => ?_)
      clear hPc hDc hKc
      replace hP := ro_keep hP hk1
      generalize H1 = H at hP hS ⊢
      replace hP : va_P (dC, dI) vwCl [(q1, .inr (11, [.ref n0, .ref st, .ref la, .int 0, .int 0, .int 0, .int (-1), .int 0])), (n0, .inl (cN, 8, .inr (.inr (.inr (.inr (fun _ => none)))))), (q3, .inr (12, fs)), (a2, .inl (c2, 8, .inr (.inl (fun _ => 0)))), (a3, .inl (c3, 8, .inl (fun _ => 0))), (a4, .inl (c4, 8, .inl (fun _ => 0))), (a5, .inl (c5, 8, .inl (fun _ => 0))), (a6, .inl (c6, 8, .inl (fun _ => 0)))] H := hP
      have hw := hw.symm
      subst hw
      refine lv_aload_n hx hb dL_law_357 rfl (lv_at hl 1 rfl) ?_
      refine lv_aload_n hx hb dL_law_358 rfl (lv_at hl 3 rfl) ?_
      refine lv_iload_n hx hb dL_law_359 rfl (lv_at hl 0 rfl) ?_
      refine lv_iconst (v := 1) hx hb dL_law_360 (by decide) ?_
      refine lv_iadd hx hb dL_law_361 ?_
      refine lv_topi (fun x_69 ex_69 => ?_)
      obtain rfl : x_69 = 1 := ex_69.trans (by decide)
      refine va_sld hx hb hX hbl hbA hS (show ¬ ((1 : Int32) < 0 ∨ 6 ≤ (1 : Int32).toNatClampNeg) by decide) dL_law_362 ?_
      refine lv_aload_n hx hb dL_law_363 rfl (lv_at hl 3 rfl) ?_
      refine lv_iload_n hx hb dL_law_364 rfl (lv_at hl 0 rfl) ?_
      refine lv_iconst (v := 2) hx hb dL_law_365 (by decide) ?_
      refine lv_iadd hx hb dL_law_366 ?_
      refine lv_topi (fun x_70 ex_70 => ?_)
      obtain rfl : x_70 = 2 := ex_70.trans (by decide)
      refine va_sld hx hb hX hbl hbA hS (show ¬ ((2 : Int32) < 0 ∨ 6 ≤ (2 : Int32).toNatClampNeg) by decide) dL_law_367 ?_
      refine lv_aload_n hx hb dL_law_368 rfl (lv_at hl 3 rfl) ?_
      refine lv_iload_n hx hb dL_law_369 rfl (lv_at hl 0 rfl) ?_
      refine lv_iconst (v := 3) hx hb dL_law_370 (by decide) ?_
      refine lv_iadd hx hb dL_law_371 ?_
      refine lv_topi (fun x_71 ex_71 => ?_)
      obtain rfl : x_71 = 3 := ex_71.trans (by decide)
      refine va_sld hx hb hX hbl hbA hS (show ¬ ((3 : Int32) < 0 ∨ 6 ≤ (3 : Int32).toNatClampNeg) by decide) dL_law_372 ?_
      refine lv_aload_n hx hb dL_law_373 rfl (lv_at hl 3 rfl) ?_
      refine lv_iload_n hx hb dL_law_374 rfl (lv_at hl 0 rfl) ?_
      refine lv_iconst (v := 4) hx hb dL_law_375 (by decide) ?_
      refine lv_iadd hx hb dL_law_376 ?_
      refine lv_topi (fun x_72 ex_72 => ?_)
      obtain rfl : x_72 = 4 := ex_72.trans (by decide)
      refine va_sld hx hb hX hbl hbA hS (show ¬ ((4 : Int32) < 0 ∨ 6 ≤ (4 : Int32).toNatClampNeg) by decide) dL_law_377 ?_
      have hPc := hP.sub (ws' := [(q3, .inr (12, fs))]) [2] rfl
      have hDc := hD.sub (ws' := [(q3, .inr (12, fs))]) [2] (by decide) rfl
      have hKc := hK.sub (tys' := []) [] rfl
      have hFc := ro_free hS hA
      refine va_calli (va_runV (As := [.int (xs (Int32.toNatClampNeg 1)), .int (xs (Int32.toNatClampNeg 2)), .int (xs (Int32.toNatClampNeg 3)), .int (xs (Int32.toNatClampNeg 4))]) (rest := [.int (-1)]) ⟨hx, hb, hml, hown, hts⟩ (c_X11_trouble l dC dI (q3) (fs) ((xs (Int32.toNatClampNeg 1))) ((xs (Int32.toNatClampNeg 2))) ((xs (Int32.toNatClampNeg 3))) ((xs (Int32.toNatClampNeg 4))) H.size (hf0)) (cwV 4 hts g_law_c_X11_trouble_41 rfl rfl rfl (by decide +kernel) ⟨Nat.le_of_ble_eq_true rfl, Nat.le_of_ble_eq_true rfl⟩) ⟨fun a U g mk q => by obtain ⟨q0, q1, qP, qK, qD, qE⟩ := q; exact ⟨q0, q1, qP, va_K.moved (u := U) (U := U.calling g mk a) (Vm.Alike.refl U.vm) qK, qD, ev.same (u := U) (U := U.calling g mk a) rfl qE⟩, va_recv hKc hPc (ci := 12) (q0 := 0) rfl rfl, fun U hU hW => ⟨rfl, by rw [hU], by rw [hU]; exact hPc, va_K.moved hW.alike hKc, hDc.weaken (fun _ _ _ _ => trivial), hE.warm hW⟩⟩ rfl rfl hl.1 rfl (lv_room (Nat.le_of_ble_eq_true rfl)) dL_law_378 ⟨Nat.le_of_ble_eq_true rfl, Nat.le_of_ble_eq_true rfl⟩) hS (fun q _ h => hFc q h) hFc (fun r_73 u t H1 locs ht hvm hw hB hz1 hk1 hS => ?_)
      clear hPc hDc hKc
      replace hP := ro_keep hP hk1
      generalize H1 = H at hP hS ⊢
      replace hP : va_P (dC, dI) vwCl [(q1, .inr (11, [.ref n0, .ref st, .ref la, .int 0, .int 0, .int 0, .int (-1), .int 0])), (n0, .inl (cN, 8, .inr (.inr (.inr (.inr (fun _ => none)))))), (q3, .inr (12, fs)), (a2, .inl (c2, 8, .inr (.inl (fun _ => 0)))), (a3, .inl (c3, 8, .inl (fun _ => 0))), (a4, .inl (c4, 8, .inl (fun _ => 0))), (a5, .inl (c5, 8, .inl (fun _ => 0))), (a6, .inl (c6, 8, .inl (fun _ => 0)))] H := hP
      have hw := hw.symm
      subst hw
      refine lv_icmp_eq (tgt := 686) hx hb dL_law_381 (by decide) (fun c_74 => ?_) (fun c_74 => ?_)
      rotate_left
      · exact absurd (by decide) c_74
      refine lv_iinc (v := 6) (lv' := [(3, .int 6), (2, .ref q3), (1, .ref q1), (0, .ref b)]) hx hb dL_law_686 hl (k := 0) rfl (by decide) (by decide) rfl (fun ls hl => ?_)
      refine lv_goto (tgt := 18) hx hb dL_law_689 (by decide) ?_
      exact law_end hL C0 (Nat.le_of_ble_eq_true rfl) (Nat.le_of_ble_eq_true rfl) hS (lv_sub hl [0, 3] rfl)
    · obtain rfl : x_7 = 6 := Int32.toInt_inj.mp (c_8.trans (by decide))
      refine lv_tableIn (tgt := 386) hx hb dL_law_33 (by decide) (by decide) rfl (by decide) ?_
      refine lv_aload_n hx hb dL_law_386 rfl (lv_at hl 2 rfl) ?_
      refine lv_aload_n hx hb dL_law_387 rfl (lv_at hl 3 rfl) ?_
      refine lv_iload_n hx hb dL_law_388 rfl (lv_at hl 0 rfl) ?_
      refine lv_iconst (v := 1) hx hb dL_law_389 (by decide) ?_
      refine lv_iadd hx hb dL_law_390 ?_
      refine lv_topi (fun x_75 ex_75 => ?_)
      obtain rfl : x_75 = 1 := ex_75.trans (by decide)
      refine va_sld hx hb hX hbl hbA hS (show ¬ ((1 : Int32) < 0 ∨ 6 ≤ (1 : Int32).toNatClampNeg) by decide) dL_law_391 ?_
      have hPc := hP.sub (ws' := [(q1, .inr (11, [.ref n0, .ref st, .ref la, .int 0, .int 0, .int 0, .int (-1), .int 0]))]) [0] rfl
      have hDc := hD.sub (ws' := [(q1, .inr (11, [.ref n0, .ref st, .ref la, .int 0, .int 0, .int 0, .int (-1), .int 0]))]) [0] (by decide) rfl
      have hKc := hK.sub (tys' := []) [] rfl
      have hFc := ro_free hS hA
      refine va_calli (va_runV (As := [.int (xs (Int32.toNatClampNeg 1))]) (rest := []) ⟨hx, hb, hml, hown, hts⟩ (c_X10_tell l dC dI (q1) (n0) (st) (la) (0) ((xs (Int32.toNatClampNeg 1))) H.size) (cwV 1 hts g_law_c_X10_tell_42 rfl rfl rfl (by decide +kernel) ⟨Nat.le_of_ble_eq_true rfl, Nat.le_of_ble_eq_true rfl⟩) ⟨fun a U g mk q => by obtain ⟨q0, q1, qP, qK, qD, qE⟩ := q; exact ⟨q0, q1, qP, va_K.moved (u := U) (U := U.calling g mk a) (Vm.Alike.refl U.vm) qK, qD, ev.same (u := U) (U := U.calling g mk a) rfl qE⟩, va_recv hKc hPc (ci := 11) (q0 := 0) rfl rfl, fun U hU hW => ⟨rfl, by rw [hU], by rw [hU]; exact hPc, va_K.moved hW.alike hKc, hDc.weaken (fun _ _ _ _ => trivial), hE.warm hW⟩⟩ rfl rfl hl.1 rfl (lv_room (Nat.le_of_ble_eq_true rfl)) dL_law_392 ⟨Nat.le_of_ble_eq_true rfl, Nat.le_of_ble_eq_true rfl⟩) hS (fun q _ h => hFc q h) hFc (fun r_76 u t H1 locs ht hvm hw hB hz1 hk1 hS => ?_)
      clear hPc hDc hKc
      replace hP := ro_keep hP hk1
      generalize H1 = H at hP hS ⊢
      replace hP : va_P (dC, dI) vwCl [(q1, .inr (11, [.ref n0, .ref st, .ref la, .int 0, .int 0, .int 0, .int (-1), .int 0])), (n0, .inl (cN, 8, .inr (.inr (.inr (.inr (fun _ => none)))))), (q3, .inr (12, fs)), (a2, .inl (c2, 8, .inr (.inl (fun _ => 0)))), (a3, .inl (c3, 8, .inl (fun _ => 0))), (a4, .inl (c4, 8, .inl (fun _ => 0))), (a5, .inl (c5, 8, .inl (fun _ => 0))), (a6, .inl (c6, 8, .inl (fun _ => 0)))] H := hP
      have hw := hw.symm
      subst hw
      refine lv_aload_n hx hb dL_law_395 rfl (lv_at hl 1 rfl) ?_
      refine lv_aload_n hx hb dL_law_396 rfl (lv_at hl 3 rfl) ?_
      refine lv_iload_n hx hb dL_law_397 rfl (lv_at hl 0 rfl) ?_
      refine lv_iconst (v := 1) hx hb dL_law_398 (by decide) ?_
      refine lv_iadd hx hb dL_law_399 ?_
      refine lv_topi (fun x_77 ex_77 => ?_)
      obtain rfl : x_77 = 1 := ex_77.trans (by decide)
      refine va_sld hx hb hX hbl hbA hS (show ¬ ((1 : Int32) < 0 ∨ 6 ≤ (1 : Int32).toNatClampNeg) by decide) dL_law_400 ?_
      have hPc := hP.sub (ws' := [(q3, .inr (12, fs))]) [2] rfl
      have hDc := hD.sub (ws' := [(q3, .inr (12, fs))]) [2] (by decide) rfl
      have hKc := hK.sub (tys' := []) [] rfl
      have hFc := ro_free hS hA
      refine va_calli (va_runV (As := [.int (xs (Int32.toNatClampNeg 1))]) (rest := [.int 0]) ⟨hx, hb, hml, hown, hts⟩ (c_X11_tell l dC dI (q3) (fs) ((xs (Int32.toNatClampNeg 1))) H.size (hf0)) (cwV 1 hts g_law_c_X11_tell_45 rfl rfl rfl (by decide +kernel) ⟨Nat.le_of_ble_eq_true rfl, Nat.le_of_ble_eq_true rfl⟩) ⟨fun a U g mk q => by obtain ⟨q0, q1, qP, qK, qD, qE⟩ := q; exact ⟨q0, q1, qP, va_K.moved (u := U) (U := U.calling g mk a) (Vm.Alike.refl U.vm) qK, qD, ev.same (u := U) (U := U.calling g mk a) rfl qE⟩, va_recv hKc hPc (ci := 12) (q0 := 0) rfl rfl, fun U hU hW => ⟨rfl, by rw [hU], by rw [hU]; exact hPc, va_K.moved hW.alike hKc, hDc.weaken (fun _ _ _ _ => trivial), hE.warm hW⟩⟩ rfl rfl hl.1 rfl (lv_room (Nat.le_of_ble_eq_true rfl)) dL_law_401 ⟨Nat.le_of_ble_eq_true rfl, Nat.le_of_ble_eq_true rfl⟩) hS (fun q _ h => hFc q h) hFc (fun r_78 u t H1 locs ht hvm hw hB hz1 hk1 hS => ?_)
      clear hPc hDc hKc
      replace hP := ro_keep hP hk1
      generalize H1 = H at hP hS ⊢
      replace hP : va_P (dC, dI) vwCl [(q1, .inr (11, [.ref n0, .ref st, .ref la, .int 0, .int 0, .int 0, .int (-1), .int 0])), (n0, .inl (cN, 8, .inr (.inr (.inr (.inr (fun _ => none)))))), (q3, .inr (12, fs)), (a2, .inl (c2, 8, .inr (.inl (fun _ => 0)))), (a3, .inl (c3, 8, .inl (fun _ => 0))), (a4, .inl (c4, 8, .inl (fun _ => 0))), (a5, .inl (c5, 8, .inl (fun _ => 0))), (a6, .inl (c6, 8, .inl (fun _ => 0)))] H := hP
      have hw := hw.symm
      subst hw
      refine lv_icmp_eq (tgt := 686) hx hb dL_law_404 (by decide) (fun c_79 => ?_) (fun c_79 => ?_)
      rotate_left
      · exact absurd (by decide) c_79
      refine lv_iinc (v := 6) (lv' := [(3, .int 6), (2, .ref q3), (1, .ref q1), (0, .ref b)]) hx hb dL_law_686 hl (k := 0) rfl (by decide) (by decide) rfl (fun ls hl => ?_)
      refine lv_goto (tgt := 18) hx hb dL_law_689 (by decide) ?_
      exact law_end hL C0 (Nat.le_of_ble_eq_true rfl) (Nat.le_of_ble_eq_true rfl) hS (lv_sub hl [0, 3] rfl)
    · obtain rfl : x_7 = 7 := Int32.toInt_inj.mp (c_8.trans (by decide))
      refine lv_tableIn (tgt := 409) hx hb dL_law_33 (by decide) (by decide) rfl (by decide) ?_
      refine lv_aload_n hx hb dL_law_409 rfl (lv_at hl 2 rfl) ?_
      refine lv_aload_n hx hb dL_law_410 rfl (lv_at hl 3 rfl) ?_
      refine lv_iload_n hx hb dL_law_411 rfl (lv_at hl 0 rfl) ?_
      refine lv_iconst (v := 1) hx hb dL_law_412 (by decide) ?_
      refine lv_iadd hx hb dL_law_413 ?_
      refine lv_topi (fun x_80 ex_80 => ?_)
      obtain rfl : x_80 = 1 := ex_80.trans (by decide)
      refine va_sld hx hb hX hbl hbA hS (show ¬ ((1 : Int32) < 0 ∨ 6 ≤ (1 : Int32).toNatClampNeg) by decide) dL_law_414 ?_
      refine lv_aload_n hx hb dL_law_415 rfl (lv_at hl 3 rfl) ?_
      refine lv_iload_n hx hb dL_law_416 rfl (lv_at hl 0 rfl) ?_
      refine lv_iconst (v := 2) hx hb dL_law_417 (by decide) ?_
      refine lv_iadd hx hb dL_law_418 ?_
      refine lv_topi (fun x_81 ex_81 => ?_)
      obtain rfl : x_81 = 2 := ex_81.trans (by decide)
      refine va_sld hx hb hX hbl hbA hS (show ¬ ((2 : Int32) < 0 ∨ 6 ≤ (2 : Int32).toNatClampNeg) by decide) dL_law_419 ?_
      have hPc := hP.sub (ws' := [(q1, .inr (11, [.ref n0, .ref st, .ref la, .int 0, .int 0, .int 0, .int (-1), .int 0]))]) [0] rfl
      have hDc := hD.sub (ws' := [(q1, .inr (11, [.ref n0, .ref st, .ref la, .int 0, .int 0, .int 0, .int (-1), .int 0]))]) [0] (by decide) rfl
      have hKc := hK.sub (tys' := []) [] rfl
      have hFc := ro_free hS hA
      refine va_calli (va_runV (As := [.int (xs (Int32.toNatClampNeg 1)), .int (xs (Int32.toNatClampNeg 2))]) (rest := []) ⟨hx, hb, hml, hown, hts⟩ (c_X10_lose l dC dI (q1) (n0) (st) (la) (0) ((xs (Int32.toNatClampNeg 1))) ((xs (Int32.toNatClampNeg 2))) H.size) (cwV 2 hts g_law_c_X10_lose_46 rfl rfl rfl (by decide +kernel) ⟨Nat.le_of_ble_eq_true rfl, Nat.le_of_ble_eq_true rfl⟩) ⟨fun a U g mk q => by obtain ⟨q0, q1, qP, qK, qD, qE⟩ := q; exact ⟨q0, q1, qP, va_K.moved (u := U) (U := U.calling g mk a) (Vm.Alike.refl U.vm) qK, qD, ev.same (u := U) (U := U.calling g mk a) rfl qE⟩, va_recv hKc hPc (ci := 11) (q0 := 0) rfl rfl, fun U hU hW => ⟨rfl, by rw [hU], by rw [hU]; exact hPc, va_K.moved hW.alike hKc, hDc.weaken (fun _ _ _ _ => trivial), hE.warm hW⟩⟩ rfl rfl hl.1 rfl (lv_room (Nat.le_of_ble_eq_true rfl)) dL_law_420 ⟨Nat.le_of_ble_eq_true rfl, Nat.le_of_ble_eq_true rfl⟩) hS (fun q _ h => hFc q h) hFc (fun r_82 u t H1 locs ht hvm hw hB hz1 hk1 hS => ?_)
      clear hPc hDc hKc
      replace hP := ro_keep hP hk1
      generalize H1 = H at hP hS ⊢
      replace hP : va_P (dC, dI) vwCl [(q1, .inr (11, [.ref n0, .ref st, .ref la, .int 0, .int 0, .int 0, .int (-1), .int 0])), (n0, .inl (cN, 8, .inr (.inr (.inr (.inr (fun _ => none)))))), (q3, .inr (12, fs)), (a2, .inl (c2, 8, .inr (.inl (fun _ => 0)))), (a3, .inl (c3, 8, .inl (fun _ => 0))), (a4, .inl (c4, 8, .inl (fun _ => 0))), (a5, .inl (c5, 8, .inl (fun _ => 0))), (a6, .inl (c6, 8, .inl (fun _ => 0)))] H := hP
      have hw := hw.symm
      subst hw
      refine lv_aload_n hx hb dL_law_423 rfl (lv_at hl 1 rfl) ?_
      refine lv_aload_n hx hb dL_law_424 rfl (lv_at hl 3 rfl) ?_
      refine lv_iload_n hx hb dL_law_425 rfl (lv_at hl 0 rfl) ?_
      refine lv_iconst (v := 1) hx hb dL_law_426 (by decide) ?_
      refine lv_iadd hx hb dL_law_427 ?_
      refine lv_topi (fun x_83 ex_83 => ?_)
      obtain rfl : x_83 = 1 := ex_83.trans (by decide)
      refine va_sld hx hb hX hbl hbA hS (show ¬ ((1 : Int32) < 0 ∨ 6 ≤ (1 : Int32).toNatClampNeg) by decide) dL_law_428 ?_
      refine lv_aload_n hx hb dL_law_429 rfl (lv_at hl 3 rfl) ?_
      refine lv_iload_n hx hb dL_law_430 rfl (lv_at hl 0 rfl) ?_
      refine lv_iconst (v := 2) hx hb dL_law_431 (by decide) ?_
      refine lv_iadd hx hb dL_law_432 ?_
      refine lv_topi (fun x_84 ex_84 => ?_)
      obtain rfl : x_84 = 2 := ex_84.trans (by decide)
      refine va_sld hx hb hX hbl hbA hS (show ¬ ((2 : Int32) < 0 ∨ 6 ≤ (2 : Int32).toNatClampNeg) by decide) dL_law_433 ?_
      have hPc := hP.sub (ws' := [(q3, .inr (12, fs))]) [2] rfl
      have hDc := hD.sub (ws' := [(q3, .inr (12, fs))]) [2] (by decide) rfl
      have hKc := hK.sub (tys' := []) [] rfl
      have hFc := ro_free hS hA
      refine va_calli (va_runV (As := [.int (xs (Int32.toNatClampNeg 1)), .int (xs (Int32.toNatClampNeg 2))]) (rest := [.int 0]) ⟨hx, hb, hml, hown, hts⟩ (c_X11_lose l dC dI (q3) (fs) ((xs (Int32.toNatClampNeg 1))) ((xs (Int32.toNatClampNeg 2))) H.size (hf0)) (cwV 2 hts g_law_c_X11_lose_49 rfl rfl rfl (by decide +kernel) ⟨Nat.le_of_ble_eq_true rfl, Nat.le_of_ble_eq_true rfl⟩) ⟨fun a U g mk q => by obtain ⟨q0, q1, qP, qK, qD, qE⟩ := q; exact ⟨q0, q1, qP, va_K.moved (u := U) (U := U.calling g mk a) (Vm.Alike.refl U.vm) qK, qD, ev.same (u := U) (U := U.calling g mk a) rfl qE⟩, va_recv hKc hPc (ci := 12) (q0 := 0) rfl rfl, fun U hU hW => ⟨rfl, by rw [hU], by rw [hU]; exact hPc, va_K.moved hW.alike hKc, hDc.weaken (fun _ _ _ _ => trivial), hE.warm hW⟩⟩ rfl rfl hl.1 rfl (lv_room (Nat.le_of_ble_eq_true rfl)) dL_law_434 ⟨Nat.le_of_ble_eq_true rfl, Nat.le_of_ble_eq_true rfl⟩) hS (fun q _ h => hFc q h) hFc (fun r_85 u t H1 locs ht hvm hw hB hz1 hk1 hS => ?_)
      clear hPc hDc hKc
      replace hP := ro_keep hP hk1
      generalize H1 = H at hP hS ⊢
      replace hP : va_P (dC, dI) vwCl [(q1, .inr (11, [.ref n0, .ref st, .ref la, .int 0, .int 0, .int 0, .int (-1), .int 0])), (n0, .inl (cN, 8, .inr (.inr (.inr (.inr (fun _ => none)))))), (q3, .inr (12, fs)), (a2, .inl (c2, 8, .inr (.inl (fun _ => 0)))), (a3, .inl (c3, 8, .inl (fun _ => 0))), (a4, .inl (c4, 8, .inl (fun _ => 0))), (a5, .inl (c5, 8, .inl (fun _ => 0))), (a6, .inl (c6, 8, .inl (fun _ => 0)))] H := hP
      have hw := hw.symm
      subst hw
      refine lv_icmp_eq (tgt := 686) hx hb dL_law_437 (by decide) (fun c_86 => ?_) (fun c_86 => ?_)
      rotate_left
      · exact absurd (by decide) c_86
      refine lv_iinc (v := 6) (lv' := [(3, .int 6), (2, .ref q3), (1, .ref q1), (0, .ref b)]) hx hb dL_law_686 hl (k := 0) rfl (by decide) (by decide) rfl (fun ls hl => ?_)
      refine lv_goto (tgt := 18) hx hb dL_law_689 (by decide) ?_
      exact law_end hL C0 (Nat.le_of_ble_eq_true rfl) (Nat.le_of_ble_eq_true rfl) hS (lv_sub hl [0, 3] rfl)
    · obtain rfl : x_7 = 8 := Int32.toInt_inj.mp (c_8.trans (by decide))
      refine lv_tableIn (tgt := 442) hx hb dL_law_33 (by decide) (by decide) rfl (by decide) ?_
      refine lv_aload_n hx hb dL_law_442 rfl (lv_at hl 2 rfl) ?_
      refine lv_aload_n hx hb dL_law_443 rfl (lv_at hl 3 rfl) ?_
      refine lv_iload_n hx hb dL_law_444 rfl (lv_at hl 0 rfl) ?_
      refine lv_iconst (v := 1) hx hb dL_law_445 (by decide) ?_
      refine lv_iadd hx hb dL_law_446 ?_
      refine lv_topi (fun x_87 ex_87 => ?_)
      obtain rfl : x_87 = 1 := ex_87.trans (by decide)
      refine va_sld hx hb hX hbl hbA hS (show ¬ ((1 : Int32) < 0 ∨ 6 ≤ (1 : Int32).toNatClampNeg) by decide) dL_law_447 ?_
      have hPc := hP.sub (ws' := [(q1, .inr (11, [.ref n0, .ref st, .ref la, .int 0, .int 0, .int 0, .int (-1), .int 0]))]) [0] rfl
      have hDc := hD.sub (ws' := [(q1, .inr (11, [.ref n0, .ref st, .ref la, .int 0, .int 0, .int 0, .int (-1), .int 0]))]) [0] (by decide) rfl
      have hKc := hK.sub (tys' := []) [] rfl
      have hFc := va_free (wc := [(q1, .inr (11, [.ref n0, .ref st, .ref la, .int 0, .int 0, .int 0, .int (-1), .int 0]))]) hD hS hA [0] rfl
      refine va_calli (va_runV (As := [.int (xs (Int32.toNatClampNeg 1))]) (rest := []) ⟨hx, hb, hml, hown, hts⟩ (c_X10_pass l dC dI (q1) (n0) (st) (la) ((xs (Int32.toNatClampNeg 1))) H.size) (cwV 1 hts g_law_c_X10_pass_50 rfl rfl rfl (by decide +kernel) ⟨Nat.le_of_ble_eq_true rfl, Nat.le_of_ble_eq_true rfl⟩) ⟨fun a U g mk q => by obtain ⟨q0, q1, qP, qK, qD, qE⟩ := q; exact ⟨q0, q1, qP, va_K.moved (u := U) (U := U.calling g mk a) (Vm.Alike.refl U.vm) qK, qD, ev.same (u := U) (U := U.calling g mk a) rfl qE⟩, va_recv hKc hPc (ci := 11) (q0 := 0) rfl rfl, fun U hU hW => ⟨rfl, by rw [hU], by rw [hU]; exact hPc, va_K.moved hW.alike hKc, hDc.weaken (fun _ _ _ _ => trivial), hE.warm hW⟩⟩ rfl rfl hl.1 rfl (lv_room (Nat.le_of_ble_eq_true rfl)) dL_law_448 ⟨Nat.le_of_ble_eq_true rfl, Nat.le_of_ble_eq_true rfl⟩) hS (fun q _ h => hFc q h) hFc (fun r_88 u t H1 locs ht hvm hw hB hz1 hk1 hS => ?_)
      clear hPc hDc hKc
      obtain ⟨hP, hD⟩ := va_join (wr := [(n0, .inl (cN, 8, .inr (.inr (.inr (.inr (fun _ => none)))))), (q3, .inr (12, fs)), (a2, .inl (c2, 8, .inr (.inl (fun _ => 0)))), (a3, .inl (c3, 8, .inl (fun _ => 0))), (a4, .inl (c4, 8, .inl (fun _ => 0))), (a5, .inl (c5, 8, .inl (fun _ => 0))), (a6, .inl (c6, 8, .inl (fun _ => 0)))]) (w1 := []) hP hD [0] [1, 2, 3, 4, 5, 6, 7] rfl rfl (by decide) (by decide) hk1 hFc p_nil d_nil
      generalize H1 = H at hP hS ⊢
      replace hP : va_P (dC, dI) vwCl [(n0, .inl (cN, 8, .inr (.inr (.inr (.inr (fun _ => none)))))), (q3, .inr (12, fs)), (a2, .inl (c2, 8, .inr (.inl (fun _ => 0)))), (a3, .inl (c3, 8, .inl (fun _ => 0))), (a4, .inl (c4, 8, .inl (fun _ => 0))), (a5, .inl (c5, 8, .inl (fun _ => 0))), (a6, .inl (c6, 8, .inl (fun _ => 0)))] H := hP
      replace hD : va_D (fun q : Nat => s.heap.size ≤ q) [(n0, .inl (cN, 8, .inr (.inr (.inr (.inr (fun _ => none)))))), (q3, .inr (12, fs)), (a2, .inl (c2, 8, .inr (.inl (fun _ => 0)))), (a3, .inl (c3, 8, .inl (fun _ => 0))), (a4, .inl (c4, 8, .inl (fun _ => 0))), (a5, .inl (c5, 8, .inl (fun _ => 0))), (a6, .inl (c6, 8, .inl (fun _ => 0)))] := hD
      have er_88 := hw
      clear hw
      refine lv_aload_n hx hb dL_law_451 rfl (lv_at hl 1 rfl) ?_
      refine lv_aload_n hx hb dL_law_452 rfl (lv_at hl 3 rfl) ?_
      refine lv_iload_n hx hb dL_law_453 rfl (lv_at hl 0 rfl) ?_
      refine lv_iconst (v := 1) hx hb dL_law_454 (by decide) ?_
      refine lv_iadd hx hb dL_law_455 ?_
      refine lv_topi (fun x_89 ex_89 => ?_)
      obtain rfl : x_89 = 1 := ex_89.trans (by decide)
      refine va_sld hx hb hX hbl hbA hS (show ¬ ((1 : Int32) < 0 ∨ 6 ≤ (1 : Int32).toNatClampNeg) by decide) dL_law_456 ?_
      have hPc := hP.sub (ws' := [(q3, .inr (12, fs))]) [1] rfl
      have hDc := hD.sub (ws' := [(q3, .inr (12, fs))]) [1] (by decide) rfl
      have hKc := hK.sub (tys' := []) [] rfl
      have hFc := va_free (wc := [(q3, .inr (12, fs))]) hD hS hA [1] rfl
      refine va_calli (va_runV (As := [.int (xs (Int32.toNatClampNeg 1))]) (rest := [.int r_88]) ⟨hx, hb, hml, hown, hts⟩ (c_X11_pass l dC dI (q3) (fs) ((xs (Int32.toNatClampNeg 1))) H.size (hf0) (hf1) (hlen)) (cwV 1 hts g_law_c_X11_pass_54 rfl rfl rfl (by decide +kernel) ⟨Nat.le_of_ble_eq_true rfl, Nat.le_of_ble_eq_true rfl⟩) ⟨fun a U g mk q => by obtain ⟨q0, q1, qP, qK, qD, qE⟩ := q; exact ⟨q0, q1, qP, va_K.moved (u := U) (U := U.calling g mk a) (Vm.Alike.refl U.vm) qK, qD, ev.same (u := U) (U := U.calling g mk a) rfl qE⟩, va_recv hKc hPc (ci := 12) (q0 := 0) rfl rfl, fun U hU hW => ⟨rfl, by rw [hU], by rw [hU]; exact hPc, va_K.moved hW.alike hKc, hDc.weaken (fun _ _ _ _ => trivial), hE.warm hW⟩⟩ rfl rfl hl.1 rfl (lv_room (Nat.le_of_ble_eq_true rfl)) dL_law_457 ⟨Nat.le_of_ble_eq_true rfl, Nat.le_of_ble_eq_true rfl⟩) hS (fun q _ h => hFc q h) hFc (fun r_90 u t H1 locs ht hvm hw hB hz1 hk1 hS => ?_)
      clear hPc hDc hKc
      obtain ⟨hP, hD⟩ := va_join (wr := [(n0, .inl (cN, 8, .inr (.inr (.inr (.inr (fun _ => none)))))), (a2, .inl (c2, 8, .inr (.inl (fun _ => 0)))), (a3, .inl (c3, 8, .inl (fun _ => 0))), (a4, .inl (c4, 8, .inl (fun _ => 0))), (a5, .inl (c5, 8, .inl (fun _ => 0))), (a6, .inl (c6, 8, .inl (fun _ => 0)))]) (w1 := []) hP hD [1] [0, 2, 3, 4, 5, 6] rfl rfl (by decide) (by decide) hk1 hFc p_nil d_nil
      generalize H1 = H at hP hS ⊢
      replace hP : va_P (dC, dI) vwCl [(n0, .inl (cN, 8, .inr (.inr (.inr (.inr (fun _ => none)))))), (a2, .inl (c2, 8, .inr (.inl (fun _ => 0)))), (a3, .inl (c3, 8, .inl (fun _ => 0))), (a4, .inl (c4, 8, .inl (fun _ => 0))), (a5, .inl (c5, 8, .inl (fun _ => 0))), (a6, .inl (c6, 8, .inl (fun _ => 0)))] H := hP
      replace hD : va_D (fun q : Nat => s.heap.size ≤ q) [(n0, .inl (cN, 8, .inr (.inr (.inr (.inr (fun _ => none)))))), (a2, .inl (c2, 8, .inr (.inl (fun _ => 0)))), (a3, .inl (c3, 8, .inl (fun _ => 0))), (a4, .inl (c4, 8, .inl (fun _ => 0))), (a5, .inl (c5, 8, .inl (fun _ => 0))), (a6, .inl (c6, 8, .inl (fun _ => 0)))] := hD
      have er_90 := hw
      clear hw
      refine lv_icmp_eq (tgt := 686) hx hb dL_law_460 (by decide) (fun c_91 => ?_) (fun c_91 => ?_)
      rotate_left
      · exact absurd (er_88.trans er_90.symm) c_91
      refine lv_iinc (v := 6) (lv' := [(3, .int 6), (2, .ref q3), (1, .ref q1), (0, .ref b)]) hx hb dL_law_686 hl (k := 0) rfl (by decide) (by decide) rfl (fun ls hl => ?_)
      refine lv_goto (tgt := 18) hx hb dL_law_689 (by decide) ?_
      exact law_end hL C0 (Nat.le_of_ble_eq_true rfl) (Nat.le_of_ble_eq_true rfl) hS (lv_sub hl [0, 3] rfl)
    · obtain rfl : x_7 = 9 := Int32.toInt_inj.mp (c_8.trans (by decide))
      refine lv_tableIn (tgt := 465) hx hb dL_law_33 (by decide) (by decide) rfl (by decide) ?_
      refine lv_aload_n hx hb dL_law_465 rfl (lv_at hl 2 rfl) ?_
      refine lv_aload_n hx hb dL_law_466 rfl (lv_at hl 3 rfl) ?_
      refine lv_iload_n hx hb dL_law_467 rfl (lv_at hl 0 rfl) ?_
      refine lv_iconst (v := 1) hx hb dL_law_468 (by decide) ?_
      refine lv_iadd hx hb dL_law_469 ?_
      refine lv_topi (fun x_92 ex_92 => ?_)
      obtain rfl : x_92 = 1 := ex_92.trans (by decide)
      refine va_sld hx hb hX hbl hbA hS (show ¬ ((1 : Int32) < 0 ∨ 6 ≤ (1 : Int32).toNatClampNeg) by decide) dL_law_470 ?_
      refine lv_aload_n hx hb dL_law_471 rfl (lv_at hl 3 rfl) ?_
      refine lv_iload_n hx hb dL_law_472 rfl (lv_at hl 0 rfl) ?_
      refine lv_iconst (v := 2) hx hb dL_law_473 (by decide) ?_
      refine lv_iadd hx hb dL_law_474 ?_
      refine lv_topi (fun x_93 ex_93 => ?_)
      obtain rfl : x_93 = 2 := ex_93.trans (by decide)
      refine va_sld hx hb hX hbl hbA hS (show ¬ ((2 : Int32) < 0 ∨ 6 ≤ (2 : Int32).toNatClampNeg) by decide) dL_law_475 ?_
      have hPc := hP.sub (ws' := [(q1, .inr (11, [.ref n0, .ref st, .ref la, .int 0, .int 0, .int 0, .int (-1), .int 0]))]) [0] rfl
      have hDc := hD.sub (ws' := [(q1, .inr (11, [.ref n0, .ref st, .ref la, .int 0, .int 0, .int 0, .int (-1), .int 0]))]) [0] (by decide) rfl
      have hKc := hK.sub (tys' := []) [] rfl
      have hFc := ro_free hS hA
      refine va_calli (va_runV (As := [.int (xs (Int32.toNatClampNeg 1)), .int (xs (Int32.toNatClampNeg 2))]) (rest := []) ⟨hx, hb, hml, hown, hts⟩ (c_X10_told l dC dI (q1) (n0) (st) (la) (0) ((xs (Int32.toNatClampNeg 1))) ((xs (Int32.toNatClampNeg 2))) H.size) (cwV 2 hts g_law_c_X10_told_55 rfl rfl rfl (by decide +kernel) ⟨Nat.le_of_ble_eq_true rfl, Nat.le_of_ble_eq_true rfl⟩) ⟨fun a U g mk q => by obtain ⟨q0, q1, qP, qK, qD, qE⟩ := q; exact ⟨q0, q1, qP, va_K.moved (u := U) (U := U.calling g mk a) (Vm.Alike.refl U.vm) qK, qD, ev.same (u := U) (U := U.calling g mk a) rfl qE⟩, va_recv hKc hPc (ci := 11) (q0 := 0) rfl rfl, fun U hU hW => ⟨rfl, by rw [hU], by rw [hU]; exact hPc, va_K.moved hW.alike hKc, hDc.weaken (fun _ _ _ _ => trivial), hE.warm hW⟩⟩ rfl rfl hl.1 rfl (lv_room (Nat.le_of_ble_eq_true rfl)) dL_law_476 ⟨Nat.le_of_ble_eq_true rfl, Nat.le_of_ble_eq_true rfl⟩) hS (fun q _ h => hFc q h) hFc (fun r_94 u t H1 locs ht hvm hw hB hz1 hk1 hS => ?_)
      clear hPc hDc hKc
      replace hP := ro_keep hP hk1
      generalize H1 = H at hP hS ⊢
      replace hP : va_P (dC, dI) vwCl [(q1, .inr (11, [.ref n0, .ref st, .ref la, .int 0, .int 0, .int 0, .int (-1), .int 0])), (n0, .inl (cN, 8, .inr (.inr (.inr (.inr (fun _ => none)))))), (q3, .inr (12, fs)), (a2, .inl (c2, 8, .inr (.inl (fun _ => 0)))), (a3, .inl (c3, 8, .inl (fun _ => 0))), (a4, .inl (c4, 8, .inl (fun _ => 0))), (a5, .inl (c5, 8, .inl (fun _ => 0))), (a6, .inl (c6, 8, .inl (fun _ => 0)))] H := hP
      have hw := hw.symm
      subst hw
      refine lv_aload_n hx hb dL_law_479 rfl (lv_at hl 1 rfl) ?_
      refine lv_aload_n hx hb dL_law_480 rfl (lv_at hl 3 rfl) ?_
      refine lv_iload_n hx hb dL_law_481 rfl (lv_at hl 0 rfl) ?_
      refine lv_iconst (v := 1) hx hb dL_law_482 (by decide) ?_
      refine lv_iadd hx hb dL_law_483 ?_
      refine lv_topi (fun x_95 ex_95 => ?_)
      obtain rfl : x_95 = 1 := ex_95.trans (by decide)
      refine va_sld hx hb hX hbl hbA hS (show ¬ ((1 : Int32) < 0 ∨ 6 ≤ (1 : Int32).toNatClampNeg) by decide) dL_law_484 ?_
      refine lv_aload_n hx hb dL_law_485 rfl (lv_at hl 3 rfl) ?_
      refine lv_iload_n hx hb dL_law_486 rfl (lv_at hl 0 rfl) ?_
      refine lv_iconst (v := 2) hx hb dL_law_487 (by decide) ?_
      refine lv_iadd hx hb dL_law_488 ?_
      refine lv_topi (fun x_96 ex_96 => ?_)
      obtain rfl : x_96 = 2 := ex_96.trans (by decide)
      refine va_sld hx hb hX hbl hbA hS (show ¬ ((2 : Int32) < 0 ∨ 6 ≤ (2 : Int32).toNatClampNeg) by decide) dL_law_489 ?_
      have hPc := hP.sub (ws' := [(q3, .inr (12, fs))]) [2] rfl
      have hDc := hD.sub (ws' := [(q3, .inr (12, fs))]) [2] (by decide) rfl
      have hKc := hK.sub (tys' := []) [] rfl
      have hFc := ro_free hS hA
      refine va_calli (va_runV (As := [.int (xs (Int32.toNatClampNeg 1)), .int (xs (Int32.toNatClampNeg 2))]) (rest := [.int (-1)]) ⟨hx, hb, hml, hown, hts⟩ (c_X11_told l dC dI (q3) (fs) ((xs (Int32.toNatClampNeg 1))) ((xs (Int32.toNatClampNeg 2))) H.size (hf0)) (cwV 2 hts g_law_c_X11_told_59 rfl rfl rfl (by decide +kernel) ⟨Nat.le_of_ble_eq_true rfl, Nat.le_of_ble_eq_true rfl⟩) ⟨fun a U g mk q => by obtain ⟨q0, q1, qP, qK, qD, qE⟩ := q; exact ⟨q0, q1, qP, va_K.moved (u := U) (U := U.calling g mk a) (Vm.Alike.refl U.vm) qK, qD, ev.same (u := U) (U := U.calling g mk a) rfl qE⟩, va_recv hKc hPc (ci := 12) (q0 := 0) rfl rfl, fun U hU hW => ⟨rfl, by rw [hU], by rw [hU]; exact hPc, va_K.moved hW.alike hKc, hDc.weaken (fun _ _ _ _ => trivial), hE.warm hW⟩⟩ rfl rfl hl.1 rfl (lv_room (Nat.le_of_ble_eq_true rfl)) dL_law_490 ⟨Nat.le_of_ble_eq_true rfl, Nat.le_of_ble_eq_true rfl⟩) hS (fun q _ h => hFc q h) hFc (fun r_97 u t H1 locs ht hvm hw hB hz1 hk1 hS => ?_)
      clear hPc hDc hKc
      replace hP := ro_keep hP hk1
      generalize H1 = H at hP hS ⊢
      replace hP : va_P (dC, dI) vwCl [(q1, .inr (11, [.ref n0, .ref st, .ref la, .int 0, .int 0, .int 0, .int (-1), .int 0])), (n0, .inl (cN, 8, .inr (.inr (.inr (.inr (fun _ => none)))))), (q3, .inr (12, fs)), (a2, .inl (c2, 8, .inr (.inl (fun _ => 0)))), (a3, .inl (c3, 8, .inl (fun _ => 0))), (a4, .inl (c4, 8, .inl (fun _ => 0))), (a5, .inl (c5, 8, .inl (fun _ => 0))), (a6, .inl (c6, 8, .inl (fun _ => 0)))] H := hP
      have hw := hw.symm
      subst hw
      refine lv_icmp_eq (tgt := 686) hx hb dL_law_493 (by decide) (fun c_98 => ?_) (fun c_98 => ?_)
      rotate_left
      · exact absurd (by decide) c_98
      refine lv_iinc (v := 6) (lv' := [(3, .int 6), (2, .ref q3), (1, .ref q1), (0, .ref b)]) hx hb dL_law_686 hl (k := 0) rfl (by decide) (by decide) rfl (fun ls hl => ?_)
      refine lv_goto (tgt := 18) hx hb dL_law_689 (by decide) ?_
      exact law_end hL C0 (Nat.le_of_ble_eq_true rfl) (Nat.le_of_ble_eq_true rfl) hS (lv_sub hl [0, 3] rfl)
    · obtain rfl : x_7 = 10 := Int32.toInt_inj.mp (c_8.trans (by decide))
      refine lv_tableIn (tgt := 498) hx hb dL_law_33 (by decide) (by decide) rfl (by decide) ?_
      refine lv_aload_n hx hb dL_law_498 rfl (lv_at hl 2 rfl) ?_
      refine lv_aload_n hx hb dL_law_499 rfl (lv_at hl 3 rfl) ?_
      refine lv_iload_n hx hb dL_law_500 rfl (lv_at hl 0 rfl) ?_
      refine lv_iconst (v := 1) hx hb dL_law_501 (by decide) ?_
      refine lv_iadd hx hb dL_law_502 ?_
      refine lv_topi (fun x_99 ex_99 => ?_)
      obtain rfl : x_99 = 1 := ex_99.trans (by decide)
      refine va_sld hx hb hX hbl hbA hS (show ¬ ((1 : Int32) < 0 ∨ 6 ≤ (1 : Int32).toNatClampNeg) by decide) dL_law_503 ?_
      refine lv_aload_n hx hb dL_law_504 rfl (lv_at hl 3 rfl) ?_
      refine lv_iload_n hx hb dL_law_505 rfl (lv_at hl 0 rfl) ?_
      refine lv_iconst (v := 2) hx hb dL_law_506 (by decide) ?_
      refine lv_iadd hx hb dL_law_507 ?_
      refine lv_topi (fun x_100 ex_100 => ?_)
      obtain rfl : x_100 = 2 := ex_100.trans (by decide)
      refine va_sld hx hb hX hbl hbA hS (show ¬ ((2 : Int32) < 0 ∨ 6 ≤ (2 : Int32).toNatClampNeg) by decide) dL_law_508 ?_
      have hPc := hP.sub (ws' := [(q1, .inr (11, [.ref n0, .ref st, .ref la, .int 0, .int 0, .int 0, .int (-1), .int 0]))]) [0] rfl
      have hDc := hD.sub (ws' := [(q1, .inr (11, [.ref n0, .ref st, .ref la, .int 0, .int 0, .int 0, .int (-1), .int 0]))]) [0] (by decide) rfl
      have hKc := hK.sub (tys' := []) [] rfl
      have hFc := ro_free hS hA
      refine va_calli (va_runV (As := [.int (xs (Int32.toNatClampNeg 1)), .int (xs (Int32.toNatClampNeg 2))]) (rest := []) ⟨hx, hb, hml, hown, hts⟩ (c_X10_table l dC dI (q1) (n0) (st) (la) (0) ((xs (Int32.toNatClampNeg 1))) ((xs (Int32.toNatClampNeg 2))) H.size) (cwV 2 hts g_law_c_X10_table_60 rfl rfl rfl (by decide +kernel) ⟨Nat.le_of_ble_eq_true rfl, Nat.le_of_ble_eq_true rfl⟩) ⟨fun a U g mk q => by obtain ⟨q0, q1, qP, qK, qD, qE⟩ := q; exact ⟨q0, q1, qP, va_K.moved (u := U) (U := U.calling g mk a) (Vm.Alike.refl U.vm) qK, qD, ev.same (u := U) (U := U.calling g mk a) rfl qE⟩, va_recv hKc hPc (ci := 11) (q0 := 0) rfl rfl, fun U hU hW => ⟨rfl, by rw [hU], by rw [hU]; exact hPc, va_K.moved hW.alike hKc, hDc.weaken (fun _ _ _ _ => trivial), hE.warm hW⟩⟩ rfl rfl hl.1 rfl (lv_room (Nat.le_of_ble_eq_true rfl)) dL_law_509 ⟨Nat.le_of_ble_eq_true rfl, Nat.le_of_ble_eq_true rfl⟩) hS (fun q _ h => hFc q h) hFc (fun r_101 u t H1 locs ht hvm hw hB hz1 hk1 hS => ?_)
      clear hPc hDc hKc
      replace hP := ro_keep hP hk1
      generalize H1 = H at hP hS ⊢
      replace hP : va_P (dC, dI) vwCl [(q1, .inr (11, [.ref n0, .ref st, .ref la, .int 0, .int 0, .int 0, .int (-1), .int 0])), (n0, .inl (cN, 8, .inr (.inr (.inr (.inr (fun _ => none)))))), (q3, .inr (12, fs)), (a2, .inl (c2, 8, .inr (.inl (fun _ => 0)))), (a3, .inl (c3, 8, .inl (fun _ => 0))), (a4, .inl (c4, 8, .inl (fun _ => 0))), (a5, .inl (c5, 8, .inl (fun _ => 0))), (a6, .inl (c6, 8, .inl (fun _ => 0)))] H := hP
      have hw := hw.symm
      subst hw
      refine lv_aload_n hx hb dL_law_512 rfl (lv_at hl 1 rfl) ?_
      refine lv_aload_n hx hb dL_law_513 rfl (lv_at hl 3 rfl) ?_
      refine lv_iload_n hx hb dL_law_514 rfl (lv_at hl 0 rfl) ?_
      refine lv_iconst (v := 1) hx hb dL_law_515 (by decide) ?_
      refine lv_iadd hx hb dL_law_516 ?_
      refine lv_topi (fun x_102 ex_102 => ?_)
      obtain rfl : x_102 = 1 := ex_102.trans (by decide)
      refine va_sld hx hb hX hbl hbA hS (show ¬ ((1 : Int32) < 0 ∨ 6 ≤ (1 : Int32).toNatClampNeg) by decide) dL_law_517 ?_
      refine lv_aload_n hx hb dL_law_518 rfl (lv_at hl 3 rfl) ?_
      refine lv_iload_n hx hb dL_law_519 rfl (lv_at hl 0 rfl) ?_
      refine lv_iconst (v := 2) hx hb dL_law_520 (by decide) ?_
      refine lv_iadd hx hb dL_law_521 ?_
      refine lv_topi (fun x_103 ex_103 => ?_)
      obtain rfl : x_103 = 2 := ex_103.trans (by decide)
      refine va_sld hx hb hX hbl hbA hS (show ¬ ((2 : Int32) < 0 ∨ 6 ≤ (2 : Int32).toNatClampNeg) by decide) dL_law_522 ?_
      have hPc := hP.sub (ws' := [(q3, .inr (12, fs))]) [2] rfl
      have hDc := hD.sub (ws' := [(q3, .inr (12, fs))]) [2] (by decide) rfl
      have hKc := hK.sub (tys' := []) [] rfl
      have hFc := ro_free hS hA
      refine va_calli (va_runV (As := [.int (xs (Int32.toNatClampNeg 1)), .int (xs (Int32.toNatClampNeg 2))]) (rest := [.int (-1)]) ⟨hx, hb, hml, hown, hts⟩ (c_X11_table l dC dI (q3) (fs) ((xs (Int32.toNatClampNeg 1))) ((xs (Int32.toNatClampNeg 2))) H.size (hf0)) (cwV 2 hts g_law_c_X11_table_63 rfl rfl rfl (by decide +kernel) ⟨Nat.le_of_ble_eq_true rfl, Nat.le_of_ble_eq_true rfl⟩) ⟨fun a U g mk q => by obtain ⟨q0, q1, qP, qK, qD, qE⟩ := q; exact ⟨q0, q1, qP, va_K.moved (u := U) (U := U.calling g mk a) (Vm.Alike.refl U.vm) qK, qD, ev.same (u := U) (U := U.calling g mk a) rfl qE⟩, va_recv hKc hPc (ci := 12) (q0 := 0) rfl rfl, fun U hU hW => ⟨rfl, by rw [hU], by rw [hU]; exact hPc, va_K.moved hW.alike hKc, hDc.weaken (fun _ _ _ _ => trivial), hE.warm hW⟩⟩ rfl rfl hl.1 rfl (lv_room (Nat.le_of_ble_eq_true rfl)) dL_law_523 ⟨Nat.le_of_ble_eq_true rfl, Nat.le_of_ble_eq_true rfl⟩) hS (fun q _ h => hFc q h) hFc (fun r_104 u t H1 locs ht hvm hw hB hz1 hk1 hS => ?_)
      clear hPc hDc hKc
      replace hP := ro_keep hP hk1
      generalize H1 = H at hP hS ⊢
      replace hP : va_P (dC, dI) vwCl [(q1, .inr (11, [.ref n0, .ref st, .ref la, .int 0, .int 0, .int 0, .int (-1), .int 0])), (n0, .inl (cN, 8, .inr (.inr (.inr (.inr (fun _ => none)))))), (q3, .inr (12, fs)), (a2, .inl (c2, 8, .inr (.inl (fun _ => 0)))), (a3, .inl (c3, 8, .inl (fun _ => 0))), (a4, .inl (c4, 8, .inl (fun _ => 0))), (a5, .inl (c5, 8, .inl (fun _ => 0))), (a6, .inl (c6, 8, .inl (fun _ => 0)))] H := hP
      have hw := hw.symm
      subst hw
      refine lv_icmp_eq (tgt := 686) hx hb dL_law_526 (by decide) (fun c_105 => ?_) (fun c_105 => ?_)
      rotate_left
      · exact absurd (by decide) c_105
      refine lv_iinc (v := 6) (lv' := [(3, .int 6), (2, .ref q3), (1, .ref q1), (0, .ref b)]) hx hb dL_law_686 hl (k := 0) rfl (by decide) (by decide) rfl (fun ls hl => ?_)
      refine lv_goto (tgt := 18) hx hb dL_law_689 (by decide) ?_
      exact law_end hL C0 (Nat.le_of_ble_eq_true rfl) (Nat.le_of_ble_eq_true rfl) hS (lv_sub hl [0, 3] rfl)
    · obtain rfl : x_7 = 11 := Int32.toInt_inj.mp (c_8.trans (by decide))
      refine lv_tableIn (tgt := 531) hx hb dL_law_33 (by decide) (by decide) rfl (by decide) ?_
      refine lv_aload_n hx hb dL_law_531 rfl (lv_at hl 2 rfl) ?_
      refine lv_aload_n hx hb dL_law_532 rfl (lv_at hl 3 rfl) ?_
      refine lv_iload_n hx hb dL_law_533 rfl (lv_at hl 0 rfl) ?_
      refine lv_iconst (v := 1) hx hb dL_law_534 (by decide) ?_
      refine lv_iadd hx hb dL_law_535 ?_
      refine lv_topi (fun x_106 ex_106 => ?_)
      obtain rfl : x_106 = 1 := ex_106.trans (by decide)
      refine va_sld hx hb hX hbl hbA hS (show ¬ ((1 : Int32) < 0 ∨ 6 ≤ (1 : Int32).toNatClampNeg) by decide) dL_law_536 ?_
      refine lv_aload_n hx hb dL_law_537 rfl (lv_at hl 3 rfl) ?_
      refine lv_iload_n hx hb dL_law_538 rfl (lv_at hl 0 rfl) ?_
      refine lv_iconst (v := 2) hx hb dL_law_539 (by decide) ?_
      refine lv_iadd hx hb dL_law_540 ?_
      refine lv_topi (fun x_107 ex_107 => ?_)
      obtain rfl : x_107 = 2 := ex_107.trans (by decide)
      refine va_sld hx hb hX hbl hbA hS (show ¬ ((2 : Int32) < 0 ∨ 6 ≤ (2 : Int32).toNatClampNeg) by decide) dL_law_541 ?_
      refine lv_aload_n hx hb dL_law_542 rfl (lv_at hl 3 rfl) ?_
      refine lv_iload_n hx hb dL_law_543 rfl (lv_at hl 0 rfl) ?_
      refine lv_iconst (v := 3) hx hb dL_law_544 (by decide) ?_
      refine lv_iadd hx hb dL_law_545 ?_
      refine lv_topi (fun x_108 ex_108 => ?_)
      obtain rfl : x_108 = 3 := ex_108.trans (by decide)
      refine va_sld hx hb hX hbl hbA hS (show ¬ ((3 : Int32) < 0 ∨ 6 ≤ (3 : Int32).toNatClampNeg) by decide) dL_law_546 ?_
      have hPc := hP.sub (ws' := [(q1, .inr (11, [.ref n0, .ref st, .ref la, .int 0, .int 0, .int 0, .int (-1), .int 0]))]) [0] rfl
      have hDc := hD.sub (ws' := [(q1, .inr (11, [.ref n0, .ref st, .ref la, .int 0, .int 0, .int 0, .int (-1), .int 0]))]) [0] (by decide) rfl
      have hKc := hK.sub (tys' := []) [] rfl
      have hFc := ro_free hS hA
      refine va_calli (va_runV (As := [.int (xs (Int32.toNatClampNeg 1)), .int (xs (Int32.toNatClampNeg 2)), .int (xs (Int32.toNatClampNeg 3))]) (rest := []) ⟨hx, hb, hml, hown, hts⟩ (c_X10_message l dC dI (q1) (n0) (st) (la) (0) ((xs (Int32.toNatClampNeg 1))) ((xs (Int32.toNatClampNeg 2))) ((xs (Int32.toNatClampNeg 3))) H.size) (cwV 3 hts g_law_c_X10_message_64 rfl rfl rfl (by decide +kernel) ⟨Nat.le_of_ble_eq_true rfl, Nat.le_of_ble_eq_true rfl⟩) ⟨fun a U g mk q => by obtain ⟨q0, q1, qP, qK, qD, qE⟩ := q; exact ⟨q0, q1, qP, va_K.moved (u := U) (U := U.calling g mk a) (Vm.Alike.refl U.vm) qK, qD, ev.same (u := U) (U := U.calling g mk a) rfl qE⟩, va_recv hKc hPc (ci := 11) (q0 := 0) rfl rfl, fun U hU hW => ⟨rfl, by rw [hU], by rw [hU]; exact hPc, va_K.moved hW.alike hKc, hDc.weaken (fun _ _ _ _ => trivial), hE.warm hW⟩⟩ rfl rfl hl.1 rfl (lv_room (Nat.le_of_ble_eq_true rfl)) dL_law_547 ⟨Nat.le_of_ble_eq_true rfl, Nat.le_of_ble_eq_true rfl⟩) hS (fun q _ h => hFc q h) hFc (fun r_109 u t H1 locs ht hvm hw hB hz1 hk1 hS => ?_)
      clear hPc hDc hKc
      replace hP := ro_keep hP hk1
      generalize H1 = H at hP hS ⊢
      replace hP : va_P (dC, dI) vwCl [(q1, .inr (11, [.ref n0, .ref st, .ref la, .int 0, .int 0, .int 0, .int (-1), .int 0])), (n0, .inl (cN, 8, .inr (.inr (.inr (.inr (fun _ => none)))))), (q3, .inr (12, fs)), (a2, .inl (c2, 8, .inr (.inl (fun _ => 0)))), (a3, .inl (c3, 8, .inl (fun _ => 0))), (a4, .inl (c4, 8, .inl (fun _ => 0))), (a5, .inl (c5, 8, .inl (fun _ => 0))), (a6, .inl (c6, 8, .inl (fun _ => 0)))] H := hP
      have hw := hw.symm
      subst hw
      refine lv_aload_n hx hb dL_law_550 rfl (lv_at hl 1 rfl) ?_
      refine lv_aload_n hx hb dL_law_551 rfl (lv_at hl 3 rfl) ?_
      refine lv_iload_n hx hb dL_law_552 rfl (lv_at hl 0 rfl) ?_
      refine lv_iconst (v := 1) hx hb dL_law_553 (by decide) ?_
      refine lv_iadd hx hb dL_law_554 ?_
      refine lv_topi (fun x_110 ex_110 => ?_)
      obtain rfl : x_110 = 1 := ex_110.trans (by decide)
      refine va_sld hx hb hX hbl hbA hS (show ¬ ((1 : Int32) < 0 ∨ 6 ≤ (1 : Int32).toNatClampNeg) by decide) dL_law_555 ?_
      refine lv_aload_n hx hb dL_law_556 rfl (lv_at hl 3 rfl) ?_
      refine lv_iload_n hx hb dL_law_557 rfl (lv_at hl 0 rfl) ?_
      refine lv_iconst (v := 2) hx hb dL_law_558 (by decide) ?_
      refine lv_iadd hx hb dL_law_559 ?_
      refine lv_topi (fun x_111 ex_111 => ?_)
      obtain rfl : x_111 = 2 := ex_111.trans (by decide)
      refine va_sld hx hb hX hbl hbA hS (show ¬ ((2 : Int32) < 0 ∨ 6 ≤ (2 : Int32).toNatClampNeg) by decide) dL_law_560 ?_
      refine lv_aload_n hx hb dL_law_561 rfl (lv_at hl 3 rfl) ?_
      refine lv_iload_n hx hb dL_law_562 rfl (lv_at hl 0 rfl) ?_
      refine lv_iconst (v := 3) hx hb dL_law_563 (by decide) ?_
      refine lv_iadd hx hb dL_law_564 ?_
      refine lv_topi (fun x_112 ex_112 => ?_)
      obtain rfl : x_112 = 3 := ex_112.trans (by decide)
      refine va_sld hx hb hX hbl hbA hS (show ¬ ((3 : Int32) < 0 ∨ 6 ≤ (3 : Int32).toNatClampNeg) by decide) dL_law_565 ?_
      have hPc := hP.sub (ws' := [(q3, .inr (12, fs))]) [2] rfl
      have hDc := hD.sub (ws' := [(q3, .inr (12, fs))]) [2] (by decide) rfl
      have hKc := hK.sub (tys' := []) [] rfl
      have hFc := ro_free hS hA
      refine va_calli (va_runV (As := [.int (xs (Int32.toNatClampNeg 1)), .int (xs (Int32.toNatClampNeg 2)), .int (xs (Int32.toNatClampNeg 3))]) (rest := [.int (-1)]) ⟨hx, hb, hml, hown, hts⟩ (c_X11_message l dC dI (q3) (fs) ((xs (Int32.toNatClampNeg 1))) ((xs (Int32.toNatClampNeg 2))) ((xs (Int32.toNatClampNeg 3))) H.size (hf0)) (cwV 3 hts g_law_c_X11_message_68 rfl rfl rfl (by decide +kernel) ⟨Nat.le_of_ble_eq_true rfl, Nat.le_of_ble_eq_true rfl⟩) ⟨fun a U g mk q => by obtain ⟨q0, q1, qP, qK, qD, qE⟩ := q; exact ⟨q0, q1, qP, va_K.moved (u := U) (U := U.calling g mk a) (Vm.Alike.refl U.vm) qK, qD, ev.same (u := U) (U := U.calling g mk a) rfl qE⟩, va_recv hKc hPc (ci := 12) (q0 := 0) rfl rfl, fun U hU hW => ⟨rfl, by rw [hU], by rw [hU]; exact hPc, va_K.moved hW.alike hKc, hDc.weaken (fun _ _ _ _ => trivial), hE.warm hW⟩⟩ rfl rfl hl.1 rfl (lv_room (Nat.le_of_ble_eq_true rfl)) dL_law_566 ⟨Nat.le_of_ble_eq_true rfl, Nat.le_of_ble_eq_true rfl⟩) hS (fun q _ h => hFc q h) hFc (fun r_113 u t H1 locs ht hvm hw hB hz1 hk1 hS => ?_)
      clear hPc hDc hKc
      replace hP := ro_keep hP hk1
      generalize H1 = H at hP hS ⊢
      replace hP : va_P (dC, dI) vwCl [(q1, .inr (11, [.ref n0, .ref st, .ref la, .int 0, .int 0, .int 0, .int (-1), .int 0])), (n0, .inl (cN, 8, .inr (.inr (.inr (.inr (fun _ => none)))))), (q3, .inr (12, fs)), (a2, .inl (c2, 8, .inr (.inl (fun _ => 0)))), (a3, .inl (c3, 8, .inl (fun _ => 0))), (a4, .inl (c4, 8, .inl (fun _ => 0))), (a5, .inl (c5, 8, .inl (fun _ => 0))), (a6, .inl (c6, 8, .inl (fun _ => 0)))] H := hP
      have hw := hw.symm
      subst hw
      refine lv_icmp_eq (tgt := 686) hx hb dL_law_569 (by decide) (fun c_114 => ?_) (fun c_114 => ?_)
      rotate_left
      · exact absurd (by decide) c_114
      refine lv_iinc (v := 6) (lv' := [(3, .int 6), (2, .ref q3), (1, .ref q1), (0, .ref b)]) hx hb dL_law_686 hl (k := 0) rfl (by decide) (by decide) rfl (fun ls hl => ?_)
      refine lv_goto (tgt := 18) hx hb dL_law_689 (by decide) ?_
      exact law_end hL C0 (Nat.le_of_ble_eq_true rfl) (Nat.le_of_ble_eq_true rfl) hS (lv_sub hl [0, 3] rfl)
    · obtain rfl : x_7 = 12 := Int32.toInt_inj.mp (c_8.trans (by decide))
      refine lv_tableIn (tgt := 574) hx hb dL_law_33 (by decide) (by decide) rfl (by decide) ?_
      refine lv_aload_n hx hb dL_law_574 rfl (lv_at hl 2 rfl) ?_
      refine lv_aload_n hx hb dL_law_575 rfl (lv_at hl 3 rfl) ?_
      refine lv_iload_n hx hb dL_law_576 rfl (lv_at hl 0 rfl) ?_
      refine lv_iconst (v := 1) hx hb dL_law_577 (by decide) ?_
      refine lv_iadd hx hb dL_law_578 ?_
      refine lv_topi (fun x_115 ex_115 => ?_)
      obtain rfl : x_115 = 1 := ex_115.trans (by decide)
      refine va_sld hx hb hX hbl hbA hS (show ¬ ((1 : Int32) < 0 ∨ 6 ≤ (1 : Int32).toNatClampNeg) by decide) dL_law_579 ?_
      refine lv_aload_n hx hb dL_law_580 rfl (lv_at hl 3 rfl) ?_
      refine lv_iload_n hx hb dL_law_581 rfl (lv_at hl 0 rfl) ?_
      refine lv_iconst (v := 2) hx hb dL_law_582 (by decide) ?_
      refine lv_iadd hx hb dL_law_583 ?_
      refine lv_topi (fun x_116 ex_116 => ?_)
      obtain rfl : x_116 = 2 := ex_116.trans (by decide)
      refine va_sld hx hb hX hbl hbA hS (show ¬ ((2 : Int32) < 0 ∨ 6 ≤ (2 : Int32).toNatClampNeg) by decide) dL_law_584 ?_
      refine lv_aload_n hx hb dL_law_585 rfl (lv_at hl 3 rfl) ?_
      refine lv_iload_n hx hb dL_law_586 rfl (lv_at hl 0 rfl) ?_
      refine lv_iconst (v := 3) hx hb dL_law_587 (by decide) ?_
      refine lv_iadd hx hb dL_law_588 ?_
      refine lv_topi (fun x_117 ex_117 => ?_)
      obtain rfl : x_117 = 3 := ex_117.trans (by decide)
      refine va_sld hx hb hX hbl hbA hS (show ¬ ((3 : Int32) < 0 ∨ 6 ≤ (3 : Int32).toNatClampNeg) by decide) dL_law_589 ?_
      refine lv_aload_n hx hb dL_law_590 rfl (lv_at hl 3 rfl) ?_
      refine lv_iload_n hx hb dL_law_591 rfl (lv_at hl 0 rfl) ?_
      refine lv_iconst (v := 4) hx hb dL_law_592 (by decide) ?_
      refine lv_iadd hx hb dL_law_593 ?_
      refine lv_topi (fun x_118 ex_118 => ?_)
      obtain rfl : x_118 = 4 := ex_118.trans (by decide)
      refine va_sld hx hb hX hbl hbA hS (show ¬ ((4 : Int32) < 0 ∨ 6 ≤ (4 : Int32).toNatClampNeg) by decide) dL_law_594 ?_
      have hPc := hP.sub (ws' := [(q1, .inr (11, [.ref n0, .ref st, .ref la, .int 0, .int 0, .int 0, .int (-1), .int 0]))]) [0] rfl
      have hDc := hD.sub (ws' := [(q1, .inr (11, [.ref n0, .ref st, .ref la, .int 0, .int 0, .int 0, .int (-1), .int 0]))]) [0] (by decide) rfl
      have hKc := hK.sub (tys' := []) [] rfl
      have hFc := ro_free hS hA
      refine va_calli (va_runV (As := [.int (xs (Int32.toNatClampNeg 1)), .int (xs (Int32.toNatClampNeg 2)), .int (xs (Int32.toNatClampNeg 3)), .int (xs (Int32.toNatClampNeg 4))]) (rest := []) ⟨hx, hb, hml, hown, hts⟩ (c_X10_kept l dC dI (q1) (n0) (st) (la) (0) ((xs (Int32.toNatClampNeg 1))) ((xs (Int32.toNatClampNeg 2))) ((xs (Int32.toNatClampNeg 3))) ((xs (Int32.toNatClampNeg 4))) H.size) (cwV 4 hts g_law_c_X10_kept_69 rfl rfl rfl (by decide +kernel) ⟨Nat.le_of_ble_eq_true rfl, Nat.le_of_ble_eq_true rfl⟩) ⟨fun a U g mk q => by obtain ⟨q0, q1, qP, qK, qD, qE⟩ := q; exact ⟨q0, q1, qP, va_K.moved (u := U) (U := U.calling g mk a) (Vm.Alike.refl U.vm) qK, qD, ev.same (u := U) (U := U.calling g mk a) rfl qE⟩, va_recv hKc hPc (ci := 11) (q0 := 0) rfl rfl, fun U hU hW => ⟨rfl, by rw [hU], by rw [hU]; exact hPc, va_K.moved hW.alike hKc, hDc.weaken (fun _ _ _ _ => trivial), hE.warm hW⟩⟩ rfl rfl hl.1 rfl (lv_room (Nat.le_of_ble_eq_true rfl)) dL_law_595 ⟨Nat.le_of_ble_eq_true rfl, Nat.le_of_ble_eq_true rfl⟩) hS (fun q _ h => hFc q h) hFc (fun r_119 u t H1 locs ht hvm hw hB hz1 hk1 hS => ?_)
      clear hPc hDc hKc
      replace hP := ro_keep hP hk1
      generalize H1 = H at hP hS ⊢
      replace hP : va_P (dC, dI) vwCl [(q1, .inr (11, [.ref n0, .ref st, .ref la, .int 0, .int 0, .int 0, .int (-1), .int 0])), (n0, .inl (cN, 8, .inr (.inr (.inr (.inr (fun _ => none)))))), (q3, .inr (12, fs)), (a2, .inl (c2, 8, .inr (.inl (fun _ => 0)))), (a3, .inl (c3, 8, .inl (fun _ => 0))), (a4, .inl (c4, 8, .inl (fun _ => 0))), (a5, .inl (c5, 8, .inl (fun _ => 0))), (a6, .inl (c6, 8, .inl (fun _ => 0)))] H := hP
      have hw := hw.symm
      subst hw
      refine lv_aload_n hx hb dL_law_598 rfl (lv_at hl 1 rfl) ?_
      refine lv_aload_n hx hb dL_law_599 rfl (lv_at hl 3 rfl) ?_
      refine lv_iload_n hx hb dL_law_600 rfl (lv_at hl 0 rfl) ?_
      refine lv_iconst (v := 1) hx hb dL_law_601 (by decide) ?_
      refine lv_iadd hx hb dL_law_602 ?_
      refine lv_topi (fun x_120 ex_120 => ?_)
      obtain rfl : x_120 = 1 := ex_120.trans (by decide)
      refine va_sld hx hb hX hbl hbA hS (show ¬ ((1 : Int32) < 0 ∨ 6 ≤ (1 : Int32).toNatClampNeg) by decide) dL_law_603 ?_
      refine lv_aload_n hx hb dL_law_604 rfl (lv_at hl 3 rfl) ?_
      refine lv_iload_n hx hb dL_law_605 rfl (lv_at hl 0 rfl) ?_
      refine lv_iconst (v := 2) hx hb dL_law_606 (by decide) ?_
      refine lv_iadd hx hb dL_law_607 ?_
      refine lv_topi (fun x_121 ex_121 => ?_)
      obtain rfl : x_121 = 2 := ex_121.trans (by decide)
      refine va_sld hx hb hX hbl hbA hS (show ¬ ((2 : Int32) < 0 ∨ 6 ≤ (2 : Int32).toNatClampNeg) by decide) dL_law_608 ?_
      refine lv_aload_n hx hb dL_law_609 rfl (lv_at hl 3 rfl) ?_
      refine lv_iload_n hx hb dL_law_610 rfl (lv_at hl 0 rfl) ?_
      refine lv_iconst (v := 3) hx hb dL_law_611 (by decide) ?_
      refine lv_iadd hx hb dL_law_612 ?_
      refine lv_topi (fun x_122 ex_122 => ?_)
      obtain rfl : x_122 = 3 := ex_122.trans (by decide)
      refine va_sld hx hb hX hbl hbA hS (show ¬ ((3 : Int32) < 0 ∨ 6 ≤ (3 : Int32).toNatClampNeg) by decide) dL_law_613 ?_
      refine lv_aload_n hx hb dL_law_614 rfl (lv_at hl 3 rfl) ?_
      refine lv_iload_n hx hb dL_law_615 rfl (lv_at hl 0 rfl) ?_
      refine lv_iconst (v := 4) hx hb dL_law_616 (by decide) ?_
      refine lv_iadd hx hb dL_law_617 ?_
      refine lv_topi (fun x_123 ex_123 => ?_)
      obtain rfl : x_123 = 4 := ex_123.trans (by decide)
      refine va_sld hx hb hX hbl hbA hS (show ¬ ((4 : Int32) < 0 ∨ 6 ≤ (4 : Int32).toNatClampNeg) by decide) dL_law_618 ?_
      have hPc := hP.sub (ws' := [(q3, .inr (12, fs))]) [2] rfl
      have hDc := hD.sub (ws' := [(q3, .inr (12, fs))]) [2] (by decide) rfl
      have hKc := hK.sub (tys' := []) [] rfl
      have hFc := ro_free hS hA
      refine va_calli (va_runV (As := [.int (xs (Int32.toNatClampNeg 1)), .int (xs (Int32.toNatClampNeg 2)), .int (xs (Int32.toNatClampNeg 3)), .int (xs (Int32.toNatClampNeg 4))]) (rest := [.int (-1)]) ⟨hx, hb, hml, hown, hts⟩ (c_X11_kept l dC dI (q3) (fs) ((xs (Int32.toNatClampNeg 1))) ((xs (Int32.toNatClampNeg 2))) ((xs (Int32.toNatClampNeg 3))) ((xs (Int32.toNatClampNeg 4))) H.size (hf0)) (cwV 4 hts g_law_c_X11_kept_72 rfl rfl rfl (by decide +kernel) ⟨Nat.le_of_ble_eq_true rfl, Nat.le_of_ble_eq_true rfl⟩) ⟨fun a U g mk q => by obtain ⟨q0, q1, qP, qK, qD, qE⟩ := q; exact ⟨q0, q1, qP, va_K.moved (u := U) (U := U.calling g mk a) (Vm.Alike.refl U.vm) qK, qD, ev.same (u := U) (U := U.calling g mk a) rfl qE⟩, va_recv hKc hPc (ci := 12) (q0 := 0) rfl rfl, fun U hU hW => ⟨rfl, by rw [hU], by rw [hU]; exact hPc, va_K.moved hW.alike hKc, hDc.weaken (fun _ _ _ _ => trivial), hE.warm hW⟩⟩ rfl rfl hl.1 rfl (lv_room (Nat.le_of_ble_eq_true rfl)) dL_law_619 ⟨Nat.le_of_ble_eq_true rfl, Nat.le_of_ble_eq_true rfl⟩) hS (fun q _ h => hFc q h) hFc (fun r_124 u t H1 locs ht hvm hw hB hz1 hk1 hS => ?_)
      clear hPc hDc hKc
      replace hP := ro_keep hP hk1
      generalize H1 = H at hP hS ⊢
      replace hP : va_P (dC, dI) vwCl [(q1, .inr (11, [.ref n0, .ref st, .ref la, .int 0, .int 0, .int 0, .int (-1), .int 0])), (n0, .inl (cN, 8, .inr (.inr (.inr (.inr (fun _ => none)))))), (q3, .inr (12, fs)), (a2, .inl (c2, 8, .inr (.inl (fun _ => 0)))), (a3, .inl (c3, 8, .inl (fun _ => 0))), (a4, .inl (c4, 8, .inl (fun _ => 0))), (a5, .inl (c5, 8, .inl (fun _ => 0))), (a6, .inl (c6, 8, .inl (fun _ => 0)))] H := hP
      have hw := hw.symm
      subst hw
      refine lv_icmp_eq (tgt := 686) hx hb dL_law_622 (by decide) (fun c_125 => ?_) (fun c_125 => ?_)
      rotate_left
      · exact absurd (by decide) c_125
      refine lv_iinc (v := 6) (lv' := [(3, .int 6), (2, .ref q3), (1, .ref q1), (0, .ref b)]) hx hb dL_law_686 hl (k := 0) rfl (by decide) (by decide) rfl (fun ls hl => ?_)
      refine lv_goto (tgt := 18) hx hb dL_law_689 (by decide) ?_
      exact law_end hL C0 (Nat.le_of_ble_eq_true rfl) (Nat.le_of_ble_eq_true rfl) hS (lv_sub hl [0, 3] rfl)
    · obtain rfl : x_7 = 13 := Int32.toInt_inj.mp (c_8.trans (by decide))
      refine lv_tableIn (tgt := 627) hx hb dL_law_33 (by decide) (by decide) rfl (by decide) ?_
      refine lv_aload_n hx hb dL_law_627 rfl (lv_at hl 2 rfl) ?_
      refine lv_aload_n hx hb dL_law_628 rfl (lv_at hl 3 rfl) ?_
      refine lv_iload_n hx hb dL_law_629 rfl (lv_at hl 0 rfl) ?_
      refine lv_iconst (v := 1) hx hb dL_law_630 (by decide) ?_
      refine lv_iadd hx hb dL_law_631 ?_
      refine lv_topi (fun x_126 ex_126 => ?_)
      obtain rfl : x_126 = 1 := ex_126.trans (by decide)
      refine va_sld hx hb hX hbl hbA hS (show ¬ ((1 : Int32) < 0 ∨ 6 ≤ (1 : Int32).toNatClampNeg) by decide) dL_law_632 ?_
      have hPc := hP.sub (ws' := [(q1, .inr (11, [.ref n0, .ref st, .ref la, .int 0, .int 0, .int 0, .int (-1), .int 0]))]) [0] rfl
      have hDc := hD.sub (ws' := [(q1, .inr (11, [.ref n0, .ref st, .ref la, .int 0, .int 0, .int 0, .int (-1), .int 0]))]) [0] (by decide) rfl
      have hKc := hK.sub (tys' := []) [] rfl
      have hFc := ro_free hS hA
      refine va_calli (va_runV (As := [.int (xs (Int32.toNatClampNeg 1))]) (rest := []) ⟨hx, hb, hml, hown, hts⟩ (c_X10_carried l dC dI (q1) (n0) (st) (la) (0) ((xs (Int32.toNatClampNeg 1))) H.size) (cwV 1 hts g_law_c_X10_carried_73 rfl rfl rfl (by decide +kernel) ⟨Nat.le_of_ble_eq_true rfl, Nat.le_of_ble_eq_true rfl⟩) ⟨fun a U g mk q => by obtain ⟨q0, q1, qP, qK, qD, qE⟩ := q; exact ⟨q0, q1, qP, va_K.moved (u := U) (U := U.calling g mk a) (Vm.Alike.refl U.vm) qK, qD, ev.same (u := U) (U := U.calling g mk a) rfl qE⟩, va_recv hKc hPc (ci := 11) (q0 := 0) rfl rfl, fun U hU hW => ⟨rfl, by rw [hU], by rw [hU]; exact hPc, va_K.moved hW.alike hKc, hDc.weaken (fun _ _ _ _ => trivial), hE.warm hW⟩⟩ rfl rfl hl.1 rfl (lv_room (Nat.le_of_ble_eq_true rfl)) dL_law_633 ⟨Nat.le_of_ble_eq_true rfl, Nat.le_of_ble_eq_true rfl⟩) hS (fun q _ h => hFc q h) hFc (fun r_127 u t H1 locs ht hvm hw hB hz1 hk1 hS => ?_)
      clear hPc hDc hKc
      replace hP := ro_keep hP hk1
      generalize H1 = H at hP hS ⊢
      replace hP : va_P (dC, dI) vwCl [(q1, .inr (11, [.ref n0, .ref st, .ref la, .int 0, .int 0, .int 0, .int (-1), .int 0])), (n0, .inl (cN, 8, .inr (.inr (.inr (.inr (fun _ => none)))))), (q3, .inr (12, fs)), (a2, .inl (c2, 8, .inr (.inl (fun _ => 0)))), (a3, .inl (c3, 8, .inl (fun _ => 0))), (a4, .inl (c4, 8, .inl (fun _ => 0))), (a5, .inl (c5, 8, .inl (fun _ => 0))), (a6, .inl (c6, 8, .inl (fun _ => 0)))] H := hP
      have er_127 := hw
      clear hw
      refine lv_aload_n hx hb dL_law_636 rfl (lv_at hl 1 rfl) ?_
      refine lv_aload_n hx hb dL_law_637 rfl (lv_at hl 3 rfl) ?_
      refine lv_iload_n hx hb dL_law_638 rfl (lv_at hl 0 rfl) ?_
      refine lv_iconst (v := 1) hx hb dL_law_639 (by decide) ?_
      refine lv_iadd hx hb dL_law_640 ?_
      refine lv_topi (fun x_128 ex_128 => ?_)
      obtain rfl : x_128 = 1 := ex_128.trans (by decide)
      refine va_sld hx hb hX hbl hbA hS (show ¬ ((1 : Int32) < 0 ∨ 6 ≤ (1 : Int32).toNatClampNeg) by decide) dL_law_641 ?_
      have hPc := hP.sub (ws' := [(q3, .inr (12, fs))]) [2] rfl
      have hDc := hD.sub (ws' := [(q3, .inr (12, fs))]) [2] (by decide) rfl
      have hKc := hK.sub (tys' := []) [] rfl
      have hFc := ro_free hS hA
      refine va_calli (va_runV (As := [.int (xs (Int32.toNatClampNeg 1))]) (rest := [.int r_127]) ⟨hx, hb, hml, hown, hts⟩ (c_X11_carried l dC dI (q3) (fs) ((xs (Int32.toNatClampNeg 1))) H.size (hf46) (hf47) (hf48) (hf49)) (cwV 1 hts g_law_c_X11_carried_76 rfl rfl rfl (by decide +kernel) ⟨Nat.le_of_ble_eq_true rfl, Nat.le_of_ble_eq_true rfl⟩) ⟨fun a U g mk q => by obtain ⟨q0, q1, qP, qK, qD, qE⟩ := q; exact ⟨q0, q1, qP, va_K.moved (u := U) (U := U.calling g mk a) (Vm.Alike.refl U.vm) qK, qD, ev.same (u := U) (U := U.calling g mk a) rfl qE⟩, va_recv hKc hPc (ci := 12) (q0 := 0) rfl rfl, fun U hU hW => ⟨rfl, by rw [hU], by rw [hU]; exact hPc, va_K.moved hW.alike hKc, hDc.weaken (fun _ _ _ _ => trivial), hE.warm hW⟩⟩ rfl rfl hl.1 rfl (lv_room (Nat.le_of_ble_eq_true rfl)) dL_law_642 ⟨Nat.le_of_ble_eq_true rfl, Nat.le_of_ble_eq_true rfl⟩) hS (fun q _ h => hFc q h) hFc (fun r_129 u t H1 locs ht hvm hw hB hz1 hk1 hS => ?_)
      clear hPc hDc hKc
      replace hP := ro_keep hP hk1
      generalize H1 = H at hP hS ⊢
      replace hP : va_P (dC, dI) vwCl [(q1, .inr (11, [.ref n0, .ref st, .ref la, .int 0, .int 0, .int 0, .int (-1), .int 0])), (n0, .inl (cN, 8, .inr (.inr (.inr (.inr (fun _ => none)))))), (q3, .inr (12, fs)), (a2, .inl (c2, 8, .inr (.inl (fun _ => 0)))), (a3, .inl (c3, 8, .inl (fun _ => 0))), (a4, .inl (c4, 8, .inl (fun _ => 0))), (a5, .inl (c5, 8, .inl (fun _ => 0))), (a6, .inl (c6, 8, .inl (fun _ => 0)))] H := hP
      have er_129 := hw
      clear hw
      refine lv_icmp_eq (tgt := 686) hx hb dL_law_645 (by decide) (fun c_130 => ?_) (fun c_130 => ?_)
      rotate_left
      · exact absurd (er_127.trans er_129.symm) c_130
      refine lv_iinc (v := 6) (lv' := [(3, .int 6), (2, .ref q3), (1, .ref q1), (0, .ref b)]) hx hb dL_law_686 hl (k := 0) rfl (by decide) (by decide) rfl (fun ls hl => ?_)
      refine lv_goto (tgt := 18) hx hb dL_law_689 (by decide) ?_
      exact law_end hL C0 (Nat.le_of_ble_eq_true rfl) (Nat.le_of_ble_eq_true rfl) hS (lv_sub hl [0, 3] rfl)
    · obtain rfl : x_7 = 14 := Int32.toInt_inj.mp (c_8.trans (by decide))
      refine lv_tableIn (tgt := 650) hx hb dL_law_33 (by decide) (by decide) rfl (by decide) ?_
      refine lv_aload_n hx hb dL_law_650 rfl (lv_at hl 2 rfl) ?_
      have hPc := hP.sub (ws' := [(q1, .inr (11, [.ref n0, .ref st, .ref la, .int 0, .int 0, .int 0, .int (-1), .int 0]))]) [0] rfl
      have hDc := hD.sub (ws' := [(q1, .inr (11, [.ref n0, .ref st, .ref la, .int 0, .int 0, .int 0, .int (-1), .int 0]))]) [0] (by decide) rfl
      have hKc := hK.sub (tys' := []) [] rfl
      have hFc := ro_free hS hA
      refine va_calli (va_runV (As := []) (rest := []) ⟨hx, hb, hml, hown, hts⟩ (c_X10_sound l dC dI (q1) (n0) (st) (la) (0) H.size) (cwV 0 hts g_law_c_X10_sound_77 rfl rfl rfl (by decide +kernel) ⟨Nat.le_of_ble_eq_true rfl, Nat.le_of_ble_eq_true rfl⟩) ⟨fun a U g mk q => by obtain ⟨q0, q1, qP, qK, qD, qE⟩ := q; exact ⟨q0, q1, qP, va_K.moved (u := U) (U := U.calling g mk a) (Vm.Alike.refl U.vm) qK, qD, ev.same (u := U) (U := U.calling g mk a) rfl qE⟩, va_recv hKc hPc (ci := 11) (q0 := 0) rfl rfl, fun U hU hW => ⟨rfl, by rw [hU], by rw [hU]; exact hPc, va_K.moved hW.alike hKc, hDc.weaken (fun _ _ _ _ => trivial), hE.warm hW⟩⟩ rfl rfl hl.1 rfl (lv_room (Nat.le_of_ble_eq_true rfl)) dL_law_651 ⟨Nat.le_of_ble_eq_true rfl, Nat.le_of_ble_eq_true rfl⟩) hS (fun q _ h => hFc q h) hFc (fun r_131 u t H1 locs ht hvm hw hB hz1 hk1 hS => ?_)
      clear hPc hDc hKc
      replace hP := ro_keep hP hk1
      generalize H1 = H at hP hS ⊢
      replace hP : va_P (dC, dI) vwCl [(q1, .inr (11, [.ref n0, .ref st, .ref la, .int 0, .int 0, .int 0, .int (-1), .int 0])), (n0, .inl (cN, 8, .inr (.inr (.inr (.inr (fun _ => none)))))), (q3, .inr (12, fs)), (a2, .inl (c2, 8, .inr (.inl (fun _ => 0)))), (a3, .inl (c3, 8, .inl (fun _ => 0))), (a4, .inl (c4, 8, .inl (fun _ => 0))), (a5, .inl (c5, 8, .inl (fun _ => 0))), (a6, .inl (c6, 8, .inl (fun _ => 0)))] H := hP
      have hw := hw.symm
      subst hw
      refine lv_aload_n hx hb dL_law_654 rfl (lv_at hl 1 rfl) ?_
      have hPc := hP.sub (ws' := [(q3, .inr (12, fs))]) [2] rfl
      have hDc := hD.sub (ws' := [(q3, .inr (12, fs))]) [2] (by decide) rfl
      have hKc := hK.sub (tys' := []) [] rfl
      have hFc := ro_free hS hA
      refine va_calli (va_runV (As := []) (rest := [.int 1]) ⟨hx, hb, hml, hown, hts⟩ (c_X11_sound l dC dI (q3) (fs) H.size (hf0) (hf51) (hf52)) (cwV 0 hts g_law_c_X11_sound_81 rfl rfl rfl (by decide +kernel) ⟨Nat.le_of_ble_eq_true rfl, Nat.le_of_ble_eq_true rfl⟩) ⟨fun a U g mk q => by obtain ⟨q0, q1, qP, qK, qD, qE⟩ := q; exact ⟨q0, q1, qP, va_K.moved (u := U) (U := U.calling g mk a) (Vm.Alike.refl U.vm) qK, qD, ev.same (u := U) (U := U.calling g mk a) rfl qE⟩, va_recv hKc hPc (ci := 12) (q0 := 0) rfl rfl, fun U hU hW => ⟨rfl, by rw [hU], by rw [hU]; exact hPc, va_K.moved hW.alike hKc, hDc.weaken (fun _ _ _ _ => trivial), hE.warm hW⟩⟩ rfl rfl hl.1 rfl (lv_room (Nat.le_of_ble_eq_true rfl)) dL_law_655 ⟨Nat.le_of_ble_eq_true rfl, Nat.le_of_ble_eq_true rfl⟩) hS (fun q _ h => hFc q h) hFc (fun r_132 u t H1 locs ht hvm hw hB hz1 hk1 hS => ?_)
      clear hPc hDc hKc
      replace hP := ro_keep hP hk1
      generalize H1 = H at hP hS ⊢
      replace hP : va_P (dC, dI) vwCl [(q1, .inr (11, [.ref n0, .ref st, .ref la, .int 0, .int 0, .int 0, .int (-1), .int 0])), (n0, .inl (cN, 8, .inr (.inr (.inr (.inr (fun _ => none)))))), (q3, .inr (12, fs)), (a2, .inl (c2, 8, .inr (.inl (fun _ => 0)))), (a3, .inl (c3, 8, .inl (fun _ => 0))), (a4, .inl (c4, 8, .inl (fun _ => 0))), (a5, .inl (c5, 8, .inl (fun _ => 0))), (a6, .inl (c6, 8, .inl (fun _ => 0)))] H := hP
      have hw := hw.symm
      subst hw
      refine lv_icmp_eq (tgt := 686) hx hb dL_law_658 (by decide) (fun c_133 => ?_) (fun c_133 => ?_)
      rotate_left
      · exact absurd (by decide) c_133
      refine lv_iinc (v := 6) (lv' := [(3, .int 6), (2, .ref q3), (1, .ref q1), (0, .ref b)]) hx hb dL_law_686 hl (k := 0) rfl (by decide) (by decide) rfl (fun ls hl => ?_)
      refine lv_goto (tgt := 18) hx hb dL_law_689 (by decide) ?_
      exact law_end hL C0 (Nat.le_of_ble_eq_true rfl) (Nat.le_of_ble_eq_true rfl) hS (lv_sub hl [0, 3] rfl)
    · obtain rfl : x_7 = 15 := Int32.toInt_inj.mp (c_8.trans (by decide))
      refine lv_tableIn (tgt := 663) hx hb dL_law_33 (by decide) (by decide) rfl (by decide) ?_
      refine lv_aload_n hx hb dL_law_663 rfl (lv_at hl 2 rfl) ?_
      refine lv_aload_n hx hb dL_law_664 rfl (lv_at hl 3 rfl) ?_
      refine lv_iload_n hx hb dL_law_665 rfl (lv_at hl 0 rfl) ?_
      refine lv_iconst (v := 1) hx hb dL_law_666 (by decide) ?_
      refine lv_iadd hx hb dL_law_667 ?_
      refine lv_topi (fun x_134 ex_134 => ?_)
      obtain rfl : x_134 = 1 := ex_134.trans (by decide)
      refine va_sld hx hb hX hbl hbA hS (show ¬ ((1 : Int32) < 0 ∨ 6 ≤ (1 : Int32).toNatClampNeg) by decide) dL_law_668 ?_
      have hPc := hP.sub (ws' := [(q1, .inr (11, [.ref n0, .ref st, .ref la, .int 0, .int 0, .int 0, .int (-1), .int 0]))]) [0] rfl
      have hDc := hD.sub (ws' := [(q1, .inr (11, [.ref n0, .ref st, .ref la, .int 0, .int 0, .int 0, .int (-1), .int 0]))]) [0] (by decide) rfl
      have hKc := hK.sub (tys' := []) [] rfl
      have hFc := ro_free hS hA
      refine va_calli (va_runV (As := [.int (xs (Int32.toNatClampNeg 1))]) (rest := []) ⟨hx, hb, hml, hown, hts⟩ (c_X10_count l dC dI (q1) (n0) (st) (la) ((xs (Int32.toNatClampNeg 1))) H.size) (cwV 1 hts g_law_c_X10_count_82 rfl rfl rfl (by decide +kernel) ⟨Nat.le_of_ble_eq_true rfl, Nat.le_of_ble_eq_true rfl⟩) ⟨fun a U g mk q => by obtain ⟨q0, q1, qP, qK, qD, qE⟩ := q; exact ⟨q0, q1, qP, va_K.moved (u := U) (U := U.calling g mk a) (Vm.Alike.refl U.vm) qK, qD, ev.same (u := U) (U := U.calling g mk a) rfl qE⟩, va_recv hKc hPc (ci := 11) (q0 := 0) rfl rfl, fun U hU hW => ⟨rfl, by rw [hU], by rw [hU]; exact hPc, va_K.moved hW.alike hKc, hDc.weaken (fun _ _ _ _ => trivial), hE.warm hW⟩⟩ rfl rfl hl.1 rfl (lv_room (Nat.le_of_ble_eq_true rfl)) dL_law_669 ⟨Nat.le_of_ble_eq_true rfl, Nat.le_of_ble_eq_true rfl⟩) hS (fun q _ h => hFc q h) hFc (fun r_135 u t H1 locs ht hvm hw hB hz1 hk1 hS => ?_)
      clear hPc hDc hKc
      replace hP := ro_keep hP hk1
      generalize H1 = H at hP hS ⊢
      replace hP : va_P (dC, dI) vwCl [(q1, .inr (11, [.ref n0, .ref st, .ref la, .int 0, .int 0, .int 0, .int (-1), .int 0])), (n0, .inl (cN, 8, .inr (.inr (.inr (.inr (fun _ => none)))))), (q3, .inr (12, fs)), (a2, .inl (c2, 8, .inr (.inl (fun _ => 0)))), (a3, .inl (c3, 8, .inl (fun _ => 0))), (a4, .inl (c4, 8, .inl (fun _ => 0))), (a5, .inl (c5, 8, .inl (fun _ => 0))), (a6, .inl (c6, 8, .inl (fun _ => 0)))] H := hP
      have er_135 := hw
      clear hw
      refine lv_aload_n hx hb dL_law_672 rfl (lv_at hl 1 rfl) ?_
      refine lv_aload_n hx hb dL_law_673 rfl (lv_at hl 3 rfl) ?_
      refine lv_iload_n hx hb dL_law_674 rfl (lv_at hl 0 rfl) ?_
      refine lv_iconst (v := 1) hx hb dL_law_675 (by decide) ?_
      refine lv_iadd hx hb dL_law_676 ?_
      refine lv_topi (fun x_136 ex_136 => ?_)
      obtain rfl : x_136 = 1 := ex_136.trans (by decide)
      refine va_sld hx hb hX hbl hbA hS (show ¬ ((1 : Int32) < 0 ∨ 6 ≤ (1 : Int32).toNatClampNeg) by decide) dL_law_677 ?_
      have hPc := hP.sub (ws' := [(q3, .inr (12, fs))]) [2] rfl
      have hDc := hD.sub (ws' := [(q3, .inr (12, fs))]) [2] (by decide) rfl
      have hKc := hK.sub (tys' := []) [] rfl
      have hFc := ro_free hS hA
      refine va_calli (va_runV (As := [.int (xs (Int32.toNatClampNeg 1))]) (rest := [.int r_135]) ⟨hx, hb, hml, hown, hts⟩ (c_X11_count l dC dI (q3) (fs) ((xs (Int32.toNatClampNeg 1))) H.size (hf0) (hf1) (hf50)) (cwV 1 hts g_law_c_X11_count_85 rfl rfl rfl (by decide +kernel) ⟨Nat.le_of_ble_eq_true rfl, Nat.le_of_ble_eq_true rfl⟩) ⟨fun a U g mk q => by obtain ⟨q0, q1, qP, qK, qD, qE⟩ := q; exact ⟨q0, q1, qP, va_K.moved (u := U) (U := U.calling g mk a) (Vm.Alike.refl U.vm) qK, qD, ev.same (u := U) (U := U.calling g mk a) rfl qE⟩, va_recv hKc hPc (ci := 12) (q0 := 0) rfl rfl, fun U hU hW => ⟨rfl, by rw [hU], by rw [hU]; exact hPc, va_K.moved hW.alike hKc, hDc.weaken (fun _ _ _ _ => trivial), hE.warm hW⟩⟩ rfl rfl hl.1 rfl (lv_room (Nat.le_of_ble_eq_true rfl)) dL_law_678 ⟨Nat.le_of_ble_eq_true rfl, Nat.le_of_ble_eq_true rfl⟩) hS (fun q _ h => hFc q h) hFc (fun r_137 u t H1 locs ht hvm hw hB hz1 hk1 hS => ?_)
      clear hPc hDc hKc
      replace hP := ro_keep hP hk1
      generalize H1 = H at hP hS ⊢
      replace hP : va_P (dC, dI) vwCl [(q1, .inr (11, [.ref n0, .ref st, .ref la, .int 0, .int 0, .int 0, .int (-1), .int 0])), (n0, .inl (cN, 8, .inr (.inr (.inr (.inr (fun _ => none)))))), (q3, .inr (12, fs)), (a2, .inl (c2, 8, .inr (.inl (fun _ => 0)))), (a3, .inl (c3, 8, .inl (fun _ => 0))), (a4, .inl (c4, 8, .inl (fun _ => 0))), (a5, .inl (c5, 8, .inl (fun _ => 0))), (a6, .inl (c6, 8, .inl (fun _ => 0)))] H := hP
      have er_137 := hw
      clear hw
      refine lv_icmp_eq (tgt := 686) hx hb dL_law_681 (by decide) (fun c_138 => ?_) (fun c_138 => ?_)
      rotate_left
      · exact absurd (er_135.trans er_137.symm) c_138
      refine lv_iinc (v := 6) (lv' := [(3, .int 6), (2, .ref q3), (1, .ref q1), (0, .ref b)]) hx hb dL_law_686 hl (k := 0) rfl (by decide) (by decide) rfl (fun ls hl => ?_)
      refine lv_goto (tgt := 18) hx hb dL_law_689 (by decide) ?_
      exact law_end hL C0 (Nat.le_of_ble_eq_true rfl) (Nat.le_of_ble_eq_true rfl) hS (lv_sub hl [0, 3] rfl)
    · refine lv_tableOut (tgt := 686) hx hb dL_law_33 (Or.inr c_8) (by decide) ?_
      refine lv_iinc (v := 6) (lv' := [(3, .int 6), (2, .ref q3), (1, .ref q1), (0, .ref b)]) hx hb dL_law_686 hl (k := 0) rfl (by decide) (by decide) rfl (fun ls hl => ?_)
      refine lv_goto (tgt := 18) hx hb dL_law_689 (by decide) ?_
      exact law_end hL C0 (Nat.le_of_ble_eq_true rfl) (Nat.le_of_ble_eq_true rfl) hS (lv_sub hl [0, 3] rfl)
