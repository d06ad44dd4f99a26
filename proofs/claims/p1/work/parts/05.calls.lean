def v_c_X10_find : List Cond := .code yX10_find cX10_find 2 (some (.object "ClaimBus$Node")) :: ([.fieldLink RX10 29 "ClaimBus" "nodeCount" "I"] ++ wsX100)
theorem in_c_X10_find_X10 : ∀ w ∈ wsX100, w ∈ v_c_X10_find := fun w h => List.mem_cons_of_mem _ (List.mem_append_right _ h)
set_option maxHeartbeats 4000000 in
set_option maxRecDepth 100000 in
/-- find: no node -/
theorem c_X10_find (l : Launch) (dC : Nat → ClassId) (dI : Nat → Nat → Nat) (h0 : Nat) (n0 : Nat) (st : Nat) (la : Nat) (tm : Int32) (p0 : Int32) (sz : Nat)  : Met l yX10_find v_c_X10_find ({ frames := 0, cells := 0, slots := 0, locals := 0 }) (va_Pc [.ref h0, .int p0] (fun U => U.heap.size = sz ∧ va_P (dC, dI) vwCl [(h0, .inr (11, [.ref n0, .ref st, .ref la, .int 0, .int tm, .int 0, .int (-1), .int 0]))] U.heap ∧ va_K (dC, dI) vwCl [] U ∧ va_D (fun _ => True) [(h0, .inr (11, [.ref n0, .ref st, .ref la, .int 0, .int tm, .int 0, .int (-1), .int 0]))] ∧ ev U)) (va_Qq (fun (r : Option Nat) (_ : Unit) => r = none) (fun (_ : Unit) (_ : State) => True) (va_A [] sz)) 0 0 (va_A [] sz) := by
  refine Met.ofW (cc := cX10_find) (maxL := 2) (ret := (some (.object "ClaimBus$Node"))) (by decide) rfl ?_
  intro p e s m args below meth c s₁ B hml hv
  obtain ⟨rfl, hsz, hP, hK, hD0, hE⟩ := hv
  have hx := B.exec
  have hb := B.bytes
  have hr := B.returns
  have hts := atoms_spec (ws := v_c_X10_find) B.pre
  have hown : s.vm.findClass RX10 = some m.cls := findClass_of_methodNamed B.named
  have hlocks := B.notSynchronized
  subst hsz
  have hD := hD0
  generalize hAe : va_A [] s.heap.size = A
  have hA : ∀ q : Nat, s.heap.size ≤ q → A q := fun q h => by rw [← hAe]; exact Or.inr h
  have hS : va_S A s.heap s.heap [] := va_S.rf
  have hP : va_P (dC, dI) vwCl [(h0, .inr (11, [.ref n0, .ref st, .ref la, .int 0, .int tm, .int 0, .int (-1), .int 0]))] s.heap := hP
  have hl := lv_entry ([.ref h0, .int p0]) (n := 2) (Nat.le_of_ble_eq_true rfl)
  rw [lg_entry_eq]
  generalize (lg_sl ([.ref h0, .int p0]) ++ List.replicate (2 - (lg_sl ([.ref h0, .int p0])).length) Slot.unset).toArray = ls at hl ⊢
  have hl : lv_has ls 2 [(0, .ref h0), (1, .int p0)] := hl
  obtain ⟨H, hH⟩ : ∃ z : Heap, z = s.heap := ⟨_, rfl⟩
  rw [← hH]
  have hS : va_S A s.heap H [] := by rw [hH]; exact va_S.rf
  have hP : va_P (dC, dI) vwCl [(h0, .inr (11, [.ref n0, .ref st, .ref la, .int 0, .int tm, .int 0, .int (-1), .int 0]))] H := by rw [hH]; exact hP
  clear hH
  refine lv_iload_n hx hb dX10_find_0 rfl (lv_at hl 1 rfl) ?_
  refine lv_if_lt (tgt := 27) hx hb dX10_find_1 (by decide) (fun c_1 => ?_) (fun c_1 => ?_)
  · refine lv_null hx hb dX10_find_27 ?_
    exact W.aret (v := .null) hx hb hr (Or.inl ⟨_, rfl⟩) (Or.inl rfl) (fun t ht hW => ⟨⟨none, (), rfl, rfl, trivial⟩, hS.F ht⟩) hS.2.2 dX10_find_28
  · refine lv_iload_n hx hb dX10_find_4 rfl (lv_at hl 1 rfl) ?_
    refine lv_aload_n hx hb dX10_find_5 rfl (lv_at hl 0 rfl) ?_
    refine va_get (D := (dC, dI)) (ci := 11) (v := .int 0) (C := RX10) (T := TX10) (N := 8) hx hb hts in_c_X10_find_X10 hown hK hP 0 rfl rfl 3 (by decide) (hts (.fieldLink RX10 29 "ClaimBus" "nodeCount" "I") (List.mem_of_getElem? (i := 1) rfl)) (fun _ h9 => h9) rfl dX10_find_6 ?_
    refine lv_icmp_ge (tgt := 27) hx hb dX10_find_9 (by decide) (fun c_2 => ?_) (fun c_2 => ?_)
    rotate_left
    · exact absurd (Int32.not_lt.mp c_1) c_2
    refine lv_null hx hb dX10_find_27 ?_
    exact W.aret (v := .null) hx hb hr (Or.inl ⟨_, rfl⟩) (Or.inl rfl) (fun t ht hW => ⟨⟨none, (), rfl, rfl, trivial⟩, hS.F ht⟩) hS.2.2 dX10_find_28

def v_c_X10_nameIsThere : List Cond := .code yX10_nameIsThere cX10_nameIsThere 5 (some .boolean) :: ([.fieldLink RX10 29 "ClaimBus" "nodeCount" "I"] ++ wsX100)
theorem in_c_X10_nameIsThere_X10 : ∀ w ∈ wsX100, w ∈ v_c_X10_nameIsThere := fun w h => List.mem_cons_of_mem _ (List.mem_append_right _ h)
set_option maxHeartbeats 4000000 in
set_option maxRecDepth 100000 in
theorem c_X10_nameIsThere (l : Launch) (dC : Nat → ClassId) (dI : Nat → Nat → Nat) (h0 : Nat) (n0 : Nat) (st : Nat) (la : Nat) (tm : Int32) (p0 : Int32) (p1 : Int32) (sz : Nat)  : Met l yX10_nameIsThere v_c_X10_nameIsThere ({ frames := 0, cells := 0, slots := 0, locals := 0 }) (va_Pc [.ref h0, .int p0, .int p1] (fun U => U.heap.size = sz ∧ va_P (dC, dI) vwCl [(h0, .inr (11, [.ref n0, .ref st, .ref la, .int 0, .int tm, .int 0, .int (-1), .int 0]))] U.heap ∧ va_K (dC, dI) vwCl [] U ∧ va_D (fun _ => True) [(h0, .inr (11, [.ref n0, .ref st, .ref la, .int 0, .int tm, .int 0, .int (-1), .int 0]))] ∧ ev U)) (va_Qi (fun (r : Int32) (_ : Unit) => r = 0) (fun (_ : Unit) (_ : State) => True) (va_A [] sz)) 0 0 (va_A [] sz) := by
  refine Met.ofW (cc := cX10_nameIsThere) (maxL := 5) (ret := (some .boolean)) (by decide) rfl ?_
  intro p e s m args below meth c s₁ B hml hv
  obtain ⟨rfl, hsz, hP, hK, hD0, hE⟩ := hv
  have hx := B.exec
  have hb := B.bytes
  have hr := B.returns
  have hts := atoms_spec (ws := v_c_X10_nameIsThere) B.pre
  have hown : s.vm.findClass RX10 = some m.cls := findClass_of_methodNamed B.named
  have hlocks := B.notSynchronized
  subst hsz
  have hD := hD0
  generalize hAe : va_A [] s.heap.size = A
  have hA : ∀ q : Nat, s.heap.size ≤ q → A q := fun q h => by rw [← hAe]; exact Or.inr h
  have hS : va_S A s.heap s.heap [] := va_S.rf
  have hP : va_P (dC, dI) vwCl [(h0, .inr (11, [.ref n0, .ref st, .ref la, .int 0, .int tm, .int 0, .int (-1), .int 0]))] s.heap := hP
  have hl := lv_entry ([.ref h0, .int p0, .int p1]) (n := 5) (Nat.le_of_ble_eq_true rfl)
  rw [lg_entry_eq]
  generalize (lg_sl ([.ref h0, .int p0, .int p1]) ++ List.replicate (5 - (lg_sl ([.ref h0, .int p0, .int p1])).length) Slot.unset).toArray = ls at hl ⊢
  have hl : lv_has ls 5 [(0, .ref h0), (1, .int p0), (2, .int p1)] := hl
  obtain ⟨H, hH⟩ : ∃ z : Heap, z = s.heap := ⟨_, rfl⟩
  rw [← hH]
  have hS : va_S A s.heap H [] := by rw [hH]; exact va_S.rf
  have hP : va_P (dC, dI) vwCl [(h0, .inr (11, [.ref n0, .ref st, .ref la, .int 0, .int tm, .int 0, .int (-1), .int 0]))] H := by rw [hH]; exact hP
  clear hH
  refine lv_iconst (v := 0) hx hb dX10_nameIsThere_0 (by decide) ?_
  refine lv_istore_n (lv' := [(3, .int 0), (0, .ref h0), (1, .int p0), (2, .int p1)]) hx hb dX10_nameIsThere_1 rfl hl (by decide) rfl (fun ls hl => ?_)
  refine lv_iload_n hx hb dX10_nameIsThere_2 rfl (lv_at hl 0 rfl) ?_
  refine lv_aload_n hx hb dX10_nameIsThere_3 rfl (lv_at hl 1 rfl) ?_
  refine va_get (D := (dC, dI)) (ci := 11) (v := .int 0) (C := RX10) (T := TX10) (N := 8) hx hb hts in_c_X10_nameIsThere_X10 hown hK hP 0 rfl rfl 3 (by decide) (hts (.fieldLink RX10 29 "ClaimBus" "nodeCount" "I") (List.mem_of_getElem? (i := 1) rfl)) (fun _ h9 => h9) rfl dX10_nameIsThere_4 ?_
  refine lv_icmp_ge (tgt := 48) hx hb dX10_nameIsThere_7 (by decide) (fun c_1 => ?_) (fun c_1 => ?_)
  rotate_left
  · exact absurd (by decide) c_1
  refine lv_iconst (v := 0) hx hb dX10_nameIsThere_48 (by decide) ?_
  exact W.zret (v := 0) hx hb hr (by decide) (fun t ht hW => ⟨⟨0, (), rfl, rfl, trivial⟩, hS.F ht⟩) hS.2.2 dX10_nameIsThere_49

def v_c_X10_start : List Cond := .code yX10_start cX10_start 3 (some .boolean) :: ([.code yX10_find cX10_find 2 (some (.object "ClaimBus$Node")), .fieldLink RX10 29 "ClaimBus" "nodeCount" "I", .initialized RX10, .methodLink RX10 53 yX10_find, .instanceMethod yX10_find, .selects RX10 yX10_find yX10_find] ++ wsX100)
theorem in_c_X10_start_X10 : ∀ w ∈ wsX100, w ∈ v_c_X10_start := fun w h => List.mem_cons_of_mem _ (List.mem_append_right _ h)
set_option maxRecDepth 20000 in
theorem g_c_X10_start_c_X10_find_53 : GoodIn v_c_X10_start (wsV RX10 53 RX10 yX10_find v_c_X10_find) := goodIn_r _ [4, 5, 6, 3, 1, 2, 7, 8, 9, 10, 11, 12, 13, 14] (by decide +kernel) (by decide +kernel)
set_option maxHeartbeats 4000000 in
set_option maxRecDepth 100000 in
theorem c_X10_start (l : Launch) (dC : Nat → ClassId) (dI : Nat → Nat → Nat) (h0 : Nat) (n0 : Nat) (st : Nat) (la : Nat) (tm : Int32) (p0 : Int32) (sz : Nat)  : Met l yX10_start v_c_X10_start ({ frames := 1, cells := 0, slots := 0, locals := 21 }) (va_Pc [.ref h0, .int p0] (fun U => U.heap.size = sz ∧ va_P (dC, dI) vwCl [(h0, .inr (11, [.ref n0, .ref st, .ref la, .int 0, .int tm, .int 0, .int (-1), .int 0]))] U.heap ∧ va_K (dC, dI) vwCl [] U ∧ va_D (fun _ => True) [(h0, .inr (11, [.ref n0, .ref st, .ref la, .int 0, .int tm, .int 0, .int (-1), .int 0]))] ∧ ev U)) (va_Qi (fun (r : Int32) (_ : Unit) => r = 0) (fun (_ : Unit) (_ : State) => True) (va_A [] sz)) 0 0 (va_A [] sz) := by
  refine Met.ofW (cc := cX10_start) (maxL := 3) (ret := (some .boolean)) (by decide) rfl ?_
  intro p e s m args below meth c s₁ B hml hv
  obtain ⟨rfl, hsz, hP, hK, hD0, hE⟩ := hv
  have hx := B.exec
  have hb := B.bytes
  have hr := B.returns
  have hts := atoms_spec (ws := v_c_X10_start) B.pre
  have hown : s.vm.findClass RX10 = some m.cls := findClass_of_methodNamed B.named
  have hlocks := B.notSynchronized
  subst hsz
  have hD := hD0
  generalize hAe : va_A [] s.heap.size = A
  have hA : ∀ q : Nat, s.heap.size ≤ q → A q := fun q h => by rw [← hAe]; exact Or.inr h
  have hS : va_S A s.heap s.heap [] := va_S.rf
  have hP : va_P (dC, dI) vwCl [(h0, .inr (11, [.ref n0, .ref st, .ref la, .int 0, .int tm, .int 0, .int (-1), .int 0]))] s.heap := hP
  have hl := lv_entry ([.ref h0, .int p0]) (n := 3) (Nat.le_of_ble_eq_true rfl)
  rw [lg_entry_eq]
  generalize (lg_sl ([.ref h0, .int p0]) ++ List.replicate (3 - (lg_sl ([.ref h0, .int p0])).length) Slot.unset).toArray = ls at hl ⊢
  have hl : lv_has ls 3 [(0, .ref h0), (1, .int p0)] := hl
  obtain ⟨H, hH⟩ : ∃ z : Heap, z = s.heap := ⟨_, rfl⟩
  rw [← hH]
  have hS : va_S A s.heap H [] := by rw [hH]; exact va_S.rf
  have hP : va_P (dC, dI) vwCl [(h0, .inr (11, [.ref n0, .ref st, .ref la, .int 0, .int tm, .int 0, .int (-1), .int 0]))] H := by rw [hH]; exact hP
  clear hH
  refine lv_aload_n hx hb dX10_start_0 rfl (lv_at hl 0 rfl) ?_
  refine lv_iload_n hx hb dX10_start_1 rfl (lv_at hl 1 rfl) ?_
  have hPc := hP.sub (ws' := [(h0, .inr (11, [.ref n0, .ref st, .ref la, .int 0, .int tm, .int 0, .int (-1), .int 0]))]) [0] rfl
  have hDc := hD.sub (ws' := [(h0, .inr (11, [.ref n0, .ref st, .ref la, .int 0, .int tm, .int 0, .int (-1), .int 0]))]) [0] (by decide) rfl
  have hKc := hK.sub (tys' := []) [] rfl
  have hFc := ro_free hS hA
  refine va_callq (va_runV (As := [.int p0]) (rest := []) ⟨hx, hb, hml, hown, hts⟩ (c_X10_find l dC dI (h0) (n0) (st) (la) (tm) (p0) H.size) (cwV 1 hts g_c_X10_start_c_X10_find_53 rfl rfl rfl (by decide +kernel) ⟨Nat.le_of_ble_eq_true rfl, Nat.le_of_ble_eq_true rfl⟩) ⟨fun a U g mk q => by obtain ⟨q0, q1, qP, qK, qD, qE⟩ := q; exact ⟨q0, q1, qP, va_K.moved (u := U) (U := U.calling g mk a) (Vm.Alike.refl U.vm) qK, qD, ev.same (u := U) (U := U.calling g mk a) rfl qE⟩, va_recv hKc hPc (ci := 11) (q0 := 0) rfl rfl, fun U hU hW => ⟨rfl, by rw [hU], by rw [hU]; exact hPc, va_K.moved hW.alike hKc, hDc.weaken (fun _ _ _ _ => trivial), hE.warm hW⟩⟩ rfl rfl hl.1 rfl (lv_room (Nat.le_of_ble_eq_true rfl)) dX10_start_2 ⟨Nat.le_of_ble_eq_true rfl, Nat.le_of_ble_eq_true rfl⟩) hS (fun q _ h => hFc q h) hFc (fun r_1 u t H1 locs ht hvm hw hB hz1 hk1 hS => ?_)
  clear hPc hDc hKc
  have hP := ro_keep hP hk1
  generalize H1 = H at hP hS ⊢
  have hP : va_P (dC, dI) vwCl [(h0, .inr (11, [.ref n0, .ref st, .ref la, .int 0, .int tm, .int 0, .int (-1), .int 0]))] H := hP
  obtain rfl : r_1 = none := hw
  refine W.eq (g2 := F0 m 5 ls [.null]) rfl ?_
  refine lv_astore_nN (lv' := [(2, .null), (0, .ref h0), (1, .int p0)]) hx hb dX10_start_5 rfl hl (by decide) rfl (fun ls hl => ?_)
  refine lv_aload_nN hx hb dX10_start_6 rfl (lv_at hl 0 rfl) ?_
  refine lv_ifnullN (tgt := 17) hx hb dX10_start_7 (by decide) ?_
  refine lv_iconst (v := 0) hx hb dX10_start_17 (by decide) ?_
  exact W.zret (v := 0) hx hb hr (by decide) (fun t ht hW => ⟨⟨0, (), rfl, rfl, trivial⟩, hS.F ht⟩) hS.2.2 dX10_start_18

def v_c_X10_stop : List Cond := .code yX10_stop cX10_stop 3 (some .boolean) :: ([.code yX10_find cX10_find 2 (some (.object "ClaimBus$Node")), .fieldLink RX10 29 "ClaimBus" "nodeCount" "I", .initialized RX10, .methodLink RX10 53 yX10_find, .instanceMethod yX10_find, .selects RX10 yX10_find yX10_find] ++ wsX100)
theorem in_c_X10_stop_X10 : ∀ w ∈ wsX100, w ∈ v_c_X10_stop := fun w h => List.mem_cons_of_mem _ (List.mem_append_right _ h)
set_option maxRecDepth 20000 in
theorem g_c_X10_stop_c_X10_find_53 : GoodIn v_c_X10_stop (wsV RX10 53 RX10 yX10_find v_c_X10_find) := goodIn_r _ [4, 5, 6, 3, 1, 2, 7, 8, 9, 10, 11, 12, 13, 14] (by decide +kernel) (by decide +kernel)
set_option maxHeartbeats 4000000 in
set_option maxRecDepth 100000 in
theorem c_X10_stop (l : Launch) (dC : Nat → ClassId) (dI : Nat → Nat → Nat) (h0 : Nat) (n0 : Nat) (st : Nat) (la : Nat) (tm : Int32) (p0 : Int32) (sz : Nat)  : Met l yX10_stop v_c_X10_stop ({ frames := 1, cells := 0, slots := 0, locals := 21 }) (va_Pc [.ref h0, .int p0] (fun U => U.heap.size = sz ∧ va_P (dC, dI) vwCl [(h0, .inr (11, [.ref n0, .ref st, .ref la, .int 0, .int tm, .int 0, .int (-1), .int 0]))] U.heap ∧ va_K (dC, dI) vwCl [] U ∧ va_D (fun _ => True) [(h0, .inr (11, [.ref n0, .ref st, .ref la, .int 0, .int tm, .int 0, .int (-1), .int 0]))] ∧ ev U)) (va_Qi (fun (r : Int32) (_ : Unit) => r = 0) (fun (_ : Unit) (_ : State) => True) (va_A [] sz)) 0 0 (va_A [] sz) := by
  refine Met.ofW (cc := cX10_stop) (maxL := 3) (ret := (some .boolean)) (by decide) rfl ?_
  intro p e s m args below meth c s₁ B hml hv
  obtain ⟨rfl, hsz, hP, hK, hD0, hE⟩ := hv
  have hx := B.exec
  have hb := B.bytes
  have hr := B.returns
  have hts := atoms_spec (ws := v_c_X10_stop) B.pre
  have hown : s.vm.findClass RX10 = some m.cls := findClass_of_methodNamed B.named
  have hlocks := B.notSynchronized
  subst hsz
  have hD := hD0
  generalize hAe : va_A [] s.heap.size = A
  have hA : ∀ q : Nat, s.heap.size ≤ q → A q := fun q h => by rw [← hAe]; exact Or.inr h
  have hS : va_S A s.heap s.heap [] := va_S.rf
  have hP : va_P (dC, dI) vwCl [(h0, .inr (11, [.ref n0, .ref st, .ref la, .int 0, .int tm, .int 0, .int (-1), .int 0]))] s.heap := hP
  have hl := lv_entry ([.ref h0, .int p0]) (n := 3) (Nat.le_of_ble_eq_true rfl)
  rw [lg_entry_eq]
  generalize (lg_sl ([.ref h0, .int p0]) ++ List.replicate (3 - (lg_sl ([.ref h0, .int p0])).length) Slot.unset).toArray = ls at hl ⊢
  have hl : lv_has ls 3 [(0, .ref h0), (1, .int p0)] := hl
  obtain ⟨H, hH⟩ : ∃ z : Heap, z = s.heap := ⟨_, rfl⟩
  rw [← hH]
  have hS : va_S A s.heap H [] := by rw [hH]; exact va_S.rf
  have hP : va_P (dC, dI) vwCl [(h0, .inr (11, [.ref n0, .ref st, .ref la, .int 0, .int tm, .int 0, .int (-1), .int 0]))] H := by rw [hH]; exact hP
  clear hH
  refine lv_aload_n hx hb dX10_stop_0 rfl (lv_at hl 0 rfl) ?_
  refine lv_iload_n hx hb dX10_stop_1 rfl (lv_at hl 1 rfl) ?_
  have hPc := hP.sub (ws' := [(h0, .inr (11, [.ref n0, .ref st, .ref la, .int 0, .int tm, .int 0, .int (-1), .int 0]))]) [0] rfl
  have hDc := hD.sub (ws' := [(h0, .inr (11, [.ref n0, .ref st, .ref la, .int 0, .int tm, .int 0, .int (-1), .int 0]))]) [0] (by decide) rfl
  have hKc := hK.sub (tys' := []) [] rfl
  have hFc := ro_free hS hA
  refine va_callq (va_runV (As := [.int p0]) (rest := []) ⟨hx, hb, hml, hown, hts⟩ (c_X10_find l dC dI (h0) (n0) (st) (la) (tm) (p0) H.size) (cwV 1 hts g_c_X10_stop_c_X10_find_53 rfl rfl rfl (by decide +kernel) ⟨Nat.le_of_ble_eq_true rfl, Nat.le_of_ble_eq_true rfl⟩) ⟨fun a U g mk q => by obtain ⟨q0, q1, qP, qK, qD, qE⟩ := q; exact ⟨q0, q1, qP, va_K.moved (u := U) (U := U.calling g mk a) (Vm.Alike.refl U.vm) qK, qD, ev.same (u := U) (U := U.calling g mk a) rfl qE⟩, va_recv hKc hPc (ci := 11) (q0 := 0) rfl rfl, fun U hU hW => ⟨rfl, by rw [hU], by rw [hU]; exact hPc, va_K.moved hW.alike hKc, hDc.weaken (fun _ _ _ _ => trivial), hE.warm hW⟩⟩ rfl rfl hl.1 rfl (lv_room (Nat.le_of_ble_eq_true rfl)) dX10_stop_2 ⟨Nat.le_of_ble_eq_true rfl, Nat.le_of_ble_eq_true rfl⟩) hS (fun q _ h => hFc q h) hFc (fun r_1 u t H1 locs ht hvm hw hB hz1 hk1 hS => ?_)
  clear hPc hDc hKc
  have hP := ro_keep hP hk1
  generalize H1 = H at hP hS ⊢
  have hP : va_P (dC, dI) vwCl [(h0, .inr (11, [.ref n0, .ref st, .ref la, .int 0, .int tm, .int 0, .int (-1), .int 0]))] H := hP
  obtain rfl : r_1 = none := hw
  refine W.eq (g2 := F0 m 5 ls [.null]) rfl ?_
  refine lv_astore_nN (lv' := [(2, .null), (0, .ref h0), (1, .int p0)]) hx hb dX10_stop_5 rfl hl (by decide) rfl (fun ls hl => ?_)
  refine lv_aload_nN hx hb dX10_stop_6 rfl (lv_at hl 0 rfl) ?_
  refine lv_ifnullN (tgt := 17) hx hb dX10_stop_7 (by decide) ?_
  refine lv_iconst (v := 0) hx hb dX10_stop_17 (by decide) ?_
  exact W.zret (v := 0) hx hb hr (by decide) (fun t ht hW => ⟨⟨0, (), rfl, rfl, trivial⟩, hS.F ht⟩) hS.2.2 dX10_stop_18

def v_c_X10_request : List Cond := .code yX10_request cX10_request 4 (some .boolean) :: ([.code yX10_find cX10_find 2 (some (.object "ClaimBus$Node")), .fieldLink RX10 29 "ClaimBus" "nodeCount" "I", .initialized RX10, .methodLink RX10 53 yX10_find, .instanceMethod yX10_find, .selects RX10 yX10_find yX10_find] ++ wsX100)
theorem in_c_X10_request_X10 : ∀ w ∈ wsX100, w ∈ v_c_X10_request := fun w h => List.mem_cons_of_mem _ (List.mem_append_right _ h)
set_option maxRecDepth 20000 in
theorem g_c_X10_request_c_X10_find_53 : GoodIn v_c_X10_request (wsV RX10 53 RX10 yX10_find v_c_X10_find) := goodIn_r _ [4, 5, 6, 3, 1, 2, 7, 8, 9, 10, 11, 12, 13, 14] (by decide +kernel) (by decide +kernel)
set_option maxHeartbeats 4000000 in
set_option maxRecDepth 100000 in
theorem c_X10_request (l : Launch) (dC : Nat → ClassId) (dI : Nat → Nat → Nat) (h0 : Nat) (n0 : Nat) (st : Nat) (la : Nat) (tm : Int32) (p0 : Int32) (p1 : Int32) (sz : Nat)  : Met l yX10_request v_c_X10_request ({ frames := 1, cells := 0, slots := 0, locals := 21 }) (va_Pc [.ref h0, .int p0, .int p1] (fun U => U.heap.size = sz ∧ va_P (dC, dI) vwCl [(h0, .inr (11, [.ref n0, .ref st, .ref la, .int 0, .int tm, .int 0, .int (-1), .int 0]))] U.heap ∧ va_K (dC, dI) vwCl [] U ∧ va_D (fun _ => True) [(h0, .inr (11, [.ref n0, .ref st, .ref la, .int 0, .int tm, .int 0, .int (-1), .int 0]))] ∧ ev U)) (va_Qi (fun (r : Int32) (_ : Unit) => r = 0) (fun (_ : Unit) (_ : State) => True) (va_A [] sz)) 0 0 (va_A [] sz) := by
  refine Met.ofW (cc := cX10_request) (maxL := 4) (ret := (some .boolean)) (by decide) rfl ?_
  intro p e s m args below meth c s₁ B hml hv
  obtain ⟨rfl, hsz, hP, hK, hD0, hE⟩ := hv
  have hx := B.exec
  have hb := B.bytes
  have hr := B.returns
  have hts := atoms_spec (ws := v_c_X10_request) B.pre
  have hown : s.vm.findClass RX10 = some m.cls := findClass_of_methodNamed B.named
  have hlocks := B.notSynchronized
  subst hsz
  have hD := hD0
  generalize hAe : va_A [] s.heap.size = A
  have hA : ∀ q : Nat, s.heap.size ≤ q → A q := fun q h => by rw [← hAe]; exact Or.inr h
  have hS : va_S A s.heap s.heap [] := va_S.rf
  have hP : va_P (dC, dI) vwCl [(h0, .inr (11, [.ref n0, .ref st, .ref la, .int 0, .int tm, .int 0, .int (-1), .int 0]))] s.heap := hP
  have hl := lv_entry ([.ref h0, .int p0, .int p1]) (n := 4) (Nat.le_of_ble_eq_true rfl)
  rw [lg_entry_eq]
  generalize (lg_sl ([.ref h0, .int p0, .int p1]) ++ List.replicate (4 - (lg_sl ([.ref h0, .int p0, .int p1])).length) Slot.unset).toArray = ls at hl ⊢
  have hl : lv_has ls 4 [(0, .ref h0), (1, .int p0), (2, .int p1)] := hl
  obtain ⟨H, hH⟩ : ∃ z : Heap, z = s.heap := ⟨_, rfl⟩
  rw [← hH]
  have hS : va_S A s.heap H [] := by rw [hH]; exact va_S.rf
  have hP : va_P (dC, dI) vwCl [(h0, .inr (11, [.ref n0, .ref st, .ref la, .int 0, .int tm, .int 0, .int (-1), .int 0]))] H := by rw [hH]; exact hP
  clear hH
  refine lv_aload_n hx hb dX10_request_0 rfl (lv_at hl 0 rfl) ?_
  refine lv_iload_n hx hb dX10_request_1 rfl (lv_at hl 1 rfl) ?_
  have hPc := hP.sub (ws' := [(h0, .inr (11, [.ref n0, .ref st, .ref la, .int 0, .int tm, .int 0, .int (-1), .int 0]))]) [0] rfl
  have hDc := hD.sub (ws' := [(h0, .inr (11, [.ref n0, .ref st, .ref la, .int 0, .int tm, .int 0, .int (-1), .int 0]))]) [0] (by decide) rfl
  have hKc := hK.sub (tys' := []) [] rfl
  have hFc := ro_free hS hA
  refine va_callq (va_runV (As := [.int p0]) (rest := []) ⟨hx, hb, hml, hown, hts⟩ (c_X10_find l dC dI (h0) (n0) (st) (la) (tm) (p0) H.size) (cwV 1 hts g_c_X10_request_c_X10_find_53 rfl rfl rfl (by decide +kernel) ⟨Nat.le_of_ble_eq_true rfl, Nat.le_of_ble_eq_true rfl⟩) ⟨fun a U g mk q => by obtain ⟨q0, q1, qP, qK, qD, qE⟩ := q; exact ⟨q0, q1, qP, va_K.moved (u := U) (U := U.calling g mk a) (Vm.Alike.refl U.vm) qK, qD, ev.same (u := U) (U := U.calling g mk a) rfl qE⟩, va_recv hKc hPc (ci := 11) (q0 := 0) rfl rfl, fun U hU hW => ⟨rfl, by rw [hU], by rw [hU]; exact hPc, va_K.moved hW.alike hKc, hDc.weaken (fun _ _ _ _ => trivial), hE.warm hW⟩⟩ rfl rfl hl.1 rfl (lv_room (Nat.le_of_ble_eq_true rfl)) dX10_request_2 ⟨Nat.le_of_ble_eq_true rfl, Nat.le_of_ble_eq_true rfl⟩) hS (fun q _ h => hFc q h) hFc (fun r_1 u t H1 locs ht hvm hw hB hz1 hk1 hS => ?_)
  clear hPc hDc hKc
  have hP := ro_keep hP hk1
  generalize H1 = H at hP hS ⊢
  have hP : va_P (dC, dI) vwCl [(h0, .inr (11, [.ref n0, .ref st, .ref la, .int 0, .int tm, .int 0, .int (-1), .int 0]))] H := hP
  obtain rfl : r_1 = none := hw
  refine W.eq (g2 := F0 m 5 ls [.null]) rfl ?_
  refine lv_astore_nN (lv' := [(3, .null), (0, .ref h0), (1, .int p0), (2, .int p1)]) hx hb dX10_request_5 rfl hl (by decide) rfl (fun ls hl => ?_)
  refine lv_aload_nN hx hb dX10_request_6 rfl (lv_at hl 0 rfl) ?_
  refine lv_ifnullN (tgt := 25) hx hb dX10_request_7 (by decide) ?_
  refine lv_iconst (v := 0) hx hb dX10_request_25 (by decide) ?_
  exact W.zret (v := 0) hx hb hr (by decide) (fun t ht hW => ⟨⟨0, (), rfl, rfl, trivial⟩, hS.F ht⟩) hS.2.2 dX10_request_26

def v_c_X10_send : List Cond := .code yX10_send cX10_send 7 (some .boolean) :: ([.code yX10_find cX10_find 2 (some (.object "ClaimBus$Node")), .fieldLink RX10 29 "ClaimBus" "nodeCount" "I", .initialized RX10, .methodLink RX10 53 yX10_find, .instanceMethod yX10_find, .selects RX10 yX10_find yX10_find] ++ wsX100)
theorem in_c_X10_send_X10 : ∀ w ∈ wsX100, w ∈ v_c_X10_send := fun w h => List.mem_cons_of_mem _ (List.mem_append_right _ h)
set_option maxRecDepth 20000 in
theorem g_c_X10_send_c_X10_find_53 : GoodIn v_c_X10_send (wsV RX10 53 RX10 yX10_find v_c_X10_find) := goodIn_r _ [4, 5, 6, 3, 1, 2, 7, 8, 9, 10, 11, 12, 13, 14] (by decide +kernel) (by decide +kernel)
set_option maxHeartbeats 4000000 in
set_option maxRecDepth 100000 in
theorem c_X10_send (l : Launch) (dC : Nat → ClassId) (dI : Nat → Nat → Nat) (h0 : Nat) (n0 : Nat) (st : Nat) (la : Nat) (tm : Int32) (p0 : Int32) (p1 : Int32) (p2 : Int32) (p3 : Int32) (p4 : Int32) (sz : Nat)  : Met l yX10_send v_c_X10_send ({ frames := 1, cells := 0, slots := 0, locals := 21 }) (va_Pc [.ref h0, .int p0, .int p1, .int p2, .int p3, .int p4] (fun U => U.heap.size = sz ∧ va_P (dC, dI) vwCl [(h0, .inr (11, [.ref n0, .ref st, .ref la, .int 0, .int tm, .int 0, .int (-1), .int 0]))] U.heap ∧ va_K (dC, dI) vwCl [] U ∧ va_D (fun _ => True) [(h0, .inr (11, [.ref n0, .ref st, .ref la, .int 0, .int tm, .int 0, .int (-1), .int 0]))] ∧ ev U)) (va_Qi (fun (r : Int32) (_ : Unit) => r = 0) (fun (_ : Unit) (_ : State) => True) (va_A [] sz)) 0 0 (va_A [] sz) := by
  refine Met.ofW (cc := cX10_send) (maxL := 7) (ret := (some .boolean)) (by decide) rfl ?_
  intro p e s m args below meth c s₁ B hml hv
  obtain ⟨rfl, hsz, hP, hK, hD0, hE⟩ := hv
  have hx := B.exec
  have hb := B.bytes
  have hr := B.returns
  have hts := atoms_spec (ws := v_c_X10_send) B.pre
  have hown : s.vm.findClass RX10 = some m.cls := findClass_of_methodNamed B.named
  have hlocks := B.notSynchronized
  subst hsz
  have hD := hD0
  generalize hAe : va_A [] s.heap.size = A
  have hA : ∀ q : Nat, s.heap.size ≤ q → A q := fun q h => by rw [← hAe]; exact Or.inr h
  have hS : va_S A s.heap s.heap [] := va_S.rf
  have hP : va_P (dC, dI) vwCl [(h0, .inr (11, [.ref n0, .ref st, .ref la, .int 0, .int tm, .int 0, .int (-1), .int 0]))] s.heap := hP
  have hl := lv_entry ([.ref h0, .int p0, .int p1, .int p2, .int p3, .int p4]) (n := 7) (Nat.le_of_ble_eq_true rfl)
  rw [lg_entry_eq]
  generalize (lg_sl ([.ref h0, .int p0, .int p1, .int p2, .int p3, .int p4]) ++ List.replicate (7 - (lg_sl ([.ref h0, .int p0, .int p1, .int p2, .int p3, .int p4])).length) Slot.unset).toArray = ls at hl ⊢
  have hl : lv_has ls 7 [(0, .ref h0), (1, .int p0), (2, .int p1), (3, .int p2), (4, .int p3), (5, .int p4)] := hl
  obtain ⟨H, hH⟩ : ∃ z : Heap, z = s.heap := ⟨_, rfl⟩
  rw [← hH]
  have hS : va_S A s.heap H [] := by rw [hH]; exact va_S.rf
  have hP : va_P (dC, dI) vwCl [(h0, .inr (11, [.ref n0, .ref st, .ref la, .int 0, .int tm, .int 0, .int (-1), .int 0]))] H := by rw [hH]; exact hP
  clear hH
  refine lv_aload_n hx hb dX10_send_0 rfl (lv_at hl 0 rfl) ?_
  refine lv_iload_n hx hb dX10_send_1 rfl (lv_at hl 1 rfl) ?_
  have hPc := hP.sub (ws' := [(h0, .inr (11, [.ref n0, .ref st, .ref la, .int 0, .int tm, .int 0, .int (-1), .int 0]))]) [0] rfl
  have hDc := hD.sub (ws' := [(h0, .inr (11, [.ref n0, .ref st, .ref la, .int 0, .int tm, .int 0, .int (-1), .int 0]))]) [0] (by decide) rfl
  have hKc := hK.sub (tys' := []) [] rfl
  have hFc := ro_free hS hA
  refine va_callq (va_runV (As := [.int p0]) (rest := []) ⟨hx, hb, hml, hown, hts⟩ (c_X10_find l dC dI (h0) (n0) (st) (la) (tm) (p0) H.size) (cwV 1 hts g_c_X10_send_c_X10_find_53 rfl rfl rfl (by decide +kernel) ⟨Nat.le_of_ble_eq_true rfl, Nat.le_of_ble_eq_true rfl⟩) ⟨fun a U g mk q => by obtain ⟨q0, q1, qP, qK, qD, qE⟩ := q; exact ⟨q0, q1, qP, va_K.moved (u := U) (U := U.calling g mk a) (Vm.Alike.refl U.vm) qK, qD, ev.same (u := U) (U := U.calling g mk a) rfl qE⟩, va_recv hKc hPc (ci := 11) (q0 := 0) rfl rfl, fun U hU hW => ⟨rfl, by rw [hU], by rw [hU]; exact hPc, va_K.moved hW.alike hKc, hDc.weaken (fun _ _ _ _ => trivial), hE.warm hW⟩⟩ rfl rfl hl.1 rfl (lv_room (Nat.le_of_ble_eq_true rfl)) dX10_send_2 ⟨Nat.le_of_ble_eq_true rfl, Nat.le_of_ble_eq_true rfl⟩) hS (fun q _ h => hFc q h) hFc (fun r_1 u t H1 locs ht hvm hw hB hz1 hk1 hS => ?_)
  clear hPc hDc hKc
  have hP := ro_keep hP hk1
  generalize H1 = H at hP hS ⊢
  have hP : va_P (dC, dI) vwCl [(h0, .inr (11, [.ref n0, .ref st, .ref la, .int 0, .int tm, .int 0, .int (-1), .int 0]))] H := hP
  obtain rfl : r_1 = none := hw
  refine W.eq (g2 := F0 m 5 ls [.null]) rfl ?_
  refine lv_astoreN (lv' := [(6, .null), (0, .ref h0), (1, .int p0), (2, .int p1), (3, .int p2), (4, .int p3), (5, .int p4)]) hx hb dX10_send_5 hl (by decide) rfl (fun ls hl => ?_)
  refine lv_aloadN hx hb dX10_send_7 (lv_at hl 0 rfl) ?_
  refine lv_ifnullN (tgt := 30) hx hb dX10_send_9 (by decide) ?_
  refine lv_iconst (v := 0) hx hb dX10_send_30 (by decide) ?_
  exact W.zret (v := 0) hx hb hr (by decide) (fun t ht hW => ⟨⟨0, (), rfl, rfl, trivial⟩, hS.F ht⟩) hS.2.2 dX10_send_31

def v_c_X10_trouble : List Cond := .code yX10_trouble cX10_trouble 6 (some .int) :: ([.code yX10_find cX10_find 2 (some (.object "ClaimBus$Node")), .fieldLink RX10 29 "ClaimBus" "nodeCount" "I", .initialized RX10, .methodLink RX10 53 yX10_find, .instanceMethod yX10_find, .selects RX10 yX10_find yX10_find] ++ wsX100)
theorem in_c_X10_trouble_X10 : ∀ w ∈ wsX100, w ∈ v_c_X10_trouble := fun w h => List.mem_cons_of_mem _ (List.mem_append_right _ h)
set_option maxRecDepth 20000 in
theorem g_c_X10_trouble_c_X10_find_53 : GoodIn v_c_X10_trouble (wsV RX10 53 RX10 yX10_find v_c_X10_find) := goodIn_r _ [4, 5, 6, 3, 1, 2, 7, 8, 9, 10, 11, 12, 13, 14] (by decide +kernel) (by decide +kernel)
set_option maxHeartbeats 4000000 in
set_option maxRecDepth 100000 in
theorem c_X10_trouble (l : Launch) (dC : Nat → ClassId) (dI : Nat → Nat → Nat) (h0 : Nat) (n0 : Nat) (st : Nat) (la : Nat) (tm : Int32) (p0 : Int32) (p1 : Int32) (p2 : Int32) (p3 : Int32) (sz : Nat)  : Met l yX10_trouble v_c_X10_trouble ({ frames := 1, cells := 0, slots := 0, locals := 21 }) (va_Pc [.ref h0, .int p0, .int p1, .int p2, .int p3] (fun U => U.heap.size = sz ∧ va_P (dC, dI) vwCl [(h0, .inr (11, [.ref n0, .ref st, .ref la, .int 0, .int tm, .int 0, .int (-1), .int 0]))] U.heap ∧ va_K (dC, dI) vwCl [] U ∧ va_D (fun _ => True) [(h0, .inr (11, [.ref n0, .ref st, .ref la, .int 0, .int tm, .int 0, .int (-1), .int 0]))] ∧ ev U)) (va_Qi (fun (r : Int32) (_ : Unit) => r = (-1)) (fun (_ : Unit) (_ : State) => True) (va_A [] sz)) 0 0 (va_A [] sz) := by
  refine Met.ofW (cc := cX10_trouble) (maxL := 6) (ret := (some .int)) (by decide) rfl ?_
  intro p e s m args below meth c s₁ B hml hv
  obtain ⟨rfl, hsz, hP, hK, hD0, hE⟩ := hv
  have hx := B.exec
  have hb := B.bytes
  have hr := B.returns
  have hts := atoms_spec (ws := v_c_X10_trouble) B.pre
  have hown : s.vm.findClass RX10 = some m.cls := findClass_of_methodNamed B.named
  have hlocks := B.notSynchronized
  subst hsz
  have hD := hD0
  generalize hAe : va_A [] s.heap.size = A
  have hA : ∀ q : Nat, s.heap.size ≤ q → A q := fun q h => by rw [← hAe]; exact Or.inr h
  have hS : va_S A s.heap s.heap [] := va_S.rf
  have hP : va_P (dC, dI) vwCl [(h0, .inr (11, [.ref n0, .ref st, .ref la, .int 0, .int tm, .int 0, .int (-1), .int 0]))] s.heap := hP
  have hl := lv_entry ([.ref h0, .int p0, .int p1, .int p2, .int p3]) (n := 6) (Nat.le_of_ble_eq_true rfl)
  rw [lg_entry_eq]
  generalize (lg_sl ([.ref h0, .int p0, .int p1, .int p2, .int p3]) ++ List.replicate (6 - (lg_sl ([.ref h0, .int p0, .int p1, .int p2, .int p3])).length) Slot.unset).toArray = ls at hl ⊢
  have hl : lv_has ls 6 [(0, .ref h0), (1, .int p0), (2, .int p1), (3, .int p2), (4, .int p3)] := hl
  obtain ⟨H, hH⟩ : ∃ z : Heap, z = s.heap := ⟨_, rfl⟩
  rw [← hH]
  have hS : va_S A s.heap H [] := by rw [hH]; exact va_S.rf
  have hP : va_P (dC, dI) vwCl [(h0, .inr (11, [.ref n0, .ref st, .ref la, .int 0, .int tm, .int 0, .int (-1), .int 0]))] H := by rw [hH]; exact hP
  clear hH
  refine lv_aload_n hx hb dX10_trouble_0 rfl (lv_at hl 0 rfl) ?_
  refine lv_iload_n hx hb dX10_trouble_1 rfl (lv_at hl 1 rfl) ?_
  have hPc := hP.sub (ws' := [(h0, .inr (11, [.ref n0, .ref st, .ref la, .int 0, .int tm, .int 0, .int (-1), .int 0]))]) [0] rfl
  have hDc := hD.sub (ws' := [(h0, .inr (11, [.ref n0, .ref st, .ref la, .int 0, .int tm, .int 0, .int (-1), .int 0]))]) [0] (by decide) rfl
  have hKc := hK.sub (tys' := []) [] rfl
  have hFc := ro_free hS hA
  refine va_callq (va_runV (As := [.int p0]) (rest := []) ⟨hx, hb, hml, hown, hts⟩ (c_X10_find l dC dI (h0) (n0) (st) (la) (tm) (p0) H.size) (cwV 1 hts g_c_X10_trouble_c_X10_find_53 rfl rfl rfl (by decide +kernel) ⟨Nat.le_of_ble_eq_true rfl, Nat.le_of_ble_eq_true rfl⟩) ⟨fun a U g mk q => by obtain ⟨q0, q1, qP, qK, qD, qE⟩ := q; exact ⟨q0, q1, qP, va_K.moved (u := U) (U := U.calling g mk a) (Vm.Alike.refl U.vm) qK, qD, ev.same (u := U) (U := U.calling g mk a) rfl qE⟩, va_recv hKc hPc (ci := 11) (q0 := 0) rfl rfl, fun U hU hW => ⟨rfl, by rw [hU], by rw [hU]; exact hPc, va_K.moved hW.alike hKc, hDc.weaken (fun _ _ _ _ => trivial), hE.warm hW⟩⟩ rfl rfl hl.1 rfl (lv_room (Nat.le_of_ble_eq_true rfl)) dX10_trouble_2 ⟨Nat.le_of_ble_eq_true rfl, Nat.le_of_ble_eq_true rfl⟩) hS (fun q _ h => hFc q h) hFc (fun r_1 u t H1 locs ht hvm hw hB hz1 hk1 hS => ?_)
  clear hPc hDc hKc
  have hP := ro_keep hP hk1
  generalize H1 = H at hP hS ⊢
  have hP : va_P (dC, dI) vwCl [(h0, .inr (11, [.ref n0, .ref st, .ref la, .int 0, .int tm, .int 0, .int (-1), .int 0]))] H := hP
  obtain rfl : r_1 = none := hw
  refine W.eq (g2 := F0 m 5 ls [.null]) rfl ?_
  refine lv_astoreN (lv' := [(5, .null), (0, .ref h0), (1, .int p0), (2, .int p1), (3, .int p2), (4, .int p3)]) hx hb dX10_trouble_5 hl (by decide) rfl (fun ls hl => ?_)
  refine lv_aloadN hx hb dX10_trouble_7 (lv_at hl 0 rfl) ?_
  refine lv_ifnullN (tgt := 22) hx hb dX10_trouble_9 (by decide) ?_
  refine lv_iconst (v := -1) hx hb dX10_trouble_22 (by decide) ?_
  exact W.iret (v := (-1)) hx hb hr (fun t ht hW => ⟨⟨(-1), (), rfl, rfl, trivial⟩, hS.F ht⟩) hS.2.2 dX10_trouble_23

def v_c_X10_tell : List Cond := .code yX10_tell cX10_tell 3 (some .boolean) :: ([.code yX10_find cX10_find 2 (some (.object "ClaimBus$Node")), .fieldLink RX10 29 "ClaimBus" "nodeCount" "I", .initialized RX10, .methodLink RX10 53 yX10_find, .instanceMethod yX10_find, .selects RX10 yX10_find yX10_find] ++ wsX100)
theorem in_c_X10_tell_X10 : ∀ w ∈ wsX100, w ∈ v_c_X10_tell := fun w h => List.mem_cons_of_mem _ (List.mem_append_right _ h)
set_option maxRecDepth 20000 in
theorem g_c_X10_tell_c_X10_find_53 : GoodIn v_c_X10_tell (wsV RX10 53 RX10 yX10_find v_c_X10_find) := goodIn_r _ [4, 5, 6, 3, 1, 2, 7, 8, 9, 10, 11, 12, 13, 14] (by decide +kernel) (by decide +kernel)
set_option maxHeartbeats 4000000 in
set_option maxRecDepth 100000 in
theorem c_X10_tell (l : Launch) (dC : Nat → ClassId) (dI : Nat → Nat → Nat) (h0 : Nat) (n0 : Nat) (st : Nat) (la : Nat) (tm : Int32) (p0 : Int32) (sz : Nat)  : Met l yX10_tell v_c_X10_tell ({ frames := 1, cells := 0, slots := 0, locals := 21 }) (va_Pc [.ref h0, .int p0] (fun U => U.heap.size = sz ∧ va_P (dC, dI) vwCl [(h0, .inr (11, [.ref n0, .ref st, .ref la, .int 0, .int tm, .int 0, .int (-1), .int 0]))] U.heap ∧ va_K (dC, dI) vwCl [] U ∧ va_D (fun _ => True) [(h0, .inr (11, [.ref n0, .ref st, .ref la, .int 0, .int tm, .int 0, .int (-1), .int 0]))] ∧ ev U)) (va_Qi (fun (r : Int32) (_ : Unit) => r = 0) (fun (_ : Unit) (_ : State) => True) (va_A [] sz)) 0 0 (va_A [] sz) := by
  refine Met.ofW (cc := cX10_tell) (maxL := 3) (ret := (some .boolean)) (by decide) rfl ?_
  intro p e s m args below meth c s₁ B hml hv
  obtain ⟨rfl, hsz, hP, hK, hD0, hE⟩ := hv
  have hx := B.exec
  have hb := B.bytes
  have hr := B.returns
  have hts := atoms_spec (ws := v_c_X10_tell) B.pre
  have hown : s.vm.findClass RX10 = some m.cls := findClass_of_methodNamed B.named
  have hlocks := B.notSynchronized
  subst hsz
  have hD := hD0
  generalize hAe : va_A [] s.heap.size = A
  have hA : ∀ q : Nat, s.heap.size ≤ q → A q := fun q h => by rw [← hAe]; exact Or.inr h
  have hS : va_S A s.heap s.heap [] := va_S.rf
  have hP : va_P (dC, dI) vwCl [(h0, .inr (11, [.ref n0, .ref st, .ref la, .int 0, .int tm, .int 0, .int (-1), .int 0]))] s.heap := hP
  have hl := lv_entry ([.ref h0, .int p0]) (n := 3) (Nat.le_of_ble_eq_true rfl)
  rw [lg_entry_eq]
  generalize (lg_sl ([.ref h0, .int p0]) ++ List.replicate (3 - (lg_sl ([.ref h0, .int p0])).length) Slot.unset).toArray = ls at hl ⊢
  have hl : lv_has ls 3 [(0, .ref h0), (1, .int p0)] := hl
  obtain ⟨H, hH⟩ : ∃ z : Heap, z = s.heap := ⟨_, rfl⟩
  rw [← hH]
  have hS : va_S A s.heap H [] := by rw [hH]; exact va_S.rf
  have hP : va_P (dC, dI) vwCl [(h0, .inr (11, [.ref n0, .ref st, .ref la, .int 0, .int tm, .int 0, .int (-1), .int 0]))] H := by rw [hH]; exact hP
  clear hH
  refine lv_aload_n hx hb dX10_tell_0 rfl (lv_at hl 0 rfl) ?_
  refine lv_iload_n hx hb dX10_tell_1 rfl (lv_at hl 1 rfl) ?_
  have hPc := hP.sub (ws' := [(h0, .inr (11, [.ref n0, .ref st, .ref la, .int 0, .int tm, .int 0, .int (-1), .int 0]))]) [0] rfl
  have hDc := hD.sub (ws' := [(h0, .inr (11, [.ref n0, .ref st, .ref la, .int 0, .int tm, .int 0, .int (-1), .int 0]))]) [0] (by decide) rfl
  have hKc := hK.sub (tys' := []) [] rfl
  have hFc := ro_free hS hA
  refine va_callq (va_runV (As := [.int p0]) (rest := []) ⟨hx, hb, hml, hown, hts⟩ (c_X10_find l dC dI (h0) (n0) (st) (la) (tm) (p0) H.size) (cwV 1 hts g_c_X10_tell_c_X10_find_53 rfl rfl rfl (by decide +kernel) ⟨Nat.le_of_ble_eq_true rfl, Nat.le_of_ble_eq_true rfl⟩) ⟨fun a U g mk q => by obtain ⟨q0, q1, qP, qK, qD, qE⟩ := q; exact ⟨q0, q1, qP, va_K.moved (u := U) (U := U.calling g mk a) (Vm.Alike.refl U.vm) qK, qD, ev.same (u := U) (U := U.calling g mk a) rfl qE⟩, va_recv hKc hPc (ci := 11) (q0 := 0) rfl rfl, fun U hU hW => ⟨rfl, by rw [hU], by rw [hU]; exact hPc, va_K.moved hW.alike hKc, hDc.weaken (fun _ _ _ _ => trivial), hE.warm hW⟩⟩ rfl rfl hl.1 rfl (lv_room (Nat.le_of_ble_eq_true rfl)) dX10_tell_2 ⟨Nat.le_of_ble_eq_true rfl, Nat.le_of_ble_eq_true rfl⟩) hS (fun q _ h => hFc q h) hFc (fun r_1 u t H1 locs ht hvm hw hB hz1 hk1 hS => ?_)
  clear hPc hDc hKc
  have hP := ro_keep hP hk1
  generalize H1 = H at hP hS ⊢
  have hP : va_P (dC, dI) vwCl [(h0, .inr (11, [.ref n0, .ref st, .ref la, .int 0, .int tm, .int 0, .int (-1), .int 0]))] H := hP
  obtain rfl : r_1 = none := hw
  refine W.eq (g2 := F0 m 5 ls [.null]) rfl ?_
  refine lv_astore_nN (lv' := [(2, .null), (0, .ref h0), (1, .int p0)]) hx hb dX10_tell_5 rfl hl (by decide) rfl (fun ls hl => ?_)
  refine lv_aload_nN hx hb dX10_tell_6 rfl (lv_at hl 0 rfl) ?_
  refine lv_ifnullN (tgt := 17) hx hb dX10_tell_7 (by decide) ?_
  refine lv_iconst (v := 0) hx hb dX10_tell_17 (by decide) ?_
  exact W.zret (v := 0) hx hb hr (by decide) (fun t ht hW => ⟨⟨0, (), rfl, rfl, trivial⟩, hS.F ht⟩) hS.2.2 dX10_tell_18

def v_c_X10_lose : List Cond := .code yX10_lose cX10_lose 4 (some .boolean) :: ([.code yX10_find cX10_find 2 (some (.object "ClaimBus$Node")), .fieldLink RX10 29 "ClaimBus" "nodeCount" "I", .initialized RX10, .methodLink RX10 53 yX10_find, .instanceMethod yX10_find, .selects RX10 yX10_find yX10_find] ++ wsX100)
theorem in_c_X10_lose_X10 : ∀ w ∈ wsX100, w ∈ v_c_X10_lose := fun w h => List.mem_cons_of_mem _ (List.mem_append_right _ h)
set_option maxRecDepth 20000 in
theorem g_c_X10_lose_c_X10_find_53 : GoodIn v_c_X10_lose (wsV RX10 53 RX10 yX10_find v_c_X10_find) := goodIn_r _ [4, 5, 6, 3, 1, 2, 7, 8, 9, 10, 11, 12, 13, 14] (by decide +kernel) (by decide +kernel)
set_option maxHeartbeats 4000000 in
set_option maxRecDepth 100000 in
theorem c_X10_lose (l : Launch) (dC : Nat → ClassId) (dI : Nat → Nat → Nat) (h0 : Nat) (n0 : Nat) (st : Nat) (la : Nat) (tm : Int32) (p0 : Int32) (p1 : Int32) (sz : Nat)  : Met l yX10_lose v_c_X10_lose ({ frames := 1, cells := 0, slots := 0, locals := 21 }) (va_Pc [.ref h0, .int p0, .int p1] (fun U => U.heap.size = sz ∧ va_P (dC, dI) vwCl [(h0, .inr (11, [.ref n0, .ref st, .ref la, .int 0, .int tm, .int 0, .int (-1), .int 0]))] U.heap ∧ va_K (dC, dI) vwCl [] U ∧ va_D (fun _ => True) [(h0, .inr (11, [.ref n0, .ref st, .ref la, .int 0, .int tm, .int 0, .int (-1), .int 0]))] ∧ ev U)) (va_Qi (fun (r : Int32) (_ : Unit) => r = 0) (fun (_ : Unit) (_ : State) => True) (va_A [] sz)) 0 0 (va_A [] sz) := by
  refine Met.ofW (cc := cX10_lose) (maxL := 4) (ret := (some .boolean)) (by decide) rfl ?_
  intro p e s m args below meth c s₁ B hml hv
  obtain ⟨rfl, hsz, hP, hK, hD0, hE⟩ := hv
  have hx := B.exec
  have hb := B.bytes
  have hr := B.returns
  have hts := atoms_spec (ws := v_c_X10_lose) B.pre
  have hown : s.vm.findClass RX10 = some m.cls := findClass_of_methodNamed B.named
  have hlocks := B.notSynchronized
  subst hsz
  have hD := hD0
  generalize hAe : va_A [] s.heap.size = A
  have hA : ∀ q : Nat, s.heap.size ≤ q → A q := fun q h => by rw [← hAe]; exact Or.inr h
  have hS : va_S A s.heap s.heap [] := va_S.rf
  have hP : va_P (dC, dI) vwCl [(h0, .inr (11, [.ref n0, .ref st, .ref la, .int 0, .int tm, .int 0, .int (-1), .int 0]))] s.heap := hP
  have hl := lv_entry ([.ref h0, .int p0, .int p1]) (n := 4) (Nat.le_of_ble_eq_true rfl)
  rw [lg_entry_eq]
  generalize (lg_sl ([.ref h0, .int p0, .int p1]) ++ List.replicate (4 - (lg_sl ([.ref h0, .int p0, .int p1])).length) Slot.unset).toArray = ls at hl ⊢
  have hl : lv_has ls 4 [(0, .ref h0), (1, .int p0), (2, .int p1)] := hl
  obtain ⟨H, hH⟩ : ∃ z : Heap, z = s.heap := ⟨_, rfl⟩
  rw [← hH]
  have hS : va_S A s.heap H [] := by rw [hH]; exact va_S.rf
  have hP : va_P (dC, dI) vwCl [(h0, .inr (11, [.ref n0, .ref st, .ref la, .int 0, .int tm, .int 0, .int (-1), .int 0]))] H := by rw [hH]; exact hP
  clear hH
  refine lv_aload_n hx hb dX10_lose_0 rfl (lv_at hl 0 rfl) ?_
  refine lv_iload_n hx hb dX10_lose_1 rfl (lv_at hl 1 rfl) ?_
  have hPc := hP.sub (ws' := [(h0, .inr (11, [.ref n0, .ref st, .ref la, .int 0, .int tm, .int 0, .int (-1), .int 0]))]) [0] rfl
  have hDc := hD.sub (ws' := [(h0, .inr (11, [.ref n0, .ref st, .ref la, .int 0, .int tm, .int 0, .int (-1), .int 0]))]) [0] (by decide) rfl
  have hKc := hK.sub (tys' := []) [] rfl
  have hFc := ro_free hS hA
  refine va_callq (va_runV (As := [.int p0]) (rest := []) ⟨hx, hb, hml, hown, hts⟩ (c_X10_find l dC dI (h0) (n0) (st) (la) (tm) (p0) H.size) (cwV 1 hts g_c_X10_lose_c_X10_find_53 rfl rfl rfl (by decide +kernel) ⟨Nat.le_of_ble_eq_true rfl, Nat.le_of_ble_eq_true rfl⟩) ⟨fun a U g mk q => by obtain ⟨q0, q1, qP, qK, qD, qE⟩ := q; exact ⟨q0, q1, qP, va_K.moved (u := U) (U := U.calling g mk a) (Vm.Alike.refl U.vm) qK, qD, ev.same (u := U) (U := U.calling g mk a) rfl qE⟩, va_recv hKc hPc (ci := 11) (q0 := 0) rfl rfl, fun U hU hW => ⟨rfl, by rw [hU], by rw [hU]; exact hPc, va_K.moved hW.alike hKc, hDc.weaken (fun _ _ _ _ => trivial), hE.warm hW⟩⟩ rfl rfl hl.1 rfl (lv_room (Nat.le_of_ble_eq_true rfl)) dX10_lose_2 ⟨Nat.le_of_ble_eq_true rfl, Nat.le_of_ble_eq_true rfl⟩) hS (fun q _ h => hFc q h) hFc (fun r_1 u t H1 locs ht hvm hw hB hz1 hk1 hS => ?_)
  clear hPc hDc hKc
  have hP := ro_keep hP hk1
  generalize H1 = H at hP hS ⊢
  have hP : va_P (dC, dI) vwCl [(h0, .inr (11, [.ref n0, .ref st, .ref la, .int 0, .int tm, .int 0, .int (-1), .int 0]))] H := hP
  obtain rfl : r_1 = none := hw
  refine W.eq (g2 := F0 m 5 ls [.null]) rfl ?_
  refine lv_astore_nN (lv' := [(3, .null), (0, .ref h0), (1, .int p0), (2, .int p1)]) hx hb dX10_lose_5 rfl hl (by decide) rfl (fun ls hl => ?_)
  refine lv_aload_nN hx hb dX10_lose_6 rfl (lv_at hl 0 rfl) ?_
  refine lv_ifnullN (tgt := 20) hx hb dX10_lose_7 (by decide) ?_
  refine lv_iconst (v := 0) hx hb dX10_lose_20 (by decide) ?_
  exact W.zret (v := 0) hx hb hr (by decide) (fun t ht hW => ⟨⟨0, (), rfl, rfl, trivial⟩, hS.F ht⟩) hS.2.2 dX10_lose_21

def v_c_X10_told : List Cond := .code yX10_told cX10_told 4 (some .int) :: ([.code yX10_find cX10_find 2 (some (.object "ClaimBus$Node")), .fieldLink RX10 29 "ClaimBus" "nodeCount" "I", .initialized RX10, .methodLink RX10 53 yX10_find, .instanceMethod yX10_find, .selects RX10 yX10_find yX10_find] ++ wsX100)
theorem in_c_X10_told_X10 : ∀ w ∈ wsX100, w ∈ v_c_X10_told := fun w h => List.mem_cons_of_mem _ (List.mem_append_right _ h)
set_option maxRecDepth 20000 in
theorem g_c_X10_told_c_X10_find_53 : GoodIn v_c_X10_told (wsV RX10 53 RX10 yX10_find v_c_X10_find) := goodIn_r _ [4, 5, 6, 3, 1, 2, 7, 8, 9, 10, 11, 12, 13, 14] (by decide +kernel) (by decide +kernel)
set_option maxHeartbeats 4000000 in
set_option maxRecDepth 100000 in
theorem c_X10_told (l : Launch) (dC : Nat → ClassId) (dI : Nat → Nat → Nat) (h0 : Nat) (n0 : Nat) (st : Nat) (la : Nat) (tm : Int32) (p0 : Int32) (p1 : Int32) (sz : Nat)  : Met l yX10_told v_c_X10_told ({ frames := 1, cells := 0, slots := 0, locals := 21 }) (va_Pc [.ref h0, .int p0, .int p1] (fun U => U.heap.size = sz ∧ va_P (dC, dI) vwCl [(h0, .inr (11, [.ref n0, .ref st, .ref la, .int 0, .int tm, .int 0, .int (-1), .int 0]))] U.heap ∧ va_K (dC, dI) vwCl [] U ∧ va_D (fun _ => True) [(h0, .inr (11, [.ref n0, .ref st, .ref la, .int 0, .int tm, .int 0, .int (-1), .int 0]))] ∧ ev U)) (va_Qi (fun (r : Int32) (_ : Unit) => r = (-1)) (fun (_ : Unit) (_ : State) => True) (va_A [] sz)) 0 0 (va_A [] sz) := by
  refine Met.ofW (cc := cX10_told) (maxL := 4) (ret := (some .int)) (by decide) rfl ?_
  intro p e s m args below meth c s₁ B hml hv
  obtain ⟨rfl, hsz, hP, hK, hD0, hE⟩ := hv
  have hx := B.exec
  have hb := B.bytes
  have hr := B.returns
  have hts := atoms_spec (ws := v_c_X10_told) B.pre
  have hown : s.vm.findClass RX10 = some m.cls := findClass_of_methodNamed B.named
  have hlocks := B.notSynchronized
  subst hsz
  have hD := hD0
  generalize hAe : va_A [] s.heap.size = A
  have hA : ∀ q : Nat, s.heap.size ≤ q → A q := fun q h => by rw [← hAe]; exact Or.inr h
  have hS : va_S A s.heap s.heap [] := va_S.rf
  have hP : va_P (dC, dI) vwCl [(h0, .inr (11, [.ref n0, .ref st, .ref la, .int 0, .int tm, .int 0, .int (-1), .int 0]))] s.heap := hP
  have hl := lv_entry ([.ref h0, .int p0, .int p1]) (n := 4) (Nat.le_of_ble_eq_true rfl)
  rw [lg_entry_eq]
  generalize (lg_sl ([.ref h0, .int p0, .int p1]) ++ List.replicate (4 - (lg_sl ([.ref h0, .int p0, .int p1])).length) Slot.unset).toArray = ls at hl ⊢
  have hl : lv_has ls 4 [(0, .ref h0), (1, .int p0), (2, .int p1)] := hl
  obtain ⟨H, hH⟩ : ∃ z : Heap, z = s.heap := ⟨_, rfl⟩
  rw [← hH]
  have hS : va_S A s.heap H [] := by rw [hH]; exact va_S.rf
  have hP : va_P (dC, dI) vwCl [(h0, .inr (11, [.ref n0, .ref st, .ref la, .int 0, .int tm, .int 0, .int (-1), .int 0]))] H := by rw [hH]; exact hP
  clear hH
  refine lv_aload_n hx hb dX10_told_0 rfl (lv_at hl 0 rfl) ?_
  refine lv_iload_n hx hb dX10_told_1 rfl (lv_at hl 1 rfl) ?_
  have hPc := hP.sub (ws' := [(h0, .inr (11, [.ref n0, .ref st, .ref la, .int 0, .int tm, .int 0, .int (-1), .int 0]))]) [0] rfl
  have hDc := hD.sub (ws' := [(h0, .inr (11, [.ref n0, .ref st, .ref la, .int 0, .int tm, .int 0, .int (-1), .int 0]))]) [0] (by decide) rfl
  have hKc := hK.sub (tys' := []) [] rfl
  have hFc := ro_free hS hA
  refine va_callq (va_runV (As := [.int p0]) (rest := []) ⟨hx, hb, hml, hown, hts⟩ (c_X10_find l dC dI (h0) (n0) (st) (la) (tm) (p0) H.size) (cwV 1 hts g_c_X10_told_c_X10_find_53 rfl rfl rfl (by decide +kernel) ⟨Nat.le_of_ble_eq_true rfl, Nat.le_of_ble_eq_true rfl⟩) ⟨fun a U g mk q => by obtain ⟨q0, q1, qP, qK, qD, qE⟩ := q; exact ⟨q0, q1, qP, va_K.moved (u := U) (U := U.calling g mk a) (Vm.Alike.refl U.vm) qK, qD, ev.same (u := U) (U := U.calling g mk a) rfl qE⟩, va_recv hKc hPc (ci := 11) (q0 := 0) rfl rfl, fun U hU hW => ⟨rfl, by rw [hU], by rw [hU]; exact hPc, va_K.moved hW.alike hKc, hDc.weaken (fun _ _ _ _ => trivial), hE.warm hW⟩⟩ rfl rfl hl.1 rfl (lv_room (Nat.le_of_ble_eq_true rfl)) dX10_told_2 ⟨Nat.le_of_ble_eq_true rfl, Nat.le_of_ble_eq_true rfl⟩) hS (fun q _ h => hFc q h) hFc (fun r_1 u t H1 locs ht hvm hw hB hz1 hk1 hS => ?_)
  clear hPc hDc hKc
  have hP := ro_keep hP hk1
  generalize H1 = H at hP hS ⊢
  have hP : va_P (dC, dI) vwCl [(h0, .inr (11, [.ref n0, .ref st, .ref la, .int 0, .int tm, .int 0, .int (-1), .int 0]))] H := hP
  obtain rfl : r_1 = none := hw
  refine W.eq (g2 := F0 m 5 ls [.null]) rfl ?_
  refine lv_astore_nN (lv' := [(3, .null), (0, .ref h0), (1, .int p0), (2, .int p1)]) hx hb dX10_told_5 rfl hl (by decide) rfl (fun ls hl => ?_)
  refine lv_aload_nN hx hb dX10_told_6 rfl (lv_at hl 0 rfl) ?_
  refine lv_ifnonnullN hx hb dX10_told_7 ?_
  refine lv_iconst (v := -1) hx hb dX10_told_10 (by decide) ?_
  exact W.iret (v := (-1)) hx hb hr (fun t ht hW => ⟨⟨(-1), (), rfl, rfl, trivial⟩, hS.F ht⟩) hS.2.2 dX10_told_11

def v_c_X10_table : List Cond := .code yX10_table cX10_table 4 (some .int) :: ([.code yX10_find cX10_find 2 (some (.object "ClaimBus$Node")), .fieldLink RX10 29 "ClaimBus" "nodeCount" "I", .initialized RX10, .methodLink RX10 53 yX10_find, .instanceMethod yX10_find, .selects RX10 yX10_find yX10_find] ++ wsX100)
theorem in_c_X10_table_X10 : ∀ w ∈ wsX100, w ∈ v_c_X10_table := fun w h => List.mem_cons_of_mem _ (List.mem_append_right _ h)
set_option maxRecDepth 20000 in
theorem g_c_X10_table_c_X10_find_53 : GoodIn v_c_X10_table (wsV RX10 53 RX10 yX10_find v_c_X10_find) := goodIn_r _ [4, 5, 6, 3, 1, 2, 7, 8, 9, 10, 11, 12, 13, 14] (by decide +kernel) (by decide +kernel)
set_option maxHeartbeats 4000000 in
set_option maxRecDepth 100000 in
theorem c_X10_table (l : Launch) (dC : Nat → ClassId) (dI : Nat → Nat → Nat) (h0 : Nat) (n0 : Nat) (st : Nat) (la : Nat) (tm : Int32) (p0 : Int32) (p1 : Int32) (sz : Nat)  : Met l yX10_table v_c_X10_table ({ frames := 1, cells := 0, slots := 0, locals := 21 }) (va_Pc [.ref h0, .int p0, .int p1] (fun U => U.heap.size = sz ∧ va_P (dC, dI) vwCl [(h0, .inr (11, [.ref n0, .ref st, .ref la, .int 0, .int tm, .int 0, .int (-1), .int 0]))] U.heap ∧ va_K (dC, dI) vwCl [] U ∧ va_D (fun _ => True) [(h0, .inr (11, [.ref n0, .ref st, .ref la, .int 0, .int tm, .int 0, .int (-1), .int 0]))] ∧ ev U)) (va_Qi (fun (r : Int32) (_ : Unit) => r = (-1)) (fun (_ : Unit) (_ : State) => True) (va_A [] sz)) 0 0 (va_A [] sz) := by
  refine Met.ofW (cc := cX10_table) (maxL := 4) (ret := (some .int)) (by decide) rfl ?_
  intro p e s m args below meth c s₁ B hml hv
  obtain ⟨rfl, hsz, hP, hK, hD0, hE⟩ := hv
  have hx := B.exec
  have hb := B.bytes
  have hr := B.returns
  have hts := atoms_spec (ws := v_c_X10_table) B.pre
  have hown : s.vm.findClass RX10 = some m.cls := findClass_of_methodNamed B.named
  have hlocks := B.notSynchronized
  subst hsz
  have hD := hD0
  generalize hAe : va_A [] s.heap.size = A
  have hA : ∀ q : Nat, s.heap.size ≤ q → A q := fun q h => by rw [← hAe]; exact Or.inr h
  have hS : va_S A s.heap s.heap [] := va_S.rf
  have hP : va_P (dC, dI) vwCl [(h0, .inr (11, [.ref n0, .ref st, .ref la, .int 0, .int tm, .int 0, .int (-1), .int 0]))] s.heap := hP
  have hl := lv_entry ([.ref h0, .int p0, .int p1]) (n := 4) (Nat.le_of_ble_eq_true rfl)
  rw [lg_entry_eq]
  generalize (lg_sl ([.ref h0, .int p0, .int p1]) ++ List.replicate (4 - (lg_sl ([.ref h0, .int p0, .int p1])).length) Slot.unset).toArray = ls at hl ⊢
  have hl : lv_has ls 4 [(0, .ref h0), (1, .int p0), (2, .int p1)] := hl
  obtain ⟨H, hH⟩ : ∃ z : Heap, z = s.heap := ⟨_, rfl⟩
  rw [← hH]
  have hS : va_S A s.heap H [] := by rw [hH]; exact va_S.rf
  have hP : va_P (dC, dI) vwCl [(h0, .inr (11, [.ref n0, .ref st, .ref la, .int 0, .int tm, .int 0, .int (-1), .int 0]))] H := by rw [hH]; exact hP
  clear hH
  refine lv_aload_n hx hb dX10_table_0 rfl (lv_at hl 0 rfl) ?_
  refine lv_iload_n hx hb dX10_table_1 rfl (lv_at hl 1 rfl) ?_
  have hPc := hP.sub (ws' := [(h0, .inr (11, [.ref n0, .ref st, .ref la, .int 0, .int tm, .int 0, .int (-1), .int 0]))]) [0] rfl
  have hDc := hD.sub (ws' := [(h0, .inr (11, [.ref n0, .ref st, .ref la, .int 0, .int tm, .int 0, .int (-1), .int 0]))]) [0] (by decide) rfl
  have hKc := hK.sub (tys' := []) [] rfl
  have hFc := ro_free hS hA
  refine va_callq (va_runV (As := [.int p0]) (rest := []) ⟨hx, hb, hml, hown, hts⟩ (c_X10_find l dC dI (h0) (n0) (st) (la) (tm) (p0) H.size) (cwV 1 hts g_c_X10_table_c_X10_find_53 rfl rfl rfl (by decide +kernel) ⟨Nat.le_of_ble_eq_true rfl, Nat.le_of_ble_eq_true rfl⟩) ⟨fun a U g mk q => by obtain ⟨q0, q1, qP, qK, qD, qE⟩ := q; exact ⟨q0, q1, qP, va_K.moved (u := U) (U := U.calling g mk a) (Vm.Alike.refl U.vm) qK, qD, ev.same (u := U) (U := U.calling g mk a) rfl qE⟩, va_recv hKc hPc (ci := 11) (q0 := 0) rfl rfl, fun U hU hW => ⟨rfl, by rw [hU], by rw [hU]; exact hPc, va_K.moved hW.alike hKc, hDc.weaken (fun _ _ _ _ => trivial), hE.warm hW⟩⟩ rfl rfl hl.1 rfl (lv_room (Nat.le_of_ble_eq_true rfl)) dX10_table_2 ⟨Nat.le_of_ble_eq_true rfl, Nat.le_of_ble_eq_true rfl⟩) hS (fun q _ h => hFc q h) hFc (fun r_1 u t H1 locs ht hvm hw hB hz1 hk1 hS => ?_)
  clear hPc hDc hKc
  have hP := ro_keep hP hk1
  generalize H1 = H at hP hS ⊢
  have hP : va_P (dC, dI) vwCl [(h0, .inr (11, [.ref n0, .ref st, .ref la, .int 0, .int tm, .int 0, .int (-1), .int 0]))] H := hP
  obtain rfl : r_1 = none := hw
  refine W.eq (g2 := F0 m 5 ls [.null]) rfl ?_
  refine lv_astore_nN (lv' := [(3, .null), (0, .ref h0), (1, .int p0), (2, .int p1)]) hx hb dX10_table_5 rfl hl (by decide) rfl (fun ls hl => ?_)
  refine lv_aload_nN hx hb dX10_table_6 rfl (lv_at hl 0 rfl) ?_
  refine lv_ifnullN (tgt := 21) hx hb dX10_table_7 (by decide) ?_
  refine lv_iconst (v := -1) hx hb dX10_table_21 (by decide) ?_
  exact W.iret (v := (-1)) hx hb hr (fun t ht hW => ⟨⟨(-1), (), rfl, rfl, trivial⟩, hS.F ht⟩) hS.2.2 dX10_table_22

def v_c_X10_message : List Cond := .code yX10_message cX10_message 5 (some .int) :: ([.code yX10_find cX10_find 2 (some (.object "ClaimBus$Node")), .fieldLink RX10 29 "ClaimBus" "nodeCount" "I", .initialized RX10, .methodLink RX10 53 yX10_find, .instanceMethod yX10_find, .selects RX10 yX10_find yX10_find] ++ wsX100)
theorem in_c_X10_message_X10 : ∀ w ∈ wsX100, w ∈ v_c_X10_message := fun w h => List.mem_cons_of_mem _ (List.mem_append_right _ h)
set_option maxRecDepth 20000 in
theorem g_c_X10_message_c_X10_find_53 : GoodIn v_c_X10_message (wsV RX10 53 RX10 yX10_find v_c_X10_find) := goodIn_r _ [4, 5, 6, 3, 1, 2, 7, 8, 9, 10, 11, 12, 13, 14] (by decide +kernel) (by decide +kernel)
set_option maxHeartbeats 4000000 in
set_option maxRecDepth 100000 in
theorem c_X10_message (l : Launch) (dC : Nat → ClassId) (dI : Nat → Nat → Nat) (h0 : Nat) (n0 : Nat) (st : Nat) (la : Nat) (tm : Int32) (p0 : Int32) (p1 : Int32) (p2 : Int32) (sz : Nat)  : Met l yX10_message v_c_X10_message ({ frames := 1, cells := 0, slots := 0, locals := 21 }) (va_Pc [.ref h0, .int p0, .int p1, .int p2] (fun U => U.heap.size = sz ∧ va_P (dC, dI) vwCl [(h0, .inr (11, [.ref n0, .ref st, .ref la, .int 0, .int tm, .int 0, .int (-1), .int 0]))] U.heap ∧ va_K (dC, dI) vwCl [] U ∧ va_D (fun _ => True) [(h0, .inr (11, [.ref n0, .ref st, .ref la, .int 0, .int tm, .int 0, .int (-1), .int 0]))] ∧ ev U)) (va_Qi (fun (r : Int32) (_ : Unit) => r = (-1)) (fun (_ : Unit) (_ : State) => True) (va_A [] sz)) 0 0 (va_A [] sz) := by
  refine Met.ofW (cc := cX10_message) (maxL := 5) (ret := (some .int)) (by decide) rfl ?_
  intro p e s m args below meth c s₁ B hml hv
  obtain ⟨rfl, hsz, hP, hK, hD0, hE⟩ := hv
  have hx := B.exec
  have hb := B.bytes
  have hr := B.returns
  have hts := atoms_spec (ws := v_c_X10_message) B.pre
  have hown : s.vm.findClass RX10 = some m.cls := findClass_of_methodNamed B.named
  have hlocks := B.notSynchronized
  subst hsz
  have hD := hD0
  generalize hAe : va_A [] s.heap.size = A
  have hA : ∀ q : Nat, s.heap.size ≤ q → A q := fun q h => by rw [← hAe]; exact Or.inr h
  have hS : va_S A s.heap s.heap [] := va_S.rf
  have hP : va_P (dC, dI) vwCl [(h0, .inr (11, [.ref n0, .ref st, .ref la, .int 0, .int tm, .int 0, .int (-1), .int 0]))] s.heap := hP
  have hl := lv_entry ([.ref h0, .int p0, .int p1, .int p2]) (n := 5) (Nat.le_of_ble_eq_true rfl)
  rw [lg_entry_eq]
  generalize (lg_sl ([.ref h0, .int p0, .int p1, .int p2]) ++ List.replicate (5 - (lg_sl ([.ref h0, .int p0, .int p1, .int p2])).length) Slot.unset).toArray = ls at hl ⊢
  have hl : lv_has ls 5 [(0, .ref h0), (1, .int p0), (2, .int p1), (3, .int p2)] := hl
  obtain ⟨H, hH⟩ : ∃ z : Heap, z = s.heap := ⟨_, rfl⟩
  rw [← hH]
  have hS : va_S A s.heap H [] := by rw [hH]; exact va_S.rf
  have hP : va_P (dC, dI) vwCl [(h0, .inr (11, [.ref n0, .ref st, .ref la, .int 0, .int tm, .int 0, .int (-1), .int 0]))] H := by rw [hH]; exact hP
  clear hH
  refine lv_aload_n hx hb dX10_message_0 rfl (lv_at hl 0 rfl) ?_
  refine lv_iload_n hx hb dX10_message_1 rfl (lv_at hl 1 rfl) ?_
  have hPc := hP.sub (ws' := [(h0, .inr (11, [.ref n0, .ref st, .ref la, .int 0, .int tm, .int 0, .int (-1), .int 0]))]) [0] rfl
  have hDc := hD.sub (ws' := [(h0, .inr (11, [.ref n0, .ref st, .ref la, .int 0, .int tm, .int 0, .int (-1), .int 0]))]) [0] (by decide) rfl
  have hKc := hK.sub (tys' := []) [] rfl
  have hFc := ro_free hS hA
  refine va_callq (va_runV (As := [.int p0]) (rest := []) ⟨hx, hb, hml, hown, hts⟩ (c_X10_find l dC dI (h0) (n0) (st) (la) (tm) (p0) H.size) (cwV 1 hts g_c_X10_message_c_X10_find_53 rfl rfl rfl (by decide +kernel) ⟨Nat.le_of_ble_eq_true rfl, Nat.le_of_ble_eq_true rfl⟩) ⟨fun a U g mk q => by obtain ⟨q0, q1, qP, qK, qD, qE⟩ := q; exact ⟨q0, q1, qP, va_K.moved (u := U) (U := U.calling g mk a) (Vm.Alike.refl U.vm) qK, qD, ev.same (u := U) (U := U.calling g mk a) rfl qE⟩, va_recv hKc hPc (ci := 11) (q0 := 0) rfl rfl, fun U hU hW => ⟨rfl, by rw [hU], by rw [hU]; exact hPc, va_K.moved hW.alike hKc, hDc.weaken (fun _ _ _ _ => trivial), hE.warm hW⟩⟩ rfl rfl hl.1 rfl (lv_room (Nat.le_of_ble_eq_true rfl)) dX10_message_2 ⟨Nat.le_of_ble_eq_true rfl, Nat.le_of_ble_eq_true rfl⟩) hS (fun q _ h => hFc q h) hFc (fun r_1 u t H1 locs ht hvm hw hB hz1 hk1 hS => ?_)
  clear hPc hDc hKc
  have hP := ro_keep hP hk1
  generalize H1 = H at hP hS ⊢
  have hP : va_P (dC, dI) vwCl [(h0, .inr (11, [.ref n0, .ref st, .ref la, .int 0, .int tm, .int 0, .int (-1), .int 0]))] H := hP
  obtain rfl : r_1 = none := hw
  refine W.eq (g2 := F0 m 5 ls [.null]) rfl ?_
  refine lv_astoreN (lv' := [(4, .null), (0, .ref h0), (1, .int p0), (2, .int p1), (3, .int p2)]) hx hb dX10_message_5 hl (by decide) rfl (fun ls hl => ?_)
  refine lv_aloadN hx hb dX10_message_7 (lv_at hl 0 rfl) ?_
  refine lv_ifnonnullN hx hb dX10_message_9 ?_
  refine lv_iconst (v := -1) hx hb dX10_message_12 (by decide) ?_
  refine lv_goto (tgt := 26) hx hb dX10_message_13 (by decide) ?_
  exact W.iret (v := (-1)) hx hb hr (fun t ht hW => ⟨⟨(-1), (), rfl, rfl, trivial⟩, hS.F ht⟩) hS.2.2 dX10_message_26

def v_c_X10_kept : List Cond := .code yX10_kept cX10_kept 6 (some .int) :: ([.code yX10_find cX10_find 2 (some (.object "ClaimBus$Node")), .fieldLink RX10 29 "ClaimBus" "nodeCount" "I", .initialized RX10, .methodLink RX10 53 yX10_find, .instanceMethod yX10_find, .selects RX10 yX10_find yX10_find] ++ wsX100)
theorem in_c_X10_kept_X10 : ∀ w ∈ wsX100, w ∈ v_c_X10_kept := fun w h => List.mem_cons_of_mem _ (List.mem_append_right _ h)
set_option maxRecDepth 20000 in
theorem g_c_X10_kept_c_X10_find_53 : GoodIn v_c_X10_kept (wsV RX10 53 RX10 yX10_find v_c_X10_find) := goodIn_r _ [4, 5, 6, 3, 1, 2, 7, 8, 9, 10, 11, 12, 13, 14] (by decide +kernel) (by decide +kernel)
set_option maxHeartbeats 4000000 in
set_option maxRecDepth 100000 in
theorem c_X10_kept (l : Launch) (dC : Nat → ClassId) (dI : Nat → Nat → Nat) (h0 : Nat) (n0 : Nat) (st : Nat) (la : Nat) (tm : Int32) (p0 : Int32) (p1 : Int32) (p2 : Int32) (p3 : Int32) (sz : Nat)  : Met l yX10_kept v_c_X10_kept ({ frames := 1, cells := 0, slots := 0, locals := 21 }) (va_Pc [.ref h0, .int p0, .int p1, .int p2, .int p3] (fun U => U.heap.size = sz ∧ va_P (dC, dI) vwCl [(h0, .inr (11, [.ref n0, .ref st, .ref la, .int 0, .int tm, .int 0, .int (-1), .int 0]))] U.heap ∧ va_K (dC, dI) vwCl [] U ∧ va_D (fun _ => True) [(h0, .inr (11, [.ref n0, .ref st, .ref la, .int 0, .int tm, .int 0, .int (-1), .int 0]))] ∧ ev U)) (va_Qi (fun (r : Int32) (_ : Unit) => r = (-1)) (fun (_ : Unit) (_ : State) => True) (va_A [] sz)) 0 0 (va_A [] sz) := by
  refine Met.ofW (cc := cX10_kept) (maxL := 6) (ret := (some .int)) (by decide) rfl ?_
  intro p e s m args below meth c s₁ B hml hv
  obtain ⟨rfl, hsz, hP, hK, hD0, hE⟩ := hv
  have hx := B.exec
  have hb := B.bytes
  have hr := B.returns
  have hts := atoms_spec (ws := v_c_X10_kept) B.pre
  have hown : s.vm.findClass RX10 = some m.cls := findClass_of_methodNamed B.named
  have hlocks := B.notSynchronized
  subst hsz
  have hD := hD0
  generalize hAe : va_A [] s.heap.size = A
  have hA : ∀ q : Nat, s.heap.size ≤ q → A q := fun q h => by rw [← hAe]; exact Or.inr h
  have hS : va_S A s.heap s.heap [] := va_S.rf
  have hP : va_P (dC, dI) vwCl [(h0, .inr (11, [.ref n0, .ref st, .ref la, .int 0, .int tm, .int 0, .int (-1), .int 0]))] s.heap := hP
  have hl := lv_entry ([.ref h0, .int p0, .int p1, .int p2, .int p3]) (n := 6) (Nat.le_of_ble_eq_true rfl)
  rw [lg_entry_eq]
  generalize (lg_sl ([.ref h0, .int p0, .int p1, .int p2, .int p3]) ++ List.replicate (6 - (lg_sl ([.ref h0, .int p0, .int p1, .int p2, .int p3])).length) Slot.unset).toArray = ls at hl ⊢
  have hl : lv_has ls 6 [(0, .ref h0), (1, .int p0), (2, .int p1), (3, .int p2), (4, .int p3)] := hl
  obtain ⟨H, hH⟩ : ∃ z : Heap, z = s.heap := ⟨_, rfl⟩
  rw [← hH]
  have hS : va_S A s.heap H [] := by rw [hH]; exact va_S.rf
  have hP : va_P (dC, dI) vwCl [(h0, .inr (11, [.ref n0, .ref st, .ref la, .int 0, .int tm, .int 0, .int (-1), .int 0]))] H := by rw [hH]; exact hP
  clear hH
  refine lv_aload_n hx hb dX10_kept_0 rfl (lv_at hl 0 rfl) ?_
  refine lv_iload_n hx hb dX10_kept_1 rfl (lv_at hl 1 rfl) ?_
  have hPc := hP.sub (ws' := [(h0, .inr (11, [.ref n0, .ref st, .ref la, .int 0, .int tm, .int 0, .int (-1), .int 0]))]) [0] rfl
  have hDc := hD.sub (ws' := [(h0, .inr (11, [.ref n0, .ref st, .ref la, .int 0, .int tm, .int 0, .int (-1), .int 0]))]) [0] (by decide) rfl
  have hKc := hK.sub (tys' := []) [] rfl
  have hFc := ro_free hS hA
  refine va_callq (va_runV (As := [.int p0]) (rest := []) ⟨hx, hb, hml, hown, hts⟩ (c_X10_find l dC dI (h0) (n0) (st) (la) (tm) (p0) H.size) (cwV 1 hts g_c_X10_kept_c_X10_find_53 rfl rfl rfl (by decide +kernel) ⟨Nat.le_of_ble_eq_true rfl, Nat.le_of_ble_eq_true rfl⟩) ⟨fun a U g mk q => by obtain ⟨q0, q1, qP, qK, qD, qE⟩ := q; exact ⟨q0, q1, qP, va_K.moved (u := U) (U := U.calling g mk a) (Vm.Alike.refl U.vm) qK, qD, ev.same (u := U) (U := U.calling g mk a) rfl qE⟩, va_recv hKc hPc (ci := 11) (q0 := 0) rfl rfl, fun U hU hW => ⟨rfl, by rw [hU], by rw [hU]; exact hPc, va_K.moved hW.alike hKc, hDc.weaken (fun _ _ _ _ => trivial), hE.warm hW⟩⟩ rfl rfl hl.1 rfl (lv_room (Nat.le_of_ble_eq_true rfl)) dX10_kept_2 ⟨Nat.le_of_ble_eq_true rfl, Nat.le_of_ble_eq_true rfl⟩) hS (fun q _ h => hFc q h) hFc (fun r_1 u t H1 locs ht hvm hw hB hz1 hk1 hS => ?_)
  clear hPc hDc hKc
  have hP := ro_keep hP hk1
  generalize H1 = H at hP hS ⊢
  have hP : va_P (dC, dI) vwCl [(h0, .inr (11, [.ref n0, .ref st, .ref la, .int 0, .int tm, .int 0, .int (-1), .int 0]))] H := hP
  obtain rfl : r_1 = none := hw
  refine W.eq (g2 := F0 m 5 ls [.null]) rfl ?_
  refine lv_astoreN (lv' := [(5, .null), (0, .ref h0), (1, .int p0), (2, .int p1), (3, .int p2), (4, .int p3)]) hx hb dX10_kept_5 hl (by decide) rfl (fun ls hl => ?_)
  refine lv_aloadN hx hb dX10_kept_7 (lv_at hl 0 rfl) ?_
  refine lv_ifnonnullN hx hb dX10_kept_9 ?_
  refine lv_iconst (v := -1) hx hb dX10_kept_12 (by decide) ?_
  refine lv_goto (tgt := 28) hx hb dX10_kept_13 (by decide) ?_
  exact W.iret (v := (-1)) hx hb hr (fun t ht hW => ⟨⟨(-1), (), rfl, rfl, trivial⟩, hS.F ht⟩) hS.2.2 dX10_kept_28

def v_c_X10_carried : List Cond := .code yX10_carried cX10_carried 2 (some .int) :: ([.fieldLink RX10 39 "ClaimBus" "lastSender" "I"] ++ wsX100)
theorem in_c_X10_carried_X10 : ∀ w ∈ wsX100, w ∈ v_c_X10_carried := fun w h => List.mem_cons_of_mem _ (List.mem_append_right _ h)
set_option maxHeartbeats 4000000 in
set_option maxRecDepth 100000 in
theorem c_X10_carried (l : Launch) (dC : Nat → ClassId) (dI : Nat → Nat → Nat) (h0 : Nat) (n0 : Nat) (st : Nat) (la : Nat) (tm : Int32) (p0 : Int32) (sz : Nat)  : Met l yX10_carried v_c_X10_carried ({ frames := 0, cells := 0, slots := 0, locals := 0 }) (va_Pc [.ref h0, .int p0] (fun U => U.heap.size = sz ∧ va_P (dC, dI) vwCl [(h0, .inr (11, [.ref n0, .ref st, .ref la, .int 0, .int tm, .int 0, .int (-1), .int 0]))] U.heap ∧ va_K (dC, dI) vwCl [] U ∧ va_D (fun _ => True) [(h0, .inr (11, [.ref n0, .ref st, .ref la, .int 0, .int tm, .int 0, .int (-1), .int 0]))] ∧ ev U)) (va_Qi (fun (r : Int32) (_ : Unit) => r = if p0 = 3 then (-1) else 0) (fun (_ : Unit) (_ : State) => True) (va_A [] sz)) 0 0 (va_A [] sz) := by
  refine Met.ofW (cc := cX10_carried) (maxL := 2) (ret := (some .int)) (by decide) rfl ?_
  intro p e s m args below meth c s₁ B hml hv
  obtain ⟨rfl, hsz, hP, hK, hD0, hE⟩ := hv
  have hx := B.exec
  have hb := B.bytes
  have hr := B.returns
  have hts := atoms_spec (ws := v_c_X10_carried) B.pre
  have hown : s.vm.findClass RX10 = some m.cls := findClass_of_methodNamed B.named
  have hlocks := B.notSynchronized
  subst hsz
  have hD := hD0
  generalize hAe : va_A [] s.heap.size = A
  have hA : ∀ q : Nat, s.heap.size ≤ q → A q := fun q h => by rw [← hAe]; exact Or.inr h
  have hS : va_S A s.heap s.heap [] := va_S.rf
  have hP : va_P (dC, dI) vwCl [(h0, .inr (11, [.ref n0, .ref st, .ref la, .int 0, .int tm, .int 0, .int (-1), .int 0]))] s.heap := hP
  have hl := lv_entry ([.ref h0, .int p0]) (n := 2) (Nat.le_of_ble_eq_true rfl)
  rw [lg_entry_eq]
  generalize (lg_sl ([.ref h0, .int p0]) ++ List.replicate (2 - (lg_sl ([.ref h0, .int p0])).length) Slot.unset).toArray = ls at hl ⊢
  have hl : lv_has ls 2 [(0, .ref h0), (1, .int p0)] := hl
  obtain ⟨H, hH⟩ : ∃ z : Heap, z = s.heap := ⟨_, rfl⟩
  rw [← hH]
  have hS : va_S A s.heap H [] := by rw [hH]; exact va_S.rf
  have hP : va_P (dC, dI) vwCl [(h0, .inr (11, [.ref n0, .ref st, .ref la, .int 0, .int tm, .int 0, .int (-1), .int 0]))] H := by rw [hH]; exact hP
  clear hH
  refine lv_aload_n hx hb dX10_carried_0 rfl (lv_at hl 0 rfl) ?_
  refine va_get (D := (dC, dI)) (ci := 11) (v := .int (-1)) (C := RX10) (T := TX10) (N := 8) hx hb hts in_c_X10_carried_X10 hown hK hP 0 rfl rfl 6 (by decide) (hts (.fieldLink RX10 39 "ClaimBus" "lastSender" "I") (List.mem_of_getElem? (i := 1) rfl)) (fun _ h9 => h9) rfl dX10_carried_1 ?_
  refine lv_iconst (v := -1) hx hb dX10_carried_4 (by decide) ?_
  refine lv_icmp_ne (tgt := 19) hx hb dX10_carried_5 (by decide) (fun c_1 => ?_) (fun c_1 => ?_)
  · exact absurd c_1 (by decide)
  refine lv_iload_n hx hb dX10_carried_8 rfl (lv_at hl 1 rfl) ?_
  refine lv_iconst (v := 3) hx hb dX10_carried_9 (by decide) ?_
  refine lv_icmp_ne (tgt := 17) hx hb dX10_carried_10 (by decide) (fun c_2 => ?_) (fun c_2 => ?_)
  · refine lv_iconst (v := 0) hx hb dX10_carried_17 (by decide) ?_
    exact W.iret (v := 0) hx hb hr (fun t ht hW => ⟨⟨0, (), rfl, (by simp [c_2]), trivial⟩, hS.F ht⟩) hS.2.2 dX10_carried_18
  · refine lv_iconst (v := -1) hx hb dX10_carried_13 (by decide) ?_
    refine lv_goto (tgt := 18) hx hb dX10_carried_14 (by decide) ?_
    exact W.iret (v := (-1)) hx hb hr (fun t ht hW => ⟨⟨(-1), (), rfl, (by simp [c_2]), trivial⟩, hS.F ht⟩) hS.2.2 dX10_carried_18

def v_c_X10_isDisturbed : List Cond := .code yX10_isDisturbed cX10_isDisturbed 3 (some .boolean) :: ([.fieldLink RX10 29 "ClaimBus" "nodeCount" "I", .fieldLink RX10 42 "ClaimBus" "stopped" "Z"] ++ wsX100)
theorem in_c_X10_isDisturbed_X10 : ∀ w ∈ wsX100, w ∈ v_c_X10_isDisturbed := fun w h => List.mem_cons_of_mem _ (List.mem_append_right _ h)
set_option maxHeartbeats 4000000 in
set_option maxRecDepth 100000 in
theorem c_X10_isDisturbed (l : Launch) (dC : Nat → ClassId) (dI : Nat → Nat → Nat) (h0 : Nat) (n0 : Nat) (st : Nat) (la : Nat) (tm : Int32) (sz : Nat)  : Met l yX10_isDisturbed v_c_X10_isDisturbed ({ frames := 0, cells := 0, slots := 0, locals := 0 }) (va_Pc [.ref h0] (fun U => U.heap.size = sz ∧ va_P (dC, dI) vwCl [(h0, .inr (11, [.ref n0, .ref st, .ref la, .int 0, .int tm, .int 0, .int (-1), .int 0]))] U.heap ∧ va_K (dC, dI) vwCl [] U ∧ va_D (fun _ => True) [(h0, .inr (11, [.ref n0, .ref st, .ref la, .int 0, .int tm, .int 0, .int (-1), .int 0]))] ∧ ev U)) (va_Qi (fun (r : Int32) (_ : Unit) => r = 0) (fun (_ : Unit) (_ : State) => True) (va_A [] sz)) 0 0 (va_A [] sz) := by
  refine Met.ofW (cc := cX10_isDisturbed) (maxL := 3) (ret := (some .boolean)) (by decide) rfl ?_
  intro p e s m args below meth c s₁ B hml hv
  obtain ⟨rfl, hsz, hP, hK, hD0, hE⟩ := hv
  have hx := B.exec
  have hb := B.bytes
  have hr := B.returns
  have hts := atoms_spec (ws := v_c_X10_isDisturbed) B.pre
  have hown : s.vm.findClass RX10 = some m.cls := findClass_of_methodNamed B.named
  have hlocks := B.notSynchronized
  subst hsz
  have hD := hD0
  generalize hAe : va_A [] s.heap.size = A
  have hA : ∀ q : Nat, s.heap.size ≤ q → A q := fun q h => by rw [← hAe]; exact Or.inr h
  have hS : va_S A s.heap s.heap [] := va_S.rf
  have hP : va_P (dC, dI) vwCl [(h0, .inr (11, [.ref n0, .ref st, .ref la, .int 0, .int tm, .int 0, .int (-1), .int 0]))] s.heap := hP
  have hl := lv_entry ([.ref h0]) (n := 3) (Nat.le_of_ble_eq_true rfl)
  rw [lg_entry_eq]
  generalize (lg_sl ([.ref h0]) ++ List.replicate (3 - (lg_sl ([.ref h0])).length) Slot.unset).toArray = ls at hl ⊢
  have hl : lv_has ls 3 [(0, .ref h0)] := hl
  obtain ⟨H, hH⟩ : ∃ z : Heap, z = s.heap := ⟨_, rfl⟩
  rw [← hH]
  have hS : va_S A s.heap H [] := by rw [hH]; exact va_S.rf
  have hP : va_P (dC, dI) vwCl [(h0, .inr (11, [.ref n0, .ref st, .ref la, .int 0, .int tm, .int 0, .int (-1), .int 0]))] H := by rw [hH]; exact hP
  clear hH
  refine lv_iconst (v := 0) hx hb dX10_isDisturbed_0 (by decide) ?_
  refine lv_istore_n (lv' := [(1, .int 0), (0, .ref h0)]) hx hb dX10_isDisturbed_1 rfl hl (by decide) rfl (fun ls hl => ?_)
  refine lv_iload_n hx hb dX10_isDisturbed_2 rfl (lv_at hl 0 rfl) ?_
  refine lv_aload_n hx hb dX10_isDisturbed_3 rfl (lv_at hl 1 rfl) ?_
  refine va_get (D := (dC, dI)) (ci := 11) (v := .int 0) (C := RX10) (T := TX10) (N := 8) hx hb hts in_c_X10_isDisturbed_X10 hown hK hP 0 rfl rfl 3 (by decide) (hts (.fieldLink RX10 29 "ClaimBus" "nodeCount" "I") (List.mem_of_getElem? (i := 1) rfl)) (fun _ h9 => h9) rfl dX10_isDisturbed_4 ?_
  refine lv_icmp_ge (tgt := 35) hx hb dX10_isDisturbed_7 (by decide) (fun c_1 => ?_) (fun c_1 => ?_)
  rotate_left
  · exact absurd (by decide) c_1
  refine lv_aload_n hx hb dX10_isDisturbed_35 rfl (lv_at hl 1 rfl) ?_
  refine va_get (D := (dC, dI)) (ci := 11) (v := .int 0) (C := RX10) (T := TX10) (N := 8) hx hb hts in_c_X10_isDisturbed_X10 hown hK hP 0 rfl rfl 7 (by decide) (hts (.fieldLink RX10 42 "ClaimBus" "stopped" "Z") (List.mem_of_getElem? (i := 2) rfl)) (fun _ h9 => h9) rfl dX10_isDisturbed_36 ?_
  exact W.zret (v := 0) hx hb hr (by decide) (fun t ht hW => ⟨⟨0, (), rfl, rfl, trivial⟩, hS.F ht⟩) hS.2.2 dX10_isDisturbed_39

def v_c_X10_nodesWithAddress : List Cond := .code yX10_nodesWithAddress cX10_nodesWithAddress 4 (some .int) :: ([.fieldLink RX10 29 "ClaimBus" "nodeCount" "I"] ++ wsX100)
theorem in_c_X10_nodesWithAddress_X10 : ∀ w ∈ wsX100, w ∈ v_c_X10_nodesWithAddress := fun w h => List.mem_cons_of_mem _ (List.mem_append_right _ h)
set_option maxHeartbeats 4000000 in
set_option maxRecDepth 100000 in
theorem c_X10_nodesWithAddress (l : Launch) (dC : Nat → ClassId) (dI : Nat → Nat → Nat) (h0 : Nat) (n0 : Nat) (st : Nat) (la : Nat) (tm : Int32) (sz : Nat)  : Met l yX10_nodesWithAddress v_c_X10_nodesWithAddress ({ frames := 0, cells := 0, slots := 0, locals := 0 }) (va_Pc [.ref h0] (fun U => U.heap.size = sz ∧ va_P (dC, dI) vwCl [(h0, .inr (11, [.ref n0, .ref st, .ref la, .int 0, .int tm, .int 0, .int (-1), .int 0]))] U.heap ∧ va_K (dC, dI) vwCl [] U ∧ va_D (fun _ => True) [(h0, .inr (11, [.ref n0, .ref st, .ref la, .int 0, .int tm, .int 0, .int (-1), .int 0]))] ∧ ev U)) (va_Qi (fun (r : Int32) (_ : Unit) => r = 0) (fun (_ : Unit) (_ : State) => True) (va_A [] sz)) 0 0 (va_A [] sz) := by
  refine Met.ofW (cc := cX10_nodesWithAddress) (maxL := 4) (ret := (some .int)) (by decide) rfl ?_
  intro p e s m args below meth c s₁ B hml hv
  obtain ⟨rfl, hsz, hP, hK, hD0, hE⟩ := hv
  have hx := B.exec
  have hb := B.bytes
  have hr := B.returns
  have hts := atoms_spec (ws := v_c_X10_nodesWithAddress) B.pre
  have hown : s.vm.findClass RX10 = some m.cls := findClass_of_methodNamed B.named
  have hlocks := B.notSynchronized
  subst hsz
  have hD := hD0
  generalize hAe : va_A [] s.heap.size = A
  have hA : ∀ q : Nat, s.heap.size ≤ q → A q := fun q h => by rw [← hAe]; exact Or.inr h
  have hS : va_S A s.heap s.heap [] := va_S.rf
  have hP : va_P (dC, dI) vwCl [(h0, .inr (11, [.ref n0, .ref st, .ref la, .int 0, .int tm, .int 0, .int (-1), .int 0]))] s.heap := hP
  have hl := lv_entry ([.ref h0]) (n := 4) (Nat.le_of_ble_eq_true rfl)
  rw [lg_entry_eq]
  generalize (lg_sl ([.ref h0]) ++ List.replicate (4 - (lg_sl ([.ref h0])).length) Slot.unset).toArray = ls at hl ⊢
  have hl : lv_has ls 4 [(0, .ref h0)] := hl
  obtain ⟨H, hH⟩ : ∃ z : Heap, z = s.heap := ⟨_, rfl⟩
  rw [← hH]
  have hS : va_S A s.heap H [] := by rw [hH]; exact va_S.rf
  have hP : va_P (dC, dI) vwCl [(h0, .inr (11, [.ref n0, .ref st, .ref la, .int 0, .int tm, .int 0, .int (-1), .int 0]))] H := by rw [hH]; exact hP
  clear hH
  refine lv_iconst (v := 0) hx hb dX10_nodesWithAddress_0 (by decide) ?_
  refine lv_istore_n (lv' := [(1, .int 0), (0, .ref h0)]) hx hb dX10_nodesWithAddress_1 rfl hl (by decide) rfl (fun ls hl => ?_)
  refine lv_iconst (v := 0) hx hb dX10_nodesWithAddress_2 (by decide) ?_
  refine lv_istore_n (lv' := [(2, .int 0), (1, .int 0), (0, .ref h0)]) hx hb dX10_nodesWithAddress_3 rfl hl (by decide) rfl (fun ls hl => ?_)
  refine lv_iload_n hx hb dX10_nodesWithAddress_4 rfl (lv_at hl 0 rfl) ?_
  refine lv_aload_n hx hb dX10_nodesWithAddress_5 rfl (lv_at hl 2 rfl) ?_
  refine va_get (D := (dC, dI)) (ci := 11) (v := .int 0) (C := RX10) (T := TX10) (N := 8) hx hb hts in_c_X10_nodesWithAddress_X10 hown hK hP 0 rfl rfl 3 (by decide) (hts (.fieldLink RX10 29 "ClaimBus" "nodeCount" "I") (List.mem_of_getElem? (i := 1) rfl)) (fun _ h9 => h9) rfl dX10_nodesWithAddress_6 ?_
  refine lv_icmp_ge (tgt := 39) hx hb dX10_nodesWithAddress_9 (by decide) (fun c_1 => ?_) (fun c_1 => ?_)
  rotate_left
  · exact absurd (by decide) c_1
  refine lv_iload_n hx hb dX10_nodesWithAddress_39 rfl (lv_at hl 1 rfl) ?_
  exact W.iret (v := 0) hx hb hr (fun t ht hW => ⟨⟨0, (), rfl, rfl, trivial⟩, hS.F ht⟩) hS.2.2 dX10_nodesWithAddress_40

def v_c_X10_addressesAreApart : List Cond := .code yX10_addressesAreApart cX10_addressesAreApart 5 (some .boolean) :: ([.fieldLink RX10 29 "ClaimBus" "nodeCount" "I"] ++ wsX100)
theorem in_c_X10_addressesAreApart_X10 : ∀ w ∈ wsX100, w ∈ v_c_X10_addressesAreApart := fun w h => List.mem_cons_of_mem _ (List.mem_append_right _ h)
set_option maxHeartbeats 4000000 in
set_option maxRecDepth 100000 in
theorem c_X10_addressesAreApart (l : Launch) (dC : Nat → ClassId) (dI : Nat → Nat → Nat) (h0 : Nat) (n0 : Nat) (st : Nat) (la : Nat) (tm : Int32) (sz : Nat)  : Met l yX10_addressesAreApart v_c_X10_addressesAreApart ({ frames := 0, cells := 0, slots := 0, locals := 0 }) (va_Pc [.ref h0] (fun U => U.heap.size = sz ∧ va_P (dC, dI) vwCl [(h0, .inr (11, [.ref n0, .ref st, .ref la, .int 0, .int tm, .int 0, .int (-1), .int 0]))] U.heap ∧ va_K (dC, dI) vwCl [] U ∧ va_D (fun _ => True) [(h0, .inr (11, [.ref n0, .ref st, .ref la, .int 0, .int tm, .int 0, .int (-1), .int 0]))] ∧ ev U)) (va_Qi (fun (r : Int32) (_ : Unit) => r = 1) (fun (_ : Unit) (_ : State) => True) (va_A [] sz)) 0 0 (va_A [] sz) := by
  refine Met.ofW (cc := cX10_addressesAreApart) (maxL := 5) (ret := (some .boolean)) (by decide) rfl ?_
  intro p e s m args below meth c s₁ B hml hv
  obtain ⟨rfl, hsz, hP, hK, hD0, hE⟩ := hv
  have hx := B.exec
  have hb := B.bytes
  have hr := B.returns
  have hts := atoms_spec (ws := v_c_X10_addressesAreApart) B.pre
  have hown : s.vm.findClass RX10 = some m.cls := findClass_of_methodNamed B.named
  have hlocks := B.notSynchronized
  subst hsz
  have hD := hD0
  generalize hAe : va_A [] s.heap.size = A
  have hA : ∀ q : Nat, s.heap.size ≤ q → A q := fun q h => by rw [← hAe]; exact Or.inr h
  have hS : va_S A s.heap s.heap [] := va_S.rf
  have hP : va_P (dC, dI) vwCl [(h0, .inr (11, [.ref n0, .ref st, .ref la, .int 0, .int tm, .int 0, .int (-1), .int 0]))] s.heap := hP
  have hl := lv_entry ([.ref h0]) (n := 5) (Nat.le_of_ble_eq_true rfl)
  rw [lg_entry_eq]
  generalize (lg_sl ([.ref h0]) ++ List.replicate (5 - (lg_sl ([.ref h0])).length) Slot.unset).toArray = ls at hl ⊢
  have hl : lv_has ls 5 [(0, .ref h0)] := hl
  obtain ⟨H, hH⟩ : ∃ z : Heap, z = s.heap := ⟨_, rfl⟩
  rw [← hH]
  have hS : va_S A s.heap H [] := by rw [hH]; exact va_S.rf
  have hP : va_P (dC, dI) vwCl [(h0, .inr (11, [.ref n0, .ref st, .ref la, .int 0, .int tm, .int 0, .int (-1), .int 0]))] H := by rw [hH]; exact hP
  clear hH
  refine lv_iconst (v := 0) hx hb dX10_addressesAreApart_0 (by decide) ?_
  refine lv_istore_n (lv' := [(1, .int 0), (0, .ref h0)]) hx hb dX10_addressesAreApart_1 rfl hl (by decide) rfl (fun ls hl => ?_)
  refine lv_iload_n hx hb dX10_addressesAreApart_2 rfl (lv_at hl 0 rfl) ?_
  refine lv_aload_n hx hb dX10_addressesAreApart_3 rfl (lv_at hl 1 rfl) ?_
  refine va_get (D := (dC, dI)) (ci := 11) (v := .int 0) (C := RX10) (T := TX10) (N := 8) hx hb hts in_c_X10_addressesAreApart_X10 hown hK hP 0 rfl rfl 3 (by decide) (hts (.fieldLink RX10 29 "ClaimBus" "nodeCount" "I") (List.mem_of_getElem? (i := 1) rfl)) (fun _ h9 => h9) rfl dX10_addressesAreApart_4 ?_
  refine lv_icmp_ge (tgt := 62) hx hb dX10_addressesAreApart_7 (by decide) (fun c_1 => ?_) (fun c_1 => ?_)
  rotate_left
  · exact absurd (by decide) c_1
  refine lv_iconst (v := 1) hx hb dX10_addressesAreApart_62 (by decide) ?_
  exact W.zret (v := 1) hx hb hr (by decide) (fun t ht hW => ⟨⟨1, (), rfl, rfl, trivial⟩, hS.F ht⟩) hS.2.2 dX10_addressesAreApart_63

def v_c_X10_messagesAreTrue : List Cond := .code yX10_messagesAreTrue cX10_messagesAreTrue 3 (some .boolean) :: ([.fieldLink RX10 29 "ClaimBus" "nodeCount" "I"] ++ wsX100)
theorem in_c_X10_messagesAreTrue_X10 : ∀ w ∈ wsX100, w ∈ v_c_X10_messagesAreTrue := fun w h => List.mem_cons_of_mem _ (List.mem_append_right _ h)
set_option maxHeartbeats 4000000 in
set_option maxRecDepth 100000 in
theorem c_X10_messagesAreTrue (l : Launch) (dC : Nat → ClassId) (dI : Nat → Nat → Nat) (h0 : Nat) (n0 : Nat) (st : Nat) (la : Nat) (tm : Int32) (sz : Nat)  : Met l yX10_messagesAreTrue v_c_X10_messagesAreTrue ({ frames := 0, cells := 0, slots := 0, locals := 0 }) (va_Pc [.ref h0] (fun U => U.heap.size = sz ∧ va_P (dC, dI) vwCl [(h0, .inr (11, [.ref n0, .ref st, .ref la, .int 0, .int tm, .int 0, .int (-1), .int 0]))] U.heap ∧ va_K (dC, dI) vwCl [] U ∧ va_D (fun _ => True) [(h0, .inr (11, [.ref n0, .ref st, .ref la, .int 0, .int tm, .int 0, .int (-1), .int 0]))] ∧ ev U)) (va_Qi (fun (r : Int32) (_ : Unit) => r = 1) (fun (_ : Unit) (_ : State) => True) (va_A [] sz)) 0 0 (va_A [] sz) := by
  refine Met.ofW (cc := cX10_messagesAreTrue) (maxL := 3) (ret := (some .boolean)) (by decide) rfl ?_
  intro p e s m args below meth c s₁ B hml hv
  obtain ⟨rfl, hsz, hP, hK, hD0, hE⟩ := hv
  have hx := B.exec
  have hb := B.bytes
  have hr := B.returns
  have hts := atoms_spec (ws := v_c_X10_messagesAreTrue) B.pre
  have hown : s.vm.findClass RX10 = some m.cls := findClass_of_methodNamed B.named
  have hlocks := B.notSynchronized
  subst hsz
  have hD := hD0
  generalize hAe : va_A [] s.heap.size = A
  have hA : ∀ q : Nat, s.heap.size ≤ q → A q := fun q h => by rw [← hAe]; exact Or.inr h
  have hS : va_S A s.heap s.heap [] := va_S.rf
  have hP : va_P (dC, dI) vwCl [(h0, .inr (11, [.ref n0, .ref st, .ref la, .int 0, .int tm, .int 0, .int (-1), .int 0]))] s.heap := hP
  have hl := lv_entry ([.ref h0]) (n := 3) (Nat.le_of_ble_eq_true rfl)
  rw [lg_entry_eq]
  generalize (lg_sl ([.ref h0]) ++ List.replicate (3 - (lg_sl ([.ref h0])).length) Slot.unset).toArray = ls at hl ⊢
  have hl : lv_has ls 3 [(0, .ref h0)] := hl
  obtain ⟨H, hH⟩ : ∃ z : Heap, z = s.heap := ⟨_, rfl⟩
  rw [← hH]
  have hS : va_S A s.heap H [] := by rw [hH]; exact va_S.rf
  have hP : va_P (dC, dI) vwCl [(h0, .inr (11, [.ref n0, .ref st, .ref la, .int 0, .int tm, .int 0, .int (-1), .int 0]))] H := by rw [hH]; exact hP
  clear hH
  refine lv_iconst (v := 0) hx hb dX10_messagesAreTrue_0 (by decide) ?_
  refine lv_istore_n (lv' := [(1, .int 0), (0, .ref h0)]) hx hb dX10_messagesAreTrue_1 rfl hl (by decide) rfl (fun ls hl => ?_)
  refine lv_iload_n hx hb dX10_messagesAreTrue_2 rfl (lv_at hl 0 rfl) ?_
  refine lv_aload_n hx hb dX10_messagesAreTrue_3 rfl (lv_at hl 1 rfl) ?_
  refine va_get (D := (dC, dI)) (ci := 11) (v := .int 0) (C := RX10) (T := TX10) (N := 8) hx hb hts in_c_X10_messagesAreTrue_X10 hown hK hP 0 rfl rfl 3 (by decide) (hts (.fieldLink RX10 29 "ClaimBus" "nodeCount" "I") (List.mem_of_getElem? (i := 1) rfl)) (fun _ h9 => h9) rfl dX10_messagesAreTrue_4 ?_
  refine lv_icmp_ge (tgt := 38) hx hb dX10_messagesAreTrue_7 (by decide) (fun c_1 => ?_) (fun c_1 => ?_)
  rotate_left
  · exact absurd (by decide) c_1
  refine lv_iconst (v := 1) hx hb dX10_messagesAreTrue_38 (by decide) ?_
  exact W.zret (v := 1) hx hb hr (by decide) (fun t ht hW => ⟨⟨1, (), rfl, rfl, trivial⟩, hS.F ht⟩) hS.2.2 dX10_messagesAreTrue_39

def v_c_X10_sound : List Cond := .code yX10_sound cX10_sound 1 (some .boolean) :: ([.code yX10_isDisturbed cX10_isDisturbed 3 (some .boolean), .fieldLink RX10 29 "ClaimBus" "nodeCount" "I", .fieldLink RX10 42 "ClaimBus" "stopped" "Z", .initialized RX10, .methodLink RX10 180 yX10_isDisturbed, .instanceMethod yX10_isDisturbed, .selects RX10 yX10_isDisturbed yX10_isDisturbed, .code yX10_addressesAreApart cX10_addressesAreApart 5 (some .boolean), .methodLink RX10 183 yX10_addressesAreApart, .instanceMethod yX10_addressesAreApart, .selects RX10 yX10_addressesAreApart yX10_addressesAreApart, .code yX10_messagesAreTrue cX10_messagesAreTrue 3 (some .boolean), .methodLink RX10 186 yX10_messagesAreTrue, .instanceMethod yX10_messagesAreTrue, .selects RX10 yX10_messagesAreTrue yX10_messagesAreTrue] ++ wsX100)
theorem in_c_X10_sound_X10 : ∀ w ∈ wsX100, w ∈ v_c_X10_sound := fun w h => List.mem_cons_of_mem _ (List.mem_append_right _ h)
set_option maxRecDepth 20000 in
theorem g_c_X10_sound_c_X10_isDisturbed_180 : GoodIn v_c_X10_sound (wsV RX10 180 RX10 yX10_isDisturbed v_c_X10_isDisturbed) := goodIn_r _ [5, 6, 7, 4, 1, 2, 3, 16, 17, 18, 19, 20, 21, 22, 23] (by decide +kernel) (by decide +kernel)
set_option maxRecDepth 20000 in
theorem g_c_X10_sound_c_X10_addressesAreApart_183 : GoodIn v_c_X10_sound (wsV RX10 183 RX10 yX10_addressesAreApart v_c_X10_addressesAreApart) := goodIn_r _ [9, 10, 11, 4, 8, 2, 16, 17, 18, 19, 20, 21, 22, 23] (by decide +kernel) (by decide +kernel)
set_option maxRecDepth 20000 in
theorem g_c_X10_sound_c_X10_messagesAreTrue_186 : GoodIn v_c_X10_sound (wsV RX10 186 RX10 yX10_messagesAreTrue v_c_X10_messagesAreTrue) := goodIn_r _ [13, 14, 15, 4, 12, 2, 16, 17, 18, 19, 20, 21, 22, 23] (by decide +kernel) (by decide +kernel)
set_option maxHeartbeats 4000000 in
set_option maxRecDepth 100000 in
theorem c_X10_sound (l : Launch) (dC : Nat → ClassId) (dI : Nat → Nat → Nat) (h0 : Nat) (n0 : Nat) (st : Nat) (la : Nat) (tm : Int32) (sz : Nat)  : Met l yX10_sound v_c_X10_sound ({ frames := 1, cells := 0, slots := 0, locals := 24 }) (va_Pc [.ref h0] (fun U => U.heap.size = sz ∧ va_P (dC, dI) vwCl [(h0, .inr (11, [.ref n0, .ref st, .ref la, .int 0, .int tm, .int 0, .int (-1), .int 0]))] U.heap ∧ va_K (dC, dI) vwCl [] U ∧ va_D (fun _ => True) [(h0, .inr (11, [.ref n0, .ref st, .ref la, .int 0, .int tm, .int 0, .int (-1), .int 0]))] ∧ ev U)) (va_Qi (fun (r : Int32) (_ : Unit) => r = 1) (fun (_ : Unit) (_ : State) => True) (va_A [] sz)) 0 0 (va_A [] sz) := by
  refine Met.ofW (cc := cX10_sound) (maxL := 1) (ret := (some .boolean)) (by decide) rfl ?_
  intro p e s m args below meth c s₁ B hml hv
  obtain ⟨rfl, hsz, hP, hK, hD0, hE⟩ := hv
  have hx := B.exec
  have hb := B.bytes
  have hr := B.returns
  have hts := atoms_spec (ws := v_c_X10_sound) B.pre
  have hown : s.vm.findClass RX10 = some m.cls := findClass_of_methodNamed B.named
  have hlocks := B.notSynchronized
  subst hsz
  have hD := hD0
  generalize hAe : va_A [] s.heap.size = A
  have hA : ∀ q : Nat, s.heap.size ≤ q → A q := fun q h => by rw [← hAe]; exact Or.inr h
  have hS : va_S A s.heap s.heap [] := va_S.rf
  have hP : va_P (dC, dI) vwCl [(h0, .inr (11, [.ref n0, .ref st, .ref la, .int 0, .int tm, .int 0, .int (-1), .int 0]))] s.heap := hP
  have hl := lv_entry ([.ref h0]) (n := 1) (Nat.le_of_ble_eq_true rfl)
  rw [lg_entry_eq]
  generalize (lg_sl ([.ref h0]) ++ List.replicate (1 - (lg_sl ([.ref h0])).length) Slot.unset).toArray = ls at hl ⊢
  have hl : lv_has ls 1 [(0, .ref h0)] := hl
  obtain ⟨H, hH⟩ : ∃ z : Heap, z = s.heap := ⟨_, rfl⟩
  rw [← hH]
  have hS : va_S A s.heap H [] := by rw [hH]; exact va_S.rf
  have hP : va_P (dC, dI) vwCl [(h0, .inr (11, [.ref n0, .ref st, .ref la, .int 0, .int tm, .int 0, .int (-1), .int 0]))] H := by rw [hH]; exact hP
  clear hH
  refine lv_aload_n hx hb dX10_sound_0 rfl (lv_at hl 0 rfl) ?_
  have hPc := hP.sub (ws' := [(h0, .inr (11, [.ref n0, .ref st, .ref la, .int 0, .int tm, .int 0, .int (-1), .int 0]))]) [0] rfl
  have hDc := hD.sub (ws' := [(h0, .inr (11, [.ref n0, .ref st, .ref la, .int 0, .int tm, .int 0, .int (-1), .int 0]))]) [0] (by decide) rfl
  have hKc := hK.sub (tys' := []) [] rfl
  have hFc := ro_free hS hA
  refine va_calli (va_runV (As := []) (rest := []) ⟨hx, hb, hml, hown, hts⟩ (c_X10_isDisturbed l dC dI (h0) (n0) (st) (la) (tm) H.size) (cwV 0 hts g_c_X10_sound_c_X10_isDisturbed_180 rfl rfl rfl (by decide +kernel) ⟨Nat.le_of_ble_eq_true rfl, Nat.le_of_ble_eq_true rfl⟩) ⟨fun a U g mk q => by obtain ⟨q0, q1, qP, qK, qD, qE⟩ := q; exact ⟨q0, q1, qP, va_K.moved (u := U) (U := U.calling g mk a) (Vm.Alike.refl U.vm) qK, qD, ev.same (u := U) (U := U.calling g mk a) rfl qE⟩, va_recv hKc hPc (ci := 11) (q0 := 0) rfl rfl, fun U hU hW => ⟨rfl, by rw [hU], by rw [hU]; exact hPc, va_K.moved hW.alike hKc, hDc.weaken (fun _ _ _ _ => trivial), hE.warm hW⟩⟩ rfl rfl hl.1 rfl (lv_room (Nat.le_of_ble_eq_true rfl)) dX10_sound_1 ⟨Nat.le_of_ble_eq_true rfl, Nat.le_of_ble_eq_true rfl⟩) hS (fun q _ h => hFc q h) hFc (fun r_1 u t H1 locs ht hvm hw hB hz1 hk1 hS => ?_)
  clear hPc hDc hKc
  have hP := ro_keep hP hk1
  generalize H1 = H at hP hS ⊢
  have hP : va_P (dC, dI) vwCl [(h0, .inr (11, [.ref n0, .ref st, .ref la, .int 0, .int tm, .int 0, .int (-1), .int 0]))] H := hP
  have hw := hw.symm
  subst hw
  refine lv_if_ne (tgt := 21) hx hb dX10_sound_4 (by decide) (fun c_2 => ?_) (fun c_2 => ?_)
  · exact absurd c_2 (by decide)
  refine lv_aload_n hx hb dX10_sound_7 rfl (lv_at hl 0 rfl) ?_
  have hPc := hP.sub (ws' := [(h0, .inr (11, [.ref n0, .ref st, .ref la, .int 0, .int tm, .int 0, .int (-1), .int 0]))]) [0] rfl
  have hDc := hD.sub (ws' := [(h0, .inr (11, [.ref n0, .ref st, .ref la, .int 0, .int tm, .int 0, .int (-1), .int 0]))]) [0] (by decide) rfl
  have hKc := hK.sub (tys' := []) [] rfl
  have hFc := ro_free hS hA
  refine va_calli (va_runV (As := []) (rest := []) ⟨hx, hb, hml, hown, hts⟩ (c_X10_addressesAreApart l dC dI (h0) (n0) (st) (la) (tm) H.size) (cwV 0 hts g_c_X10_sound_c_X10_addressesAreApart_183 rfl rfl rfl (by decide +kernel) ⟨Nat.le_of_ble_eq_true rfl, Nat.le_of_ble_eq_true rfl⟩) ⟨fun a U g mk q => by obtain ⟨q0, q1, qP, qK, qD, qE⟩ := q; exact ⟨q0, q1, qP, va_K.moved (u := U) (U := U.calling g mk a) (Vm.Alike.refl U.vm) qK, qD, ev.same (u := U) (U := U.calling g mk a) rfl qE⟩, va_recv hKc hPc (ci := 11) (q0 := 0) rfl rfl, fun U hU hW => ⟨rfl, by rw [hU], by rw [hU]; exact hPc, va_K.moved hW.alike hKc, hDc.weaken (fun _ _ _ _ => trivial), hE.warm hW⟩⟩ rfl rfl hl.1 rfl (lv_room (Nat.le_of_ble_eq_true rfl)) dX10_sound_8 ⟨Nat.le_of_ble_eq_true rfl, Nat.le_of_ble_eq_true rfl⟩) hS (fun q _ h => hFc q h) hFc (fun r_3 u t H1 locs ht hvm hw hB hz1 hk1 hS => ?_)
  clear hPc hDc hKc
  have hP := ro_keep hP hk1
  generalize H1 = H at hP hS ⊢
  have hP : va_P (dC, dI) vwCl [(h0, .inr (11, [.ref n0, .ref st, .ref la, .int 0, .int tm, .int 0, .int (-1), .int 0]))] H := hP
  have hw := hw.symm
  subst hw
  refine lv_if_eq (tgt := 25) hx hb dX10_sound_11 (by decide) (fun c_4 => ?_) (fun c_4 => ?_)
  · exact absurd c_4 (by decide)
  refine lv_aload_n hx hb dX10_sound_14 rfl (lv_at hl 0 rfl) ?_
  have hPc := hP.sub (ws' := [(h0, .inr (11, [.ref n0, .ref st, .ref la, .int 0, .int tm, .int 0, .int (-1), .int 0]))]) [0] rfl
  have hDc := hD.sub (ws' := [(h0, .inr (11, [.ref n0, .ref st, .ref la, .int 0, .int tm, .int 0, .int (-1), .int 0]))]) [0] (by decide) rfl
  have hKc := hK.sub (tys' := []) [] rfl
  have hFc := ro_free hS hA
  refine va_calli (va_runV (As := []) (rest := []) ⟨hx, hb, hml, hown, hts⟩ (c_X10_messagesAreTrue l dC dI (h0) (n0) (st) (la) (tm) H.size) (cwV 0 hts g_c_X10_sound_c_X10_messagesAreTrue_186 rfl rfl rfl (by decide +kernel) ⟨Nat.le_of_ble_eq_true rfl, Nat.le_of_ble_eq_true rfl⟩) ⟨fun a U g mk q => by obtain ⟨q0, q1, qP, qK, qD, qE⟩ := q; exact ⟨q0, q1, qP, va_K.moved (u := U) (U := U.calling g mk a) (Vm.Alike.refl U.vm) qK, qD, ev.same (u := U) (U := U.calling g mk a) rfl qE⟩, va_recv hKc hPc (ci := 11) (q0 := 0) rfl rfl, fun U hU hW => ⟨rfl, by rw [hU], by rw [hU]; exact hPc, va_K.moved hW.alike hKc, hDc.weaken (fun _ _ _ _ => trivial), hE.warm hW⟩⟩ rfl rfl hl.1 rfl (lv_room (Nat.le_of_ble_eq_true rfl)) dX10_sound_15 ⟨Nat.le_of_ble_eq_true rfl, Nat.le_of_ble_eq_true rfl⟩) hS (fun q _ h => hFc q h) hFc (fun r_5 u t H1 locs ht hvm hw hB hz1 hk1 hS => ?_)
  clear hPc hDc hKc
  have hP := ro_keep hP hk1
  generalize H1 = H at hP hS ⊢
  have hP : va_P (dC, dI) vwCl [(h0, .inr (11, [.ref n0, .ref st, .ref la, .int 0, .int tm, .int 0, .int (-1), .int 0]))] H := hP
  have hw := hw.symm
  subst hw
  refine lv_if_eq (tgt := 25) hx hb dX10_sound_18 (by decide) (fun c_6 => ?_) (fun c_6 => ?_)
  · exact absurd c_6 (by decide)
  refine lv_iconst (v := 1) hx hb dX10_sound_21 (by decide) ?_
  refine lv_goto (tgt := 26) hx hb dX10_sound_22 (by decide) ?_
  exact W.zret (v := 1) hx hb hr (by decide) (fun t ht hW => ⟨⟨1, (), rfl, rfl, trivial⟩, hS.F ht⟩) hS.2.2 dX10_sound_26

def v_c_X10_count : List Cond := .code yX10_count cX10_count 2 (some .int) :: ([.fieldLink RX10 29 "ClaimBus" "nodeCount" "I", .fieldLink RX10 33 "ClaimBus" "time" "I", .fieldLink RX10 36 "ClaimBus" "framesCarried" "I", .code yX10_nodesWithAddress cX10_nodesWithAddress 4 (some .int), .initialized RX10, .methodLink RX10 189 yX10_nodesWithAddress, .instanceMethod yX10_nodesWithAddress, .selects RX10 yX10_nodesWithAddress yX10_nodesWithAddress] ++ wsX100)
theorem in_c_X10_count_X10 : ∀ w ∈ wsX100, w ∈ v_c_X10_count := fun w h => List.mem_cons_of_mem _ (List.mem_append_right _ h)
set_option maxRecDepth 20000 in
theorem g_c_X10_count_c_X10_nodesWithAddress_189 : GoodIn v_c_X10_count (wsV RX10 189 RX10 yX10_nodesWithAddress v_c_X10_nodesWithAddress) := goodIn_r _ [6, 7, 8, 5, 4, 1, 9, 10, 11, 12, 13, 14, 15, 16] (by decide +kernel) (by decide +kernel)
set_option maxHeartbeats 4000000 in
set_option maxRecDepth 100000 in
theorem c_X10_count (l : Launch) (dC : Nat → ClassId) (dI : Nat → Nat → Nat) (h0 : Nat) (n0 : Nat) (st : Nat) (la : Nat) (p0 : Int32) (sz : Nat)  : Met l yX10_count v_c_X10_count ({ frames := 1, cells := 0, slots := 0, locals := 23 }) (va_Pc [.ref h0, .int p0] (fun U => U.heap.size = sz ∧ va_P (dC, dI) vwCl [(h0, .inr (11, [.ref n0, .ref st, .ref la, .int 0, .int 0, .int 0, .int (-1), .int 0]))] U.heap ∧ va_K (dC, dI) vwCl [] U ∧ va_D (fun _ => True) [(h0, .inr (11, [.ref n0, .ref st, .ref la, .int 0, .int 0, .int 0, .int (-1), .int 0]))] ∧ ev U)) (va_Qi (fun (r : Int32) (_ : Unit) => r = if p0 = 0 ∨ p0 = 1 ∨ p0 = 2 ∨ p0 = 3 then 0 else (-1)) (fun (_ : Unit) (_ : State) => True) (va_A [] sz)) 0 0 (va_A [] sz) := by
  refine Met.ofW (cc := cX10_count) (maxL := 2) (ret := (some .int)) (by decide) rfl ?_
  intro p e s m args below meth c s₁ B hml hv
  obtain ⟨rfl, hsz, hP, hK, hD0, hE⟩ := hv
  have hx := B.exec
  have hb := B.bytes
  have hr := B.returns
  have hts := atoms_spec (ws := v_c_X10_count) B.pre
  have hown : s.vm.findClass RX10 = some m.cls := findClass_of_methodNamed B.named
  have hlocks := B.notSynchronized
  subst hsz
  have hD := hD0
  generalize hAe : va_A [] s.heap.size = A
  have hA : ∀ q : Nat, s.heap.size ≤ q → A q := fun q h => by rw [← hAe]; exact Or.inr h
  have hS : va_S A s.heap s.heap [] := va_S.rf
  have hP : va_P (dC, dI) vwCl [(h0, .inr (11, [.ref n0, .ref st, .ref la, .int 0, .int 0, .int 0, .int (-1), .int 0]))] s.heap := hP
  have hl := lv_entry ([.ref h0, .int p0]) (n := 2) (Nat.le_of_ble_eq_true rfl)
  rw [lg_entry_eq]
  generalize (lg_sl ([.ref h0, .int p0]) ++ List.replicate (2 - (lg_sl ([.ref h0, .int p0])).length) Slot.unset).toArray = ls at hl ⊢
  have hl : lv_has ls 2 [(0, .ref h0), (1, .int p0)] := hl
  obtain ⟨H, hH⟩ : ∃ z : Heap, z = s.heap := ⟨_, rfl⟩
  rw [← hH]
  have hS : va_S A s.heap H [] := by rw [hH]; exact va_S.rf
  have hP : va_P (dC, dI) vwCl [(h0, .inr (11, [.ref n0, .ref st, .ref la, .int 0, .int 0, .int 0, .int (-1), .int 0]))] H := by rw [hH]; exact hP
  clear hH
  refine lv_iload_n hx hb dX10_count_0 rfl (lv_at hl 1 rfl) ?_
  rcases (by omega : p0.toInt < 0 ∨ p0.toInt = 0 ∨ p0.toInt = 1 ∨ p0.toInt = 2 ∨ p0.toInt = 3 ∨ 3 < p0.toInt) with c_1 | c_1 | c_1 | c_1 | c_1 | c_1
  · refine lv_tableOut (tgt := 52) hx hb dX10_count_1 (Or.inl c_1) (by decide) ?_
    refine lv_iconst (v := -1) hx hb dX10_count_52 (by decide) ?_
    exact W.iret (v := (-1)) hx hb hr (fun t ht hW => ⟨⟨(-1), (), rfl, (by rw [if_neg]; rintro (rfl | rfl | rfl | rfl) <;> exact absurd c_1 (by decide)), trivial⟩, hS.F ht⟩) hS.2.2 dX10_count_53
  · obtain rfl : p0 = 0 := Int32.toInt_inj.mp (c_1.trans (by decide))
    refine lv_tableIn (tgt := 32) hx hb dX10_count_1 (by decide) (by decide) rfl (by decide) ?_
    refine lv_aload_n hx hb dX10_count_32 rfl (lv_at hl 0 rfl) ?_
    refine va_get (D := (dC, dI)) (ci := 11) (v := .int 0) (C := RX10) (T := TX10) (N := 8) hx hb hts in_c_X10_count_X10 hown hK hP 0 rfl rfl 3 (by decide) (hts (.fieldLink RX10 29 "ClaimBus" "nodeCount" "I") (List.mem_of_getElem? (i := 1) rfl)) (fun _ h9 => h9) rfl dX10_count_33 ?_
    exact W.iret (v := 0) hx hb hr (fun t ht hW => ⟨⟨0, (), rfl, (by decide), trivial⟩, hS.F ht⟩) hS.2.2 dX10_count_36
  · obtain rfl : p0 = 1 := Int32.toInt_inj.mp (c_1.trans (by decide))
    refine lv_tableIn (tgt := 37) hx hb dX10_count_1 (by decide) (by decide) rfl (by decide) ?_
    refine lv_aload_n hx hb dX10_count_37 rfl (lv_at hl 0 rfl) ?_
    refine va_get (D := (dC, dI)) (ci := 11) (v := .int 0) (C := RX10) (T := TX10) (N := 8) hx hb hts in_c_X10_count_X10 hown hK hP 0 rfl rfl 4 (by decide) (hts (.fieldLink RX10 33 "ClaimBus" "time" "I") (List.mem_of_getElem? (i := 2) rfl)) (fun _ h9 => h9) rfl dX10_count_38 ?_
    exact W.iret (v := 0) hx hb hr (fun t ht hW => ⟨⟨0, (), rfl, (by decide), trivial⟩, hS.F ht⟩) hS.2.2 dX10_count_41
  · obtain rfl : p0 = 2 := Int32.toInt_inj.mp (c_1.trans (by decide))
    refine lv_tableIn (tgt := 42) hx hb dX10_count_1 (by decide) (by decide) rfl (by decide) ?_
    refine lv_aload_n hx hb dX10_count_42 rfl (lv_at hl 0 rfl) ?_
    refine va_get (D := (dC, dI)) (ci := 11) (v := .int 0) (C := RX10) (T := TX10) (N := 8) hx hb hts in_c_X10_count_X10 hown hK hP 0 rfl rfl 5 (by decide) (hts (.fieldLink RX10 36 "ClaimBus" "framesCarried" "I") (List.mem_of_getElem? (i := 3) rfl)) (fun _ h9 => h9) rfl dX10_count_43 ?_
    exact W.iret (v := 0) hx hb hr (fun t ht hW => ⟨⟨0, (), rfl, (by decide), trivial⟩, hS.F ht⟩) hS.2.2 dX10_count_46
  · obtain rfl : p0 = 3 := Int32.toInt_inj.mp (c_1.trans (by decide))
    refine lv_tableIn (tgt := 47) hx hb dX10_count_1 (by decide) (by decide) rfl (by decide) ?_
    refine lv_aload_n hx hb dX10_count_47 rfl (lv_at hl 0 rfl) ?_
    have hPc := hP.sub (ws' := [(h0, .inr (11, [.ref n0, .ref st, .ref la, .int 0, .int 0, .int 0, .int (-1), .int 0]))]) [0] rfl
    have hDc := hD.sub (ws' := [(h0, .inr (11, [.ref n0, .ref st, .ref la, .int 0, .int 0, .int 0, .int (-1), .int 0]))]) [0] (by decide) rfl
    have hKc := hK.sub (tys' := []) [] rfl
    have hFc := ro_free hS hA
    refine va_calli (va_runV (As := []) (rest := []) ⟨hx, hb, hml, hown, hts⟩ (c_X10_nodesWithAddress l dC dI (h0) (n0) (st) (la) (0) H.size) (cwV 0 hts g_c_X10_count_c_X10_nodesWithAddress_189 rfl rfl rfl (by decide +kernel) ⟨Nat.le_of_ble_eq_true rfl, Nat.le_of_ble_eq_true rfl⟩) ⟨fun a U g mk q => by obtain ⟨q0, q1, qP, qK, qD, qE⟩ := q; exact ⟨q0, q1, qP, va_K.moved (u := U) (U := U.calling g mk a) (Vm.Alike.refl U.vm) qK, qD, ev.same (u := U) (U := U.calling g mk a) rfl qE⟩, va_recv hKc hPc (ci := 11) (q0 := 0) rfl rfl, fun U hU hW => ⟨rfl, by rw [hU], by rw [hU]; exact hPc, va_K.moved hW.alike hKc, hDc.weaken (fun _ _ _ _ => trivial), hE.warm hW⟩⟩ rfl rfl hl.1 rfl (lv_room (Nat.le_of_ble_eq_true rfl)) dX10_count_48 ⟨Nat.le_of_ble_eq_true rfl, Nat.le_of_ble_eq_true rfl⟩) hS (fun q _ h => hFc q h) hFc (fun r_2 u t H1 locs ht hvm hw hB hz1 hk1 hS => ?_)
    clear hPc hDc hKc
    have hP := ro_keep hP hk1
    generalize H1 = H at hP hS ⊢
    have hP : va_P (dC, dI) vwCl [(h0, .inr (11, [.ref n0, .ref st, .ref la, .int 0, .int 0, .int 0, .int (-1), .int 0]))] H := hP
    have hw := hw.symm
    subst hw
    exact W.iret (v := 0) hx hb hr (fun t ht hW => ⟨⟨0, (), rfl, (by decide), trivial⟩, hS.F ht⟩) hS.2.2 dX10_count_51
  · refine lv_tableOut (tgt := 52) hx hb dX10_count_1 (Or.inr c_1) (by decide) ?_
    refine lv_iconst (v := -1) hx hb dX10_count_52 (by decide) ?_
    exact W.iret (v := (-1)) hx hb hr (fun t ht hW => ⟨⟨(-1), (), rfl, (by rw [if_neg]; rintro (rfl | rfl | rfl | rfl) <;> exact absurd c_1 (by decide)), trivial⟩, hS.F ht⟩) hS.2.2 dX10_count_53

def v_c_X10_nextMoment : List Cond := .code yX10_nextMoment cX10_nextMoment 5 (some .int) :: ([.fieldLink RX10 29 "ClaimBus" "nodeCount" "I", .fieldLink RX10 33 "ClaimBus" "time" "I", .methodLink RX10 207 Lib.Math.max.name, .static Lib.Math.max.name, .initialized "java/lang/Math", .code Lib.Math.max.name Lib.Math.max.code 2 (some .int)] ++ wsX100)
theorem in_c_X10_nextMoment_X10 : ∀ w ∈ wsX100, w ∈ v_c_X10_nextMoment := fun w h => List.mem_cons_of_mem _ (List.mem_append_right _ h)
set_option maxHeartbeats 4000000 in
set_option maxRecDepth 100000 in
theorem c_X10_nextMoment (l : Launch) (dC : Nat → ClassId) (dI : Nat → Nat → Nat) (h0 : Nat) (n0 : Nat) (st : Nat) (la : Nat) (p0 : Int32) (sz : Nat) (h1 : ¬ p0 < 1) : Met l yX10_nextMoment v_c_X10_nextMoment ({ frames := 1, cells := 0, slots := 0, locals := 13 }) (va_Pc [.ref h0, .int p0] (fun U => U.heap.size = sz ∧ va_P (dC, dI) vwCl [(h0, .inr (11, [.ref n0, .ref st, .ref la, .int 0, .int 0, .int 0, .int (-1), .int 0]))] U.heap ∧ va_K (dC, dI) vwCl [] U ∧ va_D (fun _ => True) [(h0, .inr (11, [.ref n0, .ref st, .ref la, .int 0, .int 0, .int 0, .int (-1), .int 0]))] ∧ ev U)) (va_Qi (fun (r : Int32) (_ : Unit) => r = p0) (fun (_ : Unit) (_ : State) => True) (va_A [] sz)) 0 0 (va_A [] sz) := by
  refine Met.ofW (cc := cX10_nextMoment) (maxL := 5) (ret := (some .int)) (by decide) rfl ?_
  intro p e s m args below meth c s₁ B hml hv
  obtain ⟨rfl, hsz, hP, hK, hD0, hE⟩ := hv
  have hx := B.exec
  have hb := B.bytes
  have hr := B.returns
  have hts := atoms_spec (ws := v_c_X10_nextMoment) B.pre
  have hown : s.vm.findClass RX10 = some m.cls := findClass_of_methodNamed B.named
  have hlocks := B.notSynchronized
  subst hsz
  have hD := hD0
  generalize hAe : va_A [] s.heap.size = A
  have hA : ∀ q : Nat, s.heap.size ≤ q → A q := fun q h => by rw [← hAe]; exact Or.inr h
  have hS : va_S A s.heap s.heap [] := va_S.rf
  have hP : va_P (dC, dI) vwCl [(h0, .inr (11, [.ref n0, .ref st, .ref la, .int 0, .int 0, .int 0, .int (-1), .int 0]))] s.heap := hP
  have hl := lv_entry ([.ref h0, .int p0]) (n := 5) (Nat.le_of_ble_eq_true rfl)
  rw [lg_entry_eq]
  generalize (lg_sl ([.ref h0, .int p0]) ++ List.replicate (5 - (lg_sl ([.ref h0, .int p0])).length) Slot.unset).toArray = ls at hl ⊢
  have hl : lv_has ls 5 [(0, .ref h0), (1, .int p0)] := hl
  obtain ⟨H, hH⟩ : ∃ z : Heap, z = s.heap := ⟨_, rfl⟩
  rw [← hH]
  have hS : va_S A s.heap H [] := by rw [hH]; exact va_S.rf
  have hP : va_P (dC, dI) vwCl [(h0, .inr (11, [.ref n0, .ref st, .ref la, .int 0, .int 0, .int 0, .int (-1), .int 0]))] H := by rw [hH]; exact hP
  clear hH
  refine lv_iload_n hx hb dX10_nextMoment_0 rfl (lv_at hl 1 rfl) ?_
  refine lv_istore_n (lv' := [(2, .int p0), (0, .ref h0), (1, .int p0)]) hx hb dX10_nextMoment_1 rfl hl (by decide) rfl (fun ls hl => ?_)
  refine lv_iconst (v := 0) hx hb dX10_nextMoment_2 (by decide) ?_
  refine lv_istore_n (lv' := [(3, .int 0), (2, .int p0), (0, .ref h0), (1, .int p0)]) hx hb dX10_nextMoment_3 rfl hl (by decide) rfl (fun ls hl => ?_)
  refine lv_iload_n hx hb dX10_nextMoment_4 rfl (lv_at hl 0 rfl) ?_
  refine lv_aload_n hx hb dX10_nextMoment_5 rfl (lv_at hl 2 rfl) ?_
  refine va_get (D := (dC, dI)) (ci := 11) (v := .int 0) (C := RX10) (T := TX10) (N := 8) hx hb hts in_c_X10_nextMoment_X10 hown hK hP 0 rfl rfl 3 (by decide) (hts (.fieldLink RX10 29 "ClaimBus" "nodeCount" "I") (List.mem_of_getElem? (i := 1) rfl)) (fun _ h9 => h9) rfl dX10_nextMoment_6 ?_
  refine lv_icmp_ge (tgt := 63) hx hb dX10_nextMoment_9 (by decide) (fun c_1 => ?_) (fun c_1 => ?_)
  rotate_left
  · exact absurd (by decide) c_1
  refine lv_aload_n hx hb dX10_nextMoment_63 rfl (lv_at hl 2 rfl) ?_
  refine va_get (D := (dC, dI)) (ci := 11) (v := .int 0) (C := RX10) (T := TX10) (N := 8) hx hb hts in_c_X10_nextMoment_X10 hown hK hP 0 rfl rfl 4 (by decide) (hts (.fieldLink RX10 33 "ClaimBus" "time" "I") (List.mem_of_getElem? (i := 2) rfl)) (fun _ h9 => h9) rfl dX10_nextMoment_64 ?_
  refine lv_iconst (v := 1) hx hb dX10_nextMoment_67 (by decide) ?_
  refine lv_iadd hx hb dX10_nextMoment_68 ?_
  refine lv_topi (fun x_2 ex_2 => ?_)
  obtain rfl : x_2 = 1 := ex_2.trans (by decide)
  refine lv_iload_n hx hb dX10_nextMoment_69 rfl (lv_at hl 1 rfl) ?_
  refine va_mmax hx hb (by rw [hml]; exact hl.1.symm) hown (hts (.methodLink RX10 207 Lib.Math.max.name) (List.mem_of_getElem? (i := 3) rfl)) (hts (.static Lib.Math.max.name) (List.mem_of_getElem? (i := 4) rfl)) (hts (.initialized "java/lang/Math") (List.mem_of_getElem? (i := 5) rfl)) (hts (.code Lib.Math.max.name Lib.Math.max.code 2 (some .int)) (List.mem_of_getElem? (i := 6) rfl)) (Nat.le_of_ble_eq_true rfl) (Nat.le_of_ble_eq_true rfl) (Nat.zero_le _) (Nat.zero_le _) dX10_nextMoment_70 ?_
  refine lv_topi (fun x_3 ex_3 => ?_)
  exact W.iret (v := x_3) hx hb hr (fun t ht hW => ⟨⟨x_3, (), rfl, (by rw [ex_3]; exact (Decidable.em ((1 : Int32) < p0)).elim (fun h => if_pos h) (fun h => (if_neg h).trans (Int32.le_antisymm (Int32.not_lt.mp h1) (Int32.not_lt.mp h)))), trivial⟩, hS.F ht⟩) hS.2.2 dX10_nextMoment_73

def v_c_X10_runTimers : List Cond := .code yX10_runTimers cX10_runTimers 3 none :: ([.fieldLink RX10 29 "ClaimBus" "nodeCount" "I"] ++ wsX100)
theorem in_c_X10_runTimers_X10 : ∀ w ∈ wsX100, w ∈ v_c_X10_runTimers := fun w h => List.mem_cons_of_mem _ (List.mem_append_right _ h)
set_option maxHeartbeats 4000000 in
set_option maxRecDepth 100000 in
theorem c_X10_runTimers (l : Launch) (dC : Nat → ClassId) (dI : Nat → Nat → Nat) (h0 : Nat) (n0 : Nat) (st : Nat) (la : Nat) (tm : Int32) (sz : Nat)  : Met l yX10_runTimers v_c_X10_runTimers ({ frames := 0, cells := 0, slots := 0, locals := 0 }) (va_Pc [.ref h0] (fun U => U.heap.size = sz ∧ va_P (dC, dI) vwCl [(h0, .inr (11, [.ref n0, .ref st, .ref la, .int 0, .int tm, .int 0, .int (-1), .int 0]))] U.heap ∧ va_K (dC, dI) vwCl [] U ∧ va_D (fun _ => True) [(h0, .inr (11, [.ref n0, .ref st, .ref la, .int 0, .int tm, .int 0, .int (-1), .int 0]))] ∧ ev U)) (va_Qv (fun _ : Unit => True) (fun (_ : Unit) (_ : State) => True) (va_A [] sz)) 0 0 (va_A [] sz) := by
  refine Met.ofW (cc := cX10_runTimers) (maxL := 3) (ret := none) (by decide) rfl ?_
  intro p e s m args below meth c s₁ B hml hv
  obtain ⟨rfl, hsz, hP, hK, hD0, hE⟩ := hv
  have hx := B.exec
  have hb := B.bytes
  have hr := B.returns
  have hts := atoms_spec (ws := v_c_X10_runTimers) B.pre
  have hown : s.vm.findClass RX10 = some m.cls := findClass_of_methodNamed B.named
  have hlocks := B.notSynchronized
  subst hsz
  have hD := hD0
  generalize hAe : va_A [] s.heap.size = A
  have hA : ∀ q : Nat, s.heap.size ≤ q → A q := fun q h => by rw [← hAe]; exact Or.inr h
  have hS : va_S A s.heap s.heap [] := va_S.rf
  have hP : va_P (dC, dI) vwCl [(h0, .inr (11, [.ref n0, .ref st, .ref la, .int 0, .int tm, .int 0, .int (-1), .int 0]))] s.heap := hP
  have hl := lv_entry ([.ref h0]) (n := 3) (Nat.le_of_ble_eq_true rfl)
  rw [lg_entry_eq]
  generalize (lg_sl ([.ref h0]) ++ List.replicate (3 - (lg_sl ([.ref h0])).length) Slot.unset).toArray = ls at hl ⊢
  have hl : lv_has ls 3 [(0, .ref h0)] := hl
  obtain ⟨H, hH⟩ : ∃ z : Heap, z = s.heap := ⟨_, rfl⟩
  rw [← hH]
  have hS : va_S A s.heap H [] := by rw [hH]; exact va_S.rf
  have hP : va_P (dC, dI) vwCl [(h0, .inr (11, [.ref n0, .ref st, .ref la, .int 0, .int tm, .int 0, .int (-1), .int 0]))] H := by rw [hH]; exact hP
  clear hH
  refine lv_iconst (v := 0) hx hb dX10_runTimers_0 (by decide) ?_
  refine lv_istore_n (lv' := [(1, .int 0), (0, .ref h0)]) hx hb dX10_runTimers_1 rfl hl (by decide) rfl (fun ls hl => ?_)
  refine lv_iload_n hx hb dX10_runTimers_2 rfl (lv_at hl 0 rfl) ?_
  refine lv_aload_n hx hb dX10_runTimers_3 rfl (lv_at hl 1 rfl) ?_
  refine va_get (D := (dC, dI)) (ci := 11) (v := .int 0) (C := RX10) (T := TX10) (N := 8) hx hb hts in_c_X10_runTimers_X10 hown hK hP 0 rfl rfl 3 (by decide) (hts (.fieldLink RX10 29 "ClaimBus" "nodeCount" "I") (List.mem_of_getElem? (i := 1) rfl)) (fun _ h9 => h9) rfl dX10_runTimers_4 ?_
  refine lv_icmp_ge (tgt := 34) hx hb dX10_runTimers_7 (by decide) (fun c_1 => ?_) (fun c_1 => ?_)
  rotate_left
  · exact absurd (by decide) c_1
  exact W.vret hx hb hr (fun t ht hW => ⟨⟨(), rfl, trivial, trivial⟩, hS.F ht⟩) hS.2.2 dX10_runTimers_34

def v_c_X10_firstToSend : List Cond := .code yX10_firstToSend cX10_firstToSend 6 (some .int) :: ([.fieldLink RX10 29 "ClaimBus" "nodeCount" "I"] ++ wsX100)
theorem in_c_X10_firstToSend_X10 : ∀ w ∈ wsX100, w ∈ v_c_X10_firstToSend := fun w h => List.mem_cons_of_mem _ (List.mem_append_right _ h)
set_option maxHeartbeats 4000000 in
set_option maxRecDepth 100000 in
theorem c_X10_firstToSend (l : Launch) (dC : Nat → ClassId) (dI : Nat → Nat → Nat) (h0 : Nat) (n0 : Nat) (st : Nat) (la : Nat) (tm : Int32) (sz : Nat)  : Met l yX10_firstToSend v_c_X10_firstToSend ({ frames := 0, cells := 0, slots := 0, locals := 0 }) (va_Pc [.ref h0] (fun U => U.heap.size = sz ∧ va_P (dC, dI) vwCl [(h0, .inr (11, [.ref n0, .ref st, .ref la, .int 0, .int tm, .int 0, .int (-1), .int 0]))] U.heap ∧ va_K (dC, dI) vwCl [] U ∧ va_D (fun _ => True) [(h0, .inr (11, [.ref n0, .ref st, .ref la, .int 0, .int tm, .int 0, .int (-1), .int 0]))] ∧ ev U)) (va_Qi (fun (r : Int32) (_ : Unit) => r = (-1)) (fun (_ : Unit) (_ : State) => True) (va_A [] sz)) 0 0 (va_A [] sz) := by
  refine Met.ofW (cc := cX10_firstToSend) (maxL := 6) (ret := (some .int)) (by decide) rfl ?_
  intro p e s m args below meth c s₁ B hml hv
  obtain ⟨rfl, hsz, hP, hK, hD0, hE⟩ := hv
  have hx := B.exec
  have hb := B.bytes
  have hr := B.returns
  have hts := atoms_spec (ws := v_c_X10_firstToSend) B.pre
  have hown : s.vm.findClass RX10 = some m.cls := findClass_of_methodNamed B.named
  have hlocks := B.notSynchronized
  subst hsz
  have hD := hD0
  generalize hAe : va_A [] s.heap.size = A
  have hA : ∀ q : Nat, s.heap.size ≤ q → A q := fun q h => by rw [← hAe]; exact Or.inr h
  have hS : va_S A s.heap s.heap [] := va_S.rf
  have hP : va_P (dC, dI) vwCl [(h0, .inr (11, [.ref n0, .ref st, .ref la, .int 0, .int tm, .int 0, .int (-1), .int 0]))] s.heap := hP
  have hl := lv_entry ([.ref h0]) (n := 6) (Nat.le_of_ble_eq_true rfl)
  rw [lg_entry_eq]
  generalize (lg_sl ([.ref h0]) ++ List.replicate (6 - (lg_sl ([.ref h0])).length) Slot.unset).toArray = ls at hl ⊢
  have hl : lv_has ls 6 [(0, .ref h0)] := hl
  obtain ⟨H, hH⟩ : ∃ z : Heap, z = s.heap := ⟨_, rfl⟩
  rw [← hH]
  have hS : va_S A s.heap H [] := by rw [hH]; exact va_S.rf
  have hP : va_P (dC, dI) vwCl [(h0, .inr (11, [.ref n0, .ref st, .ref la, .int 0, .int tm, .int 0, .int (-1), .int 0]))] H := by rw [hH]; exact hP
  clear hH
  refine lv_iconst (v := -1) hx hb dX10_firstToSend_0 (by decide) ?_
  refine lv_istore_n (lv' := [(1, .int (-1)), (0, .ref h0)]) hx hb dX10_firstToSend_1 rfl hl (by decide) rfl (fun ls hl => ?_)
  refine lv_null hx hb dX10_firstToSend_2 ?_
  refine lv_astore_nN (lv' := [(2, .null), (1, .int (-1)), (0, .ref h0)]) hx hb dX10_firstToSend_3 rfl hl (by decide) rfl (fun ls hl => ?_)
  refine lv_iconst (v := 0) hx hb dX10_firstToSend_4 (by decide) ?_
  refine lv_istore_n (lv' := [(3, .int 0), (2, .null), (1, .int (-1)), (0, .ref h0)]) hx hb dX10_firstToSend_5 rfl hl (by decide) rfl (fun ls hl => ?_)
  refine lv_iload_n hx hb dX10_firstToSend_6 rfl (lv_at hl 0 rfl) ?_
  refine lv_aload_n hx hb dX10_firstToSend_7 rfl (lv_at hl 3 rfl) ?_
  refine va_get (D := (dC, dI)) (ci := 11) (v := .int 0) (C := RX10) (T := TX10) (N := 8) hx hb hts in_c_X10_firstToSend_X10 hown hK hP 0 rfl rfl 3 (by decide) (hts (.fieldLink RX10 29 "ClaimBus" "nodeCount" "I") (List.mem_of_getElem? (i := 1) rfl)) (fun _ h9 => h9) rfl dX10_firstToSend_8 ?_
  refine lv_icmp_ge (tgt := 74) hx hb dX10_firstToSend_11 (by decide) (fun c_1 => ?_) (fun c_1 => ?_)
  rotate_left
  · exact absurd (by decide) c_1
  refine lv_aload_nN hx hb dX10_firstToSend_74 rfl (lv_at hl 1 rfl) ?_
  refine lv_ifnullN (tgt := 86) hx hb dX10_firstToSend_75 (by decide) ?_
  refine lv_iload_n hx hb dX10_firstToSend_86 rfl (lv_at hl 2 rfl) ?_
  exact W.iret (v := (-1)) hx hb hr (fun t ht hW => ⟨⟨(-1), (), rfl, rfl, trivial⟩, hS.F ht⟩) hS.2.2 dX10_firstToSend_87

def v_c_X10_carryFrame : List Cond := .code yX10_carryFrame cX10_carryFrame 5 none :: ([.code yX10_firstToSend cX10_firstToSend 6 (some .int), .fieldLink RX10 29 "ClaimBus" "nodeCount" "I", .initialized RX10, .methodLink RX10 212 yX10_firstToSend, .instanceMethod yX10_firstToSend, .selects RX10 yX10_firstToSend yX10_firstToSend, .code yX10_find cX10_find 2 (some (.object "ClaimBus$Node")), .methodLink RX10 53 yX10_find, .instanceMethod yX10_find, .selects RX10 yX10_find yX10_find] ++ wsX100)
theorem in_c_X10_carryFrame_X10 : ∀ w ∈ wsX100, w ∈ v_c_X10_carryFrame := fun w h => List.mem_cons_of_mem _ (List.mem_append_right _ h)
set_option maxRecDepth 20000 in
theorem g_c_X10_carryFrame_c_X10_firstToSend_212 : GoodIn v_c_X10_carryFrame (wsV RX10 212 RX10 yX10_firstToSend v_c_X10_firstToSend) := goodIn_r _ [4, 5, 6, 3, 1, 2, 11, 12, 13, 14, 15, 16, 17, 18] (by decide +kernel) (by decide +kernel)
set_option maxRecDepth 20000 in
theorem g_c_X10_carryFrame_c_X10_find_53 : GoodIn v_c_X10_carryFrame (wsV RX10 53 RX10 yX10_find v_c_X10_find) := goodIn_r _ [8, 9, 10, 3, 7, 2, 11, 12, 13, 14, 15, 16, 17, 18] (by decide +kernel) (by decide +kernel)
set_option maxHeartbeats 4000000 in
set_option maxRecDepth 100000 in
theorem c_X10_carryFrame (l : Launch) (dC : Nat → ClassId) (dI : Nat → Nat → Nat) (h0 : Nat) (n0 : Nat) (st : Nat) (la : Nat) (tm : Int32) (sz : Nat)  : Met l yX10_carryFrame v_c_X10_carryFrame ({ frames := 1, cells := 0, slots := 0, locals := 25 }) (va_Pc [.ref h0] (fun U => U.heap.size = sz ∧ va_P (dC, dI) vwCl [(h0, .inr (11, [.ref n0, .ref st, .ref la, .int 0, .int tm, .int 0, .int (-1), .int 0]))] U.heap ∧ va_K (dC, dI) vwCl [] U ∧ va_D (fun _ => True) [(h0, .inr (11, [.ref n0, .ref st, .ref la, .int 0, .int tm, .int 0, .int (-1), .int 0]))] ∧ ev U)) (va_Qv (fun _ : Unit => True) (fun (_ : Unit) (_ : State) => True) (va_A [] sz)) 0 0 (va_A [] sz) := by
  refine Met.ofW (cc := cX10_carryFrame) (maxL := 5) (ret := none) (by decide) rfl ?_
  intro p e s m args below meth c s₁ B hml hv
  obtain ⟨rfl, hsz, hP, hK, hD0, hE⟩ := hv
  have hx := B.exec
  have hb := B.bytes
  have hr := B.returns
  have hts := atoms_spec (ws := v_c_X10_carryFrame) B.pre
  have hown : s.vm.findClass RX10 = some m.cls := findClass_of_methodNamed B.named
  have hlocks := B.notSynchronized
  subst hsz
  have hD := hD0
  generalize hAe : va_A [] s.heap.size = A
  have hA : ∀ q : Nat, s.heap.size ≤ q → A q := fun q h => by rw [← hAe]; exact Or.inr h
  have hS : va_S A s.heap s.heap [] := va_S.rf
  have hP : va_P (dC, dI) vwCl [(h0, .inr (11, [.ref n0, .ref st, .ref la, .int 0, .int tm, .int 0, .int (-1), .int 0]))] s.heap := hP
  have hl := lv_entry ([.ref h0]) (n := 5) (Nat.le_of_ble_eq_true rfl)
  rw [lg_entry_eq]
  generalize (lg_sl ([.ref h0]) ++ List.replicate (5 - (lg_sl ([.ref h0])).length) Slot.unset).toArray = ls at hl ⊢
  have hl : lv_has ls 5 [(0, .ref h0)] := hl
  obtain ⟨H, hH⟩ : ∃ z : Heap, z = s.heap := ⟨_, rfl⟩
  rw [← hH]
  have hS : va_S A s.heap H [] := by rw [hH]; exact va_S.rf
  have hP : va_P (dC, dI) vwCl [(h0, .inr (11, [.ref n0, .ref st, .ref la, .int 0, .int tm, .int 0, .int (-1), .int 0]))] H := by rw [hH]; exact hP
  clear hH
  refine lv_aload_n hx hb dX10_carryFrame_0 rfl (lv_at hl 0 rfl) ?_
  have hPc := hP.sub (ws' := [(h0, .inr (11, [.ref n0, .ref st, .ref la, .int 0, .int tm, .int 0, .int (-1), .int 0]))]) [0] rfl
  have hDc := hD.sub (ws' := [(h0, .inr (11, [.ref n0, .ref st, .ref la, .int 0, .int tm, .int 0, .int (-1), .int 0]))]) [0] (by decide) rfl
  have hKc := hK.sub (tys' := []) [] rfl
  have hFc := ro_free hS hA
  refine va_calli (va_runV (As := []) (rest := []) ⟨hx, hb, hml, hown, hts⟩ (c_X10_firstToSend l dC dI (h0) (n0) (st) (la) (tm) H.size) (cwV 0 hts g_c_X10_carryFrame_c_X10_firstToSend_212 rfl rfl rfl (by decide +kernel) ⟨Nat.le_of_ble_eq_true rfl, Nat.le_of_ble_eq_true rfl⟩) ⟨fun a U g mk q => by obtain ⟨q0, q1, qP, qK, qD, qE⟩ := q; exact ⟨q0, q1, qP, va_K.moved (u := U) (U := U.calling g mk a) (Vm.Alike.refl U.vm) qK, qD, ev.same (u := U) (U := U.calling g mk a) rfl qE⟩, va_recv hKc hPc (ci := 11) (q0 := 0) rfl rfl, fun U hU hW => ⟨rfl, by rw [hU], by rw [hU]; exact hPc, va_K.moved hW.alike hKc, hDc.weaken (fun _ _ _ _ => trivial), hE.warm hW⟩⟩ rfl rfl hl.1 rfl (lv_room (Nat.le_of_ble_eq_true rfl)) dX10_carryFrame_1 ⟨Nat.le_of_ble_eq_true rfl, Nat.le_of_ble_eq_true rfl⟩) hS (fun q _ h => hFc q h) hFc (fun r_1 u t H1 locs ht hvm hw hB hz1 hk1 hS => ?_)
  clear hPc hDc hKc
  have hP := ro_keep hP hk1
  generalize H1 = H at hP hS ⊢
  have hP : va_P (dC, dI) vwCl [(h0, .inr (11, [.ref n0, .ref st, .ref la, .int 0, .int tm, .int 0, .int (-1), .int 0]))] H := hP
  have hw := hw.symm
  subst hw
  refine lv_istore_n (lv' := [(1, .int (-1)), (0, .ref h0)]) hx hb dX10_carryFrame_4 rfl hl (by decide) rfl (fun ls hl => ?_)
  refine lv_aload_n hx hb dX10_carryFrame_5 rfl (lv_at hl 1 rfl) ?_
  refine lv_iload_n hx hb dX10_carryFrame_6 rfl (lv_at hl 0 rfl) ?_
  have hPc := hP.sub (ws' := [(h0, .inr (11, [.ref n0, .ref st, .ref la, .int 0, .int tm, .int 0, .int (-1), .int 0]))]) [0] rfl
  have hDc := hD.sub (ws' := [(h0, .inr (11, [.ref n0, .ref st, .ref la, .int 0, .int tm, .int 0, .int (-1), .int 0]))]) [0] (by decide) rfl
  have hKc := hK.sub (tys' := []) [] rfl
  have hFc := ro_free hS hA
  refine va_callq (va_runV (As := [.int (-1)]) (rest := []) ⟨hx, hb, hml, hown, hts⟩ (c_X10_find l dC dI (h0) (n0) (st) (la) (tm) ((-1)) H.size) (cwV 1 hts g_c_X10_carryFrame_c_X10_find_53 rfl rfl rfl (by decide +kernel) ⟨Nat.le_of_ble_eq_true rfl, Nat.le_of_ble_eq_true rfl⟩) ⟨fun a U g mk q => by obtain ⟨q0, q1, qP, qK, qD, qE⟩ := q; exact ⟨q0, q1, qP, va_K.moved (u := U) (U := U.calling g mk a) (Vm.Alike.refl U.vm) qK, qD, ev.same (u := U) (U := U.calling g mk a) rfl qE⟩, va_recv hKc hPc (ci := 11) (q0 := 0) rfl rfl, fun U hU hW => ⟨rfl, by rw [hU], by rw [hU]; exact hPc, va_K.moved hW.alike hKc, hDc.weaken (fun _ _ _ _ => trivial), hE.warm hW⟩⟩ rfl rfl hl.1 rfl (lv_room (Nat.le_of_ble_eq_true rfl)) dX10_carryFrame_7 ⟨Nat.le_of_ble_eq_true rfl, Nat.le_of_ble_eq_true rfl⟩) hS (fun q _ h => hFc q h) hFc (fun r_2 u t H1 locs ht hvm hw hB hz1 hk1 hS => ?_)
  clear hPc hDc hKc
  have hP := ro_keep hP hk1
  generalize H1 = H at hP hS ⊢
  have hP : va_P (dC, dI) vwCl [(h0, .inr (11, [.ref n0, .ref st, .ref la, .int 0, .int tm, .int 0, .int (-1), .int 0]))] H := hP
  obtain rfl : r_2 = none := hw
  refine W.eq (g2 := F0 m 10 ls [.null]) rfl ?_
  refine lv_astore_nN (lv' := [(2, .null), (1, .int (-1)), (0, .ref h0)]) hx hb dX10_carryFrame_10 rfl hl (by decide) rfl (fun ls hl => ?_)
  refine lv_aload_nN hx hb dX10_carryFrame_11 rfl (lv_at hl 0 rfl) ?_
  refine lv_ifnonnullN hx hb dX10_carryFrame_12 ?_
  exact W.vret hx hb hr (fun t ht hW => ⟨⟨(), rfl, trivial, trivial⟩, hS.F ht⟩) hS.2.2 dX10_carryFrame_15

def v_c_X10_pass : List Cond := .code yX10_pass cX10_pass 4 (some .int) :: ([.fieldLink RX10 33 "ClaimBus" "time" "I", .code yX10_nextMoment cX10_nextMoment 5 (some .int), .fieldLink RX10 29 "ClaimBus" "nodeCount" "I", .methodLink RX10 207 Lib.Math.max.name, .static Lib.Math.max.name, .initialized "java/lang/Math", .code Lib.Math.max.name Lib.Math.max.code 2 (some .int), .initialized RX10, .methodLink RX10 116 yX10_nextMoment, .instanceMethod yX10_nextMoment, .selects RX10 yX10_nextMoment yX10_nextMoment, .code yX10_runTimers cX10_runTimers 3 none, .methodLink RX10 120 yX10_runTimers, .instanceMethod yX10_runTimers, .selects RX10 yX10_runTimers yX10_runTimers, .code yX10_carryFrame cX10_carryFrame 5 none, .code yX10_firstToSend cX10_firstToSend 6 (some .int), .methodLink RX10 212 yX10_firstToSend, .instanceMethod yX10_firstToSend, .selects RX10 yX10_firstToSend yX10_firstToSend, .code yX10_find cX10_find 2 (some (.object "ClaimBus$Node")), .methodLink RX10 53 yX10_find, .instanceMethod yX10_find, .selects RX10 yX10_find yX10_find, .methodLink RX10 123 yX10_carryFrame, .instanceMethod yX10_carryFrame, .selects RX10 yX10_carryFrame yX10_carryFrame] ++ wsX100)
theorem in_c_X10_pass_X10 : ∀ w ∈ wsX100, w ∈ v_c_X10_pass := fun w h => List.mem_cons_of_mem _ (List.mem_append_right _ h)
set_option maxRecDepth 20000 in
theorem g_c_X10_pass_c_X10_nextMoment_116 : GoodIn v_c_X10_pass (wsV RX10 116 RX10 yX10_nextMoment v_c_X10_nextMoment) := goodIn_r _ [9, 10, 11, 8, 2, 3, 1, 4, 5, 6, 7, 28, 29, 30, 31, 32, 33, 34, 35] (by decide +kernel) (by decide +kernel)
set_option maxRecDepth 20000 in
theorem g_c_X10_pass_c_X10_runTimers_120 : GoodIn v_c_X10_pass (wsV RX10 120 RX10 yX10_runTimers v_c_X10_runTimers) := goodIn_r _ [13, 14, 15, 8, 12, 3, 28, 29, 30, 31, 32, 33, 34, 35] (by decide +kernel) (by decide +kernel)
set_option maxRecDepth 20000 in
theorem g_c_X10_pass_c_X10_carryFrame_123 : GoodIn v_c_X10_pass (wsV RX10 123 RX10 yX10_carryFrame v_c_X10_carryFrame) := goodIn_r _ [25, 26, 27, 8, 16, 17, 3, 8, 18, 19, 20, 21, 22, 23, 24, 28, 29, 30, 31, 32, 33, 34, 35] (by decide +kernel) (by decide +kernel)
set_option maxHeartbeats 4000000 in
set_option maxRecDepth 100000 in
/-- pass on a fresh object: one jump -/
theorem c_X10_pass (l : Launch) (dC : Nat → ClassId) (dI : Nat → Nat → Nat) (h0 : Nat) (n0 : Nat) (st : Nat) (la : Nat) (p0 : Int32) (sz : Nat)  : Met l yX10_pass v_c_X10_pass ({ frames := 2, cells := 0, slots := 0, locals := 49 }) (va_Pc [.ref h0, .int p0] (fun U => U.heap.size = sz ∧ va_P (dC, dI) vwCl [(h0, .inr (11, [.ref n0, .ref st, .ref la, .int 0, .int 0, .int 0, .int (-1), .int 0]))] U.heap ∧ va_K (dC, dI) vwCl [] U ∧ va_D (fun _ => True) [(h0, .inr (11, [.ref n0, .ref st, .ref la, .int 0, .int 0, .int 0, .int (-1), .int 0]))] ∧ ev U)) (va_Qi (fun (r : Int32) (_ : Unit) => r = if 1 ≤ p0 ∧ p0 ≤ 5000 then p0 else (-1)) (fun (_ : Unit) (_ : State) => True) (va_A [(h0, .inr (11, [.ref n0, .ref st, .ref la, .int 0, .int 0, .int 0, .int (-1), .int 0]))] sz)) 0 0 (va_A [(h0, .inr (11, [.ref n0, .ref st, .ref la, .int 0, .int 0, .int 0, .int (-1), .int 0]))] sz) := by
  refine Met.ofW (cc := cX10_pass) (maxL := 4) (ret := (some .int)) (by decide) rfl ?_
  intro p e s m args below meth c s₁ B hml hv
  obtain ⟨rfl, hsz, hP, hK, hD0, hE⟩ := hv
  have hx := B.exec
  have hb := B.bytes
  have hr := B.returns
  have hts := atoms_spec (ws := v_c_X10_pass) B.pre
  have hown : s.vm.findClass RX10 = some m.cls := findClass_of_methodNamed B.named
  have hlocks := B.notSynchronized
  subst hsz
  have hD := hD0.self (sz := s.heap.size)
  generalize hAe : va_A [(h0, .inr (11, [.ref n0, .ref st, .ref la, .int 0, .int 0, .int 0, .int (-1), .int 0]))] s.heap.size = A at hD ⊢
  have hA : ∀ q : Nat, s.heap.size ≤ q → A q := fun q h => by rw [← hAe]; exact Or.inr h
  have hS : va_S A s.heap s.heap [] := va_S.rf
  have hP : va_P (dC, dI) vwCl [(h0, .inr (11, [.ref n0, .ref st, .ref la, .int 0, .int 0, .int 0, .int (-1), .int 0]))] s.heap := hP
  have hl := lv_entry ([.ref h0, .int p0]) (n := 4) (Nat.le_of_ble_eq_true rfl)
  rw [lg_entry_eq]
  generalize (lg_sl ([.ref h0, .int p0]) ++ List.replicate (4 - (lg_sl ([.ref h0, .int p0])).length) Slot.unset).toArray = ls at hl ⊢
  have hl : lv_has ls 4 [(0, .ref h0), (1, .int p0)] := hl
  obtain ⟨H, hH⟩ : ∃ z : Heap, z = s.heap := ⟨_, rfl⟩
  rw [← hH]
  have hS : va_S A s.heap H [] := by rw [hH]; exact va_S.rf
  have hP : va_P (dC, dI) vwCl [(h0, .inr (11, [.ref n0, .ref st, .ref la, .int 0, .int 0, .int 0, .int (-1), .int 0]))] H := by rw [hH]; exact hP
  clear hH
  refine lv_iload_n hx hb dX10_pass_0 rfl (lv_at hl 1 rfl) ?_
  refine lv_iconst (v := 1) hx hb dX10_pass_1 (by decide) ?_
  refine lv_icmp_lt (tgt := 12) hx hb dX10_pass_2 (by decide) (fun c_1 => ?_) (fun c_1 => ?_)
  · refine lv_iconst (v := -1) hx hb dX10_pass_12 (by decide) ?_
    exact W.iret (v := (-1)) hx hb hr (fun t ht hW => ⟨⟨(-1), (), rfl, (by rw [if_neg]; exact fun h => absurd h.1 (Int32.not_le.mpr c_1)), trivial⟩, hS.F ht⟩) hS.2.2 dX10_pass_13
  · refine lv_iload_n hx hb dX10_pass_5 rfl (lv_at hl 1 rfl) ?_
    refine lv_sipush (v := 5000) hx hb dX10_pass_6 (by decide) ?_
    refine lv_icmp_le (tgt := 14) hx hb dX10_pass_9 (by decide) (fun c_2 => ?_) (fun c_2 => ?_)
    · refine lv_aload_n hx hb dX10_pass_14 rfl (lv_at hl 0 rfl) ?_
      refine va_get (D := (dC, dI)) (ci := 11) (v := .int 0) (C := RX10) (T := TX10) (N := 8) hx hb hts in_c_X10_pass_X10 hown hK hP 0 rfl rfl 4 (by decide) (hts (.fieldLink RX10 33 "ClaimBus" "time" "I") (List.mem_of_getElem? (i := 1) rfl)) (fun _ h9 => h9) rfl dX10_pass_15 ?_
      refine lv_iload_n hx hb dX10_pass_18 rfl (lv_at hl 1 rfl) ?_
      refine lv_iadd hx hb dX10_pass_19 ?_
      rw [Int32.zero_add]
      refine lv_istore_n (lv' := [(2, .int p0), (0, .ref h0), (1, .int p0)]) hx hb dX10_pass_20 rfl hl (by decide) rfl (fun ls hl => ?_)
      refine lv_iconst (v := 0) hx hb dX10_pass_21 (by decide) ?_
      refine lv_istore_n (lv' := [(3, .int 0), (2, .int p0), (0, .ref h0), (1, .int p0)]) hx hb dX10_pass_22 rfl hl (by decide) rfl (fun ls hl => ?_)
      refine lv_iload_n hx hb dX10_pass_23 rfl (lv_at hl 0 rfl) ?_
      refine lv_iload_n hx hb dX10_pass_24 rfl (lv_at hl 3 rfl) ?_
      refine lv_icmp_ge (tgt := 59) hx hb dX10_pass_25 (by decide) (fun c_3 => ?_) (fun c_3 => ?_)
      · exact absurd c_3 (fun h => c_1 (Int32.lt_of_le_of_lt h (by decide)))
      refine lv_aload_n hx hb dX10_pass_28 rfl (lv_at hl 2 rfl) ?_
      refine va_get (D := (dC, dI)) (ci := 11) (v := .int 0) (C := RX10) (T := TX10) (N := 8) hx hb hts in_c_X10_pass_X10 hown hK hP 0 rfl rfl 4 (by decide) (hts (.fieldLink RX10 33 "ClaimBus" "time" "I") (List.mem_of_getElem? (i := 1) rfl)) (fun _ h9 => h9) rfl dX10_pass_29 ?_
      refine lv_iload_n hx hb dX10_pass_32 rfl (lv_at hl 1 rfl) ?_
      refine lv_icmp_ge (tgt := 59) hx hb dX10_pass_33 (by decide) (fun c_4 => ?_) (fun c_4 => ?_)
      · exact absurd c_4 (fun h => c_1 (Int32.lt_of_le_of_lt h (by decide)))
      refine lv_aload_n hx hb dX10_pass_36 rfl (lv_at hl 2 rfl) ?_
      refine lv_aload_n hx hb dX10_pass_37 rfl (lv_at hl 2 rfl) ?_
      refine lv_iload_n hx hb dX10_pass_38 rfl (lv_at hl 1 rfl) ?_
      have hPc := hP.sub (ws' := [(h0, .inr (11, [.ref n0, .ref st, .ref la, .int 0, .int 0, .int 0, .int (-1), .int 0]))]) [0] rfl
      have hDc := hD.sub (ws' := [(h0, .inr (11, [.ref n0, .ref st, .ref la, .int 0, .int 0, .int 0, .int (-1), .int 0]))]) [0] (by decide) rfl
      have hKc := hK.sub (tys' := []) [] rfl
      have hFc := ro_free hS hA
      refine va_calli (va_runV (As := [.int p0]) (rest := [.ref h0]) ⟨hx, hb, hml, hown, hts⟩ (c_X10_nextMoment l dC dI (h0) (n0) (st) (la) (p0) H.size (c_1)) (cwV 1 hts g_c_X10_pass_c_X10_nextMoment_116 rfl rfl rfl (by decide +kernel) ⟨Nat.le_of_ble_eq_true rfl, Nat.le_of_ble_eq_true rfl⟩) ⟨fun a U g mk q => by obtain ⟨q0, q1, qP, qK, qD, qE⟩ := q; exact ⟨q0, q1, qP, va_K.moved (u := U) (U := U.calling g mk a) (Vm.Alike.refl U.vm) qK, qD, ev.same (u := U) (U := U.calling g mk a) rfl qE⟩, va_recv hKc hPc (ci := 11) (q0 := 0) rfl rfl, fun U hU hW => ⟨rfl, by rw [hU], by rw [hU]; exact hPc, va_K.moved hW.alike hKc, hDc.weaken (fun _ _ _ _ => trivial), hE.warm hW⟩⟩ rfl rfl hl.1 rfl (lv_room (Nat.le_of_ble_eq_true rfl)) dX10_pass_39 ⟨Nat.le_of_ble_eq_true rfl, Nat.le_of_ble_eq_true rfl⟩) hS (fun q _ h => hFc q h) hFc (fun r_5 u t H1 locs ht hvm hw hB hz1 hk1 hS => ?_)
      clear hPc hDc hKc
      have hP := ro_keep hP hk1
      generalize H1 = H at hP hS ⊢
      have hP : va_P (dC, dI) vwCl [(h0, .inr (11, [.ref n0, .ref st, .ref la, .int 0, .int 0, .int 0, .int (-1), .int 0]))] H := hP
      have hw := hw.symm
      subst hw
      refine va_put (D := (dC, dI)) (ci := 11) (v := .int p0) (ty := .int) (C := RX10) (T := TX10) (N := 8) hx hb hts in_c_X10_pass_X10 tyX10 tyX10_ok nmX10 hown hK hP hD hS 0 rfl rfl 4 (by decide) (hts (.fieldLink RX10 33 "ClaimBus" "time" "I") (List.mem_of_getElem? (i := 1) rfl)) (fun _ h9 => h9) rfl (by decide +kernel) rfl rfl (Nat.le_of_ble_eq_true rfl) dX10_pass_42 (fun H locs hP hD hS => ?_)
      have hP : va_P (dC, dI) vwCl [(h0, .inr (11, [.ref n0, .ref st, .ref la, .int 0, .int p0, .int 0, .int (-1), .int 0]))] H := hP
      have hD : va_D A [(h0, .inr (11, [.ref n0, .ref st, .ref la, .int 0, .int p0, .int 0, .int (-1), .int 0]))] := hD
      refine lv_aload_n hx hb dX10_pass_45 rfl (lv_at hl 2 rfl) ?_
      have hPc := hP.sub (ws' := [(h0, .inr (11, [.ref n0, .ref st, .ref la, .int 0, .int p0, .int 0, .int (-1), .int 0]))]) [0] rfl
      have hDc := hD.sub (ws' := [(h0, .inr (11, [.ref n0, .ref st, .ref la, .int 0, .int p0, .int 0, .int (-1), .int 0]))]) [0] (by decide) rfl
      have hKc := hK.sub (tys' := []) [] rfl
      have hFc := ro_free hS hA
      refine va_callv (va_runV (As := []) (rest := []) ⟨hx, hb, hml, hown, hts⟩ (c_X10_runTimers l dC dI (h0) (n0) (st) (la) (p0) H.size) (cwV 0 hts g_c_X10_pass_c_X10_runTimers_120 rfl rfl rfl (by decide +kernel) ⟨Nat.le_of_ble_eq_true rfl, Nat.le_of_ble_eq_true rfl⟩) ⟨fun a U g mk q => by obtain ⟨q0, q1, qP, qK, qD, qE⟩ := q; exact ⟨q0, q1, qP, va_K.moved (u := U) (U := U.calling g mk a) (Vm.Alike.refl U.vm) qK, qD, ev.same (u := U) (U := U.calling g mk a) rfl qE⟩, va_recv hKc hPc (ci := 11) (q0 := 0) rfl rfl, fun U hU hW => ⟨rfl, by rw [hU], by rw [hU]; exact hPc, va_K.moved hW.alike hKc, hDc.weaken (fun _ _ _ _ => trivial), hE.warm hW⟩⟩ rfl rfl hl.1 rfl (lv_room (Nat.le_of_ble_eq_true rfl)) dX10_pass_46 ⟨Nat.le_of_ble_eq_true rfl, Nat.le_of_ble_eq_true rfl⟩) hS (fun q _ h => hFc q h) hFc (fun u t H1 locs ht hvm hw hB hz1 hk1 hS => ?_)
      clear hPc hDc hKc
      have hP := ro_keep hP hk1
      generalize H1 = H at hP hS ⊢
      have hP : va_P (dC, dI) vwCl [(h0, .inr (11, [.ref n0, .ref st, .ref la, .int 0, .int p0, .int 0, .int (-1), .int 0]))] H := hP
      refine lv_aload_n hx hb dX10_pass_49 rfl (lv_at hl 2 rfl) ?_
      have hPc := hP.sub (ws' := [(h0, .inr (11, [.ref n0, .ref st, .ref la, .int 0, .int p0, .int 0, .int (-1), .int 0]))]) [0] rfl
      have hDc := hD.sub (ws' := [(h0, .inr (11, [.ref n0, .ref st, .ref la, .int 0, .int p0, .int 0, .int (-1), .int 0]))]) [0] (by decide) rfl
      have hKc := hK.sub (tys' := []) [] rfl
      have hFc := ro_free hS hA
      refine va_callv (va_runV (As := []) (rest := []) ⟨hx, hb, hml, hown, hts⟩ (c_X10_carryFrame l dC dI (h0) (n0) (st) (la) (p0) H.size) (cwV 0 hts g_c_X10_pass_c_X10_carryFrame_123 rfl rfl rfl (by decide +kernel) ⟨Nat.le_of_ble_eq_true rfl, Nat.le_of_ble_eq_true rfl⟩) ⟨fun a U g mk q => by obtain ⟨q0, q1, qP, qK, qD, qE⟩ := q; exact ⟨q0, q1, qP, va_K.moved (u := U) (U := U.calling g mk a) (Vm.Alike.refl U.vm) qK, qD, ev.same (u := U) (U := U.calling g mk a) rfl qE⟩, va_recv hKc hPc (ci := 11) (q0 := 0) rfl rfl, fun U hU hW => ⟨rfl, by rw [hU], by rw [hU]; exact hPc, va_K.moved hW.alike hKc, hDc.weaken (fun _ _ _ _ => trivial), hE.warm hW⟩⟩ rfl rfl hl.1 rfl (lv_room (Nat.le_of_ble_eq_true rfl)) dX10_pass_50 ⟨Nat.le_of_ble_eq_true rfl, Nat.le_of_ble_eq_true rfl⟩) hS (fun q _ h => hFc q h) hFc (fun u t H1 locs ht hvm hw hB hz1 hk1 hS => ?_)
      clear hPc hDc hKc
      have hP := ro_keep hP hk1
      generalize H1 = H at hP hS ⊢
      have hP : va_P (dC, dI) vwCl [(h0, .inr (11, [.ref n0, .ref st, .ref la, .int 0, .int p0, .int 0, .int (-1), .int 0]))] H := hP
      refine lv_iinc (v := 1) (lv' := [(3, .int 1), (2, .int p0), (0, .ref h0), (1, .int p0)]) hx hb dX10_pass_53 hl (k := 0) rfl (by decide) (by decide) rfl (fun ls hl => ?_)
      refine lv_goto (tgt := 23) hx hb dX10_pass_56 (by decide) ?_
      refine lv_iload_n hx hb dX10_pass_23 rfl (lv_at hl 0 rfl) ?_
      refine lv_iload_n hx hb dX10_pass_24 rfl (lv_at hl 3 rfl) ?_
      refine lv_icmp_ge (tgt := 59) hx hb dX10_pass_25 (by decide) (fun c_8 => ?_) (fun c_8 => ?_)
      · refine lv_aload_n hx hb dX10_pass_59 rfl (lv_at hl 2 rfl) ?_
        refine va_get (D := (dC, dI)) (ci := 11) (v := .int p0) (C := RX10) (T := TX10) (N := 8) hx hb hts in_c_X10_pass_X10 hown hK hP 0 rfl rfl 4 (by decide) (hts (.fieldLink RX10 33 "ClaimBus" "time" "I") (List.mem_of_getElem? (i := 1) rfl)) (fun _ h9 => h9) rfl dX10_pass_60 ?_
        exact W.iret (v := p0) hx hb hr (fun t ht hW => ⟨⟨p0, (), rfl, (by rw [if_pos ⟨Int32.not_lt.mp c_1, c_2⟩]), trivial⟩, hS.F ht⟩) hS.2.2 dX10_pass_63
      · refine lv_aload_n hx hb dX10_pass_28 rfl (lv_at hl 2 rfl) ?_
        refine va_get (D := (dC, dI)) (ci := 11) (v := .int p0) (C := RX10) (T := TX10) (N := 8) hx hb hts in_c_X10_pass_X10 hown hK hP 0 rfl rfl 4 (by decide) (hts (.fieldLink RX10 33 "ClaimBus" "time" "I") (List.mem_of_getElem? (i := 1) rfl)) (fun _ h9 => h9) rfl dX10_pass_29 ?_
        refine lv_iload_n hx hb dX10_pass_32 rfl (lv_at hl 1 rfl) ?_
        refine lv_icmp_ge (tgt := 59) hx hb dX10_pass_33 (by decide) (fun c_9 => ?_) (fun c_9 => ?_)
        rotate_left
        · exact absurd (Int32.le_refl _) c_9
        refine lv_aload_n hx hb dX10_pass_59 rfl (lv_at hl 2 rfl) ?_
        refine va_get (D := (dC, dI)) (ci := 11) (v := .int p0) (C := RX10) (T := TX10) (N := 8) hx hb hts in_c_X10_pass_X10 hown hK hP 0 rfl rfl 4 (by decide) (hts (.fieldLink RX10 33 "ClaimBus" "time" "I") (List.mem_of_getElem? (i := 1) rfl)) (fun _ h9 => h9) rfl dX10_pass_60 ?_
        exact W.iret (v := p0) hx hb hr (fun t ht hW => ⟨⟨p0, (), rfl, (by rw [if_pos ⟨Int32.not_lt.mp c_1, c_2⟩]), trivial⟩, hS.F ht⟩) hS.2.2 dX10_pass_63
    · refine lv_iconst (v := -1) hx hb dX10_pass_12 (by decide) ?_
      exact W.iret (v := (-1)) hx hb hr (fun t ht hW => ⟨⟨(-1), (), rfl, (by rw [if_neg]; exact fun h => absurd h.2 c_2), trivial⟩, hS.F ht⟩) hS.2.2 dX10_pass_13

def v_c_X10_node : List Cond := .code yX10_node cX10_node 6 (some .int) :: ([.fieldLink RX10 29 "ClaimBus" "nodeCount" "I", .code yX10_nameIsThere cX10_nameIsThere 5 (some .boolean), .initialized RX10, .methodLink RX10 46 yX10_nameIsThere, .instanceMethod yX10_nameIsThere, .selects RX10 yX10_nameIsThere yX10_nameIsThere, .fieldLink RX10 11 "ClaimBus" "nodes" "[LClaimBus$Node;", .classLink RX10 9 RX4, .instantiable RX4 18, .initialized RX4, .fieldLink RX10 18 "ClaimBus" "store" "LClaimBus$Store;", .code yX4_init cX4_init 7 none, .methodLink RX4 3 objectInit, .instanceMethod objectInit, .code objectInit ⟨#[0xb1]⟩ 1 none, .classLink RX4 9 RX8, .instantiable RX8 1, .initialized RX8, .code yX8_init cX8_init 1 none, .methodLink RX8 3 objectInit, .arrayClass .int, .fieldLink RX8 9 "ClaimBus$Table" "addresses" "[I", .code yX8_clear cX8_clear 2 none, .methodLink RX8 15 yX8_clear, .instanceMethod yX8_clear, .selects RX8 yX8_clear yX8_clear, .methodLink RX4 11 yX8_init, .instanceMethod yX8_init, .fieldLink RX4 12 "ClaimBus$Node" "table" "LClaimBus$Table;", .classLink RX4 18 RX6, .instantiable RX6 4, .initialized RX6, .code yX6_init cX6_init 1 none, .methodLink RX6 3 objectInit, .fieldLink RX6 9 "ClaimBus$Sending" "state" "I", .fieldLink RX6 15 "ClaimBus$Sending" "nextPacket" "I", .fieldLink RX6 18 "ClaimBus$Sending" "due" "I", .fieldLink RX6 21 "ClaimBus$Sending" "whole" "LClaimBus$Message;", .instanceMethod yX6_init, .fieldLink RX4 21 "ClaimBus$Node" "sending" "LClaimBus$Sending;", .classLink RX4 25 RX2, .instantiable RX2 4, .initialized RX2, .code yX2_init cX2_init 1 none, .methodLink RX2 3 objectInit, .fieldLink RX2 9 "ClaimBus$Inbox" "came" "I", .fieldLink RX2 15 "ClaimBus$Inbox" "gotAnotherThanSent" "Z", .fieldLink RX2 19 "ClaimBus$Inbox" "log" "[I", .classLink RX2 23 "[I", .fieldLink RX2 24 "ClaimBus$Inbox" "troubles" "[[I", .instanceMethod yX2_init, .fieldLink RX4 28 "ClaimBus$Node" "inbox" "LClaimBus$Inbox;", .classLink RX4 32 RX9, .fieldLink RX4 34 "ClaimBus$Node" "gets" "[LClaimBus$Transport;", .classLink RX4 38 RJx4a65c, .instantiable RJx4a65c 3, .initialized RJx4a65c, .code yJx4a65c_init_da8c8 cJx4a65c_init_da8c8 1 none, .code yJxc12de_init_da8c8 cJxc12de_init_da8c8 1 none, .code yJxa1e45_init_da8c8 cJxa1e45_init_da8c8 1 none, .methodLink RJxa1e45 1 objectInit, .initialized RJxa1e45, .methodLink RJxc12de 1 yJxa1e45_init_da8c8, .instanceMethod yJxa1e45_init_da8c8, .fieldLink RJxc12de 7 "java/util/AbstractList" "modCount" "I", .initialized RJxc12de, .methodLink RJx4a65c 1 yJxc12de_init_da8c8, .instanceMethod yJxc12de_init_da8c8, .fieldLink RJx4a65c 39 "java/util/ArrayList" "DEFAULTCAPACITY_EMPTY_ELEMENTDATA" "[Ljava/lang/Object;", .fieldLink RJx4a65c 9 "java/util/ArrayList" "elementData" "[Ljava/lang/Object;", .methodLink RX4 40 yJx4a65c_init_da8c8, .instanceMethod yJx4a65c_init_da8c8, .fieldLink RX4 41 "ClaimBus$Node" "collects" "Ljava/util/ArrayList;", .fieldLink RX4 45 "ClaimBus$Node" "troubles" "[I", .fieldLink RX4 49 "ClaimBus$Node" "troubleCount" "I", .fieldLink RX4 53 "ClaimBus$Node" "state" "I", .fieldLink RX4 56 "ClaimBus$Node" "claimCarriedAt" "I", .fieldLink RX4 59 "ClaimBus$Node" "toLose" "I", .fieldLink RX4 62 "ClaimBus$Node" "lost" "I", .fieldLink RX4 65 "ClaimBus$Node" "high" "I", .fieldLink RX4 68 "ClaimBus$Node" "low" "I", .fieldLink RX4 71 "ClaimBus$Node" "wanted" "I", .fieldLink RX4 74 "ClaimBus$Node" "free" "Z", .fieldLink RX4 78 "ClaimBus$Node" "window" "I", .fieldLink RX4 81 "ClaimBus$Node" "address" "I", .classLink RX4 84 RX5, .instantiable RX5 12, .initialized RX5, .code yX5_init cX5_init 4 none, .methodLink RX5 3 objectInit, .fieldLink RX5 9 "ClaimBus$Row" "head" "LClaimBus$Chunk;", .fieldLink RX5 15 "ClaimBus$Row" "tail" "LClaimBus$Chunk;", .fieldLink RX5 18 "ClaimBus$Row" "headPlace" "I", .fieldLink RX5 22 "ClaimBus$Row" "tailPlace" "I", .fieldLink RX5 25 "ClaimBus$Row" "frames" "I", .fieldLink RX5 28 "ClaimBus$Row" "gone" "I", .fieldLink RX5 31 "ClaimBus$Row" "claimWaits" "Z", .classLink RX5 35 RX1, .instantiable RX1 4, .initialized RX1, .code yX1_init cX1_init 1 none, .methodLink RX1 3 objectInit, .fieldLink RX1 9 "ClaimBus$Frame" "identifier" "I", .fieldLink RX1 15 "ClaimBus$Frame" "first" "I", .fieldLink RX1 18 "ClaimBus$Frame" "others" "I", .fieldLink RX1 21 "ClaimBus$Frame" "whole" "LClaimBus$Message;", .instanceMethod yX1_init, .fieldLink RX5 38 "ClaimBus$Row" "first" "LClaimBus$Frame;", .fieldLink RX5 42 "ClaimBus$Row" "firstIsWritten" "Z", .fieldLink RX5 45 "ClaimBus$Row" "high" "I", .fieldLink RX5 48 "ClaimBus$Row" "low" "I", .fieldLink RX5 51 "ClaimBus$Row" "store" "LClaimBus$Store;", .methodLink RX4 86 yX5_init, .instanceMethod yX5_init, .fieldLink RX4 89 "ClaimBus$Node" "row" "LClaimBus$Row;", .methodLink RX10 50 yX4_init, .instanceMethod yX4_init] ++ wsX100 ++ wsX40 ++ wsX80 ++ wsX60 ++ wsX20 ++ wsJx4a65c0 ++ wsX50 ++ wsX10)
theorem in_c_X10_node_X10 : ∀ w ∈ wsX100, w ∈ v_c_X10_node := fun w h => List.mem_cons_of_mem _ (List.mem_append_left _ (List.mem_append_left _ (List.mem_append_left _ (List.mem_append_left _ (List.mem_append_left _ (List.mem_append_left _ (List.mem_append_left _ (List.mem_append_right _ h))))))))
theorem in_c_X10_node_X4 : ∀ w ∈ wsX40, w ∈ v_c_X10_node := fun w h => List.mem_cons_of_mem _ (List.mem_append_left _ (List.mem_append_left _ (List.mem_append_left _ (List.mem_append_left _ (List.mem_append_left _ (List.mem_append_left _ (List.mem_append_right _ h)))))))
theorem in_c_X10_node_X8 : ∀ w ∈ wsX80, w ∈ v_c_X10_node := fun w h => List.mem_cons_of_mem _ (List.mem_append_left _ (List.mem_append_left _ (List.mem_append_left _ (List.mem_append_left _ (List.mem_append_left _ (List.mem_append_right _ h))))))
theorem in_c_X10_node_X6 : ∀ w ∈ wsX60, w ∈ v_c_X10_node := fun w h => List.mem_cons_of_mem _ (List.mem_append_left _ (List.mem_append_left _ (List.mem_append_left _ (List.mem_append_left _ (List.mem_append_right _ h)))))
theorem in_c_X10_node_X2 : ∀ w ∈ wsX20, w ∈ v_c_X10_node := fun w h => List.mem_cons_of_mem _ (List.mem_append_left _ (List.mem_append_left _ (List.mem_append_left _ (List.mem_append_right _ h))))
theorem in_c_X10_node_Jx4a65c : ∀ w ∈ wsJx4a65c0, w ∈ v_c_X10_node := fun w h => List.mem_cons_of_mem _ (List.mem_append_left _ (List.mem_append_left _ (List.mem_append_right _ h)))
theorem in_c_X10_node_X5 : ∀ w ∈ wsX50, w ∈ v_c_X10_node := fun w h => List.mem_cons_of_mem _ (List.mem_append_left _ (List.mem_append_right _ h))
theorem in_c_X10_node_X1 : ∀ w ∈ wsX10, w ∈ v_c_X10_node := fun w h => List.mem_cons_of_mem _ (List.mem_append_right _ h)
set_option maxRecDepth 20000 in
theorem g_c_X10_node_c_X10_nameIsThere_46 : GoodIn v_c_X10_node (wsV RX10 46 RX10 yX10_nameIsThere v_c_X10_nameIsThere) := goodIn_r _ [4, 5, 6, 3, 2, 1, 118, 119, 120, 121, 122, 123, 124, 125] (by decide +kernel) (by decide +kernel)
set_option maxRecDepth 20000 in
theorem g_c_X10_node_c_X4_init_50 : GoodIn v_c_X10_node v_c_X4_init := goodIn_r _ [12, 13, 14, 15, 16, 17, 18, 19, 20, 21, 22, 23, 24, 25, 26, 27, 28, 29, 30, 31, 32, 33, 34, 35, 36, 37, 38, 39, 40, 41, 42, 43, 44, 45, 46, 47, 48, 49, 50, 51, 52, 53, 54, 55, 56, 57, 58, 59, 60, 61, 62, 63, 64, 65, 66, 67, 68, 69, 70, 71, 72, 73, 74, 75, 76, 77, 78, 79, 80, 81, 82, 83, 84, 85, 86, 87, 88, 89, 90, 91, 92, 93, 94, 95, 96, 97, 98, 99, 100, 101, 102, 103, 104, 105, 106, 107, 108, 109, 110, 111, 112, 113, 114, 115, 144, 126, 127, 128, 129, 130, 131, 132, 133, 134, 135, 136, 137, 138, 139, 140, 141, 142, 143, 145, 146, 147, 148, 149, 150, 151, 152, 153, 154, 155, 156, 157, 158, 159, 160, 161, 162, 163, 164, 165, 166, 167, 168, 169, 170, 171] (by decide +kernel) (by decide +kernel)
set_option maxHeartbeats 4000000 in
set_option maxRecDepth 100000 in
/-- node on a fresh object -/
theorem c_X10_node (l : Launch) (dC : Nat → ClassId) (dI : Nat → Nat → Nat) (h0 : Nat) (n0 : Nat) (st : Nat) (la : Nat) (cN : ClassId) (p0 : Int32) (p1 : Int32) (p2 : Int32) (fr : Int32) (p3 : Int32) (sz : Nat) (hfr : narrow .boolean (.int fr) = .int fr) (hfr2 : fits .boolean (.int fr) = true) : Met l yX10_node v_c_X10_node ({ frames := 5, cells := 12, slots := 401, locals := 98 }) (va_Pc [.ref h0, .int p0, .int p1, .int p2, .int fr, .int p3] (fun U => U.heap.size = sz ∧ va_P (dC, dI) vwCl [(h0, .inr (11, [.ref n0, .ref st, .ref la, .int 0, .int 0, .int 0, .int (-1), .int 0])), (n0, .inl (cN, 8, .inr (.inr (.inr (.inr (fun _ => none))))))] U.heap ∧ va_K (dC, dI) vwCl [(cN, (.object RX4))] U ∧ va_D (fun _ => True) [(h0, .inr (11, [.ref n0, .ref st, .ref la, .int 0, .int 0, .int 0, .int (-1), .int 0])), (n0, .inl (cN, 8, .inr (.inr (.inr (.inr (fun _ => none))))))] ∧ ev U ∧ va_Zq "java/util/ArrayList" "DEFAULTCAPACITY_EMPTY_ELEMENTDATA" "[Ljava/lang/Object;" (va_A [(h0, .inr (11, [.ref n0, .ref st, .ref la, .int 0, .int 0, .int 0, .int (-1), .int 0])), (n0, .inl (cN, 8, .inr (.inr (.inr (.inr (fun _ => none))))))] sz) U U.heap)) (va_Qi (fun (r : Int32) (_ : Unit) => r = if 0 ≤ p2 ∧ p2 ≤ 247 ∧ 1 ≤ p3 ∧ p3 ≤ 16 then 0 else (-1)) (fun (_ : Unit) (_ : State) => True) (va_A [(h0, .inr (11, [.ref n0, .ref st, .ref la, .int 0, .int 0, .int 0, .int (-1), .int 0])), (n0, .inl (cN, 8, .inr (.inr (.inr (.inr (fun _ => none))))))] sz)) 12 401 (va_A [(h0, .inr (11, [.ref n0, .ref st, .ref la, .int 0, .int 0, .int 0, .int (-1), .int 0])), (n0, .inl (cN, 8, .inr (.inr (.inr (.inr (fun _ => none))))))] sz) := by
  refine Met.ofW (cc := cX10_node) (maxL := 6) (ret := (some .int)) (by decide) rfl ?_
  intro p e s m args below meth c s₁ B hml hv
  obtain ⟨rfl, hsz, hP, hK, hD0, hE, hZ⟩ := hv
  have hx := B.exec
  have hb := B.bytes
  have hr := B.returns
  have hts := atoms_spec (ws := v_c_X10_node) B.pre
  have hown : s.vm.findClass RX10 = some m.cls := findClass_of_methodNamed B.named
  have hlocks := B.notSynchronized
  subst hsz
  have hD := hD0.self (sz := s.heap.size)
  generalize hAe : va_A [(h0, .inr (11, [.ref n0, .ref st, .ref la, .int 0, .int 0, .int 0, .int (-1), .int 0])), (n0, .inl (cN, 8, .inr (.inr (.inr (.inr (fun _ => none))))))] s.heap.size = A at hD hZ ⊢
  have hA : ∀ q : Nat, s.heap.size ≤ q → A q := fun q h => by rw [← hAe]; exact Or.inr h
  have hS : va_S A s.heap s.heap [] := va_S.rf
  have hP : va_P (dC, dI) vwCl [(h0, .inr (11, [.ref n0, .ref st, .ref la, .int 0, .int 0, .int 0, .int (-1), .int 0])), (n0, .inl (cN, 8, .inr (.inr (.inr (.inr (fun _ => none))))))] s.heap := hP
  have hl := lv_entry ([.ref h0, .int p0, .int p1, .int p2, .int fr, .int p3]) (n := 6) (Nat.le_of_ble_eq_true rfl)
  rw [lg_entry_eq]
  generalize (lg_sl ([.ref h0, .int p0, .int p1, .int p2, .int fr, .int p3]) ++ List.replicate (6 - (lg_sl ([.ref h0, .int p0, .int p1, .int p2, .int fr, .int p3])).length) Slot.unset).toArray = ls at hl ⊢
  have hl : lv_has ls 6 [(0, .ref h0), (1, .int p0), (2, .int p1), (3, .int p2), (4, .int fr), (5, .int p3)] := hl
  obtain ⟨H, hH⟩ : ∃ z : Heap, z = s.heap := ⟨_, rfl⟩
  rw [← hH]
  have hS : va_S A s.heap H [] := by rw [hH]; exact va_S.rf
  have hP : va_P (dC, dI) vwCl [(h0, .inr (11, [.ref n0, .ref st, .ref la, .int 0, .int 0, .int 0, .int (-1), .int 0])), (n0, .inl (cN, 8, .inr (.inr (.inr (.inr (fun _ => none))))))] H := by rw [hH]; exact hP
  clear hH
  refine lv_iload_n hx hb dX10_node_0 rfl (lv_at hl 3 rfl) ?_
  refine lv_if_lt (tgt := 24) hx hb dX10_node_1 (by decide) (fun c_1 => ?_) (fun c_1 => ?_)
  · refine lv_iconst (v := -1) hx hb dX10_node_24 (by decide) ?_
    refine W.widen (k := 12) (n := 401) (Nat.le_of_ble_eq_true rfl) (Nat.le_of_ble_eq_true rfl) ?_
    exact W.iret (v := (-1)) hx hb hr (fun t ht hW => ⟨⟨(-1), (), rfl, (by rw [if_neg]; exact fun h => absurd h.1 (Int32.not_le.mpr c_1)), trivial⟩, hS.F ht⟩) hS.2.2 dX10_node_25
  · refine lv_iload_n hx hb dX10_node_4 rfl (lv_at hl 3 rfl) ?_
    refine lv_sipush (v := 247) hx hb dX10_node_5 (by decide) ?_
    refine lv_icmp_gt (tgt := 24) hx hb dX10_node_8 (by decide) (fun c_2 => ?_) (fun c_2 => ?_)
    · refine lv_iconst (v := -1) hx hb dX10_node_24 (by decide) ?_
      refine W.widen (k := 12) (n := 401) (Nat.le_of_ble_eq_true rfl) (Nat.le_of_ble_eq_true rfl) ?_
      exact W.iret (v := (-1)) hx hb hr (fun t ht hW => ⟨⟨(-1), (), rfl, (by rw [if_neg]; exact fun h => absurd h.2.1 (Int32.not_le.mpr c_2)), trivial⟩, hS.F ht⟩) hS.2.2 dX10_node_25
    · refine lv_iload hx hb dX10_node_11 (lv_at hl 5 rfl) ?_
      refine lv_iconst (v := 1) hx hb dX10_node_13 (by decide) ?_
      refine lv_icmp_lt (tgt := 24) hx hb dX10_node_14 (by decide) (fun c_3 => ?_) (fun c_3 => ?_)
      · refine lv_iconst (v := -1) hx hb dX10_node_24 (by decide) ?_
        refine W.widen (k := 12) (n := 401) (Nat.le_of_ble_eq_true rfl) (Nat.le_of_ble_eq_true rfl) ?_
        exact W.iret (v := (-1)) hx hb hr (fun t ht hW => ⟨⟨(-1), (), rfl, (by rw [if_neg]; exact fun h => absurd h.2.2.1 (Int32.not_le.mpr c_3)), trivial⟩, hS.F ht⟩) hS.2.2 dX10_node_25
      · refine lv_iload hx hb dX10_node_17 (lv_at hl 5 rfl) ?_
        refine lv_bipush (v := 16) hx hb dX10_node_19 (by decide) ?_
        refine lv_icmp_le (tgt := 26) hx hb dX10_node_21 (by decide) (fun c_4 => ?_) (fun c_4 => ?_)
        · refine lv_aload_n hx hb dX10_node_26 rfl (lv_at hl 0 rfl) ?_
          refine va_get (D := (dC, dI)) (ci := 11) (v := .int 0) (C := RX10) (T := TX10) (N := 8) hx hb hts in_c_X10_node_X10 hown hK hP 0 rfl rfl 3 (by decide) (hts (.fieldLink RX10 29 "ClaimBus" "nodeCount" "I") (List.mem_of_getElem? (i := 1) rfl)) (fun _ h9 => h9) rfl dX10_node_27 ?_
          refine lv_bipush (v := 8) hx hb dX10_node_30 (by decide) ?_
          refine lv_icmp_ge (tgt := 44) hx hb dX10_node_32 (by decide) (fun c_5 => ?_) (fun c_5 => ?_)
          · exact absurd c_5 (by decide)
          refine lv_aload_n hx hb dX10_node_35 rfl (lv_at hl 0 rfl) ?_
          refine lv_iload_n hx hb dX10_node_36 rfl (lv_at hl 1 rfl) ?_
          refine lv_iload_n hx hb dX10_node_37 rfl (lv_at hl 2 rfl) ?_
          have hPc := hP.sub (ws' := [(h0, .inr (11, [.ref n0, .ref st, .ref la, .int 0, .int 0, .int 0, .int (-1), .int 0]))]) [0] rfl
          have hDc := hD.sub (ws' := [(h0, .inr (11, [.ref n0, .ref st, .ref la, .int 0, .int 0, .int 0, .int (-1), .int 0]))]) [0] (by decide) rfl
          have hKc := hK.sub (tys' := []) [] rfl
          have hFc := ro_free hS hA
          refine va_calli (va_runV (As := [.int p0, .int p1]) (rest := []) ⟨hx, hb, hml, hown, hts⟩ (c_X10_nameIsThere l dC dI (h0) (n0) (st) (la) (0) (p0) (p1) H.size) (cwV 2 hts g_c_X10_node_c_X10_nameIsThere_46 rfl rfl rfl (by decide +kernel) ⟨Nat.le_of_ble_eq_true rfl, Nat.le_of_ble_eq_true rfl⟩) ⟨fun a U g mk q => by obtain ⟨q0, q1, qP, qK, qD, qE⟩ := q; exact ⟨q0, q1, qP, va_K.moved (u := U) (U := U.calling g mk a) (Vm.Alike.refl U.vm) qK, qD, ev.same (u := U) (U := U.calling g mk a) rfl qE⟩, va_recv hKc hPc (ci := 11) (q0 := 0) rfl rfl, fun U hU hW => ⟨rfl, by rw [hU], by rw [hU]; exact hPc, va_K.moved hW.alike hKc, hDc.weaken (fun _ _ _ _ => trivial), hE.warm hW⟩⟩ rfl rfl hl.1 rfl (lv_room (Nat.le_of_ble_eq_true rfl)) dX10_node_38 ⟨Nat.le_of_ble_eq_true rfl, Nat.le_of_ble_eq_true rfl⟩) hS (fun q _ h => hFc q h) hFc (fun r_6 u t H1 locs ht hvm hw hB hz1 hk1 hS => ?_)
          clear hPc hDc hKc
          have hP := ro_keep hP hk1
          generalize H1 = H at hP hS ⊢
          have hP : va_P (dC, dI) vwCl [(h0, .inr (11, [.ref n0, .ref st, .ref la, .int 0, .int 0, .int 0, .int (-1), .int 0])), (n0, .inl (cN, 8, .inr (.inr (.inr (.inr (fun _ => none))))))] H := hP
          have hw := hw.symm
          subst hw
          refine lv_if_eq (tgt := 46) hx hb dX10_node_41 (by decide) (fun c_7 => ?_) (fun c_7 => ?_)
          rotate_left
          · exact absurd (by decide) c_7
          refine lv_aload_n hx hb dX10_node_46 rfl (lv_at hl 0 rfl) ?_
          refine va_get (D := (dC, dI)) (ci := 11) (v := .ref n0) (C := RX10) (T := TX10) (N := 8) hx hb hts in_c_X10_node_X10 hown hK hP 0 rfl rfl 0 (by decide) (hts (.fieldLink RX10 11 "ClaimBus" "nodes" "[LClaimBus$Node;") (List.mem_of_getElem? (i := 7) rfl)) (fun _ h9 => h9) rfl dX10_node_47 ?_
          refine lv_aload_n hx hb dX10_node_50 rfl (lv_at hl 0 rfl) ?_
          refine va_get (D := (dC, dI)) (ci := 11) (v := .int 0) (C := RX10) (T := TX10) (N := 8) hx hb hts in_c_X10_node_X10 hown hK hP 0 rfl rfl 3 (by decide) (hts (.fieldLink RX10 29 "ClaimBus" "nodeCount" "I") (List.mem_of_getElem? (i := 1) rfl)) (fun _ h9 => h9) rfl dX10_node_51 ?_
          refine va_new (ci := 5) (fs := [.int 0, .int 0, .int 0, .int 0, .int 0, .null, .null, .null, .null, .null, .null, .null, .int 0, .int 0, .int 0, .int 0, .int 0, .int 0]) (C := RX4) (T := TX4) (N := 18) hx hb hts in_c_X10_node_X4 tyX4 tyX4_ok hown (hts (.classLink RX10 9 RX4) (List.mem_of_getElem? (i := 8) rfl)) (hts (.instantiable RX4 18) (List.mem_of_getElem? (i := 9) rfl)) (hts (.initialized RX4) (List.mem_of_getElem? (i := 10) rfl)) hK hP hD hS hA rfl df_X4 (Nat.le_of_ble_eq_true rfl) (Nat.le_of_ble_eq_true rfl) dX10_node_54 (fun q8 H hP hD hS => ?_)
          have hP : va_P (dC, dI) vwCl [(h0, .inr (11, [.ref n0, .ref st, .ref la, .int 0, .int 0, .int 0, .int (-1), .int 0])), (n0, .inl (cN, 8, .inr (.inr (.inr (.inr (fun _ => none)))))), (q8, .inr (5, [.int 0, .int 0, .int 0, .int 0, .int 0, .null, .null, .null, .null, .null, .null, .null, .int 0, .int 0, .int 0, .int 0, .int 0, .int 0]))] H := hP
          have hD : va_D A [(h0, .inr (11, [.ref n0, .ref st, .ref la, .int 0, .int 0, .int 0, .int (-1), .int 0])), (n0, .inl (cN, 8, .inr (.inr (.inr (.inr (fun _ => none)))))), (q8, .inr (5, [.int 0, .int 0, .int 0, .int 0, .int 0, .null, .null, .null, .null, .null, .null, .null, .int 0, .int 0, .int 0, .int 0, .int 0, .int 0]))] := hD
          refine W.widen (k := 1) (n := 18) (Nat.le_of_ble_eq_true rfl) (Nat.le_of_ble_eq_true rfl) ?_
          refine lv_dup hx hb dX10_node_57 rfl ?_
          refine lv_iload_n hx hb dX10_node_58 rfl (lv_at hl 1 rfl) ?_
          refine lv_iload_n hx hb dX10_node_59 rfl (lv_at hl 2 rfl) ?_
          refine lv_iload_n hx hb dX10_node_60 rfl (lv_at hl 3 rfl) ?_
          refine lv_iload hx hb dX10_node_61 (lv_at hl 4 rfl) ?_
          refine lv_iload hx hb dX10_node_63 (lv_at hl 5 rfl) ?_
          refine lv_aload_n hx hb dX10_node_65 rfl (lv_at hl 0 rfl) ?_
          refine va_get (D := (dC, dI)) (ci := 11) (v := .ref st) (C := RX10) (T := TX10) (N := 8) hx hb hts in_c_X10_node_X10 hown hK hP 0 rfl rfl 1 (by decide) (hts (.fieldLink RX10 18 "ClaimBus" "store" "LClaimBus$Store;") (List.mem_of_getElem? (i := 11) rfl)) (fun _ h9 => h9) rfl dX10_node_66 ?_
          have hPc := hP.sub (ws' := [(q8, .inr (5, [.int 0, .int 0, .int 0, .int 0, .int 0, .null, .null, .null, .null, .null, .null, .null, .int 0, .int 0, .int 0, .int 0, .int 0, .int 0]))]) [2] rfl
          have hDc := hD.sub (ws' := [(q8, .inr (5, [.int 0, .int 0, .int 0, .int 0, .int 0, .null, .null, .null, .null, .null, .null, .null, .int 0, .int 0, .int 0, .int 0, .int 0, .int 0]))]) [2] (by decide) rfl
          have hKc := hK.sub (tys' := []) [] rfl
          have hFc := va_free (wc := [(q8, .inr (5, [.int 0, .int 0, .int 0, .int 0, .int 0, .null, .null, .null, .null, .null, .null, .null, .int 0, .int 0, .int 0, .int 0, .int 0, .int 0]))]) hD hS hA [2] rfl
          have hZc := (w_zq hZ hS).narrow (fun q h => hFc q h)
          refine va_callv (va_runI (As := [.int p0, .int p1, .int p2, .int fr, .int p3, .ref st]) (rest := [.ref q8, .int 0, .ref n0]) ⟨hx, hb, hml, hown, hts⟩ (c_X4_init l dC dI (q8) (p0) (p1) (p2) (fr) (p3) (st) H.size (hfr) (hfr2)) (cwI 6 hts g_c_X10_node_c_X4_init_50 rfl rfl rfl (hts (.initialized RX4) (List.mem_of_getElem? (i := 10) rfl)) (hts (.methodLink RX10 50 yX4_init) (List.mem_of_getElem? (i := 116) rfl)) (hts (.instanceMethod yX4_init) (List.mem_of_getElem? (i := 117) rfl)) rfl (by decide +kernel) ⟨Nat.le_of_ble_eq_true rfl, Nat.le_of_ble_eq_true rfl⟩) ⟨fun a U g mk q => by obtain ⟨q0, q1, qP, qK, qD, qE, qZ⟩ := q; exact ⟨q0, q1, qP, va_K.moved (u := U) (U := U.calling g mk a) (Vm.Alike.refl U.vm) qK, qD, ev.same (u := U) (U := U.calling g mk a) rfl qE, va_Zq.moved (u := U) (U := U.calling g mk a) (Vm.Alike.refl U.vm) qZ⟩, fun U hU hW => ⟨rfl, by rw [hU], by rw [hU]; exact hPc, va_K.moved hW.alike hKc, hDc.weaken (fun _ _ _ _ => trivial), hE.warm hW, by rw [hU]; exact hZc.moved hW.alike⟩⟩ rfl rfl hl.1 rfl (lv_room (Nat.le_of_ble_eq_true rfl)) dX10_node_69 ⟨Nat.le_of_ble_eq_true rfl, Nat.le_of_ble_eq_true rfl⟩) hS (fun q _ h => hFc q h) hFc (fun u t H1 locs ht hvm hw hB hz1 hk1 hS => ?_)
          clear hPc hDc hKc
          obtain ⟨vs, hP1, hK1, hD1⟩ := hB
          rw [ht] at hP1
          have hK1 := va_K.moved hvm.symm hK1
          obtain ⟨hP, hD⟩ := va_join (wr := [(h0, .inr (11, [.ref n0, .ref st, .ref la, .int 0, .int 0, .int 0, .int (-1), .int 0])), (n0, .inl (cN, 8, .inr (.inr (.inr (.inr (fun _ => none))))))]) (w1 := [(q8, .inr (5, vs))]) hP hD [2] [0, 1] rfl rfl (by decide) (by decide) hk1 hFc hP1 hD1
          generalize H1 = H at hP hS ⊢
          have hP : va_P (dC, dI) vwCl [(h0, .inr (11, [.ref n0, .ref st, .ref la, .int 0, .int 0, .int 0, .int (-1), .int 0])), (n0, .inl (cN, 8, .inr (.inr (.inr (.inr (fun _ => none)))))), (q8, .inr (5, vs))] H := hP
          have hD : va_D A [(h0, .inr (11, [.ref n0, .ref st, .ref la, .int 0, .int 0, .int 0, .int (-1), .int 0])), (n0, .inl (cN, 8, .inr (.inr (.inr (.inr (fun _ => none)))))), (q8, .inr (5, vs))] := hD
          refine W.widen (k := 12) (n := 401) (Nat.le_of_ble_eq_true rfl) (Nat.le_of_ble_eq_true rfl) ?_
          refine va_astq hx hb hK hP hD hS 1 0 2 5 rfl rfl rfl rfl (show ¬ ((0 : Int32) < 0 ∨ 8 ≤ (0 : Int32).toNatClampNeg) by decide) dX10_node_72 (fun H locs hP hD hS => ?_)
          obtain ⟨f_10, ef_10⟩ : ∃ z : Nat → Option Nat, z = va_up (fun _ => none) (Int32.toNatClampNeg (0)) (some q8) := ⟨_, rfl⟩
          have hP : va_P (dC, dI) vwCl [(h0, .inr (11, [.ref n0, .ref st, .ref la, .int 0, .int 0, .int 0, .int (-1), .int 0])), (n0, .inl (cN, 8, .inr (.inr (.inr (.inr f_10))))), (q8, .inr (5, vs))] H := by rw [ef_10]; exact hP
          have hD : va_D A [(h0, .inr (11, [.ref n0, .ref st, .ref la, .int 0, .int 0, .int 0, .int (-1), .int 0])), (n0, .inl (cN, 8, .inr (.inr (.inr (.inr f_10))))), (q8, .inr (5, vs))] := by rw [ef_10]; exact hD
          refine lv_aload_n hx hb dX10_node_73 rfl (lv_at hl 0 rfl) ?_
          refine lv_dup hx hb dX10_node_74 rfl ?_
          refine va_get (D := (dC, dI)) (ci := 11) (v := .int 0) (C := RX10) (T := TX10) (N := 8) hx hb hts in_c_X10_node_X10 hown hK hP 0 rfl rfl 3 (by decide) (hts (.fieldLink RX10 29 "ClaimBus" "nodeCount" "I") (List.mem_of_getElem? (i := 1) rfl)) (fun _ h9 => h9) rfl dX10_node_75 ?_
          refine lv_iconst (v := 1) hx hb dX10_node_78 (by decide) ?_
          refine lv_iadd hx hb dX10_node_79 ?_
          refine lv_topi (fun x_11 ex_11 => ?_)
          obtain rfl : x_11 = 1 := ex_11.trans (by decide)
          refine va_put (D := (dC, dI)) (ci := 11) (v := .int 1) (ty := .int) (C := RX10) (T := TX10) (N := 8) hx hb hts in_c_X10_node_X10 tyX10 tyX10_ok nmX10 hown hK hP hD hS 0 rfl rfl 3 (by decide) (hts (.fieldLink RX10 29 "ClaimBus" "nodeCount" "I") (List.mem_of_getElem? (i := 1) rfl)) (fun _ h9 => h9) rfl (by decide +kernel) rfl rfl (Nat.le_of_ble_eq_true rfl) dX10_node_80 (fun H locs hP hD hS => ?_)
          have hP : va_P (dC, dI) vwCl [(h0, .inr (11, [.ref n0, .ref st, .ref la, .int 1, .int 0, .int 0, .int (-1), .int 0])), (n0, .inl (cN, 8, .inr (.inr (.inr (.inr f_10))))), (q8, .inr (5, vs))] H := hP
          have hD : va_D A [(h0, .inr (11, [.ref n0, .ref st, .ref la, .int 1, .int 0, .int 0, .int (-1), .int 0])), (n0, .inl (cN, 8, .inr (.inr (.inr (.inr f_10))))), (q8, .inr (5, vs))] := hD
          refine lv_aload_n hx hb dX10_node_83 rfl (lv_at hl 0 rfl) ?_
          refine va_get (D := (dC, dI)) (ci := 11) (v := .int 1) (C := RX10) (T := TX10) (N := 8) hx hb hts in_c_X10_node_X10 hown hK hP 0 rfl rfl 3 (by decide) (hts (.fieldLink RX10 29 "ClaimBus" "nodeCount" "I") (List.mem_of_getElem? (i := 1) rfl)) (fun _ h9 => h9) rfl dX10_node_84 ?_
          refine lv_iconst (v := 1) hx hb dX10_node_87 (by decide) ?_
          refine lv_isub hx hb dX10_node_88 ?_
          refine lv_topi (fun x_12 ex_12 => ?_)
          obtain rfl : x_12 = 0 := ex_12.trans (by decide)
          exact W.iret (v := 0) hx hb hr (fun t ht hW => ⟨⟨0, (), rfl, (by rw [if_pos ⟨Int32.not_lt.mp c_1, Int32.not_lt.mp c_2, Int32.not_lt.mp c_3, c_4⟩]), trivial⟩, hS.F ht⟩) hS.2.2 dX10_node_89
        · refine lv_iconst (v := -1) hx hb dX10_node_24 (by decide) ?_
          refine W.widen (k := 12) (n := 401) (Nat.le_of_ble_eq_true rfl) (Nat.le_of_ble_eq_true rfl) ?_
          exact W.iret (v := (-1)) hx hb hr (fun t ht hW => ⟨⟨(-1), (), rfl, (by rw [if_neg]; exact fun h => absurd h.2.2.2 c_4), trivial⟩, hS.F ht⟩) hS.2.2 dX10_node_25
