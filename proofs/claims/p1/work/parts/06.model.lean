theorem in01 {P : Prop} [Decidable P] {r : Int32} (e : r = if P then 1 else 0) (c : ¬ r = 0) : P := by
  by_cases h : P
  · exact h
  · exact absurd (e.trans (if_neg h)) c
theorem in00 {P : Prop} [Decidable P] {r : Int32} (e : r = if P then 1 else 0) (c : r = 0) : ¬ P := fun h => absurd ((e.trans (if_pos h)).symm.trans c) (by decide)

def v_c_X11_in : List Cond := .code yX11_in cX11_in 3 (some .boolean) :: ([])
set_option maxHeartbeats 4000000 in
set_option maxRecDepth 100000 in
/-- in: from p1 to p2 -/
theorem c_X11_in (l : Launch) (dC : Nat → ClassId) (dI : Nat → Nat → Nat) (p0 : Int32) (p1 : Int32) (p2 : Int32) (sz : Nat)  : Met l yX11_in v_c_X11_in ({ frames := 0, cells := 0, slots := 0, locals := 0 }) (va_Pc [.int p0, .int p1, .int p2] (fun U => U.heap.size = sz ∧ va_P (dC, dI) vwCl [] U.heap ∧ va_K (dC, dI) vwCl [] U ∧ va_D (fun _ => True) [] ∧ ev U)) (va_Qi (fun (r : Int32) (_ : Unit) => r = if p1 ≤ p0 ∧ p0 ≤ p2 then 1 else 0) (fun (_ : Unit) (_ : State) => True) (va_A [] sz)) 0 0 (va_A [] sz) := by
  refine Met.ofW (cc := cX11_in) (maxL := 3) (ret := (some .boolean)) (by decide) rfl ?_
  intro p e s m args below meth c s₁ B hml hv
  obtain ⟨rfl, hsz, hP, hK, hD0, hE⟩ := hv
  have hx := B.exec
  have hb := B.bytes
  have hr := B.returns
  have hts := atoms_spec (ws := v_c_X11_in) B.pre
  have hown : s.vm.findClass RX11 = some m.cls := findClass_of_methodNamed B.named
  have hlocks := B.notSynchronized
  subst hsz
  have hD := hD0
  generalize hAe : va_A [] s.heap.size = A
  have hA : ∀ q : Nat, s.heap.size ≤ q → A q := fun q h => by rw [← hAe]; exact Or.inr h
  have hS : va_S A s.heap s.heap [] := va_S.rf
  have hP : va_P (dC, dI) vwCl [] s.heap := hP
  have hl := lv_entry ([.int p0, .int p1, .int p2]) (n := 3) (Nat.le_of_ble_eq_true rfl)
  rw [lg_entry_eq]
  generalize (lg_sl ([.int p0, .int p1, .int p2]) ++ List.replicate (3 - (lg_sl ([.int p0, .int p1, .int p2])).length) Slot.unset).toArray = ls at hl ⊢
  have hl : lv_has ls 3 [(0, .int p0), (1, .int p1), (2, .int p2)] := hl
  obtain ⟨H, hH⟩ : ∃ z : Heap, z = s.heap := ⟨_, rfl⟩
  rw [← hH]
  have hS : va_S A s.heap H [] := by rw [hH]; exact va_S.rf
  have hP : va_P (dC, dI) vwCl [] H := by rw [hH]; exact hP
  clear hH
  refine lv_iload_n hx hb dX11_in_0 rfl (lv_at hl 0 rfl) ?_
  refine lv_iload_n hx hb dX11_in_1 rfl (lv_at hl 1 rfl) ?_
  refine lv_icmp_lt (tgt := 14) hx hb dX11_in_2 (by decide) (fun c_1 => ?_) (fun c_1 => ?_)
  · refine lv_iconst (v := 0) hx hb dX11_in_14 (by decide) ?_
    exact W.zret (v := 0) hx hb hr (by decide) (fun t ht hW => ⟨⟨0, (), rfl, (by rw [if_neg]; exact fun h => absurd h.1 (Int32.not_le.mpr c_1)), trivial⟩, hS.F ht⟩) hS.2.2 dX11_in_15
  · refine lv_iload_n hx hb dX11_in_5 rfl (lv_at hl 0 rfl) ?_
    refine lv_iload_n hx hb dX11_in_6 rfl (lv_at hl 2 rfl) ?_
    refine lv_icmp_gt (tgt := 14) hx hb dX11_in_7 (by decide) (fun c_2 => ?_) (fun c_2 => ?_)
    · refine lv_iconst (v := 0) hx hb dX11_in_14 (by decide) ?_
      exact W.zret (v := 0) hx hb hr (by decide) (fun t ht hW => ⟨⟨0, (), rfl, (by rw [if_neg]; exact fun h => absurd h.2 (Int32.not_le.mpr c_2)), trivial⟩, hS.F ht⟩) hS.2.2 dX11_in_15
    · refine lv_iconst (v := 1) hx hb dX11_in_10 (by decide) ?_
      refine lv_goto (tgt := 15) hx hb dX11_in_11 (by decide) ?_
      exact W.zret (v := 1) hx hb hr (by decide) (fun t ht hW => ⟨⟨1, (), rfl, (by rw [if_pos ⟨Int32.not_lt.mp c_1, Int32.not_lt.mp c_2⟩]), trivial⟩, hS.F ht⟩) hS.2.2 dX11_in_15

def v_c_X11_isNode : List Cond := .code yX11_isNode cX11_isNode 2 (some .boolean) :: ([.fieldLink RX11 172 "ClaimBusModel" "nodes" "I", .code yX11_in cX11_in 3 (some .boolean), .initialized RX11, .methodLink RX11 175 yX11_in, .static yX11_in] ++ wsX110)
theorem in_c_X11_isNode_X11 : ∀ w ∈ wsX110, w ∈ v_c_X11_isNode := fun w h => List.mem_cons_of_mem _ (List.mem_append_right _ h)
set_option maxRecDepth 20000 in
theorem g_c_X11_isNode_c_X11_in_175 : GoodIn v_c_X11_isNode (va_wsS RX11 175 yX11_in v_c_X11_in) := goodIn_r _ [4, 5, 3, 2] (by decide +kernel) (by decide +kernel)
set_option maxHeartbeats 4000000 in
set_option maxRecDepth 100000 in
theorem c_X11_isNode (l : Launch) (dC : Nat → ClassId) (dI : Nat → Nat → Nat) (h0 : Nat) (fs : List Value) (p0 : Int32) (sz : Nat) (hf0 : fs[0]? = some (.int 0)) : Met l yX11_isNode v_c_X11_isNode ({ frames := 1, cells := 0, slots := 0, locals := 22 }) (va_Pc [.ref h0, .int p0] (fun U => U.heap.size = sz ∧ va_P (dC, dI) vwCl [(h0, .inr (12, fs))] U.heap ∧ va_K (dC, dI) vwCl [] U ∧ va_D (fun _ => True) [(h0, .inr (12, fs))] ∧ ev U)) (va_Qi (fun (r : Int32) (_ : Unit) => r = 0) (fun (_ : Unit) (_ : State) => True) (va_A [] sz)) 0 0 (va_A [] sz) := by
  refine Met.ofW (cc := cX11_isNode) (maxL := 2) (ret := (some .boolean)) (by decide) rfl ?_
  intro p e s m args below meth c s₁ B hml hv
  obtain ⟨rfl, hsz, hP, hK, hD0, hE⟩ := hv
  have hx := B.exec
  have hb := B.bytes
  have hr := B.returns
  have hts := atoms_spec (ws := v_c_X11_isNode) B.pre
  have hown : s.vm.findClass RX11 = some m.cls := findClass_of_methodNamed B.named
  have hlocks := B.notSynchronized
  subst hsz
  have hD := hD0
  generalize hAe : va_A [] s.heap.size = A
  have hA : ∀ q : Nat, s.heap.size ≤ q → A q := fun q h => by rw [← hAe]; exact Or.inr h
  have hS : va_S A s.heap s.heap [] := va_S.rf
  have hP : va_P (dC, dI) vwCl [(h0, .inr (12, fs))] s.heap := hP
  have hl := lv_entry ([.ref h0, .int p0]) (n := 2) (Nat.le_of_ble_eq_true rfl)
  rw [lg_entry_eq]
  generalize (lg_sl ([.ref h0, .int p0]) ++ List.replicate (2 - (lg_sl ([.ref h0, .int p0])).length) Slot.unset).toArray = ls at hl ⊢
  have hl : lv_has ls 2 [(0, .ref h0), (1, .int p0)] := hl
  obtain ⟨H, hH⟩ : ∃ z : Heap, z = s.heap := ⟨_, rfl⟩
  rw [← hH]
  have hS : va_S A s.heap H [] := by rw [hH]; exact va_S.rf
  have hP : va_P (dC, dI) vwCl [(h0, .inr (12, fs))] H := by rw [hH]; exact hP
  clear hH
  refine lv_iload_n hx hb dX11_isNode_0 rfl (lv_at hl 1 rfl) ?_
  refine lv_iconst (v := 0) hx hb dX11_isNode_1 (by decide) ?_
  refine lv_aload_n hx hb dX11_isNode_2 rfl (lv_at hl 0 rfl) ?_
  refine va_get (D := (dC, dI)) (ci := 12) (v := .int 0) (C := RX11) (T := TX11) (N := 63) hx hb hts in_c_X11_isNode_X11 hown hK hP 0 rfl rfl 0 (by decide) (hts (.fieldLink RX11 172 "ClaimBusModel" "nodes" "I") (List.mem_of_getElem? (i := 1) rfl)) (fun _ h9 => h9) hf0 dX11_isNode_3 ?_
  refine lv_iconst (v := 1) hx hb dX11_isNode_6 (by decide) ?_
  refine lv_isub hx hb dX11_isNode_7 ?_
  refine lv_topi (fun x_1 ex_1 => ?_)
  obtain rfl : x_1 = (-1) := ex_1.trans (by decide)
  have hPc := hP.sub (ws' := []) [] rfl
  have hDc := hD.sub (ws' := []) [] (by decide) rfl
  have hKc := hK.sub (tys' := []) [] rfl
  have hFc := ro_free hS hA
  refine va_calli (va_runS (As := [.int p0, .int 0, .int (-1)]) (rest := []) ⟨hx, hb, hml, hown, hts⟩ (c_X11_in l dC dI (p0) (0) ((-1)) H.size) (va_cwS 3 hts g_c_X11_isNode_c_X11_in_175 rfl rfl rfl (by decide +kernel) ⟨Nat.le_of_ble_eq_true rfl, Nat.le_of_ble_eq_true rfl⟩) ⟨fun a U g mk q => by obtain ⟨q0, q1, qP, qK, qD, qE⟩ := q; exact ⟨q0, q1, qP, va_K.moved (u := U) (U := U.calling g mk a) (Vm.Alike.refl U.vm) qK, qD, ev.same (u := U) (U := U.calling g mk a) rfl qE⟩, fun U hU hW => ⟨rfl, by rw [hU], by rw [hU]; exact hPc, va_K.moved hW.alike hKc, hDc.weaken (fun _ _ _ _ => trivial), hE.warm hW⟩⟩ rfl rfl hl.1 rfl (lv_room (Nat.le_of_ble_eq_true rfl)) dX11_isNode_8 ⟨Nat.le_of_ble_eq_true rfl, Nat.le_of_ble_eq_true rfl⟩) hS (fun q _ h => hFc q h) hFc (fun r_2 u t H1 locs ht hvm hw hB hz1 hk1 hS => ?_)
  clear hPc hDc hKc
  have hP := ro_keep hP hk1
  generalize H1 = H at hP hS ⊢
  have hP : va_P (dC, dI) vwCl [(h0, .inr (12, fs))] H := hP
  have er_2 := hw
  clear hw
  obtain rfl : r_2 = 0 := er_2.trans (if_neg (fun h => absurd (Int32.le_trans h.1 h.2) (by decide)))
  exact W.zret (v := 0) hx hb hr (by decide) (fun t ht hW => ⟨⟨0, (), rfl, rfl, trivial⟩, hS.F ht⟩) hS.2.2 dX11_isNode_11

def v_c_X11_canSend : List Cond := .code yX11_canSend cX11_canSend 2 (some .boolean) :: ([.code yX11_isNode cX11_isNode 2 (some .boolean), .fieldLink RX11 172 "ClaimBusModel" "nodes" "I", .code yX11_in cX11_in 3 (some .boolean), .initialized RX11, .methodLink RX11 175 yX11_in, .static yX11_in, .methodLink RX11 203 yX11_isNode, .instanceMethod yX11_isNode, .selects RX11 yX11_isNode yX11_isNode] ++ wsX110)
theorem in_c_X11_canSend_X11 : ∀ w ∈ wsX110, w ∈ v_c_X11_canSend := fun w h => List.mem_cons_of_mem _ (List.mem_append_right _ h)
set_option maxRecDepth 20000 in
theorem g_c_X11_canSend_c_X11_isNode_203 : GoodIn v_c_X11_canSend (wsV RX11 203 RX11 yX11_isNode v_c_X11_isNode) := goodIn_r _ [7, 8, 9, 4, 1, 2, 3, 4, 5, 6, 10, 11, 12, 13, 14, 15, 16, 17, 18, 19, 20, 21, 22, 23, 24, 25, 26, 27, 28, 29, 30, 31, 32, 33, 34, 35, 36, 37, 38, 39, 40, 41, 42, 43, 44, 45, 46, 47, 48, 49, 50, 51, 52, 53, 54, 55, 56, 57, 58, 59, 60, 61, 62, 63, 64, 65, 66, 67, 68, 69, 70, 71, 72] (by decide +kernel) (by decide +kernel)
set_option maxHeartbeats 4000000 in
set_option maxRecDepth 100000 in
theorem c_X11_canSend (l : Launch) (dC : Nat → ClassId) (dI : Nat → Nat → Nat) (h0 : Nat) (fs : List Value) (p0 : Int32) (sz : Nat) (hf0 : fs[0]? = some (.int 0)) : Met l yX11_canSend v_c_X11_canSend ({ frames := 2, cells := 0, slots := 0, locals := 43 }) (va_Pc [.ref h0, .int p0] (fun U => U.heap.size = sz ∧ va_P (dC, dI) vwCl [(h0, .inr (12, fs))] U.heap ∧ va_K (dC, dI) vwCl [] U ∧ va_D (fun _ => True) [(h0, .inr (12, fs))] ∧ ev U)) (va_Qi (fun (r : Int32) (_ : Unit) => r = 0) (fun (_ : Unit) (_ : State) => True) (va_A [] sz)) 0 0 (va_A [] sz) := by
  refine Met.ofW (cc := cX11_canSend) (maxL := 2) (ret := (some .boolean)) (by decide) rfl ?_
  intro p e s m args below meth c s₁ B hml hv
  obtain ⟨rfl, hsz, hP, hK, hD0, hE⟩ := hv
  have hx := B.exec
  have hb := B.bytes
  have hr := B.returns
  have hts := atoms_spec (ws := v_c_X11_canSend) B.pre
  have hown : s.vm.findClass RX11 = some m.cls := findClass_of_methodNamed B.named
  have hlocks := B.notSynchronized
  subst hsz
  have hD := hD0
  generalize hAe : va_A [] s.heap.size = A
  have hA : ∀ q : Nat, s.heap.size ≤ q → A q := fun q h => by rw [← hAe]; exact Or.inr h
  have hS : va_S A s.heap s.heap [] := va_S.rf
  have hP : va_P (dC, dI) vwCl [(h0, .inr (12, fs))] s.heap := hP
  have hl := lv_entry ([.ref h0, .int p0]) (n := 2) (Nat.le_of_ble_eq_true rfl)
  rw [lg_entry_eq]
  generalize (lg_sl ([.ref h0, .int p0]) ++ List.replicate (2 - (lg_sl ([.ref h0, .int p0])).length) Slot.unset).toArray = ls at hl ⊢
  have hl : lv_has ls 2 [(0, .ref h0), (1, .int p0)] := hl
  obtain ⟨H, hH⟩ : ∃ z : Heap, z = s.heap := ⟨_, rfl⟩
  rw [← hH]
  have hS : va_S A s.heap H [] := by rw [hH]; exact va_S.rf
  have hP : va_P (dC, dI) vwCl [(h0, .inr (12, fs))] H := by rw [hH]; exact hP
  clear hH
  refine lv_aload_n hx hb dX11_canSend_0 rfl (lv_at hl 0 rfl) ?_
  refine lv_iload_n hx hb dX11_canSend_1 rfl (lv_at hl 1 rfl) ?_
  have hPc := hP.sub (ws' := [(h0, .inr (12, fs))]) [0] rfl
  have hDc := hD.sub (ws' := [(h0, .inr (12, fs))]) [0] (by decide) rfl
  have hKc := hK.sub (tys' := []) [] rfl
  have hFc := ro_free hS hA
  refine va_calli (va_runV (As := [.int p0]) (rest := []) ⟨hx, hb, hml, hown, hts⟩ (c_X11_isNode l dC dI (h0) (fs) (p0) H.size (hf0)) (cwV 1 hts g_c_X11_canSend_c_X11_isNode_203 rfl rfl rfl (by decide +kernel) ⟨Nat.le_of_ble_eq_true rfl, Nat.le_of_ble_eq_true rfl⟩) ⟨fun a U g mk q => by obtain ⟨q0, q1, qP, qK, qD, qE⟩ := q; exact ⟨q0, q1, qP, va_K.moved (u := U) (U := U.calling g mk a) (Vm.Alike.refl U.vm) qK, qD, ev.same (u := U) (U := U.calling g mk a) rfl qE⟩, va_recv hKc hPc (ci := 12) (q0 := 0) rfl rfl, fun U hU hW => ⟨rfl, by rw [hU], by rw [hU]; exact hPc, va_K.moved hW.alike hKc, hDc.weaken (fun _ _ _ _ => trivial), hE.warm hW⟩⟩ rfl rfl hl.1 rfl (lv_room (Nat.le_of_ble_eq_true rfl)) dX11_canSend_2 ⟨Nat.le_of_ble_eq_true rfl, Nat.le_of_ble_eq_true rfl⟩) hS (fun q _ h => hFc q h) hFc (fun r_1 u t H1 locs ht hvm hw hB hz1 hk1 hS => ?_)
  clear hPc hDc hKc
  have hP := ro_keep hP hk1
  generalize H1 = H at hP hS ⊢
  have hP : va_P (dC, dI) vwCl [(h0, .inr (12, fs))] H := hP
  have hw := hw.symm
  subst hw
  refine lv_if_eq (tgt := 32) hx hb dX11_canSend_5 (by decide) (fun c_2 => ?_) (fun c_2 => ?_)
  rotate_left
  · exact absurd (by decide) c_2
  refine lv_iconst (v := 0) hx hb dX11_canSend_32 (by decide) ?_
  exact W.zret (v := 0) hx hb hr (by decide) (fun t ht hW => ⟨⟨0, (), rfl, rfl, trivial⟩, hS.F ht⟩) hS.2.2 dX11_canSend_33

def v_c_X11_start : List Cond := .code yX11_start cX11_start 2 (some .boolean) :: ([.code yX11_isNode cX11_isNode 2 (some .boolean), .fieldLink RX11 172 "ClaimBusModel" "nodes" "I", .code yX11_in cX11_in 3 (some .boolean), .initialized RX11, .methodLink RX11 175 yX11_in, .static yX11_in, .methodLink RX11 203 yX11_isNode, .instanceMethod yX11_isNode, .selects RX11 yX11_isNode yX11_isNode] ++ wsX110)
theorem in_c_X11_start_X11 : ∀ w ∈ wsX110, w ∈ v_c_X11_start := fun w h => List.mem_cons_of_mem _ (List.mem_append_right _ h)
set_option maxRecDepth 20000 in
theorem g_c_X11_start_c_X11_isNode_203 : GoodIn v_c_X11_start (wsV RX11 203 RX11 yX11_isNode v_c_X11_isNode) := goodIn_r _ [7, 8, 9, 4, 1, 2, 3, 4, 5, 6, 10, 11, 12, 13, 14, 15, 16, 17, 18, 19, 20, 21, 22, 23, 24, 25, 26, 27, 28, 29, 30, 31, 32, 33, 34, 35, 36, 37, 38, 39, 40, 41, 42, 43, 44, 45, 46, 47, 48, 49, 50, 51, 52, 53, 54, 55, 56, 57, 58, 59, 60, 61, 62, 63, 64, 65, 66, 67, 68, 69, 70, 71, 72] (by decide +kernel) (by decide +kernel)
set_option maxHeartbeats 4000000 in
set_option maxRecDepth 100000 in
theorem c_X11_start (l : Launch) (dC : Nat → ClassId) (dI : Nat → Nat → Nat) (h0 : Nat) (fs : List Value) (p0 : Int32) (sz : Nat) (hf0 : fs[0]? = some (.int 0)) : Met l yX11_start v_c_X11_start ({ frames := 2, cells := 0, slots := 0, locals := 43 }) (va_Pc [.ref h0, .int p0] (fun U => U.heap.size = sz ∧ va_P (dC, dI) vwCl [(h0, .inr (12, fs))] U.heap ∧ va_K (dC, dI) vwCl [] U ∧ va_D (fun _ => True) [(h0, .inr (12, fs))] ∧ ev U)) (va_Qi (fun (r : Int32) (_ : Unit) => r = 0) (fun (_ : Unit) (_ : State) => True) (va_A [] sz)) 0 0 (va_A [] sz) := by
  refine Met.ofW (cc := cX11_start) (maxL := 2) (ret := (some .boolean)) (by decide) rfl ?_
  intro p e s m args below meth c s₁ B hml hv
  obtain ⟨rfl, hsz, hP, hK, hD0, hE⟩ := hv
  have hx := B.exec
  have hb := B.bytes
  have hr := B.returns
  have hts := atoms_spec (ws := v_c_X11_start) B.pre
  have hown : s.vm.findClass RX11 = some m.cls := findClass_of_methodNamed B.named
  have hlocks := B.notSynchronized
  subst hsz
  have hD := hD0
  generalize hAe : va_A [] s.heap.size = A
  have hA : ∀ q : Nat, s.heap.size ≤ q → A q := fun q h => by rw [← hAe]; exact Or.inr h
  have hS : va_S A s.heap s.heap [] := va_S.rf
  have hP : va_P (dC, dI) vwCl [(h0, .inr (12, fs))] s.heap := hP
  have hl := lv_entry ([.ref h0, .int p0]) (n := 2) (Nat.le_of_ble_eq_true rfl)
  rw [lg_entry_eq]
  generalize (lg_sl ([.ref h0, .int p0]) ++ List.replicate (2 - (lg_sl ([.ref h0, .int p0])).length) Slot.unset).toArray = ls at hl ⊢
  have hl : lv_has ls 2 [(0, .ref h0), (1, .int p0)] := hl
  obtain ⟨H, hH⟩ : ∃ z : Heap, z = s.heap := ⟨_, rfl⟩
  rw [← hH]
  have hS : va_S A s.heap H [] := by rw [hH]; exact va_S.rf
  have hP : va_P (dC, dI) vwCl [(h0, .inr (12, fs))] H := by rw [hH]; exact hP
  clear hH
  refine lv_aload_n hx hb dX11_start_0 rfl (lv_at hl 0 rfl) ?_
  refine lv_iload_n hx hb dX11_start_1 rfl (lv_at hl 1 rfl) ?_
  have hPc := hP.sub (ws' := [(h0, .inr (12, fs))]) [0] rfl
  have hDc := hD.sub (ws' := [(h0, .inr (12, fs))]) [0] (by decide) rfl
  have hKc := hK.sub (tys' := []) [] rfl
  have hFc := ro_free hS hA
  refine va_calli (va_runV (As := [.int p0]) (rest := []) ⟨hx, hb, hml, hown, hts⟩ (c_X11_isNode l dC dI (h0) (fs) (p0) H.size (hf0)) (cwV 1 hts g_c_X11_start_c_X11_isNode_203 rfl rfl rfl (by decide +kernel) ⟨Nat.le_of_ble_eq_true rfl, Nat.le_of_ble_eq_true rfl⟩) ⟨fun a U g mk q => by obtain ⟨q0, q1, qP, qK, qD, qE⟩ := q; exact ⟨q0, q1, qP, va_K.moved (u := U) (U := U.calling g mk a) (Vm.Alike.refl U.vm) qK, qD, ev.same (u := U) (U := U.calling g mk a) rfl qE⟩, va_recv hKc hPc (ci := 12) (q0 := 0) rfl rfl, fun U hU hW => ⟨rfl, by rw [hU], by rw [hU]; exact hPc, va_K.moved hW.alike hKc, hDc.weaken (fun _ _ _ _ => trivial), hE.warm hW⟩⟩ rfl rfl hl.1 rfl (lv_room (Nat.le_of_ble_eq_true rfl)) dX11_start_2 ⟨Nat.le_of_ble_eq_true rfl, Nat.le_of_ble_eq_true rfl⟩) hS (fun q _ h => hFc q h) hFc (fun r_1 u t H1 locs ht hvm hw hB hz1 hk1 hS => ?_)
  clear hPc hDc hKc
  have hP := ro_keep hP hk1
  generalize H1 = H at hP hS ⊢
  have hP : va_P (dC, dI) vwCl [(h0, .inr (12, fs))] H := hP
  have hw := hw.symm
  subst hw
  refine lv_if_eq (tgt := 17) hx hb dX11_start_5 (by decide) (fun c_2 => ?_) (fun c_2 => ?_)
  rotate_left
  · exact absurd (by decide) c_2
  refine lv_iconst (v := 0) hx hb dX11_start_17 (by decide) ?_
  exact W.zret (v := 0) hx hb hr (by decide) (fun t ht hW => ⟨⟨0, (), rfl, rfl, trivial⟩, hS.F ht⟩) hS.2.2 dX11_start_18

def v_c_X11_stop : List Cond := .code yX11_stop cX11_stop 3 (some .boolean) :: ([.code yX11_isNode cX11_isNode 2 (some .boolean), .fieldLink RX11 172 "ClaimBusModel" "nodes" "I", .code yX11_in cX11_in 3 (some .boolean), .initialized RX11, .methodLink RX11 175 yX11_in, .static yX11_in, .methodLink RX11 203 yX11_isNode, .instanceMethod yX11_isNode, .selects RX11 yX11_isNode yX11_isNode] ++ wsX110)
theorem in_c_X11_stop_X11 : ∀ w ∈ wsX110, w ∈ v_c_X11_stop := fun w h => List.mem_cons_of_mem _ (List.mem_append_right _ h)
set_option maxRecDepth 20000 in
theorem g_c_X11_stop_c_X11_isNode_203 : GoodIn v_c_X11_stop (wsV RX11 203 RX11 yX11_isNode v_c_X11_isNode) := goodIn_r _ [7, 8, 9, 4, 1, 2, 3, 4, 5, 6, 10, 11, 12, 13, 14, 15, 16, 17, 18, 19, 20, 21, 22, 23, 24, 25, 26, 27, 28, 29, 30, 31, 32, 33, 34, 35, 36, 37, 38, 39, 40, 41, 42, 43, 44, 45, 46, 47, 48, 49, 50, 51, 52, 53, 54, 55, 56, 57, 58, 59, 60, 61, 62, 63, 64, 65, 66, 67, 68, 69, 70, 71, 72] (by decide +kernel) (by decide +kernel)
set_option maxHeartbeats 4000000 in
set_option maxRecDepth 100000 in
theorem c_X11_stop (l : Launch) (dC : Nat → ClassId) (dI : Nat → Nat → Nat) (h0 : Nat) (fs : List Value) (p0 : Int32) (sz : Nat) (hf0 : fs[0]? = some (.int 0)) : Met l yX11_stop v_c_X11_stop ({ frames := 2, cells := 0, slots := 0, locals := 43 }) (va_Pc [.ref h0, .int p0] (fun U => U.heap.size = sz ∧ va_P (dC, dI) vwCl [(h0, .inr (12, fs))] U.heap ∧ va_K (dC, dI) vwCl [] U ∧ va_D (fun _ => True) [(h0, .inr (12, fs))] ∧ ev U)) (va_Qi (fun (r : Int32) (_ : Unit) => r = 0) (fun (_ : Unit) (_ : State) => True) (va_A [] sz)) 0 0 (va_A [] sz) := by
  refine Met.ofW (cc := cX11_stop) (maxL := 3) (ret := (some .boolean)) (by decide) rfl ?_
  intro p e s m args below meth c s₁ B hml hv
  obtain ⟨rfl, hsz, hP, hK, hD0, hE⟩ := hv
  have hx := B.exec
  have hb := B.bytes
  have hr := B.returns
  have hts := atoms_spec (ws := v_c_X11_stop) B.pre
  have hown : s.vm.findClass RX11 = some m.cls := findClass_of_methodNamed B.named
  have hlocks := B.notSynchronized
  subst hsz
  have hD := hD0
  generalize hAe : va_A [] s.heap.size = A
  have hA : ∀ q : Nat, s.heap.size ≤ q → A q := fun q h => by rw [← hAe]; exact Or.inr h
  have hS : va_S A s.heap s.heap [] := va_S.rf
  have hP : va_P (dC, dI) vwCl [(h0, .inr (12, fs))] s.heap := hP
  have hl := lv_entry ([.ref h0, .int p0]) (n := 3) (Nat.le_of_ble_eq_true rfl)
  rw [lg_entry_eq]
  generalize (lg_sl ([.ref h0, .int p0]) ++ List.replicate (3 - (lg_sl ([.ref h0, .int p0])).length) Slot.unset).toArray = ls at hl ⊢
  have hl : lv_has ls 3 [(0, .ref h0), (1, .int p0)] := hl
  obtain ⟨H, hH⟩ : ∃ z : Heap, z = s.heap := ⟨_, rfl⟩
  rw [← hH]
  have hS : va_S A s.heap H [] := by rw [hH]; exact va_S.rf
  have hP : va_P (dC, dI) vwCl [(h0, .inr (12, fs))] H := by rw [hH]; exact hP
  clear hH
  refine lv_aload_n hx hb dX11_stop_0 rfl (lv_at hl 0 rfl) ?_
  refine lv_iload_n hx hb dX11_stop_1 rfl (lv_at hl 1 rfl) ?_
  have hPc := hP.sub (ws' := [(h0, .inr (12, fs))]) [0] rfl
  have hDc := hD.sub (ws' := [(h0, .inr (12, fs))]) [0] (by decide) rfl
  have hKc := hK.sub (tys' := []) [] rfl
  have hFc := ro_free hS hA
  refine va_calli (va_runV (As := [.int p0]) (rest := []) ⟨hx, hb, hml, hown, hts⟩ (c_X11_isNode l dC dI (h0) (fs) (p0) H.size (hf0)) (cwV 1 hts g_c_X11_stop_c_X11_isNode_203 rfl rfl rfl (by decide +kernel) ⟨Nat.le_of_ble_eq_true rfl, Nat.le_of_ble_eq_true rfl⟩) ⟨fun a U g mk q => by obtain ⟨q0, q1, qP, qK, qD, qE⟩ := q; exact ⟨q0, q1, qP, va_K.moved (u := U) (U := U.calling g mk a) (Vm.Alike.refl U.vm) qK, qD, ev.same (u := U) (U := U.calling g mk a) rfl qE⟩, va_recv hKc hPc (ci := 12) (q0 := 0) rfl rfl, fun U hU hW => ⟨rfl, by rw [hU], by rw [hU]; exact hPc, va_K.moved hW.alike hKc, hDc.weaken (fun _ _ _ _ => trivial), hE.warm hW⟩⟩ rfl rfl hl.1 rfl (lv_room (Nat.le_of_ble_eq_true rfl)) dX11_stop_2 ⟨Nat.le_of_ble_eq_true rfl, Nat.le_of_ble_eq_true rfl⟩) hS (fun q _ h => hFc q h) hFc (fun r_1 u t H1 locs ht hvm hw hB hz1 hk1 hS => ?_)
  clear hPc hDc hKc
  have hP := ro_keep hP hk1
  generalize H1 = H at hP hS ⊢
  have hP : va_P (dC, dI) vwCl [(h0, .inr (12, fs))] H := hP
  have hw := hw.symm
  subst hw
  refine lv_if_eq (tgt := 17) hx hb dX11_stop_5 (by decide) (fun c_2 => ?_) (fun c_2 => ?_)
  rotate_left
  · exact absurd (by decide) c_2
  refine lv_iconst (v := 0) hx hb dX11_stop_17 (by decide) ?_
  exact W.zret (v := 0) hx hb hr (by decide) (fun t ht hW => ⟨⟨0, (), rfl, rfl, trivial⟩, hS.F ht⟩) hS.2.2 dX11_stop_18

def v_c_X11_request : List Cond := .code yX11_request cX11_request 3 (some .boolean) :: ([.code yX11_isNode cX11_isNode 2 (some .boolean), .fieldLink RX11 172 "ClaimBusModel" "nodes" "I", .code yX11_in cX11_in 3 (some .boolean), .initialized RX11, .methodLink RX11 175 yX11_in, .static yX11_in, .methodLink RX11 203 yX11_isNode, .instanceMethod yX11_isNode, .selects RX11 yX11_isNode yX11_isNode] ++ wsX110)
theorem in_c_X11_request_X11 : ∀ w ∈ wsX110, w ∈ v_c_X11_request := fun w h => List.mem_cons_of_mem _ (List.mem_append_right _ h)
set_option maxRecDepth 20000 in
theorem g_c_X11_request_c_X11_isNode_203 : GoodIn v_c_X11_request (wsV RX11 203 RX11 yX11_isNode v_c_X11_isNode) := goodIn_r _ [7, 8, 9, 4, 1, 2, 3, 4, 5, 6, 10, 11, 12, 13, 14, 15, 16, 17, 18, 19, 20, 21, 22, 23, 24, 25, 26, 27, 28, 29, 30, 31, 32, 33, 34, 35, 36, 37, 38, 39, 40, 41, 42, 43, 44, 45, 46, 47, 48, 49, 50, 51, 52, 53, 54, 55, 56, 57, 58, 59, 60, 61, 62, 63, 64, 65, 66, 67, 68, 69, 70, 71, 72] (by decide +kernel) (by decide +kernel)
set_option maxHeartbeats 4000000 in
set_option maxRecDepth 100000 in
theorem c_X11_request (l : Launch) (dC : Nat → ClassId) (dI : Nat → Nat → Nat) (h0 : Nat) (fs : List Value) (p0 : Int32) (p1 : Int32) (sz : Nat) (hf0 : fs[0]? = some (.int 0)) : Met l yX11_request v_c_X11_request ({ frames := 2, cells := 0, slots := 0, locals := 43 }) (va_Pc [.ref h0, .int p0, .int p1] (fun U => U.heap.size = sz ∧ va_P (dC, dI) vwCl [(h0, .inr (12, fs))] U.heap ∧ va_K (dC, dI) vwCl [] U ∧ va_D (fun _ => True) [(h0, .inr (12, fs))] ∧ ev U)) (va_Qi (fun (r : Int32) (_ : Unit) => r = 0) (fun (_ : Unit) (_ : State) => True) (va_A [] sz)) 0 0 (va_A [] sz) := by
  refine Met.ofW (cc := cX11_request) (maxL := 3) (ret := (some .boolean)) (by decide) rfl ?_
  intro p e s m args below meth c s₁ B hml hv
  obtain ⟨rfl, hsz, hP, hK, hD0, hE⟩ := hv
  have hx := B.exec
  have hb := B.bytes
  have hr := B.returns
  have hts := atoms_spec (ws := v_c_X11_request) B.pre
  have hown : s.vm.findClass RX11 = some m.cls := findClass_of_methodNamed B.named
  have hlocks := B.notSynchronized
  subst hsz
  have hD := hD0
  generalize hAe : va_A [] s.heap.size = A
  have hA : ∀ q : Nat, s.heap.size ≤ q → A q := fun q h => by rw [← hAe]; exact Or.inr h
  have hS : va_S A s.heap s.heap [] := va_S.rf
  have hP : va_P (dC, dI) vwCl [(h0, .inr (12, fs))] s.heap := hP
  have hl := lv_entry ([.ref h0, .int p0, .int p1]) (n := 3) (Nat.le_of_ble_eq_true rfl)
  rw [lg_entry_eq]
  generalize (lg_sl ([.ref h0, .int p0, .int p1]) ++ List.replicate (3 - (lg_sl ([.ref h0, .int p0, .int p1])).length) Slot.unset).toArray = ls at hl ⊢
  have hl : lv_has ls 3 [(0, .ref h0), (1, .int p0), (2, .int p1)] := hl
  obtain ⟨H, hH⟩ : ∃ z : Heap, z = s.heap := ⟨_, rfl⟩
  rw [← hH]
  have hS : va_S A s.heap H [] := by rw [hH]; exact va_S.rf
  have hP : va_P (dC, dI) vwCl [(h0, .inr (12, fs))] H := by rw [hH]; exact hP
  clear hH
  refine lv_aload_n hx hb dX11_request_0 rfl (lv_at hl 0 rfl) ?_
  refine lv_iload_n hx hb dX11_request_1 rfl (lv_at hl 1 rfl) ?_
  have hPc := hP.sub (ws' := [(h0, .inr (12, fs))]) [0] rfl
  have hDc := hD.sub (ws' := [(h0, .inr (12, fs))]) [0] (by decide) rfl
  have hKc := hK.sub (tys' := []) [] rfl
  have hFc := ro_free hS hA
  refine va_calli (va_runV (As := [.int p0]) (rest := []) ⟨hx, hb, hml, hown, hts⟩ (c_X11_isNode l dC dI (h0) (fs) (p0) H.size (hf0)) (cwV 1 hts g_c_X11_request_c_X11_isNode_203 rfl rfl rfl (by decide +kernel) ⟨Nat.le_of_ble_eq_true rfl, Nat.le_of_ble_eq_true rfl⟩) ⟨fun a U g mk q => by obtain ⟨q0, q1, qP, qK, qD, qE⟩ := q; exact ⟨q0, q1, qP, va_K.moved (u := U) (U := U.calling g mk a) (Vm.Alike.refl U.vm) qK, qD, ev.same (u := U) (U := U.calling g mk a) rfl qE⟩, va_recv hKc hPc (ci := 12) (q0 := 0) rfl rfl, fun U hU hW => ⟨rfl, by rw [hU], by rw [hU]; exact hPc, va_K.moved hW.alike hKc, hDc.weaken (fun _ _ _ _ => trivial), hE.warm hW⟩⟩ rfl rfl hl.1 rfl (lv_room (Nat.le_of_ble_eq_true rfl)) dX11_request_2 ⟨Nat.le_of_ble_eq_true rfl, Nat.le_of_ble_eq_true rfl⟩) hS (fun q _ h => hFc q h) hFc (fun r_1 u t H1 locs ht hvm hw hB hz1 hk1 hS => ?_)
  clear hPc hDc hKc
  have hP := ro_keep hP hk1
  generalize H1 = H at hP hS ⊢
  have hP : va_P (dC, dI) vwCl [(h0, .inr (12, fs))] H := hP
  have hw := hw.symm
  subst hw
  refine lv_if_eq (tgt := 36) hx hb dX11_request_5 (by decide) (fun c_2 => ?_) (fun c_2 => ?_)
  rotate_left
  · exact absurd (by decide) c_2
  refine lv_iconst (v := 0) hx hb dX11_request_36 (by decide) ?_
  exact W.zret (v := 0) hx hb hr (by decide) (fun t ht hW => ⟨⟨0, (), rfl, rfl, trivial⟩, hS.F ht⟩) hS.2.2 dX11_request_37

def v_c_X11_send : List Cond := .code yX11_send cX11_send 9 (some .boolean) :: ([.code yX11_canSend cX11_canSend 2 (some .boolean), .code yX11_isNode cX11_isNode 2 (some .boolean), .fieldLink RX11 172 "ClaimBusModel" "nodes" "I", .code yX11_in cX11_in 3 (some .boolean), .initialized RX11, .methodLink RX11 175 yX11_in, .static yX11_in, .methodLink RX11 203 yX11_isNode, .instanceMethod yX11_isNode, .selects RX11 yX11_isNode yX11_isNode, .methodLink RX11 231 yX11_canSend, .instanceMethod yX11_canSend, .selects RX11 yX11_canSend yX11_canSend] ++ wsX110)
theorem in_c_X11_send_X11 : ∀ w ∈ wsX110, w ∈ v_c_X11_send := fun w h => List.mem_cons_of_mem _ (List.mem_append_right _ h)
set_option maxRecDepth 20000 in
theorem g_c_X11_send_c_X11_canSend_231 : GoodIn v_c_X11_send (wsV RX11 231 RX11 yX11_canSend v_c_X11_canSend) := goodIn_r _ [11, 12, 13, 5, 1, 2, 3, 4, 5, 6, 7, 8, 9, 10, 14, 15, 16, 17, 18, 19, 20, 21, 22, 23, 24, 25, 26, 27, 28, 29, 30, 31, 32, 33, 34, 35, 36, 37, 38, 39, 40, 41, 42, 43, 44, 45, 46, 47, 48, 49, 50, 51, 52, 53, 54, 55, 56, 57, 58, 59, 60, 61, 62, 63, 64, 65, 66, 67, 68, 69, 70, 71, 72, 73, 74, 75, 76] (by decide +kernel) (by decide +kernel)
set_option maxHeartbeats 4000000 in
set_option maxRecDepth 100000 in
theorem c_X11_send (l : Launch) (dC : Nat → ClassId) (dI : Nat → Nat → Nat) (h0 : Nat) (fs : List Value) (p0 : Int32) (p1 : Int32) (p2 : Int32) (p3 : Int32) (p4 : Int32) (sz : Nat) (hf0 : fs[0]? = some (.int 0)) : Met l yX11_send v_c_X11_send ({ frames := 3, cells := 0, slots := 0, locals := 64 }) (va_Pc [.ref h0, .int p0, .int p1, .int p2, .int p3, .int p4] (fun U => U.heap.size = sz ∧ va_P (dC, dI) vwCl [(h0, .inr (12, fs))] U.heap ∧ va_K (dC, dI) vwCl [] U ∧ va_D (fun _ => True) [(h0, .inr (12, fs))] ∧ ev U)) (va_Qi (fun (r : Int32) (_ : Unit) => r = 0) (fun (_ : Unit) (_ : State) => True) (va_A [] sz)) 0 0 (va_A [] sz) := by
  refine Met.ofW (cc := cX11_send) (maxL := 9) (ret := (some .boolean)) (by decide) rfl ?_
  intro p e s m args below meth c s₁ B hml hv
  obtain ⟨rfl, hsz, hP, hK, hD0, hE⟩ := hv
  have hx := B.exec
  have hb := B.bytes
  have hr := B.returns
  have hts := atoms_spec (ws := v_c_X11_send) B.pre
  have hown : s.vm.findClass RX11 = some m.cls := findClass_of_methodNamed B.named
  have hlocks := B.notSynchronized
  subst hsz
  have hD := hD0
  generalize hAe : va_A [] s.heap.size = A
  have hA : ∀ q : Nat, s.heap.size ≤ q → A q := fun q h => by rw [← hAe]; exact Or.inr h
  have hS : va_S A s.heap s.heap [] := va_S.rf
  have hP : va_P (dC, dI) vwCl [(h0, .inr (12, fs))] s.heap := hP
  have hl := lv_entry ([.ref h0, .int p0, .int p1, .int p2, .int p3, .int p4]) (n := 9) (Nat.le_of_ble_eq_true rfl)
  rw [lg_entry_eq]
  generalize (lg_sl ([.ref h0, .int p0, .int p1, .int p2, .int p3, .int p4]) ++ List.replicate (9 - (lg_sl ([.ref h0, .int p0, .int p1, .int p2, .int p3, .int p4])).length) Slot.unset).toArray = ls at hl ⊢
  have hl : lv_has ls 9 [(0, .ref h0), (1, .int p0), (2, .int p1), (3, .int p2), (4, .int p3), (5, .int p4)] := hl
  obtain ⟨H, hH⟩ : ∃ z : Heap, z = s.heap := ⟨_, rfl⟩
  rw [← hH]
  have hS : va_S A s.heap H [] := by rw [hH]; exact va_S.rf
  have hP : va_P (dC, dI) vwCl [(h0, .inr (12, fs))] H := by rw [hH]; exact hP
  clear hH
  refine lv_aload_n hx hb dX11_send_0 rfl (lv_at hl 0 rfl) ?_
  refine lv_iload_n hx hb dX11_send_1 rfl (lv_at hl 1 rfl) ?_
  have hPc := hP.sub (ws' := [(h0, .inr (12, fs))]) [0] rfl
  have hDc := hD.sub (ws' := [(h0, .inr (12, fs))]) [0] (by decide) rfl
  have hKc := hK.sub (tys' := []) [] rfl
  have hFc := ro_free hS hA
  refine va_calli (va_runV (As := [.int p0]) (rest := []) ⟨hx, hb, hml, hown, hts⟩ (c_X11_canSend l dC dI (h0) (fs) (p0) H.size (hf0)) (cwV 1 hts g_c_X11_send_c_X11_canSend_231 rfl rfl rfl (by decide +kernel) ⟨Nat.le_of_ble_eq_true rfl, Nat.le_of_ble_eq_true rfl⟩) ⟨fun a U g mk q => by obtain ⟨q0, q1, qP, qK, qD, qE⟩ := q; exact ⟨q0, q1, qP, va_K.moved (u := U) (U := U.calling g mk a) (Vm.Alike.refl U.vm) qK, qD, ev.same (u := U) (U := U.calling g mk a) rfl qE⟩, va_recv hKc hPc (ci := 12) (q0 := 0) rfl rfl, fun U hU hW => ⟨rfl, by rw [hU], by rw [hU]; exact hPc, va_K.moved hW.alike hKc, hDc.weaken (fun _ _ _ _ => trivial), hE.warm hW⟩⟩ rfl rfl hl.1 rfl (lv_room (Nat.le_of_ble_eq_true rfl)) dX11_send_2 ⟨Nat.le_of_ble_eq_true rfl, Nat.le_of_ble_eq_true rfl⟩) hS (fun q _ h => hFc q h) hFc (fun r_1 u t H1 locs ht hvm hw hB hz1 hk1 hS => ?_)
  clear hPc hDc hKc
  have hP := ro_keep hP hk1
  generalize H1 = H at hP hS ⊢
  have hP : va_P (dC, dI) vwCl [(h0, .inr (12, fs))] H := hP
  have hw := hw.symm
  subst hw
  refine lv_if_eq (tgt := 48) hx hb dX11_send_5 (by decide) (fun c_2 => ?_) (fun c_2 => ?_)
  rotate_left
  · exact absurd (by decide) c_2
  refine lv_iconst (v := 0) hx hb dX11_send_48 (by decide) ?_
  exact W.zret (v := 0) hx hb hr (by decide) (fun t ht hW => ⟨⟨0, (), rfl, rfl, trivial⟩, hS.F ht⟩) hS.2.2 dX11_send_49

def v_c_X11_trouble : List Cond := .code yX11_trouble cX11_trouble 6 (some .int) :: ([.code yX11_isNode cX11_isNode 2 (some .boolean), .fieldLink RX11 172 "ClaimBusModel" "nodes" "I", .code yX11_in cX11_in 3 (some .boolean), .initialized RX11, .methodLink RX11 175 yX11_in, .static yX11_in, .methodLink RX11 203 yX11_isNode, .instanceMethod yX11_isNode, .selects RX11 yX11_isNode yX11_isNode] ++ wsX110)
theorem in_c_X11_trouble_X11 : ∀ w ∈ wsX110, w ∈ v_c_X11_trouble := fun w h => List.mem_cons_of_mem _ (List.mem_append_right _ h)
set_option maxRecDepth 20000 in
theorem g_c_X11_trouble_c_X11_isNode_203 : GoodIn v_c_X11_trouble (wsV RX11 203 RX11 yX11_isNode v_c_X11_isNode) := goodIn_r _ [7, 8, 9, 4, 1, 2, 3, 4, 5, 6, 10, 11, 12, 13, 14, 15, 16, 17, 18, 19, 20, 21, 22, 23, 24, 25, 26, 27, 28, 29, 30, 31, 32, 33, 34, 35, 36, 37, 38, 39, 40, 41, 42, 43, 44, 45, 46, 47, 48, 49, 50, 51, 52, 53, 54, 55, 56, 57, 58, 59, 60, 61, 62, 63, 64, 65, 66, 67, 68, 69, 70, 71, 72] (by decide +kernel) (by decide +kernel)
set_option maxHeartbeats 4000000 in
set_option maxRecDepth 100000 in
theorem c_X11_trouble (l : Launch) (dC : Nat → ClassId) (dI : Nat → Nat → Nat) (h0 : Nat) (fs : List Value) (p0 : Int32) (p1 : Int32) (p2 : Int32) (p3 : Int32) (sz : Nat) (hf0 : fs[0]? = some (.int 0)) : Met l yX11_trouble v_c_X11_trouble ({ frames := 2, cells := 0, slots := 0, locals := 43 }) (va_Pc [.ref h0, .int p0, .int p1, .int p2, .int p3] (fun U => U.heap.size = sz ∧ va_P (dC, dI) vwCl [(h0, .inr (12, fs))] U.heap ∧ va_K (dC, dI) vwCl [] U ∧ va_D (fun _ => True) [(h0, .inr (12, fs))] ∧ ev U)) (va_Qi (fun (r : Int32) (_ : Unit) => r = (-1)) (fun (_ : Unit) (_ : State) => True) (va_A [] sz)) 0 0 (va_A [] sz) := by
  refine Met.ofW (cc := cX11_trouble) (maxL := 6) (ret := (some .int)) (by decide) rfl ?_
  intro p e s m args below meth c s₁ B hml hv
  obtain ⟨rfl, hsz, hP, hK, hD0, hE⟩ := hv
  have hx := B.exec
  have hb := B.bytes
  have hr := B.returns
  have hts := atoms_spec (ws := v_c_X11_trouble) B.pre
  have hown : s.vm.findClass RX11 = some m.cls := findClass_of_methodNamed B.named
  have hlocks := B.notSynchronized
  subst hsz
  have hD := hD0
  generalize hAe : va_A [] s.heap.size = A
  have hA : ∀ q : Nat, s.heap.size ≤ q → A q := fun q h => by rw [← hAe]; exact Or.inr h
  have hS : va_S A s.heap s.heap [] := va_S.rf
  have hP : va_P (dC, dI) vwCl [(h0, .inr (12, fs))] s.heap := hP
  have hl := lv_entry ([.ref h0, .int p0, .int p1, .int p2, .int p3]) (n := 6) (Nat.le_of_ble_eq_true rfl)
  rw [lg_entry_eq]
  generalize (lg_sl ([.ref h0, .int p0, .int p1, .int p2, .int p3]) ++ List.replicate (6 - (lg_sl ([.ref h0, .int p0, .int p1, .int p2, .int p3])).length) Slot.unset).toArray = ls at hl ⊢
  have hl : lv_has ls 6 [(0, .ref h0), (1, .int p0), (2, .int p1), (3, .int p2), (4, .int p3)] := hl
  obtain ⟨H, hH⟩ : ∃ z : Heap, z = s.heap := ⟨_, rfl⟩
  rw [← hH]
  have hS : va_S A s.heap H [] := by rw [hH]; exact va_S.rf
  have hP : va_P (dC, dI) vwCl [(h0, .inr (12, fs))] H := by rw [hH]; exact hP
  clear hH
  refine lv_aload_n hx hb dX11_trouble_0 rfl (lv_at hl 0 rfl) ?_
  refine lv_iload_n hx hb dX11_trouble_1 rfl (lv_at hl 1 rfl) ?_
  have hPc := hP.sub (ws' := [(h0, .inr (12, fs))]) [0] rfl
  have hDc := hD.sub (ws' := [(h0, .inr (12, fs))]) [0] (by decide) rfl
  have hKc := hK.sub (tys' := []) [] rfl
  have hFc := ro_free hS hA
  refine va_calli (va_runV (As := [.int p0]) (rest := []) ⟨hx, hb, hml, hown, hts⟩ (c_X11_isNode l dC dI (h0) (fs) (p0) H.size (hf0)) (cwV 1 hts g_c_X11_trouble_c_X11_isNode_203 rfl rfl rfl (by decide +kernel) ⟨Nat.le_of_ble_eq_true rfl, Nat.le_of_ble_eq_true rfl⟩) ⟨fun a U g mk q => by obtain ⟨q0, q1, qP, qK, qD, qE⟩ := q; exact ⟨q0, q1, qP, va_K.moved (u := U) (U := U.calling g mk a) (Vm.Alike.refl U.vm) qK, qD, ev.same (u := U) (U := U.calling g mk a) rfl qE⟩, va_recv hKc hPc (ci := 12) (q0 := 0) rfl rfl, fun U hU hW => ⟨rfl, by rw [hU], by rw [hU]; exact hPc, va_K.moved hW.alike hKc, hDc.weaken (fun _ _ _ _ => trivial), hE.warm hW⟩⟩ rfl rfl hl.1 rfl (lv_room (Nat.le_of_ble_eq_true rfl)) dX11_trouble_2 ⟨Nat.le_of_ble_eq_true rfl, Nat.le_of_ble_eq_true rfl⟩) hS (fun q _ h => hFc q h) hFc (fun r_1 u t H1 locs ht hvm hw hB hz1 hk1 hS => ?_)
  clear hPc hDc hKc
  have hP := ro_keep hP hk1
  generalize H1 = H at hP hS ⊢
  have hP : va_P (dC, dI) vwCl [(h0, .inr (12, fs))] H := hP
  have hw := hw.symm
  subst hw
  refine lv_if_eq (tgt := 50) hx hb dX11_trouble_5 (by decide) (fun c_2 => ?_) (fun c_2 => ?_)
  rotate_left
  · exact absurd (by decide) c_2
  refine lv_iconst (v := -1) hx hb dX11_trouble_50 (by decide) ?_
  exact W.iret (v := (-1)) hx hb hr (fun t ht hW => ⟨⟨(-1), (), rfl, rfl, trivial⟩, hS.F ht⟩) hS.2.2 dX11_trouble_51

def v_c_X11_tell : List Cond := .code yX11_tell cX11_tell 5 (some .boolean) :: ([.code yX11_canSend cX11_canSend 2 (some .boolean), .code yX11_isNode cX11_isNode 2 (some .boolean), .fieldLink RX11 172 "ClaimBusModel" "nodes" "I", .code yX11_in cX11_in 3 (some .boolean), .initialized RX11, .methodLink RX11 175 yX11_in, .static yX11_in, .methodLink RX11 203 yX11_isNode, .instanceMethod yX11_isNode, .selects RX11 yX11_isNode yX11_isNode, .methodLink RX11 231 yX11_canSend, .instanceMethod yX11_canSend, .selects RX11 yX11_canSend yX11_canSend] ++ wsX110)
theorem in_c_X11_tell_X11 : ∀ w ∈ wsX110, w ∈ v_c_X11_tell := fun w h => List.mem_cons_of_mem _ (List.mem_append_right _ h)
set_option maxRecDepth 20000 in
theorem g_c_X11_tell_c_X11_canSend_231 : GoodIn v_c_X11_tell (wsV RX11 231 RX11 yX11_canSend v_c_X11_canSend) := goodIn_r _ [11, 12, 13, 5, 1, 2, 3, 4, 5, 6, 7, 8, 9, 10, 14, 15, 16, 17, 18, 19, 20, 21, 22, 23, 24, 25, 26, 27, 28, 29, 30, 31, 32, 33, 34, 35, 36, 37, 38, 39, 40, 41, 42, 43, 44, 45, 46, 47, 48, 49, 50, 51, 52, 53, 54, 55, 56, 57, 58, 59, 60, 61, 62, 63, 64, 65, 66, 67, 68, 69, 70, 71, 72, 73, 74, 75, 76] (by decide +kernel) (by decide +kernel)
set_option maxHeartbeats 4000000 in
set_option maxRecDepth 100000 in
theorem c_X11_tell (l : Launch) (dC : Nat → ClassId) (dI : Nat → Nat → Nat) (h0 : Nat) (fs : List Value) (p0 : Int32) (sz : Nat) (hf0 : fs[0]? = some (.int 0)) : Met l yX11_tell v_c_X11_tell ({ frames := 3, cells := 0, slots := 0, locals := 64 }) (va_Pc [.ref h0, .int p0] (fun U => U.heap.size = sz ∧ va_P (dC, dI) vwCl [(h0, .inr (12, fs))] U.heap ∧ va_K (dC, dI) vwCl [] U ∧ va_D (fun _ => True) [(h0, .inr (12, fs))] ∧ ev U)) (va_Qi (fun (r : Int32) (_ : Unit) => r = 0) (fun (_ : Unit) (_ : State) => True) (va_A [] sz)) 0 0 (va_A [] sz) := by
  refine Met.ofW (cc := cX11_tell) (maxL := 5) (ret := (some .boolean)) (by decide) rfl ?_
  intro p e s m args below meth c s₁ B hml hv
  obtain ⟨rfl, hsz, hP, hK, hD0, hE⟩ := hv
  have hx := B.exec
  have hb := B.bytes
  have hr := B.returns
  have hts := atoms_spec (ws := v_c_X11_tell) B.pre
  have hown : s.vm.findClass RX11 = some m.cls := findClass_of_methodNamed B.named
  have hlocks := B.notSynchronized
  subst hsz
  have hD := hD0
  generalize hAe : va_A [] s.heap.size = A
  have hA : ∀ q : Nat, s.heap.size ≤ q → A q := fun q h => by rw [← hAe]; exact Or.inr h
  have hS : va_S A s.heap s.heap [] := va_S.rf
  have hP : va_P (dC, dI) vwCl [(h0, .inr (12, fs))] s.heap := hP
  have hl := lv_entry ([.ref h0, .int p0]) (n := 5) (Nat.le_of_ble_eq_true rfl)
  rw [lg_entry_eq]
  generalize (lg_sl ([.ref h0, .int p0]) ++ List.replicate (5 - (lg_sl ([.ref h0, .int p0])).length) Slot.unset).toArray = ls at hl ⊢
  have hl : lv_has ls 5 [(0, .ref h0), (1, .int p0)] := hl
  obtain ⟨H, hH⟩ : ∃ z : Heap, z = s.heap := ⟨_, rfl⟩
  rw [← hH]
  have hS : va_S A s.heap H [] := by rw [hH]; exact va_S.rf
  have hP : va_P (dC, dI) vwCl [(h0, .inr (12, fs))] H := by rw [hH]; exact hP
  clear hH
  refine lv_aload_n hx hb dX11_tell_0 rfl (lv_at hl 0 rfl) ?_
  refine lv_iload_n hx hb dX11_tell_1 rfl (lv_at hl 1 rfl) ?_
  have hPc := hP.sub (ws' := [(h0, .inr (12, fs))]) [0] rfl
  have hDc := hD.sub (ws' := [(h0, .inr (12, fs))]) [0] (by decide) rfl
  have hKc := hK.sub (tys' := []) [] rfl
  have hFc := ro_free hS hA
  refine va_calli (va_runV (As := [.int p0]) (rest := []) ⟨hx, hb, hml, hown, hts⟩ (c_X11_canSend l dC dI (h0) (fs) (p0) H.size (hf0)) (cwV 1 hts g_c_X11_tell_c_X11_canSend_231 rfl rfl rfl (by decide +kernel) ⟨Nat.le_of_ble_eq_true rfl, Nat.le_of_ble_eq_true rfl⟩) ⟨fun a U g mk q => by obtain ⟨q0, q1, qP, qK, qD, qE⟩ := q; exact ⟨q0, q1, qP, va_K.moved (u := U) (U := U.calling g mk a) (Vm.Alike.refl U.vm) qK, qD, ev.same (u := U) (U := U.calling g mk a) rfl qE⟩, va_recv hKc hPc (ci := 12) (q0 := 0) rfl rfl, fun U hU hW => ⟨rfl, by rw [hU], by rw [hU]; exact hPc, va_K.moved hW.alike hKc, hDc.weaken (fun _ _ _ _ => trivial), hE.warm hW⟩⟩ rfl rfl hl.1 rfl (lv_room (Nat.le_of_ble_eq_true rfl)) dX11_tell_2 ⟨Nat.le_of_ble_eq_true rfl, Nat.le_of_ble_eq_true rfl⟩) hS (fun q _ h => hFc q h) hFc (fun r_1 u t H1 locs ht hvm hw hB hz1 hk1 hS => ?_)
  clear hPc hDc hKc
  have hP := ro_keep hP hk1
  generalize H1 = H at hP hS ⊢
  have hP : va_P (dC, dI) vwCl [(h0, .inr (12, fs))] H := hP
  have hw := hw.symm
  subst hw
  refine lv_if_ne (tgt := 10) hx hb dX11_tell_5 (by decide) (fun c_2 => ?_) (fun c_2 => ?_)
  · exact absurd c_2 (by decide)
  refine lv_iconst (v := 0) hx hb dX11_tell_8 (by decide) ?_
  exact W.zret (v := 0) hx hb hr (by decide) (fun t ht hW => ⟨⟨0, (), rfl, rfl, trivial⟩, hS.F ht⟩) hS.2.2 dX11_tell_9

def v_c_X11_lose : List Cond := .code yX11_lose cX11_lose 3 (some .boolean) :: ([.code yX11_isNode cX11_isNode 2 (some .boolean), .fieldLink RX11 172 "ClaimBusModel" "nodes" "I", .code yX11_in cX11_in 3 (some .boolean), .initialized RX11, .methodLink RX11 175 yX11_in, .static yX11_in, .methodLink RX11 203 yX11_isNode, .instanceMethod yX11_isNode, .selects RX11 yX11_isNode yX11_isNode] ++ wsX110)
theorem in_c_X11_lose_X11 : ∀ w ∈ wsX110, w ∈ v_c_X11_lose := fun w h => List.mem_cons_of_mem _ (List.mem_append_right _ h)
set_option maxRecDepth 20000 in
theorem g_c_X11_lose_c_X11_isNode_203 : GoodIn v_c_X11_lose (wsV RX11 203 RX11 yX11_isNode v_c_X11_isNode) := goodIn_r _ [7, 8, 9, 4, 1, 2, 3, 4, 5, 6, 10, 11, 12, 13, 14, 15, 16, 17, 18, 19, 20, 21, 22, 23, 24, 25, 26, 27, 28, 29, 30, 31, 32, 33, 34, 35, 36, 37, 38, 39, 40, 41, 42, 43, 44, 45, 46, 47, 48, 49, 50, 51, 52, 53, 54, 55, 56, 57, 58, 59, 60, 61, 62, 63, 64, 65, 66, 67, 68, 69, 70, 71, 72] (by decide +kernel) (by decide +kernel)
set_option maxHeartbeats 4000000 in
set_option maxRecDepth 100000 in
theorem c_X11_lose (l : Launch) (dC : Nat → ClassId) (dI : Nat → Nat → Nat) (h0 : Nat) (fs : List Value) (p0 : Int32) (p1 : Int32) (sz : Nat) (hf0 : fs[0]? = some (.int 0)) : Met l yX11_lose v_c_X11_lose ({ frames := 2, cells := 0, slots := 0, locals := 43 }) (va_Pc [.ref h0, .int p0, .int p1] (fun U => U.heap.size = sz ∧ va_P (dC, dI) vwCl [(h0, .inr (12, fs))] U.heap ∧ va_K (dC, dI) vwCl [] U ∧ va_D (fun _ => True) [(h0, .inr (12, fs))] ∧ ev U)) (va_Qi (fun (r : Int32) (_ : Unit) => r = 0) (fun (_ : Unit) (_ : State) => True) (va_A [] sz)) 0 0 (va_A [] sz) := by
  refine Met.ofW (cc := cX11_lose) (maxL := 3) (ret := (some .boolean)) (by decide) rfl ?_
  intro p e s m args below meth c s₁ B hml hv
  obtain ⟨rfl, hsz, hP, hK, hD0, hE⟩ := hv
  have hx := B.exec
  have hb := B.bytes
  have hr := B.returns
  have hts := atoms_spec (ws := v_c_X11_lose) B.pre
  have hown : s.vm.findClass RX11 = some m.cls := findClass_of_methodNamed B.named
  have hlocks := B.notSynchronized
  subst hsz
  have hD := hD0
  generalize hAe : va_A [] s.heap.size = A
  have hA : ∀ q : Nat, s.heap.size ≤ q → A q := fun q h => by rw [← hAe]; exact Or.inr h
  have hS : va_S A s.heap s.heap [] := va_S.rf
  have hP : va_P (dC, dI) vwCl [(h0, .inr (12, fs))] s.heap := hP
  have hl := lv_entry ([.ref h0, .int p0, .int p1]) (n := 3) (Nat.le_of_ble_eq_true rfl)
  rw [lg_entry_eq]
  generalize (lg_sl ([.ref h0, .int p0, .int p1]) ++ List.replicate (3 - (lg_sl ([.ref h0, .int p0, .int p1])).length) Slot.unset).toArray = ls at hl ⊢
  have hl : lv_has ls 3 [(0, .ref h0), (1, .int p0), (2, .int p1)] := hl
  obtain ⟨H, hH⟩ : ∃ z : Heap, z = s.heap := ⟨_, rfl⟩
  rw [← hH]
  have hS : va_S A s.heap H [] := by rw [hH]; exact va_S.rf
  have hP : va_P (dC, dI) vwCl [(h0, .inr (12, fs))] H := by rw [hH]; exact hP
  clear hH
  refine lv_aload_n hx hb dX11_lose_0 rfl (lv_at hl 0 rfl) ?_
  refine lv_iload_n hx hb dX11_lose_1 rfl (lv_at hl 1 rfl) ?_
  have hPc := hP.sub (ws' := [(h0, .inr (12, fs))]) [0] rfl
  have hDc := hD.sub (ws' := [(h0, .inr (12, fs))]) [0] (by decide) rfl
  have hKc := hK.sub (tys' := []) [] rfl
  have hFc := ro_free hS hA
  refine va_calli (va_runV (As := [.int p0]) (rest := []) ⟨hx, hb, hml, hown, hts⟩ (c_X11_isNode l dC dI (h0) (fs) (p0) H.size (hf0)) (cwV 1 hts g_c_X11_lose_c_X11_isNode_203 rfl rfl rfl (by decide +kernel) ⟨Nat.le_of_ble_eq_true rfl, Nat.le_of_ble_eq_true rfl⟩) ⟨fun a U g mk q => by obtain ⟨q0, q1, qP, qK, qD, qE⟩ := q; exact ⟨q0, q1, qP, va_K.moved (u := U) (U := U.calling g mk a) (Vm.Alike.refl U.vm) qK, qD, ev.same (u := U) (U := U.calling g mk a) rfl qE⟩, va_recv hKc hPc (ci := 12) (q0 := 0) rfl rfl, fun U hU hW => ⟨rfl, by rw [hU], by rw [hU]; exact hPc, va_K.moved hW.alike hKc, hDc.weaken (fun _ _ _ _ => trivial), hE.warm hW⟩⟩ rfl rfl hl.1 rfl (lv_room (Nat.le_of_ble_eq_true rfl)) dX11_lose_2 ⟨Nat.le_of_ble_eq_true rfl, Nat.le_of_ble_eq_true rfl⟩) hS (fun q _ h => hFc q h) hFc (fun r_1 u t H1 locs ht hvm hw hB hz1 hk1 hS => ?_)
  clear hPc hDc hKc
  have hP := ro_keep hP hk1
  generalize H1 = H at hP hS ⊢
  have hP : va_P (dC, dI) vwCl [(h0, .inr (12, fs))] H := hP
  have hw := hw.symm
  subst hw
  refine lv_if_eq (tgt := 18) hx hb dX11_lose_5 (by decide) (fun c_2 => ?_) (fun c_2 => ?_)
  rotate_left
  · exact absurd (by decide) c_2
  refine lv_iconst (v := 0) hx hb dX11_lose_18 (by decide) ?_
  exact W.zret (v := 0) hx hb hr (by decide) (fun t ht hW => ⟨⟨0, (), rfl, rfl, trivial⟩, hS.F ht⟩) hS.2.2 dX11_lose_19

def v_c_X11_told : List Cond := .code yX11_told cX11_told 5 (some .int) :: ([.code yX11_isNode cX11_isNode 2 (some .boolean), .fieldLink RX11 172 "ClaimBusModel" "nodes" "I", .code yX11_in cX11_in 3 (some .boolean), .initialized RX11, .methodLink RX11 175 yX11_in, .static yX11_in, .methodLink RX11 203 yX11_isNode, .instanceMethod yX11_isNode, .selects RX11 yX11_isNode yX11_isNode] ++ wsX110)
theorem in_c_X11_told_X11 : ∀ w ∈ wsX110, w ∈ v_c_X11_told := fun w h => List.mem_cons_of_mem _ (List.mem_append_right _ h)
set_option maxRecDepth 20000 in
theorem g_c_X11_told_c_X11_isNode_203 : GoodIn v_c_X11_told (wsV RX11 203 RX11 yX11_isNode v_c_X11_isNode) := goodIn_r _ [7, 8, 9, 4, 1, 2, 3, 4, 5, 6, 10, 11, 12, 13, 14, 15, 16, 17, 18, 19, 20, 21, 22, 23, 24, 25, 26, 27, 28, 29, 30, 31, 32, 33, 34, 35, 36, 37, 38, 39, 40, 41, 42, 43, 44, 45, 46, 47, 48, 49, 50, 51, 52, 53, 54, 55, 56, 57, 58, 59, 60, 61, 62, 63, 64, 65, 66, 67, 68, 69, 70, 71, 72] (by decide +kernel) (by decide +kernel)
set_option maxHeartbeats 4000000 in
set_option maxRecDepth 100000 in
theorem c_X11_told (l : Launch) (dC : Nat → ClassId) (dI : Nat → Nat → Nat) (h0 : Nat) (fs : List Value) (p0 : Int32) (p1 : Int32) (sz : Nat) (hf0 : fs[0]? = some (.int 0)) : Met l yX11_told v_c_X11_told ({ frames := 2, cells := 0, slots := 0, locals := 43 }) (va_Pc [.ref h0, .int p0, .int p1] (fun U => U.heap.size = sz ∧ va_P (dC, dI) vwCl [(h0, .inr (12, fs))] U.heap ∧ va_K (dC, dI) vwCl [] U ∧ va_D (fun _ => True) [(h0, .inr (12, fs))] ∧ ev U)) (va_Qi (fun (r : Int32) (_ : Unit) => r = (-1)) (fun (_ : Unit) (_ : State) => True) (va_A [] sz)) 0 0 (va_A [] sz) := by
  refine Met.ofW (cc := cX11_told) (maxL := 5) (ret := (some .int)) (by decide) rfl ?_
  intro p e s m args below meth c s₁ B hml hv
  obtain ⟨rfl, hsz, hP, hK, hD0, hE⟩ := hv
  have hx := B.exec
  have hb := B.bytes
  have hr := B.returns
  have hts := atoms_spec (ws := v_c_X11_told) B.pre
  have hown : s.vm.findClass RX11 = some m.cls := findClass_of_methodNamed B.named
  have hlocks := B.notSynchronized
  subst hsz
  have hD := hD0
  generalize hAe : va_A [] s.heap.size = A
  have hA : ∀ q : Nat, s.heap.size ≤ q → A q := fun q h => by rw [← hAe]; exact Or.inr h
  have hS : va_S A s.heap s.heap [] := va_S.rf
  have hP : va_P (dC, dI) vwCl [(h0, .inr (12, fs))] s.heap := hP
  have hl := lv_entry ([.ref h0, .int p0, .int p1]) (n := 5) (Nat.le_of_ble_eq_true rfl)
  rw [lg_entry_eq]
  generalize (lg_sl ([.ref h0, .int p0, .int p1]) ++ List.replicate (5 - (lg_sl ([.ref h0, .int p0, .int p1])).length) Slot.unset).toArray = ls at hl ⊢
  have hl : lv_has ls 5 [(0, .ref h0), (1, .int p0), (2, .int p1)] := hl
  obtain ⟨H, hH⟩ : ∃ z : Heap, z = s.heap := ⟨_, rfl⟩
  rw [← hH]
  have hS : va_S A s.heap H [] := by rw [hH]; exact va_S.rf
  have hP : va_P (dC, dI) vwCl [(h0, .inr (12, fs))] H := by rw [hH]; exact hP
  clear hH
  refine lv_aload_n hx hb dX11_told_0 rfl (lv_at hl 0 rfl) ?_
  refine lv_iload_n hx hb dX11_told_1 rfl (lv_at hl 1 rfl) ?_
  have hPc := hP.sub (ws' := [(h0, .inr (12, fs))]) [0] rfl
  have hDc := hD.sub (ws' := [(h0, .inr (12, fs))]) [0] (by decide) rfl
  have hKc := hK.sub (tys' := []) [] rfl
  have hFc := ro_free hS hA
  refine va_calli (va_runV (As := [.int p0]) (rest := []) ⟨hx, hb, hml, hown, hts⟩ (c_X11_isNode l dC dI (h0) (fs) (p0) H.size (hf0)) (cwV 1 hts g_c_X11_told_c_X11_isNode_203 rfl rfl rfl (by decide +kernel) ⟨Nat.le_of_ble_eq_true rfl, Nat.le_of_ble_eq_true rfl⟩) ⟨fun a U g mk q => by obtain ⟨q0, q1, qP, qK, qD, qE⟩ := q; exact ⟨q0, q1, qP, va_K.moved (u := U) (U := U.calling g mk a) (Vm.Alike.refl U.vm) qK, qD, ev.same (u := U) (U := U.calling g mk a) rfl qE⟩, va_recv hKc hPc (ci := 12) (q0 := 0) rfl rfl, fun U hU hW => ⟨rfl, by rw [hU], by rw [hU]; exact hPc, va_K.moved hW.alike hKc, hDc.weaken (fun _ _ _ _ => trivial), hE.warm hW⟩⟩ rfl rfl hl.1 rfl (lv_room (Nat.le_of_ble_eq_true rfl)) dX11_told_2 ⟨Nat.le_of_ble_eq_true rfl, Nat.le_of_ble_eq_true rfl⟩) hS (fun q _ h => hFc q h) hFc (fun r_1 u t H1 locs ht hvm hw hB hz1 hk1 hS => ?_)
  clear hPc hDc hKc
  have hP := ro_keep hP hk1
  generalize H1 = H at hP hS ⊢
  have hP : va_P (dC, dI) vwCl [(h0, .inr (12, fs))] H := hP
  have hw := hw.symm
  subst hw
  refine lv_if_ne (tgt := 10) hx hb dX11_told_5 (by decide) (fun c_2 => ?_) (fun c_2 => ?_)
  · exact absurd c_2 (by decide)
  refine lv_iconst (v := -1) hx hb dX11_told_8 (by decide) ?_
  exact W.iret (v := (-1)) hx hb hr (fun t ht hW => ⟨⟨(-1), (), rfl, rfl, trivial⟩, hS.F ht⟩) hS.2.2 dX11_told_9

def v_c_X11_table : List Cond := .code yX11_table cX11_table 3 (some .int) :: ([.code yX11_isNode cX11_isNode 2 (some .boolean), .fieldLink RX11 172 "ClaimBusModel" "nodes" "I", .code yX11_in cX11_in 3 (some .boolean), .initialized RX11, .methodLink RX11 175 yX11_in, .static yX11_in, .methodLink RX11 203 yX11_isNode, .instanceMethod yX11_isNode, .selects RX11 yX11_isNode yX11_isNode] ++ wsX110)
theorem in_c_X11_table_X11 : ∀ w ∈ wsX110, w ∈ v_c_X11_table := fun w h => List.mem_cons_of_mem _ (List.mem_append_right _ h)
set_option maxRecDepth 20000 in
theorem g_c_X11_table_c_X11_isNode_203 : GoodIn v_c_X11_table (wsV RX11 203 RX11 yX11_isNode v_c_X11_isNode) := goodIn_r _ [7, 8, 9, 4, 1, 2, 3, 4, 5, 6, 10, 11, 12, 13, 14, 15, 16, 17, 18, 19, 20, 21, 22, 23, 24, 25, 26, 27, 28, 29, 30, 31, 32, 33, 34, 35, 36, 37, 38, 39, 40, 41, 42, 43, 44, 45, 46, 47, 48, 49, 50, 51, 52, 53, 54, 55, 56, 57, 58, 59, 60, 61, 62, 63, 64, 65, 66, 67, 68, 69, 70, 71, 72] (by decide +kernel) (by decide +kernel)
set_option maxHeartbeats 4000000 in
set_option maxRecDepth 100000 in
theorem c_X11_table (l : Launch) (dC : Nat → ClassId) (dI : Nat → Nat → Nat) (h0 : Nat) (fs : List Value) (p0 : Int32) (p1 : Int32) (sz : Nat) (hf0 : fs[0]? = some (.int 0)) : Met l yX11_table v_c_X11_table ({ frames := 2, cells := 0, slots := 0, locals := 43 }) (va_Pc [.ref h0, .int p0, .int p1] (fun U => U.heap.size = sz ∧ va_P (dC, dI) vwCl [(h0, .inr (12, fs))] U.heap ∧ va_K (dC, dI) vwCl [] U ∧ va_D (fun _ => True) [(h0, .inr (12, fs))] ∧ ev U)) (va_Qi (fun (r : Int32) (_ : Unit) => r = (-1)) (fun (_ : Unit) (_ : State) => True) (va_A [] sz)) 0 0 (va_A [] sz) := by
  refine Met.ofW (cc := cX11_table) (maxL := 3) (ret := (some .int)) (by decide) rfl ?_
  intro p e s m args below meth c s₁ B hml hv
  obtain ⟨rfl, hsz, hP, hK, hD0, hE⟩ := hv
  have hx := B.exec
  have hb := B.bytes
  have hr := B.returns
  have hts := atoms_spec (ws := v_c_X11_table) B.pre
  have hown : s.vm.findClass RX11 = some m.cls := findClass_of_methodNamed B.named
  have hlocks := B.notSynchronized
  subst hsz
  have hD := hD0
  generalize hAe : va_A [] s.heap.size = A
  have hA : ∀ q : Nat, s.heap.size ≤ q → A q := fun q h => by rw [← hAe]; exact Or.inr h
  have hS : va_S A s.heap s.heap [] := va_S.rf
  have hP : va_P (dC, dI) vwCl [(h0, .inr (12, fs))] s.heap := hP
  have hl := lv_entry ([.ref h0, .int p0, .int p1]) (n := 3) (Nat.le_of_ble_eq_true rfl)
  rw [lg_entry_eq]
  generalize (lg_sl ([.ref h0, .int p0, .int p1]) ++ List.replicate (3 - (lg_sl ([.ref h0, .int p0, .int p1])).length) Slot.unset).toArray = ls at hl ⊢
  have hl : lv_has ls 3 [(0, .ref h0), (1, .int p0), (2, .int p1)] := hl
  obtain ⟨H, hH⟩ : ∃ z : Heap, z = s.heap := ⟨_, rfl⟩
  rw [← hH]
  have hS : va_S A s.heap H [] := by rw [hH]; exact va_S.rf
  have hP : va_P (dC, dI) vwCl [(h0, .inr (12, fs))] H := by rw [hH]; exact hP
  clear hH
  refine lv_aload_n hx hb dX11_table_0 rfl (lv_at hl 0 rfl) ?_
  refine lv_iload_n hx hb dX11_table_1 rfl (lv_at hl 1 rfl) ?_
  have hPc := hP.sub (ws' := [(h0, .inr (12, fs))]) [0] rfl
  have hDc := hD.sub (ws' := [(h0, .inr (12, fs))]) [0] (by decide) rfl
  have hKc := hK.sub (tys' := []) [] rfl
  have hFc := ro_free hS hA
  refine va_calli (va_runV (As := [.int p0]) (rest := []) ⟨hx, hb, hml, hown, hts⟩ (c_X11_isNode l dC dI (h0) (fs) (p0) H.size (hf0)) (cwV 1 hts g_c_X11_table_c_X11_isNode_203 rfl rfl rfl (by decide +kernel) ⟨Nat.le_of_ble_eq_true rfl, Nat.le_of_ble_eq_true rfl⟩) ⟨fun a U g mk q => by obtain ⟨q0, q1, qP, qK, qD, qE⟩ := q; exact ⟨q0, q1, qP, va_K.moved (u := U) (U := U.calling g mk a) (Vm.Alike.refl U.vm) qK, qD, ev.same (u := U) (U := U.calling g mk a) rfl qE⟩, va_recv hKc hPc (ci := 12) (q0 := 0) rfl rfl, fun U hU hW => ⟨rfl, by rw [hU], by rw [hU]; exact hPc, va_K.moved hW.alike hKc, hDc.weaken (fun _ _ _ _ => trivial), hE.warm hW⟩⟩ rfl rfl hl.1 rfl (lv_room (Nat.le_of_ble_eq_true rfl)) dX11_table_2 ⟨Nat.le_of_ble_eq_true rfl, Nat.le_of_ble_eq_true rfl⟩) hS (fun q _ h => hFc q h) hFc (fun r_1 u t H1 locs ht hvm hw hB hz1 hk1 hS => ?_)
  clear hPc hDc hKc
  have hP := ro_keep hP hk1
  generalize H1 = H at hP hS ⊢
  have hP : va_P (dC, dI) vwCl [(h0, .inr (12, fs))] H := hP
  have hw := hw.symm
  subst hw
  refine lv_if_eq (tgt := 34) hx hb dX11_table_5 (by decide) (fun c_2 => ?_) (fun c_2 => ?_)
  rotate_left
  · exact absurd (by decide) c_2
  refine lv_iconst (v := -1) hx hb dX11_table_34 (by decide) ?_
  exact W.iret (v := (-1)) hx hb hr (fun t ht hW => ⟨⟨(-1), (), rfl, rfl, trivial⟩, hS.F ht⟩) hS.2.2 dX11_table_35

def v_c_X11_message : List Cond := .code yX11_message cX11_message 4 (some .int) :: ([.code yX11_isNode cX11_isNode 2 (some .boolean), .fieldLink RX11 172 "ClaimBusModel" "nodes" "I", .code yX11_in cX11_in 3 (some .boolean), .initialized RX11, .methodLink RX11 175 yX11_in, .static yX11_in, .methodLink RX11 203 yX11_isNode, .instanceMethod yX11_isNode, .selects RX11 yX11_isNode yX11_isNode] ++ wsX110)
theorem in_c_X11_message_X11 : ∀ w ∈ wsX110, w ∈ v_c_X11_message := fun w h => List.mem_cons_of_mem _ (List.mem_append_right _ h)
set_option maxRecDepth 20000 in
theorem g_c_X11_message_c_X11_isNode_203 : GoodIn v_c_X11_message (wsV RX11 203 RX11 yX11_isNode v_c_X11_isNode) := goodIn_r _ [7, 8, 9, 4, 1, 2, 3, 4, 5, 6, 10, 11, 12, 13, 14, 15, 16, 17, 18, 19, 20, 21, 22, 23, 24, 25, 26, 27, 28, 29, 30, 31, 32, 33, 34, 35, 36, 37, 38, 39, 40, 41, 42, 43, 44, 45, 46, 47, 48, 49, 50, 51, 52, 53, 54, 55, 56, 57, 58, 59, 60, 61, 62, 63, 64, 65, 66, 67, 68, 69, 70, 71, 72] (by decide +kernel) (by decide +kernel)
set_option maxHeartbeats 4000000 in
set_option maxRecDepth 100000 in
theorem c_X11_message (l : Launch) (dC : Nat → ClassId) (dI : Nat → Nat → Nat) (h0 : Nat) (fs : List Value) (p0 : Int32) (p1 : Int32) (p2 : Int32) (sz : Nat) (hf0 : fs[0]? = some (.int 0)) : Met l yX11_message v_c_X11_message ({ frames := 2, cells := 0, slots := 0, locals := 43 }) (va_Pc [.ref h0, .int p0, .int p1, .int p2] (fun U => U.heap.size = sz ∧ va_P (dC, dI) vwCl [(h0, .inr (12, fs))] U.heap ∧ va_K (dC, dI) vwCl [] U ∧ va_D (fun _ => True) [(h0, .inr (12, fs))] ∧ ev U)) (va_Qi (fun (r : Int32) (_ : Unit) => r = (-1)) (fun (_ : Unit) (_ : State) => True) (va_A [] sz)) 0 0 (va_A [] sz) := by
  refine Met.ofW (cc := cX11_message) (maxL := 4) (ret := (some .int)) (by decide) rfl ?_
  intro p e s m args below meth c s₁ B hml hv
  obtain ⟨rfl, hsz, hP, hK, hD0, hE⟩ := hv
  have hx := B.exec
  have hb := B.bytes
  have hr := B.returns
  have hts := atoms_spec (ws := v_c_X11_message) B.pre
  have hown : s.vm.findClass RX11 = some m.cls := findClass_of_methodNamed B.named
  have hlocks := B.notSynchronized
  subst hsz
  have hD := hD0
  generalize hAe : va_A [] s.heap.size = A
  have hA : ∀ q : Nat, s.heap.size ≤ q → A q := fun q h => by rw [← hAe]; exact Or.inr h
  have hS : va_S A s.heap s.heap [] := va_S.rf
  have hP : va_P (dC, dI) vwCl [(h0, .inr (12, fs))] s.heap := hP
  have hl := lv_entry ([.ref h0, .int p0, .int p1, .int p2]) (n := 4) (Nat.le_of_ble_eq_true rfl)
  rw [lg_entry_eq]
  generalize (lg_sl ([.ref h0, .int p0, .int p1, .int p2]) ++ List.replicate (4 - (lg_sl ([.ref h0, .int p0, .int p1, .int p2])).length) Slot.unset).toArray = ls at hl ⊢
  have hl : lv_has ls 4 [(0, .ref h0), (1, .int p0), (2, .int p1), (3, .int p2)] := hl
  obtain ⟨H, hH⟩ : ∃ z : Heap, z = s.heap := ⟨_, rfl⟩
  rw [← hH]
  have hS : va_S A s.heap H [] := by rw [hH]; exact va_S.rf
  have hP : va_P (dC, dI) vwCl [(h0, .inr (12, fs))] H := by rw [hH]; exact hP
  clear hH
  refine lv_aload_n hx hb dX11_message_0 rfl (lv_at hl 0 rfl) ?_
  refine lv_iload_n hx hb dX11_message_1 rfl (lv_at hl 1 rfl) ?_
  have hPc := hP.sub (ws' := [(h0, .inr (12, fs))]) [0] rfl
  have hDc := hD.sub (ws' := [(h0, .inr (12, fs))]) [0] (by decide) rfl
  have hKc := hK.sub (tys' := []) [] rfl
  have hFc := ro_free hS hA
  refine va_calli (va_runV (As := [.int p0]) (rest := []) ⟨hx, hb, hml, hown, hts⟩ (c_X11_isNode l dC dI (h0) (fs) (p0) H.size (hf0)) (cwV 1 hts g_c_X11_message_c_X11_isNode_203 rfl rfl rfl (by decide +kernel) ⟨Nat.le_of_ble_eq_true rfl, Nat.le_of_ble_eq_true rfl⟩) ⟨fun a U g mk q => by obtain ⟨q0, q1, qP, qK, qD, qE⟩ := q; exact ⟨q0, q1, qP, va_K.moved (u := U) (U := U.calling g mk a) (Vm.Alike.refl U.vm) qK, qD, ev.same (u := U) (U := U.calling g mk a) rfl qE⟩, va_recv hKc hPc (ci := 12) (q0 := 0) rfl rfl, fun U hU hW => ⟨rfl, by rw [hU], by rw [hU]; exact hPc, va_K.moved hW.alike hKc, hDc.weaken (fun _ _ _ _ => trivial), hE.warm hW⟩⟩ rfl rfl hl.1 rfl (lv_room (Nat.le_of_ble_eq_true rfl)) dX11_message_2 ⟨Nat.le_of_ble_eq_true rfl, Nat.le_of_ble_eq_true rfl⟩) hS (fun q _ h => hFc q h) hFc (fun r_1 u t H1 locs ht hvm hw hB hz1 hk1 hS => ?_)
  clear hPc hDc hKc
  have hP := ro_keep hP hk1
  generalize H1 = H at hP hS ⊢
  have hP : va_P (dC, dI) vwCl [(h0, .inr (12, fs))] H := hP
  have hw := hw.symm
  subst hw
  refine lv_if_eq (tgt := 37) hx hb dX11_message_5 (by decide) (fun c_2 => ?_) (fun c_2 => ?_)
  rotate_left
  · exact absurd (by decide) c_2
  refine lv_iconst (v := -1) hx hb dX11_message_37 (by decide) ?_
  exact W.iret (v := (-1)) hx hb hr (fun t ht hW => ⟨⟨(-1), (), rfl, rfl, trivial⟩, hS.F ht⟩) hS.2.2 dX11_message_38

def v_c_X11_kept : List Cond := .code yX11_kept cX11_kept 6 (some .int) :: ([.code yX11_isNode cX11_isNode 2 (some .boolean), .fieldLink RX11 172 "ClaimBusModel" "nodes" "I", .code yX11_in cX11_in 3 (some .boolean), .initialized RX11, .methodLink RX11 175 yX11_in, .static yX11_in, .methodLink RX11 203 yX11_isNode, .instanceMethod yX11_isNode, .selects RX11 yX11_isNode yX11_isNode] ++ wsX110)
theorem in_c_X11_kept_X11 : ∀ w ∈ wsX110, w ∈ v_c_X11_kept := fun w h => List.mem_cons_of_mem _ (List.mem_append_right _ h)
set_option maxRecDepth 20000 in
theorem g_c_X11_kept_c_X11_isNode_203 : GoodIn v_c_X11_kept (wsV RX11 203 RX11 yX11_isNode v_c_X11_isNode) := goodIn_r _ [7, 8, 9, 4, 1, 2, 3, 4, 5, 6, 10, 11, 12, 13, 14, 15, 16, 17, 18, 19, 20, 21, 22, 23, 24, 25, 26, 27, 28, 29, 30, 31, 32, 33, 34, 35, 36, 37, 38, 39, 40, 41, 42, 43, 44, 45, 46, 47, 48, 49, 50, 51, 52, 53, 54, 55, 56, 57, 58, 59, 60, 61, 62, 63, 64, 65, 66, 67, 68, 69, 70, 71, 72] (by decide +kernel) (by decide +kernel)
set_option maxHeartbeats 4000000 in
set_option maxRecDepth 100000 in
theorem c_X11_kept (l : Launch) (dC : Nat → ClassId) (dI : Nat → Nat → Nat) (h0 : Nat) (fs : List Value) (p0 : Int32) (p1 : Int32) (p2 : Int32) (p3 : Int32) (sz : Nat) (hf0 : fs[0]? = some (.int 0)) : Met l yX11_kept v_c_X11_kept ({ frames := 2, cells := 0, slots := 0, locals := 43 }) (va_Pc [.ref h0, .int p0, .int p1, .int p2, .int p3] (fun U => U.heap.size = sz ∧ va_P (dC, dI) vwCl [(h0, .inr (12, fs))] U.heap ∧ va_K (dC, dI) vwCl [] U ∧ va_D (fun _ => True) [(h0, .inr (12, fs))] ∧ ev U)) (va_Qi (fun (r : Int32) (_ : Unit) => r = (-1)) (fun (_ : Unit) (_ : State) => True) (va_A [] sz)) 0 0 (va_A [] sz) := by
  refine Met.ofW (cc := cX11_kept) (maxL := 6) (ret := (some .int)) (by decide) rfl ?_
  intro p e s m args below meth c s₁ B hml hv
  obtain ⟨rfl, hsz, hP, hK, hD0, hE⟩ := hv
  have hx := B.exec
  have hb := B.bytes
  have hr := B.returns
  have hts := atoms_spec (ws := v_c_X11_kept) B.pre
  have hown : s.vm.findClass RX11 = some m.cls := findClass_of_methodNamed B.named
  have hlocks := B.notSynchronized
  subst hsz
  have hD := hD0
  generalize hAe : va_A [] s.heap.size = A
  have hA : ∀ q : Nat, s.heap.size ≤ q → A q := fun q h => by rw [← hAe]; exact Or.inr h
  have hS : va_S A s.heap s.heap [] := va_S.rf
  have hP : va_P (dC, dI) vwCl [(h0, .inr (12, fs))] s.heap := hP
  have hl := lv_entry ([.ref h0, .int p0, .int p1, .int p2, .int p3]) (n := 6) (Nat.le_of_ble_eq_true rfl)
  rw [lg_entry_eq]
  generalize (lg_sl ([.ref h0, .int p0, .int p1, .int p2, .int p3]) ++ List.replicate (6 - (lg_sl ([.ref h0, .int p0, .int p1, .int p2, .int p3])).length) Slot.unset).toArray = ls at hl ⊢
  have hl : lv_has ls 6 [(0, .ref h0), (1, .int p0), (2, .int p1), (3, .int p2), (4, .int p3)] := hl
  obtain ⟨H, hH⟩ : ∃ z : Heap, z = s.heap := ⟨_, rfl⟩
  rw [← hH]
  have hS : va_S A s.heap H [] := by rw [hH]; exact va_S.rf
  have hP : va_P (dC, dI) vwCl [(h0, .inr (12, fs))] H := by rw [hH]; exact hP
  clear hH
  refine lv_aload_n hx hb dX11_kept_0 rfl (lv_at hl 0 rfl) ?_
  refine lv_iload_n hx hb dX11_kept_1 rfl (lv_at hl 1 rfl) ?_
  have hPc := hP.sub (ws' := [(h0, .inr (12, fs))]) [0] rfl
  have hDc := hD.sub (ws' := [(h0, .inr (12, fs))]) [0] (by decide) rfl
  have hKc := hK.sub (tys' := []) [] rfl
  have hFc := ro_free hS hA
  refine va_calli (va_runV (As := [.int p0]) (rest := []) ⟨hx, hb, hml, hown, hts⟩ (c_X11_isNode l dC dI (h0) (fs) (p0) H.size (hf0)) (cwV 1 hts g_c_X11_kept_c_X11_isNode_203 rfl rfl rfl (by decide +kernel) ⟨Nat.le_of_ble_eq_true rfl, Nat.le_of_ble_eq_true rfl⟩) ⟨fun a U g mk q => by obtain ⟨q0, q1, qP, qK, qD, qE⟩ := q; exact ⟨q0, q1, qP, va_K.moved (u := U) (U := U.calling g mk a) (Vm.Alike.refl U.vm) qK, qD, ev.same (u := U) (U := U.calling g mk a) rfl qE⟩, va_recv hKc hPc (ci := 12) (q0 := 0) rfl rfl, fun U hU hW => ⟨rfl, by rw [hU], by rw [hU]; exact hPc, va_K.moved hW.alike hKc, hDc.weaken (fun _ _ _ _ => trivial), hE.warm hW⟩⟩ rfl rfl hl.1 rfl (lv_room (Nat.le_of_ble_eq_true rfl)) dX11_kept_2 ⟨Nat.le_of_ble_eq_true rfl, Nat.le_of_ble_eq_true rfl⟩) hS (fun q _ h => hFc q h) hFc (fun r_1 u t H1 locs ht hvm hw hB hz1 hk1 hS => ?_)
  clear hPc hDc hKc
  have hP := ro_keep hP hk1
  generalize H1 = H at hP hS ⊢
  have hP : va_P (dC, dI) vwCl [(h0, .inr (12, fs))] H := hP
  have hw := hw.symm
  subst hw
  refine lv_if_eq (tgt := 35) hx hb dX11_kept_5 (by decide) (fun c_2 => ?_) (fun c_2 => ?_)
  rotate_left
  · exact absurd (by decide) c_2
  refine lv_iconst (v := -1) hx hb dX11_kept_35 (by decide) ?_
  exact W.iret (v := (-1)) hx hb hr (fun t ht hW => ⟨⟨(-1), (), rfl, rfl, trivial⟩, hS.F ht⟩) hS.2.2 dX11_kept_36

def v_c_X11_carried : List Cond := .code yX11_carried cX11_carried 2 (some .int) :: ([.fieldLink RX11 145 "ClaimBusModel" "carriedNode" "I", .fieldLink RX11 324 "ClaimBusModel" "carriedHigh" "I", .fieldLink RX11 321 "ClaimBusModel" "carriedLow" "I", .fieldLink RX11 318 "ClaimBusModel" "carriedId" "I"] ++ wsX110)
theorem in_c_X11_carried_X11 : ∀ w ∈ wsX110, w ∈ v_c_X11_carried := fun w h => List.mem_cons_of_mem _ (List.mem_append_right _ h)
set_option maxHeartbeats 4000000 in
set_option maxRecDepth 100000 in
theorem c_X11_carried (l : Launch) (dC : Nat → ClassId) (dI : Nat → Nat → Nat) (h0 : Nat) (fs : List Value) (p0 : Int32) (sz : Nat) (hf46 : fs[46]? = some (.int 0)) (hf47 : fs[47]? = some (.int 0)) (hf48 : fs[48]? = some (.int 0)) (hf49 : fs[49]? = some (.int (-1))) : Met l yX11_carried v_c_X11_carried ({ frames := 0, cells := 0, slots := 0, locals := 0 }) (va_Pc [.ref h0, .int p0] (fun U => U.heap.size = sz ∧ va_P (dC, dI) vwCl [(h0, .inr (12, fs))] U.heap ∧ va_K (dC, dI) vwCl [] U ∧ va_D (fun _ => True) [(h0, .inr (12, fs))] ∧ ev U)) (va_Qi (fun (r : Int32) (_ : Unit) => r = if p0 = 3 then (-1) else 0) (fun (_ : Unit) (_ : State) => True) (va_A [] sz)) 0 0 (va_A [] sz) := by
  refine Met.ofW (cc := cX11_carried) (maxL := 2) (ret := (some .int)) (by decide) rfl ?_
  intro p e s m args below meth c s₁ B hml hv
  obtain ⟨rfl, hsz, hP, hK, hD0, hE⟩ := hv
  have hx := B.exec
  have hb := B.bytes
  have hr := B.returns
  have hts := atoms_spec (ws := v_c_X11_carried) B.pre
  have hown : s.vm.findClass RX11 = some m.cls := findClass_of_methodNamed B.named
  have hlocks := B.notSynchronized
  subst hsz
  have hD := hD0
  generalize hAe : va_A [] s.heap.size = A
  have hA : ∀ q : Nat, s.heap.size ≤ q → A q := fun q h => by rw [← hAe]; exact Or.inr h
  have hS : va_S A s.heap s.heap [] := va_S.rf
  have hP : va_P (dC, dI) vwCl [(h0, .inr (12, fs))] s.heap := hP
  have hl := lv_entry ([.ref h0, .int p0]) (n := 2) (Nat.le_of_ble_eq_true rfl)
  rw [lg_entry_eq]
  generalize (lg_sl ([.ref h0, .int p0]) ++ List.replicate (2 - (lg_sl ([.ref h0, .int p0])).length) Slot.unset).toArray = ls at hl ⊢
  have hl : lv_has ls 2 [(0, .ref h0), (1, .int p0)] := hl
  obtain ⟨H, hH⟩ : ∃ z : Heap, z = s.heap := ⟨_, rfl⟩
  rw [← hH]
  have hS : va_S A s.heap H [] := by rw [hH]; exact va_S.rf
  have hP : va_P (dC, dI) vwCl [(h0, .inr (12, fs))] H := by rw [hH]; exact hP
  clear hH
  refine lv_iload_n hx hb dX11_carried_0 rfl (lv_at hl 1 rfl) ?_
  refine lv_if_ne (tgt := 11) hx hb dX11_carried_1 (by decide) (fun c_1 => ?_) (fun c_1 => ?_)
  · refine lv_iload_n hx hb dX11_carried_11 rfl (lv_at hl 1 rfl) ?_
    refine lv_iconst (v := 1) hx hb dX11_carried_12 (by decide) ?_
    refine lv_icmp_ne (tgt := 23) hx hb dX11_carried_13 (by decide) (fun c_2 => ?_) (fun c_2 => ?_)
    · refine lv_iload_n hx hb dX11_carried_23 rfl (lv_at hl 1 rfl) ?_
      refine lv_iconst (v := 2) hx hb dX11_carried_24 (by decide) ?_
      refine lv_icmp_ne (tgt := 35) hx hb dX11_carried_25 (by decide) (fun c_3 => ?_) (fun c_3 => ?_)
      · refine lv_iload_n hx hb dX11_carried_35 rfl (lv_at hl 1 rfl) ?_
        refine lv_iconst (v := 3) hx hb dX11_carried_36 (by decide) ?_
        refine lv_icmp_ne (tgt := 47) hx hb dX11_carried_37 (by decide) (fun c_4 => ?_) (fun c_4 => ?_)
        · refine lv_iconst (v := 0) hx hb dX11_carried_47 (by decide) ?_
          exact W.iret (v := 0) hx hb hr (fun t ht hW => ⟨⟨0, (), rfl, (by simp [c_4]), trivial⟩, hS.F ht⟩) hS.2.2 dX11_carried_48
        · refine lv_aload_n hx hb dX11_carried_40 rfl (lv_at hl 0 rfl) ?_
          refine va_get (D := (dC, dI)) (ci := 12) (v := .int (-1)) (C := RX11) (T := TX11) (N := 63) hx hb hts in_c_X11_carried_X11 hown hK hP 0 rfl rfl 49 (by decide) (hts (.fieldLink RX11 145 "ClaimBusModel" "carriedNode" "I") (List.mem_of_getElem? (i := 1) rfl)) (fun _ h9 => h9) hf49 dX11_carried_41 ?_
          refine lv_goto (tgt := 48) hx hb dX11_carried_44 (by decide) ?_
          exact W.iret (v := (-1)) hx hb hr (fun t ht hW => ⟨⟨(-1), (), rfl, (by simp [c_4]), trivial⟩, hS.F ht⟩) hS.2.2 dX11_carried_48
      · refine lv_aload_n hx hb dX11_carried_28 rfl (lv_at hl 0 rfl) ?_
        refine va_get (D := (dC, dI)) (ci := 12) (v := .int 0) (C := RX11) (T := TX11) (N := 63) hx hb hts in_c_X11_carried_X11 hown hK hP 0 rfl rfl 48 (by decide) (hts (.fieldLink RX11 324 "ClaimBusModel" "carriedHigh" "I") (List.mem_of_getElem? (i := 2) rfl)) (fun _ h9 => h9) hf48 dX11_carried_29 ?_
        refine lv_goto (tgt := 48) hx hb dX11_carried_32 (by decide) ?_
        exact W.iret (v := 0) hx hb hr (fun t ht hW => ⟨⟨0, (), rfl, (by simp [c_3]), trivial⟩, hS.F ht⟩) hS.2.2 dX11_carried_48
    · refine lv_aload_n hx hb dX11_carried_16 rfl (lv_at hl 0 rfl) ?_
      refine va_get (D := (dC, dI)) (ci := 12) (v := .int 0) (C := RX11) (T := TX11) (N := 63) hx hb hts in_c_X11_carried_X11 hown hK hP 0 rfl rfl 47 (by decide) (hts (.fieldLink RX11 321 "ClaimBusModel" "carriedLow" "I") (List.mem_of_getElem? (i := 3) rfl)) (fun _ h9 => h9) hf47 dX11_carried_17 ?_
      refine lv_goto (tgt := 48) hx hb dX11_carried_20 (by decide) ?_
      exact W.iret (v := 0) hx hb hr (fun t ht hW => ⟨⟨0, (), rfl, (by simp [c_2]), trivial⟩, hS.F ht⟩) hS.2.2 dX11_carried_48
  · refine lv_aload_n hx hb dX11_carried_4 rfl (lv_at hl 0 rfl) ?_
    refine va_get (D := (dC, dI)) (ci := 12) (v := .int 0) (C := RX11) (T := TX11) (N := 63) hx hb hts in_c_X11_carried_X11 hown hK hP 0 rfl rfl 46 (by decide) (hts (.fieldLink RX11 318 "ClaimBusModel" "carriedId" "I") (List.mem_of_getElem? (i := 4) rfl)) (fun _ h9 => h9) hf46 dX11_carried_5 ?_
    refine lv_goto (tgt := 48) hx hb dX11_carried_8 (by decide) ?_
    exact W.iret (v := 0) hx hb hr (fun t ht hW => ⟨⟨0, (), rfl, (by simp [c_1]), trivial⟩, hS.F ht⟩) hS.2.2 dX11_carried_48

def v_c_X11_sound : List Cond := .code yX11_sound cX11_sound 4 (some .boolean) :: ([.fieldLink RX11 213 "ClaimBusModel" "disturbed" "Z", .fieldLink RX11 279 "ClaimBusModel" "wrong" "Z", .fieldLink RX11 172 "ClaimBusModel" "nodes" "I"] ++ wsX110)
theorem in_c_X11_sound_X11 : ∀ w ∈ wsX110, w ∈ v_c_X11_sound := fun w h => List.mem_cons_of_mem _ (List.mem_append_right _ h)
set_option maxHeartbeats 4000000 in
set_option maxRecDepth 100000 in
theorem c_X11_sound (l : Launch) (dC : Nat → ClassId) (dI : Nat → Nat → Nat) (h0 : Nat) (fs : List Value) (sz : Nat) (hf0 : fs[0]? = some (.int 0)) (hf51 : fs[51]? = some (.int 0)) (hf52 : fs[52]? = some (.int 0)) : Met l yX11_sound v_c_X11_sound ({ frames := 0, cells := 0, slots := 0, locals := 0 }) (va_Pc [.ref h0] (fun U => U.heap.size = sz ∧ va_P (dC, dI) vwCl [(h0, .inr (12, fs))] U.heap ∧ va_K (dC, dI) vwCl [] U ∧ va_D (fun _ => True) [(h0, .inr (12, fs))] ∧ ev U)) (va_Qi (fun (r : Int32) (_ : Unit) => r = 1) (fun (_ : Unit) (_ : State) => True) (va_A [] sz)) 0 0 (va_A [] sz) := by
  refine Met.ofW (cc := cX11_sound) (maxL := 4) (ret := (some .boolean)) (by decide) rfl ?_
  intro p e s m args below meth c s₁ B hml hv
  obtain ⟨rfl, hsz, hP, hK, hD0, hE⟩ := hv
  have hx := B.exec
  have hb := B.bytes
  have hr := B.returns
  have hts := atoms_spec (ws := v_c_X11_sound) B.pre
  have hown : s.vm.findClass RX11 = some m.cls := findClass_of_methodNamed B.named
  have hlocks := B.notSynchronized
  subst hsz
  have hD := hD0
  generalize hAe : va_A [] s.heap.size = A
  have hA : ∀ q : Nat, s.heap.size ≤ q → A q := fun q h => by rw [← hAe]; exact Or.inr h
  have hS : va_S A s.heap s.heap [] := va_S.rf
  have hP : va_P (dC, dI) vwCl [(h0, .inr (12, fs))] s.heap := hP
  have hl := lv_entry ([.ref h0]) (n := 4) (Nat.le_of_ble_eq_true rfl)
  rw [lg_entry_eq]
  generalize (lg_sl ([.ref h0]) ++ List.replicate (4 - (lg_sl ([.ref h0])).length) Slot.unset).toArray = ls at hl ⊢
  have hl : lv_has ls 4 [(0, .ref h0)] := hl
  obtain ⟨H, hH⟩ : ∃ z : Heap, z = s.heap := ⟨_, rfl⟩
  rw [← hH]
  have hS : va_S A s.heap H [] := by rw [hH]; exact va_S.rf
  have hP : va_P (dC, dI) vwCl [(h0, .inr (12, fs))] H := by rw [hH]; exact hP
  clear hH
  refine lv_aload_n hx hb dX11_sound_0 rfl (lv_at hl 0 rfl) ?_
  refine va_get (D := (dC, dI)) (ci := 12) (v := .int 0) (C := RX11) (T := TX11) (N := 63) hx hb hts in_c_X11_sound_X11 hown hK hP 0 rfl rfl 51 (by decide) (hts (.fieldLink RX11 213 "ClaimBusModel" "disturbed" "Z") (List.mem_of_getElem? (i := 1) rfl)) (fun _ h9 => h9) hf51 dX11_sound_1 ?_
  refine lv_if_eq (tgt := 9) hx hb dX11_sound_4 (by decide) (fun c_1 => ?_) (fun c_1 => ?_)
  rotate_left
  · exact absurd (by decide) c_1
  refine lv_aload_n hx hb dX11_sound_9 rfl (lv_at hl 0 rfl) ?_
  refine va_get (D := (dC, dI)) (ci := 12) (v := .int 0) (C := RX11) (T := TX11) (N := 63) hx hb hts in_c_X11_sound_X11 hown hK hP 0 rfl rfl 52 (by decide) (hts (.fieldLink RX11 279 "ClaimBusModel" "wrong" "Z") (List.mem_of_getElem? (i := 2) rfl)) (fun _ h9 => h9) hf52 dX11_sound_10 ?_
  refine lv_if_ne (tgt := 20) hx hb dX11_sound_13 (by decide) (fun c_2 => ?_) (fun c_2 => ?_)
  · exact absurd c_2 (by decide)
  refine lv_iconst (v := 1) hx hb dX11_sound_16 (by decide) ?_
  refine lv_goto (tgt := 21) hx hb dX11_sound_17 (by decide) ?_
  refine lv_istore_n (lv' := [(1, .int 1), (0, .ref h0)]) hx hb dX11_sound_21 rfl hl (by decide) rfl (fun ls hl => ?_)
  refine lv_iconst (v := 0) hx hb dX11_sound_22 (by decide) ?_
  refine lv_istore_n (lv' := [(2, .int 0), (1, .int 1), (0, .ref h0)]) hx hb dX11_sound_23 rfl hl (by decide) rfl (fun ls hl => ?_)
  refine lv_iload_n hx hb dX11_sound_24 rfl (lv_at hl 0 rfl) ?_
  refine lv_aload_n hx hb dX11_sound_25 rfl (lv_at hl 2 rfl) ?_
  refine va_get (D := (dC, dI)) (ci := 12) (v := .int 0) (C := RX11) (T := TX11) (N := 63) hx hb hts in_c_X11_sound_X11 hown hK hP 0 rfl rfl 0 (by decide) (hts (.fieldLink RX11 172 "ClaimBusModel" "nodes" "I") (List.mem_of_getElem? (i := 3) rfl)) (fun _ h9 => h9) hf0 dX11_sound_26 ?_
  refine lv_icmp_ge (tgt := 96) hx hb dX11_sound_29 (by decide) (fun c_3 => ?_) (fun c_3 => ?_)
  rotate_left
  · exact absurd (by decide) c_3
  refine lv_iload_n hx hb dX11_sound_96 rfl (lv_at hl 1 rfl) ?_
  exact W.zret (v := 1) hx hb hr (by decide) (fun t ht hW => ⟨⟨1, (), rfl, rfl, trivial⟩, hS.F ht⟩) hS.2.2 dX11_sound_97

def v_c_X11_count : List Cond := .code yX11_count cX11_count 4 (some .int) :: ([.fieldLink RX11 172 "ClaimBusModel" "nodes" "I", .fieldLink RX11 327 "ClaimBusModel" "carriedMany" "I", .fieldLink RX11 220 "ClaimBusModel" "time" "I"] ++ wsX110)
theorem in_c_X11_count_X11 : ∀ w ∈ wsX110, w ∈ v_c_X11_count := fun w h => List.mem_cons_of_mem _ (List.mem_append_right _ h)
set_option maxHeartbeats 4000000 in
set_option maxRecDepth 100000 in
theorem c_X11_count (l : Launch) (dC : Nat → ClassId) (dI : Nat → Nat → Nat) (h0 : Nat) (fs : List Value) (p0 : Int32) (sz : Nat) (hf0 : fs[0]? = some (.int 0)) (hf1 : fs[1]? = some (.int 0)) (hf50 : fs[50]? = some (.int 0)) : Met l yX11_count v_c_X11_count ({ frames := 0, cells := 0, slots := 0, locals := 0 }) (va_Pc [.ref h0, .int p0] (fun U => U.heap.size = sz ∧ va_P (dC, dI) vwCl [(h0, .inr (12, fs))] U.heap ∧ va_K (dC, dI) vwCl [] U ∧ va_D (fun _ => True) [(h0, .inr (12, fs))] ∧ ev U)) (va_Qi (fun (r : Int32) (_ : Unit) => r = if p0 = 0 ∨ p0 = 1 ∨ p0 = 2 ∨ p0 = 3 then 0 else (-1)) (fun (_ : Unit) (_ : State) => True) (va_A [] sz)) 0 0 (va_A [] sz) := by
  refine Met.ofW (cc := cX11_count) (maxL := 4) (ret := (some .int)) (by decide) rfl ?_
  intro p e s m args below meth c s₁ B hml hv
  obtain ⟨rfl, hsz, hP, hK, hD0, hE⟩ := hv
  have hx := B.exec
  have hb := B.bytes
  have hr := B.returns
  have hts := atoms_spec (ws := v_c_X11_count) B.pre
  have hown : s.vm.findClass RX11 = some m.cls := findClass_of_methodNamed B.named
  have hlocks := B.notSynchronized
  subst hsz
  have hD := hD0
  generalize hAe : va_A [] s.heap.size = A
  have hA : ∀ q : Nat, s.heap.size ≤ q → A q := fun q h => by rw [← hAe]; exact Or.inr h
  have hS : va_S A s.heap s.heap [] := va_S.rf
  have hP : va_P (dC, dI) vwCl [(h0, .inr (12, fs))] s.heap := hP
  have hl := lv_entry ([.ref h0, .int p0]) (n := 4) (Nat.le_of_ble_eq_true rfl)
  rw [lg_entry_eq]
  generalize (lg_sl ([.ref h0, .int p0]) ++ List.replicate (4 - (lg_sl ([.ref h0, .int p0])).length) Slot.unset).toArray = ls at hl ⊢
  have hl : lv_has ls 4 [(0, .ref h0), (1, .int p0)] := hl
  obtain ⟨H, hH⟩ : ∃ z : Heap, z = s.heap := ⟨_, rfl⟩
  rw [← hH]
  have hS : va_S A s.heap H [] := by rw [hH]; exact va_S.rf
  have hP : va_P (dC, dI) vwCl [(h0, .inr (12, fs))] H := by rw [hH]; exact hP
  clear hH
  refine lv_iconst (v := 0) hx hb dX11_count_0 (by decide) ?_
  refine lv_istore_n (lv' := [(2, .int 0), (0, .ref h0), (1, .int p0)]) hx hb dX11_count_1 rfl hl (by decide) rfl (fun ls hl => ?_)
  refine lv_iconst (v := 0) hx hb dX11_count_2 (by decide) ?_
  refine lv_istore_n (lv' := [(3, .int 0), (2, .int 0), (0, .ref h0), (1, .int p0)]) hx hb dX11_count_3 rfl hl (by decide) rfl (fun ls hl => ?_)
  refine lv_iload_n hx hb dX11_count_4 rfl (lv_at hl 0 rfl) ?_
  refine lv_aload_n hx hb dX11_count_5 rfl (lv_at hl 2 rfl) ?_
  refine va_get (D := (dC, dI)) (ci := 12) (v := .int 0) (C := RX11) (T := TX11) (N := 63) hx hb hts in_c_X11_count_X11 hown hK hP 0 rfl rfl 0 (by decide) (hts (.fieldLink RX11 172 "ClaimBusModel" "nodes" "I") (List.mem_of_getElem? (i := 1) rfl)) (fun _ h9 => h9) hf0 dX11_count_6 ?_
  refine lv_icmp_ge (tgt := 36) hx hb dX11_count_9 (by decide) (fun c_1 => ?_) (fun c_1 => ?_)
  rotate_left
  · exact absurd (by decide) c_1
  refine lv_iload_n hx hb dX11_count_36 rfl (lv_at hl 3 rfl) ?_
  refine lv_if_ne (tgt := 47) hx hb dX11_count_37 (by decide) (fun c_2 => ?_) (fun c_2 => ?_)
  · refine lv_iload_n hx hb dX11_count_47 rfl (lv_at hl 3 rfl) ?_
    refine lv_iconst (v := 1) hx hb dX11_count_48 (by decide) ?_
    refine lv_icmp_ne (tgt := 59) hx hb dX11_count_49 (by decide) (fun c_3 => ?_) (fun c_3 => ?_)
    · refine lv_iload_n hx hb dX11_count_59 rfl (lv_at hl 3 rfl) ?_
      refine lv_iconst (v := 2) hx hb dX11_count_60 (by decide) ?_
      refine lv_icmp_ne (tgt := 71) hx hb dX11_count_61 (by decide) (fun c_4 => ?_) (fun c_4 => ?_)
      · refine lv_iload_n hx hb dX11_count_71 rfl (lv_at hl 3 rfl) ?_
        refine lv_iconst (v := 3) hx hb dX11_count_72 (by decide) ?_
        refine lv_icmp_ne (tgt := 80) hx hb dX11_count_73 (by decide) (fun c_5 => ?_) (fun c_5 => ?_)
        · refine lv_iconst (v := -1) hx hb dX11_count_80 (by decide) ?_
          exact W.iret (v := (-1)) hx hb hr (fun t ht hW => ⟨⟨(-1), (), rfl, (by simp [c_2, c_3, c_4, c_5]), trivial⟩, hS.F ht⟩) hS.2.2 dX11_count_81
        · refine lv_iload_n hx hb dX11_count_76 rfl (lv_at hl 1 rfl) ?_
          refine lv_goto (tgt := 81) hx hb dX11_count_77 (by decide) ?_
          exact W.iret (v := 0) hx hb hr (fun t ht hW => ⟨⟨0, (), rfl, (by simp [c_5]), trivial⟩, hS.F ht⟩) hS.2.2 dX11_count_81
      · refine lv_aload_n hx hb dX11_count_64 rfl (lv_at hl 2 rfl) ?_
        refine va_get (D := (dC, dI)) (ci := 12) (v := .int 0) (C := RX11) (T := TX11) (N := 63) hx hb hts in_c_X11_count_X11 hown hK hP 0 rfl rfl 50 (by decide) (hts (.fieldLink RX11 327 "ClaimBusModel" "carriedMany" "I") (List.mem_of_getElem? (i := 2) rfl)) (fun _ h9 => h9) hf50 dX11_count_65 ?_
        refine lv_goto (tgt := 81) hx hb dX11_count_68 (by decide) ?_
        exact W.iret (v := 0) hx hb hr (fun t ht hW => ⟨⟨0, (), rfl, (by simp [c_4]), trivial⟩, hS.F ht⟩) hS.2.2 dX11_count_81
    · refine lv_aload_n hx hb dX11_count_52 rfl (lv_at hl 2 rfl) ?_
      refine va_get (D := (dC, dI)) (ci := 12) (v := .int 0) (C := RX11) (T := TX11) (N := 63) hx hb hts in_c_X11_count_X11 hown hK hP 0 rfl rfl 1 (by decide) (hts (.fieldLink RX11 220 "ClaimBusModel" "time" "I") (List.mem_of_getElem? (i := 3) rfl)) (fun _ h9 => h9) hf1 dX11_count_53 ?_
      refine lv_goto (tgt := 81) hx hb dX11_count_56 (by decide) ?_
      exact W.iret (v := 0) hx hb hr (fun t ht hW => ⟨⟨0, (), rfl, (by simp [c_3]), trivial⟩, hS.F ht⟩) hS.2.2 dX11_count_81
  · refine lv_aload_n hx hb dX11_count_40 rfl (lv_at hl 2 rfl) ?_
    refine va_get (D := (dC, dI)) (ci := 12) (v := .int 0) (C := RX11) (T := TX11) (N := 63) hx hb hts in_c_X11_count_X11 hown hK hP 0 rfl rfl 0 (by decide) (hts (.fieldLink RX11 172 "ClaimBusModel" "nodes" "I") (List.mem_of_getElem? (i := 1) rfl)) (fun _ h9 => h9) hf0 dX11_count_41 ?_
    refine lv_goto (tgt := 81) hx hb dX11_count_44 (by decide) ?_
    exact W.iret (v := 0) hx hb hr (fun t ht hW => ⟨⟨0, (), rfl, (by simp [c_2]), trivial⟩, hS.F ht⟩) hS.2.2 dX11_count_81

def v_c_X11_carry : List Cond := .code yX11_carry cX11_carry 5 none :: ([.fieldLink RX11 172 "ClaimBusModel" "nodes" "I"] ++ wsX110)
theorem in_c_X11_carry_X11 : ∀ w ∈ wsX110, w ∈ v_c_X11_carry := fun w h => List.mem_cons_of_mem _ (List.mem_append_right _ h)
set_option maxHeartbeats 4000000 in
set_option maxRecDepth 100000 in
theorem c_X11_carry (l : Launch) (dC : Nat → ClassId) (dI : Nat → Nat → Nat) (h0 : Nat) (fs : List Value) (sz : Nat) (hf0 : fs[0]? = some (.int 0)) : Met l yX11_carry v_c_X11_carry ({ frames := 0, cells := 0, slots := 0, locals := 0 }) (va_Pc [.ref h0] (fun U => U.heap.size = sz ∧ va_P (dC, dI) vwCl [(h0, .inr (12, fs))] U.heap ∧ va_K (dC, dI) vwCl [] U ∧ va_D (fun _ => True) [(h0, .inr (12, fs))] ∧ ev U)) (va_Qv (fun _ : Unit => True) (fun (_ : Unit) (_ : State) => True) (va_A [] sz)) 0 0 (va_A [] sz) := by
  refine Met.ofW (cc := cX11_carry) (maxL := 5) (ret := none) (by decide) rfl ?_
  intro p e s m args below meth c s₁ B hml hv
  obtain ⟨rfl, hsz, hP, hK, hD0, hE⟩ := hv
  have hx := B.exec
  have hb := B.bytes
  have hr := B.returns
  have hts := atoms_spec (ws := v_c_X11_carry) B.pre
  have hown : s.vm.findClass RX11 = some m.cls := findClass_of_methodNamed B.named
  have hlocks := B.notSynchronized
  subst hsz
  have hD := hD0
  generalize hAe : va_A [] s.heap.size = A
  have hA : ∀ q : Nat, s.heap.size ≤ q → A q := fun q h => by rw [← hAe]; exact Or.inr h
  have hS : va_S A s.heap s.heap [] := va_S.rf
  have hP : va_P (dC, dI) vwCl [(h0, .inr (12, fs))] s.heap := hP
  have hl := lv_entry ([.ref h0]) (n := 5) (Nat.le_of_ble_eq_true rfl)
  rw [lg_entry_eq]
  generalize (lg_sl ([.ref h0]) ++ List.replicate (5 - (lg_sl ([.ref h0])).length) Slot.unset).toArray = ls at hl ⊢
  have hl : lv_has ls 5 [(0, .ref h0)] := hl
  obtain ⟨H, hH⟩ : ∃ z : Heap, z = s.heap := ⟨_, rfl⟩
  rw [← hH]
  have hS : va_S A s.heap H [] := by rw [hH]; exact va_S.rf
  have hP : va_P (dC, dI) vwCl [(h0, .inr (12, fs))] H := by rw [hH]; exact hP
  clear hH
  refine lv_iconst (v := -1) hx hb dX11_carry_0 (by decide) ?_
  refine lv_istore_n (lv' := [(1, .int (-1)), (0, .ref h0)]) hx hb dX11_carry_1 rfl hl (by decide) rfl (fun ls hl => ?_)
  refine lv_iconst (v := 0) hx hb dX11_carry_2 (by decide) ?_
  refine lv_istore_n (lv' := [(2, .int 0), (1, .int (-1)), (0, .ref h0)]) hx hb dX11_carry_3 rfl hl (by decide) rfl (fun ls hl => ?_)
  refine lv_iload_n hx hb dX11_carry_4 rfl (lv_at hl 0 rfl) ?_
  refine lv_aload_n hx hb dX11_carry_5 rfl (lv_at hl 2 rfl) ?_
  refine va_get (D := (dC, dI)) (ci := 12) (v := .int 0) (C := RX11) (T := TX11) (N := 63) hx hb hts in_c_X11_carry_X11 hown hK hP 0 rfl rfl 0 (by decide) (hts (.fieldLink RX11 172 "ClaimBusModel" "nodes" "I") (List.mem_of_getElem? (i := 1) rfl)) (fun _ h9 => h9) hf0 dX11_carry_6 ?_
  refine lv_icmp_ge (tgt := 43) hx hb dX11_carry_9 (by decide) (fun c_1 => ?_) (fun c_1 => ?_)
  rotate_left
  · exact absurd (by decide) c_1
  refine lv_iload_n hx hb dX11_carry_43 rfl (lv_at hl 1 rfl) ?_
  refine lv_iconst (v := -1) hx hb dX11_carry_44 (by decide) ?_
  refine lv_icmp_ne (tgt := 49) hx hb dX11_carry_45 (by decide) (fun c_2 => ?_) (fun c_2 => ?_)
  · exact absurd c_2 (by decide)
  exact W.vret hx hb hr (fun t ht hW => ⟨⟨(), rfl, trivial, trivial⟩, hS.F ht⟩) hS.2.2 dX11_carry_48

def v_c_X11_node : List Cond := .code yX11_node cX11_node 10 (some .int) :: ([.constantLong RX11 201 (4294967295), .fieldLink RX11 172 "ClaimBusModel" "nodes" "I", .code yX11_in cX11_in 3 (some .boolean), .initialized RX11, .methodLink RX11 175 yX11_in, .static yX11_in, .fieldLink RX11 7 "ClaimBusModel" "names" "[J", .fieldLink RX11 13 "ClaimBusModel" "wanted" "[I", .fieldLink RX11 17 "ClaimBusModel" "address" "[I", .fieldLink RX11 20 "ClaimBusModel" "free" "[Z", .fieldLink RX11 24 "ClaimBusModel" "window" "[I"] ++ wsX110)
theorem in_c_X11_node_X11 : ∀ w ∈ wsX110, w ∈ v_c_X11_node := fun w h => List.mem_cons_of_mem _ (List.mem_append_right _ h)
set_option maxRecDepth 20000 in
theorem g_c_X11_node_c_X11_in_175 : GoodIn v_c_X11_node (va_wsS RX11 175 yX11_in v_c_X11_in) := goodIn_r _ [5, 6, 4, 3] (by decide +kernel) (by decide +kernel)
set_option maxHeartbeats 4000000 in
set_option maxRecDepth 100000 in
/-- node on a fresh model -/
theorem c_X11_node (l : Launch) (dC : Nat → ClassId) (dI : Nat → Nat → Nat) (h0 : Nat) (fs : List Value) (a2 : Nat) (a3 : Nat) (a4 : Nat) (a5 : Nat) (a6 : Nat) (c2 : ClassId) (c3 : ClassId) (c4 : ClassId) (c5 : ClassId) (c6 : ClassId) (f2 : Nat → Int64) (f3 : Nat → Int32) (f4 : Nat → Int32) (f5 : Nat → Int32) (f6 : Nat → Int32) (p0 : Int32) (p1 : Int32) (p2 : Int32) (fr : Int32) (p3 : Int32) (sz : Nat) (hf0 : fs[0]? = some (.int 0)) (hf2 : fs[2]? = some (.ref a2)) (hf3 : fs[3]? = some (.ref a3)) (hf4 : fs[4]? = some (.ref a4)) (hf5 : fs[5]? = some (.ref a5)) (hf6 : fs[6]? = some (.ref a6)) (hlen : fs.length = 63) : Met l yX11_node v_c_X11_node ({ frames := 1, cells := 0, slots := 0, locals := 22 }) (va_Pc [.ref h0, .int p0, .int p1, .int p2, .int fr, .int p3] (fun U => U.heap.size = sz ∧ va_P (dC, dI) vwCl [(h0, .inr (12, fs)), (a2, .inl (c2, 8, .inr (.inl f2))), (a3, .inl (c3, 8, .inl f3)), (a4, .inl (c4, 8, .inl f4)), (a5, .inl (c5, 8, .inl f5)), (a6, .inl (c6, 8, .inl f6))] U.heap ∧ va_K (dC, dI) vwCl [(c2, .long), (c3, .int), (c4, .int), (c5, .boolean), (c6, .int)] U ∧ va_D (fun _ => True) [(h0, .inr (12, fs)), (a2, .inl (c2, 8, .inr (.inl f2))), (a3, .inl (c3, 8, .inl f3)), (a4, .inl (c4, 8, .inl f4)), (a5, .inl (c5, 8, .inl f5)), (a6, .inl (c6, 8, .inl f6))] ∧ ev U)) (va_Qi (fun (r : Int32) (_ : Unit) => r = if 0 ≤ p2 ∧ p2 ≤ 247 ∧ 1 ≤ p3 ∧ p3 ≤ 16 then 0 else (-1)) (fun (_ : Unit) (_ : State) => True) (va_A [(h0, .inr (12, fs)), (a2, .inl (c2, 8, .inr (.inl f2))), (a3, .inl (c3, 8, .inl f3)), (a4, .inl (c4, 8, .inl f4)), (a5, .inl (c5, 8, .inl f5)), (a6, .inl (c6, 8, .inl f6))] sz)) 0 0 (va_A [(h0, .inr (12, fs)), (a2, .inl (c2, 8, .inr (.inl f2))), (a3, .inl (c3, 8, .inl f3)), (a4, .inl (c4, 8, .inl f4)), (a5, .inl (c5, 8, .inl f5)), (a6, .inl (c6, 8, .inl f6))] sz) := by
  refine Met.ofW (cc := cX11_node) (maxL := 10) (ret := (some .int)) (by decide) rfl ?_
  intro p e s m args below meth c s₁ B hml hv
  obtain ⟨rfl, hsz, hP, hK, hD0, hE⟩ := hv
  have hx := B.exec
  have hb := B.bytes
  have hr := B.returns
  have hts := atoms_spec (ws := v_c_X11_node) B.pre
  have hown : s.vm.findClass RX11 = some m.cls := findClass_of_methodNamed B.named
  have hlocks := B.notSynchronized
  subst hsz
  have hD := hD0.self (sz := s.heap.size)
  generalize hAe : va_A [(h0, .inr (12, fs)), (a2, .inl (c2, 8, .inr (.inl f2))), (a3, .inl (c3, 8, .inl f3)), (a4, .inl (c4, 8, .inl f4)), (a5, .inl (c5, 8, .inl f5)), (a6, .inl (c6, 8, .inl f6))] s.heap.size = A at hD ⊢
  have hA : ∀ q : Nat, s.heap.size ≤ q → A q := fun q h => by rw [← hAe]; exact Or.inr h
  have hS : va_S A s.heap s.heap [] := va_S.rf
  have hP : va_P (dC, dI) vwCl [(h0, .inr (12, fs)), (a2, .inl (c2, 8, .inr (.inl f2))), (a3, .inl (c3, 8, .inl f3)), (a4, .inl (c4, 8, .inl f4)), (a5, .inl (c5, 8, .inl f5)), (a6, .inl (c6, 8, .inl f6))] s.heap := hP
  have hl := lv_entry ([.ref h0, .int p0, .int p1, .int p2, .int fr, .int p3]) (n := 10) (Nat.le_of_ble_eq_true rfl)
  rw [lg_entry_eq]
  generalize (lg_sl ([.ref h0, .int p0, .int p1, .int p2, .int fr, .int p3]) ++ List.replicate (10 - (lg_sl ([.ref h0, .int p0, .int p1, .int p2, .int fr, .int p3])).length) Slot.unset).toArray = ls at hl ⊢
  have hl : lv_has ls 10 [(0, .ref h0), (1, .int p0), (2, .int p1), (3, .int p2), (4, .int fr), (5, .int p3)] := hl
  obtain ⟨H, hH⟩ : ∃ z : Heap, z = s.heap := ⟨_, rfl⟩
  rw [← hH]
  have hS : va_S A s.heap H [] := by rw [hH]; exact va_S.rf
  have hP : va_P (dC, dI) vwCl [(h0, .inr (12, fs)), (a2, .inl (c2, 8, .inr (.inl f2))), (a3, .inl (c3, 8, .inl f3)), (a4, .inl (c4, 8, .inl f4)), (a5, .inl (c5, 8, .inl f5)), (a6, .inl (c6, 8, .inl f6))] H := by rw [hH]; exact hP
  clear hH
  refine lv_iload_n hx hb dX11_node_0 rfl (lv_at hl 1 rfl) ?_
  refine lv_i2l hx hb dX11_node_1 rfl ?_
  refine lv_topl (fun x_1 ex_1 => ?_)
  refine lv_bipush (v := 32) hx hb dX11_node_2 (by decide) ?_
  refine lv_lshl hx hb dX11_node_4 rfl ?_
  refine lv_topl (fun x_2 ex_2 => ?_)
  refine lv_iload_n hx hb dX11_node_5 rfl (lv_at hl 2 rfl) ?_
  refine lv_i2l hx hb dX11_node_6 rfl ?_
  refine lv_topl (fun x_3 ex_3 => ?_)
  refine lv_ldc2 hx hb hown (hts (.constantLong RX11 201 (4294967295)) (List.mem_of_getElem? (i := 1) rfl)) dX11_node_7 ?_
  refine lv_land hx hb dX11_node_10 ?_
  refine lv_topl (fun x_4 ex_4 => ?_)
  refine lv_lor hx hb dX11_node_11 ?_
  refine lv_topl (fun x_5 ex_5 => ?_)
  refine lv_lstore (lv' := [(6, .long x_5), (0, .ref h0), (1, .int p0), (2, .int p1), (3, .int p2), (4, .int fr), (5, .int p3)]) hx hb dX11_node_12 hl (by decide) rfl (fun ls hl => ?_)
  refine lv_iconst (v := 0) hx hb dX11_node_14 (by decide) ?_
  refine lv_istore (lv' := [(8, .int 0), (6, .long x_5), (0, .ref h0), (1, .int p0), (2, .int p1), (3, .int p2), (4, .int fr), (5, .int p3)]) hx hb dX11_node_15 hl (by decide) rfl (fun ls hl => ?_)
  refine lv_iconst (v := 0) hx hb dX11_node_17 (by decide) ?_
  refine lv_istore (lv' := [(9, .int 0), (8, .int 0), (6, .long x_5), (0, .ref h0), (1, .int p0), (2, .int p1), (3, .int p2), (4, .int fr), (5, .int p3)]) hx hb dX11_node_18 hl (by decide) rfl (fun ls hl => ?_)
  refine lv_iload hx hb dX11_node_20 (lv_at hl 0 rfl) ?_
  refine lv_aload_n hx hb dX11_node_22 rfl (lv_at hl 3 rfl) ?_
  refine va_get (D := (dC, dI)) (ci := 12) (v := .int 0) (C := RX11) (T := TX11) (N := 63) hx hb hts in_c_X11_node_X11 hown hK hP 0 rfl rfl 0 (by decide) (hts (.fieldLink RX11 172 "ClaimBusModel" "nodes" "I") (List.mem_of_getElem? (i := 2) rfl)) (fun _ h9 => h9) hf0 dX11_node_23 ?_
  refine lv_icmp_ge (tgt := 60) hx hb dX11_node_26 (by decide) (fun c_6 => ?_) (fun c_6 => ?_)
  rotate_left
  · exact absurd (by decide) c_6
  refine lv_iload_n hx hb dX11_node_60 rfl (lv_at hl 6 rfl) ?_
  refine lv_iconst (v := 0) hx hb dX11_node_61 (by decide) ?_
  refine lv_sipush (v := 247) hx hb dX11_node_62 (by decide) ?_
  have hPc := hP.sub (ws' := []) [] rfl
  have hDc := hD.sub (ws' := []) [] (by decide) rfl
  have hKc := hK.sub (tys' := []) [] rfl
  have hFc := ro_free hS hA
  refine va_calli (va_runS (As := [.int p2, .int 0, .int 247]) (rest := []) ⟨hx, hb, hml, hown, hts⟩ (c_X11_in l dC dI (p2) (0) (247) H.size) (va_cwS 3 hts g_c_X11_node_c_X11_in_175 rfl rfl rfl (by decide +kernel) ⟨Nat.le_of_ble_eq_true rfl, Nat.le_of_ble_eq_true rfl⟩) ⟨fun a U g mk q => by obtain ⟨q0, q1, qP, qK, qD, qE⟩ := q; exact ⟨q0, q1, qP, va_K.moved (u := U) (U := U.calling g mk a) (Vm.Alike.refl U.vm) qK, qD, ev.same (u := U) (U := U.calling g mk a) rfl qE⟩, fun U hU hW => ⟨rfl, by rw [hU], by rw [hU]; exact hPc, va_K.moved hW.alike hKc, hDc.weaken (fun _ _ _ _ => trivial), hE.warm hW⟩⟩ rfl rfl hl.1 rfl (lv_room (Nat.le_of_ble_eq_true rfl)) dX11_node_65 ⟨Nat.le_of_ble_eq_true rfl, Nat.le_of_ble_eq_true rfl⟩) hS (fun q _ h => hFc q h) hFc (fun r_7 u t H1 locs ht hvm hw hB hz1 hk1 hS => ?_)
  clear hPc hDc hKc
  have hP := ro_keep hP hk1
  generalize H1 = H at hP hS ⊢
  have hP : va_P (dC, dI) vwCl [(h0, .inr (12, fs)), (a2, .inl (c2, 8, .inr (.inl f2))), (a3, .inl (c3, 8, .inl f3)), (a4, .inl (c4, 8, .inl f4)), (a5, .inl (c5, 8, .inl f5)), (a6, .inl (c6, 8, .inl f6))] H := hP
  have er_7 := hw
  clear hw
  refine lv_if_eq (tgt := 96) hx hb dX11_node_68 (by decide) (fun c_8 => ?_) (fun c_8 => ?_)
  · refine lv_iconst (v := -1) hx hb dX11_node_96 (by decide) ?_
    exact W.iret (v := (-1)) hx hb hr (fun t ht hW => ⟨⟨(-1), (), rfl, (by rw [if_neg]; exact fun h => in00 er_7 c_8 ⟨h.1, h.2.1⟩), trivial⟩, hS.F ht⟩) hS.2.2 dX11_node_97
  · refine lv_iload hx hb dX11_node_71 (lv_at hl 8 rfl) ?_
    refine lv_iconst (v := 1) hx hb dX11_node_73 (by decide) ?_
    refine lv_bipush (v := 16) hx hb dX11_node_74 (by decide) ?_
    have hPc := hP.sub (ws' := []) [] rfl
    have hDc := hD.sub (ws' := []) [] (by decide) rfl
    have hKc := hK.sub (tys' := []) [] rfl
    have hFc := ro_free hS hA
    refine va_calli (va_runS (As := [.int p3, .int 1, .int 16]) (rest := []) ⟨hx, hb, hml, hown, hts⟩ (c_X11_in l dC dI (p3) (1) (16) H.size) (va_cwS 3 hts g_c_X11_node_c_X11_in_175 rfl rfl rfl (by decide +kernel) ⟨Nat.le_of_ble_eq_true rfl, Nat.le_of_ble_eq_true rfl⟩) ⟨fun a U g mk q => by obtain ⟨q0, q1, qP, qK, qD, qE⟩ := q; exact ⟨q0, q1, qP, va_K.moved (u := U) (U := U.calling g mk a) (Vm.Alike.refl U.vm) qK, qD, ev.same (u := U) (U := U.calling g mk a) rfl qE⟩, fun U hU hW => ⟨rfl, by rw [hU], by rw [hU]; exact hPc, va_K.moved hW.alike hKc, hDc.weaken (fun _ _ _ _ => trivial), hE.warm hW⟩⟩ rfl rfl hl.1 rfl (lv_room (Nat.le_of_ble_eq_true rfl)) dX11_node_76 ⟨Nat.le_of_ble_eq_true rfl, Nat.le_of_ble_eq_true rfl⟩) hS (fun q _ h => hFc q h) hFc (fun r_9 u t H1 locs ht hvm hw hB hz1 hk1 hS => ?_)
    clear hPc hDc hKc
    have hP := ro_keep hP hk1
    generalize H1 = H at hP hS ⊢
    have hP : va_P (dC, dI) vwCl [(h0, .inr (12, fs)), (a2, .inl (c2, 8, .inr (.inl f2))), (a3, .inl (c3, 8, .inl f3)), (a4, .inl (c4, 8, .inl f4)), (a5, .inl (c5, 8, .inl f5)), (a6, .inl (c6, 8, .inl f6))] H := hP
    have er_9 := hw
    clear hw
    refine lv_if_eq (tgt := 96) hx hb dX11_node_79 (by decide) (fun c_10 => ?_) (fun c_10 => ?_)
    · refine lv_iconst (v := -1) hx hb dX11_node_96 (by decide) ?_
      exact W.iret (v := (-1)) hx hb hr (fun t ht hW => ⟨⟨(-1), (), rfl, (by rw [if_neg]; exact fun h => in00 er_9 c_10 h.2.2), trivial⟩, hS.F ht⟩) hS.2.2 dX11_node_97
    · refine lv_iload hx hb dX11_node_82 (lv_at hl 1 rfl) ?_
      refine lv_if_ne (tgt := 96) hx hb dX11_node_84 (by decide) (fun c_11 => ?_) (fun c_11 => ?_)
      · exact absurd c_11 (by decide)
      refine lv_aload_n hx hb dX11_node_87 rfl (lv_at hl 3 rfl) ?_
      refine va_get (D := (dC, dI)) (ci := 12) (v := .int 0) (C := RX11) (T := TX11) (N := 63) hx hb hts in_c_X11_node_X11 hown hK hP 0 rfl rfl 0 (by decide) (hts (.fieldLink RX11 172 "ClaimBusModel" "nodes" "I") (List.mem_of_getElem? (i := 2) rfl)) (fun _ h9 => h9) hf0 dX11_node_88 ?_
      refine lv_bipush (v := 8) hx hb dX11_node_91 (by decide) ?_
      refine lv_icmp_ne (tgt := 98) hx hb dX11_node_93 (by decide) (fun c_12 => ?_) (fun c_12 => ?_)
      rotate_left
      · exact absurd c_12 (by decide)
      refine lv_aload_n hx hb dX11_node_98 rfl (lv_at hl 3 rfl) ?_
      refine va_get (D := (dC, dI)) (ci := 12) (v := .ref a2) (C := RX11) (T := TX11) (N := 63) hx hb hts in_c_X11_node_X11 hown hK hP 0 rfl rfl 2 (by decide) (hts (.fieldLink RX11 7 "ClaimBusModel" "names" "[J") (List.mem_of_getElem? (i := 7) rfl)) (fun _ h9 => h9) hf2 dX11_node_99 ?_
      refine lv_aload_n hx hb dX11_node_102 rfl (lv_at hl 3 rfl) ?_
      refine va_get (D := (dC, dI)) (ci := 12) (v := .int 0) (C := RX11) (T := TX11) (N := 63) hx hb hts in_c_X11_node_X11 hown hK hP 0 rfl rfl 0 (by decide) (hts (.fieldLink RX11 172 "ClaimBusModel" "nodes" "I") (List.mem_of_getElem? (i := 2) rfl)) (fun _ h9 => h9) hf0 dX11_node_103 ?_
      refine lv_lload hx hb dX11_node_106 (lv_at hl 2 rfl) ?_
      refine va_last hx hb hK hP hD hS 1 0 rfl rfl (show ¬ ((0 : Int32) < 0 ∨ 8 ≤ (0 : Int32).toNatClampNeg) by decide) dX11_node_108 (fun H locs hP hD hS => ?_)
      obtain ⟨f_13, ef_13⟩ : ∃ z : Nat → Int64, z = vp_updL f2 (Int32.toNatClampNeg (0)) (x_5) := ⟨_, rfl⟩
      have hP : va_P (dC, dI) vwCl [(h0, .inr (12, fs)), (a2, .inl (c2, 8, .inr (.inl f_13))), (a3, .inl (c3, 8, .inl f3)), (a4, .inl (c4, 8, .inl f4)), (a5, .inl (c5, 8, .inl f5)), (a6, .inl (c6, 8, .inl f6))] H := by rw [ef_13]; exact hP
      have hD : va_D A [(h0, .inr (12, fs)), (a2, .inl (c2, 8, .inr (.inl f_13))), (a3, .inl (c3, 8, .inl f3)), (a4, .inl (c4, 8, .inl f4)), (a5, .inl (c5, 8, .inl f5)), (a6, .inl (c6, 8, .inl f6))] := by rw [ef_13]; exact hD
      refine lv_aload_n hx hb dX11_node_109 rfl (lv_at hl 3 rfl) ?_
      refine va_get (D := (dC, dI)) (ci := 12) (v := .ref a3) (C := RX11) (T := TX11) (N := 63) hx hb hts in_c_X11_node_X11 hown hK hP 0 rfl rfl 3 (by decide) (hts (.fieldLink RX11 13 "ClaimBusModel" "wanted" "[I") (List.mem_of_getElem? (i := 8) rfl)) (fun _ h9 => h9) hf3 dX11_node_110 ?_
      refine lv_aload_n hx hb dX11_node_113 rfl (lv_at hl 3 rfl) ?_
      refine va_get (D := (dC, dI)) (ci := 12) (v := .int 0) (C := RX11) (T := TX11) (N := 63) hx hb hts in_c_X11_node_X11 hown hK hP 0 rfl rfl 0 (by decide) (hts (.fieldLink RX11 172 "ClaimBusModel" "nodes" "I") (List.mem_of_getElem? (i := 2) rfl)) (fun _ h9 => h9) hf0 dX11_node_114 ?_
      refine lv_iload_n hx hb dX11_node_117 rfl (lv_at hl 6 rfl) ?_
      refine va_iast hx hb hK hP hD hS 2 1 rfl rfl (show ¬ ((0 : Int32) < 0 ∨ 8 ≤ (0 : Int32).toNatClampNeg) by decide) dX11_node_118 (fun H locs hP hD hS => ?_)
      obtain ⟨f_14, ef_14⟩ : ∃ z : Nat → Int32, z = upd f3 (Int32.toNatClampNeg (0)) (p2) := ⟨_, rfl⟩
      have hP : va_P (dC, dI) vwCl [(h0, .inr (12, fs)), (a2, .inl (c2, 8, .inr (.inl f_13))), (a3, .inl (c3, 8, .inl f_14)), (a4, .inl (c4, 8, .inl f4)), (a5, .inl (c5, 8, .inl f5)), (a6, .inl (c6, 8, .inl f6))] H := by rw [ef_14]; exact hP
      have hD : va_D A [(h0, .inr (12, fs)), (a2, .inl (c2, 8, .inr (.inl f_13))), (a3, .inl (c3, 8, .inl f_14)), (a4, .inl (c4, 8, .inl f4)), (a5, .inl (c5, 8, .inl f5)), (a6, .inl (c6, 8, .inl f6))] := by rw [ef_14]; exact hD
      refine lv_aload_n hx hb dX11_node_119 rfl (lv_at hl 3 rfl) ?_
      refine va_get (D := (dC, dI)) (ci := 12) (v := .ref a4) (C := RX11) (T := TX11) (N := 63) hx hb hts in_c_X11_node_X11 hown hK hP 0 rfl rfl 4 (by decide) (hts (.fieldLink RX11 17 "ClaimBusModel" "address" "[I") (List.mem_of_getElem? (i := 9) rfl)) (fun _ h9 => h9) hf4 dX11_node_120 ?_
      refine lv_aload_n hx hb dX11_node_123 rfl (lv_at hl 3 rfl) ?_
      refine va_get (D := (dC, dI)) (ci := 12) (v := .int 0) (C := RX11) (T := TX11) (N := 63) hx hb hts in_c_X11_node_X11 hown hK hP 0 rfl rfl 0 (by decide) (hts (.fieldLink RX11 172 "ClaimBusModel" "nodes" "I") (List.mem_of_getElem? (i := 2) rfl)) (fun _ h9 => h9) hf0 dX11_node_124 ?_
      refine lv_iload_n hx hb dX11_node_127 rfl (lv_at hl 6 rfl) ?_
      refine va_iast hx hb hK hP hD hS 3 2 rfl rfl (show ¬ ((0 : Int32) < 0 ∨ 8 ≤ (0 : Int32).toNatClampNeg) by decide) dX11_node_128 (fun H locs hP hD hS => ?_)
      obtain ⟨f_15, ef_15⟩ : ∃ z : Nat → Int32, z = upd f4 (Int32.toNatClampNeg (0)) (p2) := ⟨_, rfl⟩
      have hP : va_P (dC, dI) vwCl [(h0, .inr (12, fs)), (a2, .inl (c2, 8, .inr (.inl f_13))), (a3, .inl (c3, 8, .inl f_14)), (a4, .inl (c4, 8, .inl f_15)), (a5, .inl (c5, 8, .inl f5)), (a6, .inl (c6, 8, .inl f6))] H := by rw [ef_15]; exact hP
      have hD : va_D A [(h0, .inr (12, fs)), (a2, .inl (c2, 8, .inr (.inl f_13))), (a3, .inl (c3, 8, .inl f_14)), (a4, .inl (c4, 8, .inl f_15)), (a5, .inl (c5, 8, .inl f5)), (a6, .inl (c6, 8, .inl f6))] := by rw [ef_15]; exact hD
      refine lv_aload_n hx hb dX11_node_129 rfl (lv_at hl 3 rfl) ?_
      refine va_get (D := (dC, dI)) (ci := 12) (v := .ref a5) (C := RX11) (T := TX11) (N := 63) hx hb hts in_c_X11_node_X11 hown hK hP 0 rfl rfl 5 (by decide) (hts (.fieldLink RX11 20 "ClaimBusModel" "free" "[Z") (List.mem_of_getElem? (i := 10) rfl)) (fun _ h9 => h9) hf5 dX11_node_130 ?_
      refine lv_aload_n hx hb dX11_node_133 rfl (lv_at hl 3 rfl) ?_
      refine va_get (D := (dC, dI)) (ci := 12) (v := .int 0) (C := RX11) (T := TX11) (N := 63) hx hb hts in_c_X11_node_X11 hown hK hP 0 rfl rfl 0 (by decide) (hts (.fieldLink RX11 172 "ClaimBusModel" "nodes" "I") (List.mem_of_getElem? (i := 2) rfl)) (fun _ h9 => h9) hf0 dX11_node_134 ?_
      refine lv_iload hx hb dX11_node_137 (lv_at hl 7 rfl) ?_
      refine va_zast hx hb hK hP hD hS 4 3 rfl rfl (show ¬ ((0 : Int32) < 0 ∨ 8 ≤ (0 : Int32).toNatClampNeg) by decide) dX11_node_139 (fun H locs hP hD hS => ?_)
      obtain ⟨f_16, ef_16⟩ : ∃ z : Nat → Int32, z = upd f5 (Int32.toNatClampNeg (0)) (vp_nar .boolean (fr)) := ⟨_, rfl⟩
      have hP : va_P (dC, dI) vwCl [(h0, .inr (12, fs)), (a2, .inl (c2, 8, .inr (.inl f_13))), (a3, .inl (c3, 8, .inl f_14)), (a4, .inl (c4, 8, .inl f_15)), (a5, .inl (c5, 8, .inl f_16)), (a6, .inl (c6, 8, .inl f6))] H := by rw [ef_16]; exact hP
      have hD : va_D A [(h0, .inr (12, fs)), (a2, .inl (c2, 8, .inr (.inl f_13))), (a3, .inl (c3, 8, .inl f_14)), (a4, .inl (c4, 8, .inl f_15)), (a5, .inl (c5, 8, .inl f_16)), (a6, .inl (c6, 8, .inl f6))] := by rw [ef_16]; exact hD
      refine lv_aload_n hx hb dX11_node_140 rfl (lv_at hl 3 rfl) ?_
      refine va_get (D := (dC, dI)) (ci := 12) (v := .ref a6) (C := RX11) (T := TX11) (N := 63) hx hb hts in_c_X11_node_X11 hown hK hP 0 rfl rfl 6 (by decide) (hts (.fieldLink RX11 24 "ClaimBusModel" "window" "[I") (List.mem_of_getElem? (i := 11) rfl)) (fun _ h9 => h9) hf6 dX11_node_141 ?_
      refine lv_aload_n hx hb dX11_node_144 rfl (lv_at hl 3 rfl) ?_
      refine va_get (D := (dC, dI)) (ci := 12) (v := .int 0) (C := RX11) (T := TX11) (N := 63) hx hb hts in_c_X11_node_X11 hown hK hP 0 rfl rfl 0 (by decide) (hts (.fieldLink RX11 172 "ClaimBusModel" "nodes" "I") (List.mem_of_getElem? (i := 2) rfl)) (fun _ h9 => h9) hf0 dX11_node_145 ?_
      refine lv_iload hx hb dX11_node_148 (lv_at hl 8 rfl) ?_
      refine va_iast hx hb hK hP hD hS 5 4 rfl rfl (show ¬ ((0 : Int32) < 0 ∨ 8 ≤ (0 : Int32).toNatClampNeg) by decide) dX11_node_150 (fun H locs hP hD hS => ?_)
      obtain ⟨f_17, ef_17⟩ : ∃ z : Nat → Int32, z = upd f6 (Int32.toNatClampNeg (0)) (p3) := ⟨_, rfl⟩
      have hP : va_P (dC, dI) vwCl [(h0, .inr (12, fs)), (a2, .inl (c2, 8, .inr (.inl f_13))), (a3, .inl (c3, 8, .inl f_14)), (a4, .inl (c4, 8, .inl f_15)), (a5, .inl (c5, 8, .inl f_16)), (a6, .inl (c6, 8, .inl f_17))] H := by rw [ef_17]; exact hP
      have hD : va_D A [(h0, .inr (12, fs)), (a2, .inl (c2, 8, .inr (.inl f_13))), (a3, .inl (c3, 8, .inl f_14)), (a4, .inl (c4, 8, .inl f_15)), (a5, .inl (c5, 8, .inl f_16)), (a6, .inl (c6, 8, .inl f_17))] := by rw [ef_17]; exact hD
      refine lv_aload_n hx hb dX11_node_151 rfl (lv_at hl 3 rfl) ?_
      refine lv_dup hx hb dX11_node_152 rfl ?_
      refine va_get (D := (dC, dI)) (ci := 12) (v := .int 0) (C := RX11) (T := TX11) (N := 63) hx hb hts in_c_X11_node_X11 hown hK hP 0 rfl rfl 0 (by decide) (hts (.fieldLink RX11 172 "ClaimBusModel" "nodes" "I") (List.mem_of_getElem? (i := 2) rfl)) (fun _ h9 => h9) hf0 dX11_node_153 ?_
      refine lv_iconst (v := 1) hx hb dX11_node_156 (by decide) ?_
      refine lv_iadd hx hb dX11_node_157 ?_
      refine lv_topi (fun x_18 ex_18 => ?_)
      obtain rfl : x_18 = 1 := ex_18.trans (by decide)
      refine va_put (D := (dC, dI)) (ci := 12) (v := .int 1) (ty := .int) (C := RX11) (T := TX11) (N := 63) hx hb hts in_c_X11_node_X11 tyX11 tyX11_ok nmX11 hown hK hP hD hS 0 rfl rfl 0 (by decide) (hts (.fieldLink RX11 172 "ClaimBusModel" "nodes" "I") (List.mem_of_getElem? (i := 2) rfl)) (fun _ h9 => h9) rfl (by decide +kernel) rfl rfl (by rw [hlen]; decide) dX11_node_158 (fun H locs hP hD hS => ?_)
      obtain ⟨fs_19, efs_19⟩ : ∃ z : List Value, z = fs.set 0 (.int 1) := ⟨_, rfl⟩
      rw [← efs_19] at hP hD
      have hl_fs_19 : fs_19.length = 63 := by rw [efs_19, List.length_set]; exact hlen
      have h2_fs_19 : fs_19[2]? = some (.ref a2) := by rw [efs_19, List.getElem?_set_ne (by decide)]; exact hf2
      have h3_fs_19 : fs_19[3]? = some (.ref a3) := by rw [efs_19, List.getElem?_set_ne (by decide)]; exact hf3
      have h4_fs_19 : fs_19[4]? = some (.ref a4) := by rw [efs_19, List.getElem?_set_ne (by decide)]; exact hf4
      have h5_fs_19 : fs_19[5]? = some (.ref a5) := by rw [efs_19, List.getElem?_set_ne (by decide)]; exact hf5
      have h6_fs_19 : fs_19[6]? = some (.ref a6) := by rw [efs_19, List.getElem?_set_ne (by decide)]; exact hf6
      have h0_fs_19 : fs_19[0]? = some (.int 1) := by rw [efs_19]; exact List.getElem?_set_self (by rw [hlen]; decide)
      have hP : va_P (dC, dI) vwCl [(h0, .inr (12, fs_19)), (a2, .inl (c2, 8, .inr (.inl f_13))), (a3, .inl (c3, 8, .inl f_14)), (a4, .inl (c4, 8, .inl f_15)), (a5, .inl (c5, 8, .inl f_16)), (a6, .inl (c6, 8, .inl f_17))] H := hP
      have hD : va_D A [(h0, .inr (12, fs_19)), (a2, .inl (c2, 8, .inr (.inl f_13))), (a3, .inl (c3, 8, .inl f_14)), (a4, .inl (c4, 8, .inl f_15)), (a5, .inl (c5, 8, .inl f_16)), (a6, .inl (c6, 8, .inl f_17))] := hD
      refine lv_aload_n hx hb dX11_node_161 rfl (lv_at hl 3 rfl) ?_
      refine va_get (D := (dC, dI)) (ci := 12) (v := .int 1) (C := RX11) (T := TX11) (N := 63) hx hb hts in_c_X11_node_X11 hown hK hP 0 rfl rfl 0 (by decide) (hts (.fieldLink RX11 172 "ClaimBusModel" "nodes" "I") (List.mem_of_getElem? (i := 2) rfl)) (fun _ h9 => h9) h0_fs_19 dX11_node_162 ?_
      refine lv_iconst (v := 1) hx hb dX11_node_165 (by decide) ?_
      refine lv_isub hx hb dX11_node_166 ?_
      refine lv_topi (fun x_20 ex_20 => ?_)
      obtain rfl : x_20 = 0 := ex_20.trans (by decide)
      exact W.iret (v := 0) hx hb hr (fun t ht hW => ⟨⟨0, (), rfl, (by rw [if_pos ⟨(in01 er_7 c_8).1, (in01 er_7 c_8).2, in01 er_9 c_10⟩]), trivial⟩, hS.F ht⟩) hS.2.2 dX11_node_167
