def v_c_X11_pass : List Cond := .code yX11_pass cX11_pass 4 (some .int) :: ([.code yX11_in cX11_in 3 (some .boolean), .initialized RX11, .methodLink RX11 175 yX11_in, .static yX11_in, .fieldLink RX11 220 "ClaimBusModel" "time" "I", .fieldLink RX11 172 "ClaimBusModel" "nodes" "I", .code yX11_carry cX11_carry 5 none, .methodLink RX11 336 yX11_carry, .instanceMethod yX11_carry, .selects RX11 yX11_carry yX11_carry] ++ wsX110)
theorem in_c_X11_pass_X11 : ∀ w ∈ wsX110, w ∈ v_c_X11_pass := fun w h => List.mem_cons_of_mem _ (List.mem_append_right _ h)
set_option maxRecDepth 20000 in
theorem g_c_X11_pass_c_X11_in_175 : GoodIn v_c_X11_pass (va_wsS RX11 175 yX11_in v_c_X11_in) := goodIn_r _ [3, 4, 2, 1] (by decide +kernel) (by decide +kernel)
set_option maxRecDepth 20000 in
theorem g_c_X11_pass_c_X11_carry_336 : GoodIn v_c_X11_pass (wsV RX11 336 RX11 yX11_carry v_c_X11_carry) := goodIn_r _ [8, 9, 10, 2, 7, 6, 11, 12, 13, 14, 15, 16, 17, 18, 19, 20, 21, 22, 23, 24, 25, 26, 27, 28, 29, 30, 31, 32, 33, 34, 35, 36, 37, 38, 39, 40, 41, 42, 43, 44, 45, 46, 47, 48, 49, 50, 51, 52, 53, 54, 55, 56, 57, 58, 59, 60, 61, 62, 63, 64, 65, 66, 67, 68, 69, 70, 71, 72, 73] (by decide +kernel) (by decide +kernel)
set_option maxHeartbeats 4000000 in
set_option maxRecDepth 100000 in
/-- pass on a fresh model: it goes through each millisecond -/
theorem c_X11_pass (l : Launch) (dC : Nat → ClassId) (dI : Nat → Nat → Nat) (h0 : Nat) (fs : List Value) (p0 : Int32) (sz : Nat) (hf0 : fs[0]? = some (.int 0)) (hf1 : fs[1]? = some (.int 0)) (hlen : fs.length = 63) : Met l yX11_pass v_c_X11_pass ({ frames := 1, cells := 0, slots := 0, locals := 24 }) (va_Pc [.ref h0, .int p0] (fun U => U.heap.size = sz ∧ va_P (dC, dI) vwCl [(h0, .inr (12, fs))] U.heap ∧ va_K (dC, dI) vwCl [] U ∧ va_D (fun _ => True) [(h0, .inr (12, fs))] ∧ ev U)) (va_Qi (fun (r : Int32) (_ : Unit) => r = if 1 ≤ p0 ∧ p0 ≤ 5000 then p0 else (-1)) (fun (_ : Unit) (_ : State) => True) (va_A [(h0, .inr (12, fs))] sz)) 0 0 (va_A [(h0, .inr (12, fs))] sz) := by
  refine Met.ofW (cc := cX11_pass) (maxL := 4) (ret := (some .int)) (by decide) rfl ?_
  intro p e s m args below meth c s₁ B hml hv
  obtain ⟨rfl, hsz, hP, hK, hD0, hE⟩ := hv
  have hx := B.exec
  have hb := B.bytes
  have hr := B.returns
  have hts := atoms_spec (ws := v_c_X11_pass) B.pre
  have hown : s.vm.findClass RX11 = some m.cls := findClass_of_methodNamed B.named
  have hlocks := B.notSynchronized
  subst hsz
  have hD := hD0.self (sz := s.heap.size)
  generalize hAe : va_A [(h0, .inr (12, fs))] s.heap.size = A at hD ⊢
  have hA : ∀ q : Nat, s.heap.size ≤ q → A q := fun q h => by rw [← hAe]; exact Or.inr h
  have hS : va_S A s.heap s.heap [] := va_S.rf
  replace hP : va_P (dC, dI) vwCl [(h0, .inr (12, fs))] s.heap := hP
  have hl := lv_entry ([.ref h0, .int p0]) (n := 4) (Nat.le_of_ble_eq_true rfl)
  rw [lg_entry_eq]
  generalize (lg_sl ([.ref h0, .int p0]) ++ List.replicate (4 - (lg_sl ([.ref h0, .int p0])).length) Slot.unset).toArray = ls at hl ⊢
  replace hl : lv_has ls 4 [(0, .ref h0), (1, .int p0)] := hl
  obtain ⟨H, hH⟩ : ∃ z : Heap, z = s.heap := ⟨_, rfl⟩
  rw [← hH]
  replace hS : va_S A s.heap H [] := by rw [hH]; exact va_S.rf
  replace hP : va_P (dC, dI) vwCl [(h0, .inr (12, fs))] H := by rw [hH]; exact hP
  clear hH
  refine lv_iload_n hx hb dX11_pass_0 rfl (lv_at hl 1 rfl) ?_
  refine lv_iconst (v := 1) hx hb dX11_pass_1 (by decide) ?_
  refine lv_sipush (v := 5000) hx hb dX11_pass_2 (by decide) ?_
  have hPc := hP.sub (ws' := []) [] rfl
  have hDc := hD.sub (ws' := []) [] (by decide) rfl
  have hKc := hK.sub (tys' := []) [] rfl
  have hFc := ro_free hS hA
  refine va_calli (va_runS (As := [.int p0, .int 1, .int 5000]) (rest := []) ⟨hx, hb, hml, hown, hts⟩ (c_X11_in l dC dI (p0) (1) (5000) H.size) (va_cwS 3 hts g_c_X11_pass_c_X11_in_175 rfl rfl rfl (by decide +kernel) ⟨Nat.le_of_ble_eq_true rfl, Nat.le_of_ble_eq_true rfl⟩) ⟨fun a U g mk q => by obtain ⟨q0, q1, qP, qK, qD, qE⟩ := q; exact ⟨q0, q1, qP, va_K.moved (u := U) (U := U.calling g mk a) (Vm.Alike.refl U.vm) qK, qD, ev.same (u := U) (U := U.calling g mk a) rfl qE⟩, fun U hU hW => ⟨rfl, by rw [hU], by rw [hU]; exact hPc, va_K.moved hW.alike hKc, hDc.weaken (fun _ _ _ _ => trivial), hE.warm hW⟩⟩ rfl rfl hl.1 rfl (lv_room (Nat.le_of_ble_eq_true rfl)) dX11_pass_5 ⟨Nat.le_of_ble_eq_true rfl, Nat.le_of_ble_eq_true rfl⟩) hS (fun q _ h => hFc q h) hFc (fun r_1 u t H1 locs ht hvm hw hB hz1 hk1 hS => ?_)
  clear hPc hDc hKc
  replace hP := ro_keep hP hk1
  generalize H1 = H at hP hS ⊢
  replace hP : va_P (dC, dI) vwCl [(h0, .inr (12, fs))] H := hP
  have er_1 := hw
  clear hw
  refine lv_if_ne (tgt := 13) hx hb dX11_pass_8 (by decide) (fun c_2 => ?_) (fun c_2 => ?_)
  · refine lv_iconst (v := 0) hx hb dX11_pass_13 (by decide) ?_
    refine lv_istore_n (lv' := [(2, .int 0), (0, .ref h0), (1, .int p0)]) hx hb dX11_pass_14 rfl hl (by decide) rfl (fun ls hl => ?_)
    have hin := in01 er_1 c_2
    obtain ⟨N, hN, hp0⟩ := nI_of2 (M := 5000) (n := 5000) (by decide) (fun h => absurd (Int32.lt_of_le_of_lt hin.1 h) (by decide)) hin.2
    obtain ⟨n, i, x2, tm, hn, hx2, htm, hx0, ht0⟩ : ∃ (n i : Nat) (x2 tm : Int32), i + n = N ∧ x2 = nI i ∧ tm = nI i ∧ x2 = 0 ∧ tm = 0 := ⟨N, 0, 0, 0, Nat.zero_add N, nI_0.symm, nI_0.symm, rfl, rfl⟩
    replace hl : lv_has ls 4 [(2, .int x2), (0, .ref h0), (1, .int p0)] := by rw [hx0]; exact lv_sub hl [0, 1, 2] rfl
    replace hf1 : fs[1]? = some (.int tm) := by rw [ht0]; exact hf1
    clear hx0 ht0
    clear hAe hD0
    induction n generalizing i x2 tm fs H locs ls with
    | zero =>
      refine lv_iload_n hx hb dX11_pass_15 rfl (lv_at hl 0 rfl) ?_
      refine lv_iload_n hx hb dX11_pass_16 rfl (lv_at hl 2 rfl) ?_
      refine lv_icmp_ge (tgt := 61) hx hb dX11_pass_17 (by decide) (fun c_3 => ?_) (fun c_3 => ?_)
      rotate_left
      · exact absurd (show p0 ≤ x2 from by rw [hp0, hx2]; exact nI_le (by omega) (by omega)) c_3
      refine lv_aload_n hx hb dX11_pass_61 rfl (lv_at hl 1 rfl) ?_
      refine va_get (D := (dC, dI)) (ci := 12) (v := .int tm) (C := RX11) (T := TX11) (N := 63) hx hb hts in_c_X11_pass_X11 hown hK hP 0 rfl rfl 1 (by decide) (hts (.fieldLink RX11 220 "ClaimBusModel" "time" "I") (List.mem_of_getElem? (i := 5) rfl)) (fun _ h9 => h9) hf1 dX11_pass_62 ?_
      exact W.iret (v := tm) hx hb hr (fun t ht hW => ⟨⟨tm, (), rfl, (by rw [if_pos hin, htm, hp0, show i = N by omega]), trivial⟩, hS.F ht⟩) hS.2.2 dX11_pass_65
    | succ n ih =>
      refine lv_iload_n hx hb dX11_pass_15 rfl (lv_at hl 0 rfl) ?_
      refine lv_iload_n hx hb dX11_pass_16 rfl (lv_at hl 2 rfl) ?_
      refine lv_icmp_ge (tgt := 61) hx hb dX11_pass_17 (by decide) (fun c_4 => ?_) (fun c_4 => ?_)
      · exact absurd c_4 (by rw [hp0, hx2]; exact nI_ge (by omega) (by omega))
      refine lv_aload_n hx hb dX11_pass_20 rfl (lv_at hl 1 rfl) ?_
      refine lv_dup hx hb dX11_pass_21 rfl ?_
      refine va_get (D := (dC, dI)) (ci := 12) (v := .int tm) (C := RX11) (T := TX11) (N := 63) hx hb hts in_c_X11_pass_X11 hown hK hP 0 rfl rfl 1 (by decide) (hts (.fieldLink RX11 220 "ClaimBusModel" "time" "I") (List.mem_of_getElem? (i := 5) rfl)) (fun _ h9 => h9) hf1 dX11_pass_22 ?_
      refine lv_iconst (v := 1) hx hb dX11_pass_25 (by decide) ?_
      refine lv_iadd hx hb dX11_pass_26 ?_
      refine lv_topi (fun x_5 ex_5 => ?_)
      refine va_put (D := (dC, dI)) (ci := 12) (v := .int x_5) (ty := .int) (C := RX11) (T := TX11) (N := 63) hx hb hts in_c_X11_pass_X11 tyX11 tyX11_ok nmX11 hown hK hP hD hS 0 rfl rfl 1 (by decide) (hts (.fieldLink RX11 220 "ClaimBusModel" "time" "I") (List.mem_of_getElem? (i := 5) rfl)) (fun _ h9 => h9) rfl (by decide +kernel) rfl rfl (by rw [hlen]; decide) dX11_pass_27 (fun H locs hP hD hS => ?_)
      obtain ⟨fs_6, efs_6⟩ : ∃ z : List Value, z = fs.set 1 (.int x_5) := ⟨_, rfl⟩
      rw [← efs_6] at hP hD
      have hl_fs_6 : fs_6.length = 63 := by rw [efs_6, List.length_set]; exact hlen
      have h0_fs_6 : fs_6[0]? = some (.int 0) := by rw [efs_6, List.getElem?_set_ne (by decide)]; exact hf0
      have h1_fs_6 : fs_6[1]? = some (.int x_5) := by rw [efs_6]; exact List.getElem?_set_self (by rw [hlen]; decide)
      replace hP : va_P (dC, dI) vwCl [(h0, .inr (12, fs_6))] H := hP
      replace hD : va_D A [(h0, .inr (12, fs_6))] := hD
      refine lv_iconst (v := 0) hx hb dX11_pass_30 (by decide) ?_
      refine lv_istore_n (lv' := [(3, .int 0), (2, .int x2), (0, .ref h0), (1, .int p0)]) hx hb dX11_pass_31 rfl hl (by decide) rfl (fun ls hl => ?_)
      refine lv_iload_n hx hb dX11_pass_32 rfl (lv_at hl 0 rfl) ?_
      refine lv_aload_n hx hb dX11_pass_33 rfl (lv_at hl 2 rfl) ?_
      refine va_get (D := (dC, dI)) (ci := 12) (v := .int 0) (C := RX11) (T := TX11) (N := 63) hx hb hts in_c_X11_pass_X11 hown hK hP 0 rfl rfl 0 (by decide) (hts (.fieldLink RX11 172 "ClaimBusModel" "nodes" "I") (List.mem_of_getElem? (i := 6) rfl)) (fun _ h9 => h9) h0_fs_6 dX11_pass_34 ?_
      refine lv_icmp_ge (tgt := 51) hx hb dX11_pass_37 (by decide) (fun c_7 => ?_) (fun c_7 => ?_)
      rotate_left
      · exact absurd (by decide) c_7
      refine lv_aload_n hx hb dX11_pass_51 rfl (lv_at hl 2 rfl) ?_
      have hPc := hP.sub (ws' := [(h0, .inr (12, fs_6))]) [0] rfl
      have hDc := hD.sub (ws' := [(h0, .inr (12, fs_6))]) [0] (by decide) rfl
      have hKc := hK.sub (tys' := []) [] rfl
      have hFc := ro_free hS hA
      refine va_callv (va_runV (As := []) (rest := []) ⟨hx, hb, hml, hown, hts⟩ (c_X11_carry l dC dI (h0) (fs_6) H.size (h0_fs_6)) (cwV 0 hts g_c_X11_pass_c_X11_carry_336 rfl rfl rfl (by decide +kernel) ⟨Nat.le_of_ble_eq_true rfl, Nat.le_of_ble_eq_true rfl⟩) ⟨fun a U g mk q => by obtain ⟨q0, q1, qP, qK, qD, qE⟩ := q; exact ⟨q0, q1, qP, va_K.moved (u := U) (U := U.calling g mk a) (Vm.Alike.refl U.vm) qK, qD, ev.same (u := U) (U := U.calling g mk a) rfl qE⟩, va_recv hKc hPc (ci := 12) (q0 := 0) rfl rfl, fun U hU hW => ⟨rfl, by rw [hU], by rw [hU]; exact hPc, va_K.moved hW.alike hKc, hDc.weaken (fun _ _ _ _ => trivial), hE.warm hW⟩⟩ rfl rfl hl.1 rfl (lv_room (Nat.le_of_ble_eq_true rfl)) dX11_pass_52 ⟨Nat.le_of_ble_eq_true rfl, Nat.le_of_ble_eq_true rfl⟩) hS (fun q _ h => hFc q h) hFc (fun u t H1 locs ht hvm hw hB hz1 hk1 hS => ?_)
      clear hPc hDc hKc
      replace hP := ro_keep hP hk1
      generalize H1 = H at hP hS ⊢
      replace hP : va_P (dC, dI) vwCl [(h0, .inr (12, fs_6))] H := hP
      obtain ⟨x_9, ex_9⟩ : ∃ y : Int32, y = x2 + 1 := ⟨_, rfl⟩
      refine lv_iinc (v := x_9) (lv' := [(2, .int x_9), (3, .int 0), (0, .ref h0), (1, .int p0)]) hx hb dX11_pass_55 hl (k := 1) rfl (by rw [ex_9]; rfl) (by decide) rfl (fun ls hl => ?_)
      refine lv_goto (tgt := 15) hx hb dX11_pass_58 (by decide) ?_
      exact ih (i := i + 1) (x2 := x_9) (tm := x_5) (fs := fs_6) (hn := by omega) (hx2 := by rw [ex_9, hx2]; exact nI_1 i) (htm := by rw [ex_5, htm]; exact nI_1 i) (hf0 := h0_fs_6) (hf1 := h1_fs_6) (hlen := hl_fs_6) (hP := hP) (hD := hD) (hS := hS) (hl := lv_sub hl [0, 2, 3] rfl)
  · refine lv_iconst (v := -1) hx hb dX11_pass_11 (by decide) ?_
    exact W.iret (v := (-1)) hx hb hr (fun t ht hW => ⟨⟨(-1), (), rfl, (by rw [if_neg]; exact in00 er_1 c_2), trivial⟩, hS.F ht⟩) hS.2.2 dX11_pass_12
