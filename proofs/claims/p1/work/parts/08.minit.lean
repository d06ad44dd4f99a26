def v_c_X11_init : List Cond := .code yX11_init cX11_init 2 none :: ([.methodLink RX11 1 objectInit, .instanceMethod objectInit, .code objectInit ⟨#[0xb1]⟩ 1 none, .arrayClass .long, .fieldLink RX11 7 "ClaimBusModel" "names" "[J", .arrayClass .int, .fieldLink RX11 13 "ClaimBusModel" "wanted" "[I", .fieldLink RX11 17 "ClaimBusModel" "address" "[I", .arrayClass .boolean, .fieldLink RX11 20 "ClaimBusModel" "free" "[Z", .fieldLink RX11 24 "ClaimBusModel" "window" "[I", .fieldLink RX11 27 "ClaimBusModel" "state" "[I", .fieldLink RX11 30 "ClaimBusModel" "claimed" "[I", .fieldLink RX11 33 "ClaimBusModel" "tables" "[I", .fieldLink RX11 36 "ClaimBusModel" "first" "[I", .fieldLink RX11 39 "ClaimBusModel" "last" "[I", .fieldLink RX11 42 "ClaimBusModel" "waits" "[I", .constant RX11 45 (131072), .fieldLink RX11 46 "ClaimBusModel" "ids" "[I", .fieldLink RX11 49 "ClaimBusModel" "lows" "[I", .fieldLink RX11 52 "ClaimBusModel" "highs" "[I", .fieldLink RX11 55 "ClaimBusModel" "behind" "[I", .fieldLink RX11 58 "ClaimBusModel" "back" "I", .fieldLink RX11 62 "ClaimBusModel" "claimWaits" "[Z", .fieldLink RX11 65 "ClaimBusModel" "sending" "[I", .fieldLink RX11 68 "ClaimBusModel" "sendTo" "[I", .fieldLink RX11 71 "ClaimBusModel" "sendGroup" "[I", .fieldLink RX11 74 "ClaimBusModel" "sendSize" "[I", .fieldLink RX11 77 "ClaimBusModel" "sendNext" "[I", .fieldLink RX11 80 "ClaimBusModel" "sendSince" "[I", .fieldLink RX11 83 "ClaimBusModel" "sendBytes" "[I", .fieldLink RX11 86 "ClaimBusModel" "getSource" "[I", .fieldLink RX11 89 "ClaimBusModel" "getOne" "[Z", .fieldLink RX11 92 "ClaimBusModel" "getGroup" "[I", .fieldLink RX11 95 "ClaimBusModel" "getSize" "[I", .fieldLink RX11 98 "ClaimBusModel" "getWindow" "[I", .fieldLink RX11 101 "ClaimBusModel" "getNext" "[I", .fieldLink RX11 104 "ClaimBusModel" "getCleared" "[I", .fieldLink RX11 107 "ClaimBusModel" "getSince" "[I", .fieldLink RX11 110 "ClaimBusModel" "getTries" "[I", .fieldLink RX11 113 "ClaimBusModel" "getOrder" "[I", .constant RX11 116 (573440), .fieldLink RX11 117 "ClaimBusModel" "getBytes" "[I", .fieldLink RX11 120 "ClaimBusModel" "came" "[I", .fieldLink RX11 123 "ClaimBusModel" "messages" "[I", .fieldLink RX11 126 "ClaimBusModel" "lose" "[I", .fieldLink RX11 129 "ClaimBusModel" "lost" "[I", .fieldLink RX11 132 "ClaimBusModel" "troubles" "[I", .fieldLink RX11 135 "ClaimBusModel" "trouble" "[I", .fieldLink RX11 138 "ClaimBusModel" "keptMany" "[I", .constant RX11 141 (61440), .fieldLink RX11 142 "ClaimBusModel" "kept" "[I", .fieldLink RX11 145 "ClaimBusModel" "carriedNode" "I", .fieldLink RX11 148 "ClaimBusModel" "saidGroup" "[I", .fieldLink RX11 151 "ClaimBusModel" "saidSize" "[I", .fieldLink RX11 154 "ClaimBusModel" "saidSeed" "[I", .fieldLink RX11 157 "ClaimBusModel" "saidTroubles" "[I", .fieldLink RX11 160 "ClaimBusModel" "latest" "[I", .fieldLink RX11 163 "ClaimBusModel" "frameOf" "[I", .fieldLink RX11 166 "ClaimBusModel" "getOf" "[I", .fieldLink RX11 169 "ClaimBusModel" "eight" "[I"] ++ wsX110)
theorem in_c_X11_init_X11 : ∀ w ∈ wsX110, w ∈ v_c_X11_init := fun w h => List.mem_cons_of_mem _ (List.mem_append_right _ h)
set_option maxHeartbeats 4000000 in
set_option maxRecDepth 100000 in
/-- ClaimBusModel() -/
theorem c_X11_init (l : Launch) (dC : Nat → ClassId) (dI : Nat → Nat → Nat) (h0 : Nat) (fs : List Value) (sz : Nat) (hf0 : fs[0]? = some (.int 0)) (hf1 : fs[1]? = some (.int 0)) (hf46 : fs[46]? = some (.int 0)) (hf47 : fs[47]? = some (.int 0)) (hf48 : fs[48]? = some (.int 0)) (hf50 : fs[50]? = some (.int 0)) (hf51 : fs[51]? = some (.int 0)) (hf52 : fs[52]? = some (.int 0)) (hlen : fs.length = 63) : Met l yX11_init v_c_X11_init ({ frames := 1, cells := 50, slots := 1330000, locals := 12 }) (va_Pc [.ref h0] (fun U => U.heap.size = sz ∧ va_P (dC, dI) vwCl [(h0, .inr (12, fs))] U.heap ∧ va_K (dC, dI) vwCl [] U ∧ va_D (fun _ => True) [(h0, .inr (12, fs))] ∧ ev U)) (va_Qv (fun _ : Unit => True) (fun (_ : Unit) (t : State) => ∃ (fz : List Value) (a2 a3 a4 a5 a6 : Nat) (c2 c3 c4 c5 c6 : ClassId), va_P (dC, dI) vwCl [(h0, .inr (12, fz)), (a2, .inl (c2, 8, .inr (.inl (fun _ => 0)))), (a3, .inl (c3, 8, .inl (fun _ => 0))), (a4, .inl (c4, 8, .inl (fun _ => 0))), (a5, .inl (c5, 8, .inl (fun _ => 0))), (a6, .inl (c6, 8, .inl (fun _ => 0)))] t.heap ∧ va_K (dC, dI) vwCl [(c2, .long), (c3, .int), (c4, .int), (c5, .boolean), (c6, .int)] t ∧ va_D (va_A [(h0, .inr (12, fs))] sz) [(h0, .inr (12, fz)), (a2, .inl (c2, 8, .inr (.inl (fun _ => 0)))), (a3, .inl (c3, 8, .inl (fun _ => 0))), (a4, .inl (c4, 8, .inl (fun _ => 0))), (a5, .inl (c5, 8, .inl (fun _ => 0))), (a6, .inl (c6, 8, .inl (fun _ => 0)))] ∧ fz[0]? = some (.int 0) ∧ fz[1]? = some (.int 0) ∧ fz[2]? = some (.ref a2) ∧ fz[3]? = some (.ref a3) ∧ fz[4]? = some (.ref a4) ∧ fz[5]? = some (.ref a5) ∧ fz[6]? = some (.ref a6) ∧ fz[46]? = some (.int 0) ∧ fz[47]? = some (.int 0) ∧ fz[48]? = some (.int 0) ∧ fz[49]? = some (.int (-1)) ∧ fz[50]? = some (.int 0) ∧ fz[51]? = some (.int 0) ∧ fz[52]? = some (.int 0) ∧ fz.length = 63) (va_A [(h0, .inr (12, fs))] sz)) 50 1330000 (va_A [(h0, .inr (12, fs))] sz) := by
  refine Met.ofW (cc := cX11_init) (maxL := 2) (ret := none) (by decide) rfl ?_
  intro p e s m args below meth c s₁ B hml hv
  obtain ⟨rfl, hsz, hP, hK, hD0, hE⟩ := hv
  have hx := B.exec
  have hb := B.bytes
  have hr := B.returns
  have hts := atoms_spec (ws := v_c_X11_init) B.pre
  have hown : s.vm.findClass RX11 = some m.cls := findClass_of_methodNamed B.named
  have hlocks := B.notSynchronized
  have hin : meth.name = "<init>" := (name_of_methodNamed B.named B.method).1
  subst hsz
  have hD := hD0.self (sz := s.heap.size)
  generalize hAe : va_A [(h0, .inr (12, fs))] s.heap.size = A at hD ⊢
  have hA : ∀ q : Nat, s.heap.size ≤ q → A q := fun q h => by rw [← hAe]; exact Or.inr h
  have hS : va_S A s.heap s.heap [] := va_S.rf
  replace hP : va_P (dC, dI) vwCl [(h0, .inr (12, fs))] s.heap := hP
  have hl := lv_entry ([.ref h0]) (n := 2) (Nat.le_of_ble_eq_true rfl)
  rw [lg_entry_eq]
  generalize (lg_sl ([.ref h0]) ++ List.replicate (2 - (lg_sl ([.ref h0])).length) Slot.unset).toArray = ls at hl ⊢
  replace hl : lv_has ls 2 [(0, .ref h0)] := hl
  obtain ⟨H, hH⟩ : ∃ z : Heap, z = s.heap := ⟨_, rfl⟩
  rw [← hH]
  replace hS : va_S A s.heap H [] := by rw [hH]; exact va_S.rf
  replace hP : va_P (dC, dI) vwCl [(h0, .inr (12, fs))] H := by rw [hH]; exact hP
  clear hH
  refine lv_aload_n hx hb dX11_init_0 rfl (lv_at hl 0 rfl) ?_
  refine W.objInit hx hb hown (hts (.methodLink RX11 1 objectInit) (List.mem_of_getElem? (i := 1) rfl)) (hts (.instanceMethod objectInit) (List.mem_of_getElem? (i := 2) rfl)) (hts (.code objectInit ⟨#[0xb1]⟩ 1 none) (List.mem_of_getElem? (i := 3) rfl)) rfl (by rw [hml]; exact hl.1) rfl dX11_init_1 (Nat.le_of_ble_eq_true rfl) (Nat.le_of_ble_eq_true rfl) ?_
  refine W.eq (g2 := F0 m 4 ls []) rfl ?_
  refine lv_aload_n hx hb dX11_init_4 rfl (lv_at hl 0 rfl) ?_
  refine lv_bipush (v := 8) hx hb dX11_init_5 (by decide) ?_
  refine va_newa (atype := .long) (ty := .long) (N' := 8) (a0 := (8, .inr (.inl (fun _ => 0)))) hx hb (hts (.arrayClass .long) (List.mem_of_getElem? (i := 4) rfl)) rfl hK hP hD hS hA (fun _ => rfl) (by decide) (by decide) (Nat.le_of_ble_eq_true rfl) (Nat.le_of_ble_eq_true rfl) (Nat.le_of_ble_eq_true rfl) dX11_init_7 (fun q1 cA1 H hK hP hD hS => ?_)
  replace hK : va_K (dC, dI) vwCl [(cA1, .long)] s := hK
  replace hP : va_P (dC, dI) vwCl [(h0, .inr (12, fs)), (q1, .inl (cA1, 8, .inr (.inl (fun _ => 0))))] H := hP
  replace hD : va_D A [(h0, .inr (12, fs)), (q1, .inl (cA1, 8, .inr (.inl (fun _ => 0))))] := hD
  refine W.widen (k := 1) (n := 8) (Nat.le_of_ble_eq_true rfl) (Nat.le_of_ble_eq_true rfl) ?_
  refine va_putF (D := (dC, dI)) (ci := 12) (v := .ref q1) (ty := (.array .long)) (C := RX11) (T := TX11) (N := 63) hx hb hts in_c_X11_init_X11 tyX11 tyX11_ok nmX11 hown hK hP hD hS 0 rfl rfl 2 (by decide) (hts (.fieldLink RX11 7 "ClaimBusModel" "names" "[J") (List.mem_of_getElem? (i := 5) rfl)) (fun _ h9 => h9) rfl hin rfl (by decide +kernel) rfl rfl (by rw [hlen]; decide) dX11_init_9 (fun H locs hP hD hS => ?_)
  obtain ⟨fs_2, efs_2⟩ : ∃ z : List Value, z = fs.set 2 (.ref q1) := ⟨_, rfl⟩
  rw [← efs_2] at hP hD
  have hl_fs_2 : fs_2.length = 63 := by rw [efs_2, List.length_set]; exact hlen
  have h0_fs_2 : fs_2[0]? = some (.int 0) := by rw [efs_2, List.getElem?_set_ne (by decide)]; exact hf0
  have h1_fs_2 : fs_2[1]? = some (.int 0) := by rw [efs_2, List.getElem?_set_ne (by decide)]; exact hf1
  have h46_fs_2 : fs_2[46]? = some (.int 0) := by rw [efs_2, List.getElem?_set_ne (by decide)]; exact hf46
  have h47_fs_2 : fs_2[47]? = some (.int 0) := by rw [efs_2, List.getElem?_set_ne (by decide)]; exact hf47
  have h48_fs_2 : fs_2[48]? = some (.int 0) := by rw [efs_2, List.getElem?_set_ne (by decide)]; exact hf48
  have h50_fs_2 : fs_2[50]? = some (.int 0) := by rw [efs_2, List.getElem?_set_ne (by decide)]; exact hf50
  have h51_fs_2 : fs_2[51]? = some (.int 0) := by rw [efs_2, List.getElem?_set_ne (by decide)]; exact hf51
  have h52_fs_2 : fs_2[52]? = some (.int 0) := by rw [efs_2, List.getElem?_set_ne (by decide)]; exact hf52
  have h2_fs_2 : fs_2[2]? = some (.ref q1) := by rw [efs_2]; exact List.getElem?_set_self (by rw [hlen]; decide)
  replace hP : va_P (dC, dI) vwCl [(h0, .inr (12, fs_2)), (q1, .inl (cA1, 8, .inr (.inl (fun _ => 0))))] H := hP
  replace hD : va_D A [(h0, .inr (12, fs_2)), (q1, .inl (cA1, 8, .inr (.inl (fun _ => 0))))] := hD
  refine lv_aload_n hx hb dX11_init_12 rfl (lv_at hl 0 rfl) ?_
  refine lv_bipush (v := 8) hx hb dX11_init_13 (by decide) ?_
  refine va_newa (atype := .int) (ty := .int) (N' := 8) (a0 := (8, .inl (fun _ => 0))) hx hb (hts (.arrayClass .int) (List.mem_of_getElem? (i := 6) rfl)) rfl hK hP hD hS hA (fun _ => rfl) (by decide) (by decide) (Nat.le_of_ble_eq_true rfl) (Nat.le_of_ble_eq_true rfl) (Nat.le_of_ble_eq_true rfl) dX11_init_15 (fun q3 cA3 H hK hP hD hS => ?_)
  replace hK : va_K (dC, dI) vwCl [(cA1, .long), (cA3, .int)] s := hK
  replace hP : va_P (dC, dI) vwCl [(h0, .inr (12, fs_2)), (q1, .inl (cA1, 8, .inr (.inl (fun _ => 0)))), (q3, .inl (cA3, 8, .inl (fun _ => 0)))] H := hP
  replace hD : va_D A [(h0, .inr (12, fs_2)), (q1, .inl (cA1, 8, .inr (.inl (fun _ => 0)))), (q3, .inl (cA3, 8, .inl (fun _ => 0)))] := hD
  refine W.widen (k := 2) (n := 16) (Nat.le_of_ble_eq_true rfl) (Nat.le_of_ble_eq_true rfl) ?_
  refine va_putF (D := (dC, dI)) (ci := 12) (v := .ref q3) (ty := (.array .int)) (C := RX11) (T := TX11) (N := 63) hx hb hts in_c_X11_init_X11 tyX11 tyX11_ok nmX11 hown hK hP hD hS 0 rfl rfl 3 (by decide) (hts (.fieldLink RX11 13 "ClaimBusModel" "wanted" "[I") (List.mem_of_getElem? (i := 7) rfl)) (fun _ h9 => h9) rfl hin rfl (by decide +kernel) rfl rfl (by rw [hl_fs_2]; decide) dX11_init_17 (fun H locs hP hD hS => ?_)
  obtain ⟨fs_4, efs_4⟩ : ∃ z : List Value, z = fs_2.set 3 (.ref q3) := ⟨_, rfl⟩
  rw [← efs_4] at hP hD
  have hl_fs_4 : fs_4.length = 63 := by rw [efs_4, List.length_set]; exact hl_fs_2
  have h0_fs_4 : fs_4[0]? = some (.int 0) := by rw [efs_4, List.getElem?_set_ne (by decide)]; exact h0_fs_2
  have h1_fs_4 : fs_4[1]? = some (.int 0) := by rw [efs_4, List.getElem?_set_ne (by decide)]; exact h1_fs_2
  have h46_fs_4 : fs_4[46]? = some (.int 0) := by rw [efs_4, List.getElem?_set_ne (by decide)]; exact h46_fs_2
  have h47_fs_4 : fs_4[47]? = some (.int 0) := by rw [efs_4, List.getElem?_set_ne (by decide)]; exact h47_fs_2
  have h48_fs_4 : fs_4[48]? = some (.int 0) := by rw [efs_4, List.getElem?_set_ne (by decide)]; exact h48_fs_2
  have h50_fs_4 : fs_4[50]? = some (.int 0) := by rw [efs_4, List.getElem?_set_ne (by decide)]; exact h50_fs_2
  have h51_fs_4 : fs_4[51]? = some (.int 0) := by rw [efs_4, List.getElem?_set_ne (by decide)]; exact h51_fs_2
  have h52_fs_4 : fs_4[52]? = some (.int 0) := by rw [efs_4, List.getElem?_set_ne (by decide)]; exact h52_fs_2
  have h2_fs_4 : fs_4[2]? = some (.ref q1) := by rw [efs_4, List.getElem?_set_ne (by decide)]; exact h2_fs_2
  have h3_fs_4 : fs_4[3]? = some (.ref q3) := by rw [efs_4]; exact List.getElem?_set_self (by rw [hl_fs_2]; decide)
  replace hP : va_P (dC, dI) vwCl [(h0, .inr (12, fs_4)), (q1, .inl (cA1, 8, .inr (.inl (fun _ => 0)))), (q3, .inl (cA3, 8, .inl (fun _ => 0)))] H := hP
  replace hD : va_D A [(h0, .inr (12, fs_4)), (q1, .inl (cA1, 8, .inr (.inl (fun _ => 0)))), (q3, .inl (cA3, 8, .inl (fun _ => 0)))] := hD
  refine lv_aload_n hx hb dX11_init_20 rfl (lv_at hl 0 rfl) ?_
  refine lv_bipush (v := 8) hx hb dX11_init_21 (by decide) ?_
  refine va_newa (atype := .int) (ty := .int) (N' := 8) (a0 := (8, .inl (fun _ => 0))) hx hb (hts (.arrayClass .int) (List.mem_of_getElem? (i := 6) rfl)) rfl hK hP hD hS hA (fun _ => rfl) (by decide) (by decide) (Nat.le_of_ble_eq_true rfl) (Nat.le_of_ble_eq_true rfl) (Nat.le_of_ble_eq_true rfl) dX11_init_23 (fun q5 cA5 H hK hP hD hS => ?_)
  replace hK : va_K (dC, dI) vwCl [(cA1, .long), (cA3, .int), (cA5, .int)] s := hK
  replace hP : va_P (dC, dI) vwCl [(h0, .inr (12, fs_4)), (q1, .inl (cA1, 8, .inr (.inl (fun _ => 0)))), (q3, .inl (cA3, 8, .inl (fun _ => 0))), (q5, .inl (cA5, 8, .inl (fun _ => 0)))] H := hP
  replace hD : va_D A [(h0, .inr (12, fs_4)), (q1, .inl (cA1, 8, .inr (.inl (fun _ => 0)))), (q3, .inl (cA3, 8, .inl (fun _ => 0))), (q5, .inl (cA5, 8, .inl (fun _ => 0)))] := hD
  refine W.widen (k := 3) (n := 24) (Nat.le_of_ble_eq_true rfl) (Nat.le_of_ble_eq_true rfl) ?_
  refine va_putF (D := (dC, dI)) (ci := 12) (v := .ref q5) (ty := (.array .int)) (C := RX11) (T := TX11) (N := 63) hx hb hts in_c_X11_init_X11 tyX11 tyX11_ok nmX11 hown hK hP hD hS 0 rfl rfl 4 (by decide) (hts (.fieldLink RX11 17 "ClaimBusModel" "address" "[I") (List.mem_of_getElem? (i := 8) rfl)) (fun _ h9 => h9) rfl hin rfl (by decide +kernel) rfl rfl (by rw [hl_fs_4]; decide) dX11_init_25 (fun H locs hP hD hS => ?_)
  obtain ⟨fs_6, efs_6⟩ : ∃ z : List Value, z = fs_4.set 4 (.ref q5) := ⟨_, rfl⟩
  rw [← efs_6] at hP hD
  have hl_fs_6 : fs_6.length = 63 := by rw [efs_6, List.length_set]; exact hl_fs_4
  have h0_fs_6 : fs_6[0]? = some (.int 0) := by rw [efs_6, List.getElem?_set_ne (by decide)]; exact h0_fs_4
  have h1_fs_6 : fs_6[1]? = some (.int 0) := by rw [efs_6, List.getElem?_set_ne (by decide)]; exact h1_fs_4
  have h46_fs_6 : fs_6[46]? = some (.int 0) := by rw [efs_6, List.getElem?_set_ne (by decide)]; exact h46_fs_4
  have h47_fs_6 : fs_6[47]? = some (.int 0) := by rw [efs_6, List.getElem?_set_ne (by decide)]; exact h47_fs_4
  have h48_fs_6 : fs_6[48]? = some (.int 0) := by rw [efs_6, List.getElem?_set_ne (by decide)]; exact h48_fs_4
  have h50_fs_6 : fs_6[50]? = some (.int 0) := by rw [efs_6, List.getElem?_set_ne (by decide)]; exact h50_fs_4
  have h51_fs_6 : fs_6[51]? = some (.int 0) := by rw [efs_6, List.getElem?_set_ne (by decide)]; exact h51_fs_4
  have h52_fs_6 : fs_6[52]? = some (.int 0) := by rw [efs_6, List.getElem?_set_ne (by decide)]; exact h52_fs_4
  have h2_fs_6 : fs_6[2]? = some (.ref q1) := by rw [efs_6, List.getElem?_set_ne (by decide)]; exact h2_fs_4
  have h3_fs_6 : fs_6[3]? = some (.ref q3) := by rw [efs_6, List.getElem?_set_ne (by decide)]; exact h3_fs_4
  have h4_fs_6 : fs_6[4]? = some (.ref q5) := by rw [efs_6]; exact List.getElem?_set_self (by rw [hl_fs_4]; decide)
  replace hP : va_P (dC, dI) vwCl [(h0, .inr (12, fs_6)), (q1, .inl (cA1, 8, .inr (.inl (fun _ => 0)))), (q3, .inl (cA3, 8, .inl (fun _ => 0))), (q5, .inl (cA5, 8, .inl (fun _ => 0)))] H := hP
  replace hD : va_D A [(h0, .inr (12, fs_6)), (q1, .inl (cA1, 8, .inr (.inl (fun _ => 0)))), (q3, .inl (cA3, 8, .inl (fun _ => 0))), (q5, .inl (cA5, 8, .inl (fun _ => 0)))] := hD
  refine lv_aload_n hx hb dX11_init_28 rfl (lv_at hl 0 rfl) ?_
  refine lv_bipush (v := 8) hx hb dX11_init_29 (by decide) ?_
  refine va_newa (atype := .boolean) (ty := .boolean) (N' := 8) (a0 := (8, .inl (fun _ => 0))) hx hb (hts (.arrayClass .boolean) (List.mem_of_getElem? (i := 9) rfl)) rfl hK hP hD hS hA (fun _ => rfl) (by decide) (by decide) (Nat.le_of_ble_eq_true rfl) (Nat.le_of_ble_eq_true rfl) (Nat.le_of_ble_eq_true rfl) dX11_init_31 (fun q7 cA7 H hK hP hD hS => ?_)
  replace hK : va_K (dC, dI) vwCl [(cA1, .long), (cA3, .int), (cA5, .int), (cA7, .boolean)] s := hK
  replace hP : va_P (dC, dI) vwCl [(h0, .inr (12, fs_6)), (q1, .inl (cA1, 8, .inr (.inl (fun _ => 0)))), (q3, .inl (cA3, 8, .inl (fun _ => 0))), (q5, .inl (cA5, 8, .inl (fun _ => 0))), (q7, .inl (cA7, 8, .inl (fun _ => 0)))] H := hP
  replace hD : va_D A [(h0, .inr (12, fs_6)), (q1, .inl (cA1, 8, .inr (.inl (fun _ => 0)))), (q3, .inl (cA3, 8, .inl (fun _ => 0))), (q5, .inl (cA5, 8, .inl (fun _ => 0))), (q7, .inl (cA7, 8, .inl (fun _ => 0)))] := hD
  refine W.widen (k := 4) (n := 32) (Nat.le_of_ble_eq_true rfl) (Nat.le_of_ble_eq_true rfl) ?_
  refine va_putF (D := (dC, dI)) (ci := 12) (v := .ref q7) (ty := (.array .boolean)) (C := RX11) (T := TX11) (N := 63) hx hb hts in_c_X11_init_X11 tyX11 tyX11_ok nmX11 hown hK hP hD hS 0 rfl rfl 5 (by decide) (hts (.fieldLink RX11 20 "ClaimBusModel" "free" "[Z") (List.mem_of_getElem? (i := 10) rfl)) (fun _ h9 => h9) rfl hin rfl (by decide +kernel) rfl rfl (by rw [hl_fs_6]; decide) dX11_init_33 (fun H locs hP hD hS => ?_)
  obtain ⟨fs_8, efs_8⟩ : ∃ z : List Value, z = fs_6.set 5 (.ref q7) := ⟨_, rfl⟩
  rw [← efs_8] at hP hD
  have hl_fs_8 : fs_8.length = 63 := by rw [efs_8, List.length_set]; exact hl_fs_6
  have h0_fs_8 : fs_8[0]? = some (.int 0) := by rw [efs_8, List.getElem?_set_ne (by decide)]; exact h0_fs_6
  have h1_fs_8 : fs_8[1]? = some (.int 0) := by rw [efs_8, List.getElem?_set_ne (by decide)]; exact h1_fs_6
  have h46_fs_8 : fs_8[46]? = some (.int 0) := by rw [efs_8, List.getElem?_set_ne (by decide)]; exact h46_fs_6
  have h47_fs_8 : fs_8[47]? = some (.int 0) := by rw [efs_8, List.getElem?_set_ne (by decide)]; exact h47_fs_6
  have h48_fs_8 : fs_8[48]? = some (.int 0) := by rw [efs_8, List.getElem?_set_ne (by decide)]; exact h48_fs_6
  have h50_fs_8 : fs_8[50]? = some (.int 0) := by rw [efs_8, List.getElem?_set_ne (by decide)]; exact h50_fs_6
  have h51_fs_8 : fs_8[51]? = some (.int 0) := by rw [efs_8, List.getElem?_set_ne (by decide)]; exact h51_fs_6
  have h52_fs_8 : fs_8[52]? = some (.int 0) := by rw [efs_8, List.getElem?_set_ne (by decide)]; exact h52_fs_6
  have h2_fs_8 : fs_8[2]? = some (.ref q1) := by rw [efs_8, List.getElem?_set_ne (by decide)]; exact h2_fs_6
  have h3_fs_8 : fs_8[3]? = some (.ref q3) := by rw [efs_8, List.getElem?_set_ne (by decide)]; exact h3_fs_6
  have h4_fs_8 : fs_8[4]? = some (.ref q5) := by rw [efs_8, List.getElem?_set_ne (by decide)]; exact h4_fs_6
  have h5_fs_8 : fs_8[5]? = some (.ref q7) := by rw [efs_8]; exact List.getElem?_set_self (by rw [hl_fs_6]; decide)
  replace hP : va_P (dC, dI) vwCl [(h0, .inr (12, fs_8)), (q1, .inl (cA1, 8, .inr (.inl (fun _ => 0)))), (q3, .inl (cA3, 8, .inl (fun _ => 0))), (q5, .inl (cA5, 8, .inl (fun _ => 0))), (q7, .inl (cA7, 8, .inl (fun _ => 0)))] H := hP
  replace hD : va_D A [(h0, .inr (12, fs_8)), (q1, .inl (cA1, 8, .inr (.inl (fun _ => 0)))), (q3, .inl (cA3, 8, .inl (fun _ => 0))), (q5, .inl (cA5, 8, .inl (fun _ => 0))), (q7, .inl (cA7, 8, .inl (fun _ => 0)))] := hD
  refine lv_aload_n hx hb dX11_init_36 rfl (lv_at hl 0 rfl) ?_
  refine lv_bipush (v := 8) hx hb dX11_init_37 (by decide) ?_
  refine va_newa (atype := .int) (ty := .int) (N' := 8) (a0 := (8, .inl (fun _ => 0))) hx hb (hts (.arrayClass .int) (List.mem_of_getElem? (i := 6) rfl)) rfl hK hP hD hS hA (fun _ => rfl) (by decide) (by decide) (Nat.le_of_ble_eq_true rfl) (Nat.le_of_ble_eq_true rfl) (Nat.le_of_ble_eq_true rfl) dX11_init_39 (fun q9 cA9 H hK hP hD hS => ?_)
  replace hK : va_K (dC, dI) vwCl [(cA1, .long), (cA3, .int), (cA5, .int), (cA7, .boolean), (cA9, .int)] s := hK
  replace hP : va_P (dC, dI) vwCl [(h0, .inr (12, fs_8)), (q1, .inl (cA1, 8, .inr (.inl (fun _ => 0)))), (q3, .inl (cA3, 8, .inl (fun _ => 0))), (q5, .inl (cA5, 8, .inl (fun _ => 0))), (q7, .inl (cA7, 8, .inl (fun _ => 0))), (q9, .inl (cA9, 8, .inl (fun _ => 0)))] H := hP
  replace hD : va_D A [(h0, .inr (12, fs_8)), (q1, .inl (cA1, 8, .inr (.inl (fun _ => 0)))), (q3, .inl (cA3, 8, .inl (fun _ => 0))), (q5, .inl (cA5, 8, .inl (fun _ => 0))), (q7, .inl (cA7, 8, .inl (fun _ => 0))), (q9, .inl (cA9, 8, .inl (fun _ => 0)))] := hD
  refine W.widen (k := 5) (n := 40) (Nat.le_of_ble_eq_true rfl) (Nat.le_of_ble_eq_true rfl) ?_
  refine va_putF (D := (dC, dI)) (ci := 12) (v := .ref q9) (ty := (.array .int)) (C := RX11) (T := TX11) (N := 63) hx hb hts in_c_X11_init_X11 tyX11 tyX11_ok nmX11 hown hK hP hD hS 0 rfl rfl 6 (by decide) (hts (.fieldLink RX11 24 "ClaimBusModel" "window" "[I") (List.mem_of_getElem? (i := 11) rfl)) (fun _ h9 => h9) rfl hin rfl (by decide +kernel) rfl rfl (by rw [hl_fs_8]; decide) dX11_init_41 (fun H locs hP hD hS => ?_)
  obtain ⟨fs_10, efs_10⟩ : ∃ z : List Value, z = fs_8.set 6 (.ref q9) := ⟨_, rfl⟩
  rw [← efs_10] at hP hD
  have hl_fs_10 : fs_10.length = 63 := by rw [efs_10, List.length_set]; exact hl_fs_8
  have h0_fs_10 : fs_10[0]? = some (.int 0) := by rw [efs_10, List.getElem?_set_ne (by decide)]; exact h0_fs_8
  have h1_fs_10 : fs_10[1]? = some (.int 0) := by rw [efs_10, List.getElem?_set_ne (by decide)]; exact h1_fs_8
  have h46_fs_10 : fs_10[46]? = some (.int 0) := by rw [efs_10, List.getElem?_set_ne (by decide)]; exact h46_fs_8
  have h47_fs_10 : fs_10[47]? = some (.int 0) := by rw [efs_10, List.getElem?_set_ne (by decide)]; exact h47_fs_8
  have h48_fs_10 : fs_10[48]? = some (.int 0) := by rw [efs_10, List.getElem?_set_ne (by decide)]; exact h48_fs_8
  have h50_fs_10 : fs_10[50]? = some (.int 0) := by rw [efs_10, List.getElem?_set_ne (by decide)]; exact h50_fs_8
  have h51_fs_10 : fs_10[51]? = some (.int 0) := by rw [efs_10, List.getElem?_set_ne (by decide)]; exact h51_fs_8
  have h52_fs_10 : fs_10[52]? = some (.int 0) := by rw [efs_10, List.getElem?_set_ne (by decide)]; exact h52_fs_8
  have h2_fs_10 : fs_10[2]? = some (.ref q1) := by rw [efs_10, List.getElem?_set_ne (by decide)]; exact h2_fs_8
  have h3_fs_10 : fs_10[3]? = some (.ref q3) := by rw [efs_10, List.getElem?_set_ne (by decide)]; exact h3_fs_8
  have h4_fs_10 : fs_10[4]? = some (.ref q5) := by rw [efs_10, List.getElem?_set_ne (by decide)]; exact h4_fs_8
  have h5_fs_10 : fs_10[5]? = some (.ref q7) := by rw [efs_10, List.getElem?_set_ne (by decide)]; exact h5_fs_8
  have h6_fs_10 : fs_10[6]? = some (.ref q9) := by rw [efs_10]; exact List.getElem?_set_self (by rw [hl_fs_8]; decide)
  replace hP : va_P (dC, dI) vwCl [(h0, .inr (12, fs_10)), (q1, .inl (cA1, 8, .inr (.inl (fun _ => 0)))), (q3, .inl (cA3, 8, .inl (fun _ => 0))), (q5, .inl (cA5, 8, .inl (fun _ => 0))), (q7, .inl (cA7, 8, .inl (fun _ => 0))), (q9, .inl (cA9, 8, .inl (fun _ => 0)))] H := hP
  replace hD : va_D A [(h0, .inr (12, fs_10)), (q1, .inl (cA1, 8, .inr (.inl (fun _ => 0)))), (q3, .inl (cA3, 8, .inl (fun _ => 0))), (q5, .inl (cA5, 8, .inl (fun _ => 0))), (q7, .inl (cA7, 8, .inl (fun _ => 0))), (q9, .inl (cA9, 8, .inl (fun _ => 0)))] := hD
  refine lv_aload_n hx hb dX11_init_44 rfl (lv_at hl 0 rfl) ?_
  refine lv_bipush (v := 8) hx hb dX11_init_45 (by decide) ?_
  refine va_newa (atype := .int) (ty := .int) (N' := 8) (a0 := (8, .inl (fun _ => 0))) hx hb (hts (.arrayClass .int) (List.mem_of_getElem? (i := 6) rfl)) rfl hK hP hD hS hA (fun _ => rfl) (by decide) (by decide) (Nat.le_of_ble_eq_true rfl) (Nat.le_of_ble_eq_true rfl) (Nat.le_of_ble_eq_true rfl) dX11_init_47 (fun q11 cA11 H hK hP hD hS => ?_)
  replace hK : va_K (dC, dI) vwCl [(cA1, .long), (cA3, .int), (cA5, .int), (cA7, .boolean), (cA9, .int), (cA11, .int)] s := hK
  replace hP : va_P (dC, dI) vwCl [(h0, .inr (12, fs_10)), (q1, .inl (cA1, 8, .inr (.inl (fun _ => 0)))), (q3, .inl (cA3, 8, .inl (fun _ => 0))), (q5, .inl (cA5, 8, .inl (fun _ => 0))), (q7, .inl (cA7, 8, .inl (fun _ => 0))), (q9, .inl (cA9, 8, .inl (fun _ => 0))), (q11, .inl (cA11, 8, .inl (fun _ => 0)))] H := hP
  replace hD : va_D A [(h0, .inr (12, fs_10)), (q1, .inl (cA1, 8, .inr (.inl (fun _ => 0)))), (q3, .inl (cA3, 8, .inl (fun _ => 0))), (q5, .inl (cA5, 8, .inl (fun _ => 0))), (q7, .inl (cA7, 8, .inl (fun _ => 0))), (q9, .inl (cA9, 8, .inl (fun _ => 0))), (q11, .inl (cA11, 8, .inl (fun _ => 0)))] := hD
  refine W.widen (k := 6) (n := 48) (Nat.le_of_ble_eq_true rfl) (Nat.le_of_ble_eq_true rfl) ?_
  refine va_putF (D := (dC, dI)) (ci := 12) (v := .ref q11) (ty := (.array .int)) (C := RX11) (T := TX11) (N := 63) hx hb hts in_c_X11_init_X11 tyX11 tyX11_ok nmX11 hown hK hP hD hS 0 rfl rfl 7 (by decide) (hts (.fieldLink RX11 27 "ClaimBusModel" "state" "[I") (List.mem_of_getElem? (i := 12) rfl)) (fun _ h9 => h9) rfl hin rfl (by decide +kernel) rfl rfl (by rw [hl_fs_10]; decide) dX11_init_49 (fun H locs hP hD hS => ?_)
  obtain ⟨fs_12, efs_12⟩ : ∃ z : List Value, z = fs_10.set 7 (.ref q11) := ⟨_, rfl⟩
  rw [← efs_12] at hP hD
  have hl_fs_12 : fs_12.length = 63 := by rw [efs_12, List.length_set]; exact hl_fs_10
  have h0_fs_12 : fs_12[0]? = some (.int 0) := by rw [efs_12, List.getElem?_set_ne (by decide)]; exact h0_fs_10
  have h1_fs_12 : fs_12[1]? = some (.int 0) := by rw [efs_12, List.getElem?_set_ne (by decide)]; exact h1_fs_10
  have h46_fs_12 : fs_12[46]? = some (.int 0) := by rw [efs_12, List.getElem?_set_ne (by decide)]; exact h46_fs_10
  have h47_fs_12 : fs_12[47]? = some (.int 0) := by rw [efs_12, List.getElem?_set_ne (by decide)]; exact h47_fs_10
  have h48_fs_12 : fs_12[48]? = some (.int 0) := by rw [efs_12, List.getElem?_set_ne (by decide)]; exact h48_fs_10
  have h50_fs_12 : fs_12[50]? = some (.int 0) := by rw [efs_12, List.getElem?_set_ne (by decide)]; exact h50_fs_10
  have h51_fs_12 : fs_12[51]? = some (.int 0) := by rw [efs_12, List.getElem?_set_ne (by decide)]; exact h51_fs_10
  have h52_fs_12 : fs_12[52]? = some (.int 0) := by rw [efs_12, List.getElem?_set_ne (by decide)]; exact h52_fs_10
  have h2_fs_12 : fs_12[2]? = some (.ref q1) := by rw [efs_12, List.getElem?_set_ne (by decide)]; exact h2_fs_10
  have h3_fs_12 : fs_12[3]? = some (.ref q3) := by rw [efs_12, List.getElem?_set_ne (by decide)]; exact h3_fs_10
  have h4_fs_12 : fs_12[4]? = some (.ref q5) := by rw [efs_12, List.getElem?_set_ne (by decide)]; exact h4_fs_10
  have h5_fs_12 : fs_12[5]? = some (.ref q7) := by rw [efs_12, List.getElem?_set_ne (by decide)]; exact h5_fs_10
  have h6_fs_12 : fs_12[6]? = some (.ref q9) := by rw [efs_12, List.getElem?_set_ne (by decide)]; exact h6_fs_10
  replace hP : va_P (dC, dI) vwCl [(h0, .inr (12, fs_12)), (q1, .inl (cA1, 8, .inr (.inl (fun _ => 0)))), (q3, .inl (cA3, 8, .inl (fun _ => 0))), (q5, .inl (cA5, 8, .inl (fun _ => 0))), (q7, .inl (cA7, 8, .inl (fun _ => 0))), (q9, .inl (cA9, 8, .inl (fun _ => 0))), (q11, .inl (cA11, 8, .inl (fun _ => 0)))] H := hP
  replace hD : va_D A [(h0, .inr (12, fs_12)), (q1, .inl (cA1, 8, .inr (.inl (fun _ => 0)))), (q3, .inl (cA3, 8, .inl (fun _ => 0))), (q5, .inl (cA5, 8, .inl (fun _ => 0))), (q7, .inl (cA7, 8, .inl (fun _ => 0))), (q9, .inl (cA9, 8, .inl (fun _ => 0))), (q11, .inl (cA11, 8, .inl (fun _ => 0)))] := hD
  replace hP := hP.sub (ws' := [(h0, .inr (12, fs_12)), (q1, .inl (cA1, 8, .inr (.inl (fun _ => 0)))), (q3, .inl (cA3, 8, .inl (fun _ => 0))), (q5, .inl (cA5, 8, .inl (fun _ => 0))), (q7, .inl (cA7, 8, .inl (fun _ => 0))), (q9, .inl (cA9, 8, .inl (fun _ => 0)))]) [0, 1, 2, 3, 4, 5] rfl
  replace hD := hD.sub (ws' := [(h0, .inr (12, fs_12)), (q1, .inl (cA1, 8, .inr (.inl (fun _ => 0)))), (q3, .inl (cA3, 8, .inl (fun _ => 0))), (q5, .inl (cA5, 8, .inl (fun _ => 0))), (q7, .inl (cA7, 8, .inl (fun _ => 0))), (q9, .inl (cA9, 8, .inl (fun _ => 0)))]) [0, 1, 2, 3, 4, 5] (by decide) rfl
  refine lv_aload_n hx hb dX11_init_52 rfl (lv_at hl 0 rfl) ?_
  refine lv_bipush (v := 8) hx hb dX11_init_53 (by decide) ?_
  refine va_newa (atype := .int) (ty := .int) (N' := 8) (a0 := (8, .inl (fun _ => 0))) hx hb (hts (.arrayClass .int) (List.mem_of_getElem? (i := 6) rfl)) rfl hK hP hD hS hA (fun _ => rfl) (by decide) (by decide) (Nat.le_of_ble_eq_true rfl) (Nat.le_of_ble_eq_true rfl) (Nat.le_of_ble_eq_true rfl) dX11_init_55 (fun q13 cA13 H hK hP hD hS => ?_)
  replace hK : va_K (dC, dI) vwCl [(cA1, .long), (cA3, .int), (cA5, .int), (cA7, .boolean), (cA9, .int), (cA11, .int), (cA13, .int)] s := hK
  replace hP : va_P (dC, dI) vwCl [(h0, .inr (12, fs_12)), (q1, .inl (cA1, 8, .inr (.inl (fun _ => 0)))), (q3, .inl (cA3, 8, .inl (fun _ => 0))), (q5, .inl (cA5, 8, .inl (fun _ => 0))), (q7, .inl (cA7, 8, .inl (fun _ => 0))), (q9, .inl (cA9, 8, .inl (fun _ => 0))), (q13, .inl (cA13, 8, .inl (fun _ => 0)))] H := hP
  replace hD : va_D A [(h0, .inr (12, fs_12)), (q1, .inl (cA1, 8, .inr (.inl (fun _ => 0)))), (q3, .inl (cA3, 8, .inl (fun _ => 0))), (q5, .inl (cA5, 8, .inl (fun _ => 0))), (q7, .inl (cA7, 8, .inl (fun _ => 0))), (q9, .inl (cA9, 8, .inl (fun _ => 0))), (q13, .inl (cA13, 8, .inl (fun _ => 0)))] := hD
  refine W.widen (k := 7) (n := 56) (Nat.le_of_ble_eq_true rfl) (Nat.le_of_ble_eq_true rfl) ?_
  refine va_putF (D := (dC, dI)) (ci := 12) (v := .ref q13) (ty := (.array .int)) (C := RX11) (T := TX11) (N := 63) hx hb hts in_c_X11_init_X11 tyX11 tyX11_ok nmX11 hown hK hP hD hS 0 rfl rfl 8 (by decide) (hts (.fieldLink RX11 30 "ClaimBusModel" "claimed" "[I") (List.mem_of_getElem? (i := 13) rfl)) (fun _ h9 => h9) rfl hin rfl (by decide +kernel) rfl rfl (by rw [hl_fs_12]; decide) dX11_init_57 (fun H locs hP hD hS => ?_)
  obtain ⟨fs_14, efs_14⟩ : ∃ z : List Value, z = fs_12.set 8 (.ref q13) := ⟨_, rfl⟩
  rw [← efs_14] at hP hD
  have hl_fs_14 : fs_14.length = 63 := by rw [efs_14, List.length_set]; exact hl_fs_12
  have h0_fs_14 : fs_14[0]? = some (.int 0) := by rw [efs_14, List.getElem?_set_ne (by decide)]; exact h0_fs_12
  have h1_fs_14 : fs_14[1]? = some (.int 0) := by rw [efs_14, List.getElem?_set_ne (by decide)]; exact h1_fs_12
  have h46_fs_14 : fs_14[46]? = some (.int 0) := by rw [efs_14, List.getElem?_set_ne (by decide)]; exact h46_fs_12
  have h47_fs_14 : fs_14[47]? = some (.int 0) := by rw [efs_14, List.getElem?_set_ne (by decide)]; exact h47_fs_12
  have h48_fs_14 : fs_14[48]? = some (.int 0) := by rw [efs_14, List.getElem?_set_ne (by decide)]; exact h48_fs_12
  have h50_fs_14 : fs_14[50]? = some (.int 0) := by rw [efs_14, List.getElem?_set_ne (by decide)]; exact h50_fs_12
  have h51_fs_14 : fs_14[51]? = some (.int 0) := by rw [efs_14, List.getElem?_set_ne (by decide)]; exact h51_fs_12
  have h52_fs_14 : fs_14[52]? = some (.int 0) := by rw [efs_14, List.getElem?_set_ne (by decide)]; exact h52_fs_12
  have h2_fs_14 : fs_14[2]? = some (.ref q1) := by rw [efs_14, List.getElem?_set_ne (by decide)]; exact h2_fs_12
  have h3_fs_14 : fs_14[3]? = some (.ref q3) := by rw [efs_14, List.getElem?_set_ne (by decide)]; exact h3_fs_12
  have h4_fs_14 : fs_14[4]? = some (.ref q5) := by rw [efs_14, List.getElem?_set_ne (by decide)]; exact h4_fs_12
  have h5_fs_14 : fs_14[5]? = some (.ref q7) := by rw [efs_14, List.getElem?_set_ne (by decide)]; exact h5_fs_12
  have h6_fs_14 : fs_14[6]? = some (.ref q9) := by rw [efs_14, List.getElem?_set_ne (by decide)]; exact h6_fs_12
  replace hP : va_P (dC, dI) vwCl [(h0, .inr (12, fs_14)), (q1, .inl (cA1, 8, .inr (.inl (fun _ => 0)))), (q3, .inl (cA3, 8, .inl (fun _ => 0))), (q5, .inl (cA5, 8, .inl (fun _ => 0))), (q7, .inl (cA7, 8, .inl (fun _ => 0))), (q9, .inl (cA9, 8, .inl (fun _ => 0))), (q13, .inl (cA13, 8, .inl (fun _ => 0)))] H := hP
  replace hD : va_D A [(h0, .inr (12, fs_14)), (q1, .inl (cA1, 8, .inr (.inl (fun _ => 0)))), (q3, .inl (cA3, 8, .inl (fun _ => 0))), (q5, .inl (cA5, 8, .inl (fun _ => 0))), (q7, .inl (cA7, 8, .inl (fun _ => 0))), (q9, .inl (cA9, 8, .inl (fun _ => 0))), (q13, .inl (cA13, 8, .inl (fun _ => 0)))] := hD
  replace hP := hP.sub (ws' := [(h0, .inr (12, fs_14)), (q1, .inl (cA1, 8, .inr (.inl (fun _ => 0)))), (q3, .inl (cA3, 8, .inl (fun _ => 0))), (q5, .inl (cA5, 8, .inl (fun _ => 0))), (q7, .inl (cA7, 8, .inl (fun _ => 0))), (q9, .inl (cA9, 8, .inl (fun _ => 0)))]) [0, 1, 2, 3, 4, 5] rfl
  replace hD := hD.sub (ws' := [(h0, .inr (12, fs_14)), (q1, .inl (cA1, 8, .inr (.inl (fun _ => 0)))), (q3, .inl (cA3, 8, .inl (fun _ => 0))), (q5, .inl (cA5, 8, .inl (fun _ => 0))), (q7, .inl (cA7, 8, .inl (fun _ => 0))), (q9, .inl (cA9, 8, .inl (fun _ => 0)))]) [0, 1, 2, 3, 4, 5] (by decide) rfl
  refine lv_aload_n hx hb dX11_init_60 rfl (lv_at hl 0 rfl) ?_
  refine lv_sipush (v := 2048) hx hb dX11_init_61 (by decide) ?_
  refine va_newa (atype := .int) (ty := .int) (N' := 2048) (a0 := (2048, .inl (fun _ => 0))) hx hb (hts (.arrayClass .int) (List.mem_of_getElem? (i := 6) rfl)) rfl hK hP hD hS hA (fun _ => rfl) (by decide) (by decide) (Nat.le_of_ble_eq_true rfl) (Nat.le_of_ble_eq_true rfl) (Nat.le_of_ble_eq_true rfl) dX11_init_64 (fun q15 cA15 H hK hP hD hS => ?_)
  replace hK : va_K (dC, dI) vwCl [(cA1, .long), (cA3, .int), (cA5, .int), (cA7, .boolean), (cA9, .int), (cA11, .int), (cA13, .int), (cA15, .int)] s := hK
  replace hP : va_P (dC, dI) vwCl [(h0, .inr (12, fs_14)), (q1, .inl (cA1, 8, .inr (.inl (fun _ => 0)))), (q3, .inl (cA3, 8, .inl (fun _ => 0))), (q5, .inl (cA5, 8, .inl (fun _ => 0))), (q7, .inl (cA7, 8, .inl (fun _ => 0))), (q9, .inl (cA9, 8, .inl (fun _ => 0))), (q15, .inl (cA15, 2048, .inl (fun _ => 0)))] H := hP
  replace hD : va_D A [(h0, .inr (12, fs_14)), (q1, .inl (cA1, 8, .inr (.inl (fun _ => 0)))), (q3, .inl (cA3, 8, .inl (fun _ => 0))), (q5, .inl (cA5, 8, .inl (fun _ => 0))), (q7, .inl (cA7, 8, .inl (fun _ => 0))), (q9, .inl (cA9, 8, .inl (fun _ => 0))), (q15, .inl (cA15, 2048, .inl (fun _ => 0)))] := hD
  refine W.widen (k := 8) (n := 2104) (Nat.le_of_ble_eq_true rfl) (Nat.le_of_ble_eq_true rfl) ?_
  refine va_putF (D := (dC, dI)) (ci := 12) (v := .ref q15) (ty := (.array .int)) (C := RX11) (T := TX11) (N := 63) hx hb hts in_c_X11_init_X11 tyX11 tyX11_ok nmX11 hown hK hP hD hS 0 rfl rfl 9 (by decide) (hts (.fieldLink RX11 33 "ClaimBusModel" "tables" "[I") (List.mem_of_getElem? (i := 14) rfl)) (fun _ h9 => h9) rfl hin rfl (by decide +kernel) rfl rfl (by rw [hl_fs_14]; decide) dX11_init_66 (fun H locs hP hD hS => ?_)
  obtain ⟨fs_16, efs_16⟩ : ∃ z : List Value, z = fs_14.set 9 (.ref q15) := ⟨_, rfl⟩
  rw [← efs_16] at hP hD
  have hl_fs_16 : fs_16.length = 63 := by rw [efs_16, List.length_set]; exact hl_fs_14
  have h0_fs_16 : fs_16[0]? = some (.int 0) := by rw [efs_16, List.getElem?_set_ne (by decide)]; exact h0_fs_14
  have h1_fs_16 : fs_16[1]? = some (.int 0) := by rw [efs_16, List.getElem?_set_ne (by decide)]; exact h1_fs_14
  have h46_fs_16 : fs_16[46]? = some (.int 0) := by rw [efs_16, List.getElem?_set_ne (by decide)]; exact h46_fs_14
  have h47_fs_16 : fs_16[47]? = some (.int 0) := by rw [efs_16, List.getElem?_set_ne (by decide)]; exact h47_fs_14
  have h48_fs_16 : fs_16[48]? = some (.int 0) := by rw [efs_16, List.getElem?_set_ne (by decide)]; exact h48_fs_14
  have h50_fs_16 : fs_16[50]? = some (.int 0) := by rw [efs_16, List.getElem?_set_ne (by decide)]; exact h50_fs_14
  have h51_fs_16 : fs_16[51]? = some (.int 0) := by rw [efs_16, List.getElem?_set_ne (by decide)]; exact h51_fs_14
  have h52_fs_16 : fs_16[52]? = some (.int 0) := by rw [efs_16, List.getElem?_set_ne (by decide)]; exact h52_fs_14
  have h2_fs_16 : fs_16[2]? = some (.ref q1) := by rw [efs_16, List.getElem?_set_ne (by decide)]; exact h2_fs_14
  have h3_fs_16 : fs_16[3]? = some (.ref q3) := by rw [efs_16, List.getElem?_set_ne (by decide)]; exact h3_fs_14
  have h4_fs_16 : fs_16[4]? = some (.ref q5) := by rw [efs_16, List.getElem?_set_ne (by decide)]; exact h4_fs_14
  have h5_fs_16 : fs_16[5]? = some (.ref q7) := by rw [efs_16, List.getElem?_set_ne (by decide)]; exact h5_fs_14
  have h6_fs_16 : fs_16[6]? = some (.ref q9) := by rw [efs_16, List.getElem?_set_ne (by decide)]; exact h6_fs_14
  have h9_fs_16 : fs_16[9]? = some (.ref q15) := by rw [efs_16]; exact List.getElem?_set_self (by rw [hl_fs_14]; decide)
  replace hP : va_P (dC, dI) vwCl [(h0, .inr (12, fs_16)), (q1, .inl (cA1, 8, .inr (.inl (fun _ => 0)))), (q3, .inl (cA3, 8, .inl (fun _ => 0))), (q5, .inl (cA5, 8, .inl (fun _ => 0))), (q7, .inl (cA7, 8, .inl (fun _ => 0))), (q9, .inl (cA9, 8, .inl (fun _ => 0))), (q15, .inl (cA15, 2048, .inl (fun _ => 0)))] H := hP
  replace hD : va_D A [(h0, .inr (12, fs_16)), (q1, .inl (cA1, 8, .inr (.inl (fun _ => 0)))), (q3, .inl (cA3, 8, .inl (fun _ => 0))), (q5, .inl (cA5, 8, .inl (fun _ => 0))), (q7, .inl (cA7, 8, .inl (fun _ => 0))), (q9, .inl (cA9, 8, .inl (fun _ => 0))), (q15, .inl (cA15, 2048, .inl (fun _ => 0)))] := hD
  refine lv_aload_n hx hb dX11_init_69 rfl (lv_at hl 0 rfl) ?_
  refine lv_bipush (v := 8) hx hb dX11_init_70 (by decide) ?_
  refine va_newa (atype := .int) (ty := .int) (N' := 8) (a0 := (8, .inl (fun _ => 0))) hx hb (hts (.arrayClass .int) (List.mem_of_getElem? (i := 6) rfl)) rfl hK hP hD hS hA (fun _ => rfl) (by decide) (by decide) (Nat.le_of_ble_eq_true rfl) (Nat.le_of_ble_eq_true rfl) (Nat.le_of_ble_eq_true rfl) dX11_init_72 (fun q17 cA17 H hK hP hD hS => ?_)
  replace hK : va_K (dC, dI) vwCl [(cA1, .long), (cA3, .int), (cA5, .int), (cA7, .boolean), (cA9, .int), (cA11, .int), (cA13, .int), (cA15, .int), (cA17, .int)] s := hK
  replace hP : va_P (dC, dI) vwCl [(h0, .inr (12, fs_16)), (q1, .inl (cA1, 8, .inr (.inl (fun _ => 0)))), (q3, .inl (cA3, 8, .inl (fun _ => 0))), (q5, .inl (cA5, 8, .inl (fun _ => 0))), (q7, .inl (cA7, 8, .inl (fun _ => 0))), (q9, .inl (cA9, 8, .inl (fun _ => 0))), (q15, .inl (cA15, 2048, .inl (fun _ => 0))), (q17, .inl (cA17, 8, .inl (fun _ => 0)))] H := hP
  replace hD : va_D A [(h0, .inr (12, fs_16)), (q1, .inl (cA1, 8, .inr (.inl (fun _ => 0)))), (q3, .inl (cA3, 8, .inl (fun _ => 0))), (q5, .inl (cA5, 8, .inl (fun _ => 0))), (q7, .inl (cA7, 8, .inl (fun _ => 0))), (q9, .inl (cA9, 8, .inl (fun _ => 0))), (q15, .inl (cA15, 2048, .inl (fun _ => 0))), (q17, .inl (cA17, 8, .inl (fun _ => 0)))] := hD
  refine W.widen (k := 9) (n := 2112) (Nat.le_of_ble_eq_true rfl) (Nat.le_of_ble_eq_true rfl) ?_
  refine va_putF (D := (dC, dI)) (ci := 12) (v := .ref q17) (ty := (.array .int)) (C := RX11) (T := TX11) (N := 63) hx hb hts in_c_X11_init_X11 tyX11 tyX11_ok nmX11 hown hK hP hD hS 0 rfl rfl 10 (by decide) (hts (.fieldLink RX11 36 "ClaimBusModel" "first" "[I") (List.mem_of_getElem? (i := 15) rfl)) (fun _ h9 => h9) rfl hin rfl (by decide +kernel) rfl rfl (by rw [hl_fs_16]; decide) dX11_init_74 (fun H locs hP hD hS => ?_)
  obtain ⟨fs_18, efs_18⟩ : ∃ z : List Value, z = fs_16.set 10 (.ref q17) := ⟨_, rfl⟩
  rw [← efs_18] at hP hD
  have hl_fs_18 : fs_18.length = 63 := by rw [efs_18, List.length_set]; exact hl_fs_16
  have h0_fs_18 : fs_18[0]? = some (.int 0) := by rw [efs_18, List.getElem?_set_ne (by decide)]; exact h0_fs_16
  have h1_fs_18 : fs_18[1]? = some (.int 0) := by rw [efs_18, List.getElem?_set_ne (by decide)]; exact h1_fs_16
  have h46_fs_18 : fs_18[46]? = some (.int 0) := by rw [efs_18, List.getElem?_set_ne (by decide)]; exact h46_fs_16
  have h47_fs_18 : fs_18[47]? = some (.int 0) := by rw [efs_18, List.getElem?_set_ne (by decide)]; exact h47_fs_16
  have h48_fs_18 : fs_18[48]? = some (.int 0) := by rw [efs_18, List.getElem?_set_ne (by decide)]; exact h48_fs_16
  have h50_fs_18 : fs_18[50]? = some (.int 0) := by rw [efs_18, List.getElem?_set_ne (by decide)]; exact h50_fs_16
  have h51_fs_18 : fs_18[51]? = some (.int 0) := by rw [efs_18, List.getElem?_set_ne (by decide)]; exact h51_fs_16
  have h52_fs_18 : fs_18[52]? = some (.int 0) := by rw [efs_18, List.getElem?_set_ne (by decide)]; exact h52_fs_16
  have h2_fs_18 : fs_18[2]? = some (.ref q1) := by rw [efs_18, List.getElem?_set_ne (by decide)]; exact h2_fs_16
  have h3_fs_18 : fs_18[3]? = some (.ref q3) := by rw [efs_18, List.getElem?_set_ne (by decide)]; exact h3_fs_16
  have h4_fs_18 : fs_18[4]? = some (.ref q5) := by rw [efs_18, List.getElem?_set_ne (by decide)]; exact h4_fs_16
  have h5_fs_18 : fs_18[5]? = some (.ref q7) := by rw [efs_18, List.getElem?_set_ne (by decide)]; exact h5_fs_16
  have h6_fs_18 : fs_18[6]? = some (.ref q9) := by rw [efs_18, List.getElem?_set_ne (by decide)]; exact h6_fs_16
  have h9_fs_18 : fs_18[9]? = some (.ref q15) := by rw [efs_18, List.getElem?_set_ne (by decide)]; exact h9_fs_16
  replace hP : va_P (dC, dI) vwCl [(h0, .inr (12, fs_18)), (q1, .inl (cA1, 8, .inr (.inl (fun _ => 0)))), (q3, .inl (cA3, 8, .inl (fun _ => 0))), (q5, .inl (cA5, 8, .inl (fun _ => 0))), (q7, .inl (cA7, 8, .inl (fun _ => 0))), (q9, .inl (cA9, 8, .inl (fun _ => 0))), (q15, .inl (cA15, 2048, .inl (fun _ => 0))), (q17, .inl (cA17, 8, .inl (fun _ => 0)))] H := hP
  replace hD : va_D A [(h0, .inr (12, fs_18)), (q1, .inl (cA1, 8, .inr (.inl (fun _ => 0)))), (q3, .inl (cA3, 8, .inl (fun _ => 0))), (q5, .inl (cA5, 8, .inl (fun _ => 0))), (q7, .inl (cA7, 8, .inl (fun _ => 0))), (q9, .inl (cA9, 8, .inl (fun _ => 0))), (q15, .inl (cA15, 2048, .inl (fun _ => 0))), (q17, .inl (cA17, 8, .inl (fun _ => 0)))] := hD
  replace hP := hP.sub (ws' := [(h0, .inr (12, fs_18)), (q1, .inl (cA1, 8, .inr (.inl (fun _ => 0)))), (q3, .inl (cA3, 8, .inl (fun _ => 0))), (q5, .inl (cA5, 8, .inl (fun _ => 0))), (q7, .inl (cA7, 8, .inl (fun _ => 0))), (q9, .inl (cA9, 8, .inl (fun _ => 0))), (q15, .inl (cA15, 2048, .inl (fun _ => 0)))]) [0, 1, 2, 3, 4, 5, 6] rfl
  replace hD := hD.sub (ws' := [(h0, .inr (12, fs_18)), (q1, .inl (cA1, 8, .inr (.inl (fun _ => 0)))), (q3, .inl (cA3, 8, .inl (fun _ => 0))), (q5, .inl (cA5, 8, .inl (fun _ => 0))), (q7, .inl (cA7, 8, .inl (fun _ => 0))), (q9, .inl (cA9, 8, .inl (fun _ => 0))), (q15, .inl (cA15, 2048, .inl (fun _ => 0)))]) [0, 1, 2, 3, 4, 5, 6] (by decide) rfl
  refine lv_aload_n hx hb dX11_init_77 rfl (lv_at hl 0 rfl) ?_
  refine lv_bipush (v := 8) hx hb dX11_init_78 (by decide) ?_
  refine va_newa (atype := .int) (ty := .int) (N' := 8) (a0 := (8, .inl (fun _ => 0))) hx hb (hts (.arrayClass .int) (List.mem_of_getElem? (i := 6) rfl)) rfl hK hP hD hS hA (fun _ => rfl) (by decide) (by decide) (Nat.le_of_ble_eq_true rfl) (Nat.le_of_ble_eq_true rfl) (Nat.le_of_ble_eq_true rfl) dX11_init_80 (fun q19 cA19 H hK hP hD hS => ?_)
  replace hK : va_K (dC, dI) vwCl [(cA1, .long), (cA3, .int), (cA5, .int), (cA7, .boolean), (cA9, .int), (cA11, .int), (cA13, .int), (cA15, .int), (cA17, .int), (cA19, .int)] s := hK
  replace hP : va_P (dC, dI) vwCl [(h0, .inr (12, fs_18)), (q1, .inl (cA1, 8, .inr (.inl (fun _ => 0)))), (q3, .inl (cA3, 8, .inl (fun _ => 0))), (q5, .inl (cA5, 8, .inl (fun _ => 0))), (q7, .inl (cA7, 8, .inl (fun _ => 0))), (q9, .inl (cA9, 8, .inl (fun _ => 0))), (q15, .inl (cA15, 2048, .inl (fun _ => 0))), (q19, .inl (cA19, 8, .inl (fun _ => 0)))] H := hP
  replace hD : va_D A [(h0, .inr (12, fs_18)), (q1, .inl (cA1, 8, .inr (.inl (fun _ => 0)))), (q3, .inl (cA3, 8, .inl (fun _ => 0))), (q5, .inl (cA5, 8, .inl (fun _ => 0))), (q7, .inl (cA7, 8, .inl (fun _ => 0))), (q9, .inl (cA9, 8, .inl (fun _ => 0))), (q15, .inl (cA15, 2048, .inl (fun _ => 0))), (q19, .inl (cA19, 8, .inl (fun _ => 0)))] := hD
  refine W.widen (k := 10) (n := 2120) (Nat.le_of_ble_eq_true rfl) (Nat.le_of_ble_eq_true rfl) ?_
  refine va_putF (D := (dC, dI)) (ci := 12) (v := .ref q19) (ty := (.array .int)) (C := RX11) (T := TX11) (N := 63) hx hb hts in_c_X11_init_X11 tyX11 tyX11_ok nmX11 hown hK hP hD hS 0 rfl rfl 11 (by decide) (hts (.fieldLink RX11 39 "ClaimBusModel" "last" "[I") (List.mem_of_getElem? (i := 16) rfl)) (fun _ h9 => h9) rfl hin rfl (by decide +kernel) rfl rfl (by rw [hl_fs_18]; decide) dX11_init_82 (fun H locs hP hD hS => ?_)
  obtain ⟨fs_20, efs_20⟩ : ∃ z : List Value, z = fs_18.set 11 (.ref q19) := ⟨_, rfl⟩
  rw [← efs_20] at hP hD
  have hl_fs_20 : fs_20.length = 63 := by rw [efs_20, List.length_set]; exact hl_fs_18
  have h0_fs_20 : fs_20[0]? = some (.int 0) := by rw [efs_20, List.getElem?_set_ne (by decide)]; exact h0_fs_18
  have h1_fs_20 : fs_20[1]? = some (.int 0) := by rw [efs_20, List.getElem?_set_ne (by decide)]; exact h1_fs_18
  have h46_fs_20 : fs_20[46]? = some (.int 0) := by rw [efs_20, List.getElem?_set_ne (by decide)]; exact h46_fs_18
  have h47_fs_20 : fs_20[47]? = some (.int 0) := by rw [efs_20, List.getElem?_set_ne (by decide)]; exact h47_fs_18
  have h48_fs_20 : fs_20[48]? = some (.int 0) := by rw [efs_20, List.getElem?_set_ne (by decide)]; exact h48_fs_18
  have h50_fs_20 : fs_20[50]? = some (.int 0) := by rw [efs_20, List.getElem?_set_ne (by decide)]; exact h50_fs_18
  have h51_fs_20 : fs_20[51]? = some (.int 0) := by rw [efs_20, List.getElem?_set_ne (by decide)]; exact h51_fs_18
  have h52_fs_20 : fs_20[52]? = some (.int 0) := by rw [efs_20, List.getElem?_set_ne (by decide)]; exact h52_fs_18
  have h2_fs_20 : fs_20[2]? = some (.ref q1) := by rw [efs_20, List.getElem?_set_ne (by decide)]; exact h2_fs_18
  have h3_fs_20 : fs_20[3]? = some (.ref q3) := by rw [efs_20, List.getElem?_set_ne (by decide)]; exact h3_fs_18
  have h4_fs_20 : fs_20[4]? = some (.ref q5) := by rw [efs_20, List.getElem?_set_ne (by decide)]; exact h4_fs_18
  have h5_fs_20 : fs_20[5]? = some (.ref q7) := by rw [efs_20, List.getElem?_set_ne (by decide)]; exact h5_fs_18
  have h6_fs_20 : fs_20[6]? = some (.ref q9) := by rw [efs_20, List.getElem?_set_ne (by decide)]; exact h6_fs_18
  have h9_fs_20 : fs_20[9]? = some (.ref q15) := by rw [efs_20, List.getElem?_set_ne (by decide)]; exact h9_fs_18
  replace hP : va_P (dC, dI) vwCl [(h0, .inr (12, fs_20)), (q1, .inl (cA1, 8, .inr (.inl (fun _ => 0)))), (q3, .inl (cA3, 8, .inl (fun _ => 0))), (q5, .inl (cA5, 8, .inl (fun _ => 0))), (q7, .inl (cA7, 8, .inl (fun _ => 0))), (q9, .inl (cA9, 8, .inl (fun _ => 0))), (q15, .inl (cA15, 2048, .inl (fun _ => 0))), (q19, .inl (cA19, 8, .inl (fun _ => 0)))] H := hP
  replace hD : va_D A [(h0, .inr (12, fs_20)), (q1, .inl (cA1, 8, .inr (.inl (fun _ => 0)))), (q3, .inl (cA3, 8, .inl (fun _ => 0))), (q5, .inl (cA5, 8, .inl (fun _ => 0))), (q7, .inl (cA7, 8, .inl (fun _ => 0))), (q9, .inl (cA9, 8, .inl (fun _ => 0))), (q15, .inl (cA15, 2048, .inl (fun _ => 0))), (q19, .inl (cA19, 8, .inl (fun _ => 0)))] := hD
  replace hP := hP.sub (ws' := [(h0, .inr (12, fs_20)), (q1, .inl (cA1, 8, .inr (.inl (fun _ => 0)))), (q3, .inl (cA3, 8, .inl (fun _ => 0))), (q5, .inl (cA5, 8, .inl (fun _ => 0))), (q7, .inl (cA7, 8, .inl (fun _ => 0))), (q9, .inl (cA9, 8, .inl (fun _ => 0))), (q15, .inl (cA15, 2048, .inl (fun _ => 0)))]) [0, 1, 2, 3, 4, 5, 6] rfl
  replace hD := hD.sub (ws' := [(h0, .inr (12, fs_20)), (q1, .inl (cA1, 8, .inr (.inl (fun _ => 0)))), (q3, .inl (cA3, 8, .inl (fun _ => 0))), (q5, .inl (cA5, 8, .inl (fun _ => 0))), (q7, .inl (cA7, 8, .inl (fun _ => 0))), (q9, .inl (cA9, 8, .inl (fun _ => 0))), (q15, .inl (cA15, 2048, .inl (fun _ => 0)))]) [0, 1, 2, 3, 4, 5, 6] (by decide) rfl
  refine lv_aload_n hx hb dX11_init_85 rfl (lv_at hl 0 rfl) ?_
  refine lv_bipush (v := 8) hx hb dX11_init_86 (by decide) ?_
  refine va_newa (atype := .int) (ty := .int) (N' := 8) (a0 := (8, .inl (fun _ => 0))) hx hb (hts (.arrayClass .int) (List.mem_of_getElem? (i := 6) rfl)) rfl hK hP hD hS hA (fun _ => rfl) (by decide) (by decide) (Nat.le_of_ble_eq_true rfl) (Nat.le_of_ble_eq_true rfl) (Nat.le_of_ble_eq_true rfl) dX11_init_88 (fun q21 cA21 H hK hP hD hS => ?_)
  replace hK : va_K (dC, dI) vwCl [(cA1, .long), (cA3, .int), (cA5, .int), (cA7, .boolean), (cA9, .int), (cA11, .int), (cA13, .int), (cA15, .int), (cA17, .int), (cA19, .int), (cA21, .int)] s := hK
  replace hP : va_P (dC, dI) vwCl [(h0, .inr (12, fs_20)), (q1, .inl (cA1, 8, .inr (.inl (fun _ => 0)))), (q3, .inl (cA3, 8, .inl (fun _ => 0))), (q5, .inl (cA5, 8, .inl (fun _ => 0))), (q7, .inl (cA7, 8, .inl (fun _ => 0))), (q9, .inl (cA9, 8, .inl (fun _ => 0))), (q15, .inl (cA15, 2048, .inl (fun _ => 0))), (q21, .inl (cA21, 8, .inl (fun _ => 0)))] H := hP
  replace hD : va_D A [(h0, .inr (12, fs_20)), (q1, .inl (cA1, 8, .inr (.inl (fun _ => 0)))), (q3, .inl (cA3, 8, .inl (fun _ => 0))), (q5, .inl (cA5, 8, .inl (fun _ => 0))), (q7, .inl (cA7, 8, .inl (fun _ => 0))), (q9, .inl (cA9, 8, .inl (fun _ => 0))), (q15, .inl (cA15, 2048, .inl (fun _ => 0))), (q21, .inl (cA21, 8, .inl (fun _ => 0)))] := hD
  refine W.widen (k := 11) (n := 2128) (Nat.le_of_ble_eq_true rfl) (Nat.le_of_ble_eq_true rfl) ?_
  refine va_putF (D := (dC, dI)) (ci := 12) (v := .ref q21) (ty := (.array .int)) (C := RX11) (T := TX11) (N := 63) hx hb hts in_c_X11_init_X11 tyX11 tyX11_ok nmX11 hown hK hP hD hS 0 rfl rfl 12 (by decide) (hts (.fieldLink RX11 42 "ClaimBusModel" "waits" "[I") (List.mem_of_getElem? (i := 17) rfl)) (fun _ h9 => h9) rfl hin rfl (by decide +kernel) rfl rfl (by rw [hl_fs_20]; decide) dX11_init_90 (fun H locs hP hD hS => ?_)
  obtain ⟨fs_22, efs_22⟩ : ∃ z : List Value, z = fs_20.set 12 (.ref q21) := ⟨_, rfl⟩
  rw [← efs_22] at hP hD
  have hl_fs_22 : fs_22.length = 63 := by rw [efs_22, List.length_set]; exact hl_fs_20
  have h0_fs_22 : fs_22[0]? = some (.int 0) := by rw [efs_22, List.getElem?_set_ne (by decide)]; exact h0_fs_20
  have h1_fs_22 : fs_22[1]? = some (.int 0) := by rw [efs_22, List.getElem?_set_ne (by decide)]; exact h1_fs_20
  have h46_fs_22 : fs_22[46]? = some (.int 0) := by rw [efs_22, List.getElem?_set_ne (by decide)]; exact h46_fs_20
  have h47_fs_22 : fs_22[47]? = some (.int 0) := by rw [efs_22, List.getElem?_set_ne (by decide)]; exact h47_fs_20
  have h48_fs_22 : fs_22[48]? = some (.int 0) := by rw [efs_22, List.getElem?_set_ne (by decide)]; exact h48_fs_20
  have h50_fs_22 : fs_22[50]? = some (.int 0) := by rw [efs_22, List.getElem?_set_ne (by decide)]; exact h50_fs_20
  have h51_fs_22 : fs_22[51]? = some (.int 0) := by rw [efs_22, List.getElem?_set_ne (by decide)]; exact h51_fs_20
  have h52_fs_22 : fs_22[52]? = some (.int 0) := by rw [efs_22, List.getElem?_set_ne (by decide)]; exact h52_fs_20
  have h2_fs_22 : fs_22[2]? = some (.ref q1) := by rw [efs_22, List.getElem?_set_ne (by decide)]; exact h2_fs_20
  have h3_fs_22 : fs_22[3]? = some (.ref q3) := by rw [efs_22, List.getElem?_set_ne (by decide)]; exact h3_fs_20
  have h4_fs_22 : fs_22[4]? = some (.ref q5) := by rw [efs_22, List.getElem?_set_ne (by decide)]; exact h4_fs_20
  have h5_fs_22 : fs_22[5]? = some (.ref q7) := by rw [efs_22, List.getElem?_set_ne (by decide)]; exact h5_fs_20
  have h6_fs_22 : fs_22[6]? = some (.ref q9) := by rw [efs_22, List.getElem?_set_ne (by decide)]; exact h6_fs_20
  have h9_fs_22 : fs_22[9]? = some (.ref q15) := by rw [efs_22, List.getElem?_set_ne (by decide)]; exact h9_fs_20
  replace hP : va_P (dC, dI) vwCl [(h0, .inr (12, fs_22)), (q1, .inl (cA1, 8, .inr (.inl (fun _ => 0)))), (q3, .inl (cA3, 8, .inl (fun _ => 0))), (q5, .inl (cA5, 8, .inl (fun _ => 0))), (q7, .inl (cA7, 8, .inl (fun _ => 0))), (q9, .inl (cA9, 8, .inl (fun _ => 0))), (q15, .inl (cA15, 2048, .inl (fun _ => 0))), (q21, .inl (cA21, 8, .inl (fun _ => 0)))] H := hP
  replace hD : va_D A [(h0, .inr (12, fs_22)), (q1, .inl (cA1, 8, .inr (.inl (fun _ => 0)))), (q3, .inl (cA3, 8, .inl (fun _ => 0))), (q5, .inl (cA5, 8, .inl (fun _ => 0))), (q7, .inl (cA7, 8, .inl (fun _ => 0))), (q9, .inl (cA9, 8, .inl (fun _ => 0))), (q15, .inl (cA15, 2048, .inl (fun _ => 0))), (q21, .inl (cA21, 8, .inl (fun _ => 0)))] := hD
  replace hP := hP.sub (ws' := [(h0, .inr (12, fs_22)), (q1, .inl (cA1, 8, .inr (.inl (fun _ => 0)))), (q3, .inl (cA3, 8, .inl (fun _ => 0))), (q5, .inl (cA5, 8, .inl (fun _ => 0))), (q7, .inl (cA7, 8, .inl (fun _ => 0))), (q9, .inl (cA9, 8, .inl (fun _ => 0))), (q15, .inl (cA15, 2048, .inl (fun _ => 0)))]) [0, 1, 2, 3, 4, 5, 6] rfl
  replace hD := hD.sub (ws' := [(h0, .inr (12, fs_22)), (q1, .inl (cA1, 8, .inr (.inl (fun _ => 0)))), (q3, .inl (cA3, 8, .inl (fun _ => 0))), (q5, .inl (cA5, 8, .inl (fun _ => 0))), (q7, .inl (cA7, 8, .inl (fun _ => 0))), (q9, .inl (cA9, 8, .inl (fun _ => 0))), (q15, .inl (cA15, 2048, .inl (fun _ => 0)))]) [0, 1, 2, 3, 4, 5, 6] (by decide) rfl
  refine lv_aload_n hx hb dX11_init_93 rfl (lv_at hl 0 rfl) ?_
  refine lv_ldc hx hb hown (hts (.constant RX11 45 (131072)) (List.mem_of_getElem? (i := 18) rfl)) dX11_init_94 ?_
  refine va_newa (atype := .int) (ty := .int) (N' := 131072) (a0 := (131072, .inl (fun _ => 0))) hx hb (hts (.arrayClass .int) (List.mem_of_getElem? (i := 6) rfl)) rfl hK hP hD hS hA (fun _ => rfl) (by decide) (by decide) (Nat.le_of_ble_eq_true rfl) (Nat.le_of_ble_eq_true rfl) (Nat.le_of_ble_eq_true rfl) dX11_init_96 (fun q23 cA23 H hK hP hD hS => ?_)
  replace hK : va_K (dC, dI) vwCl [(cA1, .long), (cA3, .int), (cA5, .int), (cA7, .boolean), (cA9, .int), (cA11, .int), (cA13, .int), (cA15, .int), (cA17, .int), (cA19, .int), (cA21, .int), (cA23, .int)] s := hK
  replace hP : va_P (dC, dI) vwCl [(h0, .inr (12, fs_22)), (q1, .inl (cA1, 8, .inr (.inl (fun _ => 0)))), (q3, .inl (cA3, 8, .inl (fun _ => 0))), (q5, .inl (cA5, 8, .inl (fun _ => 0))), (q7, .inl (cA7, 8, .inl (fun _ => 0))), (q9, .inl (cA9, 8, .inl (fun _ => 0))), (q15, .inl (cA15, 2048, .inl (fun _ => 0))), (q23, .inl (cA23, 131072, .inl (fun _ => 0)))] H := hP
  replace hD : va_D A [(h0, .inr (12, fs_22)), (q1, .inl (cA1, 8, .inr (.inl (fun _ => 0)))), (q3, .inl (cA3, 8, .inl (fun _ => 0))), (q5, .inl (cA5, 8, .inl (fun _ => 0))), (q7, .inl (cA7, 8, .inl (fun _ => 0))), (q9, .inl (cA9, 8, .inl (fun _ => 0))), (q15, .inl (cA15, 2048, .inl (fun _ => 0))), (q23, .inl (cA23, 131072, .inl (fun _ => 0)))] := hD
  refine W.widen (k := 12) (n := 133200) (Nat.le_of_ble_eq_true rfl) (Nat.le_of_ble_eq_true rfl) ?_
  refine va_putF (D := (dC, dI)) (ci := 12) (v := .ref q23) (ty := (.array .int)) (C := RX11) (T := TX11) (N := 63) hx hb hts in_c_X11_init_X11 tyX11 tyX11_ok nmX11 hown hK hP hD hS 0 rfl rfl 13 (by decide) (hts (.fieldLink RX11 46 "ClaimBusModel" "ids" "[I") (List.mem_of_getElem? (i := 19) rfl)) (fun _ h9 => h9) rfl hin rfl (by decide +kernel) rfl rfl (by rw [hl_fs_22]; decide) dX11_init_98 (fun H locs hP hD hS => ?_)
  obtain ⟨fs_24, efs_24⟩ : ∃ z : List Value, z = fs_22.set 13 (.ref q23) := ⟨_, rfl⟩
  rw [← efs_24] at hP hD
  have hl_fs_24 : fs_24.length = 63 := by rw [efs_24, List.length_set]; exact hl_fs_22
  have h0_fs_24 : fs_24[0]? = some (.int 0) := by rw [efs_24, List.getElem?_set_ne (by decide)]; exact h0_fs_22
  have h1_fs_24 : fs_24[1]? = some (.int 0) := by rw [efs_24, List.getElem?_set_ne (by decide)]; exact h1_fs_22
  have h46_fs_24 : fs_24[46]? = some (.int 0) := by rw [efs_24, List.getElem?_set_ne (by decide)]; exact h46_fs_22
  have h47_fs_24 : fs_24[47]? = some (.int 0) := by rw [efs_24, List.getElem?_set_ne (by decide)]; exact h47_fs_22
  have h48_fs_24 : fs_24[48]? = some (.int 0) := by rw [efs_24, List.getElem?_set_ne (by decide)]; exact h48_fs_22
  have h50_fs_24 : fs_24[50]? = some (.int 0) := by rw [efs_24, List.getElem?_set_ne (by decide)]; exact h50_fs_22
  have h51_fs_24 : fs_24[51]? = some (.int 0) := by rw [efs_24, List.getElem?_set_ne (by decide)]; exact h51_fs_22
  have h52_fs_24 : fs_24[52]? = some (.int 0) := by rw [efs_24, List.getElem?_set_ne (by decide)]; exact h52_fs_22
  have h2_fs_24 : fs_24[2]? = some (.ref q1) := by rw [efs_24, List.getElem?_set_ne (by decide)]; exact h2_fs_22
  have h3_fs_24 : fs_24[3]? = some (.ref q3) := by rw [efs_24, List.getElem?_set_ne (by decide)]; exact h3_fs_22
  have h4_fs_24 : fs_24[4]? = some (.ref q5) := by rw [efs_24, List.getElem?_set_ne (by decide)]; exact h4_fs_22
  have h5_fs_24 : fs_24[5]? = some (.ref q7) := by rw [efs_24, List.getElem?_set_ne (by decide)]; exact h5_fs_22
  have h6_fs_24 : fs_24[6]? = some (.ref q9) := by rw [efs_24, List.getElem?_set_ne (by decide)]; exact h6_fs_22
  have h9_fs_24 : fs_24[9]? = some (.ref q15) := by rw [efs_24, List.getElem?_set_ne (by decide)]; exact h9_fs_22
  replace hP : va_P (dC, dI) vwCl [(h0, .inr (12, fs_24)), (q1, .inl (cA1, 8, .inr (.inl (fun _ => 0)))), (q3, .inl (cA3, 8, .inl (fun _ => 0))), (q5, .inl (cA5, 8, .inl (fun _ => 0))), (q7, .inl (cA7, 8, .inl (fun _ => 0))), (q9, .inl (cA9, 8, .inl (fun _ => 0))), (q15, .inl (cA15, 2048, .inl (fun _ => 0))), (q23, .inl (cA23, 131072, .inl (fun _ => 0)))] H := hP
  replace hD : va_D A [(h0, .inr (12, fs_24)), (q1, .inl (cA1, 8, .inr (.inl (fun _ => 0)))), (q3, .inl (cA3, 8, .inl (fun _ => 0))), (q5, .inl (cA5, 8, .inl (fun _ => 0))), (q7, .inl (cA7, 8, .inl (fun _ => 0))), (q9, .inl (cA9, 8, .inl (fun _ => 0))), (q15, .inl (cA15, 2048, .inl (fun _ => 0))), (q23, .inl (cA23, 131072, .inl (fun _ => 0)))] := hD
  replace hP := hP.sub (ws' := [(h0, .inr (12, fs_24)), (q1, .inl (cA1, 8, .inr (.inl (fun _ => 0)))), (q3, .inl (cA3, 8, .inl (fun _ => 0))), (q5, .inl (cA5, 8, .inl (fun _ => 0))), (q7, .inl (cA7, 8, .inl (fun _ => 0))), (q9, .inl (cA9, 8, .inl (fun _ => 0))), (q15, .inl (cA15, 2048, .inl (fun _ => 0)))]) [0, 1, 2, 3, 4, 5, 6] rfl
  replace hD := hD.sub (ws' := [(h0, .inr (12, fs_24)), (q1, .inl (cA1, 8, .inr (.inl (fun _ => 0)))), (q3, .inl (cA3, 8, .inl (fun _ => 0))), (q5, .inl (cA5, 8, .inl (fun _ => 0))), (q7, .inl (cA7, 8, .inl (fun _ => 0))), (q9, .inl (cA9, 8, .inl (fun _ => 0))), (q15, .inl (cA15, 2048, .inl (fun _ => 0)))]) [0, 1, 2, 3, 4, 5, 6] (by decide) rfl
  refine lv_aload_n hx hb dX11_init_101 rfl (lv_at hl 0 rfl) ?_
  refine lv_ldc hx hb hown (hts (.constant RX11 45 (131072)) (List.mem_of_getElem? (i := 18) rfl)) dX11_init_102 ?_
  refine va_newa (atype := .int) (ty := .int) (N' := 131072) (a0 := (131072, .inl (fun _ => 0))) hx hb (hts (.arrayClass .int) (List.mem_of_getElem? (i := 6) rfl)) rfl hK hP hD hS hA (fun _ => rfl) (by decide) (by decide) (Nat.le_of_ble_eq_true rfl) (Nat.le_of_ble_eq_true rfl) (Nat.le_of_ble_eq_true rfl) dX11_init_104 (fun q25 cA25 H hK hP hD hS => ?_)
  replace hK : va_K (dC, dI) vwCl [(cA1, .long), (cA3, .int), (cA5, .int), (cA7, .boolean), (cA9, .int), (cA11, .int), (cA13, .int), (cA15, .int), (cA17, .int), (cA19, .int), (cA21, .int), (cA23, .int), (cA25, .int)] s := hK
  replace hP : va_P (dC, dI) vwCl [(h0, .inr (12, fs_24)), (q1, .inl (cA1, 8, .inr (.inl (fun _ => 0)))), (q3, .inl (cA3, 8, .inl (fun _ => 0))), (q5, .inl (cA5, 8, .inl (fun _ => 0))), (q7, .inl (cA7, 8, .inl (fun _ => 0))), (q9, .inl (cA9, 8, .inl (fun _ => 0))), (q15, .inl (cA15, 2048, .inl (fun _ => 0))), (q25, .inl (cA25, 131072, .inl (fun _ => 0)))] H := hP
  replace hD : va_D A [(h0, .inr (12, fs_24)), (q1, .inl (cA1, 8, .inr (.inl (fun _ => 0)))), (q3, .inl (cA3, 8, .inl (fun _ => 0))), (q5, .inl (cA5, 8, .inl (fun _ => 0))), (q7, .inl (cA7, 8, .inl (fun _ => 0))), (q9, .inl (cA9, 8, .inl (fun _ => 0))), (q15, .inl (cA15, 2048, .inl (fun _ => 0))), (q25, .inl (cA25, 131072, .inl (fun _ => 0)))] := hD
  refine W.widen (k := 13) (n := 264272) (Nat.le_of_ble_eq_true rfl) (Nat.le_of_ble_eq_true rfl) ?_
  refine va_putF (D := (dC, dI)) (ci := 12) (v := .ref q25) (ty := (.array .int)) (C := RX11) (T := TX11) (N := 63) hx hb hts in_c_X11_init_X11 tyX11 tyX11_ok nmX11 hown hK hP hD hS 0 rfl rfl 14 (by decide) (hts (.fieldLink RX11 49 "ClaimBusModel" "lows" "[I") (List.mem_of_getElem? (i := 20) rfl)) (fun _ h9 => h9) rfl hin rfl (by decide +kernel) rfl rfl (by rw [hl_fs_24]; decide) dX11_init_106 (fun H locs hP hD hS => ?_)
  obtain ⟨fs_26, efs_26⟩ : ∃ z : List Value, z = fs_24.set 14 (.ref q25) := ⟨_, rfl⟩
  rw [← efs_26] at hP hD
  have hl_fs_26 : fs_26.length = 63 := by rw [efs_26, List.length_set]; exact hl_fs_24
  have h0_fs_26 : fs_26[0]? = some (.int 0) := by rw [efs_26, List.getElem?_set_ne (by decide)]; exact h0_fs_24
  have h1_fs_26 : fs_26[1]? = some (.int 0) := by rw [efs_26, List.getElem?_set_ne (by decide)]; exact h1_fs_24
  have h46_fs_26 : fs_26[46]? = some (.int 0) := by rw [efs_26, List.getElem?_set_ne (by decide)]; exact h46_fs_24
  have h47_fs_26 : fs_26[47]? = some (.int 0) := by rw [efs_26, List.getElem?_set_ne (by decide)]; exact h47_fs_24
  have h48_fs_26 : fs_26[48]? = some (.int 0) := by rw [efs_26, List.getElem?_set_ne (by decide)]; exact h48_fs_24
  have h50_fs_26 : fs_26[50]? = some (.int 0) := by rw [efs_26, List.getElem?_set_ne (by decide)]; exact h50_fs_24
  have h51_fs_26 : fs_26[51]? = some (.int 0) := by rw [efs_26, List.getElem?_set_ne (by decide)]; exact h51_fs_24
  have h52_fs_26 : fs_26[52]? = some (.int 0) := by rw [efs_26, List.getElem?_set_ne (by decide)]; exact h52_fs_24
  have h2_fs_26 : fs_26[2]? = some (.ref q1) := by rw [efs_26, List.getElem?_set_ne (by decide)]; exact h2_fs_24
  have h3_fs_26 : fs_26[3]? = some (.ref q3) := by rw [efs_26, List.getElem?_set_ne (by decide)]; exact h3_fs_24
  have h4_fs_26 : fs_26[4]? = some (.ref q5) := by rw [efs_26, List.getElem?_set_ne (by decide)]; exact h4_fs_24
  have h5_fs_26 : fs_26[5]? = some (.ref q7) := by rw [efs_26, List.getElem?_set_ne (by decide)]; exact h5_fs_24
  have h6_fs_26 : fs_26[6]? = some (.ref q9) := by rw [efs_26, List.getElem?_set_ne (by decide)]; exact h6_fs_24
  have h9_fs_26 : fs_26[9]? = some (.ref q15) := by rw [efs_26, List.getElem?_set_ne (by decide)]; exact h9_fs_24
  replace hP : va_P (dC, dI) vwCl [(h0, .inr (12, fs_26)), (q1, .inl (cA1, 8, .inr (.inl (fun _ => 0)))), (q3, .inl (cA3, 8, .inl (fun _ => 0))), (q5, .inl (cA5, 8, .inl (fun _ => 0))), (q7, .inl (cA7, 8, .inl (fun _ => 0))), (q9, .inl (cA9, 8, .inl (fun _ => 0))), (q15, .inl (cA15, 2048, .inl (fun _ => 0))), (q25, .inl (cA25, 131072, .inl (fun _ => 0)))] H := hP
  replace hD : va_D A [(h0, .inr (12, fs_26)), (q1, .inl (cA1, 8, .inr (.inl (fun _ => 0)))), (q3, .inl (cA3, 8, .inl (fun _ => 0))), (q5, .inl (cA5, 8, .inl (fun _ => 0))), (q7, .inl (cA7, 8, .inl (fun _ => 0))), (q9, .inl (cA9, 8, .inl (fun _ => 0))), (q15, .inl (cA15, 2048, .inl (fun _ => 0))), (q25, .inl (cA25, 131072, .inl (fun _ => 0)))] := hD
  replace hP := hP.sub (ws' := [(h0, .inr (12, fs_26)), (q1, .inl (cA1, 8, .inr (.inl (fun _ => 0)))), (q3, .inl (cA3, 8, .inl (fun _ => 0))), (q5, .inl (cA5, 8, .inl (fun _ => 0))), (q7, .inl (cA7, 8, .inl (fun _ => 0))), (q9, .inl (cA9, 8, .inl (fun _ => 0))), (q15, .inl (cA15, 2048, .inl (fun _ => 0)))]) [0, 1, 2, 3, 4, 5, 6] rfl
  replace hD := hD.sub (ws' := [(h0, .inr (12, fs_26)), (q1, .inl (cA1, 8, .inr (.inl (fun _ => 0)))), (q3, .inl (cA3, 8, .inl (fun _ => 0))), (q5, .inl (cA5, 8, .inl (fun _ => 0))), (q7, .inl (cA7, 8, .inl (fun _ => 0))), (q9, .inl (cA9, 8, .inl (fun _ => 0))), (q15, .inl (cA15, 2048, .inl (fun _ => 0)))]) [0, 1, 2, 3, 4, 5, 6] (by decide) rfl
  refine lv_aload_n hx hb dX11_init_109 rfl (lv_at hl 0 rfl) ?_
  refine lv_ldc hx hb hown (hts (.constant RX11 45 (131072)) (List.mem_of_getElem? (i := 18) rfl)) dX11_init_110 ?_
  refine va_newa (atype := .int) (ty := .int) (N' := 131072) (a0 := (131072, .inl (fun _ => 0))) hx hb (hts (.arrayClass .int) (List.mem_of_getElem? (i := 6) rfl)) rfl hK hP hD hS hA (fun _ => rfl) (by decide) (by decide) (Nat.le_of_ble_eq_true rfl) (Nat.le_of_ble_eq_true rfl) (Nat.le_of_ble_eq_true rfl) dX11_init_112 (fun q27 cA27 H hK hP hD hS => ?_)
  replace hK : va_K (dC, dI) vwCl [(cA1, .long), (cA3, .int), (cA5, .int), (cA7, .boolean), (cA9, .int), (cA11, .int), (cA13, .int), (cA15, .int), (cA17, .int), (cA19, .int), (cA21, .int), (cA23, .int), (cA25, .int), (cA27, .int)] s := hK
  replace hP : va_P (dC, dI) vwCl [(h0, .inr (12, fs_26)), (q1, .inl (cA1, 8, .inr (.inl (fun _ => 0)))), (q3, .inl (cA3, 8, .inl (fun _ => 0))), (q5, .inl (cA5, 8, .inl (fun _ => 0))), (q7, .inl (cA7, 8, .inl (fun _ => 0))), (q9, .inl (cA9, 8, .inl (fun _ => 0))), (q15, .inl (cA15, 2048, .inl (fun _ => 0))), (q27, .inl (cA27, 131072, .inl (fun _ => 0)))] H := hP
  replace hD : va_D A [(h0, .inr (12, fs_26)), (q1, .inl (cA1, 8, .inr (.inl (fun _ => 0)))), (q3, .inl (cA3, 8, .inl (fun _ => 0))), (q5, .inl (cA5, 8, .inl (fun _ => 0))), (q7, .inl (cA7, 8, .inl (fun _ => 0))), (q9, .inl (cA9, 8, .inl (fun _ => 0))), (q15, .inl (cA15, 2048, .inl (fun _ => 0))), (q27, .inl (cA27, 131072, .inl (fun _ => 0)))] := hD
  refine W.widen (k := 14) (n := 395344) (Nat.le_of_ble_eq_true rfl) (Nat.le_of_ble_eq_true rfl) ?_
  refine va_putF (D := (dC, dI)) (ci := 12) (v := .ref q27) (ty := (.array .int)) (C := RX11) (T := TX11) (N := 63) hx hb hts in_c_X11_init_X11 tyX11 tyX11_ok nmX11 hown hK hP hD hS 0 rfl rfl 15 (by decide) (hts (.fieldLink RX11 52 "ClaimBusModel" "highs" "[I") (List.mem_of_getElem? (i := 21) rfl)) (fun _ h9 => h9) rfl hin rfl (by decide +kernel) rfl rfl (by rw [hl_fs_26]; decide) dX11_init_114 (fun H locs hP hD hS => ?_)
  obtain ⟨fs_28, efs_28⟩ : ∃ z : List Value, z = fs_26.set 15 (.ref q27) := ⟨_, rfl⟩
  rw [← efs_28] at hP hD
  have hl_fs_28 : fs_28.length = 63 := by rw [efs_28, List.length_set]; exact hl_fs_26
  have h0_fs_28 : fs_28[0]? = some (.int 0) := by rw [efs_28, List.getElem?_set_ne (by decide)]; exact h0_fs_26
  have h1_fs_28 : fs_28[1]? = some (.int 0) := by rw [efs_28, List.getElem?_set_ne (by decide)]; exact h1_fs_26
  have h46_fs_28 : fs_28[46]? = some (.int 0) := by rw [efs_28, List.getElem?_set_ne (by decide)]; exact h46_fs_26
  have h47_fs_28 : fs_28[47]? = some (.int 0) := by rw [efs_28, List.getElem?_set_ne (by decide)]; exact h47_fs_26
  have h48_fs_28 : fs_28[48]? = some (.int 0) := by rw [efs_28, List.getElem?_set_ne (by decide)]; exact h48_fs_26
  have h50_fs_28 : fs_28[50]? = some (.int 0) := by rw [efs_28, List.getElem?_set_ne (by decide)]; exact h50_fs_26
  have h51_fs_28 : fs_28[51]? = some (.int 0) := by rw [efs_28, List.getElem?_set_ne (by decide)]; exact h51_fs_26
  have h52_fs_28 : fs_28[52]? = some (.int 0) := by rw [efs_28, List.getElem?_set_ne (by decide)]; exact h52_fs_26
  have h2_fs_28 : fs_28[2]? = some (.ref q1) := by rw [efs_28, List.getElem?_set_ne (by decide)]; exact h2_fs_26
  have h3_fs_28 : fs_28[3]? = some (.ref q3) := by rw [efs_28, List.getElem?_set_ne (by decide)]; exact h3_fs_26
  have h4_fs_28 : fs_28[4]? = some (.ref q5) := by rw [efs_28, List.getElem?_set_ne (by decide)]; exact h4_fs_26
  have h5_fs_28 : fs_28[5]? = some (.ref q7) := by rw [efs_28, List.getElem?_set_ne (by decide)]; exact h5_fs_26
  have h6_fs_28 : fs_28[6]? = some (.ref q9) := by rw [efs_28, List.getElem?_set_ne (by decide)]; exact h6_fs_26
  have h9_fs_28 : fs_28[9]? = some (.ref q15) := by rw [efs_28, List.getElem?_set_ne (by decide)]; exact h9_fs_26
  replace hP : va_P (dC, dI) vwCl [(h0, .inr (12, fs_28)), (q1, .inl (cA1, 8, .inr (.inl (fun _ => 0)))), (q3, .inl (cA3, 8, .inl (fun _ => 0))), (q5, .inl (cA5, 8, .inl (fun _ => 0))), (q7, .inl (cA7, 8, .inl (fun _ => 0))), (q9, .inl (cA9, 8, .inl (fun _ => 0))), (q15, .inl (cA15, 2048, .inl (fun _ => 0))), (q27, .inl (cA27, 131072, .inl (fun _ => 0)))] H := hP
  replace hD : va_D A [(h0, .inr (12, fs_28)), (q1, .inl (cA1, 8, .inr (.inl (fun _ => 0)))), (q3, .inl (cA3, 8, .inl (fun _ => 0))), (q5, .inl (cA5, 8, .inl (fun _ => 0))), (q7, .inl (cA7, 8, .inl (fun _ => 0))), (q9, .inl (cA9, 8, .inl (fun _ => 0))), (q15, .inl (cA15, 2048, .inl (fun _ => 0))), (q27, .inl (cA27, 131072, .inl (fun _ => 0)))] := hD
  replace hP := hP.sub (ws' := [(h0, .inr (12, fs_28)), (q1, .inl (cA1, 8, .inr (.inl (fun _ => 0)))), (q3, .inl (cA3, 8, .inl (fun _ => 0))), (q5, .inl (cA5, 8, .inl (fun _ => 0))), (q7, .inl (cA7, 8, .inl (fun _ => 0))), (q9, .inl (cA9, 8, .inl (fun _ => 0))), (q15, .inl (cA15, 2048, .inl (fun _ => 0)))]) [0, 1, 2, 3, 4, 5, 6] rfl
  replace hD := hD.sub (ws' := [(h0, .inr (12, fs_28)), (q1, .inl (cA1, 8, .inr (.inl (fun _ => 0)))), (q3, .inl (cA3, 8, .inl (fun _ => 0))), (q5, .inl (cA5, 8, .inl (fun _ => 0))), (q7, .inl (cA7, 8, .inl (fun _ => 0))), (q9, .inl (cA9, 8, .inl (fun _ => 0))), (q15, .inl (cA15, 2048, .inl (fun _ => 0)))]) [0, 1, 2, 3, 4, 5, 6] (by decide) rfl
  refine lv_aload_n hx hb dX11_init_117 rfl (lv_at hl 0 rfl) ?_
  refine lv_ldc hx hb hown (hts (.constant RX11 45 (131072)) (List.mem_of_getElem? (i := 18) rfl)) dX11_init_118 ?_
  refine va_newa (atype := .int) (ty := .int) (N' := 131072) (a0 := (131072, .inl (fun _ => 0))) hx hb (hts (.arrayClass .int) (List.mem_of_getElem? (i := 6) rfl)) rfl hK hP hD hS hA (fun _ => rfl) (by decide) (by decide) (Nat.le_of_ble_eq_true rfl) (Nat.le_of_ble_eq_true rfl) (Nat.le_of_ble_eq_true rfl) dX11_init_120 (fun q29 cA29 H hK hP hD hS => ?_)
  replace hK : va_K (dC, dI) vwCl [(cA1, .long), (cA3, .int), (cA5, .int), (cA7, .boolean), (cA9, .int), (cA11, .int), (cA13, .int), (cA15, .int), (cA17, .int), (cA19, .int), (cA21, .int), (cA23, .int), (cA25, .int), (cA27, .int), (cA29, .int)] s := hK
  replace hP : va_P (dC, dI) vwCl [(h0, .inr (12, fs_28)), (q1, .inl (cA1, 8, .inr (.inl (fun _ => 0)))), (q3, .inl (cA3, 8, .inl (fun _ => 0))), (q5, .inl (cA5, 8, .inl (fun _ => 0))), (q7, .inl (cA7, 8, .inl (fun _ => 0))), (q9, .inl (cA9, 8, .inl (fun _ => 0))), (q15, .inl (cA15, 2048, .inl (fun _ => 0))), (q29, .inl (cA29, 131072, .inl (fun _ => 0)))] H := hP
  replace hD : va_D A [(h0, .inr (12, fs_28)), (q1, .inl (cA1, 8, .inr (.inl (fun _ => 0)))), (q3, .inl (cA3, 8, .inl (fun _ => 0))), (q5, .inl (cA5, 8, .inl (fun _ => 0))), (q7, .inl (cA7, 8, .inl (fun _ => 0))), (q9, .inl (cA9, 8, .inl (fun _ => 0))), (q15, .inl (cA15, 2048, .inl (fun _ => 0))), (q29, .inl (cA29, 131072, .inl (fun _ => 0)))] := hD
  refine W.widen (k := 15) (n := 526416) (Nat.le_of_ble_eq_true rfl) (Nat.le_of_ble_eq_true rfl) ?_
  refine va_putF (D := (dC, dI)) (ci := 12) (v := .ref q29) (ty := (.array .int)) (C := RX11) (T := TX11) (N := 63) hx hb hts in_c_X11_init_X11 tyX11 tyX11_ok nmX11 hown hK hP hD hS 0 rfl rfl 16 (by decide) (hts (.fieldLink RX11 55 "ClaimBusModel" "behind" "[I") (List.mem_of_getElem? (i := 22) rfl)) (fun _ h9 => h9) rfl hin rfl (by decide +kernel) rfl rfl (by rw [hl_fs_28]; decide) dX11_init_122 (fun H locs hP hD hS => ?_)
  obtain ⟨fs_30, efs_30⟩ : ∃ z : List Value, z = fs_28.set 16 (.ref q29) := ⟨_, rfl⟩
  rw [← efs_30] at hP hD
  have hl_fs_30 : fs_30.length = 63 := by rw [efs_30, List.length_set]; exact hl_fs_28
  have h0_fs_30 : fs_30[0]? = some (.int 0) := by rw [efs_30, List.getElem?_set_ne (by decide)]; exact h0_fs_28
  have h1_fs_30 : fs_30[1]? = some (.int 0) := by rw [efs_30, List.getElem?_set_ne (by decide)]; exact h1_fs_28
  have h46_fs_30 : fs_30[46]? = some (.int 0) := by rw [efs_30, List.getElem?_set_ne (by decide)]; exact h46_fs_28
  have h47_fs_30 : fs_30[47]? = some (.int 0) := by rw [efs_30, List.getElem?_set_ne (by decide)]; exact h47_fs_28
  have h48_fs_30 : fs_30[48]? = some (.int 0) := by rw [efs_30, List.getElem?_set_ne (by decide)]; exact h48_fs_28
  have h50_fs_30 : fs_30[50]? = some (.int 0) := by rw [efs_30, List.getElem?_set_ne (by decide)]; exact h50_fs_28
  have h51_fs_30 : fs_30[51]? = some (.int 0) := by rw [efs_30, List.getElem?_set_ne (by decide)]; exact h51_fs_28
  have h52_fs_30 : fs_30[52]? = some (.int 0) := by rw [efs_30, List.getElem?_set_ne (by decide)]; exact h52_fs_28
  have h2_fs_30 : fs_30[2]? = some (.ref q1) := by rw [efs_30, List.getElem?_set_ne (by decide)]; exact h2_fs_28
  have h3_fs_30 : fs_30[3]? = some (.ref q3) := by rw [efs_30, List.getElem?_set_ne (by decide)]; exact h3_fs_28
  have h4_fs_30 : fs_30[4]? = some (.ref q5) := by rw [efs_30, List.getElem?_set_ne (by decide)]; exact h4_fs_28
  have h5_fs_30 : fs_30[5]? = some (.ref q7) := by rw [efs_30, List.getElem?_set_ne (by decide)]; exact h5_fs_28
  have h6_fs_30 : fs_30[6]? = some (.ref q9) := by rw [efs_30, List.getElem?_set_ne (by decide)]; exact h6_fs_28
  have h9_fs_30 : fs_30[9]? = some (.ref q15) := by rw [efs_30, List.getElem?_set_ne (by decide)]; exact h9_fs_28
  replace hP : va_P (dC, dI) vwCl [(h0, .inr (12, fs_30)), (q1, .inl (cA1, 8, .inr (.inl (fun _ => 0)))), (q3, .inl (cA3, 8, .inl (fun _ => 0))), (q5, .inl (cA5, 8, .inl (fun _ => 0))), (q7, .inl (cA7, 8, .inl (fun _ => 0))), (q9, .inl (cA9, 8, .inl (fun _ => 0))), (q15, .inl (cA15, 2048, .inl (fun _ => 0))), (q29, .inl (cA29, 131072, .inl (fun _ => 0)))] H := hP
  replace hD : va_D A [(h0, .inr (12, fs_30)), (q1, .inl (cA1, 8, .inr (.inl (fun _ => 0)))), (q3, .inl (cA3, 8, .inl (fun _ => 0))), (q5, .inl (cA5, 8, .inl (fun _ => 0))), (q7, .inl (cA7, 8, .inl (fun _ => 0))), (q9, .inl (cA9, 8, .inl (fun _ => 0))), (q15, .inl (cA15, 2048, .inl (fun _ => 0))), (q29, .inl (cA29, 131072, .inl (fun _ => 0)))] := hD
  replace hP := hP.sub (ws' := [(h0, .inr (12, fs_30)), (q1, .inl (cA1, 8, .inr (.inl (fun _ => 0)))), (q3, .inl (cA3, 8, .inl (fun _ => 0))), (q5, .inl (cA5, 8, .inl (fun _ => 0))), (q7, .inl (cA7, 8, .inl (fun _ => 0))), (q9, .inl (cA9, 8, .inl (fun _ => 0))), (q15, .inl (cA15, 2048, .inl (fun _ => 0)))]) [0, 1, 2, 3, 4, 5, 6] rfl
  replace hD := hD.sub (ws' := [(h0, .inr (12, fs_30)), (q1, .inl (cA1, 8, .inr (.inl (fun _ => 0)))), (q3, .inl (cA3, 8, .inl (fun _ => 0))), (q5, .inl (cA5, 8, .inl (fun _ => 0))), (q7, .inl (cA7, 8, .inl (fun _ => 0))), (q9, .inl (cA9, 8, .inl (fun _ => 0))), (q15, .inl (cA15, 2048, .inl (fun _ => 0)))]) [0, 1, 2, 3, 4, 5, 6] (by decide) rfl
  refine lv_aload_n hx hb dX11_init_125 rfl (lv_at hl 0 rfl) ?_
  refine lv_iconst (v := -1) hx hb dX11_init_126 (by decide) ?_
  refine va_put (D := (dC, dI)) (ci := 12) (v := .int (-1)) (ty := .int) (C := RX11) (T := TX11) (N := 63) hx hb hts in_c_X11_init_X11 tyX11 tyX11_ok nmX11 hown hK hP hD hS 0 rfl rfl 17 (by decide) (hts (.fieldLink RX11 58 "ClaimBusModel" "back" "I") (List.mem_of_getElem? (i := 23) rfl)) (fun _ h9 => h9) rfl (by decide +kernel) rfl rfl (by rw [hl_fs_30]; decide) dX11_init_127 (fun H locs hP hD hS => ?_)
  obtain ⟨fs_31, efs_31⟩ : ∃ z : List Value, z = fs_30.set 17 (.int (-1)) := ⟨_, rfl⟩
  rw [← efs_31] at hP hD
  have hl_fs_31 : fs_31.length = 63 := by rw [efs_31, List.length_set]; exact hl_fs_30
  have h0_fs_31 : fs_31[0]? = some (.int 0) := by rw [efs_31, List.getElem?_set_ne (by decide)]; exact h0_fs_30
  have h1_fs_31 : fs_31[1]? = some (.int 0) := by rw [efs_31, List.getElem?_set_ne (by decide)]; exact h1_fs_30
  have h46_fs_31 : fs_31[46]? = some (.int 0) := by rw [efs_31, List.getElem?_set_ne (by decide)]; exact h46_fs_30
  have h47_fs_31 : fs_31[47]? = some (.int 0) := by rw [efs_31, List.getElem?_set_ne (by decide)]; exact h47_fs_30
  have h48_fs_31 : fs_31[48]? = some (.int 0) := by rw [efs_31, List.getElem?_set_ne (by decide)]; exact h48_fs_30
  have h50_fs_31 : fs_31[50]? = some (.int 0) := by rw [efs_31, List.getElem?_set_ne (by decide)]; exact h50_fs_30
  have h51_fs_31 : fs_31[51]? = some (.int 0) := by rw [efs_31, List.getElem?_set_ne (by decide)]; exact h51_fs_30
  have h52_fs_31 : fs_31[52]? = some (.int 0) := by rw [efs_31, List.getElem?_set_ne (by decide)]; exact h52_fs_30
  have h2_fs_31 : fs_31[2]? = some (.ref q1) := by rw [efs_31, List.getElem?_set_ne (by decide)]; exact h2_fs_30
  have h3_fs_31 : fs_31[3]? = some (.ref q3) := by rw [efs_31, List.getElem?_set_ne (by decide)]; exact h3_fs_30
  have h4_fs_31 : fs_31[4]? = some (.ref q5) := by rw [efs_31, List.getElem?_set_ne (by decide)]; exact h4_fs_30
  have h5_fs_31 : fs_31[5]? = some (.ref q7) := by rw [efs_31, List.getElem?_set_ne (by decide)]; exact h5_fs_30
  have h6_fs_31 : fs_31[6]? = some (.ref q9) := by rw [efs_31, List.getElem?_set_ne (by decide)]; exact h6_fs_30
  have h9_fs_31 : fs_31[9]? = some (.ref q15) := by rw [efs_31, List.getElem?_set_ne (by decide)]; exact h9_fs_30
  replace hP : va_P (dC, dI) vwCl [(h0, .inr (12, fs_31)), (q1, .inl (cA1, 8, .inr (.inl (fun _ => 0)))), (q3, .inl (cA3, 8, .inl (fun _ => 0))), (q5, .inl (cA5, 8, .inl (fun _ => 0))), (q7, .inl (cA7, 8, .inl (fun _ => 0))), (q9, .inl (cA9, 8, .inl (fun _ => 0))), (q15, .inl (cA15, 2048, .inl (fun _ => 0)))] H := hP
  replace hD : va_D A [(h0, .inr (12, fs_31)), (q1, .inl (cA1, 8, .inr (.inl (fun _ => 0)))), (q3, .inl (cA3, 8, .inl (fun _ => 0))), (q5, .inl (cA5, 8, .inl (fun _ => 0))), (q7, .inl (cA7, 8, .inl (fun _ => 0))), (q9, .inl (cA9, 8, .inl (fun _ => 0))), (q15, .inl (cA15, 2048, .inl (fun _ => 0)))] := hD
  refine lv_aload_n hx hb dX11_init_130 rfl (lv_at hl 0 rfl) ?_
  refine lv_bipush (v := 8) hx hb dX11_init_131 (by decide) ?_
  refine va_newa (atype := .boolean) (ty := .boolean) (N' := 8) (a0 := (8, .inl (fun _ => 0))) hx hb (hts (.arrayClass .boolean) (List.mem_of_getElem? (i := 9) rfl)) rfl hK hP hD hS hA (fun _ => rfl) (by decide) (by decide) (Nat.le_of_ble_eq_true rfl) (Nat.le_of_ble_eq_true rfl) (Nat.le_of_ble_eq_true rfl) dX11_init_133 (fun q32 cA32 H hK hP hD hS => ?_)
  replace hK : va_K (dC, dI) vwCl [(cA1, .long), (cA3, .int), (cA5, .int), (cA7, .boolean), (cA9, .int), (cA11, .int), (cA13, .int), (cA15, .int), (cA17, .int), (cA19, .int), (cA21, .int), (cA23, .int), (cA25, .int), (cA27, .int), (cA29, .int), (cA32, .boolean)] s := hK
  replace hP : va_P (dC, dI) vwCl [(h0, .inr (12, fs_31)), (q1, .inl (cA1, 8, .inr (.inl (fun _ => 0)))), (q3, .inl (cA3, 8, .inl (fun _ => 0))), (q5, .inl (cA5, 8, .inl (fun _ => 0))), (q7, .inl (cA7, 8, .inl (fun _ => 0))), (q9, .inl (cA9, 8, .inl (fun _ => 0))), (q15, .inl (cA15, 2048, .inl (fun _ => 0))), (q32, .inl (cA32, 8, .inl (fun _ => 0)))] H := hP
  replace hD : va_D A [(h0, .inr (12, fs_31)), (q1, .inl (cA1, 8, .inr (.inl (fun _ => 0)))), (q3, .inl (cA3, 8, .inl (fun _ => 0))), (q5, .inl (cA5, 8, .inl (fun _ => 0))), (q7, .inl (cA7, 8, .inl (fun _ => 0))), (q9, .inl (cA9, 8, .inl (fun _ => 0))), (q15, .inl (cA15, 2048, .inl (fun _ => 0))), (q32, .inl (cA32, 8, .inl (fun _ => 0)))] := hD
  refine W.widen (k := 16) (n := 526424) (Nat.le_of_ble_eq_true rfl) (Nat.le_of_ble_eq_true rfl) ?_
  refine va_putF (D := (dC, dI)) (ci := 12) (v := .ref q32) (ty := (.array .boolean)) (C := RX11) (T := TX11) (N := 63) hx hb hts in_c_X11_init_X11 tyX11 tyX11_ok nmX11 hown hK hP hD hS 0 rfl rfl 19 (by decide) (hts (.fieldLink RX11 62 "ClaimBusModel" "claimWaits" "[Z") (List.mem_of_getElem? (i := 24) rfl)) (fun _ h9 => h9) rfl hin rfl (by decide +kernel) rfl rfl (by rw [hl_fs_31]; decide) dX11_init_135 (fun H locs hP hD hS => ?_)
  obtain ⟨fs_33, efs_33⟩ : ∃ z : List Value, z = fs_31.set 19 (.ref q32) := ⟨_, rfl⟩
  rw [← efs_33] at hP hD
  have hl_fs_33 : fs_33.length = 63 := by rw [efs_33, List.length_set]; exact hl_fs_31
  have h0_fs_33 : fs_33[0]? = some (.int 0) := by rw [efs_33, List.getElem?_set_ne (by decide)]; exact h0_fs_31
  have h1_fs_33 : fs_33[1]? = some (.int 0) := by rw [efs_33, List.getElem?_set_ne (by decide)]; exact h1_fs_31
  have h46_fs_33 : fs_33[46]? = some (.int 0) := by rw [efs_33, List.getElem?_set_ne (by decide)]; exact h46_fs_31
  have h47_fs_33 : fs_33[47]? = some (.int 0) := by rw [efs_33, List.getElem?_set_ne (by decide)]; exact h47_fs_31
  have h48_fs_33 : fs_33[48]? = some (.int 0) := by rw [efs_33, List.getElem?_set_ne (by decide)]; exact h48_fs_31
  have h50_fs_33 : fs_33[50]? = some (.int 0) := by rw [efs_33, List.getElem?_set_ne (by decide)]; exact h50_fs_31
  have h51_fs_33 : fs_33[51]? = some (.int 0) := by rw [efs_33, List.getElem?_set_ne (by decide)]; exact h51_fs_31
  have h52_fs_33 : fs_33[52]? = some (.int 0) := by rw [efs_33, List.getElem?_set_ne (by decide)]; exact h52_fs_31
  have h2_fs_33 : fs_33[2]? = some (.ref q1) := by rw [efs_33, List.getElem?_set_ne (by decide)]; exact h2_fs_31
  have h3_fs_33 : fs_33[3]? = some (.ref q3) := by rw [efs_33, List.getElem?_set_ne (by decide)]; exact h3_fs_31
  have h4_fs_33 : fs_33[4]? = some (.ref q5) := by rw [efs_33, List.getElem?_set_ne (by decide)]; exact h4_fs_31
  have h5_fs_33 : fs_33[5]? = some (.ref q7) := by rw [efs_33, List.getElem?_set_ne (by decide)]; exact h5_fs_31
  have h6_fs_33 : fs_33[6]? = some (.ref q9) := by rw [efs_33, List.getElem?_set_ne (by decide)]; exact h6_fs_31
  have h9_fs_33 : fs_33[9]? = some (.ref q15) := by rw [efs_33, List.getElem?_set_ne (by decide)]; exact h9_fs_31
  replace hP : va_P (dC, dI) vwCl [(h0, .inr (12, fs_33)), (q1, .inl (cA1, 8, .inr (.inl (fun _ => 0)))), (q3, .inl (cA3, 8, .inl (fun _ => 0))), (q5, .inl (cA5, 8, .inl (fun _ => 0))), (q7, .inl (cA7, 8, .inl (fun _ => 0))), (q9, .inl (cA9, 8, .inl (fun _ => 0))), (q15, .inl (cA15, 2048, .inl (fun _ => 0))), (q32, .inl (cA32, 8, .inl (fun _ => 0)))] H := hP
  replace hD : va_D A [(h0, .inr (12, fs_33)), (q1, .inl (cA1, 8, .inr (.inl (fun _ => 0)))), (q3, .inl (cA3, 8, .inl (fun _ => 0))), (q5, .inl (cA5, 8, .inl (fun _ => 0))), (q7, .inl (cA7, 8, .inl (fun _ => 0))), (q9, .inl (cA9, 8, .inl (fun _ => 0))), (q15, .inl (cA15, 2048, .inl (fun _ => 0))), (q32, .inl (cA32, 8, .inl (fun _ => 0)))] := hD
  replace hP := hP.sub (ws' := [(h0, .inr (12, fs_33)), (q1, .inl (cA1, 8, .inr (.inl (fun _ => 0)))), (q3, .inl (cA3, 8, .inl (fun _ => 0))), (q5, .inl (cA5, 8, .inl (fun _ => 0))), (q7, .inl (cA7, 8, .inl (fun _ => 0))), (q9, .inl (cA9, 8, .inl (fun _ => 0))), (q15, .inl (cA15, 2048, .inl (fun _ => 0)))]) [0, 1, 2, 3, 4, 5, 6] rfl
  replace hD := hD.sub (ws' := [(h0, .inr (12, fs_33)), (q1, .inl (cA1, 8, .inr (.inl (fun _ => 0)))), (q3, .inl (cA3, 8, .inl (fun _ => 0))), (q5, .inl (cA5, 8, .inl (fun _ => 0))), (q7, .inl (cA7, 8, .inl (fun _ => 0))), (q9, .inl (cA9, 8, .inl (fun _ => 0))), (q15, .inl (cA15, 2048, .inl (fun _ => 0)))]) [0, 1, 2, 3, 4, 5, 6] (by decide) rfl
  refine lv_aload_n hx hb dX11_init_138 rfl (lv_at hl 0 rfl) ?_
  refine lv_bipush (v := 8) hx hb dX11_init_139 (by decide) ?_
  refine va_newa (atype := .int) (ty := .int) (N' := 8) (a0 := (8, .inl (fun _ => 0))) hx hb (hts (.arrayClass .int) (List.mem_of_getElem? (i := 6) rfl)) rfl hK hP hD hS hA (fun _ => rfl) (by decide) (by decide) (Nat.le_of_ble_eq_true rfl) (Nat.le_of_ble_eq_true rfl) (Nat.le_of_ble_eq_true rfl) dX11_init_141 (fun q34 cA34 H hK hP hD hS => ?_)
  replace hK : va_K (dC, dI) vwCl [(cA1, .long), (cA3, .int), (cA5, .int), (cA7, .boolean), (cA9, .int), (cA11, .int), (cA13, .int), (cA15, .int), (cA17, .int), (cA19, .int), (cA21, .int), (cA23, .int), (cA25, .int), (cA27, .int), (cA29, .int), (cA32, .boolean), (cA34, .int)] s := hK
  replace hP : va_P (dC, dI) vwCl [(h0, .inr (12, fs_33)), (q1, .inl (cA1, 8, .inr (.inl (fun _ => 0)))), (q3, .inl (cA3, 8, .inl (fun _ => 0))), (q5, .inl (cA5, 8, .inl (fun _ => 0))), (q7, .inl (cA7, 8, .inl (fun _ => 0))), (q9, .inl (cA9, 8, .inl (fun _ => 0))), (q15, .inl (cA15, 2048, .inl (fun _ => 0))), (q34, .inl (cA34, 8, .inl (fun _ => 0)))] H := hP
  replace hD : va_D A [(h0, .inr (12, fs_33)), (q1, .inl (cA1, 8, .inr (.inl (fun _ => 0)))), (q3, .inl (cA3, 8, .inl (fun _ => 0))), (q5, .inl (cA5, 8, .inl (fun _ => 0))), (q7, .inl (cA7, 8, .inl (fun _ => 0))), (q9, .inl (cA9, 8, .inl (fun _ => 0))), (q15, .inl (cA15, 2048, .inl (fun _ => 0))), (q34, .inl (cA34, 8, .inl (fun _ => 0)))] := hD
  refine W.widen (k := 17) (n := 526432) (Nat.le_of_ble_eq_true rfl) (Nat.le_of_ble_eq_true rfl) ?_
  refine va_putF (D := (dC, dI)) (ci := 12) (v := .ref q34) (ty := (.array .int)) (C := RX11) (T := TX11) (N := 63) hx hb hts in_c_X11_init_X11 tyX11 tyX11_ok nmX11 hown hK hP hD hS 0 rfl rfl 20 (by decide) (hts (.fieldLink RX11 65 "ClaimBusModel" "sending" "[I") (List.mem_of_getElem? (i := 25) rfl)) (fun _ h9 => h9) rfl hin rfl (by decide +kernel) rfl rfl (by rw [hl_fs_33]; decide) dX11_init_143 (fun H locs hP hD hS => ?_)
  obtain ⟨fs_35, efs_35⟩ : ∃ z : List Value, z = fs_33.set 20 (.ref q34) := ⟨_, rfl⟩
  rw [← efs_35] at hP hD
  have hl_fs_35 : fs_35.length = 63 := by rw [efs_35, List.length_set]; exact hl_fs_33
  have h0_fs_35 : fs_35[0]? = some (.int 0) := by rw [efs_35, List.getElem?_set_ne (by decide)]; exact h0_fs_33
  have h1_fs_35 : fs_35[1]? = some (.int 0) := by rw [efs_35, List.getElem?_set_ne (by decide)]; exact h1_fs_33
  have h46_fs_35 : fs_35[46]? = some (.int 0) := by rw [efs_35, List.getElem?_set_ne (by decide)]; exact h46_fs_33
  have h47_fs_35 : fs_35[47]? = some (.int 0) := by rw [efs_35, List.getElem?_set_ne (by decide)]; exact h47_fs_33
  have h48_fs_35 : fs_35[48]? = some (.int 0) := by rw [efs_35, List.getElem?_set_ne (by decide)]; exact h48_fs_33
  have h50_fs_35 : fs_35[50]? = some (.int 0) := by rw [efs_35, List.getElem?_set_ne (by decide)]; exact h50_fs_33
  have h51_fs_35 : fs_35[51]? = some (.int 0) := by rw [efs_35, List.getElem?_set_ne (by decide)]; exact h51_fs_33
  have h52_fs_35 : fs_35[52]? = some (.int 0) := by rw [efs_35, List.getElem?_set_ne (by decide)]; exact h52_fs_33
  have h2_fs_35 : fs_35[2]? = some (.ref q1) := by rw [efs_35, List.getElem?_set_ne (by decide)]; exact h2_fs_33
  have h3_fs_35 : fs_35[3]? = some (.ref q3) := by rw [efs_35, List.getElem?_set_ne (by decide)]; exact h3_fs_33
  have h4_fs_35 : fs_35[4]? = some (.ref q5) := by rw [efs_35, List.getElem?_set_ne (by decide)]; exact h4_fs_33
  have h5_fs_35 : fs_35[5]? = some (.ref q7) := by rw [efs_35, List.getElem?_set_ne (by decide)]; exact h5_fs_33
  have h6_fs_35 : fs_35[6]? = some (.ref q9) := by rw [efs_35, List.getElem?_set_ne (by decide)]; exact h6_fs_33
  have h9_fs_35 : fs_35[9]? = some (.ref q15) := by rw [efs_35, List.getElem?_set_ne (by decide)]; exact h9_fs_33
  replace hP : va_P (dC, dI) vwCl [(h0, .inr (12, fs_35)), (q1, .inl (cA1, 8, .inr (.inl (fun _ => 0)))), (q3, .inl (cA3, 8, .inl (fun _ => 0))), (q5, .inl (cA5, 8, .inl (fun _ => 0))), (q7, .inl (cA7, 8, .inl (fun _ => 0))), (q9, .inl (cA9, 8, .inl (fun _ => 0))), (q15, .inl (cA15, 2048, .inl (fun _ => 0))), (q34, .inl (cA34, 8, .inl (fun _ => 0)))] H := hP
  replace hD : va_D A [(h0, .inr (12, fs_35)), (q1, .inl (cA1, 8, .inr (.inl (fun _ => 0)))), (q3, .inl (cA3, 8, .inl (fun _ => 0))), (q5, .inl (cA5, 8, .inl (fun _ => 0))), (q7, .inl (cA7, 8, .inl (fun _ => 0))), (q9, .inl (cA9, 8, .inl (fun _ => 0))), (q15, .inl (cA15, 2048, .inl (fun _ => 0))), (q34, .inl (cA34, 8, .inl (fun _ => 0)))] := hD
  replace hP := hP.sub (ws' := [(h0, .inr (12, fs_35)), (q1, .inl (cA1, 8, .inr (.inl (fun _ => 0)))), (q3, .inl (cA3, 8, .inl (fun _ => 0))), (q5, .inl (cA5, 8, .inl (fun _ => 0))), (q7, .inl (cA7, 8, .inl (fun _ => 0))), (q9, .inl (cA9, 8, .inl (fun _ => 0))), (q15, .inl (cA15, 2048, .inl (fun _ => 0)))]) [0, 1, 2, 3, 4, 5, 6] rfl
  replace hD := hD.sub (ws' := [(h0, .inr (12, fs_35)), (q1, .inl (cA1, 8, .inr (.inl (fun _ => 0)))), (q3, .inl (cA3, 8, .inl (fun _ => 0))), (q5, .inl (cA5, 8, .inl (fun _ => 0))), (q7, .inl (cA7, 8, .inl (fun _ => 0))), (q9, .inl (cA9, 8, .inl (fun _ => 0))), (q15, .inl (cA15, 2048, .inl (fun _ => 0)))]) [0, 1, 2, 3, 4, 5, 6] (by decide) rfl
  refine lv_aload_n hx hb dX11_init_146 rfl (lv_at hl 0 rfl) ?_
  refine lv_bipush (v := 8) hx hb dX11_init_147 (by decide) ?_
  refine va_newa (atype := .int) (ty := .int) (N' := 8) (a0 := (8, .inl (fun _ => 0))) hx hb (hts (.arrayClass .int) (List.mem_of_getElem? (i := 6) rfl)) rfl hK hP hD hS hA (fun _ => rfl) (by decide) (by decide) (Nat.le_of_ble_eq_true rfl) (Nat.le_of_ble_eq_true rfl) (Nat.le_of_ble_eq_true rfl) dX11_init_149 (fun q36 cA36 H hK hP hD hS => ?_)
  replace hK : va_K (dC, dI) vwCl [(cA1, .long), (cA3, .int), (cA5, .int), (cA7, .boolean), (cA9, .int), (cA11, .int), (cA13, .int), (cA15, .int), (cA17, .int), (cA19, .int), (cA21, .int), (cA23, .int), (cA25, .int), (cA27, .int), (cA29, .int), (cA32, .boolean), (cA34, .int), (cA36, .int)] s := hK
  replace hP : va_P (dC, dI) vwCl [(h0, .inr (12, fs_35)), (q1, .inl (cA1, 8, .inr (.inl (fun _ => 0)))), (q3, .inl (cA3, 8, .inl (fun _ => 0))), (q5, .inl (cA5, 8, .inl (fun _ => 0))), (q7, .inl (cA7, 8, .inl (fun _ => 0))), (q9, .inl (cA9, 8, .inl (fun _ => 0))), (q15, .inl (cA15, 2048, .inl (fun _ => 0))), (q36, .inl (cA36, 8, .inl (fun _ => 0)))] H := hP
  replace hD : va_D A [(h0, .inr (12, fs_35)), (q1, .inl (cA1, 8, .inr (.inl (fun _ => 0)))), (q3, .inl (cA3, 8, .inl (fun _ => 0))), (q5, .inl (cA5, 8, .inl (fun _ => 0))), (q7, .inl (cA7, 8, .inl (fun _ => 0))), (q9, .inl (cA9, 8, .inl (fun _ => 0))), (q15, .inl (cA15, 2048, .inl (fun _ => 0))), (q36, .inl (cA36, 8, .inl (fun _ => 0)))] := hD
  refine W.widen (k := 18) (n := 526440) (Nat.le_of_ble_eq_true rfl) (Nat.le_of_ble_eq_true rfl) ?_
  refine va_putF (D := (dC, dI)) (ci := 12) (v := .ref q36) (ty := (.array .int)) (C := RX11) (T := TX11) (N := 63) hx hb hts in_c_X11_init_X11 tyX11 tyX11_ok nmX11 hown hK hP hD hS 0 rfl rfl 21 (by decide) (hts (.fieldLink RX11 68 "ClaimBusModel" "sendTo" "[I") (List.mem_of_getElem? (i := 26) rfl)) (fun _ h9 => h9) rfl hin rfl (by decide +kernel) rfl rfl (by rw [hl_fs_35]; decide) dX11_init_151 (fun H locs hP hD hS => ?_)
  obtain ⟨fs_37, efs_37⟩ : ∃ z : List Value, z = fs_35.set 21 (.ref q36) := ⟨_, rfl⟩
  rw [← efs_37] at hP hD
  have hl_fs_37 : fs_37.length = 63 := by rw [efs_37, List.length_set]; exact hl_fs_35
  have h0_fs_37 : fs_37[0]? = some (.int 0) := by rw [efs_37, List.getElem?_set_ne (by decide)]; exact h0_fs_35
  have h1_fs_37 : fs_37[1]? = some (.int 0) := by rw [efs_37, List.getElem?_set_ne (by decide)]; exact h1_fs_35
  have h46_fs_37 : fs_37[46]? = some (.int 0) := by rw [efs_37, List.getElem?_set_ne (by decide)]; exact h46_fs_35
  have h47_fs_37 : fs_37[47]? = some (.int 0) := by rw [efs_37, List.getElem?_set_ne (by decide)]; exact h47_fs_35
  have h48_fs_37 : fs_37[48]? = some (.int 0) := by rw [efs_37, List.getElem?_set_ne (by decide)]; exact h48_fs_35
  have h50_fs_37 : fs_37[50]? = some (.int 0) := by rw [efs_37, List.getElem?_set_ne (by decide)]; exact h50_fs_35
  have h51_fs_37 : fs_37[51]? = some (.int 0) := by rw [efs_37, List.getElem?_set_ne (by decide)]; exact h51_fs_35
  have h52_fs_37 : fs_37[52]? = some (.int 0) := by rw [efs_37, List.getElem?_set_ne (by decide)]; exact h52_fs_35
  have h2_fs_37 : fs_37[2]? = some (.ref q1) := by rw [efs_37, List.getElem?_set_ne (by decide)]; exact h2_fs_35
  have h3_fs_37 : fs_37[3]? = some (.ref q3) := by rw [efs_37, List.getElem?_set_ne (by decide)]; exact h3_fs_35
  have h4_fs_37 : fs_37[4]? = some (.ref q5) := by rw [efs_37, List.getElem?_set_ne (by decide)]; exact h4_fs_35
  have h5_fs_37 : fs_37[5]? = some (.ref q7) := by rw [efs_37, List.getElem?_set_ne (by decide)]; exact h5_fs_35
  have h6_fs_37 : fs_37[6]? = some (.ref q9) := by rw [efs_37, List.getElem?_set_ne (by decide)]; exact h6_fs_35
  have h9_fs_37 : fs_37[9]? = some (.ref q15) := by rw [efs_37, List.getElem?_set_ne (by decide)]; exact h9_fs_35
  replace hP : va_P (dC, dI) vwCl [(h0, .inr (12, fs_37)), (q1, .inl (cA1, 8, .inr (.inl (fun _ => 0)))), (q3, .inl (cA3, 8, .inl (fun _ => 0))), (q5, .inl (cA5, 8, .inl (fun _ => 0))), (q7, .inl (cA7, 8, .inl (fun _ => 0))), (q9, .inl (cA9, 8, .inl (fun _ => 0))), (q15, .inl (cA15, 2048, .inl (fun _ => 0))), (q36, .inl (cA36, 8, .inl (fun _ => 0)))] H := hP
  replace hD : va_D A [(h0, .inr (12, fs_37)), (q1, .inl (cA1, 8, .inr (.inl (fun _ => 0)))), (q3, .inl (cA3, 8, .inl (fun _ => 0))), (q5, .inl (cA5, 8, .inl (fun _ => 0))), (q7, .inl (cA7, 8, .inl (fun _ => 0))), (q9, .inl (cA9, 8, .inl (fun _ => 0))), (q15, .inl (cA15, 2048, .inl (fun _ => 0))), (q36, .inl (cA36, 8, .inl (fun _ => 0)))] := hD
  replace hP := hP.sub (ws' := [(h0, .inr (12, fs_37)), (q1, .inl (cA1, 8, .inr (.inl (fun _ => 0)))), (q3, .inl (cA3, 8, .inl (fun _ => 0))), (q5, .inl (cA5, 8, .inl (fun _ => 0))), (q7, .inl (cA7, 8, .inl (fun _ => 0))), (q9, .inl (cA9, 8, .inl (fun _ => 0))), (q15, .inl (cA15, 2048, .inl (fun _ => 0)))]) [0, 1, 2, 3, 4, 5, 6] rfl
  replace hD := hD.sub (ws' := [(h0, .inr (12, fs_37)), (q1, .inl (cA1, 8, .inr (.inl (fun _ => 0)))), (q3, .inl (cA3, 8, .inl (fun _ => 0))), (q5, .inl (cA5, 8, .inl (fun _ => 0))), (q7, .inl (cA7, 8, .inl (fun _ => 0))), (q9, .inl (cA9, 8, .inl (fun _ => 0))), (q15, .inl (cA15, 2048, .inl (fun _ => 0)))]) [0, 1, 2, 3, 4, 5, 6] (by decide) rfl
  refine lv_aload_n hx hb dX11_init_154 rfl (lv_at hl 0 rfl) ?_
  refine lv_bipush (v := 8) hx hb dX11_init_155 (by decide) ?_
  refine va_newa (atype := .int) (ty := .int) (N' := 8) (a0 := (8, .inl (fun _ => 0))) hx hb (hts (.arrayClass .int) (List.mem_of_getElem? (i := 6) rfl)) rfl hK hP hD hS hA (fun _ => rfl) (by decide) (by decide) (Nat.le_of_ble_eq_true rfl) (Nat.le_of_ble_eq_true rfl) (Nat.le_of_ble_eq_true rfl) dX11_init_157 (fun q38 cA38 H hK hP hD hS => ?_)
  replace hK : va_K (dC, dI) vwCl [(cA1, .long), (cA3, .int), (cA5, .int), (cA7, .boolean), (cA9, .int), (cA11, .int), (cA13, .int), (cA15, .int), (cA17, .int), (cA19, .int), (cA21, .int), (cA23, .int), (cA25, .int), (cA27, .int), (cA29, .int), (cA32, .boolean), (cA34, .int), (cA36, .int), (cA38, .int)] s := hK
  replace hP : va_P (dC, dI) vwCl [(h0, .inr (12, fs_37)), (q1, .inl (cA1, 8, .inr (.inl (fun _ => 0)))), (q3, .inl (cA3, 8, .inl (fun _ => 0))), (q5, .inl (cA5, 8, .inl (fun _ => 0))), (q7, .inl (cA7, 8, .inl (fun _ => 0))), (q9, .inl (cA9, 8, .inl (fun _ => 0))), (q15, .inl (cA15, 2048, .inl (fun _ => 0))), (q38, .inl (cA38, 8, .inl (fun _ => 0)))] H := hP
  replace hD : va_D A [(h0, .inr (12, fs_37)), (q1, .inl (cA1, 8, .inr (.inl (fun _ => 0)))), (q3, .inl (cA3, 8, .inl (fun _ => 0))), (q5, .inl (cA5, 8, .inl (fun _ => 0))), (q7, .inl (cA7, 8, .inl (fun _ => 0))), (q9, .inl (cA9, 8, .inl (fun _ => 0))), (q15, .inl (cA15, 2048, .inl (fun _ => 0))), (q38, .inl (cA38, 8, .inl (fun _ => 0)))] := hD
  refine W.widen (k := 19) (n := 526448) (Nat.le_of_ble_eq_true rfl) (Nat.le_of_ble_eq_true rfl) ?_
  refine va_putF (D := (dC, dI)) (ci := 12) (v := .ref q38) (ty := (.array .int)) (C := RX11) (T := TX11) (N := 63) hx hb hts in_c_X11_init_X11 tyX11 tyX11_ok nmX11 hown hK hP hD hS 0 rfl rfl 22 (by decide) (hts (.fieldLink RX11 71 "ClaimBusModel" "sendGroup" "[I") (List.mem_of_getElem? (i := 27) rfl)) (fun _ h9 => h9) rfl hin rfl (by decide +kernel) rfl rfl (by rw [hl_fs_37]; decide) dX11_init_159 (fun H locs hP hD hS => ?_)
  obtain ⟨fs_39, efs_39⟩ : ∃ z : List Value, z = fs_37.set 22 (.ref q38) := ⟨_, rfl⟩
  rw [← efs_39] at hP hD
  have hl_fs_39 : fs_39.length = 63 := by rw [efs_39, List.length_set]; exact hl_fs_37
  have h0_fs_39 : fs_39[0]? = some (.int 0) := by rw [efs_39, List.getElem?_set_ne (by decide)]; exact h0_fs_37
  have h1_fs_39 : fs_39[1]? = some (.int 0) := by rw [efs_39, List.getElem?_set_ne (by decide)]; exact h1_fs_37
  have h46_fs_39 : fs_39[46]? = some (.int 0) := by rw [efs_39, List.getElem?_set_ne (by decide)]; exact h46_fs_37
  have h47_fs_39 : fs_39[47]? = some (.int 0) := by rw [efs_39, List.getElem?_set_ne (by decide)]; exact h47_fs_37
  have h48_fs_39 : fs_39[48]? = some (.int 0) := by rw [efs_39, List.getElem?_set_ne (by decide)]; exact h48_fs_37
  have h50_fs_39 : fs_39[50]? = some (.int 0) := by rw [efs_39, List.getElem?_set_ne (by decide)]; exact h50_fs_37
  have h51_fs_39 : fs_39[51]? = some (.int 0) := by rw [efs_39, List.getElem?_set_ne (by decide)]; exact h51_fs_37
  have h52_fs_39 : fs_39[52]? = some (.int 0) := by rw [efs_39, List.getElem?_set_ne (by decide)]; exact h52_fs_37
  have h2_fs_39 : fs_39[2]? = some (.ref q1) := by rw [efs_39, List.getElem?_set_ne (by decide)]; exact h2_fs_37
  have h3_fs_39 : fs_39[3]? = some (.ref q3) := by rw [efs_39, List.getElem?_set_ne (by decide)]; exact h3_fs_37
  have h4_fs_39 : fs_39[4]? = some (.ref q5) := by rw [efs_39, List.getElem?_set_ne (by decide)]; exact h4_fs_37
  have h5_fs_39 : fs_39[5]? = some (.ref q7) := by rw [efs_39, List.getElem?_set_ne (by decide)]; exact h5_fs_37
  have h6_fs_39 : fs_39[6]? = some (.ref q9) := by rw [efs_39, List.getElem?_set_ne (by decide)]; exact h6_fs_37
  have h9_fs_39 : fs_39[9]? = some (.ref q15) := by rw [efs_39, List.getElem?_set_ne (by decide)]; exact h9_fs_37
  replace hP : va_P (dC, dI) vwCl [(h0, .inr (12, fs_39)), (q1, .inl (cA1, 8, .inr (.inl (fun _ => 0)))), (q3, .inl (cA3, 8, .inl (fun _ => 0))), (q5, .inl (cA5, 8, .inl (fun _ => 0))), (q7, .inl (cA7, 8, .inl (fun _ => 0))), (q9, .inl (cA9, 8, .inl (fun _ => 0))), (q15, .inl (cA15, 2048, .inl (fun _ => 0))), (q38, .inl (cA38, 8, .inl (fun _ => 0)))] H := hP
  replace hD : va_D A [(h0, .inr (12, fs_39)), (q1, .inl (cA1, 8, .inr (.inl (fun _ => 0)))), (q3, .inl (cA3, 8, .inl (fun _ => 0))), (q5, .inl (cA5, 8, .inl (fun _ => 0))), (q7, .inl (cA7, 8, .inl (fun _ => 0))), (q9, .inl (cA9, 8, .inl (fun _ => 0))), (q15, .inl (cA15, 2048, .inl (fun _ => 0))), (q38, .inl (cA38, 8, .inl (fun _ => 0)))] := hD
  replace hP := hP.sub (ws' := [(h0, .inr (12, fs_39)), (q1, .inl (cA1, 8, .inr (.inl (fun _ => 0)))), (q3, .inl (cA3, 8, .inl (fun _ => 0))), (q5, .inl (cA5, 8, .inl (fun _ => 0))), (q7, .inl (cA7, 8, .inl (fun _ => 0))), (q9, .inl (cA9, 8, .inl (fun _ => 0))), (q15, .inl (cA15, 2048, .inl (fun _ => 0)))]) [0, 1, 2, 3, 4, 5, 6] rfl
  replace hD := hD.sub (ws' := [(h0, .inr (12, fs_39)), (q1, .inl (cA1, 8, .inr (.inl (fun _ => 0)))), (q3, .inl (cA3, 8, .inl (fun _ => 0))), (q5, .inl (cA5, 8, .inl (fun _ => 0))), (q7, .inl (cA7, 8, .inl (fun _ => 0))), (q9, .inl (cA9, 8, .inl (fun _ => 0))), (q15, .inl (cA15, 2048, .inl (fun _ => 0)))]) [0, 1, 2, 3, 4, 5, 6] (by decide) rfl
  refine lv_aload_n hx hb dX11_init_162 rfl (lv_at hl 0 rfl) ?_
  refine lv_bipush (v := 8) hx hb dX11_init_163 (by decide) ?_
  refine va_newa (atype := .int) (ty := .int) (N' := 8) (a0 := (8, .inl (fun _ => 0))) hx hb (hts (.arrayClass .int) (List.mem_of_getElem? (i := 6) rfl)) rfl hK hP hD hS hA (fun _ => rfl) (by decide) (by decide) (Nat.le_of_ble_eq_true rfl) (Nat.le_of_ble_eq_true rfl) (Nat.le_of_ble_eq_true rfl) dX11_init_165 (fun q40 cA40 H hK hP hD hS => ?_)
  replace hK : va_K (dC, dI) vwCl [(cA1, .long), (cA3, .int), (cA5, .int), (cA7, .boolean), (cA9, .int), (cA11, .int), (cA13, .int), (cA15, .int), (cA17, .int), (cA19, .int), (cA21, .int), (cA23, .int), (cA25, .int), (cA27, .int), (cA29, .int), (cA32, .boolean), (cA34, .int), (cA36, .int), (cA38, .int), (cA40, .int)] s := hK
  replace hP : va_P (dC, dI) vwCl [(h0, .inr (12, fs_39)), (q1, .inl (cA1, 8, .inr (.inl (fun _ => 0)))), (q3, .inl (cA3, 8, .inl (fun _ => 0))), (q5, .inl (cA5, 8, .inl (fun _ => 0))), (q7, .inl (cA7, 8, .inl (fun _ => 0))), (q9, .inl (cA9, 8, .inl (fun _ => 0))), (q15, .inl (cA15, 2048, .inl (fun _ => 0))), (q40, .inl (cA40, 8, .inl (fun _ => 0)))] H := hP
  replace hD : va_D A [(h0, .inr (12, fs_39)), (q1, .inl (cA1, 8, .inr (.inl (fun _ => 0)))), (q3, .inl (cA3, 8, .inl (fun _ => 0))), (q5, .inl (cA5, 8, .inl (fun _ => 0))), (q7, .inl (cA7, 8, .inl (fun _ => 0))), (q9, .inl (cA9, 8, .inl (fun _ => 0))), (q15, .inl (cA15, 2048, .inl (fun _ => 0))), (q40, .inl (cA40, 8, .inl (fun _ => 0)))] := hD
  refine W.widen (k := 20) (n := 526456) (Nat.le_of_ble_eq_true rfl) (Nat.le_of_ble_eq_true rfl) ?_
  refine va_putF (D := (dC, dI)) (ci := 12) (v := .ref q40) (ty := (.array .int)) (C := RX11) (T := TX11) (N := 63) hx hb hts in_c_X11_init_X11 tyX11 tyX11_ok nmX11 hown hK hP hD hS 0 rfl rfl 23 (by decide) (hts (.fieldLink RX11 74 "ClaimBusModel" "sendSize" "[I") (List.mem_of_getElem? (i := 28) rfl)) (fun _ h9 => h9) rfl hin rfl (by decide +kernel) rfl rfl (by rw [hl_fs_39]; decide) dX11_init_167 (fun H locs hP hD hS => ?_)
  obtain ⟨fs_41, efs_41⟩ : ∃ z : List Value, z = fs_39.set 23 (.ref q40) := ⟨_, rfl⟩
  rw [← efs_41] at hP hD
  have hl_fs_41 : fs_41.length = 63 := by rw [efs_41, List.length_set]; exact hl_fs_39
  have h0_fs_41 : fs_41[0]? = some (.int 0) := by rw [efs_41, List.getElem?_set_ne (by decide)]; exact h0_fs_39
  have h1_fs_41 : fs_41[1]? = some (.int 0) := by rw [efs_41, List.getElem?_set_ne (by decide)]; exact h1_fs_39
  have h46_fs_41 : fs_41[46]? = some (.int 0) := by rw [efs_41, List.getElem?_set_ne (by decide)]; exact h46_fs_39
  have h47_fs_41 : fs_41[47]? = some (.int 0) := by rw [efs_41, List.getElem?_set_ne (by decide)]; exact h47_fs_39
  have h48_fs_41 : fs_41[48]? = some (.int 0) := by rw [efs_41, List.getElem?_set_ne (by decide)]; exact h48_fs_39
  have h50_fs_41 : fs_41[50]? = some (.int 0) := by rw [efs_41, List.getElem?_set_ne (by decide)]; exact h50_fs_39
  have h51_fs_41 : fs_41[51]? = some (.int 0) := by rw [efs_41, List.getElem?_set_ne (by decide)]; exact h51_fs_39
  have h52_fs_41 : fs_41[52]? = some (.int 0) := by rw [efs_41, List.getElem?_set_ne (by decide)]; exact h52_fs_39
  have h2_fs_41 : fs_41[2]? = some (.ref q1) := by rw [efs_41, List.getElem?_set_ne (by decide)]; exact h2_fs_39
  have h3_fs_41 : fs_41[3]? = some (.ref q3) := by rw [efs_41, List.getElem?_set_ne (by decide)]; exact h3_fs_39
  have h4_fs_41 : fs_41[4]? = some (.ref q5) := by rw [efs_41, List.getElem?_set_ne (by decide)]; exact h4_fs_39
  have h5_fs_41 : fs_41[5]? = some (.ref q7) := by rw [efs_41, List.getElem?_set_ne (by decide)]; exact h5_fs_39
  have h6_fs_41 : fs_41[6]? = some (.ref q9) := by rw [efs_41, List.getElem?_set_ne (by decide)]; exact h6_fs_39
  have h9_fs_41 : fs_41[9]? = some (.ref q15) := by rw [efs_41, List.getElem?_set_ne (by decide)]; exact h9_fs_39
  replace hP : va_P (dC, dI) vwCl [(h0, .inr (12, fs_41)), (q1, .inl (cA1, 8, .inr (.inl (fun _ => 0)))), (q3, .inl (cA3, 8, .inl (fun _ => 0))), (q5, .inl (cA5, 8, .inl (fun _ => 0))), (q7, .inl (cA7, 8, .inl (fun _ => 0))), (q9, .inl (cA9, 8, .inl (fun _ => 0))), (q15, .inl (cA15, 2048, .inl (fun _ => 0))), (q40, .inl (cA40, 8, .inl (fun _ => 0)))] H := hP
  replace hD : va_D A [(h0, .inr (12, fs_41)), (q1, .inl (cA1, 8, .inr (.inl (fun _ => 0)))), (q3, .inl (cA3, 8, .inl (fun _ => 0))), (q5, .inl (cA5, 8, .inl (fun _ => 0))), (q7, .inl (cA7, 8, .inl (fun _ => 0))), (q9, .inl (cA9, 8, .inl (fun _ => 0))), (q15, .inl (cA15, 2048, .inl (fun _ => 0))), (q40, .inl (cA40, 8, .inl (fun _ => 0)))] := hD
  replace hP := hP.sub (ws' := [(h0, .inr (12, fs_41)), (q1, .inl (cA1, 8, .inr (.inl (fun _ => 0)))), (q3, .inl (cA3, 8, .inl (fun _ => 0))), (q5, .inl (cA5, 8, .inl (fun _ => 0))), (q7, .inl (cA7, 8, .inl (fun _ => 0))), (q9, .inl (cA9, 8, .inl (fun _ => 0))), (q15, .inl (cA15, 2048, .inl (fun _ => 0)))]) [0, 1, 2, 3, 4, 5, 6] rfl
  replace hD := hD.sub (ws' := [(h0, .inr (12, fs_41)), (q1, .inl (cA1, 8, .inr (.inl (fun _ => 0)))), (q3, .inl (cA3, 8, .inl (fun _ => 0))), (q5, .inl (cA5, 8, .inl (fun _ => 0))), (q7, .inl (cA7, 8, .inl (fun _ => 0))), (q9, .inl (cA9, 8, .inl (fun _ => 0))), (q15, .inl (cA15, 2048, .inl (fun _ => 0)))]) [0, 1, 2, 3, 4, 5, 6] (by decide) rfl
  refine lv_aload_n hx hb dX11_init_170 rfl (lv_at hl 0 rfl) ?_
  refine lv_bipush (v := 8) hx hb dX11_init_171 (by decide) ?_
  refine va_newa (atype := .int) (ty := .int) (N' := 8) (a0 := (8, .inl (fun _ => 0))) hx hb (hts (.arrayClass .int) (List.mem_of_getElem? (i := 6) rfl)) rfl hK hP hD hS hA (fun _ => rfl) (by decide) (by decide) (Nat.le_of_ble_eq_true rfl) (Nat.le_of_ble_eq_true rfl) (Nat.le_of_ble_eq_true rfl) dX11_init_173 (fun q42 cA42 H hK hP hD hS => ?_)
  replace hK : va_K (dC, dI) vwCl [(cA1, .long), (cA3, .int), (cA5, .int), (cA7, .boolean), (cA9, .int), (cA11, .int), (cA13, .int), (cA15, .int), (cA17, .int), (cA19, .int), (cA21, .int), (cA23, .int), (cA25, .int), (cA27, .int), (cA29, .int), (cA32, .boolean), (cA34, .int), (cA36, .int), (cA38, .int), (cA40, .int), (cA42, .int)] s := hK
  replace hP : va_P (dC, dI) vwCl [(h0, .inr (12, fs_41)), (q1, .inl (cA1, 8, .inr (.inl (fun _ => 0)))), (q3, .inl (cA3, 8, .inl (fun _ => 0))), (q5, .inl (cA5, 8, .inl (fun _ => 0))), (q7, .inl (cA7, 8, .inl (fun _ => 0))), (q9, .inl (cA9, 8, .inl (fun _ => 0))), (q15, .inl (cA15, 2048, .inl (fun _ => 0))), (q42, .inl (cA42, 8, .inl (fun _ => 0)))] H := hP
  replace hD : va_D A [(h0, .inr (12, fs_41)), (q1, .inl (cA1, 8, .inr (.inl (fun _ => 0)))), (q3, .inl (cA3, 8, .inl (fun _ => 0))), (q5, .inl (cA5, 8, .inl (fun _ => 0))), (q7, .inl (cA7, 8, .inl (fun _ => 0))), (q9, .inl (cA9, 8, .inl (fun _ => 0))), (q15, .inl (cA15, 2048, .inl (fun _ => 0))), (q42, .inl (cA42, 8, .inl (fun _ => 0)))] := hD
  refine W.widen (k := 21) (n := 526464) (Nat.le_of_ble_eq_true rfl) (Nat.le_of_ble_eq_true rfl) ?_
  refine va_putF (D := (dC, dI)) (ci := 12) (v := .ref q42) (ty := (.array .int)) (C := RX11) (T := TX11) (N := 63) hx hb hts in_c_X11_init_X11 tyX11 tyX11_ok nmX11 hown hK hP hD hS 0 rfl rfl 24 (by decide) (hts (.fieldLink RX11 77 "ClaimBusModel" "sendNext" "[I") (List.mem_of_getElem? (i := 29) rfl)) (fun _ h9 => h9) rfl hin rfl (by decide +kernel) rfl rfl (by rw [hl_fs_41]; decide) dX11_init_175 (fun H locs hP hD hS => ?_)
  obtain ⟨fs_43, efs_43⟩ : ∃ z : List Value, z = fs_41.set 24 (.ref q42) := ⟨_, rfl⟩
  rw [← efs_43] at hP hD
  have hl_fs_43 : fs_43.length = 63 := by rw [efs_43, List.length_set]; exact hl_fs_41
  have h0_fs_43 : fs_43[0]? = some (.int 0) := by rw [efs_43, List.getElem?_set_ne (by decide)]; exact h0_fs_41
  have h1_fs_43 : fs_43[1]? = some (.int 0) := by rw [efs_43, List.getElem?_set_ne (by decide)]; exact h1_fs_41
  have h46_fs_43 : fs_43[46]? = some (.int 0) := by rw [efs_43, List.getElem?_set_ne (by decide)]; exact h46_fs_41
  have h47_fs_43 : fs_43[47]? = some (.int 0) := by rw [efs_43, List.getElem?_set_ne (by decide)]; exact h47_fs_41
  have h48_fs_43 : fs_43[48]? = some (.int 0) := by rw [efs_43, List.getElem?_set_ne (by decide)]; exact h48_fs_41
  have h50_fs_43 : fs_43[50]? = some (.int 0) := by rw [efs_43, List.getElem?_set_ne (by decide)]; exact h50_fs_41
  have h51_fs_43 : fs_43[51]? = some (.int 0) := by rw [efs_43, List.getElem?_set_ne (by decide)]; exact h51_fs_41
  have h52_fs_43 : fs_43[52]? = some (.int 0) := by rw [efs_43, List.getElem?_set_ne (by decide)]; exact h52_fs_41
  have h2_fs_43 : fs_43[2]? = some (.ref q1) := by rw [efs_43, List.getElem?_set_ne (by decide)]; exact h2_fs_41
  have h3_fs_43 : fs_43[3]? = some (.ref q3) := by rw [efs_43, List.getElem?_set_ne (by decide)]; exact h3_fs_41
  have h4_fs_43 : fs_43[4]? = some (.ref q5) := by rw [efs_43, List.getElem?_set_ne (by decide)]; exact h4_fs_41
  have h5_fs_43 : fs_43[5]? = some (.ref q7) := by rw [efs_43, List.getElem?_set_ne (by decide)]; exact h5_fs_41
  have h6_fs_43 : fs_43[6]? = some (.ref q9) := by rw [efs_43, List.getElem?_set_ne (by decide)]; exact h6_fs_41
  have h9_fs_43 : fs_43[9]? = some (.ref q15) := by rw [efs_43, List.getElem?_set_ne (by decide)]; exact h9_fs_41
  replace hP : va_P (dC, dI) vwCl [(h0, .inr (12, fs_43)), (q1, .inl (cA1, 8, .inr (.inl (fun _ => 0)))), (q3, .inl (cA3, 8, .inl (fun _ => 0))), (q5, .inl (cA5, 8, .inl (fun _ => 0))), (q7, .inl (cA7, 8, .inl (fun _ => 0))), (q9, .inl (cA9, 8, .inl (fun _ => 0))), (q15, .inl (cA15, 2048, .inl (fun _ => 0))), (q42, .inl (cA42, 8, .inl (fun _ => 0)))] H := hP
  replace hD : va_D A [(h0, .inr (12, fs_43)), (q1, .inl (cA1, 8, .inr (.inl (fun _ => 0)))), (q3, .inl (cA3, 8, .inl (fun _ => 0))), (q5, .inl (cA5, 8, .inl (fun _ => 0))), (q7, .inl (cA7, 8, .inl (fun _ => 0))), (q9, .inl (cA9, 8, .inl (fun _ => 0))), (q15, .inl (cA15, 2048, .inl (fun _ => 0))), (q42, .inl (cA42, 8, .inl (fun _ => 0)))] := hD
  replace hP := hP.sub (ws' := [(h0, .inr (12, fs_43)), (q1, .inl (cA1, 8, .inr (.inl (fun _ => 0)))), (q3, .inl (cA3, 8, .inl (fun _ => 0))), (q5, .inl (cA5, 8, .inl (fun _ => 0))), (q7, .inl (cA7, 8, .inl (fun _ => 0))), (q9, .inl (cA9, 8, .inl (fun _ => 0))), (q15, .inl (cA15, 2048, .inl (fun _ => 0)))]) [0, 1, 2, 3, 4, 5, 6] rfl
  replace hD := hD.sub (ws' := [(h0, .inr (12, fs_43)), (q1, .inl (cA1, 8, .inr (.inl (fun _ => 0)))), (q3, .inl (cA3, 8, .inl (fun _ => 0))), (q5, .inl (cA5, 8, .inl (fun _ => 0))), (q7, .inl (cA7, 8, .inl (fun _ => 0))), (q9, .inl (cA9, 8, .inl (fun _ => 0))), (q15, .inl (cA15, 2048, .inl (fun _ => 0)))]) [0, 1, 2, 3, 4, 5, 6] (by decide) rfl
  refine lv_aload_n hx hb dX11_init_178 rfl (lv_at hl 0 rfl) ?_
  refine lv_bipush (v := 8) hx hb dX11_init_179 (by decide) ?_
  refine va_newa (atype := .int) (ty := .int) (N' := 8) (a0 := (8, .inl (fun _ => 0))) hx hb (hts (.arrayClass .int) (List.mem_of_getElem? (i := 6) rfl)) rfl hK hP hD hS hA (fun _ => rfl) (by decide) (by decide) (Nat.le_of_ble_eq_true rfl) (Nat.le_of_ble_eq_true rfl) (Nat.le_of_ble_eq_true rfl) dX11_init_181 (fun q44 cA44 H hK hP hD hS => ?_)
  replace hK : va_K (dC, dI) vwCl [(cA1, .long), (cA3, .int), (cA5, .int), (cA7, .boolean), (cA9, .int), (cA11, .int), (cA13, .int), (cA15, .int), (cA17, .int), (cA19, .int), (cA21, .int), (cA23, .int), (cA25, .int), (cA27, .int), (cA29, .int), (cA32, .boolean), (cA34, .int), (cA36, .int), (cA38, .int), (cA40, .int), (cA42, .int), (cA44, .int)] s := hK
  replace hP : va_P (dC, dI) vwCl [(h0, .inr (12, fs_43)), (q1, .inl (cA1, 8, .inr (.inl (fun _ => 0)))), (q3, .inl (cA3, 8, .inl (fun _ => 0))), (q5, .inl (cA5, 8, .inl (fun _ => 0))), (q7, .inl (cA7, 8, .inl (fun _ => 0))), (q9, .inl (cA9, 8, .inl (fun _ => 0))), (q15, .inl (cA15, 2048, .inl (fun _ => 0))), (q44, .inl (cA44, 8, .inl (fun _ => 0)))] H := hP
  replace hD : va_D A [(h0, .inr (12, fs_43)), (q1, .inl (cA1, 8, .inr (.inl (fun _ => 0)))), (q3, .inl (cA3, 8, .inl (fun _ => 0))), (q5, .inl (cA5, 8, .inl (fun _ => 0))), (q7, .inl (cA7, 8, .inl (fun _ => 0))), (q9, .inl (cA9, 8, .inl (fun _ => 0))), (q15, .inl (cA15, 2048, .inl (fun _ => 0))), (q44, .inl (cA44, 8, .inl (fun _ => 0)))] := hD
  refine W.widen (k := 22) (n := 526472) (Nat.le_of_ble_eq_true rfl) (Nat.le_of_ble_eq_true rfl) ?_
  refine va_putF (D := (dC, dI)) (ci := 12) (v := .ref q44) (ty := (.array .int)) (C := RX11) (T := TX11) (N := 63) hx hb hts in_c_X11_init_X11 tyX11 tyX11_ok nmX11 hown hK hP hD hS 0 rfl rfl 25 (by decide) (hts (.fieldLink RX11 80 "ClaimBusModel" "sendSince" "[I") (List.mem_of_getElem? (i := 30) rfl)) (fun _ h9 => h9) rfl hin rfl (by decide +kernel) rfl rfl (by rw [hl_fs_43]; decide) dX11_init_183 (fun H locs hP hD hS => ?_)
  obtain ⟨fs_45, efs_45⟩ : ∃ z : List Value, z = fs_43.set 25 (.ref q44) := ⟨_, rfl⟩
  rw [← efs_45] at hP hD
  have hl_fs_45 : fs_45.length = 63 := by rw [efs_45, List.length_set]; exact hl_fs_43
  have h0_fs_45 : fs_45[0]? = some (.int 0) := by rw [efs_45, List.getElem?_set_ne (by decide)]; exact h0_fs_43
  have h1_fs_45 : fs_45[1]? = some (.int 0) := by rw [efs_45, List.getElem?_set_ne (by decide)]; exact h1_fs_43
  have h46_fs_45 : fs_45[46]? = some (.int 0) := by rw [efs_45, List.getElem?_set_ne (by decide)]; exact h46_fs_43
  have h47_fs_45 : fs_45[47]? = some (.int 0) := by rw [efs_45, List.getElem?_set_ne (by decide)]; exact h47_fs_43
  have h48_fs_45 : fs_45[48]? = some (.int 0) := by rw [efs_45, List.getElem?_set_ne (by decide)]; exact h48_fs_43
  have h50_fs_45 : fs_45[50]? = some (.int 0) := by rw [efs_45, List.getElem?_set_ne (by decide)]; exact h50_fs_43
  have h51_fs_45 : fs_45[51]? = some (.int 0) := by rw [efs_45, List.getElem?_set_ne (by decide)]; exact h51_fs_43
  have h52_fs_45 : fs_45[52]? = some (.int 0) := by rw [efs_45, List.getElem?_set_ne (by decide)]; exact h52_fs_43
  have h2_fs_45 : fs_45[2]? = some (.ref q1) := by rw [efs_45, List.getElem?_set_ne (by decide)]; exact h2_fs_43
  have h3_fs_45 : fs_45[3]? = some (.ref q3) := by rw [efs_45, List.getElem?_set_ne (by decide)]; exact h3_fs_43
  have h4_fs_45 : fs_45[4]? = some (.ref q5) := by rw [efs_45, List.getElem?_set_ne (by decide)]; exact h4_fs_43
  have h5_fs_45 : fs_45[5]? = some (.ref q7) := by rw [efs_45, List.getElem?_set_ne (by decide)]; exact h5_fs_43
  have h6_fs_45 : fs_45[6]? = some (.ref q9) := by rw [efs_45, List.getElem?_set_ne (by decide)]; exact h6_fs_43
  have h9_fs_45 : fs_45[9]? = some (.ref q15) := by rw [efs_45, List.getElem?_set_ne (by decide)]; exact h9_fs_43
  replace hP : va_P (dC, dI) vwCl [(h0, .inr (12, fs_45)), (q1, .inl (cA1, 8, .inr (.inl (fun _ => 0)))), (q3, .inl (cA3, 8, .inl (fun _ => 0))), (q5, .inl (cA5, 8, .inl (fun _ => 0))), (q7, .inl (cA7, 8, .inl (fun _ => 0))), (q9, .inl (cA9, 8, .inl (fun _ => 0))), (q15, .inl (cA15, 2048, .inl (fun _ => 0))), (q44, .inl (cA44, 8, .inl (fun _ => 0)))] H := hP
  replace hD : va_D A [(h0, .inr (12, fs_45)), (q1, .inl (cA1, 8, .inr (.inl (fun _ => 0)))), (q3, .inl (cA3, 8, .inl (fun _ => 0))), (q5, .inl (cA5, 8, .inl (fun _ => 0))), (q7, .inl (cA7, 8, .inl (fun _ => 0))), (q9, .inl (cA9, 8, .inl (fun _ => 0))), (q15, .inl (cA15, 2048, .inl (fun _ => 0))), (q44, .inl (cA44, 8, .inl (fun _ => 0)))] := hD
  replace hP := hP.sub (ws' := [(h0, .inr (12, fs_45)), (q1, .inl (cA1, 8, .inr (.inl (fun _ => 0)))), (q3, .inl (cA3, 8, .inl (fun _ => 0))), (q5, .inl (cA5, 8, .inl (fun _ => 0))), (q7, .inl (cA7, 8, .inl (fun _ => 0))), (q9, .inl (cA9, 8, .inl (fun _ => 0))), (q15, .inl (cA15, 2048, .inl (fun _ => 0)))]) [0, 1, 2, 3, 4, 5, 6] rfl
  replace hD := hD.sub (ws' := [(h0, .inr (12, fs_45)), (q1, .inl (cA1, 8, .inr (.inl (fun _ => 0)))), (q3, .inl (cA3, 8, .inl (fun _ => 0))), (q5, .inl (cA5, 8, .inl (fun _ => 0))), (q7, .inl (cA7, 8, .inl (fun _ => 0))), (q9, .inl (cA9, 8, .inl (fun _ => 0))), (q15, .inl (cA15, 2048, .inl (fun _ => 0)))]) [0, 1, 2, 3, 4, 5, 6] (by decide) rfl
  refine lv_aload_n hx hb dX11_init_186 rfl (lv_at hl 0 rfl) ?_
  refine lv_sipush (v := 14280) hx hb dX11_init_187 (by decide) ?_
  refine va_newa (atype := .int) (ty := .int) (N' := 14280) (a0 := (14280, .inl (fun _ => 0))) hx hb (hts (.arrayClass .int) (List.mem_of_getElem? (i := 6) rfl)) rfl hK hP hD hS hA (fun _ => rfl) (by decide) (by decide) (Nat.le_of_ble_eq_true rfl) (Nat.le_of_ble_eq_true rfl) (Nat.le_of_ble_eq_true rfl) dX11_init_190 (fun q46 cA46 H hK hP hD hS => ?_)
  replace hK : va_K (dC, dI) vwCl [(cA1, .long), (cA3, .int), (cA5, .int), (cA7, .boolean), (cA9, .int), (cA11, .int), (cA13, .int), (cA15, .int), (cA17, .int), (cA19, .int), (cA21, .int), (cA23, .int), (cA25, .int), (cA27, .int), (cA29, .int), (cA32, .boolean), (cA34, .int), (cA36, .int), (cA38, .int), (cA40, .int), (cA42, .int), (cA44, .int), (cA46, .int)] s := hK
  replace hP : va_P (dC, dI) vwCl [(h0, .inr (12, fs_45)), (q1, .inl (cA1, 8, .inr (.inl (fun _ => 0)))), (q3, .inl (cA3, 8, .inl (fun _ => 0))), (q5, .inl (cA5, 8, .inl (fun _ => 0))), (q7, .inl (cA7, 8, .inl (fun _ => 0))), (q9, .inl (cA9, 8, .inl (fun _ => 0))), (q15, .inl (cA15, 2048, .inl (fun _ => 0))), (q46, .inl (cA46, 14280, .inl (fun _ => 0)))] H := hP
  replace hD : va_D A [(h0, .inr (12, fs_45)), (q1, .inl (cA1, 8, .inr (.inl (fun _ => 0)))), (q3, .inl (cA3, 8, .inl (fun _ => 0))), (q5, .inl (cA5, 8, .inl (fun _ => 0))), (q7, .inl (cA7, 8, .inl (fun _ => 0))), (q9, .inl (cA9, 8, .inl (fun _ => 0))), (q15, .inl (cA15, 2048, .inl (fun _ => 0))), (q46, .inl (cA46, 14280, .inl (fun _ => 0)))] := hD
  refine W.widen (k := 23) (n := 540752) (Nat.le_of_ble_eq_true rfl) (Nat.le_of_ble_eq_true rfl) ?_
  refine va_putF (D := (dC, dI)) (ci := 12) (v := .ref q46) (ty := (.array .int)) (C := RX11) (T := TX11) (N := 63) hx hb hts in_c_X11_init_X11 tyX11 tyX11_ok nmX11 hown hK hP hD hS 0 rfl rfl 26 (by decide) (hts (.fieldLink RX11 83 "ClaimBusModel" "sendBytes" "[I") (List.mem_of_getElem? (i := 31) rfl)) (fun _ h9 => h9) rfl hin rfl (by decide +kernel) rfl rfl (by rw [hl_fs_45]; decide) dX11_init_192 (fun H locs hP hD hS => ?_)
  obtain ⟨fs_47, efs_47⟩ : ∃ z : List Value, z = fs_45.set 26 (.ref q46) := ⟨_, rfl⟩
  rw [← efs_47] at hP hD
  have hl_fs_47 : fs_47.length = 63 := by rw [efs_47, List.length_set]; exact hl_fs_45
  have h0_fs_47 : fs_47[0]? = some (.int 0) := by rw [efs_47, List.getElem?_set_ne (by decide)]; exact h0_fs_45
  have h1_fs_47 : fs_47[1]? = some (.int 0) := by rw [efs_47, List.getElem?_set_ne (by decide)]; exact h1_fs_45
  have h46_fs_47 : fs_47[46]? = some (.int 0) := by rw [efs_47, List.getElem?_set_ne (by decide)]; exact h46_fs_45
  have h47_fs_47 : fs_47[47]? = some (.int 0) := by rw [efs_47, List.getElem?_set_ne (by decide)]; exact h47_fs_45
  have h48_fs_47 : fs_47[48]? = some (.int 0) := by rw [efs_47, List.getElem?_set_ne (by decide)]; exact h48_fs_45
  have h50_fs_47 : fs_47[50]? = some (.int 0) := by rw [efs_47, List.getElem?_set_ne (by decide)]; exact h50_fs_45
  have h51_fs_47 : fs_47[51]? = some (.int 0) := by rw [efs_47, List.getElem?_set_ne (by decide)]; exact h51_fs_45
  have h52_fs_47 : fs_47[52]? = some (.int 0) := by rw [efs_47, List.getElem?_set_ne (by decide)]; exact h52_fs_45
  have h2_fs_47 : fs_47[2]? = some (.ref q1) := by rw [efs_47, List.getElem?_set_ne (by decide)]; exact h2_fs_45
  have h3_fs_47 : fs_47[3]? = some (.ref q3) := by rw [efs_47, List.getElem?_set_ne (by decide)]; exact h3_fs_45
  have h4_fs_47 : fs_47[4]? = some (.ref q5) := by rw [efs_47, List.getElem?_set_ne (by decide)]; exact h4_fs_45
  have h5_fs_47 : fs_47[5]? = some (.ref q7) := by rw [efs_47, List.getElem?_set_ne (by decide)]; exact h5_fs_45
  have h6_fs_47 : fs_47[6]? = some (.ref q9) := by rw [efs_47, List.getElem?_set_ne (by decide)]; exact h6_fs_45
  have h9_fs_47 : fs_47[9]? = some (.ref q15) := by rw [efs_47, List.getElem?_set_ne (by decide)]; exact h9_fs_45
  replace hP : va_P (dC, dI) vwCl [(h0, .inr (12, fs_47)), (q1, .inl (cA1, 8, .inr (.inl (fun _ => 0)))), (q3, .inl (cA3, 8, .inl (fun _ => 0))), (q5, .inl (cA5, 8, .inl (fun _ => 0))), (q7, .inl (cA7, 8, .inl (fun _ => 0))), (q9, .inl (cA9, 8, .inl (fun _ => 0))), (q15, .inl (cA15, 2048, .inl (fun _ => 0))), (q46, .inl (cA46, 14280, .inl (fun _ => 0)))] H := hP
  replace hD : va_D A [(h0, .inr (12, fs_47)), (q1, .inl (cA1, 8, .inr (.inl (fun _ => 0)))), (q3, .inl (cA3, 8, .inl (fun _ => 0))), (q5, .inl (cA5, 8, .inl (fun _ => 0))), (q7, .inl (cA7, 8, .inl (fun _ => 0))), (q9, .inl (cA9, 8, .inl (fun _ => 0))), (q15, .inl (cA15, 2048, .inl (fun _ => 0))), (q46, .inl (cA46, 14280, .inl (fun _ => 0)))] := hD
  replace hP := hP.sub (ws' := [(h0, .inr (12, fs_47)), (q1, .inl (cA1, 8, .inr (.inl (fun _ => 0)))), (q3, .inl (cA3, 8, .inl (fun _ => 0))), (q5, .inl (cA5, 8, .inl (fun _ => 0))), (q7, .inl (cA7, 8, .inl (fun _ => 0))), (q9, .inl (cA9, 8, .inl (fun _ => 0))), (q15, .inl (cA15, 2048, .inl (fun _ => 0)))]) [0, 1, 2, 3, 4, 5, 6] rfl
  replace hD := hD.sub (ws' := [(h0, .inr (12, fs_47)), (q1, .inl (cA1, 8, .inr (.inl (fun _ => 0)))), (q3, .inl (cA3, 8, .inl (fun _ => 0))), (q5, .inl (cA5, 8, .inl (fun _ => 0))), (q7, .inl (cA7, 8, .inl (fun _ => 0))), (q9, .inl (cA9, 8, .inl (fun _ => 0))), (q15, .inl (cA15, 2048, .inl (fun _ => 0)))]) [0, 1, 2, 3, 4, 5, 6] (by decide) rfl
  refine lv_aload_n hx hb dX11_init_195 rfl (lv_at hl 0 rfl) ?_
  refine lv_sipush (v := 320) hx hb dX11_init_196 (by decide) ?_
  refine va_newa (atype := .int) (ty := .int) (N' := 320) (a0 := (320, .inl (fun _ => 0))) hx hb (hts (.arrayClass .int) (List.mem_of_getElem? (i := 6) rfl)) rfl hK hP hD hS hA (fun _ => rfl) (by decide) (by decide) (Nat.le_of_ble_eq_true rfl) (Nat.le_of_ble_eq_true rfl) (Nat.le_of_ble_eq_true rfl) dX11_init_199 (fun q48 cA48 H hK hP hD hS => ?_)
  replace hK : va_K (dC, dI) vwCl [(cA1, .long), (cA3, .int), (cA5, .int), (cA7, .boolean), (cA9, .int), (cA11, .int), (cA13, .int), (cA15, .int), (cA17, .int), (cA19, .int), (cA21, .int), (cA23, .int), (cA25, .int), (cA27, .int), (cA29, .int), (cA32, .boolean), (cA34, .int), (cA36, .int), (cA38, .int), (cA40, .int), (cA42, .int), (cA44, .int), (cA46, .int), (cA48, .int)] s := hK
  replace hP : va_P (dC, dI) vwCl [(h0, .inr (12, fs_47)), (q1, .inl (cA1, 8, .inr (.inl (fun _ => 0)))), (q3, .inl (cA3, 8, .inl (fun _ => 0))), (q5, .inl (cA5, 8, .inl (fun _ => 0))), (q7, .inl (cA7, 8, .inl (fun _ => 0))), (q9, .inl (cA9, 8, .inl (fun _ => 0))), (q15, .inl (cA15, 2048, .inl (fun _ => 0))), (q48, .inl (cA48, 320, .inl (fun _ => 0)))] H := hP
  replace hD : va_D A [(h0, .inr (12, fs_47)), (q1, .inl (cA1, 8, .inr (.inl (fun _ => 0)))), (q3, .inl (cA3, 8, .inl (fun _ => 0))), (q5, .inl (cA5, 8, .inl (fun _ => 0))), (q7, .inl (cA7, 8, .inl (fun _ => 0))), (q9, .inl (cA9, 8, .inl (fun _ => 0))), (q15, .inl (cA15, 2048, .inl (fun _ => 0))), (q48, .inl (cA48, 320, .inl (fun _ => 0)))] := hD
  refine W.widen (k := 24) (n := 541072) (Nat.le_of_ble_eq_true rfl) (Nat.le_of_ble_eq_true rfl) ?_
  refine va_putF (D := (dC, dI)) (ci := 12) (v := .ref q48) (ty := (.array .int)) (C := RX11) (T := TX11) (N := 63) hx hb hts in_c_X11_init_X11 tyX11 tyX11_ok nmX11 hown hK hP hD hS 0 rfl rfl 27 (by decide) (hts (.fieldLink RX11 86 "ClaimBusModel" "getSource" "[I") (List.mem_of_getElem? (i := 32) rfl)) (fun _ h9 => h9) rfl hin rfl (by decide +kernel) rfl rfl (by rw [hl_fs_47]; decide) dX11_init_201 (fun H locs hP hD hS => ?_)
  obtain ⟨fs_49, efs_49⟩ : ∃ z : List Value, z = fs_47.set 27 (.ref q48) := ⟨_, rfl⟩
  rw [← efs_49] at hP hD
  have hl_fs_49 : fs_49.length = 63 := by rw [efs_49, List.length_set]; exact hl_fs_47
  have h0_fs_49 : fs_49[0]? = some (.int 0) := by rw [efs_49, List.getElem?_set_ne (by decide)]; exact h0_fs_47
  have h1_fs_49 : fs_49[1]? = some (.int 0) := by rw [efs_49, List.getElem?_set_ne (by decide)]; exact h1_fs_47
  have h46_fs_49 : fs_49[46]? = some (.int 0) := by rw [efs_49, List.getElem?_set_ne (by decide)]; exact h46_fs_47
  have h47_fs_49 : fs_49[47]? = some (.int 0) := by rw [efs_49, List.getElem?_set_ne (by decide)]; exact h47_fs_47
  have h48_fs_49 : fs_49[48]? = some (.int 0) := by rw [efs_49, List.getElem?_set_ne (by decide)]; exact h48_fs_47
  have h50_fs_49 : fs_49[50]? = some (.int 0) := by rw [efs_49, List.getElem?_set_ne (by decide)]; exact h50_fs_47
  have h51_fs_49 : fs_49[51]? = some (.int 0) := by rw [efs_49, List.getElem?_set_ne (by decide)]; exact h51_fs_47
  have h52_fs_49 : fs_49[52]? = some (.int 0) := by rw [efs_49, List.getElem?_set_ne (by decide)]; exact h52_fs_47
  have h2_fs_49 : fs_49[2]? = some (.ref q1) := by rw [efs_49, List.getElem?_set_ne (by decide)]; exact h2_fs_47
  have h3_fs_49 : fs_49[3]? = some (.ref q3) := by rw [efs_49, List.getElem?_set_ne (by decide)]; exact h3_fs_47
  have h4_fs_49 : fs_49[4]? = some (.ref q5) := by rw [efs_49, List.getElem?_set_ne (by decide)]; exact h4_fs_47
  have h5_fs_49 : fs_49[5]? = some (.ref q7) := by rw [efs_49, List.getElem?_set_ne (by decide)]; exact h5_fs_47
  have h6_fs_49 : fs_49[6]? = some (.ref q9) := by rw [efs_49, List.getElem?_set_ne (by decide)]; exact h6_fs_47
  have h9_fs_49 : fs_49[9]? = some (.ref q15) := by rw [efs_49, List.getElem?_set_ne (by decide)]; exact h9_fs_47
  have h27_fs_49 : fs_49[27]? = some (.ref q48) := by rw [efs_49]; exact List.getElem?_set_self (by rw [hl_fs_47]; decide)
  replace hP : va_P (dC, dI) vwCl [(h0, .inr (12, fs_49)), (q1, .inl (cA1, 8, .inr (.inl (fun _ => 0)))), (q3, .inl (cA3, 8, .inl (fun _ => 0))), (q5, .inl (cA5, 8, .inl (fun _ => 0))), (q7, .inl (cA7, 8, .inl (fun _ => 0))), (q9, .inl (cA9, 8, .inl (fun _ => 0))), (q15, .inl (cA15, 2048, .inl (fun _ => 0))), (q48, .inl (cA48, 320, .inl (fun _ => 0)))] H := hP
  replace hD : va_D A [(h0, .inr (12, fs_49)), (q1, .inl (cA1, 8, .inr (.inl (fun _ => 0)))), (q3, .inl (cA3, 8, .inl (fun _ => 0))), (q5, .inl (cA5, 8, .inl (fun _ => 0))), (q7, .inl (cA7, 8, .inl (fun _ => 0))), (q9, .inl (cA9, 8, .inl (fun _ => 0))), (q15, .inl (cA15, 2048, .inl (fun _ => 0))), (q48, .inl (cA48, 320, .inl (fun _ => 0)))] := hD
  refine lv_aload_n hx hb dX11_init_204 rfl (lv_at hl 0 rfl) ?_
  refine lv_sipush (v := 320) hx hb dX11_init_205 (by decide) ?_
  refine va_newa (atype := .boolean) (ty := .boolean) (N' := 320) (a0 := (320, .inl (fun _ => 0))) hx hb (hts (.arrayClass .boolean) (List.mem_of_getElem? (i := 9) rfl)) rfl hK hP hD hS hA (fun _ => rfl) (by decide) (by decide) (Nat.le_of_ble_eq_true rfl) (Nat.le_of_ble_eq_true rfl) (Nat.le_of_ble_eq_true rfl) dX11_init_208 (fun q50 cA50 H hK hP hD hS => ?_)
  replace hK : va_K (dC, dI) vwCl [(cA1, .long), (cA3, .int), (cA5, .int), (cA7, .boolean), (cA9, .int), (cA11, .int), (cA13, .int), (cA15, .int), (cA17, .int), (cA19, .int), (cA21, .int), (cA23, .int), (cA25, .int), (cA27, .int), (cA29, .int), (cA32, .boolean), (cA34, .int), (cA36, .int), (cA38, .int), (cA40, .int), (cA42, .int), (cA44, .int), (cA46, .int), (cA48, .int), (cA50, .boolean)] s := hK
  replace hP : va_P (dC, dI) vwCl [(h0, .inr (12, fs_49)), (q1, .inl (cA1, 8, .inr (.inl (fun _ => 0)))), (q3, .inl (cA3, 8, .inl (fun _ => 0))), (q5, .inl (cA5, 8, .inl (fun _ => 0))), (q7, .inl (cA7, 8, .inl (fun _ => 0))), (q9, .inl (cA9, 8, .inl (fun _ => 0))), (q15, .inl (cA15, 2048, .inl (fun _ => 0))), (q48, .inl (cA48, 320, .inl (fun _ => 0))), (q50, .inl (cA50, 320, .inl (fun _ => 0)))] H := hP
  replace hD : va_D A [(h0, .inr (12, fs_49)), (q1, .inl (cA1, 8, .inr (.inl (fun _ => 0)))), (q3, .inl (cA3, 8, .inl (fun _ => 0))), (q5, .inl (cA5, 8, .inl (fun _ => 0))), (q7, .inl (cA7, 8, .inl (fun _ => 0))), (q9, .inl (cA9, 8, .inl (fun _ => 0))), (q15, .inl (cA15, 2048, .inl (fun _ => 0))), (q48, .inl (cA48, 320, .inl (fun _ => 0))), (q50, .inl (cA50, 320, .inl (fun _ => 0)))] := hD
  refine W.widen (k := 25) (n := 541392) (Nat.le_of_ble_eq_true rfl) (Nat.le_of_ble_eq_true rfl) ?_
  refine va_putF (D := (dC, dI)) (ci := 12) (v := .ref q50) (ty := (.array .boolean)) (C := RX11) (T := TX11) (N := 63) hx hb hts in_c_X11_init_X11 tyX11 tyX11_ok nmX11 hown hK hP hD hS 0 rfl rfl 28 (by decide) (hts (.fieldLink RX11 89 "ClaimBusModel" "getOne" "[Z") (List.mem_of_getElem? (i := 33) rfl)) (fun _ h9 => h9) rfl hin rfl (by decide +kernel) rfl rfl (by rw [hl_fs_49]; decide) dX11_init_210 (fun H locs hP hD hS => ?_)
  obtain ⟨fs_51, efs_51⟩ : ∃ z : List Value, z = fs_49.set 28 (.ref q50) := ⟨_, rfl⟩
  rw [← efs_51] at hP hD
  have hl_fs_51 : fs_51.length = 63 := by rw [efs_51, List.length_set]; exact hl_fs_49
  have h0_fs_51 : fs_51[0]? = some (.int 0) := by rw [efs_51, List.getElem?_set_ne (by decide)]; exact h0_fs_49
  have h1_fs_51 : fs_51[1]? = some (.int 0) := by rw [efs_51, List.getElem?_set_ne (by decide)]; exact h1_fs_49
  have h46_fs_51 : fs_51[46]? = some (.int 0) := by rw [efs_51, List.getElem?_set_ne (by decide)]; exact h46_fs_49
  have h47_fs_51 : fs_51[47]? = some (.int 0) := by rw [efs_51, List.getElem?_set_ne (by decide)]; exact h47_fs_49
  have h48_fs_51 : fs_51[48]? = some (.int 0) := by rw [efs_51, List.getElem?_set_ne (by decide)]; exact h48_fs_49
  have h50_fs_51 : fs_51[50]? = some (.int 0) := by rw [efs_51, List.getElem?_set_ne (by decide)]; exact h50_fs_49
  have h51_fs_51 : fs_51[51]? = some (.int 0) := by rw [efs_51, List.getElem?_set_ne (by decide)]; exact h51_fs_49
  have h52_fs_51 : fs_51[52]? = some (.int 0) := by rw [efs_51, List.getElem?_set_ne (by decide)]; exact h52_fs_49
  have h2_fs_51 : fs_51[2]? = some (.ref q1) := by rw [efs_51, List.getElem?_set_ne (by decide)]; exact h2_fs_49
  have h3_fs_51 : fs_51[3]? = some (.ref q3) := by rw [efs_51, List.getElem?_set_ne (by decide)]; exact h3_fs_49
  have h4_fs_51 : fs_51[4]? = some (.ref q5) := by rw [efs_51, List.getElem?_set_ne (by decide)]; exact h4_fs_49
  have h5_fs_51 : fs_51[5]? = some (.ref q7) := by rw [efs_51, List.getElem?_set_ne (by decide)]; exact h5_fs_49
  have h6_fs_51 : fs_51[6]? = some (.ref q9) := by rw [efs_51, List.getElem?_set_ne (by decide)]; exact h6_fs_49
  have h9_fs_51 : fs_51[9]? = some (.ref q15) := by rw [efs_51, List.getElem?_set_ne (by decide)]; exact h9_fs_49
  have h27_fs_51 : fs_51[27]? = some (.ref q48) := by rw [efs_51, List.getElem?_set_ne (by decide)]; exact h27_fs_49
  replace hP : va_P (dC, dI) vwCl [(h0, .inr (12, fs_51)), (q1, .inl (cA1, 8, .inr (.inl (fun _ => 0)))), (q3, .inl (cA3, 8, .inl (fun _ => 0))), (q5, .inl (cA5, 8, .inl (fun _ => 0))), (q7, .inl (cA7, 8, .inl (fun _ => 0))), (q9, .inl (cA9, 8, .inl (fun _ => 0))), (q15, .inl (cA15, 2048, .inl (fun _ => 0))), (q48, .inl (cA48, 320, .inl (fun _ => 0))), (q50, .inl (cA50, 320, .inl (fun _ => 0)))] H := hP
  replace hD : va_D A [(h0, .inr (12, fs_51)), (q1, .inl (cA1, 8, .inr (.inl (fun _ => 0)))), (q3, .inl (cA3, 8, .inl (fun _ => 0))), (q5, .inl (cA5, 8, .inl (fun _ => 0))), (q7, .inl (cA7, 8, .inl (fun _ => 0))), (q9, .inl (cA9, 8, .inl (fun _ => 0))), (q15, .inl (cA15, 2048, .inl (fun _ => 0))), (q48, .inl (cA48, 320, .inl (fun _ => 0))), (q50, .inl (cA50, 320, .inl (fun _ => 0)))] := hD
  replace hP := hP.sub (ws' := [(h0, .inr (12, fs_51)), (q1, .inl (cA1, 8, .inr (.inl (fun _ => 0)))), (q3, .inl (cA3, 8, .inl (fun _ => 0))), (q5, .inl (cA5, 8, .inl (fun _ => 0))), (q7, .inl (cA7, 8, .inl (fun _ => 0))), (q9, .inl (cA9, 8, .inl (fun _ => 0))), (q15, .inl (cA15, 2048, .inl (fun _ => 0))), (q48, .inl (cA48, 320, .inl (fun _ => 0)))]) [0, 1, 2, 3, 4, 5, 6, 7] rfl
  replace hD := hD.sub (ws' := [(h0, .inr (12, fs_51)), (q1, .inl (cA1, 8, .inr (.inl (fun _ => 0)))), (q3, .inl (cA3, 8, .inl (fun _ => 0))), (q5, .inl (cA5, 8, .inl (fun _ => 0))), (q7, .inl (cA7, 8, .inl (fun _ => 0))), (q9, .inl (cA9, 8, .inl (fun _ => 0))), (q15, .inl (cA15, 2048, .inl (fun _ => 0))), (q48, .inl (cA48, 320, .inl (fun _ => 0)))]) [0, 1, 2, 3, 4, 5, 6, 7] (by decide) rfl
  refine lv_aload_n hx hb dX11_init_213 rfl (lv_at hl 0 rfl) ?_
  refine lv_sipush (v := 320) hx hb dX11_init_214 (by decide) ?_
  refine va_newa (atype := .int) (ty := .int) (N' := 320) (a0 := (320, .inl (fun _ => 0))) hx hb (hts (.arrayClass .int) (List.mem_of_getElem? (i := 6) rfl)) rfl hK hP hD hS hA (fun _ => rfl) (by decide) (by decide) (Nat.le_of_ble_eq_true rfl) (Nat.le_of_ble_eq_true rfl) (Nat.le_of_ble_eq_true rfl) dX11_init_217 (fun q52 cA52 H hK hP hD hS => ?_)
  replace hK : va_K (dC, dI) vwCl [(cA1, .long), (cA3, .int), (cA5, .int), (cA7, .boolean), (cA9, .int), (cA11, .int), (cA13, .int), (cA15, .int), (cA17, .int), (cA19, .int), (cA21, .int), (cA23, .int), (cA25, .int), (cA27, .int), (cA29, .int), (cA32, .boolean), (cA34, .int), (cA36, .int), (cA38, .int), (cA40, .int), (cA42, .int), (cA44, .int), (cA46, .int), (cA48, .int), (cA50, .boolean), (cA52, .int)] s := hK
  replace hP : va_P (dC, dI) vwCl [(h0, .inr (12, fs_51)), (q1, .inl (cA1, 8, .inr (.inl (fun _ => 0)))), (q3, .inl (cA3, 8, .inl (fun _ => 0))), (q5, .inl (cA5, 8, .inl (fun _ => 0))), (q7, .inl (cA7, 8, .inl (fun _ => 0))), (q9, .inl (cA9, 8, .inl (fun _ => 0))), (q15, .inl (cA15, 2048, .inl (fun _ => 0))), (q48, .inl (cA48, 320, .inl (fun _ => 0))), (q52, .inl (cA52, 320, .inl (fun _ => 0)))] H := hP
  replace hD : va_D A [(h0, .inr (12, fs_51)), (q1, .inl (cA1, 8, .inr (.inl (fun _ => 0)))), (q3, .inl (cA3, 8, .inl (fun _ => 0))), (q5, .inl (cA5, 8, .inl (fun _ => 0))), (q7, .inl (cA7, 8, .inl (fun _ => 0))), (q9, .inl (cA9, 8, .inl (fun _ => 0))), (q15, .inl (cA15, 2048, .inl (fun _ => 0))), (q48, .inl (cA48, 320, .inl (fun _ => 0))), (q52, .inl (cA52, 320, .inl (fun _ => 0)))] := hD
  refine W.widen (k := 26) (n := 541712) (Nat.le_of_ble_eq_true rfl) (Nat.le_of_ble_eq_true rfl) ?_
  refine va_putF (D := (dC, dI)) (ci := 12) (v := .ref q52) (ty := (.array .int)) (C := RX11) (T := TX11) (N := 63) hx hb hts in_c_X11_init_X11 tyX11 tyX11_ok nmX11 hown hK hP hD hS 0 rfl rfl 29 (by decide) (hts (.fieldLink RX11 92 "ClaimBusModel" "getGroup" "[I") (List.mem_of_getElem? (i := 34) rfl)) (fun _ h9 => h9) rfl hin rfl (by decide +kernel) rfl rfl (by rw [hl_fs_51]; decide) dX11_init_219 (fun H locs hP hD hS => ?_)
  obtain ⟨fs_53, efs_53⟩ : ∃ z : List Value, z = fs_51.set 29 (.ref q52) := ⟨_, rfl⟩
  rw [← efs_53] at hP hD
  have hl_fs_53 : fs_53.length = 63 := by rw [efs_53, List.length_set]; exact hl_fs_51
  have h0_fs_53 : fs_53[0]? = some (.int 0) := by rw [efs_53, List.getElem?_set_ne (by decide)]; exact h0_fs_51
  have h1_fs_53 : fs_53[1]? = some (.int 0) := by rw [efs_53, List.getElem?_set_ne (by decide)]; exact h1_fs_51
  have h46_fs_53 : fs_53[46]? = some (.int 0) := by rw [efs_53, List.getElem?_set_ne (by decide)]; exact h46_fs_51
  have h47_fs_53 : fs_53[47]? = some (.int 0) := by rw [efs_53, List.getElem?_set_ne (by decide)]; exact h47_fs_51
  have h48_fs_53 : fs_53[48]? = some (.int 0) := by rw [efs_53, List.getElem?_set_ne (by decide)]; exact h48_fs_51
  have h50_fs_53 : fs_53[50]? = some (.int 0) := by rw [efs_53, List.getElem?_set_ne (by decide)]; exact h50_fs_51
  have h51_fs_53 : fs_53[51]? = some (.int 0) := by rw [efs_53, List.getElem?_set_ne (by decide)]; exact h51_fs_51
  have h52_fs_53 : fs_53[52]? = some (.int 0) := by rw [efs_53, List.getElem?_set_ne (by decide)]; exact h52_fs_51
  have h2_fs_53 : fs_53[2]? = some (.ref q1) := by rw [efs_53, List.getElem?_set_ne (by decide)]; exact h2_fs_51
  have h3_fs_53 : fs_53[3]? = some (.ref q3) := by rw [efs_53, List.getElem?_set_ne (by decide)]; exact h3_fs_51
  have h4_fs_53 : fs_53[4]? = some (.ref q5) := by rw [efs_53, List.getElem?_set_ne (by decide)]; exact h4_fs_51
  have h5_fs_53 : fs_53[5]? = some (.ref q7) := by rw [efs_53, List.getElem?_set_ne (by decide)]; exact h5_fs_51
  have h6_fs_53 : fs_53[6]? = some (.ref q9) := by rw [efs_53, List.getElem?_set_ne (by decide)]; exact h6_fs_51
  have h9_fs_53 : fs_53[9]? = some (.ref q15) := by rw [efs_53, List.getElem?_set_ne (by decide)]; exact h9_fs_51
  have h27_fs_53 : fs_53[27]? = some (.ref q48) := by rw [efs_53, List.getElem?_set_ne (by decide)]; exact h27_fs_51
  replace hP : va_P (dC, dI) vwCl [(h0, .inr (12, fs_53)), (q1, .inl (cA1, 8, .inr (.inl (fun _ => 0)))), (q3, .inl (cA3, 8, .inl (fun _ => 0))), (q5, .inl (cA5, 8, .inl (fun _ => 0))), (q7, .inl (cA7, 8, .inl (fun _ => 0))), (q9, .inl (cA9, 8, .inl (fun _ => 0))), (q15, .inl (cA15, 2048, .inl (fun _ => 0))), (q48, .inl (cA48, 320, .inl (fun _ => 0))), (q52, .inl (cA52, 320, .inl (fun _ => 0)))] H := hP
  replace hD : va_D A [(h0, .inr (12, fs_53)), (q1, .inl (cA1, 8, .inr (.inl (fun _ => 0)))), (q3, .inl (cA3, 8, .inl (fun _ => 0))), (q5, .inl (cA5, 8, .inl (fun _ => 0))), (q7, .inl (cA7, 8, .inl (fun _ => 0))), (q9, .inl (cA9, 8, .inl (fun _ => 0))), (q15, .inl (cA15, 2048, .inl (fun _ => 0))), (q48, .inl (cA48, 320, .inl (fun _ => 0))), (q52, .inl (cA52, 320, .inl (fun _ => 0)))] := hD
  replace hP := hP.sub (ws' := [(h0, .inr (12, fs_53)), (q1, .inl (cA1, 8, .inr (.inl (fun _ => 0)))), (q3, .inl (cA3, 8, .inl (fun _ => 0))), (q5, .inl (cA5, 8, .inl (fun _ => 0))), (q7, .inl (cA7, 8, .inl (fun _ => 0))), (q9, .inl (cA9, 8, .inl (fun _ => 0))), (q15, .inl (cA15, 2048, .inl (fun _ => 0))), (q48, .inl (cA48, 320, .inl (fun _ => 0)))]) [0, 1, 2, 3, 4, 5, 6, 7] rfl
  replace hD := hD.sub (ws' := [(h0, .inr (12, fs_53)), (q1, .inl (cA1, 8, .inr (.inl (fun _ => 0)))), (q3, .inl (cA3, 8, .inl (fun _ => 0))), (q5, .inl (cA5, 8, .inl (fun _ => 0))), (q7, .inl (cA7, 8, .inl (fun _ => 0))), (q9, .inl (cA9, 8, .inl (fun _ => 0))), (q15, .inl (cA15, 2048, .inl (fun _ => 0))), (q48, .inl (cA48, 320, .inl (fun _ => 0)))]) [0, 1, 2, 3, 4, 5, 6, 7] (by decide) rfl
  refine lv_aload_n hx hb dX11_init_222 rfl (lv_at hl 0 rfl) ?_
  refine lv_sipush (v := 320) hx hb dX11_init_223 (by decide) ?_
  refine va_newa (atype := .int) (ty := .int) (N' := 320) (a0 := (320, .inl (fun _ => 0))) hx hb (hts (.arrayClass .int) (List.mem_of_getElem? (i := 6) rfl)) rfl hK hP hD hS hA (fun _ => rfl) (by decide) (by decide) (Nat.le_of_ble_eq_true rfl) (Nat.le_of_ble_eq_true rfl) (Nat.le_of_ble_eq_true rfl) dX11_init_226 (fun q54 cA54 H hK hP hD hS => ?_)
  replace hK : va_K (dC, dI) vwCl [(cA1, .long), (cA3, .int), (cA5, .int), (cA7, .boolean), (cA9, .int), (cA11, .int), (cA13, .int), (cA15, .int), (cA17, .int), (cA19, .int), (cA21, .int), (cA23, .int), (cA25, .int), (cA27, .int), (cA29, .int), (cA32, .boolean), (cA34, .int), (cA36, .int), (cA38, .int), (cA40, .int), (cA42, .int), (cA44, .int), (cA46, .int), (cA48, .int), (cA50, .boolean), (cA52, .int), (cA54, .int)] s := hK
  replace hP : va_P (dC, dI) vwCl [(h0, .inr (12, fs_53)), (q1, .inl (cA1, 8, .inr (.inl (fun _ => 0)))), (q3, .inl (cA3, 8, .inl (fun _ => 0))), (q5, .inl (cA5, 8, .inl (fun _ => 0))), (q7, .inl (cA7, 8, .inl (fun _ => 0))), (q9, .inl (cA9, 8, .inl (fun _ => 0))), (q15, .inl (cA15, 2048, .inl (fun _ => 0))), (q48, .inl (cA48, 320, .inl (fun _ => 0))), (q54, .inl (cA54, 320, .inl (fun _ => 0)))] H := hP
  replace hD : va_D A [(h0, .inr (12, fs_53)), (q1, .inl (cA1, 8, .inr (.inl (fun _ => 0)))), (q3, .inl (cA3, 8, .inl (fun _ => 0))), (q5, .inl (cA5, 8, .inl (fun _ => 0))), (q7, .inl (cA7, 8, .inl (fun _ => 0))), (q9, .inl (cA9, 8, .inl (fun _ => 0))), (q15, .inl (cA15, 2048, .inl (fun _ => 0))), (q48, .inl (cA48, 320, .inl (fun _ => 0))), (q54, .inl (cA54, 320, .inl (fun _ => 0)))] := hD
  refine W.widen (k := 27) (n := 542032) (Nat.le_of_ble_eq_true rfl) (Nat.le_of_ble_eq_true rfl) ?_
  refine va_putF (D := (dC, dI)) (ci := 12) (v := .ref q54) (ty := (.array .int)) (C := RX11) (T := TX11) (N := 63) hx hb hts in_c_X11_init_X11 tyX11 tyX11_ok nmX11 hown hK hP hD hS 0 rfl rfl 30 (by decide) (hts (.fieldLink RX11 95 "ClaimBusModel" "getSize" "[I") (List.mem_of_getElem? (i := 35) rfl)) (fun _ h9 => h9) rfl hin rfl (by decide +kernel) rfl rfl (by rw [hl_fs_53]; decide) dX11_init_228 (fun H locs hP hD hS => ?_)
  obtain ⟨fs_55, efs_55⟩ : ∃ z : List Value, z = fs_53.set 30 (.ref q54) := ⟨_, rfl⟩
  rw [← efs_55] at hP hD
  have hl_fs_55 : fs_55.length = 63 := by rw [efs_55, List.length_set]; exact hl_fs_53
  have h0_fs_55 : fs_55[0]? = some (.int 0) := by rw [efs_55, List.getElem?_set_ne (by decide)]; exact h0_fs_53
  have h1_fs_55 : fs_55[1]? = some (.int 0) := by rw [efs_55, List.getElem?_set_ne (by decide)]; exact h1_fs_53
  have h46_fs_55 : fs_55[46]? = some (.int 0) := by rw [efs_55, List.getElem?_set_ne (by decide)]; exact h46_fs_53
  have h47_fs_55 : fs_55[47]? = some (.int 0) := by rw [efs_55, List.getElem?_set_ne (by decide)]; exact h47_fs_53
  have h48_fs_55 : fs_55[48]? = some (.int 0) := by rw [efs_55, List.getElem?_set_ne (by decide)]; exact h48_fs_53
  have h50_fs_55 : fs_55[50]? = some (.int 0) := by rw [efs_55, List.getElem?_set_ne (by decide)]; exact h50_fs_53
  have h51_fs_55 : fs_55[51]? = some (.int 0) := by rw [efs_55, List.getElem?_set_ne (by decide)]; exact h51_fs_53
  have h52_fs_55 : fs_55[52]? = some (.int 0) := by rw [efs_55, List.getElem?_set_ne (by decide)]; exact h52_fs_53
  have h2_fs_55 : fs_55[2]? = some (.ref q1) := by rw [efs_55, List.getElem?_set_ne (by decide)]; exact h2_fs_53
  have h3_fs_55 : fs_55[3]? = some (.ref q3) := by rw [efs_55, List.getElem?_set_ne (by decide)]; exact h3_fs_53
  have h4_fs_55 : fs_55[4]? = some (.ref q5) := by rw [efs_55, List.getElem?_set_ne (by decide)]; exact h4_fs_53
  have h5_fs_55 : fs_55[5]? = some (.ref q7) := by rw [efs_55, List.getElem?_set_ne (by decide)]; exact h5_fs_53
  have h6_fs_55 : fs_55[6]? = some (.ref q9) := by rw [efs_55, List.getElem?_set_ne (by decide)]; exact h6_fs_53
  have h9_fs_55 : fs_55[9]? = some (.ref q15) := by rw [efs_55, List.getElem?_set_ne (by decide)]; exact h9_fs_53
  have h27_fs_55 : fs_55[27]? = some (.ref q48) := by rw [efs_55, List.getElem?_set_ne (by decide)]; exact h27_fs_53
  replace hP : va_P (dC, dI) vwCl [(h0, .inr (12, fs_55)), (q1, .inl (cA1, 8, .inr (.inl (fun _ => 0)))), (q3, .inl (cA3, 8, .inl (fun _ => 0))), (q5, .inl (cA5, 8, .inl (fun _ => 0))), (q7, .inl (cA7, 8, .inl (fun _ => 0))), (q9, .inl (cA9, 8, .inl (fun _ => 0))), (q15, .inl (cA15, 2048, .inl (fun _ => 0))), (q48, .inl (cA48, 320, .inl (fun _ => 0))), (q54, .inl (cA54, 320, .inl (fun _ => 0)))] H := hP
  replace hD : va_D A [(h0, .inr (12, fs_55)), (q1, .inl (cA1, 8, .inr (.inl (fun _ => 0)))), (q3, .inl (cA3, 8, .inl (fun _ => 0))), (q5, .inl (cA5, 8, .inl (fun _ => 0))), (q7, .inl (cA7, 8, .inl (fun _ => 0))), (q9, .inl (cA9, 8, .inl (fun _ => 0))), (q15, .inl (cA15, 2048, .inl (fun _ => 0))), (q48, .inl (cA48, 320, .inl (fun _ => 0))), (q54, .inl (cA54, 320, .inl (fun _ => 0)))] := hD
  replace hP := hP.sub (ws' := [(h0, .inr (12, fs_55)), (q1, .inl (cA1, 8, .inr (.inl (fun _ => 0)))), (q3, .inl (cA3, 8, .inl (fun _ => 0))), (q5, .inl (cA5, 8, .inl (fun _ => 0))), (q7, .inl (cA7, 8, .inl (fun _ => 0))), (q9, .inl (cA9, 8, .inl (fun _ => 0))), (q15, .inl (cA15, 2048, .inl (fun _ => 0))), (q48, .inl (cA48, 320, .inl (fun _ => 0)))]) [0, 1, 2, 3, 4, 5, 6, 7] rfl
  replace hD := hD.sub (ws' := [(h0, .inr (12, fs_55)), (q1, .inl (cA1, 8, .inr (.inl (fun _ => 0)))), (q3, .inl (cA3, 8, .inl (fun _ => 0))), (q5, .inl (cA5, 8, .inl (fun _ => 0))), (q7, .inl (cA7, 8, .inl (fun _ => 0))), (q9, .inl (cA9, 8, .inl (fun _ => 0))), (q15, .inl (cA15, 2048, .inl (fun _ => 0))), (q48, .inl (cA48, 320, .inl (fun _ => 0)))]) [0, 1, 2, 3, 4, 5, 6, 7] (by decide) rfl
  refine lv_aload_n hx hb dX11_init_231 rfl (lv_at hl 0 rfl) ?_
  refine lv_sipush (v := 320) hx hb dX11_init_232 (by decide) ?_
  refine va_newa (atype := .int) (ty := .int) (N' := 320) (a0 := (320, .inl (fun _ => 0))) hx hb (hts (.arrayClass .int) (List.mem_of_getElem? (i := 6) rfl)) rfl hK hP hD hS hA (fun _ => rfl) (by decide) (by decide) (Nat.le_of_ble_eq_true rfl) (Nat.le_of_ble_eq_true rfl) (Nat.le_of_ble_eq_true rfl) dX11_init_235 (fun q56 cA56 H hK hP hD hS => ?_)
  replace hK : va_K (dC, dI) vwCl [(cA1, .long), (cA3, .int), (cA5, .int), (cA7, .boolean), (cA9, .int), (cA11, .int), (cA13, .int), (cA15, .int), (cA17, .int), (cA19, .int), (cA21, .int), (cA23, .int), (cA25, .int), (cA27, .int), (cA29, .int), (cA32, .boolean), (cA34, .int), (cA36, .int), (cA38, .int), (cA40, .int), (cA42, .int), (cA44, .int), (cA46, .int), (cA48, .int), (cA50, .boolean), (cA52, .int), (cA54, .int), (cA56, .int)] s := hK
  replace hP : va_P (dC, dI) vwCl [(h0, .inr (12, fs_55)), (q1, .inl (cA1, 8, .inr (.inl (fun _ => 0)))), (q3, .inl (cA3, 8, .inl (fun _ => 0))), (q5, .inl (cA5, 8, .inl (fun _ => 0))), (q7, .inl (cA7, 8, .inl (fun _ => 0))), (q9, .inl (cA9, 8, .inl (fun _ => 0))), (q15, .inl (cA15, 2048, .inl (fun _ => 0))), (q48, .inl (cA48, 320, .inl (fun _ => 0))), (q56, .inl (cA56, 320, .inl (fun _ => 0)))] H := hP
  replace hD : va_D A [(h0, .inr (12, fs_55)), (q1, .inl (cA1, 8, .inr (.inl (fun _ => 0)))), (q3, .inl (cA3, 8, .inl (fun _ => 0))), (q5, .inl (cA5, 8, .inl (fun _ => 0))), (q7, .inl (cA7, 8, .inl (fun _ => 0))), (q9, .inl (cA9, 8, .inl (fun _ => 0))), (q15, .inl (cA15, 2048, .inl (fun _ => 0))), (q48, .inl (cA48, 320, .inl (fun _ => 0))), (q56, .inl (cA56, 320, .inl (fun _ => 0)))] := hD
  refine W.widen (k := 28) (n := 542352) (Nat.le_of_ble_eq_true rfl) (Nat.le_of_ble_eq_true rfl) ?_
  refine va_putF (D := (dC, dI)) (ci := 12) (v := .ref q56) (ty := (.array .int)) (C := RX11) (T := TX11) (N := 63) hx hb hts in_c_X11_init_X11 tyX11 tyX11_ok nmX11 hown hK hP hD hS 0 rfl rfl 31 (by decide) (hts (.fieldLink RX11 98 "ClaimBusModel" "getWindow" "[I") (List.mem_of_getElem? (i := 36) rfl)) (fun _ h9 => h9) rfl hin rfl (by decide +kernel) rfl rfl (by rw [hl_fs_55]; decide) dX11_init_237 (fun H locs hP hD hS => ?_)
  obtain ⟨fs_57, efs_57⟩ : ∃ z : List Value, z = fs_55.set 31 (.ref q56) := ⟨_, rfl⟩
  rw [← efs_57] at hP hD
  have hl_fs_57 : fs_57.length = 63 := by rw [efs_57, List.length_set]; exact hl_fs_55
  have h0_fs_57 : fs_57[0]? = some (.int 0) := by rw [efs_57, List.getElem?_set_ne (by decide)]; exact h0_fs_55
  have h1_fs_57 : fs_57[1]? = some (.int 0) := by rw [efs_57, List.getElem?_set_ne (by decide)]; exact h1_fs_55
  have h46_fs_57 : fs_57[46]? = some (.int 0) := by rw [efs_57, List.getElem?_set_ne (by decide)]; exact h46_fs_55
  have h47_fs_57 : fs_57[47]? = some (.int 0) := by rw [efs_57, List.getElem?_set_ne (by decide)]; exact h47_fs_55
  have h48_fs_57 : fs_57[48]? = some (.int 0) := by rw [efs_57, List.getElem?_set_ne (by decide)]; exact h48_fs_55
  have h50_fs_57 : fs_57[50]? = some (.int 0) := by rw [efs_57, List.getElem?_set_ne (by decide)]; exact h50_fs_55
  have h51_fs_57 : fs_57[51]? = some (.int 0) := by rw [efs_57, List.getElem?_set_ne (by decide)]; exact h51_fs_55
  have h52_fs_57 : fs_57[52]? = some (.int 0) := by rw [efs_57, List.getElem?_set_ne (by decide)]; exact h52_fs_55
  have h2_fs_57 : fs_57[2]? = some (.ref q1) := by rw [efs_57, List.getElem?_set_ne (by decide)]; exact h2_fs_55
  have h3_fs_57 : fs_57[3]? = some (.ref q3) := by rw [efs_57, List.getElem?_set_ne (by decide)]; exact h3_fs_55
  have h4_fs_57 : fs_57[4]? = some (.ref q5) := by rw [efs_57, List.getElem?_set_ne (by decide)]; exact h4_fs_55
  have h5_fs_57 : fs_57[5]? = some (.ref q7) := by rw [efs_57, List.getElem?_set_ne (by decide)]; exact h5_fs_55
  have h6_fs_57 : fs_57[6]? = some (.ref q9) := by rw [efs_57, List.getElem?_set_ne (by decide)]; exact h6_fs_55
  have h9_fs_57 : fs_57[9]? = some (.ref q15) := by rw [efs_57, List.getElem?_set_ne (by decide)]; exact h9_fs_55
  have h27_fs_57 : fs_57[27]? = some (.ref q48) := by rw [efs_57, List.getElem?_set_ne (by decide)]; exact h27_fs_55
  replace hP : va_P (dC, dI) vwCl [(h0, .inr (12, fs_57)), (q1, .inl (cA1, 8, .inr (.inl (fun _ => 0)))), (q3, .inl (cA3, 8, .inl (fun _ => 0))), (q5, .inl (cA5, 8, .inl (fun _ => 0))), (q7, .inl (cA7, 8, .inl (fun _ => 0))), (q9, .inl (cA9, 8, .inl (fun _ => 0))), (q15, .inl (cA15, 2048, .inl (fun _ => 0))), (q48, .inl (cA48, 320, .inl (fun _ => 0))), (q56, .inl (cA56, 320, .inl (fun _ => 0)))] H := hP
  replace hD : va_D A [(h0, .inr (12, fs_57)), (q1, .inl (cA1, 8, .inr (.inl (fun _ => 0)))), (q3, .inl (cA3, 8, .inl (fun _ => 0))), (q5, .inl (cA5, 8, .inl (fun _ => 0))), (q7, .inl (cA7, 8, .inl (fun _ => 0))), (q9, .inl (cA9, 8, .inl (fun _ => 0))), (q15, .inl (cA15, 2048, .inl (fun _ => 0))), (q48, .inl (cA48, 320, .inl (fun _ => 0))), (q56, .inl (cA56, 320, .inl (fun _ => 0)))] := hD
  replace hP := hP.sub (ws' := [(h0, .inr (12, fs_57)), (q1, .inl (cA1, 8, .inr (.inl (fun _ => 0)))), (q3, .inl (cA3, 8, .inl (fun _ => 0))), (q5, .inl (cA5, 8, .inl (fun _ => 0))), (q7, .inl (cA7, 8, .inl (fun _ => 0))), (q9, .inl (cA9, 8, .inl (fun _ => 0))), (q15, .inl (cA15, 2048, .inl (fun _ => 0))), (q48, .inl (cA48, 320, .inl (fun _ => 0)))]) [0, 1, 2, 3, 4, 5, 6, 7] rfl
  replace hD := hD.sub (ws' := [(h0, .inr (12, fs_57)), (q1, .inl (cA1, 8, .inr (.inl (fun _ => 0)))), (q3, .inl (cA3, 8, .inl (fun _ => 0))), (q5, .inl (cA5, 8, .inl (fun _ => 0))), (q7, .inl (cA7, 8, .inl (fun _ => 0))), (q9, .inl (cA9, 8, .inl (fun _ => 0))), (q15, .inl (cA15, 2048, .inl (fun _ => 0))), (q48, .inl (cA48, 320, .inl (fun _ => 0)))]) [0, 1, 2, 3, 4, 5, 6, 7] (by decide) rfl
  refine lv_aload_n hx hb dX11_init_240 rfl (lv_at hl 0 rfl) ?_
  refine lv_sipush (v := 320) hx hb dX11_init_241 (by decide) ?_
  refine va_newa (atype := .int) (ty := .int) (N' := 320) (a0 := (320, .inl (fun _ => 0))) hx hb (hts (.arrayClass .int) (List.mem_of_getElem? (i := 6) rfl)) rfl hK hP hD hS hA (fun _ => rfl) (by decide) (by decide) (Nat.le_of_ble_eq_true rfl) (Nat.le_of_ble_eq_true rfl) (Nat.le_of_ble_eq_true rfl) dX11_init_244 (fun q58 cA58 H hK hP hD hS => ?_)
  replace hK : va_K (dC, dI) vwCl [(cA1, .long), (cA3, .int), (cA5, .int), (cA7, .boolean), (cA9, .int), (cA11, .int), (cA13, .int), (cA15, .int), (cA17, .int), (cA19, .int), (cA21, .int), (cA23, .int), (cA25, .int), (cA27, .int), (cA29, .int), (cA32, .boolean), (cA34, .int), (cA36, .int), (cA38, .int), (cA40, .int), (cA42, .int), (cA44, .int), (cA46, .int), (cA48, .int), (cA50, .boolean), (cA52, .int), (cA54, .int), (cA56, .int), (cA58, .int)] s := hK
  replace hP : va_P (dC, dI) vwCl [(h0, .inr (12, fs_57)), (q1, .inl (cA1, 8, .inr (.inl (fun _ => 0)))), (q3, .inl (cA3, 8, .inl (fun _ => 0))), (q5, .inl (cA5, 8, .inl (fun _ => 0))), (q7, .inl (cA7, 8, .inl (fun _ => 0))), (q9, .inl (cA9, 8, .inl (fun _ => 0))), (q15, .inl (cA15, 2048, .inl (fun _ => 0))), (q48, .inl (cA48, 320, .inl (fun _ => 0))), (q58, .inl (cA58, 320, .inl (fun _ => 0)))] H := hP
  replace hD : va_D A [(h0, .inr (12, fs_57)), (q1, .inl (cA1, 8, .inr (.inl (fun _ => 0)))), (q3, .inl (cA3, 8, .inl (fun _ => 0))), (q5, .inl (cA5, 8, .inl (fun _ => 0))), (q7, .inl (cA7, 8, .inl (fun _ => 0))), (q9, .inl (cA9, 8, .inl (fun _ => 0))), (q15, .inl (cA15, 2048, .inl (fun _ => 0))), (q48, .inl (cA48, 320, .inl (fun _ => 0))), (q58, .inl (cA58, 320, .inl (fun _ => 0)))] := hD
  refine W.widen (k := 29) (n := 542672) (Nat.le_of_ble_eq_true rfl) (Nat.le_of_ble_eq_true rfl) ?_
  refine va_putF (D := (dC, dI)) (ci := 12) (v := .ref q58) (ty := (.array .int)) (C := RX11) (T := TX11) (N := 63) hx hb hts in_c_X11_init_X11 tyX11 tyX11_ok nmX11 hown hK hP hD hS 0 rfl rfl 32 (by decide) (hts (.fieldLink RX11 101 "ClaimBusModel" "getNext" "[I") (List.mem_of_getElem? (i := 37) rfl)) (fun _ h9 => h9) rfl hin rfl (by decide +kernel) rfl rfl (by rw [hl_fs_57]; decide) dX11_init_246 (fun H locs hP hD hS => ?_)
  obtain ⟨fs_59, efs_59⟩ : ∃ z : List Value, z = fs_57.set 32 (.ref q58) := ⟨_, rfl⟩
  rw [← efs_59] at hP hD
  have hl_fs_59 : fs_59.length = 63 := by rw [efs_59, List.length_set]; exact hl_fs_57
  have h0_fs_59 : fs_59[0]? = some (.int 0) := by rw [efs_59, List.getElem?_set_ne (by decide)]; exact h0_fs_57
  have h1_fs_59 : fs_59[1]? = some (.int 0) := by rw [efs_59, List.getElem?_set_ne (by decide)]; exact h1_fs_57
  have h46_fs_59 : fs_59[46]? = some (.int 0) := by rw [efs_59, List.getElem?_set_ne (by decide)]; exact h46_fs_57
  have h47_fs_59 : fs_59[47]? = some (.int 0) := by rw [efs_59, List.getElem?_set_ne (by decide)]; exact h47_fs_57
  have h48_fs_59 : fs_59[48]? = some (.int 0) := by rw [efs_59, List.getElem?_set_ne (by decide)]; exact h48_fs_57
  have h50_fs_59 : fs_59[50]? = some (.int 0) := by rw [efs_59, List.getElem?_set_ne (by decide)]; exact h50_fs_57
  have h51_fs_59 : fs_59[51]? = some (.int 0) := by rw [efs_59, List.getElem?_set_ne (by decide)]; exact h51_fs_57
  have h52_fs_59 : fs_59[52]? = some (.int 0) := by rw [efs_59, List.getElem?_set_ne (by decide)]; exact h52_fs_57
  have h2_fs_59 : fs_59[2]? = some (.ref q1) := by rw [efs_59, List.getElem?_set_ne (by decide)]; exact h2_fs_57
  have h3_fs_59 : fs_59[3]? = some (.ref q3) := by rw [efs_59, List.getElem?_set_ne (by decide)]; exact h3_fs_57
  have h4_fs_59 : fs_59[4]? = some (.ref q5) := by rw [efs_59, List.getElem?_set_ne (by decide)]; exact h4_fs_57
  have h5_fs_59 : fs_59[5]? = some (.ref q7) := by rw [efs_59, List.getElem?_set_ne (by decide)]; exact h5_fs_57
  have h6_fs_59 : fs_59[6]? = some (.ref q9) := by rw [efs_59, List.getElem?_set_ne (by decide)]; exact h6_fs_57
  have h9_fs_59 : fs_59[9]? = some (.ref q15) := by rw [efs_59, List.getElem?_set_ne (by decide)]; exact h9_fs_57
  have h27_fs_59 : fs_59[27]? = some (.ref q48) := by rw [efs_59, List.getElem?_set_ne (by decide)]; exact h27_fs_57
  replace hP : va_P (dC, dI) vwCl [(h0, .inr (12, fs_59)), (q1, .inl (cA1, 8, .inr (.inl (fun _ => 0)))), (q3, .inl (cA3, 8, .inl (fun _ => 0))), (q5, .inl (cA5, 8, .inl (fun _ => 0))), (q7, .inl (cA7, 8, .inl (fun _ => 0))), (q9, .inl (cA9, 8, .inl (fun _ => 0))), (q15, .inl (cA15, 2048, .inl (fun _ => 0))), (q48, .inl (cA48, 320, .inl (fun _ => 0))), (q58, .inl (cA58, 320, .inl (fun _ => 0)))] H := hP
  replace hD : va_D A [(h0, .inr (12, fs_59)), (q1, .inl (cA1, 8, .inr (.inl (fun _ => 0)))), (q3, .inl (cA3, 8, .inl (fun _ => 0))), (q5, .inl (cA5, 8, .inl (fun _ => 0))), (q7, .inl (cA7, 8, .inl (fun _ => 0))), (q9, .inl (cA9, 8, .inl (fun _ => 0))), (q15, .inl (cA15, 2048, .inl (fun _ => 0))), (q48, .inl (cA48, 320, .inl (fun _ => 0))), (q58, .inl (cA58, 320, .inl (fun _ => 0)))] := hD
  replace hP := hP.sub (ws' := [(h0, .inr (12, fs_59)), (q1, .inl (cA1, 8, .inr (.inl (fun _ => 0)))), (q3, .inl (cA3, 8, .inl (fun _ => 0))), (q5, .inl (cA5, 8, .inl (fun _ => 0))), (q7, .inl (cA7, 8, .inl (fun _ => 0))), (q9, .inl (cA9, 8, .inl (fun _ => 0))), (q15, .inl (cA15, 2048, .inl (fun _ => 0))), (q48, .inl (cA48, 320, .inl (fun _ => 0)))]) [0, 1, 2, 3, 4, 5, 6, 7] rfl
  replace hD := hD.sub (ws' := [(h0, .inr (12, fs_59)), (q1, .inl (cA1, 8, .inr (.inl (fun _ => 0)))), (q3, .inl (cA3, 8, .inl (fun _ => 0))), (q5, .inl (cA5, 8, .inl (fun _ => 0))), (q7, .inl (cA7, 8, .inl (fun _ => 0))), (q9, .inl (cA9, 8, .inl (fun _ => 0))), (q15, .inl (cA15, 2048, .inl (fun _ => 0))), (q48, .inl (cA48, 320, .inl (fun _ => 0)))]) [0, 1, 2, 3, 4, 5, 6, 7] (by decide) rfl
  refine lv_aload_n hx hb dX11_init_249 rfl (lv_at hl 0 rfl) ?_
  refine lv_sipush (v := 320) hx hb dX11_init_250 (by decide) ?_
  refine va_newa (atype := .int) (ty := .int) (N' := 320) (a0 := (320, .inl (fun _ => 0))) hx hb (hts (.arrayClass .int) (List.mem_of_getElem? (i := 6) rfl)) rfl hK hP hD hS hA (fun _ => rfl) (by decide) (by decide) (Nat.le_of_ble_eq_true rfl) (Nat.le_of_ble_eq_true rfl) (Nat.le_of_ble_eq_true rfl) dX11_init_253 (fun q60 cA60 H hK hP hD hS => ?_)
  replace hK : va_K (dC, dI) vwCl [(cA1, .long), (cA3, .int), (cA5, .int), (cA7, .boolean), (cA9, .int), (cA11, .int), (cA13, .int), (cA15, .int), (cA17, .int), (cA19, .int), (cA21, .int), (cA23, .int), (cA25, .int), (cA27, .int), (cA29, .int), (cA32, .boolean), (cA34, .int), (cA36, .int), (cA38, .int), (cA40, .int), (cA42, .int), (cA44, .int), (cA46, .int), (cA48, .int), (cA50, .boolean), (cA52, .int), (cA54, .int), (cA56, .int), (cA58, .int), (cA60, .int)] s := hK
  replace hP : va_P (dC, dI) vwCl [(h0, .inr (12, fs_59)), (q1, .inl (cA1, 8, .inr (.inl (fun _ => 0)))), (q3, .inl (cA3, 8, .inl (fun _ => 0))), (q5, .inl (cA5, 8, .inl (fun _ => 0))), (q7, .inl (cA7, 8, .inl (fun _ => 0))), (q9, .inl (cA9, 8, .inl (fun _ => 0))), (q15, .inl (cA15, 2048, .inl (fun _ => 0))), (q48, .inl (cA48, 320, .inl (fun _ => 0))), (q60, .inl (cA60, 320, .inl (fun _ => 0)))] H := hP
  replace hD : va_D A [(h0, .inr (12, fs_59)), (q1, .inl (cA1, 8, .inr (.inl (fun _ => 0)))), (q3, .inl (cA3, 8, .inl (fun _ => 0))), (q5, .inl (cA5, 8, .inl (fun _ => 0))), (q7, .inl (cA7, 8, .inl (fun _ => 0))), (q9, .inl (cA9, 8, .inl (fun _ => 0))), (q15, .inl (cA15, 2048, .inl (fun _ => 0))), (q48, .inl (cA48, 320, .inl (fun _ => 0))), (q60, .inl (cA60, 320, .inl (fun _ => 0)))] := hD
  refine W.widen (k := 30) (n := 542992) (Nat.le_of_ble_eq_true rfl) (Nat.le_of_ble_eq_true rfl) ?_
  refine va_putF (D := (dC, dI)) (ci := 12) (v := .ref q60) (ty := (.array .int)) (C := RX11) (T := TX11) (N := 63) hx hb hts in_c_X11_init_X11 tyX11 tyX11_ok nmX11 hown hK hP hD hS 0 rfl rfl 33 (by decide) (hts (.fieldLink RX11 104 "ClaimBusModel" "getCleared" "[I") (List.mem_of_getElem? (i := 38) rfl)) (fun _ h9 => h9) rfl hin rfl (by decide +kernel) rfl rfl (by rw [hl_fs_59]; decide) dX11_init_255 (fun H locs hP hD hS => ?_)
  obtain ⟨fs_61, efs_61⟩ : ∃ z : List Value, z = fs_59.set 33 (.ref q60) := ⟨_, rfl⟩
  rw [← efs_61] at hP hD
  have hl_fs_61 : fs_61.length = 63 := by rw [efs_61, List.length_set]; exact hl_fs_59
  have h0_fs_61 : fs_61[0]? = some (.int 0) := by rw [efs_61, List.getElem?_set_ne (by decide)]; exact h0_fs_59
  have h1_fs_61 : fs_61[1]? = some (.int 0) := by rw [efs_61, List.getElem?_set_ne (by decide)]; exact h1_fs_59
  have h46_fs_61 : fs_61[46]? = some (.int 0) := by rw [efs_61, List.getElem?_set_ne (by decide)]; exact h46_fs_59
  have h47_fs_61 : fs_61[47]? = some (.int 0) := by rw [efs_61, List.getElem?_set_ne (by decide)]; exact h47_fs_59
  have h48_fs_61 : fs_61[48]? = some (.int 0) := by rw [efs_61, List.getElem?_set_ne (by decide)]; exact h48_fs_59
  have h50_fs_61 : fs_61[50]? = some (.int 0) := by rw [efs_61, List.getElem?_set_ne (by decide)]; exact h50_fs_59
  have h51_fs_61 : fs_61[51]? = some (.int 0) := by rw [efs_61, List.getElem?_set_ne (by decide)]; exact h51_fs_59
  have h52_fs_61 : fs_61[52]? = some (.int 0) := by rw [efs_61, List.getElem?_set_ne (by decide)]; exact h52_fs_59
  have h2_fs_61 : fs_61[2]? = some (.ref q1) := by rw [efs_61, List.getElem?_set_ne (by decide)]; exact h2_fs_59
  have h3_fs_61 : fs_61[3]? = some (.ref q3) := by rw [efs_61, List.getElem?_set_ne (by decide)]; exact h3_fs_59
  have h4_fs_61 : fs_61[4]? = some (.ref q5) := by rw [efs_61, List.getElem?_set_ne (by decide)]; exact h4_fs_59
  have h5_fs_61 : fs_61[5]? = some (.ref q7) := by rw [efs_61, List.getElem?_set_ne (by decide)]; exact h5_fs_59
  have h6_fs_61 : fs_61[6]? = some (.ref q9) := by rw [efs_61, List.getElem?_set_ne (by decide)]; exact h6_fs_59
  have h9_fs_61 : fs_61[9]? = some (.ref q15) := by rw [efs_61, List.getElem?_set_ne (by decide)]; exact h9_fs_59
  have h27_fs_61 : fs_61[27]? = some (.ref q48) := by rw [efs_61, List.getElem?_set_ne (by decide)]; exact h27_fs_59
  replace hP : va_P (dC, dI) vwCl [(h0, .inr (12, fs_61)), (q1, .inl (cA1, 8, .inr (.inl (fun _ => 0)))), (q3, .inl (cA3, 8, .inl (fun _ => 0))), (q5, .inl (cA5, 8, .inl (fun _ => 0))), (q7, .inl (cA7, 8, .inl (fun _ => 0))), (q9, .inl (cA9, 8, .inl (fun _ => 0))), (q15, .inl (cA15, 2048, .inl (fun _ => 0))), (q48, .inl (cA48, 320, .inl (fun _ => 0))), (q60, .inl (cA60, 320, .inl (fun _ => 0)))] H := hP
  replace hD : va_D A [(h0, .inr (12, fs_61)), (q1, .inl (cA1, 8, .inr (.inl (fun _ => 0)))), (q3, .inl (cA3, 8, .inl (fun _ => 0))), (q5, .inl (cA5, 8, .inl (fun _ => 0))), (q7, .inl (cA7, 8, .inl (fun _ => 0))), (q9, .inl (cA9, 8, .inl (fun _ => 0))), (q15, .inl (cA15, 2048, .inl (fun _ => 0))), (q48, .inl (cA48, 320, .inl (fun _ => 0))), (q60, .inl (cA60, 320, .inl (fun _ => 0)))] := hD
  replace hP := hP.sub (ws' := [(h0, .inr (12, fs_61)), (q1, .inl (cA1, 8, .inr (.inl (fun _ => 0)))), (q3, .inl (cA3, 8, .inl (fun _ => 0))), (q5, .inl (cA5, 8, .inl (fun _ => 0))), (q7, .inl (cA7, 8, .inl (fun _ => 0))), (q9, .inl (cA9, 8, .inl (fun _ => 0))), (q15, .inl (cA15, 2048, .inl (fun _ => 0))), (q48, .inl (cA48, 320, .inl (fun _ => 0)))]) [0, 1, 2, 3, 4, 5, 6, 7] rfl
  replace hD := hD.sub (ws' := [(h0, .inr (12, fs_61)), (q1, .inl (cA1, 8, .inr (.inl (fun _ => 0)))), (q3, .inl (cA3, 8, .inl (fun _ => 0))), (q5, .inl (cA5, 8, .inl (fun _ => 0))), (q7, .inl (cA7, 8, .inl (fun _ => 0))), (q9, .inl (cA9, 8, .inl (fun _ => 0))), (q15, .inl (cA15, 2048, .inl (fun _ => 0))), (q48, .inl (cA48, 320, .inl (fun _ => 0)))]) [0, 1, 2, 3, 4, 5, 6, 7] (by decide) rfl
  refine lv_aload_n hx hb dX11_init_258 rfl (lv_at hl 0 rfl) ?_
  refine lv_sipush (v := 320) hx hb dX11_init_259 (by decide) ?_
  refine va_newa (atype := .int) (ty := .int) (N' := 320) (a0 := (320, .inl (fun _ => 0))) hx hb (hts (.arrayClass .int) (List.mem_of_getElem? (i := 6) rfl)) rfl hK hP hD hS hA (fun _ => rfl) (by decide) (by decide) (Nat.le_of_ble_eq_true rfl) (Nat.le_of_ble_eq_true rfl) (Nat.le_of_ble_eq_true rfl) dX11_init_262 (fun q62 cA62 H hK hP hD hS => ?_)
  replace hK : va_K (dC, dI) vwCl [(cA1, .long), (cA3, .int), (cA5, .int), (cA7, .boolean), (cA9, .int), (cA11, .int), (cA13, .int), (cA15, .int), (cA17, .int), (cA19, .int), (cA21, .int), (cA23, .int), (cA25, .int), (cA27, .int), (cA29, .int), (cA32, .boolean), (cA34, .int), (cA36, .int), (cA38, .int), (cA40, .int), (cA42, .int), (cA44, .int), (cA46, .int), (cA48, .int), (cA50, .boolean), (cA52, .int), (cA54, .int), (cA56, .int), (cA58, .int), (cA60, .int), (cA62, .int)] s := hK
  replace hP : va_P (dC, dI) vwCl [(h0, .inr (12, fs_61)), (q1, .inl (cA1, 8, .inr (.inl (fun _ => 0)))), (q3, .inl (cA3, 8, .inl (fun _ => 0))), (q5, .inl (cA5, 8, .inl (fun _ => 0))), (q7, .inl (cA7, 8, .inl (fun _ => 0))), (q9, .inl (cA9, 8, .inl (fun _ => 0))), (q15, .inl (cA15, 2048, .inl (fun _ => 0))), (q48, .inl (cA48, 320, .inl (fun _ => 0))), (q62, .inl (cA62, 320, .inl (fun _ => 0)))] H := hP
  replace hD : va_D A [(h0, .inr (12, fs_61)), (q1, .inl (cA1, 8, .inr (.inl (fun _ => 0)))), (q3, .inl (cA3, 8, .inl (fun _ => 0))), (q5, .inl (cA5, 8, .inl (fun _ => 0))), (q7, .inl (cA7, 8, .inl (fun _ => 0))), (q9, .inl (cA9, 8, .inl (fun _ => 0))), (q15, .inl (cA15, 2048, .inl (fun _ => 0))), (q48, .inl (cA48, 320, .inl (fun _ => 0))), (q62, .inl (cA62, 320, .inl (fun _ => 0)))] := hD
  refine W.widen (k := 31) (n := 543312) (Nat.le_of_ble_eq_true rfl) (Nat.le_of_ble_eq_true rfl) ?_
  refine va_putF (D := (dC, dI)) (ci := 12) (v := .ref q62) (ty := (.array .int)) (C := RX11) (T := TX11) (N := 63) hx hb hts in_c_X11_init_X11 tyX11 tyX11_ok nmX11 hown hK hP hD hS 0 rfl rfl 34 (by decide) (hts (.fieldLink RX11 107 "ClaimBusModel" "getSince" "[I") (List.mem_of_getElem? (i := 39) rfl)) (fun _ h9 => h9) rfl hin rfl (by decide +kernel) rfl rfl (by rw [hl_fs_61]; decide) dX11_init_264 (fun H locs hP hD hS => ?_)
  obtain ⟨fs_63, efs_63⟩ : ∃ z : List Value, z = fs_61.set 34 (.ref q62) := ⟨_, rfl⟩
  rw [← efs_63] at hP hD
  have hl_fs_63 : fs_63.length = 63 := by rw [efs_63, List.length_set]; exact hl_fs_61
  have h0_fs_63 : fs_63[0]? = some (.int 0) := by rw [efs_63, List.getElem?_set_ne (by decide)]; exact h0_fs_61
  have h1_fs_63 : fs_63[1]? = some (.int 0) := by rw [efs_63, List.getElem?_set_ne (by decide)]; exact h1_fs_61
  have h46_fs_63 : fs_63[46]? = some (.int 0) := by rw [efs_63, List.getElem?_set_ne (by decide)]; exact h46_fs_61
  have h47_fs_63 : fs_63[47]? = some (.int 0) := by rw [efs_63, List.getElem?_set_ne (by decide)]; exact h47_fs_61
  have h48_fs_63 : fs_63[48]? = some (.int 0) := by rw [efs_63, List.getElem?_set_ne (by decide)]; exact h48_fs_61
  have h50_fs_63 : fs_63[50]? = some (.int 0) := by rw [efs_63, List.getElem?_set_ne (by decide)]; exact h50_fs_61
  have h51_fs_63 : fs_63[51]? = some (.int 0) := by rw [efs_63, List.getElem?_set_ne (by decide)]; exact h51_fs_61
  have h52_fs_63 : fs_63[52]? = some (.int 0) := by rw [efs_63, List.getElem?_set_ne (by decide)]; exact h52_fs_61
  have h2_fs_63 : fs_63[2]? = some (.ref q1) := by rw [efs_63, List.getElem?_set_ne (by decide)]; exact h2_fs_61
  have h3_fs_63 : fs_63[3]? = some (.ref q3) := by rw [efs_63, List.getElem?_set_ne (by decide)]; exact h3_fs_61
  have h4_fs_63 : fs_63[4]? = some (.ref q5) := by rw [efs_63, List.getElem?_set_ne (by decide)]; exact h4_fs_61
  have h5_fs_63 : fs_63[5]? = some (.ref q7) := by rw [efs_63, List.getElem?_set_ne (by decide)]; exact h5_fs_61
  have h6_fs_63 : fs_63[6]? = some (.ref q9) := by rw [efs_63, List.getElem?_set_ne (by decide)]; exact h6_fs_61
  have h9_fs_63 : fs_63[9]? = some (.ref q15) := by rw [efs_63, List.getElem?_set_ne (by decide)]; exact h9_fs_61
  have h27_fs_63 : fs_63[27]? = some (.ref q48) := by rw [efs_63, List.getElem?_set_ne (by decide)]; exact h27_fs_61
  replace hP : va_P (dC, dI) vwCl [(h0, .inr (12, fs_63)), (q1, .inl (cA1, 8, .inr (.inl (fun _ => 0)))), (q3, .inl (cA3, 8, .inl (fun _ => 0))), (q5, .inl (cA5, 8, .inl (fun _ => 0))), (q7, .inl (cA7, 8, .inl (fun _ => 0))), (q9, .inl (cA9, 8, .inl (fun _ => 0))), (q15, .inl (cA15, 2048, .inl (fun _ => 0))), (q48, .inl (cA48, 320, .inl (fun _ => 0))), (q62, .inl (cA62, 320, .inl (fun _ => 0)))] H := hP
  replace hD : va_D A [(h0, .inr (12, fs_63)), (q1, .inl (cA1, 8, .inr (.inl (fun _ => 0)))), (q3, .inl (cA3, 8, .inl (fun _ => 0))), (q5, .inl (cA5, 8, .inl (fun _ => 0))), (q7, .inl (cA7, 8, .inl (fun _ => 0))), (q9, .inl (cA9, 8, .inl (fun _ => 0))), (q15, .inl (cA15, 2048, .inl (fun _ => 0))), (q48, .inl (cA48, 320, .inl (fun _ => 0))), (q62, .inl (cA62, 320, .inl (fun _ => 0)))] := hD
  replace hP := hP.sub (ws' := [(h0, .inr (12, fs_63)), (q1, .inl (cA1, 8, .inr (.inl (fun _ => 0)))), (q3, .inl (cA3, 8, .inl (fun _ => 0))), (q5, .inl (cA5, 8, .inl (fun _ => 0))), (q7, .inl (cA7, 8, .inl (fun _ => 0))), (q9, .inl (cA9, 8, .inl (fun _ => 0))), (q15, .inl (cA15, 2048, .inl (fun _ => 0))), (q48, .inl (cA48, 320, .inl (fun _ => 0)))]) [0, 1, 2, 3, 4, 5, 6, 7] rfl
  replace hD := hD.sub (ws' := [(h0, .inr (12, fs_63)), (q1, .inl (cA1, 8, .inr (.inl (fun _ => 0)))), (q3, .inl (cA3, 8, .inl (fun _ => 0))), (q5, .inl (cA5, 8, .inl (fun _ => 0))), (q7, .inl (cA7, 8, .inl (fun _ => 0))), (q9, .inl (cA9, 8, .inl (fun _ => 0))), (q15, .inl (cA15, 2048, .inl (fun _ => 0))), (q48, .inl (cA48, 320, .inl (fun _ => 0)))]) [0, 1, 2, 3, 4, 5, 6, 7] (by decide) rfl
  refine lv_aload_n hx hb dX11_init_267 rfl (lv_at hl 0 rfl) ?_
  refine lv_sipush (v := 320) hx hb dX11_init_268 (by decide) ?_
  refine va_newa (atype := .int) (ty := .int) (N' := 320) (a0 := (320, .inl (fun _ => 0))) hx hb (hts (.arrayClass .int) (List.mem_of_getElem? (i := 6) rfl)) rfl hK hP hD hS hA (fun _ => rfl) (by decide) (by decide) (Nat.le_of_ble_eq_true rfl) (Nat.le_of_ble_eq_true rfl) (Nat.le_of_ble_eq_true rfl) dX11_init_271 (fun q64 cA64 H hK hP hD hS => ?_)
  replace hK : va_K (dC, dI) vwCl [(cA1, .long), (cA3, .int), (cA5, .int), (cA7, .boolean), (cA9, .int), (cA11, .int), (cA13, .int), (cA15, .int), (cA17, .int), (cA19, .int), (cA21, .int), (cA23, .int), (cA25, .int), (cA27, .int), (cA29, .int), (cA32, .boolean), (cA34, .int), (cA36, .int), (cA38, .int), (cA40, .int), (cA42, .int), (cA44, .int), (cA46, .int), (cA48, .int), (cA50, .boolean), (cA52, .int), (cA54, .int), (cA56, .int), (cA58, .int), (cA60, .int), (cA62, .int), (cA64, .int)] s := hK
  replace hP : va_P (dC, dI) vwCl [(h0, .inr (12, fs_63)), (q1, .inl (cA1, 8, .inr (.inl (fun _ => 0)))), (q3, .inl (cA3, 8, .inl (fun _ => 0))), (q5, .inl (cA5, 8, .inl (fun _ => 0))), (q7, .inl (cA7, 8, .inl (fun _ => 0))), (q9, .inl (cA9, 8, .inl (fun _ => 0))), (q15, .inl (cA15, 2048, .inl (fun _ => 0))), (q48, .inl (cA48, 320, .inl (fun _ => 0))), (q64, .inl (cA64, 320, .inl (fun _ => 0)))] H := hP
  replace hD : va_D A [(h0, .inr (12, fs_63)), (q1, .inl (cA1, 8, .inr (.inl (fun _ => 0)))), (q3, .inl (cA3, 8, .inl (fun _ => 0))), (q5, .inl (cA5, 8, .inl (fun _ => 0))), (q7, .inl (cA7, 8, .inl (fun _ => 0))), (q9, .inl (cA9, 8, .inl (fun _ => 0))), (q15, .inl (cA15, 2048, .inl (fun _ => 0))), (q48, .inl (cA48, 320, .inl (fun _ => 0))), (q64, .inl (cA64, 320, .inl (fun _ => 0)))] := hD
  refine W.widen (k := 32) (n := 543632) (Nat.le_of_ble_eq_true rfl) (Nat.le_of_ble_eq_true rfl) ?_
  refine va_putF (D := (dC, dI)) (ci := 12) (v := .ref q64) (ty := (.array .int)) (C := RX11) (T := TX11) (N := 63) hx hb hts in_c_X11_init_X11 tyX11 tyX11_ok nmX11 hown hK hP hD hS 0 rfl rfl 35 (by decide) (hts (.fieldLink RX11 110 "ClaimBusModel" "getTries" "[I") (List.mem_of_getElem? (i := 40) rfl)) (fun _ h9 => h9) rfl hin rfl (by decide +kernel) rfl rfl (by rw [hl_fs_63]; decide) dX11_init_273 (fun H locs hP hD hS => ?_)
  obtain ⟨fs_65, efs_65⟩ : ∃ z : List Value, z = fs_63.set 35 (.ref q64) := ⟨_, rfl⟩
  rw [← efs_65] at hP hD
  have hl_fs_65 : fs_65.length = 63 := by rw [efs_65, List.length_set]; exact hl_fs_63
  have h0_fs_65 : fs_65[0]? = some (.int 0) := by rw [efs_65, List.getElem?_set_ne (by decide)]; exact h0_fs_63
  have h1_fs_65 : fs_65[1]? = some (.int 0) := by rw [efs_65, List.getElem?_set_ne (by decide)]; exact h1_fs_63
  have h46_fs_65 : fs_65[46]? = some (.int 0) := by rw [efs_65, List.getElem?_set_ne (by decide)]; exact h46_fs_63
  have h47_fs_65 : fs_65[47]? = some (.int 0) := by rw [efs_65, List.getElem?_set_ne (by decide)]; exact h47_fs_63
  have h48_fs_65 : fs_65[48]? = some (.int 0) := by rw [efs_65, List.getElem?_set_ne (by decide)]; exact h48_fs_63
  have h50_fs_65 : fs_65[50]? = some (.int 0) := by rw [efs_65, List.getElem?_set_ne (by decide)]; exact h50_fs_63
  have h51_fs_65 : fs_65[51]? = some (.int 0) := by rw [efs_65, List.getElem?_set_ne (by decide)]; exact h51_fs_63
  have h52_fs_65 : fs_65[52]? = some (.int 0) := by rw [efs_65, List.getElem?_set_ne (by decide)]; exact h52_fs_63
  have h2_fs_65 : fs_65[2]? = some (.ref q1) := by rw [efs_65, List.getElem?_set_ne (by decide)]; exact h2_fs_63
  have h3_fs_65 : fs_65[3]? = some (.ref q3) := by rw [efs_65, List.getElem?_set_ne (by decide)]; exact h3_fs_63
  have h4_fs_65 : fs_65[4]? = some (.ref q5) := by rw [efs_65, List.getElem?_set_ne (by decide)]; exact h4_fs_63
  have h5_fs_65 : fs_65[5]? = some (.ref q7) := by rw [efs_65, List.getElem?_set_ne (by decide)]; exact h5_fs_63
  have h6_fs_65 : fs_65[6]? = some (.ref q9) := by rw [efs_65, List.getElem?_set_ne (by decide)]; exact h6_fs_63
  have h9_fs_65 : fs_65[9]? = some (.ref q15) := by rw [efs_65, List.getElem?_set_ne (by decide)]; exact h9_fs_63
  have h27_fs_65 : fs_65[27]? = some (.ref q48) := by rw [efs_65, List.getElem?_set_ne (by decide)]; exact h27_fs_63
  replace hP : va_P (dC, dI) vwCl [(h0, .inr (12, fs_65)), (q1, .inl (cA1, 8, .inr (.inl (fun _ => 0)))), (q3, .inl (cA3, 8, .inl (fun _ => 0))), (q5, .inl (cA5, 8, .inl (fun _ => 0))), (q7, .inl (cA7, 8, .inl (fun _ => 0))), (q9, .inl (cA9, 8, .inl (fun _ => 0))), (q15, .inl (cA15, 2048, .inl (fun _ => 0))), (q48, .inl (cA48, 320, .inl (fun _ => 0))), (q64, .inl (cA64, 320, .inl (fun _ => 0)))] H := hP
  replace hD : va_D A [(h0, .inr (12, fs_65)), (q1, .inl (cA1, 8, .inr (.inl (fun _ => 0)))), (q3, .inl (cA3, 8, .inl (fun _ => 0))), (q5, .inl (cA5, 8, .inl (fun _ => 0))), (q7, .inl (cA7, 8, .inl (fun _ => 0))), (q9, .inl (cA9, 8, .inl (fun _ => 0))), (q15, .inl (cA15, 2048, .inl (fun _ => 0))), (q48, .inl (cA48, 320, .inl (fun _ => 0))), (q64, .inl (cA64, 320, .inl (fun _ => 0)))] := hD
  replace hP := hP.sub (ws' := [(h0, .inr (12, fs_65)), (q1, .inl (cA1, 8, .inr (.inl (fun _ => 0)))), (q3, .inl (cA3, 8, .inl (fun _ => 0))), (q5, .inl (cA5, 8, .inl (fun _ => 0))), (q7, .inl (cA7, 8, .inl (fun _ => 0))), (q9, .inl (cA9, 8, .inl (fun _ => 0))), (q15, .inl (cA15, 2048, .inl (fun _ => 0))), (q48, .inl (cA48, 320, .inl (fun _ => 0)))]) [0, 1, 2, 3, 4, 5, 6, 7] rfl
  replace hD := hD.sub (ws' := [(h0, .inr (12, fs_65)), (q1, .inl (cA1, 8, .inr (.inl (fun _ => 0)))), (q3, .inl (cA3, 8, .inl (fun _ => 0))), (q5, .inl (cA5, 8, .inl (fun _ => 0))), (q7, .inl (cA7, 8, .inl (fun _ => 0))), (q9, .inl (cA9, 8, .inl (fun _ => 0))), (q15, .inl (cA15, 2048, .inl (fun _ => 0))), (q48, .inl (cA48, 320, .inl (fun _ => 0)))]) [0, 1, 2, 3, 4, 5, 6, 7] (by decide) rfl
  refine lv_aload_n hx hb dX11_init_276 rfl (lv_at hl 0 rfl) ?_
  refine lv_sipush (v := 320) hx hb dX11_init_277 (by decide) ?_
  refine va_newa (atype := .int) (ty := .int) (N' := 320) (a0 := (320, .inl (fun _ => 0))) hx hb (hts (.arrayClass .int) (List.mem_of_getElem? (i := 6) rfl)) rfl hK hP hD hS hA (fun _ => rfl) (by decide) (by decide) (Nat.le_of_ble_eq_true rfl) (Nat.le_of_ble_eq_true rfl) (Nat.le_of_ble_eq_true rfl) dX11_init_280 (fun q66 cA66 H hK hP hD hS => ?_)
  replace hK : va_K (dC, dI) vwCl [(cA1, .long), (cA3, .int), (cA5, .int), (cA7, .boolean), (cA9, .int), (cA11, .int), (cA13, .int), (cA15, .int), (cA17, .int), (cA19, .int), (cA21, .int), (cA23, .int), (cA25, .int), (cA27, .int), (cA29, .int), (cA32, .boolean), (cA34, .int), (cA36, .int), (cA38, .int), (cA40, .int), (cA42, .int), (cA44, .int), (cA46, .int), (cA48, .int), (cA50, .boolean), (cA52, .int), (cA54, .int), (cA56, .int), (cA58, .int), (cA60, .int), (cA62, .int), (cA64, .int), (cA66, .int)] s := hK
  replace hP : va_P (dC, dI) vwCl [(h0, .inr (12, fs_65)), (q1, .inl (cA1, 8, .inr (.inl (fun _ => 0)))), (q3, .inl (cA3, 8, .inl (fun _ => 0))), (q5, .inl (cA5, 8, .inl (fun _ => 0))), (q7, .inl (cA7, 8, .inl (fun _ => 0))), (q9, .inl (cA9, 8, .inl (fun _ => 0))), (q15, .inl (cA15, 2048, .inl (fun _ => 0))), (q48, .inl (cA48, 320, .inl (fun _ => 0))), (q66, .inl (cA66, 320, .inl (fun _ => 0)))] H := hP
  replace hD : va_D A [(h0, .inr (12, fs_65)), (q1, .inl (cA1, 8, .inr (.inl (fun _ => 0)))), (q3, .inl (cA3, 8, .inl (fun _ => 0))), (q5, .inl (cA5, 8, .inl (fun _ => 0))), (q7, .inl (cA7, 8, .inl (fun _ => 0))), (q9, .inl (cA9, 8, .inl (fun _ => 0))), (q15, .inl (cA15, 2048, .inl (fun _ => 0))), (q48, .inl (cA48, 320, .inl (fun _ => 0))), (q66, .inl (cA66, 320, .inl (fun _ => 0)))] := hD
  refine W.widen (k := 33) (n := 543952) (Nat.le_of_ble_eq_true rfl) (Nat.le_of_ble_eq_true rfl) ?_
  refine va_putF (D := (dC, dI)) (ci := 12) (v := .ref q66) (ty := (.array .int)) (C := RX11) (T := TX11) (N := 63) hx hb hts in_c_X11_init_X11 tyX11 tyX11_ok nmX11 hown hK hP hD hS 0 rfl rfl 36 (by decide) (hts (.fieldLink RX11 113 "ClaimBusModel" "getOrder" "[I") (List.mem_of_getElem? (i := 41) rfl)) (fun _ h9 => h9) rfl hin rfl (by decide +kernel) rfl rfl (by rw [hl_fs_65]; decide) dX11_init_282 (fun H locs hP hD hS => ?_)
  obtain ⟨fs_67, efs_67⟩ : ∃ z : List Value, z = fs_65.set 36 (.ref q66) := ⟨_, rfl⟩
  rw [← efs_67] at hP hD
  have hl_fs_67 : fs_67.length = 63 := by rw [efs_67, List.length_set]; exact hl_fs_65
  have h0_fs_67 : fs_67[0]? = some (.int 0) := by rw [efs_67, List.getElem?_set_ne (by decide)]; exact h0_fs_65
  have h1_fs_67 : fs_67[1]? = some (.int 0) := by rw [efs_67, List.getElem?_set_ne (by decide)]; exact h1_fs_65
  have h46_fs_67 : fs_67[46]? = some (.int 0) := by rw [efs_67, List.getElem?_set_ne (by decide)]; exact h46_fs_65
  have h47_fs_67 : fs_67[47]? = some (.int 0) := by rw [efs_67, List.getElem?_set_ne (by decide)]; exact h47_fs_65
  have h48_fs_67 : fs_67[48]? = some (.int 0) := by rw [efs_67, List.getElem?_set_ne (by decide)]; exact h48_fs_65
  have h50_fs_67 : fs_67[50]? = some (.int 0) := by rw [efs_67, List.getElem?_set_ne (by decide)]; exact h50_fs_65
  have h51_fs_67 : fs_67[51]? = some (.int 0) := by rw [efs_67, List.getElem?_set_ne (by decide)]; exact h51_fs_65
  have h52_fs_67 : fs_67[52]? = some (.int 0) := by rw [efs_67, List.getElem?_set_ne (by decide)]; exact h52_fs_65
  have h2_fs_67 : fs_67[2]? = some (.ref q1) := by rw [efs_67, List.getElem?_set_ne (by decide)]; exact h2_fs_65
  have h3_fs_67 : fs_67[3]? = some (.ref q3) := by rw [efs_67, List.getElem?_set_ne (by decide)]; exact h3_fs_65
  have h4_fs_67 : fs_67[4]? = some (.ref q5) := by rw [efs_67, List.getElem?_set_ne (by decide)]; exact h4_fs_65
  have h5_fs_67 : fs_67[5]? = some (.ref q7) := by rw [efs_67, List.getElem?_set_ne (by decide)]; exact h5_fs_65
  have h6_fs_67 : fs_67[6]? = some (.ref q9) := by rw [efs_67, List.getElem?_set_ne (by decide)]; exact h6_fs_65
  have h9_fs_67 : fs_67[9]? = some (.ref q15) := by rw [efs_67, List.getElem?_set_ne (by decide)]; exact h9_fs_65
  have h27_fs_67 : fs_67[27]? = some (.ref q48) := by rw [efs_67, List.getElem?_set_ne (by decide)]; exact h27_fs_65
  replace hP : va_P (dC, dI) vwCl [(h0, .inr (12, fs_67)), (q1, .inl (cA1, 8, .inr (.inl (fun _ => 0)))), (q3, .inl (cA3, 8, .inl (fun _ => 0))), (q5, .inl (cA5, 8, .inl (fun _ => 0))), (q7, .inl (cA7, 8, .inl (fun _ => 0))), (q9, .inl (cA9, 8, .inl (fun _ => 0))), (q15, .inl (cA15, 2048, .inl (fun _ => 0))), (q48, .inl (cA48, 320, .inl (fun _ => 0))), (q66, .inl (cA66, 320, .inl (fun _ => 0)))] H := hP
  replace hD : va_D A [(h0, .inr (12, fs_67)), (q1, .inl (cA1, 8, .inr (.inl (fun _ => 0)))), (q3, .inl (cA3, 8, .inl (fun _ => 0))), (q5, .inl (cA5, 8, .inl (fun _ => 0))), (q7, .inl (cA7, 8, .inl (fun _ => 0))), (q9, .inl (cA9, 8, .inl (fun _ => 0))), (q15, .inl (cA15, 2048, .inl (fun _ => 0))), (q48, .inl (cA48, 320, .inl (fun _ => 0))), (q66, .inl (cA66, 320, .inl (fun _ => 0)))] := hD
  replace hP := hP.sub (ws' := [(h0, .inr (12, fs_67)), (q1, .inl (cA1, 8, .inr (.inl (fun _ => 0)))), (q3, .inl (cA3, 8, .inl (fun _ => 0))), (q5, .inl (cA5, 8, .inl (fun _ => 0))), (q7, .inl (cA7, 8, .inl (fun _ => 0))), (q9, .inl (cA9, 8, .inl (fun _ => 0))), (q15, .inl (cA15, 2048, .inl (fun _ => 0))), (q48, .inl (cA48, 320, .inl (fun _ => 0)))]) [0, 1, 2, 3, 4, 5, 6, 7] rfl
  replace hD := hD.sub (ws' := [(h0, .inr (12, fs_67)), (q1, .inl (cA1, 8, .inr (.inl (fun _ => 0)))), (q3, .inl (cA3, 8, .inl (fun _ => 0))), (q5, .inl (cA5, 8, .inl (fun _ => 0))), (q7, .inl (cA7, 8, .inl (fun _ => 0))), (q9, .inl (cA9, 8, .inl (fun _ => 0))), (q15, .inl (cA15, 2048, .inl (fun _ => 0))), (q48, .inl (cA48, 320, .inl (fun _ => 0)))]) [0, 1, 2, 3, 4, 5, 6, 7] (by decide) rfl
  refine lv_aload_n hx hb dX11_init_285 rfl (lv_at hl 0 rfl) ?_
  refine lv_ldc hx hb hown (hts (.constant RX11 116 (573440)) (List.mem_of_getElem? (i := 42) rfl)) dX11_init_286 ?_
  refine va_newa (atype := .int) (ty := .int) (N' := 573440) (a0 := (573440, .inl (fun _ => 0))) hx hb (hts (.arrayClass .int) (List.mem_of_getElem? (i := 6) rfl)) rfl hK hP hD hS hA (fun _ => rfl) (by decide) (by decide) (Nat.le_of_ble_eq_true rfl) (Nat.le_of_ble_eq_true rfl) (Nat.le_of_ble_eq_true rfl) dX11_init_288 (fun q68 cA68 H hK hP hD hS => ?_)
  replace hK : va_K (dC, dI) vwCl [(cA1, .long), (cA3, .int), (cA5, .int), (cA7, .boolean), (cA9, .int), (cA11, .int), (cA13, .int), (cA15, .int), (cA17, .int), (cA19, .int), (cA21, .int), (cA23, .int), (cA25, .int), (cA27, .int), (cA29, .int), (cA32, .boolean), (cA34, .int), (cA36, .int), (cA38, .int), (cA40, .int), (cA42, .int), (cA44, .int), (cA46, .int), (cA48, .int), (cA50, .boolean), (cA52, .int), (cA54, .int), (cA56, .int), (cA58, .int), (cA60, .int), (cA62, .int), (cA64, .int), (cA66, .int), (cA68, .int)] s := hK
  replace hP : va_P (dC, dI) vwCl [(h0, .inr (12, fs_67)), (q1, .inl (cA1, 8, .inr (.inl (fun _ => 0)))), (q3, .inl (cA3, 8, .inl (fun _ => 0))), (q5, .inl (cA5, 8, .inl (fun _ => 0))), (q7, .inl (cA7, 8, .inl (fun _ => 0))), (q9, .inl (cA9, 8, .inl (fun _ => 0))), (q15, .inl (cA15, 2048, .inl (fun _ => 0))), (q48, .inl (cA48, 320, .inl (fun _ => 0))), (q68, .inl (cA68, 573440, .inl (fun _ => 0)))] H := hP
  replace hD : va_D A [(h0, .inr (12, fs_67)), (q1, .inl (cA1, 8, .inr (.inl (fun _ => 0)))), (q3, .inl (cA3, 8, .inl (fun _ => 0))), (q5, .inl (cA5, 8, .inl (fun _ => 0))), (q7, .inl (cA7, 8, .inl (fun _ => 0))), (q9, .inl (cA9, 8, .inl (fun _ => 0))), (q15, .inl (cA15, 2048, .inl (fun _ => 0))), (q48, .inl (cA48, 320, .inl (fun _ => 0))), (q68, .inl (cA68, 573440, .inl (fun _ => 0)))] := hD
  refine W.widen (k := 34) (n := 1117392) (Nat.le_of_ble_eq_true rfl) (Nat.le_of_ble_eq_true rfl) ?_
  refine va_putF (D := (dC, dI)) (ci := 12) (v := .ref q68) (ty := (.array .int)) (C := RX11) (T := TX11) (N := 63) hx hb hts in_c_X11_init_X11 tyX11 tyX11_ok nmX11 hown hK hP hD hS 0 rfl rfl 37 (by decide) (hts (.fieldLink RX11 117 "ClaimBusModel" "getBytes" "[I") (List.mem_of_getElem? (i := 43) rfl)) (fun _ h9 => h9) rfl hin rfl (by decide +kernel) rfl rfl (by rw [hl_fs_67]; decide) dX11_init_290 (fun H locs hP hD hS => ?_)
  obtain ⟨fs_69, efs_69⟩ : ∃ z : List Value, z = fs_67.set 37 (.ref q68) := ⟨_, rfl⟩
  rw [← efs_69] at hP hD
  have hl_fs_69 : fs_69.length = 63 := by rw [efs_69, List.length_set]; exact hl_fs_67
  have h0_fs_69 : fs_69[0]? = some (.int 0) := by rw [efs_69, List.getElem?_set_ne (by decide)]; exact h0_fs_67
  have h1_fs_69 : fs_69[1]? = some (.int 0) := by rw [efs_69, List.getElem?_set_ne (by decide)]; exact h1_fs_67
  have h46_fs_69 : fs_69[46]? = some (.int 0) := by rw [efs_69, List.getElem?_set_ne (by decide)]; exact h46_fs_67
  have h47_fs_69 : fs_69[47]? = some (.int 0) := by rw [efs_69, List.getElem?_set_ne (by decide)]; exact h47_fs_67
  have h48_fs_69 : fs_69[48]? = some (.int 0) := by rw [efs_69, List.getElem?_set_ne (by decide)]; exact h48_fs_67
  have h50_fs_69 : fs_69[50]? = some (.int 0) := by rw [efs_69, List.getElem?_set_ne (by decide)]; exact h50_fs_67
  have h51_fs_69 : fs_69[51]? = some (.int 0) := by rw [efs_69, List.getElem?_set_ne (by decide)]; exact h51_fs_67
  have h52_fs_69 : fs_69[52]? = some (.int 0) := by rw [efs_69, List.getElem?_set_ne (by decide)]; exact h52_fs_67
  have h2_fs_69 : fs_69[2]? = some (.ref q1) := by rw [efs_69, List.getElem?_set_ne (by decide)]; exact h2_fs_67
  have h3_fs_69 : fs_69[3]? = some (.ref q3) := by rw [efs_69, List.getElem?_set_ne (by decide)]; exact h3_fs_67
  have h4_fs_69 : fs_69[4]? = some (.ref q5) := by rw [efs_69, List.getElem?_set_ne (by decide)]; exact h4_fs_67
  have h5_fs_69 : fs_69[5]? = some (.ref q7) := by rw [efs_69, List.getElem?_set_ne (by decide)]; exact h5_fs_67
  have h6_fs_69 : fs_69[6]? = some (.ref q9) := by rw [efs_69, List.getElem?_set_ne (by decide)]; exact h6_fs_67
  have h9_fs_69 : fs_69[9]? = some (.ref q15) := by rw [efs_69, List.getElem?_set_ne (by decide)]; exact h9_fs_67
  have h27_fs_69 : fs_69[27]? = some (.ref q48) := by rw [efs_69, List.getElem?_set_ne (by decide)]; exact h27_fs_67
  replace hP : va_P (dC, dI) vwCl [(h0, .inr (12, fs_69)), (q1, .inl (cA1, 8, .inr (.inl (fun _ => 0)))), (q3, .inl (cA3, 8, .inl (fun _ => 0))), (q5, .inl (cA5, 8, .inl (fun _ => 0))), (q7, .inl (cA7, 8, .inl (fun _ => 0))), (q9, .inl (cA9, 8, .inl (fun _ => 0))), (q15, .inl (cA15, 2048, .inl (fun _ => 0))), (q48, .inl (cA48, 320, .inl (fun _ => 0))), (q68, .inl (cA68, 573440, .inl (fun _ => 0)))] H := hP
  replace hD : va_D A [(h0, .inr (12, fs_69)), (q1, .inl (cA1, 8, .inr (.inl (fun _ => 0)))), (q3, .inl (cA3, 8, .inl (fun _ => 0))), (q5, .inl (cA5, 8, .inl (fun _ => 0))), (q7, .inl (cA7, 8, .inl (fun _ => 0))), (q9, .inl (cA9, 8, .inl (fun _ => 0))), (q15, .inl (cA15, 2048, .inl (fun _ => 0))), (q48, .inl (cA48, 320, .inl (fun _ => 0))), (q68, .inl (cA68, 573440, .inl (fun _ => 0)))] := hD
  replace hP := hP.sub (ws' := [(h0, .inr (12, fs_69)), (q1, .inl (cA1, 8, .inr (.inl (fun _ => 0)))), (q3, .inl (cA3, 8, .inl (fun _ => 0))), (q5, .inl (cA5, 8, .inl (fun _ => 0))), (q7, .inl (cA7, 8, .inl (fun _ => 0))), (q9, .inl (cA9, 8, .inl (fun _ => 0))), (q15, .inl (cA15, 2048, .inl (fun _ => 0))), (q48, .inl (cA48, 320, .inl (fun _ => 0)))]) [0, 1, 2, 3, 4, 5, 6, 7] rfl
  replace hD := hD.sub (ws' := [(h0, .inr (12, fs_69)), (q1, .inl (cA1, 8, .inr (.inl (fun _ => 0)))), (q3, .inl (cA3, 8, .inl (fun _ => 0))), (q5, .inl (cA5, 8, .inl (fun _ => 0))), (q7, .inl (cA7, 8, .inl (fun _ => 0))), (q9, .inl (cA9, 8, .inl (fun _ => 0))), (q15, .inl (cA15, 2048, .inl (fun _ => 0))), (q48, .inl (cA48, 320, .inl (fun _ => 0)))]) [0, 1, 2, 3, 4, 5, 6, 7] (by decide) rfl
  refine lv_aload_n hx hb dX11_init_293 rfl (lv_at hl 0 rfl) ?_
  refine lv_bipush (v := 8) hx hb dX11_init_294 (by decide) ?_
  refine va_newa (atype := .int) (ty := .int) (N' := 8) (a0 := (8, .inl (fun _ => 0))) hx hb (hts (.arrayClass .int) (List.mem_of_getElem? (i := 6) rfl)) rfl hK hP hD hS hA (fun _ => rfl) (by decide) (by decide) (Nat.le_of_ble_eq_true rfl) (Nat.le_of_ble_eq_true rfl) (Nat.le_of_ble_eq_true rfl) dX11_init_296 (fun q70 cA70 H hK hP hD hS => ?_)
  replace hK : va_K (dC, dI) vwCl [(cA1, .long), (cA3, .int), (cA5, .int), (cA7, .boolean), (cA9, .int), (cA11, .int), (cA13, .int), (cA15, .int), (cA17, .int), (cA19, .int), (cA21, .int), (cA23, .int), (cA25, .int), (cA27, .int), (cA29, .int), (cA32, .boolean), (cA34, .int), (cA36, .int), (cA38, .int), (cA40, .int), (cA42, .int), (cA44, .int), (cA46, .int), (cA48, .int), (cA50, .boolean), (cA52, .int), (cA54, .int), (cA56, .int), (cA58, .int), (cA60, .int), (cA62, .int), (cA64, .int), (cA66, .int), (cA68, .int), (cA70, .int)] s := hK
  replace hP : va_P (dC, dI) vwCl [(h0, .inr (12, fs_69)), (q1, .inl (cA1, 8, .inr (.inl (fun _ => 0)))), (q3, .inl (cA3, 8, .inl (fun _ => 0))), (q5, .inl (cA5, 8, .inl (fun _ => 0))), (q7, .inl (cA7, 8, .inl (fun _ => 0))), (q9, .inl (cA9, 8, .inl (fun _ => 0))), (q15, .inl (cA15, 2048, .inl (fun _ => 0))), (q48, .inl (cA48, 320, .inl (fun _ => 0))), (q70, .inl (cA70, 8, .inl (fun _ => 0)))] H := hP
  replace hD : va_D A [(h0, .inr (12, fs_69)), (q1, .inl (cA1, 8, .inr (.inl (fun _ => 0)))), (q3, .inl (cA3, 8, .inl (fun _ => 0))), (q5, .inl (cA5, 8, .inl (fun _ => 0))), (q7, .inl (cA7, 8, .inl (fun _ => 0))), (q9, .inl (cA9, 8, .inl (fun _ => 0))), (q15, .inl (cA15, 2048, .inl (fun _ => 0))), (q48, .inl (cA48, 320, .inl (fun _ => 0))), (q70, .inl (cA70, 8, .inl (fun _ => 0)))] := hD
  refine W.widen (k := 35) (n := 1117400) (Nat.le_of_ble_eq_true rfl) (Nat.le_of_ble_eq_true rfl) ?_
  refine va_putF (D := (dC, dI)) (ci := 12) (v := .ref q70) (ty := (.array .int)) (C := RX11) (T := TX11) (N := 63) hx hb hts in_c_X11_init_X11 tyX11 tyX11_ok nmX11 hown hK hP hD hS 0 rfl rfl 38 (by decide) (hts (.fieldLink RX11 120 "ClaimBusModel" "came" "[I") (List.mem_of_getElem? (i := 44) rfl)) (fun _ h9 => h9) rfl hin rfl (by decide +kernel) rfl rfl (by rw [hl_fs_69]; decide) dX11_init_298 (fun H locs hP hD hS => ?_)
  obtain ⟨fs_71, efs_71⟩ : ∃ z : List Value, z = fs_69.set 38 (.ref q70) := ⟨_, rfl⟩
  rw [← efs_71] at hP hD
  have hl_fs_71 : fs_71.length = 63 := by rw [efs_71, List.length_set]; exact hl_fs_69
  have h0_fs_71 : fs_71[0]? = some (.int 0) := by rw [efs_71, List.getElem?_set_ne (by decide)]; exact h0_fs_69
  have h1_fs_71 : fs_71[1]? = some (.int 0) := by rw [efs_71, List.getElem?_set_ne (by decide)]; exact h1_fs_69
  have h46_fs_71 : fs_71[46]? = some (.int 0) := by rw [efs_71, List.getElem?_set_ne (by decide)]; exact h46_fs_69
  have h47_fs_71 : fs_71[47]? = some (.int 0) := by rw [efs_71, List.getElem?_set_ne (by decide)]; exact h47_fs_69
  have h48_fs_71 : fs_71[48]? = some (.int 0) := by rw [efs_71, List.getElem?_set_ne (by decide)]; exact h48_fs_69
  have h50_fs_71 : fs_71[50]? = some (.int 0) := by rw [efs_71, List.getElem?_set_ne (by decide)]; exact h50_fs_69
  have h51_fs_71 : fs_71[51]? = some (.int 0) := by rw [efs_71, List.getElem?_set_ne (by decide)]; exact h51_fs_69
  have h52_fs_71 : fs_71[52]? = some (.int 0) := by rw [efs_71, List.getElem?_set_ne (by decide)]; exact h52_fs_69
  have h2_fs_71 : fs_71[2]? = some (.ref q1) := by rw [efs_71, List.getElem?_set_ne (by decide)]; exact h2_fs_69
  have h3_fs_71 : fs_71[3]? = some (.ref q3) := by rw [efs_71, List.getElem?_set_ne (by decide)]; exact h3_fs_69
  have h4_fs_71 : fs_71[4]? = some (.ref q5) := by rw [efs_71, List.getElem?_set_ne (by decide)]; exact h4_fs_69
  have h5_fs_71 : fs_71[5]? = some (.ref q7) := by rw [efs_71, List.getElem?_set_ne (by decide)]; exact h5_fs_69
  have h6_fs_71 : fs_71[6]? = some (.ref q9) := by rw [efs_71, List.getElem?_set_ne (by decide)]; exact h6_fs_69
  have h9_fs_71 : fs_71[9]? = some (.ref q15) := by rw [efs_71, List.getElem?_set_ne (by decide)]; exact h9_fs_69
  have h27_fs_71 : fs_71[27]? = some (.ref q48) := by rw [efs_71, List.getElem?_set_ne (by decide)]; exact h27_fs_69
  replace hP : va_P (dC, dI) vwCl [(h0, .inr (12, fs_71)), (q1, .inl (cA1, 8, .inr (.inl (fun _ => 0)))), (q3, .inl (cA3, 8, .inl (fun _ => 0))), (q5, .inl (cA5, 8, .inl (fun _ => 0))), (q7, .inl (cA7, 8, .inl (fun _ => 0))), (q9, .inl (cA9, 8, .inl (fun _ => 0))), (q15, .inl (cA15, 2048, .inl (fun _ => 0))), (q48, .inl (cA48, 320, .inl (fun _ => 0))), (q70, .inl (cA70, 8, .inl (fun _ => 0)))] H := hP
  replace hD : va_D A [(h0, .inr (12, fs_71)), (q1, .inl (cA1, 8, .inr (.inl (fun _ => 0)))), (q3, .inl (cA3, 8, .inl (fun _ => 0))), (q5, .inl (cA5, 8, .inl (fun _ => 0))), (q7, .inl (cA7, 8, .inl (fun _ => 0))), (q9, .inl (cA9, 8, .inl (fun _ => 0))), (q15, .inl (cA15, 2048, .inl (fun _ => 0))), (q48, .inl (cA48, 320, .inl (fun _ => 0))), (q70, .inl (cA70, 8, .inl (fun _ => 0)))] := hD
  replace hP := hP.sub (ws' := [(h0, .inr (12, fs_71)), (q1, .inl (cA1, 8, .inr (.inl (fun _ => 0)))), (q3, .inl (cA3, 8, .inl (fun _ => 0))), (q5, .inl (cA5, 8, .inl (fun _ => 0))), (q7, .inl (cA7, 8, .inl (fun _ => 0))), (q9, .inl (cA9, 8, .inl (fun _ => 0))), (q15, .inl (cA15, 2048, .inl (fun _ => 0))), (q48, .inl (cA48, 320, .inl (fun _ => 0)))]) [0, 1, 2, 3, 4, 5, 6, 7] rfl
  replace hD := hD.sub (ws' := [(h0, .inr (12, fs_71)), (q1, .inl (cA1, 8, .inr (.inl (fun _ => 0)))), (q3, .inl (cA3, 8, .inl (fun _ => 0))), (q5, .inl (cA5, 8, .inl (fun _ => 0))), (q7, .inl (cA7, 8, .inl (fun _ => 0))), (q9, .inl (cA9, 8, .inl (fun _ => 0))), (q15, .inl (cA15, 2048, .inl (fun _ => 0))), (q48, .inl (cA48, 320, .inl (fun _ => 0)))]) [0, 1, 2, 3, 4, 5, 6, 7] (by decide) rfl
  refine lv_aload_n hx hb dX11_init_301 rfl (lv_at hl 0 rfl) ?_
  refine lv_sipush (v := 640) hx hb dX11_init_302 (by decide) ?_
  refine va_newa (atype := .int) (ty := .int) (N' := 640) (a0 := (640, .inl (fun _ => 0))) hx hb (hts (.arrayClass .int) (List.mem_of_getElem? (i := 6) rfl)) rfl hK hP hD hS hA (fun _ => rfl) (by decide) (by decide) (Nat.le_of_ble_eq_true rfl) (Nat.le_of_ble_eq_true rfl) (Nat.le_of_ble_eq_true rfl) dX11_init_305 (fun q72 cA72 H hK hP hD hS => ?_)
  replace hK : va_K (dC, dI) vwCl [(cA1, .long), (cA3, .int), (cA5, .int), (cA7, .boolean), (cA9, .int), (cA11, .int), (cA13, .int), (cA15, .int), (cA17, .int), (cA19, .int), (cA21, .int), (cA23, .int), (cA25, .int), (cA27, .int), (cA29, .int), (cA32, .boolean), (cA34, .int), (cA36, .int), (cA38, .int), (cA40, .int), (cA42, .int), (cA44, .int), (cA46, .int), (cA48, .int), (cA50, .boolean), (cA52, .int), (cA54, .int), (cA56, .int), (cA58, .int), (cA60, .int), (cA62, .int), (cA64, .int), (cA66, .int), (cA68, .int), (cA70, .int), (cA72, .int)] s := hK
  replace hP : va_P (dC, dI) vwCl [(h0, .inr (12, fs_71)), (q1, .inl (cA1, 8, .inr (.inl (fun _ => 0)))), (q3, .inl (cA3, 8, .inl (fun _ => 0))), (q5, .inl (cA5, 8, .inl (fun _ => 0))), (q7, .inl (cA7, 8, .inl (fun _ => 0))), (q9, .inl (cA9, 8, .inl (fun _ => 0))), (q15, .inl (cA15, 2048, .inl (fun _ => 0))), (q48, .inl (cA48, 320, .inl (fun _ => 0))), (q72, .inl (cA72, 640, .inl (fun _ => 0)))] H := hP
  replace hD : va_D A [(h0, .inr (12, fs_71)), (q1, .inl (cA1, 8, .inr (.inl (fun _ => 0)))), (q3, .inl (cA3, 8, .inl (fun _ => 0))), (q5, .inl (cA5, 8, .inl (fun _ => 0))), (q7, .inl (cA7, 8, .inl (fun _ => 0))), (q9, .inl (cA9, 8, .inl (fun _ => 0))), (q15, .inl (cA15, 2048, .inl (fun _ => 0))), (q48, .inl (cA48, 320, .inl (fun _ => 0))), (q72, .inl (cA72, 640, .inl (fun _ => 0)))] := hD
  refine W.widen (k := 36) (n := 1118040) (Nat.le_of_ble_eq_true rfl) (Nat.le_of_ble_eq_true rfl) ?_
  refine va_putF (D := (dC, dI)) (ci := 12) (v := .ref q72) (ty := (.array .int)) (C := RX11) (T := TX11) (N := 63) hx hb hts in_c_X11_init_X11 tyX11 tyX11_ok nmX11 hown hK hP hD hS 0 rfl rfl 39 (by decide) (hts (.fieldLink RX11 123 "ClaimBusModel" "messages" "[I") (List.mem_of_getElem? (i := 45) rfl)) (fun _ h9 => h9) rfl hin rfl (by decide +kernel) rfl rfl (by rw [hl_fs_71]; decide) dX11_init_307 (fun H locs hP hD hS => ?_)
  obtain ⟨fs_73, efs_73⟩ : ∃ z : List Value, z = fs_71.set 39 (.ref q72) := ⟨_, rfl⟩
  rw [← efs_73] at hP hD
  have hl_fs_73 : fs_73.length = 63 := by rw [efs_73, List.length_set]; exact hl_fs_71
  have h0_fs_73 : fs_73[0]? = some (.int 0) := by rw [efs_73, List.getElem?_set_ne (by decide)]; exact h0_fs_71
  have h1_fs_73 : fs_73[1]? = some (.int 0) := by rw [efs_73, List.getElem?_set_ne (by decide)]; exact h1_fs_71
  have h46_fs_73 : fs_73[46]? = some (.int 0) := by rw [efs_73, List.getElem?_set_ne (by decide)]; exact h46_fs_71
  have h47_fs_73 : fs_73[47]? = some (.int 0) := by rw [efs_73, List.getElem?_set_ne (by decide)]; exact h47_fs_71
  have h48_fs_73 : fs_73[48]? = some (.int 0) := by rw [efs_73, List.getElem?_set_ne (by decide)]; exact h48_fs_71
  have h50_fs_73 : fs_73[50]? = some (.int 0) := by rw [efs_73, List.getElem?_set_ne (by decide)]; exact h50_fs_71
  have h51_fs_73 : fs_73[51]? = some (.int 0) := by rw [efs_73, List.getElem?_set_ne (by decide)]; exact h51_fs_71
  have h52_fs_73 : fs_73[52]? = some (.int 0) := by rw [efs_73, List.getElem?_set_ne (by decide)]; exact h52_fs_71
  have h2_fs_73 : fs_73[2]? = some (.ref q1) := by rw [efs_73, List.getElem?_set_ne (by decide)]; exact h2_fs_71
  have h3_fs_73 : fs_73[3]? = some (.ref q3) := by rw [efs_73, List.getElem?_set_ne (by decide)]; exact h3_fs_71
  have h4_fs_73 : fs_73[4]? = some (.ref q5) := by rw [efs_73, List.getElem?_set_ne (by decide)]; exact h4_fs_71
  have h5_fs_73 : fs_73[5]? = some (.ref q7) := by rw [efs_73, List.getElem?_set_ne (by decide)]; exact h5_fs_71
  have h6_fs_73 : fs_73[6]? = some (.ref q9) := by rw [efs_73, List.getElem?_set_ne (by decide)]; exact h6_fs_71
  have h9_fs_73 : fs_73[9]? = some (.ref q15) := by rw [efs_73, List.getElem?_set_ne (by decide)]; exact h9_fs_71
  have h27_fs_73 : fs_73[27]? = some (.ref q48) := by rw [efs_73, List.getElem?_set_ne (by decide)]; exact h27_fs_71
  replace hP : va_P (dC, dI) vwCl [(h0, .inr (12, fs_73)), (q1, .inl (cA1, 8, .inr (.inl (fun _ => 0)))), (q3, .inl (cA3, 8, .inl (fun _ => 0))), (q5, .inl (cA5, 8, .inl (fun _ => 0))), (q7, .inl (cA7, 8, .inl (fun _ => 0))), (q9, .inl (cA9, 8, .inl (fun _ => 0))), (q15, .inl (cA15, 2048, .inl (fun _ => 0))), (q48, .inl (cA48, 320, .inl (fun _ => 0))), (q72, .inl (cA72, 640, .inl (fun _ => 0)))] H := hP
  replace hD : va_D A [(h0, .inr (12, fs_73)), (q1, .inl (cA1, 8, .inr (.inl (fun _ => 0)))), (q3, .inl (cA3, 8, .inl (fun _ => 0))), (q5, .inl (cA5, 8, .inl (fun _ => 0))), (q7, .inl (cA7, 8, .inl (fun _ => 0))), (q9, .inl (cA9, 8, .inl (fun _ => 0))), (q15, .inl (cA15, 2048, .inl (fun _ => 0))), (q48, .inl (cA48, 320, .inl (fun _ => 0))), (q72, .inl (cA72, 640, .inl (fun _ => 0)))] := hD
  replace hP := hP.sub (ws' := [(h0, .inr (12, fs_73)), (q1, .inl (cA1, 8, .inr (.inl (fun _ => 0)))), (q3, .inl (cA3, 8, .inl (fun _ => 0))), (q5, .inl (cA5, 8, .inl (fun _ => 0))), (q7, .inl (cA7, 8, .inl (fun _ => 0))), (q9, .inl (cA9, 8, .inl (fun _ => 0))), (q15, .inl (cA15, 2048, .inl (fun _ => 0))), (q48, .inl (cA48, 320, .inl (fun _ => 0)))]) [0, 1, 2, 3, 4, 5, 6, 7] rfl
  replace hD := hD.sub (ws' := [(h0, .inr (12, fs_73)), (q1, .inl (cA1, 8, .inr (.inl (fun _ => 0)))), (q3, .inl (cA3, 8, .inl (fun _ => 0))), (q5, .inl (cA5, 8, .inl (fun _ => 0))), (q7, .inl (cA7, 8, .inl (fun _ => 0))), (q9, .inl (cA9, 8, .inl (fun _ => 0))), (q15, .inl (cA15, 2048, .inl (fun _ => 0))), (q48, .inl (cA48, 320, .inl (fun _ => 0)))]) [0, 1, 2, 3, 4, 5, 6, 7] (by decide) rfl
  refine lv_aload_n hx hb dX11_init_310 rfl (lv_at hl 0 rfl) ?_
  refine lv_bipush (v := 8) hx hb dX11_init_311 (by decide) ?_
  refine va_newa (atype := .int) (ty := .int) (N' := 8) (a0 := (8, .inl (fun _ => 0))) hx hb (hts (.arrayClass .int) (List.mem_of_getElem? (i := 6) rfl)) rfl hK hP hD hS hA (fun _ => rfl) (by decide) (by decide) (Nat.le_of_ble_eq_true rfl) (Nat.le_of_ble_eq_true rfl) (Nat.le_of_ble_eq_true rfl) dX11_init_313 (fun q74 cA74 H hK hP hD hS => ?_)
  replace hK : va_K (dC, dI) vwCl [(cA1, .long), (cA3, .int), (cA5, .int), (cA7, .boolean), (cA9, .int), (cA11, .int), (cA13, .int), (cA15, .int), (cA17, .int), (cA19, .int), (cA21, .int), (cA23, .int), (cA25, .int), (cA27, .int), (cA29, .int), (cA32, .boolean), (cA34, .int), (cA36, .int), (cA38, .int), (cA40, .int), (cA42, .int), (cA44, .int), (cA46, .int), (cA48, .int), (cA50, .boolean), (cA52, .int), (cA54, .int), (cA56, .int), (cA58, .int), (cA60, .int), (cA62, .int), (cA64, .int), (cA66, .int), (cA68, .int), (cA70, .int), (cA72, .int), (cA74, .int)] s := hK
  replace hP : va_P (dC, dI) vwCl [(h0, .inr (12, fs_73)), (q1, .inl (cA1, 8, .inr (.inl (fun _ => 0)))), (q3, .inl (cA3, 8, .inl (fun _ => 0))), (q5, .inl (cA5, 8, .inl (fun _ => 0))), (q7, .inl (cA7, 8, .inl (fun _ => 0))), (q9, .inl (cA9, 8, .inl (fun _ => 0))), (q15, .inl (cA15, 2048, .inl (fun _ => 0))), (q48, .inl (cA48, 320, .inl (fun _ => 0))), (q74, .inl (cA74, 8, .inl (fun _ => 0)))] H := hP
  replace hD : va_D A [(h0, .inr (12, fs_73)), (q1, .inl (cA1, 8, .inr (.inl (fun _ => 0)))), (q3, .inl (cA3, 8, .inl (fun _ => 0))), (q5, .inl (cA5, 8, .inl (fun _ => 0))), (q7, .inl (cA7, 8, .inl (fun _ => 0))), (q9, .inl (cA9, 8, .inl (fun _ => 0))), (q15, .inl (cA15, 2048, .inl (fun _ => 0))), (q48, .inl (cA48, 320, .inl (fun _ => 0))), (q74, .inl (cA74, 8, .inl (fun _ => 0)))] := hD
  refine W.widen (k := 37) (n := 1118048) (Nat.le_of_ble_eq_true rfl) (Nat.le_of_ble_eq_true rfl) ?_
  refine va_putF (D := (dC, dI)) (ci := 12) (v := .ref q74) (ty := (.array .int)) (C := RX11) (T := TX11) (N := 63) hx hb hts in_c_X11_init_X11 tyX11 tyX11_ok nmX11 hown hK hP hD hS 0 rfl rfl 40 (by decide) (hts (.fieldLink RX11 126 "ClaimBusModel" "lose" "[I") (List.mem_of_getElem? (i := 46) rfl)) (fun _ h9 => h9) rfl hin rfl (by decide +kernel) rfl rfl (by rw [hl_fs_73]; decide) dX11_init_315 (fun H locs hP hD hS => ?_)
  obtain ⟨fs_75, efs_75⟩ : ∃ z : List Value, z = fs_73.set 40 (.ref q74) := ⟨_, rfl⟩
  rw [← efs_75] at hP hD
  have hl_fs_75 : fs_75.length = 63 := by rw [efs_75, List.length_set]; exact hl_fs_73
  have h0_fs_75 : fs_75[0]? = some (.int 0) := by rw [efs_75, List.getElem?_set_ne (by decide)]; exact h0_fs_73
  have h1_fs_75 : fs_75[1]? = some (.int 0) := by rw [efs_75, List.getElem?_set_ne (by decide)]; exact h1_fs_73
  have h46_fs_75 : fs_75[46]? = some (.int 0) := by rw [efs_75, List.getElem?_set_ne (by decide)]; exact h46_fs_73
  have h47_fs_75 : fs_75[47]? = some (.int 0) := by rw [efs_75, List.getElem?_set_ne (by decide)]; exact h47_fs_73
  have h48_fs_75 : fs_75[48]? = some (.int 0) := by rw [efs_75, List.getElem?_set_ne (by decide)]; exact h48_fs_73
  have h50_fs_75 : fs_75[50]? = some (.int 0) := by rw [efs_75, List.getElem?_set_ne (by decide)]; exact h50_fs_73
  have h51_fs_75 : fs_75[51]? = some (.int 0) := by rw [efs_75, List.getElem?_set_ne (by decide)]; exact h51_fs_73
  have h52_fs_75 : fs_75[52]? = some (.int 0) := by rw [efs_75, List.getElem?_set_ne (by decide)]; exact h52_fs_73
  have h2_fs_75 : fs_75[2]? = some (.ref q1) := by rw [efs_75, List.getElem?_set_ne (by decide)]; exact h2_fs_73
  have h3_fs_75 : fs_75[3]? = some (.ref q3) := by rw [efs_75, List.getElem?_set_ne (by decide)]; exact h3_fs_73
  have h4_fs_75 : fs_75[4]? = some (.ref q5) := by rw [efs_75, List.getElem?_set_ne (by decide)]; exact h4_fs_73
  have h5_fs_75 : fs_75[5]? = some (.ref q7) := by rw [efs_75, List.getElem?_set_ne (by decide)]; exact h5_fs_73
  have h6_fs_75 : fs_75[6]? = some (.ref q9) := by rw [efs_75, List.getElem?_set_ne (by decide)]; exact h6_fs_73
  have h9_fs_75 : fs_75[9]? = some (.ref q15) := by rw [efs_75, List.getElem?_set_ne (by decide)]; exact h9_fs_73
  have h27_fs_75 : fs_75[27]? = some (.ref q48) := by rw [efs_75, List.getElem?_set_ne (by decide)]; exact h27_fs_73
  replace hP : va_P (dC, dI) vwCl [(h0, .inr (12, fs_75)), (q1, .inl (cA1, 8, .inr (.inl (fun _ => 0)))), (q3, .inl (cA3, 8, .inl (fun _ => 0))), (q5, .inl (cA5, 8, .inl (fun _ => 0))), (q7, .inl (cA7, 8, .inl (fun _ => 0))), (q9, .inl (cA9, 8, .inl (fun _ => 0))), (q15, .inl (cA15, 2048, .inl (fun _ => 0))), (q48, .inl (cA48, 320, .inl (fun _ => 0))), (q74, .inl (cA74, 8, .inl (fun _ => 0)))] H := hP
  replace hD : va_D A [(h0, .inr (12, fs_75)), (q1, .inl (cA1, 8, .inr (.inl (fun _ => 0)))), (q3, .inl (cA3, 8, .inl (fun _ => 0))), (q5, .inl (cA5, 8, .inl (fun _ => 0))), (q7, .inl (cA7, 8, .inl (fun _ => 0))), (q9, .inl (cA9, 8, .inl (fun _ => 0))), (q15, .inl (cA15, 2048, .inl (fun _ => 0))), (q48, .inl (cA48, 320, .inl (fun _ => 0))), (q74, .inl (cA74, 8, .inl (fun _ => 0)))] := hD
  replace hP := hP.sub (ws' := [(h0, .inr (12, fs_75)), (q1, .inl (cA1, 8, .inr (.inl (fun _ => 0)))), (q3, .inl (cA3, 8, .inl (fun _ => 0))), (q5, .inl (cA5, 8, .inl (fun _ => 0))), (q7, .inl (cA7, 8, .inl (fun _ => 0))), (q9, .inl (cA9, 8, .inl (fun _ => 0))), (q15, .inl (cA15, 2048, .inl (fun _ => 0))), (q48, .inl (cA48, 320, .inl (fun _ => 0)))]) [0, 1, 2, 3, 4, 5, 6, 7] rfl
  replace hD := hD.sub (ws' := [(h0, .inr (12, fs_75)), (q1, .inl (cA1, 8, .inr (.inl (fun _ => 0)))), (q3, .inl (cA3, 8, .inl (fun _ => 0))), (q5, .inl (cA5, 8, .inl (fun _ => 0))), (q7, .inl (cA7, 8, .inl (fun _ => 0))), (q9, .inl (cA9, 8, .inl (fun _ => 0))), (q15, .inl (cA15, 2048, .inl (fun _ => 0))), (q48, .inl (cA48, 320, .inl (fun _ => 0)))]) [0, 1, 2, 3, 4, 5, 6, 7] (by decide) rfl
  refine lv_aload_n hx hb dX11_init_318 rfl (lv_at hl 0 rfl) ?_
  refine lv_bipush (v := 8) hx hb dX11_init_319 (by decide) ?_
  refine va_newa (atype := .int) (ty := .int) (N' := 8) (a0 := (8, .inl (fun _ => 0))) hx hb (hts (.arrayClass .int) (List.mem_of_getElem? (i := 6) rfl)) rfl hK hP hD hS hA (fun _ => rfl) (by decide) (by decide) (Nat.le_of_ble_eq_true rfl) (Nat.le_of_ble_eq_true rfl) (Nat.le_of_ble_eq_true rfl) dX11_init_321 (fun q76 cA76 H hK hP hD hS => ?_)
  replace hK : va_K (dC, dI) vwCl [(cA1, .long), (cA3, .int), (cA5, .int), (cA7, .boolean), (cA9, .int), (cA11, .int), (cA13, .int), (cA15, .int), (cA17, .int), (cA19, .int), (cA21, .int), (cA23, .int), (cA25, .int), (cA27, .int), (cA29, .int), (cA32, .boolean), (cA34, .int), (cA36, .int), (cA38, .int), (cA40, .int), (cA42, .int), (cA44, .int), (cA46, .int), (cA48, .int), (cA50, .boolean), (cA52, .int), (cA54, .int), (cA56, .int), (cA58, .int), (cA60, .int), (cA62, .int), (cA64, .int), (cA66, .int), (cA68, .int), (cA70, .int), (cA72, .int), (cA74, .int), (cA76, .int)] s := hK
  replace hP : va_P (dC, dI) vwCl [(h0, .inr (12, fs_75)), (q1, .inl (cA1, 8, .inr (.inl (fun _ => 0)))), (q3, .inl (cA3, 8, .inl (fun _ => 0))), (q5, .inl (cA5, 8, .inl (fun _ => 0))), (q7, .inl (cA7, 8, .inl (fun _ => 0))), (q9, .inl (cA9, 8, .inl (fun _ => 0))), (q15, .inl (cA15, 2048, .inl (fun _ => 0))), (q48, .inl (cA48, 320, .inl (fun _ => 0))), (q76, .inl (cA76, 8, .inl (fun _ => 0)))] H := hP
  replace hD : va_D A [(h0, .inr (12, fs_75)), (q1, .inl (cA1, 8, .inr (.inl (fun _ => 0)))), (q3, .inl (cA3, 8, .inl (fun _ => 0))), (q5, .inl (cA5, 8, .inl (fun _ => 0))), (q7, .inl (cA7, 8, .inl (fun _ => 0))), (q9, .inl (cA9, 8, .inl (fun _ => 0))), (q15, .inl (cA15, 2048, .inl (fun _ => 0))), (q48, .inl (cA48, 320, .inl (fun _ => 0))), (q76, .inl (cA76, 8, .inl (fun _ => 0)))] := hD
  refine W.widen (k := 38) (n := 1118056) (Nat.le_of_ble_eq_true rfl) (Nat.le_of_ble_eq_true rfl) ?_
  refine va_putF (D := (dC, dI)) (ci := 12) (v := .ref q76) (ty := (.array .int)) (C := RX11) (T := TX11) (N := 63) hx hb hts in_c_X11_init_X11 tyX11 tyX11_ok nmX11 hown hK hP hD hS 0 rfl rfl 41 (by decide) (hts (.fieldLink RX11 129 "ClaimBusModel" "lost" "[I") (List.mem_of_getElem? (i := 47) rfl)) (fun _ h9 => h9) rfl hin rfl (by decide +kernel) rfl rfl (by rw [hl_fs_75]; decide) dX11_init_323 (fun H locs hP hD hS => ?_)
  obtain ⟨fs_77, efs_77⟩ : ∃ z : List Value, z = fs_75.set 41 (.ref q76) := ⟨_, rfl⟩
  rw [← efs_77] at hP hD
  have hl_fs_77 : fs_77.length = 63 := by rw [efs_77, List.length_set]; exact hl_fs_75
  have h0_fs_77 : fs_77[0]? = some (.int 0) := by rw [efs_77, List.getElem?_set_ne (by decide)]; exact h0_fs_75
  have h1_fs_77 : fs_77[1]? = some (.int 0) := by rw [efs_77, List.getElem?_set_ne (by decide)]; exact h1_fs_75
  have h46_fs_77 : fs_77[46]? = some (.int 0) := by rw [efs_77, List.getElem?_set_ne (by decide)]; exact h46_fs_75
  have h47_fs_77 : fs_77[47]? = some (.int 0) := by rw [efs_77, List.getElem?_set_ne (by decide)]; exact h47_fs_75
  have h48_fs_77 : fs_77[48]? = some (.int 0) := by rw [efs_77, List.getElem?_set_ne (by decide)]; exact h48_fs_75
  have h50_fs_77 : fs_77[50]? = some (.int 0) := by rw [efs_77, List.getElem?_set_ne (by decide)]; exact h50_fs_75
  have h51_fs_77 : fs_77[51]? = some (.int 0) := by rw [efs_77, List.getElem?_set_ne (by decide)]; exact h51_fs_75
  have h52_fs_77 : fs_77[52]? = some (.int 0) := by rw [efs_77, List.getElem?_set_ne (by decide)]; exact h52_fs_75
  have h2_fs_77 : fs_77[2]? = some (.ref q1) := by rw [efs_77, List.getElem?_set_ne (by decide)]; exact h2_fs_75
  have h3_fs_77 : fs_77[3]? = some (.ref q3) := by rw [efs_77, List.getElem?_set_ne (by decide)]; exact h3_fs_75
  have h4_fs_77 : fs_77[4]? = some (.ref q5) := by rw [efs_77, List.getElem?_set_ne (by decide)]; exact h4_fs_75
  have h5_fs_77 : fs_77[5]? = some (.ref q7) := by rw [efs_77, List.getElem?_set_ne (by decide)]; exact h5_fs_75
  have h6_fs_77 : fs_77[6]? = some (.ref q9) := by rw [efs_77, List.getElem?_set_ne (by decide)]; exact h6_fs_75
  have h9_fs_77 : fs_77[9]? = some (.ref q15) := by rw [efs_77, List.getElem?_set_ne (by decide)]; exact h9_fs_75
  have h27_fs_77 : fs_77[27]? = some (.ref q48) := by rw [efs_77, List.getElem?_set_ne (by decide)]; exact h27_fs_75
  replace hP : va_P (dC, dI) vwCl [(h0, .inr (12, fs_77)), (q1, .inl (cA1, 8, .inr (.inl (fun _ => 0)))), (q3, .inl (cA3, 8, .inl (fun _ => 0))), (q5, .inl (cA5, 8, .inl (fun _ => 0))), (q7, .inl (cA7, 8, .inl (fun _ => 0))), (q9, .inl (cA9, 8, .inl (fun _ => 0))), (q15, .inl (cA15, 2048, .inl (fun _ => 0))), (q48, .inl (cA48, 320, .inl (fun _ => 0))), (q76, .inl (cA76, 8, .inl (fun _ => 0)))] H := hP
  replace hD : va_D A [(h0, .inr (12, fs_77)), (q1, .inl (cA1, 8, .inr (.inl (fun _ => 0)))), (q3, .inl (cA3, 8, .inl (fun _ => 0))), (q5, .inl (cA5, 8, .inl (fun _ => 0))), (q7, .inl (cA7, 8, .inl (fun _ => 0))), (q9, .inl (cA9, 8, .inl (fun _ => 0))), (q15, .inl (cA15, 2048, .inl (fun _ => 0))), (q48, .inl (cA48, 320, .inl (fun _ => 0))), (q76, .inl (cA76, 8, .inl (fun _ => 0)))] := hD
  replace hP := hP.sub (ws' := [(h0, .inr (12, fs_77)), (q1, .inl (cA1, 8, .inr (.inl (fun _ => 0)))), (q3, .inl (cA3, 8, .inl (fun _ => 0))), (q5, .inl (cA5, 8, .inl (fun _ => 0))), (q7, .inl (cA7, 8, .inl (fun _ => 0))), (q9, .inl (cA9, 8, .inl (fun _ => 0))), (q15, .inl (cA15, 2048, .inl (fun _ => 0))), (q48, .inl (cA48, 320, .inl (fun _ => 0)))]) [0, 1, 2, 3, 4, 5, 6, 7] rfl
  replace hD := hD.sub (ws' := [(h0, .inr (12, fs_77)), (q1, .inl (cA1, 8, .inr (.inl (fun _ => 0)))), (q3, .inl (cA3, 8, .inl (fun _ => 0))), (q5, .inl (cA5, 8, .inl (fun _ => 0))), (q7, .inl (cA7, 8, .inl (fun _ => 0))), (q9, .inl (cA9, 8, .inl (fun _ => 0))), (q15, .inl (cA15, 2048, .inl (fun _ => 0))), (q48, .inl (cA48, 320, .inl (fun _ => 0)))]) [0, 1, 2, 3, 4, 5, 6, 7] (by decide) rfl
  refine lv_aload_n hx hb dX11_init_326 rfl (lv_at hl 0 rfl) ?_
  refine lv_bipush (v := 8) hx hb dX11_init_327 (by decide) ?_
  refine va_newa (atype := .int) (ty := .int) (N' := 8) (a0 := (8, .inl (fun _ => 0))) hx hb (hts (.arrayClass .int) (List.mem_of_getElem? (i := 6) rfl)) rfl hK hP hD hS hA (fun _ => rfl) (by decide) (by decide) (Nat.le_of_ble_eq_true rfl) (Nat.le_of_ble_eq_true rfl) (Nat.le_of_ble_eq_true rfl) dX11_init_329 (fun q78 cA78 H hK hP hD hS => ?_)
  replace hK : va_K (dC, dI) vwCl [(cA1, .long), (cA3, .int), (cA5, .int), (cA7, .boolean), (cA9, .int), (cA11, .int), (cA13, .int), (cA15, .int), (cA17, .int), (cA19, .int), (cA21, .int), (cA23, .int), (cA25, .int), (cA27, .int), (cA29, .int), (cA32, .boolean), (cA34, .int), (cA36, .int), (cA38, .int), (cA40, .int), (cA42, .int), (cA44, .int), (cA46, .int), (cA48, .int), (cA50, .boolean), (cA52, .int), (cA54, .int), (cA56, .int), (cA58, .int), (cA60, .int), (cA62, .int), (cA64, .int), (cA66, .int), (cA68, .int), (cA70, .int), (cA72, .int), (cA74, .int), (cA76, .int), (cA78, .int)] s := hK
  replace hP : va_P (dC, dI) vwCl [(h0, .inr (12, fs_77)), (q1, .inl (cA1, 8, .inr (.inl (fun _ => 0)))), (q3, .inl (cA3, 8, .inl (fun _ => 0))), (q5, .inl (cA5, 8, .inl (fun _ => 0))), (q7, .inl (cA7, 8, .inl (fun _ => 0))), (q9, .inl (cA9, 8, .inl (fun _ => 0))), (q15, .inl (cA15, 2048, .inl (fun _ => 0))), (q48, .inl (cA48, 320, .inl (fun _ => 0))), (q78, .inl (cA78, 8, .inl (fun _ => 0)))] H := hP
  replace hD : va_D A [(h0, .inr (12, fs_77)), (q1, .inl (cA1, 8, .inr (.inl (fun _ => 0)))), (q3, .inl (cA3, 8, .inl (fun _ => 0))), (q5, .inl (cA5, 8, .inl (fun _ => 0))), (q7, .inl (cA7, 8, .inl (fun _ => 0))), (q9, .inl (cA9, 8, .inl (fun _ => 0))), (q15, .inl (cA15, 2048, .inl (fun _ => 0))), (q48, .inl (cA48, 320, .inl (fun _ => 0))), (q78, .inl (cA78, 8, .inl (fun _ => 0)))] := hD
  refine W.widen (k := 39) (n := 1118064) (Nat.le_of_ble_eq_true rfl) (Nat.le_of_ble_eq_true rfl) ?_
  refine va_putF (D := (dC, dI)) (ci := 12) (v := .ref q78) (ty := (.array .int)) (C := RX11) (T := TX11) (N := 63) hx hb hts in_c_X11_init_X11 tyX11 tyX11_ok nmX11 hown hK hP hD hS 0 rfl rfl 42 (by decide) (hts (.fieldLink RX11 132 "ClaimBusModel" "troubles" "[I") (List.mem_of_getElem? (i := 48) rfl)) (fun _ h9 => h9) rfl hin rfl (by decide +kernel) rfl rfl (by rw [hl_fs_77]; decide) dX11_init_331 (fun H locs hP hD hS => ?_)
  obtain ⟨fs_79, efs_79⟩ : ∃ z : List Value, z = fs_77.set 42 (.ref q78) := ⟨_, rfl⟩
  rw [← efs_79] at hP hD
  have hl_fs_79 : fs_79.length = 63 := by rw [efs_79, List.length_set]; exact hl_fs_77
  have h0_fs_79 : fs_79[0]? = some (.int 0) := by rw [efs_79, List.getElem?_set_ne (by decide)]; exact h0_fs_77
  have h1_fs_79 : fs_79[1]? = some (.int 0) := by rw [efs_79, List.getElem?_set_ne (by decide)]; exact h1_fs_77
  have h46_fs_79 : fs_79[46]? = some (.int 0) := by rw [efs_79, List.getElem?_set_ne (by decide)]; exact h46_fs_77
  have h47_fs_79 : fs_79[47]? = some (.int 0) := by rw [efs_79, List.getElem?_set_ne (by decide)]; exact h47_fs_77
  have h48_fs_79 : fs_79[48]? = some (.int 0) := by rw [efs_79, List.getElem?_set_ne (by decide)]; exact h48_fs_77
  have h50_fs_79 : fs_79[50]? = some (.int 0) := by rw [efs_79, List.getElem?_set_ne (by decide)]; exact h50_fs_77
  have h51_fs_79 : fs_79[51]? = some (.int 0) := by rw [efs_79, List.getElem?_set_ne (by decide)]; exact h51_fs_77
  have h52_fs_79 : fs_79[52]? = some (.int 0) := by rw [efs_79, List.getElem?_set_ne (by decide)]; exact h52_fs_77
  have h2_fs_79 : fs_79[2]? = some (.ref q1) := by rw [efs_79, List.getElem?_set_ne (by decide)]; exact h2_fs_77
  have h3_fs_79 : fs_79[3]? = some (.ref q3) := by rw [efs_79, List.getElem?_set_ne (by decide)]; exact h3_fs_77
  have h4_fs_79 : fs_79[4]? = some (.ref q5) := by rw [efs_79, List.getElem?_set_ne (by decide)]; exact h4_fs_77
  have h5_fs_79 : fs_79[5]? = some (.ref q7) := by rw [efs_79, List.getElem?_set_ne (by decide)]; exact h5_fs_77
  have h6_fs_79 : fs_79[6]? = some (.ref q9) := by rw [efs_79, List.getElem?_set_ne (by decide)]; exact h6_fs_77
  have h9_fs_79 : fs_79[9]? = some (.ref q15) := by rw [efs_79, List.getElem?_set_ne (by decide)]; exact h9_fs_77
  have h27_fs_79 : fs_79[27]? = some (.ref q48) := by rw [efs_79, List.getElem?_set_ne (by decide)]; exact h27_fs_77
  replace hP : va_P (dC, dI) vwCl [(h0, .inr (12, fs_79)), (q1, .inl (cA1, 8, .inr (.inl (fun _ => 0)))), (q3, .inl (cA3, 8, .inl (fun _ => 0))), (q5, .inl (cA5, 8, .inl (fun _ => 0))), (q7, .inl (cA7, 8, .inl (fun _ => 0))), (q9, .inl (cA9, 8, .inl (fun _ => 0))), (q15, .inl (cA15, 2048, .inl (fun _ => 0))), (q48, .inl (cA48, 320, .inl (fun _ => 0))), (q78, .inl (cA78, 8, .inl (fun _ => 0)))] H := hP
  replace hD : va_D A [(h0, .inr (12, fs_79)), (q1, .inl (cA1, 8, .inr (.inl (fun _ => 0)))), (q3, .inl (cA3, 8, .inl (fun _ => 0))), (q5, .inl (cA5, 8, .inl (fun _ => 0))), (q7, .inl (cA7, 8, .inl (fun _ => 0))), (q9, .inl (cA9, 8, .inl (fun _ => 0))), (q15, .inl (cA15, 2048, .inl (fun _ => 0))), (q48, .inl (cA48, 320, .inl (fun _ => 0))), (q78, .inl (cA78, 8, .inl (fun _ => 0)))] := hD
  replace hP := hP.sub (ws' := [(h0, .inr (12, fs_79)), (q1, .inl (cA1, 8, .inr (.inl (fun _ => 0)))), (q3, .inl (cA3, 8, .inl (fun _ => 0))), (q5, .inl (cA5, 8, .inl (fun _ => 0))), (q7, .inl (cA7, 8, .inl (fun _ => 0))), (q9, .inl (cA9, 8, .inl (fun _ => 0))), (q15, .inl (cA15, 2048, .inl (fun _ => 0))), (q48, .inl (cA48, 320, .inl (fun _ => 0)))]) [0, 1, 2, 3, 4, 5, 6, 7] rfl
  replace hD := hD.sub (ws' := [(h0, .inr (12, fs_79)), (q1, .inl (cA1, 8, .inr (.inl (fun _ => 0)))), (q3, .inl (cA3, 8, .inl (fun _ => 0))), (q5, .inl (cA5, 8, .inl (fun _ => 0))), (q7, .inl (cA7, 8, .inl (fun _ => 0))), (q9, .inl (cA9, 8, .inl (fun _ => 0))), (q15, .inl (cA15, 2048, .inl (fun _ => 0))), (q48, .inl (cA48, 320, .inl (fun _ => 0)))]) [0, 1, 2, 3, 4, 5, 6, 7] (by decide) rfl
  refine lv_aload_n hx hb dX11_init_334 rfl (lv_at hl 0 rfl) ?_
  refine lv_sipush (v := 240) hx hb dX11_init_335 (by decide) ?_
  refine va_newa (atype := .int) (ty := .int) (N' := 240) (a0 := (240, .inl (fun _ => 0))) hx hb (hts (.arrayClass .int) (List.mem_of_getElem? (i := 6) rfl)) rfl hK hP hD hS hA (fun _ => rfl) (by decide) (by decide) (Nat.le_of_ble_eq_true rfl) (Nat.le_of_ble_eq_true rfl) (Nat.le_of_ble_eq_true rfl) dX11_init_338 (fun q80 cA80 H hK hP hD hS => ?_)
  replace hK : va_K (dC, dI) vwCl [(cA1, .long), (cA3, .int), (cA5, .int), (cA7, .boolean), (cA9, .int), (cA11, .int), (cA13, .int), (cA15, .int), (cA17, .int), (cA19, .int), (cA21, .int), (cA23, .int), (cA25, .int), (cA27, .int), (cA29, .int), (cA32, .boolean), (cA34, .int), (cA36, .int), (cA38, .int), (cA40, .int), (cA42, .int), (cA44, .int), (cA46, .int), (cA48, .int), (cA50, .boolean), (cA52, .int), (cA54, .int), (cA56, .int), (cA58, .int), (cA60, .int), (cA62, .int), (cA64, .int), (cA66, .int), (cA68, .int), (cA70, .int), (cA72, .int), (cA74, .int), (cA76, .int), (cA78, .int), (cA80, .int)] s := hK
  replace hP : va_P (dC, dI) vwCl [(h0, .inr (12, fs_79)), (q1, .inl (cA1, 8, .inr (.inl (fun _ => 0)))), (q3, .inl (cA3, 8, .inl (fun _ => 0))), (q5, .inl (cA5, 8, .inl (fun _ => 0))), (q7, .inl (cA7, 8, .inl (fun _ => 0))), (q9, .inl (cA9, 8, .inl (fun _ => 0))), (q15, .inl (cA15, 2048, .inl (fun _ => 0))), (q48, .inl (cA48, 320, .inl (fun _ => 0))), (q80, .inl (cA80, 240, .inl (fun _ => 0)))] H := hP
  replace hD : va_D A [(h0, .inr (12, fs_79)), (q1, .inl (cA1, 8, .inr (.inl (fun _ => 0)))), (q3, .inl (cA3, 8, .inl (fun _ => 0))), (q5, .inl (cA5, 8, .inl (fun _ => 0))), (q7, .inl (cA7, 8, .inl (fun _ => 0))), (q9, .inl (cA9, 8, .inl (fun _ => 0))), (q15, .inl (cA15, 2048, .inl (fun _ => 0))), (q48, .inl (cA48, 320, .inl (fun _ => 0))), (q80, .inl (cA80, 240, .inl (fun _ => 0)))] := hD
  refine W.widen (k := 40) (n := 1118304) (Nat.le_of_ble_eq_true rfl) (Nat.le_of_ble_eq_true rfl) ?_
  refine va_putF (D := (dC, dI)) (ci := 12) (v := .ref q80) (ty := (.array .int)) (C := RX11) (T := TX11) (N := 63) hx hb hts in_c_X11_init_X11 tyX11 tyX11_ok nmX11 hown hK hP hD hS 0 rfl rfl 43 (by decide) (hts (.fieldLink RX11 135 "ClaimBusModel" "trouble" "[I") (List.mem_of_getElem? (i := 49) rfl)) (fun _ h9 => h9) rfl hin rfl (by decide +kernel) rfl rfl (by rw [hl_fs_79]; decide) dX11_init_340 (fun H locs hP hD hS => ?_)
  obtain ⟨fs_81, efs_81⟩ : ∃ z : List Value, z = fs_79.set 43 (.ref q80) := ⟨_, rfl⟩
  rw [← efs_81] at hP hD
  have hl_fs_81 : fs_81.length = 63 := by rw [efs_81, List.length_set]; exact hl_fs_79
  have h0_fs_81 : fs_81[0]? = some (.int 0) := by rw [efs_81, List.getElem?_set_ne (by decide)]; exact h0_fs_79
  have h1_fs_81 : fs_81[1]? = some (.int 0) := by rw [efs_81, List.getElem?_set_ne (by decide)]; exact h1_fs_79
  have h46_fs_81 : fs_81[46]? = some (.int 0) := by rw [efs_81, List.getElem?_set_ne (by decide)]; exact h46_fs_79
  have h47_fs_81 : fs_81[47]? = some (.int 0) := by rw [efs_81, List.getElem?_set_ne (by decide)]; exact h47_fs_79
  have h48_fs_81 : fs_81[48]? = some (.int 0) := by rw [efs_81, List.getElem?_set_ne (by decide)]; exact h48_fs_79
  have h50_fs_81 : fs_81[50]? = some (.int 0) := by rw [efs_81, List.getElem?_set_ne (by decide)]; exact h50_fs_79
  have h51_fs_81 : fs_81[51]? = some (.int 0) := by rw [efs_81, List.getElem?_set_ne (by decide)]; exact h51_fs_79
  have h52_fs_81 : fs_81[52]? = some (.int 0) := by rw [efs_81, List.getElem?_set_ne (by decide)]; exact h52_fs_79
  have h2_fs_81 : fs_81[2]? = some (.ref q1) := by rw [efs_81, List.getElem?_set_ne (by decide)]; exact h2_fs_79
  have h3_fs_81 : fs_81[3]? = some (.ref q3) := by rw [efs_81, List.getElem?_set_ne (by decide)]; exact h3_fs_79
  have h4_fs_81 : fs_81[4]? = some (.ref q5) := by rw [efs_81, List.getElem?_set_ne (by decide)]; exact h4_fs_79
  have h5_fs_81 : fs_81[5]? = some (.ref q7) := by rw [efs_81, List.getElem?_set_ne (by decide)]; exact h5_fs_79
  have h6_fs_81 : fs_81[6]? = some (.ref q9) := by rw [efs_81, List.getElem?_set_ne (by decide)]; exact h6_fs_79
  have h9_fs_81 : fs_81[9]? = some (.ref q15) := by rw [efs_81, List.getElem?_set_ne (by decide)]; exact h9_fs_79
  have h27_fs_81 : fs_81[27]? = some (.ref q48) := by rw [efs_81, List.getElem?_set_ne (by decide)]; exact h27_fs_79
  replace hP : va_P (dC, dI) vwCl [(h0, .inr (12, fs_81)), (q1, .inl (cA1, 8, .inr (.inl (fun _ => 0)))), (q3, .inl (cA3, 8, .inl (fun _ => 0))), (q5, .inl (cA5, 8, .inl (fun _ => 0))), (q7, .inl (cA7, 8, .inl (fun _ => 0))), (q9, .inl (cA9, 8, .inl (fun _ => 0))), (q15, .inl (cA15, 2048, .inl (fun _ => 0))), (q48, .inl (cA48, 320, .inl (fun _ => 0))), (q80, .inl (cA80, 240, .inl (fun _ => 0)))] H := hP
  replace hD : va_D A [(h0, .inr (12, fs_81)), (q1, .inl (cA1, 8, .inr (.inl (fun _ => 0)))), (q3, .inl (cA3, 8, .inl (fun _ => 0))), (q5, .inl (cA5, 8, .inl (fun _ => 0))), (q7, .inl (cA7, 8, .inl (fun _ => 0))), (q9, .inl (cA9, 8, .inl (fun _ => 0))), (q15, .inl (cA15, 2048, .inl (fun _ => 0))), (q48, .inl (cA48, 320, .inl (fun _ => 0))), (q80, .inl (cA80, 240, .inl (fun _ => 0)))] := hD
  replace hP := hP.sub (ws' := [(h0, .inr (12, fs_81)), (q1, .inl (cA1, 8, .inr (.inl (fun _ => 0)))), (q3, .inl (cA3, 8, .inl (fun _ => 0))), (q5, .inl (cA5, 8, .inl (fun _ => 0))), (q7, .inl (cA7, 8, .inl (fun _ => 0))), (q9, .inl (cA9, 8, .inl (fun _ => 0))), (q15, .inl (cA15, 2048, .inl (fun _ => 0))), (q48, .inl (cA48, 320, .inl (fun _ => 0)))]) [0, 1, 2, 3, 4, 5, 6, 7] rfl
  replace hD := hD.sub (ws' := [(h0, .inr (12, fs_81)), (q1, .inl (cA1, 8, .inr (.inl (fun _ => 0)))), (q3, .inl (cA3, 8, .inl (fun _ => 0))), (q5, .inl (cA5, 8, .inl (fun _ => 0))), (q7, .inl (cA7, 8, .inl (fun _ => 0))), (q9, .inl (cA9, 8, .inl (fun _ => 0))), (q15, .inl (cA15, 2048, .inl (fun _ => 0))), (q48, .inl (cA48, 320, .inl (fun _ => 0)))]) [0, 1, 2, 3, 4, 5, 6, 7] (by decide) rfl
  refine lv_aload_n hx hb dX11_init_343 rfl (lv_at hl 0 rfl) ?_
  refine lv_sipush (v := 2048) hx hb dX11_init_344 (by decide) ?_
  refine va_newa (atype := .int) (ty := .int) (N' := 2048) (a0 := (2048, .inl (fun _ => 0))) hx hb (hts (.arrayClass .int) (List.mem_of_getElem? (i := 6) rfl)) rfl hK hP hD hS hA (fun _ => rfl) (by decide) (by decide) (Nat.le_of_ble_eq_true rfl) (Nat.le_of_ble_eq_true rfl) (Nat.le_of_ble_eq_true rfl) dX11_init_347 (fun q82 cA82 H hK hP hD hS => ?_)
  replace hK : va_K (dC, dI) vwCl [(cA1, .long), (cA3, .int), (cA5, .int), (cA7, .boolean), (cA9, .int), (cA11, .int), (cA13, .int), (cA15, .int), (cA17, .int), (cA19, .int), (cA21, .int), (cA23, .int), (cA25, .int), (cA27, .int), (cA29, .int), (cA32, .boolean), (cA34, .int), (cA36, .int), (cA38, .int), (cA40, .int), (cA42, .int), (cA44, .int), (cA46, .int), (cA48, .int), (cA50, .boolean), (cA52, .int), (cA54, .int), (cA56, .int), (cA58, .int), (cA60, .int), (cA62, .int), (cA64, .int), (cA66, .int), (cA68, .int), (cA70, .int), (cA72, .int), (cA74, .int), (cA76, .int), (cA78, .int), (cA80, .int), (cA82, .int)] s := hK
  replace hP : va_P (dC, dI) vwCl [(h0, .inr (12, fs_81)), (q1, .inl (cA1, 8, .inr (.inl (fun _ => 0)))), (q3, .inl (cA3, 8, .inl (fun _ => 0))), (q5, .inl (cA5, 8, .inl (fun _ => 0))), (q7, .inl (cA7, 8, .inl (fun _ => 0))), (q9, .inl (cA9, 8, .inl (fun _ => 0))), (q15, .inl (cA15, 2048, .inl (fun _ => 0))), (q48, .inl (cA48, 320, .inl (fun _ => 0))), (q82, .inl (cA82, 2048, .inl (fun _ => 0)))] H := hP
  replace hD : va_D A [(h0, .inr (12, fs_81)), (q1, .inl (cA1, 8, .inr (.inl (fun _ => 0)))), (q3, .inl (cA3, 8, .inl (fun _ => 0))), (q5, .inl (cA5, 8, .inl (fun _ => 0))), (q7, .inl (cA7, 8, .inl (fun _ => 0))), (q9, .inl (cA9, 8, .inl (fun _ => 0))), (q15, .inl (cA15, 2048, .inl (fun _ => 0))), (q48, .inl (cA48, 320, .inl (fun _ => 0))), (q82, .inl (cA82, 2048, .inl (fun _ => 0)))] := hD
  refine W.widen (k := 41) (n := 1120352) (Nat.le_of_ble_eq_true rfl) (Nat.le_of_ble_eq_true rfl) ?_
  refine va_putF (D := (dC, dI)) (ci := 12) (v := .ref q82) (ty := (.array .int)) (C := RX11) (T := TX11) (N := 63) hx hb hts in_c_X11_init_X11 tyX11 tyX11_ok nmX11 hown hK hP hD hS 0 rfl rfl 44 (by decide) (hts (.fieldLink RX11 138 "ClaimBusModel" "keptMany" "[I") (List.mem_of_getElem? (i := 50) rfl)) (fun _ h9 => h9) rfl hin rfl (by decide +kernel) rfl rfl (by rw [hl_fs_81]; decide) dX11_init_349 (fun H locs hP hD hS => ?_)
  obtain ⟨fs_83, efs_83⟩ : ∃ z : List Value, z = fs_81.set 44 (.ref q82) := ⟨_, rfl⟩
  rw [← efs_83] at hP hD
  have hl_fs_83 : fs_83.length = 63 := by rw [efs_83, List.length_set]; exact hl_fs_81
  have h0_fs_83 : fs_83[0]? = some (.int 0) := by rw [efs_83, List.getElem?_set_ne (by decide)]; exact h0_fs_81
  have h1_fs_83 : fs_83[1]? = some (.int 0) := by rw [efs_83, List.getElem?_set_ne (by decide)]; exact h1_fs_81
  have h46_fs_83 : fs_83[46]? = some (.int 0) := by rw [efs_83, List.getElem?_set_ne (by decide)]; exact h46_fs_81
  have h47_fs_83 : fs_83[47]? = some (.int 0) := by rw [efs_83, List.getElem?_set_ne (by decide)]; exact h47_fs_81
  have h48_fs_83 : fs_83[48]? = some (.int 0) := by rw [efs_83, List.getElem?_set_ne (by decide)]; exact h48_fs_81
  have h50_fs_83 : fs_83[50]? = some (.int 0) := by rw [efs_83, List.getElem?_set_ne (by decide)]; exact h50_fs_81
  have h51_fs_83 : fs_83[51]? = some (.int 0) := by rw [efs_83, List.getElem?_set_ne (by decide)]; exact h51_fs_81
  have h52_fs_83 : fs_83[52]? = some (.int 0) := by rw [efs_83, List.getElem?_set_ne (by decide)]; exact h52_fs_81
  have h2_fs_83 : fs_83[2]? = some (.ref q1) := by rw [efs_83, List.getElem?_set_ne (by decide)]; exact h2_fs_81
  have h3_fs_83 : fs_83[3]? = some (.ref q3) := by rw [efs_83, List.getElem?_set_ne (by decide)]; exact h3_fs_81
  have h4_fs_83 : fs_83[4]? = some (.ref q5) := by rw [efs_83, List.getElem?_set_ne (by decide)]; exact h4_fs_81
  have h5_fs_83 : fs_83[5]? = some (.ref q7) := by rw [efs_83, List.getElem?_set_ne (by decide)]; exact h5_fs_81
  have h6_fs_83 : fs_83[6]? = some (.ref q9) := by rw [efs_83, List.getElem?_set_ne (by decide)]; exact h6_fs_81
  have h9_fs_83 : fs_83[9]? = some (.ref q15) := by rw [efs_83, List.getElem?_set_ne (by decide)]; exact h9_fs_81
  have h27_fs_83 : fs_83[27]? = some (.ref q48) := by rw [efs_83, List.getElem?_set_ne (by decide)]; exact h27_fs_81
  have h44_fs_83 : fs_83[44]? = some (.ref q82) := by rw [efs_83]; exact List.getElem?_set_self (by rw [hl_fs_81]; decide)
  replace hP : va_P (dC, dI) vwCl [(h0, .inr (12, fs_83)), (q1, .inl (cA1, 8, .inr (.inl (fun _ => 0)))), (q3, .inl (cA3, 8, .inl (fun _ => 0))), (q5, .inl (cA5, 8, .inl (fun _ => 0))), (q7, .inl (cA7, 8, .inl (fun _ => 0))), (q9, .inl (cA9, 8, .inl (fun _ => 0))), (q15, .inl (cA15, 2048, .inl (fun _ => 0))), (q48, .inl (cA48, 320, .inl (fun _ => 0))), (q82, .inl (cA82, 2048, .inl (fun _ => 0)))] H := hP
  replace hD : va_D A [(h0, .inr (12, fs_83)), (q1, .inl (cA1, 8, .inr (.inl (fun _ => 0)))), (q3, .inl (cA3, 8, .inl (fun _ => 0))), (q5, .inl (cA5, 8, .inl (fun _ => 0))), (q7, .inl (cA7, 8, .inl (fun _ => 0))), (q9, .inl (cA9, 8, .inl (fun _ => 0))), (q15, .inl (cA15, 2048, .inl (fun _ => 0))), (q48, .inl (cA48, 320, .inl (fun _ => 0))), (q82, .inl (cA82, 2048, .inl (fun _ => 0)))] := hD
  refine lv_aload_n hx hb dX11_init_352 rfl (lv_at hl 0 rfl) ?_
  refine lv_ldc hx hb hown (hts (.constant RX11 141 (61440)) (List.mem_of_getElem? (i := 51) rfl)) dX11_init_353 ?_
  refine va_newa (atype := .int) (ty := .int) (N' := 61440) (a0 := (61440, .inl (fun _ => 0))) hx hb (hts (.arrayClass .int) (List.mem_of_getElem? (i := 6) rfl)) rfl hK hP hD hS hA (fun _ => rfl) (by decide) (by decide) (Nat.le_of_ble_eq_true rfl) (Nat.le_of_ble_eq_true rfl) (Nat.le_of_ble_eq_true rfl) dX11_init_355 (fun q84 cA84 H hK hP hD hS => ?_)
  replace hK : va_K (dC, dI) vwCl [(cA1, .long), (cA3, .int), (cA5, .int), (cA7, .boolean), (cA9, .int), (cA11, .int), (cA13, .int), (cA15, .int), (cA17, .int), (cA19, .int), (cA21, .int), (cA23, .int), (cA25, .int), (cA27, .int), (cA29, .int), (cA32, .boolean), (cA34, .int), (cA36, .int), (cA38, .int), (cA40, .int), (cA42, .int), (cA44, .int), (cA46, .int), (cA48, .int), (cA50, .boolean), (cA52, .int), (cA54, .int), (cA56, .int), (cA58, .int), (cA60, .int), (cA62, .int), (cA64, .int), (cA66, .int), (cA68, .int), (cA70, .int), (cA72, .int), (cA74, .int), (cA76, .int), (cA78, .int), (cA80, .int), (cA82, .int), (cA84, .int)] s := hK
  replace hP : va_P (dC, dI) vwCl [(h0, .inr (12, fs_83)), (q1, .inl (cA1, 8, .inr (.inl (fun _ => 0)))), (q3, .inl (cA3, 8, .inl (fun _ => 0))), (q5, .inl (cA5, 8, .inl (fun _ => 0))), (q7, .inl (cA7, 8, .inl (fun _ => 0))), (q9, .inl (cA9, 8, .inl (fun _ => 0))), (q15, .inl (cA15, 2048, .inl (fun _ => 0))), (q48, .inl (cA48, 320, .inl (fun _ => 0))), (q82, .inl (cA82, 2048, .inl (fun _ => 0))), (q84, .inl (cA84, 61440, .inl (fun _ => 0)))] H := hP
  replace hD : va_D A [(h0, .inr (12, fs_83)), (q1, .inl (cA1, 8, .inr (.inl (fun _ => 0)))), (q3, .inl (cA3, 8, .inl (fun _ => 0))), (q5, .inl (cA5, 8, .inl (fun _ => 0))), (q7, .inl (cA7, 8, .inl (fun _ => 0))), (q9, .inl (cA9, 8, .inl (fun _ => 0))), (q15, .inl (cA15, 2048, .inl (fun _ => 0))), (q48, .inl (cA48, 320, .inl (fun _ => 0))), (q82, .inl (cA82, 2048, .inl (fun _ => 0))), (q84, .inl (cA84, 61440, .inl (fun _ => 0)))] := hD
  refine W.widen (k := 42) (n := 1181792) (Nat.le_of_ble_eq_true rfl) (Nat.le_of_ble_eq_true rfl) ?_
  refine va_putF (D := (dC, dI)) (ci := 12) (v := .ref q84) (ty := (.array .int)) (C := RX11) (T := TX11) (N := 63) hx hb hts in_c_X11_init_X11 tyX11 tyX11_ok nmX11 hown hK hP hD hS 0 rfl rfl 45 (by decide) (hts (.fieldLink RX11 142 "ClaimBusModel" "kept" "[I") (List.mem_of_getElem? (i := 52) rfl)) (fun _ h9 => h9) rfl hin rfl (by decide +kernel) rfl rfl (by rw [hl_fs_83]; decide) dX11_init_357 (fun H locs hP hD hS => ?_)
  obtain ⟨fs_85, efs_85⟩ : ∃ z : List Value, z = fs_83.set 45 (.ref q84) := ⟨_, rfl⟩
  rw [← efs_85] at hP hD
  have hl_fs_85 : fs_85.length = 63 := by rw [efs_85, List.length_set]; exact hl_fs_83
  have h0_fs_85 : fs_85[0]? = some (.int 0) := by rw [efs_85, List.getElem?_set_ne (by decide)]; exact h0_fs_83
  have h1_fs_85 : fs_85[1]? = some (.int 0) := by rw [efs_85, List.getElem?_set_ne (by decide)]; exact h1_fs_83
  have h46_fs_85 : fs_85[46]? = some (.int 0) := by rw [efs_85, List.getElem?_set_ne (by decide)]; exact h46_fs_83
  have h47_fs_85 : fs_85[47]? = some (.int 0) := by rw [efs_85, List.getElem?_set_ne (by decide)]; exact h47_fs_83
  have h48_fs_85 : fs_85[48]? = some (.int 0) := by rw [efs_85, List.getElem?_set_ne (by decide)]; exact h48_fs_83
  have h50_fs_85 : fs_85[50]? = some (.int 0) := by rw [efs_85, List.getElem?_set_ne (by decide)]; exact h50_fs_83
  have h51_fs_85 : fs_85[51]? = some (.int 0) := by rw [efs_85, List.getElem?_set_ne (by decide)]; exact h51_fs_83
  have h52_fs_85 : fs_85[52]? = some (.int 0) := by rw [efs_85, List.getElem?_set_ne (by decide)]; exact h52_fs_83
  have h2_fs_85 : fs_85[2]? = some (.ref q1) := by rw [efs_85, List.getElem?_set_ne (by decide)]; exact h2_fs_83
  have h3_fs_85 : fs_85[3]? = some (.ref q3) := by rw [efs_85, List.getElem?_set_ne (by decide)]; exact h3_fs_83
  have h4_fs_85 : fs_85[4]? = some (.ref q5) := by rw [efs_85, List.getElem?_set_ne (by decide)]; exact h4_fs_83
  have h5_fs_85 : fs_85[5]? = some (.ref q7) := by rw [efs_85, List.getElem?_set_ne (by decide)]; exact h5_fs_83
  have h6_fs_85 : fs_85[6]? = some (.ref q9) := by rw [efs_85, List.getElem?_set_ne (by decide)]; exact h6_fs_83
  have h9_fs_85 : fs_85[9]? = some (.ref q15) := by rw [efs_85, List.getElem?_set_ne (by decide)]; exact h9_fs_83
  have h27_fs_85 : fs_85[27]? = some (.ref q48) := by rw [efs_85, List.getElem?_set_ne (by decide)]; exact h27_fs_83
  have h44_fs_85 : fs_85[44]? = some (.ref q82) := by rw [efs_85, List.getElem?_set_ne (by decide)]; exact h44_fs_83
  replace hP : va_P (dC, dI) vwCl [(h0, .inr (12, fs_85)), (q1, .inl (cA1, 8, .inr (.inl (fun _ => 0)))), (q3, .inl (cA3, 8, .inl (fun _ => 0))), (q5, .inl (cA5, 8, .inl (fun _ => 0))), (q7, .inl (cA7, 8, .inl (fun _ => 0))), (q9, .inl (cA9, 8, .inl (fun _ => 0))), (q15, .inl (cA15, 2048, .inl (fun _ => 0))), (q48, .inl (cA48, 320, .inl (fun _ => 0))), (q82, .inl (cA82, 2048, .inl (fun _ => 0))), (q84, .inl (cA84, 61440, .inl (fun _ => 0)))] H := hP
  replace hD : va_D A [(h0, .inr (12, fs_85)), (q1, .inl (cA1, 8, .inr (.inl (fun _ => 0)))), (q3, .inl (cA3, 8, .inl (fun _ => 0))), (q5, .inl (cA5, 8, .inl (fun _ => 0))), (q7, .inl (cA7, 8, .inl (fun _ => 0))), (q9, .inl (cA9, 8, .inl (fun _ => 0))), (q15, .inl (cA15, 2048, .inl (fun _ => 0))), (q48, .inl (cA48, 320, .inl (fun _ => 0))), (q82, .inl (cA82, 2048, .inl (fun _ => 0))), (q84, .inl (cA84, 61440, .inl (fun _ => 0)))] := hD
  replace hP := hP.sub (ws' := [(h0, .inr (12, fs_85)), (q1, .inl (cA1, 8, .inr (.inl (fun _ => 0)))), (q3, .inl (cA3, 8, .inl (fun _ => 0))), (q5, .inl (cA5, 8, .inl (fun _ => 0))), (q7, .inl (cA7, 8, .inl (fun _ => 0))), (q9, .inl (cA9, 8, .inl (fun _ => 0))), (q15, .inl (cA15, 2048, .inl (fun _ => 0))), (q48, .inl (cA48, 320, .inl (fun _ => 0))), (q82, .inl (cA82, 2048, .inl (fun _ => 0)))]) [0, 1, 2, 3, 4, 5, 6, 7, 8] rfl
  replace hD := hD.sub (ws' := [(h0, .inr (12, fs_85)), (q1, .inl (cA1, 8, .inr (.inl (fun _ => 0)))), (q3, .inl (cA3, 8, .inl (fun _ => 0))), (q5, .inl (cA5, 8, .inl (fun _ => 0))), (q7, .inl (cA7, 8, .inl (fun _ => 0))), (q9, .inl (cA9, 8, .inl (fun _ => 0))), (q15, .inl (cA15, 2048, .inl (fun _ => 0))), (q48, .inl (cA48, 320, .inl (fun _ => 0))), (q82, .inl (cA82, 2048, .inl (fun _ => 0)))]) [0, 1, 2, 3, 4, 5, 6, 7, 8] (by decide) rfl
  refine lv_aload_n hx hb dX11_init_360 rfl (lv_at hl 0 rfl) ?_
  refine lv_iconst (v := -1) hx hb dX11_init_361 (by decide) ?_
  refine va_put (D := (dC, dI)) (ci := 12) (v := .int (-1)) (ty := .int) (C := RX11) (T := TX11) (N := 63) hx hb hts in_c_X11_init_X11 tyX11 tyX11_ok nmX11 hown hK hP hD hS 0 rfl rfl 49 (by decide) (hts (.fieldLink RX11 145 "ClaimBusModel" "carriedNode" "I") (List.mem_of_getElem? (i := 53) rfl)) (fun _ h9 => h9) rfl (by decide +kernel) rfl rfl (by rw [hl_fs_85]; decide) dX11_init_362 (fun H locs hP hD hS => ?_)
  obtain ⟨fs_86, efs_86⟩ : ∃ z : List Value, z = fs_85.set 49 (.int (-1)) := ⟨_, rfl⟩
  rw [← efs_86] at hP hD
  have hl_fs_86 : fs_86.length = 63 := by rw [efs_86, List.length_set]; exact hl_fs_85
  have h0_fs_86 : fs_86[0]? = some (.int 0) := by rw [efs_86, List.getElem?_set_ne (by decide)]; exact h0_fs_85
  have h1_fs_86 : fs_86[1]? = some (.int 0) := by rw [efs_86, List.getElem?_set_ne (by decide)]; exact h1_fs_85
  have h46_fs_86 : fs_86[46]? = some (.int 0) := by rw [efs_86, List.getElem?_set_ne (by decide)]; exact h46_fs_85
  have h47_fs_86 : fs_86[47]? = some (.int 0) := by rw [efs_86, List.getElem?_set_ne (by decide)]; exact h47_fs_85
  have h48_fs_86 : fs_86[48]? = some (.int 0) := by rw [efs_86, List.getElem?_set_ne (by decide)]; exact h48_fs_85
  have h50_fs_86 : fs_86[50]? = some (.int 0) := by rw [efs_86, List.getElem?_set_ne (by decide)]; exact h50_fs_85
  have h51_fs_86 : fs_86[51]? = some (.int 0) := by rw [efs_86, List.getElem?_set_ne (by decide)]; exact h51_fs_85
  have h52_fs_86 : fs_86[52]? = some (.int 0) := by rw [efs_86, List.getElem?_set_ne (by decide)]; exact h52_fs_85
  have h2_fs_86 : fs_86[2]? = some (.ref q1) := by rw [efs_86, List.getElem?_set_ne (by decide)]; exact h2_fs_85
  have h3_fs_86 : fs_86[3]? = some (.ref q3) := by rw [efs_86, List.getElem?_set_ne (by decide)]; exact h3_fs_85
  have h4_fs_86 : fs_86[4]? = some (.ref q5) := by rw [efs_86, List.getElem?_set_ne (by decide)]; exact h4_fs_85
  have h5_fs_86 : fs_86[5]? = some (.ref q7) := by rw [efs_86, List.getElem?_set_ne (by decide)]; exact h5_fs_85
  have h6_fs_86 : fs_86[6]? = some (.ref q9) := by rw [efs_86, List.getElem?_set_ne (by decide)]; exact h6_fs_85
  have h9_fs_86 : fs_86[9]? = some (.ref q15) := by rw [efs_86, List.getElem?_set_ne (by decide)]; exact h9_fs_85
  have h27_fs_86 : fs_86[27]? = some (.ref q48) := by rw [efs_86, List.getElem?_set_ne (by decide)]; exact h27_fs_85
  have h44_fs_86 : fs_86[44]? = some (.ref q82) := by rw [efs_86, List.getElem?_set_ne (by decide)]; exact h44_fs_85
  have h49_fs_86 : fs_86[49]? = some (.int (-1)) := by rw [efs_86]; exact List.getElem?_set_self (by rw [hl_fs_85]; decide)
  replace hP : va_P (dC, dI) vwCl [(h0, .inr (12, fs_86)), (q1, .inl (cA1, 8, .inr (.inl (fun _ => 0)))), (q3, .inl (cA3, 8, .inl (fun _ => 0))), (q5, .inl (cA5, 8, .inl (fun _ => 0))), (q7, .inl (cA7, 8, .inl (fun _ => 0))), (q9, .inl (cA9, 8, .inl (fun _ => 0))), (q15, .inl (cA15, 2048, .inl (fun _ => 0))), (q48, .inl (cA48, 320, .inl (fun _ => 0))), (q82, .inl (cA82, 2048, .inl (fun _ => 0)))] H := hP
  replace hD : va_D A [(h0, .inr (12, fs_86)), (q1, .inl (cA1, 8, .inr (.inl (fun _ => 0)))), (q3, .inl (cA3, 8, .inl (fun _ => 0))), (q5, .inl (cA5, 8, .inl (fun _ => 0))), (q7, .inl (cA7, 8, .inl (fun _ => 0))), (q9, .inl (cA9, 8, .inl (fun _ => 0))), (q15, .inl (cA15, 2048, .inl (fun _ => 0))), (q48, .inl (cA48, 320, .inl (fun _ => 0))), (q82, .inl (cA82, 2048, .inl (fun _ => 0)))] := hD
  refine lv_aload_n hx hb dX11_init_365 rfl (lv_at hl 0 rfl) ?_
  refine lv_sipush (v := 4200) hx hb dX11_init_366 (by decide) ?_
  refine va_newa (atype := .int) (ty := .int) (N' := 4200) (a0 := (4200, .inl (fun _ => 0))) hx hb (hts (.arrayClass .int) (List.mem_of_getElem? (i := 6) rfl)) rfl hK hP hD hS hA (fun _ => rfl) (by decide) (by decide) (Nat.le_of_ble_eq_true rfl) (Nat.le_of_ble_eq_true rfl) (Nat.le_of_ble_eq_true rfl) dX11_init_369 (fun q87 cA87 H hK hP hD hS => ?_)
  replace hK : va_K (dC, dI) vwCl [(cA1, .long), (cA3, .int), (cA5, .int), (cA7, .boolean), (cA9, .int), (cA11, .int), (cA13, .int), (cA15, .int), (cA17, .int), (cA19, .int), (cA21, .int), (cA23, .int), (cA25, .int), (cA27, .int), (cA29, .int), (cA32, .boolean), (cA34, .int), (cA36, .int), (cA38, .int), (cA40, .int), (cA42, .int), (cA44, .int), (cA46, .int), (cA48, .int), (cA50, .boolean), (cA52, .int), (cA54, .int), (cA56, .int), (cA58, .int), (cA60, .int), (cA62, .int), (cA64, .int), (cA66, .int), (cA68, .int), (cA70, .int), (cA72, .int), (cA74, .int), (cA76, .int), (cA78, .int), (cA80, .int), (cA82, .int), (cA84, .int), (cA87, .int)] s := hK
  replace hP : va_P (dC, dI) vwCl [(h0, .inr (12, fs_86)), (q1, .inl (cA1, 8, .inr (.inl (fun _ => 0)))), (q3, .inl (cA3, 8, .inl (fun _ => 0))), (q5, .inl (cA5, 8, .inl (fun _ => 0))), (q7, .inl (cA7, 8, .inl (fun _ => 0))), (q9, .inl (cA9, 8, .inl (fun _ => 0))), (q15, .inl (cA15, 2048, .inl (fun _ => 0))), (q48, .inl (cA48, 320, .inl (fun _ => 0))), (q82, .inl (cA82, 2048, .inl (fun _ => 0))), (q87, .inl (cA87, 4200, .inl (fun _ => 0)))] H := hP
  replace hD : va_D A [(h0, .inr (12, fs_86)), (q1, .inl (cA1, 8, .inr (.inl (fun _ => 0)))), (q3, .inl (cA3, 8, .inl (fun _ => 0))), (q5, .inl (cA5, 8, .inl (fun _ => 0))), (q7, .inl (cA7, 8, .inl (fun _ => 0))), (q9, .inl (cA9, 8, .inl (fun _ => 0))), (q15, .inl (cA15, 2048, .inl (fun _ => 0))), (q48, .inl (cA48, 320, .inl (fun _ => 0))), (q82, .inl (cA82, 2048, .inl (fun _ => 0))), (q87, .inl (cA87, 4200, .inl (fun _ => 0)))] := hD
  refine W.widen (k := 43) (n := 1185992) (Nat.le_of_ble_eq_true rfl) (Nat.le_of_ble_eq_true rfl) ?_
  refine va_putF (D := (dC, dI)) (ci := 12) (v := .ref q87) (ty := (.array .int)) (C := RX11) (T := TX11) (N := 63) hx hb hts in_c_X11_init_X11 tyX11 tyX11_ok nmX11 hown hK hP hD hS 0 rfl rfl 54 (by decide) (hts (.fieldLink RX11 148 "ClaimBusModel" "saidGroup" "[I") (List.mem_of_getElem? (i := 54) rfl)) (fun _ h9 => h9) rfl hin rfl (by decide +kernel) rfl rfl (by rw [hl_fs_86]; decide) dX11_init_371 (fun H locs hP hD hS => ?_)
  obtain ⟨fs_88, efs_88⟩ : ∃ z : List Value, z = fs_86.set 54 (.ref q87) := ⟨_, rfl⟩
  rw [← efs_88] at hP hD
  have hl_fs_88 : fs_88.length = 63 := by rw [efs_88, List.length_set]; exact hl_fs_86
  have h0_fs_88 : fs_88[0]? = some (.int 0) := by rw [efs_88, List.getElem?_set_ne (by decide)]; exact h0_fs_86
  have h1_fs_88 : fs_88[1]? = some (.int 0) := by rw [efs_88, List.getElem?_set_ne (by decide)]; exact h1_fs_86
  have h46_fs_88 : fs_88[46]? = some (.int 0) := by rw [efs_88, List.getElem?_set_ne (by decide)]; exact h46_fs_86
  have h47_fs_88 : fs_88[47]? = some (.int 0) := by rw [efs_88, List.getElem?_set_ne (by decide)]; exact h47_fs_86
  have h48_fs_88 : fs_88[48]? = some (.int 0) := by rw [efs_88, List.getElem?_set_ne (by decide)]; exact h48_fs_86
  have h50_fs_88 : fs_88[50]? = some (.int 0) := by rw [efs_88, List.getElem?_set_ne (by decide)]; exact h50_fs_86
  have h51_fs_88 : fs_88[51]? = some (.int 0) := by rw [efs_88, List.getElem?_set_ne (by decide)]; exact h51_fs_86
  have h52_fs_88 : fs_88[52]? = some (.int 0) := by rw [efs_88, List.getElem?_set_ne (by decide)]; exact h52_fs_86
  have h2_fs_88 : fs_88[2]? = some (.ref q1) := by rw [efs_88, List.getElem?_set_ne (by decide)]; exact h2_fs_86
  have h3_fs_88 : fs_88[3]? = some (.ref q3) := by rw [efs_88, List.getElem?_set_ne (by decide)]; exact h3_fs_86
  have h4_fs_88 : fs_88[4]? = some (.ref q5) := by rw [efs_88, List.getElem?_set_ne (by decide)]; exact h4_fs_86
  have h5_fs_88 : fs_88[5]? = some (.ref q7) := by rw [efs_88, List.getElem?_set_ne (by decide)]; exact h5_fs_86
  have h6_fs_88 : fs_88[6]? = some (.ref q9) := by rw [efs_88, List.getElem?_set_ne (by decide)]; exact h6_fs_86
  have h9_fs_88 : fs_88[9]? = some (.ref q15) := by rw [efs_88, List.getElem?_set_ne (by decide)]; exact h9_fs_86
  have h27_fs_88 : fs_88[27]? = some (.ref q48) := by rw [efs_88, List.getElem?_set_ne (by decide)]; exact h27_fs_86
  have h44_fs_88 : fs_88[44]? = some (.ref q82) := by rw [efs_88, List.getElem?_set_ne (by decide)]; exact h44_fs_86
  have h49_fs_88 : fs_88[49]? = some (.int (-1)) := by rw [efs_88, List.getElem?_set_ne (by decide)]; exact h49_fs_86
  replace hP : va_P (dC, dI) vwCl [(h0, .inr (12, fs_88)), (q1, .inl (cA1, 8, .inr (.inl (fun _ => 0)))), (q3, .inl (cA3, 8, .inl (fun _ => 0))), (q5, .inl (cA5, 8, .inl (fun _ => 0))), (q7, .inl (cA7, 8, .inl (fun _ => 0))), (q9, .inl (cA9, 8, .inl (fun _ => 0))), (q15, .inl (cA15, 2048, .inl (fun _ => 0))), (q48, .inl (cA48, 320, .inl (fun _ => 0))), (q82, .inl (cA82, 2048, .inl (fun _ => 0))), (q87, .inl (cA87, 4200, .inl (fun _ => 0)))] H := hP
  replace hD : va_D A [(h0, .inr (12, fs_88)), (q1, .inl (cA1, 8, .inr (.inl (fun _ => 0)))), (q3, .inl (cA3, 8, .inl (fun _ => 0))), (q5, .inl (cA5, 8, .inl (fun _ => 0))), (q7, .inl (cA7, 8, .inl (fun _ => 0))), (q9, .inl (cA9, 8, .inl (fun _ => 0))), (q15, .inl (cA15, 2048, .inl (fun _ => 0))), (q48, .inl (cA48, 320, .inl (fun _ => 0))), (q82, .inl (cA82, 2048, .inl (fun _ => 0))), (q87, .inl (cA87, 4200, .inl (fun _ => 0)))] := hD
  replace hP := hP.sub (ws' := [(h0, .inr (12, fs_88)), (q1, .inl (cA1, 8, .inr (.inl (fun _ => 0)))), (q3, .inl (cA3, 8, .inl (fun _ => 0))), (q5, .inl (cA5, 8, .inl (fun _ => 0))), (q7, .inl (cA7, 8, .inl (fun _ => 0))), (q9, .inl (cA9, 8, .inl (fun _ => 0))), (q15, .inl (cA15, 2048, .inl (fun _ => 0))), (q48, .inl (cA48, 320, .inl (fun _ => 0))), (q82, .inl (cA82, 2048, .inl (fun _ => 0)))]) [0, 1, 2, 3, 4, 5, 6, 7, 8] rfl
  replace hD := hD.sub (ws' := [(h0, .inr (12, fs_88)), (q1, .inl (cA1, 8, .inr (.inl (fun _ => 0)))), (q3, .inl (cA3, 8, .inl (fun _ => 0))), (q5, .inl (cA5, 8, .inl (fun _ => 0))), (q7, .inl (cA7, 8, .inl (fun _ => 0))), (q9, .inl (cA9, 8, .inl (fun _ => 0))), (q15, .inl (cA15, 2048, .inl (fun _ => 0))), (q48, .inl (cA48, 320, .inl (fun _ => 0))), (q82, .inl (cA82, 2048, .inl (fun _ => 0)))]) [0, 1, 2, 3, 4, 5, 6, 7, 8] (by decide) rfl
  refine lv_aload_n hx hb dX11_init_374 rfl (lv_at hl 0 rfl) ?_
  refine lv_sipush (v := 4200) hx hb dX11_init_375 (by decide) ?_
  refine va_newa (atype := .int) (ty := .int) (N' := 4200) (a0 := (4200, .inl (fun _ => 0))) hx hb (hts (.arrayClass .int) (List.mem_of_getElem? (i := 6) rfl)) rfl hK hP hD hS hA (fun _ => rfl) (by decide) (by decide) (Nat.le_of_ble_eq_true rfl) (Nat.le_of_ble_eq_true rfl) (Nat.le_of_ble_eq_true rfl) dX11_init_378 (fun q89 cA89 H hK hP hD hS => ?_)
  replace hK : va_K (dC, dI) vwCl [(cA1, .long), (cA3, .int), (cA5, .int), (cA7, .boolean), (cA9, .int), (cA11, .int), (cA13, .int), (cA15, .int), (cA17, .int), (cA19, .int), (cA21, .int), (cA23, .int), (cA25, .int), (cA27, .int), (cA29, .int), (cA32, .boolean), (cA34, .int), (cA36, .int), (cA38, .int), (cA40, .int), (cA42, .int), (cA44, .int), (cA46, .int), (cA48, .int), (cA50, .boolean), (cA52, .int), (cA54, .int), (cA56, .int), (cA58, .int), (cA60, .int), (cA62, .int), (cA64, .int), (cA66, .int), (cA68, .int), (cA70, .int), (cA72, .int), (cA74, .int), (cA76, .int), (cA78, .int), (cA80, .int), (cA82, .int), (cA84, .int), (cA87, .int), (cA89, .int)] s := hK
  replace hP : va_P (dC, dI) vwCl [(h0, .inr (12, fs_88)), (q1, .inl (cA1, 8, .inr (.inl (fun _ => 0)))), (q3, .inl (cA3, 8, .inl (fun _ => 0))), (q5, .inl (cA5, 8, .inl (fun _ => 0))), (q7, .inl (cA7, 8, .inl (fun _ => 0))), (q9, .inl (cA9, 8, .inl (fun _ => 0))), (q15, .inl (cA15, 2048, .inl (fun _ => 0))), (q48, .inl (cA48, 320, .inl (fun _ => 0))), (q82, .inl (cA82, 2048, .inl (fun _ => 0))), (q89, .inl (cA89, 4200, .inl (fun _ => 0)))] H := hP
  replace hD : va_D A [(h0, .inr (12, fs_88)), (q1, .inl (cA1, 8, .inr (.inl (fun _ => 0)))), (q3, .inl (cA3, 8, .inl (fun _ => 0))), (q5, .inl (cA5, 8, .inl (fun _ => 0))), (q7, .inl (cA7, 8, .inl (fun _ => 0))), (q9, .inl (cA9, 8, .inl (fun _ => 0))), (q15, .inl (cA15, 2048, .inl (fun _ => 0))), (q48, .inl (cA48, 320, .inl (fun _ => 0))), (q82, .inl (cA82, 2048, .inl (fun _ => 0))), (q89, .inl (cA89, 4200, .inl (fun _ => 0)))] := hD
  refine W.widen (k := 44) (n := 1190192) (Nat.le_of_ble_eq_true rfl) (Nat.le_of_ble_eq_true rfl) ?_
  refine va_putF (D := (dC, dI)) (ci := 12) (v := .ref q89) (ty := (.array .int)) (C := RX11) (T := TX11) (N := 63) hx hb hts in_c_X11_init_X11 tyX11 tyX11_ok nmX11 hown hK hP hD hS 0 rfl rfl 55 (by decide) (hts (.fieldLink RX11 151 "ClaimBusModel" "saidSize" "[I") (List.mem_of_getElem? (i := 55) rfl)) (fun _ h9 => h9) rfl hin rfl (by decide +kernel) rfl rfl (by rw [hl_fs_88]; decide) dX11_init_380 (fun H locs hP hD hS => ?_)
  obtain ⟨fs_90, efs_90⟩ : ∃ z : List Value, z = fs_88.set 55 (.ref q89) := ⟨_, rfl⟩
  rw [← efs_90] at hP hD
  have hl_fs_90 : fs_90.length = 63 := by rw [efs_90, List.length_set]; exact hl_fs_88
  have h0_fs_90 : fs_90[0]? = some (.int 0) := by rw [efs_90, List.getElem?_set_ne (by decide)]; exact h0_fs_88
  have h1_fs_90 : fs_90[1]? = some (.int 0) := by rw [efs_90, List.getElem?_set_ne (by decide)]; exact h1_fs_88
  have h46_fs_90 : fs_90[46]? = some (.int 0) := by rw [efs_90, List.getElem?_set_ne (by decide)]; exact h46_fs_88
  have h47_fs_90 : fs_90[47]? = some (.int 0) := by rw [efs_90, List.getElem?_set_ne (by decide)]; exact h47_fs_88
  have h48_fs_90 : fs_90[48]? = some (.int 0) := by rw [efs_90, List.getElem?_set_ne (by decide)]; exact h48_fs_88
  have h50_fs_90 : fs_90[50]? = some (.int 0) := by rw [efs_90, List.getElem?_set_ne (by decide)]; exact h50_fs_88
  have h51_fs_90 : fs_90[51]? = some (.int 0) := by rw [efs_90, List.getElem?_set_ne (by decide)]; exact h51_fs_88
  have h52_fs_90 : fs_90[52]? = some (.int 0) := by rw [efs_90, List.getElem?_set_ne (by decide)]; exact h52_fs_88
  have h2_fs_90 : fs_90[2]? = some (.ref q1) := by rw [efs_90, List.getElem?_set_ne (by decide)]; exact h2_fs_88
  have h3_fs_90 : fs_90[3]? = some (.ref q3) := by rw [efs_90, List.getElem?_set_ne (by decide)]; exact h3_fs_88
  have h4_fs_90 : fs_90[4]? = some (.ref q5) := by rw [efs_90, List.getElem?_set_ne (by decide)]; exact h4_fs_88
  have h5_fs_90 : fs_90[5]? = some (.ref q7) := by rw [efs_90, List.getElem?_set_ne (by decide)]; exact h5_fs_88
  have h6_fs_90 : fs_90[6]? = some (.ref q9) := by rw [efs_90, List.getElem?_set_ne (by decide)]; exact h6_fs_88
  have h9_fs_90 : fs_90[9]? = some (.ref q15) := by rw [efs_90, List.getElem?_set_ne (by decide)]; exact h9_fs_88
  have h27_fs_90 : fs_90[27]? = some (.ref q48) := by rw [efs_90, List.getElem?_set_ne (by decide)]; exact h27_fs_88
  have h44_fs_90 : fs_90[44]? = some (.ref q82) := by rw [efs_90, List.getElem?_set_ne (by decide)]; exact h44_fs_88
  have h49_fs_90 : fs_90[49]? = some (.int (-1)) := by rw [efs_90, List.getElem?_set_ne (by decide)]; exact h49_fs_88
  replace hP : va_P (dC, dI) vwCl [(h0, .inr (12, fs_90)), (q1, .inl (cA1, 8, .inr (.inl (fun _ => 0)))), (q3, .inl (cA3, 8, .inl (fun _ => 0))), (q5, .inl (cA5, 8, .inl (fun _ => 0))), (q7, .inl (cA7, 8, .inl (fun _ => 0))), (q9, .inl (cA9, 8, .inl (fun _ => 0))), (q15, .inl (cA15, 2048, .inl (fun _ => 0))), (q48, .inl (cA48, 320, .inl (fun _ => 0))), (q82, .inl (cA82, 2048, .inl (fun _ => 0))), (q89, .inl (cA89, 4200, .inl (fun _ => 0)))] H := hP
  replace hD : va_D A [(h0, .inr (12, fs_90)), (q1, .inl (cA1, 8, .inr (.inl (fun _ => 0)))), (q3, .inl (cA3, 8, .inl (fun _ => 0))), (q5, .inl (cA5, 8, .inl (fun _ => 0))), (q7, .inl (cA7, 8, .inl (fun _ => 0))), (q9, .inl (cA9, 8, .inl (fun _ => 0))), (q15, .inl (cA15, 2048, .inl (fun _ => 0))), (q48, .inl (cA48, 320, .inl (fun _ => 0))), (q82, .inl (cA82, 2048, .inl (fun _ => 0))), (q89, .inl (cA89, 4200, .inl (fun _ => 0)))] := hD
  replace hP := hP.sub (ws' := [(h0, .inr (12, fs_90)), (q1, .inl (cA1, 8, .inr (.inl (fun _ => 0)))), (q3, .inl (cA3, 8, .inl (fun _ => 0))), (q5, .inl (cA5, 8, .inl (fun _ => 0))), (q7, .inl (cA7, 8, .inl (fun _ => 0))), (q9, .inl (cA9, 8, .inl (fun _ => 0))), (q15, .inl (cA15, 2048, .inl (fun _ => 0))), (q48, .inl (cA48, 320, .inl (fun _ => 0))), (q82, .inl (cA82, 2048, .inl (fun _ => 0)))]) [0, 1, 2, 3, 4, 5, 6, 7, 8] rfl
  replace hD := hD.sub (ws' := [(h0, .inr (12, fs_90)), (q1, .inl (cA1, 8, .inr (.inl (fun _ => 0)))), (q3, .inl (cA3, 8, .inl (fun _ => 0))), (q5, .inl (cA5, 8, .inl (fun _ => 0))), (q7, .inl (cA7, 8, .inl (fun _ => 0))), (q9, .inl (cA9, 8, .inl (fun _ => 0))), (q15, .inl (cA15, 2048, .inl (fun _ => 0))), (q48, .inl (cA48, 320, .inl (fun _ => 0))), (q82, .inl (cA82, 2048, .inl (fun _ => 0)))]) [0, 1, 2, 3, 4, 5, 6, 7, 8] (by decide) rfl
  refine lv_aload_n hx hb dX11_init_383 rfl (lv_at hl 0 rfl) ?_
  refine lv_sipush (v := 4200) hx hb dX11_init_384 (by decide) ?_
  refine va_newa (atype := .int) (ty := .int) (N' := 4200) (a0 := (4200, .inl (fun _ => 0))) hx hb (hts (.arrayClass .int) (List.mem_of_getElem? (i := 6) rfl)) rfl hK hP hD hS hA (fun _ => rfl) (by decide) (by decide) (Nat.le_of_ble_eq_true rfl) (Nat.le_of_ble_eq_true rfl) (Nat.le_of_ble_eq_true rfl) dX11_init_387 (fun q91 cA91 H hK hP hD hS => ?_)
  replace hK : va_K (dC, dI) vwCl [(cA1, .long), (cA3, .int), (cA5, .int), (cA7, .boolean), (cA9, .int), (cA11, .int), (cA13, .int), (cA15, .int), (cA17, .int), (cA19, .int), (cA21, .int), (cA23, .int), (cA25, .int), (cA27, .int), (cA29, .int), (cA32, .boolean), (cA34, .int), (cA36, .int), (cA38, .int), (cA40, .int), (cA42, .int), (cA44, .int), (cA46, .int), (cA48, .int), (cA50, .boolean), (cA52, .int), (cA54, .int), (cA56, .int), (cA58, .int), (cA60, .int), (cA62, .int), (cA64, .int), (cA66, .int), (cA68, .int), (cA70, .int), (cA72, .int), (cA74, .int), (cA76, .int), (cA78, .int), (cA80, .int), (cA82, .int), (cA84, .int), (cA87, .int), (cA89, .int), (cA91, .int)] s := hK
  replace hP : va_P (dC, dI) vwCl [(h0, .inr (12, fs_90)), (q1, .inl (cA1, 8, .inr (.inl (fun _ => 0)))), (q3, .inl (cA3, 8, .inl (fun _ => 0))), (q5, .inl (cA5, 8, .inl (fun _ => 0))), (q7, .inl (cA7, 8, .inl (fun _ => 0))), (q9, .inl (cA9, 8, .inl (fun _ => 0))), (q15, .inl (cA15, 2048, .inl (fun _ => 0))), (q48, .inl (cA48, 320, .inl (fun _ => 0))), (q82, .inl (cA82, 2048, .inl (fun _ => 0))), (q91, .inl (cA91, 4200, .inl (fun _ => 0)))] H := hP
  replace hD : va_D A [(h0, .inr (12, fs_90)), (q1, .inl (cA1, 8, .inr (.inl (fun _ => 0)))), (q3, .inl (cA3, 8, .inl (fun _ => 0))), (q5, .inl (cA5, 8, .inl (fun _ => 0))), (q7, .inl (cA7, 8, .inl (fun _ => 0))), (q9, .inl (cA9, 8, .inl (fun _ => 0))), (q15, .inl (cA15, 2048, .inl (fun _ => 0))), (q48, .inl (cA48, 320, .inl (fun _ => 0))), (q82, .inl (cA82, 2048, .inl (fun _ => 0))), (q91, .inl (cA91, 4200, .inl (fun _ => 0)))] := hD
  refine W.widen (k := 45) (n := 1194392) (Nat.le_of_ble_eq_true rfl) (Nat.le_of_ble_eq_true rfl) ?_
  refine va_putF (D := (dC, dI)) (ci := 12) (v := .ref q91) (ty := (.array .int)) (C := RX11) (T := TX11) (N := 63) hx hb hts in_c_X11_init_X11 tyX11 tyX11_ok nmX11 hown hK hP hD hS 0 rfl rfl 56 (by decide) (hts (.fieldLink RX11 154 "ClaimBusModel" "saidSeed" "[I") (List.mem_of_getElem? (i := 56) rfl)) (fun _ h9 => h9) rfl hin rfl (by decide +kernel) rfl rfl (by rw [hl_fs_90]; decide) dX11_init_389 (fun H locs hP hD hS => ?_)
  obtain ⟨fs_92, efs_92⟩ : ∃ z : List Value, z = fs_90.set 56 (.ref q91) := ⟨_, rfl⟩
  rw [← efs_92] at hP hD
  have hl_fs_92 : fs_92.length = 63 := by rw [efs_92, List.length_set]; exact hl_fs_90
  have h0_fs_92 : fs_92[0]? = some (.int 0) := by rw [efs_92, List.getElem?_set_ne (by decide)]; exact h0_fs_90
  have h1_fs_92 : fs_92[1]? = some (.int 0) := by rw [efs_92, List.getElem?_set_ne (by decide)]; exact h1_fs_90
  have h46_fs_92 : fs_92[46]? = some (.int 0) := by rw [efs_92, List.getElem?_set_ne (by decide)]; exact h46_fs_90
  have h47_fs_92 : fs_92[47]? = some (.int 0) := by rw [efs_92, List.getElem?_set_ne (by decide)]; exact h47_fs_90
  have h48_fs_92 : fs_92[48]? = some (.int 0) := by rw [efs_92, List.getElem?_set_ne (by decide)]; exact h48_fs_90
  have h50_fs_92 : fs_92[50]? = some (.int 0) := by rw [efs_92, List.getElem?_set_ne (by decide)]; exact h50_fs_90
  have h51_fs_92 : fs_92[51]? = some (.int 0) := by rw [efs_92, List.getElem?_set_ne (by decide)]; exact h51_fs_90
  have h52_fs_92 : fs_92[52]? = some (.int 0) := by rw [efs_92, List.getElem?_set_ne (by decide)]; exact h52_fs_90
  have h2_fs_92 : fs_92[2]? = some (.ref q1) := by rw [efs_92, List.getElem?_set_ne (by decide)]; exact h2_fs_90
  have h3_fs_92 : fs_92[3]? = some (.ref q3) := by rw [efs_92, List.getElem?_set_ne (by decide)]; exact h3_fs_90
  have h4_fs_92 : fs_92[4]? = some (.ref q5) := by rw [efs_92, List.getElem?_set_ne (by decide)]; exact h4_fs_90
  have h5_fs_92 : fs_92[5]? = some (.ref q7) := by rw [efs_92, List.getElem?_set_ne (by decide)]; exact h5_fs_90
  have h6_fs_92 : fs_92[6]? = some (.ref q9) := by rw [efs_92, List.getElem?_set_ne (by decide)]; exact h6_fs_90
  have h9_fs_92 : fs_92[9]? = some (.ref q15) := by rw [efs_92, List.getElem?_set_ne (by decide)]; exact h9_fs_90
  have h27_fs_92 : fs_92[27]? = some (.ref q48) := by rw [efs_92, List.getElem?_set_ne (by decide)]; exact h27_fs_90
  have h44_fs_92 : fs_92[44]? = some (.ref q82) := by rw [efs_92, List.getElem?_set_ne (by decide)]; exact h44_fs_90
  have h49_fs_92 : fs_92[49]? = some (.int (-1)) := by rw [efs_92, List.getElem?_set_ne (by decide)]; exact h49_fs_90
  replace hP : va_P (dC, dI) vwCl [(h0, .inr (12, fs_92)), (q1, .inl (cA1, 8, .inr (.inl (fun _ => 0)))), (q3, .inl (cA3, 8, .inl (fun _ => 0))), (q5, .inl (cA5, 8, .inl (fun _ => 0))), (q7, .inl (cA7, 8, .inl (fun _ => 0))), (q9, .inl (cA9, 8, .inl (fun _ => 0))), (q15, .inl (cA15, 2048, .inl (fun _ => 0))), (q48, .inl (cA48, 320, .inl (fun _ => 0))), (q82, .inl (cA82, 2048, .inl (fun _ => 0))), (q91, .inl (cA91, 4200, .inl (fun _ => 0)))] H := hP
  replace hD : va_D A [(h0, .inr (12, fs_92)), (q1, .inl (cA1, 8, .inr (.inl (fun _ => 0)))), (q3, .inl (cA3, 8, .inl (fun _ => 0))), (q5, .inl (cA5, 8, .inl (fun _ => 0))), (q7, .inl (cA7, 8, .inl (fun _ => 0))), (q9, .inl (cA9, 8, .inl (fun _ => 0))), (q15, .inl (cA15, 2048, .inl (fun _ => 0))), (q48, .inl (cA48, 320, .inl (fun _ => 0))), (q82, .inl (cA82, 2048, .inl (fun _ => 0))), (q91, .inl (cA91, 4200, .inl (fun _ => 0)))] := hD
  replace hP := hP.sub (ws' := [(h0, .inr (12, fs_92)), (q1, .inl (cA1, 8, .inr (.inl (fun _ => 0)))), (q3, .inl (cA3, 8, .inl (fun _ => 0))), (q5, .inl (cA5, 8, .inl (fun _ => 0))), (q7, .inl (cA7, 8, .inl (fun _ => 0))), (q9, .inl (cA9, 8, .inl (fun _ => 0))), (q15, .inl (cA15, 2048, .inl (fun _ => 0))), (q48, .inl (cA48, 320, .inl (fun _ => 0))), (q82, .inl (cA82, 2048, .inl (fun _ => 0)))]) [0, 1, 2, 3, 4, 5, 6, 7, 8] rfl
  replace hD := hD.sub (ws' := [(h0, .inr (12, fs_92)), (q1, .inl (cA1, 8, .inr (.inl (fun _ => 0)))), (q3, .inl (cA3, 8, .inl (fun _ => 0))), (q5, .inl (cA5, 8, .inl (fun _ => 0))), (q7, .inl (cA7, 8, .inl (fun _ => 0))), (q9, .inl (cA9, 8, .inl (fun _ => 0))), (q15, .inl (cA15, 2048, .inl (fun _ => 0))), (q48, .inl (cA48, 320, .inl (fun _ => 0))), (q82, .inl (cA82, 2048, .inl (fun _ => 0)))]) [0, 1, 2, 3, 4, 5, 6, 7, 8] (by decide) rfl
  refine lv_aload_n hx hb dX11_init_392 rfl (lv_at hl 0 rfl) ?_
  refine lv_sipush (v := 4200) hx hb dX11_init_393 (by decide) ?_
  refine va_newa (atype := .int) (ty := .int) (N' := 4200) (a0 := (4200, .inl (fun _ => 0))) hx hb (hts (.arrayClass .int) (List.mem_of_getElem? (i := 6) rfl)) rfl hK hP hD hS hA (fun _ => rfl) (by decide) (by decide) (Nat.le_of_ble_eq_true rfl) (Nat.le_of_ble_eq_true rfl) (Nat.le_of_ble_eq_true rfl) dX11_init_396 (fun q93 cA93 H hK hP hD hS => ?_)
  replace hK : va_K (dC, dI) vwCl [(cA1, .long), (cA3, .int), (cA5, .int), (cA7, .boolean), (cA9, .int), (cA11, .int), (cA13, .int), (cA15, .int), (cA17, .int), (cA19, .int), (cA21, .int), (cA23, .int), (cA25, .int), (cA27, .int), (cA29, .int), (cA32, .boolean), (cA34, .int), (cA36, .int), (cA38, .int), (cA40, .int), (cA42, .int), (cA44, .int), (cA46, .int), (cA48, .int), (cA50, .boolean), (cA52, .int), (cA54, .int), (cA56, .int), (cA58, .int), (cA60, .int), (cA62, .int), (cA64, .int), (cA66, .int), (cA68, .int), (cA70, .int), (cA72, .int), (cA74, .int), (cA76, .int), (cA78, .int), (cA80, .int), (cA82, .int), (cA84, .int), (cA87, .int), (cA89, .int), (cA91, .int), (cA93, .int)] s := hK
  replace hP : va_P (dC, dI) vwCl [(h0, .inr (12, fs_92)), (q1, .inl (cA1, 8, .inr (.inl (fun _ => 0)))), (q3, .inl (cA3, 8, .inl (fun _ => 0))), (q5, .inl (cA5, 8, .inl (fun _ => 0))), (q7, .inl (cA7, 8, .inl (fun _ => 0))), (q9, .inl (cA9, 8, .inl (fun _ => 0))), (q15, .inl (cA15, 2048, .inl (fun _ => 0))), (q48, .inl (cA48, 320, .inl (fun _ => 0))), (q82, .inl (cA82, 2048, .inl (fun _ => 0))), (q93, .inl (cA93, 4200, .inl (fun _ => 0)))] H := hP
  replace hD : va_D A [(h0, .inr (12, fs_92)), (q1, .inl (cA1, 8, .inr (.inl (fun _ => 0)))), (q3, .inl (cA3, 8, .inl (fun _ => 0))), (q5, .inl (cA5, 8, .inl (fun _ => 0))), (q7, .inl (cA7, 8, .inl (fun _ => 0))), (q9, .inl (cA9, 8, .inl (fun _ => 0))), (q15, .inl (cA15, 2048, .inl (fun _ => 0))), (q48, .inl (cA48, 320, .inl (fun _ => 0))), (q82, .inl (cA82, 2048, .inl (fun _ => 0))), (q93, .inl (cA93, 4200, .inl (fun _ => 0)))] := hD
  refine W.widen (k := 46) (n := 1198592) (Nat.le_of_ble_eq_true rfl) (Nat.le_of_ble_eq_true rfl) ?_
  refine va_putF (D := (dC, dI)) (ci := 12) (v := .ref q93) (ty := (.array .int)) (C := RX11) (T := TX11) (N := 63) hx hb hts in_c_X11_init_X11 tyX11 tyX11_ok nmX11 hown hK hP hD hS 0 rfl rfl 57 (by decide) (hts (.fieldLink RX11 157 "ClaimBusModel" "saidTroubles" "[I") (List.mem_of_getElem? (i := 57) rfl)) (fun _ h9 => h9) rfl hin rfl (by decide +kernel) rfl rfl (by rw [hl_fs_92]; decide) dX11_init_398 (fun H locs hP hD hS => ?_)
  obtain ⟨fs_94, efs_94⟩ : ∃ z : List Value, z = fs_92.set 57 (.ref q93) := ⟨_, rfl⟩
  rw [← efs_94] at hP hD
  have hl_fs_94 : fs_94.length = 63 := by rw [efs_94, List.length_set]; exact hl_fs_92
  have h0_fs_94 : fs_94[0]? = some (.int 0) := by rw [efs_94, List.getElem?_set_ne (by decide)]; exact h0_fs_92
  have h1_fs_94 : fs_94[1]? = some (.int 0) := by rw [efs_94, List.getElem?_set_ne (by decide)]; exact h1_fs_92
  have h46_fs_94 : fs_94[46]? = some (.int 0) := by rw [efs_94, List.getElem?_set_ne (by decide)]; exact h46_fs_92
  have h47_fs_94 : fs_94[47]? = some (.int 0) := by rw [efs_94, List.getElem?_set_ne (by decide)]; exact h47_fs_92
  have h48_fs_94 : fs_94[48]? = some (.int 0) := by rw [efs_94, List.getElem?_set_ne (by decide)]; exact h48_fs_92
  have h50_fs_94 : fs_94[50]? = some (.int 0) := by rw [efs_94, List.getElem?_set_ne (by decide)]; exact h50_fs_92
  have h51_fs_94 : fs_94[51]? = some (.int 0) := by rw [efs_94, List.getElem?_set_ne (by decide)]; exact h51_fs_92
  have h52_fs_94 : fs_94[52]? = some (.int 0) := by rw [efs_94, List.getElem?_set_ne (by decide)]; exact h52_fs_92
  have h2_fs_94 : fs_94[2]? = some (.ref q1) := by rw [efs_94, List.getElem?_set_ne (by decide)]; exact h2_fs_92
  have h3_fs_94 : fs_94[3]? = some (.ref q3) := by rw [efs_94, List.getElem?_set_ne (by decide)]; exact h3_fs_92
  have h4_fs_94 : fs_94[4]? = some (.ref q5) := by rw [efs_94, List.getElem?_set_ne (by decide)]; exact h4_fs_92
  have h5_fs_94 : fs_94[5]? = some (.ref q7) := by rw [efs_94, List.getElem?_set_ne (by decide)]; exact h5_fs_92
  have h6_fs_94 : fs_94[6]? = some (.ref q9) := by rw [efs_94, List.getElem?_set_ne (by decide)]; exact h6_fs_92
  have h9_fs_94 : fs_94[9]? = some (.ref q15) := by rw [efs_94, List.getElem?_set_ne (by decide)]; exact h9_fs_92
  have h27_fs_94 : fs_94[27]? = some (.ref q48) := by rw [efs_94, List.getElem?_set_ne (by decide)]; exact h27_fs_92
  have h44_fs_94 : fs_94[44]? = some (.ref q82) := by rw [efs_94, List.getElem?_set_ne (by decide)]; exact h44_fs_92
  have h49_fs_94 : fs_94[49]? = some (.int (-1)) := by rw [efs_94, List.getElem?_set_ne (by decide)]; exact h49_fs_92
  replace hP : va_P (dC, dI) vwCl [(h0, .inr (12, fs_94)), (q1, .inl (cA1, 8, .inr (.inl (fun _ => 0)))), (q3, .inl (cA3, 8, .inl (fun _ => 0))), (q5, .inl (cA5, 8, .inl (fun _ => 0))), (q7, .inl (cA7, 8, .inl (fun _ => 0))), (q9, .inl (cA9, 8, .inl (fun _ => 0))), (q15, .inl (cA15, 2048, .inl (fun _ => 0))), (q48, .inl (cA48, 320, .inl (fun _ => 0))), (q82, .inl (cA82, 2048, .inl (fun _ => 0))), (q93, .inl (cA93, 4200, .inl (fun _ => 0)))] H := hP
  replace hD : va_D A [(h0, .inr (12, fs_94)), (q1, .inl (cA1, 8, .inr (.inl (fun _ => 0)))), (q3, .inl (cA3, 8, .inl (fun _ => 0))), (q5, .inl (cA5, 8, .inl (fun _ => 0))), (q7, .inl (cA7, 8, .inl (fun _ => 0))), (q9, .inl (cA9, 8, .inl (fun _ => 0))), (q15, .inl (cA15, 2048, .inl (fun _ => 0))), (q48, .inl (cA48, 320, .inl (fun _ => 0))), (q82, .inl (cA82, 2048, .inl (fun _ => 0))), (q93, .inl (cA93, 4200, .inl (fun _ => 0)))] := hD
  replace hP := hP.sub (ws' := [(h0, .inr (12, fs_94)), (q1, .inl (cA1, 8, .inr (.inl (fun _ => 0)))), (q3, .inl (cA3, 8, .inl (fun _ => 0))), (q5, .inl (cA5, 8, .inl (fun _ => 0))), (q7, .inl (cA7, 8, .inl (fun _ => 0))), (q9, .inl (cA9, 8, .inl (fun _ => 0))), (q15, .inl (cA15, 2048, .inl (fun _ => 0))), (q48, .inl (cA48, 320, .inl (fun _ => 0))), (q82, .inl (cA82, 2048, .inl (fun _ => 0)))]) [0, 1, 2, 3, 4, 5, 6, 7, 8] rfl
  replace hD := hD.sub (ws' := [(h0, .inr (12, fs_94)), (q1, .inl (cA1, 8, .inr (.inl (fun _ => 0)))), (q3, .inl (cA3, 8, .inl (fun _ => 0))), (q5, .inl (cA5, 8, .inl (fun _ => 0))), (q7, .inl (cA7, 8, .inl (fun _ => 0))), (q9, .inl (cA9, 8, .inl (fun _ => 0))), (q15, .inl (cA15, 2048, .inl (fun _ => 0))), (q48, .inl (cA48, 320, .inl (fun _ => 0))), (q82, .inl (cA82, 2048, .inl (fun _ => 0)))]) [0, 1, 2, 3, 4, 5, 6, 7, 8] (by decide) rfl
  refine lv_aload_n hx hb dX11_init_401 rfl (lv_at hl 0 rfl) ?_
  refine lv_bipush (v := 8) hx hb dX11_init_402 (by decide) ?_
  refine va_newa (atype := .int) (ty := .int) (N' := 8) (a0 := (8, .inl (fun _ => 0))) hx hb (hts (.arrayClass .int) (List.mem_of_getElem? (i := 6) rfl)) rfl hK hP hD hS hA (fun _ => rfl) (by decide) (by decide) (Nat.le_of_ble_eq_true rfl) (Nat.le_of_ble_eq_true rfl) (Nat.le_of_ble_eq_true rfl) dX11_init_404 (fun q95 cA95 H hK hP hD hS => ?_)
  replace hK : va_K (dC, dI) vwCl [(cA1, .long), (cA3, .int), (cA5, .int), (cA7, .boolean), (cA9, .int), (cA11, .int), (cA13, .int), (cA15, .int), (cA17, .int), (cA19, .int), (cA21, .int), (cA23, .int), (cA25, .int), (cA27, .int), (cA29, .int), (cA32, .boolean), (cA34, .int), (cA36, .int), (cA38, .int), (cA40, .int), (cA42, .int), (cA44, .int), (cA46, .int), (cA48, .int), (cA50, .boolean), (cA52, .int), (cA54, .int), (cA56, .int), (cA58, .int), (cA60, .int), (cA62, .int), (cA64, .int), (cA66, .int), (cA68, .int), (cA70, .int), (cA72, .int), (cA74, .int), (cA76, .int), (cA78, .int), (cA80, .int), (cA82, .int), (cA84, .int), (cA87, .int), (cA89, .int), (cA91, .int), (cA93, .int), (cA95, .int)] s := hK
  replace hP : va_P (dC, dI) vwCl [(h0, .inr (12, fs_94)), (q1, .inl (cA1, 8, .inr (.inl (fun _ => 0)))), (q3, .inl (cA3, 8, .inl (fun _ => 0))), (q5, .inl (cA5, 8, .inl (fun _ => 0))), (q7, .inl (cA7, 8, .inl (fun _ => 0))), (q9, .inl (cA9, 8, .inl (fun _ => 0))), (q15, .inl (cA15, 2048, .inl (fun _ => 0))), (q48, .inl (cA48, 320, .inl (fun _ => 0))), (q82, .inl (cA82, 2048, .inl (fun _ => 0))), (q95, .inl (cA95, 8, .inl (fun _ => 0)))] H := hP
  replace hD : va_D A [(h0, .inr (12, fs_94)), (q1, .inl (cA1, 8, .inr (.inl (fun _ => 0)))), (q3, .inl (cA3, 8, .inl (fun _ => 0))), (q5, .inl (cA5, 8, .inl (fun _ => 0))), (q7, .inl (cA7, 8, .inl (fun _ => 0))), (q9, .inl (cA9, 8, .inl (fun _ => 0))), (q15, .inl (cA15, 2048, .inl (fun _ => 0))), (q48, .inl (cA48, 320, .inl (fun _ => 0))), (q82, .inl (cA82, 2048, .inl (fun _ => 0))), (q95, .inl (cA95, 8, .inl (fun _ => 0)))] := hD
  refine W.widen (k := 47) (n := 1198600) (Nat.le_of_ble_eq_true rfl) (Nat.le_of_ble_eq_true rfl) ?_
  refine va_putF (D := (dC, dI)) (ci := 12) (v := .ref q95) (ty := (.array .int)) (C := RX11) (T := TX11) (N := 63) hx hb hts in_c_X11_init_X11 tyX11 tyX11_ok nmX11 hown hK hP hD hS 0 rfl rfl 58 (by decide) (hts (.fieldLink RX11 160 "ClaimBusModel" "latest" "[I") (List.mem_of_getElem? (i := 58) rfl)) (fun _ h9 => h9) rfl hin rfl (by decide +kernel) rfl rfl (by rw [hl_fs_94]; decide) dX11_init_406 (fun H locs hP hD hS => ?_)
  obtain ⟨fs_96, efs_96⟩ : ∃ z : List Value, z = fs_94.set 58 (.ref q95) := ⟨_, rfl⟩
  rw [← efs_96] at hP hD
  have hl_fs_96 : fs_96.length = 63 := by rw [efs_96, List.length_set]; exact hl_fs_94
  have h0_fs_96 : fs_96[0]? = some (.int 0) := by rw [efs_96, List.getElem?_set_ne (by decide)]; exact h0_fs_94
  have h1_fs_96 : fs_96[1]? = some (.int 0) := by rw [efs_96, List.getElem?_set_ne (by decide)]; exact h1_fs_94
  have h46_fs_96 : fs_96[46]? = some (.int 0) := by rw [efs_96, List.getElem?_set_ne (by decide)]; exact h46_fs_94
  have h47_fs_96 : fs_96[47]? = some (.int 0) := by rw [efs_96, List.getElem?_set_ne (by decide)]; exact h47_fs_94
  have h48_fs_96 : fs_96[48]? = some (.int 0) := by rw [efs_96, List.getElem?_set_ne (by decide)]; exact h48_fs_94
  have h50_fs_96 : fs_96[50]? = some (.int 0) := by rw [efs_96, List.getElem?_set_ne (by decide)]; exact h50_fs_94
  have h51_fs_96 : fs_96[51]? = some (.int 0) := by rw [efs_96, List.getElem?_set_ne (by decide)]; exact h51_fs_94
  have h52_fs_96 : fs_96[52]? = some (.int 0) := by rw [efs_96, List.getElem?_set_ne (by decide)]; exact h52_fs_94
  have h2_fs_96 : fs_96[2]? = some (.ref q1) := by rw [efs_96, List.getElem?_set_ne (by decide)]; exact h2_fs_94
  have h3_fs_96 : fs_96[3]? = some (.ref q3) := by rw [efs_96, List.getElem?_set_ne (by decide)]; exact h3_fs_94
  have h4_fs_96 : fs_96[4]? = some (.ref q5) := by rw [efs_96, List.getElem?_set_ne (by decide)]; exact h4_fs_94
  have h5_fs_96 : fs_96[5]? = some (.ref q7) := by rw [efs_96, List.getElem?_set_ne (by decide)]; exact h5_fs_94
  have h6_fs_96 : fs_96[6]? = some (.ref q9) := by rw [efs_96, List.getElem?_set_ne (by decide)]; exact h6_fs_94
  have h9_fs_96 : fs_96[9]? = some (.ref q15) := by rw [efs_96, List.getElem?_set_ne (by decide)]; exact h9_fs_94
  have h27_fs_96 : fs_96[27]? = some (.ref q48) := by rw [efs_96, List.getElem?_set_ne (by decide)]; exact h27_fs_94
  have h44_fs_96 : fs_96[44]? = some (.ref q82) := by rw [efs_96, List.getElem?_set_ne (by decide)]; exact h44_fs_94
  have h49_fs_96 : fs_96[49]? = some (.int (-1)) := by rw [efs_96, List.getElem?_set_ne (by decide)]; exact h49_fs_94
  replace hP : va_P (dC, dI) vwCl [(h0, .inr (12, fs_96)), (q1, .inl (cA1, 8, .inr (.inl (fun _ => 0)))), (q3, .inl (cA3, 8, .inl (fun _ => 0))), (q5, .inl (cA5, 8, .inl (fun _ => 0))), (q7, .inl (cA7, 8, .inl (fun _ => 0))), (q9, .inl (cA9, 8, .inl (fun _ => 0))), (q15, .inl (cA15, 2048, .inl (fun _ => 0))), (q48, .inl (cA48, 320, .inl (fun _ => 0))), (q82, .inl (cA82, 2048, .inl (fun _ => 0))), (q95, .inl (cA95, 8, .inl (fun _ => 0)))] H := hP
  replace hD : va_D A [(h0, .inr (12, fs_96)), (q1, .inl (cA1, 8, .inr (.inl (fun _ => 0)))), (q3, .inl (cA3, 8, .inl (fun _ => 0))), (q5, .inl (cA5, 8, .inl (fun _ => 0))), (q7, .inl (cA7, 8, .inl (fun _ => 0))), (q9, .inl (cA9, 8, .inl (fun _ => 0))), (q15, .inl (cA15, 2048, .inl (fun _ => 0))), (q48, .inl (cA48, 320, .inl (fun _ => 0))), (q82, .inl (cA82, 2048, .inl (fun _ => 0))), (q95, .inl (cA95, 8, .inl (fun _ => 0)))] := hD
  replace hP := hP.sub (ws' := [(h0, .inr (12, fs_96)), (q1, .inl (cA1, 8, .inr (.inl (fun _ => 0)))), (q3, .inl (cA3, 8, .inl (fun _ => 0))), (q5, .inl (cA5, 8, .inl (fun _ => 0))), (q7, .inl (cA7, 8, .inl (fun _ => 0))), (q9, .inl (cA9, 8, .inl (fun _ => 0))), (q15, .inl (cA15, 2048, .inl (fun _ => 0))), (q48, .inl (cA48, 320, .inl (fun _ => 0))), (q82, .inl (cA82, 2048, .inl (fun _ => 0)))]) [0, 1, 2, 3, 4, 5, 6, 7, 8] rfl
  replace hD := hD.sub (ws' := [(h0, .inr (12, fs_96)), (q1, .inl (cA1, 8, .inr (.inl (fun _ => 0)))), (q3, .inl (cA3, 8, .inl (fun _ => 0))), (q5, .inl (cA5, 8, .inl (fun _ => 0))), (q7, .inl (cA7, 8, .inl (fun _ => 0))), (q9, .inl (cA9, 8, .inl (fun _ => 0))), (q15, .inl (cA15, 2048, .inl (fun _ => 0))), (q48, .inl (cA48, 320, .inl (fun _ => 0))), (q82, .inl (cA82, 2048, .inl (fun _ => 0)))]) [0, 1, 2, 3, 4, 5, 6, 7, 8] (by decide) rfl
  refine lv_aload_n hx hb dX11_init_409 rfl (lv_at hl 0 rfl) ?_
  refine lv_ldc hx hb hown (hts (.constant RX11 45 (131072)) (List.mem_of_getElem? (i := 18) rfl)) dX11_init_410 ?_
  refine va_newa (atype := .int) (ty := .int) (N' := 131072) (a0 := (131072, .inl (fun _ => 0))) hx hb (hts (.arrayClass .int) (List.mem_of_getElem? (i := 6) rfl)) rfl hK hP hD hS hA (fun _ => rfl) (by decide) (by decide) (Nat.le_of_ble_eq_true rfl) (Nat.le_of_ble_eq_true rfl) (Nat.le_of_ble_eq_true rfl) dX11_init_412 (fun q97 cA97 H hK hP hD hS => ?_)
  replace hK : va_K (dC, dI) vwCl [(cA1, .long), (cA3, .int), (cA5, .int), (cA7, .boolean), (cA9, .int), (cA11, .int), (cA13, .int), (cA15, .int), (cA17, .int), (cA19, .int), (cA21, .int), (cA23, .int), (cA25, .int), (cA27, .int), (cA29, .int), (cA32, .boolean), (cA34, .int), (cA36, .int), (cA38, .int), (cA40, .int), (cA42, .int), (cA44, .int), (cA46, .int), (cA48, .int), (cA50, .boolean), (cA52, .int), (cA54, .int), (cA56, .int), (cA58, .int), (cA60, .int), (cA62, .int), (cA64, .int), (cA66, .int), (cA68, .int), (cA70, .int), (cA72, .int), (cA74, .int), (cA76, .int), (cA78, .int), (cA80, .int), (cA82, .int), (cA84, .int), (cA87, .int), (cA89, .int), (cA91, .int), (cA93, .int), (cA95, .int), (cA97, .int)] s := hK
  replace hP : va_P (dC, dI) vwCl [(h0, .inr (12, fs_96)), (q1, .inl (cA1, 8, .inr (.inl (fun _ => 0)))), (q3, .inl (cA3, 8, .inl (fun _ => 0))), (q5, .inl (cA5, 8, .inl (fun _ => 0))), (q7, .inl (cA7, 8, .inl (fun _ => 0))), (q9, .inl (cA9, 8, .inl (fun _ => 0))), (q15, .inl (cA15, 2048, .inl (fun _ => 0))), (q48, .inl (cA48, 320, .inl (fun _ => 0))), (q82, .inl (cA82, 2048, .inl (fun _ => 0))), (q97, .inl (cA97, 131072, .inl (fun _ => 0)))] H := hP
  replace hD : va_D A [(h0, .inr (12, fs_96)), (q1, .inl (cA1, 8, .inr (.inl (fun _ => 0)))), (q3, .inl (cA3, 8, .inl (fun _ => 0))), (q5, .inl (cA5, 8, .inl (fun _ => 0))), (q7, .inl (cA7, 8, .inl (fun _ => 0))), (q9, .inl (cA9, 8, .inl (fun _ => 0))), (q15, .inl (cA15, 2048, .inl (fun _ => 0))), (q48, .inl (cA48, 320, .inl (fun _ => 0))), (q82, .inl (cA82, 2048, .inl (fun _ => 0))), (q97, .inl (cA97, 131072, .inl (fun _ => 0)))] := hD
  refine W.widen (k := 48) (n := 1329672) (Nat.le_of_ble_eq_true rfl) (Nat.le_of_ble_eq_true rfl) ?_
  refine va_putF (D := (dC, dI)) (ci := 12) (v := .ref q97) (ty := (.array .int)) (C := RX11) (T := TX11) (N := 63) hx hb hts in_c_X11_init_X11 tyX11 tyX11_ok nmX11 hown hK hP hD hS 0 rfl rfl 59 (by decide) (hts (.fieldLink RX11 163 "ClaimBusModel" "frameOf" "[I") (List.mem_of_getElem? (i := 59) rfl)) (fun _ h9 => h9) rfl hin rfl (by decide +kernel) rfl rfl (by rw [hl_fs_96]; decide) dX11_init_414 (fun H locs hP hD hS => ?_)
  obtain ⟨fs_98, efs_98⟩ : ∃ z : List Value, z = fs_96.set 59 (.ref q97) := ⟨_, rfl⟩
  rw [← efs_98] at hP hD
  have hl_fs_98 : fs_98.length = 63 := by rw [efs_98, List.length_set]; exact hl_fs_96
  have h0_fs_98 : fs_98[0]? = some (.int 0) := by rw [efs_98, List.getElem?_set_ne (by decide)]; exact h0_fs_96
  have h1_fs_98 : fs_98[1]? = some (.int 0) := by rw [efs_98, List.getElem?_set_ne (by decide)]; exact h1_fs_96
  have h46_fs_98 : fs_98[46]? = some (.int 0) := by rw [efs_98, List.getElem?_set_ne (by decide)]; exact h46_fs_96
  have h47_fs_98 : fs_98[47]? = some (.int 0) := by rw [efs_98, List.getElem?_set_ne (by decide)]; exact h47_fs_96
  have h48_fs_98 : fs_98[48]? = some (.int 0) := by rw [efs_98, List.getElem?_set_ne (by decide)]; exact h48_fs_96
  have h50_fs_98 : fs_98[50]? = some (.int 0) := by rw [efs_98, List.getElem?_set_ne (by decide)]; exact h50_fs_96
  have h51_fs_98 : fs_98[51]? = some (.int 0) := by rw [efs_98, List.getElem?_set_ne (by decide)]; exact h51_fs_96
  have h52_fs_98 : fs_98[52]? = some (.int 0) := by rw [efs_98, List.getElem?_set_ne (by decide)]; exact h52_fs_96
  have h2_fs_98 : fs_98[2]? = some (.ref q1) := by rw [efs_98, List.getElem?_set_ne (by decide)]; exact h2_fs_96
  have h3_fs_98 : fs_98[3]? = some (.ref q3) := by rw [efs_98, List.getElem?_set_ne (by decide)]; exact h3_fs_96
  have h4_fs_98 : fs_98[4]? = some (.ref q5) := by rw [efs_98, List.getElem?_set_ne (by decide)]; exact h4_fs_96
  have h5_fs_98 : fs_98[5]? = some (.ref q7) := by rw [efs_98, List.getElem?_set_ne (by decide)]; exact h5_fs_96
  have h6_fs_98 : fs_98[6]? = some (.ref q9) := by rw [efs_98, List.getElem?_set_ne (by decide)]; exact h6_fs_96
  have h9_fs_98 : fs_98[9]? = some (.ref q15) := by rw [efs_98, List.getElem?_set_ne (by decide)]; exact h9_fs_96
  have h27_fs_98 : fs_98[27]? = some (.ref q48) := by rw [efs_98, List.getElem?_set_ne (by decide)]; exact h27_fs_96
  have h44_fs_98 : fs_98[44]? = some (.ref q82) := by rw [efs_98, List.getElem?_set_ne (by decide)]; exact h44_fs_96
  have h49_fs_98 : fs_98[49]? = some (.int (-1)) := by rw [efs_98, List.getElem?_set_ne (by decide)]; exact h49_fs_96
  replace hP : va_P (dC, dI) vwCl [(h0, .inr (12, fs_98)), (q1, .inl (cA1, 8, .inr (.inl (fun _ => 0)))), (q3, .inl (cA3, 8, .inl (fun _ => 0))), (q5, .inl (cA5, 8, .inl (fun _ => 0))), (q7, .inl (cA7, 8, .inl (fun _ => 0))), (q9, .inl (cA9, 8, .inl (fun _ => 0))), (q15, .inl (cA15, 2048, .inl (fun _ => 0))), (q48, .inl (cA48, 320, .inl (fun _ => 0))), (q82, .inl (cA82, 2048, .inl (fun _ => 0))), (q97, .inl (cA97, 131072, .inl (fun _ => 0)))] H := hP
  replace hD : va_D A [(h0, .inr (12, fs_98)), (q1, .inl (cA1, 8, .inr (.inl (fun _ => 0)))), (q3, .inl (cA3, 8, .inl (fun _ => 0))), (q5, .inl (cA5, 8, .inl (fun _ => 0))), (q7, .inl (cA7, 8, .inl (fun _ => 0))), (q9, .inl (cA9, 8, .inl (fun _ => 0))), (q15, .inl (cA15, 2048, .inl (fun _ => 0))), (q48, .inl (cA48, 320, .inl (fun _ => 0))), (q82, .inl (cA82, 2048, .inl (fun _ => 0))), (q97, .inl (cA97, 131072, .inl (fun _ => 0)))] := hD
  replace hP := hP.sub (ws' := [(h0, .inr (12, fs_98)), (q1, .inl (cA1, 8, .inr (.inl (fun _ => 0)))), (q3, .inl (cA3, 8, .inl (fun _ => 0))), (q5, .inl (cA5, 8, .inl (fun _ => 0))), (q7, .inl (cA7, 8, .inl (fun _ => 0))), (q9, .inl (cA9, 8, .inl (fun _ => 0))), (q15, .inl (cA15, 2048, .inl (fun _ => 0))), (q48, .inl (cA48, 320, .inl (fun _ => 0))), (q82, .inl (cA82, 2048, .inl (fun _ => 0)))]) [0, 1, 2, 3, 4, 5, 6, 7, 8] rfl
  replace hD := hD.sub (ws' := [(h0, .inr (12, fs_98)), (q1, .inl (cA1, 8, .inr (.inl (fun _ => 0)))), (q3, .inl (cA3, 8, .inl (fun _ => 0))), (q5, .inl (cA5, 8, .inl (fun _ => 0))), (q7, .inl (cA7, 8, .inl (fun _ => 0))), (q9, .inl (cA9, 8, .inl (fun _ => 0))), (q15, .inl (cA15, 2048, .inl (fun _ => 0))), (q48, .inl (cA48, 320, .inl (fun _ => 0))), (q82, .inl (cA82, 2048, .inl (fun _ => 0)))]) [0, 1, 2, 3, 4, 5, 6, 7, 8] (by decide) rfl
  refine lv_aload_n hx hb dX11_init_417 rfl (lv_at hl 0 rfl) ?_
  refine lv_sipush (v := 320) hx hb dX11_init_418 (by decide) ?_
  refine va_newa (atype := .int) (ty := .int) (N' := 320) (a0 := (320, .inl (fun _ => 0))) hx hb (hts (.arrayClass .int) (List.mem_of_getElem? (i := 6) rfl)) rfl hK hP hD hS hA (fun _ => rfl) (by decide) (by decide) (Nat.le_of_ble_eq_true rfl) (Nat.le_of_ble_eq_true rfl) (Nat.le_of_ble_eq_true rfl) dX11_init_421 (fun q99 cA99 H hK hP hD hS => ?_)
  replace hK : va_K (dC, dI) vwCl [(cA1, .long), (cA3, .int), (cA5, .int), (cA7, .boolean), (cA9, .int), (cA11, .int), (cA13, .int), (cA15, .int), (cA17, .int), (cA19, .int), (cA21, .int), (cA23, .int), (cA25, .int), (cA27, .int), (cA29, .int), (cA32, .boolean), (cA34, .int), (cA36, .int), (cA38, .int), (cA40, .int), (cA42, .int), (cA44, .int), (cA46, .int), (cA48, .int), (cA50, .boolean), (cA52, .int), (cA54, .int), (cA56, .int), (cA58, .int), (cA60, .int), (cA62, .int), (cA64, .int), (cA66, .int), (cA68, .int), (cA70, .int), (cA72, .int), (cA74, .int), (cA76, .int), (cA78, .int), (cA80, .int), (cA82, .int), (cA84, .int), (cA87, .int), (cA89, .int), (cA91, .int), (cA93, .int), (cA95, .int), (cA97, .int), (cA99, .int)] s := hK
  replace hP : va_P (dC, dI) vwCl [(h0, .inr (12, fs_98)), (q1, .inl (cA1, 8, .inr (.inl (fun _ => 0)))), (q3, .inl (cA3, 8, .inl (fun _ => 0))), (q5, .inl (cA5, 8, .inl (fun _ => 0))), (q7, .inl (cA7, 8, .inl (fun _ => 0))), (q9, .inl (cA9, 8, .inl (fun _ => 0))), (q15, .inl (cA15, 2048, .inl (fun _ => 0))), (q48, .inl (cA48, 320, .inl (fun _ => 0))), (q82, .inl (cA82, 2048, .inl (fun _ => 0))), (q99, .inl (cA99, 320, .inl (fun _ => 0)))] H := hP
  replace hD : va_D A [(h0, .inr (12, fs_98)), (q1, .inl (cA1, 8, .inr (.inl (fun _ => 0)))), (q3, .inl (cA3, 8, .inl (fun _ => 0))), (q5, .inl (cA5, 8, .inl (fun _ => 0))), (q7, .inl (cA7, 8, .inl (fun _ => 0))), (q9, .inl (cA9, 8, .inl (fun _ => 0))), (q15, .inl (cA15, 2048, .inl (fun _ => 0))), (q48, .inl (cA48, 320, .inl (fun _ => 0))), (q82, .inl (cA82, 2048, .inl (fun _ => 0))), (q99, .inl (cA99, 320, .inl (fun _ => 0)))] := hD
  refine W.widen (k := 49) (n := 1329992) (Nat.le_of_ble_eq_true rfl) (Nat.le_of_ble_eq_true rfl) ?_
  refine va_putF (D := (dC, dI)) (ci := 12) (v := .ref q99) (ty := (.array .int)) (C := RX11) (T := TX11) (N := 63) hx hb hts in_c_X11_init_X11 tyX11 tyX11_ok nmX11 hown hK hP hD hS 0 rfl rfl 61 (by decide) (hts (.fieldLink RX11 166 "ClaimBusModel" "getOf" "[I") (List.mem_of_getElem? (i := 60) rfl)) (fun _ h9 => h9) rfl hin rfl (by decide +kernel) rfl rfl (by rw [hl_fs_98]; decide) dX11_init_423 (fun H locs hP hD hS => ?_)
  obtain ⟨fs_100, efs_100⟩ : ∃ z : List Value, z = fs_98.set 61 (.ref q99) := ⟨_, rfl⟩
  rw [← efs_100] at hP hD
  have hl_fs_100 : fs_100.length = 63 := by rw [efs_100, List.length_set]; exact hl_fs_98
  have h0_fs_100 : fs_100[0]? = some (.int 0) := by rw [efs_100, List.getElem?_set_ne (by decide)]; exact h0_fs_98
  have h1_fs_100 : fs_100[1]? = some (.int 0) := by rw [efs_100, List.getElem?_set_ne (by decide)]; exact h1_fs_98
  have h46_fs_100 : fs_100[46]? = some (.int 0) := by rw [efs_100, List.getElem?_set_ne (by decide)]; exact h46_fs_98
  have h47_fs_100 : fs_100[47]? = some (.int 0) := by rw [efs_100, List.getElem?_set_ne (by decide)]; exact h47_fs_98
  have h48_fs_100 : fs_100[48]? = some (.int 0) := by rw [efs_100, List.getElem?_set_ne (by decide)]; exact h48_fs_98
  have h50_fs_100 : fs_100[50]? = some (.int 0) := by rw [efs_100, List.getElem?_set_ne (by decide)]; exact h50_fs_98
  have h51_fs_100 : fs_100[51]? = some (.int 0) := by rw [efs_100, List.getElem?_set_ne (by decide)]; exact h51_fs_98
  have h52_fs_100 : fs_100[52]? = some (.int 0) := by rw [efs_100, List.getElem?_set_ne (by decide)]; exact h52_fs_98
  have h2_fs_100 : fs_100[2]? = some (.ref q1) := by rw [efs_100, List.getElem?_set_ne (by decide)]; exact h2_fs_98
  have h3_fs_100 : fs_100[3]? = some (.ref q3) := by rw [efs_100, List.getElem?_set_ne (by decide)]; exact h3_fs_98
  have h4_fs_100 : fs_100[4]? = some (.ref q5) := by rw [efs_100, List.getElem?_set_ne (by decide)]; exact h4_fs_98
  have h5_fs_100 : fs_100[5]? = some (.ref q7) := by rw [efs_100, List.getElem?_set_ne (by decide)]; exact h5_fs_98
  have h6_fs_100 : fs_100[6]? = some (.ref q9) := by rw [efs_100, List.getElem?_set_ne (by decide)]; exact h6_fs_98
  have h9_fs_100 : fs_100[9]? = some (.ref q15) := by rw [efs_100, List.getElem?_set_ne (by decide)]; exact h9_fs_98
  have h27_fs_100 : fs_100[27]? = some (.ref q48) := by rw [efs_100, List.getElem?_set_ne (by decide)]; exact h27_fs_98
  have h44_fs_100 : fs_100[44]? = some (.ref q82) := by rw [efs_100, List.getElem?_set_ne (by decide)]; exact h44_fs_98
  have h49_fs_100 : fs_100[49]? = some (.int (-1)) := by rw [efs_100, List.getElem?_set_ne (by decide)]; exact h49_fs_98
  replace hP : va_P (dC, dI) vwCl [(h0, .inr (12, fs_100)), (q1, .inl (cA1, 8, .inr (.inl (fun _ => 0)))), (q3, .inl (cA3, 8, .inl (fun _ => 0))), (q5, .inl (cA5, 8, .inl (fun _ => 0))), (q7, .inl (cA7, 8, .inl (fun _ => 0))), (q9, .inl (cA9, 8, .inl (fun _ => 0))), (q15, .inl (cA15, 2048, .inl (fun _ => 0))), (q48, .inl (cA48, 320, .inl (fun _ => 0))), (q82, .inl (cA82, 2048, .inl (fun _ => 0))), (q99, .inl (cA99, 320, .inl (fun _ => 0)))] H := hP
  replace hD : va_D A [(h0, .inr (12, fs_100)), (q1, .inl (cA1, 8, .inr (.inl (fun _ => 0)))), (q3, .inl (cA3, 8, .inl (fun _ => 0))), (q5, .inl (cA5, 8, .inl (fun _ => 0))), (q7, .inl (cA7, 8, .inl (fun _ => 0))), (q9, .inl (cA9, 8, .inl (fun _ => 0))), (q15, .inl (cA15, 2048, .inl (fun _ => 0))), (q48, .inl (cA48, 320, .inl (fun _ => 0))), (q82, .inl (cA82, 2048, .inl (fun _ => 0))), (q99, .inl (cA99, 320, .inl (fun _ => 0)))] := hD
  replace hP := hP.sub (ws' := [(h0, .inr (12, fs_100)), (q1, .inl (cA1, 8, .inr (.inl (fun _ => 0)))), (q3, .inl (cA3, 8, .inl (fun _ => 0))), (q5, .inl (cA5, 8, .inl (fun _ => 0))), (q7, .inl (cA7, 8, .inl (fun _ => 0))), (q9, .inl (cA9, 8, .inl (fun _ => 0))), (q15, .inl (cA15, 2048, .inl (fun _ => 0))), (q48, .inl (cA48, 320, .inl (fun _ => 0))), (q82, .inl (cA82, 2048, .inl (fun _ => 0)))]) [0, 1, 2, 3, 4, 5, 6, 7, 8] rfl
  replace hD := hD.sub (ws' := [(h0, .inr (12, fs_100)), (q1, .inl (cA1, 8, .inr (.inl (fun _ => 0)))), (q3, .inl (cA3, 8, .inl (fun _ => 0))), (q5, .inl (cA5, 8, .inl (fun _ => 0))), (q7, .inl (cA7, 8, .inl (fun _ => 0))), (q9, .inl (cA9, 8, .inl (fun _ => 0))), (q15, .inl (cA15, 2048, .inl (fun _ => 0))), (q48, .inl (cA48, 320, .inl (fun _ => 0))), (q82, .inl (cA82, 2048, .inl (fun _ => 0)))]) [0, 1, 2, 3, 4, 5, 6, 7, 8] (by decide) rfl
  refine lv_aload_n hx hb dX11_init_426 rfl (lv_at hl 0 rfl) ?_
  refine lv_bipush (v := 8) hx hb dX11_init_427 (by decide) ?_
  refine va_newa (atype := .int) (ty := .int) (N' := 8) (a0 := (8, .inl (fun _ => 0))) hx hb (hts (.arrayClass .int) (List.mem_of_getElem? (i := 6) rfl)) rfl hK hP hD hS hA (fun _ => rfl) (by decide) (by decide) (Nat.le_of_ble_eq_true rfl) (Nat.le_of_ble_eq_true rfl) (Nat.le_of_ble_eq_true rfl) dX11_init_429 (fun q101 cA101 H hK hP hD hS => ?_)
  replace hK : va_K (dC, dI) vwCl [(cA1, .long), (cA3, .int), (cA5, .int), (cA7, .boolean), (cA9, .int), (cA11, .int), (cA13, .int), (cA15, .int), (cA17, .int), (cA19, .int), (cA21, .int), (cA23, .int), (cA25, .int), (cA27, .int), (cA29, .int), (cA32, .boolean), (cA34, .int), (cA36, .int), (cA38, .int), (cA40, .int), (cA42, .int), (cA44, .int), (cA46, .int), (cA48, .int), (cA50, .boolean), (cA52, .int), (cA54, .int), (cA56, .int), (cA58, .int), (cA60, .int), (cA62, .int), (cA64, .int), (cA66, .int), (cA68, .int), (cA70, .int), (cA72, .int), (cA74, .int), (cA76, .int), (cA78, .int), (cA80, .int), (cA82, .int), (cA84, .int), (cA87, .int), (cA89, .int), (cA91, .int), (cA93, .int), (cA95, .int), (cA97, .int), (cA99, .int), (cA101, .int)] s := hK
  replace hP : va_P (dC, dI) vwCl [(h0, .inr (12, fs_100)), (q1, .inl (cA1, 8, .inr (.inl (fun _ => 0)))), (q3, .inl (cA3, 8, .inl (fun _ => 0))), (q5, .inl (cA5, 8, .inl (fun _ => 0))), (q7, .inl (cA7, 8, .inl (fun _ => 0))), (q9, .inl (cA9, 8, .inl (fun _ => 0))), (q15, .inl (cA15, 2048, .inl (fun _ => 0))), (q48, .inl (cA48, 320, .inl (fun _ => 0))), (q82, .inl (cA82, 2048, .inl (fun _ => 0))), (q101, .inl (cA101, 8, .inl (fun _ => 0)))] H := hP
  replace hD : va_D A [(h0, .inr (12, fs_100)), (q1, .inl (cA1, 8, .inr (.inl (fun _ => 0)))), (q3, .inl (cA3, 8, .inl (fun _ => 0))), (q5, .inl (cA5, 8, .inl (fun _ => 0))), (q7, .inl (cA7, 8, .inl (fun _ => 0))), (q9, .inl (cA9, 8, .inl (fun _ => 0))), (q15, .inl (cA15, 2048, .inl (fun _ => 0))), (q48, .inl (cA48, 320, .inl (fun _ => 0))), (q82, .inl (cA82, 2048, .inl (fun _ => 0))), (q101, .inl (cA101, 8, .inl (fun _ => 0)))] := hD
  refine W.widen (k := 50) (n := 1330000) (Nat.le_of_ble_eq_true rfl) (Nat.le_of_ble_eq_true rfl) ?_
  refine va_putF (D := (dC, dI)) (ci := 12) (v := .ref q101) (ty := (.array .int)) (C := RX11) (T := TX11) (N := 63) hx hb hts in_c_X11_init_X11 tyX11 tyX11_ok nmX11 hown hK hP hD hS 0 rfl rfl 62 (by decide) (hts (.fieldLink RX11 169 "ClaimBusModel" "eight" "[I") (List.mem_of_getElem? (i := 61) rfl)) (fun _ h9 => h9) rfl hin rfl (by decide +kernel) rfl rfl (by rw [hl_fs_100]; decide) dX11_init_431 (fun H locs hP hD hS => ?_)
  obtain ⟨fs_102, efs_102⟩ : ∃ z : List Value, z = fs_100.set 62 (.ref q101) := ⟨_, rfl⟩
  rw [← efs_102] at hP hD
  have hl_fs_102 : fs_102.length = 63 := by rw [efs_102, List.length_set]; exact hl_fs_100
  have h0_fs_102 : fs_102[0]? = some (.int 0) := by rw [efs_102, List.getElem?_set_ne (by decide)]; exact h0_fs_100
  have h1_fs_102 : fs_102[1]? = some (.int 0) := by rw [efs_102, List.getElem?_set_ne (by decide)]; exact h1_fs_100
  have h46_fs_102 : fs_102[46]? = some (.int 0) := by rw [efs_102, List.getElem?_set_ne (by decide)]; exact h46_fs_100
  have h47_fs_102 : fs_102[47]? = some (.int 0) := by rw [efs_102, List.getElem?_set_ne (by decide)]; exact h47_fs_100
  have h48_fs_102 : fs_102[48]? = some (.int 0) := by rw [efs_102, List.getElem?_set_ne (by decide)]; exact h48_fs_100
  have h50_fs_102 : fs_102[50]? = some (.int 0) := by rw [efs_102, List.getElem?_set_ne (by decide)]; exact h50_fs_100
  have h51_fs_102 : fs_102[51]? = some (.int 0) := by rw [efs_102, List.getElem?_set_ne (by decide)]; exact h51_fs_100
  have h52_fs_102 : fs_102[52]? = some (.int 0) := by rw [efs_102, List.getElem?_set_ne (by decide)]; exact h52_fs_100
  have h2_fs_102 : fs_102[2]? = some (.ref q1) := by rw [efs_102, List.getElem?_set_ne (by decide)]; exact h2_fs_100
  have h3_fs_102 : fs_102[3]? = some (.ref q3) := by rw [efs_102, List.getElem?_set_ne (by decide)]; exact h3_fs_100
  have h4_fs_102 : fs_102[4]? = some (.ref q5) := by rw [efs_102, List.getElem?_set_ne (by decide)]; exact h4_fs_100
  have h5_fs_102 : fs_102[5]? = some (.ref q7) := by rw [efs_102, List.getElem?_set_ne (by decide)]; exact h5_fs_100
  have h6_fs_102 : fs_102[6]? = some (.ref q9) := by rw [efs_102, List.getElem?_set_ne (by decide)]; exact h6_fs_100
  have h9_fs_102 : fs_102[9]? = some (.ref q15) := by rw [efs_102, List.getElem?_set_ne (by decide)]; exact h9_fs_100
  have h27_fs_102 : fs_102[27]? = some (.ref q48) := by rw [efs_102, List.getElem?_set_ne (by decide)]; exact h27_fs_100
  have h44_fs_102 : fs_102[44]? = some (.ref q82) := by rw [efs_102, List.getElem?_set_ne (by decide)]; exact h44_fs_100
  have h49_fs_102 : fs_102[49]? = some (.int (-1)) := by rw [efs_102, List.getElem?_set_ne (by decide)]; exact h49_fs_100
  replace hP : va_P (dC, dI) vwCl [(h0, .inr (12, fs_102)), (q1, .inl (cA1, 8, .inr (.inl (fun _ => 0)))), (q3, .inl (cA3, 8, .inl (fun _ => 0))), (q5, .inl (cA5, 8, .inl (fun _ => 0))), (q7, .inl (cA7, 8, .inl (fun _ => 0))), (q9, .inl (cA9, 8, .inl (fun _ => 0))), (q15, .inl (cA15, 2048, .inl (fun _ => 0))), (q48, .inl (cA48, 320, .inl (fun _ => 0))), (q82, .inl (cA82, 2048, .inl (fun _ => 0))), (q101, .inl (cA101, 8, .inl (fun _ => 0)))] H := hP
  replace hD : va_D A [(h0, .inr (12, fs_102)), (q1, .inl (cA1, 8, .inr (.inl (fun _ => 0)))), (q3, .inl (cA3, 8, .inl (fun _ => 0))), (q5, .inl (cA5, 8, .inl (fun _ => 0))), (q7, .inl (cA7, 8, .inl (fun _ => 0))), (q9, .inl (cA9, 8, .inl (fun _ => 0))), (q15, .inl (cA15, 2048, .inl (fun _ => 0))), (q48, .inl (cA48, 320, .inl (fun _ => 0))), (q82, .inl (cA82, 2048, .inl (fun _ => 0))), (q101, .inl (cA101, 8, .inl (fun _ => 0)))] := hD
  replace hP := hP.sub (ws' := [(h0, .inr (12, fs_102)), (q1, .inl (cA1, 8, .inr (.inl (fun _ => 0)))), (q3, .inl (cA3, 8, .inl (fun _ => 0))), (q5, .inl (cA5, 8, .inl (fun _ => 0))), (q7, .inl (cA7, 8, .inl (fun _ => 0))), (q9, .inl (cA9, 8, .inl (fun _ => 0))), (q15, .inl (cA15, 2048, .inl (fun _ => 0))), (q48, .inl (cA48, 320, .inl (fun _ => 0))), (q82, .inl (cA82, 2048, .inl (fun _ => 0)))]) [0, 1, 2, 3, 4, 5, 6, 7, 8] rfl
  replace hD := hD.sub (ws' := [(h0, .inr (12, fs_102)), (q1, .inl (cA1, 8, .inr (.inl (fun _ => 0)))), (q3, .inl (cA3, 8, .inl (fun _ => 0))), (q5, .inl (cA5, 8, .inl (fun _ => 0))), (q7, .inl (cA7, 8, .inl (fun _ => 0))), (q9, .inl (cA9, 8, .inl (fun _ => 0))), (q15, .inl (cA15, 2048, .inl (fun _ => 0))), (q48, .inl (cA48, 320, .inl (fun _ => 0))), (q82, .inl (cA82, 2048, .inl (fun _ => 0)))]) [0, 1, 2, 3, 4, 5, 6, 7, 8] (by decide) rfl
  refine lv_iconst (v := 0) hx hb dX11_init_434 (by decide) ?_
  refine lv_istore_n (lv' := [(1, .int 0), (0, .ref h0)]) hx hb dX11_init_435 rfl hl (by decide) rfl (fun ls hl => ?_)
  obtain ⟨g9, hg9⟩ : ∃ z : Nat → Int32, z = (fun _ => 0) := ⟨_, rfl⟩
  obtain ⟨g44, hg44⟩ : ∃ z : Nat → Int32, z = (fun _ => 0) := ⟨_, rfl⟩
  replace hP : va_P (dC, dI) vwCl [(h0, .inr (12, fs_102)), (q1, .inl (cA1, 8, .inr (.inl (fun _ => 0)))), (q3, .inl (cA3, 8, .inl (fun _ => 0))), (q5, .inl (cA5, 8, .inl (fun _ => 0))), (q7, .inl (cA7, 8, .inl (fun _ => 0))), (q9, .inl (cA9, 8, .inl (fun _ => 0))), (q15, .inl (cA15, 2048, .inl g9)), (q48, .inl (cA48, 320, .inl (fun _ => 0))), (q82, .inl (cA82, 2048, .inl g44))] H := by rw [hg9, hg44]; exact hP
  replace hD : va_D A [(h0, .inr (12, fs_102)), (q1, .inl (cA1, 8, .inr (.inl (fun _ => 0)))), (q3, .inl (cA3, 8, .inl (fun _ => 0))), (q5, .inl (cA5, 8, .inl (fun _ => 0))), (q7, .inl (cA7, 8, .inl (fun _ => 0))), (q9, .inl (cA9, 8, .inl (fun _ => 0))), (q15, .inl (cA15, 2048, .inl g9)), (q48, .inl (cA48, 320, .inl (fun _ => 0))), (q82, .inl (cA82, 2048, .inl g44))] := by rw [hg9, hg44]; exact hD
  clear hg9 hg44
  obtain ⟨n, i, x1, hn, hx1, hx0⟩ : ∃ (n i : Nat) (x1 : Int32), i + n = 2048 ∧ x1 = nI i ∧ x1 = 0 := ⟨2048, 0, 0, Nat.zero_add _, nI_0.symm, rfl⟩
  replace hl : lv_has ls 2 [(1, .int x1), (0, .ref h0)] := by rw [hx0]; exact lv_sub hl [0, 1] rfl
  clear hx0
  induction n generalizing i x1 g9 g44 H locs ls with
  | zero =>
    refine lv_iload_n hx hb dX11_init_436 rfl (lv_at hl 0 rfl) ?_
    refine lv_sipush (v := 2048) hx hb dX11_init_437 (by decide) ?_
    refine lv_icmp_ge (tgt := 463) hx hb dX11_init_440 (by decide) (fun c_103 => ?_) (fun c_103 => ?_)
    rotate_left
    · exact absurd (show nI 2048 ≤ x1 from by rw [hx1]; exact nI_le (by omega) (by omega)) c_103
    refine lv_iconst (v := 0) hx hb dX11_init_463 (by decide) ?_
    refine lv_istore_n (lv' := [(1, .int 0), (0, .ref h0)]) hx hb dX11_init_464 rfl hl (by decide) rfl (fun ls hl => ?_)
    obtain ⟨g27, hg27⟩ : ∃ z : Nat → Int32, z = (fun _ => 0) := ⟨_, rfl⟩
    replace hP : va_P (dC, dI) vwCl [(h0, .inr (12, fs_102)), (q1, .inl (cA1, 8, .inr (.inl (fun _ => 0)))), (q3, .inl (cA3, 8, .inl (fun _ => 0))), (q5, .inl (cA5, 8, .inl (fun _ => 0))), (q7, .inl (cA7, 8, .inl (fun _ => 0))), (q9, .inl (cA9, 8, .inl (fun _ => 0))), (q15, .inl (cA15, 2048, .inl g9)), (q48, .inl (cA48, 320, .inl g27)), (q82, .inl (cA82, 2048, .inl g44))] H := by rw [hg27]; exact hP
    replace hD : va_D A [(h0, .inr (12, fs_102)), (q1, .inl (cA1, 8, .inr (.inl (fun _ => 0)))), (q3, .inl (cA3, 8, .inl (fun _ => 0))), (q5, .inl (cA5, 8, .inl (fun _ => 0))), (q7, .inl (cA7, 8, .inl (fun _ => 0))), (q9, .inl (cA9, 8, .inl (fun _ => 0))), (q15, .inl (cA15, 2048, .inl g9)), (q48, .inl (cA48, 320, .inl g27)), (q82, .inl (cA82, 2048, .inl g44))] := by rw [hg27]; exact hD
    clear hg27
    obtain ⟨n, i, x1, hn, hx1, hx0⟩ : ∃ (n i : Nat) (x1 : Int32), i + n = 320 ∧ x1 = nI i ∧ x1 = 0 := ⟨320, 0, 0, Nat.zero_add _, nI_0.symm, rfl⟩
    replace hl : lv_has ls 2 [(1, .int x1), (0, .ref h0)] := by rw [hx0]; exact lv_sub hl [0, 1] rfl
    clear hx0
    induction n generalizing i x1 g27 H locs ls with
    | zero =>
      refine lv_iload_n hx hb dX11_init_465 rfl (lv_at hl 0 rfl) ?_
      refine lv_sipush (v := 320) hx hb dX11_init_466 (by decide) ?_
      refine lv_icmp_ge (tgt := 485) hx hb dX11_init_469 (by decide) (fun c_104 => ?_) (fun c_104 => ?_)
      rotate_left
      · exact absurd (show nI 320 ≤ x1 from by rw [hx1]; exact nI_le (by omega) (by omega)) c_104
      have hP9 := hP.sub (ws' := [(h0, .inr (12, fs_102)), (q1, .inl (cA1, 8, .inr (.inl (fun _ => 0)))), (q3, .inl (cA3, 8, .inl (fun _ => 0))), (q5, .inl (cA5, 8, .inl (fun _ => 0))), (q7, .inl (cA7, 8, .inl (fun _ => 0))), (q9, .inl (cA9, 8, .inl (fun _ => 0)))]) [0, 1, 2, 3, 4, 5] rfl
      have hD9 := hD.sub (ws' := [(h0, .inr (12, fs_102)), (q1, .inl (cA1, 8, .inr (.inl (fun _ => 0)))), (q3, .inl (cA3, 8, .inl (fun _ => 0))), (q5, .inl (cA5, 8, .inl (fun _ => 0))), (q7, .inl (cA7, 8, .inl (fun _ => 0))), (q9, .inl (cA9, 8, .inl (fun _ => 0)))]) [0, 1, 2, 3, 4, 5] (by decide) rfl
      have hK9 := hK.sub (tys' := [(cA1, .long), (cA3, .int), (cA5, .int), (cA7, .boolean), (cA9, .int)]) [0, 1, 2, 3, 4] rfl
      exact W.vret hx hb hr (fun t ht hW => ⟨⟨(), rfl, trivial, ⟨_, q1, q3, q5, q7, q9, cA1, cA3, cA5, cA7, cA9, by rw [ht]; exact hP9, va_K.moved hW.alike hK9, hD9, h0_fs_102, h1_fs_102, h2_fs_102, h3_fs_102, h4_fs_102, h5_fs_102, h6_fs_102, h46_fs_102, h47_fs_102, h48_fs_102, h49_fs_102, h50_fs_102, h51_fs_102, h52_fs_102, hl_fs_102⟩⟩, hS.F ht⟩) hS.2.2 dX11_init_485
    | succ n ih =>
      refine lv_iload_n hx hb dX11_init_465 rfl (lv_at hl 0 rfl) ?_
      refine lv_sipush (v := 320) hx hb dX11_init_466 (by decide) ?_
      refine lv_icmp_ge (tgt := 485) hx hb dX11_init_469 (by decide) (fun c_105 => ?_) (fun c_105 => ?_)
      · exact absurd c_105 (show ¬ nI 320 ≤ x1 from by rw [hx1]; exact nI_ge (by omega) (by omega))
      refine lv_aload_n hx hb dX11_init_472 rfl (lv_at hl 1 rfl) ?_
      refine va_get (D := (dC, dI)) (ci := 12) (v := .ref q48) (C := RX11) (T := TX11) (N := 63) hx hb hts in_c_X11_init_X11 hown hK hP 0 rfl rfl 27 (by decide) (hts (.fieldLink RX11 86 "ClaimBusModel" "getSource" "[I") (List.mem_of_getElem? (i := 32) rfl)) (fun _ h9 => h9) h27_fs_102 dX11_init_473 ?_
      refine lv_iload_n hx hb dX11_init_476 rfl (lv_at hl 0 rfl) ?_
      refine lv_iconst (v := -1) hx hb dX11_init_477 (by decide) ?_
      refine va_iast hx hb hK hP hD hS 7 23 rfl rfl (by rw [hx1]; exact vp_in_nI (by omega) (by omega)) dX11_init_478 (fun H locs hP hD hS => ?_)
      obtain ⟨f_106, ef_106⟩ : ∃ z : Nat → Int32, z = upd g27 (Int32.toNatClampNeg (x1)) ((-1)) := ⟨_, rfl⟩
      replace hP : va_P (dC, dI) vwCl [(h0, .inr (12, fs_102)), (q1, .inl (cA1, 8, .inr (.inl (fun _ => 0)))), (q3, .inl (cA3, 8, .inl (fun _ => 0))), (q5, .inl (cA5, 8, .inl (fun _ => 0))), (q7, .inl (cA7, 8, .inl (fun _ => 0))), (q9, .inl (cA9, 8, .inl (fun _ => 0))), (q15, .inl (cA15, 2048, .inl g9)), (q48, .inl (cA48, 320, .inl f_106)), (q82, .inl (cA82, 2048, .inl g44))] H := by rw [ef_106]; exact hP
      replace hD : va_D A [(h0, .inr (12, fs_102)), (q1, .inl (cA1, 8, .inr (.inl (fun _ => 0)))), (q3, .inl (cA3, 8, .inl (fun _ => 0))), (q5, .inl (cA5, 8, .inl (fun _ => 0))), (q7, .inl (cA7, 8, .inl (fun _ => 0))), (q9, .inl (cA9, 8, .inl (fun _ => 0))), (q15, .inl (cA15, 2048, .inl g9)), (q48, .inl (cA48, 320, .inl f_106)), (q82, .inl (cA82, 2048, .inl g44))] := by rw [ef_106]; exact hD
      obtain ⟨x_107, ex_107⟩ : ∃ y : Int32, y = x1 + 1 := ⟨_, rfl⟩
      refine lv_iinc (v := x_107) (lv' := [(1, .int x_107), (0, .ref h0)]) hx hb dX11_init_479 hl (k := 0) rfl (by rw [ex_107]; rfl) (by decide) rfl (fun ls hl => ?_)
      refine lv_goto (tgt := 465) hx hb dX11_init_482 (by decide) ?_
      exact ih (i := i + 1) (x1 := x_107) (g27 := f_106) (hn := by omega) (hx1 := by rw [ex_107, hx1]; exact nI_1 i) (hP := hP) (hD := hD) (hS := hS) (hl := lv_sub hl [0, 1] rfl)
  | succ n ih =>
    refine lv_iload_n hx hb dX11_init_436 rfl (lv_at hl 0 rfl) ?_
    refine lv_sipush (v := 2048) hx hb dX11_init_437 (by decide) ?_
    refine lv_icmp_ge (tgt := 463) hx hb dX11_init_440 (by decide) (fun c_108 => ?_) (fun c_108 => ?_)
    · exact absurd c_108 (show ¬ nI 2048 ≤ x1 from by rw [hx1]; exact nI_ge (by omega) (by omega))
    refine lv_aload_n hx hb dX11_init_443 rfl (lv_at hl 1 rfl) ?_
    refine va_get (D := (dC, dI)) (ci := 12) (v := .ref q15) (C := RX11) (T := TX11) (N := 63) hx hb hts in_c_X11_init_X11 hown hK hP 0 rfl rfl 9 (by decide) (hts (.fieldLink RX11 33 "ClaimBusModel" "tables" "[I") (List.mem_of_getElem? (i := 14) rfl)) (fun _ h9 => h9) h9_fs_102 dX11_init_444 ?_
    refine lv_iload_n hx hb dX11_init_447 rfl (lv_at hl 0 rfl) ?_
    refine lv_iconst (v := -1) hx hb dX11_init_448 (by decide) ?_
    refine va_iast hx hb hK hP hD hS 6 7 rfl rfl (by rw [hx1]; exact vp_in_nI (by omega) (by omega)) dX11_init_449 (fun H locs hP hD hS => ?_)
    obtain ⟨f_109, ef_109⟩ : ∃ z : Nat → Int32, z = upd g9 (Int32.toNatClampNeg (x1)) ((-1)) := ⟨_, rfl⟩
    replace hP : va_P (dC, dI) vwCl [(h0, .inr (12, fs_102)), (q1, .inl (cA1, 8, .inr (.inl (fun _ => 0)))), (q3, .inl (cA3, 8, .inl (fun _ => 0))), (q5, .inl (cA5, 8, .inl (fun _ => 0))), (q7, .inl (cA7, 8, .inl (fun _ => 0))), (q9, .inl (cA9, 8, .inl (fun _ => 0))), (q15, .inl (cA15, 2048, .inl f_109)), (q48, .inl (cA48, 320, .inl (fun _ => 0))), (q82, .inl (cA82, 2048, .inl g44))] H := by rw [ef_109]; exact hP
    replace hD : va_D A [(h0, .inr (12, fs_102)), (q1, .inl (cA1, 8, .inr (.inl (fun _ => 0)))), (q3, .inl (cA3, 8, .inl (fun _ => 0))), (q5, .inl (cA5, 8, .inl (fun _ => 0))), (q7, .inl (cA7, 8, .inl (fun _ => 0))), (q9, .inl (cA9, 8, .inl (fun _ => 0))), (q15, .inl (cA15, 2048, .inl f_109)), (q48, .inl (cA48, 320, .inl (fun _ => 0))), (q82, .inl (cA82, 2048, .inl g44))] := by rw [ef_109]; exact hD
    refine lv_aload_n hx hb dX11_init_450 rfl (lv_at hl 1 rfl) ?_
    refine va_get (D := (dC, dI)) (ci := 12) (v := .ref q82) (C := RX11) (T := TX11) (N := 63) hx hb hts in_c_X11_init_X11 hown hK hP 0 rfl rfl 44 (by decide) (hts (.fieldLink RX11 138 "ClaimBusModel" "keptMany" "[I") (List.mem_of_getElem? (i := 50) rfl)) (fun _ h9 => h9) h44_fs_102 dX11_init_451 ?_
    refine lv_iload_n hx hb dX11_init_454 rfl (lv_at hl 0 rfl) ?_
    refine lv_iconst (v := -1) hx hb dX11_init_455 (by decide) ?_
    refine va_iast hx hb hK hP hD hS 8 40 rfl rfl (by rw [hx1]; exact vp_in_nI (by omega) (by omega)) dX11_init_456 (fun H locs hP hD hS => ?_)
    obtain ⟨f_110, ef_110⟩ : ∃ z : Nat → Int32, z = upd g44 (Int32.toNatClampNeg (x1)) ((-1)) := ⟨_, rfl⟩
    replace hP : va_P (dC, dI) vwCl [(h0, .inr (12, fs_102)), (q1, .inl (cA1, 8, .inr (.inl (fun _ => 0)))), (q3, .inl (cA3, 8, .inl (fun _ => 0))), (q5, .inl (cA5, 8, .inl (fun _ => 0))), (q7, .inl (cA7, 8, .inl (fun _ => 0))), (q9, .inl (cA9, 8, .inl (fun _ => 0))), (q15, .inl (cA15, 2048, .inl f_109)), (q48, .inl (cA48, 320, .inl (fun _ => 0))), (q82, .inl (cA82, 2048, .inl f_110))] H := by rw [ef_110]; exact hP
    replace hD : va_D A [(h0, .inr (12, fs_102)), (q1, .inl (cA1, 8, .inr (.inl (fun _ => 0)))), (q3, .inl (cA3, 8, .inl (fun _ => 0))), (q5, .inl (cA5, 8, .inl (fun _ => 0))), (q7, .inl (cA7, 8, .inl (fun _ => 0))), (q9, .inl (cA9, 8, .inl (fun _ => 0))), (q15, .inl (cA15, 2048, .inl f_109)), (q48, .inl (cA48, 320, .inl (fun _ => 0))), (q82, .inl (cA82, 2048, .inl f_110))] := by rw [ef_110]; exact hD
    obtain ⟨x_111, ex_111⟩ : ∃ y : Int32, y = x1 + 1 := ⟨_, rfl⟩
    refine lv_iinc (v := x_111) (lv' := [(1, .int x_111), (0, .ref h0)]) hx hb dX11_init_457 hl (k := 0) rfl (by rw [ex_111]; rfl) (by decide) rfl (fun ls hl => ?_)
    refine lv_goto (tgt := 436) hx hb dX11_init_460 (by decide) ?_
    exact ih (i := i + 1) (x1 := x_111) (g9 := f_109) (g44 := f_110) (hn := by omega) (hx1 := by rw [ex_111, hx1]; exact nI_1 i) (hP := hP) (hD := hD) (hS := hS) (hl := lv_sub hl [0, 1] rfl)
