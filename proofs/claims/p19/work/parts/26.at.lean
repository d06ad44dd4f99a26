noncomputable def v_c_at : List Cond := .code yL_at cL_at 2 (some .int) :: ([])
theorem gw_c_at : ∀ w ∈ v_c_at, goodWord w = true := List.forall_mem_cons.mpr ⟨by decide +kernel, List.all_eq_true.mp (by decide +kernel)⟩
set_option maxHeartbeats 4000000 in
set_option maxRecDepth 100000 in
theorem c_at (l : Launch) (dC : Nat → ClassId) (dI : Nat → Nat → Nat) (p0 : Int32) (i : Nat) (sz : Nat) (hi : i < 2000) : Met l yL_at v_c_at ({ frames := 0, cells := 0, slots := 0, locals := 0 }) (va_Pc [.int p0, .int (nI i)] (fun U => U.heap.size = sz ∧ va_P (dC, dI) vwCl [] U.heap ∧ va_K (dC, dI) vwCl [] U ∧ va_D (fun _ => True) [] ∧ ev U)) (va_Qi (fun (r : Int32) (_ : Unit) => r = mb p0 i) (fun (_ : Unit) (_ : State) => True) (va_A [] sz)) 0 0 (va_A [] sz) := by
  refine Met.ofW (cc := cL_at) (maxL := 2) (ret := (some .int)) (by decide) rfl ?_
  intro p e s m args below meth c s₁ B hml hv
  obtain ⟨rfl, hsz, hP, hK, hD0, hE⟩ := hv
  have hx := B.exec
  have hb := B.bytes
  have hr := B.returns
  have hts := atoms_spec (ws := v_c_at) B.pre
  have hown : s.vm.findClass RL = some m.cls := findClass_of_methodNamed B.named
  have hlocks := B.notSynchronized
  subst hsz
  have hD := hD0
  generalize hAe : va_A [] s.heap.size = A
  have hA : ∀ q : Nat, s.heap.size ≤ q → A q := fun q h => by rw [← hAe]; exact Or.inr h
  have hS : va_S A s.heap s.heap [] := va_S.rf
  replace hP : va_P (dC, dI) vwCl [] s.heap := hP
  have hl := lv_entry ([.int p0, .int (nI i)]) (n := 2) (Nat.le_of_ble_eq_true rfl)
  rw [lg_entry_eq]
  generalize (lg_sl ([.int p0, .int (nI i)]) ++ List.replicate (2 - (lg_sl ([.int p0, .int (nI i)])).length) Slot.unset).toArray = ls at hl ⊢
  replace hl : lv_has ls 2 [(0, .int p0), (1, .int (nI i))] := hl
  obtain ⟨H, hH⟩ : ∃ z : Heap, z = s.heap := ⟨_, rfl⟩
  rw [← hH]
  replace hS : va_S A s.heap H [] := by rw [hH]; exact va_S.rf
  replace hP : va_P (dC, dI) vwCl [] H := by rw [hH]; exact hP
  clear hH
  refine lv_iload_n hx hb dL_at_0 rfl (lv_at hl 0 rfl) ?_
  refine lv_iload_n hx hb dL_at_1 rfl (lv_at hl 1 rfl) ?_
  refine lv_iload_n hx hb dL_at_2 rfl (lv_at hl 1 rfl) ?_
  refine lv_imul hx hb dL_at_3 ?_
  refine lv_topi (fun x_1 ex_1 => ?_)
  obtain rfl : x_1 = (nI (((i) * (i)))) := ex_1.trans ((pk_mul i i).trans (show nI (i * i) = nI (((i) * (i))) from congrArg nI (by omega)))
  refine lv_iadd hx hb dL_at_4 ?_
  refine lv_iload_n hx hb dL_at_5 rfl (lv_at hl 1 rfl) ?_
  refine lv_sipush (v := 256) hx hb dL_at_6 (by decide) ?_
  refine lv_idiv hx hb dL_at_9 (by decide) ?_
  refine lv_topi (fun x_2 ex_2 => ?_)
  obtain rfl : x_2 = (nI (((i) / 256))) := ex_2.trans ((pk_div (a := i) (d := 256) (by omega) (by omega) (by omega)).trans (show nI (i / 256) = nI (((i) / 256)) from congrArg nI (by omega)))
  refine lv_iadd hx hb dL_at_10 ?_
  refine lv_sipush (v := 255) hx hb dL_at_11 (by decide) ?_
  refine lv_iand hx hb dL_at_14 ?_
  exact W.iret (v := (((p0 + (nI (((i) * (i))))) + (nI (((i) / 256)))) &&& 255)) hx hb hr (fun t ht hW => ⟨⟨(((p0 + (nI (((i) * (i))))) + (nI (((i) / 256)))) &&& 255), (), rfl, rfl, trivial⟩, hS.F ht⟩) hS.2.2 dL_at_15

theorem sum_0 (sd : Int32) (ms : Nat) : (0 : Int64).toInt32 = sm sd ms 0 := rfl
theorem sum_s {acc : Int64} {sd : Int32} {ms i : Nat} (h : acc.toInt32 = sm sd ms i) (hi : i < ms) : (acc + ((nI i).toInt64 + 1) * (mb sd i).toInt64).toInt32 = sm sd ms (i + 1) := by
  rw [Int64.toInt32_add, Int64.toInt32_mul, Int64.toInt32_add, Int32.toInt32_toInt64, Int32.toInt32_toInt64, h, show (1 : Int64).toInt32 = 1 from rfl]
  show sm sd ms i + (nI i + 1) * mb sd i = sm sd ms i + bx sd ms i * nI (i + 1)
  rw [show bx sd ms i = mb sd i from if_pos hi, show nI (i + 1) = nI i + 1 from (nI_add i 1).symm, Int32.mul_comm]
theorem group_1 {g : Nat} (h : g < 128) : g * 256 % 256 = 0 ∧ g * 256 < 32768 := by omega
