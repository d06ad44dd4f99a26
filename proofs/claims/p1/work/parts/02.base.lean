/-! Small rows about worlds; what the tables say beside the words (nest mates' links, classes of rows of references) -/
theorem p_nil {D : va_G} {cl : List vw_C} {H : Heap} : va_P D cl [] H := fun k q h => by simp at h
theorem d_nil {A : Nat → Prop} : va_D A [] := ⟨fun i j p q h => by simp at h, fun k q h => by simp at h⟩
theorem ro_free {A0 : Nat → Prop} {H0 H : Heap} {locs : List Loc} (hS : va_S A0 H0 H locs) (hA : ∀ q : Nat, H0.size ≤ q → A0 q) : ∀ q : Nat, va_A [] H.size q → A0 q := fun q h => by
  rcases h with ⟨k, e, h⟩ | h
  · simp at h
  · exact hA q (Nat.le_trans hS.1 h)
theorem ro_keep {D : va_G} {cl : List vw_C} {ws : va_W} {H H1 : Heap} (hP : va_P D cl ws H) (hk : ∀ q : Nat, q < H.size → ¬ va_A [] H.size q → H1[q]? = H[q]?) : va_P D cl ws H1 := hP.kept fun k q hq => hk q.1 (hP k q hq).lt fun h => by
  rcases h with ⟨k, e, h⟩ | h
  · simp at h
  · exact absurd (hP _ q hq).lt (Nat.not_lt.mpr h)
theorem w_zq {C n d : String} {A : Nat → Prop} {s : State} {H : Heap} {locs : List Loc} (hZ : va_Zq C n d A s s.heap) (hS : va_S A s.heap H locs) : va_Zq C n d A s H := hZ.kept hS.2.1
def aoA (U : State) : Prop := (Cond.arrayOver (.array .int)).before #[] U = true
theorem aoA.moved {u U : State} (hvm : u.vm.Alike U.vm) (h : aoA u) : aoA U := by
  obtain ⟨comp, c, k, h1, h2, h3, h4, h5⟩ := arrayOverA_spec h
  obtain ⟨k', hk', he⟩ := hvm.2.2 _ _ h3
  have hi : (U.vm.classes.findIdx? fun (x : Class) => match x.kind with | .array component _ => component == comp | _ => false) = some c := (hvm.findIdx?_eq _ (fun _ => rfl)).trans h2
  have hkind : k'.kind = .array comp (.array .int) := by rw [he]; exact h4
  have f1 : U.vm.findClass (FieldType.array .int).toString = some comp := by rw [hvm.findClass]; exact h1
  have f2 : U.vm.findClass ("[" ++ (FieldType.array .int).toString) = some c := by rw [hvm.findClass]; exact h5
  unfold aoA Cond.before Cond.holds
  simp only [Cond.value]
  rw [f1, Option.bind_some]
  refine (congrArg (fun o : Option Nat => (o.bind (fun c => (U.vm.classes[c]?).map fun (k : Class) => match k.kind with | .array _ ty => decide (ty = FieldType.array .int) && decide (U.vm.findClass ("[" ++ (FieldType.array .int).toString) = some c) | _ => false) == some true)) hi).trans ?_
  simp [hk', hkind, f2]
theorem aoA.use {A : Array Value} {U : State} (h : aoA U) : (Cond.arrayOver (.array .int)).before A U = true := h
theorem s_rowI : (FieldType.array FieldType.int).toString = "[I" := by decide +kernel
/-- what holds of the tables in every state of the launch -/
def ev (U : State) : Prop := va_Nw (.methodLinkNest RX10 17 yX7_init "ClaimBus") U ∧ va_Nw (.methodLinkNest RX10 24 yX1_init "ClaimBus") U ∧ va_Nw (.methodLinkNest RX4 20 yX6_init "ClaimBus") U ∧ va_Nw (.methodLinkNest RX4 27 yX2_init "ClaimBus") U ∧ va_Nw (.methodLinkNest RX5 37 yX1_init "ClaimBus") U ∧ va_AO "ClaimBus$Node" U ∧ va_AO "ClaimBus$Transport" U ∧ aoA U
theorem ev.n1 {U : State} (h : ev U) : va_Nw (.methodLinkNest RX10 17 yX7_init "ClaimBus") U := h.1
theorem ev.n2 {U : State} (h : ev U) : va_Nw (.methodLinkNest RX10 24 yX1_init "ClaimBus") U := h.2.1
theorem ev.n3 {U : State} (h : ev U) : va_Nw (.methodLinkNest RX4 20 yX6_init "ClaimBus") U := h.2.2.1
theorem ev.n4 {U : State} (h : ev U) : va_Nw (.methodLinkNest RX4 27 yX2_init "ClaimBus") U := h.2.2.2.1
theorem ev.n5 {U : State} (h : ev U) : va_Nw (.methodLinkNest RX5 37 yX1_init "ClaimBus") U := h.2.2.2.2.1
theorem ev.AON {U : State} (h : ev U) : va_AO RX4 U := h.2.2.2.2.2.1
theorem ev.AOT {U : State} (h : ev U) : va_AO RX9 U := h.2.2.2.2.2.2.1
theorem ev.AOA {U : State} (h : ev U) : aoA U := h.2.2.2.2.2.2.2
theorem ev.warm {s U : State} (h : ev s) (hW : s.WarmedH U.vm) : ev U := ⟨va_Nw.warmM hW h.1, va_Nw.warmM hW h.2.1, va_Nw.warmM hW h.2.2.1, va_Nw.warmM hW h.2.2.2.1, va_Nw.warmM hW h.2.2.2.2.1, va_AO.moved hW.alike h.2.2.2.2.2.1, va_AO.moved hW.alike h.2.2.2.2.2.2.1, aoA.moved hW.alike h.2.2.2.2.2.2.2⟩
theorem ev.same {u U : State} (e : u.vm = U.vm) (h : ev u) : ev U := by
  have hv : u.vm.Alike U.vm := by rw [e]; exact Vm.Alike.refl U.vm
  exact ⟨va_Nw.same rfl e h.1, va_Nw.same rfl e h.2.1, va_Nw.same rfl e h.2.2.1, va_Nw.same rfl e h.2.2.2.1, va_Nw.same rfl e h.2.2.2.2.1, va_AO.moved hv h.2.2.2.2.2.1, va_AO.moved hv h.2.2.2.2.2.2.1, aoA.moved hv h.2.2.2.2.2.2.2⟩
section MYA
variable {p : Program} {l : Launch} {e : Env} {R : Room} {s : State} {m : MethodId} {args : Array Value} {below : List Frame} {meth : Method} {c : Code} {H : Heap} {locs : List Loc} {cells slots : Nat} {Q : State → Prop}
variable {cc : ByteArray} {pc : Nat} {ls : Array Slot} {rest : List Value} {D : va_G} {cl : List vw_C} {A : Nat → Prop} {ws : va_W} {H0 : Heap}
set_option maxHeartbeats 4000000 in
/-- a new row of int rows -/
theorem my_newA (hexec : p.tables.exec = Jvm.exec) (hb : c.code = cc) {own : String} {index : Nat} (hown : s.vm.findClass own = some m.cls) (hclink : (Cond.classLink own index "[I").before args s = true) (hover : aoA s) (hP : va_P D cl ws H) (hD : va_D A ws) (hS : va_S A H0 H locs) (hA : ∀ q : Nat, H0.size ≤ q → A q)
    {n : Int32} {N' : Nat} (hn : ¬ n < 0) (hN : n.toNatClampNeg = N') (hbytes : N' * 4 ≤ 536870912) (hcells : cells + 1 ≤ R.cells) (hslots : slots + N' ≤ R.slots) (hdg : decode cc pc = .ok (.anewarray index, 3))
    (kk : ∀ (q : Nat) (cA : ClassId) (H1 : Heap), va_P D cl (ws ++ [(q, .inl (cA, N', .inr (.inr (.inr (.inr (fun _ => none))))))]) H1 → va_D A (ws ++ [(q, .inl (cA, N', .inr (.inr (.inr (.inr (fun _ => none))))))]) → va_S A H0 H1 locs →
      W p l e R s m args below meth c H1 locs (cells + 1) (slots + N') Q (F0 m (pc + 3) ls (.ref q :: rest))) : W p l e R s m args below meth c H locs cells slots Q (F0 m pc ls (.int n :: rest)) := by
  subst hN
  have hc2 : (Cond.classLink own index (FieldType.array FieldType.int).toString).before args s = true := by rw [s_rowI]; exact hclink
  refine W.anewA (t := .int) hexec hb hown hc2 (aoA.use hover) rfl hdg rfl hn hbytes hcells hslots fun cA kA comp f1 f2 f3 f4 => ?_
  generalize hH1 : H.push ({ cls := cA, slots := Array.replicate n.toNatClampNeg .null, vm := .none } : Cell) = H1
  have z1 : H1.size = H.size + 1 := by rw [← hH1, Array.size_push]
  have e1 : H1[H.size]? = some (arrV cA n.toNatClampNeg (fun _ => .null)) := by rw [← hH1, Array.getElem?_push_size, ← arrV_new]
  have o1 : ∀ q : Nat, q < H.size → H1[q]? = H[q]? := fun q hq => by rw [← hH1, Array.getElem?_push, if_neg (Nat.ne_of_lt hq)]
  have hk : ∀ (k : Nat) (x : Nat × va_E), ws[k]? = some x → H1[x.1]? = H[x.1]? := fun k x hx => o1 x.1 ((hP k x hx).lt)
  refine kk H.size cA H1 ((hP.kept hk).app (fun k x hx => ?_)) (hD.push hP rfl (hA _ hS.1)) ⟨Nat.le_trans hS.1 (by omega), fun x h1 h2 => (o1 x (Nat.lt_of_lt_of_le h1 hS.1)).trans (hS.2.1 x h1 h2), hS.2.2⟩
  have hz : k < 1 := (List.getElem?_eq_some_iff.mp hx).1
  rw [show k = 0 by omega] at hx
  cases hx
  show H1[H.size]? = some (vp_cell _ _)
  rw [vp_cell_q]
  exact e1
end MYA
