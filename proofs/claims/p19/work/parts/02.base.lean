/-! Small rows about worlds; what the tables say beside the words (nest mates' links, classes of rows of references) -/
theorem p_nil {D : va_G} {cl : List vw_C} {H : Heap} : va_P D cl [] H := fun k q h => by simp at h
theorem d_nil {A : Nat → Prop} : va_D A [] := ⟨fun i j p q h => by simp at h, fun k q h => by simp at h⟩
theorem ro_free {A0 : Nat → Prop} {H0 H : Heap} {locs : List Loc} (hS : va_S A0 H0 H locs) (hA : ∀ q : Nat, H0.size ≤ q → A0 q) : ∀ q : Nat, va_A [] H.size q → A0 q := fun q h => by
  rcases h with ⟨k, e, h⟩ | h
  · simp at h
  · exact hA q (Nat.le_trans hS.1 h)
theorem ro_keep {D : va_G} {cl : List vw_C} {ws : va_W} {H H1 : Heap} (hP : va_P D cl ws H) (hk : ∀ q : Nat, q < H.size → ¬ va_A [] H.size q → H1[q]? = H[q]?) : va_P D cl ws H1 := hP.kept fun k q hq => hk q.1 (hP k q hq).lt fun h => by
  rcases h with ⟨k, e, h⟩ | h
  · simp at h
  · exact absurd (hP _ q hq).lt (Nat.not_lt.mpr h)
theorem w_zq {C n d : String} {A : Nat → Prop} {s : State} {H : Heap} {locs : List Loc} (hZ : va_Zq C n d A s s.heap) (hS : va_S A s.heap H locs) : va_Zq C n d A s H := hZ.kept hS.2.1
def aoA (U : State) : Prop := (Cond.arrayOver (.array .int)).before #[] U = true
theorem aoA.moved {u U : State} (hvm : u.vm.Alike U.vm) (h : aoA u) : aoA U := by
  obtain ⟨comp, c, k, h1, h2, h3, h4, h5⟩ := arrayOverA_spec h
  obtain ⟨k', hk', he⟩ := hvm.2.2 _ _ h3
  have hi : (U.vm.classes.findIdx? fun (x : Class) => match x.kind with | .array component _ => component == comp | _ => false) = some c := (hvm.findIdx?_eq _ (fun _ => rfl)).trans h2
  have hkind : k'.kind = .array comp (.array .int) := by rw [he]; exact h4
  have f1 : U.vm.findClass (FieldType.array .int).toString = some comp := by rw [hvm.findClass]; exact h1
  have f2 : U.vm.findClass ("[" ++ (FieldType.array .int).toString) = some c := by rw [hvm.findClass]; exact h5
  unfold aoA Cond.before Cond.holds
  simp only [Cond.value]
  rw [f1, Option.bind_some]
  refine (congrArg (fun o : Option Nat => (o.bind (fun c => (U.vm.classes[c]?).map fun (k : Class) => match k.kind with | .array _ ty => decide (ty = FieldType.array .int) && decide (U.vm.findClass ("[" ++ (FieldType.array .int).toString) = some c) | _ => false) == some true)) hi).trans ?_
  simp [hk', hkind, f2]
theorem aoA.use {A : Array Value} {U : State} (h : aoA U) : (Cond.arrayOver (.array .int)).before A U = true := h
theorem s_rowI : (FieldType.array FieldType.int).toString = "[I" := by decide +kernel
/-- what holds of the tables in every state of the launch -/
def ev (U : State) : Prop := va_Nw (.methodLinkNest RX10 17 yX7_init "ClaimBus") U ∧ va_Nw (.methodLinkNest RX10 24 yX1_init "ClaimBus") U ∧ va_Nw (.methodLinkNest RX4 20 yX6_init "ClaimBus") U ∧ va_Nw (.methodLinkNest RX4 27 yX2_init "ClaimBus") U ∧ va_Nw (.methodLinkNest RX5 37 yX1_init "ClaimBus") U ∧ va_Nw (.methodLinkNest RX5 63 yX0_init "ClaimBus") U ∧ va_Nw (.methodLinkNest RX4 282 yX9_init "ClaimBus") U ∧ va_Nw (.methodLinkNest RX5 103 yX10_identifier "ClaimBus") U ∧ va_Nw (.methodLinkNest RX5 107 yX10_pack "ClaimBus") U ∧ va_Nw (.methodLinkNest RX3 50 yX10_pack "ClaimBus") U ∧ va_Nw (.methodLinkNest RX3 42 yX10_identifier "ClaimBus") U ∧ va_AO "ClaimBus$Node" U ∧ va_AO "ClaimBus$Transport" U ∧ va_AO "java/lang/Object" U ∧ aoA U ∧ va_Nw (.castable RX3 "java/lang/Object") U ∧ va_Nw (.castable RX9 "java/lang/Object") U
theorem ev.n1 {U : State} (h : ev U) : va_Nw (.methodLinkNest RX10 17 yX7_init "ClaimBus") U := h.1
theorem ev.n2 {U : State} (h : ev U) : va_Nw (.methodLinkNest RX10 24 yX1_init "ClaimBus") U := h.2.1
theorem ev.n3 {U : State} (h : ev U) : va_Nw (.methodLinkNest RX4 20 yX6_init "ClaimBus") U := h.2.2.1
theorem ev.n4 {U : State} (h : ev U) : va_Nw (.methodLinkNest RX4 27 yX2_init "ClaimBus") U := h.2.2.2.1
theorem ev.n5 {U : State} (h : ev U) : va_Nw (.methodLinkNest RX5 37 yX1_init "ClaimBus") U := h.2.2.2.2.1
theorem ev.n6 {U : State} (h : ev U) : va_Nw (.methodLinkNest RX5 63 yX0_init "ClaimBus") U := h.2.2.2.2.2.1
theorem ev.n7 {U : State} (h : ev U) : va_Nw (.methodLinkNest RX4 282 yX9_init "ClaimBus") U := h.2.2.2.2.2.2.1
theorem ev.n8 {U : State} (h : ev U) : va_Nw (.methodLinkNest RX5 103 yX10_identifier "ClaimBus") U := h.2.2.2.2.2.2.2.1
theorem ev.n9 {U : State} (h : ev U) : va_Nw (.methodLinkNest RX5 107 yX10_pack "ClaimBus") U := h.2.2.2.2.2.2.2.2.1
theorem ev.n10 {U : State} (h : ev U) : va_Nw (.methodLinkNest RX3 50 yX10_pack "ClaimBus") U := h.2.2.2.2.2.2.2.2.2.1
theorem ev.n11 {U : State} (h : ev U) : va_Nw (.methodLinkNest RX3 42 yX10_identifier "ClaimBus") U := h.2.2.2.2.2.2.2.2.2.2.1
theorem ev.AON {U : State} (h : ev U) : va_AO RX4 U := h.2.2.2.2.2.2.2.2.2.2.2.1
theorem ev.AOT {U : State} (h : ev U) : va_AO RX9 U := h.2.2.2.2.2.2.2.2.2.2.2.2.1
theorem ev.AOO {U : State} (h : ev U) : va_AO "java/lang/Object" U := h.2.2.2.2.2.2.2.2.2.2.2.2.2.1
theorem ev.AOA {U : State} (h : ev U) : aoA U := h.2.2.2.2.2.2.2.2.2.2.2.2.2.2.1
theorem ev.CO3 {U : State} (h : ev U) : va_Nw (.castable RX3 "java/lang/Object") U := h.2.2.2.2.2.2.2.2.2.2.2.2.2.2.2.1
theorem ev.CO9 {U : State} (h : ev U) : va_Nw (.castable RX9 "java/lang/Object") U := h.2.2.2.2.2.2.2.2.2.2.2.2.2.2.2.2
theorem ev.warm {s U : State} (h : ev s) (hW : s.WarmedH U.vm) : ev U := ⟨va_Nw.warmM hW h.1, va_Nw.warmM hW h.2.1, va_Nw.warmM hW h.2.2.1, va_Nw.warmM hW h.2.2.2.1, va_Nw.warmM hW h.2.2.2.2.1, va_Nw.warmM hW h.2.2.2.2.2.1, va_Nw.warmM hW h.2.2.2.2.2.2.1, va_Nw.warmM hW h.2.2.2.2.2.2.2.1, va_Nw.warmM hW h.2.2.2.2.2.2.2.2.1, va_Nw.warmM hW h.2.2.2.2.2.2.2.2.2.1, va_Nw.warmM hW h.2.2.2.2.2.2.2.2.2.2.1, va_AO.moved hW.alike h.2.2.2.2.2.2.2.2.2.2.2.1, va_AO.moved hW.alike h.2.2.2.2.2.2.2.2.2.2.2.2.1, va_AO.moved hW.alike h.2.2.2.2.2.2.2.2.2.2.2.2.2.1, aoA.moved hW.alike h.2.2.2.2.2.2.2.2.2.2.2.2.2.2.1, va_Nw.warmC hW h.2.2.2.2.2.2.2.2.2.2.2.2.2.2.2.1, va_Nw.warmC hW h.2.2.2.2.2.2.2.2.2.2.2.2.2.2.2.2⟩
theorem ev.same {u U : State} (e : u.vm = U.vm) (h : ev u) : ev U := by
  have hv : u.vm.Alike U.vm := by rw [e]; exact Vm.Alike.refl U.vm
  exact ⟨va_Nw.same rfl e h.1, va_Nw.same rfl e h.2.1, va_Nw.same rfl e h.2.2.1, va_Nw.same rfl e h.2.2.2.1, va_Nw.same rfl e h.2.2.2.2.1, va_Nw.same rfl e h.2.2.2.2.2.1, va_Nw.same rfl e h.2.2.2.2.2.2.1, va_Nw.same rfl e h.2.2.2.2.2.2.2.1, va_Nw.same rfl e h.2.2.2.2.2.2.2.2.1, va_Nw.same rfl e h.2.2.2.2.2.2.2.2.2.1, va_Nw.same rfl e h.2.2.2.2.2.2.2.2.2.2.1, va_AO.moved hv h.2.2.2.2.2.2.2.2.2.2.2.1, va_AO.moved hv h.2.2.2.2.2.2.2.2.2.2.2.2.1, va_AO.moved hv h.2.2.2.2.2.2.2.2.2.2.2.2.2.1, aoA.moved hv h.2.2.2.2.2.2.2.2.2.2.2.2.2.2.1, va_Nw.same rfl e h.2.2.2.2.2.2.2.2.2.2.2.2.2.2.2.1, va_Nw.same rfl e h.2.2.2.2.2.2.2.2.2.2.2.2.2.2.2.2⟩
section MYA
variable {p : Program} {l : Launch} {e : Env} {R : Room} {s : State} {m : MethodId} {args : Array Value} {below : List Frame} {meth : Method} {c : Code} {H : Heap} {locs : List Loc} {cells slots : Nat} {Q : State → Prop}
variable {cc : ByteArray} {pc : Nat} {ls : Array Slot} {rest : List Value} {D : va_G} {cl : List vw_C} {A : Nat → Prop} {ws : va_W} {H0 : Heap}
set_option maxHeartbeats 4000000 in
/-- a new row of int rows -/
theorem my_newA (hexec : p.tables.exec = Jvm.exec) (hb : c.code = cc) {own : String} {index : Nat} (hown : s.vm.findClass own = some m.cls) (hclink : (Cond.classLink own index "[I").before args s = true) (hover : aoA s) (hP : va_P D cl ws H) (hD : va_D A ws) (hS : va_S A H0 H locs) (hA : ∀ q : Nat, H0.size ≤ q → A q)
    {n : Int32} {N' : Nat} (hn : ¬ n < 0) (hN : n.toNatClampNeg = N') (hbytes : N' * 4 ≤ 536870912) (hcells : cells + 1 ≤ R.cells) (hslots : slots + N' ≤ R.slots) (hdg : decode cc pc = .ok (.anewarray index, 3))
    (kk : ∀ (q : Nat) (cA : ClassId) (H1 : Heap), va_P D cl (ws ++ [(q, .inl (cA, N', .inr (.inr (.inr (.inr (fun _ => none))))))]) H1 → va_D A (ws ++ [(q, .inl (cA, N', .inr (.inr (.inr (.inr (fun _ => none))))))]) → va_S A H0 H1 locs →
      W p l e R s m args below meth c H1 locs (cells + 1) (slots + N') Q (F0 m (pc + 3) ls (.ref q :: rest))) : W p l e R s m args below meth c H locs cells slots Q (F0 m pc ls (.int n :: rest)) := by
  subst hN
  have hc2 : (Cond.classLink own index (FieldType.array FieldType.int).toString).before args s = true := by rw [s_rowI]; exact hclink
  refine W.anewA (t := .int) hexec hb hown hc2 (aoA.use hover) rfl hdg rfl hn hbytes hcells hslots fun cA kA comp f1 f2 f3 f4 => ?_
  generalize hH1 : H.push ({ cls := cA, slots := Array.replicate n.toNatClampNeg .null, vm := .none } : Cell) = H1
  have z1 : H1.size = H.size + 1 := by rw [← hH1, Array.size_push]
  have e1 : H1[H.size]? = some (arrV cA n.toNatClampNeg (fun _ => .null)) := by rw [← hH1, Array.getElem?_push_size, ← arrV_new]
  have o1 : ∀ q : Nat, q < H.size → H1[q]? = H[q]? := fun q hq => by rw [← hH1, Array.getElem?_push, if_neg (Nat.ne_of_lt hq)]
  have hk : ∀ (k : Nat) (x : Nat × va_E), ws[k]? = some x → H1[x.1]? = H[x.1]? := fun k x hx => o1 x.1 ((hP k x hx).lt)
  refine kk H.size cA H1 ((hP.kept hk).app (fun k x hx => ?_)) (hD.push hP rfl (hA _ hS.1)) ⟨Nat.le_trans hS.1 (by omega), fun x h1 h2 => (o1 x (Nat.lt_of_lt_of_le h1 hS.1)).trans (hS.2.1 x h1 h2), hS.2.2⟩
  have hz : k < 1 := (List.getElem?_eq_some_iff.mp hx).1
  rw [show k = 0 by omega] at hx
  cases hx
  show H1[H.size]? = some (vp_cell _ _)
  rw [vp_cell_q]
  exact e1
end MYA
theorem q_or (a b k : Nat) (h1 : a % 2 ^ k = 0) (h2 : b < 2 ^ k) (h3 : a + b < 2 ^ 32) : nI a ||| nI b = nI (a + b) := by
  apply Int32.toBitVec_inj.mp
  apply BitVec.eq_of_toNat_eq
  rw [Int32.toBitVec_or, BitVec.toNat_or, pk_tn (by omega), pk_tn (by omega), pk_tn h3]
  have h4 := Nat.two_pow_add_eq_or_of_lt h2 (a / 2 ^ k)
  have h5 : 2 ^ k * (a / 2 ^ k) = a := by
    have := Nat.div_add_mod a (2 ^ k)
    rw [h1] at this
    exact this
  rw [h5] at h4
  exact h4.symm
theorem q_or' (a b k : Nat) (h1 : b % 2 ^ k = 0) (h2 : a < 2 ^ k) (h3 : a + b < 2 ^ 32) : nI a ||| nI b = nI (a + b) := by
  rw [Int32.or_comm, q_or b a k h1 h2 (by omega), Nat.add_comm]
theorem q_nm1 {n : Nat} (h : n < 2 ^ 31) : nI n ≠ (-1 : Int32) := fun e => by
  have h1 := congrArg Int32.toInt e
  rw [nI_toInt h, show (-1 : Int32).toInt = -1 from by decide] at h1
  omega
/-- byte k of a frame -/
def fb (f o : Int32) (k : Nat) : Int32 := if k < 4 then (f.toUInt32 >>> ((nI (8 * k)).toUInt32 &&& Int32.toUInt32 31)).toInt32 &&& 255 else (o.toUInt32 >>> ((nI (8 * (k - 4))).toUInt32 &&& Int32.toUInt32 31)).toInt32 &&& 255
/-- byte i of a message of that size -/
def mb (seed : Int32) (i : Nat) : Int32 := (seed + nI (i * i) + nI (i / 256)) &&& 255
/-- .. or 255 behind its end -/
def bx (seed : Int32) (size i : Nat) : Int32 := if i < size then mb seed i else 255
/-- four bytes as one number, as the class joins them -/
def pk (a b c d : Int32) : Int32 := a &&& 255 ||| (b &&& 255) <<< ((8 : Int32) &&& 31) ||| (c &&& 255) <<< ((16 : Int32) &&& 31) ||| d <<< ((24 : Int32) &&& 31)
theorem pk_nat {a b c d : Nat} (ha : a < 256) (hb : b < 256) (hc : c < 256) (hd : d < 256) : pk (nI a) (nI b) (nI c) (nI d) = nI (a + 256 * b + 65536 * c + 16777216 * d) := by
  unfold pk
  rw [pk_andN (n := a) (m := 255) (by omega) 8 (by decide), pk_andN (n := b) (m := 255) (by omega) 8 (by decide), pk_andN (n := c) (m := 255) (by omega) 8 (by decide)]
  rw [pk_shlN (n := b % 2 ^ 8) ((8 : Int32) &&& 31) 8 (by decide) (by omega), pk_shlN (n := c % 2 ^ 8) ((16 : Int32) &&& 31) 16 (by decide) (by omega), pk_shlN (n := d) ((24 : Int32) &&& 31) 24 (by decide) (by omega)]
  rw [q_or' _ _ 8 (by omega) (by omega) (by omega), q_or' _ _ 16 (by omega) (by omega) (by omega), q_or' _ _ 24 (by omega) (by omega) (by omega)]
  exact congrArg nI (by omega)
theorem q_255 (x : Int32) : ∃ n : Nat, n < 256 ∧ x &&& 255 = nI n := pk_andE x 8 (m := 255) (by decide)
theorem fb_0 {N : Nat} (o : Int32) (hN : N < 4294967296) : fb (nI N) o 0 = nI (N / 1 % 256) := by
  unfold fb
  rw [if_pos (by omega), pk_ushrN (n := N) (by omega) _ 0 (by decide), pk_andN (m := 255) (by omega) 8 (by decide)]
theorem fb_1 {N : Nat} (o : Int32) (hN : N < 4294967296) : fb (nI N) o 1 = nI (N / 256 % 256) := by
  unfold fb
  rw [if_pos (by omega), pk_ushrN (n := N) (by omega) _ 8 (by decide), pk_andN (m := 255) (by omega) 8 (by decide)]
theorem fb_2 {N : Nat} (o : Int32) (hN : N < 4294967296) : fb (nI N) o 2 = nI (N / 65536 % 256) := by
  unfold fb
  rw [if_pos (by omega), pk_ushrN (n := N) (by omega) _ 16 (by decide), pk_andN (m := 255) (by omega) 8 (by decide)]
theorem fb_3 {N : Nat} (o : Int32) (hN : N < 4294967296) : fb (nI N) o 3 = nI (N / 16777216 % 256) := by
  unfold fb
  rw [if_pos (by omega), pk_ushrN (n := N) (by omega) _ 24 (by decide), pk_andN (m := 255) (by omega) 8 (by decide)]
theorem fb_4 {N : Nat} (f : Int32) (hN : N < 4294967296) : fb f (nI N) 4 = nI (N / 1 % 256) := by
  unfold fb
  rw [if_neg (by omega), pk_ushrN (n := N) (by omega) _ 0 (by decide), pk_andN (m := 255) (by omega) 8 (by decide)]
theorem fb_5 {N : Nat} (f : Int32) (hN : N < 4294967296) : fb f (nI N) 5 = nI (N / 256 % 256) := by
  unfold fb
  rw [if_neg (by omega), pk_ushrN (n := N) (by omega) _ 8 (by decide), pk_andN (m := 255) (by omega) 8 (by decide)]
theorem fb_6 {N : Nat} (f : Int32) (hN : N < 4294967296) : fb f (nI N) 6 = nI (N / 65536 % 256) := by
  unfold fb
  rw [if_neg (by omega), pk_ushrN (n := N) (by omega) _ 16 (by decide), pk_andN (m := 255) (by omega) 8 (by decide)]
theorem fb_7 {N : Nat} (f : Int32) (hN : N < 4294967296) : fb f (nI N) 7 = nI (N / 16777216 % 256) := by
  unfold fb
  rw [if_neg (by omega), pk_ushrN (n := N) (by omega) _ 24 (by decide), pk_andN (m := 255) (by omega) 8 (by decide)]
theorem q_shl8 {N : Nat} (hN : N < 4294967296) : nI N <<< ((8 : Int32) &&& 31) = nI (N % 16777216 * 256) := by
  apply Int32.toBitVec_inj.mp
  apply BitVec.eq_of_toNat_eq
  rw [pk_shl _ _ 8 (by decide), pk_tn (by omega), pk_tn (by omega)]
  omega
theorem bx_nat (sd : Int32) (ms i : Nat) : ∃ n : Nat, n < 256 ∧ bx sd ms i = nI n := by
  unfold bx mb
  by_cases h : i < ms
  · rw [if_pos h]
    exact q_255 _
  · rw [if_neg h]
    exact ⟨255, by omega, rfl⟩
theorem pkt_bytes (sd : Int32) (ms a b nu : Nat) (hb : b = a + 3) (hn : nu < 256) :
    fb (nI nu ||| pk (bx sd ms a) (bx sd ms (a + 1)) (bx sd ms (a + 2)) (bx sd ms (a + 3)) <<< ((8 : Int32) &&& 31)) (pk (bx sd ms b) (bx sd ms (b + 1)) (bx sd ms (b + 2)) (bx sd ms (b + 3))) 0 = nI nu ∧
    ∀ i, i < 7 → fb (nI nu ||| pk (bx sd ms a) (bx sd ms (a + 1)) (bx sd ms (a + 2)) (bx sd ms (a + 3)) <<< ((8 : Int32) &&& 31)) (pk (bx sd ms b) (bx sd ms (b + 1)) (bx sd ms (b + 2)) (bx sd ms (b + 3))) (i + 1) = bx sd ms (a + i) := by
  subst hb
  obtain ⟨n0, h0, e0⟩ := bx_nat sd ms a
  obtain ⟨n1, h1, e1⟩ := bx_nat sd ms (a + 1)
  obtain ⟨n2, h2, e2⟩ := bx_nat sd ms (a + 2)
  obtain ⟨n3, h3, e3⟩ := bx_nat sd ms (a + 3)
  obtain ⟨n4, h4, e4⟩ := bx_nat sd ms (a + 4)
  obtain ⟨n5, h5, e5⟩ := bx_nat sd ms (a + 5)
  obtain ⟨n6, h6, e6⟩ := bx_nat sd ms (a + 6)
  rw [show a + 3 + 1 = a + 4 from rfl, show a + 3 + 2 = a + 5 from rfl, show a + 3 + 3 = a + 6 from rfl, e0, e1, e2, e3, e4, e5, e6, pk_nat h0 h1 h2 h3, pk_nat h3 h4 h5 h6, q_shl8 (by omega), q_or' nu _ 8 (by omega) (by omega) (by omega)]
  refine ⟨?_, fun i hi => ?_⟩
  · rw [fb_0 _ (by omega)]
    exact congrArg nI (by omega)
  · rcases (by omega : i = 0 ∨ i = 1 ∨ i = 2 ∨ i = 3 ∨ i = 4 ∨ i = 5 ∨ i = 6) with rfl | rfl | rfl | rfl | rfl | rfl | rfl
    · rw [show a + 0 = a from rfl, e0, fb_1 _ (by omega)]; exact congrArg nI (by omega)
    · rw [e1, fb_2 _ (by omega)]; exact congrArg nI (by omega)
    · rw [e2, fb_3 _ (by omega)]; exact congrArg nI (by omega)
    · rw [e3, fb_4 _ (by omega)]; exact congrArg nI (by omega)
    · rw [e4, fb_5 _ (by omega)]; exact congrArg nI (by omega)
    · rw [e5, fb_6 _ (by omega)]; exact congrArg nI (by omega)
    · rw [e6, fb_7 _ (by omega)]; exact congrArg nI (by omega)
theorem ent_bv (X Y : BitVec 32) : ((X.signExtend 64 <<< 32) ||| (Y.signExtend 64 &&& 4294967295#64)).signExtend 32 = Y := by
  apply BitVec.eq_of_getLsbD_eq
  intro i hi
  have e : (4294967295#64).getLsbD i = true := by
    have h1 : (4294967295#64) = BitVec.setWidth 64 (BitVec.allOnes 32) := by decide
    rw [h1, BitVec.getLsbD_setWidth, BitVec.getLsbD_allOnes]
    simp [hi]
    omega
  have h64 : i < 64 := by omega
  simp only [BitVec.getLsbD_signExtend, BitVec.getLsbD_or, BitVec.getLsbD_and, BitVec.getLsbD_shiftLeft, e, hi, h64, decide_true, decide_false, if_true, ite_true, ↓reduceIte, Bool.true_and, Bool.and_true, Bool.not_true, Bool.not_false, Bool.false_and, Bool.and_false, Bool.false_or, Bool.or_false]
theorem ent_lo (x y : Int32) : ((x.toInt64 <<< ((32 : Int32).toInt64 &&& 63)) ||| (y.toInt64 &&& 4294967295)).toInt32 = y := by
  apply Int32.toBitVec_inj.mp
  have e : ((32 : Int32).toInt64 &&& 63).toBitVec.smod 64 = 32#64 := by decide
  show ((x.toBitVec.signExtend 64 <<< (((32 : Int32).toInt64 &&& 63).toBitVec.smod 64)) ||| (y.toBitVec.signExtend 64 &&& 4294967295#64)).signExtend 32 = y.toBitVec
  rw [e]
  exact ent_bv x.toBitVec y.toBitVec
theorem ent_bv2 (X Y : BitVec 32) : (((X.signExtend 64 <<< 32) ||| (Y.signExtend 64 &&& 4294967295#64)).sshiftRight 32).signExtend 32 = X := by
  apply BitVec.eq_of_getLsbD_eq
  intro i hi
  have e : (4294967295#64).getLsbD (32 + i) = false := by
    have h1 : (4294967295#64) = BitVec.setWidth 64 (BitVec.allOnes 32) := by decide
    rw [h1, BitVec.getLsbD_setWidth, BitVec.getLsbD_allOnes]
    simp
  have h64 : i < 64 := by omega
  have h96 : 32 + i < 64 := by omega
  have h33 : ¬ 32 + i < 32 := by omega
  have hw : ¬ 64 ≤ i := by omega
  have h0 : 32 + i - 32 = i := by omega
  simp only [BitVec.getLsbD_signExtend, BitVec.getLsbD_sshiftRight, BitVec.getLsbD_or, BitVec.getLsbD_and, BitVec.getLsbD_shiftLeft, e, hi, h64, h96, h33, hw, h0, decide_true, decide_false, if_true, ite_true, ↓reduceIte, Bool.true_and, Bool.and_true, Bool.not_true, Bool.not_false, Bool.false_and, Bool.and_false, Bool.false_or, Bool.or_false]
theorem ent_hi (x y : Int32) : (((x.toInt64 <<< ((32 : Int32).toInt64 &&& 63)) ||| (y.toInt64 &&& 4294967295)) >>> ((32 : Int32).toInt64 &&& 63)).toInt32 = x := by
  apply Int32.toBitVec_inj.mp
  have e : ((32 : Int32).toInt64 &&& 63).toBitVec.smod 64 = 32#64 := by decide
  show (BitVec.sshiftRight ((x.toBitVec.signExtend 64 <<< (((32 : Int32).toInt64 &&& 63).toBitVec.smod 64)) ||| (y.toBitVec.signExtend 64 &&& 4294967295#64)) (((32 : Int32).toInt64 &&& 63).toBitVec.smod 64).toNat).signExtend 32 = x.toBitVec
  rw [e]
  exact ent_bv2 x.toBitVec y.toBitVec
/-- the sum of the first n bytes, each times its number -/
def sm (sd : Int32) (ms : Nat) : Nat → Int32
  | 0 => 0
  | n + 1 => sm sd ms n + bx sd ms n * nI (n + 1)
theorem q_max {a b : Nat} (ha : a < 2 ^ 31) (hb : b < 2 ^ 31) : (if nI a < nI b then nI b else nI a) = nI (max a b) := by
  by_cases h : a < b
  · rw [if_pos ((nI_ltI ha hb).mpr h)]
    exact congrArg nI (by omega)
  · rw [if_neg (fun q => h ((nI_ltI ha hb).mp q))]
    exact congrArg nI (by omega)
theorem q_min {a b : Nat} (ha : a < 2 ^ 31) (hb : b < 2 ^ 31) : (if nI b < nI a then nI b else nI a) = nI (min a b) := by
  by_cases h : b < a
  · rw [if_pos ((nI_ltI hb ha).mpr h)]
    exact congrArg nI (by omega)
  · rw [if_neg (fun q => h ((nI_ltI hb ha).mp q))]
    exact congrArg nI (by omega)
