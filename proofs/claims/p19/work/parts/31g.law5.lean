set_option maxHeartbeats 8000000 in
set_option maxRecDepth 100000 in
theorem body_0 {p : Program} {l : Launch} {e : Env} {s : State} {m : MethodId} {below : List Frame} {meth : Method} {c : Code} {b : Nat} {L : Nat} {xs : Nat → Int32} {dC : Nat → ClassId} {dI : Nat → Nat → Nat} {zt : Nat} (hL : L ≤ 260) (C0 : lw_At p s m meth c b L xs) (hE : ev s) (hZ : va_Z "java/util/ArrayList" "DEFAULTCAPACITY_EMPTY_ELEMENTDATA" "[Ljava/lang/Object;" (.ref zt) (fun q : Nat => s.heap.size ≤ q) s s.heap) (hTz : va_T (.object "java/lang/Object") zt 0 (fun _ => .null) (fun q : Nat => s.heap.size ≤ q) s s.heap) {x : Nat} {nr : Nat} {st : Nat} {lf : Nat} {tm : Nat} {fcn : Nat} {xl : Int32} {cN : ClassId} {fn : Nat → Option Nat} {an : Nat} {ah : Int32} {al : Int32} {awa : Int32} {afr : Int32} {awi : Nat} {ar : Nat} {ae : Nat} {as : Nat} {ai : Nat} {ag : Nat} {ac : Nat} {au : Nat} {acc : Nat} {bn : Nat} {bh : Int32} {bl : Int32} {bwa : Int32} {bfr : Int32} {bwi : Nat} {br : Nat} {be : Nat} {bs : Nat} {bi : Nat} {bg : Nat} {bc : Nat} {bu : Nat} {bcc : Nat} {arh : Int32} {arl : Int32} {ahp : Int32} {atp : Int32} {arf : Nat} {brh : Int32} {brl : Int32} {bhp : Int32} {btp : Int32} {brf : Nat} {f1 : Int32} {f2 : Int32} {f3 : Int32} {y1 : Int32} {y2 : Int32} {y3 : Int32} {g1 : Int32} {g2 : Int32} {g3 : Int32} {ml : Nat} {mc : Nat} {asnp : Int32} {assdo : Int32} {bsnp : Int32} {bsdo : Int32} {acT : ClassId} {afg : Nat → Option Nat} {acm : Nat} {ace : Nat} {bcT : ClassId} {bfg : Nat → Option Nat} {bcm : Nat} {lg : Nat} {lt : Nat} {cL : ClassId} {fL : Nat → Int32} {ana : Int32} {alg : Nat} {alt : Nat} {wm : Nat} {n : Nat} {H : Heap} {locs : List Loc} {ls : Array Slot} {cells slots : Nat} (n0 : fn 0 = some an) (n1 : fn 1 = some bn) (ag0_ : afg 0 = none) (ag1_ : afg 1 = none) (ag2_ : afg 2 = none) (bg0_ : bfg 0 = none) (bg1_ : bfg 1 = none) (bg2_ : bfg 2 = none) (hwa : 1 ≤ awi ∧ awi < 17) (hwb : 1 ≤ bwi ∧ bwi < 17) (hwm : wm = min bwi awi) (hk : n = 7) (htm : tm ≤ 252) (hfc : fcn ≤ 2) (hcs : cells + 5000 * n ≤ 500000 ∧ slots + 50000 * n ≤ 7000000) (hT : ∀ n2, n = n2 + 1 → LT p l e s m below meth c b L xs dC dI zt n2) (hC : ∀ n2, n = n2 + 1 → LC p l e s m below meth c b L xs dC dI zt n2) (hK : va_K (dC, dI) vwCl [(cN, (.object RX4)), (acT, (.object RX9)), (bcT, (.object RX9)), (cL, .int)] s) (hP : va_P (dC, dI) vwCl [(x, .inr (11, [.ref nr, .ref st, .ref lf, .int 2, .int (nI tm), .int (nI fcn), .int xl, .int 0])), (nr, .inl (cN, 8, .inr (.inr (.inr (.inr fn))))), (an, .inr (5, [.int ah, .int al, .int awa, .int afr, .int (nI awi), .ref ar, .ref ae, .ref as, .ref ai, .ref ag, .ref ac, .ref au, .int 0, .int 2, .int 10, .int (nI acc), .int 0, .int 0])), (bn, .inr (5, [.int bh, .int bl, .int bwa, .int bfr, .int (nI bwi), .ref br, .ref be, .ref bs, .ref bi, .ref bg, .ref bc, .ref bu, .int 0, .int 2, .int 200, .int (nI bcc), .int 0, .int 0])), (ar, .inr (6, [.int arh, .int arl, .ref st, .null, .null, .int ahp, .int atp, .int 0, .int 0, .int 0, .ref arf, .int 0])), (br, .inr (6, [.int brh, .int brl, .ref st, .null, .null, .int bhp, .int btp, .int 0, .int 0, .int 0, .ref brf, .int 0])), (arf, .inr (2, [.int f1, .int f2, .int f3, .null])), (brf, .inr (2, [.int y1, .int y2, .int y3, .null])), (lf, .inr (2, [.int g1, .int g2, .int g3, .null])), (st, .inr (8, [.ref ml, .null])), (ml, .inr (0, [.int (nI mc), .ref zt, .int 0])), (as, .inr (7, [.int 0, .int asnp, .int assdo, .null])), (bs, .inr (7, [.int 0, .int bsnp, .int bsdo, .null])), (ag, .inl (acT, 3, .inr (.inr (.inr (.inr afg))))), (ac, .inr (0, [.int (nI acm), .ref ace, .int 0])), (bg, .inl (bcT, 3, .inr (.inr (.inr (.inr bfg))))), (bc, .inr (0, [.int (nI bcm), .ref zt, .int 0])), (bi, .inr (3, [.int 0, .int 0, .ref lg, .ref lt])), (lg, .inl (cL, 80, .inl fL)), (ai, .inr (3, [.int ana, .int 0, .ref alg, .ref alt]))] H) (hD : va_D (fun q : Nat => s.heap.size ≤ q) [(x, .inr (11, [.ref nr, .ref st, .ref lf, .int 2, .int (nI tm), .int (nI fcn), .int xl, .int 0])), (nr, .inl (cN, 8, .inr (.inr (.inr (.inr fn))))), (an, .inr (5, [.int ah, .int al, .int awa, .int afr, .int (nI awi), .ref ar, .ref ae, .ref as, .ref ai, .ref ag, .ref ac, .ref au, .int 0, .int 2, .int 10, .int (nI acc), .int 0, .int 0])), (bn, .inr (5, [.int bh, .int bl, .int bwa, .int bfr, .int (nI bwi), .ref br, .ref be, .ref bs, .ref bi, .ref bg, .ref bc, .ref bu, .int 0, .int 2, .int 200, .int (nI bcc), .int 0, .int 0])), (ar, .inr (6, [.int arh, .int arl, .ref st, .null, .null, .int ahp, .int atp, .int 0, .int 0, .int 0, .ref arf, .int 0])), (br, .inr (6, [.int brh, .int brl, .ref st, .null, .null, .int bhp, .int btp, .int 0, .int 0, .int 0, .ref brf, .int 0])), (arf, .inr (2, [.int f1, .int f2, .int f3, .null])), (brf, .inr (2, [.int y1, .int y2, .int y3, .null])), (lf, .inr (2, [.int g1, .int g2, .int g3, .null])), (st, .inr (8, [.ref ml, .null])), (ml, .inr (0, [.int (nI mc), .ref zt, .int 0])), (as, .inr (7, [.int 0, .int asnp, .int assdo, .null])), (bs, .inr (7, [.int 0, .int bsnp, .int bsdo, .null])), (ag, .inl (acT, 3, .inr (.inr (.inr (.inr afg))))), (ac, .inr (0, [.int (nI acm), .ref ace, .int 0])), (bg, .inl (bcT, 3, .inr (.inr (.inr (.inr bfg))))), (bc, .inr (0, [.int (nI bcm), .ref zt, .int 0])), (bi, .inr (3, [.int 0, .int 0, .ref lg, .ref lt])), (lg, .inl (cL, 80, .inl fL)), (ai, .inr (3, [.int ana, .int 0, .ref alg, .ref alt]))]) (hS : va_S (fun q : Nat => s.heap.size ≤ q) s.heap H locs) (hl : lv_has ls 19 [(0, .ref b), (1, .ref x), (5, .int 1), (6, .int (nI wm)), (7, .int (nI fcn)), (8, .int 1)]) : W p l e room_1 s m #[Value.ref b] below meth c H locs cells slots (lw_Z below #[Value.ref b] s) (F0 m 174 ls []) := by
  obtain ⟨hx, hb, hr, hml, hown0, hts0, hX, hbl, hlocks, hgv⟩ := id C0
  have hown : s.vm.findClass RL = some m.cls := hown0
  have hts : ∀ w ∈ v_law, w.before #[Value.ref b] s = true := fun w h => hts0 w (v_law_in w h)
  have hA : ∀ q : Nat, s.heap.size ≤ q → (fun q : Nat => s.heap.size ≤ q) q := fun _ h => h
  have hbA : ¬ (fun q : Nat => s.heap.size ≤ q) b := Nat.not_le.mpr hbl
  rcases (by omega : L ≤ 1 ∨ (1 < L ∧ n = 0) ∨ (1 < L ∧ 1 ≤ n)) with u0 | ⟨u0, u1⟩ | ⟨u0, u1⟩
  · refine lv_iload hx hb dL_law_174 (lv_at hl 5 rfl) ?_
    refine lv_aload_n hx hb dL_law_176 rfl (lv_at hl 0 rfl) ?_
    refine va_slen hx hb hX hbl hbA hS dL_law_177 ?_
    refine W.eq (g2 := F0 m 178 ls [.int (nI L), .int 1]) rfl ?_
    refine lv_icmp_ge (tgt := 597) hx hb dL_law_178 (by decide) (fun c_1 => ?_) (fun c_1 => ?_)
    rotate_left
    · exact absurd ((nI_leI (a := L) (b := 1) (by omega) (by omega)).mpr (by omega)) c_1
    have hPq := hP.sub (ws' := [(x, .inr (11, [.ref nr, .ref st, .ref lf, .int 2, .int (nI tm), .int (nI fcn), .int xl, .int 0])), (nr, .inl (cN, 8, .inr (.inr (.inr (.inr fn))))), (an, .inr (5, [.int ah, .int al, .int awa, .int afr, .int (nI awi), .ref ar, .ref ae, .ref as, .ref ai, .ref ag, .ref ac, .ref au, .int 0, .int 2, .int 10, .int (nI acc), .int 0, .int 0])), (bn, .inr (5, [.int bh, .int bl, .int bwa, .int bfr, .int (nI bwi), .ref br, .ref be, .ref bs, .ref bi, .ref bg, .ref bc, .ref bu, .int 0, .int 2, .int 200, .int (nI bcc), .int 0, .int 0])), (ai, .inr (3, [.int ana, .int 0, .ref alg, .ref alt])), (bi, .inr (3, [.int (nI 0), .int 0, .ref lg, .ref lt]))]) [0, 1, 2, 3, 19, 17] rfl
    have hDq := hD.sub (ws' := [(x, .inr (11, [.ref nr, .ref st, .ref lf, .int 2, .int (nI tm), .int (nI fcn), .int xl, .int 0])), (nr, .inl (cN, 8, .inr (.inr (.inr (.inr fn))))), (an, .inr (5, [.int ah, .int al, .int awa, .int afr, .int (nI awi), .ref ar, .ref ae, .ref as, .ref ai, .ref ag, .ref ac, .ref au, .int 0, .int 2, .int 10, .int (nI acc), .int 0, .int 0])), (bn, .inr (5, [.int bh, .int bl, .int bwa, .int bfr, .int (nI bwi), .ref br, .ref be, .ref bs, .ref bi, .ref bg, .ref bc, .ref bu, .int 0, .int 2, .int 200, .int (nI bcc), .int 0, .int 0])), (ai, .inr (3, [.int ana, .int 0, .ref alg, .ref alt])), (bi, .inr (3, [.int (nI 0), .int 0, .ref lg, .ref lt]))]) [0, 1, 2, 3, 19, 17] (by decide +kernel) rfl
    have hKq := hK.sub (tys' := [(cN, (.object RX4))]) [0] rfl
    have hlq : lv_has ls 19 [(0, .ref b), (1, .ref x), (5, .int 1)] := lv_sub hl [0, 1, 2] rfl
    exact law_tail hL C0 hE hZ hTz (x := x) (nr := nr) (st := st) (lf := lf) (tm := tm) (fcn := fcn) (xl := xl) (cN := cN) (fn := fn) (an := an) (ah := ah) (al := al) (awa := awa) (afr := afr) (awi := awi) (ar := ar) (ae := ae) (as := as) (ai := ai) (ag := ag) (ac := ac) (au := au) (acc := acc) (bn := bn) (bh := bh) (bl := bl) (bwa := bwa) (bfr := bfr) (bwi := bwi) (br := br) (be := be) (bs := bs) (bi := bi) (bg := bg) (bc := bc) (bu := bu) (bcc := bcc) (ana := ana) (alg := alg) (alt := alt) (nc := 0) (lg := lg) (lt := lt) (n0 := n0) (n1 := n1) (hcs := (⟨by omega, by omega⟩))  (hK := hKq) (hP := hPq) (hD := hDq) (hS := hS) (hl := hlq)
  · exact absurd u1 (by omega)
  · obtain ⟨n2, hn2⟩ : ∃ z : Nat, n = z + 1 := ⟨n - 1, by omega⟩
    have hT2 := @hT n2 hn2
    have hC2 := @hC n2 hn2
    obtain ⟨m1, hm1, em1⟩ := pk_andE (xs 1) 11 (m := 2047) (by decide)
    obtain ⟨m2, hm2, em2⟩ := pk_andE ((xs 1 >>> ((12 : Int32) &&& 31))) 1 (m := 1) (by decide)
    obtain ⟨m3, hm3, em3⟩ := pk_andE (xs 1) 1 (m := 1) (by decide)
    obtain ⟨m4, hm4, em4⟩ := pk_andE ((xs 1 >>> ((20 : Int32) &&& 31))) 8 (m := 255) (by decide)
    obtain ⟨m5, hm5, em5⟩ := pk_andE ((xs 1 >>> ((20 : Int32) &&& 31))) 7 (m := 127) (by decide)
    obtain ⟨sd, hsd⟩ : ∃ z : Int32, z = xs 1 >>> ((13 : Int32) &&& 31) := ⟨_, rfl⟩
    obtain ⟨ms, hms0⟩ : ∃ z : Nat, z = m1 % 1777 + 9 := ⟨_, rfl⟩
    rcases (by omega : m2 = 0 ∨ (m2 = 1 ∧ m3 = 0) ∨ (m2 = 1 ∧ m3 = 1)) with rfl | ⟨rfl, rfl⟩ | ⟨rfl, rfl⟩
    · refine lv_iload hx hb dL_law_174 (lv_at hl 5 rfl) ?_
      refine lv_aload_n hx hb dL_law_176 rfl (lv_at hl 0 rfl) ?_
      refine va_slen hx hb hX hbl hbA hS dL_law_177 ?_
      refine W.eq (g2 := F0 m 178 ls [.int (nI L), .int 1]) rfl ?_
      refine lv_icmp_ge (tgt := 597) hx hb dL_law_178 (by decide) (fun c_2 => ?_) (fun c_2 => ?_)
      · exact absurd ((nI_leI (a := L) (b := 1) (by omega) (by omega)).mp c_2) (by omega)
      refine lv_iload hx hb dL_law_181 (lv_at hl 5 rfl) ?_
      refine lv_bipush (v := 8) hx hb dL_law_183 (by decide) ?_
      refine lv_icmp_ge (tgt := 597) hx hb dL_law_185 (by decide) (fun c_3 => ?_) (fun c_3 => ?_)
      · exact absurd c_3 (by decide)
      refine lv_iload hx hb dL_law_188 (lv_at hl 2 rfl) ?_
      refine lv_if_eq (tgt := 597) hx hb dL_law_190 (by decide) (fun c_4 => ?_) (fun c_4 => ?_)
      · exact absurd c_4 (by decide)
      refine lv_bipush (v := 9) hx hb dL_law_193 (by decide) ?_
      refine lv_aload_n hx hb dL_law_195 rfl (lv_at hl 0 rfl) ?_
      refine lv_iload hx hb dL_law_196 (lv_at hl 5 rfl) ?_
      refine va_sld hx hb hX hbl hbA hS (vp_in_nI (n := 1) (by omega) (by omega)) dL_law_198 ?_
      refine W.eq (g2 := F0 m 199 ls [.int (xs 1), .int 9]) (by rw [show Int32.toNatClampNeg 1 = 1 from nI_clamp (n := 1) (by omega)]) ?_
      refine lv_sipush (v := 2047) hx hb dL_law_199 (by decide) ?_
      refine lv_iand hx hb dL_law_202 ?_
      rw [em1]
      refine lv_sipush (v := 1777) hx hb dL_law_203 (by decide) ?_
      refine lv_irem hx hb dL_law_206 (by decide) ?_
      refine lv_topi (fun x_5 ex_5 => ?_)
      obtain rfl : x_5 = (nI (((m1) % 1777))) := ex_5.trans ((pk_rem (a := m1) (d := 1777) (by omega) (by omega) (by omega)).trans (show nI (m1 % 1777) = nI (((m1) % 1777)) from congrArg nI (by omega)))
      refine lv_iadd hx hb dL_law_207 ?_
      refine lv_topi (fun x_6 ex_6 => ?_)
      obtain rfl : x_6 = (nI (((m1) % 1777) + 9)) := ex_6.trans ((nI_add 9 (((m1) % 1777))).trans (show nI (9 + (((m1) % 1777))) = nI (((m1) % 1777) + 9) from congrArg nI (by omega)))
      rw [show nI (((m1) % 1777) + 9) = nI ms from congrArg nI (by omega)]
      refine lv_istore (lv' := [(9, .int (nI ms)), (0, .ref b), (1, .ref x), (5, .int 1), (6, .int (nI wm)), (7, .int (nI fcn)), (8, .int 1)]) hx hb dL_law_208 hl (by decide) rfl (fun ls hl => ?_)
      refine lv_iload hx hb dL_law_210 (lv_at hl 0 rfl) ?_
      refine lv_bipush (v := 6) hx hb dL_law_212 (by decide) ?_
      refine lv_iadd hx hb dL_law_214 ?_
      refine lv_topi (fun x_7 ex_7 => ?_)
      obtain rfl : x_7 = (nI (ms + 6)) := ex_7.trans ((nI_add ms 6).trans (show nI (ms + 6) = nI (ms + 6) from congrArg nI (by omega)))
      refine lv_bipush (v := 7) hx hb dL_law_215 (by decide) ?_
      refine lv_idiv hx hb dL_law_217 (by decide) ?_
      refine lv_topi (fun x_8 ex_8 => ?_)
      obtain rfl : x_8 = (nI (((ms + 6) / 7))) := ex_8.trans ((pk_div (a := (ms + 6)) (d := 7) (by omega) (by omega) (by omega)).trans (show nI ((ms + 6) / 7) = nI (((ms + 6) / 7)) from congrArg nI (by omega)))
      refine lv_istore (lv' := [(10, .int (nI (((ms + 6) / 7)))), (9, .int (nI ms)), (0, .ref b), (1, .ref x), (5, .int 1), (6, .int (nI wm)), (7, .int (nI fcn)), (8, .int 1)]) hx hb dL_law_218 hl (by decide) rfl (fun ls hl => ?_)
      refine lv_aload_n hx hb dL_law_220 rfl (lv_at hl 2 rfl) ?_
      refine lv_iload hx hb dL_law_221 (lv_at hl 7 rfl) ?_
      refine va_sld hx hb hX hbl hbA hS (vp_in_nI (n := 1) (by omega) (by omega)) dL_law_223 ?_
      refine W.eq (g2 := F0 m 224 ls [.int (xs 1)]) (by rw [show Int32.toNatClampNeg 1 = 1 from nI_clamp (n := 1) (by omega)]) ?_
      refine lv_bipush (v := 12) hx hb dL_law_224 (by decide) ?_
      refine lv_ishr hx hb dL_law_226 ?_
      refine lv_iconst (v := 1) hx hb dL_law_227 (by decide) ?_
      refine lv_iand hx hb dL_law_228 ?_
      rw [em2]
      refine lv_iconst (v := 1) hx hb dL_law_229 (by decide) ?_
      refine lv_icmp_ne (tgt := 237) hx hb dL_law_230 (by decide) (fun c_9 => ?_) (fun c_9 => ?_)
      rotate_left
      · exact absurd ((nI_eq (a := 0) (b := 1) (by omega) (by omega)).mp c_9) (by omega)
      refine lv_iconst (v := 0) hx hb dL_law_237 (by decide) ?_
      refine lv_istore (lv' := [(11, .int 0), (10, .int (nI (((ms + 6) / 7)))), (9, .int (nI ms)), (0, .ref b), (1, .ref x), (5, .int 1), (6, .int (nI wm)), (7, .int (nI fcn)), (8, .int 1)]) hx hb dL_law_238 hl (by decide) rfl (fun ls hl => ?_)
      refine lv_aload_n hx hb dL_law_240 rfl (lv_at hl 3 rfl) ?_
      refine lv_iload hx hb dL_law_241 (lv_at hl 8 rfl) ?_
      refine va_sld hx hb hX hbl hbA hS (vp_in_nI (n := 1) (by omega) (by omega)) dL_law_243 ?_
      refine W.eq (g2 := F0 m 244 ls [.int (xs 1)]) (by rw [show Int32.toNatClampNeg 1 = 1 from nI_clamp (n := 1) (by omega)]) ?_
      refine lv_bipush (v := 13) hx hb dL_law_244 (by decide) ?_
      refine lv_ishr hx hb dL_law_246 ?_
      rw [show ((xs 1) >>> ((13 : Int32) &&& 31)) = sd from hsd.symm]
      refine lv_istore (lv' := [(12, .int sd), (11, .int 0), (10, .int (nI (((ms + 6) / 7)))), (9, .int (nI ms)), (0, .ref b), (1, .ref x), (5, .int 1), (6, .int (nI wm)), (7, .int (nI fcn)), (8, .int 1)]) hx hb dL_law_247 hl (by decide) rfl (fun ls hl => ?_)
      refine lv_iload hx hb dL_law_249 (lv_at hl 1 rfl) ?_
      refine lv_if_eq (tgt := 281) hx hb dL_law_251 (by decide) (fun c_10 => ?_) (fun c_10 => ?_)
      rotate_left
      · exact absurd (by decide) c_10
      refine lv_aload_n hx hb dL_law_281 rfl (lv_at hl 4 rfl) ?_
      refine lv_iload hx hb dL_law_282 (lv_at hl 9 rfl) ?_
      refine va_sld hx hb hX hbl hbA hS (vp_in_nI (n := 1) (by omega) (by omega)) dL_law_284 ?_
      refine W.eq (g2 := F0 m 285 ls [.int (xs 1)]) (by rw [show Int32.toNatClampNeg 1 = 1 from nI_clamp (n := 1) (by omega)]) ?_
      refine lv_bipush (v := 20) hx hb dL_law_285 (by decide) ?_
      refine lv_ishr hx hb dL_law_287 ?_
      refine lv_bipush (v := 127) hx hb dL_law_288 (by decide) ?_
      refine lv_iand hx hb dL_law_290 ?_
      rw [em5]
      refine lv_bipush (v := 8) hx hb dL_law_291 (by decide) ?_
      refine lv_ishl hx hb dL_law_293 ?_
      refine lv_topi (fun x_11 ex_11 => ?_)
      obtain rfl : x_11 = (nI (256 * m5)) := ex_11.trans ((pk_shlN (n := m5) ((8 : Int32) &&& 31) 8 (by decide) (by omega)).trans (show nI (m5 * 2 ^ 8) = nI (256 * m5) from congrArg nI (by omega)))
      obtain ⟨mg, hmg0⟩ : ∃ z : Nat, z = (256 * m5) := ⟨_, rfl⟩
      rw [show nI (256 * m5) = nI mg from congrArg nI hmg0.symm]
      refine lv_istore (lv' := [(13, .int (nI mg)), (12, .int sd), (11, .int 0), (10, .int (nI (((ms + 6) / 7)))), (9, .int (nI ms)), (0, .ref b), (1, .ref x), (5, .int 1), (6, .int (nI wm)), (7, .int (nI fcn)), (8, .int 1)]) hx hb dL_law_294 hl (by decide) rfl (fun ls hl => ?_)
      refine lv_aload_n hx hb dL_law_296 rfl (lv_at hl 6 rfl) ?_
      refine lv_iconst (v := 0) hx hb dL_law_297 (by decide) ?_
      refine lv_iload hx hb dL_law_298 (lv_at hl 2 rfl) ?_
      refine lv_if_eq (tgt := 309) hx hb dL_law_300 (by decide) (fun c_12 => ?_) (fun c_12 => ?_)
      rotate_left
      · exact absurd (by decide) c_12
      refine lv_sipush (v := 200) hx hb dL_law_309 (by decide) ?_
      refine lv_iload hx hb dL_law_312 (lv_at hl 0 rfl) ?_
      refine lv_iload hx hb dL_law_314 (lv_at hl 4 rfl) ?_
      refine lv_iload hx hb dL_law_316 (lv_at hl 1 rfl) ?_
      have hPc := hP.sub (ws' := [(x, .inr (11, [.ref nr, .ref st, .ref lf, .int 2, .int (nI tm), .int (nI fcn), .int xl, .int 0])), (nr, .inl (cN, 8, .inr (.inr (.inr (.inr fn))))), (an, .inr (5, [.int ah, .int al, .int awa, .int afr, .int (nI awi), .ref ar, .ref ae, .ref as, .ref ai, .ref ag, .ref ac, .ref au, .int 0, .int 2, .int 10, .int (nI acc), .int 0, .int 0])), (ar, .inr (6, [.int arh, .int arl, .ref st, .null, .null, .int ahp, .int atp, .int 0, .int 0, .int 0, .ref arf, .int 0])), (as, .inr (7, [.int 0, .int asnp, .int assdo, .null])), (st, .inr (8, [.ref ml, .null])), (ml, .inr (0, [.int (nI mc), .ref zt, .int 0]))]) [0, 1, 2, 4, 11, 9, 10] rfl
      have hDc := hD.sub (ws' := [(x, .inr (11, [.ref nr, .ref st, .ref lf, .int 2, .int (nI tm), .int (nI fcn), .int xl, .int 0])), (nr, .inl (cN, 8, .inr (.inr (.inr (.inr fn))))), (an, .inr (5, [.int ah, .int al, .int awa, .int afr, .int (nI awi), .ref ar, .ref ae, .ref as, .ref ai, .ref ag, .ref ac, .ref au, .int 0, .int 2, .int 10, .int (nI acc), .int 0, .int 0])), (ar, .inr (6, [.int arh, .int arl, .ref st, .null, .null, .int ahp, .int atp, .int 0, .int 0, .int 0, .ref arf, .int 0])), (as, .inr (7, [.int 0, .int asnp, .int assdo, .null])), (st, .inr (8, [.ref ml, .null])), (ml, .inr (0, [.int (nI mc), .ref zt, .int 0]))]) [0, 1, 2, 4, 11, 9, 10] (by decide +kernel) rfl
      have hKc := hK.sub (tys' := [(cN, (.object RX4))]) [0] rfl
      have hFc := va_free (wc := [(x, .inr (11, [.ref nr, .ref st, .ref lf, .int 2, .int (nI tm), .int (nI fcn), .int xl, .int 0])), (nr, .inl (cN, 8, .inr (.inr (.inr (.inr fn))))), (an, .inr (5, [.int ah, .int al, .int awa, .int afr, .int (nI awi), .ref ar, .ref ae, .ref as, .ref ai, .ref ag, .ref ac, .ref au, .int 0, .int 2, .int 10, .int (nI acc), .int 0, .int 0])), (ar, .inr (6, [.int arh, .int arl, .ref st, .null, .null, .int ahp, .int atp, .int 0, .int 0, .int 0, .ref arf, .int 0])), (as, .inr (7, [.int 0, .int asnp, .int assdo, .null])), (st, .inr (8, [.ref ml, .null])), (ml, .inr (0, [.int (nI mc), .ref zt, .int 0]))]) hD hS hA [0, 1, 2, 4, 11, 9, 10] rfl
      have hZc := (hZ.kept hS.2.1).narrow (fun q h => hFc q h)
      have hTc := (hTz.kept hS.2.1).narrow (fun q h => hFc q h)
      refine va_calli (va_runV (As := [.int 0, .int 200, .int (nI mg), .int (nI ms), .int sd]) (rest := []) ⟨hx, hb, hml, hown, hts⟩ (c_send_one0 l dC dI (zt) (x) (nr) (st) (lf) (tm) (fcn) (xl) (cN) (fn) (an) (ah) (al) (awa) (afr) (awi) (ar) (ae) (as) (ai) (ag) (ac) (au) (acc) (arh) (arl) (arf) (ahp) (atp) (asnp) (assdo) (ml) (mc) (mg) (ms) (sd) H.size n0 (by omega) (by omega) (by omega) (by omega) hwa) (cwV 5 hts g_law_c_send_one0_31 rfl rfl rfl (by decide +kernel) ⟨Nat.le_of_ble_eq_true rfl, Nat.le_of_ble_eq_true rfl⟩) ⟨fun a U g mk q => by obtain ⟨q0, q1, qP, qK, qD, qE, qZ, qT⟩ := q; exact ⟨q0, q1, qP, va_K.moved (u := U) (U := U.calling g mk a) (Vm.Alike.refl U.vm) qK, qD, ev.same (u := U) (U := U.calling g mk a) rfl qE, va_Z.moved (u := U) (U := U.calling g mk a) (Vm.Alike.refl U.vm) qZ, va_T.moved (u := U) (U := U.calling g mk a) (Vm.Alike.refl U.vm) qT⟩, va_recv hKc hPc (ci := 11) (q0 := 0) rfl rfl, fun U hU hW => ⟨rfl, by rw [hU], by rw [hU]; exact hPc, va_K.moved hW.alike hKc, hDc.weaken (fun _ _ _ _ => trivial), hE.warm hW, by rw [hU]; exact hZc.moved hW.alike, by rw [hU]; exact hTc.moved hW.alike⟩⟩ rfl rfl hl.1 rfl (lv_room (Nat.le_of_ble_eq_true rfl)) dL_law_318 ⟨show _ ≤ 600000 from by omega, show _ ≤ 7302250 from by omega⟩) hS (fun q _ h => hFc q h) hFc (fun r_13 u t H1 locs ht hvm hw hB hz1 hk1 hS => ?_)
      clear hPc hDc hKc
      obtain ⟨mm2_13, fE2_13, fe2_13, ck_13, ce_13, cJ_13, ed_13, cO_13, hP1, hK1, hD1, hlo_13, hhi_13, hel_13⟩ := hB
      rw [ht] at hP1
      have hK1 := va_K.moved hvm.symm hK1
      obtain ⟨hP, hD⟩ := va_join (wr := [(bn, .inr (5, [.int bh, .int bl, .int bwa, .int bfr, .int (nI bwi), .ref br, .ref be, .ref bs, .ref bi, .ref bg, .ref bc, .ref bu, .int 0, .int 2, .int 200, .int (nI bcc), .int 0, .int 0])), (br, .inr (6, [.int brh, .int brl, .ref st, .null, .null, .int bhp, .int btp, .int 0, .int 0, .int 0, .ref brf, .int 0])), (arf, .inr (2, [.int f1, .int f2, .int f3, .null])), (brf, .inr (2, [.int y1, .int y2, .int y3, .null])), (lf, .inr (2, [.int g1, .int g2, .int g3, .null])), (bs, .inr (7, [.int 0, .int bsnp, .int bsdo, .null])), (ag, .inl (acT, 3, .inr (.inr (.inr (.inr afg))))), (ac, .inr (0, [.int (nI acm), .ref ace, .int 0])), (bg, .inl (bcT, 3, .inr (.inr (.inr (.inr bfg))))), (bc, .inr (0, [.int (nI bcm), .ref zt, .int 0])), (bi, .inr (3, [.int 0, .int 0, .ref lg, .ref lt])), (lg, .inl (cL, 80, .inl fL)), (ai, .inr (3, [.int ana, .int 0, .ref alg, .ref alt]))]) (w1 := [(x, .inr (11, [.ref nr, .ref st, .ref lf, .int 2, .int (nI tm), .int (nI fcn), .int xl, .int 0])), (nr, .inl (cN, 8, .inr (.inr (.inr (.inr fn))))), (an, .inr (5, [.int ah, .int al, .int awa, .int afr, .int (nI awi), .ref ar, .ref ae, .ref as, .ref ai, .ref ag, .ref ac, .ref au, .int 0, .int 2, .int 10, .int (nI acc), .int 0, .int 0])), (ar, .inr (6, [.int arh, .int arl, .ref st, .ref ck_13, .ref ck_13, .int 0, .int 1, .int 1, .int 0, .int 0, .ref arf, .int 0])), (as, .inr (7, [.int 1, .int 1, .int (nI (tm + 1250)), .ref mm2_13])), (st, .inr (8, [.ref ml, .null])), (ml, .inr (0, [.int (nI (mc + 1)), .ref ed_13, .int 1])), (ed_13, .inl (cO_13, 10, .inr (.inr (.inr (.inr fe2_13))))), (ck_13, .inr (1, [.ref ce_13, .null])), (ce_13, .inl (cJ_13, 128, .inr (.inl fE2_13))), (mm2_13, .inr (4, [.int 0, .int 200, .int (nI mg), .int (nI ms), .int sd, .null]))]) hP hD [0, 1, 2, 4, 11, 9, 10] [3, 5, 6, 7, 8, 12, 13, 14, 15, 16, 17, 18, 19] rfl rfl (by decide +kernel) (by decide +kernel) hk1 hFc hP1 hD1
      replace hK := hK.app hK1
      replace hK : va_K (dC, dI) vwCl [(cN, (.object RX4)), (acT, (.object RX9)), (bcT, (.object RX9)), (cL, .int), (cN, (.object RX4)), (cO_13, (.object "java/lang/Object")), (cJ_13, .long)] s := hK
      generalize H1 = H at hP hS ⊢
      replace hP : va_P (dC, dI) vwCl [(bn, .inr (5, [.int bh, .int bl, .int bwa, .int bfr, .int (nI bwi), .ref br, .ref be, .ref bs, .ref bi, .ref bg, .ref bc, .ref bu, .int 0, .int 2, .int 200, .int (nI bcc), .int 0, .int 0])), (br, .inr (6, [.int brh, .int brl, .ref st, .null, .null, .int bhp, .int btp, .int 0, .int 0, .int 0, .ref brf, .int 0])), (arf, .inr (2, [.int f1, .int f2, .int f3, .null])), (brf, .inr (2, [.int y1, .int y2, .int y3, .null])), (lf, .inr (2, [.int g1, .int g2, .int g3, .null])), (bs, .inr (7, [.int 0, .int bsnp, .int bsdo, .null])), (ag, .inl (acT, 3, .inr (.inr (.inr (.inr afg))))), (ac, .inr (0, [.int (nI acm), .ref ace, .int 0])), (bg, .inl (bcT, 3, .inr (.inr (.inr (.inr bfg))))), (bc, .inr (0, [.int (nI bcm), .ref zt, .int 0])), (bi, .inr (3, [.int 0, .int 0, .ref lg, .ref lt])), (lg, .inl (cL, 80, .inl fL)), (ai, .inr (3, [.int ana, .int 0, .ref alg, .ref alt])), (x, .inr (11, [.ref nr, .ref st, .ref lf, .int 2, .int (nI tm), .int (nI fcn), .int xl, .int 0])), (nr, .inl (cN, 8, .inr (.inr (.inr (.inr fn))))), (an, .inr (5, [.int ah, .int al, .int awa, .int afr, .int (nI awi), .ref ar, .ref ae, .ref as, .ref ai, .ref ag, .ref ac, .ref au, .int 0, .int 2, .int 10, .int (nI acc), .int 0, .int 0])), (ar, .inr (6, [.int arh, .int arl, .ref st, .ref ck_13, .ref ck_13, .int 0, .int 1, .int 1, .int 0, .int 0, .ref arf, .int 0])), (as, .inr (7, [.int 1, .int 1, .int (nI (tm + 1250)), .ref mm2_13])), (st, .inr (8, [.ref ml, .null])), (ml, .inr (0, [.int (nI (mc + 1)), .ref ed_13, .int 1])), (ed_13, .inl (cO_13, 10, .inr (.inr (.inr (.inr fe2_13))))), (ck_13, .inr (1, [.ref ce_13, .null])), (ce_13, .inl (cJ_13, 128, .inr (.inl fE2_13))), (mm2_13, .inr (4, [.int 0, .int 200, .int (nI mg), .int (nI ms), .int sd, .null]))] H := hP
      replace hD : va_D (fun q : Nat => s.heap.size ≤ q) [(bn, .inr (5, [.int bh, .int bl, .int bwa, .int bfr, .int (nI bwi), .ref br, .ref be, .ref bs, .ref bi, .ref bg, .ref bc, .ref bu, .int 0, .int 2, .int 200, .int (nI bcc), .int 0, .int 0])), (br, .inr (6, [.int brh, .int brl, .ref st, .null, .null, .int bhp, .int btp, .int 0, .int 0, .int 0, .ref brf, .int 0])), (arf, .inr (2, [.int f1, .int f2, .int f3, .null])), (brf, .inr (2, [.int y1, .int y2, .int y3, .null])), (lf, .inr (2, [.int g1, .int g2, .int g3, .null])), (bs, .inr (7, [.int 0, .int bsnp, .int bsdo, .null])), (ag, .inl (acT, 3, .inr (.inr (.inr (.inr afg))))), (ac, .inr (0, [.int (nI acm), .ref ace, .int 0])), (bg, .inl (bcT, 3, .inr (.inr (.inr (.inr bfg))))), (bc, .inr (0, [.int (nI bcm), .ref zt, .int 0])), (bi, .inr (3, [.int 0, .int 0, .ref lg, .ref lt])), (lg, .inl (cL, 80, .inl fL)), (ai, .inr (3, [.int ana, .int 0, .ref alg, .ref alt])), (x, .inr (11, [.ref nr, .ref st, .ref lf, .int 2, .int (nI tm), .int (nI fcn), .int xl, .int 0])), (nr, .inl (cN, 8, .inr (.inr (.inr (.inr fn))))), (an, .inr (5, [.int ah, .int al, .int awa, .int afr, .int (nI awi), .ref ar, .ref ae, .ref as, .ref ai, .ref ag, .ref ac, .ref au, .int 0, .int 2, .int 10, .int (nI acc), .int 0, .int 0])), (ar, .inr (6, [.int arh, .int arl, .ref st, .ref ck_13, .ref ck_13, .int 0, .int 1, .int 1, .int 0, .int 0, .ref arf, .int 0])), (as, .inr (7, [.int 1, .int 1, .int (nI (tm + 1250)), .ref mm2_13])), (st, .inr (8, [.ref ml, .null])), (ml, .inr (0, [.int (nI (mc + 1)), .ref ed_13, .int 1])), (ed_13, .inl (cO_13, 10, .inr (.inr (.inr (.inr fe2_13))))), (ck_13, .inr (1, [.ref ce_13, .null])), (ce_13, .inl (cJ_13, 128, .inr (.inl fE2_13))), (mm2_13, .inr (4, [.int 0, .int 200, .int (nI mg), .int (nI ms), .int sd, .null]))] := hD
      have hw := hw.symm
      subst hw
      refine lv_if_eq (tgt := 345) hx hb dL_law_321 (by decide) (fun c_14 => ?_) (fun c_14 => ?_)
      · exact absurd c_14 (by decide)
      refine lv_aload_n hx hb dL_law_324 rfl (lv_at hl 6 rfl) ?_
      refine lv_iconst (v := 0) hx hb dL_law_325 (by decide) ?_
      refine lv_sipush (v := 255) hx hb dL_law_326 (by decide) ?_
      refine lv_iload hx hb dL_law_329 (lv_at hl 0 rfl) ?_
      refine lv_iload hx hb dL_law_331 (lv_at hl 4 rfl) ?_
      refine lv_iload hx hb dL_law_333 (lv_at hl 1 rfl) ?_
      have hPc := hP.sub (ws' := [(x, .inr (11, [.ref nr, .ref st, .ref lf, .int 2, .int (nI tm), .int (nI fcn), .int xl, .int 0])), (nr, .inl (cN, 8, .inr (.inr (.inr (.inr fn))))), (an, .inr (5, [.int ah, .int al, .int awa, .int afr, .int (nI awi), .ref ar, .ref ae, .ref as, .ref ai, .ref ag, .ref ac, .ref au, .int 0, .int 2, .int 10, .int (nI acc), .int 0, .int 0])), (as, .inr (7, [.int 1, .int 1, .int (nI (tm + 1250)), .ref mm2_13]))]) [13, 14, 15, 17] rfl
      have hDc := hD.sub (ws' := [(x, .inr (11, [.ref nr, .ref st, .ref lf, .int 2, .int (nI tm), .int (nI fcn), .int xl, .int 0])), (nr, .inl (cN, 8, .inr (.inr (.inr (.inr fn))))), (an, .inr (5, [.int ah, .int al, .int awa, .int afr, .int (nI awi), .ref ar, .ref ae, .ref as, .ref ai, .ref ag, .ref ac, .ref au, .int 0, .int 2, .int 10, .int (nI acc), .int 0, .int 0])), (as, .inr (7, [.int 1, .int 1, .int (nI (tm + 1250)), .ref mm2_13]))]) [13, 14, 15, 17] (by decide +kernel) rfl
      have hKc := hK.sub (tys' := [(cN, (.object RX4))]) [0] rfl
      have hFc := ro_free hS hA
      refine va_calli (va_runV (As := [.int 0, .int 255, .int (nI mg), .int (nI ms), .int sd]) (rest := []) ⟨hx, hb, hml, hown, hts⟩ (c_send_no l dC dI (x) (nr) (st) (lf) (tm) (fcn) (xl) (cN) (fn) (an) (ah) (al) (awa) (afr) (awi) (ar) (ae) (as) (ai) (ag) (ac) (au) (acc) (1) ((tm + 1250)) (mm2_13) (255) ((nI mg)) ((nI ms)) (sd) H.size n0) (cwV 5 hts g_law_c_send_no_31 rfl rfl rfl (by decide +kernel) ⟨Nat.le_of_ble_eq_true rfl, Nat.le_of_ble_eq_true rfl⟩) ⟨fun a U g mk q => by obtain ⟨q0, q1, qP, qK, qD, qE⟩ := q; exact ⟨q0, q1, qP, va_K.moved (u := U) (U := U.calling g mk a) (Vm.Alike.refl U.vm) qK, qD, ev.same (u := U) (U := U.calling g mk a) rfl qE⟩, va_recv hKc hPc (ci := 11) (q0 := 0) rfl rfl, fun U hU hW => ⟨rfl, by rw [hU], by rw [hU]; exact hPc, va_K.moved hW.alike hKc, hDc.weaken (fun _ _ _ _ => trivial), hE.warm hW⟩⟩ rfl rfl hl.1 rfl (lv_room (Nat.le_of_ble_eq_true rfl)) dL_law_335 ⟨show _ ≤ 600000 from by omega, show _ ≤ 7302250 from by omega⟩) hS (fun q _ h => hFc q h) hFc (fun r_15 u t H1 locs ht hvm hw hB hz1 hk1 hS => ?_)
      clear hPc hDc hKc
      replace hP := ro_keep hP hk1
      generalize H1 = H at hP hS ⊢
      replace hP : va_P (dC, dI) vwCl [(bn, .inr (5, [.int bh, .int bl, .int bwa, .int bfr, .int (nI bwi), .ref br, .ref be, .ref bs, .ref bi, .ref bg, .ref bc, .ref bu, .int 0, .int 2, .int 200, .int (nI bcc), .int 0, .int 0])), (br, .inr (6, [.int brh, .int brl, .ref st, .null, .null, .int bhp, .int btp, .int 0, .int 0, .int 0, .ref brf, .int 0])), (arf, .inr (2, [.int f1, .int f2, .int f3, .null])), (brf, .inr (2, [.int y1, .int y2, .int y3, .null])), (lf, .inr (2, [.int g1, .int g2, .int g3, .null])), (bs, .inr (7, [.int 0, .int bsnp, .int bsdo, .null])), (ag, .inl (acT, 3, .inr (.inr (.inr (.inr afg))))), (ac, .inr (0, [.int (nI acm), .ref ace, .int 0])), (bg, .inl (bcT, 3, .inr (.inr (.inr (.inr bfg))))), (bc, .inr (0, [.int (nI bcm), .ref zt, .int 0])), (bi, .inr (3, [.int 0, .int 0, .ref lg, .ref lt])), (lg, .inl (cL, 80, .inl fL)), (ai, .inr (3, [.int ana, .int 0, .ref alg, .ref alt])), (x, .inr (11, [.ref nr, .ref st, .ref lf, .int 2, .int (nI tm), .int (nI fcn), .int xl, .int 0])), (nr, .inl (cN, 8, .inr (.inr (.inr (.inr fn))))), (an, .inr (5, [.int ah, .int al, .int awa, .int afr, .int (nI awi), .ref ar, .ref ae, .ref as, .ref ai, .ref ag, .ref ac, .ref au, .int 0, .int 2, .int 10, .int (nI acc), .int 0, .int 0])), (ar, .inr (6, [.int arh, .int arl, .ref st, .ref ck_13, .ref ck_13, .int 0, .int 1, .int 1, .int 0, .int 0, .ref arf, .int 0])), (as, .inr (7, [.int 1, .int 1, .int (nI (tm + 1250)), .ref mm2_13])), (st, .inr (8, [.ref ml, .null])), (ml, .inr (0, [.int (nI (mc + 1)), .ref ed_13, .int 1])), (ed_13, .inl (cO_13, 10, .inr (.inr (.inr (.inr fe2_13))))), (ck_13, .inr (1, [.ref ce_13, .null])), (ce_13, .inl (cJ_13, 128, .inr (.inl fE2_13))), (mm2_13, .inr (4, [.int 0, .int 200, .int (nI mg), .int (nI ms), .int sd, .null]))] H := hP
      have hw := hw.symm
      subst hw
      refine lv_if_ne (tgt := 345) hx hb dL_law_338 (by decide) (fun c_16 => ?_) (fun c_16 => ?_)
      · exact absurd c_16 (by decide)
      refine lv_iconst (v := 1) hx hb dL_law_341 (by decide) ?_
      refine lv_goto (tgt := 346) hx hb dL_law_342 (by decide) ?_
      refine lv_istore (lv' := [(5, .int 1), (13, .int (nI mg)), (12, .int sd), (11, .int 0), (10, .int (nI (((ms + 6) / 7)))), (9, .int (nI ms)), (0, .ref b), (1, .ref x), (6, .int (nI wm)), (7, .int (nI fcn)), (8, .int 1)]) hx hb dL_law_346 hl (by decide) rfl (fun ls hl => ?_)
      have hPq := hP.sub (ws' := [(x, .inr (11, [.ref nr, .ref st, .ref lf, .int 2, .int (nI tm), .int (nI fcn), .int xl, .int 0])), (nr, .inl (cN, 8, .inr (.inr (.inr (.inr fn))))), (an, .inr (5, [.int ah, .int al, .int awa, .int afr, .int (nI awi), .ref ar, .ref ae, .ref as, .ref ai, .ref ag, .ref ac, .ref au, .int 0, .int 2, .int 10, .int (nI acc), .int 0, .int 0])), (bn, .inr (5, [.int bh, .int bl, .int bwa, .int bfr, .int (nI bwi), .ref br, .ref be, .ref bs, .ref bi, .ref bg, .ref bc, .ref bu, .int 0, .int 2, .int 200, .int (nI bcc), .int 0, .int 0])), (ar, .inr (6, [.int arh, .int arl, .ref st, .ref ck_13, .ref ck_13, .int 0, .int 1, .int 1, .int 0, .int 0, .ref arf, .int 0])), (br, .inr (6, [.int brh, .int brl, .ref st, .null, .null, .int bhp, .int btp, .int 0, .int 0, .int 0, .ref brf, .int 0])), (arf, .inr (2, [.int f1, .int f2, .int f3, .null])), (brf, .inr (2, [.int y1, .int y2, .int y3, .null])), (lf, .inr (2, [.int g1, .int g2, .int g3, .null])), (st, .inr (8, [.ref ml, .null])), (ml, .inr (0, [.int (nI (mc + 1)), .ref ed_13, .int (nI (0 + 1))])), (ed_13, .inl (cO_13, 10, .inr (.inr (.inr (.inr fe2_13))))), (ck_13, .inr (1, [.ref ce_13, .null])), (ce_13, .inl (cJ_13, 128, .inr (.inl fE2_13))), (mm2_13, .inr (4, [.int (nI 0), .int 200, .int (nI mg), .int (nI ms), .int sd, .null])), (as, .inr (7, [.int 1, .int 1, .int (nI (tm + 1250)), .ref mm2_13])), (bs, .inr (7, [.int 0, .int bsnp, .int bsdo, .null])), (ag, .inl (acT, 3, .inr (.inr (.inr (.inr afg))))), (ac, .inr (0, [.int (nI acm), .ref ace, .int 0])), (bg, .inl (bcT, 3, .inr (.inr (.inr (.inr bfg))))), (bc, .inr (0, [.int (nI bcm), .ref zt, .int 0])), (bi, .inr (3, [.int (nI 0), .int 0, .ref lg, .ref lt])), (lg, .inl (cL, 80, .inl fL)), (ai, .inr (3, [.int ana, .int 0, .ref alg, .ref alt]))]) [13, 14, 15, 0, 16, 1, 2, 3, 4, 18, 19, 20, 21, 22, 23, 17, 5, 6, 7, 8, 9, 10, 11, 12] rfl
      have hDq := hD.sub (ws' := [(x, .inr (11, [.ref nr, .ref st, .ref lf, .int 2, .int (nI tm), .int (nI fcn), .int xl, .int 0])), (nr, .inl (cN, 8, .inr (.inr (.inr (.inr fn))))), (an, .inr (5, [.int ah, .int al, .int awa, .int afr, .int (nI awi), .ref ar, .ref ae, .ref as, .ref ai, .ref ag, .ref ac, .ref au, .int 0, .int 2, .int 10, .int (nI acc), .int 0, .int 0])), (bn, .inr (5, [.int bh, .int bl, .int bwa, .int bfr, .int (nI bwi), .ref br, .ref be, .ref bs, .ref bi, .ref bg, .ref bc, .ref bu, .int 0, .int 2, .int 200, .int (nI bcc), .int 0, .int 0])), (ar, .inr (6, [.int arh, .int arl, .ref st, .ref ck_13, .ref ck_13, .int 0, .int 1, .int 1, .int 0, .int 0, .ref arf, .int 0])), (br, .inr (6, [.int brh, .int brl, .ref st, .null, .null, .int bhp, .int btp, .int 0, .int 0, .int 0, .ref brf, .int 0])), (arf, .inr (2, [.int f1, .int f2, .int f3, .null])), (brf, .inr (2, [.int y1, .int y2, .int y3, .null])), (lf, .inr (2, [.int g1, .int g2, .int g3, .null])), (st, .inr (8, [.ref ml, .null])), (ml, .inr (0, [.int (nI (mc + 1)), .ref ed_13, .int (nI (0 + 1))])), (ed_13, .inl (cO_13, 10, .inr (.inr (.inr (.inr fe2_13))))), (ck_13, .inr (1, [.ref ce_13, .null])), (ce_13, .inl (cJ_13, 128, .inr (.inl fE2_13))), (mm2_13, .inr (4, [.int (nI 0), .int 200, .int (nI mg), .int (nI ms), .int sd, .null])), (as, .inr (7, [.int 1, .int 1, .int (nI (tm + 1250)), .ref mm2_13])), (bs, .inr (7, [.int 0, .int bsnp, .int bsdo, .null])), (ag, .inl (acT, 3, .inr (.inr (.inr (.inr afg))))), (ac, .inr (0, [.int (nI acm), .ref ace, .int 0])), (bg, .inl (bcT, 3, .inr (.inr (.inr (.inr bfg))))), (bc, .inr (0, [.int (nI bcm), .ref zt, .int 0])), (bi, .inr (3, [.int (nI 0), .int 0, .ref lg, .ref lt])), (lg, .inl (cL, 80, .inl fL)), (ai, .inr (3, [.int ana, .int 0, .ref alg, .ref alt]))]) [13, 14, 15, 0, 16, 1, 2, 3, 4, 18, 19, 20, 21, 22, 23, 17, 5, 6, 7, 8, 9, 10, 11, 12] (by decide +kernel) rfl
      have hKq := hK.sub (tys' := [(cN, (.object RX4)), (cO_13, (.object "java/lang/Object")), (cJ_13, .long), (acT, (.object RX9)), (bcT, (.object RX9)), (cL, .int)]) [0, 5, 6, 1, 2, 3] rfl
      have hlq : lv_has ls 19 [(0, .ref b), (1, .ref x), (5, .int 1), (6, .int (nI wm)), (7, .int (nI fcn)), (8, .int (nI (0 + 1))), (9, .int (nI ms)), (10, .int (nI ((ms + 6) / 7))), (11, .int 0), (12, .int sd), (13, .int (nI mg))] := by rw [show ((nI (0 + 1)) : Int32) = 1 from (by first | exact congrArg nI (by omega) | decide)]; exact lv_sub hl [6, 7, 0, 8, 9, 10, 5, 4, 3, 2, 1] rfl
      exact rest_0_one hL C0 hE hZ hTz (x := x) (nr := nr) (st := st) (lf := lf) (tm := tm) (fcn := fcn) (xl := xl) (cN := cN) (fn := fn) (an := an) (ah := ah) (al := al) (awa := awa) (afr := afr) (awi := awi) (ar := ar) (ae := ae) (as := as) (ai := ai) (ag := ag) (ac := ac) (au := au) (acc := acc) (bn := bn) (bh := bh) (bl := bl) (bwa := bwa) (bfr := bfr) (bwi := bwi) (br := br) (be := be) (bs := bs) (bi := bi) (bg := bg) (bc := bc) (bu := bu) (bcc := bcc) (arh := arh) (arl := arl) (ck := ck_13) (arf := arf) (brh := brh) (brl := brl) (bhp := bhp) (btp := btp) (brf := brf) (f1 := f1) (f2 := f2) (f3 := f3) (y1 := y1) (y2 := y2) (y3 := y3) (g1 := g1) (g2 := g2) (g3 := g3) (ml := ml) (mc := (mc + 1)) (ed := ed_13) (kn := 0) (cO := cO_13) (fe := fe2_13) (ce := ce_13) (cJ := cJ_13) (fE := fE2_13) (mm := mm2_13) (mg := mg) (ms := ms) (sd := sd) (bsnp := bsnp) (bsdo := bsdo) (acT := acT) (afg := afg) (acm := acm) (ace := ace) (bcT := bcT) (bfg := bfg) (bcm := bcm) (lg := lg) (lt := lt) (cL := cL) (fL := fL) (ana := ana) (alg := alg) (alt := alt) (wm := wm) (n := n2) (n0 := n0) (n1 := n1) (ag0_ := ag0_) (ag1_ := ag1_) (ag2_ := ag2_) (bg0_ := bg0_) (bg1_ := bg1_) (bg2_ := bg2_) (hwa := hwa) (hwb := hwb) (hwm := hwm) (hk := ((by omega))) (htm := ((by omega))) (hfc := ((by omega))) (hms := (⟨by omega, by omega⟩)) (hmg := (⟨by omega, by omega⟩)) (hlo := hlo_13) (hhi := hhi_13) (hel := hel_13) (hcs := (⟨by omega, by omega⟩)) (h := hT2) (hK := hKq) (hP := hPq) (hD := hDq) (hS := hS) (hl := hlq)
    · refine lv_iload hx hb dL_law_174 (lv_at hl 5 rfl) ?_
      refine lv_aload_n hx hb dL_law_176 rfl (lv_at hl 0 rfl) ?_
      refine va_slen hx hb hX hbl hbA hS dL_law_177 ?_
      refine W.eq (g2 := F0 m 178 ls [.int (nI L), .int 1]) rfl ?_
      refine lv_icmp_ge (tgt := 597) hx hb dL_law_178 (by decide) (fun c_17 => ?_) (fun c_17 => ?_)
      · exact absurd ((nI_leI (a := L) (b := 1) (by omega) (by omega)).mp c_17) (by omega)
      refine lv_iload hx hb dL_law_181 (lv_at hl 5 rfl) ?_
      refine lv_bipush (v := 8) hx hb dL_law_183 (by decide) ?_
      refine lv_icmp_ge (tgt := 597) hx hb dL_law_185 (by decide) (fun c_18 => ?_) (fun c_18 => ?_)
      · exact absurd c_18 (by decide)
      refine lv_iload hx hb dL_law_188 (lv_at hl 2 rfl) ?_
      refine lv_if_eq (tgt := 597) hx hb dL_law_190 (by decide) (fun c_19 => ?_) (fun c_19 => ?_)
      · exact absurd c_19 (by decide)
      refine lv_bipush (v := 9) hx hb dL_law_193 (by decide) ?_
      refine lv_aload_n hx hb dL_law_195 rfl (lv_at hl 0 rfl) ?_
      refine lv_iload hx hb dL_law_196 (lv_at hl 5 rfl) ?_
      refine va_sld hx hb hX hbl hbA hS (vp_in_nI (n := 1) (by omega) (by omega)) dL_law_198 ?_
      refine W.eq (g2 := F0 m 199 ls [.int (xs 1), .int 9]) (by rw [show Int32.toNatClampNeg 1 = 1 from nI_clamp (n := 1) (by omega)]) ?_
      refine lv_sipush (v := 2047) hx hb dL_law_199 (by decide) ?_
      refine lv_iand hx hb dL_law_202 ?_
      rw [em1]
      refine lv_sipush (v := 1777) hx hb dL_law_203 (by decide) ?_
      refine lv_irem hx hb dL_law_206 (by decide) ?_
      refine lv_topi (fun x_20 ex_20 => ?_)
      obtain rfl : x_20 = (nI (((m1) % 1777))) := ex_20.trans ((pk_rem (a := m1) (d := 1777) (by omega) (by omega) (by omega)).trans (show nI (m1 % 1777) = nI (((m1) % 1777)) from congrArg nI (by omega)))
      refine lv_iadd hx hb dL_law_207 ?_
      refine lv_topi (fun x_21 ex_21 => ?_)
      obtain rfl : x_21 = (nI (((m1) % 1777) + 9)) := ex_21.trans ((nI_add 9 (((m1) % 1777))).trans (show nI (9 + (((m1) % 1777))) = nI (((m1) % 1777) + 9) from congrArg nI (by omega)))
      rw [show nI (((m1) % 1777) + 9) = nI ms from congrArg nI (by omega)]
      refine lv_istore (lv' := [(9, .int (nI ms)), (0, .ref b), (1, .ref x), (5, .int 1), (6, .int (nI wm)), (7, .int (nI fcn)), (8, .int 1)]) hx hb dL_law_208 hl (by decide) rfl (fun ls hl => ?_)
      refine lv_iload hx hb dL_law_210 (lv_at hl 0 rfl) ?_
      refine lv_bipush (v := 6) hx hb dL_law_212 (by decide) ?_
      refine lv_iadd hx hb dL_law_214 ?_
      refine lv_topi (fun x_22 ex_22 => ?_)
      obtain rfl : x_22 = (nI (ms + 6)) := ex_22.trans ((nI_add ms 6).trans (show nI (ms + 6) = nI (ms + 6) from congrArg nI (by omega)))
      refine lv_bipush (v := 7) hx hb dL_law_215 (by decide) ?_
      refine lv_idiv hx hb dL_law_217 (by decide) ?_
      refine lv_topi (fun x_23 ex_23 => ?_)
      obtain rfl : x_23 = (nI (((ms + 6) / 7))) := ex_23.trans ((pk_div (a := (ms + 6)) (d := 7) (by omega) (by omega) (by omega)).trans (show nI ((ms + 6) / 7) = nI (((ms + 6) / 7)) from congrArg nI (by omega)))
      refine lv_istore (lv' := [(10, .int (nI (((ms + 6) / 7)))), (9, .int (nI ms)), (0, .ref b), (1, .ref x), (5, .int 1), (6, .int (nI wm)), (7, .int (nI fcn)), (8, .int 1)]) hx hb dL_law_218 hl (by decide) rfl (fun ls hl => ?_)
      refine lv_aload_n hx hb dL_law_220 rfl (lv_at hl 2 rfl) ?_
      refine lv_iload hx hb dL_law_221 (lv_at hl 7 rfl) ?_
      refine va_sld hx hb hX hbl hbA hS (vp_in_nI (n := 1) (by omega) (by omega)) dL_law_223 ?_
      refine W.eq (g2 := F0 m 224 ls [.int (xs 1)]) (by rw [show Int32.toNatClampNeg 1 = 1 from nI_clamp (n := 1) (by omega)]) ?_
      refine lv_bipush (v := 12) hx hb dL_law_224 (by decide) ?_
      refine lv_ishr hx hb dL_law_226 ?_
      refine lv_iconst (v := 1) hx hb dL_law_227 (by decide) ?_
      refine lv_iand hx hb dL_law_228 ?_
      rw [em2]
      refine lv_iconst (v := 1) hx hb dL_law_229 (by decide) ?_
      refine lv_icmp_ne (tgt := 237) hx hb dL_law_230 (by decide) (fun c_24 => ?_) (fun c_24 => ?_)
      · exact absurd ((nI_eq (a := 1) (b := 1) (by omega) (by omega)).mpr (by omega)) c_24
      refine lv_iconst (v := 1) hx hb dL_law_233 (by decide) ?_
      refine lv_goto (tgt := 238) hx hb dL_law_234 (by decide) ?_
      refine lv_istore (lv' := [(11, .int 1), (10, .int (nI (((ms + 6) / 7)))), (9, .int (nI ms)), (0, .ref b), (1, .ref x), (5, .int 1), (6, .int (nI wm)), (7, .int (nI fcn)), (8, .int 1)]) hx hb dL_law_238 hl (by decide) rfl (fun ls hl => ?_)
      refine lv_aload_n hx hb dL_law_240 rfl (lv_at hl 3 rfl) ?_
      refine lv_iload hx hb dL_law_241 (lv_at hl 8 rfl) ?_
      refine va_sld hx hb hX hbl hbA hS (vp_in_nI (n := 1) (by omega) (by omega)) dL_law_243 ?_
      refine W.eq (g2 := F0 m 244 ls [.int (xs 1)]) (by rw [show Int32.toNatClampNeg 1 = 1 from nI_clamp (n := 1) (by omega)]) ?_
      refine lv_bipush (v := 13) hx hb dL_law_244 (by decide) ?_
      refine lv_ishr hx hb dL_law_246 ?_
      rw [show ((xs 1) >>> ((13 : Int32) &&& 31)) = sd from hsd.symm]
      refine lv_istore (lv' := [(12, .int sd), (11, .int 1), (10, .int (nI (((ms + 6) / 7)))), (9, .int (nI ms)), (0, .ref b), (1, .ref x), (5, .int 1), (6, .int (nI wm)), (7, .int (nI fcn)), (8, .int 1)]) hx hb dL_law_247 hl (by decide) rfl (fun ls hl => ?_)
      refine lv_iload hx hb dL_law_249 (lv_at hl 1 rfl) ?_
      refine lv_if_eq (tgt := 281) hx hb dL_law_251 (by decide) (fun c_25 => ?_) (fun c_25 => ?_)
      · exact absurd c_25 (by decide)
      refine lv_aload_n hx hb dL_law_254 rfl (lv_at hl 4 rfl) ?_
      refine lv_iload hx hb dL_law_255 (lv_at hl 9 rfl) ?_
      refine va_sld hx hb hX hbl hbA hS (vp_in_nI (n := 1) (by omega) (by omega)) dL_law_257 ?_
      refine W.eq (g2 := F0 m 258 ls [.int (xs 1)]) (by rw [show Int32.toNatClampNeg 1 = 1 from nI_clamp (n := 1) (by omega)]) ?_
      refine lv_iconst (v := 1) hx hb dL_law_258 (by decide) ?_
      refine lv_iand hx hb dL_law_259 ?_
      rw [em3]
      refine lv_iconst (v := 1) hx hb dL_law_260 (by decide) ?_
      refine lv_icmp_ne (tgt := 281) hx hb dL_law_261 (by decide) (fun c_26 => ?_) (fun c_26 => ?_)
      rotate_left
      · exact absurd ((nI_eq (a := 0) (b := 1) (by omega) (by omega)).mp c_26) (by omega)
      refine lv_aload_n hx hb dL_law_281 rfl (lv_at hl 4 rfl) ?_
      refine lv_iload hx hb dL_law_282 (lv_at hl 9 rfl) ?_
      refine va_sld hx hb hX hbl hbA hS (vp_in_nI (n := 1) (by omega) (by omega)) dL_law_284 ?_
      refine W.eq (g2 := F0 m 285 ls [.int (xs 1)]) (by rw [show Int32.toNatClampNeg 1 = 1 from nI_clamp (n := 1) (by omega)]) ?_
      refine lv_bipush (v := 20) hx hb dL_law_285 (by decide) ?_
      refine lv_ishr hx hb dL_law_287 ?_
      refine lv_bipush (v := 127) hx hb dL_law_288 (by decide) ?_
      refine lv_iand hx hb dL_law_290 ?_
      rw [em5]
      refine lv_bipush (v := 8) hx hb dL_law_291 (by decide) ?_
      refine lv_ishl hx hb dL_law_293 ?_
      refine lv_topi (fun x_27 ex_27 => ?_)
      obtain rfl : x_27 = (nI (256 * m5)) := ex_27.trans ((pk_shlN (n := m5) ((8 : Int32) &&& 31) 8 (by decide) (by omega)).trans (show nI (m5 * 2 ^ 8) = nI (256 * m5) from congrArg nI (by omega)))
      obtain ⟨mg, hmg0⟩ : ∃ z : Nat, z = (256 * m5) := ⟨_, rfl⟩
      rw [show nI (256 * m5) = nI mg from congrArg nI hmg0.symm]
      refine lv_istore (lv' := [(13, .int (nI mg)), (12, .int sd), (11, .int 1), (10, .int (nI (((ms + 6) / 7)))), (9, .int (nI ms)), (0, .ref b), (1, .ref x), (5, .int 1), (6, .int (nI wm)), (7, .int (nI fcn)), (8, .int 1)]) hx hb dL_law_294 hl (by decide) rfl (fun ls hl => ?_)
      refine lv_aload_n hx hb dL_law_296 rfl (lv_at hl 6 rfl) ?_
      refine lv_iconst (v := 0) hx hb dL_law_297 (by decide) ?_
      refine lv_iload hx hb dL_law_298 (lv_at hl 2 rfl) ?_
      refine lv_if_eq (tgt := 309) hx hb dL_law_300 (by decide) (fun c_28 => ?_) (fun c_28 => ?_)
      · exact absurd c_28 (by decide)
      refine lv_sipush (v := 255) hx hb dL_law_303 (by decide) ?_
      refine lv_goto (tgt := 312) hx hb dL_law_306 (by decide) ?_
      refine lv_iload hx hb dL_law_312 (lv_at hl 0 rfl) ?_
      refine lv_iload hx hb dL_law_314 (lv_at hl 4 rfl) ?_
      refine lv_iload hx hb dL_law_316 (lv_at hl 1 rfl) ?_
      have hPc := hP.sub (ws' := [(x, .inr (11, [.ref nr, .ref st, .ref lf, .int 2, .int (nI tm), .int (nI fcn), .int xl, .int 0])), (nr, .inl (cN, 8, .inr (.inr (.inr (.inr fn))))), (an, .inr (5, [.int ah, .int al, .int awa, .int afr, .int (nI awi), .ref ar, .ref ae, .ref as, .ref ai, .ref ag, .ref ac, .ref au, .int 0, .int 2, .int 10, .int (nI acc), .int 0, .int 0])), (ar, .inr (6, [.int arh, .int arl, .ref st, .null, .null, .int ahp, .int atp, .int 0, .int 0, .int 0, .ref arf, .int 0])), (as, .inr (7, [.int 0, .int asnp, .int assdo, .null])), (st, .inr (8, [.ref ml, .null])), (ml, .inr (0, [.int (nI mc), .ref zt, .int 0]))]) [0, 1, 2, 4, 11, 9, 10] rfl
      have hDc := hD.sub (ws' := [(x, .inr (11, [.ref nr, .ref st, .ref lf, .int 2, .int (nI tm), .int (nI fcn), .int xl, .int 0])), (nr, .inl (cN, 8, .inr (.inr (.inr (.inr fn))))), (an, .inr (5, [.int ah, .int al, .int awa, .int afr, .int (nI awi), .ref ar, .ref ae, .ref as, .ref ai, .ref ag, .ref ac, .ref au, .int 0, .int 2, .int 10, .int (nI acc), .int 0, .int 0])), (ar, .inr (6, [.int arh, .int arl, .ref st, .null, .null, .int ahp, .int atp, .int 0, .int 0, .int 0, .ref arf, .int 0])), (as, .inr (7, [.int 0, .int asnp, .int assdo, .null])), (st, .inr (8, [.ref ml, .null])), (ml, .inr (0, [.int (nI mc), .ref zt, .int 0]))]) [0, 1, 2, 4, 11, 9, 10] (by decide +kernel) rfl
      have hKc := hK.sub (tys' := [(cN, (.object RX4))]) [0] rfl
      have hFc := va_free (wc := [(x, .inr (11, [.ref nr, .ref st, .ref lf, .int 2, .int (nI tm), .int (nI fcn), .int xl, .int 0])), (nr, .inl (cN, 8, .inr (.inr (.inr (.inr fn))))), (an, .inr (5, [.int ah, .int al, .int awa, .int afr, .int (nI awi), .ref ar, .ref ae, .ref as, .ref ai, .ref ag, .ref ac, .ref au, .int 0, .int 2, .int 10, .int (nI acc), .int 0, .int 0])), (ar, .inr (6, [.int arh, .int arl, .ref st, .null, .null, .int ahp, .int atp, .int 0, .int 0, .int 0, .ref arf, .int 0])), (as, .inr (7, [.int 0, .int asnp, .int assdo, .null])), (st, .inr (8, [.ref ml, .null])), (ml, .inr (0, [.int (nI mc), .ref zt, .int 0]))]) hD hS hA [0, 1, 2, 4, 11, 9, 10] rfl
      have hZc := (hZ.kept hS.2.1).narrow (fun q h => hFc q h)
      have hTc := (hTz.kept hS.2.1).narrow (fun q h => hFc q h)
      refine va_calli (va_runV (As := [.int 0, .int 255, .int (nI mg), .int (nI ms), .int sd]) (rest := []) ⟨hx, hb, hml, hown, hts⟩ (c_send_all0 l dC dI (zt) (x) (nr) (st) (lf) (tm) (fcn) (xl) (cN) (fn) (an) (ah) (al) (awa) (afr) (awi) (ar) (ae) (as) (ai) (ag) (ac) (au) (acc) (arh) (arl) (arf) (ahp) (atp) (asnp) (assdo) (ml) (mc) (mg) (ms) (sd) H.size n0 (by omega) (by omega) (by omega) (by omega) hwa) (cwV 5 hts g_law_c_send_all0_31 rfl rfl rfl (by decide +kernel) ⟨Nat.le_of_ble_eq_true rfl, Nat.le_of_ble_eq_true rfl⟩) ⟨fun a U g mk q => by obtain ⟨q0, q1, qP, qK, qD, qE, qZ, qT⟩ := q; exact ⟨q0, q1, qP, va_K.moved (u := U) (U := U.calling g mk a) (Vm.Alike.refl U.vm) qK, qD, ev.same (u := U) (U := U.calling g mk a) rfl qE, va_Z.moved (u := U) (U := U.calling g mk a) (Vm.Alike.refl U.vm) qZ, va_T.moved (u := U) (U := U.calling g mk a) (Vm.Alike.refl U.vm) qT⟩, va_recv hKc hPc (ci := 11) (q0 := 0) rfl rfl, fun U hU hW => ⟨rfl, by rw [hU], by rw [hU]; exact hPc, va_K.moved hW.alike hKc, hDc.weaken (fun _ _ _ _ => trivial), hE.warm hW, by rw [hU]; exact hZc.moved hW.alike, by rw [hU]; exact hTc.moved hW.alike⟩⟩ rfl rfl hl.1 rfl (lv_room (Nat.le_of_ble_eq_true rfl)) dL_law_318 ⟨show _ ≤ 600000 from by omega, show _ ≤ 7302250 from by omega⟩) hS (fun q _ h => hFc q h) hFc (fun r_29 u t H1 locs ht hvm hw hB hz1 hk1 hS => ?_)
      clear hPc hDc hKc
      obtain ⟨mm2_29, fE2_29, fe2_29, ck_29, ce_29, cJ_29, ed_29, cO_29, hP1, hK1, hD1, hlo_29, hhi_29, hel_29⟩ := hB
      rw [ht] at hP1
      have hK1 := va_K.moved hvm.symm hK1
      obtain ⟨hP, hD⟩ := va_join (wr := [(bn, .inr (5, [.int bh, .int bl, .int bwa, .int bfr, .int (nI bwi), .ref br, .ref be, .ref bs, .ref bi, .ref bg, .ref bc, .ref bu, .int 0, .int 2, .int 200, .int (nI bcc), .int 0, .int 0])), (br, .inr (6, [.int brh, .int brl, .ref st, .null, .null, .int bhp, .int btp, .int 0, .int 0, .int 0, .ref brf, .int 0])), (arf, .inr (2, [.int f1, .int f2, .int f3, .null])), (brf, .inr (2, [.int y1, .int y2, .int y3, .null])), (lf, .inr (2, [.int g1, .int g2, .int g3, .null])), (bs, .inr (7, [.int 0, .int bsnp, .int bsdo, .null])), (ag, .inl (acT, 3, .inr (.inr (.inr (.inr afg))))), (ac, .inr (0, [.int (nI acm), .ref ace, .int 0])), (bg, .inl (bcT, 3, .inr (.inr (.inr (.inr bfg))))), (bc, .inr (0, [.int (nI bcm), .ref zt, .int 0])), (bi, .inr (3, [.int 0, .int 0, .ref lg, .ref lt])), (lg, .inl (cL, 80, .inl fL)), (ai, .inr (3, [.int ana, .int 0, .ref alg, .ref alt]))]) (w1 := [(x, .inr (11, [.ref nr, .ref st, .ref lf, .int 2, .int (nI tm), .int (nI fcn), .int xl, .int 0])), (nr, .inl (cN, 8, .inr (.inr (.inr (.inr fn))))), (an, .inr (5, [.int ah, .int al, .int awa, .int afr, .int (nI awi), .ref ar, .ref ae, .ref as, .ref ai, .ref ag, .ref ac, .ref au, .int 0, .int 2, .int 10, .int (nI acc), .int 0, .int 0])), (ar, .inr (6, [.int arh, .int arl, .ref st, .ref ck_29, .ref ck_29, .int 0, .int 1, .int 1, .int 0, .int 0, .ref arf, .int 0])), (as, .inr (7, [.int 1, .int 1, .int (nI (tm + 50)), .ref mm2_29])), (st, .inr (8, [.ref ml, .null])), (ml, .inr (0, [.int (nI (mc + 1)), .ref ed_29, .int 1])), (ed_29, .inl (cO_29, 10, .inr (.inr (.inr (.inr fe2_29))))), (ck_29, .inr (1, [.ref ce_29, .null])), (ce_29, .inl (cJ_29, 128, .inr (.inl fE2_29))), (mm2_29, .inr (4, [.int 0, .int 255, .int (nI mg), .int (nI ms), .int sd, .null]))]) hP hD [0, 1, 2, 4, 11, 9, 10] [3, 5, 6, 7, 8, 12, 13, 14, 15, 16, 17, 18, 19] rfl rfl (by decide +kernel) (by decide +kernel) hk1 hFc hP1 hD1
      replace hK := hK.app hK1
      replace hK : va_K (dC, dI) vwCl [(cN, (.object RX4)), (acT, (.object RX9)), (bcT, (.object RX9)), (cL, .int), (cN, (.object RX4)), (cO_29, (.object "java/lang/Object")), (cJ_29, .long)] s := hK
      generalize H1 = H at hP hS ⊢
      replace hP : va_P (dC, dI) vwCl [(bn, .inr (5, [.int bh, .int bl, .int bwa, .int bfr, .int (nI bwi), .ref br, .ref be, .ref bs, .ref bi, .ref bg, .ref bc, .ref bu, .int 0, .int 2, .int 200, .int (nI bcc), .int 0, .int 0])), (br, .inr (6, [.int brh, .int brl, .ref st, .null, .null, .int bhp, .int btp, .int 0, .int 0, .int 0, .ref brf, .int 0])), (arf, .inr (2, [.int f1, .int f2, .int f3, .null])), (brf, .inr (2, [.int y1, .int y2, .int y3, .null])), (lf, .inr (2, [.int g1, .int g2, .int g3, .null])), (bs, .inr (7, [.int 0, .int bsnp, .int bsdo, .null])), (ag, .inl (acT, 3, .inr (.inr (.inr (.inr afg))))), (ac, .inr (0, [.int (nI acm), .ref ace, .int 0])), (bg, .inl (bcT, 3, .inr (.inr (.inr (.inr bfg))))), (bc, .inr (0, [.int (nI bcm), .ref zt, .int 0])), (bi, .inr (3, [.int 0, .int 0, .ref lg, .ref lt])), (lg, .inl (cL, 80, .inl fL)), (ai, .inr (3, [.int ana, .int 0, .ref alg, .ref alt])), (x, .inr (11, [.ref nr, .ref st, .ref lf, .int 2, .int (nI tm), .int (nI fcn), .int xl, .int 0])), (nr, .inl (cN, 8, .inr (.inr (.inr (.inr fn))))), (an, .inr (5, [.int ah, .int al, .int awa, .int afr, .int (nI awi), .ref ar, .ref ae, .ref as, .ref ai, .ref ag, .ref ac, .ref au, .int 0, .int 2, .int 10, .int (nI acc), .int 0, .int 0])), (ar, .inr (6, [.int arh, .int arl, .ref st, .ref ck_29, .ref ck_29, .int 0, .int 1, .int 1, .int 0, .int 0, .ref arf, .int 0])), (as, .inr (7, [.int 1, .int 1, .int (nI (tm + 50)), .ref mm2_29])), (st, .inr (8, [.ref ml, .null])), (ml, .inr (0, [.int (nI (mc + 1)), .ref ed_29, .int 1])), (ed_29, .inl (cO_29, 10, .inr (.inr (.inr (.inr fe2_29))))), (ck_29, .inr (1, [.ref ce_29, .null])), (ce_29, .inl (cJ_29, 128, .inr (.inl fE2_29))), (mm2_29, .inr (4, [.int 0, .int 255, .int (nI mg), .int (nI ms), .int sd, .null]))] H := hP
      replace hD : va_D (fun q : Nat => s.heap.size ≤ q) [(bn, .inr (5, [.int bh, .int bl, .int bwa, .int bfr, .int (nI bwi), .ref br, .ref be, .ref bs, .ref bi, .ref bg, .ref bc, .ref bu, .int 0, .int 2, .int 200, .int (nI bcc), .int 0, .int 0])), (br, .inr (6, [.int brh, .int brl, .ref st, .null, .null, .int bhp, .int btp, .int 0, .int 0, .int 0, .ref brf, .int 0])), (arf, .inr (2, [.int f1, .int f2, .int f3, .null])), (brf, .inr (2, [.int y1, .int y2, .int y3, .null])), (lf, .inr (2, [.int g1, .int g2, .int g3, .null])), (bs, .inr (7, [.int 0, .int bsnp, .int bsdo, .null])), (ag, .inl (acT, 3, .inr (.inr (.inr (.inr afg))))), (ac, .inr (0, [.int (nI acm), .ref ace, .int 0])), (bg, .inl (bcT, 3, .inr (.inr (.inr (.inr bfg))))), (bc, .inr (0, [.int (nI bcm), .ref zt, .int 0])), (bi, .inr (3, [.int 0, .int 0, .ref lg, .ref lt])), (lg, .inl (cL, 80, .inl fL)), (ai, .inr (3, [.int ana, .int 0, .ref alg, .ref alt])), (x, .inr (11, [.ref nr, .ref st, .ref lf, .int 2, .int (nI tm), .int (nI fcn), .int xl, .int 0])), (nr, .inl (cN, 8, .inr (.inr (.inr (.inr fn))))), (an, .inr (5, [.int ah, .int al, .int awa, .int afr, .int (nI awi), .ref ar, .ref ae, .ref as, .ref ai, .ref ag, .ref ac, .ref au, .int 0, .int 2, .int 10, .int (nI acc), .int 0, .int 0])), (ar, .inr (6, [.int arh, .int arl, .ref st, .ref ck_29, .ref ck_29, .int 0, .int 1, .int 1, .int 0, .int 0, .ref arf, .int 0])), (as, .inr (7, [.int 1, .int 1, .int (nI (tm + 50)), .ref mm2_29])), (st, .inr (8, [.ref ml, .null])), (ml, .inr (0, [.int (nI (mc + 1)), .ref ed_29, .int 1])), (ed_29, .inl (cO_29, 10, .inr (.inr (.inr (.inr fe2_29))))), (ck_29, .inr (1, [.ref ce_29, .null])), (ce_29, .inl (cJ_29, 128, .inr (.inl fE2_29))), (mm2_29, .inr (4, [.int 0, .int 255, .int (nI mg), .int (nI ms), .int sd, .null]))] := hD
      have hw := hw.symm
      subst hw
      refine lv_if_eq (tgt := 345) hx hb dL_law_321 (by decide) (fun c_30 => ?_) (fun c_30 => ?_)
      · exact absurd c_30 (by decide)
      refine lv_aload_n hx hb dL_law_324 rfl (lv_at hl 6 rfl) ?_
      refine lv_iconst (v := 0) hx hb dL_law_325 (by decide) ?_
      refine lv_sipush (v := 255) hx hb dL_law_326 (by decide) ?_
      refine lv_iload hx hb dL_law_329 (lv_at hl 0 rfl) ?_
      refine lv_iload hx hb dL_law_331 (lv_at hl 4 rfl) ?_
      refine lv_iload hx hb dL_law_333 (lv_at hl 1 rfl) ?_
      have hPc := hP.sub (ws' := [(x, .inr (11, [.ref nr, .ref st, .ref lf, .int 2, .int (nI tm), .int (nI fcn), .int xl, .int 0])), (nr, .inl (cN, 8, .inr (.inr (.inr (.inr fn))))), (an, .inr (5, [.int ah, .int al, .int awa, .int afr, .int (nI awi), .ref ar, .ref ae, .ref as, .ref ai, .ref ag, .ref ac, .ref au, .int 0, .int 2, .int 10, .int (nI acc), .int 0, .int 0])), (as, .inr (7, [.int 1, .int 1, .int (nI (tm + 50)), .ref mm2_29]))]) [13, 14, 15, 17] rfl
      have hDc := hD.sub (ws' := [(x, .inr (11, [.ref nr, .ref st, .ref lf, .int 2, .int (nI tm), .int (nI fcn), .int xl, .int 0])), (nr, .inl (cN, 8, .inr (.inr (.inr (.inr fn))))), (an, .inr (5, [.int ah, .int al, .int awa, .int afr, .int (nI awi), .ref ar, .ref ae, .ref as, .ref ai, .ref ag, .ref ac, .ref au, .int 0, .int 2, .int 10, .int (nI acc), .int 0, .int 0])), (as, .inr (7, [.int 1, .int 1, .int (nI (tm + 50)), .ref mm2_29]))]) [13, 14, 15, 17] (by decide +kernel) rfl
      have hKc := hK.sub (tys' := [(cN, (.object RX4))]) [0] rfl
      have hFc := ro_free hS hA
      refine va_calli (va_runV (As := [.int 0, .int 255, .int (nI mg), .int (nI ms), .int sd]) (rest := []) ⟨hx, hb, hml, hown, hts⟩ (c_send_no l dC dI (x) (nr) (st) (lf) (tm) (fcn) (xl) (cN) (fn) (an) (ah) (al) (awa) (afr) (awi) (ar) (ae) (as) (ai) (ag) (ac) (au) (acc) (1) ((tm + 50)) (mm2_29) (255) ((nI mg)) ((nI ms)) (sd) H.size n0) (cwV 5 hts g_law_c_send_no_31 rfl rfl rfl (by decide +kernel) ⟨Nat.le_of_ble_eq_true rfl, Nat.le_of_ble_eq_true rfl⟩) ⟨fun a U g mk q => by obtain ⟨q0, q1, qP, qK, qD, qE⟩ := q; exact ⟨q0, q1, qP, va_K.moved (u := U) (U := U.calling g mk a) (Vm.Alike.refl U.vm) qK, qD, ev.same (u := U) (U := U.calling g mk a) rfl qE⟩, va_recv hKc hPc (ci := 11) (q0 := 0) rfl rfl, fun U hU hW => ⟨rfl, by rw [hU], by rw [hU]; exact hPc, va_K.moved hW.alike hKc, hDc.weaken (fun _ _ _ _ => trivial), hE.warm hW⟩⟩ rfl rfl hl.1 rfl (lv_room (Nat.le_of_ble_eq_true rfl)) dL_law_335 ⟨show _ ≤ 600000 from by omega, show _ ≤ 7302250 from by omega⟩) hS (fun q _ h => hFc q h) hFc (fun r_31 u t H1 locs ht hvm hw hB hz1 hk1 hS => ?_)
      clear hPc hDc hKc
      replace hP := ro_keep hP hk1
      generalize H1 = H at hP hS ⊢
      replace hP : va_P (dC, dI) vwCl [(bn, .inr (5, [.int bh, .int bl, .int bwa, .int bfr, .int (nI bwi), .ref br, .ref be, .ref bs, .ref bi, .ref bg, .ref bc, .ref bu, .int 0, .int 2, .int 200, .int (nI bcc), .int 0, .int 0])), (br, .inr (6, [.int brh, .int brl, .ref st, .null, .null, .int bhp, .int btp, .int 0, .int 0, .int 0, .ref brf, .int 0])), (arf, .inr (2, [.int f1, .int f2, .int f3, .null])), (brf, .inr (2, [.int y1, .int y2, .int y3, .null])), (lf, .inr (2, [.int g1, .int g2, .int g3, .null])), (bs, .inr (7, [.int 0, .int bsnp, .int bsdo, .null])), (ag, .inl (acT, 3, .inr (.inr (.inr (.inr afg))))), (ac, .inr (0, [.int (nI acm), .ref ace, .int 0])), (bg, .inl (bcT, 3, .inr (.inr (.inr (.inr bfg))))), (bc, .inr (0, [.int (nI bcm), .ref zt, .int 0])), (bi, .inr (3, [.int 0, .int 0, .ref lg, .ref lt])), (lg, .inl (cL, 80, .inl fL)), (ai, .inr (3, [.int ana, .int 0, .ref alg, .ref alt])), (x, .inr (11, [.ref nr, .ref st, .ref lf, .int 2, .int (nI tm), .int (nI fcn), .int xl, .int 0])), (nr, .inl (cN, 8, .inr (.inr (.inr (.inr fn))))), (an, .inr (5, [.int ah, .int al, .int awa, .int afr, .int (nI awi), .ref ar, .ref ae, .ref as, .ref ai, .ref ag, .ref ac, .ref au, .int 0, .int 2, .int 10, .int (nI acc), .int 0, .int 0])), (ar, .inr (6, [.int arh, .int arl, .ref st, .ref ck_29, .ref ck_29, .int 0, .int 1, .int 1, .int 0, .int 0, .ref arf, .int 0])), (as, .inr (7, [.int 1, .int 1, .int (nI (tm + 50)), .ref mm2_29])), (st, .inr (8, [.ref ml, .null])), (ml, .inr (0, [.int (nI (mc + 1)), .ref ed_29, .int 1])), (ed_29, .inl (cO_29, 10, .inr (.inr (.inr (.inr fe2_29))))), (ck_29, .inr (1, [.ref ce_29, .null])), (ce_29, .inl (cJ_29, 128, .inr (.inl fE2_29))), (mm2_29, .inr (4, [.int 0, .int 255, .int (nI mg), .int (nI ms), .int sd, .null]))] H := hP
      have hw := hw.symm
      subst hw
      refine lv_if_ne (tgt := 345) hx hb dL_law_338 (by decide) (fun c_32 => ?_) (fun c_32 => ?_)
      · exact absurd c_32 (by decide)
      refine lv_iconst (v := 1) hx hb dL_law_341 (by decide) ?_
      refine lv_goto (tgt := 346) hx hb dL_law_342 (by decide) ?_
      refine lv_istore (lv' := [(5, .int 1), (13, .int (nI mg)), (12, .int sd), (11, .int 1), (10, .int (nI (((ms + 6) / 7)))), (9, .int (nI ms)), (0, .ref b), (1, .ref x), (6, .int (nI wm)), (7, .int (nI fcn)), (8, .int 1)]) hx hb dL_law_346 hl (by decide) rfl (fun ls hl => ?_)
      have hPq := hP.sub (ws' := [(x, .inr (11, [.ref nr, .ref st, .ref lf, .int 2, .int (nI tm), .int (nI fcn), .int xl, .int 0])), (nr, .inl (cN, 8, .inr (.inr (.inr (.inr fn))))), (an, .inr (5, [.int ah, .int al, .int awa, .int afr, .int (nI awi), .ref ar, .ref ae, .ref as, .ref ai, .ref ag, .ref ac, .ref au, .int 0, .int 2, .int 10, .int (nI acc), .int 0, .int 0])), (bn, .inr (5, [.int bh, .int bl, .int bwa, .int bfr, .int (nI bwi), .ref br, .ref be, .ref bs, .ref bi, .ref bg, .ref bc, .ref bu, .int 0, .int 2, .int 200, .int (nI bcc), .int 0, .int 0])), (ar, .inr (6, [.int arh, .int arl, .ref st, .ref ck_29, .ref ck_29, .int 0, .int 1, .int 1, .int 0, .int 0, .ref arf, .int 0])), (br, .inr (6, [.int brh, .int brl, .ref st, .null, .null, .int bhp, .int btp, .int 0, .int 0, .int 0, .ref brf, .int 0])), (arf, .inr (2, [.int f1, .int f2, .int f3, .null])), (brf, .inr (2, [.int y1, .int y2, .int y3, .null])), (lf, .inr (2, [.int g1, .int g2, .int g3, .null])), (st, .inr (8, [.ref ml, .null])), (ml, .inr (0, [.int (nI (mc + 1)), .ref ed_29, .int (nI (0 + 1))])), (ed_29, .inl (cO_29, 10, .inr (.inr (.inr (.inr fe2_29))))), (ck_29, .inr (1, [.ref ce_29, .null])), (ce_29, .inl (cJ_29, 128, .inr (.inl fE2_29))), (mm2_29, .inr (4, [.int (nI 0), .int 255, .int (nI mg), .int (nI ms), .int sd, .null])), (as, .inr (7, [.int 1, .int 1, .int (nI (tm + 50)), .ref mm2_29])), (bs, .inr (7, [.int 0, .int bsnp, .int bsdo, .null])), (ag, .inl (acT, 3, .inr (.inr (.inr (.inr afg))))), (ac, .inr (0, [.int (nI acm), .ref ace, .int 0])), (bg, .inl (bcT, 3, .inr (.inr (.inr (.inr bfg))))), (bc, .inr (0, [.int (nI bcm), .ref zt, .int 0])), (bi, .inr (3, [.int (nI 0), .int 0, .ref lg, .ref lt])), (lg, .inl (cL, 80, .inl fL)), (ai, .inr (3, [.int ana, .int 0, .ref alg, .ref alt]))]) [13, 14, 15, 0, 16, 1, 2, 3, 4, 18, 19, 20, 21, 22, 23, 17, 5, 6, 7, 8, 9, 10, 11, 12] rfl
      have hDq := hD.sub (ws' := [(x, .inr (11, [.ref nr, .ref st, .ref lf, .int 2, .int (nI tm), .int (nI fcn), .int xl, .int 0])), (nr, .inl (cN, 8, .inr (.inr (.inr (.inr fn))))), (an, .inr (5, [.int ah, .int al, .int awa, .int afr, .int (nI awi), .ref ar, .ref ae, .ref as, .ref ai, .ref ag, .ref ac, .ref au, .int 0, .int 2, .int 10, .int (nI acc), .int 0, .int 0])), (bn, .inr (5, [.int bh, .int bl, .int bwa, .int bfr, .int (nI bwi), .ref br, .ref be, .ref bs, .ref bi, .ref bg, .ref bc, .ref bu, .int 0, .int 2, .int 200, .int (nI bcc), .int 0, .int 0])), (ar, .inr (6, [.int arh, .int arl, .ref st, .ref ck_29, .ref ck_29, .int 0, .int 1, .int 1, .int 0, .int 0, .ref arf, .int 0])), (br, .inr (6, [.int brh, .int brl, .ref st, .null, .null, .int bhp, .int btp, .int 0, .int 0, .int 0, .ref brf, .int 0])), (arf, .inr (2, [.int f1, .int f2, .int f3, .null])), (brf, .inr (2, [.int y1, .int y2, .int y3, .null])), (lf, .inr (2, [.int g1, .int g2, .int g3, .null])), (st, .inr (8, [.ref ml, .null])), (ml, .inr (0, [.int (nI (mc + 1)), .ref ed_29, .int (nI (0 + 1))])), (ed_29, .inl (cO_29, 10, .inr (.inr (.inr (.inr fe2_29))))), (ck_29, .inr (1, [.ref ce_29, .null])), (ce_29, .inl (cJ_29, 128, .inr (.inl fE2_29))), (mm2_29, .inr (4, [.int (nI 0), .int 255, .int (nI mg), .int (nI ms), .int sd, .null])), (as, .inr (7, [.int 1, .int 1, .int (nI (tm + 50)), .ref mm2_29])), (bs, .inr (7, [.int 0, .int bsnp, .int bsdo, .null])), (ag, .inl (acT, 3, .inr (.inr (.inr (.inr afg))))), (ac, .inr (0, [.int (nI acm), .ref ace, .int 0])), (bg, .inl (bcT, 3, .inr (.inr (.inr (.inr bfg))))), (bc, .inr (0, [.int (nI bcm), .ref zt, .int 0])), (bi, .inr (3, [.int (nI 0), .int 0, .ref lg, .ref lt])), (lg, .inl (cL, 80, .inl fL)), (ai, .inr (3, [.int ana, .int 0, .ref alg, .ref alt]))]) [13, 14, 15, 0, 16, 1, 2, 3, 4, 18, 19, 20, 21, 22, 23, 17, 5, 6, 7, 8, 9, 10, 11, 12] (by decide +kernel) rfl
      have hKq := hK.sub (tys' := [(cN, (.object RX4)), (cO_29, (.object "java/lang/Object")), (cJ_29, .long), (acT, (.object RX9)), (bcT, (.object RX9)), (cL, .int)]) [0, 5, 6, 1, 2, 3] rfl
      have hlq : lv_has ls 19 [(0, .ref b), (1, .ref x), (5, .int 1), (6, .int (nI wm)), (7, .int (nI fcn)), (8, .int (nI (0 + 1))), (9, .int (nI ms)), (10, .int (nI ((ms + 6) / 7))), (11, .int 1), (12, .int sd), (13, .int (nI mg))] := by rw [show ((nI (0 + 1)) : Int32) = 1 from (by first | exact congrArg nI (by omega) | decide)]; exact lv_sub hl [6, 7, 0, 8, 9, 10, 5, 4, 3, 2, 1] rfl
      exact rest_0_all hL C0 hE hZ hTz (x := x) (nr := nr) (st := st) (lf := lf) (tm := tm) (fcn := fcn) (xl := xl) (cN := cN) (fn := fn) (an := an) (ah := ah) (al := al) (awa := awa) (afr := afr) (awi := awi) (ar := ar) (ae := ae) (as := as) (ai := ai) (ag := ag) (ac := ac) (au := au) (acc := acc) (bn := bn) (bh := bh) (bl := bl) (bwa := bwa) (bfr := bfr) (bwi := bwi) (br := br) (be := be) (bs := bs) (bi := bi) (bg := bg) (bc := bc) (bu := bu) (bcc := bcc) (arh := arh) (arl := arl) (ck := ck_29) (arf := arf) (brh := brh) (brl := brl) (bhp := bhp) (btp := btp) (brf := brf) (f1 := f1) (f2 := f2) (f3 := f3) (y1 := y1) (y2 := y2) (y3 := y3) (g1 := g1) (g2 := g2) (g3 := g3) (ml := ml) (mc := (mc + 1)) (ed := ed_29) (kn := 0) (cO := cO_29) (fe := fe2_29) (ce := ce_29) (cJ := cJ_29) (fE := fE2_29) (mm := mm2_29) (mg := mg) (ms := ms) (sd := sd) (bsnp := bsnp) (bsdo := bsdo) (acT := acT) (afg := afg) (acm := acm) (ace := ace) (bcT := bcT) (bfg := bfg) (bcm := bcm) (lg := lg) (lt := lt) (cL := cL) (fL := fL) (ana := ana) (alg := alg) (alt := alt) (wm := wm) (n := n2) (n0 := n0) (n1 := n1) (ag0_ := ag0_) (ag1_ := ag1_) (ag2_ := ag2_) (bg0_ := bg0_) (bg1_ := bg1_) (bg2_ := bg2_) (hwa := hwa) (hwb := hwb) (hwm := hwm) (hk := ((by omega))) (htm := ((by omega))) (hfc := ((by omega))) (hms := (⟨by omega, by omega⟩)) (hmg := (⟨by omega, by omega⟩)) (hlo := hlo_29) (hhi := hhi_29) (hel := hel_29) (hcs := (⟨by omega, by omega⟩)) (h := hC2) (hK := hKq) (hP := hPq) (hD := hDq) (hS := hS) (hl := hlq)
    · refine lv_iload hx hb dL_law_174 (lv_at hl 5 rfl) ?_
      refine lv_aload_n hx hb dL_law_176 rfl (lv_at hl 0 rfl) ?_
      refine va_slen hx hb hX hbl hbA hS dL_law_177 ?_
      refine W.eq (g2 := F0 m 178 ls [.int (nI L), .int 1]) rfl ?_
      refine lv_icmp_ge (tgt := 597) hx hb dL_law_178 (by decide) (fun c_33 => ?_) (fun c_33 => ?_)
      · exact absurd ((nI_leI (a := L) (b := 1) (by omega) (by omega)).mp c_33) (by omega)
      refine lv_iload hx hb dL_law_181 (lv_at hl 5 rfl) ?_
      refine lv_bipush (v := 8) hx hb dL_law_183 (by decide) ?_
      refine lv_icmp_ge (tgt := 597) hx hb dL_law_185 (by decide) (fun c_34 => ?_) (fun c_34 => ?_)
      · exact absurd c_34 (by decide)
      refine lv_iload hx hb dL_law_188 (lv_at hl 2 rfl) ?_
      refine lv_if_eq (tgt := 597) hx hb dL_law_190 (by decide) (fun c_35 => ?_) (fun c_35 => ?_)
      · exact absurd c_35 (by decide)
      refine lv_bipush (v := 9) hx hb dL_law_193 (by decide) ?_
      refine lv_aload_n hx hb dL_law_195 rfl (lv_at hl 0 rfl) ?_
      refine lv_iload hx hb dL_law_196 (lv_at hl 5 rfl) ?_
      refine va_sld hx hb hX hbl hbA hS (vp_in_nI (n := 1) (by omega) (by omega)) dL_law_198 ?_
      refine W.eq (g2 := F0 m 199 ls [.int (xs 1), .int 9]) (by rw [show Int32.toNatClampNeg 1 = 1 from nI_clamp (n := 1) (by omega)]) ?_
      refine lv_sipush (v := 2047) hx hb dL_law_199 (by decide) ?_
      refine lv_iand hx hb dL_law_202 ?_
      rw [em1]
      refine lv_sipush (v := 1777) hx hb dL_law_203 (by decide) ?_
      refine lv_irem hx hb dL_law_206 (by decide) ?_
      refine lv_topi (fun x_36 ex_36 => ?_)
      obtain rfl : x_36 = (nI (((m1) % 1777))) := ex_36.trans ((pk_rem (a := m1) (d := 1777) (by omega) (by omega) (by omega)).trans (show nI (m1 % 1777) = nI (((m1) % 1777)) from congrArg nI (by omega)))
      refine lv_iadd hx hb dL_law_207 ?_
      refine lv_topi (fun x_37 ex_37 => ?_)
      obtain rfl : x_37 = (nI (((m1) % 1777) + 9)) := ex_37.trans ((nI_add 9 (((m1) % 1777))).trans (show nI (9 + (((m1) % 1777))) = nI (((m1) % 1777) + 9) from congrArg nI (by omega)))
      rw [show nI (((m1) % 1777) + 9) = nI ms from congrArg nI (by omega)]
      refine lv_istore (lv' := [(9, .int (nI ms)), (0, .ref b), (1, .ref x), (5, .int 1), (6, .int (nI wm)), (7, .int (nI fcn)), (8, .int 1)]) hx hb dL_law_208 hl (by decide) rfl (fun ls hl => ?_)
      refine lv_iload hx hb dL_law_210 (lv_at hl 0 rfl) ?_
      refine lv_bipush (v := 6) hx hb dL_law_212 (by decide) ?_
      refine lv_iadd hx hb dL_law_214 ?_
      refine lv_topi (fun x_38 ex_38 => ?_)
      obtain rfl : x_38 = (nI (ms + 6)) := ex_38.trans ((nI_add ms 6).trans (show nI (ms + 6) = nI (ms + 6) from congrArg nI (by omega)))
      refine lv_bipush (v := 7) hx hb dL_law_215 (by decide) ?_
      refine lv_idiv hx hb dL_law_217 (by decide) ?_
      refine lv_topi (fun x_39 ex_39 => ?_)
      obtain rfl : x_39 = (nI (((ms + 6) / 7))) := ex_39.trans ((pk_div (a := (ms + 6)) (d := 7) (by omega) (by omega) (by omega)).trans (show nI ((ms + 6) / 7) = nI (((ms + 6) / 7)) from congrArg nI (by omega)))
      refine lv_istore (lv' := [(10, .int (nI (((ms + 6) / 7)))), (9, .int (nI ms)), (0, .ref b), (1, .ref x), (5, .int 1), (6, .int (nI wm)), (7, .int (nI fcn)), (8, .int 1)]) hx hb dL_law_218 hl (by decide) rfl (fun ls hl => ?_)
      refine lv_aload_n hx hb dL_law_220 rfl (lv_at hl 2 rfl) ?_
      refine lv_iload hx hb dL_law_221 (lv_at hl 7 rfl) ?_
      refine va_sld hx hb hX hbl hbA hS (vp_in_nI (n := 1) (by omega) (by omega)) dL_law_223 ?_
      refine W.eq (g2 := F0 m 224 ls [.int (xs 1)]) (by rw [show Int32.toNatClampNeg 1 = 1 from nI_clamp (n := 1) (by omega)]) ?_
      refine lv_bipush (v := 12) hx hb dL_law_224 (by decide) ?_
      refine lv_ishr hx hb dL_law_226 ?_
      refine lv_iconst (v := 1) hx hb dL_law_227 (by decide) ?_
      refine lv_iand hx hb dL_law_228 ?_
      rw [em2]
      refine lv_iconst (v := 1) hx hb dL_law_229 (by decide) ?_
      refine lv_icmp_ne (tgt := 237) hx hb dL_law_230 (by decide) (fun c_40 => ?_) (fun c_40 => ?_)
      · exact absurd ((nI_eq (a := 1) (b := 1) (by omega) (by omega)).mpr (by omega)) c_40
      refine lv_iconst (v := 1) hx hb dL_law_233 (by decide) ?_
      refine lv_goto (tgt := 238) hx hb dL_law_234 (by decide) ?_
      refine lv_istore (lv' := [(11, .int 1), (10, .int (nI (((ms + 6) / 7)))), (9, .int (nI ms)), (0, .ref b), (1, .ref x), (5, .int 1), (6, .int (nI wm)), (7, .int (nI fcn)), (8, .int 1)]) hx hb dL_law_238 hl (by decide) rfl (fun ls hl => ?_)
      refine lv_aload_n hx hb dL_law_240 rfl (lv_at hl 3 rfl) ?_
      refine lv_iload hx hb dL_law_241 (lv_at hl 8 rfl) ?_
      refine va_sld hx hb hX hbl hbA hS (vp_in_nI (n := 1) (by omega) (by omega)) dL_law_243 ?_
      refine W.eq (g2 := F0 m 244 ls [.int (xs 1)]) (by rw [show Int32.toNatClampNeg 1 = 1 from nI_clamp (n := 1) (by omega)]) ?_
      refine lv_bipush (v := 13) hx hb dL_law_244 (by decide) ?_
      refine lv_ishr hx hb dL_law_246 ?_
      rw [show ((xs 1) >>> ((13 : Int32) &&& 31)) = sd from hsd.symm]
      refine lv_istore (lv' := [(12, .int sd), (11, .int 1), (10, .int (nI (((ms + 6) / 7)))), (9, .int (nI ms)), (0, .ref b), (1, .ref x), (5, .int 1), (6, .int (nI wm)), (7, .int (nI fcn)), (8, .int 1)]) hx hb dL_law_247 hl (by decide) rfl (fun ls hl => ?_)
      refine lv_iload hx hb dL_law_249 (lv_at hl 1 rfl) ?_
      refine lv_if_eq (tgt := 281) hx hb dL_law_251 (by decide) (fun c_41 => ?_) (fun c_41 => ?_)
      · exact absurd c_41 (by decide)
      refine lv_aload_n hx hb dL_law_254 rfl (lv_at hl 4 rfl) ?_
      refine lv_iload hx hb dL_law_255 (lv_at hl 9 rfl) ?_
      refine va_sld hx hb hX hbl hbA hS (vp_in_nI (n := 1) (by omega) (by omega)) dL_law_257 ?_
      refine W.eq (g2 := F0 m 258 ls [.int (xs 1)]) (by rw [show Int32.toNatClampNeg 1 = 1 from nI_clamp (n := 1) (by omega)]) ?_
      refine lv_iconst (v := 1) hx hb dL_law_258 (by decide) ?_
      refine lv_iand hx hb dL_law_259 ?_
      rw [em3]
      refine lv_iconst (v := 1) hx hb dL_law_260 (by decide) ?_
      refine lv_icmp_ne (tgt := 281) hx hb dL_law_261 (by decide) (fun c_42 => ?_) (fun c_42 => ?_)
      · exact absurd ((nI_eq (a := 1) (b := 1) (by omega) (by omega)).mpr (by omega)) c_42
      refine lv_ldc hx hb hown (hts (.constant RL 30 (65280)) (List.mem_of_getElem? (i := 23) rfl)) dL_law_264 ?_
      refine lv_aload_n hx hb dL_law_266 rfl (lv_at hl 4 rfl) ?_
      refine lv_iload hx hb dL_law_267 (lv_at hl 9 rfl) ?_
      refine va_sld hx hb hX hbl hbA hS (vp_in_nI (n := 1) (by omega) (by omega)) dL_law_269 ?_
      refine W.eq (g2 := F0 m 270 ls [.int (xs 1), .int 65280]) (by rw [show Int32.toNatClampNeg 1 = 1 from nI_clamp (n := 1) (by omega)]) ?_
      refine lv_bipush (v := 20) hx hb dL_law_270 (by decide) ?_
      refine lv_ishr hx hb dL_law_272 ?_
      refine lv_sipush (v := 255) hx hb dL_law_273 (by decide) ?_
      refine lv_iand hx hb dL_law_276 ?_
      rw [em4]
      refine lv_iadd hx hb dL_law_277 ?_
      refine lv_topi (fun x_43 ex_43 => ?_)
      obtain rfl : x_43 = (nI (m4 + 65280)) := ex_43.trans ((nI_add 65280 m4).trans (show nI (65280 + m4) = nI (m4 + 65280) from congrArg nI (by omega)))
      refine lv_goto (tgt := 294) hx hb dL_law_278 (by decide) ?_
      obtain ⟨mg, hmg0⟩ : ∃ z : Nat, z = (m4 + 65280) := ⟨_, rfl⟩
      rw [show nI (m4 + 65280) = nI mg from congrArg nI hmg0.symm]
      refine lv_istore (lv' := [(13, .int (nI mg)), (12, .int sd), (11, .int 1), (10, .int (nI (((ms + 6) / 7)))), (9, .int (nI ms)), (0, .ref b), (1, .ref x), (5, .int 1), (6, .int (nI wm)), (7, .int (nI fcn)), (8, .int 1)]) hx hb dL_law_294 hl (by decide) rfl (fun ls hl => ?_)
      refine lv_aload_n hx hb dL_law_296 rfl (lv_at hl 6 rfl) ?_
      refine lv_iconst (v := 0) hx hb dL_law_297 (by decide) ?_
      refine lv_iload hx hb dL_law_298 (lv_at hl 2 rfl) ?_
      refine lv_if_eq (tgt := 309) hx hb dL_law_300 (by decide) (fun c_44 => ?_) (fun c_44 => ?_)
      · exact absurd c_44 (by decide)
      refine lv_sipush (v := 255) hx hb dL_law_303 (by decide) ?_
      refine lv_goto (tgt := 312) hx hb dL_law_306 (by decide) ?_
      refine lv_iload hx hb dL_law_312 (lv_at hl 0 rfl) ?_
      refine lv_iload hx hb dL_law_314 (lv_at hl 4 rfl) ?_
      refine lv_iload hx hb dL_law_316 (lv_at hl 1 rfl) ?_
      have hPc := hP.sub (ws' := [(x, .inr (11, [.ref nr, .ref st, .ref lf, .int 2, .int (nI tm), .int (nI fcn), .int xl, .int 0])), (nr, .inl (cN, 8, .inr (.inr (.inr (.inr fn))))), (an, .inr (5, [.int ah, .int al, .int awa, .int afr, .int (nI awi), .ref ar, .ref ae, .ref as, .ref ai, .ref ag, .ref ac, .ref au, .int 0, .int 2, .int 10, .int (nI acc), .int 0, .int 0])), (ar, .inr (6, [.int arh, .int arl, .ref st, .null, .null, .int ahp, .int atp, .int 0, .int 0, .int 0, .ref arf, .int 0])), (as, .inr (7, [.int 0, .int asnp, .int assdo, .null])), (st, .inr (8, [.ref ml, .null])), (ml, .inr (0, [.int (nI mc), .ref zt, .int 0]))]) [0, 1, 2, 4, 11, 9, 10] rfl
      have hDc := hD.sub (ws' := [(x, .inr (11, [.ref nr, .ref st, .ref lf, .int 2, .int (nI tm), .int (nI fcn), .int xl, .int 0])), (nr, .inl (cN, 8, .inr (.inr (.inr (.inr fn))))), (an, .inr (5, [.int ah, .int al, .int awa, .int afr, .int (nI awi), .ref ar, .ref ae, .ref as, .ref ai, .ref ag, .ref ac, .ref au, .int 0, .int 2, .int 10, .int (nI acc), .int 0, .int 0])), (ar, .inr (6, [.int arh, .int arl, .ref st, .null, .null, .int ahp, .int atp, .int 0, .int 0, .int 0, .ref arf, .int 0])), (as, .inr (7, [.int 0, .int asnp, .int assdo, .null])), (st, .inr (8, [.ref ml, .null])), (ml, .inr (0, [.int (nI mc), .ref zt, .int 0]))]) [0, 1, 2, 4, 11, 9, 10] (by decide +kernel) rfl
      have hKc := hK.sub (tys' := [(cN, (.object RX4))]) [0] rfl
      have hFc := va_free (wc := [(x, .inr (11, [.ref nr, .ref st, .ref lf, .int 2, .int (nI tm), .int (nI fcn), .int xl, .int 0])), (nr, .inl (cN, 8, .inr (.inr (.inr (.inr fn))))), (an, .inr (5, [.int ah, .int al, .int awa, .int afr, .int (nI awi), .ref ar, .ref ae, .ref as, .ref ai, .ref ag, .ref ac, .ref au, .int 0, .int 2, .int 10, .int (nI acc), .int 0, .int 0])), (ar, .inr (6, [.int arh, .int arl, .ref st, .null, .null, .int ahp, .int atp, .int 0, .int 0, .int 0, .ref arf, .int 0])), (as, .inr (7, [.int 0, .int asnp, .int assdo, .null])), (st, .inr (8, [.ref ml, .null])), (ml, .inr (0, [.int (nI mc), .ref zt, .int 0]))]) hD hS hA [0, 1, 2, 4, 11, 9, 10] rfl
      have hZc := (hZ.kept hS.2.1).narrow (fun q h => hFc q h)
      have hTc := (hTz.kept hS.2.1).narrow (fun q h => hFc q h)
      refine va_calli (va_runV (As := [.int 0, .int 255, .int (nI mg), .int (nI ms), .int sd]) (rest := []) ⟨hx, hb, hml, hown, hts⟩ (c_send_far0 l dC dI (zt) (x) (nr) (st) (lf) (tm) (fcn) (xl) (cN) (fn) (an) (ah) (al) (awa) (afr) (awi) (ar) (ae) (as) (ai) (ag) (ac) (au) (acc) (arh) (arl) (arf) (ahp) (atp) (asnp) (assdo) (ml) (mc) (mg) (ms) (sd) H.size n0 (by omega) (by omega) (by omega) (by omega) hwa) (cwV 5 hts g_law_c_send_far0_31 rfl rfl rfl (by decide +kernel) ⟨Nat.le_of_ble_eq_true rfl, Nat.le_of_ble_eq_true rfl⟩) ⟨fun a U g mk q => by obtain ⟨q0, q1, qP, qK, qD, qE, qZ, qT⟩ := q; exact ⟨q0, q1, qP, va_K.moved (u := U) (U := U.calling g mk a) (Vm.Alike.refl U.vm) qK, qD, ev.same (u := U) (U := U.calling g mk a) rfl qE, va_Z.moved (u := U) (U := U.calling g mk a) (Vm.Alike.refl U.vm) qZ, va_T.moved (u := U) (U := U.calling g mk a) (Vm.Alike.refl U.vm) qT⟩, va_recv hKc hPc (ci := 11) (q0 := 0) rfl rfl, fun U hU hW => ⟨rfl, by rw [hU], by rw [hU]; exact hPc, va_K.moved hW.alike hKc, hDc.weaken (fun _ _ _ _ => trivial), hE.warm hW, by rw [hU]; exact hZc.moved hW.alike, by rw [hU]; exact hTc.moved hW.alike⟩⟩ rfl rfl hl.1 rfl (lv_room (Nat.le_of_ble_eq_true rfl)) dL_law_318 ⟨show _ ≤ 600000 from by omega, show _ ≤ 7302250 from by omega⟩) hS (fun q _ h => hFc q h) hFc (fun r_45 u t H1 locs ht hvm hw hB hz1 hk1 hS => ?_)
      clear hPc hDc hKc
      obtain ⟨mm2_45, fE2_45, fe2_45, ck_45, ce_45, cJ_45, ed_45, cO_45, hP1, hK1, hD1, hlo_45, hhi_45, hel_45⟩ := hB
      rw [ht] at hP1
      have hK1 := va_K.moved hvm.symm hK1
      obtain ⟨hP, hD⟩ := va_join (wr := [(bn, .inr (5, [.int bh, .int bl, .int bwa, .int bfr, .int (nI bwi), .ref br, .ref be, .ref bs, .ref bi, .ref bg, .ref bc, .ref bu, .int 0, .int 2, .int 200, .int (nI bcc), .int 0, .int 0])), (br, .inr (6, [.int brh, .int brl, .ref st, .null, .null, .int bhp, .int btp, .int 0, .int 0, .int 0, .ref brf, .int 0])), (arf, .inr (2, [.int f1, .int f2, .int f3, .null])), (brf, .inr (2, [.int y1, .int y2, .int y3, .null])), (lf, .inr (2, [.int g1, .int g2, .int g3, .null])), (bs, .inr (7, [.int 0, .int bsnp, .int bsdo, .null])), (ag, .inl (acT, 3, .inr (.inr (.inr (.inr afg))))), (ac, .inr (0, [.int (nI acm), .ref ace, .int 0])), (bg, .inl (bcT, 3, .inr (.inr (.inr (.inr bfg))))), (bc, .inr (0, [.int (nI bcm), .ref zt, .int 0])), (bi, .inr (3, [.int 0, .int 0, .ref lg, .ref lt])), (lg, .inl (cL, 80, .inl fL)), (ai, .inr (3, [.int ana, .int 0, .ref alg, .ref alt]))]) (w1 := [(x, .inr (11, [.ref nr, .ref st, .ref lf, .int 2, .int (nI tm), .int (nI fcn), .int xl, .int 0])), (nr, .inl (cN, 8, .inr (.inr (.inr (.inr fn))))), (an, .inr (5, [.int ah, .int al, .int awa, .int afr, .int (nI awi), .ref ar, .ref ae, .ref as, .ref ai, .ref ag, .ref ac, .ref au, .int 0, .int 2, .int 10, .int (nI acc), .int 0, .int 0])), (ar, .inr (6, [.int arh, .int arl, .ref st, .ref ck_45, .ref ck_45, .int 0, .int 1, .int 1, .int 0, .int 0, .ref arf, .int 0])), (as, .inr (7, [.int 1, .int 1, .int (nI (tm + 50)), .ref mm2_45])), (st, .inr (8, [.ref ml, .null])), (ml, .inr (0, [.int (nI (mc + 1)), .ref ed_45, .int 1])), (ed_45, .inl (cO_45, 10, .inr (.inr (.inr (.inr fe2_45))))), (ck_45, .inr (1, [.ref ce_45, .null])), (ce_45, .inl (cJ_45, 128, .inr (.inl fE2_45))), (mm2_45, .inr (4, [.int 0, .int 255, .int (nI mg), .int (nI ms), .int sd, .null]))]) hP hD [0, 1, 2, 4, 11, 9, 10] [3, 5, 6, 7, 8, 12, 13, 14, 15, 16, 17, 18, 19] rfl rfl (by decide +kernel) (by decide +kernel) hk1 hFc hP1 hD1
      replace hK := hK.app hK1
      replace hK : va_K (dC, dI) vwCl [(cN, (.object RX4)), (acT, (.object RX9)), (bcT, (.object RX9)), (cL, .int), (cN, (.object RX4)), (cO_45, (.object "java/lang/Object")), (cJ_45, .long)] s := hK
      generalize H1 = H at hP hS ⊢
      replace hP : va_P (dC, dI) vwCl [(bn, .inr (5, [.int bh, .int bl, .int bwa, .int bfr, .int (nI bwi), .ref br, .ref be, .ref bs, .ref bi, .ref bg, .ref bc, .ref bu, .int 0, .int 2, .int 200, .int (nI bcc), .int 0, .int 0])), (br, .inr (6, [.int brh, .int brl, .ref st, .null, .null, .int bhp, .int btp, .int 0, .int 0, .int 0, .ref brf, .int 0])), (arf, .inr (2, [.int f1, .int f2, .int f3, .null])), (brf, .inr (2, [.int y1, .int y2, .int y3, .null])), (lf, .inr (2, [.int g1, .int g2, .int g3, .null])), (bs, .inr (7, [.int 0, .int bsnp, .int bsdo, .null])), (ag, .inl (acT, 3, .inr (.inr (.inr (.inr afg))))), (ac, .inr (0, [.int (nI acm), .ref ace, .int 0])), (bg, .inl (bcT, 3, .inr (.inr (.inr (.inr bfg))))), (bc, .inr (0, [.int (nI bcm), .ref zt, .int 0])), (bi, .inr (3, [.int 0, .int 0, .ref lg, .ref lt])), (lg, .inl (cL, 80, .inl fL)), (ai, .inr (3, [.int ana, .int 0, .ref alg, .ref alt])), (x, .inr (11, [.ref nr, .ref st, .ref lf, .int 2, .int (nI tm), .int (nI fcn), .int xl, .int 0])), (nr, .inl (cN, 8, .inr (.inr (.inr (.inr fn))))), (an, .inr (5, [.int ah, .int al, .int awa, .int afr, .int (nI awi), .ref ar, .ref ae, .ref as, .ref ai, .ref ag, .ref ac, .ref au, .int 0, .int 2, .int 10, .int (nI acc), .int 0, .int 0])), (ar, .inr (6, [.int arh, .int arl, .ref st, .ref ck_45, .ref ck_45, .int 0, .int 1, .int 1, .int 0, .int 0, .ref arf, .int 0])), (as, .inr (7, [.int 1, .int 1, .int (nI (tm + 50)), .ref mm2_45])), (st, .inr (8, [.ref ml, .null])), (ml, .inr (0, [.int (nI (mc + 1)), .ref ed_45, .int 1])), (ed_45, .inl (cO_45, 10, .inr (.inr (.inr (.inr fe2_45))))), (ck_45, .inr (1, [.ref ce_45, .null])), (ce_45, .inl (cJ_45, 128, .inr (.inl fE2_45))), (mm2_45, .inr (4, [.int 0, .int 255, .int (nI mg), .int (nI ms), .int sd, .null]))] H := hP
      replace hD : va_D (fun q : Nat => s.heap.size ≤ q) [(bn, .inr (5, [.int bh, .int bl, .int bwa, .int bfr, .int (nI bwi), .ref br, .ref be, .ref bs, .ref bi, .ref bg, .ref bc, .ref bu, .int 0, .int 2, .int 200, .int (nI bcc), .int 0, .int 0])), (br, .inr (6, [.int brh, .int brl, .ref st, .null, .null, .int bhp, .int btp, .int 0, .int 0, .int 0, .ref brf, .int 0])), (arf, .inr (2, [.int f1, .int f2, .int f3, .null])), (brf, .inr (2, [.int y1, .int y2, .int y3, .null])), (lf, .inr (2, [.int g1, .int g2, .int g3, .null])), (bs, .inr (7, [.int 0, .int bsnp, .int bsdo, .null])), (ag, .inl (acT, 3, .inr (.inr (.inr (.inr afg))))), (ac, .inr (0, [.int (nI acm), .ref ace, .int 0])), (bg, .inl (bcT, 3, .inr (.inr (.inr (.inr bfg))))), (bc, .inr (0, [.int (nI bcm), .ref zt, .int 0])), (bi, .inr (3, [.int 0, .int 0, .ref lg, .ref lt])), (lg, .inl (cL, 80, .inl fL)), (ai, .inr (3, [.int ana, .int 0, .ref alg, .ref alt])), (x, .inr (11, [.ref nr, .ref st, .ref lf, .int 2, .int (nI tm), .int (nI fcn), .int xl, .int 0])), (nr, .inl (cN, 8, .inr (.inr (.inr (.inr fn))))), (an, .inr (5, [.int ah, .int al, .int awa, .int afr, .int (nI awi), .ref ar, .ref ae, .ref as, .ref ai, .ref ag, .ref ac, .ref au, .int 0, .int 2, .int 10, .int (nI acc), .int 0, .int 0])), (ar, .inr (6, [.int arh, .int arl, .ref st, .ref ck_45, .ref ck_45, .int 0, .int 1, .int 1, .int 0, .int 0, .ref arf, .int 0])), (as, .inr (7, [.int 1, .int 1, .int (nI (tm + 50)), .ref mm2_45])), (st, .inr (8, [.ref ml, .null])), (ml, .inr (0, [.int (nI (mc + 1)), .ref ed_45, .int 1])), (ed_45, .inl (cO_45, 10, .inr (.inr (.inr (.inr fe2_45))))), (ck_45, .inr (1, [.ref ce_45, .null])), (ce_45, .inl (cJ_45, 128, .inr (.inl fE2_45))), (mm2_45, .inr (4, [.int 0, .int 255, .int (nI mg), .int (nI ms), .int sd, .null]))] := hD
      have hw := hw.symm
      subst hw
      refine lv_if_eq (tgt := 345) hx hb dL_law_321 (by decide) (fun c_46 => ?_) (fun c_46 => ?_)
      · exact absurd c_46 (by decide)
      refine lv_aload_n hx hb dL_law_324 rfl (lv_at hl 6 rfl) ?_
      refine lv_iconst (v := 0) hx hb dL_law_325 (by decide) ?_
      refine lv_sipush (v := 255) hx hb dL_law_326 (by decide) ?_
      refine lv_iload hx hb dL_law_329 (lv_at hl 0 rfl) ?_
      refine lv_iload hx hb dL_law_331 (lv_at hl 4 rfl) ?_
      refine lv_iload hx hb dL_law_333 (lv_at hl 1 rfl) ?_
      have hPc := hP.sub (ws' := [(x, .inr (11, [.ref nr, .ref st, .ref lf, .int 2, .int (nI tm), .int (nI fcn), .int xl, .int 0])), (nr, .inl (cN, 8, .inr (.inr (.inr (.inr fn))))), (an, .inr (5, [.int ah, .int al, .int awa, .int afr, .int (nI awi), .ref ar, .ref ae, .ref as, .ref ai, .ref ag, .ref ac, .ref au, .int 0, .int 2, .int 10, .int (nI acc), .int 0, .int 0])), (as, .inr (7, [.int 1, .int 1, .int (nI (tm + 50)), .ref mm2_45]))]) [13, 14, 15, 17] rfl
      have hDc := hD.sub (ws' := [(x, .inr (11, [.ref nr, .ref st, .ref lf, .int 2, .int (nI tm), .int (nI fcn), .int xl, .int 0])), (nr, .inl (cN, 8, .inr (.inr (.inr (.inr fn))))), (an, .inr (5, [.int ah, .int al, .int awa, .int afr, .int (nI awi), .ref ar, .ref ae, .ref as, .ref ai, .ref ag, .ref ac, .ref au, .int 0, .int 2, .int 10, .int (nI acc), .int 0, .int 0])), (as, .inr (7, [.int 1, .int 1, .int (nI (tm + 50)), .ref mm2_45]))]) [13, 14, 15, 17] (by decide +kernel) rfl
      have hKc := hK.sub (tys' := [(cN, (.object RX4))]) [0] rfl
      have hFc := ro_free hS hA
      refine va_calli (va_runV (As := [.int 0, .int 255, .int (nI mg), .int (nI ms), .int sd]) (rest := []) ⟨hx, hb, hml, hown, hts⟩ (c_send_no l dC dI (x) (nr) (st) (lf) (tm) (fcn) (xl) (cN) (fn) (an) (ah) (al) (awa) (afr) (awi) (ar) (ae) (as) (ai) (ag) (ac) (au) (acc) (1) ((tm + 50)) (mm2_45) (255) ((nI mg)) ((nI ms)) (sd) H.size n0) (cwV 5 hts g_law_c_send_no_31 rfl rfl rfl (by decide +kernel) ⟨Nat.le_of_ble_eq_true rfl, Nat.le_of_ble_eq_true rfl⟩) ⟨fun a U g mk q => by obtain ⟨q0, q1, qP, qK, qD, qE⟩ := q; exact ⟨q0, q1, qP, va_K.moved (u := U) (U := U.calling g mk a) (Vm.Alike.refl U.vm) qK, qD, ev.same (u := U) (U := U.calling g mk a) rfl qE⟩, va_recv hKc hPc (ci := 11) (q0 := 0) rfl rfl, fun U hU hW => ⟨rfl, by rw [hU], by rw [hU]; exact hPc, va_K.moved hW.alike hKc, hDc.weaken (fun _ _ _ _ => trivial), hE.warm hW⟩⟩ rfl rfl hl.1 rfl (lv_room (Nat.le_of_ble_eq_true rfl)) dL_law_335 ⟨show _ ≤ 600000 from by omega, show _ ≤ 7302250 from by omega⟩) hS (fun q _ h => hFc q h) hFc (fun r_47 u t H1 locs ht hvm hw hB hz1 hk1 hS => ?_)
      clear hPc hDc hKc
      replace hP := ro_keep hP hk1
      generalize H1 = H at hP hS ⊢
      replace hP : va_P (dC, dI) vwCl [(bn, .inr (5, [.int bh, .int bl, .int bwa, .int bfr, .int (nI bwi), .ref br, .ref be, .ref bs, .ref bi, .ref bg, .ref bc, .ref bu, .int 0, .int 2, .int 200, .int (nI bcc), .int 0, .int 0])), (br, .inr (6, [.int brh, .int brl, .ref st, .null, .null, .int bhp, .int btp, .int 0, .int 0, .int 0, .ref brf, .int 0])), (arf, .inr (2, [.int f1, .int f2, .int f3, .null])), (brf, .inr (2, [.int y1, .int y2, .int y3, .null])), (lf, .inr (2, [.int g1, .int g2, .int g3, .null])), (bs, .inr (7, [.int 0, .int bsnp, .int bsdo, .null])), (ag, .inl (acT, 3, .inr (.inr (.inr (.inr afg))))), (ac, .inr (0, [.int (nI acm), .ref ace, .int 0])), (bg, .inl (bcT, 3, .inr (.inr (.inr (.inr bfg))))), (bc, .inr (0, [.int (nI bcm), .ref zt, .int 0])), (bi, .inr (3, [.int 0, .int 0, .ref lg, .ref lt])), (lg, .inl (cL, 80, .inl fL)), (ai, .inr (3, [.int ana, .int 0, .ref alg, .ref alt])), (x, .inr (11, [.ref nr, .ref st, .ref lf, .int 2, .int (nI tm), .int (nI fcn), .int xl, .int 0])), (nr, .inl (cN, 8, .inr (.inr (.inr (.inr fn))))), (an, .inr (5, [.int ah, .int al, .int awa, .int afr, .int (nI awi), .ref ar, .ref ae, .ref as, .ref ai, .ref ag, .ref ac, .ref au, .int 0, .int 2, .int 10, .int (nI acc), .int 0, .int 0])), (ar, .inr (6, [.int arh, .int arl, .ref st, .ref ck_45, .ref ck_45, .int 0, .int 1, .int 1, .int 0, .int 0, .ref arf, .int 0])), (as, .inr (7, [.int 1, .int 1, .int (nI (tm + 50)), .ref mm2_45])), (st, .inr (8, [.ref ml, .null])), (ml, .inr (0, [.int (nI (mc + 1)), .ref ed_45, .int 1])), (ed_45, .inl (cO_45, 10, .inr (.inr (.inr (.inr fe2_45))))), (ck_45, .inr (1, [.ref ce_45, .null])), (ce_45, .inl (cJ_45, 128, .inr (.inl fE2_45))), (mm2_45, .inr (4, [.int 0, .int 255, .int (nI mg), .int (nI ms), .int sd, .null]))] H := hP
      have hw := hw.symm
      subst hw
      refine lv_if_ne (tgt := 345) hx hb dL_law_338 (by decide) (fun c_48 => ?_) (fun c_48 => ?_)
      · exact absurd c_48 (by decide)
      refine lv_iconst (v := 1) hx hb dL_law_341 (by decide) ?_
      refine lv_goto (tgt := 346) hx hb dL_law_342 (by decide) ?_
      refine lv_istore (lv' := [(5, .int 1), (13, .int (nI mg)), (12, .int sd), (11, .int 1), (10, .int (nI (((ms + 6) / 7)))), (9, .int (nI ms)), (0, .ref b), (1, .ref x), (6, .int (nI wm)), (7, .int (nI fcn)), (8, .int 1)]) hx hb dL_law_346 hl (by decide) rfl (fun ls hl => ?_)
      have hPq := hP.sub (ws' := [(x, .inr (11, [.ref nr, .ref st, .ref lf, .int 2, .int (nI tm), .int (nI fcn), .int xl, .int 0])), (nr, .inl (cN, 8, .inr (.inr (.inr (.inr fn))))), (an, .inr (5, [.int ah, .int al, .int awa, .int afr, .int (nI awi), .ref ar, .ref ae, .ref as, .ref ai, .ref ag, .ref ac, .ref au, .int 0, .int 2, .int 10, .int (nI acc), .int 0, .int 0])), (bn, .inr (5, [.int bh, .int bl, .int bwa, .int bfr, .int (nI bwi), .ref br, .ref be, .ref bs, .ref bi, .ref bg, .ref bc, .ref bu, .int 0, .int 2, .int 200, .int (nI bcc), .int 0, .int 0])), (ar, .inr (6, [.int arh, .int arl, .ref st, .ref ck_45, .ref ck_45, .int 0, .int 1, .int 1, .int 0, .int 0, .ref arf, .int 0])), (br, .inr (6, [.int brh, .int brl, .ref st, .null, .null, .int bhp, .int btp, .int 0, .int 0, .int 0, .ref brf, .int 0])), (arf, .inr (2, [.int f1, .int f2, .int f3, .null])), (brf, .inr (2, [.int y1, .int y2, .int y3, .null])), (lf, .inr (2, [.int g1, .int g2, .int g3, .null])), (st, .inr (8, [.ref ml, .null])), (ml, .inr (0, [.int (nI (mc + 1)), .ref ed_45, .int (nI (0 + 1))])), (ed_45, .inl (cO_45, 10, .inr (.inr (.inr (.inr fe2_45))))), (ck_45, .inr (1, [.ref ce_45, .null])), (ce_45, .inl (cJ_45, 128, .inr (.inl fE2_45))), (mm2_45, .inr (4, [.int (nI 0), .int 255, .int (nI mg), .int (nI ms), .int sd, .null])), (as, .inr (7, [.int 1, .int 1, .int (nI (tm + 50)), .ref mm2_45])), (bs, .inr (7, [.int 0, .int bsnp, .int bsdo, .null])), (ag, .inl (acT, 3, .inr (.inr (.inr (.inr afg))))), (ac, .inr (0, [.int (nI acm), .ref ace, .int 0])), (bg, .inl (bcT, 3, .inr (.inr (.inr (.inr bfg))))), (bc, .inr (0, [.int (nI bcm), .ref zt, .int 0])), (bi, .inr (3, [.int (nI 0), .int 0, .ref lg, .ref lt])), (lg, .inl (cL, 80, .inl fL)), (ai, .inr (3, [.int ana, .int 0, .ref alg, .ref alt]))]) [13, 14, 15, 0, 16, 1, 2, 3, 4, 18, 19, 20, 21, 22, 23, 17, 5, 6, 7, 8, 9, 10, 11, 12] rfl
      have hDq := hD.sub (ws' := [(x, .inr (11, [.ref nr, .ref st, .ref lf, .int 2, .int (nI tm), .int (nI fcn), .int xl, .int 0])), (nr, .inl (cN, 8, .inr (.inr (.inr (.inr fn))))), (an, .inr (5, [.int ah, .int al, .int awa, .int afr, .int (nI awi), .ref ar, .ref ae, .ref as, .ref ai, .ref ag, .ref ac, .ref au, .int 0, .int 2, .int 10, .int (nI acc), .int 0, .int 0])), (bn, .inr (5, [.int bh, .int bl, .int bwa, .int bfr, .int (nI bwi), .ref br, .ref be, .ref bs, .ref bi, .ref bg, .ref bc, .ref bu, .int 0, .int 2, .int 200, .int (nI bcc), .int 0, .int 0])), (ar, .inr (6, [.int arh, .int arl, .ref st, .ref ck_45, .ref ck_45, .int 0, .int 1, .int 1, .int 0, .int 0, .ref arf, .int 0])), (br, .inr (6, [.int brh, .int brl, .ref st, .null, .null, .int bhp, .int btp, .int 0, .int 0, .int 0, .ref brf, .int 0])), (arf, .inr (2, [.int f1, .int f2, .int f3, .null])), (brf, .inr (2, [.int y1, .int y2, .int y3, .null])), (lf, .inr (2, [.int g1, .int g2, .int g3, .null])), (st, .inr (8, [.ref ml, .null])), (ml, .inr (0, [.int (nI (mc + 1)), .ref ed_45, .int (nI (0 + 1))])), (ed_45, .inl (cO_45, 10, .inr (.inr (.inr (.inr fe2_45))))), (ck_45, .inr (1, [.ref ce_45, .null])), (ce_45, .inl (cJ_45, 128, .inr (.inl fE2_45))), (mm2_45, .inr (4, [.int (nI 0), .int 255, .int (nI mg), .int (nI ms), .int sd, .null])), (as, .inr (7, [.int 1, .int 1, .int (nI (tm + 50)), .ref mm2_45])), (bs, .inr (7, [.int 0, .int bsnp, .int bsdo, .null])), (ag, .inl (acT, 3, .inr (.inr (.inr (.inr afg))))), (ac, .inr (0, [.int (nI acm), .ref ace, .int 0])), (bg, .inl (bcT, 3, .inr (.inr (.inr (.inr bfg))))), (bc, .inr (0, [.int (nI bcm), .ref zt, .int 0])), (bi, .inr (3, [.int (nI 0), .int 0, .ref lg, .ref lt])), (lg, .inl (cL, 80, .inl fL)), (ai, .inr (3, [.int ana, .int 0, .ref alg, .ref alt]))]) [13, 14, 15, 0, 16, 1, 2, 3, 4, 18, 19, 20, 21, 22, 23, 17, 5, 6, 7, 8, 9, 10, 11, 12] (by decide +kernel) rfl
      have hKq := hK.sub (tys' := [(cN, (.object RX4)), (cO_45, (.object "java/lang/Object")), (cJ_45, .long), (acT, (.object RX9)), (bcT, (.object RX9)), (cL, .int)]) [0, 5, 6, 1, 2, 3] rfl
      have hlq : lv_has ls 19 [(0, .ref b), (1, .ref x), (5, .int 1), (6, .int (nI wm)), (7, .int (nI fcn)), (8, .int (nI (0 + 1))), (9, .int (nI ms)), (10, .int (nI ((ms + 6) / 7))), (11, .int 1), (12, .int sd), (13, .int (nI mg))] := by rw [show ((nI (0 + 1)) : Int32) = 1 from (by first | exact congrArg nI (by omega) | decide)]; exact lv_sub hl [6, 7, 0, 8, 9, 10, 5, 4, 3, 2, 1] rfl
      exact rest_0_all hL C0 hE hZ hTz (x := x) (nr := nr) (st := st) (lf := lf) (tm := tm) (fcn := fcn) (xl := xl) (cN := cN) (fn := fn) (an := an) (ah := ah) (al := al) (awa := awa) (afr := afr) (awi := awi) (ar := ar) (ae := ae) (as := as) (ai := ai) (ag := ag) (ac := ac) (au := au) (acc := acc) (bn := bn) (bh := bh) (bl := bl) (bwa := bwa) (bfr := bfr) (bwi := bwi) (br := br) (be := be) (bs := bs) (bi := bi) (bg := bg) (bc := bc) (bu := bu) (bcc := bcc) (arh := arh) (arl := arl) (ck := ck_45) (arf := arf) (brh := brh) (brl := brl) (bhp := bhp) (btp := btp) (brf := brf) (f1 := f1) (f2 := f2) (f3 := f3) (y1 := y1) (y2 := y2) (y3 := y3) (g1 := g1) (g2 := g2) (g3 := g3) (ml := ml) (mc := (mc + 1)) (ed := ed_45) (kn := 0) (cO := cO_45) (fe := fe2_45) (ce := ce_45) (cJ := cJ_45) (fE := fE2_45) (mm := mm2_45) (mg := mg) (ms := ms) (sd := sd) (bsnp := bsnp) (bsdo := bsdo) (acT := acT) (afg := afg) (acm := acm) (ace := ace) (bcT := bcT) (bfg := bfg) (bcm := bcm) (lg := lg) (lt := lt) (cL := cL) (fL := fL) (ana := ana) (alg := alg) (alt := alt) (wm := wm) (n := n2) (n0 := n0) (n1 := n1) (ag0_ := ag0_) (ag1_ := ag1_) (ag2_ := ag2_) (bg0_ := bg0_) (bg1_ := bg1_) (bg2_ := bg2_) (hwa := hwa) (hwb := hwb) (hwm := hwm) (hk := ((by omega))) (htm := ((by omega))) (hfc := ((by omega))) (hms := (⟨by omega, by omega⟩)) (hmg := (⟨by omega, by omega⟩)) (hlo := hlo_45) (hhi := hhi_45) (hel := hel_45) (hcs := (⟨by omega, by omega⟩)) (h := hC2) (hK := hKq) (hP := hPq) (hD := hDq) (hS := hS) (hl := hlq)
