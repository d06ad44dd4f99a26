theorem q_ex (x : Int32) : ∃ n : Nat, x = nI n := by
  refine ⟨x.toBitVec.toNat, ?_⟩
  apply Int32.toBitVec_inj.mp
  apply BitVec.eq_of_toNat_eq
  rw [pk_tn x.toBitVec.isLt]
/-- clearings that so many packets want -/
def cwq (w L : Nat) : Nat := (L + w - 1) / w
theorem cwq_0 {w : Nat} (hu : 1 ≤ w) : cwq w 0 = 0 := Nat.div_eq_of_lt (by omega)
theorem cwq_t {w L M : Nat} (hu : 1 ≤ w) (hL : 1 ≤ L) (hM : M = L - min w L) : cwq w L = 1 + cwq w M := by
  subst hM
  unfold cwq
  by_cases h : w ≤ L
  · rw [Nat.min_eq_left h, show L + w - 1 = (L - w + w - 1) + w from by omega, Nat.add_div_right _ (by omega)]
    exact Nat.add_comm _ _
  · rw [Nat.min_eq_right (by omega), Nat.sub_self, show L + w - 1 = (L - 1) + w from by omega, Nat.add_div_right _ (by omega), Nat.div_eq_of_lt (show L - 1 < w by omega), Nat.div_eq_of_lt (show 0 + w - 1 < w by omega)]
theorem cwq_le {w : Nat} (hu : 1 ≤ w) (L : Nat) : cwq w L ≤ L := by
  induction L using Nat.strongRecOn with
  | ind L ih =>
    rcases Nat.eq_zero_or_pos L with h | h
    · rw [h, cwq_0 hu]
      exact Nat.le_refl _
    · have h1 := ih (L - min w L) (by omega)
      rw [cwq_t hu h rfl]
      omega

def PI1 (bwi : Nat) (awi : Nat) (ms : Nat) (mg : Nat) (nc : Nat) (mi : Nat) (sd : Int32) (ck : Nat) (tm : Nat) (va : Value) (vb : Value) (vu : Value) (vw : Value) (qaf : Int32) (qag : Int32) (qbf : Int32) (qbg : Int32) (zst : Int32) (zdu : Int32) (top : Int32) (tex : Int32) (tct : Int32) (tlh : Int32) (tsu : Int32) (nca : Int32) (fE : Nat → Int64) (fL : Nat → Int32) (r : Nat) : Prop := ∃ e1 mn tl sdu : Nat, va = .null ∧ qaf = 0 ∧ qag = 0 ∧ vb = .ref ck ∧ qbf = 1 ∧ qbg = 0 ∧ vu = .null ∧ zst = 1 ∧ zdu = (nI sdu) ∧ top = 1 ∧ tex = (nI (e1 + 1)) ∧ tct = (nI (e1 + mn)) ∧ tlh = (nI tl) ∧ nca = (nI nc) ∧ (vw = .null ∨ ∃ hu : Nat, vw = .ref hu) ∧ (tsu = sm sd ms (7 * e1)) ∧ ((fE 0).toInt32 = (nI (16777216 * 10 + 65536 * 17 + 256 * mn + (e1 + 1)))) ∧ ((fE 0 >>> ((32 : Int32).toInt64 &&& 63)).toInt32 = (nI mi)) ∧ (mn = min (min bwi awi) ((ms + 6) / 7 - e1) ∧ e1 < (ms + 6) / 7 ∧ tl = tm ∧ tm + 1200 ≤ sdu ∧ sdu ≤ tm + 1250 ∧ r = ((ms + 6) / 7 - e1) + cwq (min bwi awi) ((ms + 6) / 7 - e1) + 1)
def PI2 (bwi : Nat) (awi : Nat) (ms : Nat) (mg : Nat) (nc : Nat) (mi : Nat) (sd : Int32) (ck : Nat) (tm : Nat) (va : Value) (vb : Value) (vu : Value) (vw : Value) (qaf : Int32) (qag : Int32) (qbf : Int32) (qbg : Int32) (zst : Int32) (zdu : Int32) (top : Int32) (tex : Int32) (tct : Int32) (tlh : Int32) (tsu : Int32) (nca : Int32) (fE : Nat → Int64) (fL : Nat → Int32) (r : Nat) : Prop := ∃ se th ng nf e1 tc tl sdu : Nat, va = .ref ck ∧ qaf = (nI nf) ∧ qag = (nI ng) ∧ vb = .null ∧ qbf = 0 ∧ qbg = 0 ∧ vu = .null ∧ zst = 1 ∧ zdu = (nI sdu) ∧ top = 1 ∧ tex = (nI (e1 + 1)) ∧ tct = (nI tc) ∧ tlh = (nI tl) ∧ nca = (nI nc) ∧ (∃ hu : Nat, vw = .ref hu) ∧ (tsu = sm sd ms (7 * e1)) ∧ ((fE 0).toInt32 = (nI (16777216 * 200 + 65536 * 235 + 256 * se + th))) ∧ ((fE 0 >>> ((32 : Int32).toInt64 &&& 63)).toInt32 = (nI mi)) ∧ (se ≤ 16 ∧ 1 ≤ nf ∧ nf + ng = se ∧ th + ng = e1 + 1 ∧ tc + 1 = th + se ∧ tc ≤ (ms + 6) / 7 ∧ tl ≤ tm ∧ tm ≤ tl + 1 ∧ sdu + ng = tm + 1250 ∧ r = nf + ((ms + 6) / 7 - tc) + cwq (min bwi awi) ((ms + 6) / 7 - tc) + 1)
def PI3 (bwi : Nat) (awi : Nat) (ms : Nat) (mg : Nat) (nc : Nat) (mi : Nat) (sd : Int32) (ck : Nat) (tm : Nat) (va : Value) (vb : Value) (vu : Value) (vw : Value) (qaf : Int32) (qag : Int32) (qbf : Int32) (qbg : Int32) (zst : Int32) (zdu : Int32) (top : Int32) (tex : Int32) (tct : Int32) (tlh : Int32) (tsu : Int32) (nca : Int32) (fE : Nat → Int64) (fL : Nat → Int32) (r : Nat) : Prop := ∃ sdu : Nat, va = .null ∧ qaf = 0 ∧ qag = 0 ∧ vb = .ref ck ∧ qbf = 1 ∧ qbg = 0 ∧ vu = .null ∧ zst = 1 ∧ zdu = (nI sdu) ∧ top = 0 ∧ nca = (nI (nc + 1)) ∧ (∃ hu : Nat, vw = .ref hu) ∧ (fL (4 * nc) = 10) ∧ (fL (4 * nc + 1) = (nI mg)) ∧ (fL (4 * nc + 2) = (nI ms)) ∧ (fL (4 * nc + 3) = sm sd ms ms) ∧ ((fE 0).toInt32 = (nI (16777216 * 10 + 65536 * 19 + 256 * 255 + 0))) ∧ ((fE 0 >>> ((32 : Int32).toInt64 &&& 63)).toInt32 = (nI mi)) ∧ (tm + 1200 ≤ sdu ∧ sdu ≤ tm + 1250 ∧ r = 1)
def PI4 (bwi : Nat) (awi : Nat) (ms : Nat) (mg : Nat) (nc : Nat) (mi : Nat) (sd : Int32) (ck : Nat) (tm : Nat) (va : Value) (vb : Value) (vu : Value) (vw : Value) (qaf : Int32) (qag : Int32) (qbf : Int32) (qbg : Int32) (zst : Int32) (zdu : Int32) (top : Int32) (tex : Int32) (tct : Int32) (tlh : Int32) (tsu : Int32) (nca : Int32) (fE : Nat → Int64) (fL : Nat → Int32) (r : Nat) : Prop := va = .null ∧ qaf = 0 ∧ qag = 0 ∧ vb = .null ∧ qbf = 0 ∧ qbg = 0 ∧ vu = .ref ck ∧ zst = 2 ∧ top = 0 ∧ nca = (nI (nc + 1)) ∧ (∃ hu : Nat, vw = .ref hu) ∧ (fL (4 * nc) = 10) ∧ (fL (4 * nc + 1) = (nI mg)) ∧ (fL (4 * nc + 2) = (nI ms)) ∧ (fL (4 * nc + 3) = sm sd ms ms) ∧ (r = 0)
/-- the phases of a message to one: b clears; a sends what was cleared; b says that all came; nothing goes. r: the frames to come -/
def PI (bwi : Nat) (awi : Nat) (ms : Nat) (mg : Nat) (nc : Nat) (mi : Nat) (sd : Int32) (ck : Nat) (tm : Nat) (va : Value) (vb : Value) (vu : Value) (vw : Value) (qaf : Int32) (qag : Int32) (qbf : Int32) (qbg : Int32) (zst : Int32) (zdu : Int32) (top : Int32) (tex : Int32) (tct : Int32) (tlh : Int32) (tsu : Int32) (nca : Int32) (fE : Nat → Int64) (fL : Nat → Int32) (r : Nat) : Prop := PI1 bwi awi ms mg nc mi sd ck tm va vb vu vw qaf qag qbf qbg zst zdu top tex tct tlh tsu nca fE fL r ∨ PI2 bwi awi ms mg nc mi sd ck tm va vb vu vw qaf qag qbf qbg zst zdu top tex tct tlh tsu nca fE fL r ∨ PI3 bwi awi ms mg nc mi sd ck tm va vb vu vw qaf qag qbf qbg zst zdu top tex tct tlh tsu nca fE fL r ∨ PI4 bwi awi ms mg nc mi sd ck tm va vb vu vw qaf qag qbf qbg zst zdu top tex tct tlh tsu nca fE fL r
theorem PI_pos {bwi : Nat} {awi : Nat} {ms : Nat} {mg : Nat} {nc : Nat} {mi : Nat} {sd : Int32} {ck : Nat} {tm : Nat} {va : Value} {vb : Value} {vu : Value} {vw : Value} {qaf : Int32} {qag : Int32} {qbf : Int32} {qbg : Int32} {zst : Int32} {zdu : Int32} {top : Int32} {tex : Int32} {tct : Int32} {tlh : Int32} {tsu : Int32} {nca : Int32} {fE : Nat → Int64} {fL : Nat → Int32} {r : Nat} : PI bwi awi ms mg nc mi sd ck tm va vb vu vw qaf qag qbf qbg zst zdu top tex tct tlh tsu nca fE fL r → 0 < r → zst = 1 := by
  intro h hr
  rcases h with h | h | h | h
  · obtain ⟨e1, mn, tl, sdu, -, -, -, -, -, -, -, hh, -, -, -, -, -, -, -, -, -, -, -⟩ := h
    exact hh
  · obtain ⟨se, th, ng, nf, e1, tc, tl, sdu, -, -, -, -, -, -, -, hh, -, -, -, -, -, -, -, -, -, -, -⟩ := h
    exact hh
  · obtain ⟨sdu, -, -, -, -, -, -, -, hh, -, -, -, -, -, -, -, -, -, -, -⟩ := h
    exact hh
  · exact absurd h.2.2.2.2.2.2.2.2.2.2.2.2.2.2.2 (by omega)
theorem PI_zero {bwi : Nat} {awi : Nat} {ms : Nat} {mg : Nat} {nc : Nat} {mi : Nat} {sd : Int32} {ck : Nat} {tm : Nat} {va : Value} {vb : Value} {vu : Value} {vw : Value} {qaf : Int32} {qag : Int32} {qbf : Int32} {qbg : Int32} {zst : Int32} {zdu : Int32} {top : Int32} {tex : Int32} {tct : Int32} {tlh : Int32} {tsu : Int32} {nca : Int32} {fE : Nat → Int64} {fL : Nat → Int32} {r : Nat} : PI bwi awi ms mg nc mi sd ck tm va vb vu vw qaf qag qbf qbg zst zdu top tex tct tlh tsu nca fE fL r → r = 0 → PI4 bwi awi ms mg nc mi sd ck tm va vb vu vw qaf qag qbf qbg zst zdu top tex tct tlh tsu nca fE fL r := by
  intro h hr
  rcases h with h | h | h | h
  · obtain ⟨e1, mn, tl, sdu, -, -, -, -, -, -, -, -, -, -, -, -, -, -, -, -, -, -, har⟩ := h
    exact absurd hr (by omega)
  · obtain ⟨se, th, ng, nf, e1, tc, tl, sdu, -, -, -, -, -, -, -, -, -, -, -, -, -, -, -, -, -, -, har⟩ := h
    exact absurd hr (by omega)
  · obtain ⟨sdu, -, -, -, -, -, -, -, -, -, -, -, -, -, -, -, -, -, -, har⟩ := h
    exact absurd hr (by omega)
  · exact h
