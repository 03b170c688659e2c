/-! change, black, look -/
def chV (rab : Nat → Bool) (wd : Nat) (x : Int32) (k : Nat) : Int32 := if x = -1 then nI (cN (isC rab) wd) else if 0 ≤ x.toInt ∧ cN (isC rab) k ≤ x.toInt.toNat ∧ x.toInt.toNat < cN (isC rab) wd then nI (plN rab wd x.toInt.toNat) else -1
theorem chg_9 {wd : Nat} (hw : wd ≤ 10000) (rab : Nat → Bool) (th x z : Int32) : ∀ (m fuel k : Nat), m = wd - k → m < fuel → k ≤ wd → l_Model_change_9 wd rab th x fuel (nI (cN (isC rab) k)) (nI k) z = (chV rab wd x k, z) := by
  intro m
  induction m with
  | zero =>
    intro fuel k hm hf hk
    obtain ⟨f, rfl⟩ : ∃ f, fuel = f + 1 := ⟨fuel - 1, by omega⟩
    have ek : k = wd := by omega
    subst ek
    rw [l_Model_change_9, if_pos (nI_le (Nat.le_refl _) (by omega))]
    unfold chV
    by_cases h1 : x = -1
    · rw [if_pos h1, if_pos h1]
    · rw [if_neg h1, if_neg h1, if_neg (by omega)]
  | succ m ih =>
    intro fuel k hm hf hk
    obtain ⟨f, rfl⟩ : ∃ f, fuel = f + 1 := ⟨fuel - 1, by omega⟩
    have hck := cN_le (isC rab) k
    have hck2 := cN_mono (isC rab) (show k + 1 ≤ wd by omega)
    have hcw := cN_le (isC rab) wd
    have hno : isC rab k = false → l_Model_change_9 wd rab th x f (nI (cN (isC rab) k)) (nI (k + 1)) z = (chV rab wd x k, z) := by
      intro hc
      have e : cN (isC rab) (k + 1) = cN (isC rab) k := by rw [cN_s, hc]; rfl
      rw [← e, ih f (k + 1) (by omega) (by omega) (by omega)]
      unfold chV
      rw [e]
    have hyes : isC rab k = true → (if nI (cN (isC rab) k) = x then (nI k, z) else l_Model_change_9 wd rab th x f (nI (cN (isC rab) k) + 1) (nI (k + 1)) z) = (chV rab wd x k, z) := by
      intro hc
      have e : cN (isC rab) (k + 1) = cN (isC rab) k + 1 := by rw [cN_s, hc]; rfl
      by_cases hx : nI (cN (isC rab) k) = x
      · rw [if_pos hx]
        have hxi : x.toInt = cN (isC rab) k := by rw [← hx, nI_toInt (by omega)]
        have hp : plN rab wd (cN (isC rab) k) = k := by
          rw [plN_nx (by omega)]
          exact fst_un (Nat.le_refl _) (by omega) (fun i a b => by omega) (fun _ => hc)
        unfold chV
        rw [if_neg (by intro e9; rw [e9, ti_m1] at hxi; omega), hxi, Int.toNat_natCast, if_pos ⟨by omega, Nat.le_refl _, by omega⟩, hp]
      · rw [if_neg hx, nI_1, ← e, ih f (k + 1) (by omega) (by omega) (by omega)]
        unfold chV
        by_cases h1 : x = -1
        · rw [if_pos h1, if_pos h1]
        · rw [if_neg h1, if_neg h1, e]
          by_cases hcond : 0 ≤ x.toInt ∧ cN (isC rab) k + 1 ≤ x.toInt.toNat ∧ x.toInt.toNat < cN (isC rab) wd
          · rw [if_pos hcond, if_pos (by omega)]
          · rw [if_neg hcond, if_neg (fun h9 => hcond ⟨h9.1, by
              rcases Nat.lt_or_ge (cN (isC rab) k) x.toInt.toNat with h | h
              · omega
              · exfalso
                apply hx
                exact (nI_of_toInt (by omega)).symm, h9.2.2⟩)]
    rw [l_Model_change_9, if_neg (nI_ge (by omega) (by omega)), nI_1]
    dsimp only
    rcases Nat.eq_zero_or_pos k with h0 | h0
    · subst h0
      rw [if_pos (show nI 0 ≤ 0 by decide), show (nI 0).toNatClampNeg = 0 from by decide]
      have hc : isC rab 0 = rab 0 := by unfold isC; rw [decide_eq_false (by omega)]; cases rab 0 <;> rfl
      cases hr : rab 0 with
      | false => rw [if_pos (show bI false = 0 from rfl)]; exact hno (by rw [hc, hr])
      | true => rw [if_neg (show ¬ bI true = 0 by decide)]; exact hyes (by rw [hc, hr])
    · have e1 : nI k - 1 = nI (k - 1) := by
        have := nI_pred (k - 1)
        rwa [show k - 1 + 1 = k by omega] at this
      have hc : isC rab k = (rab k != rab (k - 1)) := by unfold isC; rw [decide_eq_true h0, Bool.true_and]
      rw [if_neg (nI_nle h0 (by omega)), e1, nI_clamp (by omega), nI_clamp (by omega)]
      cases hr : rab k with
      | false =>
        cases hr1 : rab (k - 1) with
        | false => rw [if_pos (show bI false = 0 from rfl), if_pos (show bI false = 0 from rfl)]; exact hno (by rw [hc, hr, hr1]; rfl)
        | true => rw [if_neg (show ¬ bI true = 0 by decide), if_neg (show ¬ bI false = 1 by decide)]; exact hyes (by rw [hc, hr, hr1]; rfl)
      | true =>
        cases hr1 : rab (k - 1) with
        | false => rw [if_pos (show bI false = 0 from rfl), if_neg (show ¬ bI true = 0 by decide)]; exact hyes (by rw [hc, hr, hr1]; rfl)
        | true => rw [if_neg (show ¬ bI true = 0 by decide), if_pos (show bI true = 1 from rfl)]; exact hno (by rw [hc, hr, hr1]; rfl)
/-- promise 14 -/
theorem change_R {wd : Nat} (hw : wd ≤ 10000) {ch : (Nat → Int32) × Int32} {rab : Nat → Bool} (h : chR wd ch rab) (th x : Int32) : f_Model_change wd rab th x = (f_DL_change wd ch x, 0) := by
  have hcw := cN_le (isC rab) wd
  unfold f_Model_change
  rw [nI_toInt (by omega), ti_0]
  have := chg_9 hw rab th x 0 wd (((wd : Int) - 0).toNat + 1) 0 (by omega) (by omega) (by omega)
  have e0 : l_Model_change_9 wd rab th x (((wd : Int) - 0).toNat + 1) 0 0 0 = (chV rab wd x 0, 0) := this
  rw [e0]
  congr 1
  unfold chV f_DL_change
  rw [h.1]
  by_cases h1 : x = -1
  · rw [if_pos h1, if_pos h1]
  · rw [if_neg h1, if_neg h1]
    by_cases h2 : x < 0
    · rw [if_pos h2, if_neg (by rw [ti_lt, ti_0] at h2; omega)]
    · rw [if_neg h2]
      obtain ⟨j, hj, rfl⟩ := nI_of h2
      rw [nI_toInt hj, Int.toNat_natCast]
      by_cases h3 : cN (isC rab) wd ≤ j
      · rw [if_pos (nI_le h3 hj), if_neg (by omega)]
      · rw [if_neg (nI_ge (by omega) (by omega)), if_pos ⟨by omega, Nat.zero_le _, by omega⟩]
        exact (plO_f hw h hj).symm
/-- promise 12, the dot -/
theorem black_b {wd : Nat} (hw : wd ≤ 10000) {pf : Nat → Int64} {rab : Nat → Bool} (h : linR wd pf rab) {a : Nat} (ha : a < wd) : (lg_cmp ((f_Line_part wd pf (nI a / 64)) <<< ((nI a - nI a / 64 * 64).toInt64 &&& 63)) 0 < 0) ↔ rab a = true := by
  have ed : nI a / 64 = nI (a / 64) := pk_div (d := 64) (by omega) (by decide) (by decide)
  have er : nI a - nI a / 64 * 64 = nI (a % 64) := pk_rem (d := 64) (by omega) (by decide) (by decide)
  rw [er, ed]
  have hp : f_Line_part wd pf (nI (a / 64)) = pf (a / 64) := by
    unfold f_Line_part
    rw [if_neg (nI_pos (by omega)), if_pos (nI_lt (by omega) (by omega)), nI_clamp (by omega)]
  rw [hp, lg_cmp_lt, ← h.1 a ha]
  generalize hX : (pf (a / 64)) <<< ((nI (a % 64)).toInt64 &&& 63) = V
  have hb : V.toBitVec.getLsbD 63 = gb pf a := by
    rw [← hX, sl_b _ (by omega), decide_eq_true (show 63 < 64 by decide), decide_eq_true (show a % 64 ≤ 63 by omega)]
    rfl
  rw [← hb]
  have hm : V.toBitVec.getLsbD 63 = V.toBitVec.msb := by rw [BitVec.msb_eq_getLsbD_last]
  rw [hm, Int64.lt_iff_toInt_lt, show (0 : Int64).toInt = 0 from rfl]
  show V.toBitVec.toInt < 0 ↔ _
  rw [BitVec.msb_eq_toInt, decide_eq_true_iff]
/-- promise 15 -/
theorem look_R (wd : Nat) (cl : Bool) (cli rli th : Int32) (ct : Int32 × Int32 × Int32) (rd : Int32 × Int32) (f fi : Nat → Int64) (c gv : Nat) (hg : gv ≤ 65536) (x : Int32) :
    f_Model_look wd (nI c) cl cli ct (nI gv) rli rd.1 th x = (f_DL_look wd cl cli ct rli rd (f, nI c) (fi, nI (8 * gv)) x, 0) := by
  have hb : f_Bits_bytes (fi, nI (8 * gv)) = nI gv := by rw [bytes_f fi (by omega), show (8 * gv + 7) / 8 = gv by omega]
  unfold f_Model_look f_DL_look
  rw [hb]
  dsimp only
  split; rfl
  split; rfl
  split
  · split <;> rfl
  split; rfl
  split; rfl
  split; rfl
  split; rfl
  split; rfl
  split; rfl
  split; rfl
  rfl
