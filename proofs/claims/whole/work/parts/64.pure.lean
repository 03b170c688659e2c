/-! a step read by both -/
def rootX (X : Nat) : Nat := if X = 0 then 1 else 0
/-- the dots behind the WIDTH are white -/
def pdW (wd : Nat) (zf : Nat → Int64) : Prop := ∀ i, wd ≤ i → i < 64 * ((wd + 63) / 64) → gb zf i = false
/-- the fresh line as far as it is drawn -/
def lnI (wd X : Nat) (zf : Nat → Int64) (zr : Nat → Bool) : Prop := (∀ i, i + 1 < X → i < wd → gb zf i = zr i) ∧ ∀ i, wd ≤ i → i < 64 * ((wd + 63) / 64) → gb zf i = false
theorem mode_X {wd gv : Nat} (hg : gv ≤ 65536) {f : Nat → Int64} {inp : Nat → Int32} (hin : inR f gv inp) {X p : Nat} {a : Int32} (ha : a + 1 = nI X) (hX : X ≤ 10001) (hp : p ≤ 8 * gv) {q : Int × Nat} (hq : rdF (rootX X) (gb f) (8 * gv) p = q) :
    (if 0 ≤ a then f_Model_mode (nI gv) inp (nI p) 1 9 else f_Model_mode (nI gv) inp (nI p) 1 10) = if 0 ≤ q.1 then (iI (sg q.1), (nI q.2, 1)) else (-1, (nI p, iI q.1)) := by
  have hai := a_of ha hX
  have hcg : ∀ r, rdF r (gb f) (8 * gv) p = rdF r (ib inp) (8 * gv) p := fun r => rdF_congr (fun i hi => by rw [hin i (by omega), decide_eq_true hi]; rfl)
  by_cases h0 : X = 0
  · rw [if_neg (by rw [ti_le, hai, ti_0]; omega)]
    refine mode_f hg hp (M := 10) (Or.inr ⟨rfl, rfl⟩) ?_
    rw [← hcg, ← hq]; unfold rootX; rw [if_pos h0]
  · rw [if_pos (by rw [ti_le, hai, ti_0]; omega)]
    refine mode_f hg hp (M := 9) (Or.inl ⟨rfl, rfl⟩) ?_
    rw [← hcg, ← hq]; unfold rootX; rw [if_neg h0]
theorem piece_neg {wd gv : Nat} (hg : gv ≤ 65536) {f : Nat → Int64} {inp : Nat → Int32} (hin : inR f gv inp) {rab rln : Nat → Bool} {tu bk : Bool} {X p : Nat} {a : Int32} (ha : a + 1 = nI X) (hX : X ≤ 10001) (hp : p ≤ 8 * gv) {q : Int × Nat} (hq : rdF (rootX X) (gb f) (8 * gv) p = q) (h : q.1 < 0) :
    f_Model_piece wd (nI gv) inp rab (nI p) 1 tu rln a bk = (a, (nI p, iI q.1, tu, rln)) := by
  have hm := mode_X (wd := wd) hg hin ha hX hp hq
  rw [if_neg (show ¬ 0 ≤ q.1 by omega)] at hm
  unfold f_Model_piece
  by_cases h0 : 0 ≤ a
  · rw [if_pos h0] at hm
    rw [if_pos h0, hm]
    unfold j_Model_piece_22
    dsimp only
    rw [if_neg (show ¬ (0 : Int32) ≤ -1 by decide)]
  · rw [if_neg h0] at hm
    rw [if_neg h0, hm]
    unfold j_Model_piece_22
    dsimp only
    rw [if_neg (show ¬ (0 : Int32) ≤ -1 by decide)]
theorem piece_end {wd gv : Nat} (hg : gv ≤ 65536) {f : Nat → Int64} {inp : Nat → Int32} (hin : inR f gv inp) {rab rln : Nat → Bool} {tu bk : Bool} {X p : Nat} {a : Int32} (ha : a + 1 = nI X) (hX : X ≤ 10001) (hp : p ≤ 8 * gv) {q : Int × Nat} (hq : rdF (rootX X) (gb f) (8 * gv) p = q) (h : q.1 = 9) (hq2 : q.2 ≤ 8 * gv) {e : Int × Nat} (he : rdF 2 (gb f) (8 * gv) q.2 = e) :
    f_Model_piece wd (nI gv) inp rab (nI p) 1 tu rln a bk = (a, if 0 ≤ e.1 then (nI e.2, 0, tu, rln) else (nI q.2, iI e.1, tu, rln)) := by
  have hm := mode_X (wd := wd) hg hin ha hX hp hq
  rw [if_pos (show 0 ≤ q.1 by omega), h, show iI (sg 9) = 9 from by decide] at hm
  have hcg : rdF 2 (gb f) (8 * gv) q.2 = rdF 2 (ib inp) (8 * gv) q.2 := rdF_congr (fun i hi => by rw [hin i (by omega), decide_eq_true hi]; rfl)
  have hend := end_f hg (inp := inp) hq2 (q := e) (by rw [← he, hcg])
  have hj : j_Model_piece_22 wd (nI gv) inp rab (nI p) 1 tu rln a bk (nI q.2) 1 9 = (a, if 0 ≤ e.1 then (nI e.2, 0, tu, rln) else (nI q.2, iI e.1, tu, rln)) := by
    unfold j_Model_piece_22
    rw [if_pos (show (0 : Int32) ≤ 9 by decide), if_pos rfl, hend]
    dsimp only
    by_cases h1 : 0 ≤ e.1
    · rw [if_pos h1, if_pos h1]
    · rw [if_neg h1, if_neg h1]
  unfold f_Model_piece
  by_cases h0 : 0 ≤ a
  · rw [if_pos h0] at hm
    rw [if_pos h0, hm]
    exact hj
  · rw [if_neg h0] at hm
    rw [if_neg h0, hm]
    exact hj
theorem piece_91 {wd gv : Nat} (hw : wd ≤ 10000) (hg : gv ≤ 65536) {f : Nat → Int64} {inp : Nat → Int32} (hin : inR f gv inp) {rab rln : Nat → Bool} {tu bk : Bool} {X p : Nat} {a : Int32} (ha : a + 1 = nI X) (hX : X ≤ wd) (hp : p ≤ 8 * gv) {q : Int × Nat} (hq : rdF (rootX X) (gb f) (8 * gv) p = q) (h0 : 0 ≤ q.1) (h9 : q.1 < 9) :
    f_Model_piece wd (nI gv) inp rab (nI p) 1 tu rln a bk = j_Model_piece_91 wd (nI gv) inp rab (nI p) 1 tu rln a bk (nI q.2) 1 (iI (sg q.1)) (nI (b1N rab wd X bk)) (nI (b2N rab wd X bk)) := by
  have hm := mode_X (wd := wd) hg hin ha (by omega) hp hq
  rw [if_pos h0] at hm
  obtain ⟨μ, hμ⟩ : ∃ μ : Nat, q.1 = μ := ⟨q.1.toNat, by omega⟩
  obtain ⟨-, s2, -, s4⟩ := sg_k μ (by omega)
  obtain ⟨σ, hσ⟩ : ∃ σ : Nat, sg μ = σ := ⟨(sg μ).toNat, by omega⟩
  have hσ9 : σ < 9 := by have := s4 (by omega); omega
  obtain ⟨hB1a, hB1b⟩ := b1N_in (of := rab) hX bk
  have hb1e : b1N rab wd X bk = fst (chg rab (!bk)) wd X := by unfold b1N; rw [show min X wd = X by omega]
  have hj : j_Model_piece_22 wd (nI gv) inp rab (nI p) 1 tu rln a bk (nI q.2) 1 (iI (sg q.1)) = j_Model_piece_91 wd (nI gv) inp rab (nI p) 1 tu rln a bk (nI q.2) 1 (iI (sg q.1)) (nI (b1N rab wd X bk)) (nI (b2N rab wd X bk)) := by
    have q1 : ∀ mv, j_Model_piece_62 wd (nI gv) inp rab (nI p) 1 tu rln a bk (nI q.2) 1 mv (nI (b1N rab wd X bk)) = j_Model_piece_91 wd (nI gv) inp rab (nI p) 1 tu rln a bk (nI q.2) 1 mv (nI (b1N rab wd X bk)) (nI (b2N rab wd X bk)) := by
      intro mv
      unfold j_Model_piece_62 b2N
      by_cases h8 : b1N rab wd X bk = wd
      · rw [if_pos (by rw [h8]), if_pos h8]
      · rw [if_neg (fun e => h8 ((nI_eq (by omega) (by omega)).mp e)), md_f rab hw (x := b1N rab wd X bk + 1) (nI_1 _) (by omega) bk, if_neg h8]
    rw [hμ, hσ, iI_n]
    unfold j_Model_piece_22
    rw [if_pos (nI_pos' (by omega)), if_neg (show ¬ nI σ = 9 from fun e => by have := (nI_eq (b := 9) (by omega) (by decide)).mp e; omega)]
    cases bk with
    | false => rw [if_pos (show bI false = 0 from rfl), mc_f rab hw ha hX true]; dsimp only; rw [show true = !false from rfl, ← hb1e]; exact q1 _
    | true => rw [if_neg (show ¬ bI true = 0 by decide), mc_f rab hw ha hX false]; dsimp only; rw [show false = !true from rfl, ← hb1e]; exact q1 _
  unfold f_Model_piece
  by_cases hh : 0 ≤ a
  · rw [if_pos hh] at hm
    rw [if_pos hh, hm]
    exact hj
  · rw [if_neg hh] at hm
    rw [if_neg hh, hm]
    exact hj
/-- drawing on, on both sides -/
theorem draw_R {wd X to : Nat} (hw : wd ≤ 10000) {zf : Nat → Int64} {zr : Nat → Bool} (h : lnI wd X zf zr) (hX : X ≤ wd + 1) (ht : to ≤ wd) (hXt : X ≤ to + 1) (bk : Bool) : lnI wd (to + 1) (f_Line_fill wd zf (nI (X - 1)) (nI to) bk) (stR zr (X - 1) to bk) := by
  refine ⟨fun i h1 h2 => ?_, fun i h1 h2 => ?_⟩
  · rw [fill_f hw (by omega) zf bk ht]
    unfold stR
    by_cases h9 : X - 1 ≤ i ∧ i < to
    · rw [if_pos h9, if_pos h9]
    · rw [if_neg h9, if_neg h9]; exact h.1 i (by omega) h2
  · rw [fill_f hw (by omega) zf bk ht, if_neg (by omega)]
    exact h.2 i h1 h2
theorem aX {a : Int32} {X : Nat} (ha : a + 1 = nI X) (hX : X ≤ 10001) : a = nI (X - 1) ∨ (a = -1 ∧ X - 1 = 0) := by
  have hai := a_of ha hX
  by_cases h0 : X = 0
  · exact Or.inr ⟨Int32.toInt_inj.mp (by rw [hai, ti_m1]; omega), by omega⟩
  · exact Or.inl (nI_of_toInt (by rw [hai]; omega))
/-- what a step comes to -/
def stepO (wd : Nat) (rab : Nat → Bool) (X p2 : Nat) (bk : Bool) (E : Nat) (act : Int32 × ((Int32 × Int32) × (Int32 × Int32 × Bool × Int32 × Int32) × (Nat → Int64))) (pc : Int32 × (Int32 × Int32 × Bool × (Nat → Bool))) : Prop :=
  (∃ (z : Int) (P : Nat) (y : Int32) (zs : Int32 × Int32 × Bool × Int32 × Int32) (zf : Nat → Int64) (s : Int32) (tu : Bool) (zr : Nat → Bool), -6 ≤ z ∧ z < 0 ∧ P ≤ E ∧ pdW wd zf ∧ act = (iI z, ((nI P, y), zs, zf)) ∧ pc = (s, (nI P, iI z, tu, zr))) ∨
  (∃ (X2 q2 : Nat) (y : Int32) (tu : Bool) (zf : Nat → Int64) (zr : Nat → Bool), X < X2 ∧ X2 ≤ wd + 1 ∧ q2 ≤ E ∧ p2 ≤ q2 ∧ lnI wd X2 zf zr ∧
    act = (0, ((nI q2, y), (nI (cN (isC rab) (min X2 wd)), nI (X2 - 1), (if tu then !bk else bk), nI (b1N rab wd X2 (if tu then !bk else bk)), nI (b2N rab wd X2 (if tu then !bk else bk))), zf)) ∧ pc = (nI (X2 - 1), (nI q2, 1, tu, zr)))
theorem step_pass {wd gv : Nat} (hw : wd ≤ 10000) {rab : Nat → Bool} {ch : (Nat → Int32) × Int32} (hch : chR wd ch rab) {inp : Nat → Int32} {X p q2 : Nat} {a : Int32} {bk tu : Bool} (ha : a + 1 = nI X) (hX : X ≤ wd) (hp : p ≤ q2) (hq2 : q2 ≤ 8 * gv) {zf : Nat → Int64} {zr : Nat → Bool} (hl : lnI wd X zf zr) :
    stepO wd rab X q2 bk (8 * gv) (f_Reader_pass wd ch (nI q2, nI p) (nI (cN (isC rab) (min X wd)), a, bk, nI (b1N rab wd X bk), nI (b2N rab wd X bk)) zf) (j_Model_piece_91 wd (nI gv) inp rab (nI p) 1 tu zr a bk (nI q2) 1 0 (nI (b1N rab wd X bk)) (nI (b2N rab wd X bk))) := by
  obtain ⟨hB1a, hB1b⟩ := b1N_in (of := rab) hX bk
  obtain ⟨hB2a, hB2b⟩ := b2N_in (of := rab) hX bk
  unfold f_Reader_pass j_Model_piece_91
  rw [if_pos (show (0 : Int32) = 0 from rfl)]
  dsimp only
  by_cases h : b2N rab wd X bk < wd
  · rw [if_pos (nI_lt h (by omega)), if_neg (fun e => by have := (nI_eq (by omega) (by omega)).mp e; omega), mf_f zr (a := X - 1) (by omega) (by omega) bk (aX ha (by omega))]
    refine Or.inr ⟨b2N rab wd X bk + 1, q2, nI p, false, f_Line_fill wd zf (nI (X - 1)) (nI (b2N rab wd X bk)) bk, stR zr (X - 1) (b2N rab wd X bk) bk, by omega, by omega, hq2, Nat.le_refl _, draw_R hw hl (by omega) hB2b (by omega) bk, ?_, by rw [Nat.add_sub_cancel]⟩
    rw [move_f hw hch (X := b2N rab wd X bk + 1) (nI_1 _) (by omega) (cN_mono _ (by omega)), Nat.add_sub_cancel]
    unfold f_Reader_drawTo
    dsimp only
    rw [mx_a ha (by omega)]
    rfl
  · rw [if_neg (nI_nlt (by omega) (by omega)), if_pos (by rw [show b2N rab wd X bk = wd by omega])]
    exact Or.inl ⟨-3, p, nI p, _, zf, _, _, _, by omega, by omega, by omega, hl.2, rfl, rfl⟩
theorem step_shift {wd gv : Nat} (hw : wd ≤ 10000) {rab : Nat → Bool} {ch : (Nat → Int32) × Int32} (hch : chR wd ch rab) {inp : Nat → Int32} {X p q2 μ : Nat} (hμ : μ < 7) {a : Int32} {bk tu : Bool} (ha : a + 1 = nI X) (hX : X ≤ wd) (hp : p ≤ q2) (hq2 : q2 ≤ 8 * gv) {zf : Nat → Int64} {zr : Nat → Bool} (hl : lnI wd X zf zr) :
    stepO wd rab X q2 bk (8 * gv) (f_Reader_shift wd ch (nI q2, nI p) (nI (cN (isC rab) (min X wd)), a, bk, nI (b1N rab wd X bk), nI (b2N rab wd X bk)) zf (nI μ - 3)) (j_Model_piece_91 wd (nI gv) inp rab (nI p) 1 tu zr a bk (nI q2) 1 (nI (μ + 2)) (nI (b1N rab wd X bk)) (nI (b2N rab wd X bk))) := by
  obtain ⟨hB1a, hB1b⟩ := b1N_in (of := rab) hX bk
  have hai := a_of ha (by omega)
  have e3 : (nI μ - 3).toInt = (μ : Int) - 3 := pk_sub_toInt (b := 3) (by omega) (by decide)
  have eto : (nI (b1N rab wd X bk) + (nI μ - 3)).toInt = (b1N rab wd X bk : Int) + μ - 3 := by
    rw [ti_add (by rw [e3, nI_toInt (by omega)]; omega) (by rw [e3, nI_toInt (by omega)]; omega), e3, nI_toInt (by omega)]; omega
  have eto2 : (nI (b1N rab wd X bk) + nI (μ + 2)) - 5 = nI (b1N rab wd X bk) + (nI μ - 3) := by
    apply Int32.toInt_inj.mp
    rw [eto, nI_add]
    have : (nI (b1N rab wd X bk + (μ + 2)) - 5).toInt = ((b1N rab wd X bk + (μ + 2) : Nat) : Int) - 5 := pk_sub_toInt (b := 5) (by omega) (by decide)
    rw [this]; omega
  unfold f_Reader_shift j_Model_piece_91
  rw [if_neg (show ¬ nI (μ + 2) = 0 from nI_ne0 (by omega) (by omega)), if_neg (show ¬ nI (μ + 2) ≤ 1 from nI_ge (a := 1) (by omega) (by omega)), eto2]
  dsimp only
  by_cases h1 : nI (b1N rab wd X bk) + (nI μ - 3) ≤ a
  · rw [if_pos h1, if_pos h1]
    exact Or.inl ⟨-4, p, nI p, _, zf, _, _, _, by omega, by omega, by omega, hl.2, rfl, rfl⟩
  · rw [if_neg h1, if_neg h1]
    by_cases h2 : nI (b1N rab wd X bk) + (nI μ - 3) ≤ nI wd
    · rw [if_pos h2, if_pos h2]
      rw [ti_le, eto, hai] at h1
      rw [ti_le, eto, nI_toInt (by omega)] at h2
      obtain ⟨to, hto⟩ : ∃ to, to = b1N rab wd X bk + μ - 3 := ⟨_, rfl⟩
      have eN : nI (b1N rab wd X bk) + (nI μ - 3) = nI to := nI_of_toInt (by rw [eto]; omega)
      rw [eN, mf_f zr (a := X - 1) (by omega) (by omega) bk (aX ha (by omega))]
      refine Or.inr ⟨to + 1, q2, nI p, true, f_Line_fill wd zf (nI (X - 1)) (nI to) bk, stR zr (X - 1) to bk, by omega, by omega, hq2, Nat.le_refl _, draw_R hw hl (by omega) (by omega) (by omega) bk, ?_, by rw [Nat.add_sub_cancel]⟩
      have hd : f_Reader_drawTo wd (nI (cN (isC rab) (min X wd)), a, bk, nI (b1N rab wd X bk), nI (b2N rab wd X bk)) zf (nI to) = f_Line_fill wd zf (nI (X - 1)) (nI to) bk := by
        unfold f_Reader_drawTo
        dsimp only
        rw [mx_a ha (by omega)]
      have hmv : f_Spot_move wd ch (nI (cN (isC rab) (min X wd)), a, bk, nI (b1N rab wd X bk), nI (b2N rab wd X bk)) (nI to) (!bk) = (nI (cN (isC rab) (min (to + 1) wd)), nI to, !bk, nI (b1N rab wd (to + 1) (!bk)), nI (b2N rab wd (to + 1) (!bk))) := move_f hw hch (X := to + 1) (nI_1 _) (by omega) (cN_mono _ (by omega)) _ _
      rw [hd, Nat.add_sub_cancel, if_pos rfl, ← hmv]
      cases bk with
      | false => rw [if_pos (show bI false = 0 from rfl)]; rfl
      | true => rw [if_neg (show ¬ bI true = 0 by decide)]; rfl
    · rw [if_neg h2, if_neg h2]
      exact Or.inl ⟨-4, p, nI p, _, zf, _, _, _, by omega, by omega, by omega, hl.2, rfl, rfl⟩
theorem iI_neg {z : Int} (h1 : -6 ≤ z) (h2 : z < 0) : iI z < 0 := by
  rcases (show z = -6 ∨ z = -5 ∨ z = -4 ∨ z = -3 ∨ z = -2 ∨ z = -1 by omega) with e | e | e | e | e | e <;> rw [e] <;> decide
theorem step_across {wd gv : Nat} (hw : wd ≤ 10000) (hg : gv ≤ 65536) {f : Nat → Int64} {inp : Nat → Int32} (hin : inR f gv inp) {rab : Nat → Bool} {ch : (Nat → Int32) × Int32} (hch : chR wd ch rab) {X p q2 : Nat} {a : Int32} {bk tu : Bool} (ha : a + 1 = nI X) (hX : X ≤ wd) (hp : p ≤ q2) (hq2 : q2 ≤ 8 * gv) {zf : Nat → Int64} {zr : Nat → Bool} (hl : lnI wd X zf zr) :
    stepO wd rab X q2 bk (8 * gv) (f_Reader_across wd ch (f, nI (8 * gv)) f_Tree_init (nI q2, nI p) (nI (cN (isC rab) (min X wd)), a, bk, nI (b1N rab wd X bk), nI (b2N rab wd X bk)) zf) (j_Model_piece_91 wd (nI gv) inp rab (nI p) 1 tu zr a bk (nI q2) 1 1 (nI (b1N rab wd X bk)) (nI (b2N rab wd X bk))) := by
  have hE : 8 * gv ≤ 524288 := by omega
  obtain ⟨R1, hR1⟩ : ∃ R, R = rnS wd bk (gb f) (8 * gv) (8 * gv - q2 + 1) q2 (X - 1) := ⟨_, rfl⟩
  obtain ⟨w1, c1⟩ := crn_f hw hE (f := f) bk (p := q2) (fr := X - 1) (nI p) hq2 (by omega)
  obtain ⟨m1, m1n⟩ := mrn_f hw hg hin (p := q2) (F := X - 1) bk hq2 (by omega)
  obtain ⟨b1, b2, b3, b4⟩ := rn_b (f := f) (bk := bk) hE (8 * gv - q2 + 1) q2 (X - 1) hq2 (show X - 1 ≤ wd by omega)
  rw [← hR1] at c1 m1 m1n b1 b2 b3 b4
  have hbg : j_Model_piece_91 wd (nI gv) inp rab (nI p) 1 tu zr a bk (nI q2) 1 1 (nI (b1N rab wd X bk)) (nI (b2N rab wd X bk)) = j_Model_piece_194 wd (nI gv) inp rab (nI p) 1 tu zr a bk (nI q2) 1 (nI (X - 1)) := by
    unfold j_Model_piece_91
    rw [if_neg (show ¬ (1 : Int32) = 0 by decide), if_pos (show (1 : Int32) ≤ 1 by decide)]
    rcases aX ha (by omega) with e | ⟨e, e2⟩
    · rw [if_pos (by rw [e]; exact nI_pos' (by omega)), e]
    · rw [if_neg (by rw [e]; decide), e2]; rfl
  rw [hbg]
  unfold f_Reader_across j_Model_piece_194
  dsimp only
  rw [mx_a ha (by omega), c1]
  dsimp only
  by_cases h1 : R1.1 < 0
  · obtain ⟨s, e⟩ := m1n h1
    have hn := iI_neg (b4 h1) h1
    rw [if_neg (show ¬ (0 : Int32) ≤ iI R1.1 from Int32.not_le.mpr hn), e]
    dsimp only
    have hle : iI R1.1 ≤ 0 := Int32.le_of_lt hn
    rw [if_pos hle]
    refine Or.inl ⟨R1.1, R1.2, w1, _, zf, a, false, zr, b4 h1, h1, b1, hl.2, rfl, ?_⟩
    unfold j_Model_piece_234
    rw [if_pos hle]
    unfold j_Model_piece_256
    rw [if_pos hle]
    unfold j_Model_piece_301
    rw [if_pos hle]
  · obtain ⟨M1, hM1⟩ : ∃ M1 : Nat, R1.1 = M1 := ⟨R1.1.toNat, by omega⟩
    have b3' := b3 (by omega)
    rw [m1 (by omega), hM1, iI_n, Int.toNat_natCast, if_pos (nI_pos' (by omega))]
    dsimp only
    rw [if_neg (show ¬ (1 : Int32) ≤ 0 by decide), nI_add, show X - 1 + (M1 - (X - 1)) = M1 by omega]
    obtain ⟨R2, hR2⟩ : ∃ R, R = rnS wd (!bk) (gb f) (8 * gv) (8 * gv - R1.2 + 1) R1.2 M1 := ⟨_, rfl⟩
    obtain ⟨w2, c2⟩ := crn_f hw hE (f := f) (!bk) (p := R1.2) (fr := M1) w1 b1 (by omega)
    obtain ⟨n1, n1n⟩ := mrn_f hw hg hin (p := R1.2) (F := M1) (!bk) b1 (by omega)
    obtain ⟨d1, d2, d3, d4⟩ := rn_b (f := f) (bk := !bk) hE (8 * gv - R1.2 + 1) R1.2 M1 b1 (show M1 ≤ wd by omega)
    rw [← hR2] at c2 n1 n1n d1 d2 d3 d4
    -- both colours alike
    have hgo : ∀ (T : Int32 × (Int32 × Int32)) (N : Int32 × (Int32 × Int32)), T = f_Reader_runFrom wd (f, nI (8 * gv)) f_Tree_init (nI R1.2, w1) (nI M1) (!bk) → N = f_Model_readRun wd (nI gv) inp (nI R1.2) 1 (nI M1) (!bk) →
        stepO wd rab X q2 bk (8 * gv) (if 0 ≤ T.1 then (if T.1 = nI (X - 1) then ((f_Reader_faultAt T.2 (nI p) (-6)).1, ((f_Reader_faultAt T.2 (nI p) (-6)).2, (nI (cN (isC rab) (min X wd)), a, bk, nI (b1N rab wd X bk), nI (b2N rab wd X bk)), zf)) else (0, (T.2, f_Spot_move wd ch (nI (cN (isC rab) (min X wd)), a, bk, nI (b1N rab wd X bk), nI (b2N rab wd X bk)) T.1 bk, f_Line_fill wd (f_Line_fill wd zf (nI (X - 1)) (nI M1) bk) (nI M1) T.1 (!bk)))) else (T.1, (T.2, (nI (cN (isC rab) (min X wd)), a, bk, nI (b1N rab wd X bk), nI (b2N rab wd X bk)), zf)))
          (j_Model_piece_234 wd (nI gv) inp rab (nI p) 1 tu zr a bk N.2.1 N.2.2 (nI (X - 1)) (nI (M1 - (X - 1))) N.1) := by
      intro T N hT hN
      rw [hT, c2]
      dsimp only
      by_cases h2 : R2.1 < 0
      · obtain ⟨s, e⟩ := n1n h2
        have hn := iI_neg (d4 h2) h2
        have hle : iI R2.1 ≤ 0 := Int32.le_of_lt hn
        rw [hN, e, if_neg (show ¬ (0 : Int32) ≤ iI R2.1 from Int32.not_le.mpr hn)]
        refine Or.inl ⟨R2.1, R2.2, w2, _, zf, a, false, zr, d4 h2, h2, d1, hl.2, rfl, ?_⟩
        dsimp only
        unfold j_Model_piece_234
        rw [if_pos hle]
        unfold j_Model_piece_256
        rw [if_pos hle]
        unfold j_Model_piece_301
        rw [if_pos hle]
      · obtain ⟨M2, hM2⟩ : ∃ M2 : Nat, R2.1 = M2 := ⟨R2.1.toNat, by omega⟩
        have d3' := d3 (by omega)
        rw [hN, n1 (by omega), hM2, iI_n, Int.toNat_natCast, if_pos (nI_pos' (by omega))]
        dsimp only
        unfold j_Model_piece_234
        rw [if_neg (show ¬ (1 : Int32) ≤ 0 by decide), nI_add]
        by_cases h3 : M2 = X - 1
        · rw [if_pos (show nI M2 = nI (X - 1) by rw [h3]), if_pos (show nI (M1 - (X - 1) + (M2 - M1)) = 0 by rw [show M1 - (X - 1) + (M2 - M1) = 0 by omega]; rfl)]
          refine Or.inl ⟨-6, p, w2, _, zf, a, false, zr, by omega, by omega, by omega, hl.2, rfl, ?_⟩
          unfold j_Model_piece_256
          dsimp only
          unfold f_Model_fault
          dsimp only
          rw [if_pos (show (-(6 : Int32)) ≤ 0 by decide)]
          unfold j_Model_piece_301
          rw [if_pos (show (-(6 : Int32)) ≤ 0 by decide)]
          rfl
        · rw [if_neg (fun e => h3 ((nI_eq (by omega) (by omega)).mp e)), if_neg (nI_ne0 (show 0 < M1 - (X - 1) + (M2 - M1) by omega) (by omega))]
          have hbk : f_Model_fill wd zr (nI (X - 1)) (nI M1) bk = stR zr (X - 1) M1 bk := mf_f zr (by omega) (by omega) bk (Or.inl rfl)
          have hbk2 : f_Model_fill wd (stR zr (X - 1) M1 bk) (nI M1) (nI M2) (!bk) = stR (stR zr (X - 1) M1 bk) M1 M2 (!bk) := mf_f _ (by omega) (by omega) (!bk) (Or.inl rfl)
          refine Or.inr ⟨M2 + 1, R2.2, w2, false, f_Line_fill wd (f_Line_fill wd zf (nI (X - 1)) (nI M1) bk) (nI M1) (nI M2) (!bk), stR (stR zr (X - 1) M1 bk) M1 M2 (!bk), by omega, by omega, d1, by omega, ?_, ?_, ?_⟩
          · have k1 := draw_R hw hl (by omega) (show M1 ≤ wd by omega) (by omega) bk
            have k2 := draw_R hw k1 (show M1 + 1 ≤ wd + 1 by omega) (show M2 ≤ wd by omega) (by omega) (!bk)
            rw [Nat.add_sub_cancel] at k2
            exact k2
          · rw [move_f hw hch (X := M2 + 1) (nI_1 _) (by omega) (cN_mono _ (by omega)), Nat.add_sub_cancel]
            rfl
          · unfold j_Model_piece_256
            rw [if_neg (show ¬ (1 : Int32) ≤ 0 by decide), nI_add, show X - 1 + (M1 - (X - 1)) = M1 by omega, nI_add, show M1 + (M2 - M1) = M2 by omega, hbk, Nat.add_sub_cancel]
            dsimp only
            unfold j_Model_piece_301
            rw [if_neg (show ¬ (1 : Int32) ≤ 0 by decide), nI_add, show X - 1 + (M1 - (X - 1)) = M1 by omega, nI_add, show M1 + (M2 - M1) = M2 by omega]
            cases bk with
            | false => rw [if_pos (show bI false = 0 from rfl)]; rw [show (!false) = true from rfl] at hbk2 ⊢; rw [hbk2]
            | true => rw [if_neg (show ¬ bI true = 0 by decide)]; rw [show (!true) = false from rfl] at hbk2 ⊢; rw [hbk2, if_neg (show ¬ (1 : Int32) ≤ 0 by decide)]
    cases bk with
    | false =>
      rw [if_pos (show bI false = 0 from rfl), if_pos (show bI false = 0 from rfl)]
      exact hgo _ _ rfl rfl
    | true =>
      rw [if_neg (show ¬ bI true = 0 by decide), if_neg (show ¬ bI true = 0 by decide)]
      exact hgo _ _ rfl rfl
/-! a line read by both -/
theorem rd_lt {r M : Nat} (hM : (r = 0 ∧ M = 9) ∨ (r = 1 ∧ M = 10)) (bit : Nat → Bool) (E p : Nat) : (rdF r bit E p).1 < M := by
  have hm : ∀ v, mnR r v < M := by
    intro v
    rcases hM with ⟨rfl, rfl⟩ | ⟨rfl, rfl⟩
    · exact (mn1_b tSN v 9).1
    · exact (mn1_b tSN v 10).1
  have : ∀ f v i, (rdW r bit E f v i).1 < M := by
    intro f
    induction f with
    | zero => intro v i; show (-1 : Int) < M; omega
    | succ f ih =>
      intro v i
      simp only [rdW]
      split
      · show (-1 : Int) < M; omega
      · split
        · exact hm _
        · split
          · exact ih _ _
          · show (-2 : Int) < M; omega
  exact this _ _ _
theorem mrd_83 {wd : Nat} (hw : wd ≤ 10000) {gv : Int32} {inp : Nat → Int32} {th lns ps st : Int32} {tu : Bool} {rln rab : Nat → Bool} {rec22 : Int32 → Int32 → Bool → (Nat → Bool) → Int32 → Bool → Int32 × (Int32 × Int32 × Int32 × Int32 × Bool × (Nat → Bool) × (Nat → Bool))} {p3 zst : Int32} {ztu : Bool} {zr : Nat → Bool} :
    ∀ (m fuel k : Nat) (g : Nat → Bool), m = wd - k → m < fuel → k ≤ wd → l_Model_read_83 wd gv inp th lns ps st tu rln rab rec22 fuel g p3 (nI k) zst ztu zr = (1, (0, lns + 1, p3, zst, ztu, zr, cpR g zr k wd)) := by
  intro m
  induction m with
  | zero =>
    intro fuel k g hm hf hk
    obtain ⟨f, rfl⟩ : ∃ f, fuel = f + 1 := ⟨fuel - 1, by omega⟩
    have e : cpR g zr k wd = g := by funext j; unfold cpR; rw [if_neg (by omega)]
    rw [l_Model_read_83, if_pos (nI_le (by omega) (by omega)), e]
  | succ m ih =>
    intro fuel k g hm hf hk
    obtain ⟨f, rfl⟩ : ∃ f, fuel = f + 1 := ⟨fuel - 1, by omega⟩
    rw [l_Model_read_83, if_neg (nI_ge (by omega) (by omega))]
    dsimp only
    rw [nI_clamp (by omega), nI_1, ih f (k + 1) _ (by omega) (by omega) (by omega)]
    have e : cpR (uB g k (zr k)) zr (k + 1) wd = cpR g zr k wd := by
      funext j
      unfold cpR uB
      by_cases h1 : j = k
      · rw [if_neg (by omega), if_pos h1, if_pos (by omega), h1]
      · rw [if_neg h1]
        by_cases h2 : k ≤ j ∧ j < wd
        · rw [if_pos (by omega), if_pos h2]
        · rw [if_neg (by omega), if_neg h2]
    rw [e]
/-- what reading a line comes to -/
def lineO (wd : Nat) (rab : Nat → Bool) (lns : Int32) (E : Nat) (C : Int32 × ((Int32 × Int32) × (Int32 × Int32 × Bool × Int32 × Int32) × (Nat → Int64))) (Mo : Int32 × (Int32 × Int32 × Int32 × Int32 × Bool × (Nat → Bool) × (Nat → Bool))) : Prop :=
  ∃ (P : Nat) (y : Int32) (zs : Int32 × Int32 × Bool × Int32 × Int32) (zf : Nat → Int64) (zt : Bool) (zr : Nat → Bool), P ≤ E ∧ pdW wd zf ∧
    ((C = (1, ((nI P, y), zs, zf)) ∧ Mo = (1, (0, lns + 1, nI P, 1, zt, zr, cpR rab zr 0 wd)) ∧ lnI wd (wd + 1) zf zr) ∨
     (∃ z : Int, -6 ≤ z ∧ z ≤ 0 ∧ C = (iI z, ((nI P, y), zs, zf)) ∧ Mo = (iI z, (0, lns, nI P, iI z, zt, zr, rab))))
theorem rl_30 {wd gv : Nat} (hw : wd ≤ 10000) (hg : gv ≤ 65536) {f : Nat → Int64} {inp : Nat → Int32} (hin : inR f gv inp) {rab : Nat → Bool} {ch : (Nat → Int32) × Int32} (hch : chR wd ch rab) (rd : Int32 × Int32) (sp : Int32 × Int32 × Bool × Int32 × Int32) (fp : Nat → Int64) (th lns ps st : Int32) (tu : Bool) (rln : Nat → Bool) :
    ∀ (m f1 f2 X p k : Nat) (a y : Int32) (bk zt : Bool) (zf : Nat → Int64) (zr : Nat → Bool), m = wd + 1 - X → m < f1 → m + 1 < f2 → X ≤ wd → p ≤ 8 * gv → k ≤ X → a + 1 = nI X → lnI wd X zf zr → (rdF (rootX X) (gb f) (8 * gv) p).1 < 9 →
    lineO wd rab lns (8 * gv) (l_Reader_readSteps_30 wd ch (f, nI (8 * gv)) f_Tree_init rd sp fp f1 (f_Reader_take (f, nI (8 * gv)) f_Tree_init (nI p, y) (nI (rootX X))).2 (nI (cN (isC rab) (min X wd)), a, bk, nI (b1N rab wd X bk), nI (b2N rab wd X bk)) zf (f_Reader_take (f, nI (8 * gv)) f_Tree_init (nI p, y) (nI (rootX X))).1 (nI k))
      (l_Model_read_22 wd (nI gv) inp th lns ps st tu rln rab f2 (nI p) 1 zt zr a bk) := by
  have hE : 8 * gv ≤ 524288 := by omega
  have hfault : ∀ (g : Nat) (zp zs : Int32) (zt : Bool) (zr : Nat → Bool) (a : Int32) (bk : Bool), zs < 0 → l_Model_read_22 wd (nI gv) inp th lns ps st tu rln rab (g + 1) zp zs zt zr a bk = (zs, (0, lns, zp, zs, zt, zr, rab)) := by
    intro g zp zs zt zr a bk hz
    have h1 : ¬ (1 : Int32) ≤ zs := by rw [ti_lt, ti_0] at hz; rw [ti_le, ti_1]; omega
    rw [l_Model_read_22]
    by_cases h : nI wd ≤ a
    · rw [if_pos h, if_neg h1]
    · rw [if_neg h, if_pos (Int32.le_of_lt hz), if_neg h1]
  intro m
  induction m using Nat.strongRecOn with
  | ind m ih =>
    intro f1 f2 X p k a y bk zt zf zr hm h1 h2 hX hp hk ha hl hq9
    obtain ⟨g1, rfl⟩ : ∃ g, f1 = g + 1 := ⟨f1 - 1, by omega⟩
    obtain ⟨g2, rfl⟩ : ∃ g, f2 = g + 2 := ⟨f2 - 2, by omega⟩
    have hai := a_of ha (by omega)
    obtain ⟨q, hq⟩ : ∃ q, q = rdF (rootX X) (gb f) (8 * gv) p := ⟨_, rfl⟩
    rw [← hq] at hq9
    have hr5 : rootX X < 5 := by unfold rootX; split <;> decide
    obtain ⟨t1, t2, t3, t4⟩ := take_f hE hr5 hp y hq.symm
    rw [t1]
    dsimp only
    rw [l_Reader_readSteps_30, if_neg (nI_nlt (by omega) (by omega)), l_Model_read_22, if_neg (show ¬ nI wd ≤ a by rw [ti_le, nI_toInt (by omega), hai]; omega), if_neg (show ¬ (1 : Int32) ≤ 0 by decide)]
    by_cases hneg : q.1 < 0
    · have hn := iI_neg (by rcases t3 hneg with e | e <;> omega) hneg
      rw [if_pos hn, if_neg (show ¬ (0 : Int32) ≤ iI q.1 from Int32.not_le.mpr hn), piece_neg (wd := wd) hg hin ha (by omega) hp hq.symm hneg, if_neg (show ¬ 0 ≤ q.1 by omega)]
      dsimp only
      refine ⟨p, nI p, _, zf, zt, zr, hp, hl.2, Or.inr ⟨q.1, by rcases t3 hneg with e | e <;> omega, by omega, rfl, ?_⟩⟩
      by_cases hz : bI zt = 0
      · rw [if_pos hz]; exact hfault g2 _ _ _ _ _ _ hn
      · rw [if_neg hz]
        by_cases hb : bI bk = 0
        · rw [if_pos hb]; exact hfault g2 _ _ _ _ _ _ hn
        · rw [if_neg hb]; exact hfault g2 _ _ _ _ _ _ hn
    · obtain ⟨μ, hμ⟩ : ∃ μ : Nat, q.1 = μ := ⟨q.1.toNat, by omega⟩
      have t4' := t4 (by omega)
      rw [if_pos (show 0 ≤ q.1 by omega), piece_91 hw hg hin ha hX hp hq.symm (by omega) hq9, hμ, iI_n, if_neg (nI_pos (by omega))]
      -- the class's step and the reference's
      have hstep : ∀ (act : Int32 × ((Int32 × Int32) × (Int32 × Int32 × Bool × Int32 × Int32) × (Nat → Int64))) (pc : Int32 × (Int32 × Int32 × Bool × (Nat → Bool))), stepO wd rab X q.2 bk (8 * gv) act pc →
          lineO wd rab lns (8 * gv) (if act.1 = 0 then (if act.2.2.1.2.1 < (nI wd) then (l_Reader_readSteps_30 wd ch (f, nI (8 * gv)) f_Tree_init rd sp fp g1 (f_Reader_take (f, nI (8 * gv)) f_Tree_init act.2.1 0).2 act.2.2.1 act.2.2.2 (f_Reader_take (f, nI (8 * gv)) f_Tree_init act.2.1 0).1 (nI k + 1)) else ((1, (act.2.1, act.2.2.1, act.2.2.2)))) else ((act.1, (act.2.1, act.2.2.1, act.2.2.2))))
            (if (bI pc.2.2.2.1) = 0 then (l_Model_read_22 wd (nI gv) inp th lns ps st tu rln rab (g2 + 1) pc.2.1 pc.2.2.1 pc.2.2.2.1 pc.2.2.2.2 pc.1 bk) else (if (bI bk) = 0 then (l_Model_read_22 wd (nI gv) inp th lns ps st tu rln rab (g2 + 1) pc.2.1 pc.2.2.1 pc.2.2.2.1 pc.2.2.2.2 pc.1 true) else (l_Model_read_22 wd (nI gv) inp th lns ps st tu rln rab (g2 + 1) pc.2.1 pc.2.2.1 pc.2.2.2.1 pc.2.2.2.2 pc.1 false))) := by
        intro act pc hs
        rcases hs with ⟨z, P, y', zs', zf', s, tu', zr', z1, z2, hP, hpd, rfl, rfl⟩ | ⟨X2, q2, y', tu', zf', zr', hX2, hX2b, hq2, hpq, hl2, rfl, rfl⟩
        · have hn := iI_neg z1 z2
          dsimp only
          rw [if_neg (show ¬ iI z = 0 from fun e => by rw [e] at hn; exact absurd hn (by decide))]
          refine ⟨P, y', zs', zf', tu', zr', hP, hpd, Or.inr ⟨z, z1, by omega, rfl, ?_⟩⟩
          by_cases hz : bI tu' = 0
          · rw [if_pos hz]; exact hfault g2 _ _ _ _ _ _ hn
          · rw [if_neg hz]
            by_cases hb : bI bk = 0
            · rw [if_pos hb]; exact hfault g2 _ _ _ _ _ _ hn
            · rw [if_neg hb]; exact hfault g2 _ _ _ _ _ _ hn
        · dsimp only
          obtain ⟨bk2, hbk2⟩ : ∃ b, b = (if tu' then !bk else bk) := ⟨_, rfl⟩
          have hmo : (if (bI tu') = 0 then (l_Model_read_22 wd (nI gv) inp th lns ps st tu rln rab (g2 + 1) (nI q2) 1 tu' zr' (nI (X2 - 1)) bk) else (if (bI bk) = 0 then (l_Model_read_22 wd (nI gv) inp th lns ps st tu rln rab (g2 + 1) (nI q2) 1 tu' zr' (nI (X2 - 1)) true) else (l_Model_read_22 wd (nI gv) inp th lns ps st tu rln rab (g2 + 1) (nI q2) 1 tu' zr' (nI (X2 - 1)) false))) = l_Model_read_22 wd (nI gv) inp th lns ps st tu rln rab (g2 + 1) (nI q2) 1 tu' zr' (nI (X2 - 1)) bk2 := by
            rw [hbk2]
            cases tu' <;> cases bk <;> rfl
          rw [if_pos (show (0 : Int32) = 0 from rfl), hmo, ← hbk2]
          have ha2 : nI (X2 - 1) + 1 = nI X2 := by rw [nI_1, show X2 - 1 + 1 = X2 by omega]
          by_cases hend : X2 ≤ wd
          · rw [if_pos (nI_lt (by omega) (by omega)), nI_1]
            have hroot : rootX X2 = 0 := by unfold rootX; rw [if_neg (by omega)]
            have := ih (wd + 1 - X2) (by omega) g1 (g2 + 1) X2 q2 (k + 1) (nI (X2 - 1)) y' bk2 tu' zf' zr' rfl (by omega) (by omega) hend hq2 (by omega) ha2 hl2 (by rw [hroot]; exact rd_lt (Or.inl ⟨rfl, rfl⟩) _ _ _)
            rw [hroot] at this
            exact this
          · have hX3 : X2 = wd + 1 := by omega
            subst hX3
            rw [if_neg (nI_nlt (by omega) (by omega))]
            refine ⟨q2, y', _, zf', tu', zr', hq2, hl2.2, Or.inl ⟨rfl, ?_, hl2⟩⟩
            rw [l_Model_read_22, if_pos (nI_le (by omega) (by omega)), if_pos (show (1 : Int32) ≤ 1 by decide), nI_toInt (by omega), ti_0, show (0 : Int32) = nI 0 from rfl, mrd_83 hw wd _ 0 rab rfl (by omega) (by omega)]
            rfl
      dsimp only
      by_cases h7 : μ = 7
      · subst h7
        rw [if_pos (show nI 7 = 7 from rfl), show iI (sg ((7 : Nat) : Int)) = 0 from by decide]
        exact hstep _ _ (step_pass hw hch ha hX (by omega) t2 hl)
      · rw [if_neg (show ¬ nI μ = 7 from fun e => h7 ((nI_eq (b := 7) (by omega) (by decide)).mp e))]
        by_cases h8 : μ = 8
        · subst h8
          rw [if_pos (show nI 8 = 8 from rfl), show iI (sg ((8 : Nat) : Int)) = 1 from by decide]
          exact hstep _ _ (step_across hw hg hin hch ha hX (by omega) t2 hl)
        · rw [if_neg (show ¬ nI μ = 8 from fun e => h8 ((nI_eq (b := 8) (by omega) (by decide)).mp e))]
          have hsg : iI (sg (μ : Int)) = nI (μ + 2) := by
            unfold sg
            rw [if_neg (by omega), if_pos (by omega), show (μ : Int) + 2 = ((μ + 2 : Nat) : Int) by omega, iI_n]
          rw [hsg]
          exact hstep _ _ (step_shift hw hch (by omega) ha hX (by omega) t2 hl)
/-- the reader's state against the reference's -/
def rdR (wd gv : Nat) (f : Nat → Int64) (inp : Nat → Int32) (pf : Nat → Int64) (ch : (Nat → Int32) × Int32) (rab : Nat → Bool) (rd : Int32 × Int32) (an ps st : Int32) : Prop :=
  gv ≤ 65536 ∧ inR f gv inp ∧ linR wd pf rab ∧ chR wd ch rab ∧ rd.1 = ps ∧ an = st ∧ (st = 1 ∨ st ≤ 0) ∧ ∃ P : Nat, P ≤ 8 * gv ∧ ps = nI P
theorem readSteps_R {wd gv : Nat} (hw : wd ≤ 10000) (hg : gv ≤ 65536) {f : Nat → Int64} {inp : Nat → Int32} (hin : inR f gv inp) {rab : Nat → Bool} {ch : (Nat → Int32) × Int32} (hch : chR wd ch rab) {p : Nat} (hp : p ≤ 8 * gv) (y : Int32) (zf : Nat → Int64) (zr : Nat → Bool) (hz : pdW wd zf) (th lns : Int32) (tu : Bool) :
    lineO wd rab lns (8 * gv) (f_Reader_readSteps wd ch (f, nI (8 * gv)) f_Tree_init (nI p, y) (nI (cN (isC rab) (min 0 wd)), -1, false, nI (b1N rab wd 0 false), nI (b2N rab wd 0 false)) zf) (f_Model_read wd (nI gv) inp th lns (nI p) 1 tu zr rab) := by
  have hE : 8 * gv ≤ 524288 := by omega
  have hl0 : lnI wd 0 zf zr := ⟨fun i h => by omega, hz⟩
  obtain ⟨q, hq⟩ : ∃ q, q = rdF 1 (gb f) (8 * gv) p := ⟨_, rfl⟩
  have hq10 := rd_lt (r := 1) (M := 10) (Or.inr ⟨rfl, rfl⟩) (gb f) (8 * gv) p
  rw [← hq] at hq10
  obtain ⟨t1, t2, t3, t4⟩ := take_f hE (r := 1) (by decide) hp y hq.symm
  have t1' : f_Reader_take (f, nI (8 * gv)) f_Tree_init (nI p, y) 1 = (iI q.1, if 0 ≤ q.1 then (nI q.2, nI p) else (nI p, nI p)) := t1
  have hmr : f_Model_read wd (nI gv) inp th lns (nI p) 1 tu zr rab = l_Model_read_22 wd (nI gv) inp th lns (nI p) 1 tu zr rab ((if Int32.toInt 1 ≤ 0 then 0 else ((wd : Int) - Int32.toInt ((-1) : Int32)).toNat + 1) + 1) (nI p) 1 tu zr (-1) false := by
    unfold f_Model_read
    rw [if_pos (show (1 : Int32) ≤ 1 by decide)]
  have hfu : (if Int32.toInt 1 ≤ 0 then 0 else ((wd : Int) - Int32.toInt ((-1) : Int32)).toNat + 1) + 1 = wd + 3 := by
    rw [if_neg (by decide), ti_m1]; omega
  rw [hfu] at hmr
  by_cases h9 : q.1 = 9
  · -- END
    have t4' := t4 (by omega)
    obtain ⟨e, he⟩ : ∃ e, e = rdF 2 (gb f) (8 * gv) q.2 := ⟨_, rfl⟩
    obtain ⟨u1, u2, u3, u4⟩ := take_f hE (r := 2) (by decide) t2 (nI p) he.symm
    have u1' : f_Reader_take (f, nI (8 * gv)) f_Tree_init (nI q.2, nI p) 2 = (iI e.1, if 0 ≤ e.1 then (nI e.2, nI q.2) else (nI q.2, nI q.2)) := u1
    have hpc := piece_end (wd := wd) hg hin (rab := rab) (rln := zr) (tu := tu) (bk := false) (X := 0) (a := -1) (by decide) (by omega) hp (q := q) (by rw [hq]; rfl) h9 t2 he.symm
    have hcl : f_Reader_readSteps wd ch (f, nI (8 * gv)) f_Tree_init (nI p, y) (nI (cN (isC rab) (min 0 wd)), -1, false, nI (b1N rab wd 0 false), nI (b2N rab wd 0 false)) zf = if 0 ≤ e.1 then (0, ((nI e.2, nI q.2), (nI (cN (isC rab) (min 0 wd)), -1, false, nI (b1N rab wd 0 false), nI (b2N rab wd 0 false)), zf)) else (iI e.1, ((nI q.2, nI q.2), (nI (cN (isC rab) (min 0 wd)), -1, false, nI (b1N rab wd 0 false), nI (b2N rab wd 0 false)), zf)) := by
      unfold f_Reader_readSteps
      rw [t1', h9]
      dsimp only
      rw [if_pos (show iI 9 = 9 by decide), if_pos (show (0 : Int) ≤ 9 by decide), u1']
      dsimp only
      by_cases h0 : 0 ≤ e.1
      · have u4' := u4 h0
        obtain ⟨ε, hε⟩ : ∃ ε : Nat, e.1 = ε := ⟨e.1.toNat, by omega⟩
        rw [if_pos h0, if_pos h0, hε, iI_n, if_pos (nI_pos' (by omega))]
      · have hn := iI_neg (z := e.1) (by rcases u3 (by omega) with e | e <;> omega) (by omega)
        rw [if_neg h0, if_neg h0, if_neg (Int32.not_le.mpr hn)]
    rw [hcl, hmr, l_Model_read_22, if_neg (show ¬ nI wd ≤ -1 by rw [ti_le, nI_toInt (by omega), ti_m1]; omega), if_neg (show ¬ (1 : Int32) ≤ 0 by decide), hpc]
    dsimp only
    have hfin : ∀ (zp zs : Int32) (zt : Bool), zs ≤ 0 → (if bI zt = 0 then l_Model_read_22 wd (nI gv) inp th lns (nI p) 1 tu zr rab (wd + 2) zp zs zt zr (-1) false else (if bI false = 0 then l_Model_read_22 wd (nI gv) inp th lns (nI p) 1 tu zr rab (wd + 2) zp zs zt zr (-1) true else l_Model_read_22 wd (nI gv) inp th lns (nI p) 1 tu zr rab (wd + 2) zp zs zt zr (-1) false)) = (zs, (0, lns, zp, zs, zt, zr, rab)) := by
      intro zp zs zt hz
      have h1 : ¬ (1 : Int32) ≤ zs := by rw [ti_le, ti_0] at hz; rw [ti_le, ti_1]; omega
      have key : ∀ b, l_Model_read_22 wd (nI gv) inp th lns (nI p) 1 tu zr rab (wd + 2) zp zs zt zr (-1) b = (zs, (0, lns, zp, zs, zt, zr, rab)) := by
        intro b
        rw [l_Model_read_22, if_neg (show ¬ nI wd ≤ -1 by rw [ti_le, nI_toInt (by omega), ti_m1]; omega), if_pos hz, if_neg h1]
      rw [key, key]
      split
      · rfl
      · split <;> rfl
    by_cases h0 : 0 ≤ e.1
    · rw [if_pos h0, if_pos h0]
      dsimp only
      refine ⟨e.2, nI q.2, _, zf, tu, zr, u2, hz, Or.inr ⟨0, by omega, by omega, rfl, ?_⟩⟩
      exact hfin (nI e.2) 0 tu (by decide)
    · have hn := iI_neg (z := e.1) (by rcases u3 (by omega) with e | e <;> omega) (by omega)
      rw [if_neg h0, if_neg h0]
      dsimp only
      refine ⟨q.2, nI q.2, _, zf, tu, zr, t2, hz, Or.inr ⟨e.1, by rcases u3 (by omega) with e | e <;> omega, by omega, rfl, ?_⟩⟩
      exact hfin (nI q.2) (iI e.1) tu (Int32.le_of_lt hn)
  · have hr0 : rootX 0 = 1 := rfl
    have := rl_30 hw hg hin hch (nI p, y) (nI (cN (isC rab) (min 0 wd)), -1, false, nI (b1N rab wd 0 false), nI (b2N rab wd 0 false)) zf th lns (nI p) 1 tu zr (wd + 1) (((nI wd).toInt + 1 - Int32.toInt (0 : Int32)).toNat + 1) (wd + 3) 0 p 0 (-1) y false tu zf zr rfl (by rw [nI_toInt (by omega), ti_0]; omega) (by omega) (by omega) hp (by omega) (by decide) hl0 (by rw [hr0, ← hq]; omega)
    rw [hr0] at this
    rw [hmr]
    have hcl : f_Reader_readSteps wd ch (f, nI (8 * gv)) f_Tree_init (nI p, y) (nI (cN (isC rab) (min 0 wd)), -1, false, nI (b1N rab wd 0 false), nI (b2N rab wd 0 false)) zf = l_Reader_readSteps_30 wd ch (f, nI (8 * gv)) f_Tree_init (nI p, y) (nI (cN (isC rab) (min 0 wd)), -1, false, nI (b1N rab wd 0 false), nI (b2N rab wd 0 false)) zf (((nI wd).toInt + 1 - Int32.toInt (0 : Int32)).toNat + 1) (f_Reader_take (f, nI (8 * gv)) f_Tree_init (nI p, y) 1).2 (nI (cN (isC rab) (min 0 wd)), -1, false, nI (b1N rab wd 0 false), nI (b2N rab wd 0 false)) zf (f_Reader_take (f, nI (8 * gv)) f_Tree_init (nI p, y) 1).1 0 := by
      unfold f_Reader_readSteps
      dsimp only
      have hne : ¬ (f_Reader_take (f, nI (8 * gv)) f_Tree_init (nI p, y) 1).1 = 9 := by
        rw [t1']
        dsimp only
        by_cases hneg : q.1 < 0
        · have hn := iI_neg (z := q.1) (by rcases t3 hneg with e | e <;> omega) hneg
          intro e9
          rw [e9] at hn
          exact absurd hn (by decide)
        · obtain ⟨μ, hμ⟩ : ∃ μ : Nat, q.1 = μ := ⟨q.1.toNat, by omega⟩
          rw [hμ, iI_n]
          intro e9
          have := (nI_eq (b := 9) (by omega) (by decide)).mp e9
          omega
      rw [if_neg hne]
    rw [hcl]
    exact this
/-- promise 11 -/
theorem read_R {wd gv : Nat} (hw : wd ≤ 10000) {f : Nat → Int64} {inp : Nat → Int32} {rd : Int32 × Int32} {rsp : Int32 × Int32 × Bool × Int32 × Int32} {apf fp : Nat → Int64} {ach fc : (Nat → Int32) × Int32} {rad fad : Nat × Nat × Nat} {rab : Nat} {an rli th ps st : Int32} {tu : Bool} {rln rabo : Nat → Bool}
    (h : rdR wd gv f inp apf ach rabo rd an ps st) (hpd : pdW wd fp) :
    ∃ (r : Int32) (rd1 : Int32 × Int32) (sp1 : Int32 × Int32 × Bool × Int32 × Int32) (apf1 fp1 : Nat → Int64) (ach1 fc1 : (Nat → Int32) × Int32) (rad1 fad1 : Nat × Nat × Nat) (rab1 : Nat) (rli1 an1 ps1 st1 : Int32) (tu1 : Bool) (rln1 rabo1 : Nat → Bool),
      f_Reader_nextLine wd (f, nI (8 * gv)) f_Tree_init rd rsp apf ach fp fc rad fad rab rli an = (r, (rd1, sp1, apf1, ach1, fp1, fc1, rad1, fad1, rab1, rli1, an1)) ∧ f_Model_read wd (nI gv) inp th rli ps st tu rln rabo = (r, (0, rli1, ps1, st1, tu1, rln1, rabo1)) ∧ rdR wd gv f inp apf1 ach1 rabo1 rd1 an1 ps1 st1 ∧ pdW wd fp1 := by
  obtain ⟨hg, hin, hli, hch, hrd, han, hst, P, hP, hps⟩ := h
  subst han
  subst hps
  obtain ⟨rd1, y⟩ := rd
  dsimp only at hrd
  subst hrd
  by_cases h1 : an = 1
  · subst h1
    have hbeg : f_Spot_begin wd ach rsp = (nI (cN (isC rabo) (min 0 wd)), -1, false, nI (b1N rabo wd 0 false), nI (b2N rabo wd 0 false)) := by
      unfold f_Spot_begin
      exact move_f hw hch (X := 0) (i0 := 0) (to := -1) (by decide) (by omega) (Nat.zero_le _) rsp.2 false
    obtain ⟨Q, y', zs, zf, zt, zr, hQ, hpz, hO⟩ := readSteps_R hw hg hin hch hP y fp rln hpd th rli tu
    unfold f_Reader_nextLine
    rw [if_pos rfl, hbeg]
    dsimp only
    rcases hO with ⟨e1, e2, e3⟩ | ⟨z, z1, z2, e1, e2⟩
    · rw [e1, e2]
      dsimp only
      rw [if_pos rfl]
      have hlin : linR wd zf (cpR rabo zr 0 wd) := ⟨fun i hi => by rw [e3.1 i (by omega) hi]; unfold cpR; rw [if_pos (by omega)], e3.2⟩
      exact ⟨_, _, _, _, _, _, _, _, _, _, _, _, _, _, _, _, _, rfl, rfl, ⟨hg, hin, hlin, fc_R hw hlin _, rfl, rfl, Or.inl rfl, Q, hQ, rfl⟩, hli.2⟩
    · have hne : ¬ iI z = 1 := by
        rcases (show z = 0 ∨ z = -6 ∨ z = -5 ∨ z = -4 ∨ z = -3 ∨ z = -2 ∨ z = -1 by omega) with e | e | e | e | e | e | e <;> rw [e] <;> decide
      have hle : iI z ≤ 0 := by
        rcases (show z = 0 ∨ z = -6 ∨ z = -5 ∨ z = -4 ∨ z = -3 ∨ z = -2 ∨ z = -1 by omega) with e | e | e | e | e | e | e <;> rw [e] <;> decide
      rw [e1, e2]
      dsimp only
      rw [if_neg hne]
      exact ⟨_, _, _, _, _, _, _, _, _, _, _, _, _, _, _, _, _, rfl, rfl, ⟨hg, hin, hli, hch, rfl, rfl, Or.inr hle, Q, hQ, rfl⟩, hpz⟩
  · have hle : an ≤ 0 := by rcases hst with e | e; exact absurd e h1; exact e
    have hn1 : ¬ (1 : Int32) ≤ an := by rw [ti_le, ti_0] at hle; rw [ti_le, ti_1]; omega
    unfold f_Reader_nextLine f_Model_read
    rw [if_neg h1, if_neg hn1]
    exact ⟨_, _, _, _, _, _, _, _, _, _, _, _, _, _, _, _, _, rfl, rfl, ⟨hg, hin, hli, hch, rfl, rfl, Or.inr hle, P, hP, rfl⟩, hpd⟩
