/-! the law: what holds between the class's state and the reference's -/
def LI (wd : Nat) (ou : (Nat → Int64) × Int32) (ct : Int32 × Int32 × Int32) (pf : Nat → Int64) (ch : (Nat → Int32) × Int32) (mpf : Nat → Int64) (cl : Bool) (cli : Int32) (rd : Int32 × Int32) (apf : Nat → Int64) (ach : (Nat → Int32) × Int32) (rli an : Int32) (inn : (Nat → Int64) × Int32) (bt : Int32) (mcl : Bool) (cd : Int32) (c3 : Int32 × Int32 × Int32) (gv lns ps st : Int32) (lin abo out : Nat → Bool) (inp : Nat → Int32) (rabo : Nat → Bool) : Prop :=
  codR wd ou pf ch mpf bt lin abo out ∧ mcl = cl ∧ cd = cli ∧ c3 = ct ∧ lns = rli ∧ ∃ g : Nat, inn.2 = nI (8 * g) ∧ gv = nI g ∧ rdR wd g inn.1 inp apf ach rabo rd an ps st
/-- LI, and the line that is to come is white behind the WIDTH -/
def LIP (wd : Nat) (ou : (Nat → Int64) × Int32) (ct : Int32 × Int32 × Int32) (pf : Nat → Int64) (ch : (Nat → Int32) × Int32) (mpf : Nat → Int64) (cl : Bool) (cli : Int32) (rd : Int32 × Int32) (apf : Nat → Int64) (ach : (Nat → Int32) × Int32) (rli an : Int32) (inn : (Nat → Int64) × Int32) (bt : Int32) (mcl : Bool) (cd : Int32) (c3 : Int32 × Int32 × Int32) (gv lns ps st : Int32) (lin abo out : Nat → Bool) (inp : Nat → Int32) (rabo : Nat → Bool) (fp : Nat → Int64) : Prop :=
  LI wd ou ct pf ch mpf cl cli rd apf ach rli an inn bt mcl cd c3 gv lns ps st lin abo out inp rabo ∧ pdW wd fp
section LIA
variable {wd : Nat} {ou : (Nat → Int64) × Int32} {ct : Int32 × Int32 × Int32} {pf : Nat → Int64} {ch : (Nat → Int32) × Int32} {mpf : Nat → Int64} {cl : Bool} {cli : Int32} {rd : Int32 × Int32} {apf : Nat → Int64} {ach : (Nat → Int32) × Int32} {rli an : Int32} {inn : (Nat → Int64) × Int32} {bt : Int32} {mcl : Bool} {cd : Int32} {c3 : Int32 × Int32 × Int32} {gv lns ps st : Int32} {lin abo out : Nat → Bool} {inp : Nat → Int32} {rabo : Nat → Bool}
theorem li_bt (h : LI wd ou ct pf ch mpf cl cli rd apf ach rli an inn bt mcl cd c3 gv lns ps st lin abo out inp rabo) : 0 ≤ bt.toInt ∧ bt.toInt ≤ 524288 := by
  obtain ⟨⟨f, c, -, hc, rfl, -⟩, -⟩ := h
  rw [nI_toInt (by omega)]; omega
theorem li_gv (h : LI wd ou ct pf ch mpf cl cli rd apf ach rli an inn bt mcl cd c3 gv lns ps st lin abo out inp rabo) : 0 ≤ gv.toInt ∧ gv.toInt ≤ 65536 := by
  obtain ⟨-, -, -, -, -, g, -, rfl, hg, -⟩ := h
  rw [nI_toInt (by omega)]; omega
theorem li_ps (h : LI wd ou ct pf ch mpf cl cli rd apf ach rli an inn bt mcl cd c3 gv lns ps st lin abo out inp rabo) : 0 ≤ ps.toInt ∧ ps.toInt ≤ 8 * gv.toInt := by
  obtain ⟨-, -, -, -, -, g, -, rfl, hg, -, -, -, -, -, -, P, hP, rfl⟩ := h
  rw [nI_toInt (by omega), nI_toInt (by omega)]; omega
theorem li_paint (hw : wd ≤ 10000) (h : LI wd ou ct pf ch mpf cl cli rd apf ach rli an inn bt mcl cd c3 gv lns ps st lin abo out inp rabo) (th fr n : Int32) (bk : Bool) :
    (f_DL_paint wd mpf fr n bk).1 = (f_Model_paint wd th lin fr n bk).1 ∧ LI wd ou ct pf ch (f_DL_paint wd mpf fr n bk).2 cl cli rd apf ach rli an inn bt mcl cd c3 gv lns ps st (f_Model_paint wd th lin fr n bk).2.2 abo out inp rabo := by
  obtain ⟨⟨f, c, h1, hc, h2, hrow, hlm, h3⟩, hr⟩ := h
  obtain ⟨a, b⟩ := paint_R hw hlm th fr n bk
  exact ⟨a, ⟨f, c, h1, hc, h2, hrow, b, h3⟩, hr⟩
theorem li_out (h : LI wd ou ct pf ch mpf cl cli rd apf ach rli an inn bt mcl cd c3 gv lns ps st lin abo out inp rabo) (th x : Int32) : f_DL_out ou x = (f_Model_out bt out th x).1 := by
  obtain ⟨⟨f, c, rfl, hc, rfl, hrow, -⟩, -⟩ := h
  rw [out_R hc hrow th x]
theorem li_dots (hw : wd ≤ 10000) (h : LI wd ou ct pf ch mpf cl cli rd apf ach rli an inn bt mcl cd c3 gv lns ps st lin abo out inp rabo) (th x : Int32) : f_DL_dots wd apf x = (f_Model_dots wd rabo th x).1 := by
  obtain ⟨-, -, -, -, -, g, -, -, -, -, hl, -⟩ := h
  rw [dots_R hw hl th x]
theorem li_change (hw : wd ≤ 10000) (h : LI wd ou ct pf ch mpf cl cli rd apf ach rli an inn bt mcl cd c3 gv lns ps st lin abo out inp rabo) (th x : Int32) : f_DL_change wd ach x = (f_Model_change wd rabo th x).1 := by
  obtain ⟨-, -, -, -, -, g, -, -, -, -, -, hl, -⟩ := h
  rw [change_R hw hl th x]
theorem li_look (h : LI wd ou ct pf ch mpf cl cli rd apf ach rli an inn bt mcl cd c3 gv lns ps st lin abo out inp rabo) (th x : Int32) : f_DL_look wd cl cli ct rli rd ou inn x = (f_Model_look wd bt mcl cd c3 gv lns ps th x).1 := by
  obtain ⟨⟨f, c, rfl, hc, rfl, -⟩, rfl, rfl, rfl, rfl, g, hi, rfl, hg, -, -, -, hp, -⟩ := h
  obtain ⟨fi, i2⟩ := inn
  subst hi; subst hp
  rw [look_R wd mcl cd lns th c3 rd f fi c g hg x]
theorem li_give (h : LI wd ou ct pf ch mpf cl cli rd apf ach rli an inn bt mcl cd c3 gv lns ps st lin abo out inp rabo) (th : Int32) (x : Int64) (n : Int32) (hgx : gv.toInt ≤ Int32.toInt (f_Model_give th gv inp x n).2.2.1) :
    (f_DL_give inn x n).1 = (f_Model_give th gv inp x n).1 ∧ LI wd ou ct pf ch mpf cl cli rd apf ach rli an (f_DL_give inn x n).2 bt mcl cd c3 (f_Model_give th gv inp x n).2.2.1 lns ps st lin abo out (f_Model_give th gv inp x n).2.2.2 rabo := by
  obtain ⟨h0, h1, h2, h3, h4, g, hi, rfl, hg, hin, hl, hc, hd, ha, hs, P, hP, hp⟩ := h
  obtain ⟨fi, i2⟩ := inn
  subst hi
  obtain ⟨f1, g1, inp1, r, e1, e2, b1, b2⟩ := give_R hg hin th x n
  rw [e2] at hgx
  have hle : g ≤ g1 := by
    have h9 : (nI g).toInt ≤ (nI g1).toInt := hgx
    rw [nI_toInt (by omega), nI_toInt (by omega)] at h9; omega
  rw [e1, e2]
  exact ⟨rfl, h0, h1, h2, h3, h4, g1, rfl, rfl, b1, b2, hl, hc, hd, ha, hs, P, by omega, hp⟩
theorem stw0 (of : Nat → Bool) (wd : Nat) : ∀ i, i < wd → stR of 0 wd false i = false := by
  intro i hi
  unfold stR
  rw [if_pos ⟨Nat.zero_le _, hi⟩]
theorem li_clear (hw : wd ≤ 10000) (h : LI wd ou ct pf ch mpf cl cli rd apf ach rli an inn bt mcl cd c3 gv lns ps st lin abo out inp rabo) (th : Int32) (ft : Bool) (sp : Int32 × Int32 × Bool × Int32 × Int32) (mch : (Nat → Int32) × Int32) (mad aad : Nat × Nat × Nat) (ab : Nat) :
    LI wd (f_DL_clear wd ou ft ct sp pf ch mpf mch mad aad ab cl cli).1 (f_DL_clear wd ou ft ct sp pf ch mpf mch mad aad ab cl cli).2.2.1 (f_DL_clear wd ou ft ct sp pf ch mpf mch mad aad ab cl cli).2.2.2.2.1 (f_DL_clear wd ou ft ct sp pf ch mpf mch mad aad ab cl cli).2.2.2.2.2.1 (f_DL_clear wd ou ft ct sp pf ch mpf mch mad aad ab cl cli).2.2.2.2.2.2.1 (f_DL_clear wd ou ft ct sp pf ch mpf mch mad aad ab cl cli).2.2.2.2.2.2.2.2.2.2.2.1 (f_DL_clear wd ou ft ct sp pf ch mpf mch mad aad ab cl cli).2.2.2.2.2.2.2.2.2.2.2.2 rd apf ach rli an inn (f_Model_clear wd th bt mcl cd c3 lin abo).2.1 (f_Model_clear wd th bt mcl cd c3 lin abo).2.2.1 (f_Model_clear wd th bt mcl cd c3 lin abo).2.2.2.1 (f_Model_clear wd th bt mcl cd c3 lin abo).2.2.2.2.1 gv lns ps st (f_Model_clear wd th bt mcl cd c3 lin abo).2.2.2.2.2.1 (f_Model_clear wd th bt mcl cd c3 lin abo).2.2.2.2.2.2 out inp rabo := by
  obtain ⟨⟨f, c, rfl, hc, rfl, hrow, hlm, hla, hca⟩, -, -, -, hr⟩ := h
  rw [mcl_f hw]
  obtain ⟨g', e1, e2⟩ := cut_f (t := 0) hc (Nat.zero_le _) hrow.clean
  have e1' : f_Bits_cut (f, nI c) 0 = (g', nI 0) := e1
  unfold f_DL_clear f_Coder_begin
  dsimp only
  rw [e1']
  refine ⟨⟨g', 0, rfl, Nat.zero_le _, rfl, fun i hi => ?_, whiten_R hw mpf mch lin, whiten_R hw pf ch abo, ?_⟩, rfl, rfl, rfl, hr⟩
  · rw [e2 i hi]; simp
  · rw [(whiten_f hw pf ch).1]
    exact chR_white _ (stw0 abo wd)
theorem rd_begin (hw : wd ≤ 10000) {g : Nat} (hg : g ≤ 65536) {f : Nat → Int64} (hin : inR f g inp) : rdR wd g f inp (f_Reader_begin wd rd apf ach rli an).2.1 (f_Reader_begin wd rd apf ach rli an).2.2.1 (stR rabo 0 wd false) (f_Reader_begin wd rd apf ach rli an).1 (f_Reader_begin wd rd apf ach rli an).2.2.2.2 0 1 := by
  unfold f_Reader_begin
  dsimp only
  refine ⟨hg, hin, whiten_R hw apf ach rabo, ?_, rfl, rfl, Or.inl rfl, 0, Nat.zero_le _, rfl⟩
  rw [(whiten_f hw apf ach).1]
  exact chR_white _ (stw0 rabo wd)
theorem li_rewind (hw : wd ≤ 10000) (h : LI wd ou ct pf ch mpf cl cli rd apf ach rli an inn bt mcl cd c3 gv lns ps st lin abo out inp rabo) (th : Int32) :
    LI wd ou ct pf ch mpf cl cli (f_DL_rewind wd rd apf ach rli an).1 (f_DL_rewind wd rd apf ach rli an).2.1 (f_DL_rewind wd rd apf ach rli an).2.2.1 (f_DL_rewind wd rd apf ach rli an).2.2.2.1 (f_DL_rewind wd rd apf ach rli an).2.2.2.2 inn bt mcl cd c3 gv (f_Model_rewind wd th lns ps st rabo).2.1 (f_Model_rewind wd th lns ps st rabo).2.2.1 (f_Model_rewind wd th lns ps st rabo).2.2.2.1 lin abo out inp (f_Model_rewind wd th lns ps st rabo).2.2.2.2 := by
  obtain ⟨h0, h1, h2, h3, -, g, hi, hgv, hg, hin, -⟩ := h
  unfold f_Model_rewind f_DL_rewind
  dsimp only
  rw [mb_f hw]
  exact ⟨h0, h1, h2, h3, rfl, g, hi, hgv, rd_begin hw hg hin⟩
theorem li_wipe (hw : wd ≤ 10000) (h : LI wd ou ct pf ch mpf cl cli rd apf ach rli an inn bt mcl cd c3 gv lns ps st lin abo out inp rabo) (th : Int32) :
    LI wd ou ct pf ch mpf cl cli (f_DL_wipe wd rd apf ach rli an inn).1 (f_DL_wipe wd rd apf ach rli an inn).2.1 (f_DL_wipe wd rd apf ach rli an inn).2.2.1 (f_DL_wipe wd rd apf ach rli an inn).2.2.2.1 (f_DL_wipe wd rd apf ach rli an inn).2.2.2.2.1 (f_DL_wipe wd rd apf ach rli an inn).2.2.2.2.2 bt mcl cd c3 (f_Model_wipe wd th gv lns ps st rabo).2.1 (f_Model_wipe wd th gv lns ps st rabo).2.2.1 (f_Model_wipe wd th gv lns ps st rabo).2.2.2.1 (f_Model_wipe wd th gv lns ps st rabo).2.2.2.2.1 lin abo out inp (f_Model_wipe wd th gv lns ps st rabo).2.2.2.2.2 := by
  obtain ⟨h0, h1, h2, h3, -, g, hi, hgv, hg, hin, -⟩ := h
  obtain ⟨fi, i2⟩ := inn
  subst hi
  obtain ⟨g', e1, e2⟩ := cut_f (t := 0) (c := 8 * g) (by omega) (Nat.zero_le _) hin.clean
  have e1' : f_Bits_cut (fi, nI (8 * g)) 0 = (g', nI 0) := e1
  unfold f_Model_wipe f_DL_wipe
  dsimp only
  rw [mb_f hw, e1']
  refine ⟨h0, h1, h2, h3, rfl, 0, rfl, rfl, rd_begin hw (Nat.zero_le _) (fun i hi => ?_)⟩
  rw [e2 i hi]; simp
theorem li_read (hw : wd ≤ 10000) (h : LI wd ou ct pf ch mpf cl cli rd apf ach rli an inn bt mcl cd c3 gv lns ps st lin abo out inp rabo) {fp : Nat → Int64} (hpd : pdW wd fp) (th : Int32) (tu : Bool) (rln : Nat → Bool) (rsp : Int32 × Int32 × Bool × Int32 × Int32) (fc : (Nat → Int32) × Int32) (rad fad : Nat × Nat × Nat) (rab : Nat) :
    (f_DL_read wd inn f_Tree_init rd rsp apf ach fp fc rad fad rab rli an).1 = (f_Model_read wd gv inp th lns ps st tu rln rabo).1 ∧
    LI wd ou ct pf ch mpf cl cli (f_DL_read wd inn f_Tree_init rd rsp apf ach fp fc rad fad rab rli an).2.1 (f_DL_read wd inn f_Tree_init rd rsp apf ach fp fc rad fad rab rli an).2.2.2.1 (f_DL_read wd inn f_Tree_init rd rsp apf ach fp fc rad fad rab rli an).2.2.2.2.1 (f_DL_read wd inn f_Tree_init rd rsp apf ach fp fc rad fad rab rli an).2.2.2.2.2.2.2.2.2.2.1 (f_DL_read wd inn f_Tree_init rd rsp apf ach fp fc rad fad rab rli an).2.2.2.2.2.2.2.2.2.2.2 inn bt mcl cd c3 gv (f_Model_read wd gv inp th lns ps st tu rln rabo).2.2.1 (f_Model_read wd gv inp th lns ps st tu rln rabo).2.2.2.1 (f_Model_read wd gv inp th lns ps st tu rln rabo).2.2.2.2.1 lin abo out inp (f_Model_read wd gv inp th lns ps st tu rln rabo).2.2.2.2.2.2.2 ∧
    pdW wd (f_DL_read wd inn f_Tree_init rd rsp apf ach fp fc rad fad rab rli an).2.2.2.2.2.1 := by
  obtain ⟨h0, h1, h2, h3, rfl, g, hi, rfl, hr⟩ := h
  obtain ⟨fi, i2⟩ := inn
  subst hi
  obtain ⟨r, rd1, sp1, apf1, fp1, ach1, fc1, rad1, fad1, rab1, rli1, an1, ps1, st1, tu1, rln1, rabo1, e1, e2, e3, e4⟩ := read_R (rsp := rsp) (fp := fp) (fc := fc) (rad := rad) (fad := fad) (rab := rab) (rli := lns) (th := th) (tu := tu) (rln := rln) hw hr hpd
  unfold f_DL_read
  dsimp only at e1 e2 e3 ⊢
  rw [e1, e2]
  exact ⟨rfl, ⟨h0, h1, h2, h3, rfl, g, rfl, rfl, e3⟩, e4⟩
theorem cmp0 (x : Int64) : lg_cmp x x = 0 := by unfold lg_cmp; simp
theorem li_code (hw : wd ≤ 10000) (h : LI wd ou ct pf ch mpf cl cli rd apf ach rli an inn bt mcl cd c3 gv lns ps st lin abo out inp rabo) (th : Int32) (ft : Bool) (sp : Int32 × Int32 × Bool × Int32 × Int32) (mch : (Nat → Int32) × Int32) (mad aad : Nat × Nat × Nat) (ab : Nat) (of : Nat → Int64) (nx : Int32) (w3 : Int32 × Int32 × Int32) (nex : Nat → Bool) :
    f_Model_thrown (f_Model_code wd mcl th bt cd c3 nx w3 lin abo nex out).2.1 = (f_Law_code wd ou ft ct sp pf ch mpf mch mad aad ab cl cli of).1 ∧ ((f_Law_code wd ou ft ct sp pf ch mpf mch mad aad ab cl cli of).1 = 0 → lg_cmp ((f_Law_code wd ou ft ct sp pf ch mpf mch mad aad ab cl cli of).2.2.2.2.2.2.2.2.2.2.2.2.2.2 (0 : Int32).toNatClampNeg) (f_Model_code wd mcl th bt cd c3 nx w3 lin abo nex out).1.toInt64 = 0) ∧
    LI wd (f_Law_code wd ou ft ct sp pf ch mpf mch mad aad ab cl cli of).2.1 (f_Law_code wd ou ft ct sp pf ch mpf mch mad aad ab cl cli of).2.2.2.1 (f_Law_code wd ou ft ct sp pf ch mpf mch mad aad ab cl cli of).2.2.2.2.2.1 (f_Law_code wd ou ft ct sp pf ch mpf mch mad aad ab cl cli of).2.2.2.2.2.2.1 (f_Law_code wd ou ft ct sp pf ch mpf mch mad aad ab cl cli of).2.2.2.2.2.2.2.1 (f_Law_code wd ou ft ct sp pf ch mpf mch mad aad ab cl cli of).2.2.2.2.2.2.2.2.2.2.2.2.1 (f_Law_code wd ou ft ct sp pf ch mpf mch mad aad ab cl cli of).2.2.2.2.2.2.2.2.2.2.2.2.2.1 rd apf ach rli an inn (f_Model_code wd mcl th bt cd c3 nx w3 lin abo nex out).2.2.1 mcl (f_Model_code wd mcl th bt cd c3 nx w3 lin abo nex out).2.2.2.1 (f_Model_code wd mcl th bt cd c3 nx w3 lin abo nex out).2.2.2.2.1 gv lns ps st (f_Model_code wd mcl th bt cd c3 nx w3 lin abo nex out).2.2.2.2.2.2.2.1 (f_Model_code wd mcl th bt cd c3 nx w3 lin abo nex out).2.2.2.2.2.2.2.2.1 (f_Model_code wd mcl th bt cd c3 nx w3 lin abo nex out).2.2.2.2.2.2.2.2.2.2 inp rabo := by
  obtain ⟨h0, rfl, rfl, rfl, hr⟩ := h
  have hneg : ∀ N : Nat, N ≤ 130000 → ¬ nI N = (-1 : Int32) := fun N hN h9 => by
    have h8 : (nI N).toInt = (-1 : Int32).toInt := by rw [h9]
    rw [nI_toInt (by omega), ti_m1] at h8; omega
  rcases code_R (ft := ft) (ct := c3) (sp := sp) (mch := mch) (mad := mad) (aad := aad) (ab := ab) (cl := mcl) (li := cd) (th := th) (nx := nx) (w3 := w3) (nex := nex) hw h0 with ⟨a1, -, f1, ft1, sp1, mch1, ab1, nx1, w31, nex1, a2, a3, a4⟩ | ⟨N, hN, a1, a2, ou1, ct1, sp1, ch1, mch1, mpf1, ab1, bt1, nx1, w31, lin1, abo1, nex1, out1, -, a3, a4, a5⟩
  · have hd : f_DL_code wd ou ft c3 sp pf ch mpf mch mad aad ab mcl cd = (none, ((f1, ou.2), ft1, c3, sp1, pf, ch, mpf, mch1, mad, aad, ab1, mcl, cd)) := by
      unfold f_DL_code
      dsimp only
      rw [a1, if_pos rfl, a2]
    have hl : f_Law_code wd ou ft c3 sp pf ch mpf mch mad aad ab mcl cd of = (1, ((f1, ou.2), ft1, c3, sp1, pf, ch, mpf, mch1, mad, aad, ab1, mcl, cd, of)) := by
      unfold f_Law_code
      rw [hd]; rfl
    rw [hl, a3]
    exact ⟨rfl, fun h9 => absurd h9 (show ¬ (1 : Int32) = 0 by decide), a4, rfl, rfl, rfl, hr⟩
  · have hd : f_DL_code wd ou ft c3 sp pf ch mpf mch mad aad ab mcl cd = (some (nI N), (ou1, true, ct1, sp1, mpf, ch1, mpf1, mch1, aad, mad, ab1, mcl, cd + 1)) := by
      unfold f_DL_code
      dsimp only
      rw [a1, if_neg (hneg N hN), a3]
    have hl : f_Law_code wd ou ft c3 sp pf ch mpf mch mad aad ab mcl cd of = (0, (ou1, true, ct1, sp1, mpf, ch1, mpf1, mch1, aad, mad, ab1, mcl, cd + 1, vp_updL of (0 : Int32).toNatClampNeg (nI N).toInt64)) := by
      unfold f_Law_code
      rw [hd]; rfl
    rw [hl, a4, a2]
    refine ⟨rfl, fun _ => ?_, a5, rfl, rfl, rfl, hr⟩
    show lg_cmp (vp_updL of 0 (nI N).toInt64 0) (nI N).toInt64 = 0
    rw [show vp_updL of 0 (nI N).toInt64 0 = (nI N).toInt64 from rfl, cmp0]
theorem li_close (h : LI wd ou ct pf ch mpf cl cli rd apf ach rli an inn bt mcl cd c3 gv lns ps st lin abo out inp rabo) (th : Int32) (ft : Bool) (of : Nat → Int64) (nx : Int32) (nex : Nat → Bool) :
    f_Model_thrown (f_Model_close th bt mcl nx nex out).2.1 = (f_Law_close ou ft cl of).1 ∧ ((f_Law_close ou ft cl of).1 = 0 → lg_cmp ((f_Law_close ou ft cl of).2.2.2.2 (0 : Int32).toNatClampNeg) (f_Model_close th bt mcl nx nex out).1.toInt64 = 0) ∧
    LI wd (f_Law_close ou ft cl of).2.1 ct pf ch mpf (f_Law_close ou ft cl of).2.2.2.1 cli rd apf ach rli an inn (f_Model_close th bt mcl nx nex out).2.2.1 (f_Model_close th bt mcl nx nex out).2.2.2.1 cd c3 gv lns ps st lin abo (f_Model_close th bt mcl nx nex out).2.2.2.2.2.2 inp rabo := by
  obtain ⟨⟨f, c, ho, hc, hbt, hrow, hl3⟩, rfl, h4⟩ := h
  have hneg : ∀ N : Nat, N ≤ 130000 → ¬ nI N = (-1 : Int32) := fun N hN h9 => by
    have h8 : (nI N).toInt = (-1 : Int32).toInt := by rw [h9]
    rw [nI_toInt (by omega), ti_m1] at h8; omega
  rcases close_R (ft := ft) (cl := mcl) (th := th) (nx := nx) (nex := nex) ho hbt hc hrow with ⟨a1, a2, nx1, nex1, a3⟩ | ⟨N, hN, a1, a2, f1, c1, ft1, nx1, nex1, out1, a3, a4, a5, a6⟩
  · have hd : f_DL_close ou ft mcl = (none, (ou, ft, mcl)) := by
      unfold f_DL_close
      dsimp only
      rw [a1, if_pos rfl, a2]
    have hl : f_Law_close ou ft mcl of = (1, (ou, ft, mcl, of)) := by
      unfold f_Law_close
      rw [hd]; rfl
    rw [hl, a3]
    exact ⟨rfl, fun h9 => absurd h9 (show ¬ (1 : Int32) = 0 by decide), ⟨f, c, ho, hc, hbt, hrow, hl3⟩, rfl, h4⟩
  · have hd : f_DL_close ou ft mcl = (some (nI N), ((f1, nI c1), ft1, true)) := by
      unfold f_DL_close
      dsimp only
      rw [a1, if_neg (hneg N (by omega)), a3]
    have hl : f_Law_close ou ft mcl of = (0, ((f1, nI c1), ft1, true, vp_updL of (0 : Int32).toNatClampNeg (nI N).toInt64)) := by
      unfold f_Law_close
      rw [hd]; rfl
    rw [hl, a4, a2]
    refine ⟨rfl, fun _ => ?_, ⟨f1, c1, rfl, a5, rfl, a6, hl3⟩, rfl, h4⟩
    show lg_cmp (vp_updL of 0 (nI N).toInt64 0) (nI N).toInt64 = 0
    rw [show vp_updL of 0 (nI N).toInt64 0 = (nI N).toInt64 from rfl, cmp0]
theorem li_turn (hw : wd ≤ 10000) (h : LI wd ou ct pf ch mpf cl cli rd apf ach rli an inn bt mcl cd c3 gv lns ps st lin abo out inp rabo) (th : Int32) (of : Nat → Int64) (x : Int32) :
    f_Model_thrown (f_Model_turn wd bt out th gv lns ps st inp rabo x).2.1 = (f_Law_turn wd ou rd apf ach rli an inn of x).1 ∧ ((f_Law_turn wd ou rd apf ach rli an inn of x).1 = 0 → lg_cmp ((f_Law_turn wd ou rd apf ach rli an inn of x).2.2.2.2.2.2.2 (0 : Int32).toNatClampNeg) (f_Model_turn wd bt out th gv lns ps st inp rabo x).1.toInt64 = 0) ∧
    LI wd ou ct pf ch mpf cl cli (f_Law_turn wd ou rd apf ach rli an inn of x).2.1 (f_Law_turn wd ou rd apf ach rli an inn of x).2.2.1 (f_Law_turn wd ou rd apf ach rli an inn of x).2.2.2.1 (f_Law_turn wd ou rd apf ach rli an inn of x).2.2.2.2.1 (f_Law_turn wd ou rd apf ach rli an inn of x).2.2.2.2.2.1 (f_Law_turn wd ou rd apf ach rli an inn of x).2.2.2.2.2.2.1 bt mcl cd c3 (f_Model_turn wd bt out th gv lns ps st inp rabo x).2.2.1 (f_Model_turn wd bt out th gv lns ps st inp rabo x).2.2.2.1 (f_Model_turn wd bt out th gv lns ps st inp rabo x).2.2.2.2.1 (f_Model_turn wd bt out th gv lns ps st inp rabo x).2.2.2.2.2.1 lin abo out (f_Model_turn wd bt out th gv lns ps st inp rabo x).2.2.2.2.2.2.1 (f_Model_turn wd bt out th gv lns ps st inp rabo x).2.2.2.2.2.2.2 := by
  have h9 := h
  obtain ⟨⟨f, c, rfl, hc, rfl, hrow, hl3⟩, rfl, rfl, rfl, rfl, g, hi, rfl, hr⟩ := h9
  obtain ⟨fi, i2⟩ := inn
  have hi' : i2 = nI (8 * g) := hi
  subst hi'
  have hbad : (x < 0 ∨ ¬ x < 0 ∧ ¬ x ≤ nI ((c + 7) / 8)) → f_DL_turn wd (f, nI c) rd apf ach lns an (fi, nI (8 * g)) x = (none, (rd, apf, ach, lns, an, (fi, nI (8 * g)))) ∧ f_Model_turn wd (nI c) out th (nI g) lns ps st inp rabo x = (0, (1, nI g, lns, ps, st, inp, rabo)) := by
    intro hx
    have ebo : f_Model_bytesOut (nI c) = nI ((c + 7) / 8) := by
      unfold f_Model_bytesOut
      have e7 : nI c + 7 = nI (c + 7) := nI_add _ 7
      rw [e7]
      exact pk_div (d := 8) (by omega) (by decide) (by decide)
    unfold f_DL_turn f_Model_turn
    dsimp only
    rw [bytes_f f hc, ebo]
    rcases hx with hx | ⟨hx, hy⟩
    · rw [if_pos hx, if_pos hx]; exact ⟨rfl, rfl⟩
    · rw [if_neg hx, if_neg hx, if_neg hy, if_neg hy]; exact ⟨rfl, rfl⟩
  have hbad2 : f_DL_turn wd (f, nI c) rd apf ach lns an (fi, nI (8 * g)) x = (none, (rd, apf, ach, lns, an, (fi, nI (8 * g)))) → f_Law_turn wd (f, nI c) rd apf ach lns an (fi, nI (8 * g)) of x = (1, (rd, apf, ach, lns, an, (fi, nI (8 * g)), of)) := fun e => by
    unfold f_Law_turn
    rw [e]; rfl
  by_cases hx : x < 0
  · obtain ⟨e1, e2⟩ := hbad (Or.inl hx)
    rw [hbad2 e1, e2]
    exact ⟨rfl, fun h9 => absurd h9 (show ¬ (1 : Int32) = 0 by decide), h⟩
  · by_cases hy : x ≤ nI ((c + 7) / 8)
    · obtain ⟨w, hwl, rfl⟩ := nI_of hx
      have hwb : w ≤ (c + 7) / 8 := by
        have h8 := hy
        rw [ti_le, nI_toInt (by omega), nI_toInt (by omega)] at h8; omega
      obtain ⟨hg, hin, -⟩ := hr
      obtain ⟨g1, inp1, e1, e2, e3⟩ := turn_R hw (f := fi) (c := 8 * g) (by omega) hin.clean hc hrow hwb th (nI g) lns ps st inp rabo
      have hd : f_DL_turn wd (f, nI c) rd apf ach lns an (fi, nI (8 * g)) (nI w) = (some (nI ((c + 7) / 8 - w)), ((f_Reader_begin wd rd apf ach lns an).1, (f_Reader_begin wd rd apf ach lns an).2.1, (f_Reader_begin wd rd apf ach lns an).2.2.1, (f_Reader_begin wd rd apf ach lns an).2.2.2.1, (f_Reader_begin wd rd apf ach lns an).2.2.2.2, (g1, nI (8 * ((c + 7) / 8 - w))))) := by
        unfold f_DL_turn
        dsimp only
        rw [if_neg hx, bytes_f f hc, if_pos hy, e1, bytes_f g1 (by omega), show (8 * ((c + 7) / 8 - w) + 7) / 8 = (c + 7) / 8 - w by omega]
      have hl : f_Law_turn wd (f, nI c) rd apf ach lns an (fi, nI (8 * g)) of (nI w) = (0, ((f_Reader_begin wd rd apf ach lns an).1, (f_Reader_begin wd rd apf ach lns an).2.1, (f_Reader_begin wd rd apf ach lns an).2.2.1, (f_Reader_begin wd rd apf ach lns an).2.2.2.1, (f_Reader_begin wd rd apf ach lns an).2.2.2.2, (g1, nI (8 * ((c + 7) / 8 - w))), vp_updL of (0 : Int32).toNatClampNeg (nI ((c + 7) / 8 - w)).toInt64)) := by
        unfold f_Law_turn
        rw [hd]; rfl
      rw [hl, e2]
      refine ⟨rfl, fun _ => ?_, ⟨f, c, rfl, hc, rfl, hrow, hl3⟩, rfl, rfl, rfl, rfl, (c + 7) / 8 - w, rfl, rfl, rd_begin (rli := lns) (an := an) hw (by omega) e3⟩
      show lg_cmp (vp_updL of 0 (nI ((c + 7) / 8 - w)).toInt64 0) (nI ((c + 7) / 8 - w)).toInt64 = 0
      rw [show vp_updL of 0 (nI ((c + 7) / 8 - w)).toInt64 0 = (nI ((c + 7) / 8 - w)).toInt64 from rfl, cmp0]
    · obtain ⟨e1, e2⟩ := hbad (Or.inr ⟨hx, hy⟩)
      rw [hbad2 e1, e2]
      exact ⟨rfl, fun h9 => absurd h9 (show ¬ (1 : Int32) = 0 by decide), h⟩
theorem li_black (hw : wd ≤ 10000) (h : LI wd ou ct pf ch mpf cl cli rd apf ach rli an inn bt mcl cd c3 gv lns ps st lin abo out inp rabo) (th : Int32) (of : Nat → Int64) (x : Int32) :
    f_Model_thrown (f_Model_black wd rabo th x).2 = (f_Law_black wd apf of x).1 ∧ ((f_Law_black wd apf of x).1 = 0 → lg_cmp ((f_Law_black wd apf of x).2 (0 : Int32).toNatClampNeg) (if (f_Model_black wd rabo th x).1 = 0 then 0 else 1) = 0) := by
  obtain ⟨-, -, -, -, -, g, -, -, -, -, hl, -⟩ := h
  by_cases hx : x < 0
  · have e1 : f_DL_black wd apf x = none := by unfold f_DL_black; rw [if_pos hx]
    have e2 : f_Model_black wd rabo th x = (0, 1) := by unfold f_Model_black; rw [if_pos hx]
    have e3 : f_Law_black wd apf of x = (1, of) := by unfold f_Law_black; rw [e1]; rfl
    rw [e3, e2]
    exact ⟨rfl, fun h9 => absurd h9 (show ¬ (1 : Int32) = 0 by decide)⟩
  · by_cases hy : x < nI wd
    · obtain ⟨a, hal, rfl⟩ := nI_of hx
      have ha : a < wd := by
        have h8 := hy
        rw [ti_lt, nI_toInt (by omega), nI_toInt (by omega)] at h8; omega
      have hb := black_b hw hl ha
      have ec : (nI a).toNatClampNeg = a := nI_clamp (by omega)
      by_cases hq : rabo a = true
      · have e1 : f_DL_black wd apf (nI a) = some 1 := by
          unfold f_DL_black
          dsimp only
          rw [if_neg hx, if_pos hy, if_neg (fun h7 => Int32.not_le.mpr (hb.mpr hq) h7)]
        have e2 : f_Model_black wd rabo th (nI a) = (1, 0) := by
          unfold f_Model_black
          rw [if_neg hx, if_pos hy, ec, hq, if_neg (by decide)]
        have e3 : f_Law_black wd apf of (nI a) = (0, vp_updL of (0 : Int32).toNatClampNeg 1) := by unfold f_Law_black; rw [e1]; rfl
        rw [e3, e2]
        exact ⟨rfl, fun _ => rfl⟩
      · have e1 : f_DL_black wd apf (nI a) = some 0 := by
          unfold f_DL_black
          dsimp only
          rw [if_neg hx, if_pos hy, if_pos (Int32.not_lt.mp (fun h7 => hq (hb.mp h7)))]
        have e2 : f_Model_black wd rabo th (nI a) = (0, 0) := by
          unfold f_Model_black
          rw [if_neg hx, if_pos hy, ec, Bool.eq_false_iff.mpr hq, if_pos (by decide)]
        have e3 : f_Law_black wd apf of (nI a) = (0, vp_updL of (0 : Int32).toNatClampNeg 0) := by unfold f_Law_black; rw [e1]; rfl
        rw [e3, e2]
        exact ⟨rfl, fun _ => rfl⟩
    · have e1 : f_DL_black wd apf x = none := by unfold f_DL_black; rw [if_neg hx, if_neg hy]
      have e2 : f_Model_black wd rabo th x = (0, 1) := by unfold f_Model_black; rw [if_neg hx, if_neg hy]
      have e3 : f_Law_black wd apf of x = (1, of) := by unfold f_Law_black; rw [e1]; rfl
      rw [e3, e2]
      exact ⟨rfl, fun h9 => absurd h9 (show ¬ (1 : Int32) = 0 by decide)⟩
end LIA
