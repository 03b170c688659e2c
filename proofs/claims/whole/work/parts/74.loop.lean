theorem lwI_use {A : Nat → Prop} {s : State} {dC : Nat → ClassId} {dI : Nat → Nat → Nat} {cI cL cZ : ClassId} {b wd : Nat} {i : Int32} {H : Heap} {locs : List Loc} {ls : Array Slot} {G : Prop} (h : lwI A s dC dI cI cL cZ b wd i H locs ls)
    (k : ∀ (dd co ro ob oba so ib iba to ta sr mm mwr mbr mwb mbb mbl mmo mli mab mou mne mina mrl mra oa : Nat) (ou : (Nat → Int64) × Int32) (ft : Bool) (ct : Int32 × Int32 × Int32) (sp : Int32 × Int32 × Bool × Int32 × Int32) (pf : Nat → Int64) (ch : (Nat → Int32) × Int32) (mpf : Nat → Int64) (mch : (Nat → Int32) × Int32) (mad : Nat × Nat × Nat) (aad : Nat × Nat × Nat) (ab : Nat) (cl : Bool) (cli : Int32) (rd : Int32 × Int32) (rsp : Int32 × Int32 × Bool × Int32 × Int32) (apf : Nat → Int64) (ach : (Nat → Int32) × Int32) (fp : Nat → Int64) (fc : (Nat → Int32) × Int32) (rad : Nat × Nat × Nat) (fad : Nat × Nat × Nat) (rab : Nat) (rli : Int32) (an : Int32) (inn : (Nat → Int64) × Int32) (th : Int32) (bt : Int32) (mcl : Bool) (cd : Int32) (c3 : Int32 × Int32 × Int32) (nx : Int32) (w3 : Int32 × Int32 × Int32) (gv : Int32) (lns : Int32) (ps : Int32) (st : Int32) (tu : Bool) (lin : Nat → Bool) (abo : Nat → Bool) (out : Nat → Bool) (nex : Nat → Bool) (inp : Nat → Int32) (rln : Nat → Bool) (rabo : Nat → Bool) (of : Nat → Int64), LIP wd ou ct pf ch mpf cl cli rd apf ach rli an inn bt mcl cd c3 gv lns ps st lin abo out inp rabo fp → va_P (dC, dI) classes [(dd, .inr (6, [.int (nI wd), .ref co, .ref ro])), (co, .inr (1, [.ref ob, .int (nI wd), .ref so, .ref mad.1, .ref aad.1, .int (bI cl), .int cli, .int ct.1, .int ct.2.1, .int ct.2.2, .int (bI ft)])), (ob, .inr (0, [.ref oba, .int ou.2])), (oba, .inl (cL, 8192, .inr (.inl ou.1))), (so, .inr (4, [.ref ab, .int sp.1, .int sp.2.1, .int (bI sp.2.2.1), .int sp.2.2.2.1, .int sp.2.2.2.2])), (aad.1, .inr (2, [.int (nI wd), .ref aad.2.1, .ref aad.2.2, .int ch.2])), (aad.2.1, .inl (cL, ((wd + 63) / 64), .inr (.inl pf))), (aad.2.2, .inl (cI, wd, .inl ch.1)), (mad.1, .inr (2, [.int (nI wd), .ref mad.2.1, .ref mad.2.2, .int mch.2])), (mad.2.1, .inl (cL, ((wd + 63) / 64), .inr (.inl mpf))), (mad.2.2, .inl (cI, wd, .inl mch.1)), (ro, .inr (3, [.ref ib, .ref to, .int (nI wd), .ref sr, .ref rad.1, .ref fad.1, .int rli, .int rd.1, .int rd.2, .int an])), (sr, .inr (4, [.ref rab, .int rsp.1, .int rsp.2.1, .int (bI rsp.2.2.1), .int rsp.2.2.2.1, .int rsp.2.2.2.2])), (rad.1, .inr (2, [.int (nI wd), .ref rad.2.1, .ref rad.2.2, .int ach.2])), (rad.2.1, .inl (cL, ((wd + 63) / 64), .inr (.inl apf))), (rad.2.2, .inl (cI, wd, .inl ach.1)), (fad.1, .inr (2, [.int (nI wd), .ref fad.2.1, .ref fad.2.2, .int fc.2])), (fad.2.1, .inl (cL, ((wd + 63) / 64), .inr (.inl fp))), (fad.2.2, .inl (cI, wd, .inl fc.1)), (ib, .inr (0, [.ref iba, .int inn.2])), (iba, .inl (cL, 8192, .inr (.inl inn.1))), (to, .inr (5, [.ref ta, .int f_Tree_init.2])), (ta, .inl (cI, 512, .inl f_Tree_init.1)), (mm, .inr (7, [.ref mwr, .ref mbr, .ref mwb, .ref mbb, .ref mbl, .ref mmo, .int th, .int (nI wd), .ref mli, .ref mab, .ref mou, .int bt, .int (bI mcl), .int cd, .int c3.1, .int c3.2.1, .int c3.2.2, .ref mne, .int nx, .int w3.1, .int w3.2.1, .int w3.2.2, .ref mina, .int gv, .ref mrl, .ref mra, .int lns, .int ps, .int st, .int (bI tu)])), (mli, .inl (cZ, wd, .inl (fun jz => bI (lin jz)))), (mab, .inl (cZ, wd, .inl (fun jz => bI (abo jz)))), (mou, .inl (cZ, 524288, .inl (fun jz => bI (out jz)))), (mne, .inl (cZ, 130000, .inl (fun jz => bI (nex jz)))), (mina, .inl (cI, 65536, .inl inp)), (mrl, .inl (cZ, wd, .inl (fun jz => bI (rln jz)))), (mra, .inl (cZ, wd, .inl (fun jz => bI (rabo jz)))), (mwr, .inl (cI, 64, .inl tWR)), (mbr, .inl (cI, 64, .inl tBR)), (mwb, .inl (cI, 27, .inl tWB)), (mbb, .inl (cI, 27, .inl tBB)), (mbl, .inl (cI, 13, .inl tLB)), (mmo, .inl (cI, 10, .inl tMo)), (oa, .inl (cL, 1, .inr (.inl of)))] H → va_D A [(dd, .inr (6, [.int (nI wd), .ref co, .ref ro])), (co, .inr (1, [.ref ob, .int (nI wd), .ref so, .ref mad.1, .ref aad.1, .int (bI cl), .int cli, .int ct.1, .int ct.2.1, .int ct.2.2, .int (bI ft)])), (ob, .inr (0, [.ref oba, .int ou.2])), (oba, .inl (cL, 8192, .inr (.inl ou.1))), (so, .inr (4, [.ref ab, .int sp.1, .int sp.2.1, .int (bI sp.2.2.1), .int sp.2.2.2.1, .int sp.2.2.2.2])), (aad.1, .inr (2, [.int (nI wd), .ref aad.2.1, .ref aad.2.2, .int ch.2])), (aad.2.1, .inl (cL, ((wd + 63) / 64), .inr (.inl pf))), (aad.2.2, .inl (cI, wd, .inl ch.1)), (mad.1, .inr (2, [.int (nI wd), .ref mad.2.1, .ref mad.2.2, .int mch.2])), (mad.2.1, .inl (cL, ((wd + 63) / 64), .inr (.inl mpf))), (mad.2.2, .inl (cI, wd, .inl mch.1)), (ro, .inr (3, [.ref ib, .ref to, .int (nI wd), .ref sr, .ref rad.1, .ref fad.1, .int rli, .int rd.1, .int rd.2, .int an])), (sr, .inr (4, [.ref rab, .int rsp.1, .int rsp.2.1, .int (bI rsp.2.2.1), .int rsp.2.2.2.1, .int rsp.2.2.2.2])), (rad.1, .inr (2, [.int (nI wd), .ref rad.2.1, .ref rad.2.2, .int ach.2])), (rad.2.1, .inl (cL, ((wd + 63) / 64), .inr (.inl apf))), (rad.2.2, .inl (cI, wd, .inl ach.1)), (fad.1, .inr (2, [.int (nI wd), .ref fad.2.1, .ref fad.2.2, .int fc.2])), (fad.2.1, .inl (cL, ((wd + 63) / 64), .inr (.inl fp))), (fad.2.2, .inl (cI, wd, .inl fc.1)), (ib, .inr (0, [.ref iba, .int inn.2])), (iba, .inl (cL, 8192, .inr (.inl inn.1))), (to, .inr (5, [.ref ta, .int f_Tree_init.2])), (ta, .inl (cI, 512, .inl f_Tree_init.1)), (mm, .inr (7, [.ref mwr, .ref mbr, .ref mwb, .ref mbb, .ref mbl, .ref mmo, .int th, .int (nI wd), .ref mli, .ref mab, .ref mou, .int bt, .int (bI mcl), .int cd, .int c3.1, .int c3.2.1, .int c3.2.2, .ref mne, .int nx, .int w3.1, .int w3.2.1, .int w3.2.2, .ref mina, .int gv, .ref mrl, .ref mra, .int lns, .int ps, .int st, .int (bI tu)])), (mli, .inl (cZ, wd, .inl (fun jz => bI (lin jz)))), (mab, .inl (cZ, wd, .inl (fun jz => bI (abo jz)))), (mou, .inl (cZ, 524288, .inl (fun jz => bI (out jz)))), (mne, .inl (cZ, 130000, .inl (fun jz => bI (nex jz)))), (mina, .inl (cI, 65536, .inl inp)), (mrl, .inl (cZ, wd, .inl (fun jz => bI (rln jz)))), (mra, .inl (cZ, wd, .inl (fun jz => bI (rabo jz)))), (mwr, .inl (cI, 64, .inl tWR)), (mbr, .inl (cI, 64, .inl tBR)), (mwb, .inl (cI, 27, .inl tWB)), (mbb, .inl (cI, 27, .inl tBB)), (mbl, .inl (cI, 13, .inl tLB)), (mmo, .inl (cI, 10, .inl tMo)), (oa, .inl (cL, 1, .inr (.inl of)))] → va_S A s.heap H locs → lv_has ls 7 [(0, .ref b), (1, .ref dd), (2, .ref mm), (3, .ref oa), (4, .int i)] → G) : G :=
  Exists.elim h fun dd h => Exists.elim h fun co h => Exists.elim h fun ro h => Exists.elim h fun ob h => Exists.elim h fun oba h => Exists.elim h fun so h => Exists.elim h fun ib h => Exists.elim h fun iba h => Exists.elim h fun to h => Exists.elim h fun ta h => Exists.elim h fun sr h => Exists.elim h fun mm h => Exists.elim h fun mwr h => Exists.elim h fun mbr h => Exists.elim h fun mwb h => Exists.elim h fun mbb h => Exists.elim h fun mbl h => Exists.elim h fun mmo h => Exists.elim h fun mli h => Exists.elim h fun mab h => Exists.elim h fun mou h => Exists.elim h fun mne h => Exists.elim h fun mina h => Exists.elim h fun mrl h => Exists.elim h fun mra h => Exists.elim h fun oa h => Exists.elim h fun ou h => Exists.elim h fun ft h => Exists.elim h fun ct h => Exists.elim h fun sp h => Exists.elim h fun pf h => Exists.elim h fun ch h => Exists.elim h fun mpf h => Exists.elim h fun mch h => Exists.elim h fun mad h => Exists.elim h fun aad h => Exists.elim h fun ab h => Exists.elim h fun cl h => Exists.elim h fun cli h => Exists.elim h fun rd h => Exists.elim h fun rsp h => Exists.elim h fun apf h => Exists.elim h fun ach h => Exists.elim h fun fp h => Exists.elim h fun fc h => Exists.elim h fun rad h => Exists.elim h fun fad h => Exists.elim h fun rab h => Exists.elim h fun rli h => Exists.elim h fun an h => Exists.elim h fun inn h => Exists.elim h fun th h => Exists.elim h fun bt h => Exists.elim h fun mcl h => Exists.elim h fun cd h => Exists.elim h fun c3 h => Exists.elim h fun nx h => Exists.elim h fun w3 h => Exists.elim h fun gv h => Exists.elim h fun lns h => Exists.elim h fun ps h => Exists.elim h fun st h => Exists.elim h fun tu h => Exists.elim h fun lin h => Exists.elim h fun abo h => Exists.elim h fun out h => Exists.elim h fun nex h => Exists.elim h fun inp h => Exists.elim h fun rln h => Exists.elim h fun rabo h => Exists.elim h fun of h => k dd co ro ob oba so ib iba to ta sr mm mwr mbr mwb mbb mbl mmo mli mab mou mne mina mrl mra oa ou ft ct sp pf ch mpf mch mad aad ab cl cli rd rsp apf ach fp fc rad fad rab rli an inn th bt mcl cd c3 nx w3 gv lns ps st tu lin abo out nex inp rln rabo of h.1 h.2.1 h.2.2.1 h.2.2.2.1 h.2.2.2.2
set_option maxHeartbeats 4000000 in
theorem lw_step {p : Program} {l : Launch} {e : Env} {s : State} {m : MethodId} {below : List Frame} {meth : Method} {c : Code} {A : Nat → Prop} {dC : Nat → ClassId} {dI : Nat → Nat → Nat} {cI cL cZ : ClassId} {b L : Nat} {xs : Nat → Int32} {wd : Nat} {args : Array Value} {Q : State → Prop} {i : Nat} {H : Heap} {locs : List Loc} {ls : Array Slot} {cells slots : Nat} (C : lwC p l s m args c A dC dI cI cL cZ b L xs wd) (hI : lwI A s dC dI cI cL cZ b wd (nI i) H locs ls) (kk : ∀ ls : Array Slot, lwI A s dC dI cI cL cZ b wd (nI (i + 4)) H locs ls → W p l e room_1 s m args below meth c H locs cells slots Q (F0 m 33 ls [])) :
    W p l e room_1 s m args below meth c H locs cells slots Q (F0 m 609 ls []) := by
  refine lwI_use hI (fun dd co ro ob oba so ib iba to ta sr mm mwr mbr mwb mbb mbl mmo mli mab mou mne mina mrl mra oa ou ft ct sp pf ch mpf mch mad aad ab cl cli rd rsp apf ach fp fc rad fad rab rli an inn th bt mcl cd c3 nx w3 gv lns ps st tu lin abo out nex inp rln rabo of hLI hP hD hS hl => ?_)
  have hx := C.1
  have hb := C.2.1
  refine lv_iinc (v := nI (i + 4)) (lv' := [(4, .int (nI (i + 4))), (0, .ref b), (1, .ref dd), (2, .ref mm), (3, .ref oa)]) hx hb d_Law_law_609 hl (k := 4) rfl (show nI i + 4 = nI (i + 4) from nI_add i 4) (by decide) rfl (fun ls hl => ?_)
  refine lv_goto (tgt := 33) hx hb d_Law_law_612 (by decide) ?_
  have hl9 := lv_sub (l' := [(0, .ref b), (1, .ref dd), (2, .ref mm), (3, .ref oa), (4, .int (nI (i + 4)))]) hl [1, 2, 3, 4, 0] rfl
  exact kk ls ⟨dd, co, ro, ob, oba, so, ib, iba, to, ta, sr, mm, mwr, mbr, mwb, mbb, mbl, mmo, mli, mab, mou, mne, mina, mrl, mra, oa, ou, ft, ct, sp, pf, ch, mpf, mch, mad, aad, ab, cl, cli, rd, rsp, apf, ach, fp, fc, rad, fad, rab, rli, an, inn, th, bt, mcl, cd, c3, nx, w3, gv, lns, ps, st, tu, lin, abo, out, nex, inp, rln, rabo, of, hLI, hP, hD, hS, hl9⟩
set_option maxHeartbeats 4000000 in
set_option maxRecDepth 100000 in
theorem lw_body {p : Program} {l : Launch} {e : Env} {s : State} {m : MethodId} {below : List Frame} {meth : Method} {c : Code} {A : Nat → Prop} {dC : Nat → ClassId} {dI : Nat → Nat → Nat} {cI cL cZ : ClassId} {b L : Nat} {xs : Nat → Int32} {wd : Nat} {args : Array Value} {Q : State → Prop} {i : Int32} {H : Heap} {locs : List Loc} {ls : Array Slot} {cells slots : Nat} (C : lwC p l s m args c A dC dI cI cL cZ b L xs wd) (hI : lwI A s dC dI cI cL cZ b wd i H locs ls) (hi : 1 ≤ i.toInt ∧ i.toInt + 4 ≤ L) (hc : cells + 1 ≤ 601024) (hs : slots + 6 ≤ 7293000)
    (hnext : ∀ (H : Heap) (locs : List Loc) (ls : Array Slot), lwI A s dC dI cI cL cZ b wd i H locs ls → W p l e room_1 s m args below meth c H locs (cells + 1) (slots + 6) Q (F0 m 609 ls [])) :
    W p l e room_1 s m args below meth c H locs cells slots Q (F0 m 42 ls []) := by
  refine lwI_use hI (fun dd co ro ob oba so ib iba to ta sr mm mwr mbr mwb mbb mbl mmo mli mab mou mne mina mrl mra oa ou ft ct sp pf ch mpf mch mad aad ab cl cli rd rsp apf ach fp fc rad fad rab rli an inn th bt mcl cd c3 nx w3 gv lns ps st tu lin abo out nex inp rln rabo of hLI hP hD hS hl => ?_)
  have C0 := C
  obtain ⟨hx, hb, hml, hown, hw, hlt, hA, hK, hKm, hT, hTw, hTX, hwd, hL⟩ := C0
  refine lv_aload_n hx hb d_Law_law_42 rfl (lv_at hl 0 rfl) ?_
  refine lv_iload hx hb d_Law_law_43 (lv_at hl 4 rfl) ?_
  refine va_ti hx hb hTX hS (sx_0 hi) rfl d_Law_law_45 ?_
  refine lv_bipush (v := 15) hx hb d_Law_law_46 (by decide) ?_
  refine lv_iand hx hb d_Law_law_48 ?_
  refine lv_topi (fun x ex => ?_)
  by_cases c_0 : x = 0
  · refine lv_tableIn (tgt := 120) (off := 71) hx hb d_Law_law_49 (by rw [c_0]; decide) (by rw [c_0]; decide) (by rw [c_0]; rfl) (by decide) ?_
    exact lc_0 C hLI hP hD hS hl hi hc hs hnext
  by_cases c_1 : x = 1
  · refine lv_tableIn (tgt := 185) (off := 136) hx hb d_Law_law_49 (by rw [c_1]; decide) (by rw [c_1]; decide) (by rw [c_1]; rfl) (by decide) ?_
    exact lc_1 C hLI hP hD hS hl hi hc hs hnext
  by_cases c_2 : x = 2
  · refine lv_tableIn (tgt := 229) (off := 180) hx hb d_Law_law_49 (by rw [c_2]; decide) (by rw [c_2]; decide) (by rw [c_2]; rfl) (by decide) ?_
    exact lc_2 C hLI hP hD hS hl hi hc hs hnext
  by_cases c_3 : x = 3
  · refine lv_tableIn (tgt := 273) (off := 224) hx hb d_Law_law_49 (by rw [c_3]; decide) (by rw [c_3]; decide) (by rw [c_3]; rfl) (by decide) ?_
    exact lc_3 C hLI hP hD hS hl hi hc hs hnext
  by_cases c_4 : x = 4
  · refine lv_tableIn (tgt := 284) (off := 235) hx hb d_Law_law_49 (by rw [c_4]; decide) (by rw [c_4]; decide) (by rw [c_4]; rfl) (by decide) ?_
    exact lc_4 C hLI hP hD hS hl hi hc hs hnext
  by_cases c_5 : x = 5
  · refine lv_tableIn (tgt := 310) (off := 261) hx hb d_Law_law_49 (by rw [c_5]; decide) (by rw [c_5]; decide) (by rw [c_5]; rfl) (by decide) ?_
    exact lc_5 C hLI hP hD hS hl hi hc hs hnext
  by_cases c_6 : x = 6
  · refine lv_tableIn (tgt := 379) (off := 330) hx hb d_Law_law_49 (by rw [c_6]; decide) (by rw [c_6]; decide) (by rw [c_6]; rfl) (by decide) ?_
    exact lc_6 C hLI hP hD hS hl hi hc hs hnext
  by_cases c_7 : x = 7
  · refine lv_tableIn (tgt := 435) (off := 386) hx hb d_Law_law_49 (by rw [c_7]; decide) (by rw [c_7]; decide) (by rw [c_7]; rfl) (by decide) ?_
    exact lc_7 C hLI hP hD hS hl hi hc hs hnext
  by_cases c_8 : x = 8
  · refine lv_tableIn (tgt := 446) (off := 397) hx hb d_Law_law_49 (by rw [c_8]; decide) (by rw [c_8]; decide) (by rw [c_8]; rfl) (by decide) ?_
    exact lc_8 C hLI hP hD hS hl hi hc hs hnext
  by_cases c_9 : x = 9
  · refine lv_tableIn (tgt := 457) (off := 408) hx hb d_Law_law_49 (by rw [c_9]; decide) (by rw [c_9]; decide) (by rw [c_9]; rfl) (by decide) ?_
    exact lc_9 C hLI hP hD hS hl hi hc hs hnext
  by_cases c_10 : x = 10
  · refine lv_tableIn (tgt := 470) (off := 421) hx hb d_Law_law_49 (by rw [c_10]; decide) (by rw [c_10]; decide) (by rw [c_10]; rfl) (by decide) ?_
    exact lc_10 C hLI hP hD hS hl hi hc hs hnext
  by_cases c_11 : x = 11
  · refine lv_tableIn (tgt := 533) (off := 484) hx hb d_Law_law_49 (by rw [c_11]; decide) (by rw [c_11]; decide) (by rw [c_11]; rfl) (by decide) ?_
    exact lc_11 C hLI hP hD hS hl hi hc hs hnext
  by_cases c_12 : x = 12
  · refine lv_tableIn (tgt := 559) (off := 510) hx hb d_Law_law_49 (by rw [c_12]; decide) (by rw [c_12]; decide) (by rw [c_12]; rfl) (by decide) ?_
    exact lc_12 C hLI hP hD hS hl hi hc hs hnext
  by_cases c_13 : x = 13
  · refine lv_tableIn (tgt := 584) (off := 535) hx hb d_Law_law_49 (by rw [c_13]; decide) (by rw [c_13]; decide) (by rw [c_13]; rfl) (by decide) ?_
    exact lc_13 C hLI hP hD hS hl hi hc hs hnext
  refine lv_tableOut (tgt := 609) hx hb d_Law_law_49 (by have n0 : ¬ Int32.toInt x = 0 := fun h => c_0 (Int32.toInt_inj.mp (h.trans rfl)); have n1 : ¬ Int32.toInt x = 1 := fun h => c_1 (Int32.toInt_inj.mp (h.trans rfl)); have n2 : ¬ Int32.toInt x = 2 := fun h => c_2 (Int32.toInt_inj.mp (h.trans rfl)); have n3 : ¬ Int32.toInt x = 3 := fun h => c_3 (Int32.toInt_inj.mp (h.trans rfl)); have n4 : ¬ Int32.toInt x = 4 := fun h => c_4 (Int32.toInt_inj.mp (h.trans rfl)); have n5 : ¬ Int32.toInt x = 5 := fun h => c_5 (Int32.toInt_inj.mp (h.trans rfl)); have n6 : ¬ Int32.toInt x = 6 := fun h => c_6 (Int32.toInt_inj.mp (h.trans rfl)); have n7 : ¬ Int32.toInt x = 7 := fun h => c_7 (Int32.toInt_inj.mp (h.trans rfl)); have n8 : ¬ Int32.toInt x = 8 := fun h => c_8 (Int32.toInt_inj.mp (h.trans rfl)); have n9 : ¬ Int32.toInt x = 9 := fun h => c_9 (Int32.toInt_inj.mp (h.trans rfl)); have n10 : ¬ Int32.toInt x = 10 := fun h => c_10 (Int32.toInt_inj.mp (h.trans rfl)); have n11 : ¬ Int32.toInt x = 11 := fun h => c_11 (Int32.toInt_inj.mp (h.trans rfl)); have n12 : ¬ Int32.toInt x = 12 := fun h => c_12 (Int32.toInt_inj.mp (h.trans rfl)); have n13 : ¬ Int32.toInt x = 13 := fun h => c_13 (Int32.toInt_inj.mp (h.trans rfl)); omega) (by decide) ?_
  exact W.widen (by omega) (by omega) (hnext _ _ _ hI)
theorem lw_loop {p : Program} {l : Launch} {e : Env} {s : State} {m : MethodId} {below : List Frame} {meth : Method} {c : Code} {A : Nat → Prop} {dC : Nat → ClassId} {dI : Nat → Nat → Nat} {cI cL cZ : ClassId} {b L : Nat} {xs : Nat → Int32} {wd : Nat} (C : lwC p l s m #[Value.ref b] c A dC dI cI cL cZ b L xs wd) (hr : meth.sig.returnType = ret) (hlocks : meth.locks = false) (hAs : ∀ q : Nat, A q → s.heap.size ≤ q) :
    ∀ (n i : Nat) (H : Heap) (locs : List Loc) (ls : Array Slot) (cells slots : Nat), 1 ≤ i → i ≤ L + 4 → L + 4 < n + i → cells + L ≤ 601000 + i → slots + 6 * L ≤ 7292000 + 6 * i → lwI A s dC dI cI cL cZ b wd (nI i) H locs ls →
      W p l e room_1 s m #[Value.ref b] below meth c H locs cells slots (lw_Z below #[Value.ref b] s) (F0 m 33 ls []) := by
  intro n
  induction n with
  | zero => intro i H locs ls cells slots h1 h2 h3; omega
  | succ n ih =>
    intro i H locs ls cells slots h1 h2 h3 h4 h5 hI
    have C0 := C
    obtain ⟨hx, hb, hml, hown, hw, hlt, hA, hK, hKm, hT, hTw, hTX, hwd, hL⟩ := C0
    refine lwI_use hI (fun dd co ro ob oba so ib iba to ta sr mm mwr mbr mwb mbb mbl mmo mli mab mou mne mina mrl mra oa ou ft ct sp pf ch mpf mch mad aad ab cl cli rd rsp apf ach fp fc rad fad rab rli an inn th bt mcl cd c3 nx w3 gv lns ps st tu lin abo out nex inp rln rabo of hLI hP hD hS hl => ?_)
    have ei : (nI i).toInt = i := nI_toInt (by omega)
    have eL : (nI L - 4).toInt = (L : Int) - 4 := by
      have e9 : (nI L).toInt = L := nI_toInt (by omega)
      have e8 : (4 : Int32).toInt = 4 := rfl
      rw [ti_sub (by rw [e9, e8]; omega) (by rw [e9, e8]; omega), e9, e8]
    refine lv_iload hx hb d_Law_law_33 (lv_at hl 4 rfl) ?_
    refine lv_aload_n hx hb d_Law_law_35 rfl (lv_at hl 0 rfl) ?_
    refine va_tlen (v := nI L) hx hb hTX hS rfl d_Law_law_36 ?_
    refine lv_iconst (v := 4) hx hb d_Law_law_37 (by decide) ?_
    refine lv_isub hx hb d_Law_law_38 ?_
    refine lv_icmp_gt (tgt := 615) hx hb d_Law_law_39 (by decide) (fun c1 => ?_) (fun c1 => ?_)
    · refine lv_iconst (v := 1) hx hb d_Law_law_615 (by decide) ?_
      refine va_forget (fun q hq => hAs _ (hS.2.2 q hq)) ?_
      exact W.widen (by omega) (by omega) (lw_ret hx hb hr hlocks d_Law_law_616)
    · have hi : 1 ≤ (nI i).toInt ∧ (nI i).toInt + 4 ≤ L := by
        rw [ti_lt, eL, ei] at c1
        rw [ei]; omega
      have hi2 : i + 4 ≤ L := by rw [ei] at hi; omega
      refine lw_body C hI hi (by omega) (by omega) (fun H locs ls hI => ?_)
      exact lw_step C hI (fun ls hI => ih (i + 4) _ _ _ _ _ (by omega) (by omega) (by omega) (by omega) (by omega) hI)
