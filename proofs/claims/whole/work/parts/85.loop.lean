set_option maxHeartbeats 4000000 in
set_option maxRecDepth 100000 in
theorem law_loop {p : Program} {e : Env} {s : State} {m : MethodId} {below : List Frame} {meth : Method} {c : Code} (l : Launch) (hflags : l.stackTraces = false) {b L : Nat} {xs : Nat → Int32} (hL5 : L ≤ 2560) (hx : p.tables.exec = Jvm.exec) (hb : c.code = cL_law) (hml : c.maxLocals = 9) (hown : s.vm.findClass RL = some m.cls) (hts : ∀ w ∈ wsL_law, w.before #[Value.ref b] s = true) (hX : va_X b L xs s s.heap) (hbl : b < s.heap.size) {A : Nat → Prop} (hA : ∀ q : Nat, s.heap.size ≤ q → A q) (hbA : ¬ A b) {g : xg} {gl : ClassId × ClassId} (hC : xC g A s s.heap) (hLx : xL g gl s) (aR aG aGn aGw aGs aP aPx aPy aH aHf aHl aHm aHr aHp aY aYh aYt aYc aT aTp aTt aTx aTy aE aS aQ aSt aSx aSy aF aX aXs aM aMn aMw aMbx aMby aMs aMp aMt aMx aMy aMst aMc aMh aMf aMl aMm aMr aMd aMli aO aD : Nat) {Q : State → Prop}
    (END : ∀ (H : Heap) (locs : List Loc) (ls : Array Slot) (cells slots : Nat), cells ≤ 603072 → slots ≤ 7219306 → va_S A s.heap H locs → W p l e room_1 s m #[Value.ref b] below meth c H locs cells slots Q (F0 m 2667 ls [])) :
    ∀ (n : Nat) (zi : Int) (cells slots : Nat), 0 ≤ zi → zi ≤ (L : Int) → (L : Int) - zi < 5 * (n : Int) → cells + 10 * n ≤ 603072 → slots + 60 * n ≤ 7219306 → ∀ (kn pn ld bu tl hou pr tk tol ex ey ehx ehy fx fy fhx fhy qx qy qhx qhy sr sl th : Int) (nd wk sk bx byy fi la li ra pa ht yt yc tp tt kx ky st sx sy sg : Int → Int) (lo : Nat → Int64) (loD : Nat → UInt64), LI kn pn ld bu tl hou pr tk tol ex ey ehx ehy nd wk sk bx byy fi la li ra pa ht yt yc tp tt kx ky st sx sy sg → ∀ (H : Heap) (locs : List Loc), va_P (gD g) vwCl (LW g gl aR aG aGn aGw aGs aP aPx aPy aH aHf aHl aHm aHr aHp aY aYh aYt aYc aT aTp aTt aTx aTy aE aS aQ aSt aSx aSy aF aX aXs aM aMn aMw aMbx aMby aMs aMp aMt aMx aMy aMst aMc aMh aMf aMl aMm aMr aMd aMli aO aD kn pn ld bu tl hou pr tk tol ex ey ehx ehy fx fy fhx fhy qx qy qhx qhy sr sl th nd wk sk bx byy fi la li ra pa ht yt yc tp tt kx ky st sx sy sg lo loD) H → va_D A (LW g gl aR aG aGn aGw aGs aP aPx aPy aH aHf aHl aHm aHr aHp aY aYh aYt aYc aT aTp aTt aTx aTy aE aS aQ aSt aSx aSy aF aX aXs aM aMn aMw aMbx aMby aMs aMp aMt aMx aMy aMst aMc aMh aMf aMl aMm aMr aMd aMli aO aD kn pn ld bu tl hou pr tk tol ex ey ehx ehy fx fy fhx fhy qx qy qhx qhy sr sl th nd wk sk bx byy fi la li ra pa ht yt yc tp tt kx ky st sx sy sg lo loD) → va_S A s.heap H locs →
    ∀ ls : Array Slot, lv_has ls 9 [(0, .ref b), (1, .ref aR), (2, .ref aM), (3, .ref aO), (4, .ref aD), (5, .int (iI zi))] → W p l e room_1 s m #[Value.ref b] below meth c H locs cells slots Q (F0 m 28 ls []) := by
  intro n
  induction n with
  | zero => intro zi cells slots h1 h2 h3; exfalso; omega
  | succ n ih =>
    intro zi cells slots h1 h2 h3 hce hsl kn pn ld bu tl hou pr tk tol ex ey ehx ehy fx fy fhx fhy qx qy qhx qhy sr sl th nd wk sk bx byy fi la li ra pa ht yt yc tp tt kx ky st sx sy sg lo loD hI H locs hP hD hS ls hl
    refine lv_iload hx hb dL_law_28 (lv_at hl 5 rfl) ?_
    refine lv_aload_n hx hb dL_law_30 rfl (lv_at hl 0 rfl) ?_
    refine va_slen hx hb hX hbl hbA hS dL_law_31 ?_
    rw [iI_nat]
    refine x_iconst hx hb dL_law_32 ?_
    refine x_isub hx hb dL_law_33 ?_
    refine x_cmp_gt (tgt := 2667) hx hb (by omega) (by omega) dL_law_34 (by decide) (fun q0 => ?_) (fun q0 => ?_)
    · exact END H locs ls cells slots (by omega) (by omega) hS
    · have h4 : zi + 5 ≤ (L : Int) := by omega
      have K : LK p l e s m below meth c Q A b g gl aR aG aGn aGw aGs aP aPx aPy aH aHf aHl aHm aHr aHp aY aYh aYt aYc aT aTp aTt aTx aTy aE aS aQ aSt aSx aSy aF aX aXs aM aMn aMw aMbx aMby aMs aMp aMt aMx aMy aMst aMc aMh aMf aMl aMm aMr aMd aMli aO aD zi (cells + 10) (slots + 60) := by
        intro kn2 pn2 ld2 bu2 tl2 hou2 pr2 tk2 tol2 ex2 ey2 ehx2 ehy2 fx2 fy2 fhx2 fhy2 qx2 qy2 qhx2 qhy2 sr2 sl2 th2 nd2 wk2 sk2 bx2 byy2 fi2 la2 li2 ra2 pa2 ht2 yt2 yc2 tp2 tt2 kx2 ky2 st2 sx2 sy2 sg2 lo2 loD2 hI2 H2 locs2 hP2 hD2 hS2 ls2 hl2
        refine x_iinc (k := 5) (lv' := [(5, .int (iI (zi + 5))), (0, .ref b), (1, .ref aR), (2, .ref aM), (3, .ref aO), (4, .ref aD)]) hx hb dL_law_2661 hl2 rfl (by decide) rfl (fun ls hl => ?_)
        refine lv_goto (tgt := 28) hx hb dL_law_2664 (by decide) ?_
        exact ih (zi + 5) (cells + 10) (slots + 60) (by omega) (by omega) (by omega) (by omega) (by omega) kn2 pn2 ld2 bu2 tl2 hou2 pr2 tk2 tol2 ex2 ey2 ehx2 ehy2 fx2 fy2 fhx2 fhy2 qx2 qy2 qhx2 qhy2 sr2 sl2 th2 nd2 wk2 sk2 bx2 byy2 fi2 la2 li2 ra2 pa2 ht2 yt2 yc2 tp2 tt2 kx2 ky2 st2 sx2 sy2 sg2 lo2 loD2 hI2 H2 locs2 hP2 hD2 hS2 ls (lv_sub hl [1, 2, 3, 4, 5, 0] rfl)
      obtain ⟨v0, hv0⟩ : ∃ z, (xs zi.toNat).toInt = z := ⟨_, rfl⟩
      refine lv_aload_n hx hb dL_law_37 rfl (lv_at hl 0 rfl) ?_
      refine lv_iload hx hb dL_law_38 (lv_at hl 5 rfl) ?_
      refine x_sld hx hb hX hbl hbA hS (by omega) (by omega) hL5 hv0 dL_law_40 ?_
      refine x_bipush hx hb dL_law_41 (by decide) ?_
      refine lv_iand hx hb dL_law_43 ?_
      generalize iI v0 &&& iI 63 = w
      by_cases q1 : w.toInt < 0
      · refine lv_tableOut (tgt := 2661) hx hb dL_law_44 (Or.inl q1) (by decide) ?_
        refine W.widen (k := cells + 10) (n := slots + 60) (by omega) (by omega) ?_
        unfold LK at K
        exact K kn pn ld bu tl hou pr tk tol ex ey ehx ehy fx fy fhx fhy qx qy qhx qhy sr sl th nd wk sk bx byy fi la li ra pa ht yt yc tp tt kx ky st sx sy sg lo loD hI H locs hP hD hS ls hl
      by_cases q2 : 43 < w.toInt
      · refine lv_tableOut (tgt := 2661) hx hb dL_law_44 (Or.inr q2) (by decide) ?_
        refine W.widen (k := cells + 10) (n := slots + 60) (by omega) (by omega) ?_
        unfold LK at K
        exact K kn pn ld bu tl hou pr tk tol ex ey ehx ehy fx fy fhx fhy qx qy qhx qhy sr sl th nd wk sk bx byy fi la li ra pa ht yt yc tp tt kx ky st sx sy sg lo loD hI H locs hP hD hS ls hl
      rcases (show w.toInt = 0 ∨ w.toInt = 1 ∨ w.toInt = 2 ∨ w.toInt = 3 ∨ w.toInt = 4 ∨ w.toInt = 5 ∨ w.toInt = 6 ∨ w.toInt = 7 ∨ w.toInt = 8 ∨ w.toInt = 9 ∨ w.toInt = 10 ∨ w.toInt = 11 ∨ w.toInt = 12 ∨ w.toInt = 13 ∨ w.toInt = 14 ∨ w.toInt = 15 ∨ w.toInt = 16 ∨ w.toInt = 17 ∨ w.toInt = 18 ∨ w.toInt = 19 ∨ w.toInt = 20 ∨ w.toInt = 21 ∨ w.toInt = 22 ∨ w.toInt = 23 ∨ w.toInt = 24 ∨ w.toInt = 25 ∨ w.toInt = 26 ∨ w.toInt = 27 ∨ w.toInt = 28 ∨ w.toInt = 29 ∨ w.toInt = 30 ∨ w.toInt = 31 ∨ w.toInt = 32 ∨ w.toInt = 33 ∨ w.toInt = 34 ∨ w.toInt = 35 ∨ w.toInt = 36 ∨ w.toInt = 37 ∨ w.toInt = 38 ∨ w.toInt = 39 ∨ w.toInt = 40 ∨ w.toInt = 41 ∨ w.toInt = 42 ∨ w.toInt = 43 by omega) with q3 | q3 | q3 | q3 | q3 | q3 | q3 | q3 | q3 | q3 | q3 | q3 | q3 | q3 | q3 | q3 | q3 | q3 | q3 | q3 | q3 | q3 | q3 | q3 | q3 | q3 | q3 | q3 | q3 | q3 | q3 | q3 | q3 | q3 | q3 | q3 | q3 | q3 | q3 | q3 | q3 | q3 | q3 | q3
      · exact lv_tableIn (off := 192) (tgt := 236) hx hb dL_law_44 q1 q2 (by rw [q3]; rfl) (by decide) (law_case_0 l hflags hL5 hx hb hml hown hts hX hbl hA hbA hC hLx (by omega) (by omega) ⟨h1, h4⟩ K hI hP hD hS hl)
      · exact lv_tableIn (off := 272) (tgt := 316) hx hb dL_law_44 q1 q2 (by rw [q3]; rfl) (by decide) (law_case_1 l hflags hL5 hx hb hml hown hts hX hbl hA hbA hC hLx (by omega) (by omega) ⟨h1, h4⟩ K hI hP hD hS hl)
      · exact lv_tableIn (off := 352) (tgt := 396) hx hb dL_law_44 q1 q2 (by rw [q3]; rfl) (by decide) (law_case_2 l hflags hL5 hx hb hml hown hts hX hbl hA hbA hC hLx (by omega) (by omega) ⟨h1, h4⟩ K hI hP hD hS hl)
      · exact lv_tableIn (off := 408) (tgt := 452) hx hb dL_law_44 q1 q2 (by rw [q3]; rfl) (by decide) (law_case_3 l hflags hL5 hx hb hml hown hts hX hbl hA hbA hC hLx (by omega) (by omega) ⟨h1, h4⟩ K hI hP hD hS hl)
      · exact lv_tableIn (off := 464) (tgt := 508) hx hb dL_law_44 q1 q2 (by rw [q3]; rfl) (by decide) (law_case_4 l hflags hL5 hx hb hml hown hts hX hbl hA hbA hC hLx (by omega) (by omega) ⟨h1, h4⟩ K hI hP hD hS hl)
      · exact lv_tableIn (off := 556) (tgt := 600) hx hb dL_law_44 q1 q2 (by rw [q3]; rfl) (by decide) (law_case_5 l hflags hL5 hx hb hml hown hts hX hbl hA hbA hC hLx (by omega) (by omega) ⟨h1, h4⟩ K hI hP hD hS hl)
      · exact lv_tableIn (off := 624) (tgt := 668) hx hb dL_law_44 q1 q2 (by rw [q3]; rfl) (by decide) (law_case_6 l hflags hL5 hx hb hml hown hts hX hbl hA hbA hC hLx (by omega) (by omega) ⟨h1, h4⟩ K hI hP hD hS hl)
      · exact lv_tableIn (off := 680) (tgt := 724) hx hb dL_law_44 q1 q2 (by rw [q3]; rfl) (by decide) (law_case_7 l hflags hL5 hx hb hml hown hts hX hbl hA hbA hC hLx (by omega) (by omega) ⟨h1, h4⟩ K hI hP hD hS hl)
      · exact lv_tableIn (off := 748) (tgt := 792) hx hb dL_law_44 q1 q2 (by rw [q3]; rfl) (by decide) (law_case_8 l hflags hL5 hx hb hml hown hts hX hbl hA hbA hC hLx (by omega) (by omega) ⟨h1, h4⟩ K hI hP hD hS hl)
      · exact lv_tableIn (off := 804) (tgt := 848) hx hb dL_law_44 q1 q2 (by rw [q3]; rfl) (by decide) (law_case_9 l hflags hL5 hx hb hml hown hts hX hbl hA hbA hC hLx (by omega) (by omega) ⟨h1, h4⟩ K hI hP hD hS hl)
      · exact lv_tableIn (off := 872) (tgt := 916) hx hb dL_law_44 q1 q2 (by rw [q3]; rfl) (by decide) (law_case_10 l hflags hL5 hx hb hml hown hts hX hbl hA hbA hC hLx (by omega) (by omega) ⟨h1, h4⟩ K hI hP hD hS hl)
      · exact lv_tableIn (off := 938) (tgt := 982) hx hb dL_law_44 q1 q2 (by rw [q3]; rfl) (by decide) (law_case_11 l hflags hL5 hx hb hml hown hts hX hbl hA hbA hC hLx (by omega) (by omega) ⟨h1, h4⟩ K hI hP hD hS hl)
      · exact lv_tableIn (off := 994) (tgt := 1038) hx hb dL_law_44 q1 q2 (by rw [q3]; rfl) (by decide) (law_case_12 l hflags hL5 hx hb hml hown hts hX hbl hA hbA hC hLx (by omega) (by omega) ⟨h1, h4⟩ K hI hP hD hS hl)
      · exact lv_tableIn (off := 1050) (tgt := 1094) hx hb dL_law_44 q1 q2 (by rw [q3]; rfl) (by decide) (law_case_13 l hflags hL5 hx hb hml hown hts hX hbl hA hbA hC hLx (by omega) (by omega) ⟨h1, h4⟩ K hI hP hD hS hl)
      · exact lv_tableIn (off := 1063) (tgt := 1107) hx hb dL_law_44 q1 q2 (by rw [q3]; rfl) (by decide) (law_case_14 l hflags hL5 hx hb hml hown hts hX hbl hA hbA hC hLx (by omega) (by omega) ⟨h1, h4⟩ K hI hP hD hS hl)
      · exact lv_tableIn (off := 1107) (tgt := 1151) hx hb dL_law_44 q1 q2 (by rw [q3]; rfl) (by decide) (law_case_15 l hflags hL5 hx hb hml hown hts hX hbl hA hbA hC hLx (by omega) (by omega) ⟨h1, h4⟩ K hI hP hD hS hl)
      · exact lv_tableIn (off := 1163) (tgt := 1207) hx hb dL_law_44 q1 q2 (by rw [q3]; rfl) (by decide) (law_case_16 l hflags hL5 hx hb hml hown hts hX hbl hA hbA hC hLx (by omega) (by omega) ⟨h1, h4⟩ K hI hP hD hS hl)
      · exact lv_tableIn (off := 1231) (tgt := 1275) hx hb dL_law_44 q1 q2 (by rw [q3]; rfl) (by decide) (law_case_17 l hflags hL5 hx hb hml hown hts hX hbl hA hbA hC hLx (by omega) (by omega) ⟨h1, h4⟩ K hI hP hD hS hl)
      · exact lv_tableIn (off := 1299) (tgt := 1343) hx hb dL_law_44 q1 q2 (by rw [q3]; rfl) (by decide) (law_case_18 l hflags hL5 hx hb hml hown hts hX hbl hA hbA hC hLx (by omega) (by omega) ⟨h1, h4⟩ K hI hP hD hS hl)
      · exact lv_tableIn (off := 1355) (tgt := 1399) hx hb dL_law_44 q1 q2 (by rw [q3]; rfl) (by decide) (law_case_19 l hflags hL5 hx hb hml hown hts hX hbl hA hbA hC hLx (by omega) (by omega) ⟨h1, h4⟩ K hI hP hD hS hl)
      · exact lv_tableIn (off := 1368) (tgt := 1412) hx hb dL_law_44 q1 q2 (by rw [q3]; rfl) (by decide) (law_case_20 l hflags hL5 hx hb hml hown hts hX hbl hA hbA hC hLx (by omega) (by omega) ⟨h1, h4⟩ K hI hP hD hS hl)
      · exact lv_tableIn (off := 1381) (tgt := 1425) hx hb dL_law_44 q1 q2 (by rw [q3]; rfl) (by decide) (law_case_21 l hflags hL5 hx hb hml hown hts hX hbl hA hbA hC hLx (by omega) (by omega) ⟨h1, h4⟩ K hI hP hD hS hl)
      · exact lv_tableIn (off := 1437) (tgt := 1481) hx hb dL_law_44 q1 q2 (by rw [q3]; rfl) (by decide) (law_case_22 l hflags hL5 hx hb hml hown hts hX hbl hA hbA hC hLx (by omega) (by omega) ⟨h1, h4⟩ K hI hP hD hS hl)
      · exact lv_tableIn (off := 1493) (tgt := 1537) hx hb dL_law_44 q1 q2 (by rw [q3]; rfl) (by decide) (law_case_23 l hflags hL5 hx hb hml hown hts hX hbl hA hbA hC hLx (by omega) (by omega) ⟨h1, h4⟩ K hI hP hD hS hl)
      · exact lv_tableIn (off := 1549) (tgt := 1593) hx hb dL_law_44 q1 q2 (by rw [q3]; rfl) (by decide) (law_case_24 l hflags hL5 hx hb hml hown hts hX hbl hA hbA hC hLx (by omega) (by omega) ⟨h1, h4⟩ K hI hP hD hS hl)
      · exact lv_tableIn (off := 1605) (tgt := 1649) hx hb dL_law_44 q1 q2 (by rw [q3]; rfl) (by decide) (law_case_25 l hflags hL5 hx hb hml hown hts hX hbl hA hbA hC hLx (by omega) (by omega) ⟨h1, h4⟩ K hI hP hD hS hl)
      · exact lv_tableIn (off := 1661) (tgt := 1705) hx hb dL_law_44 q1 q2 (by rw [q3]; rfl) (by decide) (law_case_26 l hflags hL5 hx hb hml hown hts hX hbl hA hbA hC hLx (by omega) (by omega) ⟨h1, h4⟩ K hI hP hD hS hl)
      · exact lv_tableIn (off := 1717) (tgt := 1761) hx hb dL_law_44 q1 q2 (by rw [q3]; rfl) (by decide) (law_case_27 l hflags hL5 hx hb hml hown hts hX hbl hA hbA hC hLx (by omega) (by omega) ⟨h1, h4⟩ K hI hP hD hS hl)
      · exact lv_tableIn (off := 1773) (tgt := 1817) hx hb dL_law_44 q1 q2 (by rw [q3]; rfl) (by decide) (law_case_28 l hflags hL5 hx hb hml hown hts hX hbl hA hbA hC hLx (by omega) (by omega) ⟨h1, h4⟩ K hI hP hD hS hl)
      · exact lv_tableIn (off := 1841) (tgt := 1885) hx hb dL_law_44 q1 q2 (by rw [q3]; rfl) (by decide) (law_case_29 l hflags hL5 hx hb hml hown hts hX hbl hA hbA hC hLx (by omega) (by omega) ⟨h1, h4⟩ K hI hP hD hS hl)
      · exact lv_tableIn (off := 1897) (tgt := 1941) hx hb dL_law_44 q1 q2 (by rw [q3]; rfl) (by decide) (law_case_30 l hflags hL5 hx hb hml hown hts hX hbl hA hbA hC hLx (by omega) (by omega) ⟨h1, h4⟩ K hI hP hD hS hl)
      · exact lv_tableIn (off := 1965) (tgt := 2009) hx hb dL_law_44 q1 q2 (by rw [q3]; rfl) (by decide) (law_case_31 l hflags hL5 hx hb hml hown hts hX hbl hA hbA hC hLx (by omega) (by omega) ⟨h1, h4⟩ K hI hP hD hS hl)
      · exact lv_tableIn (off := 2033) (tgt := 2077) hx hb dL_law_44 q1 q2 (by rw [q3]; rfl) (by decide) (law_case_32 l hflags hL5 hx hb hml hown hts hX hbl hA hbA hC hLx (by omega) (by omega) ⟨h1, h4⟩ K hI hP hD hS hl)
      · exact lv_tableIn (off := 2089) (tgt := 2133) hx hb dL_law_44 q1 q2 (by rw [q3]; rfl) (by decide) (law_case_33 l hflags hL5 hx hb hml hown hts hX hbl hA hbA hC hLx (by omega) (by omega) ⟨h1, h4⟩ K hI hP hD hS hl)
      · exact lv_tableIn (off := 2145) (tgt := 2189) hx hb dL_law_44 q1 q2 (by rw [q3]; rfl) (by decide) (law_case_34 l hflags hL5 hx hb hml hown hts hX hbl hA hbA hC hLx (by omega) (by omega) ⟨h1, h4⟩ K hI hP hD hS hl)
      · exact lv_tableIn (off := 2201) (tgt := 2245) hx hb dL_law_44 q1 q2 (by rw [q3]; rfl) (by decide) (law_case_35 l hflags hL5 hx hb hml hown hts hX hbl hA hbA hC hLx (by omega) (by omega) ⟨h1, h4⟩ K hI hP hD hS hl)
      · exact lv_tableIn (off := 2257) (tgt := 2301) hx hb dL_law_44 q1 q2 (by rw [q3]; rfl) (by decide) (law_case_36 l hflags hL5 hx hb hml hown hts hX hbl hA hbA hC hLx (by omega) (by omega) ⟨h1, h4⟩ K hI hP hD hS hl)
      · exact lv_tableIn (off := 2313) (tgt := 2357) hx hb dL_law_44 q1 q2 (by rw [q3]; rfl) (by decide) (law_case_37 l hflags hL5 hx hb hml hown hts hX hbl hA hbA hC hLx (by omega) (by omega) ⟨h1, h4⟩ K hI hP hD hS hl)
      · exact lv_tableIn (off := 2369) (tgt := 2413) hx hb dL_law_44 q1 q2 (by rw [q3]; rfl) (by decide) (law_case_38 l hflags hL5 hx hb hml hown hts hX hbl hA hbA hC hLx (by omega) (by omega) ⟨h1, h4⟩ K hI hP hD hS hl)
      · exact lv_tableIn (off := 2383) (tgt := 2427) hx hb dL_law_44 q1 q2 (by rw [q3]; rfl) (by decide) (law_case_39 l hflags hL5 hx hb hml hown hts hX hbl hA hbA hC hLx (by omega) (by omega) ⟨h1, h4⟩ K hI hP hD hS hl)
      · exact lv_tableIn (off := 2427) (tgt := 2471) hx hb dL_law_44 q1 q2 (by rw [q3]; rfl) (by decide) (law_case_40 l hflags hL5 hx hb hml hown hts hX hbl hA hbA hC hLx (by omega) (by omega) ⟨h1, h4⟩ K hI hP hD hS hl)
      · exact lv_tableIn (off := 2492) (tgt := 2536) hx hb dL_law_44 q1 q2 (by rw [q3]; rfl) (by decide) (law_case_41 l hflags hL5 hx hb hml hown hts hX hbl hA hbA hC hLx (by omega) (by omega) ⟨h1, h4⟩ K hI hP hD hS hl)
      · exact lv_tableIn (off := 2505) (tgt := 2549) hx hb dL_law_44 q1 q2 (by rw [q3]; rfl) (by decide) (law_case_42 l hflags hL5 hx hb hml hown hts hX hbl hA hbA hC hLx (by omega) (by omega) ⟨h1, h4⟩ K hI hP hD hS hl)
      · exact lv_tableIn (off := 2561) (tgt := 2605) hx hb dL_law_44 q1 q2 (by rw [q3]; rfl) (by decide) (law_case_43 l hflags hL5 hx hb hml hown hts hX hbl hA hbA hC hLx (by omega) (by omega) ⟨h1, h4⟩ K hI hP hD hS hl)
