set_option maxHeartbeats 4000000 in
set_option maxRecDepth 100000 in
theorem c_X8_curedShare (l : Launch) (hflags : l.stackTraces = false) (g : xg) (sz : Nat) (aR aG aP aH aY aT aS aF aX aYh aYt aYc : Nat) (pr tk tol hou : Int) (ht yc : Int → Int) (hb_ht : bnd ht 0 12) (hhou : 0 ≤ hou ∧ hou ≤ 5000) (hb_yc : bnd yc 0 5000) : vx_Met l yX8_curedShare wsX8_curedShare { frames := 6, cells := 1, slots := 6, locals := 92 } (va_Pc [.ref aR] (xB g [(aR, .inr (10, [.ref aG, .ref aP, .ref aH, .ref aY, .ref aT, .ref aS, .ref aF, .ref aX, .int (iI pr), .int (iI tk), .int (iI tol), .int (iI hou)])), (aY, .inr (9, [.ref aYh, .ref aYt, .ref aYc])), (aYh, .inl (gI g, 3, .inl (ar ht))), (aYc, .inl (gI g, 36, .inl (ar yc)))] sz)) (va_Qf (fun r u => r = (fun (u : Unit) => shF (sumI (cuF ht yc hou) 3) (sumI ht 3)) u ∧ (fun (u : Unit) => (sumI ht 3 ≠ 0) ∧ (True)) u) (fun u t => xE g (va_A [(aR, .inr (10, [.ref aG, .ref aP, .ref aH, .ref aY, .ref aT, .ref aS, .ref aF, .ref aX, .int (iI pr), .int (iI tk), .int (iI tol), .int (iI hou)])), (aY, .inr (9, [.ref aYh, .ref aYt, .ref aYc])), (aYh, .inl (gI g, 3, .inl (ar ht))), (aYc, .inl (gI g, 36, .inl (ar yc)))] sz) ((fun (u : Unit) => [(aR, .inr (10, [.ref aG, .ref aP, .ref aH, .ref aY, .ref aT, .ref aS, .ref aF, .ref aX, .int (iI pr), .int (iI tk), .int (iI tol), .int (iI hou)])), (aY, .inr (9, [.ref aYh, .ref aYt, .ref aYc])), (aYh, .inl (gI g, 3, .inl (ar ht))), (aYc, .inl (gI g, 36, .inl (ar yc)))]) u) t) (va_A [(aR, .inr (10, [.ref aG, .ref aP, .ref aH, .ref aY, .ref aT, .ref aS, .ref aF, .ref aX, .int (iI pr), .int (iI tk), .int (iI tol), .int (iI hou)])), (aY, .inr (9, [.ref aYh, .ref aYt, .ref aYc])), (aYh, .inl (gI g, 3, .inl (ar ht))), (aYc, .inl (gI g, 36, .inl (ar yc)))] sz)) (xX g (va_A [(aR, .inr (10, [.ref aG, .ref aP, .ref aH, .ref aY, .ref aT, .ref aS, .ref aF, .ref aX, .int (iI pr), .int (iI tk), .int (iI tol), .int (iI hou)])), (aY, .inr (9, [.ref aYh, .ref aYt, .ref aYc])), (aYh, .inl (gI g, 3, .inl (ar ht))), (aYc, .inl (gI g, 36, .inl (ar yc)))] sz) (fun (u : Unit) => True) (fun E : String => (E = "java/lang/ArithmeticException" ∧ (sumI ht 3 = 0))) (fun (u : Unit) => ([(aR, .inr (10, [.ref aG, .ref aP, .ref aH, .ref aY, .ref aT, .ref aS, .ref aF, .ref aX, .int (iI pr), .int (iI tk), .int (iI tol), .int (iI hou)])), (aY, .inr (9, [.ref aYh, .ref aYt, .ref aYc])), (aYh, .inl (gI g, 3, .inl (ar ht))), (aYc, .inl (gI g, 36, .inl (ar yc)))] : va_W))) 1 6 (va_A [(aR, .inr (10, [.ref aG, .ref aP, .ref aH, .ref aY, .ref aT, .ref aS, .ref aF, .ref aX, .int (iI pr), .int (iI tk), .int (iI tol), .int (iI hou)])), (aY, .inr (9, [.ref aYh, .ref aYt, .ref aYc])), (aYh, .inl (gI g, 3, .inl (ar ht))), (aYc, .inl (gI g, 36, .inl (ar yc)))] sz) := by
  refine x_enterX (y := yX8_curedShare) (ws := wsX8_curedShare) (g := g) (sz := sz) (av := [.ref aR]) (WS := [(aR, .inr (10, [.ref aG, .ref aP, .ref aH, .ref aY, .ref aT, .ref aS, .ref aF, .ref aX, .int (iI pr), .int (iI tk), .int (iI tol), .int (iI hou)])), (aY, .inr (9, [.ref aYh, .ref aYt, .ref aYc])), (aYh, .inl (gI g, 3, .inl (ar ht))), (aYc, .inl (gI g, 36, .inl (ar yc)))]) (cc := cX8_curedShare) (maxL := 2) (ret := some .float) (Qc := (fun A => (va_Qf (fun r u => r = (fun (u : Unit) => shF (sumI (cuF ht yc hou) 3) (sumI ht 3)) u ∧ (fun (u : Unit) => (sumI ht 3 ≠ 0) ∧ (True)) u) (fun u t => xE g A ((fun (u : Unit) => [(aR, .inr (10, [.ref aG, .ref aP, .ref aH, .ref aY, .ref aT, .ref aS, .ref aF, .ref aX, .int (iI pr), .int (iI tk), .int (iI tol), .int (iI hou)])), (aY, .inr (9, [.ref aYh, .ref aYt, .ref aYc])), (aYh, .inl (gI g, 3, .inl (ar ht))), (aYc, .inl (gI g, 36, .inl (ar yc)))]) u) t) A))) (XC := (fun A => (xX g A (fun (u : Unit) => True) (fun E : String => (E = "java/lang/ArithmeticException" ∧ (sumI ht 3 = 0))) (fun (u : Unit) => ([(aR, .inr (10, [.ref aG, .ref aP, .ref aH, .ref aY, .ref aT, .ref aS, .ref aF, .ref aX, .int (iI pr), .int (iI tk), .int (iI tol), .int (iI hou)])), (aY, .inr (9, [.ref aYh, .ref aYt, .ref aYc])), (aYh, .inl (gI g, 3, .inl (ar ht))), (aYc, .inl (gI g, 36, .inl (ar yc)))] : va_W))))) (by decide) rfl (Nat.le_of_ble_eq_true rfl) ?_
  intro p e s m args below meth c A ls hx hb hr hml hown hts hlocks hout hC hP hD hS hA hl
  have hK := hC.1
  have hown : s.vm.findClass RX8 = some m.cls := hown
  have hin8 : ∀ w ∈ u_ws RX8 TX8 12, w ∈ wsX8_curedShare := by decide +kernel
  have hl : lv_has ls 2 [(0, .ref aR)] := hl
  obtain ⟨H, hH⟩ : ∃ z, z = s.heap := ⟨_, rfl⟩
  obtain ⟨locs, hlo⟩ : ∃ z : List Loc, z = [] := ⟨_, rfl⟩
  obtain ⟨Q9, hQ9⟩ : ∃ z, z = vx_MQ below (va_Qf (fun r u => r = (fun (u : Unit) => shF (sumI (cuF ht yc hou) 3) (sumI ht 3)) u ∧ (fun (u : Unit) => (sumI ht 3 ≠ 0) ∧ (True)) u) (fun u t => xE g A ((fun (u : Unit) => [(aR, .inr (10, [.ref aG, .ref aP, .ref aH, .ref aY, .ref aT, .ref aS, .ref aF, .ref aX, .int (iI pr), .int (iI tk), .int (iI tol), .int (iI hou)])), (aY, .inr (9, [.ref aYh, .ref aYt, .ref aYc])), (aYh, .inl (gI g, 3, .inl (ar ht))), (aYc, .inl (gI g, 36, .inl (ar yc)))]) u) t) A) (xX g A (fun (u : Unit) => True) (fun E : String => (E = "java/lang/ArithmeticException" ∧ (sumI ht 3 = 0))) (fun (u : Unit) => ([(aR, .inr (10, [.ref aG, .ref aP, .ref aH, .ref aY, .ref aT, .ref aS, .ref aF, .ref aX, .int (iI pr), .int (iI tk), .int (iI tol), .int (iI hou)])), (aY, .inr (9, [.ref aYh, .ref aYt, .ref aYc])), (aYh, .inl (gI g, 3, .inl (ar ht))), (aYc, .inl (gI g, 36, .inl (ar yc)))] : va_W))) args s 1 6 A := ⟨_, rfl⟩
  have hP : va_P (gD g) vwCl [(aR, .inr (10, [.ref aG, .ref aP, .ref aH, .ref aY, .ref aT, .ref aS, .ref aF, .ref aX, .int (iI pr), .int (iI tk), .int (iI tol), .int (iI hou)])), (aY, .inr (9, [.ref aYh, .ref aYt, .ref aYc])), (aYh, .inl (gI g, 3, .inl (ar ht))), (aYc, .inl (gI g, 36, .inl (ar yc)))] H := by rw [hH]; exact hP
  have hS : va_S A s.heap H locs := by rw [hH, hlo]; exact hS
  have goal_ : W p l e { frames := 6, cells := 1, slots := 6, locals := 92 } s m args below meth c H locs 0 0 Q9 (F0 m 0 ls []) := by
    clear hH hlo
    refine lv_aload_n hx hb dX8_curedShare_0 rfl (lv_at hl 0 rfl) ?_
    refine va_get (D := gD g) (ci := 10) (v := .ref aY) (C := RX8) (T := TX8) (N := 12) hx hb hts hin8 hown hK hP 0 rfl rfl 3 (by decide) (hts (.fieldLink RX8 33 "TunnelRing" "yard" "LTunnelRing$Yard;") (List.mem_of_getElem? (i := 3) rfl)) (fun _ h9 => h9) rfl dX8_curedShare_1 ?_
    refine x_calli (S := Unit) (wc := [(aY, .inr (9, [.ref aYh, .ref aYt, .ref aYc])), (aYh, .inl (gI g, 3, .inl (ar ht)))]) (wr := [(aR, .inr (10, [.ref aG, .ref aP, .ref aH, .ref aY, .ref aT, .ref aS, .ref aF, .ref aX, .int (iI pr), .int (iI tk), .int (iI tol), .int (iI hou)])), (aYc, .inl (gI g, 36, .inl (ar yc)))]) hC hP hD hS hA [1, 2] [0, 3] [0, 2, 3, 1] rfl rfl (fun hpre => va_runV (As := []) (rest := []) ⟨hx, hb, hml, hown, hts⟩ (c_X7_countRings l g H.size aY aYh aYt aYc ht (by first | (first | assumption | omega | exact bnd_up (by assumption) (by omega) (by omega)) | fail "q8")) (cwV 0 hts gX8_curedShare_X7_countRings rfl rfl rfl (by decide +kernel) ⟨Nat.le_of_ble_eq_true rfl, Nat.le_of_ble_eq_true rfl⟩) ⟨xB_blind, va_recv hK hP (ci := 9) (q0 := 1) rfl rfl, hpre _⟩ rfl rfl hl.1 rfl (lv_room (Nat.le_of_ble_eq_true rfl)) dX8_curedShare_4 ⟨Nat.le_of_ble_eq_true rfl, Nat.le_of_ble_eq_true rfl⟩) (fun (u : Unit) => [(aR, .inr (10, [.ref aG, .ref aP, .ref aH, .ref aY, .ref aT, .ref aS, .ref aF, .ref aX, .int (iI pr), .int (iI tk), .int (iI tol), .int (iI hou)])), (aY, .inr (9, [.ref aYh, .ref aYt, .ref aYc])), (aYh, .inl (gI g, 3, .inl (ar ht))), (aYc, .inl (gI g, 36, .inl (ar yc)))]) rfl rfl (by decide) (fun _ => rfl) rfl (fun u v_1 H locs hv_1 pv_1 hP hD hS => ?_)
    have hP : va_P (gD g) vwCl [(aR, .inr (10, [.ref aG, .ref aP, .ref aH, .ref aY, .ref aT, .ref aS, .ref aF, .ref aX, .int (iI pr), .int (iI tk), .int (iI tol), .int (iI hou)])), (aY, .inr (9, [.ref aYh, .ref aYt, .ref aYc])), (aYh, .inl (gI g, 3, .inl (ar ht))), (aYc, .inl (gI g, 36, .inl (ar yc)))] H := hP
    have hD : va_D A [(aR, .inr (10, [.ref aG, .ref aP, .ref aH, .ref aY, .ref aT, .ref aS, .ref aF, .ref aX, .int (iI pr), .int (iI tk), .int (iI tol), .int (iI hou)])), (aY, .inr (9, [.ref aYh, .ref aYt, .ref aYc])), (aYh, .inl (gI g, 3, .inl (ar ht))), (aYc, .inl (gI g, 36, .inl (ar yc)))] := hD
    have hv_1 : v_1 = sumI ht 3 := hv_1
    have pv_1 : 0 ≤ v_1 ∧ v_1 ≤ 36 := by first | exact pv_1 | (rw [hv_1]; exact pv_1)
    refine lv_istore_n (lv' := [(1, .int (iI v_1)), (0, .ref aR)]) hx hb dX8_curedShare_7 rfl hl (by decide) rfl (fun ls hl => ?_)
    refine lv_iload_n hx hb dX8_curedShare_8 rfl (lv_at hl 0 rfl) ?_
    refine x_if_ne (tgt := 22) hx hb (by omega) dX8_curedShare_9 (by decide) (fun c_2 => ?_) (fun c_2 => ?_)
    · skip
      refine lv_aload_n hx hb dX8_curedShare_22 rfl (lv_at hl 1 rfl) ?_
      refine va_get (D := gD g) (ci := 10) (v := .ref aY) (C := RX8) (T := TX8) (N := 12) hx hb hts hin8 hown hK hP 0 rfl rfl 3 (by decide) (hts (.fieldLink RX8 33 "TunnelRing" "yard" "LTunnelRing$Yard;") (List.mem_of_getElem? (i := 3) rfl)) (fun _ h9 => h9) rfl dX8_curedShare_23 ?_
      refine lv_aload_n hx hb dX8_curedShare_26 rfl (lv_at hl 1 rfl) ?_
      refine va_get (D := gD g) (ci := 10) (v := .int (iI hou)) (C := RX8) (T := TX8) (N := 12) hx hb hts hin8 hown hK hP 0 rfl rfl 11 (by decide) (hts (.fieldLink RX8 75 "TunnelRing" "hour" "I") (List.mem_of_getElem? (i := 4) rfl)) (fun _ h9 => h9) rfl dX8_curedShare_27 ?_
      refine x_calli (S := Unit) (wc := [(aY, .inr (9, [.ref aYh, .ref aYt, .ref aYc])), (aYh, .inl (gI g, 3, .inl (ar ht))), (aYc, .inl (gI g, 36, .inl (ar yc)))]) (wr := [(aR, .inr (10, [.ref aG, .ref aP, .ref aH, .ref aY, .ref aT, .ref aS, .ref aF, .ref aX, .int (iI pr), .int (iI tk), .int (iI tol), .int (iI hou)]))]) hC hP hD hS hA [1, 2, 3] [0] [0, 1, 2, 3] rfl rfl (fun hpre => va_runV (As := [.int (iI hou)]) (rest := []) ⟨hx, hb, hml, hown, hts⟩ (c_X7_countCured l g H.size aY aYh aYt aYc hou ht yc (by first | (first | assumption | omega | exact bnd_up (by assumption) (by omega) (by omega)) | fail "q8") (by first | (first | assumption | omega | exact bnd_up (by assumption) (by omega) (by omega)) | fail "q8") (by first | (first | assumption | omega | exact bnd_up (by assumption) (by omega) (by omega)) | fail "q8")) (cwV 1 hts gX8_curedShare_X7_countCured rfl rfl rfl (by decide +kernel) ⟨Nat.le_of_ble_eq_true rfl, Nat.le_of_ble_eq_true rfl⟩) ⟨xB_blind, va_recv hK hP (ci := 9) (q0 := 1) rfl rfl, hpre _⟩ rfl rfl hl.1 rfl (lv_room (Nat.le_of_ble_eq_true rfl)) dX8_curedShare_30 ⟨Nat.le_of_ble_eq_true rfl, Nat.le_of_ble_eq_true rfl⟩) (fun (u : Unit) => [(aR, .inr (10, [.ref aG, .ref aP, .ref aH, .ref aY, .ref aT, .ref aS, .ref aF, .ref aX, .int (iI pr), .int (iI tk), .int (iI tol), .int (iI hou)])), (aY, .inr (9, [.ref aYh, .ref aYt, .ref aYc])), (aYh, .inl (gI g, 3, .inl (ar ht))), (aYc, .inl (gI g, 36, .inl (ar yc)))]) rfl rfl (by decide) (fun _ => rfl) rfl (fun u v_3 H locs hv_3 pv_3 hP hD hS => ?_)
      have hP : va_P (gD g) vwCl [(aR, .inr (10, [.ref aG, .ref aP, .ref aH, .ref aY, .ref aT, .ref aS, .ref aF, .ref aX, .int (iI pr), .int (iI tk), .int (iI tol), .int (iI hou)])), (aY, .inr (9, [.ref aYh, .ref aYt, .ref aYc])), (aYh, .inl (gI g, 3, .inl (ar ht))), (aYc, .inl (gI g, 36, .inl (ar yc)))] H := hP
      have hD : va_D A [(aR, .inr (10, [.ref aG, .ref aP, .ref aH, .ref aY, .ref aT, .ref aS, .ref aF, .ref aX, .int (iI pr), .int (iI tk), .int (iI tol), .int (iI hou)])), (aY, .inr (9, [.ref aYh, .ref aYt, .ref aYc])), (aYh, .inl (gI g, 3, .inl (ar ht))), (aYc, .inl (gI g, 36, .inl (ar yc)))] := hD
      have hv_3 : v_3 = sumI (fun sta => sumI (fun pl => bI (mx 0 (yc (sta * 12 + pl) + 24 - hou) = 0)) (ht sta)) 3 := hv_3
      refine lv_i2f hx hb dX8_curedShare_33 ?_
      refine lv_iload_n hx hb dX8_curedShare_34 rfl (lv_at hl 0 rfl) ?_
      refine lv_i2f hx hb dX8_curedShare_35 ?_
      refine lv_fdiv hx hb dX8_curedShare_36 (by
          first
          | (
             have h1 := cuF_b (yc := yc) (hou := hou) hb_ht
             have h2 : 0 ≤ sumI ht 3 ∧ sumI ht 3 ≤ 36 := sumI_b (n := 3) (B := 12) hb_ht (by omega)
             subst_vars
             exact zf_div h1 (by omega))
          | fail "q9") ?_
      rw [hQ9]
      exact vx_ret (x_fret hx hb hr hlocks hP hD hS (S := Unit)  dX8_curedShare_37 () (by
          first
          | (
             subst_vars
             unfold shF
             rw [if_neg (by omega)]
             rfl)
          | fail "q9") ⟨(by
          first
          | (
             first | trivial | assumption | omega)
          | fail "q9"), trivial⟩ rfl (Nat.le_of_ble_eq_true rfl) (Nat.le_of_ble_eq_true rfl))
    · skip
      rw [hQ9]
      exact x_throwS hx hb hflags hown (by decide +kernel) (by decide +kernel) (hts (.classLink RX8 168 "java/lang/ArithmeticException") (List.mem_of_getElem? (i := 1) rfl)) (hts (.initialized "java/lang/ArithmeticException") (List.mem_of_getElem? (i := 2) rfl)) (hC.2.2.2.2.2.1 _ (List.mem_of_getElem? (i := 5) rfl)) (vx_hat (B := [.castable "java/lang/ArithmeticException" "java/lang/ArithmeticException", .declares (Bundle.initS "java/lang/RuntimeException"), .declares (Bundle.initS "java/lang/Exception"), .declares (Bundle.initS "java/lang/Throwable")]) (fun w h => hts w (List.mem_cons_of_mem _ (List.mem_append_left _ (List.mem_append_right _ h)))) (by decide +kernel) (vx_c (va_Nw.use rfl (hC.2.2.2.2.2.2.2.2.2.2.1 "java/lang/ArithmeticException" (List.mem_of_getElem? (i := 4) rfl))) (vx_c (va_Nw.use rfl (hC.2.2.2.2.2.2.2.2.2.2.2 "java/lang/RuntimeException" (List.mem_of_getElem? (i := 0) rfl))) (vx_c (va_Nw.use rfl (hC.2.2.2.2.2.2.2.2.2.2.2 "java/lang/Exception" (List.mem_of_getElem? (i := 1) rfl))) (vx_c (va_Nw.use rfl (hC.2.2.2.2.2.2.2.2.2.2.2 "java/lang/Throwable" (List.mem_of_getElem? (i := 2) rfl))) vx_n))))) (by decide +kernel) hC hP hD hS (hl.1.trans hml.symm) dX8_curedShare_12 dX8_curedShare_15 dX8_curedShare_16 dX8_curedShare_18 dX8_curedShare_21 hout (Nat.le_of_ble_eq_true rfl) (Nat.le_of_ble_eq_true rfl) (Nat.le_of_ble_eq_true rfl) (Nat.le_of_ble_eq_true rfl) hlocks () trivial ⟨rfl, (by
          first
          | (
             first | trivial | assumption | omega)
          | fail "q9")⟩ rfl (Nat.le_of_ble_eq_true rfl) (Nat.le_of_ble_eq_true rfl)
  rw [hH, hlo, hQ9] at goal_
  exact goal_

set_option maxHeartbeats 4000000 in
set_option maxRecDepth 100000 in
theorem c_X9_curedShare (l : Launch) (g : xg) (sz : Nat) (aM aMn aMw aMbx aMby aMs aMp aMt aMx aMy aMst aMc aMh aMf aMl aMm aMr aMd aMli : Nat) (kn pn ld bu hou pr tk tol ehx ehy tl th : Int) (yc ht : Int → Int) (hb_ht : bnd ht 0 12) (hhou : 0 ≤ hou ∧ hou ≤ 5000) (hb_yc : bnd yc 0 5000) : Met l yX9_curedShare wsX9_curedShare { frames := 2, cells := 0, slots := 0, locals := 43 } (va_Pc [.ref aM] (xB g [(aM, .inr (11, [.ref aMn, .ref aMw, .ref aMbx, .ref aMby, .ref aMs, .ref aMp, .ref aMt, .ref aMx, .ref aMy, .ref aMst, .ref aMc, .ref aMh, .ref aMf, .ref aMl, .ref aMm, .ref aMr, .ref aMd, .ref aMli, .int (iI kn), .int (iI pn), .int (iI ld), .int (iI bu), .int (iI hou), .int (iI pr), .int (iI tk), .int (iI tol), .int (iI ehx), .int (iI ehy), .int (iI tl), .int (iI th)])), (aMc, .inl (gI g, 36, .inl (ar yc))), (aMh, .inl (gI g, 3, .inl (ar ht)))] sz)) (va_Qf (fun r u => r = (fun (u : Unit) => shF (sumI (cuF ht yc hou) 3) (sumI ht 3)) u ∧ (fun (u : Unit) => True) u) (fun u t => xE g (va_A [(aM, .inr (11, [.ref aMn, .ref aMw, .ref aMbx, .ref aMby, .ref aMs, .ref aMp, .ref aMt, .ref aMx, .ref aMy, .ref aMst, .ref aMc, .ref aMh, .ref aMf, .ref aMl, .ref aMm, .ref aMr, .ref aMd, .ref aMli, .int (iI kn), .int (iI pn), .int (iI ld), .int (iI bu), .int (iI hou), .int (iI pr), .int (iI tk), .int (iI tol), .int (iI ehx), .int (iI ehy), .int (iI tl), .int (iI th)])), (aMc, .inl (gI g, 36, .inl (ar yc))), (aMh, .inl (gI g, 3, .inl (ar ht)))] sz) ((fun (u : Unit) => [(aM, .inr (11, [.ref aMn, .ref aMw, .ref aMbx, .ref aMby, .ref aMs, .ref aMp, .ref aMt, .ref aMx, .ref aMy, .ref aMst, .ref aMc, .ref aMh, .ref aMf, .ref aMl, .ref aMm, .ref aMr, .ref aMd, .ref aMli, .int (iI kn), .int (iI pn), .int (iI ld), .int (iI bu), .int (iI hou), .int (iI pr), .int (iI tk), .int (iI tol), .int (iI ehx), .int (iI ehy), .int (iI tl), .int (iI (bI (sumI ht 3 = 0)))])), (aMc, .inl (gI g, 36, .inl (ar yc))), (aMh, .inl (gI g, 3, .inl (ar ht)))]) u) t) (va_A [(aM, .inr (11, [.ref aMn, .ref aMw, .ref aMbx, .ref aMby, .ref aMs, .ref aMp, .ref aMt, .ref aMx, .ref aMy, .ref aMst, .ref aMc, .ref aMh, .ref aMf, .ref aMl, .ref aMm, .ref aMr, .ref aMd, .ref aMli, .int (iI kn), .int (iI pn), .int (iI ld), .int (iI bu), .int (iI hou), .int (iI pr), .int (iI tk), .int (iI tol), .int (iI ehx), .int (iI ehy), .int (iI tl), .int (iI th)])), (aMc, .inl (gI g, 36, .inl (ar yc))), (aMh, .inl (gI g, 3, .inl (ar ht)))] sz)) 0 0 (va_A [(aM, .inr (11, [.ref aMn, .ref aMw, .ref aMbx, .ref aMby, .ref aMs, .ref aMp, .ref aMt, .ref aMx, .ref aMy, .ref aMst, .ref aMc, .ref aMh, .ref aMf, .ref aMl, .ref aMm, .ref aMr, .ref aMd, .ref aMli, .int (iI kn), .int (iI pn), .int (iI ld), .int (iI bu), .int (iI hou), .int (iI pr), .int (iI tk), .int (iI tol), .int (iI ehx), .int (iI ehy), .int (iI tl), .int (iI th)])), (aMc, .inl (gI g, 36, .inl (ar yc))), (aMh, .inl (gI g, 3, .inl (ar ht)))] sz) := by
  refine x_enter (y := yX9_curedShare) (ws := wsX9_curedShare) (g := g) (sz := sz) (av := [.ref aM]) (WS := [(aM, .inr (11, [.ref aMn, .ref aMw, .ref aMbx, .ref aMby, .ref aMs, .ref aMp, .ref aMt, .ref aMx, .ref aMy, .ref aMst, .ref aMc, .ref aMh, .ref aMf, .ref aMl, .ref aMm, .ref aMr, .ref aMd, .ref aMli, .int (iI kn), .int (iI pn), .int (iI ld), .int (iI bu), .int (iI hou), .int (iI pr), .int (iI tk), .int (iI tol), .int (iI ehx), .int (iI ehy), .int (iI tl), .int (iI th)])), (aMc, .inl (gI g, 36, .inl (ar yc))), (aMh, .inl (gI g, 3, .inl (ar ht)))]) (cc := cX9_curedShare) (maxL := 5) (ret := some .float) (Qc := (fun A => (va_Qf (fun r u => r = (fun (u : Unit) => shF (sumI (cuF ht yc hou) 3) (sumI ht 3)) u ∧ (fun (u : Unit) => True) u) (fun u t => xE g A ((fun (u : Unit) => [(aM, .inr (11, [.ref aMn, .ref aMw, .ref aMbx, .ref aMby, .ref aMs, .ref aMp, .ref aMt, .ref aMx, .ref aMy, .ref aMst, .ref aMc, .ref aMh, .ref aMf, .ref aMl, .ref aMm, .ref aMr, .ref aMd, .ref aMli, .int (iI kn), .int (iI pn), .int (iI ld), .int (iI bu), .int (iI hou), .int (iI pr), .int (iI tk), .int (iI tol), .int (iI ehx), .int (iI ehy), .int (iI tl), .int (iI (bI (sumI ht 3 = 0)))])), (aMc, .inl (gI g, 36, .inl (ar yc))), (aMh, .inl (gI g, 3, .inl (ar ht)))]) u) t) A))) (by decide) rfl (Nat.le_of_ble_eq_true rfl) ?_
  intro p e s m args below meth c A ls hx hb hr hml hown hts hlocks hname hC hP hD hS hA hl
  have hK := hC.1
  have hown : s.vm.findClass RX9 = some m.cls := hown
  have hin9 : ∀ w ∈ u_ws RX9 TX9 30, w ∈ wsX9_curedShare := by decide +kernel
  have hl : lv_has ls 5 [(0, .ref aM)] := hl
  obtain ⟨H, hH⟩ : ∃ z, z = s.heap := ⟨_, rfl⟩
  obtain ⟨locs, hlo⟩ : ∃ z : List Loc, z = [] := ⟨_, rfl⟩
  obtain ⟨Q9, hQ9⟩ : ∃ z, z = MQ below (va_Qf (fun r u => r = (fun (u : Unit) => shF (sumI (cuF ht yc hou) 3) (sumI ht 3)) u ∧ (fun (u : Unit) => True) u) (fun u t => xE g A ((fun (u : Unit) => [(aM, .inr (11, [.ref aMn, .ref aMw, .ref aMbx, .ref aMby, .ref aMs, .ref aMp, .ref aMt, .ref aMx, .ref aMy, .ref aMst, .ref aMc, .ref aMh, .ref aMf, .ref aMl, .ref aMm, .ref aMr, .ref aMd, .ref aMli, .int (iI kn), .int (iI pn), .int (iI ld), .int (iI bu), .int (iI hou), .int (iI pr), .int (iI tk), .int (iI tol), .int (iI ehx), .int (iI ehy), .int (iI tl), .int (iI (bI (sumI ht 3 = 0)))])), (aMc, .inl (gI g, 36, .inl (ar yc))), (aMh, .inl (gI g, 3, .inl (ar ht)))]) u) t) A) args s 0 0 A := ⟨_, rfl⟩
  have hP : va_P (gD g) vwCl [(aM, .inr (11, [.ref aMn, .ref aMw, .ref aMbx, .ref aMby, .ref aMs, .ref aMp, .ref aMt, .ref aMx, .ref aMy, .ref aMst, .ref aMc, .ref aMh, .ref aMf, .ref aMl, .ref aMm, .ref aMr, .ref aMd, .ref aMli, .int (iI kn), .int (iI pn), .int (iI ld), .int (iI bu), .int (iI hou), .int (iI pr), .int (iI tk), .int (iI tol), .int (iI ehx), .int (iI ehy), .int (iI tl), .int (iI th)])), (aMc, .inl (gI g, 36, .inl (ar yc))), (aMh, .inl (gI g, 3, .inl (ar ht)))] H := by rw [hH]; exact hP
  have hS : va_S A s.heap H locs := by rw [hH, hlo]; exact hS
  have goal_ : W p l e { frames := 2, cells := 0, slots := 0, locals := 43 } s m args below meth c H locs 0 0 Q9 (F0 m 0 ls []) := by
    clear hH hlo
    refine x_iconst hx hb dX9_curedShare_0 ?_
    refine lv_istore_n (lv' := [(1, .int (iI 0)), (0, .ref aM)]) hx hb dX9_curedShare_1 rfl hl (by decide) rfl (fun ls hl => ?_)
    refine x_iconst hx hb dX9_curedShare_2 ?_
    refine lv_istore_n (lv' := [(2, .int (iI 0)), (1, .int (iI 0)), (0, .ref aM)]) hx hb dX9_curedShare_3 rfl hl (by decide) rfl (fun ls hl => ?_)
    refine x_iconst hx hb dX9_curedShare_4 ?_
    refine lv_istore_n (lv' := [(3, .int (iI 0)), (2, .int (iI 0)), (1, .int (iI 0)), (0, .ref aM)]) hx hb dX9_curedShare_5 rfl hl (by decide) rfl (fun ls hl => ?_)
    have lp6 : ∀ (n : Nat) (zk : Int) (zc : Int) (zn : Int), (0 ≤ zk ∧ zk ≤ 36) → (zc = sumI (fun j => if j % 12 < ht (j / 12) then (fun sta pl => bI (mx 0 (yc (sta * 12 + pl) + 24 - hou) = 0)) (j / 12) (j % 12) else 0) zk) → (zn = sumI (fun j => if j % 12 < ht (j / 12) then (fun _ _ => 1) (j / 12) (j % 12) else 0) zk) → 37 - zk ≤ (n : Int) → ∀ (H : Heap) (locs : List Loc), va_P (gD g) vwCl [(aM, .inr (11, [.ref aMn, .ref aMw, .ref aMbx, .ref aMby, .ref aMs, .ref aMp, .ref aMt, .ref aMx, .ref aMy, .ref aMst, .ref aMc, .ref aMh, .ref aMf, .ref aMl, .ref aMm, .ref aMr, .ref aMd, .ref aMli, .int (iI kn), .int (iI pn), .int (iI ld), .int (iI bu), .int (iI hou), .int (iI pr), .int (iI tk), .int (iI tol), .int (iI ehx), .int (iI ehy), .int (iI tl), .int (iI th)])), (aMc, .inl (gI g, 36, .inl (ar yc))), (aMh, .inl (gI g, 3, .inl (ar ht)))] H → va_D A [(aM, .inr (11, [.ref aMn, .ref aMw, .ref aMbx, .ref aMby, .ref aMs, .ref aMp, .ref aMt, .ref aMx, .ref aMy, .ref aMst, .ref aMc, .ref aMh, .ref aMf, .ref aMl, .ref aMm, .ref aMr, .ref aMd, .ref aMli, .int (iI kn), .int (iI pn), .int (iI ld), .int (iI bu), .int (iI hou), .int (iI pr), .int (iI tk), .int (iI tol), .int (iI ehx), .int (iI ehy), .int (iI tl), .int (iI th)])), (aMc, .inl (gI g, 36, .inl (ar yc))), (aMh, .inl (gI g, 3, .inl (ar ht)))] → va_S A s.heap H locs → ∀ (ls : Array Slot), lv_has ls 5 [(3, .int (iI zk)), (2, .int (iI zn)), (1, .int (iI zc)), (0, .ref aM)] → W p l e { frames := 2, cells := 0, slots := 0, locals := 43 } s m args below meth c H locs 0 0 Q9 (F0 m 6 ls []) := by
      intro n
      induction n with
      | zero => intro zk zc zn hzk hzc hzn hm; exfalso; omega
      | succ n ih6 =>
        intro zk zc zn hzk hzc hzn hm H locs hP hD hS ls hl
        refine lv_iload_n hx hb dX9_curedShare_6 rfl (lv_at hl 0 rfl) ?_
        refine x_bipush hx hb dX9_curedShare_7 (by decide) ?_
        refine x_cmp_ge (tgt := 75) hx hb (by omega) (by omega) dX9_curedShare_9 (by decide) (fun c_1 => ?_) (fun c_1 => ?_)
        · skip
          have ek : zk = 36 := by omega
          rw [ek] at hzc hzn
          have en : zn = sumI ht 3 := hzn.trans ((sumI_36 (fun _ _ => 1) hb_ht).trans (nuF_eq hb_ht))
          have ec : zc = sumI (cuF ht yc hou) 3 := hzc.trans (sumI_36 (fun sta pl => bI (mx 0 (yc (sta * 12 + pl) + 24 - hou) = 0)) hb_ht)
          have h1c := cuF_b (yc := yc) (hou := hou) hb_ht
          have h2c : 0 ≤ sumI ht 3 ∧ sumI ht 3 ≤ 36 := sumI_b (n := 3) (B := 12) hb_ht (by omega)
          refine lv_aload_n hx hb dX9_curedShare_75 rfl (lv_at hl 3 rfl) ?_
          refine lv_iload_n hx hb dX9_curedShare_76 rfl (lv_at hl 1 rfl) ?_
          refine x_if_ne (tgt := 84) hx hb (by omega) dX9_curedShare_77 (by decide) (fun c_2 => ?_) (fun c_2 => ?_)
          · skip
            refine x_iconst hx hb dX9_curedShare_84 ?_
            refine x_iconst hx hb dX9_curedShare_85 ?_
            refine x_calli (S := Unit) (wc := [(aM, .inr (11, [.ref aMn, .ref aMw, .ref aMbx, .ref aMby, .ref aMs, .ref aMp, .ref aMt, .ref aMx, .ref aMy, .ref aMst, .ref aMc, .ref aMh, .ref aMf, .ref aMl, .ref aMm, .ref aMr, .ref aMd, .ref aMli, .int (iI kn), .int (iI pn), .int (iI ld), .int (iI bu), .int (iI hou), .int (iI pr), .int (iI tk), .int (iI tol), .int (iI ehx), .int (iI ehy), .int (iI tl), .int (iI th)]))]) (wr := [(aMc, .inl (gI g, 36, .inl (ar yc))), (aMh, .inl (gI g, 3, .inl (ar ht)))]) hC hP hD hS hA [0] [1, 2] [2, 0, 1] rfl rfl (fun hpre => va_runV (As := [.int (iI 0), .int (iI 1)]) (rest := []) ⟨hx, hb, hml, hown, hts⟩ (c_X9_isThrown0 l g H.size aM aMn aMw aMbx aMby aMs aMp aMt aMx aMy aMst aMc aMh aMf aMl aMm aMr aMd aMli kn pn ld bu hou pr tk tol ehx ehy tl th 1) (cwV 2 hts gX9_curedShare_X9_isThrown rfl rfl rfl (by decide +kernel) ⟨Nat.le_of_ble_eq_true rfl, Nat.le_of_ble_eq_true rfl⟩) ⟨xB_blind, va_recv hK hP (ci := 11) (q0 := 0) rfl rfl, hpre _⟩ rfl rfl hl.1 rfl (lv_room (Nat.le_of_ble_eq_true rfl)) dX9_curedShare_86 ⟨Nat.le_of_ble_eq_true rfl, Nat.le_of_ble_eq_true rfl⟩) (fun (u : Unit) => [(aM, .inr (11, [.ref aMn, .ref aMw, .ref aMbx, .ref aMby, .ref aMs, .ref aMp, .ref aMt, .ref aMx, .ref aMy, .ref aMst, .ref aMc, .ref aMh, .ref aMf, .ref aMl, .ref aMm, .ref aMr, .ref aMd, .ref aMli, .int (iI kn), .int (iI pn), .int (iI ld), .int (iI bu), .int (iI hou), .int (iI pr), .int (iI tk), .int (iI tol), .int (iI ehx), .int (iI ehy), .int (iI tl), .int (iI 0)])), (aMc, .inl (gI g, 36, .inl (ar yc))), (aMh, .inl (gI g, 3, .inl (ar ht)))]) rfl rfl (by decide) (fun _ => rfl) rfl (fun u v_3 H locs hv_3 pv_3 hP hD hS => ?_)
            have hP : va_P (gD g) vwCl [(aM, .inr (11, [.ref aMn, .ref aMw, .ref aMbx, .ref aMby, .ref aMs, .ref aMp, .ref aMt, .ref aMx, .ref aMy, .ref aMst, .ref aMc, .ref aMh, .ref aMf, .ref aMl, .ref aMm, .ref aMr, .ref aMd, .ref aMli, .int (iI kn), .int (iI pn), .int (iI ld), .int (iI bu), .int (iI hou), .int (iI pr), .int (iI tk), .int (iI tol), .int (iI ehx), .int (iI ehy), .int (iI tl), .int (iI 0)])), (aMc, .inl (gI g, 36, .inl (ar yc))), (aMh, .inl (gI g, 3, .inl (ar ht)))] H := hP
            have hD : va_D A [(aM, .inr (11, [.ref aMn, .ref aMw, .ref aMbx, .ref aMby, .ref aMs, .ref aMp, .ref aMt, .ref aMx, .ref aMy, .ref aMst, .ref aMc, .ref aMh, .ref aMf, .ref aMl, .ref aMm, .ref aMr, .ref aMd, .ref aMli, .int (iI kn), .int (iI pn), .int (iI ld), .int (iI bu), .int (iI hou), .int (iI pr), .int (iI tk), .int (iI tol), .int (iI ehx), .int (iI ehy), .int (iI tl), .int (iI 0)])), (aMc, .inl (gI g, 36, .inl (ar yc))), (aMh, .inl (gI g, 3, .inl (ar ht)))] := hD
            have hv_3 : v_3 = 0 := hv_3
            subst hv_3
            refine x_if_eq (tgt := 96) hx hb (by omega) dX9_curedShare_89 (by decide) (fun c_4 => ?_) (fun c_4 => ?_)
            · skip
              refine lv_iload_n hx hb dX9_curedShare_96 rfl (lv_at hl 2 rfl) ?_
              refine lv_i2f hx hb dX9_curedShare_97 ?_
              refine lv_iload_n hx hb dX9_curedShare_98 rfl (lv_at hl 1 rfl) ?_
              refine lv_i2f hx hb dX9_curedShare_99 ?_
              refine lv_fdiv hx hb dX9_curedShare_100 (by
                  first
                  | (
                     exact zf_div (by omega) (by omega))
                  | fail "q9") ?_
              have q_5 : (bI (sumI ht 3 = 0)) = 0 := by
                first
                | (
                   unfold bI
                   first | rw [if_neg (by omega)] | rw [if_pos (by omega)])
                | fail "q9"
              have hw_6 := (congrArg (fun (z0 : Int) => ([(aM, .inr (11, [.ref aMn, .ref aMw, .ref aMbx, .ref aMby, .ref aMs, .ref aMp, .ref aMt, .ref aMx, .ref aMy, .ref aMst, .ref aMc, .ref aMh, .ref aMf, .ref aMl, .ref aMm, .ref aMr, .ref aMd, .ref aMli, .int (iI kn), .int (iI pn), .int (iI ld), .int (iI bu), .int (iI hou), .int (iI pr), .int (iI tk), .int (iI tol), .int (iI ehx), .int (iI ehy), .int (iI tl), .int (iI z0)])), (aMc, .inl (gI g, 36, .inl (ar yc))), (aMh, .inl (gI g, 3, .inl (ar ht)))] : va_W)) q_5.symm)
              rw [hQ9]
              exact x_fret hx hb hr hlocks hP hD hS (S := Unit)  dX9_curedShare_101 () (by
                  first
                  | (
                     show _ = shF (sumI (cuF ht yc hou) 3) (sumI ht 3)
                     unfold shF
                     first | (rw [if_neg (by omega), ← ec, ← en]) | (rw [if_pos (by omega)]))
                  | fail "q9") trivial hw_6 (Nat.le_of_ble_eq_true rfl) (Nat.le_of_ble_eq_true rfl)
            · skip
              exact absurd c_4 (by decide)
          · skip
            refine x_iconst hx hb dX9_curedShare_80 ?_
            refine lv_goto (tgt := 85) hx hb dX9_curedShare_81 (by decide) ?_
            refine x_iconst hx hb dX9_curedShare_85 ?_
            refine x_calli (S := Unit) (wc := [(aM, .inr (11, [.ref aMn, .ref aMw, .ref aMbx, .ref aMby, .ref aMs, .ref aMp, .ref aMt, .ref aMx, .ref aMy, .ref aMst, .ref aMc, .ref aMh, .ref aMf, .ref aMl, .ref aMm, .ref aMr, .ref aMd, .ref aMli, .int (iI kn), .int (iI pn), .int (iI ld), .int (iI bu), .int (iI hou), .int (iI pr), .int (iI tk), .int (iI tol), .int (iI ehx), .int (iI ehy), .int (iI tl), .int (iI th)]))]) (wr := [(aMc, .inl (gI g, 36, .inl (ar yc))), (aMh, .inl (gI g, 3, .inl (ar ht)))]) hC hP hD hS hA [0] [1, 2] [2, 0, 1] rfl rfl (fun hpre => va_runV (As := [.int (iI 1), .int (iI 1)]) (rest := []) ⟨hx, hb, hml, hown, hts⟩ (c_X9_isThrown1 l g H.size aM aMn aMw aMbx aMby aMs aMp aMt aMx aMy aMst aMc aMh aMf aMl aMm aMr aMd aMli kn pn ld bu hou pr tk tol ehx ehy tl th 1) (cwV 2 hts gX9_curedShare_X9_isThrown rfl rfl rfl (by decide +kernel) ⟨Nat.le_of_ble_eq_true rfl, Nat.le_of_ble_eq_true rfl⟩) ⟨xB_blind, va_recv hK hP (ci := 11) (q0 := 0) rfl rfl, hpre _⟩ rfl rfl hl.1 rfl (lv_room (Nat.le_of_ble_eq_true rfl)) dX9_curedShare_86 ⟨Nat.le_of_ble_eq_true rfl, Nat.le_of_ble_eq_true rfl⟩) (fun (u : Unit) => [(aM, .inr (11, [.ref aMn, .ref aMw, .ref aMbx, .ref aMby, .ref aMs, .ref aMp, .ref aMt, .ref aMx, .ref aMy, .ref aMst, .ref aMc, .ref aMh, .ref aMf, .ref aMl, .ref aMm, .ref aMr, .ref aMd, .ref aMli, .int (iI kn), .int (iI pn), .int (iI ld), .int (iI bu), .int (iI hou), .int (iI pr), .int (iI tk), .int (iI tol), .int (iI ehx), .int (iI ehy), .int (iI tl), .int (iI 1)])), (aMc, .inl (gI g, 36, .inl (ar yc))), (aMh, .inl (gI g, 3, .inl (ar ht)))]) rfl rfl (by decide) (fun _ => rfl) rfl (fun u v_7 H locs hv_7 pv_7 hP hD hS => ?_)
            have hP : va_P (gD g) vwCl [(aM, .inr (11, [.ref aMn, .ref aMw, .ref aMbx, .ref aMby, .ref aMs, .ref aMp, .ref aMt, .ref aMx, .ref aMy, .ref aMst, .ref aMc, .ref aMh, .ref aMf, .ref aMl, .ref aMm, .ref aMr, .ref aMd, .ref aMli, .int (iI kn), .int (iI pn), .int (iI ld), .int (iI bu), .int (iI hou), .int (iI pr), .int (iI tk), .int (iI tol), .int (iI ehx), .int (iI ehy), .int (iI tl), .int (iI 1)])), (aMc, .inl (gI g, 36, .inl (ar yc))), (aMh, .inl (gI g, 3, .inl (ar ht)))] H := hP
            have hD : va_D A [(aM, .inr (11, [.ref aMn, .ref aMw, .ref aMbx, .ref aMby, .ref aMs, .ref aMp, .ref aMt, .ref aMx, .ref aMy, .ref aMst, .ref aMc, .ref aMh, .ref aMf, .ref aMl, .ref aMm, .ref aMr, .ref aMd, .ref aMli, .int (iI kn), .int (iI pn), .int (iI ld), .int (iI bu), .int (iI hou), .int (iI pr), .int (iI tk), .int (iI tol), .int (iI ehx), .int (iI ehy), .int (iI tl), .int (iI 1)])), (aMc, .inl (gI g, 36, .inl (ar yc))), (aMh, .inl (gI g, 3, .inl (ar ht)))] := hD
            have hv_7 : v_7 = 1 := hv_7
            subst hv_7
            refine x_if_eq (tgt := 96) hx hb (by omega) dX9_curedShare_89 (by decide) (fun c_8 => ?_) (fun c_8 => ?_)
            · skip
              exact absurd c_8 (by decide)
            · skip
              refine lv_fconst0 hx hb dX9_curedShare_92 ?_
              refine lv_goto (tgt := 101) hx hb dX9_curedShare_93 (by decide) ?_
              have q_9 : (bI (sumI ht 3 = 0)) = 1 := by
                first
                | (
                   unfold bI
                   first | rw [if_neg (by omega)] | rw [if_pos (by omega)])
                | fail "q9"
              have hw_10 := (congrArg (fun (z0 : Int) => ([(aM, .inr (11, [.ref aMn, .ref aMw, .ref aMbx, .ref aMby, .ref aMs, .ref aMp, .ref aMt, .ref aMx, .ref aMy, .ref aMst, .ref aMc, .ref aMh, .ref aMf, .ref aMl, .ref aMm, .ref aMr, .ref aMd, .ref aMli, .int (iI kn), .int (iI pn), .int (iI ld), .int (iI bu), .int (iI hou), .int (iI pr), .int (iI tk), .int (iI tol), .int (iI ehx), .int (iI ehy), .int (iI tl), .int (iI z0)])), (aMc, .inl (gI g, 36, .inl (ar yc))), (aMh, .inl (gI g, 3, .inl (ar ht)))] : va_W)) q_9.symm)
              rw [hQ9]
              exact x_fret hx hb hr hlocks hP hD hS (S := Unit)  dX9_curedShare_101 () (by
                  first
                  | (
                     show _ = shF (sumI (cuF ht yc hou) 3) (sumI ht 3)
                     unfold shF
                     first | (rw [if_neg (by omega), ← ec, ← en]) | (rw [if_pos (by omega)]))
                  | fail "q9") trivial hw_10 (Nat.le_of_ble_eq_true rfl) (Nat.le_of_ble_eq_true rfl)
        · skip
          refine lv_iload_n hx hb dX9_curedShare_12 rfl (lv_at hl 0 rfl) ?_
          refine x_bipush hx hb dX9_curedShare_13 (by decide) ?_
          refine x_irem hx hb (by omega) (by omega) dX9_curedShare_15 ?_
          refine lv_aload_n hx hb dX9_curedShare_16 rfl (lv_at hl 3 rfl) ?_
          refine va_get (D := gD g) (ci := 11) (v := .ref aMh) (C := RX9) (T := TX9) (N := 30) hx hb hts hin9 hown hK hP 0 rfl rfl 11 (by decide) (hts (.fieldLink RX9 43 "TunnelRingModel" "height" "[I") (List.mem_of_getElem? (i := 1) rfl)) (fun _ h9 => h9) rfl dX9_curedShare_17 ?_
          refine lv_iload_n hx hb dX9_curedShare_20 rfl (lv_at hl 0 rfl) ?_
          refine x_bipush hx hb dX9_curedShare_21 (by decide) ?_
          refine x_idiv hx hb (by omega) (by omega) dX9_curedShare_23 ?_
          refine x_iald hx hb hK hP 2 0 rfl rfl (by omega) (by omega) (Nat.le_of_ble_eq_true rfl) dX9_curedShare_24 (fun v_11 hv_11 => ?_)
          have bv_11 : 0 ≤ v_11 ∧ v_11 ≤ 12 := by rw [hv_11]; exact hb_ht _
          refine x_cmp_ge (tgt := 32) hx hb (by omega) (by omega) dX9_curedShare_25 (by decide) (fun c_12 => ?_) (fun c_12 => ?_)
          · skip
            refine x_iconst hx hb dX9_curedShare_32 ?_
            refine lv_istore (lv' := [(4, .int (iI 0)), (3, .int (iI zk)), (2, .int (iI zn)), (1, .int (iI zc)), (0, .ref aM)]) hx hb dX9_curedShare_33 hl (by decide) rfl (fun ls hl => ?_)
            refine lv_iload_n hx hb dX9_curedShare_35 rfl (lv_at hl 2 rfl) ?_
            refine lv_iload hx hb dX9_curedShare_36 (lv_at hl 0 rfl) ?_
            refine x_if_eq (tgt := 45) hx hb (by omega) dX9_curedShare_38 (by decide) (fun c_13 => ?_) (fun c_13 => ?_)
            · skip
              refine x_iconst hx hb dX9_curedShare_45 ?_
              refine x_iadd hx hb dX9_curedShare_46 ?_
              obtain ⟨v_14, ev_14⟩ : ∃ z : Int, z = zn + 0 := ⟨_, rfl⟩
              refine x_top ev_14.symm ?_
              refine lv_istore_n (lv' := [(2, .int (iI v_14)), (4, .int (iI 0)), (3, .int (iI zk)), (1, .int (iI zc)), (0, .ref aM)]) hx hb dX9_curedShare_47 rfl hl (by decide) rfl (fun ls hl => ?_)
              refine lv_iload_n hx hb dX9_curedShare_48 rfl (lv_at hl 3 rfl) ?_
              refine lv_iload hx hb dX9_curedShare_49 (lv_at hl 1 rfl) ?_
              refine x_if_eq (tgt := 66) hx hb (by omega) dX9_curedShare_51 (by decide) (fun c_15 => ?_) (fun c_15 => ?_)
              · skip
                refine x_iconst hx hb dX9_curedShare_66 ?_
                refine x_iadd hx hb dX9_curedShare_67 ?_
                obtain ⟨v_16, ev_16⟩ : ∃ z : Int, z = zc + 0 := ⟨_, rfl⟩
                refine x_top ev_16.symm ?_
                refine lv_istore_n (lv' := [(1, .int (iI v_16)), (2, .int (iI v_14)), (4, .int (iI 0)), (3, .int (iI zk)), (0, .ref aM)]) hx hb dX9_curedShare_68 rfl hl (by decide) rfl (fun ls hl => ?_)
                refine x_iinc (k := 3) (lv' := [(3, .int (iI (zk + 1))), (1, .int (iI v_16)), (2, .int (iI v_14)), (4, .int (iI 0)), (0, .ref aM)]) hx hb dX9_curedShare_69 hl rfl (by decide) rfl (fun ls hl => ?_)
                refine lv_goto (tgt := 6) hx hb dX9_curedShare_72 (by decide) ?_
                exact ih6 (zk + 1) v_16 v_14 (show 0 ≤ (zk + 1) ∧ (zk + 1) ≤ 36 by
                    first
                    | (
                       first | assumption | omega | rfl)
                    | fail "q9") (show v_16 = sumI (fun j => if j % 12 < ht (j / 12) then (fun sta pl => bI (mx 0 (yc (sta * 12 + pl) + 24 - hou) = 0)) (j / 12) (j % 12) else 0) (zk + 1) by
                    first
                    | (
                       rw [sumI_step _ hzk.1, ← hzc]
                       show _ = zc + (if zk % 12 < ht (zk / 12) then (if mx 0 (yc (zk / 12 * 12 + zk % 12) + 24 - hou) = 0 then 1 else 0) else 0)
                       rw [show zk / 12 * 12 + zk % 12 = zk by omega]
                       omega)
                    | fail "q9") (show v_14 = sumI (fun j => if j % 12 < ht (j / 12) then (fun _ _ => 1) (j / 12) (j % 12) else 0) (zk + 1) by
                    first
                    | (
                       rw [sumI_step _ hzk.1, ← hzn]
                       show _ = zn + (if zk % 12 < ht (zk / 12) then 1 else 0)
                       omega)
                    | fail "q9") (by
                    first
                    | (
                       omega)
                    | fail "q9") _ _ hP hD hS ls (lv_sub hl [0, 2, 1, 4] rfl)
              · skip
                exact absurd c_15 (by decide)
            · skip
              exact absurd c_13 (by decide)
          · skip
            refine x_iconst hx hb dX9_curedShare_28 ?_
            refine lv_goto (tgt := 33) hx hb dX9_curedShare_29 (by decide) ?_
            refine lv_istore (lv' := [(4, .int (iI 1)), (3, .int (iI zk)), (2, .int (iI zn)), (1, .int (iI zc)), (0, .ref aM)]) hx hb dX9_curedShare_33 hl (by decide) rfl (fun ls hl => ?_)
            refine lv_iload_n hx hb dX9_curedShare_35 rfl (lv_at hl 2 rfl) ?_
            refine lv_iload hx hb dX9_curedShare_36 (lv_at hl 0 rfl) ?_
            refine x_if_eq (tgt := 45) hx hb (by omega) dX9_curedShare_38 (by decide) (fun c_17 => ?_) (fun c_17 => ?_)
            · skip
              exact absurd c_17 (by decide)
            · skip
              refine x_iconst hx hb dX9_curedShare_41 ?_
              refine lv_goto (tgt := 46) hx hb dX9_curedShare_42 (by decide) ?_
              refine x_iadd hx hb dX9_curedShare_46 ?_
              obtain ⟨v_18, ev_18⟩ : ∃ z : Int, z = zn + 1 := ⟨_, rfl⟩
              refine x_top ev_18.symm ?_
              refine lv_istore_n (lv' := [(2, .int (iI v_18)), (4, .int (iI 1)), (3, .int (iI zk)), (1, .int (iI zc)), (0, .ref aM)]) hx hb dX9_curedShare_47 rfl hl (by decide) rfl (fun ls hl => ?_)
              refine lv_iload_n hx hb dX9_curedShare_48 rfl (lv_at hl 3 rfl) ?_
              refine lv_iload hx hb dX9_curedShare_49 (lv_at hl 1 rfl) ?_
              refine x_if_eq (tgt := 66) hx hb (by omega) dX9_curedShare_51 (by decide) (fun c_19 => ?_) (fun c_19 => ?_)
              · skip
                exact absurd c_19 (by decide)
              · skip
                refine lv_aload_n hx hb dX9_curedShare_54 rfl (lv_at hl 4 rfl) ?_
                refine lv_iload_n hx hb dX9_curedShare_55 rfl (lv_at hl 2 rfl) ?_
                refine x_calli (S := Unit) (wc := [(aM, .inr (11, [.ref aMn, .ref aMw, .ref aMbx, .ref aMby, .ref aMs, .ref aMp, .ref aMt, .ref aMx, .ref aMy, .ref aMst, .ref aMc, .ref aMh, .ref aMf, .ref aMl, .ref aMm, .ref aMr, .ref aMd, .ref aMli, .int (iI kn), .int (iI pn), .int (iI ld), .int (iI bu), .int (iI hou), .int (iI pr), .int (iI tk), .int (iI tol), .int (iI ehx), .int (iI ehy), .int (iI tl), .int (iI th)])), (aMc, .inl (gI g, 36, .inl (ar yc)))]) (wr := [(aMh, .inl (gI g, 3, .inl (ar ht)))]) hC hP hD hS hA [0, 1] [2] [1, 2, 0] rfl rfl (fun hpre => va_runV (As := [.int (iI zk)]) (rest := [.int (iI zc)]) ⟨hx, hb, hml, hown, hts⟩ (c_X9_toCure l g H.size aM aMn aMw aMbx aMby aMs aMp aMt aMx aMy aMst aMc aMh aMf aMl aMm aMr aMd aMli kn pn ld bu hou pr tk tol ehx ehy tl th zk yc (by first | (first | assumption | omega | exact bnd_up (by assumption) (by omega) (by omega)) | fail "q8") (by first | (first | assumption | omega | exact bnd_up (by assumption) (by omega) (by omega)) | fail "q8") (by first | (first | assumption | omega | exact bnd_up (by assumption) (by omega) (by omega)) | fail "q8")) (cwV 1 hts gX9_curedShare_X9_toCure rfl rfl rfl (by decide +kernel) ⟨Nat.le_of_ble_eq_true rfl, Nat.le_of_ble_eq_true rfl⟩) ⟨xB_blind, va_recv hK hP (ci := 11) (q0 := 0) rfl rfl, hpre _⟩ rfl rfl hl.1 rfl (lv_room (Nat.le_of_ble_eq_true rfl)) dX9_curedShare_56 ⟨Nat.le_of_ble_eq_true rfl, Nat.le_of_ble_eq_true rfl⟩) (fun (u : Unit) => [(aM, .inr (11, [.ref aMn, .ref aMw, .ref aMbx, .ref aMby, .ref aMs, .ref aMp, .ref aMt, .ref aMx, .ref aMy, .ref aMst, .ref aMc, .ref aMh, .ref aMf, .ref aMl, .ref aMm, .ref aMr, .ref aMd, .ref aMli, .int (iI kn), .int (iI pn), .int (iI ld), .int (iI bu), .int (iI hou), .int (iI pr), .int (iI tk), .int (iI tol), .int (iI ehx), .int (iI ehy), .int (iI tl), .int (iI th)])), (aMc, .inl (gI g, 36, .inl (ar yc))), (aMh, .inl (gI g, 3, .inl (ar ht)))]) rfl rfl (by decide) (fun _ => rfl) rfl (fun u v_20 H locs hv_20 pv_20 hP hD hS => ?_)
                have hP : va_P (gD g) vwCl [(aM, .inr (11, [.ref aMn, .ref aMw, .ref aMbx, .ref aMby, .ref aMs, .ref aMp, .ref aMt, .ref aMx, .ref aMy, .ref aMst, .ref aMc, .ref aMh, .ref aMf, .ref aMl, .ref aMm, .ref aMr, .ref aMd, .ref aMli, .int (iI kn), .int (iI pn), .int (iI ld), .int (iI bu), .int (iI hou), .int (iI pr), .int (iI tk), .int (iI tol), .int (iI ehx), .int (iI ehy), .int (iI tl), .int (iI th)])), (aMc, .inl (gI g, 36, .inl (ar yc))), (aMh, .inl (gI g, 3, .inl (ar ht)))] H := hP
                have hD : va_D A [(aM, .inr (11, [.ref aMn, .ref aMw, .ref aMbx, .ref aMby, .ref aMs, .ref aMp, .ref aMt, .ref aMx, .ref aMy, .ref aMst, .ref aMc, .ref aMh, .ref aMf, .ref aMl, .ref aMm, .ref aMr, .ref aMd, .ref aMli, .int (iI kn), .int (iI pn), .int (iI ld), .int (iI bu), .int (iI hou), .int (iI pr), .int (iI tk), .int (iI tol), .int (iI ehx), .int (iI ehy), .int (iI tl), .int (iI th)])), (aMc, .inl (gI g, 36, .inl (ar yc))), (aMh, .inl (gI g, 3, .inl (ar ht)))] := hD
                have hv_20 : v_20 = mx 0 (yc zk + 24 - hou) := hv_20
                have pv_20 : 0 ≤ v_20 ∧ v_20 ≤ 5024 := by first | exact pv_20 | (rw [hv_20]; exact pv_20)
                refine x_if_ne (tgt := 66) hx hb (by omega) dX9_curedShare_59 (by decide) (fun c_21 => ?_) (fun c_21 => ?_)
                · skip
                  refine x_iconst hx hb dX9_curedShare_66 ?_
                  refine x_iadd hx hb dX9_curedShare_67 ?_
                  obtain ⟨v_22, ev_22⟩ : ∃ z : Int, z = zc + 0 := ⟨_, rfl⟩
                  refine x_top ev_22.symm ?_
                  refine lv_istore_n (lv' := [(1, .int (iI v_22)), (2, .int (iI v_18)), (4, .int (iI 1)), (3, .int (iI zk)), (0, .ref aM)]) hx hb dX9_curedShare_68 rfl hl (by decide) rfl (fun ls hl => ?_)
                  refine x_iinc (k := 3) (lv' := [(3, .int (iI (zk + 1))), (1, .int (iI v_22)), (2, .int (iI v_18)), (4, .int (iI 1)), (0, .ref aM)]) hx hb dX9_curedShare_69 hl rfl (by decide) rfl (fun ls hl => ?_)
                  refine lv_goto (tgt := 6) hx hb dX9_curedShare_72 (by decide) ?_
                  exact ih6 (zk + 1) v_22 v_18 (show 0 ≤ (zk + 1) ∧ (zk + 1) ≤ 36 by
                      first
                      | (
                         first | assumption | omega | rfl)
                      | fail "q9") (show v_22 = sumI (fun j => if j % 12 < ht (j / 12) then (fun sta pl => bI (mx 0 (yc (sta * 12 + pl) + 24 - hou) = 0)) (j / 12) (j % 12) else 0) (zk + 1) by
                      first
                      | (
                         rw [sumI_step _ hzk.1, ← hzc]
                         show _ = zc + (if zk % 12 < ht (zk / 12) then (if mx 0 (yc (zk / 12 * 12 + zk % 12) + 24 - hou) = 0 then 1 else 0) else 0)
                         rw [show zk / 12 * 12 + zk % 12 = zk by omega]
                         omega)
                      | fail "q9") (show v_18 = sumI (fun j => if j % 12 < ht (j / 12) then (fun _ _ => 1) (j / 12) (j % 12) else 0) (zk + 1) by
                      first
                      | (
                         rw [sumI_step _ hzk.1, ← hzn]
                         show _ = zn + (if zk % 12 < ht (zk / 12) then 1 else 0)
                         omega)
                      | fail "q9") (by
                      first
                      | (
                         omega)
                      | fail "q9") _ _ hP hD hS ls (lv_sub hl [0, 2, 1, 4] rfl)
                · skip
                  refine x_iconst hx hb dX9_curedShare_62 ?_
                  refine lv_goto (tgt := 67) hx hb dX9_curedShare_63 (by decide) ?_
                  refine x_iadd hx hb dX9_curedShare_67 ?_
                  obtain ⟨v_23, ev_23⟩ : ∃ z : Int, z = zc + 1 := ⟨_, rfl⟩
                  refine x_top ev_23.symm ?_
                  refine lv_istore_n (lv' := [(1, .int (iI v_23)), (2, .int (iI v_18)), (4, .int (iI 1)), (3, .int (iI zk)), (0, .ref aM)]) hx hb dX9_curedShare_68 rfl hl (by decide) rfl (fun ls hl => ?_)
                  refine x_iinc (k := 3) (lv' := [(3, .int (iI (zk + 1))), (1, .int (iI v_23)), (2, .int (iI v_18)), (4, .int (iI 1)), (0, .ref aM)]) hx hb dX9_curedShare_69 hl rfl (by decide) rfl (fun ls hl => ?_)
                  refine lv_goto (tgt := 6) hx hb dX9_curedShare_72 (by decide) ?_
                  exact ih6 (zk + 1) v_23 v_18 (show 0 ≤ (zk + 1) ∧ (zk + 1) ≤ 36 by
                      first
                      | (
                         first | assumption | omega | rfl)
                      | fail "q9") (show v_23 = sumI (fun j => if j % 12 < ht (j / 12) then (fun sta pl => bI (mx 0 (yc (sta * 12 + pl) + 24 - hou) = 0)) (j / 12) (j % 12) else 0) (zk + 1) by
                      first
                      | (
                         rw [sumI_step _ hzk.1, ← hzc]
                         show _ = zc + (if zk % 12 < ht (zk / 12) then (if mx 0 (yc (zk / 12 * 12 + zk % 12) + 24 - hou) = 0 then 1 else 0) else 0)
                         rw [show zk / 12 * 12 + zk % 12 = zk by omega]
                         omega)
                      | fail "q9") (show v_18 = sumI (fun j => if j % 12 < ht (j / 12) then (fun _ _ => 1) (j / 12) (j % 12) else 0) (zk + 1) by
                      first
                      | (
                         rw [sumI_step _ hzk.1, ← hzn]
                         show _ = zn + (if zk % 12 < ht (zk / 12) then 1 else 0)
                         omega)
                      | fail "q9") (by
                      first
                      | (
                         omega)
                      | fail "q9") _ _ hP hD hS ls (lv_sub hl [0, 2, 1, 4] rfl)
    exact lp6 (37 - 0 : Int).toNat 0 0 0 (show 0 ≤ 0 ∧ 0 ≤ 36 by
        first
        | (
           first | assumption | omega | rfl)
        | fail "q9") (show 0 = sumI (fun j => if j % 12 < ht (j / 12) then (fun sta pl => bI (mx 0 (yc (sta * 12 + pl) + 24 - hou) = 0)) (j / 12) (j % 12) else 0) 0 by
        first
        | (
           rfl)
        | fail "q9") (show 0 = sumI (fun j => if j % 12 < ht (j / 12) then (fun _ _ => 1) (j / 12) (j % 12) else 0) 0 by
        first
        | (
           rfl)
        | fail "q9") (by omega) _ _ hP hD hS ls (lv_sub hl [0, 1, 2, 3] rfl)
  rw [hH, hlo, hQ9] at goal_
  exact goal_

set_option maxHeartbeats 4000000 in
set_option maxRecDepth 100000 in
theorem c_X8_meanSinking (l : Launch) (hflags : l.stackTraces = false) (g : xg) (sz : Nat) (aR aG aP aH aY aT aS aF aX aGn aGw aGs aTp aTt aTx aTy aE : Nat) (pr tk tol hou kn ld : Int) (sk : Int → Int) (hkn : 0 ≤ kn ∧ kn ≤ 200) (hld : 0 ≤ ld ∧ ld ≤ 200) (hb_sk : bnd sk 0 500000) (hlk : ld ≤ kn) : vx_Met l yX8_meanSinking wsX8_meanSinking { frames := 6, cells := 1, slots := 6, locals := 92 } (va_Pc [.ref aR] (xB g [(aR, .inr (10, [.ref aG, .ref aP, .ref aH, .ref aY, .ref aT, .ref aS, .ref aF, .ref aX, .int (iI pr), .int (iI tk), .int (iI tol), .int (iI hou)])), (aG, .inr (3, [.ref aGn, .ref aGw, .ref aGs, .int (iI kn)])), (aGs, .inl (gI g, 200, .inl (ar sk))), (aT, .inr (8, [.ref aTp, .ref aTt, .ref aTx, .ref aTy, .ref aE, .int (iI ld)]))] sz)) (va_Qd (fun r u => r = (fun (u : Unit) => mnD (sumI sk ld) ld) u ∧ (fun (u : Unit) => (ld ≠ 0) ∧ (True)) u) (fun u t => xE g (va_A [(aR, .inr (10, [.ref aG, .ref aP, .ref aH, .ref aY, .ref aT, .ref aS, .ref aF, .ref aX, .int (iI pr), .int (iI tk), .int (iI tol), .int (iI hou)])), (aG, .inr (3, [.ref aGn, .ref aGw, .ref aGs, .int (iI kn)])), (aGs, .inl (gI g, 200, .inl (ar sk))), (aT, .inr (8, [.ref aTp, .ref aTt, .ref aTx, .ref aTy, .ref aE, .int (iI ld)]))] sz) ((fun (u : Unit) => [(aR, .inr (10, [.ref aG, .ref aP, .ref aH, .ref aY, .ref aT, .ref aS, .ref aF, .ref aX, .int (iI pr), .int (iI tk), .int (iI tol), .int (iI hou)])), (aG, .inr (3, [.ref aGn, .ref aGw, .ref aGs, .int (iI kn)])), (aGs, .inl (gI g, 200, .inl (ar sk))), (aT, .inr (8, [.ref aTp, .ref aTt, .ref aTx, .ref aTy, .ref aE, .int (iI ld)]))]) u) t) (va_A [(aR, .inr (10, [.ref aG, .ref aP, .ref aH, .ref aY, .ref aT, .ref aS, .ref aF, .ref aX, .int (iI pr), .int (iI tk), .int (iI tol), .int (iI hou)])), (aG, .inr (3, [.ref aGn, .ref aGw, .ref aGs, .int (iI kn)])), (aGs, .inl (gI g, 200, .inl (ar sk))), (aT, .inr (8, [.ref aTp, .ref aTt, .ref aTx, .ref aTy, .ref aE, .int (iI ld)]))] sz)) (xX g (va_A [(aR, .inr (10, [.ref aG, .ref aP, .ref aH, .ref aY, .ref aT, .ref aS, .ref aF, .ref aX, .int (iI pr), .int (iI tk), .int (iI tol), .int (iI hou)])), (aG, .inr (3, [.ref aGn, .ref aGw, .ref aGs, .int (iI kn)])), (aGs, .inl (gI g, 200, .inl (ar sk))), (aT, .inr (8, [.ref aTp, .ref aTt, .ref aTx, .ref aTy, .ref aE, .int (iI ld)]))] sz) (fun (u : Unit) => True) (fun E : String => (E = "java/lang/ArithmeticException" ∧ (ld = 0))) (fun (u : Unit) => ([(aR, .inr (10, [.ref aG, .ref aP, .ref aH, .ref aY, .ref aT, .ref aS, .ref aF, .ref aX, .int (iI pr), .int (iI tk), .int (iI tol), .int (iI hou)])), (aG, .inr (3, [.ref aGn, .ref aGw, .ref aGs, .int (iI kn)])), (aGs, .inl (gI g, 200, .inl (ar sk))), (aT, .inr (8, [.ref aTp, .ref aTt, .ref aTx, .ref aTy, .ref aE, .int (iI ld)]))] : va_W))) 1 6 (va_A [(aR, .inr (10, [.ref aG, .ref aP, .ref aH, .ref aY, .ref aT, .ref aS, .ref aF, .ref aX, .int (iI pr), .int (iI tk), .int (iI tol), .int (iI hou)])), (aG, .inr (3, [.ref aGn, .ref aGw, .ref aGs, .int (iI kn)])), (aGs, .inl (gI g, 200, .inl (ar sk))), (aT, .inr (8, [.ref aTp, .ref aTt, .ref aTx, .ref aTy, .ref aE, .int (iI ld)]))] sz) := by
  refine x_enterX (y := yX8_meanSinking) (ws := wsX8_meanSinking) (g := g) (sz := sz) (av := [.ref aR]) (WS := [(aR, .inr (10, [.ref aG, .ref aP, .ref aH, .ref aY, .ref aT, .ref aS, .ref aF, .ref aX, .int (iI pr), .int (iI tk), .int (iI tol), .int (iI hou)])), (aG, .inr (3, [.ref aGn, .ref aGw, .ref aGs, .int (iI kn)])), (aGs, .inl (gI g, 200, .inl (ar sk))), (aT, .inr (8, [.ref aTp, .ref aTt, .ref aTx, .ref aTy, .ref aE, .int (iI ld)]))]) (cc := cX8_meanSinking) (maxL := 3) (ret := some .double) (Qc := (fun A => (va_Qd (fun r u => r = (fun (u : Unit) => mnD (sumI sk ld) ld) u ∧ (fun (u : Unit) => (ld ≠ 0) ∧ (True)) u) (fun u t => xE g A ((fun (u : Unit) => [(aR, .inr (10, [.ref aG, .ref aP, .ref aH, .ref aY, .ref aT, .ref aS, .ref aF, .ref aX, .int (iI pr), .int (iI tk), .int (iI tol), .int (iI hou)])), (aG, .inr (3, [.ref aGn, .ref aGw, .ref aGs, .int (iI kn)])), (aGs, .inl (gI g, 200, .inl (ar sk))), (aT, .inr (8, [.ref aTp, .ref aTt, .ref aTx, .ref aTy, .ref aE, .int (iI ld)]))]) u) t) A))) (XC := (fun A => (xX g A (fun (u : Unit) => True) (fun E : String => (E = "java/lang/ArithmeticException" ∧ (ld = 0))) (fun (u : Unit) => ([(aR, .inr (10, [.ref aG, .ref aP, .ref aH, .ref aY, .ref aT, .ref aS, .ref aF, .ref aX, .int (iI pr), .int (iI tk), .int (iI tol), .int (iI hou)])), (aG, .inr (3, [.ref aGn, .ref aGw, .ref aGs, .int (iI kn)])), (aGs, .inl (gI g, 200, .inl (ar sk))), (aT, .inr (8, [.ref aTp, .ref aTt, .ref aTx, .ref aTy, .ref aE, .int (iI ld)]))] : va_W))))) (by decide) rfl (Nat.le_of_ble_eq_true rfl) ?_
  intro p e s m args below meth c A ls hx hb hr hml hown hts hlocks hout hC hP hD hS hA hl
  have hK := hC.1
  have hown : s.vm.findClass RX8 = some m.cls := hown
  have hin6 : ∀ w ∈ u_ws RX6 TX6 6, w ∈ wsX8_meanSinking := by decide +kernel
  have hin8 : ∀ w ∈ u_ws RX8 TX8 12, w ∈ wsX8_meanSinking := by decide +kernel
  have hl : lv_has ls 3 [(0, .ref aR)] := hl
  obtain ⟨H, hH⟩ : ∃ z, z = s.heap := ⟨_, rfl⟩
  obtain ⟨locs, hlo⟩ : ∃ z : List Loc, z = [] := ⟨_, rfl⟩
  obtain ⟨Q9, hQ9⟩ : ∃ z, z = vx_MQ below (va_Qd (fun r u => r = (fun (u : Unit) => mnD (sumI sk ld) ld) u ∧ (fun (u : Unit) => (ld ≠ 0) ∧ (True)) u) (fun u t => xE g A ((fun (u : Unit) => [(aR, .inr (10, [.ref aG, .ref aP, .ref aH, .ref aY, .ref aT, .ref aS, .ref aF, .ref aX, .int (iI pr), .int (iI tk), .int (iI tol), .int (iI hou)])), (aG, .inr (3, [.ref aGn, .ref aGw, .ref aGs, .int (iI kn)])), (aGs, .inl (gI g, 200, .inl (ar sk))), (aT, .inr (8, [.ref aTp, .ref aTt, .ref aTx, .ref aTy, .ref aE, .int (iI ld)]))]) u) t) A) (xX g A (fun (u : Unit) => True) (fun E : String => (E = "java/lang/ArithmeticException" ∧ (ld = 0))) (fun (u : Unit) => ([(aR, .inr (10, [.ref aG, .ref aP, .ref aH, .ref aY, .ref aT, .ref aS, .ref aF, .ref aX, .int (iI pr), .int (iI tk), .int (iI tol), .int (iI hou)])), (aG, .inr (3, [.ref aGn, .ref aGw, .ref aGs, .int (iI kn)])), (aGs, .inl (gI g, 200, .inl (ar sk))), (aT, .inr (8, [.ref aTp, .ref aTt, .ref aTx, .ref aTy, .ref aE, .int (iI ld)]))] : va_W))) args s 1 6 A := ⟨_, rfl⟩
  have hP : va_P (gD g) vwCl [(aR, .inr (10, [.ref aG, .ref aP, .ref aH, .ref aY, .ref aT, .ref aS, .ref aF, .ref aX, .int (iI pr), .int (iI tk), .int (iI tol), .int (iI hou)])), (aG, .inr (3, [.ref aGn, .ref aGw, .ref aGs, .int (iI kn)])), (aGs, .inl (gI g, 200, .inl (ar sk))), (aT, .inr (8, [.ref aTp, .ref aTt, .ref aTx, .ref aTy, .ref aE, .int (iI ld)]))] H := by rw [hH]; exact hP
  have hS : va_S A s.heap H locs := by rw [hH, hlo]; exact hS
  have goal_ : W p l e { frames := 6, cells := 1, slots := 6, locals := 92 } s m args below meth c H locs 0 0 Q9 (F0 m 0 ls []) := by
    clear hH hlo
    refine lv_aload_n hx hb dX8_meanSinking_0 rfl (lv_at hl 0 rfl) ?_
    refine va_get (D := gD g) (ci := 10) (v := .ref aT) (C := RX8) (T := TX8) (N := 12) hx hb hts hin8 hown hK hP 0 rfl rfl 4 (by decide) (hts (.fieldLink RX8 40 "TunnelRing" "tube" "LTunnelRing$Tube;") (List.mem_of_getElem? (i := 3) rfl)) (fun _ h9 => h9) rfl dX8_meanSinking_1 ?_
    refine va_get (D := gD g) (ci := 8) (v := .int (iI ld)) (C := RX6) (T := TX6) (N := 6) hx hb hts hin6 hown hK hP 3 rfl rfl 5 (by decide) (hts (.fieldLink RX8 178 "TunnelRing$Tube" "laid" "I") (List.mem_of_getElem? (i := 4) rfl)) (fun _ h9 => h9) rfl dX8_meanSinking_4 ?_
    refine x_if_ne (tgt := 21) hx hb (by omega) dX8_meanSinking_7 (by decide) (fun c_1 => ?_) (fun c_1 => ?_)
    · skip
      refine x_iconst hx hb dX8_meanSinking_21 ?_
      refine lv_istore_n (lv' := [(1, .int (iI 0)), (0, .ref aR)]) hx hb dX8_meanSinking_22 rfl hl (by decide) rfl (fun ls hl => ?_)
      refine x_iconst hx hb dX8_meanSinking_23 ?_
      refine lv_istore_n (lv' := [(2, .int (iI 0)), (1, .int (iI 0)), (0, .ref aR)]) hx hb dX8_meanSinking_24 rfl hl (by decide) rfl (fun ls hl => ?_)
      have lp25 : ∀ (n : Nat) (zk : Int) (zc : Int), (0 ≤ zk ∧ zk ≤ ld) → (zc = sumI sk zk) → ld + 1 - zk ≤ (n : Int) → ∀ (H : Heap) (locs : List Loc), va_P (gD g) vwCl [(aR, .inr (10, [.ref aG, .ref aP, .ref aH, .ref aY, .ref aT, .ref aS, .ref aF, .ref aX, .int (iI pr), .int (iI tk), .int (iI tol), .int (iI hou)])), (aG, .inr (3, [.ref aGn, .ref aGw, .ref aGs, .int (iI kn)])), (aGs, .inl (gI g, 200, .inl (ar sk))), (aT, .inr (8, [.ref aTp, .ref aTt, .ref aTx, .ref aTy, .ref aE, .int (iI ld)]))] H → va_D A [(aR, .inr (10, [.ref aG, .ref aP, .ref aH, .ref aY, .ref aT, .ref aS, .ref aF, .ref aX, .int (iI pr), .int (iI tk), .int (iI tol), .int (iI hou)])), (aG, .inr (3, [.ref aGn, .ref aGw, .ref aGs, .int (iI kn)])), (aGs, .inl (gI g, 200, .inl (ar sk))), (aT, .inr (8, [.ref aTp, .ref aTt, .ref aTx, .ref aTy, .ref aE, .int (iI ld)]))] → va_S A s.heap H locs → ∀ (ls : Array Slot), lv_has ls 3 [(2, .int (iI zk)), (1, .int (iI zc)), (0, .ref aR)] → W p l e { frames := 6, cells := 1, slots := 6, locals := 92 } s m args below meth c H locs 0 0 Q9 (F0 m 25 ls []) := by
        intro n
        induction n with
        | zero => intro zk zc hzk hzc hm; exfalso; omega
        | succ n ih25 =>
          intro zk zc hzk hzc hm H locs hP hD hS ls hl
          refine lv_iload_n hx hb dX8_meanSinking_25 rfl (lv_at hl 0 rfl) ?_
          refine lv_aload_n hx hb dX8_meanSinking_26 rfl (lv_at hl 2 rfl) ?_
          refine va_get (D := gD g) (ci := 10) (v := .ref aT) (C := RX8) (T := TX8) (N := 12) hx hb hts hin8 hown hK hP 0 rfl rfl 4 (by decide) (hts (.fieldLink RX8 40 "TunnelRing" "tube" "LTunnelRing$Tube;") (List.mem_of_getElem? (i := 3) rfl)) (fun _ h9 => h9) rfl dX8_meanSinking_27 ?_
          refine va_get (D := gD g) (ci := 8) (v := .int (iI ld)) (C := RX6) (T := TX6) (N := 6) hx hb hts hin6 hown hK hP 3 rfl rfl 5 (by decide) (hts (.fieldLink RX8 178 "TunnelRing$Tube" "laid" "I") (List.mem_of_getElem? (i := 4) rfl)) (fun _ h9 => h9) rfl dX8_meanSinking_30 ?_
          refine x_cmp_ge (tgt := 53) hx hb (by omega) (by omega) dX8_meanSinking_33 (by decide) (fun c_2 => ?_) (fun c_2 => ?_)
          · skip
            have ek : zk = ld := by omega
            rw [ek] at hzc
            refine lv_iload_n hx hb dX8_meanSinking_53 rfl (lv_at hl 1 rfl) ?_
            refine lv_i2d hx hb dX8_meanSinking_54 ?_
            refine lv_aload_n hx hb dX8_meanSinking_55 rfl (lv_at hl 2 rfl) ?_
            refine va_get (D := gD g) (ci := 10) (v := .ref aT) (C := RX8) (T := TX8) (N := 12) hx hb hts hin8 hown hK hP 0 rfl rfl 4 (by decide) (hts (.fieldLink RX8 40 "TunnelRing" "tube" "LTunnelRing$Tube;") (List.mem_of_getElem? (i := 3) rfl)) (fun _ h9 => h9) rfl dX8_meanSinking_56 ?_
            refine va_get (D := gD g) (ci := 8) (v := .int (iI ld)) (C := RX6) (T := TX6) (N := 6) hx hb hts hin6 hown hK hP 3 rfl rfl 5 (by decide) (hts (.fieldLink RX8 178 "TunnelRing$Tube" "laid" "I") (List.mem_of_getElem? (i := 4) rfl)) (fun _ h9 => h9) rfl dX8_meanSinking_59 ?_
            refine lv_i2d hx hb dX8_meanSinking_62 ?_
            refine lv_ddiv hx hb dX8_meanSinking_63 (by
                first
                | (
                   exact zd_div (by omega))
                | fail "q9") ?_
            rw [hQ9]
            exact vx_ret (x_dret hx hb hr hlocks hP hD hS (S := Unit)  dX8_meanSinking_64 () (by
                first
                | (
                   show _ = mnD (sumI sk ld) ld
                   unfold mnD
                   first | (rw [if_neg (by omega), ← hzc]) | (rw [if_pos (by omega)]))
                | fail "q9") ⟨(by
                first
                | (
                   first | trivial | assumption | omega)
                | fail "q9"), trivial⟩ rfl (Nat.le_of_ble_eq_true rfl) (Nat.le_of_ble_eq_true rfl))
          · skip
            refine lv_iload_n hx hb dX8_meanSinking_36 rfl (lv_at hl 1 rfl) ?_
            refine lv_aload_n hx hb dX8_meanSinking_37 rfl (lv_at hl 2 rfl) ?_
            refine va_get (D := gD g) (ci := 10) (v := .ref aG) (C := RX8) (T := TX8) (N := 12) hx hb hts hin8 hown hK hP 0 rfl rfl 0 (by decide) (hts (.fieldLink RX8 10 "TunnelRing" "ground" "LTunnelRing$Ground;") (List.mem_of_getElem? (i := 5) rfl)) (fun _ h9 => h9) rfl dX8_meanSinking_38 ?_
            refine lv_iload_n hx hb dX8_meanSinking_41 rfl (lv_at hl 0 rfl) ?_
            refine x_calli (S := Unit) (wc := [(aG, .inr (3, [.ref aGn, .ref aGw, .ref aGs, .int (iI kn)])), (aGs, .inl (gI g, 200, .inl (ar sk)))]) (wr := [(aR, .inr (10, [.ref aG, .ref aP, .ref aH, .ref aY, .ref aT, .ref aS, .ref aF, .ref aX, .int (iI pr), .int (iI tk), .int (iI tol), .int (iI hou)])), (aT, .inr (8, [.ref aTp, .ref aTt, .ref aTx, .ref aTy, .ref aE, .int (iI ld)]))]) hC hP hD hS hA [1, 2] [0, 3] [0, 2, 3, 1] rfl rfl (fun hpre => va_runV (As := [.int (iI zk)]) (rest := [.int (iI zc)]) ⟨hx, hb, hml, hown, hts⟩ (c_X1_sinkingOver l g H.size aG aGn aGw aGs kn zk sk (by first | (first | assumption | omega | exact bnd_up (by assumption) (by omega) (by omega)) | fail "q8") (by first | (first | assumption | omega | exact bnd_up (by assumption) (by omega) (by omega)) | fail "q8") (by first | (exact fun i => ⟨(hb_sk i).1, by have := hb_sk i; omega⟩) | fail "q8")) (cwV 1 hts gX8_meanSinking_X1_sinkingOver rfl rfl rfl (by decide +kernel) ⟨Nat.le_of_ble_eq_true rfl, Nat.le_of_ble_eq_true rfl⟩) ⟨xB_blind, va_recv hK hP (ci := 3) (q0 := 1) rfl rfl, hpre _⟩ rfl rfl hl.1 rfl (lv_room (Nat.le_of_ble_eq_true rfl)) dX8_meanSinking_42 ⟨Nat.le_of_ble_eq_true rfl, Nat.le_of_ble_eq_true rfl⟩) (fun (u : Unit) => [(aR, .inr (10, [.ref aG, .ref aP, .ref aH, .ref aY, .ref aT, .ref aS, .ref aF, .ref aX, .int (iI pr), .int (iI tk), .int (iI tol), .int (iI hou)])), (aG, .inr (3, [.ref aGn, .ref aGw, .ref aGs, .int (iI kn)])), (aGs, .inl (gI g, 200, .inl (ar sk))), (aT, .inr (8, [.ref aTp, .ref aTt, .ref aTx, .ref aTy, .ref aE, .int (iI ld)]))]) rfl rfl (by decide) (fun _ => rfl) rfl (fun u v_3 H locs hv_3 pv_3 hP hD hS => ?_)
            have hP : va_P (gD g) vwCl [(aR, .inr (10, [.ref aG, .ref aP, .ref aH, .ref aY, .ref aT, .ref aS, .ref aF, .ref aX, .int (iI pr), .int (iI tk), .int (iI tol), .int (iI hou)])), (aG, .inr (3, [.ref aGn, .ref aGw, .ref aGs, .int (iI kn)])), (aGs, .inl (gI g, 200, .inl (ar sk))), (aT, .inr (8, [.ref aTp, .ref aTt, .ref aTx, .ref aTy, .ref aE, .int (iI ld)]))] H := hP
            have hD : va_D A [(aR, .inr (10, [.ref aG, .ref aP, .ref aH, .ref aY, .ref aT, .ref aS, .ref aF, .ref aX, .int (iI pr), .int (iI tk), .int (iI tol), .int (iI hou)])), (aG, .inr (3, [.ref aGn, .ref aGw, .ref aGs, .int (iI kn)])), (aGs, .inl (gI g, 200, .inl (ar sk))), (aT, .inr (8, [.ref aTp, .ref aTt, .ref aTx, .ref aTy, .ref aE, .int (iI ld)]))] := hD
            have hv_3 : v_3 = gt0 kn sk zk := hv_3
            have pv_3 : 0 ≤ v_3 ∧ v_3 ≤ 1000000 := by first | exact pv_3 | (rw [hv_3]; exact pv_3)
            refine x_iadd hx hb dX8_meanSinking_45 ?_
            obtain ⟨v_4, ev_4⟩ : ∃ z : Int, z = zc + v_3 := ⟨_, rfl⟩
            refine x_top ev_4.symm ?_
            refine lv_istore_n (lv' := [(1, .int (iI v_4)), (2, .int (iI zk)), (0, .ref aR)]) hx hb dX8_meanSinking_46 rfl hl (by decide) rfl (fun ls hl => ?_)
            refine x_iinc (k := 1) (lv' := [(2, .int (iI (zk + 1))), (1, .int (iI v_4)), (0, .ref aR)]) hx hb dX8_meanSinking_47 hl rfl (by decide) rfl (fun ls hl => ?_)
            refine lv_goto (tgt := 25) hx hb dX8_meanSinking_50 (by decide) ?_
            exact ih25 (zk + 1) v_4 (show 0 ≤ (zk + 1) ∧ (zk + 1) ≤ ld by
                first
                | (
                   first | assumption | omega | rfl)
                | fail "q9") (show v_4 = sumI sk (zk + 1) by
                first
                | (
                   rw [sumI_step _ hzk.1, ← hzc]
                   have h5 : gt0 kn sk zk = sk zk := by unfold gt0; rw [if_pos (by omega)]
                   omega)
                | fail "q9") (by
                first
                | (
                   omega)
                | fail "q9") _ _ hP hD hS ls (lv_sub hl [0, 1, 2] rfl)
      exact lp25 (ld + 1 - 0 : Int).toNat 0 0 (show 0 ≤ 0 ∧ 0 ≤ ld by
          first
          | (
             first | assumption | omega | rfl)
          | fail "q9") (show 0 = sumI sk 0 by
          first
          | (
             rfl)
          | fail "q9") (by omega) _ _ hP hD hS ls (lv_sub hl [0, 1, 2] rfl)
    · skip
      rw [hQ9]
      exact x_throwSW hx hb hflags hown (by decide +kernel) (by decide +kernel) (hts (.classLink RX8 168 "java/lang/ArithmeticException") (List.mem_of_getElem? (i := 1) rfl)) (hts (.initialized "java/lang/ArithmeticException") (List.mem_of_getElem? (i := 2) rfl)) (hC.2.2.2.2.2.1 _ (List.mem_of_getElem? (i := 12) rfl)) (vx_hat (B := [.castable "java/lang/ArithmeticException" "java/lang/ArithmeticException", .declares (Bundle.initS "java/lang/RuntimeException"), .declares (Bundle.initS "java/lang/Exception"), .declares (Bundle.initS "java/lang/Throwable")]) (fun w h => hts w (List.mem_cons_of_mem _ (List.mem_append_left _ (List.mem_append_right _ h)))) (by decide +kernel) (vx_c (va_Nw.use rfl (hC.2.2.2.2.2.2.2.2.2.2.1 "java/lang/ArithmeticException" (List.mem_of_getElem? (i := 4) rfl))) (vx_c (va_Nw.use rfl (hC.2.2.2.2.2.2.2.2.2.2.2 "java/lang/RuntimeException" (List.mem_of_getElem? (i := 0) rfl))) (vx_c (va_Nw.use rfl (hC.2.2.2.2.2.2.2.2.2.2.2 "java/lang/Exception" (List.mem_of_getElem? (i := 1) rfl))) (vx_c (va_Nw.use rfl (hC.2.2.2.2.2.2.2.2.2.2.2 "java/lang/Throwable" (List.mem_of_getElem? (i := 2) rfl))) vx_n))))) (by decide +kernel) hC hP hD hS (hl.1.trans hml.symm) dX8_meanSinking_10 dX8_meanSinking_13 dX8_meanSinking_14 dX8_meanSinking_17 dX8_meanSinking_20 hout (Nat.le_of_ble_eq_true rfl) (Nat.le_of_ble_eq_true rfl) (Nat.le_of_ble_eq_true rfl) (Nat.le_of_ble_eq_true rfl) hlocks () trivial ⟨rfl, (by
          first
          | (
             first | trivial | assumption | omega)
          | fail "q9")⟩ rfl (Nat.le_of_ble_eq_true rfl) (Nat.le_of_ble_eq_true rfl)
  rw [hH, hlo, hQ9] at goal_
  exact goal_

set_option maxHeartbeats 4000000 in
set_option maxRecDepth 100000 in
theorem c_X9_meanSinking (l : Launch) (g : xg) (sz : Nat) (aM aMn aMw aMbx aMby aMs aMp aMt aMx aMy aMst aMc aMh aMf aMl aMm aMr aMd aMli : Nat) (kn pn ld bu hou pr tk tol ehx ehy tl th : Int) (sk : Int → Int) (hld : 0 ≤ ld ∧ ld ≤ 200) (hb_sk : bnd sk 0 500000) : Met l yX9_meanSinking wsX9_meanSinking { frames := 1, cells := 0, slots := 0, locals := 22 } (va_Pc [.ref aM] (xB g [(aM, .inr (11, [.ref aMn, .ref aMw, .ref aMbx, .ref aMby, .ref aMs, .ref aMp, .ref aMt, .ref aMx, .ref aMy, .ref aMst, .ref aMc, .ref aMh, .ref aMf, .ref aMl, .ref aMm, .ref aMr, .ref aMd, .ref aMli, .int (iI kn), .int (iI pn), .int (iI ld), .int (iI bu), .int (iI hou), .int (iI pr), .int (iI tk), .int (iI tol), .int (iI ehx), .int (iI ehy), .int (iI tl), .int (iI th)])), (aMs, .inl (gI g, 200, .inl (ar sk)))] sz)) (va_Qd (fun r u => r = (fun (u : Unit) => mnD (sumI sk ld) ld) u ∧ (fun (u : Unit) => True) u) (fun u t => xE g (va_A [(aM, .inr (11, [.ref aMn, .ref aMw, .ref aMbx, .ref aMby, .ref aMs, .ref aMp, .ref aMt, .ref aMx, .ref aMy, .ref aMst, .ref aMc, .ref aMh, .ref aMf, .ref aMl, .ref aMm, .ref aMr, .ref aMd, .ref aMli, .int (iI kn), .int (iI pn), .int (iI ld), .int (iI bu), .int (iI hou), .int (iI pr), .int (iI tk), .int (iI tol), .int (iI ehx), .int (iI ehy), .int (iI tl), .int (iI th)])), (aMs, .inl (gI g, 200, .inl (ar sk)))] sz) ((fun (u : Unit) => [(aM, .inr (11, [.ref aMn, .ref aMw, .ref aMbx, .ref aMby, .ref aMs, .ref aMp, .ref aMt, .ref aMx, .ref aMy, .ref aMst, .ref aMc, .ref aMh, .ref aMf, .ref aMl, .ref aMm, .ref aMr, .ref aMd, .ref aMli, .int (iI kn), .int (iI pn), .int (iI ld), .int (iI bu), .int (iI hou), .int (iI pr), .int (iI tk), .int (iI tol), .int (iI ehx), .int (iI ehy), .int (iI tl), .int (iI (bI (ld = 0)))])), (aMs, .inl (gI g, 200, .inl (ar sk)))]) u) t) (va_A [(aM, .inr (11, [.ref aMn, .ref aMw, .ref aMbx, .ref aMby, .ref aMs, .ref aMp, .ref aMt, .ref aMx, .ref aMy, .ref aMst, .ref aMc, .ref aMh, .ref aMf, .ref aMl, .ref aMm, .ref aMr, .ref aMd, .ref aMli, .int (iI kn), .int (iI pn), .int (iI ld), .int (iI bu), .int (iI hou), .int (iI pr), .int (iI tk), .int (iI tol), .int (iI ehx), .int (iI ehy), .int (iI tl), .int (iI th)])), (aMs, .inl (gI g, 200, .inl (ar sk)))] sz)) 0 0 (va_A [(aM, .inr (11, [.ref aMn, .ref aMw, .ref aMbx, .ref aMby, .ref aMs, .ref aMp, .ref aMt, .ref aMx, .ref aMy, .ref aMst, .ref aMc, .ref aMh, .ref aMf, .ref aMl, .ref aMm, .ref aMr, .ref aMd, .ref aMli, .int (iI kn), .int (iI pn), .int (iI ld), .int (iI bu), .int (iI hou), .int (iI pr), .int (iI tk), .int (iI tol), .int (iI ehx), .int (iI ehy), .int (iI tl), .int (iI th)])), (aMs, .inl (gI g, 200, .inl (ar sk)))] sz) := by
  refine x_enter (y := yX9_meanSinking) (ws := wsX9_meanSinking) (g := g) (sz := sz) (av := [.ref aM]) (WS := [(aM, .inr (11, [.ref aMn, .ref aMw, .ref aMbx, .ref aMby, .ref aMs, .ref aMp, .ref aMt, .ref aMx, .ref aMy, .ref aMst, .ref aMc, .ref aMh, .ref aMf, .ref aMl, .ref aMm, .ref aMr, .ref aMd, .ref aMli, .int (iI kn), .int (iI pn), .int (iI ld), .int (iI bu), .int (iI hou), .int (iI pr), .int (iI tk), .int (iI tol), .int (iI ehx), .int (iI ehy), .int (iI tl), .int (iI th)])), (aMs, .inl (gI g, 200, .inl (ar sk)))]) (cc := cX9_meanSinking) (maxL := 3) (ret := some .double) (Qc := (fun A => (va_Qd (fun r u => r = (fun (u : Unit) => mnD (sumI sk ld) ld) u ∧ (fun (u : Unit) => True) u) (fun u t => xE g A ((fun (u : Unit) => [(aM, .inr (11, [.ref aMn, .ref aMw, .ref aMbx, .ref aMby, .ref aMs, .ref aMp, .ref aMt, .ref aMx, .ref aMy, .ref aMst, .ref aMc, .ref aMh, .ref aMf, .ref aMl, .ref aMm, .ref aMr, .ref aMd, .ref aMli, .int (iI kn), .int (iI pn), .int (iI ld), .int (iI bu), .int (iI hou), .int (iI pr), .int (iI tk), .int (iI tol), .int (iI ehx), .int (iI ehy), .int (iI tl), .int (iI (bI (ld = 0)))])), (aMs, .inl (gI g, 200, .inl (ar sk)))]) u) t) A))) (by decide) rfl (Nat.le_of_ble_eq_true rfl) ?_
  intro p e s m args below meth c A ls hx hb hr hml hown hts hlocks hname hC hP hD hS hA hl
  have hK := hC.1
  have hown : s.vm.findClass RX9 = some m.cls := hown
  have hin9 : ∀ w ∈ u_ws RX9 TX9 30, w ∈ wsX9_meanSinking := by decide +kernel
  have hl : lv_has ls 3 [(0, .ref aM)] := hl
  obtain ⟨H, hH⟩ : ∃ z, z = s.heap := ⟨_, rfl⟩
  obtain ⟨locs, hlo⟩ : ∃ z : List Loc, z = [] := ⟨_, rfl⟩
  obtain ⟨Q9, hQ9⟩ : ∃ z, z = MQ below (va_Qd (fun r u => r = (fun (u : Unit) => mnD (sumI sk ld) ld) u ∧ (fun (u : Unit) => True) u) (fun u t => xE g A ((fun (u : Unit) => [(aM, .inr (11, [.ref aMn, .ref aMw, .ref aMbx, .ref aMby, .ref aMs, .ref aMp, .ref aMt, .ref aMx, .ref aMy, .ref aMst, .ref aMc, .ref aMh, .ref aMf, .ref aMl, .ref aMm, .ref aMr, .ref aMd, .ref aMli, .int (iI kn), .int (iI pn), .int (iI ld), .int (iI bu), .int (iI hou), .int (iI pr), .int (iI tk), .int (iI tol), .int (iI ehx), .int (iI ehy), .int (iI tl), .int (iI (bI (ld = 0)))])), (aMs, .inl (gI g, 200, .inl (ar sk)))]) u) t) A) args s 0 0 A := ⟨_, rfl⟩
  have hP : va_P (gD g) vwCl [(aM, .inr (11, [.ref aMn, .ref aMw, .ref aMbx, .ref aMby, .ref aMs, .ref aMp, .ref aMt, .ref aMx, .ref aMy, .ref aMst, .ref aMc, .ref aMh, .ref aMf, .ref aMl, .ref aMm, .ref aMr, .ref aMd, .ref aMli, .int (iI kn), .int (iI pn), .int (iI ld), .int (iI bu), .int (iI hou), .int (iI pr), .int (iI tk), .int (iI tol), .int (iI ehx), .int (iI ehy), .int (iI tl), .int (iI th)])), (aMs, .inl (gI g, 200, .inl (ar sk)))] H := by rw [hH]; exact hP
  have hS : va_S A s.heap H locs := by rw [hH, hlo]; exact hS
  have goal_ : W p l e { frames := 1, cells := 0, slots := 0, locals := 22 } s m args below meth c H locs 0 0 Q9 (F0 m 0 ls []) := by
    clear hH hlo
    refine x_iconst hx hb dX9_meanSinking_0 ?_
    refine lv_istore_n (lv' := [(1, .int (iI 0)), (0, .ref aM)]) hx hb dX9_meanSinking_1 rfl hl (by decide) rfl (fun ls hl => ?_)
    refine x_iconst hx hb dX9_meanSinking_2 ?_
    refine lv_istore_n (lv' := [(2, .int (iI 0)), (1, .int (iI 0)), (0, .ref aM)]) hx hb dX9_meanSinking_3 rfl hl (by decide) rfl (fun ls hl => ?_)
    have lp4 : ∀ (n : Nat) (zk : Int) (zc : Int), (0 ≤ zk ∧ zk ≤ ld) → (zc = sumI sk zk) → ld + 1 - zk ≤ (n : Int) → ∀ (H : Heap) (locs : List Loc), va_P (gD g) vwCl [(aM, .inr (11, [.ref aMn, .ref aMw, .ref aMbx, .ref aMby, .ref aMs, .ref aMp, .ref aMt, .ref aMx, .ref aMy, .ref aMst, .ref aMc, .ref aMh, .ref aMf, .ref aMl, .ref aMm, .ref aMr, .ref aMd, .ref aMli, .int (iI kn), .int (iI pn), .int (iI ld), .int (iI bu), .int (iI hou), .int (iI pr), .int (iI tk), .int (iI tol), .int (iI ehx), .int (iI ehy), .int (iI tl), .int (iI th)])), (aMs, .inl (gI g, 200, .inl (ar sk)))] H → va_D A [(aM, .inr (11, [.ref aMn, .ref aMw, .ref aMbx, .ref aMby, .ref aMs, .ref aMp, .ref aMt, .ref aMx, .ref aMy, .ref aMst, .ref aMc, .ref aMh, .ref aMf, .ref aMl, .ref aMm, .ref aMr, .ref aMd, .ref aMli, .int (iI kn), .int (iI pn), .int (iI ld), .int (iI bu), .int (iI hou), .int (iI pr), .int (iI tk), .int (iI tol), .int (iI ehx), .int (iI ehy), .int (iI tl), .int (iI th)])), (aMs, .inl (gI g, 200, .inl (ar sk)))] → va_S A s.heap H locs → ∀ (ls : Array Slot), lv_has ls 3 [(2, .int (iI zk)), (1, .int (iI zc)), (0, .ref aM)] → W p l e { frames := 1, cells := 0, slots := 0, locals := 22 } s m args below meth c H locs 0 0 Q9 (F0 m 4 ls []) := by
      intro n
      induction n with
      | zero => intro zk zc hzk hzc hm; exfalso; omega
      | succ n ih4 =>
        intro zk zc hzk hzc hm H locs hP hD hS ls hl
        refine lv_iload_n hx hb dX9_meanSinking_4 rfl (lv_at hl 0 rfl) ?_
        refine lv_aload_n hx hb dX9_meanSinking_5 rfl (lv_at hl 2 rfl) ?_
        refine va_get (D := gD g) (ci := 11) (v := .int (iI ld)) (C := RX9) (T := TX9) (N := 30) hx hb hts hin9 hown hK hP 0 rfl rfl 20 (by decide) (hts (.fieldLink RX9 121 "TunnelRingModel" "rings" "I") (List.mem_of_getElem? (i := 1) rfl)) (fun _ h9 => h9) rfl dX9_meanSinking_6 ?_
        refine x_cmp_ge (tgt := 27) hx hb (by omega) (by omega) dX9_meanSinking_9 (by decide) (fun c_1 => ?_) (fun c_1 => ?_)
        · skip
          have ek : zk = ld := by omega
          rw [ek] at hzc
          refine lv_aload_n hx hb dX9_meanSinking_27 rfl (lv_at hl 2 rfl) ?_
          refine lv_aload_n hx hb dX9_meanSinking_28 rfl (lv_at hl 2 rfl) ?_
          refine va_get (D := gD g) (ci := 11) (v := .int (iI ld)) (C := RX9) (T := TX9) (N := 30) hx hb hts hin9 hown hK hP 0 rfl rfl 20 (by decide) (hts (.fieldLink RX9 121 "TunnelRingModel" "rings" "I") (List.mem_of_getElem? (i := 1) rfl)) (fun _ h9 => h9) rfl dX9_meanSinking_29 ?_
          refine x_if_ne (tgt := 39) hx hb (by omega) dX9_meanSinking_32 (by decide) (fun c_2 => ?_) (fun c_2 => ?_)
          · skip
            refine x_iconst hx hb dX9_meanSinking_39 ?_
            refine x_iconst hx hb dX9_meanSinking_40 ?_
            refine x_calli (S := Unit) (wc := [(aM, .inr (11, [.ref aMn, .ref aMw, .ref aMbx, .ref aMby, .ref aMs, .ref aMp, .ref aMt, .ref aMx, .ref aMy, .ref aMst, .ref aMc, .ref aMh, .ref aMf, .ref aMl, .ref aMm, .ref aMr, .ref aMd, .ref aMli, .int (iI kn), .int (iI pn), .int (iI ld), .int (iI bu), .int (iI hou), .int (iI pr), .int (iI tk), .int (iI tol), .int (iI ehx), .int (iI ehy), .int (iI tl), .int (iI th)]))]) (wr := [(aMs, .inl (gI g, 200, .inl (ar sk)))]) hC hP hD hS hA [0] [1] [1, 0] rfl rfl (fun hpre => va_runV (As := [.int (iI 0), .int (iI 1)]) (rest := []) ⟨hx, hb, hml, hown, hts⟩ (c_X9_isThrown0 l g H.size aM aMn aMw aMbx aMby aMs aMp aMt aMx aMy aMst aMc aMh aMf aMl aMm aMr aMd aMli kn pn ld bu hou pr tk tol ehx ehy tl th 1) (cwV 2 hts gX9_meanSinking_X9_isThrown rfl rfl rfl (by decide +kernel) ⟨Nat.le_of_ble_eq_true rfl, Nat.le_of_ble_eq_true rfl⟩) ⟨xB_blind, va_recv hK hP (ci := 11) (q0 := 0) rfl rfl, hpre _⟩ rfl rfl hl.1 rfl (lv_room (Nat.le_of_ble_eq_true rfl)) dX9_meanSinking_41 ⟨Nat.le_of_ble_eq_true rfl, Nat.le_of_ble_eq_true rfl⟩) (fun (u : Unit) => [(aM, .inr (11, [.ref aMn, .ref aMw, .ref aMbx, .ref aMby, .ref aMs, .ref aMp, .ref aMt, .ref aMx, .ref aMy, .ref aMst, .ref aMc, .ref aMh, .ref aMf, .ref aMl, .ref aMm, .ref aMr, .ref aMd, .ref aMli, .int (iI kn), .int (iI pn), .int (iI ld), .int (iI bu), .int (iI hou), .int (iI pr), .int (iI tk), .int (iI tol), .int (iI ehx), .int (iI ehy), .int (iI tl), .int (iI 0)])), (aMs, .inl (gI g, 200, .inl (ar sk)))]) rfl rfl (by decide) (fun _ => rfl) rfl (fun u v_3 H locs hv_3 pv_3 hP hD hS => ?_)
            have hP : va_P (gD g) vwCl [(aM, .inr (11, [.ref aMn, .ref aMw, .ref aMbx, .ref aMby, .ref aMs, .ref aMp, .ref aMt, .ref aMx, .ref aMy, .ref aMst, .ref aMc, .ref aMh, .ref aMf, .ref aMl, .ref aMm, .ref aMr, .ref aMd, .ref aMli, .int (iI kn), .int (iI pn), .int (iI ld), .int (iI bu), .int (iI hou), .int (iI pr), .int (iI tk), .int (iI tol), .int (iI ehx), .int (iI ehy), .int (iI tl), .int (iI 0)])), (aMs, .inl (gI g, 200, .inl (ar sk)))] H := hP
            have hD : va_D A [(aM, .inr (11, [.ref aMn, .ref aMw, .ref aMbx, .ref aMby, .ref aMs, .ref aMp, .ref aMt, .ref aMx, .ref aMy, .ref aMst, .ref aMc, .ref aMh, .ref aMf, .ref aMl, .ref aMm, .ref aMr, .ref aMd, .ref aMli, .int (iI kn), .int (iI pn), .int (iI ld), .int (iI bu), .int (iI hou), .int (iI pr), .int (iI tk), .int (iI tol), .int (iI ehx), .int (iI ehy), .int (iI tl), .int (iI 0)])), (aMs, .inl (gI g, 200, .inl (ar sk)))] := hD
            have hv_3 : v_3 = 0 := hv_3
            subst hv_3
            refine x_if_eq (tgt := 51) hx hb (by omega) dX9_meanSinking_44 (by decide) (fun c_4 => ?_) (fun c_4 => ?_)
            · skip
              refine lv_iload_n hx hb dX9_meanSinking_51 rfl (lv_at hl 1 rfl) ?_
              refine lv_i2d hx hb dX9_meanSinking_52 ?_
              refine lv_aload_n hx hb dX9_meanSinking_53 rfl (lv_at hl 2 rfl) ?_
              refine va_get (D := gD g) (ci := 11) (v := .int (iI ld)) (C := RX9) (T := TX9) (N := 30) hx hb hts hin9 hown hK hP 0 rfl rfl 20 (by decide) (hts (.fieldLink RX9 121 "TunnelRingModel" "rings" "I") (List.mem_of_getElem? (i := 1) rfl)) (fun _ h9 => h9) rfl dX9_meanSinking_54 ?_
              refine lv_i2d hx hb dX9_meanSinking_57 ?_
              refine lv_ddiv hx hb dX9_meanSinking_58 (by
                  first
                  | (
                     exact zd_div (by omega))
                  | fail "q9") ?_
              have q_5 : (bI (ld = 0)) = 0 := by
                first
                | (
                   unfold bI
                   first | rw [if_neg (by omega)] | rw [if_pos (by omega)])
                | fail "q9"
              have hw_6 := (congrArg (fun (z0 : Int) => ([(aM, .inr (11, [.ref aMn, .ref aMw, .ref aMbx, .ref aMby, .ref aMs, .ref aMp, .ref aMt, .ref aMx, .ref aMy, .ref aMst, .ref aMc, .ref aMh, .ref aMf, .ref aMl, .ref aMm, .ref aMr, .ref aMd, .ref aMli, .int (iI kn), .int (iI pn), .int (iI ld), .int (iI bu), .int (iI hou), .int (iI pr), .int (iI tk), .int (iI tol), .int (iI ehx), .int (iI ehy), .int (iI tl), .int (iI z0)])), (aMs, .inl (gI g, 200, .inl (ar sk)))] : va_W)) q_5.symm)
              rw [hQ9]
              exact x_dret hx hb hr hlocks hP hD hS (S := Unit)  dX9_meanSinking_59 () (by
                  first
                  | (
                     show _ = mnD (sumI sk ld) ld
                     unfold mnD
                     first | (rw [if_neg (by omega), ← hzc]) | (rw [if_pos (by omega)]))
                  | fail "q9") trivial hw_6 (Nat.le_of_ble_eq_true rfl) (Nat.le_of_ble_eq_true rfl)
            · skip
              exact absurd c_4 (by decide)
          · skip
            refine x_iconst hx hb dX9_meanSinking_35 ?_
            refine lv_goto (tgt := 40) hx hb dX9_meanSinking_36 (by decide) ?_
            refine x_iconst hx hb dX9_meanSinking_40 ?_
            refine x_calli (S := Unit) (wc := [(aM, .inr (11, [.ref aMn, .ref aMw, .ref aMbx, .ref aMby, .ref aMs, .ref aMp, .ref aMt, .ref aMx, .ref aMy, .ref aMst, .ref aMc, .ref aMh, .ref aMf, .ref aMl, .ref aMm, .ref aMr, .ref aMd, .ref aMli, .int (iI kn), .int (iI pn), .int (iI ld), .int (iI bu), .int (iI hou), .int (iI pr), .int (iI tk), .int (iI tol), .int (iI ehx), .int (iI ehy), .int (iI tl), .int (iI th)]))]) (wr := [(aMs, .inl (gI g, 200, .inl (ar sk)))]) hC hP hD hS hA [0] [1] [1, 0] rfl rfl (fun hpre => va_runV (As := [.int (iI 1), .int (iI 1)]) (rest := []) ⟨hx, hb, hml, hown, hts⟩ (c_X9_isThrown1 l g H.size aM aMn aMw aMbx aMby aMs aMp aMt aMx aMy aMst aMc aMh aMf aMl aMm aMr aMd aMli kn pn ld bu hou pr tk tol ehx ehy tl th 1) (cwV 2 hts gX9_meanSinking_X9_isThrown rfl rfl rfl (by decide +kernel) ⟨Nat.le_of_ble_eq_true rfl, Nat.le_of_ble_eq_true rfl⟩) ⟨xB_blind, va_recv hK hP (ci := 11) (q0 := 0) rfl rfl, hpre _⟩ rfl rfl hl.1 rfl (lv_room (Nat.le_of_ble_eq_true rfl)) dX9_meanSinking_41 ⟨Nat.le_of_ble_eq_true rfl, Nat.le_of_ble_eq_true rfl⟩) (fun (u : Unit) => [(aM, .inr (11, [.ref aMn, .ref aMw, .ref aMbx, .ref aMby, .ref aMs, .ref aMp, .ref aMt, .ref aMx, .ref aMy, .ref aMst, .ref aMc, .ref aMh, .ref aMf, .ref aMl, .ref aMm, .ref aMr, .ref aMd, .ref aMli, .int (iI kn), .int (iI pn), .int (iI ld), .int (iI bu), .int (iI hou), .int (iI pr), .int (iI tk), .int (iI tol), .int (iI ehx), .int (iI ehy), .int (iI tl), .int (iI 1)])), (aMs, .inl (gI g, 200, .inl (ar sk)))]) rfl rfl (by decide) (fun _ => rfl) rfl (fun u v_7 H locs hv_7 pv_7 hP hD hS => ?_)
            have hP : va_P (gD g) vwCl [(aM, .inr (11, [.ref aMn, .ref aMw, .ref aMbx, .ref aMby, .ref aMs, .ref aMp, .ref aMt, .ref aMx, .ref aMy, .ref aMst, .ref aMc, .ref aMh, .ref aMf, .ref aMl, .ref aMm, .ref aMr, .ref aMd, .ref aMli, .int (iI kn), .int (iI pn), .int (iI ld), .int (iI bu), .int (iI hou), .int (iI pr), .int (iI tk), .int (iI tol), .int (iI ehx), .int (iI ehy), .int (iI tl), .int (iI 1)])), (aMs, .inl (gI g, 200, .inl (ar sk)))] H := hP
            have hD : va_D A [(aM, .inr (11, [.ref aMn, .ref aMw, .ref aMbx, .ref aMby, .ref aMs, .ref aMp, .ref aMt, .ref aMx, .ref aMy, .ref aMst, .ref aMc, .ref aMh, .ref aMf, .ref aMl, .ref aMm, .ref aMr, .ref aMd, .ref aMli, .int (iI kn), .int (iI pn), .int (iI ld), .int (iI bu), .int (iI hou), .int (iI pr), .int (iI tk), .int (iI tol), .int (iI ehx), .int (iI ehy), .int (iI tl), .int (iI 1)])), (aMs, .inl (gI g, 200, .inl (ar sk)))] := hD
            have hv_7 : v_7 = 1 := hv_7
            subst hv_7
            refine x_if_eq (tgt := 51) hx hb (by omega) dX9_meanSinking_44 (by decide) (fun c_8 => ?_) (fun c_8 => ?_)
            · skip
              exact absurd c_8 (by decide)
            · skip
              refine lv_dconst0 hx hb dX9_meanSinking_47 ?_
              refine lv_goto (tgt := 59) hx hb dX9_meanSinking_48 (by decide) ?_
              have q_9 : (bI (ld = 0)) = 1 := by
                first
                | (
                   unfold bI
                   first | rw [if_neg (by omega)] | rw [if_pos (by omega)])
                | fail "q9"
              have hw_10 := (congrArg (fun (z0 : Int) => ([(aM, .inr (11, [.ref aMn, .ref aMw, .ref aMbx, .ref aMby, .ref aMs, .ref aMp, .ref aMt, .ref aMx, .ref aMy, .ref aMst, .ref aMc, .ref aMh, .ref aMf, .ref aMl, .ref aMm, .ref aMr, .ref aMd, .ref aMli, .int (iI kn), .int (iI pn), .int (iI ld), .int (iI bu), .int (iI hou), .int (iI pr), .int (iI tk), .int (iI tol), .int (iI ehx), .int (iI ehy), .int (iI tl), .int (iI z0)])), (aMs, .inl (gI g, 200, .inl (ar sk)))] : va_W)) q_9.symm)
              rw [hQ9]
              exact x_dret hx hb hr hlocks hP hD hS (S := Unit)  dX9_meanSinking_59 () (by
                  first
                  | (
                     show _ = mnD (sumI sk ld) ld
                     unfold mnD
                     first | (rw [if_neg (by omega), ← hzc]) | (rw [if_pos (by omega)]))
                  | fail "q9") trivial hw_10 (Nat.le_of_ble_eq_true rfl) (Nat.le_of_ble_eq_true rfl)
        · skip
          refine lv_iload_n hx hb dX9_meanSinking_12 rfl (lv_at hl 1 rfl) ?_
          refine lv_aload_n hx hb dX9_meanSinking_13 rfl (lv_at hl 2 rfl) ?_
          refine va_get (D := gD g) (ci := 11) (v := .ref aMs) (C := RX9) (T := TX9) (N := 30) hx hb hts hin9 hown hK hP 0 rfl rfl 4 (by decide) (hts (.fieldLink RX9 22 "TunnelRingModel" "sunk" "[I") (List.mem_of_getElem? (i := 2) rfl)) (fun _ h9 => h9) rfl dX9_meanSinking_14 ?_
          refine lv_iload_n hx hb dX9_meanSinking_17 rfl (lv_at hl 0 rfl) ?_
          refine x_iald hx hb hK hP 1 0 rfl rfl (by omega) (by omega) (Nat.le_of_ble_eq_true rfl) dX9_meanSinking_18 (fun v_11 hv_11 => ?_)
          have bv_11 : 0 ≤ v_11 ∧ v_11 ≤ 500000 := by rw [hv_11]; exact hb_sk _
          refine x_iadd hx hb dX9_meanSinking_19 ?_
          obtain ⟨v_12, ev_12⟩ : ∃ z : Int, z = zc + v_11 := ⟨_, rfl⟩
          refine x_top ev_12.symm ?_
          refine lv_istore_n (lv' := [(1, .int (iI v_12)), (2, .int (iI zk)), (0, .ref aM)]) hx hb dX9_meanSinking_20 rfl hl (by decide) rfl (fun ls hl => ?_)
          refine x_iinc (k := 1) (lv' := [(2, .int (iI (zk + 1))), (1, .int (iI v_12)), (0, .ref aM)]) hx hb dX9_meanSinking_21 hl rfl (by decide) rfl (fun ls hl => ?_)
          refine lv_goto (tgt := 4) hx hb dX9_meanSinking_24 (by decide) ?_
          exact ih4 (zk + 1) v_12 (show 0 ≤ (zk + 1) ∧ (zk + 1) ≤ ld by
              first
              | (
                 first | assumption | omega | rfl)
              | fail "q9") (show v_12 = sumI sk (zk + 1) by
              first
              | (
                 rw [sumI_step _ hzk.1, ← hzc]
                 omega)
              | fail "q9") (by
              first
              | (
                 omega)
              | fail "q9") _ _ hP hD hS ls (lv_sub hl [0, 1, 2] rfl)
    exact lp4 (ld + 1 - 0 : Int).toNat 0 0 (show 0 ≤ 0 ∧ 0 ≤ ld by
        first
        | (
           first | assumption | omega | rfl)
        | fail "q9") (show 0 = sumI sk 0 by
        first
        | (
           rfl)
        | fail "q9") (by omega) _ _ hP hD hS ls (lv_sub hl [0, 1, 2] rfl)
  rw [hH, hlo, hQ9] at goal_
  exact goal_
