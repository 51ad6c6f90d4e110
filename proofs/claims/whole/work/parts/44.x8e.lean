set_option maxHeartbeats 4000000 in
set_option maxRecDepth 100000 in
theorem c_X8_tryAllFrom0 (l : Launch) (g : xg) (sz : Nat) (aS aQ aSt aSx aSy : Nat) (sr sl qx qy qhx qhy stp be : Int) (st sx sy : Int → Int) (hsr : 0 ≤ sr ∧ sr ≤ 4) (hsd : sr - stp = 0) (hstp : 0 ≤ stp) (hbe : -1 ≤ be ∧ be ≤ 7) (hqx : -728500 ≤ qx ∧ qx ≤ 728500) (hqy : -728500 ≤ qy ∧ qy ≤ 728500) (hqhx : -3056 ≤ qhx ∧ qhx ≤ 3056) (hqhy : -3056 ≤ qhy ∧ qhy ≤ 3056) (hsl : 0 ≤ sl ∧ sl ≤ 2147483647) (hb_st : bnd st 0 9) (hb_sx : bnd sx (-5) 5) (hb_sy : bnd sy (-5) 5) : Met l yX8_tryAllFrom wsX8_tryAllFrom { frames := 3, cells := 0, slots := 0, locals := 62 } (va_Pc [.ref aS, .int (iI stp), .int (iI be)] (xB g [(aS, .inr (6, [.ref aQ, .ref aSt, .ref aSx, .ref aSy, .int (iI sr), .int (iI sl)])), (aQ, .inr (2, [.int (iI qx), .int (iI qy), .int (iI qhx), .int (iI qhy)])), (aSt, .inl (gI g, 4, .inl (ar st))), (aSx, .inl (gI g, 4, .inl (ar sx))), (aSy, .inl (gI g, 4, .inl (ar sy)))] sz)) (va_Qv (fun (u : Unit) => True) (fun u t => xE g (va_A [(aS, .inr (6, [.ref aQ, .ref aSt, .ref aSx, .ref aSy, .int (iI sr), .int (iI sl)])), (aQ, .inr (2, [.int (iI qx), .int (iI qy), .int (iI qhx), .int (iI qhy)])), (aSt, .inl (gI g, 4, .inl (ar st))), (aSx, .inl (gI g, 4, .inl (ar sx))), (aSy, .inl (gI g, 4, .inl (ar sy)))] sz) ((fun (u : Unit) => [(aS, .inr (6, [.ref aQ, .ref aSt, .ref aSx, .ref aSy, .int (iI sr), .int (iI (mn sl (gaN st sx sy 0 stp be qx qy qhx qhy)))])), (aQ, .inr (2, [.int (iI qx), .int (iI qy), .int (iI qhx), .int (iI qhy)])), (aSt, .inl (gI g, 4, .inl (ar st))), (aSx, .inl (gI g, 4, .inl (ar sx))), (aSy, .inl (gI g, 4, .inl (ar sy)))]) u) t) (va_A [(aS, .inr (6, [.ref aQ, .ref aSt, .ref aSx, .ref aSy, .int (iI sr), .int (iI sl)])), (aQ, .inr (2, [.int (iI qx), .int (iI qy), .int (iI qhx), .int (iI qhy)])), (aSt, .inl (gI g, 4, .inl (ar st))), (aSx, .inl (gI g, 4, .inl (ar sx))), (aSy, .inl (gI g, 4, .inl (ar sy)))] sz)) 0 0 (va_A [(aS, .inr (6, [.ref aQ, .ref aSt, .ref aSx, .ref aSy, .int (iI sr), .int (iI sl)])), (aQ, .inr (2, [.int (iI qx), .int (iI qy), .int (iI qhx), .int (iI qhy)])), (aSt, .inl (gI g, 4, .inl (ar st))), (aSx, .inl (gI g, 4, .inl (ar sx))), (aSy, .inl (gI g, 4, .inl (ar sy)))] sz) := by
  refine x_enter (y := yX8_tryAllFrom) (ws := wsX8_tryAllFrom) (g := g) (sz := sz) (av := [.ref aS, .int (iI stp), .int (iI be)]) (WS := [(aS, .inr (6, [.ref aQ, .ref aSt, .ref aSx, .ref aSy, .int (iI sr), .int (iI sl)])), (aQ, .inr (2, [.int (iI qx), .int (iI qy), .int (iI qhx), .int (iI qhy)])), (aSt, .inl (gI g, 4, .inl (ar st))), (aSx, .inl (gI g, 4, .inl (ar sx))), (aSy, .inl (gI g, 4, .inl (ar sy)))]) (cc := cX8_tryAllFrom) (maxL := 4) (ret := none) (Qc := (fun A => (va_Qv (fun (u : Unit) => True) (fun u t => xE g A ((fun (u : Unit) => [(aS, .inr (6, [.ref aQ, .ref aSt, .ref aSx, .ref aSy, .int (iI sr), .int (iI (mn sl (gaN st sx sy 0 stp be qx qy qhx qhy)))])), (aQ, .inr (2, [.int (iI qx), .int (iI qy), .int (iI qhx), .int (iI qhy)])), (aSt, .inl (gI g, 4, .inl (ar st))), (aSx, .inl (gI g, 4, .inl (ar sx))), (aSy, .inl (gI g, 4, .inl (ar sy)))]) u) t) A))) (by decide) rfl (Nat.le_of_ble_eq_true rfl) ?_
  intro p e s m args below meth c A ls hx hb hr hml hown hts hlocks hname hC hP hD hS hA hl
  have hK := hC.1
  have hown : s.vm.findClass RX8 = some m.cls := hown
  have hin4 : ∀ w ∈ u_ws RX4 TX4 6, w ∈ wsX8_tryAllFrom := by decide +kernel
  have hl : lv_has ls 4 [(0, .ref aS), (1, .int (iI stp)), (2, .int (iI be))] := hl
  obtain ⟨H, hH⟩ : ∃ z, z = s.heap := ⟨_, rfl⟩
  obtain ⟨locs, hlo⟩ : ∃ z : List Loc, z = [] := ⟨_, rfl⟩
  obtain ⟨Q9, hQ9⟩ : ∃ z, z = MQ below (va_Qv (fun (u : Unit) => True) (fun u t => xE g A ((fun (u : Unit) => [(aS, .inr (6, [.ref aQ, .ref aSt, .ref aSx, .ref aSy, .int (iI sr), .int (iI (mn sl (gaN st sx sy 0 stp be qx qy qhx qhy)))])), (aQ, .inr (2, [.int (iI qx), .int (iI qy), .int (iI qhx), .int (iI qhy)])), (aSt, .inl (gI g, 4, .inl (ar st))), (aSx, .inl (gI g, 4, .inl (ar sx))), (aSy, .inl (gI g, 4, .inl (ar sy)))]) u) t) A) args s 0 0 A := ⟨_, rfl⟩
  have hP : va_P (gD g) vwCl [(aS, .inr (6, [.ref aQ, .ref aSt, .ref aSx, .ref aSy, .int (iI sr), .int (iI sl)])), (aQ, .inr (2, [.int (iI qx), .int (iI qy), .int (iI qhx), .int (iI qhy)])), (aSt, .inl (gI g, 4, .inl (ar st))), (aSx, .inl (gI g, 4, .inl (ar sx))), (aSy, .inl (gI g, 4, .inl (ar sy)))] H := by rw [hH]; exact hP
  have hS : va_S A s.heap H locs := by rw [hH, hlo]; exact hS
  have goal_ : W p l e { frames := 3, cells := 0, slots := 0, locals := 62 } s m args below meth c H locs 0 0 Q9 (F0 m 0 ls []) := by
    clear hH hlo
    refine lv_iload_n hx hb dX8_tryAllFrom_0 rfl (lv_at hl 1 rfl) ?_
    refine lv_aload_n hx hb dX8_tryAllFrom_1 rfl (lv_at hl 0 rfl) ?_
    refine va_get (D := gD g) (ci := 6) (v := .int (iI sr)) (C := RX4) (T := TX4) (N := 6) hx hb hts hin4 hown hK hP 0 rfl rfl 4 (by decide) (hts (.fieldLink RX8 372 "TunnelRing$Search" "rings" "I") (List.mem_of_getElem? (i := 1) rfl)) (fun _ h9 => h9) rfl dX8_tryAllFrom_2 ?_
    refine x_cmp_lt (tgt := 13) hx hb (by omega) (by omega) dX8_tryAllFrom_5 (by decide) (fun c_1 => ?_) (fun c_1 => ?_)
    · skip
      exfalso; omega
    · skip
      refine lv_aload_n hx hb dX8_tryAllFrom_8 rfl (lv_at hl 0 rfl) ?_
      refine x_callv (S := Unit) (wc := [(aS, .inr (6, [.ref aQ, .ref aSt, .ref aSx, .ref aSy, .int (iI sr), .int (iI sl)])), (aQ, .inr (2, [.int (iI qx), .int (iI qy), .int (iI qhx), .int (iI qhy)]))]) (wr := [(aSt, .inl (gI g, 4, .inl (ar st))), (aSx, .inl (gI g, 4, .inl (ar sx))), (aSy, .inl (gI g, 4, .inl (ar sy)))]) hC hP hD hS hA [0, 1] [2, 3, 4] [3, 4, 0, 1, 2] rfl rfl (fun hpre => va_runV (As := []) (rest := []) ⟨hx, hb, hml, hown, hts⟩ (c_X4_note l g H.size aS aQ aSt aSx aSy sr sl qx qy qhx qhy (by first | (first | assumption | omega | exact bnd_up (by assumption) (by omega) (by omega)) | fail "q8") (by first | (first | assumption | omega | exact bnd_up (by assumption) (by omega) (by omega)) | fail "q8") (by first | (first | assumption | omega | exact bnd_up (by assumption) (by omega) (by omega)) | fail "q8")) (cwV 0 hts gX8_tryAllFrom_X4_note rfl rfl rfl (by decide +kernel) ⟨Nat.le_of_ble_eq_true rfl, Nat.le_of_ble_eq_true rfl⟩) ⟨xB_blind, va_recv hK hP (ci := 6) (q0 := 0) rfl rfl, hpre _⟩ rfl rfl hl.1 rfl (lv_room (Nat.le_of_ble_eq_true rfl)) dX8_tryAllFrom_9 ⟨Nat.le_of_ble_eq_true rfl, Nat.le_of_ble_eq_true rfl⟩) (fun (u : Unit) => [(aS, .inr (6, [.ref aQ, .ref aSt, .ref aSx, .ref aSy, .int (iI sr), .int (iI (mn sl (aI qx + aI qy)))])), (aQ, .inr (2, [.int (iI qx), .int (iI qy), .int (iI qhx), .int (iI qhy)])), (aSt, .inl (gI g, 4, .inl (ar st))), (aSx, .inl (gI g, 4, .inl (ar sx))), (aSy, .inl (gI g, 4, .inl (ar sy)))]) rfl rfl (by decide) (fun _ => rfl) rfl (fun u H locs hv_2 hP hD hS => ?_)
      have hP : va_P (gD g) vwCl [(aS, .inr (6, [.ref aQ, .ref aSt, .ref aSx, .ref aSy, .int (iI sr), .int (iI (mn sl (aI qx + aI qy)))])), (aQ, .inr (2, [.int (iI qx), .int (iI qy), .int (iI qhx), .int (iI qhy)])), (aSt, .inl (gI g, 4, .inl (ar st))), (aSx, .inl (gI g, 4, .inl (ar sx))), (aSy, .inl (gI g, 4, .inl (ar sy)))] H := hP
      have hD : va_D A [(aS, .inr (6, [.ref aQ, .ref aSt, .ref aSx, .ref aSy, .int (iI sr), .int (iI (mn sl (aI qx + aI qy)))])), (aQ, .inr (2, [.int (iI qx), .int (iI qy), .int (iI qhx), .int (iI qhy)])), (aSt, .inl (gI g, 4, .inl (ar st))), (aSx, .inl (gI g, 4, .inl (ar sx))), (aSy, .inl (gI g, 4, .inl (ar sy)))] := hD
      have q_3 : (mn sl (gaN st sx sy 0 stp be qx qy qhx qhy)) = (mn sl (aI qx + aI qy)) := by
        first
        | (
           rfl)
        | fail "q9"
      have hw_4 := (congrArg (fun (z0 : Int) => ([(aS, .inr (6, [.ref aQ, .ref aSt, .ref aSx, .ref aSy, .int (iI sr), .int (iI z0)])), (aQ, .inr (2, [.int (iI qx), .int (iI qy), .int (iI qhx), .int (iI qhy)])), (aSt, .inl (gI g, 4, .inl (ar st))), (aSx, .inl (gI g, 4, .inl (ar sx))), (aSy, .inl (gI g, 4, .inl (ar sy)))] : va_W)) q_3.symm)
      rw [hQ9]
      exact x_vret hx hb hr hlocks hP hD hS (S := Unit) (Φ := _) (W1 := _) dX8_tryAllFrom_12 () trivial hw_4 (Nat.le_of_ble_eq_true rfl) (Nat.le_of_ble_eq_true rfl)
  rw [hH, hlo, hQ9] at goal_
  exact goal_

set_option maxHeartbeats 4000000 in
set_option maxRecDepth 100000 in
theorem c_X8_tryAllFrom1 (l : Launch) (g : xg) (sz : Nat) (aS aQ aSt aSx aSy : Nat) (sr sl qx qy qhx qhy stp be : Int) (st sx sy : Int → Int) (hsr : 0 ≤ sr ∧ sr ≤ 4) (hsd : sr - stp = 1) (hstp : 0 ≤ stp) (hbe : -1 ≤ be ∧ be ≤ 7) (hqx : -724500 ≤ qx ∧ qx ≤ 724500) (hqy : -724500 ≤ qy ∧ qy ≤ 724500) (hqhx : -3042 ≤ qhx ∧ qhx ≤ 3042) (hqhy : -3042 ≤ qhy ∧ qhy ≤ 3042) (hsl : 0 ≤ sl ∧ sl ≤ 2147483647) (hb_st : bnd st 0 9) (hb_sx : bnd sx (-5) 5) (hb_sy : bnd sy (-5) 5) : Met l yX8_tryAllFrom wsX8_tryAllFrom { frames := 4, cells := 0, slots := 0, locals := 85 } (va_Pc [.ref aS, .int (iI stp), .int (iI be)] (xB g [(aS, .inr (6, [.ref aQ, .ref aSt, .ref aSx, .ref aSy, .int (iI sr), .int (iI sl)])), (aQ, .inr (2, [.int (iI qx), .int (iI qy), .int (iI qhx), .int (iI qhy)])), (aSt, .inl (gI g, 4, .inl (ar st))), (aSx, .inl (gI g, 4, .inl (ar sx))), (aSy, .inl (gI g, 4, .inl (ar sy)))] sz)) (va_Qv (fun (u : Unit) => True) (fun u t => xE g (va_A [(aS, .inr (6, [.ref aQ, .ref aSt, .ref aSx, .ref aSy, .int (iI sr), .int (iI sl)])), (aQ, .inr (2, [.int (iI qx), .int (iI qy), .int (iI qhx), .int (iI qhy)])), (aSt, .inl (gI g, 4, .inl (ar st))), (aSx, .inl (gI g, 4, .inl (ar sx))), (aSy, .inl (gI g, 4, .inl (ar sy)))] sz) ((fun (u : Unit) => [(aS, .inr (6, [.ref aQ, .ref aSt, .ref aSx, .ref aSy, .int (iI sr), .int (iI (mn sl (gaN st sx sy 1 stp be qx qy qhx qhy)))])), (aQ, .inr (2, [.int (iI qx), .int (iI qy), .int (iI qhx), .int (iI qhy)])), (aSt, .inl (gI g, 4, .inl (ar st))), (aSx, .inl (gI g, 4, .inl (ar sx))), (aSy, .inl (gI g, 4, .inl (ar sy)))]) u) t) (va_A [(aS, .inr (6, [.ref aQ, .ref aSt, .ref aSx, .ref aSy, .int (iI sr), .int (iI sl)])), (aQ, .inr (2, [.int (iI qx), .int (iI qy), .int (iI qhx), .int (iI qhy)])), (aSt, .inl (gI g, 4, .inl (ar st))), (aSx, .inl (gI g, 4, .inl (ar sx))), (aSy, .inl (gI g, 4, .inl (ar sy)))] sz)) 0 0 (va_A [(aS, .inr (6, [.ref aQ, .ref aSt, .ref aSx, .ref aSy, .int (iI sr), .int (iI sl)])), (aQ, .inr (2, [.int (iI qx), .int (iI qy), .int (iI qhx), .int (iI qhy)])), (aSt, .inl (gI g, 4, .inl (ar st))), (aSx, .inl (gI g, 4, .inl (ar sx))), (aSy, .inl (gI g, 4, .inl (ar sy)))] sz) := by
  refine x_enter (y := yX8_tryAllFrom) (ws := wsX8_tryAllFrom) (g := g) (sz := sz) (av := [.ref aS, .int (iI stp), .int (iI be)]) (WS := [(aS, .inr (6, [.ref aQ, .ref aSt, .ref aSx, .ref aSy, .int (iI sr), .int (iI sl)])), (aQ, .inr (2, [.int (iI qx), .int (iI qy), .int (iI qhx), .int (iI qhy)])), (aSt, .inl (gI g, 4, .inl (ar st))), (aSx, .inl (gI g, 4, .inl (ar sx))), (aSy, .inl (gI g, 4, .inl (ar sy)))]) (cc := cX8_tryAllFrom) (maxL := 4) (ret := none) (Qc := (fun A => (va_Qv (fun (u : Unit) => True) (fun u t => xE g A ((fun (u : Unit) => [(aS, .inr (6, [.ref aQ, .ref aSt, .ref aSx, .ref aSy, .int (iI sr), .int (iI (mn sl (gaN st sx sy 1 stp be qx qy qhx qhy)))])), (aQ, .inr (2, [.int (iI qx), .int (iI qy), .int (iI qhx), .int (iI qhy)])), (aSt, .inl (gI g, 4, .inl (ar st))), (aSx, .inl (gI g, 4, .inl (ar sx))), (aSy, .inl (gI g, 4, .inl (ar sy)))]) u) t) A))) (by decide) rfl (Nat.le_of_ble_eq_true rfl) ?_
  intro p e s m args below meth c A ls hx hb hr hml hown hts hlocks hname hC hP hD hS hA hl
  have hK := hC.1
  have hown : s.vm.findClass RX8 = some m.cls := hown
  have hin4 : ∀ w ∈ u_ws RX4 TX4 6, w ∈ wsX8_tryAllFrom := by decide +kernel
  have hl : lv_has ls 4 [(0, .ref aS), (1, .int (iI stp)), (2, .int (iI be))] := hl
  obtain ⟨H, hH⟩ : ∃ z, z = s.heap := ⟨_, rfl⟩
  obtain ⟨locs, hlo⟩ : ∃ z : List Loc, z = [] := ⟨_, rfl⟩
  obtain ⟨Q9, hQ9⟩ : ∃ z, z = MQ below (va_Qv (fun (u : Unit) => True) (fun u t => xE g A ((fun (u : Unit) => [(aS, .inr (6, [.ref aQ, .ref aSt, .ref aSx, .ref aSy, .int (iI sr), .int (iI (mn sl (gaN st sx sy 1 stp be qx qy qhx qhy)))])), (aQ, .inr (2, [.int (iI qx), .int (iI qy), .int (iI qhx), .int (iI qhy)])), (aSt, .inl (gI g, 4, .inl (ar st))), (aSx, .inl (gI g, 4, .inl (ar sx))), (aSy, .inl (gI g, 4, .inl (ar sy)))]) u) t) A) args s 0 0 A := ⟨_, rfl⟩
  have hP : va_P (gD g) vwCl [(aS, .inr (6, [.ref aQ, .ref aSt, .ref aSx, .ref aSy, .int (iI sr), .int (iI sl)])), (aQ, .inr (2, [.int (iI qx), .int (iI qy), .int (iI qhx), .int (iI qhy)])), (aSt, .inl (gI g, 4, .inl (ar st))), (aSx, .inl (gI g, 4, .inl (ar sx))), (aSy, .inl (gI g, 4, .inl (ar sy)))] H := by rw [hH]; exact hP
  have hS : va_S A s.heap H locs := by rw [hH, hlo]; exact hS
  have goal_ : W p l e { frames := 4, cells := 0, slots := 0, locals := 85 } s m args below meth c H locs 0 0 Q9 (F0 m 0 ls []) := by
    clear hH hlo
    refine lv_iload_n hx hb dX8_tryAllFrom_0 rfl (lv_at hl 1 rfl) ?_
    refine lv_aload_n hx hb dX8_tryAllFrom_1 rfl (lv_at hl 0 rfl) ?_
    refine va_get (D := gD g) (ci := 6) (v := .int (iI sr)) (C := RX4) (T := TX4) (N := 6) hx hb hts hin4 hown hK hP 0 rfl rfl 4 (by decide) (hts (.fieldLink RX8 372 "TunnelRing$Search" "rings" "I") (List.mem_of_getElem? (i := 1) rfl)) (fun _ h9 => h9) rfl dX8_tryAllFrom_2 ?_
    refine x_cmp_lt (tgt := 13) hx hb (by omega) (by omega) dX8_tryAllFrom_5 (by decide) (fun c_1 => ?_) (fun c_1 => ?_)
    · skip
      refine x_iconst hx hb dX8_tryAllFrom_13 ?_
      refine lv_istore_n (lv' := [(3, .int (iI 0)), (0, .ref aS), (1, .int (iI stp)), (2, .int (iI be))]) hx hb dX8_tryAllFrom_14 rfl hl (by decide) rfl (fun ls hl => ?_)
      have lp15 : ∀ (n : Nat) (zk : Int) (zl : Int) (zqx : Int) (zqy : Int) (zqhx : Int) (zqhy : Int), (0 ≤ zk ∧ zk ≤ 8) → (zqx = qx) → (zqy = qy) → (zqhx = qhx) → (zqhy = qhy) → (zl = mn sl (lstI (fun p => gaN st sx sy 0 (stp + 1) p (qx + (qhx + (st stp * toSide p - sx stp))) (qy + (qhy + (st stp * upward p - sy stp))) (qhx + (st stp * toSide p - sx stp)) (qhy + (st stp * upward p - sy stp))) (fun p => decide (fitP be p)) zk)) → (0 ≤ zl ∧ zl ≤ 2147483647) → 8 - zk + 1 ≤ (n : Int) → ∀ (H : Heap) (locs : List Loc), va_P (gD g) vwCl [(aS, .inr (6, [.ref aQ, .ref aSt, .ref aSx, .ref aSy, .int (iI sr), .int (iI zl)])), (aQ, .inr (2, [.int (iI zqx), .int (iI zqy), .int (iI zqhx), .int (iI zqhy)])), (aSt, .inl (gI g, 4, .inl (ar st))), (aSx, .inl (gI g, 4, .inl (ar sx))), (aSy, .inl (gI g, 4, .inl (ar sy)))] H → va_D A [(aS, .inr (6, [.ref aQ, .ref aSt, .ref aSx, .ref aSy, .int (iI sr), .int (iI zl)])), (aQ, .inr (2, [.int (iI zqx), .int (iI zqy), .int (iI zqhx), .int (iI zqhy)])), (aSt, .inl (gI g, 4, .inl (ar st))), (aSx, .inl (gI g, 4, .inl (ar sx))), (aSy, .inl (gI g, 4, .inl (ar sy)))] → va_S A s.heap H locs → ∀ (ls : Array Slot), lv_has ls 4 [(3, .int (iI zk)), (0, .ref aS), (1, .int (iI stp)), (2, .int (iI be))] → W p l e { frames := 4, cells := 0, slots := 0, locals := 85 } s m args below meth c H locs 0 0 Q9 (F0 m 15 ls []) := by
        intro n
        induction n with
        | zero => intro zk zl zqx zqy zqhx zqhy hzk hzqx hzqy hzqhx hzqhy hzl hzr hm; exfalso; omega
        | succ n ih15 =>
          intro zk zl zqx zqy zqhx zqhy hzk hzqx hzqy hzqhx hzqhy hzl hzr hm H locs hP hD hS ls hl
          refine lv_iload_n hx hb dX8_tryAllFrom_15 rfl (lv_at hl 0 rfl) ?_
          refine va_gets hx hb hC.2.1.1 hS hown (hts (.fieldLink RX8 260 "TunnelRing" "TO_SIDE" "[I") (List.mem_of_getElem? (i := 2) rfl)) (fun _ h9 => h9) dX8_tryAllFrom_16 ?_
          refine va_tlen hx hb hC.2.1.2 hS (v := iI 8) (by decide) dX8_tryAllFrom_19 ?_
          refine x_cmp_ge (tgt := 57) hx hb (by omega) (by omega) dX8_tryAllFrom_20 (by decide) (fun c_2 => ?_) (fun c_2 => ?_)
          · skip
            have q_3 : (mn sl (gaN st sx sy 1 stp be qx qy qhx qhy)) = zl := by
              first
              | (
                 first | (show mn sl (lstI (fun p => gaN st sx sy 0 (stp + 1) p (qx + (qhx + (st stp * toSide p - sx stp))) (qy + (qhy + (st stp * upward p - sy stp))) (qhx + (st stp * toSide p - sx stp)) (qhy + (st stp * upward p - sy stp))) (fun p => decide (fitP be p)) 8) = zl; rw [show (8 : Int) = zk by omega]; exact hzl.symm) | (have hlb := lbN (st := st) (sx := sx) (sy := sy) hb_st 1 stp be qx qy qhx qhy; have s1 := alN_sum (F := sx) (sr := sr) 1 stp hstp (by omega); have s2 := alN_sum (F := sy) (sr := sr) 1 stp hstp (by omega); have s3 := alN_sum (F := st) (sr := sr) 1 stp hstp (by omega); rw [s1, s2, s3, show sr - stp = ((1 : Nat) : Int) by omega] at hal9; rw [← hal9] at hlb; exact mn_left (by unfold mn at hlb; split at hlb <;> omega)))
              | fail "q9"
            have q_4 : qx = zqx := by
              first
              | (
                 omega)
              | fail "q9"
            have q_5 : qy = zqy := by
              first
              | (
                 omega)
              | fail "q9"
            have q_6 : qhx = zqhx := by
              first
              | (
                 omega)
              | fail "q9"
            have q_7 : qhy = zqhy := by
              first
              | (
                 omega)
              | fail "q9"
            have hw_8 := (congr (congr (congr (congr (congrArg (fun (z0 : Int) (z1 : Int) (z2 : Int) (z3 : Int) (z4 : Int) => ([(aS, .inr (6, [.ref aQ, .ref aSt, .ref aSx, .ref aSy, .int (iI sr), .int (iI z0)])), (aQ, .inr (2, [.int (iI z1), .int (iI z2), .int (iI z3), .int (iI z4)])), (aSt, .inl (gI g, 4, .inl (ar st))), (aSx, .inl (gI g, 4, .inl (ar sx))), (aSy, .inl (gI g, 4, .inl (ar sy)))] : va_W)) q_3.symm) q_4.symm) q_5.symm) q_6.symm) q_7.symm)
            rw [hQ9]
            exact x_vret hx hb hr hlocks hP hD hS (S := Unit) (Φ := _) (W1 := _) dX8_tryAllFrom_57 () trivial hw_8 (Nat.le_of_ble_eq_true rfl) (Nat.le_of_ble_eq_true rfl)
          · skip
            refine lv_iload_n hx hb dX8_tryAllFrom_23 rfl (lv_at hl 3 rfl) ?_
            refine lv_iload_n hx hb dX8_tryAllFrom_24 rfl (lv_at hl 0 rfl) ?_
            refine x_calli (S := Unit) (wc := []) (wr := [(aS, .inr (6, [.ref aQ, .ref aSt, .ref aSx, .ref aSy, .int (iI sr), .int (iI zl)])), (aQ, .inr (2, [.int (iI zqx), .int (iI zqy), .int (iI zqhx), .int (iI zqhy)])), (aSt, .inl (gI g, 4, .inl (ar st))), (aSx, .inl (gI g, 4, .inl (ar sx))), (aSy, .inl (gI g, 4, .inl (ar sy)))]) hC hP hD hS hA [] [0, 1, 2, 3, 4] [0, 1, 2, 3, 4] rfl rfl (fun hpre => va_runS (As := [.int (iI be), .int (iI zk)]) (rest := []) ⟨hx, hb, hml, hown, hts⟩ (c_X8_fits l g H.size be zk (by first | (first | assumption | omega | exact bnd_up (by assumption) (by omega) (by omega)) | fail "q8") (by first | (first | assumption | omega | exact bnd_up (by assumption) (by omega) (by omega)) | fail "q8")) (va_cwS 2 hts gX8_tryAllFrom_X8_fits rfl rfl rfl (by decide +kernel) ⟨Nat.le_of_ble_eq_true rfl, Nat.le_of_ble_eq_true rfl⟩) ⟨xB_blind, hpre _⟩ rfl rfl hl.1 rfl (lv_room (Nat.le_of_ble_eq_true rfl)) dX8_tryAllFrom_25 ⟨Nat.le_of_ble_eq_true rfl, Nat.le_of_ble_eq_true rfl⟩) (fun (u : Unit) => [(aS, .inr (6, [.ref aQ, .ref aSt, .ref aSx, .ref aSy, .int (iI sr), .int (iI zl)])), (aQ, .inr (2, [.int (iI zqx), .int (iI zqy), .int (iI zqhx), .int (iI zqhy)])), (aSt, .inl (gI g, 4, .inl (ar st))), (aSx, .inl (gI g, 4, .inl (ar sx))), (aSy, .inl (gI g, 4, .inl (ar sy)))]) rfl rfl (by decide) (fun _ => rfl) rfl (fun u v_9 H locs hv_9 pv_9 hP hD hS => ?_)
            have hP : va_P (gD g) vwCl [(aS, .inr (6, [.ref aQ, .ref aSt, .ref aSx, .ref aSy, .int (iI sr), .int (iI zl)])), (aQ, .inr (2, [.int (iI zqx), .int (iI zqy), .int (iI zqhx), .int (iI zqhy)])), (aSt, .inl (gI g, 4, .inl (ar st))), (aSx, .inl (gI g, 4, .inl (ar sx))), (aSy, .inl (gI g, 4, .inl (ar sy)))] H := hP
            have hD : va_D A [(aS, .inr (6, [.ref aQ, .ref aSt, .ref aSx, .ref aSy, .int (iI sr), .int (iI zl)])), (aQ, .inr (2, [.int (iI zqx), .int (iI zqy), .int (iI zqhx), .int (iI zqhy)])), (aSt, .inl (gI g, 4, .inl (ar st))), (aSx, .inl (gI g, 4, .inl (ar sx))), (aSy, .inl (gI g, 4, .inl (ar sy)))] := hD
            have hv_9 : v_9 = bI (fitP be zk) := hv_9
            refine x_top hv_9 ?_
            refine x_ifb_eq (tgt := 51) (P := fitP be zk) hx hb dX8_tryAllFrom_28 (by decide) (fun c_10 => ?_) (fun c_10 => ?_)
            · skip
              refine x_iinc (k := 0) (lv' := [(3, .int (iI (zk + 1))), (0, .ref aS), (1, .int (iI stp)), (2, .int (iI be))]) hx hb dX8_tryAllFrom_51 hl rfl (by decide) rfl (fun ls hl => ?_)
              refine lv_goto (tgt := 15) hx hb dX8_tryAllFrom_54 (by decide) ?_
              exact ih15 (zk + 1) zl zqx zqy zqhx zqhy (show 0 ≤ (zk + 1) ∧ (zk + 1) ≤ 8 by
                  first
                  | (
                     first | assumption | omega | rfl)
                  | fail "q9") (show zqx = qx by
                  first
                  | (
                     first | assumption | omega | rfl)
                  | fail "q9") (show zqy = qy by
                  first
                  | (
                     first | assumption | omega | rfl)
                  | fail "q9") (show zqhx = qhx by
                  first
                  | (
                     first | assumption | omega | rfl)
                  | fail "q9") (show zqhy = qhy by
                  first
                  | (
                     first | assumption | omega | rfl)
                  | fail "q9") (show zl = mn sl (lstI (fun p => gaN st sx sy 0 (stp + 1) p (qx + (qhx + (st stp * toSide p - sx stp))) (qy + (qhy + (st stp * upward p - sy stp))) (qhx + (st stp * toSide p - sx stp)) (qhy + (st stp * upward p - sy stp))) (fun p => decide (fitP be p)) (zk + 1)) by
                  first
                  | (
                     rw [lstI_step _ _ (by omega)]
                     simp only [decide_eq_true_eq]
                     first | (rw [if_pos (by omega), hzl, mn_assoc, hzqx, hzqy, hzqhx, hzqhy]) | (rw [if_neg (by omega)]; assumption))
                  | fail "q9") (show 0 ≤ zl ∧ zl ≤ 2147483647 by
                  first
                  | (
                     first | assumption | (have g1 := gaN_nn st sx sy 0 (stp + 1) zk (zqx + (zqhx + (st stp * toSide zk - sx stp))) (zqy + (zqhy + (st stp * upward zk - sy stp))) (zqhx + (st stp * toSide zk - sx stp)) (zqhy + (st stp * upward zk - sy stp)); have g2 := mn_r zl _ (rfl : mn zl (gaN st sx sy 0 (stp + 1) zk (zqx + (zqhx + (st stp * toSide zk - sx stp))) (zqy + (zqhy + (st stp * upward zk - sy stp))) (zqhx + (st stp * toSide zk - sx stp)) (zqhy + (st stp * upward zk - sy stp))) = _); omega))
                  | fail "q9") (by
                  first
                  | (
                     omega)
                  | fail "q9") _ _ hP hD hS ls (lv_sub hl [0, 1, 2, 3] rfl)
            · skip
              refine lv_aload_n hx hb dX8_tryAllFrom_31 rfl (lv_at hl 1 rfl) ?_
              refine lv_iload_n hx hb dX8_tryAllFrom_32 rfl (lv_at hl 2 rfl) ?_
              refine lv_iload_n hx hb dX8_tryAllFrom_33 rfl (lv_at hl 0 rfl) ?_
              refine x_callv (S := Unit) (wc := [(aS, .inr (6, [.ref aQ, .ref aSt, .ref aSx, .ref aSy, .int (iI sr), .int (iI zl)])), (aQ, .inr (2, [.int (iI zqx), .int (iI zqy), .int (iI zqhx), .int (iI zqhy)])), (aSt, .inl (gI g, 4, .inl (ar st))), (aSx, .inl (gI g, 4, .inl (ar sx))), (aSy, .inl (gI g, 4, .inl (ar sy)))]) (wr := []) hC hP hD hS hA [0, 1, 2, 3, 4] [] [0, 1, 2, 3, 4] rfl rfl (fun hpre => va_runV (As := [.int (iI stp), .int (iI zk)]) (rest := []) ⟨hx, hb, hml, hown, hts⟩ (c_X4_tryOut l g H.size aS aQ aSt aSx aSy sr zl zqx zqy zqhx zqhy stp zk st sx sy (by first | (first | assumption | omega | exact bnd_up (by assumption) (by omega) (by omega)) | fail "q8") (by first | (first | assumption | omega | exact bnd_up (by assumption) (by omega) (by omega)) | fail "q8")) (cwV 2 hts gX8_tryAllFrom_X4_tryOut rfl rfl rfl (by decide +kernel) ⟨Nat.le_of_ble_eq_true rfl, Nat.le_of_ble_eq_true rfl⟩) ⟨xB_blind, va_recv hK hP (ci := 6) (q0 := 0) rfl rfl, hpre _⟩ rfl rfl hl.1 rfl (lv_room (Nat.le_of_ble_eq_true rfl)) dX8_tryAllFrom_34 ⟨Nat.le_of_ble_eq_true rfl, Nat.le_of_ble_eq_true rfl⟩) (fun (u : Unit) => [(aS, .inr (6, [.ref aQ, .ref aSt, .ref aSx, .ref aSy, .int (iI sr), .int (iI zl)])), (aQ, .inr (2, [.int (iI (zqx + (zqhx + (st stp * toSide zk - sx stp)))), .int (iI (zqy + (zqhy + (st stp * upward zk - sy stp)))), .int (iI (zqhx + (st stp * toSide zk - sx stp))), .int (iI (zqhy + (st stp * upward zk - sy stp)))])), (aSt, .inl (gI g, 4, .inl (ar st))), (aSx, .inl (gI g, 4, .inl (ar sx))), (aSy, .inl (gI g, 4, .inl (ar sy)))]) rfl rfl (by decide) (fun _ => rfl) rfl (fun u H locs hv_11 hP hD hS => ?_)
              have hP : va_P (gD g) vwCl [(aS, .inr (6, [.ref aQ, .ref aSt, .ref aSx, .ref aSy, .int (iI sr), .int (iI zl)])), (aQ, .inr (2, [.int (iI (zqx + (zqhx + (st stp * toSide zk - sx stp)))), .int (iI (zqy + (zqhy + (st stp * upward zk - sy stp)))), .int (iI (zqhx + (st stp * toSide zk - sx stp))), .int (iI (zqhy + (st stp * upward zk - sy stp)))])), (aSt, .inl (gI g, 4, .inl (ar st))), (aSx, .inl (gI g, 4, .inl (ar sx))), (aSy, .inl (gI g, 4, .inl (ar sy)))] H := hP
              have hD : va_D A [(aS, .inr (6, [.ref aQ, .ref aSt, .ref aSx, .ref aSy, .int (iI sr), .int (iI zl)])), (aQ, .inr (2, [.int (iI (zqx + (zqhx + (st stp * toSide zk - sx stp)))), .int (iI (zqy + (zqhy + (st stp * upward zk - sy stp)))), .int (iI (zqhx + (st stp * toSide zk - sx stp))), .int (iI (zqhy + (st stp * upward zk - sy stp)))])), (aSt, .inl (gI g, 4, .inl (ar st))), (aSx, .inl (gI g, 4, .inl (ar sx))), (aSy, .inl (gI g, 4, .inl (ar sy)))] := hD
              have m1 := mulb (A := 9) (B := 1) (a := st stp) (b := toSide zk) (by have := hb_st stp; omega) (toSide_r zk)
              have m2 := mulb (A := 9) (B := 1) (a := st stp) (b := upward zk) (by have := hb_st stp; omega) (upward_r zk)
              have m3 := hb_sx stp
              have m4 := hb_sy stp
              refine lv_aload_n hx hb dX8_tryAllFrom_37 rfl (lv_at hl 1 rfl) ?_
              refine lv_iload_n hx hb dX8_tryAllFrom_38 rfl (lv_at hl 2 rfl) ?_
              refine x_iconst hx hb dX8_tryAllFrom_39 ?_
              refine x_iadd hx hb dX8_tryAllFrom_40 ?_
              refine lv_iload_n hx hb dX8_tryAllFrom_41 rfl (lv_at hl 0 rfl) ?_
              refine x_callv (S := Unit) (wc := [(aS, .inr (6, [.ref aQ, .ref aSt, .ref aSx, .ref aSy, .int (iI sr), .int (iI zl)])), (aQ, .inr (2, [.int (iI (zqx + (zqhx + (st stp * toSide zk - sx stp)))), .int (iI (zqy + (zqhy + (st stp * upward zk - sy stp)))), .int (iI (zqhx + (st stp * toSide zk - sx stp))), .int (iI (zqhy + (st stp * upward zk - sy stp)))])), (aSt, .inl (gI g, 4, .inl (ar st))), (aSx, .inl (gI g, 4, .inl (ar sx))), (aSy, .inl (gI g, 4, .inl (ar sy)))]) (wr := []) hC hP hD hS hA [0, 1, 2, 3, 4] [] [0, 1, 2, 3, 4] rfl rfl (fun hpre => va_runS (As := [.ref aS, .int (iI (stp + 1)), .int (iI zk)]) (rest := []) ⟨hx, hb, hml, hown, hts⟩ (c_X8_tryAllFrom0 l g H.size aS aQ aSt aSx aSy sr zl (zqx + (zqhx + (st stp * toSide zk - sx stp))) (zqy + (zqhy + (st stp * upward zk - sy stp))) (zqhx + (st stp * toSide zk - sx stp)) (zqhy + (st stp * upward zk - sy stp)) (stp + 1) zk st sx sy (by first | (first | assumption | omega | exact bnd_up (by assumption) (by omega) (by omega)) | fail "q8") (by first | (first | assumption | omega | exact bnd_up (by assumption) (by omega) (by omega)) | fail "q8") (by first | (first | assumption | omega | exact bnd_up (by assumption) (by omega) (by omega)) | fail "q8") (by first | (first | assumption | omega | exact bnd_up (by assumption) (by omega) (by omega)) | fail "q8") (by first | (first | assumption | omega | exact bnd_up (by assumption) (by omega) (by omega)) | fail "q8") (by first | (first | assumption | omega | exact bnd_up (by assumption) (by omega) (by omega)) | fail "q8") (by first | (first | assumption | omega | exact bnd_up (by assumption) (by omega) (by omega)) | fail "q8") (by first | (first | assumption | omega | exact bnd_up (by assumption) (by omega) (by omega)) | fail "q8") (by first | (first | assumption | omega | exact bnd_up (by assumption) (by omega) (by omega)) | fail "q8") (by first | (first | assumption | omega | exact bnd_up (by assumption) (by omega) (by omega)) | fail "q8") (by first | (first | assumption | omega | exact bnd_up (by assumption) (by omega) (by omega)) | fail "q8") (by first | (first | assumption | omega | exact bnd_up (by assumption) (by omega) (by omega)) | fail "q8")) (va_cwS 3 hts gX8_tryAllFrom_X8_tryAllFrom rfl rfl rfl (by decide +kernel) ⟨Nat.le_of_ble_eq_true rfl, Nat.le_of_ble_eq_true rfl⟩) ⟨xB_blind, hpre _⟩ rfl rfl hl.1 rfl (lv_room (Nat.le_of_ble_eq_true rfl)) dX8_tryAllFrom_42 ⟨Nat.le_of_ble_eq_true rfl, Nat.le_of_ble_eq_true rfl⟩) (fun (u : Unit) => [(aS, .inr (6, [.ref aQ, .ref aSt, .ref aSx, .ref aSy, .int (iI sr), .int (iI (mn zl (gaN st sx sy 0 (stp + 1) zk (zqx + (zqhx + (st stp * toSide zk - sx stp))) (zqy + (zqhy + (st stp * upward zk - sy stp))) (zqhx + (st stp * toSide zk - sx stp)) (zqhy + (st stp * upward zk - sy stp)))))])), (aQ, .inr (2, [.int (iI (zqx + (zqhx + (st stp * toSide zk - sx stp)))), .int (iI (zqy + (zqhy + (st stp * upward zk - sy stp)))), .int (iI (zqhx + (st stp * toSide zk - sx stp))), .int (iI (zqhy + (st stp * upward zk - sy stp)))])), (aSt, .inl (gI g, 4, .inl (ar st))), (aSx, .inl (gI g, 4, .inl (ar sx))), (aSy, .inl (gI g, 4, .inl (ar sy)))]) rfl rfl (by decide) (fun _ => rfl) rfl (fun u H locs hv_12 hP hD hS => ?_)
              have hP : va_P (gD g) vwCl [(aS, .inr (6, [.ref aQ, .ref aSt, .ref aSx, .ref aSy, .int (iI sr), .int (iI (mn zl (gaN st sx sy 0 (stp + 1) zk (zqx + (zqhx + (st stp * toSide zk - sx stp))) (zqy + (zqhy + (st stp * upward zk - sy stp))) (zqhx + (st stp * toSide zk - sx stp)) (zqhy + (st stp * upward zk - sy stp)))))])), (aQ, .inr (2, [.int (iI (zqx + (zqhx + (st stp * toSide zk - sx stp)))), .int (iI (zqy + (zqhy + (st stp * upward zk - sy stp)))), .int (iI (zqhx + (st stp * toSide zk - sx stp))), .int (iI (zqhy + (st stp * upward zk - sy stp)))])), (aSt, .inl (gI g, 4, .inl (ar st))), (aSx, .inl (gI g, 4, .inl (ar sx))), (aSy, .inl (gI g, 4, .inl (ar sy)))] H := hP
              have hD : va_D A [(aS, .inr (6, [.ref aQ, .ref aSt, .ref aSx, .ref aSy, .int (iI sr), .int (iI (mn zl (gaN st sx sy 0 (stp + 1) zk (zqx + (zqhx + (st stp * toSide zk - sx stp))) (zqy + (zqhy + (st stp * upward zk - sy stp))) (zqhx + (st stp * toSide zk - sx stp)) (zqhy + (st stp * upward zk - sy stp)))))])), (aQ, .inr (2, [.int (iI (zqx + (zqhx + (st stp * toSide zk - sx stp)))), .int (iI (zqy + (zqhy + (st stp * upward zk - sy stp)))), .int (iI (zqhx + (st stp * toSide zk - sx stp))), .int (iI (zqhy + (st stp * upward zk - sy stp)))])), (aSt, .inl (gI g, 4, .inl (ar st))), (aSx, .inl (gI g, 4, .inl (ar sx))), (aSy, .inl (gI g, 4, .inl (ar sy)))] := hD
              refine lv_aload_n hx hb dX8_tryAllFrom_45 rfl (lv_at hl 1 rfl) ?_
              refine lv_iload_n hx hb dX8_tryAllFrom_46 rfl (lv_at hl 2 rfl) ?_
              refine lv_iload_n hx hb dX8_tryAllFrom_47 rfl (lv_at hl 0 rfl) ?_
              refine x_callv (S := Unit) (wc := [(aS, .inr (6, [.ref aQ, .ref aSt, .ref aSx, .ref aSy, .int (iI sr), .int (iI (mn zl (gaN st sx sy 0 (stp + 1) zk (zqx + (zqhx + (st stp * toSide zk - sx stp))) (zqy + (zqhy + (st stp * upward zk - sy stp))) (zqhx + (st stp * toSide zk - sx stp)) (zqhy + (st stp * upward zk - sy stp)))))])), (aQ, .inr (2, [.int (iI (zqx + (zqhx + (st stp * toSide zk - sx stp)))), .int (iI (zqy + (zqhy + (st stp * upward zk - sy stp)))), .int (iI (zqhx + (st stp * toSide zk - sx stp))), .int (iI (zqhy + (st stp * upward zk - sy stp)))])), (aSt, .inl (gI g, 4, .inl (ar st))), (aSx, .inl (gI g, 4, .inl (ar sx))), (aSy, .inl (gI g, 4, .inl (ar sy)))]) (wr := []) hC hP hD hS hA [0, 1, 2, 3, 4] [] [0, 1, 2, 3, 4] rfl rfl (fun hpre => va_runV (As := [.int (iI stp), .int (iI zk)]) (rest := []) ⟨hx, hb, hml, hown, hts⟩ (c_X4_takeBack l g H.size aS aQ aSt aSx aSy sr (mn zl (gaN st sx sy 0 (stp + 1) zk (zqx + (zqhx + (st stp * toSide zk - sx stp))) (zqy + (zqhy + (st stp * upward zk - sy stp))) (zqhx + (st stp * toSide zk - sx stp)) (zqhy + (st stp * upward zk - sy stp)))) (zqx + (zqhx + (st stp * toSide zk - sx stp))) (zqy + (zqhy + (st stp * upward zk - sy stp))) (zqhx + (st stp * toSide zk - sx stp)) (zqhy + (st stp * upward zk - sy stp)) stp zk st sx sy (by first | (first | assumption | omega | exact bnd_up (by assumption) (by omega) (by omega)) | fail "q8") (by first | (first | assumption | omega | exact bnd_up (by assumption) (by omega) (by omega)) | fail "q8")) (cwV 2 hts gX8_tryAllFrom_X4_takeBack rfl rfl rfl (by decide +kernel) ⟨Nat.le_of_ble_eq_true rfl, Nat.le_of_ble_eq_true rfl⟩) ⟨xB_blind, va_recv hK hP (ci := 6) (q0 := 0) rfl rfl, hpre _⟩ rfl rfl hl.1 rfl (lv_room (Nat.le_of_ble_eq_true rfl)) dX8_tryAllFrom_48 ⟨Nat.le_of_ble_eq_true rfl, Nat.le_of_ble_eq_true rfl⟩) (fun (u : Unit) => [(aS, .inr (6, [.ref aQ, .ref aSt, .ref aSx, .ref aSy, .int (iI sr), .int (iI (mn zl (gaN st sx sy 0 (stp + 1) zk (zqx + (zqhx + (st stp * toSide zk - sx stp))) (zqy + (zqhy + (st stp * upward zk - sy stp))) (zqhx + (st stp * toSide zk - sx stp)) (zqhy + (st stp * upward zk - sy stp)))))])), (aQ, .inr (2, [.int (iI ((zqx + (zqhx + (st stp * toSide zk - sx stp))) - (zqhx + (st stp * toSide zk - sx stp)))), .int (iI ((zqy + (zqhy + (st stp * upward zk - sy stp))) - (zqhy + (st stp * upward zk - sy stp)))), .int (iI ((zqhx + (st stp * toSide zk - sx stp)) - (st stp * toSide zk - sx stp))), .int (iI ((zqhy + (st stp * upward zk - sy stp)) - (st stp * upward zk - sy stp)))])), (aSt, .inl (gI g, 4, .inl (ar st))), (aSx, .inl (gI g, 4, .inl (ar sx))), (aSy, .inl (gI g, 4, .inl (ar sy)))]) rfl rfl (by decide) (fun _ => rfl) rfl (fun u H locs hv_13 hP hD hS => ?_)
              have hP : va_P (gD g) vwCl [(aS, .inr (6, [.ref aQ, .ref aSt, .ref aSx, .ref aSy, .int (iI sr), .int (iI (mn zl (gaN st sx sy 0 (stp + 1) zk (zqx + (zqhx + (st stp * toSide zk - sx stp))) (zqy + (zqhy + (st stp * upward zk - sy stp))) (zqhx + (st stp * toSide zk - sx stp)) (zqhy + (st stp * upward zk - sy stp)))))])), (aQ, .inr (2, [.int (iI ((zqx + (zqhx + (st stp * toSide zk - sx stp))) - (zqhx + (st stp * toSide zk - sx stp)))), .int (iI ((zqy + (zqhy + (st stp * upward zk - sy stp))) - (zqhy + (st stp * upward zk - sy stp)))), .int (iI ((zqhx + (st stp * toSide zk - sx stp)) - (st stp * toSide zk - sx stp))), .int (iI ((zqhy + (st stp * upward zk - sy stp)) - (st stp * upward zk - sy stp)))])), (aSt, .inl (gI g, 4, .inl (ar st))), (aSx, .inl (gI g, 4, .inl (ar sx))), (aSy, .inl (gI g, 4, .inl (ar sy)))] H := hP
              have hD : va_D A [(aS, .inr (6, [.ref aQ, .ref aSt, .ref aSx, .ref aSy, .int (iI sr), .int (iI (mn zl (gaN st sx sy 0 (stp + 1) zk (zqx + (zqhx + (st stp * toSide zk - sx stp))) (zqy + (zqhy + (st stp * upward zk - sy stp))) (zqhx + (st stp * toSide zk - sx stp)) (zqhy + (st stp * upward zk - sy stp)))))])), (aQ, .inr (2, [.int (iI ((zqx + (zqhx + (st stp * toSide zk - sx stp))) - (zqhx + (st stp * toSide zk - sx stp)))), .int (iI ((zqy + (zqhy + (st stp * upward zk - sy stp))) - (zqhy + (st stp * upward zk - sy stp)))), .int (iI ((zqhx + (st stp * toSide zk - sx stp)) - (st stp * toSide zk - sx stp))), .int (iI ((zqhy + (st stp * upward zk - sy stp)) - (st stp * upward zk - sy stp)))])), (aSt, .inl (gI g, 4, .inl (ar st))), (aSx, .inl (gI g, 4, .inl (ar sx))), (aSy, .inl (gI g, 4, .inl (ar sy)))] := hD
              refine x_iinc (k := 0) (lv' := [(3, .int (iI (zk + 1))), (0, .ref aS), (1, .int (iI stp)), (2, .int (iI be))]) hx hb dX8_tryAllFrom_51 hl rfl (by decide) rfl (fun ls hl => ?_)
              refine lv_goto (tgt := 15) hx hb dX8_tryAllFrom_54 (by decide) ?_
              exact ih15 (zk + 1) (mn zl (gaN st sx sy 0 (stp + 1) zk (zqx + (zqhx + (st stp * toSide zk - sx stp))) (zqy + (zqhy + (st stp * upward zk - sy stp))) (zqhx + (st stp * toSide zk - sx stp)) (zqhy + (st stp * upward zk - sy stp)))) ((zqx + (zqhx + (st stp * toSide zk - sx stp))) - (zqhx + (st stp * toSide zk - sx stp))) ((zqy + (zqhy + (st stp * upward zk - sy stp))) - (zqhy + (st stp * upward zk - sy stp))) ((zqhx + (st stp * toSide zk - sx stp)) - (st stp * toSide zk - sx stp)) ((zqhy + (st stp * upward zk - sy stp)) - (st stp * upward zk - sy stp)) (show 0 ≤ (zk + 1) ∧ (zk + 1) ≤ 8 by
                  first
                  | (
                     first | assumption | omega | rfl)
                  | fail "q9") (show ((zqx + (zqhx + (st stp * toSide zk - sx stp))) - (zqhx + (st stp * toSide zk - sx stp))) = qx by
                  first
                  | (
                     first | assumption | omega | rfl)
                  | fail "q9") (show ((zqy + (zqhy + (st stp * upward zk - sy stp))) - (zqhy + (st stp * upward zk - sy stp))) = qy by
                  first
                  | (
                     first | assumption | omega | rfl)
                  | fail "q9") (show ((zqhx + (st stp * toSide zk - sx stp)) - (st stp * toSide zk - sx stp)) = qhx by
                  first
                  | (
                     first | assumption | omega | rfl)
                  | fail "q9") (show ((zqhy + (st stp * upward zk - sy stp)) - (st stp * upward zk - sy stp)) = qhy by
                  first
                  | (
                     first | assumption | omega | rfl)
                  | fail "q9") (show (mn zl (gaN st sx sy 0 (stp + 1) zk (zqx + (zqhx + (st stp * toSide zk - sx stp))) (zqy + (zqhy + (st stp * upward zk - sy stp))) (zqhx + (st stp * toSide zk - sx stp)) (zqhy + (st stp * upward zk - sy stp)))) = mn sl (lstI (fun p => gaN st sx sy 0 (stp + 1) p (qx + (qhx + (st stp * toSide p - sx stp))) (qy + (qhy + (st stp * upward p - sy stp))) (qhx + (st stp * toSide p - sx stp)) (qhy + (st stp * upward p - sy stp))) (fun p => decide (fitP be p)) (zk + 1)) by
                  first
                  | (
                     rw [lstI_step _ _ (by omega)]
                     simp only [decide_eq_true_eq]
                     first | (rw [if_pos (by omega), hzl, mn_assoc, hzqx, hzqy, hzqhx, hzqhy]) | (rw [if_neg (by omega)]; assumption))
                  | fail "q9") (show 0 ≤ (mn zl (gaN st sx sy 0 (stp + 1) zk (zqx + (zqhx + (st stp * toSide zk - sx stp))) (zqy + (zqhy + (st stp * upward zk - sy stp))) (zqhx + (st stp * toSide zk - sx stp)) (zqhy + (st stp * upward zk - sy stp)))) ∧ (mn zl (gaN st sx sy 0 (stp + 1) zk (zqx + (zqhx + (st stp * toSide zk - sx stp))) (zqy + (zqhy + (st stp * upward zk - sy stp))) (zqhx + (st stp * toSide zk - sx stp)) (zqhy + (st stp * upward zk - sy stp)))) ≤ 2147483647 by
                  first
                  | (
                     first | assumption | (have g1 := gaN_nn st sx sy 0 (stp + 1) zk (zqx + (zqhx + (st stp * toSide zk - sx stp))) (zqy + (zqhy + (st stp * upward zk - sy stp))) (zqhx + (st stp * toSide zk - sx stp)) (zqhy + (st stp * upward zk - sy stp)); have g2 := mn_r zl _ (rfl : mn zl (gaN st sx sy 0 (stp + 1) zk (zqx + (zqhx + (st stp * toSide zk - sx stp))) (zqy + (zqhy + (st stp * upward zk - sy stp))) (zqhx + (st stp * toSide zk - sx stp)) (zqhy + (st stp * upward zk - sy stp))) = _); omega))
                  | fail "q9") (by
                  first
                  | (
                     omega)
                  | fail "q9") _ _ hP hD hS ls (lv_sub hl [0, 1, 2, 3] rfl)
      exact lp15 (8 - 0 + 1 : Int).toNat 0 sl qx qy qhx qhy (show 0 ≤ 0 ∧ 0 ≤ 8 by
          first
          | (
             first | assumption | omega | rfl)
          | fail "q9") (show qx = qx by
          first
          | (
             first | assumption | omega | rfl)
          | fail "q9") (show qy = qy by
          first
          | (
             first | assumption | omega | rfl)
          | fail "q9") (show qhx = qhx by
          first
          | (
             first | assumption | omega | rfl)
          | fail "q9") (show qhy = qhy by
          first
          | (
             first | assumption | omega | rfl)
          | fail "q9") (show sl = mn sl (lstI (fun p => gaN st sx sy 0 (stp + 1) p (qx + (qhx + (st stp * toSide p - sx stp))) (qy + (qhy + (st stp * upward p - sy stp))) (qhx + (st stp * toSide p - sx stp)) (qhy + (st stp * upward p - sy stp))) (fun p => decide (fitP be p)) 0) by
          first
          | (
             exact (mn_max hsl.2).symm)
          | fail "q9") (show 0 ≤ sl ∧ sl ≤ 2147483647 by
          first
          | (
             first | assumption | omega | rfl)
          | fail "q9") (by omega) _ _ hP hD hS ls (lv_sub hl [0, 1, 2, 3] rfl)
    · skip
      exfalso; omega
  rw [hH, hlo, hQ9] at goal_
  exact goal_

set_option maxHeartbeats 4000000 in
set_option maxRecDepth 100000 in
theorem c_X8_tryAllFrom2 (l : Launch) (g : xg) (sz : Nat) (aS aQ aSt aSx aSy : Nat) (sr sl qx qy qhx qhy stp be : Int) (st sx sy : Int → Int) (hsr : 0 ≤ sr ∧ sr ≤ 4) (hsd : sr - stp = 2) (hstp : 0 ≤ stp) (hbe : -1 ≤ be ∧ be ≤ 7) (hqx : -720500 ≤ qx ∧ qx ≤ 720500) (hqy : -720500 ≤ qy ∧ qy ≤ 720500) (hqhx : -3028 ≤ qhx ∧ qhx ≤ 3028) (hqhy : -3028 ≤ qhy ∧ qhy ≤ 3028) (hsl : 0 ≤ sl ∧ sl ≤ 2147483647) (hb_st : bnd st 0 9) (hb_sx : bnd sx (-5) 5) (hb_sy : bnd sy (-5) 5) : Met l yX8_tryAllFrom wsX8_tryAllFrom { frames := 5, cells := 0, slots := 0, locals := 108 } (va_Pc [.ref aS, .int (iI stp), .int (iI be)] (xB g [(aS, .inr (6, [.ref aQ, .ref aSt, .ref aSx, .ref aSy, .int (iI sr), .int (iI sl)])), (aQ, .inr (2, [.int (iI qx), .int (iI qy), .int (iI qhx), .int (iI qhy)])), (aSt, .inl (gI g, 4, .inl (ar st))), (aSx, .inl (gI g, 4, .inl (ar sx))), (aSy, .inl (gI g, 4, .inl (ar sy)))] sz)) (va_Qv (fun (u : Unit) => True) (fun u t => xE g (va_A [(aS, .inr (6, [.ref aQ, .ref aSt, .ref aSx, .ref aSy, .int (iI sr), .int (iI sl)])), (aQ, .inr (2, [.int (iI qx), .int (iI qy), .int (iI qhx), .int (iI qhy)])), (aSt, .inl (gI g, 4, .inl (ar st))), (aSx, .inl (gI g, 4, .inl (ar sx))), (aSy, .inl (gI g, 4, .inl (ar sy)))] sz) ((fun (u : Unit) => [(aS, .inr (6, [.ref aQ, .ref aSt, .ref aSx, .ref aSy, .int (iI sr), .int (iI (mn sl (gaN st sx sy 2 stp be qx qy qhx qhy)))])), (aQ, .inr (2, [.int (iI qx), .int (iI qy), .int (iI qhx), .int (iI qhy)])), (aSt, .inl (gI g, 4, .inl (ar st))), (aSx, .inl (gI g, 4, .inl (ar sx))), (aSy, .inl (gI g, 4, .inl (ar sy)))]) u) t) (va_A [(aS, .inr (6, [.ref aQ, .ref aSt, .ref aSx, .ref aSy, .int (iI sr), .int (iI sl)])), (aQ, .inr (2, [.int (iI qx), .int (iI qy), .int (iI qhx), .int (iI qhy)])), (aSt, .inl (gI g, 4, .inl (ar st))), (aSx, .inl (gI g, 4, .inl (ar sx))), (aSy, .inl (gI g, 4, .inl (ar sy)))] sz)) 0 0 (va_A [(aS, .inr (6, [.ref aQ, .ref aSt, .ref aSx, .ref aSy, .int (iI sr), .int (iI sl)])), (aQ, .inr (2, [.int (iI qx), .int (iI qy), .int (iI qhx), .int (iI qhy)])), (aSt, .inl (gI g, 4, .inl (ar st))), (aSx, .inl (gI g, 4, .inl (ar sx))), (aSy, .inl (gI g, 4, .inl (ar sy)))] sz) := by
  refine x_enter (y := yX8_tryAllFrom) (ws := wsX8_tryAllFrom) (g := g) (sz := sz) (av := [.ref aS, .int (iI stp), .int (iI be)]) (WS := [(aS, .inr (6, [.ref aQ, .ref aSt, .ref aSx, .ref aSy, .int (iI sr), .int (iI sl)])), (aQ, .inr (2, [.int (iI qx), .int (iI qy), .int (iI qhx), .int (iI qhy)])), (aSt, .inl (gI g, 4, .inl (ar st))), (aSx, .inl (gI g, 4, .inl (ar sx))), (aSy, .inl (gI g, 4, .inl (ar sy)))]) (cc := cX8_tryAllFrom) (maxL := 4) (ret := none) (Qc := (fun A => (va_Qv (fun (u : Unit) => True) (fun u t => xE g A ((fun (u : Unit) => [(aS, .inr (6, [.ref aQ, .ref aSt, .ref aSx, .ref aSy, .int (iI sr), .int (iI (mn sl (gaN st sx sy 2 stp be qx qy qhx qhy)))])), (aQ, .inr (2, [.int (iI qx), .int (iI qy), .int (iI qhx), .int (iI qhy)])), (aSt, .inl (gI g, 4, .inl (ar st))), (aSx, .inl (gI g, 4, .inl (ar sx))), (aSy, .inl (gI g, 4, .inl (ar sy)))]) u) t) A))) (by decide) rfl (Nat.le_of_ble_eq_true rfl) ?_
  intro p e s m args below meth c A ls hx hb hr hml hown hts hlocks hname hC hP hD hS hA hl
  have hK := hC.1
  have hown : s.vm.findClass RX8 = some m.cls := hown
  have hin4 : ∀ w ∈ u_ws RX4 TX4 6, w ∈ wsX8_tryAllFrom := by decide +kernel
  have hl : lv_has ls 4 [(0, .ref aS), (1, .int (iI stp)), (2, .int (iI be))] := hl
  obtain ⟨H, hH⟩ : ∃ z, z = s.heap := ⟨_, rfl⟩
  obtain ⟨locs, hlo⟩ : ∃ z : List Loc, z = [] := ⟨_, rfl⟩
  obtain ⟨Q9, hQ9⟩ : ∃ z, z = MQ below (va_Qv (fun (u : Unit) => True) (fun u t => xE g A ((fun (u : Unit) => [(aS, .inr (6, [.ref aQ, .ref aSt, .ref aSx, .ref aSy, .int (iI sr), .int (iI (mn sl (gaN st sx sy 2 stp be qx qy qhx qhy)))])), (aQ, .inr (2, [.int (iI qx), .int (iI qy), .int (iI qhx), .int (iI qhy)])), (aSt, .inl (gI g, 4, .inl (ar st))), (aSx, .inl (gI g, 4, .inl (ar sx))), (aSy, .inl (gI g, 4, .inl (ar sy)))]) u) t) A) args s 0 0 A := ⟨_, rfl⟩
  have hP : va_P (gD g) vwCl [(aS, .inr (6, [.ref aQ, .ref aSt, .ref aSx, .ref aSy, .int (iI sr), .int (iI sl)])), (aQ, .inr (2, [.int (iI qx), .int (iI qy), .int (iI qhx), .int (iI qhy)])), (aSt, .inl (gI g, 4, .inl (ar st))), (aSx, .inl (gI g, 4, .inl (ar sx))), (aSy, .inl (gI g, 4, .inl (ar sy)))] H := by rw [hH]; exact hP
  have hS : va_S A s.heap H locs := by rw [hH, hlo]; exact hS
  have goal_ : W p l e { frames := 5, cells := 0, slots := 0, locals := 108 } s m args below meth c H locs 0 0 Q9 (F0 m 0 ls []) := by
    clear hH hlo
    refine lv_iload_n hx hb dX8_tryAllFrom_0 rfl (lv_at hl 1 rfl) ?_
    refine lv_aload_n hx hb dX8_tryAllFrom_1 rfl (lv_at hl 0 rfl) ?_
    refine va_get (D := gD g) (ci := 6) (v := .int (iI sr)) (C := RX4) (T := TX4) (N := 6) hx hb hts hin4 hown hK hP 0 rfl rfl 4 (by decide) (hts (.fieldLink RX8 372 "TunnelRing$Search" "rings" "I") (List.mem_of_getElem? (i := 1) rfl)) (fun _ h9 => h9) rfl dX8_tryAllFrom_2 ?_
    refine x_cmp_lt (tgt := 13) hx hb (by omega) (by omega) dX8_tryAllFrom_5 (by decide) (fun c_1 => ?_) (fun c_1 => ?_)
    · skip
      refine x_iconst hx hb dX8_tryAllFrom_13 ?_
      refine lv_istore_n (lv' := [(3, .int (iI 0)), (0, .ref aS), (1, .int (iI stp)), (2, .int (iI be))]) hx hb dX8_tryAllFrom_14 rfl hl (by decide) rfl (fun ls hl => ?_)
      have lp15 : ∀ (n : Nat) (zk : Int) (zl : Int) (zqx : Int) (zqy : Int) (zqhx : Int) (zqhy : Int), (0 ≤ zk ∧ zk ≤ 8) → (zqx = qx) → (zqy = qy) → (zqhx = qhx) → (zqhy = qhy) → (zl = mn sl (lstI (fun p => gaN st sx sy 1 (stp + 1) p (qx + (qhx + (st stp * toSide p - sx stp))) (qy + (qhy + (st stp * upward p - sy stp))) (qhx + (st stp * toSide p - sx stp)) (qhy + (st stp * upward p - sy stp))) (fun p => decide (fitP be p)) zk)) → (0 ≤ zl ∧ zl ≤ 2147483647) → 8 - zk + 1 ≤ (n : Int) → ∀ (H : Heap) (locs : List Loc), va_P (gD g) vwCl [(aS, .inr (6, [.ref aQ, .ref aSt, .ref aSx, .ref aSy, .int (iI sr), .int (iI zl)])), (aQ, .inr (2, [.int (iI zqx), .int (iI zqy), .int (iI zqhx), .int (iI zqhy)])), (aSt, .inl (gI g, 4, .inl (ar st))), (aSx, .inl (gI g, 4, .inl (ar sx))), (aSy, .inl (gI g, 4, .inl (ar sy)))] H → va_D A [(aS, .inr (6, [.ref aQ, .ref aSt, .ref aSx, .ref aSy, .int (iI sr), .int (iI zl)])), (aQ, .inr (2, [.int (iI zqx), .int (iI zqy), .int (iI zqhx), .int (iI zqhy)])), (aSt, .inl (gI g, 4, .inl (ar st))), (aSx, .inl (gI g, 4, .inl (ar sx))), (aSy, .inl (gI g, 4, .inl (ar sy)))] → va_S A s.heap H locs → ∀ (ls : Array Slot), lv_has ls 4 [(3, .int (iI zk)), (0, .ref aS), (1, .int (iI stp)), (2, .int (iI be))] → W p l e { frames := 5, cells := 0, slots := 0, locals := 108 } s m args below meth c H locs 0 0 Q9 (F0 m 15 ls []) := by
        intro n
        induction n with
        | zero => intro zk zl zqx zqy zqhx zqhy hzk hzqx hzqy hzqhx hzqhy hzl hzr hm; exfalso; omega
        | succ n ih15 =>
          intro zk zl zqx zqy zqhx zqhy hzk hzqx hzqy hzqhx hzqhy hzl hzr hm H locs hP hD hS ls hl
          refine lv_iload_n hx hb dX8_tryAllFrom_15 rfl (lv_at hl 0 rfl) ?_
          refine va_gets hx hb hC.2.1.1 hS hown (hts (.fieldLink RX8 260 "TunnelRing" "TO_SIDE" "[I") (List.mem_of_getElem? (i := 2) rfl)) (fun _ h9 => h9) dX8_tryAllFrom_16 ?_
          refine va_tlen hx hb hC.2.1.2 hS (v := iI 8) (by decide) dX8_tryAllFrom_19 ?_
          refine x_cmp_ge (tgt := 57) hx hb (by omega) (by omega) dX8_tryAllFrom_20 (by decide) (fun c_2 => ?_) (fun c_2 => ?_)
          · skip
            have q_3 : (mn sl (gaN st sx sy 2 stp be qx qy qhx qhy)) = zl := by
              first
              | (
                 first | (show mn sl (lstI (fun p => gaN st sx sy 1 (stp + 1) p (qx + (qhx + (st stp * toSide p - sx stp))) (qy + (qhy + (st stp * upward p - sy stp))) (qhx + (st stp * toSide p - sx stp)) (qhy + (st stp * upward p - sy stp))) (fun p => decide (fitP be p)) 8) = zl; rw [show (8 : Int) = zk by omega]; exact hzl.symm) | (have hlb := lbN (st := st) (sx := sx) (sy := sy) hb_st 2 stp be qx qy qhx qhy; have s1 := alN_sum (F := sx) (sr := sr) 2 stp hstp (by omega); have s2 := alN_sum (F := sy) (sr := sr) 2 stp hstp (by omega); have s3 := alN_sum (F := st) (sr := sr) 2 stp hstp (by omega); rw [s1, s2, s3, show sr - stp = ((2 : Nat) : Int) by omega] at hal9; rw [← hal9] at hlb; exact mn_left (by unfold mn at hlb; split at hlb <;> omega)))
              | fail "q9"
            have q_4 : qx = zqx := by
              first
              | (
                 omega)
              | fail "q9"
            have q_5 : qy = zqy := by
              first
              | (
                 omega)
              | fail "q9"
            have q_6 : qhx = zqhx := by
              first
              | (
                 omega)
              | fail "q9"
            have q_7 : qhy = zqhy := by
              first
              | (
                 omega)
              | fail "q9"
            have hw_8 := (congr (congr (congr (congr (congrArg (fun (z0 : Int) (z1 : Int) (z2 : Int) (z3 : Int) (z4 : Int) => ([(aS, .inr (6, [.ref aQ, .ref aSt, .ref aSx, .ref aSy, .int (iI sr), .int (iI z0)])), (aQ, .inr (2, [.int (iI z1), .int (iI z2), .int (iI z3), .int (iI z4)])), (aSt, .inl (gI g, 4, .inl (ar st))), (aSx, .inl (gI g, 4, .inl (ar sx))), (aSy, .inl (gI g, 4, .inl (ar sy)))] : va_W)) q_3.symm) q_4.symm) q_5.symm) q_6.symm) q_7.symm)
            rw [hQ9]
            exact x_vret hx hb hr hlocks hP hD hS (S := Unit) (Φ := _) (W1 := _) dX8_tryAllFrom_57 () trivial hw_8 (Nat.le_of_ble_eq_true rfl) (Nat.le_of_ble_eq_true rfl)
          · skip
            refine lv_iload_n hx hb dX8_tryAllFrom_23 rfl (lv_at hl 3 rfl) ?_
            refine lv_iload_n hx hb dX8_tryAllFrom_24 rfl (lv_at hl 0 rfl) ?_
            refine x_calli (S := Unit) (wc := []) (wr := [(aS, .inr (6, [.ref aQ, .ref aSt, .ref aSx, .ref aSy, .int (iI sr), .int (iI zl)])), (aQ, .inr (2, [.int (iI zqx), .int (iI zqy), .int (iI zqhx), .int (iI zqhy)])), (aSt, .inl (gI g, 4, .inl (ar st))), (aSx, .inl (gI g, 4, .inl (ar sx))), (aSy, .inl (gI g, 4, .inl (ar sy)))]) hC hP hD hS hA [] [0, 1, 2, 3, 4] [0, 1, 2, 3, 4] rfl rfl (fun hpre => va_runS (As := [.int (iI be), .int (iI zk)]) (rest := []) ⟨hx, hb, hml, hown, hts⟩ (c_X8_fits l g H.size be zk (by first | (first | assumption | omega | exact bnd_up (by assumption) (by omega) (by omega)) | fail "q8") (by first | (first | assumption | omega | exact bnd_up (by assumption) (by omega) (by omega)) | fail "q8")) (va_cwS 2 hts gX8_tryAllFrom_X8_fits rfl rfl rfl (by decide +kernel) ⟨Nat.le_of_ble_eq_true rfl, Nat.le_of_ble_eq_true rfl⟩) ⟨xB_blind, hpre _⟩ rfl rfl hl.1 rfl (lv_room (Nat.le_of_ble_eq_true rfl)) dX8_tryAllFrom_25 ⟨Nat.le_of_ble_eq_true rfl, Nat.le_of_ble_eq_true rfl⟩) (fun (u : Unit) => [(aS, .inr (6, [.ref aQ, .ref aSt, .ref aSx, .ref aSy, .int (iI sr), .int (iI zl)])), (aQ, .inr (2, [.int (iI zqx), .int (iI zqy), .int (iI zqhx), .int (iI zqhy)])), (aSt, .inl (gI g, 4, .inl (ar st))), (aSx, .inl (gI g, 4, .inl (ar sx))), (aSy, .inl (gI g, 4, .inl (ar sy)))]) rfl rfl (by decide) (fun _ => rfl) rfl (fun u v_9 H locs hv_9 pv_9 hP hD hS => ?_)
            have hP : va_P (gD g) vwCl [(aS, .inr (6, [.ref aQ, .ref aSt, .ref aSx, .ref aSy, .int (iI sr), .int (iI zl)])), (aQ, .inr (2, [.int (iI zqx), .int (iI zqy), .int (iI zqhx), .int (iI zqhy)])), (aSt, .inl (gI g, 4, .inl (ar st))), (aSx, .inl (gI g, 4, .inl (ar sx))), (aSy, .inl (gI g, 4, .inl (ar sy)))] H := hP
            have hD : va_D A [(aS, .inr (6, [.ref aQ, .ref aSt, .ref aSx, .ref aSy, .int (iI sr), .int (iI zl)])), (aQ, .inr (2, [.int (iI zqx), .int (iI zqy), .int (iI zqhx), .int (iI zqhy)])), (aSt, .inl (gI g, 4, .inl (ar st))), (aSx, .inl (gI g, 4, .inl (ar sx))), (aSy, .inl (gI g, 4, .inl (ar sy)))] := hD
            have hv_9 : v_9 = bI (fitP be zk) := hv_9
            refine x_top hv_9 ?_
            refine x_ifb_eq (tgt := 51) (P := fitP be zk) hx hb dX8_tryAllFrom_28 (by decide) (fun c_10 => ?_) (fun c_10 => ?_)
            · skip
              refine x_iinc (k := 0) (lv' := [(3, .int (iI (zk + 1))), (0, .ref aS), (1, .int (iI stp)), (2, .int (iI be))]) hx hb dX8_tryAllFrom_51 hl rfl (by decide) rfl (fun ls hl => ?_)
              refine lv_goto (tgt := 15) hx hb dX8_tryAllFrom_54 (by decide) ?_
              exact ih15 (zk + 1) zl zqx zqy zqhx zqhy (show 0 ≤ (zk + 1) ∧ (zk + 1) ≤ 8 by
                  first
                  | (
                     first | assumption | omega | rfl)
                  | fail "q9") (show zqx = qx by
                  first
                  | (
                     first | assumption | omega | rfl)
                  | fail "q9") (show zqy = qy by
                  first
                  | (
                     first | assumption | omega | rfl)
                  | fail "q9") (show zqhx = qhx by
                  first
                  | (
                     first | assumption | omega | rfl)
                  | fail "q9") (show zqhy = qhy by
                  first
                  | (
                     first | assumption | omega | rfl)
                  | fail "q9") (show zl = mn sl (lstI (fun p => gaN st sx sy 1 (stp + 1) p (qx + (qhx + (st stp * toSide p - sx stp))) (qy + (qhy + (st stp * upward p - sy stp))) (qhx + (st stp * toSide p - sx stp)) (qhy + (st stp * upward p - sy stp))) (fun p => decide (fitP be p)) (zk + 1)) by
                  first
                  | (
                     rw [lstI_step _ _ (by omega)]
                     simp only [decide_eq_true_eq]
                     first | (rw [if_pos (by omega), hzl, mn_assoc, hzqx, hzqy, hzqhx, hzqhy]) | (rw [if_neg (by omega)]; assumption))
                  | fail "q9") (show 0 ≤ zl ∧ zl ≤ 2147483647 by
                  first
                  | (
                     first | assumption | (have g1 := gaN_nn st sx sy 1 (stp + 1) zk (zqx + (zqhx + (st stp * toSide zk - sx stp))) (zqy + (zqhy + (st stp * upward zk - sy stp))) (zqhx + (st stp * toSide zk - sx stp)) (zqhy + (st stp * upward zk - sy stp)); have g2 := mn_r zl _ (rfl : mn zl (gaN st sx sy 1 (stp + 1) zk (zqx + (zqhx + (st stp * toSide zk - sx stp))) (zqy + (zqhy + (st stp * upward zk - sy stp))) (zqhx + (st stp * toSide zk - sx stp)) (zqhy + (st stp * upward zk - sy stp))) = _); omega))
                  | fail "q9") (by
                  first
                  | (
                     omega)
                  | fail "q9") _ _ hP hD hS ls (lv_sub hl [0, 1, 2, 3] rfl)
            · skip
              refine lv_aload_n hx hb dX8_tryAllFrom_31 rfl (lv_at hl 1 rfl) ?_
              refine lv_iload_n hx hb dX8_tryAllFrom_32 rfl (lv_at hl 2 rfl) ?_
              refine lv_iload_n hx hb dX8_tryAllFrom_33 rfl (lv_at hl 0 rfl) ?_
              refine x_callv (S := Unit) (wc := [(aS, .inr (6, [.ref aQ, .ref aSt, .ref aSx, .ref aSy, .int (iI sr), .int (iI zl)])), (aQ, .inr (2, [.int (iI zqx), .int (iI zqy), .int (iI zqhx), .int (iI zqhy)])), (aSt, .inl (gI g, 4, .inl (ar st))), (aSx, .inl (gI g, 4, .inl (ar sx))), (aSy, .inl (gI g, 4, .inl (ar sy)))]) (wr := []) hC hP hD hS hA [0, 1, 2, 3, 4] [] [0, 1, 2, 3, 4] rfl rfl (fun hpre => va_runV (As := [.int (iI stp), .int (iI zk)]) (rest := []) ⟨hx, hb, hml, hown, hts⟩ (c_X4_tryOut l g H.size aS aQ aSt aSx aSy sr zl zqx zqy zqhx zqhy stp zk st sx sy (by first | (first | assumption | omega | exact bnd_up (by assumption) (by omega) (by omega)) | fail "q8") (by first | (first | assumption | omega | exact bnd_up (by assumption) (by omega) (by omega)) | fail "q8")) (cwV 2 hts gX8_tryAllFrom_X4_tryOut rfl rfl rfl (by decide +kernel) ⟨Nat.le_of_ble_eq_true rfl, Nat.le_of_ble_eq_true rfl⟩) ⟨xB_blind, va_recv hK hP (ci := 6) (q0 := 0) rfl rfl, hpre _⟩ rfl rfl hl.1 rfl (lv_room (Nat.le_of_ble_eq_true rfl)) dX8_tryAllFrom_34 ⟨Nat.le_of_ble_eq_true rfl, Nat.le_of_ble_eq_true rfl⟩) (fun (u : Unit) => [(aS, .inr (6, [.ref aQ, .ref aSt, .ref aSx, .ref aSy, .int (iI sr), .int (iI zl)])), (aQ, .inr (2, [.int (iI (zqx + (zqhx + (st stp * toSide zk - sx stp)))), .int (iI (zqy + (zqhy + (st stp * upward zk - sy stp)))), .int (iI (zqhx + (st stp * toSide zk - sx stp))), .int (iI (zqhy + (st stp * upward zk - sy stp)))])), (aSt, .inl (gI g, 4, .inl (ar st))), (aSx, .inl (gI g, 4, .inl (ar sx))), (aSy, .inl (gI g, 4, .inl (ar sy)))]) rfl rfl (by decide) (fun _ => rfl) rfl (fun u H locs hv_11 hP hD hS => ?_)
              have hP : va_P (gD g) vwCl [(aS, .inr (6, [.ref aQ, .ref aSt, .ref aSx, .ref aSy, .int (iI sr), .int (iI zl)])), (aQ, .inr (2, [.int (iI (zqx + (zqhx + (st stp * toSide zk - sx stp)))), .int (iI (zqy + (zqhy + (st stp * upward zk - sy stp)))), .int (iI (zqhx + (st stp * toSide zk - sx stp))), .int (iI (zqhy + (st stp * upward zk - sy stp)))])), (aSt, .inl (gI g, 4, .inl (ar st))), (aSx, .inl (gI g, 4, .inl (ar sx))), (aSy, .inl (gI g, 4, .inl (ar sy)))] H := hP
              have hD : va_D A [(aS, .inr (6, [.ref aQ, .ref aSt, .ref aSx, .ref aSy, .int (iI sr), .int (iI zl)])), (aQ, .inr (2, [.int (iI (zqx + (zqhx + (st stp * toSide zk - sx stp)))), .int (iI (zqy + (zqhy + (st stp * upward zk - sy stp)))), .int (iI (zqhx + (st stp * toSide zk - sx stp))), .int (iI (zqhy + (st stp * upward zk - sy stp)))])), (aSt, .inl (gI g, 4, .inl (ar st))), (aSx, .inl (gI g, 4, .inl (ar sx))), (aSy, .inl (gI g, 4, .inl (ar sy)))] := hD
              have m1 := mulb (A := 9) (B := 1) (a := st stp) (b := toSide zk) (by have := hb_st stp; omega) (toSide_r zk)
              have m2 := mulb (A := 9) (B := 1) (a := st stp) (b := upward zk) (by have := hb_st stp; omega) (upward_r zk)
              have m3 := hb_sx stp
              have m4 := hb_sy stp
              refine lv_aload_n hx hb dX8_tryAllFrom_37 rfl (lv_at hl 1 rfl) ?_
              refine lv_iload_n hx hb dX8_tryAllFrom_38 rfl (lv_at hl 2 rfl) ?_
              refine x_iconst hx hb dX8_tryAllFrom_39 ?_
              refine x_iadd hx hb dX8_tryAllFrom_40 ?_
              refine lv_iload_n hx hb dX8_tryAllFrom_41 rfl (lv_at hl 0 rfl) ?_
              refine x_callv (S := Unit) (wc := [(aS, .inr (6, [.ref aQ, .ref aSt, .ref aSx, .ref aSy, .int (iI sr), .int (iI zl)])), (aQ, .inr (2, [.int (iI (zqx + (zqhx + (st stp * toSide zk - sx stp)))), .int (iI (zqy + (zqhy + (st stp * upward zk - sy stp)))), .int (iI (zqhx + (st stp * toSide zk - sx stp))), .int (iI (zqhy + (st stp * upward zk - sy stp)))])), (aSt, .inl (gI g, 4, .inl (ar st))), (aSx, .inl (gI g, 4, .inl (ar sx))), (aSy, .inl (gI g, 4, .inl (ar sy)))]) (wr := []) hC hP hD hS hA [0, 1, 2, 3, 4] [] [0, 1, 2, 3, 4] rfl rfl (fun hpre => va_runS (As := [.ref aS, .int (iI (stp + 1)), .int (iI zk)]) (rest := []) ⟨hx, hb, hml, hown, hts⟩ (c_X8_tryAllFrom1 l g H.size aS aQ aSt aSx aSy sr zl (zqx + (zqhx + (st stp * toSide zk - sx stp))) (zqy + (zqhy + (st stp * upward zk - sy stp))) (zqhx + (st stp * toSide zk - sx stp)) (zqhy + (st stp * upward zk - sy stp)) (stp + 1) zk st sx sy (by first | (first | assumption | omega | exact bnd_up (by assumption) (by omega) (by omega)) | fail "q8") (by first | (first | assumption | omega | exact bnd_up (by assumption) (by omega) (by omega)) | fail "q8") (by first | (first | assumption | omega | exact bnd_up (by assumption) (by omega) (by omega)) | fail "q8") (by first | (first | assumption | omega | exact bnd_up (by assumption) (by omega) (by omega)) | fail "q8") (by first | (first | assumption | omega | exact bnd_up (by assumption) (by omega) (by omega)) | fail "q8") (by first | (first | assumption | omega | exact bnd_up (by assumption) (by omega) (by omega)) | fail "q8") (by first | (first | assumption | omega | exact bnd_up (by assumption) (by omega) (by omega)) | fail "q8") (by first | (first | assumption | omega | exact bnd_up (by assumption) (by omega) (by omega)) | fail "q8") (by first | (first | assumption | omega | exact bnd_up (by assumption) (by omega) (by omega)) | fail "q8") (by first | (first | assumption | omega | exact bnd_up (by assumption) (by omega) (by omega)) | fail "q8") (by first | (first | assumption | omega | exact bnd_up (by assumption) (by omega) (by omega)) | fail "q8") (by first | (first | assumption | omega | exact bnd_up (by assumption) (by omega) (by omega)) | fail "q8")) (va_cwS 3 hts gX8_tryAllFrom_X8_tryAllFrom rfl rfl rfl (by decide +kernel) ⟨Nat.le_of_ble_eq_true rfl, Nat.le_of_ble_eq_true rfl⟩) ⟨xB_blind, hpre _⟩ rfl rfl hl.1 rfl (lv_room (Nat.le_of_ble_eq_true rfl)) dX8_tryAllFrom_42 ⟨Nat.le_of_ble_eq_true rfl, Nat.le_of_ble_eq_true rfl⟩) (fun (u : Unit) => [(aS, .inr (6, [.ref aQ, .ref aSt, .ref aSx, .ref aSy, .int (iI sr), .int (iI (mn zl (gaN st sx sy 1 (stp + 1) zk (zqx + (zqhx + (st stp * toSide zk - sx stp))) (zqy + (zqhy + (st stp * upward zk - sy stp))) (zqhx + (st stp * toSide zk - sx stp)) (zqhy + (st stp * upward zk - sy stp)))))])), (aQ, .inr (2, [.int (iI (zqx + (zqhx + (st stp * toSide zk - sx stp)))), .int (iI (zqy + (zqhy + (st stp * upward zk - sy stp)))), .int (iI (zqhx + (st stp * toSide zk - sx stp))), .int (iI (zqhy + (st stp * upward zk - sy stp)))])), (aSt, .inl (gI g, 4, .inl (ar st))), (aSx, .inl (gI g, 4, .inl (ar sx))), (aSy, .inl (gI g, 4, .inl (ar sy)))]) rfl rfl (by decide) (fun _ => rfl) rfl (fun u H locs hv_12 hP hD hS => ?_)
              have hP : va_P (gD g) vwCl [(aS, .inr (6, [.ref aQ, .ref aSt, .ref aSx, .ref aSy, .int (iI sr), .int (iI (mn zl (gaN st sx sy 1 (stp + 1) zk (zqx + (zqhx + (st stp * toSide zk - sx stp))) (zqy + (zqhy + (st stp * upward zk - sy stp))) (zqhx + (st stp * toSide zk - sx stp)) (zqhy + (st stp * upward zk - sy stp)))))])), (aQ, .inr (2, [.int (iI (zqx + (zqhx + (st stp * toSide zk - sx stp)))), .int (iI (zqy + (zqhy + (st stp * upward zk - sy stp)))), .int (iI (zqhx + (st stp * toSide zk - sx stp))), .int (iI (zqhy + (st stp * upward zk - sy stp)))])), (aSt, .inl (gI g, 4, .inl (ar st))), (aSx, .inl (gI g, 4, .inl (ar sx))), (aSy, .inl (gI g, 4, .inl (ar sy)))] H := hP
              have hD : va_D A [(aS, .inr (6, [.ref aQ, .ref aSt, .ref aSx, .ref aSy, .int (iI sr), .int (iI (mn zl (gaN st sx sy 1 (stp + 1) zk (zqx + (zqhx + (st stp * toSide zk - sx stp))) (zqy + (zqhy + (st stp * upward zk - sy stp))) (zqhx + (st stp * toSide zk - sx stp)) (zqhy + (st stp * upward zk - sy stp)))))])), (aQ, .inr (2, [.int (iI (zqx + (zqhx + (st stp * toSide zk - sx stp)))), .int (iI (zqy + (zqhy + (st stp * upward zk - sy stp)))), .int (iI (zqhx + (st stp * toSide zk - sx stp))), .int (iI (zqhy + (st stp * upward zk - sy stp)))])), (aSt, .inl (gI g, 4, .inl (ar st))), (aSx, .inl (gI g, 4, .inl (ar sx))), (aSy, .inl (gI g, 4, .inl (ar sy)))] := hD
              refine lv_aload_n hx hb dX8_tryAllFrom_45 rfl (lv_at hl 1 rfl) ?_
              refine lv_iload_n hx hb dX8_tryAllFrom_46 rfl (lv_at hl 2 rfl) ?_
              refine lv_iload_n hx hb dX8_tryAllFrom_47 rfl (lv_at hl 0 rfl) ?_
              refine x_callv (S := Unit) (wc := [(aS, .inr (6, [.ref aQ, .ref aSt, .ref aSx, .ref aSy, .int (iI sr), .int (iI (mn zl (gaN st sx sy 1 (stp + 1) zk (zqx + (zqhx + (st stp * toSide zk - sx stp))) (zqy + (zqhy + (st stp * upward zk - sy stp))) (zqhx + (st stp * toSide zk - sx stp)) (zqhy + (st stp * upward zk - sy stp)))))])), (aQ, .inr (2, [.int (iI (zqx + (zqhx + (st stp * toSide zk - sx stp)))), .int (iI (zqy + (zqhy + (st stp * upward zk - sy stp)))), .int (iI (zqhx + (st stp * toSide zk - sx stp))), .int (iI (zqhy + (st stp * upward zk - sy stp)))])), (aSt, .inl (gI g, 4, .inl (ar st))), (aSx, .inl (gI g, 4, .inl (ar sx))), (aSy, .inl (gI g, 4, .inl (ar sy)))]) (wr := []) hC hP hD hS hA [0, 1, 2, 3, 4] [] [0, 1, 2, 3, 4] rfl rfl (fun hpre => va_runV (As := [.int (iI stp), .int (iI zk)]) (rest := []) ⟨hx, hb, hml, hown, hts⟩ (c_X4_takeBack l g H.size aS aQ aSt aSx aSy sr (mn zl (gaN st sx sy 1 (stp + 1) zk (zqx + (zqhx + (st stp * toSide zk - sx stp))) (zqy + (zqhy + (st stp * upward zk - sy stp))) (zqhx + (st stp * toSide zk - sx stp)) (zqhy + (st stp * upward zk - sy stp)))) (zqx + (zqhx + (st stp * toSide zk - sx stp))) (zqy + (zqhy + (st stp * upward zk - sy stp))) (zqhx + (st stp * toSide zk - sx stp)) (zqhy + (st stp * upward zk - sy stp)) stp zk st sx sy (by first | (first | assumption | omega | exact bnd_up (by assumption) (by omega) (by omega)) | fail "q8") (by first | (first | assumption | omega | exact bnd_up (by assumption) (by omega) (by omega)) | fail "q8")) (cwV 2 hts gX8_tryAllFrom_X4_takeBack rfl rfl rfl (by decide +kernel) ⟨Nat.le_of_ble_eq_true rfl, Nat.le_of_ble_eq_true rfl⟩) ⟨xB_blind, va_recv hK hP (ci := 6) (q0 := 0) rfl rfl, hpre _⟩ rfl rfl hl.1 rfl (lv_room (Nat.le_of_ble_eq_true rfl)) dX8_tryAllFrom_48 ⟨Nat.le_of_ble_eq_true rfl, Nat.le_of_ble_eq_true rfl⟩) (fun (u : Unit) => [(aS, .inr (6, [.ref aQ, .ref aSt, .ref aSx, .ref aSy, .int (iI sr), .int (iI (mn zl (gaN st sx sy 1 (stp + 1) zk (zqx + (zqhx + (st stp * toSide zk - sx stp))) (zqy + (zqhy + (st stp * upward zk - sy stp))) (zqhx + (st stp * toSide zk - sx stp)) (zqhy + (st stp * upward zk - sy stp)))))])), (aQ, .inr (2, [.int (iI ((zqx + (zqhx + (st stp * toSide zk - sx stp))) - (zqhx + (st stp * toSide zk - sx stp)))), .int (iI ((zqy + (zqhy + (st stp * upward zk - sy stp))) - (zqhy + (st stp * upward zk - sy stp)))), .int (iI ((zqhx + (st stp * toSide zk - sx stp)) - (st stp * toSide zk - sx stp))), .int (iI ((zqhy + (st stp * upward zk - sy stp)) - (st stp * upward zk - sy stp)))])), (aSt, .inl (gI g, 4, .inl (ar st))), (aSx, .inl (gI g, 4, .inl (ar sx))), (aSy, .inl (gI g, 4, .inl (ar sy)))]) rfl rfl (by decide) (fun _ => rfl) rfl (fun u H locs hv_13 hP hD hS => ?_)
              have hP : va_P (gD g) vwCl [(aS, .inr (6, [.ref aQ, .ref aSt, .ref aSx, .ref aSy, .int (iI sr), .int (iI (mn zl (gaN st sx sy 1 (stp + 1) zk (zqx + (zqhx + (st stp * toSide zk - sx stp))) (zqy + (zqhy + (st stp * upward zk - sy stp))) (zqhx + (st stp * toSide zk - sx stp)) (zqhy + (st stp * upward zk - sy stp)))))])), (aQ, .inr (2, [.int (iI ((zqx + (zqhx + (st stp * toSide zk - sx stp))) - (zqhx + (st stp * toSide zk - sx stp)))), .int (iI ((zqy + (zqhy + (st stp * upward zk - sy stp))) - (zqhy + (st stp * upward zk - sy stp)))), .int (iI ((zqhx + (st stp * toSide zk - sx stp)) - (st stp * toSide zk - sx stp))), .int (iI ((zqhy + (st stp * upward zk - sy stp)) - (st stp * upward zk - sy stp)))])), (aSt, .inl (gI g, 4, .inl (ar st))), (aSx, .inl (gI g, 4, .inl (ar sx))), (aSy, .inl (gI g, 4, .inl (ar sy)))] H := hP
              have hD : va_D A [(aS, .inr (6, [.ref aQ, .ref aSt, .ref aSx, .ref aSy, .int (iI sr), .int (iI (mn zl (gaN st sx sy 1 (stp + 1) zk (zqx + (zqhx + (st stp * toSide zk - sx stp))) (zqy + (zqhy + (st stp * upward zk - sy stp))) (zqhx + (st stp * toSide zk - sx stp)) (zqhy + (st stp * upward zk - sy stp)))))])), (aQ, .inr (2, [.int (iI ((zqx + (zqhx + (st stp * toSide zk - sx stp))) - (zqhx + (st stp * toSide zk - sx stp)))), .int (iI ((zqy + (zqhy + (st stp * upward zk - sy stp))) - (zqhy + (st stp * upward zk - sy stp)))), .int (iI ((zqhx + (st stp * toSide zk - sx stp)) - (st stp * toSide zk - sx stp))), .int (iI ((zqhy + (st stp * upward zk - sy stp)) - (st stp * upward zk - sy stp)))])), (aSt, .inl (gI g, 4, .inl (ar st))), (aSx, .inl (gI g, 4, .inl (ar sx))), (aSy, .inl (gI g, 4, .inl (ar sy)))] := hD
              refine x_iinc (k := 0) (lv' := [(3, .int (iI (zk + 1))), (0, .ref aS), (1, .int (iI stp)), (2, .int (iI be))]) hx hb dX8_tryAllFrom_51 hl rfl (by decide) rfl (fun ls hl => ?_)
              refine lv_goto (tgt := 15) hx hb dX8_tryAllFrom_54 (by decide) ?_
              exact ih15 (zk + 1) (mn zl (gaN st sx sy 1 (stp + 1) zk (zqx + (zqhx + (st stp * toSide zk - sx stp))) (zqy + (zqhy + (st stp * upward zk - sy stp))) (zqhx + (st stp * toSide zk - sx stp)) (zqhy + (st stp * upward zk - sy stp)))) ((zqx + (zqhx + (st stp * toSide zk - sx stp))) - (zqhx + (st stp * toSide zk - sx stp))) ((zqy + (zqhy + (st stp * upward zk - sy stp))) - (zqhy + (st stp * upward zk - sy stp))) ((zqhx + (st stp * toSide zk - sx stp)) - (st stp * toSide zk - sx stp)) ((zqhy + (st stp * upward zk - sy stp)) - (st stp * upward zk - sy stp)) (show 0 ≤ (zk + 1) ∧ (zk + 1) ≤ 8 by
                  first
                  | (
                     first | assumption | omega | rfl)
                  | fail "q9") (show ((zqx + (zqhx + (st stp * toSide zk - sx stp))) - (zqhx + (st stp * toSide zk - sx stp))) = qx by
                  first
                  | (
                     first | assumption | omega | rfl)
                  | fail "q9") (show ((zqy + (zqhy + (st stp * upward zk - sy stp))) - (zqhy + (st stp * upward zk - sy stp))) = qy by
                  first
                  | (
                     first | assumption | omega | rfl)
                  | fail "q9") (show ((zqhx + (st stp * toSide zk - sx stp)) - (st stp * toSide zk - sx stp)) = qhx by
                  first
                  | (
                     first | assumption | omega | rfl)
                  | fail "q9") (show ((zqhy + (st stp * upward zk - sy stp)) - (st stp * upward zk - sy stp)) = qhy by
                  first
                  | (
                     first | assumption | omega | rfl)
                  | fail "q9") (show (mn zl (gaN st sx sy 1 (stp + 1) zk (zqx + (zqhx + (st stp * toSide zk - sx stp))) (zqy + (zqhy + (st stp * upward zk - sy stp))) (zqhx + (st stp * toSide zk - sx stp)) (zqhy + (st stp * upward zk - sy stp)))) = mn sl (lstI (fun p => gaN st sx sy 1 (stp + 1) p (qx + (qhx + (st stp * toSide p - sx stp))) (qy + (qhy + (st stp * upward p - sy stp))) (qhx + (st stp * toSide p - sx stp)) (qhy + (st stp * upward p - sy stp))) (fun p => decide (fitP be p)) (zk + 1)) by
                  first
                  | (
                     rw [lstI_step _ _ (by omega)]
                     simp only [decide_eq_true_eq]
                     first | (rw [if_pos (by omega), hzl, mn_assoc, hzqx, hzqy, hzqhx, hzqhy]) | (rw [if_neg (by omega)]; assumption))
                  | fail "q9") (show 0 ≤ (mn zl (gaN st sx sy 1 (stp + 1) zk (zqx + (zqhx + (st stp * toSide zk - sx stp))) (zqy + (zqhy + (st stp * upward zk - sy stp))) (zqhx + (st stp * toSide zk - sx stp)) (zqhy + (st stp * upward zk - sy stp)))) ∧ (mn zl (gaN st sx sy 1 (stp + 1) zk (zqx + (zqhx + (st stp * toSide zk - sx stp))) (zqy + (zqhy + (st stp * upward zk - sy stp))) (zqhx + (st stp * toSide zk - sx stp)) (zqhy + (st stp * upward zk - sy stp)))) ≤ 2147483647 by
                  first
                  | (
                     first | assumption | (have g1 := gaN_nn st sx sy 1 (stp + 1) zk (zqx + (zqhx + (st stp * toSide zk - sx stp))) (zqy + (zqhy + (st stp * upward zk - sy stp))) (zqhx + (st stp * toSide zk - sx stp)) (zqhy + (st stp * upward zk - sy stp)); have g2 := mn_r zl _ (rfl : mn zl (gaN st sx sy 1 (stp + 1) zk (zqx + (zqhx + (st stp * toSide zk - sx stp))) (zqy + (zqhy + (st stp * upward zk - sy stp))) (zqhx + (st stp * toSide zk - sx stp)) (zqhy + (st stp * upward zk - sy stp))) = _); omega))
                  | fail "q9") (by
                  first
                  | (
                     omega)
                  | fail "q9") _ _ hP hD hS ls (lv_sub hl [0, 1, 2, 3] rfl)
      exact lp15 (8 - 0 + 1 : Int).toNat 0 sl qx qy qhx qhy (show 0 ≤ 0 ∧ 0 ≤ 8 by
          first
          | (
             first | assumption | omega | rfl)
          | fail "q9") (show qx = qx by
          first
          | (
             first | assumption | omega | rfl)
          | fail "q9") (show qy = qy by
          first
          | (
             first | assumption | omega | rfl)
          | fail "q9") (show qhx = qhx by
          first
          | (
             first | assumption | omega | rfl)
          | fail "q9") (show qhy = qhy by
          first
          | (
             first | assumption | omega | rfl)
          | fail "q9") (show sl = mn sl (lstI (fun p => gaN st sx sy 1 (stp + 1) p (qx + (qhx + (st stp * toSide p - sx stp))) (qy + (qhy + (st stp * upward p - sy stp))) (qhx + (st stp * toSide p - sx stp)) (qhy + (st stp * upward p - sy stp))) (fun p => decide (fitP be p)) 0) by
          first
          | (
             exact (mn_max hsl.2).symm)
          | fail "q9") (show 0 ≤ sl ∧ sl ≤ 2147483647 by
          first
          | (
             first | assumption | omega | rfl)
          | fail "q9") (by omega) _ _ hP hD hS ls (lv_sub hl [0, 1, 2, 3] rfl)
    · skip
      exfalso; omega
  rw [hH, hlo, hQ9] at goal_
  exact goal_

set_option maxHeartbeats 4000000 in
set_option maxRecDepth 100000 in
theorem c_X8_tryAllFrom3 (l : Launch) (g : xg) (sz : Nat) (aS aQ aSt aSx aSy : Nat) (sr sl qx qy qhx qhy stp be : Int) (st sx sy : Int → Int) (hsr : 0 ≤ sr ∧ sr ≤ 4) (hsd : sr - stp = 3) (hstp : 0 ≤ stp) (hbe : -1 ≤ be ∧ be ≤ 7) (hqx : -716500 ≤ qx ∧ qx ≤ 716500) (hqy : -716500 ≤ qy ∧ qy ≤ 716500) (hqhx : -3014 ≤ qhx ∧ qhx ≤ 3014) (hqhy : -3014 ≤ qhy ∧ qhy ≤ 3014) (hsl : 0 ≤ sl ∧ sl ≤ 2147483647) (hb_st : bnd st 0 9) (hb_sx : bnd sx (-5) 5) (hb_sy : bnd sy (-5) 5) : Met l yX8_tryAllFrom wsX8_tryAllFrom { frames := 6, cells := 0, slots := 0, locals := 131 } (va_Pc [.ref aS, .int (iI stp), .int (iI be)] (xB g [(aS, .inr (6, [.ref aQ, .ref aSt, .ref aSx, .ref aSy, .int (iI sr), .int (iI sl)])), (aQ, .inr (2, [.int (iI qx), .int (iI qy), .int (iI qhx), .int (iI qhy)])), (aSt, .inl (gI g, 4, .inl (ar st))), (aSx, .inl (gI g, 4, .inl (ar sx))), (aSy, .inl (gI g, 4, .inl (ar sy)))] sz)) (va_Qv (fun (u : Unit) => True) (fun u t => xE g (va_A [(aS, .inr (6, [.ref aQ, .ref aSt, .ref aSx, .ref aSy, .int (iI sr), .int (iI sl)])), (aQ, .inr (2, [.int (iI qx), .int (iI qy), .int (iI qhx), .int (iI qhy)])), (aSt, .inl (gI g, 4, .inl (ar st))), (aSx, .inl (gI g, 4, .inl (ar sx))), (aSy, .inl (gI g, 4, .inl (ar sy)))] sz) ((fun (u : Unit) => [(aS, .inr (6, [.ref aQ, .ref aSt, .ref aSx, .ref aSy, .int (iI sr), .int (iI (mn sl (gaN st sx sy 3 stp be qx qy qhx qhy)))])), (aQ, .inr (2, [.int (iI qx), .int (iI qy), .int (iI qhx), .int (iI qhy)])), (aSt, .inl (gI g, 4, .inl (ar st))), (aSx, .inl (gI g, 4, .inl (ar sx))), (aSy, .inl (gI g, 4, .inl (ar sy)))]) u) t) (va_A [(aS, .inr (6, [.ref aQ, .ref aSt, .ref aSx, .ref aSy, .int (iI sr), .int (iI sl)])), (aQ, .inr (2, [.int (iI qx), .int (iI qy), .int (iI qhx), .int (iI qhy)])), (aSt, .inl (gI g, 4, .inl (ar st))), (aSx, .inl (gI g, 4, .inl (ar sx))), (aSy, .inl (gI g, 4, .inl (ar sy)))] sz)) 0 0 (va_A [(aS, .inr (6, [.ref aQ, .ref aSt, .ref aSx, .ref aSy, .int (iI sr), .int (iI sl)])), (aQ, .inr (2, [.int (iI qx), .int (iI qy), .int (iI qhx), .int (iI qhy)])), (aSt, .inl (gI g, 4, .inl (ar st))), (aSx, .inl (gI g, 4, .inl (ar sx))), (aSy, .inl (gI g, 4, .inl (ar sy)))] sz) := by
  refine x_enter (y := yX8_tryAllFrom) (ws := wsX8_tryAllFrom) (g := g) (sz := sz) (av := [.ref aS, .int (iI stp), .int (iI be)]) (WS := [(aS, .inr (6, [.ref aQ, .ref aSt, .ref aSx, .ref aSy, .int (iI sr), .int (iI sl)])), (aQ, .inr (2, [.int (iI qx), .int (iI qy), .int (iI qhx), .int (iI qhy)])), (aSt, .inl (gI g, 4, .inl (ar st))), (aSx, .inl (gI g, 4, .inl (ar sx))), (aSy, .inl (gI g, 4, .inl (ar sy)))]) (cc := cX8_tryAllFrom) (maxL := 4) (ret := none) (Qc := (fun A => (va_Qv (fun (u : Unit) => True) (fun u t => xE g A ((fun (u : Unit) => [(aS, .inr (6, [.ref aQ, .ref aSt, .ref aSx, .ref aSy, .int (iI sr), .int (iI (mn sl (gaN st sx sy 3 stp be qx qy qhx qhy)))])), (aQ, .inr (2, [.int (iI qx), .int (iI qy), .int (iI qhx), .int (iI qhy)])), (aSt, .inl (gI g, 4, .inl (ar st))), (aSx, .inl (gI g, 4, .inl (ar sx))), (aSy, .inl (gI g, 4, .inl (ar sy)))]) u) t) A))) (by decide) rfl (Nat.le_of_ble_eq_true rfl) ?_
  intro p e s m args below meth c A ls hx hb hr hml hown hts hlocks hname hC hP hD hS hA hl
  have hK := hC.1
  have hown : s.vm.findClass RX8 = some m.cls := hown
  have hin4 : ∀ w ∈ u_ws RX4 TX4 6, w ∈ wsX8_tryAllFrom := by decide +kernel
  have hl : lv_has ls 4 [(0, .ref aS), (1, .int (iI stp)), (2, .int (iI be))] := hl
  obtain ⟨H, hH⟩ : ∃ z, z = s.heap := ⟨_, rfl⟩
  obtain ⟨locs, hlo⟩ : ∃ z : List Loc, z = [] := ⟨_, rfl⟩
  obtain ⟨Q9, hQ9⟩ : ∃ z, z = MQ below (va_Qv (fun (u : Unit) => True) (fun u t => xE g A ((fun (u : Unit) => [(aS, .inr (6, [.ref aQ, .ref aSt, .ref aSx, .ref aSy, .int (iI sr), .int (iI (mn sl (gaN st sx sy 3 stp be qx qy qhx qhy)))])), (aQ, .inr (2, [.int (iI qx), .int (iI qy), .int (iI qhx), .int (iI qhy)])), (aSt, .inl (gI g, 4, .inl (ar st))), (aSx, .inl (gI g, 4, .inl (ar sx))), (aSy, .inl (gI g, 4, .inl (ar sy)))]) u) t) A) args s 0 0 A := ⟨_, rfl⟩
  have hP : va_P (gD g) vwCl [(aS, .inr (6, [.ref aQ, .ref aSt, .ref aSx, .ref aSy, .int (iI sr), .int (iI sl)])), (aQ, .inr (2, [.int (iI qx), .int (iI qy), .int (iI qhx), .int (iI qhy)])), (aSt, .inl (gI g, 4, .inl (ar st))), (aSx, .inl (gI g, 4, .inl (ar sx))), (aSy, .inl (gI g, 4, .inl (ar sy)))] H := by rw [hH]; exact hP
  have hS : va_S A s.heap H locs := by rw [hH, hlo]; exact hS
  have goal_ : W p l e { frames := 6, cells := 0, slots := 0, locals := 131 } s m args below meth c H locs 0 0 Q9 (F0 m 0 ls []) := by
    clear hH hlo
    refine lv_iload_n hx hb dX8_tryAllFrom_0 rfl (lv_at hl 1 rfl) ?_
    refine lv_aload_n hx hb dX8_tryAllFrom_1 rfl (lv_at hl 0 rfl) ?_
    refine va_get (D := gD g) (ci := 6) (v := .int (iI sr)) (C := RX4) (T := TX4) (N := 6) hx hb hts hin4 hown hK hP 0 rfl rfl 4 (by decide) (hts (.fieldLink RX8 372 "TunnelRing$Search" "rings" "I") (List.mem_of_getElem? (i := 1) rfl)) (fun _ h9 => h9) rfl dX8_tryAllFrom_2 ?_
    refine x_cmp_lt (tgt := 13) hx hb (by omega) (by omega) dX8_tryAllFrom_5 (by decide) (fun c_1 => ?_) (fun c_1 => ?_)
    · skip
      refine x_iconst hx hb dX8_tryAllFrom_13 ?_
      refine lv_istore_n (lv' := [(3, .int (iI 0)), (0, .ref aS), (1, .int (iI stp)), (2, .int (iI be))]) hx hb dX8_tryAllFrom_14 rfl hl (by decide) rfl (fun ls hl => ?_)
      have lp15 : ∀ (n : Nat) (zk : Int) (zl : Int) (zqx : Int) (zqy : Int) (zqhx : Int) (zqhy : Int), (0 ≤ zk ∧ zk ≤ 8) → (zqx = qx) → (zqy = qy) → (zqhx = qhx) → (zqhy = qhy) → (zl = mn sl (lstI (fun p => gaN st sx sy 2 (stp + 1) p (qx + (qhx + (st stp * toSide p - sx stp))) (qy + (qhy + (st stp * upward p - sy stp))) (qhx + (st stp * toSide p - sx stp)) (qhy + (st stp * upward p - sy stp))) (fun p => decide (fitP be p)) zk)) → (0 ≤ zl ∧ zl ≤ 2147483647) → 8 - zk + 1 ≤ (n : Int) → ∀ (H : Heap) (locs : List Loc), va_P (gD g) vwCl [(aS, .inr (6, [.ref aQ, .ref aSt, .ref aSx, .ref aSy, .int (iI sr), .int (iI zl)])), (aQ, .inr (2, [.int (iI zqx), .int (iI zqy), .int (iI zqhx), .int (iI zqhy)])), (aSt, .inl (gI g, 4, .inl (ar st))), (aSx, .inl (gI g, 4, .inl (ar sx))), (aSy, .inl (gI g, 4, .inl (ar sy)))] H → va_D A [(aS, .inr (6, [.ref aQ, .ref aSt, .ref aSx, .ref aSy, .int (iI sr), .int (iI zl)])), (aQ, .inr (2, [.int (iI zqx), .int (iI zqy), .int (iI zqhx), .int (iI zqhy)])), (aSt, .inl (gI g, 4, .inl (ar st))), (aSx, .inl (gI g, 4, .inl (ar sx))), (aSy, .inl (gI g, 4, .inl (ar sy)))] → va_S A s.heap H locs → ∀ (ls : Array Slot), lv_has ls 4 [(3, .int (iI zk)), (0, .ref aS), (1, .int (iI stp)), (2, .int (iI be))] → W p l e { frames := 6, cells := 0, slots := 0, locals := 131 } s m args below meth c H locs 0 0 Q9 (F0 m 15 ls []) := by
        intro n
        induction n with
        | zero => intro zk zl zqx zqy zqhx zqhy hzk hzqx hzqy hzqhx hzqhy hzl hzr hm; exfalso; omega
        | succ n ih15 =>
          intro zk zl zqx zqy zqhx zqhy hzk hzqx hzqy hzqhx hzqhy hzl hzr hm H locs hP hD hS ls hl
          refine lv_iload_n hx hb dX8_tryAllFrom_15 rfl (lv_at hl 0 rfl) ?_
          refine va_gets hx hb hC.2.1.1 hS hown (hts (.fieldLink RX8 260 "TunnelRing" "TO_SIDE" "[I") (List.mem_of_getElem? (i := 2) rfl)) (fun _ h9 => h9) dX8_tryAllFrom_16 ?_
          refine va_tlen hx hb hC.2.1.2 hS (v := iI 8) (by decide) dX8_tryAllFrom_19 ?_
          refine x_cmp_ge (tgt := 57) hx hb (by omega) (by omega) dX8_tryAllFrom_20 (by decide) (fun c_2 => ?_) (fun c_2 => ?_)
          · skip
            have q_3 : (mn sl (gaN st sx sy 3 stp be qx qy qhx qhy)) = zl := by
              first
              | (
                 first | (show mn sl (lstI (fun p => gaN st sx sy 2 (stp + 1) p (qx + (qhx + (st stp * toSide p - sx stp))) (qy + (qhy + (st stp * upward p - sy stp))) (qhx + (st stp * toSide p - sx stp)) (qhy + (st stp * upward p - sy stp))) (fun p => decide (fitP be p)) 8) = zl; rw [show (8 : Int) = zk by omega]; exact hzl.symm) | (have hlb := lbN (st := st) (sx := sx) (sy := sy) hb_st 3 stp be qx qy qhx qhy; have s1 := alN_sum (F := sx) (sr := sr) 3 stp hstp (by omega); have s2 := alN_sum (F := sy) (sr := sr) 3 stp hstp (by omega); have s3 := alN_sum (F := st) (sr := sr) 3 stp hstp (by omega); rw [s1, s2, s3, show sr - stp = ((3 : Nat) : Int) by omega] at hal9; rw [← hal9] at hlb; exact mn_left (by unfold mn at hlb; split at hlb <;> omega)))
              | fail "q9"
            have q_4 : qx = zqx := by
              first
              | (
                 omega)
              | fail "q9"
            have q_5 : qy = zqy := by
              first
              | (
                 omega)
              | fail "q9"
            have q_6 : qhx = zqhx := by
              first
              | (
                 omega)
              | fail "q9"
            have q_7 : qhy = zqhy := by
              first
              | (
                 omega)
              | fail "q9"
            have hw_8 := (congr (congr (congr (congr (congrArg (fun (z0 : Int) (z1 : Int) (z2 : Int) (z3 : Int) (z4 : Int) => ([(aS, .inr (6, [.ref aQ, .ref aSt, .ref aSx, .ref aSy, .int (iI sr), .int (iI z0)])), (aQ, .inr (2, [.int (iI z1), .int (iI z2), .int (iI z3), .int (iI z4)])), (aSt, .inl (gI g, 4, .inl (ar st))), (aSx, .inl (gI g, 4, .inl (ar sx))), (aSy, .inl (gI g, 4, .inl (ar sy)))] : va_W)) q_3.symm) q_4.symm) q_5.symm) q_6.symm) q_7.symm)
            rw [hQ9]
            exact x_vret hx hb hr hlocks hP hD hS (S := Unit) (Φ := _) (W1 := _) dX8_tryAllFrom_57 () trivial hw_8 (Nat.le_of_ble_eq_true rfl) (Nat.le_of_ble_eq_true rfl)
          · skip
            refine lv_iload_n hx hb dX8_tryAllFrom_23 rfl (lv_at hl 3 rfl) ?_
            refine lv_iload_n hx hb dX8_tryAllFrom_24 rfl (lv_at hl 0 rfl) ?_
            refine x_calli (S := Unit) (wc := []) (wr := [(aS, .inr (6, [.ref aQ, .ref aSt, .ref aSx, .ref aSy, .int (iI sr), .int (iI zl)])), (aQ, .inr (2, [.int (iI zqx), .int (iI zqy), .int (iI zqhx), .int (iI zqhy)])), (aSt, .inl (gI g, 4, .inl (ar st))), (aSx, .inl (gI g, 4, .inl (ar sx))), (aSy, .inl (gI g, 4, .inl (ar sy)))]) hC hP hD hS hA [] [0, 1, 2, 3, 4] [0, 1, 2, 3, 4] rfl rfl (fun hpre => va_runS (As := [.int (iI be), .int (iI zk)]) (rest := []) ⟨hx, hb, hml, hown, hts⟩ (c_X8_fits l g H.size be zk (by first | (first | assumption | omega | exact bnd_up (by assumption) (by omega) (by omega)) | fail "q8") (by first | (first | assumption | omega | exact bnd_up (by assumption) (by omega) (by omega)) | fail "q8")) (va_cwS 2 hts gX8_tryAllFrom_X8_fits rfl rfl rfl (by decide +kernel) ⟨Nat.le_of_ble_eq_true rfl, Nat.le_of_ble_eq_true rfl⟩) ⟨xB_blind, hpre _⟩ rfl rfl hl.1 rfl (lv_room (Nat.le_of_ble_eq_true rfl)) dX8_tryAllFrom_25 ⟨Nat.le_of_ble_eq_true rfl, Nat.le_of_ble_eq_true rfl⟩) (fun (u : Unit) => [(aS, .inr (6, [.ref aQ, .ref aSt, .ref aSx, .ref aSy, .int (iI sr), .int (iI zl)])), (aQ, .inr (2, [.int (iI zqx), .int (iI zqy), .int (iI zqhx), .int (iI zqhy)])), (aSt, .inl (gI g, 4, .inl (ar st))), (aSx, .inl (gI g, 4, .inl (ar sx))), (aSy, .inl (gI g, 4, .inl (ar sy)))]) rfl rfl (by decide) (fun _ => rfl) rfl (fun u v_9 H locs hv_9 pv_9 hP hD hS => ?_)
            have hP : va_P (gD g) vwCl [(aS, .inr (6, [.ref aQ, .ref aSt, .ref aSx, .ref aSy, .int (iI sr), .int (iI zl)])), (aQ, .inr (2, [.int (iI zqx), .int (iI zqy), .int (iI zqhx), .int (iI zqhy)])), (aSt, .inl (gI g, 4, .inl (ar st))), (aSx, .inl (gI g, 4, .inl (ar sx))), (aSy, .inl (gI g, 4, .inl (ar sy)))] H := hP
            have hD : va_D A [(aS, .inr (6, [.ref aQ, .ref aSt, .ref aSx, .ref aSy, .int (iI sr), .int (iI zl)])), (aQ, .inr (2, [.int (iI zqx), .int (iI zqy), .int (iI zqhx), .int (iI zqhy)])), (aSt, .inl (gI g, 4, .inl (ar st))), (aSx, .inl (gI g, 4, .inl (ar sx))), (aSy, .inl (gI g, 4, .inl (ar sy)))] := hD
            have hv_9 : v_9 = bI (fitP be zk) := hv_9
            refine x_top hv_9 ?_
            refine x_ifb_eq (tgt := 51) (P := fitP be zk) hx hb dX8_tryAllFrom_28 (by decide) (fun c_10 => ?_) (fun c_10 => ?_)
            · skip
              refine x_iinc (k := 0) (lv' := [(3, .int (iI (zk + 1))), (0, .ref aS), (1, .int (iI stp)), (2, .int (iI be))]) hx hb dX8_tryAllFrom_51 hl rfl (by decide) rfl (fun ls hl => ?_)
              refine lv_goto (tgt := 15) hx hb dX8_tryAllFrom_54 (by decide) ?_
              exact ih15 (zk + 1) zl zqx zqy zqhx zqhy (show 0 ≤ (zk + 1) ∧ (zk + 1) ≤ 8 by
                  first
                  | (
                     first | assumption | omega | rfl)
                  | fail "q9") (show zqx = qx by
                  first
                  | (
                     first | assumption | omega | rfl)
                  | fail "q9") (show zqy = qy by
                  first
                  | (
                     first | assumption | omega | rfl)
                  | fail "q9") (show zqhx = qhx by
                  first
                  | (
                     first | assumption | omega | rfl)
                  | fail "q9") (show zqhy = qhy by
                  first
                  | (
                     first | assumption | omega | rfl)
                  | fail "q9") (show zl = mn sl (lstI (fun p => gaN st sx sy 2 (stp + 1) p (qx + (qhx + (st stp * toSide p - sx stp))) (qy + (qhy + (st stp * upward p - sy stp))) (qhx + (st stp * toSide p - sx stp)) (qhy + (st stp * upward p - sy stp))) (fun p => decide (fitP be p)) (zk + 1)) by
                  first
                  | (
                     rw [lstI_step _ _ (by omega)]
                     simp only [decide_eq_true_eq]
                     first | (rw [if_pos (by omega), hzl, mn_assoc, hzqx, hzqy, hzqhx, hzqhy]) | (rw [if_neg (by omega)]; assumption))
                  | fail "q9") (show 0 ≤ zl ∧ zl ≤ 2147483647 by
                  first
                  | (
                     first | assumption | (have g1 := gaN_nn st sx sy 2 (stp + 1) zk (zqx + (zqhx + (st stp * toSide zk - sx stp))) (zqy + (zqhy + (st stp * upward zk - sy stp))) (zqhx + (st stp * toSide zk - sx stp)) (zqhy + (st stp * upward zk - sy stp)); have g2 := mn_r zl _ (rfl : mn zl (gaN st sx sy 2 (stp + 1) zk (zqx + (zqhx + (st stp * toSide zk - sx stp))) (zqy + (zqhy + (st stp * upward zk - sy stp))) (zqhx + (st stp * toSide zk - sx stp)) (zqhy + (st stp * upward zk - sy stp))) = _); omega))
                  | fail "q9") (by
                  first
                  | (
                     omega)
                  | fail "q9") _ _ hP hD hS ls (lv_sub hl [0, 1, 2, 3] rfl)
            · skip
              refine lv_aload_n hx hb dX8_tryAllFrom_31 rfl (lv_at hl 1 rfl) ?_
              refine lv_iload_n hx hb dX8_tryAllFrom_32 rfl (lv_at hl 2 rfl) ?_
              refine lv_iload_n hx hb dX8_tryAllFrom_33 rfl (lv_at hl 0 rfl) ?_
              refine x_callv (S := Unit) (wc := [(aS, .inr (6, [.ref aQ, .ref aSt, .ref aSx, .ref aSy, .int (iI sr), .int (iI zl)])), (aQ, .inr (2, [.int (iI zqx), .int (iI zqy), .int (iI zqhx), .int (iI zqhy)])), (aSt, .inl (gI g, 4, .inl (ar st))), (aSx, .inl (gI g, 4, .inl (ar sx))), (aSy, .inl (gI g, 4, .inl (ar sy)))]) (wr := []) hC hP hD hS hA [0, 1, 2, 3, 4] [] [0, 1, 2, 3, 4] rfl rfl (fun hpre => va_runV (As := [.int (iI stp), .int (iI zk)]) (rest := []) ⟨hx, hb, hml, hown, hts⟩ (c_X4_tryOut l g H.size aS aQ aSt aSx aSy sr zl zqx zqy zqhx zqhy stp zk st sx sy (by first | (first | assumption | omega | exact bnd_up (by assumption) (by omega) (by omega)) | fail "q8") (by first | (first | assumption | omega | exact bnd_up (by assumption) (by omega) (by omega)) | fail "q8")) (cwV 2 hts gX8_tryAllFrom_X4_tryOut rfl rfl rfl (by decide +kernel) ⟨Nat.le_of_ble_eq_true rfl, Nat.le_of_ble_eq_true rfl⟩) ⟨xB_blind, va_recv hK hP (ci := 6) (q0 := 0) rfl rfl, hpre _⟩ rfl rfl hl.1 rfl (lv_room (Nat.le_of_ble_eq_true rfl)) dX8_tryAllFrom_34 ⟨Nat.le_of_ble_eq_true rfl, Nat.le_of_ble_eq_true rfl⟩) (fun (u : Unit) => [(aS, .inr (6, [.ref aQ, .ref aSt, .ref aSx, .ref aSy, .int (iI sr), .int (iI zl)])), (aQ, .inr (2, [.int (iI (zqx + (zqhx + (st stp * toSide zk - sx stp)))), .int (iI (zqy + (zqhy + (st stp * upward zk - sy stp)))), .int (iI (zqhx + (st stp * toSide zk - sx stp))), .int (iI (zqhy + (st stp * upward zk - sy stp)))])), (aSt, .inl (gI g, 4, .inl (ar st))), (aSx, .inl (gI g, 4, .inl (ar sx))), (aSy, .inl (gI g, 4, .inl (ar sy)))]) rfl rfl (by decide) (fun _ => rfl) rfl (fun u H locs hv_11 hP hD hS => ?_)
              have hP : va_P (gD g) vwCl [(aS, .inr (6, [.ref aQ, .ref aSt, .ref aSx, .ref aSy, .int (iI sr), .int (iI zl)])), (aQ, .inr (2, [.int (iI (zqx + (zqhx + (st stp * toSide zk - sx stp)))), .int (iI (zqy + (zqhy + (st stp * upward zk - sy stp)))), .int (iI (zqhx + (st stp * toSide zk - sx stp))), .int (iI (zqhy + (st stp * upward zk - sy stp)))])), (aSt, .inl (gI g, 4, .inl (ar st))), (aSx, .inl (gI g, 4, .inl (ar sx))), (aSy, .inl (gI g, 4, .inl (ar sy)))] H := hP
              have hD : va_D A [(aS, .inr (6, [.ref aQ, .ref aSt, .ref aSx, .ref aSy, .int (iI sr), .int (iI zl)])), (aQ, .inr (2, [.int (iI (zqx + (zqhx + (st stp * toSide zk - sx stp)))), .int (iI (zqy + (zqhy + (st stp * upward zk - sy stp)))), .int (iI (zqhx + (st stp * toSide zk - sx stp))), .int (iI (zqhy + (st stp * upward zk - sy stp)))])), (aSt, .inl (gI g, 4, .inl (ar st))), (aSx, .inl (gI g, 4, .inl (ar sx))), (aSy, .inl (gI g, 4, .inl (ar sy)))] := hD
              have m1 := mulb (A := 9) (B := 1) (a := st stp) (b := toSide zk) (by have := hb_st stp; omega) (toSide_r zk)
              have m2 := mulb (A := 9) (B := 1) (a := st stp) (b := upward zk) (by have := hb_st stp; omega) (upward_r zk)
              have m3 := hb_sx stp
              have m4 := hb_sy stp
              refine lv_aload_n hx hb dX8_tryAllFrom_37 rfl (lv_at hl 1 rfl) ?_
              refine lv_iload_n hx hb dX8_tryAllFrom_38 rfl (lv_at hl 2 rfl) ?_
              refine x_iconst hx hb dX8_tryAllFrom_39 ?_
              refine x_iadd hx hb dX8_tryAllFrom_40 ?_
              refine lv_iload_n hx hb dX8_tryAllFrom_41 rfl (lv_at hl 0 rfl) ?_
              refine x_callv (S := Unit) (wc := [(aS, .inr (6, [.ref aQ, .ref aSt, .ref aSx, .ref aSy, .int (iI sr), .int (iI zl)])), (aQ, .inr (2, [.int (iI (zqx + (zqhx + (st stp * toSide zk - sx stp)))), .int (iI (zqy + (zqhy + (st stp * upward zk - sy stp)))), .int (iI (zqhx + (st stp * toSide zk - sx stp))), .int (iI (zqhy + (st stp * upward zk - sy stp)))])), (aSt, .inl (gI g, 4, .inl (ar st))), (aSx, .inl (gI g, 4, .inl (ar sx))), (aSy, .inl (gI g, 4, .inl (ar sy)))]) (wr := []) hC hP hD hS hA [0, 1, 2, 3, 4] [] [0, 1, 2, 3, 4] rfl rfl (fun hpre => va_runS (As := [.ref aS, .int (iI (stp + 1)), .int (iI zk)]) (rest := []) ⟨hx, hb, hml, hown, hts⟩ (c_X8_tryAllFrom2 l g H.size aS aQ aSt aSx aSy sr zl (zqx + (zqhx + (st stp * toSide zk - sx stp))) (zqy + (zqhy + (st stp * upward zk - sy stp))) (zqhx + (st stp * toSide zk - sx stp)) (zqhy + (st stp * upward zk - sy stp)) (stp + 1) zk st sx sy (by first | (first | assumption | omega | exact bnd_up (by assumption) (by omega) (by omega)) | fail "q8") (by first | (first | assumption | omega | exact bnd_up (by assumption) (by omega) (by omega)) | fail "q8") (by first | (first | assumption | omega | exact bnd_up (by assumption) (by omega) (by omega)) | fail "q8") (by first | (first | assumption | omega | exact bnd_up (by assumption) (by omega) (by omega)) | fail "q8") (by first | (first | assumption | omega | exact bnd_up (by assumption) (by omega) (by omega)) | fail "q8") (by first | (first | assumption | omega | exact bnd_up (by assumption) (by omega) (by omega)) | fail "q8") (by first | (first | assumption | omega | exact bnd_up (by assumption) (by omega) (by omega)) | fail "q8") (by first | (first | assumption | omega | exact bnd_up (by assumption) (by omega) (by omega)) | fail "q8") (by first | (first | assumption | omega | exact bnd_up (by assumption) (by omega) (by omega)) | fail "q8") (by first | (first | assumption | omega | exact bnd_up (by assumption) (by omega) (by omega)) | fail "q8") (by first | (first | assumption | omega | exact bnd_up (by assumption) (by omega) (by omega)) | fail "q8") (by first | (first | assumption | omega | exact bnd_up (by assumption) (by omega) (by omega)) | fail "q8")) (va_cwS 3 hts gX8_tryAllFrom_X8_tryAllFrom rfl rfl rfl (by decide +kernel) ⟨Nat.le_of_ble_eq_true rfl, Nat.le_of_ble_eq_true rfl⟩) ⟨xB_blind, hpre _⟩ rfl rfl hl.1 rfl (lv_room (Nat.le_of_ble_eq_true rfl)) dX8_tryAllFrom_42 ⟨Nat.le_of_ble_eq_true rfl, Nat.le_of_ble_eq_true rfl⟩) (fun (u : Unit) => [(aS, .inr (6, [.ref aQ, .ref aSt, .ref aSx, .ref aSy, .int (iI sr), .int (iI (mn zl (gaN st sx sy 2 (stp + 1) zk (zqx + (zqhx + (st stp * toSide zk - sx stp))) (zqy + (zqhy + (st stp * upward zk - sy stp))) (zqhx + (st stp * toSide zk - sx stp)) (zqhy + (st stp * upward zk - sy stp)))))])), (aQ, .inr (2, [.int (iI (zqx + (zqhx + (st stp * toSide zk - sx stp)))), .int (iI (zqy + (zqhy + (st stp * upward zk - sy stp)))), .int (iI (zqhx + (st stp * toSide zk - sx stp))), .int (iI (zqhy + (st stp * upward zk - sy stp)))])), (aSt, .inl (gI g, 4, .inl (ar st))), (aSx, .inl (gI g, 4, .inl (ar sx))), (aSy, .inl (gI g, 4, .inl (ar sy)))]) rfl rfl (by decide) (fun _ => rfl) rfl (fun u H locs hv_12 hP hD hS => ?_)
              have hP : va_P (gD g) vwCl [(aS, .inr (6, [.ref aQ, .ref aSt, .ref aSx, .ref aSy, .int (iI sr), .int (iI (mn zl (gaN st sx sy 2 (stp + 1) zk (zqx + (zqhx + (st stp * toSide zk - sx stp))) (zqy + (zqhy + (st stp * upward zk - sy stp))) (zqhx + (st stp * toSide zk - sx stp)) (zqhy + (st stp * upward zk - sy stp)))))])), (aQ, .inr (2, [.int (iI (zqx + (zqhx + (st stp * toSide zk - sx stp)))), .int (iI (zqy + (zqhy + (st stp * upward zk - sy stp)))), .int (iI (zqhx + (st stp * toSide zk - sx stp))), .int (iI (zqhy + (st stp * upward zk - sy stp)))])), (aSt, .inl (gI g, 4, .inl (ar st))), (aSx, .inl (gI g, 4, .inl (ar sx))), (aSy, .inl (gI g, 4, .inl (ar sy)))] H := hP
              have hD : va_D A [(aS, .inr (6, [.ref aQ, .ref aSt, .ref aSx, .ref aSy, .int (iI sr), .int (iI (mn zl (gaN st sx sy 2 (stp + 1) zk (zqx + (zqhx + (st stp * toSide zk - sx stp))) (zqy + (zqhy + (st stp * upward zk - sy stp))) (zqhx + (st stp * toSide zk - sx stp)) (zqhy + (st stp * upward zk - sy stp)))))])), (aQ, .inr (2, [.int (iI (zqx + (zqhx + (st stp * toSide zk - sx stp)))), .int (iI (zqy + (zqhy + (st stp * upward zk - sy stp)))), .int (iI (zqhx + (st stp * toSide zk - sx stp))), .int (iI (zqhy + (st stp * upward zk - sy stp)))])), (aSt, .inl (gI g, 4, .inl (ar st))), (aSx, .inl (gI g, 4, .inl (ar sx))), (aSy, .inl (gI g, 4, .inl (ar sy)))] := hD
              refine lv_aload_n hx hb dX8_tryAllFrom_45 rfl (lv_at hl 1 rfl) ?_
              refine lv_iload_n hx hb dX8_tryAllFrom_46 rfl (lv_at hl 2 rfl) ?_
              refine lv_iload_n hx hb dX8_tryAllFrom_47 rfl (lv_at hl 0 rfl) ?_
              refine x_callv (S := Unit) (wc := [(aS, .inr (6, [.ref aQ, .ref aSt, .ref aSx, .ref aSy, .int (iI sr), .int (iI (mn zl (gaN st sx sy 2 (stp + 1) zk (zqx + (zqhx + (st stp * toSide zk - sx stp))) (zqy + (zqhy + (st stp * upward zk - sy stp))) (zqhx + (st stp * toSide zk - sx stp)) (zqhy + (st stp * upward zk - sy stp)))))])), (aQ, .inr (2, [.int (iI (zqx + (zqhx + (st stp * toSide zk - sx stp)))), .int (iI (zqy + (zqhy + (st stp * upward zk - sy stp)))), .int (iI (zqhx + (st stp * toSide zk - sx stp))), .int (iI (zqhy + (st stp * upward zk - sy stp)))])), (aSt, .inl (gI g, 4, .inl (ar st))), (aSx, .inl (gI g, 4, .inl (ar sx))), (aSy, .inl (gI g, 4, .inl (ar sy)))]) (wr := []) hC hP hD hS hA [0, 1, 2, 3, 4] [] [0, 1, 2, 3, 4] rfl rfl (fun hpre => va_runV (As := [.int (iI stp), .int (iI zk)]) (rest := []) ⟨hx, hb, hml, hown, hts⟩ (c_X4_takeBack l g H.size aS aQ aSt aSx aSy sr (mn zl (gaN st sx sy 2 (stp + 1) zk (zqx + (zqhx + (st stp * toSide zk - sx stp))) (zqy + (zqhy + (st stp * upward zk - sy stp))) (zqhx + (st stp * toSide zk - sx stp)) (zqhy + (st stp * upward zk - sy stp)))) (zqx + (zqhx + (st stp * toSide zk - sx stp))) (zqy + (zqhy + (st stp * upward zk - sy stp))) (zqhx + (st stp * toSide zk - sx stp)) (zqhy + (st stp * upward zk - sy stp)) stp zk st sx sy (by first | (first | assumption | omega | exact bnd_up (by assumption) (by omega) (by omega)) | fail "q8") (by first | (first | assumption | omega | exact bnd_up (by assumption) (by omega) (by omega)) | fail "q8")) (cwV 2 hts gX8_tryAllFrom_X4_takeBack rfl rfl rfl (by decide +kernel) ⟨Nat.le_of_ble_eq_true rfl, Nat.le_of_ble_eq_true rfl⟩) ⟨xB_blind, va_recv hK hP (ci := 6) (q0 := 0) rfl rfl, hpre _⟩ rfl rfl hl.1 rfl (lv_room (Nat.le_of_ble_eq_true rfl)) dX8_tryAllFrom_48 ⟨Nat.le_of_ble_eq_true rfl, Nat.le_of_ble_eq_true rfl⟩) (fun (u : Unit) => [(aS, .inr (6, [.ref aQ, .ref aSt, .ref aSx, .ref aSy, .int (iI sr), .int (iI (mn zl (gaN st sx sy 2 (stp + 1) zk (zqx + (zqhx + (st stp * toSide zk - sx stp))) (zqy + (zqhy + (st stp * upward zk - sy stp))) (zqhx + (st stp * toSide zk - sx stp)) (zqhy + (st stp * upward zk - sy stp)))))])), (aQ, .inr (2, [.int (iI ((zqx + (zqhx + (st stp * toSide zk - sx stp))) - (zqhx + (st stp * toSide zk - sx stp)))), .int (iI ((zqy + (zqhy + (st stp * upward zk - sy stp))) - (zqhy + (st stp * upward zk - sy stp)))), .int (iI ((zqhx + (st stp * toSide zk - sx stp)) - (st stp * toSide zk - sx stp))), .int (iI ((zqhy + (st stp * upward zk - sy stp)) - (st stp * upward zk - sy stp)))])), (aSt, .inl (gI g, 4, .inl (ar st))), (aSx, .inl (gI g, 4, .inl (ar sx))), (aSy, .inl (gI g, 4, .inl (ar sy)))]) rfl rfl (by decide) (fun _ => rfl) rfl (fun u H locs hv_13 hP hD hS => ?_)
              have hP : va_P (gD g) vwCl [(aS, .inr (6, [.ref aQ, .ref aSt, .ref aSx, .ref aSy, .int (iI sr), .int (iI (mn zl (gaN st sx sy 2 (stp + 1) zk (zqx + (zqhx + (st stp * toSide zk - sx stp))) (zqy + (zqhy + (st stp * upward zk - sy stp))) (zqhx + (st stp * toSide zk - sx stp)) (zqhy + (st stp * upward zk - sy stp)))))])), (aQ, .inr (2, [.int (iI ((zqx + (zqhx + (st stp * toSide zk - sx stp))) - (zqhx + (st stp * toSide zk - sx stp)))), .int (iI ((zqy + (zqhy + (st stp * upward zk - sy stp))) - (zqhy + (st stp * upward zk - sy stp)))), .int (iI ((zqhx + (st stp * toSide zk - sx stp)) - (st stp * toSide zk - sx stp))), .int (iI ((zqhy + (st stp * upward zk - sy stp)) - (st stp * upward zk - sy stp)))])), (aSt, .inl (gI g, 4, .inl (ar st))), (aSx, .inl (gI g, 4, .inl (ar sx))), (aSy, .inl (gI g, 4, .inl (ar sy)))] H := hP
              have hD : va_D A [(aS, .inr (6, [.ref aQ, .ref aSt, .ref aSx, .ref aSy, .int (iI sr), .int (iI (mn zl (gaN st sx sy 2 (stp + 1) zk (zqx + (zqhx + (st stp * toSide zk - sx stp))) (zqy + (zqhy + (st stp * upward zk - sy stp))) (zqhx + (st stp * toSide zk - sx stp)) (zqhy + (st stp * upward zk - sy stp)))))])), (aQ, .inr (2, [.int (iI ((zqx + (zqhx + (st stp * toSide zk - sx stp))) - (zqhx + (st stp * toSide zk - sx stp)))), .int (iI ((zqy + (zqhy + (st stp * upward zk - sy stp))) - (zqhy + (st stp * upward zk - sy stp)))), .int (iI ((zqhx + (st stp * toSide zk - sx stp)) - (st stp * toSide zk - sx stp))), .int (iI ((zqhy + (st stp * upward zk - sy stp)) - (st stp * upward zk - sy stp)))])), (aSt, .inl (gI g, 4, .inl (ar st))), (aSx, .inl (gI g, 4, .inl (ar sx))), (aSy, .inl (gI g, 4, .inl (ar sy)))] := hD
              refine x_iinc (k := 0) (lv' := [(3, .int (iI (zk + 1))), (0, .ref aS), (1, .int (iI stp)), (2, .int (iI be))]) hx hb dX8_tryAllFrom_51 hl rfl (by decide) rfl (fun ls hl => ?_)
              refine lv_goto (tgt := 15) hx hb dX8_tryAllFrom_54 (by decide) ?_
              exact ih15 (zk + 1) (mn zl (gaN st sx sy 2 (stp + 1) zk (zqx + (zqhx + (st stp * toSide zk - sx stp))) (zqy + (zqhy + (st stp * upward zk - sy stp))) (zqhx + (st stp * toSide zk - sx stp)) (zqhy + (st stp * upward zk - sy stp)))) ((zqx + (zqhx + (st stp * toSide zk - sx stp))) - (zqhx + (st stp * toSide zk - sx stp))) ((zqy + (zqhy + (st stp * upward zk - sy stp))) - (zqhy + (st stp * upward zk - sy stp))) ((zqhx + (st stp * toSide zk - sx stp)) - (st stp * toSide zk - sx stp)) ((zqhy + (st stp * upward zk - sy stp)) - (st stp * upward zk - sy stp)) (show 0 ≤ (zk + 1) ∧ (zk + 1) ≤ 8 by
                  first
                  | (
                     first | assumption | omega | rfl)
                  | fail "q9") (show ((zqx + (zqhx + (st stp * toSide zk - sx stp))) - (zqhx + (st stp * toSide zk - sx stp))) = qx by
                  first
                  | (
                     first | assumption | omega | rfl)
                  | fail "q9") (show ((zqy + (zqhy + (st stp * upward zk - sy stp))) - (zqhy + (st stp * upward zk - sy stp))) = qy by
                  first
                  | (
                     first | assumption | omega | rfl)
                  | fail "q9") (show ((zqhx + (st stp * toSide zk - sx stp)) - (st stp * toSide zk - sx stp)) = qhx by
                  first
                  | (
                     first | assumption | omega | rfl)
                  | fail "q9") (show ((zqhy + (st stp * upward zk - sy stp)) - (st stp * upward zk - sy stp)) = qhy by
                  first
                  | (
                     first | assumption | omega | rfl)
                  | fail "q9") (show (mn zl (gaN st sx sy 2 (stp + 1) zk (zqx + (zqhx + (st stp * toSide zk - sx stp))) (zqy + (zqhy + (st stp * upward zk - sy stp))) (zqhx + (st stp * toSide zk - sx stp)) (zqhy + (st stp * upward zk - sy stp)))) = mn sl (lstI (fun p => gaN st sx sy 2 (stp + 1) p (qx + (qhx + (st stp * toSide p - sx stp))) (qy + (qhy + (st stp * upward p - sy stp))) (qhx + (st stp * toSide p - sx stp)) (qhy + (st stp * upward p - sy stp))) (fun p => decide (fitP be p)) (zk + 1)) by
                  first
                  | (
                     rw [lstI_step _ _ (by omega)]
                     simp only [decide_eq_true_eq]
                     first | (rw [if_pos (by omega), hzl, mn_assoc, hzqx, hzqy, hzqhx, hzqhy]) | (rw [if_neg (by omega)]; assumption))
                  | fail "q9") (show 0 ≤ (mn zl (gaN st sx sy 2 (stp + 1) zk (zqx + (zqhx + (st stp * toSide zk - sx stp))) (zqy + (zqhy + (st stp * upward zk - sy stp))) (zqhx + (st stp * toSide zk - sx stp)) (zqhy + (st stp * upward zk - sy stp)))) ∧ (mn zl (gaN st sx sy 2 (stp + 1) zk (zqx + (zqhx + (st stp * toSide zk - sx stp))) (zqy + (zqhy + (st stp * upward zk - sy stp))) (zqhx + (st stp * toSide zk - sx stp)) (zqhy + (st stp * upward zk - sy stp)))) ≤ 2147483647 by
                  first
                  | (
                     first | assumption | (have g1 := gaN_nn st sx sy 2 (stp + 1) zk (zqx + (zqhx + (st stp * toSide zk - sx stp))) (zqy + (zqhy + (st stp * upward zk - sy stp))) (zqhx + (st stp * toSide zk - sx stp)) (zqhy + (st stp * upward zk - sy stp)); have g2 := mn_r zl _ (rfl : mn zl (gaN st sx sy 2 (stp + 1) zk (zqx + (zqhx + (st stp * toSide zk - sx stp))) (zqy + (zqhy + (st stp * upward zk - sy stp))) (zqhx + (st stp * toSide zk - sx stp)) (zqhy + (st stp * upward zk - sy stp))) = _); omega))
                  | fail "q9") (by
                  first
                  | (
                     omega)
                  | fail "q9") _ _ hP hD hS ls (lv_sub hl [0, 1, 2, 3] rfl)
      exact lp15 (8 - 0 + 1 : Int).toNat 0 sl qx qy qhx qhy (show 0 ≤ 0 ∧ 0 ≤ 8 by
          first
          | (
             first | assumption | omega | rfl)
          | fail "q9") (show qx = qx by
          first
          | (
             first | assumption | omega | rfl)
          | fail "q9") (show qy = qy by
          first
          | (
             first | assumption | omega | rfl)
          | fail "q9") (show qhx = qhx by
          first
          | (
             first | assumption | omega | rfl)
          | fail "q9") (show qhy = qhy by
          first
          | (
             first | assumption | omega | rfl)
          | fail "q9") (show sl = mn sl (lstI (fun p => gaN st sx sy 2 (stp + 1) p (qx + (qhx + (st stp * toSide p - sx stp))) (qy + (qhy + (st stp * upward p - sy stp))) (qhx + (st stp * toSide p - sx stp)) (qhy + (st stp * upward p - sy stp))) (fun p => decide (fitP be p)) 0) by
          first
          | (
             exact (mn_max hsl.2).symm)
          | fail "q9") (show 0 ≤ sl ∧ sl ≤ 2147483647 by
          first
          | (
             first | assumption | omega | rfl)
          | fail "q9") (by omega) _ _ hP hD hS ls (lv_sub hl [0, 1, 2, 3] rfl)
    · skip
      exfalso; omega
  rw [hH, hlo, hQ9] at goal_
  exact goal_

set_option maxHeartbeats 4000000 in
set_option maxRecDepth 100000 in
theorem c_X8_tryAllFrom4 (l : Launch) (g : xg) (sz : Nat) (aS aQ aSt aSx aSy : Nat) (sr sl qx qy qhx qhy stp be : Int) (st sx sy : Int → Int) (hsr : 0 ≤ sr ∧ sr ≤ 4) (hsd : sr - stp = 4) (hstp : 0 ≤ stp) (hbe : -1 ≤ be ∧ be ≤ 7) (hqx : -712500 ≤ qx ∧ qx ≤ 712500) (hqy : -712500 ≤ qy ∧ qy ≤ 712500) (hqhx : -3000 ≤ qhx ∧ qhx ≤ 3000) (hqhy : -3000 ≤ qhy ∧ qhy ≤ 3000) (hsl : 0 ≤ sl ∧ sl ≤ 2147483647) (hb_st : bnd st 0 9) (hb_sx : bnd sx (-5) 5) (hb_sy : bnd sy (-5) 5) : Met l yX8_tryAllFrom wsX8_tryAllFrom { frames := 7, cells := 0, slots := 0, locals := 154 } (va_Pc [.ref aS, .int (iI stp), .int (iI be)] (xB g [(aS, .inr (6, [.ref aQ, .ref aSt, .ref aSx, .ref aSy, .int (iI sr), .int (iI sl)])), (aQ, .inr (2, [.int (iI qx), .int (iI qy), .int (iI qhx), .int (iI qhy)])), (aSt, .inl (gI g, 4, .inl (ar st))), (aSx, .inl (gI g, 4, .inl (ar sx))), (aSy, .inl (gI g, 4, .inl (ar sy)))] sz)) (va_Qv (fun (u : Unit) => True) (fun u t => xE g (va_A [(aS, .inr (6, [.ref aQ, .ref aSt, .ref aSx, .ref aSy, .int (iI sr), .int (iI sl)])), (aQ, .inr (2, [.int (iI qx), .int (iI qy), .int (iI qhx), .int (iI qhy)])), (aSt, .inl (gI g, 4, .inl (ar st))), (aSx, .inl (gI g, 4, .inl (ar sx))), (aSy, .inl (gI g, 4, .inl (ar sy)))] sz) ((fun (u : Unit) => [(aS, .inr (6, [.ref aQ, .ref aSt, .ref aSx, .ref aSy, .int (iI sr), .int (iI (mn sl (gaN st sx sy 4 stp be qx qy qhx qhy)))])), (aQ, .inr (2, [.int (iI qx), .int (iI qy), .int (iI qhx), .int (iI qhy)])), (aSt, .inl (gI g, 4, .inl (ar st))), (aSx, .inl (gI g, 4, .inl (ar sx))), (aSy, .inl (gI g, 4, .inl (ar sy)))]) u) t) (va_A [(aS, .inr (6, [.ref aQ, .ref aSt, .ref aSx, .ref aSy, .int (iI sr), .int (iI sl)])), (aQ, .inr (2, [.int (iI qx), .int (iI qy), .int (iI qhx), .int (iI qhy)])), (aSt, .inl (gI g, 4, .inl (ar st))), (aSx, .inl (gI g, 4, .inl (ar sx))), (aSy, .inl (gI g, 4, .inl (ar sy)))] sz)) 0 0 (va_A [(aS, .inr (6, [.ref aQ, .ref aSt, .ref aSx, .ref aSy, .int (iI sr), .int (iI sl)])), (aQ, .inr (2, [.int (iI qx), .int (iI qy), .int (iI qhx), .int (iI qhy)])), (aSt, .inl (gI g, 4, .inl (ar st))), (aSx, .inl (gI g, 4, .inl (ar sx))), (aSy, .inl (gI g, 4, .inl (ar sy)))] sz) := by
  refine x_enter (y := yX8_tryAllFrom) (ws := wsX8_tryAllFrom) (g := g) (sz := sz) (av := [.ref aS, .int (iI stp), .int (iI be)]) (WS := [(aS, .inr (6, [.ref aQ, .ref aSt, .ref aSx, .ref aSy, .int (iI sr), .int (iI sl)])), (aQ, .inr (2, [.int (iI qx), .int (iI qy), .int (iI qhx), .int (iI qhy)])), (aSt, .inl (gI g, 4, .inl (ar st))), (aSx, .inl (gI g, 4, .inl (ar sx))), (aSy, .inl (gI g, 4, .inl (ar sy)))]) (cc := cX8_tryAllFrom) (maxL := 4) (ret := none) (Qc := (fun A => (va_Qv (fun (u : Unit) => True) (fun u t => xE g A ((fun (u : Unit) => [(aS, .inr (6, [.ref aQ, .ref aSt, .ref aSx, .ref aSy, .int (iI sr), .int (iI (mn sl (gaN st sx sy 4 stp be qx qy qhx qhy)))])), (aQ, .inr (2, [.int (iI qx), .int (iI qy), .int (iI qhx), .int (iI qhy)])), (aSt, .inl (gI g, 4, .inl (ar st))), (aSx, .inl (gI g, 4, .inl (ar sx))), (aSy, .inl (gI g, 4, .inl (ar sy)))]) u) t) A))) (by decide) rfl (Nat.le_of_ble_eq_true rfl) ?_
  intro p e s m args below meth c A ls hx hb hr hml hown hts hlocks hname hC hP hD hS hA hl
  have hK := hC.1
  have hown : s.vm.findClass RX8 = some m.cls := hown
  have hin4 : ∀ w ∈ u_ws RX4 TX4 6, w ∈ wsX8_tryAllFrom := by decide +kernel
  have hl : lv_has ls 4 [(0, .ref aS), (1, .int (iI stp)), (2, .int (iI be))] := hl
  obtain ⟨H, hH⟩ : ∃ z, z = s.heap := ⟨_, rfl⟩
  obtain ⟨locs, hlo⟩ : ∃ z : List Loc, z = [] := ⟨_, rfl⟩
  obtain ⟨Q9, hQ9⟩ : ∃ z, z = MQ below (va_Qv (fun (u : Unit) => True) (fun u t => xE g A ((fun (u : Unit) => [(aS, .inr (6, [.ref aQ, .ref aSt, .ref aSx, .ref aSy, .int (iI sr), .int (iI (mn sl (gaN st sx sy 4 stp be qx qy qhx qhy)))])), (aQ, .inr (2, [.int (iI qx), .int (iI qy), .int (iI qhx), .int (iI qhy)])), (aSt, .inl (gI g, 4, .inl (ar st))), (aSx, .inl (gI g, 4, .inl (ar sx))), (aSy, .inl (gI g, 4, .inl (ar sy)))]) u) t) A) args s 0 0 A := ⟨_, rfl⟩
  have hP : va_P (gD g) vwCl [(aS, .inr (6, [.ref aQ, .ref aSt, .ref aSx, .ref aSy, .int (iI sr), .int (iI sl)])), (aQ, .inr (2, [.int (iI qx), .int (iI qy), .int (iI qhx), .int (iI qhy)])), (aSt, .inl (gI g, 4, .inl (ar st))), (aSx, .inl (gI g, 4, .inl (ar sx))), (aSy, .inl (gI g, 4, .inl (ar sy)))] H := by rw [hH]; exact hP
  have hS : va_S A s.heap H locs := by rw [hH, hlo]; exact hS
  have goal_ : W p l e { frames := 7, cells := 0, slots := 0, locals := 154 } s m args below meth c H locs 0 0 Q9 (F0 m 0 ls []) := by
    clear hH hlo
    refine lv_iload_n hx hb dX8_tryAllFrom_0 rfl (lv_at hl 1 rfl) ?_
    refine lv_aload_n hx hb dX8_tryAllFrom_1 rfl (lv_at hl 0 rfl) ?_
    refine va_get (D := gD g) (ci := 6) (v := .int (iI sr)) (C := RX4) (T := TX4) (N := 6) hx hb hts hin4 hown hK hP 0 rfl rfl 4 (by decide) (hts (.fieldLink RX8 372 "TunnelRing$Search" "rings" "I") (List.mem_of_getElem? (i := 1) rfl)) (fun _ h9 => h9) rfl dX8_tryAllFrom_2 ?_
    refine x_cmp_lt (tgt := 13) hx hb (by omega) (by omega) dX8_tryAllFrom_5 (by decide) (fun c_1 => ?_) (fun c_1 => ?_)
    · skip
      refine x_iconst hx hb dX8_tryAllFrom_13 ?_
      refine lv_istore_n (lv' := [(3, .int (iI 0)), (0, .ref aS), (1, .int (iI stp)), (2, .int (iI be))]) hx hb dX8_tryAllFrom_14 rfl hl (by decide) rfl (fun ls hl => ?_)
      have lp15 : ∀ (n : Nat) (zk : Int) (zl : Int) (zqx : Int) (zqy : Int) (zqhx : Int) (zqhy : Int), (0 ≤ zk ∧ zk ≤ 8) → (zqx = qx) → (zqy = qy) → (zqhx = qhx) → (zqhy = qhy) → (zl = mn sl (lstI (fun p => gaN st sx sy 3 (stp + 1) p (qx + (qhx + (st stp * toSide p - sx stp))) (qy + (qhy + (st stp * upward p - sy stp))) (qhx + (st stp * toSide p - sx stp)) (qhy + (st stp * upward p - sy stp))) (fun p => decide (fitP be p)) zk)) → (0 ≤ zl ∧ zl ≤ 2147483647) → 8 - zk + 1 ≤ (n : Int) → ∀ (H : Heap) (locs : List Loc), va_P (gD g) vwCl [(aS, .inr (6, [.ref aQ, .ref aSt, .ref aSx, .ref aSy, .int (iI sr), .int (iI zl)])), (aQ, .inr (2, [.int (iI zqx), .int (iI zqy), .int (iI zqhx), .int (iI zqhy)])), (aSt, .inl (gI g, 4, .inl (ar st))), (aSx, .inl (gI g, 4, .inl (ar sx))), (aSy, .inl (gI g, 4, .inl (ar sy)))] H → va_D A [(aS, .inr (6, [.ref aQ, .ref aSt, .ref aSx, .ref aSy, .int (iI sr), .int (iI zl)])), (aQ, .inr (2, [.int (iI zqx), .int (iI zqy), .int (iI zqhx), .int (iI zqhy)])), (aSt, .inl (gI g, 4, .inl (ar st))), (aSx, .inl (gI g, 4, .inl (ar sx))), (aSy, .inl (gI g, 4, .inl (ar sy)))] → va_S A s.heap H locs → ∀ (ls : Array Slot), lv_has ls 4 [(3, .int (iI zk)), (0, .ref aS), (1, .int (iI stp)), (2, .int (iI be))] → W p l e { frames := 7, cells := 0, slots := 0, locals := 154 } s m args below meth c H locs 0 0 Q9 (F0 m 15 ls []) := by
        intro n
        induction n with
        | zero => intro zk zl zqx zqy zqhx zqhy hzk hzqx hzqy hzqhx hzqhy hzl hzr hm; exfalso; omega
        | succ n ih15 =>
          intro zk zl zqx zqy zqhx zqhy hzk hzqx hzqy hzqhx hzqhy hzl hzr hm H locs hP hD hS ls hl
          refine lv_iload_n hx hb dX8_tryAllFrom_15 rfl (lv_at hl 0 rfl) ?_
          refine va_gets hx hb hC.2.1.1 hS hown (hts (.fieldLink RX8 260 "TunnelRing" "TO_SIDE" "[I") (List.mem_of_getElem? (i := 2) rfl)) (fun _ h9 => h9) dX8_tryAllFrom_16 ?_
          refine va_tlen hx hb hC.2.1.2 hS (v := iI 8) (by decide) dX8_tryAllFrom_19 ?_
          refine x_cmp_ge (tgt := 57) hx hb (by omega) (by omega) dX8_tryAllFrom_20 (by decide) (fun c_2 => ?_) (fun c_2 => ?_)
          · skip
            have q_3 : (mn sl (gaN st sx sy 4 stp be qx qy qhx qhy)) = zl := by
              first
              | (
                 first | (show mn sl (lstI (fun p => gaN st sx sy 3 (stp + 1) p (qx + (qhx + (st stp * toSide p - sx stp))) (qy + (qhy + (st stp * upward p - sy stp))) (qhx + (st stp * toSide p - sx stp)) (qhy + (st stp * upward p - sy stp))) (fun p => decide (fitP be p)) 8) = zl; rw [show (8 : Int) = zk by omega]; exact hzl.symm) | (have hlb := lbN (st := st) (sx := sx) (sy := sy) hb_st 4 stp be qx qy qhx qhy; have s1 := alN_sum (F := sx) (sr := sr) 4 stp hstp (by omega); have s2 := alN_sum (F := sy) (sr := sr) 4 stp hstp (by omega); have s3 := alN_sum (F := st) (sr := sr) 4 stp hstp (by omega); rw [s1, s2, s3, show sr - stp = ((4 : Nat) : Int) by omega] at hal9; rw [← hal9] at hlb; exact mn_left (by unfold mn at hlb; split at hlb <;> omega)))
              | fail "q9"
            have q_4 : qx = zqx := by
              first
              | (
                 omega)
              | fail "q9"
            have q_5 : qy = zqy := by
              first
              | (
                 omega)
              | fail "q9"
            have q_6 : qhx = zqhx := by
              first
              | (
                 omega)
              | fail "q9"
            have q_7 : qhy = zqhy := by
              first
              | (
                 omega)
              | fail "q9"
            have hw_8 := (congr (congr (congr (congr (congrArg (fun (z0 : Int) (z1 : Int) (z2 : Int) (z3 : Int) (z4 : Int) => ([(aS, .inr (6, [.ref aQ, .ref aSt, .ref aSx, .ref aSy, .int (iI sr), .int (iI z0)])), (aQ, .inr (2, [.int (iI z1), .int (iI z2), .int (iI z3), .int (iI z4)])), (aSt, .inl (gI g, 4, .inl (ar st))), (aSx, .inl (gI g, 4, .inl (ar sx))), (aSy, .inl (gI g, 4, .inl (ar sy)))] : va_W)) q_3.symm) q_4.symm) q_5.symm) q_6.symm) q_7.symm)
            rw [hQ9]
            exact x_vret hx hb hr hlocks hP hD hS (S := Unit) (Φ := _) (W1 := _) dX8_tryAllFrom_57 () trivial hw_8 (Nat.le_of_ble_eq_true rfl) (Nat.le_of_ble_eq_true rfl)
          · skip
            refine lv_iload_n hx hb dX8_tryAllFrom_23 rfl (lv_at hl 3 rfl) ?_
            refine lv_iload_n hx hb dX8_tryAllFrom_24 rfl (lv_at hl 0 rfl) ?_
            refine x_calli (S := Unit) (wc := []) (wr := [(aS, .inr (6, [.ref aQ, .ref aSt, .ref aSx, .ref aSy, .int (iI sr), .int (iI zl)])), (aQ, .inr (2, [.int (iI zqx), .int (iI zqy), .int (iI zqhx), .int (iI zqhy)])), (aSt, .inl (gI g, 4, .inl (ar st))), (aSx, .inl (gI g, 4, .inl (ar sx))), (aSy, .inl (gI g, 4, .inl (ar sy)))]) hC hP hD hS hA [] [0, 1, 2, 3, 4] [0, 1, 2, 3, 4] rfl rfl (fun hpre => va_runS (As := [.int (iI be), .int (iI zk)]) (rest := []) ⟨hx, hb, hml, hown, hts⟩ (c_X8_fits l g H.size be zk (by first | (first | assumption | omega | exact bnd_up (by assumption) (by omega) (by omega)) | fail "q8") (by first | (first | assumption | omega | exact bnd_up (by assumption) (by omega) (by omega)) | fail "q8")) (va_cwS 2 hts gX8_tryAllFrom_X8_fits rfl rfl rfl (by decide +kernel) ⟨Nat.le_of_ble_eq_true rfl, Nat.le_of_ble_eq_true rfl⟩) ⟨xB_blind, hpre _⟩ rfl rfl hl.1 rfl (lv_room (Nat.le_of_ble_eq_true rfl)) dX8_tryAllFrom_25 ⟨Nat.le_of_ble_eq_true rfl, Nat.le_of_ble_eq_true rfl⟩) (fun (u : Unit) => [(aS, .inr (6, [.ref aQ, .ref aSt, .ref aSx, .ref aSy, .int (iI sr), .int (iI zl)])), (aQ, .inr (2, [.int (iI zqx), .int (iI zqy), .int (iI zqhx), .int (iI zqhy)])), (aSt, .inl (gI g, 4, .inl (ar st))), (aSx, .inl (gI g, 4, .inl (ar sx))), (aSy, .inl (gI g, 4, .inl (ar sy)))]) rfl rfl (by decide) (fun _ => rfl) rfl (fun u v_9 H locs hv_9 pv_9 hP hD hS => ?_)
            have hP : va_P (gD g) vwCl [(aS, .inr (6, [.ref aQ, .ref aSt, .ref aSx, .ref aSy, .int (iI sr), .int (iI zl)])), (aQ, .inr (2, [.int (iI zqx), .int (iI zqy), .int (iI zqhx), .int (iI zqhy)])), (aSt, .inl (gI g, 4, .inl (ar st))), (aSx, .inl (gI g, 4, .inl (ar sx))), (aSy, .inl (gI g, 4, .inl (ar sy)))] H := hP
            have hD : va_D A [(aS, .inr (6, [.ref aQ, .ref aSt, .ref aSx, .ref aSy, .int (iI sr), .int (iI zl)])), (aQ, .inr (2, [.int (iI zqx), .int (iI zqy), .int (iI zqhx), .int (iI zqhy)])), (aSt, .inl (gI g, 4, .inl (ar st))), (aSx, .inl (gI g, 4, .inl (ar sx))), (aSy, .inl (gI g, 4, .inl (ar sy)))] := hD
            have hv_9 : v_9 = bI (fitP be zk) := hv_9
            refine x_top hv_9 ?_
            refine x_ifb_eq (tgt := 51) (P := fitP be zk) hx hb dX8_tryAllFrom_28 (by decide) (fun c_10 => ?_) (fun c_10 => ?_)
            · skip
              refine x_iinc (k := 0) (lv' := [(3, .int (iI (zk + 1))), (0, .ref aS), (1, .int (iI stp)), (2, .int (iI be))]) hx hb dX8_tryAllFrom_51 hl rfl (by decide) rfl (fun ls hl => ?_)
              refine lv_goto (tgt := 15) hx hb dX8_tryAllFrom_54 (by decide) ?_
              exact ih15 (zk + 1) zl zqx zqy zqhx zqhy (show 0 ≤ (zk + 1) ∧ (zk + 1) ≤ 8 by
                  first
                  | (
                     first | assumption | omega | rfl)
                  | fail "q9") (show zqx = qx by
                  first
                  | (
                     first | assumption | omega | rfl)
                  | fail "q9") (show zqy = qy by
                  first
                  | (
                     first | assumption | omega | rfl)
                  | fail "q9") (show zqhx = qhx by
                  first
                  | (
                     first | assumption | omega | rfl)
                  | fail "q9") (show zqhy = qhy by
                  first
                  | (
                     first | assumption | omega | rfl)
                  | fail "q9") (show zl = mn sl (lstI (fun p => gaN st sx sy 3 (stp + 1) p (qx + (qhx + (st stp * toSide p - sx stp))) (qy + (qhy + (st stp * upward p - sy stp))) (qhx + (st stp * toSide p - sx stp)) (qhy + (st stp * upward p - sy stp))) (fun p => decide (fitP be p)) (zk + 1)) by
                  first
                  | (
                     rw [lstI_step _ _ (by omega)]
                     simp only [decide_eq_true_eq]
                     first | (rw [if_pos (by omega), hzl, mn_assoc, hzqx, hzqy, hzqhx, hzqhy]) | (rw [if_neg (by omega)]; assumption))
                  | fail "q9") (show 0 ≤ zl ∧ zl ≤ 2147483647 by
                  first
                  | (
                     first | assumption | (have g1 := gaN_nn st sx sy 3 (stp + 1) zk (zqx + (zqhx + (st stp * toSide zk - sx stp))) (zqy + (zqhy + (st stp * upward zk - sy stp))) (zqhx + (st stp * toSide zk - sx stp)) (zqhy + (st stp * upward zk - sy stp)); have g2 := mn_r zl _ (rfl : mn zl (gaN st sx sy 3 (stp + 1) zk (zqx + (zqhx + (st stp * toSide zk - sx stp))) (zqy + (zqhy + (st stp * upward zk - sy stp))) (zqhx + (st stp * toSide zk - sx stp)) (zqhy + (st stp * upward zk - sy stp))) = _); omega))
                  | fail "q9") (by
                  first
                  | (
                     omega)
                  | fail "q9") _ _ hP hD hS ls (lv_sub hl [0, 1, 2, 3] rfl)
            · skip
              refine lv_aload_n hx hb dX8_tryAllFrom_31 rfl (lv_at hl 1 rfl) ?_
              refine lv_iload_n hx hb dX8_tryAllFrom_32 rfl (lv_at hl 2 rfl) ?_
              refine lv_iload_n hx hb dX8_tryAllFrom_33 rfl (lv_at hl 0 rfl) ?_
              refine x_callv (S := Unit) (wc := [(aS, .inr (6, [.ref aQ, .ref aSt, .ref aSx, .ref aSy, .int (iI sr), .int (iI zl)])), (aQ, .inr (2, [.int (iI zqx), .int (iI zqy), .int (iI zqhx), .int (iI zqhy)])), (aSt, .inl (gI g, 4, .inl (ar st))), (aSx, .inl (gI g, 4, .inl (ar sx))), (aSy, .inl (gI g, 4, .inl (ar sy)))]) (wr := []) hC hP hD hS hA [0, 1, 2, 3, 4] [] [0, 1, 2, 3, 4] rfl rfl (fun hpre => va_runV (As := [.int (iI stp), .int (iI zk)]) (rest := []) ⟨hx, hb, hml, hown, hts⟩ (c_X4_tryOut l g H.size aS aQ aSt aSx aSy sr zl zqx zqy zqhx zqhy stp zk st sx sy (by first | (first | assumption | omega | exact bnd_up (by assumption) (by omega) (by omega)) | fail "q8") (by first | (first | assumption | omega | exact bnd_up (by assumption) (by omega) (by omega)) | fail "q8")) (cwV 2 hts gX8_tryAllFrom_X4_tryOut rfl rfl rfl (by decide +kernel) ⟨Nat.le_of_ble_eq_true rfl, Nat.le_of_ble_eq_true rfl⟩) ⟨xB_blind, va_recv hK hP (ci := 6) (q0 := 0) rfl rfl, hpre _⟩ rfl rfl hl.1 rfl (lv_room (Nat.le_of_ble_eq_true rfl)) dX8_tryAllFrom_34 ⟨Nat.le_of_ble_eq_true rfl, Nat.le_of_ble_eq_true rfl⟩) (fun (u : Unit) => [(aS, .inr (6, [.ref aQ, .ref aSt, .ref aSx, .ref aSy, .int (iI sr), .int (iI zl)])), (aQ, .inr (2, [.int (iI (zqx + (zqhx + (st stp * toSide zk - sx stp)))), .int (iI (zqy + (zqhy + (st stp * upward zk - sy stp)))), .int (iI (zqhx + (st stp * toSide zk - sx stp))), .int (iI (zqhy + (st stp * upward zk - sy stp)))])), (aSt, .inl (gI g, 4, .inl (ar st))), (aSx, .inl (gI g, 4, .inl (ar sx))), (aSy, .inl (gI g, 4, .inl (ar sy)))]) rfl rfl (by decide) (fun _ => rfl) rfl (fun u H locs hv_11 hP hD hS => ?_)
              have hP : va_P (gD g) vwCl [(aS, .inr (6, [.ref aQ, .ref aSt, .ref aSx, .ref aSy, .int (iI sr), .int (iI zl)])), (aQ, .inr (2, [.int (iI (zqx + (zqhx + (st stp * toSide zk - sx stp)))), .int (iI (zqy + (zqhy + (st stp * upward zk - sy stp)))), .int (iI (zqhx + (st stp * toSide zk - sx stp))), .int (iI (zqhy + (st stp * upward zk - sy stp)))])), (aSt, .inl (gI g, 4, .inl (ar st))), (aSx, .inl (gI g, 4, .inl (ar sx))), (aSy, .inl (gI g, 4, .inl (ar sy)))] H := hP
              have hD : va_D A [(aS, .inr (6, [.ref aQ, .ref aSt, .ref aSx, .ref aSy, .int (iI sr), .int (iI zl)])), (aQ, .inr (2, [.int (iI (zqx + (zqhx + (st stp * toSide zk - sx stp)))), .int (iI (zqy + (zqhy + (st stp * upward zk - sy stp)))), .int (iI (zqhx + (st stp * toSide zk - sx stp))), .int (iI (zqhy + (st stp * upward zk - sy stp)))])), (aSt, .inl (gI g, 4, .inl (ar st))), (aSx, .inl (gI g, 4, .inl (ar sx))), (aSy, .inl (gI g, 4, .inl (ar sy)))] := hD
              have m1 := mulb (A := 9) (B := 1) (a := st stp) (b := toSide zk) (by have := hb_st stp; omega) (toSide_r zk)
              have m2 := mulb (A := 9) (B := 1) (a := st stp) (b := upward zk) (by have := hb_st stp; omega) (upward_r zk)
              have m3 := hb_sx stp
              have m4 := hb_sy stp
              refine lv_aload_n hx hb dX8_tryAllFrom_37 rfl (lv_at hl 1 rfl) ?_
              refine lv_iload_n hx hb dX8_tryAllFrom_38 rfl (lv_at hl 2 rfl) ?_
              refine x_iconst hx hb dX8_tryAllFrom_39 ?_
              refine x_iadd hx hb dX8_tryAllFrom_40 ?_
              refine lv_iload_n hx hb dX8_tryAllFrom_41 rfl (lv_at hl 0 rfl) ?_
              refine x_callv (S := Unit) (wc := [(aS, .inr (6, [.ref aQ, .ref aSt, .ref aSx, .ref aSy, .int (iI sr), .int (iI zl)])), (aQ, .inr (2, [.int (iI (zqx + (zqhx + (st stp * toSide zk - sx stp)))), .int (iI (zqy + (zqhy + (st stp * upward zk - sy stp)))), .int (iI (zqhx + (st stp * toSide zk - sx stp))), .int (iI (zqhy + (st stp * upward zk - sy stp)))])), (aSt, .inl (gI g, 4, .inl (ar st))), (aSx, .inl (gI g, 4, .inl (ar sx))), (aSy, .inl (gI g, 4, .inl (ar sy)))]) (wr := []) hC hP hD hS hA [0, 1, 2, 3, 4] [] [0, 1, 2, 3, 4] rfl rfl (fun hpre => va_runS (As := [.ref aS, .int (iI (stp + 1)), .int (iI zk)]) (rest := []) ⟨hx, hb, hml, hown, hts⟩ (c_X8_tryAllFrom3 l g H.size aS aQ aSt aSx aSy sr zl (zqx + (zqhx + (st stp * toSide zk - sx stp))) (zqy + (zqhy + (st stp * upward zk - sy stp))) (zqhx + (st stp * toSide zk - sx stp)) (zqhy + (st stp * upward zk - sy stp)) (stp + 1) zk st sx sy (by first | (first | assumption | omega | exact bnd_up (by assumption) (by omega) (by omega)) | fail "q8") (by first | (first | assumption | omega | exact bnd_up (by assumption) (by omega) (by omega)) | fail "q8") (by first | (first | assumption | omega | exact bnd_up (by assumption) (by omega) (by omega)) | fail "q8") (by first | (first | assumption | omega | exact bnd_up (by assumption) (by omega) (by omega)) | fail "q8") (by first | (first | assumption | omega | exact bnd_up (by assumption) (by omega) (by omega)) | fail "q8") (by first | (first | assumption | omega | exact bnd_up (by assumption) (by omega) (by omega)) | fail "q8") (by first | (first | assumption | omega | exact bnd_up (by assumption) (by omega) (by omega)) | fail "q8") (by first | (first | assumption | omega | exact bnd_up (by assumption) (by omega) (by omega)) | fail "q8") (by first | (first | assumption | omega | exact bnd_up (by assumption) (by omega) (by omega)) | fail "q8") (by first | (first | assumption | omega | exact bnd_up (by assumption) (by omega) (by omega)) | fail "q8") (by first | (first | assumption | omega | exact bnd_up (by assumption) (by omega) (by omega)) | fail "q8") (by first | (first | assumption | omega | exact bnd_up (by assumption) (by omega) (by omega)) | fail "q8")) (va_cwS 3 hts gX8_tryAllFrom_X8_tryAllFrom rfl rfl rfl (by decide +kernel) ⟨Nat.le_of_ble_eq_true rfl, Nat.le_of_ble_eq_true rfl⟩) ⟨xB_blind, hpre _⟩ rfl rfl hl.1 rfl (lv_room (Nat.le_of_ble_eq_true rfl)) dX8_tryAllFrom_42 ⟨Nat.le_of_ble_eq_true rfl, Nat.le_of_ble_eq_true rfl⟩) (fun (u : Unit) => [(aS, .inr (6, [.ref aQ, .ref aSt, .ref aSx, .ref aSy, .int (iI sr), .int (iI (mn zl (gaN st sx sy 3 (stp + 1) zk (zqx + (zqhx + (st stp * toSide zk - sx stp))) (zqy + (zqhy + (st stp * upward zk - sy stp))) (zqhx + (st stp * toSide zk - sx stp)) (zqhy + (st stp * upward zk - sy stp)))))])), (aQ, .inr (2, [.int (iI (zqx + (zqhx + (st stp * toSide zk - sx stp)))), .int (iI (zqy + (zqhy + (st stp * upward zk - sy stp)))), .int (iI (zqhx + (st stp * toSide zk - sx stp))), .int (iI (zqhy + (st stp * upward zk - sy stp)))])), (aSt, .inl (gI g, 4, .inl (ar st))), (aSx, .inl (gI g, 4, .inl (ar sx))), (aSy, .inl (gI g, 4, .inl (ar sy)))]) rfl rfl (by decide) (fun _ => rfl) rfl (fun u H locs hv_12 hP hD hS => ?_)
              have hP : va_P (gD g) vwCl [(aS, .inr (6, [.ref aQ, .ref aSt, .ref aSx, .ref aSy, .int (iI sr), .int (iI (mn zl (gaN st sx sy 3 (stp + 1) zk (zqx + (zqhx + (st stp * toSide zk - sx stp))) (zqy + (zqhy + (st stp * upward zk - sy stp))) (zqhx + (st stp * toSide zk - sx stp)) (zqhy + (st stp * upward zk - sy stp)))))])), (aQ, .inr (2, [.int (iI (zqx + (zqhx + (st stp * toSide zk - sx stp)))), .int (iI (zqy + (zqhy + (st stp * upward zk - sy stp)))), .int (iI (zqhx + (st stp * toSide zk - sx stp))), .int (iI (zqhy + (st stp * upward zk - sy stp)))])), (aSt, .inl (gI g, 4, .inl (ar st))), (aSx, .inl (gI g, 4, .inl (ar sx))), (aSy, .inl (gI g, 4, .inl (ar sy)))] H := hP
              have hD : va_D A [(aS, .inr (6, [.ref aQ, .ref aSt, .ref aSx, .ref aSy, .int (iI sr), .int (iI (mn zl (gaN st sx sy 3 (stp + 1) zk (zqx + (zqhx + (st stp * toSide zk - sx stp))) (zqy + (zqhy + (st stp * upward zk - sy stp))) (zqhx + (st stp * toSide zk - sx stp)) (zqhy + (st stp * upward zk - sy stp)))))])), (aQ, .inr (2, [.int (iI (zqx + (zqhx + (st stp * toSide zk - sx stp)))), .int (iI (zqy + (zqhy + (st stp * upward zk - sy stp)))), .int (iI (zqhx + (st stp * toSide zk - sx stp))), .int (iI (zqhy + (st stp * upward zk - sy stp)))])), (aSt, .inl (gI g, 4, .inl (ar st))), (aSx, .inl (gI g, 4, .inl (ar sx))), (aSy, .inl (gI g, 4, .inl (ar sy)))] := hD
              refine lv_aload_n hx hb dX8_tryAllFrom_45 rfl (lv_at hl 1 rfl) ?_
              refine lv_iload_n hx hb dX8_tryAllFrom_46 rfl (lv_at hl 2 rfl) ?_
              refine lv_iload_n hx hb dX8_tryAllFrom_47 rfl (lv_at hl 0 rfl) ?_
              refine x_callv (S := Unit) (wc := [(aS, .inr (6, [.ref aQ, .ref aSt, .ref aSx, .ref aSy, .int (iI sr), .int (iI (mn zl (gaN st sx sy 3 (stp + 1) zk (zqx + (zqhx + (st stp * toSide zk - sx stp))) (zqy + (zqhy + (st stp * upward zk - sy stp))) (zqhx + (st stp * toSide zk - sx stp)) (zqhy + (st stp * upward zk - sy stp)))))])), (aQ, .inr (2, [.int (iI (zqx + (zqhx + (st stp * toSide zk - sx stp)))), .int (iI (zqy + (zqhy + (st stp * upward zk - sy stp)))), .int (iI (zqhx + (st stp * toSide zk - sx stp))), .int (iI (zqhy + (st stp * upward zk - sy stp)))])), (aSt, .inl (gI g, 4, .inl (ar st))), (aSx, .inl (gI g, 4, .inl (ar sx))), (aSy, .inl (gI g, 4, .inl (ar sy)))]) (wr := []) hC hP hD hS hA [0, 1, 2, 3, 4] [] [0, 1, 2, 3, 4] rfl rfl (fun hpre => va_runV (As := [.int (iI stp), .int (iI zk)]) (rest := []) ⟨hx, hb, hml, hown, hts⟩ (c_X4_takeBack l g H.size aS aQ aSt aSx aSy sr (mn zl (gaN st sx sy 3 (stp + 1) zk (zqx + (zqhx + (st stp * toSide zk - sx stp))) (zqy + (zqhy + (st stp * upward zk - sy stp))) (zqhx + (st stp * toSide zk - sx stp)) (zqhy + (st stp * upward zk - sy stp)))) (zqx + (zqhx + (st stp * toSide zk - sx stp))) (zqy + (zqhy + (st stp * upward zk - sy stp))) (zqhx + (st stp * toSide zk - sx stp)) (zqhy + (st stp * upward zk - sy stp)) stp zk st sx sy (by first | (first | assumption | omega | exact bnd_up (by assumption) (by omega) (by omega)) | fail "q8") (by first | (first | assumption | omega | exact bnd_up (by assumption) (by omega) (by omega)) | fail "q8")) (cwV 2 hts gX8_tryAllFrom_X4_takeBack rfl rfl rfl (by decide +kernel) ⟨Nat.le_of_ble_eq_true rfl, Nat.le_of_ble_eq_true rfl⟩) ⟨xB_blind, va_recv hK hP (ci := 6) (q0 := 0) rfl rfl, hpre _⟩ rfl rfl hl.1 rfl (lv_room (Nat.le_of_ble_eq_true rfl)) dX8_tryAllFrom_48 ⟨Nat.le_of_ble_eq_true rfl, Nat.le_of_ble_eq_true rfl⟩) (fun (u : Unit) => [(aS, .inr (6, [.ref aQ, .ref aSt, .ref aSx, .ref aSy, .int (iI sr), .int (iI (mn zl (gaN st sx sy 3 (stp + 1) zk (zqx + (zqhx + (st stp * toSide zk - sx stp))) (zqy + (zqhy + (st stp * upward zk - sy stp))) (zqhx + (st stp * toSide zk - sx stp)) (zqhy + (st stp * upward zk - sy stp)))))])), (aQ, .inr (2, [.int (iI ((zqx + (zqhx + (st stp * toSide zk - sx stp))) - (zqhx + (st stp * toSide zk - sx stp)))), .int (iI ((zqy + (zqhy + (st stp * upward zk - sy stp))) - (zqhy + (st stp * upward zk - sy stp)))), .int (iI ((zqhx + (st stp * toSide zk - sx stp)) - (st stp * toSide zk - sx stp))), .int (iI ((zqhy + (st stp * upward zk - sy stp)) - (st stp * upward zk - sy stp)))])), (aSt, .inl (gI g, 4, .inl (ar st))), (aSx, .inl (gI g, 4, .inl (ar sx))), (aSy, .inl (gI g, 4, .inl (ar sy)))]) rfl rfl (by decide) (fun _ => rfl) rfl (fun u H locs hv_13 hP hD hS => ?_)
              have hP : va_P (gD g) vwCl [(aS, .inr (6, [.ref aQ, .ref aSt, .ref aSx, .ref aSy, .int (iI sr), .int (iI (mn zl (gaN st sx sy 3 (stp + 1) zk (zqx + (zqhx + (st stp * toSide zk - sx stp))) (zqy + (zqhy + (st stp * upward zk - sy stp))) (zqhx + (st stp * toSide zk - sx stp)) (zqhy + (st stp * upward zk - sy stp)))))])), (aQ, .inr (2, [.int (iI ((zqx + (zqhx + (st stp * toSide zk - sx stp))) - (zqhx + (st stp * toSide zk - sx stp)))), .int (iI ((zqy + (zqhy + (st stp * upward zk - sy stp))) - (zqhy + (st stp * upward zk - sy stp)))), .int (iI ((zqhx + (st stp * toSide zk - sx stp)) - (st stp * toSide zk - sx stp))), .int (iI ((zqhy + (st stp * upward zk - sy stp)) - (st stp * upward zk - sy stp)))])), (aSt, .inl (gI g, 4, .inl (ar st))), (aSx, .inl (gI g, 4, .inl (ar sx))), (aSy, .inl (gI g, 4, .inl (ar sy)))] H := hP
              have hD : va_D A [(aS, .inr (6, [.ref aQ, .ref aSt, .ref aSx, .ref aSy, .int (iI sr), .int (iI (mn zl (gaN st sx sy 3 (stp + 1) zk (zqx + (zqhx + (st stp * toSide zk - sx stp))) (zqy + (zqhy + (st stp * upward zk - sy stp))) (zqhx + (st stp * toSide zk - sx stp)) (zqhy + (st stp * upward zk - sy stp)))))])), (aQ, .inr (2, [.int (iI ((zqx + (zqhx + (st stp * toSide zk - sx stp))) - (zqhx + (st stp * toSide zk - sx stp)))), .int (iI ((zqy + (zqhy + (st stp * upward zk - sy stp))) - (zqhy + (st stp * upward zk - sy stp)))), .int (iI ((zqhx + (st stp * toSide zk - sx stp)) - (st stp * toSide zk - sx stp))), .int (iI ((zqhy + (st stp * upward zk - sy stp)) - (st stp * upward zk - sy stp)))])), (aSt, .inl (gI g, 4, .inl (ar st))), (aSx, .inl (gI g, 4, .inl (ar sx))), (aSy, .inl (gI g, 4, .inl (ar sy)))] := hD
              refine x_iinc (k := 0) (lv' := [(3, .int (iI (zk + 1))), (0, .ref aS), (1, .int (iI stp)), (2, .int (iI be))]) hx hb dX8_tryAllFrom_51 hl rfl (by decide) rfl (fun ls hl => ?_)
              refine lv_goto (tgt := 15) hx hb dX8_tryAllFrom_54 (by decide) ?_
              exact ih15 (zk + 1) (mn zl (gaN st sx sy 3 (stp + 1) zk (zqx + (zqhx + (st stp * toSide zk - sx stp))) (zqy + (zqhy + (st stp * upward zk - sy stp))) (zqhx + (st stp * toSide zk - sx stp)) (zqhy + (st stp * upward zk - sy stp)))) ((zqx + (zqhx + (st stp * toSide zk - sx stp))) - (zqhx + (st stp * toSide zk - sx stp))) ((zqy + (zqhy + (st stp * upward zk - sy stp))) - (zqhy + (st stp * upward zk - sy stp))) ((zqhx + (st stp * toSide zk - sx stp)) - (st stp * toSide zk - sx stp)) ((zqhy + (st stp * upward zk - sy stp)) - (st stp * upward zk - sy stp)) (show 0 ≤ (zk + 1) ∧ (zk + 1) ≤ 8 by
                  first
                  | (
                     first | assumption | omega | rfl)
                  | fail "q9") (show ((zqx + (zqhx + (st stp * toSide zk - sx stp))) - (zqhx + (st stp * toSide zk - sx stp))) = qx by
                  first
                  | (
                     first | assumption | omega | rfl)
                  | fail "q9") (show ((zqy + (zqhy + (st stp * upward zk - sy stp))) - (zqhy + (st stp * upward zk - sy stp))) = qy by
                  first
                  | (
                     first | assumption | omega | rfl)
                  | fail "q9") (show ((zqhx + (st stp * toSide zk - sx stp)) - (st stp * toSide zk - sx stp)) = qhx by
                  first
                  | (
                     first | assumption | omega | rfl)
                  | fail "q9") (show ((zqhy + (st stp * upward zk - sy stp)) - (st stp * upward zk - sy stp)) = qhy by
                  first
                  | (
                     first | assumption | omega | rfl)
                  | fail "q9") (show (mn zl (gaN st sx sy 3 (stp + 1) zk (zqx + (zqhx + (st stp * toSide zk - sx stp))) (zqy + (zqhy + (st stp * upward zk - sy stp))) (zqhx + (st stp * toSide zk - sx stp)) (zqhy + (st stp * upward zk - sy stp)))) = mn sl (lstI (fun p => gaN st sx sy 3 (stp + 1) p (qx + (qhx + (st stp * toSide p - sx stp))) (qy + (qhy + (st stp * upward p - sy stp))) (qhx + (st stp * toSide p - sx stp)) (qhy + (st stp * upward p - sy stp))) (fun p => decide (fitP be p)) (zk + 1)) by
                  first
                  | (
                     rw [lstI_step _ _ (by omega)]
                     simp only [decide_eq_true_eq]
                     first | (rw [if_pos (by omega), hzl, mn_assoc, hzqx, hzqy, hzqhx, hzqhy]) | (rw [if_neg (by omega)]; assumption))
                  | fail "q9") (show 0 ≤ (mn zl (gaN st sx sy 3 (stp + 1) zk (zqx + (zqhx + (st stp * toSide zk - sx stp))) (zqy + (zqhy + (st stp * upward zk - sy stp))) (zqhx + (st stp * toSide zk - sx stp)) (zqhy + (st stp * upward zk - sy stp)))) ∧ (mn zl (gaN st sx sy 3 (stp + 1) zk (zqx + (zqhx + (st stp * toSide zk - sx stp))) (zqy + (zqhy + (st stp * upward zk - sy stp))) (zqhx + (st stp * toSide zk - sx stp)) (zqhy + (st stp * upward zk - sy stp)))) ≤ 2147483647 by
                  first
                  | (
                     first | assumption | (have g1 := gaN_nn st sx sy 3 (stp + 1) zk (zqx + (zqhx + (st stp * toSide zk - sx stp))) (zqy + (zqhy + (st stp * upward zk - sy stp))) (zqhx + (st stp * toSide zk - sx stp)) (zqhy + (st stp * upward zk - sy stp)); have g2 := mn_r zl _ (rfl : mn zl (gaN st sx sy 3 (stp + 1) zk (zqx + (zqhx + (st stp * toSide zk - sx stp))) (zqy + (zqhy + (st stp * upward zk - sy stp))) (zqhx + (st stp * toSide zk - sx stp)) (zqhy + (st stp * upward zk - sy stp))) = _); omega))
                  | fail "q9") (by
                  first
                  | (
                     omega)
                  | fail "q9") _ _ hP hD hS ls (lv_sub hl [0, 1, 2, 3] rfl)
      exact lp15 (8 - 0 + 1 : Int).toNat 0 sl qx qy qhx qhy (show 0 ≤ 0 ∧ 0 ≤ 8 by
          first
          | (
             first | assumption | omega | rfl)
          | fail "q9") (show qx = qx by
          first
          | (
             first | assumption | omega | rfl)
          | fail "q9") (show qy = qy by
          first
          | (
             first | assumption | omega | rfl)
          | fail "q9") (show qhx = qhx by
          first
          | (
             first | assumption | omega | rfl)
          | fail "q9") (show qhy = qhy by
          first
          | (
             first | assumption | omega | rfl)
          | fail "q9") (show sl = mn sl (lstI (fun p => gaN st sx sy 3 (stp + 1) p (qx + (qhx + (st stp * toSide p - sx stp))) (qy + (qhy + (st stp * upward p - sy stp))) (qhx + (st stp * toSide p - sx stp)) (qhy + (st stp * upward p - sy stp))) (fun p => decide (fitP be p)) 0) by
          first
          | (
             exact (mn_max hsl.2).symm)
          | fail "q9") (show 0 ≤ sl ∧ sl ≤ 2147483647 by
          first
          | (
             first | assumption | omega | rfl)
          | fail "q9") (by omega) _ _ hP hD hS ls (lv_sub hl [0, 1, 2, 3] rfl)
    · skip
      exfalso; omega
  rw [hH, hlo, hQ9] at goal_
  exact goal_

set_option maxHeartbeats 4000000 in
set_option maxRecDepth 100000 in
theorem c_X8_searchFrom0 (l : Launch) (g : xg) (sz : Nat) (aS aQ aSt aSx aSy : Nat) (sr sl qx qy qhx qhy stp be : Int) (st sx sy : Int → Int) (hsr : 0 ≤ sr ∧ sr ≤ 4) (hsd : sr - stp = 0) (hstp : 0 ≤ stp) (hbe : -1 ≤ be ∧ be ≤ 7) (hqx : -728500 ≤ qx ∧ qx ≤ 728500) (hqy : -728500 ≤ qy ∧ qy ≤ 728500) (hqhx : -3056 ≤ qhx ∧ qhx ≤ 3056) (hqhy : -3056 ≤ qhy ∧ qhy ≤ 3056) (hsl : 0 ≤ sl ∧ sl ≤ 2147483647) (hb_st : bnd st 0 9) (hb_sx : bnd sx (-5) 5) (hb_sy : bnd sy (-5) 5) : Met l yX8_searchFrom wsX8_searchFrom { frames := 3, cells := 0, slots := 0, locals := 62 } (va_Pc [.ref aS, .int (iI stp), .int (iI be)] (xB g [(aS, .inr (6, [.ref aQ, .ref aSt, .ref aSx, .ref aSy, .int (iI sr), .int (iI sl)])), (aQ, .inr (2, [.int (iI qx), .int (iI qy), .int (iI qhx), .int (iI qhy)])), (aSt, .inl (gI g, 4, .inl (ar st))), (aSx, .inl (gI g, 4, .inl (ar sx))), (aSy, .inl (gI g, 4, .inl (ar sy)))] sz)) (va_Qv (fun (u : Unit) => True) (fun u t => xE g (va_A [(aS, .inr (6, [.ref aQ, .ref aSt, .ref aSx, .ref aSy, .int (iI sr), .int (iI sl)])), (aQ, .inr (2, [.int (iI qx), .int (iI qy), .int (iI qhx), .int (iI qhy)])), (aSt, .inl (gI g, 4, .inl (ar st))), (aSx, .inl (gI g, 4, .inl (ar sx))), (aSy, .inl (gI g, 4, .inl (ar sy)))] sz) ((fun (u : Unit) => [(aS, .inr (6, [.ref aQ, .ref aSt, .ref aSx, .ref aSy, .int (iI sr), .int (iI (mn sl (gaN st sx sy 0 stp be qx qy qhx qhy)))])), (aQ, .inr (2, [.int (iI qx), .int (iI qy), .int (iI qhx), .int (iI qhy)])), (aSt, .inl (gI g, 4, .inl (ar st))), (aSx, .inl (gI g, 4, .inl (ar sx))), (aSy, .inl (gI g, 4, .inl (ar sy)))]) u) t) (va_A [(aS, .inr (6, [.ref aQ, .ref aSt, .ref aSx, .ref aSy, .int (iI sr), .int (iI sl)])), (aQ, .inr (2, [.int (iI qx), .int (iI qy), .int (iI qhx), .int (iI qhy)])), (aSt, .inl (gI g, 4, .inl (ar st))), (aSx, .inl (gI g, 4, .inl (ar sx))), (aSy, .inl (gI g, 4, .inl (ar sy)))] sz)) 0 0 (va_A [(aS, .inr (6, [.ref aQ, .ref aSt, .ref aSx, .ref aSy, .int (iI sr), .int (iI sl)])), (aQ, .inr (2, [.int (iI qx), .int (iI qy), .int (iI qhx), .int (iI qhy)])), (aSt, .inl (gI g, 4, .inl (ar st))), (aSx, .inl (gI g, 4, .inl (ar sx))), (aSy, .inl (gI g, 4, .inl (ar sy)))] sz) := by
  refine x_enter (y := yX8_searchFrom) (ws := wsX8_searchFrom) (g := g) (sz := sz) (av := [.ref aS, .int (iI stp), .int (iI be)]) (WS := [(aS, .inr (6, [.ref aQ, .ref aSt, .ref aSx, .ref aSy, .int (iI sr), .int (iI sl)])), (aQ, .inr (2, [.int (iI qx), .int (iI qy), .int (iI qhx), .int (iI qhy)])), (aSt, .inl (gI g, 4, .inl (ar st))), (aSx, .inl (gI g, 4, .inl (ar sx))), (aSy, .inl (gI g, 4, .inl (ar sy)))]) (cc := cX8_searchFrom) (maxL := 4) (ret := none) (Qc := (fun A => (va_Qv (fun (u : Unit) => True) (fun u t => xE g A ((fun (u : Unit) => [(aS, .inr (6, [.ref aQ, .ref aSt, .ref aSx, .ref aSy, .int (iI sr), .int (iI (mn sl (gaN st sx sy 0 stp be qx qy qhx qhy)))])), (aQ, .inr (2, [.int (iI qx), .int (iI qy), .int (iI qhx), .int (iI qhy)])), (aSt, .inl (gI g, 4, .inl (ar st))), (aSx, .inl (gI g, 4, .inl (ar sx))), (aSy, .inl (gI g, 4, .inl (ar sy)))]) u) t) A))) (by decide) rfl (Nat.le_of_ble_eq_true rfl) ?_
  intro p e s m args below meth c A ls hx hb hr hml hown hts hlocks hname hC hP hD hS hA hl
  have hK := hC.1
  have hown : s.vm.findClass RX8 = some m.cls := hown
  have hin4 : ∀ w ∈ u_ws RX4 TX4 6, w ∈ wsX8_searchFrom := by decide +kernel
  have hl : lv_has ls 4 [(0, .ref aS), (1, .int (iI stp)), (2, .int (iI be))] := hl
  obtain ⟨H, hH⟩ : ∃ z, z = s.heap := ⟨_, rfl⟩
  obtain ⟨locs, hlo⟩ : ∃ z : List Loc, z = [] := ⟨_, rfl⟩
  obtain ⟨Q9, hQ9⟩ : ∃ z, z = MQ below (va_Qv (fun (u : Unit) => True) (fun u t => xE g A ((fun (u : Unit) => [(aS, .inr (6, [.ref aQ, .ref aSt, .ref aSx, .ref aSy, .int (iI sr), .int (iI (mn sl (gaN st sx sy 0 stp be qx qy qhx qhy)))])), (aQ, .inr (2, [.int (iI qx), .int (iI qy), .int (iI qhx), .int (iI qhy)])), (aSt, .inl (gI g, 4, .inl (ar st))), (aSx, .inl (gI g, 4, .inl (ar sx))), (aSy, .inl (gI g, 4, .inl (ar sy)))]) u) t) A) args s 0 0 A := ⟨_, rfl⟩
  have hP : va_P (gD g) vwCl [(aS, .inr (6, [.ref aQ, .ref aSt, .ref aSx, .ref aSy, .int (iI sr), .int (iI sl)])), (aQ, .inr (2, [.int (iI qx), .int (iI qy), .int (iI qhx), .int (iI qhy)])), (aSt, .inl (gI g, 4, .inl (ar st))), (aSx, .inl (gI g, 4, .inl (ar sx))), (aSy, .inl (gI g, 4, .inl (ar sy)))] H := by rw [hH]; exact hP
  have hS : va_S A s.heap H locs := by rw [hH, hlo]; exact hS
  have goal_ : W p l e { frames := 3, cells := 0, slots := 0, locals := 62 } s m args below meth c H locs 0 0 Q9 (F0 m 0 ls []) := by
    clear hH hlo
    refine lv_iload_n hx hb dX8_searchFrom_0 rfl (lv_at hl 1 rfl) ?_
    refine lv_aload_n hx hb dX8_searchFrom_1 rfl (lv_at hl 0 rfl) ?_
    refine va_get (D := gD g) (ci := 6) (v := .int (iI sr)) (C := RX4) (T := TX4) (N := 6) hx hb hts hin4 hown hK hP 0 rfl rfl 4 (by decide) (hts (.fieldLink RX8 372 "TunnelRing$Search" "rings" "I") (List.mem_of_getElem? (i := 1) rfl)) (fun _ h9 => h9) rfl dX8_searchFrom_2 ?_
    refine x_cmp_lt (tgt := 13) hx hb (by omega) (by omega) dX8_searchFrom_5 (by decide) (fun c_1 => ?_) (fun c_1 => ?_)
    · skip
      exfalso; omega
    · skip
      refine lv_aload_n hx hb dX8_searchFrom_8 rfl (lv_at hl 0 rfl) ?_
      refine x_callv (S := Unit) (wc := [(aS, .inr (6, [.ref aQ, .ref aSt, .ref aSx, .ref aSy, .int (iI sr), .int (iI sl)])), (aQ, .inr (2, [.int (iI qx), .int (iI qy), .int (iI qhx), .int (iI qhy)]))]) (wr := [(aSt, .inl (gI g, 4, .inl (ar st))), (aSx, .inl (gI g, 4, .inl (ar sx))), (aSy, .inl (gI g, 4, .inl (ar sy)))]) hC hP hD hS hA [0, 1] [2, 3, 4] [3, 4, 0, 1, 2] rfl rfl (fun hpre => va_runV (As := []) (rest := []) ⟨hx, hb, hml, hown, hts⟩ (c_X4_note l g H.size aS aQ aSt aSx aSy sr sl qx qy qhx qhy (by first | (first | assumption | omega | exact bnd_up (by assumption) (by omega) (by omega)) | fail "q8") (by first | (first | assumption | omega | exact bnd_up (by assumption) (by omega) (by omega)) | fail "q8") (by first | (first | assumption | omega | exact bnd_up (by assumption) (by omega) (by omega)) | fail "q8")) (cwV 0 hts gX8_searchFrom_X4_note rfl rfl rfl (by decide +kernel) ⟨Nat.le_of_ble_eq_true rfl, Nat.le_of_ble_eq_true rfl⟩) ⟨xB_blind, va_recv hK hP (ci := 6) (q0 := 0) rfl rfl, hpre _⟩ rfl rfl hl.1 rfl (lv_room (Nat.le_of_ble_eq_true rfl)) dX8_searchFrom_9 ⟨Nat.le_of_ble_eq_true rfl, Nat.le_of_ble_eq_true rfl⟩) (fun (u : Unit) => [(aS, .inr (6, [.ref aQ, .ref aSt, .ref aSx, .ref aSy, .int (iI sr), .int (iI (mn sl (aI qx + aI qy)))])), (aQ, .inr (2, [.int (iI qx), .int (iI qy), .int (iI qhx), .int (iI qhy)])), (aSt, .inl (gI g, 4, .inl (ar st))), (aSx, .inl (gI g, 4, .inl (ar sx))), (aSy, .inl (gI g, 4, .inl (ar sy)))]) rfl rfl (by decide) (fun _ => rfl) rfl (fun u H locs hv_2 hP hD hS => ?_)
      have hP : va_P (gD g) vwCl [(aS, .inr (6, [.ref aQ, .ref aSt, .ref aSx, .ref aSy, .int (iI sr), .int (iI (mn sl (aI qx + aI qy)))])), (aQ, .inr (2, [.int (iI qx), .int (iI qy), .int (iI qhx), .int (iI qhy)])), (aSt, .inl (gI g, 4, .inl (ar st))), (aSx, .inl (gI g, 4, .inl (ar sx))), (aSy, .inl (gI g, 4, .inl (ar sy)))] H := hP
      have hD : va_D A [(aS, .inr (6, [.ref aQ, .ref aSt, .ref aSx, .ref aSy, .int (iI sr), .int (iI (mn sl (aI qx + aI qy)))])), (aQ, .inr (2, [.int (iI qx), .int (iI qy), .int (iI qhx), .int (iI qhy)])), (aSt, .inl (gI g, 4, .inl (ar st))), (aSx, .inl (gI g, 4, .inl (ar sx))), (aSy, .inl (gI g, 4, .inl (ar sy)))] := hD
      have q_3 : (mn sl (gaN st sx sy 0 stp be qx qy qhx qhy)) = (mn sl (aI qx + aI qy)) := by
        first
        | (
           rfl)
        | fail "q9"
      have hw_4 := (congrArg (fun (z0 : Int) => ([(aS, .inr (6, [.ref aQ, .ref aSt, .ref aSx, .ref aSy, .int (iI sr), .int (iI z0)])), (aQ, .inr (2, [.int (iI qx), .int (iI qy), .int (iI qhx), .int (iI qhy)])), (aSt, .inl (gI g, 4, .inl (ar st))), (aSx, .inl (gI g, 4, .inl (ar sx))), (aSy, .inl (gI g, 4, .inl (ar sy)))] : va_W)) q_3.symm)
      rw [hQ9]
      exact x_vret hx hb hr hlocks hP hD hS (S := Unit) (Φ := _) (W1 := _) dX8_searchFrom_12 () trivial hw_4 (Nat.le_of_ble_eq_true rfl) (Nat.le_of_ble_eq_true rfl)
  rw [hH, hlo, hQ9] at goal_
  exact goal_

set_option maxHeartbeats 4000000 in
set_option maxRecDepth 100000 in
theorem c_X8_searchFrom1 (l : Launch) (g : xg) (sz : Nat) (aS aQ aSt aSx aSy : Nat) (sr sl qx qy qhx qhy stp be : Int) (st sx sy : Int → Int) (hsr : 0 ≤ sr ∧ sr ≤ 4) (hsd : sr - stp = 1) (hstp : 0 ≤ stp) (hbe : -1 ≤ be ∧ be ≤ 7) (hqx : -724500 ≤ qx ∧ qx ≤ 724500) (hqy : -724500 ≤ qy ∧ qy ≤ 724500) (hqhx : -3042 ≤ qhx ∧ qhx ≤ 3042) (hqhy : -3042 ≤ qhy ∧ qhy ≤ 3042) (hsl : 0 ≤ sl ∧ sl ≤ 2147483647) (hb_st : bnd st 0 9) (hb_sx : bnd sx (-5) 5) (hb_sy : bnd sy (-5) 5) : Met l yX8_searchFrom wsX8_searchFrom { frames := 4, cells := 0, slots := 0, locals := 85 } (va_Pc [.ref aS, .int (iI stp), .int (iI be)] (xB g [(aS, .inr (6, [.ref aQ, .ref aSt, .ref aSx, .ref aSy, .int (iI sr), .int (iI sl)])), (aQ, .inr (2, [.int (iI qx), .int (iI qy), .int (iI qhx), .int (iI qhy)])), (aSt, .inl (gI g, 4, .inl (ar st))), (aSx, .inl (gI g, 4, .inl (ar sx))), (aSy, .inl (gI g, 4, .inl (ar sy)))] sz)) (va_Qv (fun (u : Unit) => True) (fun u t => xE g (va_A [(aS, .inr (6, [.ref aQ, .ref aSt, .ref aSx, .ref aSy, .int (iI sr), .int (iI sl)])), (aQ, .inr (2, [.int (iI qx), .int (iI qy), .int (iI qhx), .int (iI qhy)])), (aSt, .inl (gI g, 4, .inl (ar st))), (aSx, .inl (gI g, 4, .inl (ar sx))), (aSy, .inl (gI g, 4, .inl (ar sy)))] sz) ((fun (u : Unit) => [(aS, .inr (6, [.ref aQ, .ref aSt, .ref aSx, .ref aSy, .int (iI sr), .int (iI (mn sl (gaN st sx sy 1 stp be qx qy qhx qhy)))])), (aQ, .inr (2, [.int (iI qx), .int (iI qy), .int (iI qhx), .int (iI qhy)])), (aSt, .inl (gI g, 4, .inl (ar st))), (aSx, .inl (gI g, 4, .inl (ar sx))), (aSy, .inl (gI g, 4, .inl (ar sy)))]) u) t) (va_A [(aS, .inr (6, [.ref aQ, .ref aSt, .ref aSx, .ref aSy, .int (iI sr), .int (iI sl)])), (aQ, .inr (2, [.int (iI qx), .int (iI qy), .int (iI qhx), .int (iI qhy)])), (aSt, .inl (gI g, 4, .inl (ar st))), (aSx, .inl (gI g, 4, .inl (ar sx))), (aSy, .inl (gI g, 4, .inl (ar sy)))] sz)) 0 0 (va_A [(aS, .inr (6, [.ref aQ, .ref aSt, .ref aSx, .ref aSy, .int (iI sr), .int (iI sl)])), (aQ, .inr (2, [.int (iI qx), .int (iI qy), .int (iI qhx), .int (iI qhy)])), (aSt, .inl (gI g, 4, .inl (ar st))), (aSx, .inl (gI g, 4, .inl (ar sx))), (aSy, .inl (gI g, 4, .inl (ar sy)))] sz) := by
  refine x_enter (y := yX8_searchFrom) (ws := wsX8_searchFrom) (g := g) (sz := sz) (av := [.ref aS, .int (iI stp), .int (iI be)]) (WS := [(aS, .inr (6, [.ref aQ, .ref aSt, .ref aSx, .ref aSy, .int (iI sr), .int (iI sl)])), (aQ, .inr (2, [.int (iI qx), .int (iI qy), .int (iI qhx), .int (iI qhy)])), (aSt, .inl (gI g, 4, .inl (ar st))), (aSx, .inl (gI g, 4, .inl (ar sx))), (aSy, .inl (gI g, 4, .inl (ar sy)))]) (cc := cX8_searchFrom) (maxL := 4) (ret := none) (Qc := (fun A => (va_Qv (fun (u : Unit) => True) (fun u t => xE g A ((fun (u : Unit) => [(aS, .inr (6, [.ref aQ, .ref aSt, .ref aSx, .ref aSy, .int (iI sr), .int (iI (mn sl (gaN st sx sy 1 stp be qx qy qhx qhy)))])), (aQ, .inr (2, [.int (iI qx), .int (iI qy), .int (iI qhx), .int (iI qhy)])), (aSt, .inl (gI g, 4, .inl (ar st))), (aSx, .inl (gI g, 4, .inl (ar sx))), (aSy, .inl (gI g, 4, .inl (ar sy)))]) u) t) A))) (by decide) rfl (Nat.le_of_ble_eq_true rfl) ?_
  intro p e s m args below meth c A ls hx hb hr hml hown hts hlocks hname hC hP hD hS hA hl
  have hK := hC.1
  have hown : s.vm.findClass RX8 = some m.cls := hown
  have hin4 : ∀ w ∈ u_ws RX4 TX4 6, w ∈ wsX8_searchFrom := by decide +kernel
  have hl : lv_has ls 4 [(0, .ref aS), (1, .int (iI stp)), (2, .int (iI be))] := hl
  obtain ⟨H, hH⟩ : ∃ z, z = s.heap := ⟨_, rfl⟩
  obtain ⟨locs, hlo⟩ : ∃ z : List Loc, z = [] := ⟨_, rfl⟩
  obtain ⟨Q9, hQ9⟩ : ∃ z, z = MQ below (va_Qv (fun (u : Unit) => True) (fun u t => xE g A ((fun (u : Unit) => [(aS, .inr (6, [.ref aQ, .ref aSt, .ref aSx, .ref aSy, .int (iI sr), .int (iI (mn sl (gaN st sx sy 1 stp be qx qy qhx qhy)))])), (aQ, .inr (2, [.int (iI qx), .int (iI qy), .int (iI qhx), .int (iI qhy)])), (aSt, .inl (gI g, 4, .inl (ar st))), (aSx, .inl (gI g, 4, .inl (ar sx))), (aSy, .inl (gI g, 4, .inl (ar sy)))]) u) t) A) args s 0 0 A := ⟨_, rfl⟩
  have hP : va_P (gD g) vwCl [(aS, .inr (6, [.ref aQ, .ref aSt, .ref aSx, .ref aSy, .int (iI sr), .int (iI sl)])), (aQ, .inr (2, [.int (iI qx), .int (iI qy), .int (iI qhx), .int (iI qhy)])), (aSt, .inl (gI g, 4, .inl (ar st))), (aSx, .inl (gI g, 4, .inl (ar sx))), (aSy, .inl (gI g, 4, .inl (ar sy)))] H := by rw [hH]; exact hP
  have hS : va_S A s.heap H locs := by rw [hH, hlo]; exact hS
  have goal_ : W p l e { frames := 4, cells := 0, slots := 0, locals := 85 } s m args below meth c H locs 0 0 Q9 (F0 m 0 ls []) := by
    clear hH hlo
    refine lv_iload_n hx hb dX8_searchFrom_0 rfl (lv_at hl 1 rfl) ?_
    refine lv_aload_n hx hb dX8_searchFrom_1 rfl (lv_at hl 0 rfl) ?_
    refine va_get (D := gD g) (ci := 6) (v := .int (iI sr)) (C := RX4) (T := TX4) (N := 6) hx hb hts hin4 hown hK hP 0 rfl rfl 4 (by decide) (hts (.fieldLink RX8 372 "TunnelRing$Search" "rings" "I") (List.mem_of_getElem? (i := 1) rfl)) (fun _ h9 => h9) rfl dX8_searchFrom_2 ?_
    refine x_cmp_lt (tgt := 13) hx hb (by omega) (by omega) dX8_searchFrom_5 (by decide) (fun c_1 => ?_) (fun c_1 => ?_)
    · skip
      refine lv_aload_n hx hb dX8_searchFrom_13 rfl (lv_at hl 0 rfl) ?_
      refine lv_iload_n hx hb dX8_searchFrom_14 rfl (lv_at hl 1 rfl) ?_
      refine x_calli (S := Unit) (wc := [(aS, .inr (6, [.ref aQ, .ref aSt, .ref aSx, .ref aSy, .int (iI sr), .int (iI sl)])), (aQ, .inr (2, [.int (iI qx), .int (iI qy), .int (iI qhx), .int (iI qhy)])), (aSt, .inl (gI g, 4, .inl (ar st))), (aSx, .inl (gI g, 4, .inl (ar sx))), (aSy, .inl (gI g, 4, .inl (ar sy)))]) (wr := []) hC hP hD hS hA [0, 1, 2, 3, 4] [] [0, 1, 2, 3, 4] rfl rfl (fun hpre => va_runV (As := [.int (iI stp)]) (rest := []) ⟨hx, hb, hml, hown, hts⟩ (c_X4_atLeast l g H.size aS aQ aSt aSx aSy sr sl qx qy qhx qhy stp st sx sy (by first | (first | assumption | omega | exact bnd_up (by assumption) (by omega) (by omega)) | fail "q8") (by first | (first | assumption | omega | exact bnd_up (by assumption) (by omega) (by omega)) | fail "q8") (by first | (first | assumption | omega | exact bnd_up (by assumption) (by omega) (by omega)) | fail "q8") (by first | (first | assumption | omega | exact bnd_up (by assumption) (by omega) (by omega)) | fail "q8") (by first | (first | assumption | omega | exact bnd_up (by assumption) (by omega) (by omega)) | fail "q8") (by first | (first | assumption | omega | exact bnd_up (by assumption) (by omega) (by omega)) | fail "q8") (by first | (first | assumption | omega | exact bnd_up (by assumption) (by omega) (by omega)) | fail "q8") (by first | (first | assumption | omega | exact bnd_up (by assumption) (by omega) (by omega)) | fail "q8") (by first | (first | assumption | omega | exact bnd_up (by assumption) (by omega) (by omega)) | fail "q8")) (cwV 1 hts gX8_searchFrom_X4_atLeast rfl rfl rfl (by decide +kernel) ⟨Nat.le_of_ble_eq_true rfl, Nat.le_of_ble_eq_true rfl⟩) ⟨xB_blind, va_recv hK hP (ci := 6) (q0 := 0) rfl rfl, hpre _⟩ rfl rfl hl.1 rfl (lv_room (Nat.le_of_ble_eq_true rfl)) dX8_searchFrom_15 ⟨Nat.le_of_ble_eq_true rfl, Nat.le_of_ble_eq_true rfl⟩) (fun (u : Unit) => [(aS, .inr (6, [.ref aQ, .ref aSt, .ref aSx, .ref aSy, .int (iI sr), .int (iI sl)])), (aQ, .inr (2, [.int (iI qx), .int (iI qy), .int (iI qhx), .int (iI qhy)])), (aSt, .inl (gI g, 4, .inl (ar st))), (aSx, .inl (gI g, 4, .inl (ar sx))), (aSy, .inl (gI g, 4, .inl (ar sy)))]) rfl rfl (by decide) (fun _ => rfl) rfl (fun u v_2 H locs hv_2 pv_2 hP hD hS => ?_)
      have hP : va_P (gD g) vwCl [(aS, .inr (6, [.ref aQ, .ref aSt, .ref aSx, .ref aSy, .int (iI sr), .int (iI sl)])), (aQ, .inr (2, [.int (iI qx), .int (iI qy), .int (iI qhx), .int (iI qhy)])), (aSt, .inl (gI g, 4, .inl (ar st))), (aSx, .inl (gI g, 4, .inl (ar sx))), (aSy, .inl (gI g, 4, .inl (ar sy)))] H := hP
      have hD : va_D A [(aS, .inr (6, [.ref aQ, .ref aSt, .ref aSx, .ref aSy, .int (iI sr), .int (iI sl)])), (aQ, .inr (2, [.int (iI qx), .int (iI qy), .int (iI qhx), .int (iI qhy)])), (aSt, .inl (gI g, 4, .inl (ar st))), (aSx, .inl (gI g, 4, .inl (ar sx))), (aSy, .inl (gI g, 4, .inl (ar sy)))] := hD
      have hv_2 : v_2 = mx 0 (aI (qx + (sr - stp) * qhx - (sumI (fun k => (sr - k) * sx k) sr - sumI (fun k => (sr - k) * sx k) stp)) - (sumI (fun k => (sr - k) * st k) sr - sumI (fun k => (sr - k) * st k) stp)) + mx 0 (aI (qy + (sr - stp) * qhy - (sumI (fun k => (sr - k) * sy k) sr - sumI (fun k => (sr - k) * sy k) stp)) - (sumI (fun k => (sr - k) * st k) sr - sumI (fun k => (sr - k) * st k) stp)) := hv_2
      have hal9 := hv_2
      have hab9 := atL_b hsr (by omega) (by omega) (by omega) (by omega) (by omega) hb_st hb_sx hb_sy hal9
      refine lv_aload_n hx hb dX8_searchFrom_18 rfl (lv_at hl 0 rfl) ?_
      refine va_get (D := gD g) (ci := 6) (v := .int (iI sl)) (C := RX4) (T := TX4) (N := 6) hx hb hts hin4 hown hK hP 0 rfl rfl 5 (by decide) (hts (.fieldLink RX8 271 "TunnelRing$Search" "least" "I") (List.mem_of_getElem? (i := 2) rfl)) (fun _ h9 => h9) rfl dX8_searchFrom_19 ?_
      refine x_cmp_lt (tgt := 26) hx hb (by omega) (by omega) dX8_searchFrom_22 (by decide) (fun c_3 => ?_) (fun c_3 => ?_)
      · skip
        refine x_iconst hx hb dX8_searchFrom_26 ?_
        refine lv_istore_n (lv' := [(3, .int (iI 0)), (0, .ref aS), (1, .int (iI stp)), (2, .int (iI be))]) hx hb dX8_searchFrom_27 rfl hl (by decide) rfl (fun ls hl => ?_)
        have lp28 : ∀ (n : Nat) (zk : Int) (zl : Int) (zqx : Int) (zqy : Int) (zqhx : Int) (zqhy : Int), (0 ≤ zk ∧ zk ≤ 8) → (zqx = qx) → (zqy = qy) → (zqhx = qhx) → (zqhy = qhy) → (zl = mn sl (lstI (fun p => gaN st sx sy 0 (stp + 1) p (qx + (qhx + (st stp * toSide p - sx stp))) (qy + (qhy + (st stp * upward p - sy stp))) (qhx + (st stp * toSide p - sx stp)) (qhy + (st stp * upward p - sy stp))) (fun p => decide (fitP be p)) zk)) → (0 ≤ zl ∧ zl ≤ 2147483647) → 8 - zk + 1 ≤ (n : Int) → ∀ (H : Heap) (locs : List Loc), va_P (gD g) vwCl [(aS, .inr (6, [.ref aQ, .ref aSt, .ref aSx, .ref aSy, .int (iI sr), .int (iI zl)])), (aQ, .inr (2, [.int (iI zqx), .int (iI zqy), .int (iI zqhx), .int (iI zqhy)])), (aSt, .inl (gI g, 4, .inl (ar st))), (aSx, .inl (gI g, 4, .inl (ar sx))), (aSy, .inl (gI g, 4, .inl (ar sy)))] H → va_D A [(aS, .inr (6, [.ref aQ, .ref aSt, .ref aSx, .ref aSy, .int (iI sr), .int (iI zl)])), (aQ, .inr (2, [.int (iI zqx), .int (iI zqy), .int (iI zqhx), .int (iI zqhy)])), (aSt, .inl (gI g, 4, .inl (ar st))), (aSx, .inl (gI g, 4, .inl (ar sx))), (aSy, .inl (gI g, 4, .inl (ar sy)))] → va_S A s.heap H locs → ∀ (ls : Array Slot), lv_has ls 4 [(3, .int (iI zk)), (0, .ref aS), (1, .int (iI stp)), (2, .int (iI be))] → W p l e { frames := 4, cells := 0, slots := 0, locals := 85 } s m args below meth c H locs 0 0 Q9 (F0 m 28 ls []) := by
          intro n
          induction n with
          | zero => intro zk zl zqx zqy zqhx zqhy hzk hzqx hzqy hzqhx hzqhy hzl hzr hm; exfalso; omega
          | succ n ih28 =>
            intro zk zl zqx zqy zqhx zqhy hzk hzqx hzqy hzqhx hzqhy hzl hzr hm H locs hP hD hS ls hl
            refine lv_iload_n hx hb dX8_searchFrom_28 rfl (lv_at hl 0 rfl) ?_
            refine va_gets hx hb hC.2.1.1 hS hown (hts (.fieldLink RX8 260 "TunnelRing" "TO_SIDE" "[I") (List.mem_of_getElem? (i := 3) rfl)) (fun _ h9 => h9) dX8_searchFrom_29 ?_
            refine va_tlen hx hb hC.2.1.2 hS (v := iI 8) (by decide) dX8_searchFrom_32 ?_
            refine x_cmp_ge (tgt := 70) hx hb (by omega) (by omega) dX8_searchFrom_33 (by decide) (fun c_4 => ?_) (fun c_4 => ?_)
            · skip
              have q_5 : (mn sl (gaN st sx sy 1 stp be qx qy qhx qhy)) = zl := by
                first
                | (
                   first | (show mn sl (lstI (fun p => gaN st sx sy 0 (stp + 1) p (qx + (qhx + (st stp * toSide p - sx stp))) (qy + (qhy + (st stp * upward p - sy stp))) (qhx + (st stp * toSide p - sx stp)) (qhy + (st stp * upward p - sy stp))) (fun p => decide (fitP be p)) 8) = zl; rw [show (8 : Int) = zk by omega]; exact hzl.symm) | (have hlb := lbN (st := st) (sx := sx) (sy := sy) hb_st 1 stp be qx qy qhx qhy; have s1 := alN_sum (F := sx) (sr := sr) 1 stp hstp (by omega); have s2 := alN_sum (F := sy) (sr := sr) 1 stp hstp (by omega); have s3 := alN_sum (F := st) (sr := sr) 1 stp hstp (by omega); rw [s1, s2, s3, show sr - stp = ((1 : Nat) : Int) by omega] at hal9; rw [← hal9] at hlb; exact mn_left (by unfold mn at hlb; split at hlb <;> omega)))
                | fail "q9"
              have q_6 : qx = zqx := by
                first
                | (
                   omega)
                | fail "q9"
              have q_7 : qy = zqy := by
                first
                | (
                   omega)
                | fail "q9"
              have q_8 : qhx = zqhx := by
                first
                | (
                   omega)
                | fail "q9"
              have q_9 : qhy = zqhy := by
                first
                | (
                   omega)
                | fail "q9"
              have hw_10 := (congr (congr (congr (congr (congrArg (fun (z0 : Int) (z1 : Int) (z2 : Int) (z3 : Int) (z4 : Int) => ([(aS, .inr (6, [.ref aQ, .ref aSt, .ref aSx, .ref aSy, .int (iI sr), .int (iI z0)])), (aQ, .inr (2, [.int (iI z1), .int (iI z2), .int (iI z3), .int (iI z4)])), (aSt, .inl (gI g, 4, .inl (ar st))), (aSx, .inl (gI g, 4, .inl (ar sx))), (aSy, .inl (gI g, 4, .inl (ar sy)))] : va_W)) q_5.symm) q_6.symm) q_7.symm) q_8.symm) q_9.symm)
              rw [hQ9]
              exact x_vret hx hb hr hlocks hP hD hS (S := Unit) (Φ := _) (W1 := _) dX8_searchFrom_70 () trivial hw_10 (Nat.le_of_ble_eq_true rfl) (Nat.le_of_ble_eq_true rfl)
            · skip
              refine lv_iload_n hx hb dX8_searchFrom_36 rfl (lv_at hl 3 rfl) ?_
              refine lv_iload_n hx hb dX8_searchFrom_37 rfl (lv_at hl 0 rfl) ?_
              refine x_calli (S := Unit) (wc := []) (wr := [(aS, .inr (6, [.ref aQ, .ref aSt, .ref aSx, .ref aSy, .int (iI sr), .int (iI zl)])), (aQ, .inr (2, [.int (iI zqx), .int (iI zqy), .int (iI zqhx), .int (iI zqhy)])), (aSt, .inl (gI g, 4, .inl (ar st))), (aSx, .inl (gI g, 4, .inl (ar sx))), (aSy, .inl (gI g, 4, .inl (ar sy)))]) hC hP hD hS hA [] [0, 1, 2, 3, 4] [0, 1, 2, 3, 4] rfl rfl (fun hpre => va_runS (As := [.int (iI be), .int (iI zk)]) (rest := []) ⟨hx, hb, hml, hown, hts⟩ (c_X8_fits l g H.size be zk (by first | (first | assumption | omega | exact bnd_up (by assumption) (by omega) (by omega)) | fail "q8") (by first | (first | assumption | omega | exact bnd_up (by assumption) (by omega) (by omega)) | fail "q8")) (va_cwS 2 hts gX8_searchFrom_X8_fits rfl rfl rfl (by decide +kernel) ⟨Nat.le_of_ble_eq_true rfl, Nat.le_of_ble_eq_true rfl⟩) ⟨xB_blind, hpre _⟩ rfl rfl hl.1 rfl (lv_room (Nat.le_of_ble_eq_true rfl)) dX8_searchFrom_38 ⟨Nat.le_of_ble_eq_true rfl, Nat.le_of_ble_eq_true rfl⟩) (fun (u : Unit) => [(aS, .inr (6, [.ref aQ, .ref aSt, .ref aSx, .ref aSy, .int (iI sr), .int (iI zl)])), (aQ, .inr (2, [.int (iI zqx), .int (iI zqy), .int (iI zqhx), .int (iI zqhy)])), (aSt, .inl (gI g, 4, .inl (ar st))), (aSx, .inl (gI g, 4, .inl (ar sx))), (aSy, .inl (gI g, 4, .inl (ar sy)))]) rfl rfl (by decide) (fun _ => rfl) rfl (fun u v_11 H locs hv_11 pv_11 hP hD hS => ?_)
              have hP : va_P (gD g) vwCl [(aS, .inr (6, [.ref aQ, .ref aSt, .ref aSx, .ref aSy, .int (iI sr), .int (iI zl)])), (aQ, .inr (2, [.int (iI zqx), .int (iI zqy), .int (iI zqhx), .int (iI zqhy)])), (aSt, .inl (gI g, 4, .inl (ar st))), (aSx, .inl (gI g, 4, .inl (ar sx))), (aSy, .inl (gI g, 4, .inl (ar sy)))] H := hP
              have hD : va_D A [(aS, .inr (6, [.ref aQ, .ref aSt, .ref aSx, .ref aSy, .int (iI sr), .int (iI zl)])), (aQ, .inr (2, [.int (iI zqx), .int (iI zqy), .int (iI zqhx), .int (iI zqhy)])), (aSt, .inl (gI g, 4, .inl (ar st))), (aSx, .inl (gI g, 4, .inl (ar sx))), (aSy, .inl (gI g, 4, .inl (ar sy)))] := hD
              have hv_11 : v_11 = bI (fitP be zk) := hv_11
              refine x_top hv_11 ?_
              refine x_ifb_eq (tgt := 64) (P := fitP be zk) hx hb dX8_searchFrom_41 (by decide) (fun c_12 => ?_) (fun c_12 => ?_)
              · skip
                refine x_iinc (k := 0) (lv' := [(3, .int (iI (zk + 1))), (0, .ref aS), (1, .int (iI stp)), (2, .int (iI be))]) hx hb dX8_searchFrom_64 hl rfl (by decide) rfl (fun ls hl => ?_)
                refine lv_goto (tgt := 28) hx hb dX8_searchFrom_67 (by decide) ?_
                exact ih28 (zk + 1) zl zqx zqy zqhx zqhy (show 0 ≤ (zk + 1) ∧ (zk + 1) ≤ 8 by
                    first
                    | (
                       first | assumption | omega | rfl)
                    | fail "q9") (show zqx = qx by
                    first
                    | (
                       first | assumption | omega | rfl)
                    | fail "q9") (show zqy = qy by
                    first
                    | (
                       first | assumption | omega | rfl)
                    | fail "q9") (show zqhx = qhx by
                    first
                    | (
                       first | assumption | omega | rfl)
                    | fail "q9") (show zqhy = qhy by
                    first
                    | (
                       first | assumption | omega | rfl)
                    | fail "q9") (show zl = mn sl (lstI (fun p => gaN st sx sy 0 (stp + 1) p (qx + (qhx + (st stp * toSide p - sx stp))) (qy + (qhy + (st stp * upward p - sy stp))) (qhx + (st stp * toSide p - sx stp)) (qhy + (st stp * upward p - sy stp))) (fun p => decide (fitP be p)) (zk + 1)) by
                    first
                    | (
                       rw [lstI_step _ _ (by omega)]
                       simp only [decide_eq_true_eq]
                       first | (rw [if_pos (by omega), hzl, mn_assoc, hzqx, hzqy, hzqhx, hzqhy]) | (rw [if_neg (by omega)]; assumption))
                    | fail "q9") (show 0 ≤ zl ∧ zl ≤ 2147483647 by
                    first
                    | (
                       first | assumption | (have g1 := gaN_nn st sx sy 0 (stp + 1) zk (zqx + (zqhx + (st stp * toSide zk - sx stp))) (zqy + (zqhy + (st stp * upward zk - sy stp))) (zqhx + (st stp * toSide zk - sx stp)) (zqhy + (st stp * upward zk - sy stp)); have g2 := mn_r zl _ (rfl : mn zl (gaN st sx sy 0 (stp + 1) zk (zqx + (zqhx + (st stp * toSide zk - sx stp))) (zqy + (zqhy + (st stp * upward zk - sy stp))) (zqhx + (st stp * toSide zk - sx stp)) (zqhy + (st stp * upward zk - sy stp))) = _); omega))
                    | fail "q9") (by
                    first
                    | (
                       omega)
                    | fail "q9") _ _ hP hD hS ls (lv_sub hl [0, 1, 2, 3] rfl)
              · skip
                refine lv_aload_n hx hb dX8_searchFrom_44 rfl (lv_at hl 1 rfl) ?_
                refine lv_iload_n hx hb dX8_searchFrom_45 rfl (lv_at hl 2 rfl) ?_
                refine lv_iload_n hx hb dX8_searchFrom_46 rfl (lv_at hl 0 rfl) ?_
                refine x_callv (S := Unit) (wc := [(aS, .inr (6, [.ref aQ, .ref aSt, .ref aSx, .ref aSy, .int (iI sr), .int (iI zl)])), (aQ, .inr (2, [.int (iI zqx), .int (iI zqy), .int (iI zqhx), .int (iI zqhy)])), (aSt, .inl (gI g, 4, .inl (ar st))), (aSx, .inl (gI g, 4, .inl (ar sx))), (aSy, .inl (gI g, 4, .inl (ar sy)))]) (wr := []) hC hP hD hS hA [0, 1, 2, 3, 4] [] [0, 1, 2, 3, 4] rfl rfl (fun hpre => va_runV (As := [.int (iI stp), .int (iI zk)]) (rest := []) ⟨hx, hb, hml, hown, hts⟩ (c_X4_tryOut l g H.size aS aQ aSt aSx aSy sr zl zqx zqy zqhx zqhy stp zk st sx sy (by first | (first | assumption | omega | exact bnd_up (by assumption) (by omega) (by omega)) | fail "q8") (by first | (first | assumption | omega | exact bnd_up (by assumption) (by omega) (by omega)) | fail "q8")) (cwV 2 hts gX8_searchFrom_X4_tryOut rfl rfl rfl (by decide +kernel) ⟨Nat.le_of_ble_eq_true rfl, Nat.le_of_ble_eq_true rfl⟩) ⟨xB_blind, va_recv hK hP (ci := 6) (q0 := 0) rfl rfl, hpre _⟩ rfl rfl hl.1 rfl (lv_room (Nat.le_of_ble_eq_true rfl)) dX8_searchFrom_47 ⟨Nat.le_of_ble_eq_true rfl, Nat.le_of_ble_eq_true rfl⟩) (fun (u : Unit) => [(aS, .inr (6, [.ref aQ, .ref aSt, .ref aSx, .ref aSy, .int (iI sr), .int (iI zl)])), (aQ, .inr (2, [.int (iI (zqx + (zqhx + (st stp * toSide zk - sx stp)))), .int (iI (zqy + (zqhy + (st stp * upward zk - sy stp)))), .int (iI (zqhx + (st stp * toSide zk - sx stp))), .int (iI (zqhy + (st stp * upward zk - sy stp)))])), (aSt, .inl (gI g, 4, .inl (ar st))), (aSx, .inl (gI g, 4, .inl (ar sx))), (aSy, .inl (gI g, 4, .inl (ar sy)))]) rfl rfl (by decide) (fun _ => rfl) rfl (fun u H locs hv_13 hP hD hS => ?_)
                have hP : va_P (gD g) vwCl [(aS, .inr (6, [.ref aQ, .ref aSt, .ref aSx, .ref aSy, .int (iI sr), .int (iI zl)])), (aQ, .inr (2, [.int (iI (zqx + (zqhx + (st stp * toSide zk - sx stp)))), .int (iI (zqy + (zqhy + (st stp * upward zk - sy stp)))), .int (iI (zqhx + (st stp * toSide zk - sx stp))), .int (iI (zqhy + (st stp * upward zk - sy stp)))])), (aSt, .inl (gI g, 4, .inl (ar st))), (aSx, .inl (gI g, 4, .inl (ar sx))), (aSy, .inl (gI g, 4, .inl (ar sy)))] H := hP
                have hD : va_D A [(aS, .inr (6, [.ref aQ, .ref aSt, .ref aSx, .ref aSy, .int (iI sr), .int (iI zl)])), (aQ, .inr (2, [.int (iI (zqx + (zqhx + (st stp * toSide zk - sx stp)))), .int (iI (zqy + (zqhy + (st stp * upward zk - sy stp)))), .int (iI (zqhx + (st stp * toSide zk - sx stp))), .int (iI (zqhy + (st stp * upward zk - sy stp)))])), (aSt, .inl (gI g, 4, .inl (ar st))), (aSx, .inl (gI g, 4, .inl (ar sx))), (aSy, .inl (gI g, 4, .inl (ar sy)))] := hD
                have m1 := mulb (A := 9) (B := 1) (a := st stp) (b := toSide zk) (by have := hb_st stp; omega) (toSide_r zk)
                have m2 := mulb (A := 9) (B := 1) (a := st stp) (b := upward zk) (by have := hb_st stp; omega) (upward_r zk)
                have m3 := hb_sx stp
                have m4 := hb_sy stp
                refine lv_aload_n hx hb dX8_searchFrom_50 rfl (lv_at hl 1 rfl) ?_
                refine lv_iload_n hx hb dX8_searchFrom_51 rfl (lv_at hl 2 rfl) ?_
                refine x_iconst hx hb dX8_searchFrom_52 ?_
                refine x_iadd hx hb dX8_searchFrom_53 ?_
                refine lv_iload_n hx hb dX8_searchFrom_54 rfl (lv_at hl 0 rfl) ?_
                refine x_callv (S := Unit) (wc := [(aS, .inr (6, [.ref aQ, .ref aSt, .ref aSx, .ref aSy, .int (iI sr), .int (iI zl)])), (aQ, .inr (2, [.int (iI (zqx + (zqhx + (st stp * toSide zk - sx stp)))), .int (iI (zqy + (zqhy + (st stp * upward zk - sy stp)))), .int (iI (zqhx + (st stp * toSide zk - sx stp))), .int (iI (zqhy + (st stp * upward zk - sy stp)))])), (aSt, .inl (gI g, 4, .inl (ar st))), (aSx, .inl (gI g, 4, .inl (ar sx))), (aSy, .inl (gI g, 4, .inl (ar sy)))]) (wr := []) hC hP hD hS hA [0, 1, 2, 3, 4] [] [0, 1, 2, 3, 4] rfl rfl (fun hpre => va_runS (As := [.ref aS, .int (iI (stp + 1)), .int (iI zk)]) (rest := []) ⟨hx, hb, hml, hown, hts⟩ (c_X8_searchFrom0 l g H.size aS aQ aSt aSx aSy sr zl (zqx + (zqhx + (st stp * toSide zk - sx stp))) (zqy + (zqhy + (st stp * upward zk - sy stp))) (zqhx + (st stp * toSide zk - sx stp)) (zqhy + (st stp * upward zk - sy stp)) (stp + 1) zk st sx sy (by first | (first | assumption | omega | exact bnd_up (by assumption) (by omega) (by omega)) | fail "q8") (by first | (first | assumption | omega | exact bnd_up (by assumption) (by omega) (by omega)) | fail "q8") (by first | (first | assumption | omega | exact bnd_up (by assumption) (by omega) (by omega)) | fail "q8") (by first | (first | assumption | omega | exact bnd_up (by assumption) (by omega) (by omega)) | fail "q8") (by first | (first | assumption | omega | exact bnd_up (by assumption) (by omega) (by omega)) | fail "q8") (by first | (first | assumption | omega | exact bnd_up (by assumption) (by omega) (by omega)) | fail "q8") (by first | (first | assumption | omega | exact bnd_up (by assumption) (by omega) (by omega)) | fail "q8") (by first | (first | assumption | omega | exact bnd_up (by assumption) (by omega) (by omega)) | fail "q8") (by first | (first | assumption | omega | exact bnd_up (by assumption) (by omega) (by omega)) | fail "q8") (by first | (first | assumption | omega | exact bnd_up (by assumption) (by omega) (by omega)) | fail "q8") (by first | (first | assumption | omega | exact bnd_up (by assumption) (by omega) (by omega)) | fail "q8") (by first | (first | assumption | omega | exact bnd_up (by assumption) (by omega) (by omega)) | fail "q8")) (va_cwS 3 hts gX8_searchFrom_X8_searchFrom rfl rfl rfl (by decide +kernel) ⟨Nat.le_of_ble_eq_true rfl, Nat.le_of_ble_eq_true rfl⟩) ⟨xB_blind, hpre _⟩ rfl rfl hl.1 rfl (lv_room (Nat.le_of_ble_eq_true rfl)) dX8_searchFrom_55 ⟨Nat.le_of_ble_eq_true rfl, Nat.le_of_ble_eq_true rfl⟩) (fun (u : Unit) => [(aS, .inr (6, [.ref aQ, .ref aSt, .ref aSx, .ref aSy, .int (iI sr), .int (iI (mn zl (gaN st sx sy 0 (stp + 1) zk (zqx + (zqhx + (st stp * toSide zk - sx stp))) (zqy + (zqhy + (st stp * upward zk - sy stp))) (zqhx + (st stp * toSide zk - sx stp)) (zqhy + (st stp * upward zk - sy stp)))))])), (aQ, .inr (2, [.int (iI (zqx + (zqhx + (st stp * toSide zk - sx stp)))), .int (iI (zqy + (zqhy + (st stp * upward zk - sy stp)))), .int (iI (zqhx + (st stp * toSide zk - sx stp))), .int (iI (zqhy + (st stp * upward zk - sy stp)))])), (aSt, .inl (gI g, 4, .inl (ar st))), (aSx, .inl (gI g, 4, .inl (ar sx))), (aSy, .inl (gI g, 4, .inl (ar sy)))]) rfl rfl (by decide) (fun _ => rfl) rfl (fun u H locs hv_14 hP hD hS => ?_)
                have hP : va_P (gD g) vwCl [(aS, .inr (6, [.ref aQ, .ref aSt, .ref aSx, .ref aSy, .int (iI sr), .int (iI (mn zl (gaN st sx sy 0 (stp + 1) zk (zqx + (zqhx + (st stp * toSide zk - sx stp))) (zqy + (zqhy + (st stp * upward zk - sy stp))) (zqhx + (st stp * toSide zk - sx stp)) (zqhy + (st stp * upward zk - sy stp)))))])), (aQ, .inr (2, [.int (iI (zqx + (zqhx + (st stp * toSide zk - sx stp)))), .int (iI (zqy + (zqhy + (st stp * upward zk - sy stp)))), .int (iI (zqhx + (st stp * toSide zk - sx stp))), .int (iI (zqhy + (st stp * upward zk - sy stp)))])), (aSt, .inl (gI g, 4, .inl (ar st))), (aSx, .inl (gI g, 4, .inl (ar sx))), (aSy, .inl (gI g, 4, .inl (ar sy)))] H := hP
                have hD : va_D A [(aS, .inr (6, [.ref aQ, .ref aSt, .ref aSx, .ref aSy, .int (iI sr), .int (iI (mn zl (gaN st sx sy 0 (stp + 1) zk (zqx + (zqhx + (st stp * toSide zk - sx stp))) (zqy + (zqhy + (st stp * upward zk - sy stp))) (zqhx + (st stp * toSide zk - sx stp)) (zqhy + (st stp * upward zk - sy stp)))))])), (aQ, .inr (2, [.int (iI (zqx + (zqhx + (st stp * toSide zk - sx stp)))), .int (iI (zqy + (zqhy + (st stp * upward zk - sy stp)))), .int (iI (zqhx + (st stp * toSide zk - sx stp))), .int (iI (zqhy + (st stp * upward zk - sy stp)))])), (aSt, .inl (gI g, 4, .inl (ar st))), (aSx, .inl (gI g, 4, .inl (ar sx))), (aSy, .inl (gI g, 4, .inl (ar sy)))] := hD
                refine lv_aload_n hx hb dX8_searchFrom_58 rfl (lv_at hl 1 rfl) ?_
                refine lv_iload_n hx hb dX8_searchFrom_59 rfl (lv_at hl 2 rfl) ?_
                refine lv_iload_n hx hb dX8_searchFrom_60 rfl (lv_at hl 0 rfl) ?_
                refine x_callv (S := Unit) (wc := [(aS, .inr (6, [.ref aQ, .ref aSt, .ref aSx, .ref aSy, .int (iI sr), .int (iI (mn zl (gaN st sx sy 0 (stp + 1) zk (zqx + (zqhx + (st stp * toSide zk - sx stp))) (zqy + (zqhy + (st stp * upward zk - sy stp))) (zqhx + (st stp * toSide zk - sx stp)) (zqhy + (st stp * upward zk - sy stp)))))])), (aQ, .inr (2, [.int (iI (zqx + (zqhx + (st stp * toSide zk - sx stp)))), .int (iI (zqy + (zqhy + (st stp * upward zk - sy stp)))), .int (iI (zqhx + (st stp * toSide zk - sx stp))), .int (iI (zqhy + (st stp * upward zk - sy stp)))])), (aSt, .inl (gI g, 4, .inl (ar st))), (aSx, .inl (gI g, 4, .inl (ar sx))), (aSy, .inl (gI g, 4, .inl (ar sy)))]) (wr := []) hC hP hD hS hA [0, 1, 2, 3, 4] [] [0, 1, 2, 3, 4] rfl rfl (fun hpre => va_runV (As := [.int (iI stp), .int (iI zk)]) (rest := []) ⟨hx, hb, hml, hown, hts⟩ (c_X4_takeBack l g H.size aS aQ aSt aSx aSy sr (mn zl (gaN st sx sy 0 (stp + 1) zk (zqx + (zqhx + (st stp * toSide zk - sx stp))) (zqy + (zqhy + (st stp * upward zk - sy stp))) (zqhx + (st stp * toSide zk - sx stp)) (zqhy + (st stp * upward zk - sy stp)))) (zqx + (zqhx + (st stp * toSide zk - sx stp))) (zqy + (zqhy + (st stp * upward zk - sy stp))) (zqhx + (st stp * toSide zk - sx stp)) (zqhy + (st stp * upward zk - sy stp)) stp zk st sx sy (by first | (first | assumption | omega | exact bnd_up (by assumption) (by omega) (by omega)) | fail "q8") (by first | (first | assumption | omega | exact bnd_up (by assumption) (by omega) (by omega)) | fail "q8")) (cwV 2 hts gX8_searchFrom_X4_takeBack rfl rfl rfl (by decide +kernel) ⟨Nat.le_of_ble_eq_true rfl, Nat.le_of_ble_eq_true rfl⟩) ⟨xB_blind, va_recv hK hP (ci := 6) (q0 := 0) rfl rfl, hpre _⟩ rfl rfl hl.1 rfl (lv_room (Nat.le_of_ble_eq_true rfl)) dX8_searchFrom_61 ⟨Nat.le_of_ble_eq_true rfl, Nat.le_of_ble_eq_true rfl⟩) (fun (u : Unit) => [(aS, .inr (6, [.ref aQ, .ref aSt, .ref aSx, .ref aSy, .int (iI sr), .int (iI (mn zl (gaN st sx sy 0 (stp + 1) zk (zqx + (zqhx + (st stp * toSide zk - sx stp))) (zqy + (zqhy + (st stp * upward zk - sy stp))) (zqhx + (st stp * toSide zk - sx stp)) (zqhy + (st stp * upward zk - sy stp)))))])), (aQ, .inr (2, [.int (iI ((zqx + (zqhx + (st stp * toSide zk - sx stp))) - (zqhx + (st stp * toSide zk - sx stp)))), .int (iI ((zqy + (zqhy + (st stp * upward zk - sy stp))) - (zqhy + (st stp * upward zk - sy stp)))), .int (iI ((zqhx + (st stp * toSide zk - sx stp)) - (st stp * toSide zk - sx stp))), .int (iI ((zqhy + (st stp * upward zk - sy stp)) - (st stp * upward zk - sy stp)))])), (aSt, .inl (gI g, 4, .inl (ar st))), (aSx, .inl (gI g, 4, .inl (ar sx))), (aSy, .inl (gI g, 4, .inl (ar sy)))]) rfl rfl (by decide) (fun _ => rfl) rfl (fun u H locs hv_15 hP hD hS => ?_)
                have hP : va_P (gD g) vwCl [(aS, .inr (6, [.ref aQ, .ref aSt, .ref aSx, .ref aSy, .int (iI sr), .int (iI (mn zl (gaN st sx sy 0 (stp + 1) zk (zqx + (zqhx + (st stp * toSide zk - sx stp))) (zqy + (zqhy + (st stp * upward zk - sy stp))) (zqhx + (st stp * toSide zk - sx stp)) (zqhy + (st stp * upward zk - sy stp)))))])), (aQ, .inr (2, [.int (iI ((zqx + (zqhx + (st stp * toSide zk - sx stp))) - (zqhx + (st stp * toSide zk - sx stp)))), .int (iI ((zqy + (zqhy + (st stp * upward zk - sy stp))) - (zqhy + (st stp * upward zk - sy stp)))), .int (iI ((zqhx + (st stp * toSide zk - sx stp)) - (st stp * toSide zk - sx stp))), .int (iI ((zqhy + (st stp * upward zk - sy stp)) - (st stp * upward zk - sy stp)))])), (aSt, .inl (gI g, 4, .inl (ar st))), (aSx, .inl (gI g, 4, .inl (ar sx))), (aSy, .inl (gI g, 4, .inl (ar sy)))] H := hP
                have hD : va_D A [(aS, .inr (6, [.ref aQ, .ref aSt, .ref aSx, .ref aSy, .int (iI sr), .int (iI (mn zl (gaN st sx sy 0 (stp + 1) zk (zqx + (zqhx + (st stp * toSide zk - sx stp))) (zqy + (zqhy + (st stp * upward zk - sy stp))) (zqhx + (st stp * toSide zk - sx stp)) (zqhy + (st stp * upward zk - sy stp)))))])), (aQ, .inr (2, [.int (iI ((zqx + (zqhx + (st stp * toSide zk - sx stp))) - (zqhx + (st stp * toSide zk - sx stp)))), .int (iI ((zqy + (zqhy + (st stp * upward zk - sy stp))) - (zqhy + (st stp * upward zk - sy stp)))), .int (iI ((zqhx + (st stp * toSide zk - sx stp)) - (st stp * toSide zk - sx stp))), .int (iI ((zqhy + (st stp * upward zk - sy stp)) - (st stp * upward zk - sy stp)))])), (aSt, .inl (gI g, 4, .inl (ar st))), (aSx, .inl (gI g, 4, .inl (ar sx))), (aSy, .inl (gI g, 4, .inl (ar sy)))] := hD
                refine x_iinc (k := 0) (lv' := [(3, .int (iI (zk + 1))), (0, .ref aS), (1, .int (iI stp)), (2, .int (iI be))]) hx hb dX8_searchFrom_64 hl rfl (by decide) rfl (fun ls hl => ?_)
                refine lv_goto (tgt := 28) hx hb dX8_searchFrom_67 (by decide) ?_
                exact ih28 (zk + 1) (mn zl (gaN st sx sy 0 (stp + 1) zk (zqx + (zqhx + (st stp * toSide zk - sx stp))) (zqy + (zqhy + (st stp * upward zk - sy stp))) (zqhx + (st stp * toSide zk - sx stp)) (zqhy + (st stp * upward zk - sy stp)))) ((zqx + (zqhx + (st stp * toSide zk - sx stp))) - (zqhx + (st stp * toSide zk - sx stp))) ((zqy + (zqhy + (st stp * upward zk - sy stp))) - (zqhy + (st stp * upward zk - sy stp))) ((zqhx + (st stp * toSide zk - sx stp)) - (st stp * toSide zk - sx stp)) ((zqhy + (st stp * upward zk - sy stp)) - (st stp * upward zk - sy stp)) (show 0 ≤ (zk + 1) ∧ (zk + 1) ≤ 8 by
                    first
                    | (
                       first | assumption | omega | rfl)
                    | fail "q9") (show ((zqx + (zqhx + (st stp * toSide zk - sx stp))) - (zqhx + (st stp * toSide zk - sx stp))) = qx by
                    first
                    | (
                       first | assumption | omega | rfl)
                    | fail "q9") (show ((zqy + (zqhy + (st stp * upward zk - sy stp))) - (zqhy + (st stp * upward zk - sy stp))) = qy by
                    first
                    | (
                       first | assumption | omega | rfl)
                    | fail "q9") (show ((zqhx + (st stp * toSide zk - sx stp)) - (st stp * toSide zk - sx stp)) = qhx by
                    first
                    | (
                       first | assumption | omega | rfl)
                    | fail "q9") (show ((zqhy + (st stp * upward zk - sy stp)) - (st stp * upward zk - sy stp)) = qhy by
                    first
                    | (
                       first | assumption | omega | rfl)
                    | fail "q9") (show (mn zl (gaN st sx sy 0 (stp + 1) zk (zqx + (zqhx + (st stp * toSide zk - sx stp))) (zqy + (zqhy + (st stp * upward zk - sy stp))) (zqhx + (st stp * toSide zk - sx stp)) (zqhy + (st stp * upward zk - sy stp)))) = mn sl (lstI (fun p => gaN st sx sy 0 (stp + 1) p (qx + (qhx + (st stp * toSide p - sx stp))) (qy + (qhy + (st stp * upward p - sy stp))) (qhx + (st stp * toSide p - sx stp)) (qhy + (st stp * upward p - sy stp))) (fun p => decide (fitP be p)) (zk + 1)) by
                    first
                    | (
                       rw [lstI_step _ _ (by omega)]
                       simp only [decide_eq_true_eq]
                       first | (rw [if_pos (by omega), hzl, mn_assoc, hzqx, hzqy, hzqhx, hzqhy]) | (rw [if_neg (by omega)]; assumption))
                    | fail "q9") (show 0 ≤ (mn zl (gaN st sx sy 0 (stp + 1) zk (zqx + (zqhx + (st stp * toSide zk - sx stp))) (zqy + (zqhy + (st stp * upward zk - sy stp))) (zqhx + (st stp * toSide zk - sx stp)) (zqhy + (st stp * upward zk - sy stp)))) ∧ (mn zl (gaN st sx sy 0 (stp + 1) zk (zqx + (zqhx + (st stp * toSide zk - sx stp))) (zqy + (zqhy + (st stp * upward zk - sy stp))) (zqhx + (st stp * toSide zk - sx stp)) (zqhy + (st stp * upward zk - sy stp)))) ≤ 2147483647 by
                    first
                    | (
                       first | assumption | (have g1 := gaN_nn st sx sy 0 (stp + 1) zk (zqx + (zqhx + (st stp * toSide zk - sx stp))) (zqy + (zqhy + (st stp * upward zk - sy stp))) (zqhx + (st stp * toSide zk - sx stp)) (zqhy + (st stp * upward zk - sy stp)); have g2 := mn_r zl _ (rfl : mn zl (gaN st sx sy 0 (stp + 1) zk (zqx + (zqhx + (st stp * toSide zk - sx stp))) (zqy + (zqhy + (st stp * upward zk - sy stp))) (zqhx + (st stp * toSide zk - sx stp)) (zqhy + (st stp * upward zk - sy stp))) = _); omega))
                    | fail "q9") (by
                    first
                    | (
                       omega)
                    | fail "q9") _ _ hP hD hS ls (lv_sub hl [0, 1, 2, 3] rfl)
        exact lp28 (8 - 0 + 1 : Int).toNat 0 sl qx qy qhx qhy (show 0 ≤ 0 ∧ 0 ≤ 8 by
            first
            | (
               first | assumption | omega | rfl)
            | fail "q9") (show qx = qx by
            first
            | (
               first | assumption | omega | rfl)
            | fail "q9") (show qy = qy by
            first
            | (
               first | assumption | omega | rfl)
            | fail "q9") (show qhx = qhx by
            first
            | (
               first | assumption | omega | rfl)
            | fail "q9") (show qhy = qhy by
            first
            | (
               first | assumption | omega | rfl)
            | fail "q9") (show sl = mn sl (lstI (fun p => gaN st sx sy 0 (stp + 1) p (qx + (qhx + (st stp * toSide p - sx stp))) (qy + (qhy + (st stp * upward p - sy stp))) (qhx + (st stp * toSide p - sx stp)) (qhy + (st stp * upward p - sy stp))) (fun p => decide (fitP be p)) 0) by
            first
            | (
               exact (mn_max hsl.2).symm)
            | fail "q9") (show 0 ≤ sl ∧ sl ≤ 2147483647 by
            first
            | (
               first | assumption | omega | rfl)
            | fail "q9") (by omega) _ _ hP hD hS ls (lv_sub hl [0, 1, 2, 3] rfl)
      · skip
        have q_16 : (mn sl (gaN st sx sy 1 stp be qx qy qhx qhy)) = sl := by
          first
          | (
             first | (show mn sl (lstI (fun p => gaN st sx sy 0 (stp + 1) p (qx + (qhx + (st stp * toSide p - sx stp))) (qy + (qhy + (st stp * upward p - sy stp))) (qhx + (st stp * toSide p - sx stp)) (qhy + (st stp * upward p - sy stp))) (fun p => decide (fitP be p)) 8) = zl; rw [show (8 : Int) = zk by omega]; exact hzl.symm) | (have hlb := lbN (st := st) (sx := sx) (sy := sy) hb_st 1 stp be qx qy qhx qhy; have s1 := alN_sum (F := sx) (sr := sr) 1 stp hstp (by omega); have s2 := alN_sum (F := sy) (sr := sr) 1 stp hstp (by omega); have s3 := alN_sum (F := st) (sr := sr) 1 stp hstp (by omega); rw [s1, s2, s3, show sr - stp = ((1 : Nat) : Int) by omega] at hal9; rw [← hal9] at hlb; exact mn_left (by unfold mn at hlb; split at hlb <;> omega)))
          | fail "q9"
        have hw_17 := (congrArg (fun (z0 : Int) => ([(aS, .inr (6, [.ref aQ, .ref aSt, .ref aSx, .ref aSy, .int (iI sr), .int (iI z0)])), (aQ, .inr (2, [.int (iI qx), .int (iI qy), .int (iI qhx), .int (iI qhy)])), (aSt, .inl (gI g, 4, .inl (ar st))), (aSx, .inl (gI g, 4, .inl (ar sx))), (aSy, .inl (gI g, 4, .inl (ar sy)))] : va_W)) q_16.symm)
        rw [hQ9]
        exact x_vret hx hb hr hlocks hP hD hS (S := Unit) (Φ := _) (W1 := _) dX8_searchFrom_25 () trivial hw_17 (Nat.le_of_ble_eq_true rfl) (Nat.le_of_ble_eq_true rfl)
    · skip
      exfalso; omega
  rw [hH, hlo, hQ9] at goal_
  exact goal_

set_option maxHeartbeats 4000000 in
set_option maxRecDepth 100000 in
theorem c_X8_searchFrom2 (l : Launch) (g : xg) (sz : Nat) (aS aQ aSt aSx aSy : Nat) (sr sl qx qy qhx qhy stp be : Int) (st sx sy : Int → Int) (hsr : 0 ≤ sr ∧ sr ≤ 4) (hsd : sr - stp = 2) (hstp : 0 ≤ stp) (hbe : -1 ≤ be ∧ be ≤ 7) (hqx : -720500 ≤ qx ∧ qx ≤ 720500) (hqy : -720500 ≤ qy ∧ qy ≤ 720500) (hqhx : -3028 ≤ qhx ∧ qhx ≤ 3028) (hqhy : -3028 ≤ qhy ∧ qhy ≤ 3028) (hsl : 0 ≤ sl ∧ sl ≤ 2147483647) (hb_st : bnd st 0 9) (hb_sx : bnd sx (-5) 5) (hb_sy : bnd sy (-5) 5) : Met l yX8_searchFrom wsX8_searchFrom { frames := 5, cells := 0, slots := 0, locals := 108 } (va_Pc [.ref aS, .int (iI stp), .int (iI be)] (xB g [(aS, .inr (6, [.ref aQ, .ref aSt, .ref aSx, .ref aSy, .int (iI sr), .int (iI sl)])), (aQ, .inr (2, [.int (iI qx), .int (iI qy), .int (iI qhx), .int (iI qhy)])), (aSt, .inl (gI g, 4, .inl (ar st))), (aSx, .inl (gI g, 4, .inl (ar sx))), (aSy, .inl (gI g, 4, .inl (ar sy)))] sz)) (va_Qv (fun (u : Unit) => True) (fun u t => xE g (va_A [(aS, .inr (6, [.ref aQ, .ref aSt, .ref aSx, .ref aSy, .int (iI sr), .int (iI sl)])), (aQ, .inr (2, [.int (iI qx), .int (iI qy), .int (iI qhx), .int (iI qhy)])), (aSt, .inl (gI g, 4, .inl (ar st))), (aSx, .inl (gI g, 4, .inl (ar sx))), (aSy, .inl (gI g, 4, .inl (ar sy)))] sz) ((fun (u : Unit) => [(aS, .inr (6, [.ref aQ, .ref aSt, .ref aSx, .ref aSy, .int (iI sr), .int (iI (mn sl (gaN st sx sy 2 stp be qx qy qhx qhy)))])), (aQ, .inr (2, [.int (iI qx), .int (iI qy), .int (iI qhx), .int (iI qhy)])), (aSt, .inl (gI g, 4, .inl (ar st))), (aSx, .inl (gI g, 4, .inl (ar sx))), (aSy, .inl (gI g, 4, .inl (ar sy)))]) u) t) (va_A [(aS, .inr (6, [.ref aQ, .ref aSt, .ref aSx, .ref aSy, .int (iI sr), .int (iI sl)])), (aQ, .inr (2, [.int (iI qx), .int (iI qy), .int (iI qhx), .int (iI qhy)])), (aSt, .inl (gI g, 4, .inl (ar st))), (aSx, .inl (gI g, 4, .inl (ar sx))), (aSy, .inl (gI g, 4, .inl (ar sy)))] sz)) 0 0 (va_A [(aS, .inr (6, [.ref aQ, .ref aSt, .ref aSx, .ref aSy, .int (iI sr), .int (iI sl)])), (aQ, .inr (2, [.int (iI qx), .int (iI qy), .int (iI qhx), .int (iI qhy)])), (aSt, .inl (gI g, 4, .inl (ar st))), (aSx, .inl (gI g, 4, .inl (ar sx))), (aSy, .inl (gI g, 4, .inl (ar sy)))] sz) := by
  refine x_enter (y := yX8_searchFrom) (ws := wsX8_searchFrom) (g := g) (sz := sz) (av := [.ref aS, .int (iI stp), .int (iI be)]) (WS := [(aS, .inr (6, [.ref aQ, .ref aSt, .ref aSx, .ref aSy, .int (iI sr), .int (iI sl)])), (aQ, .inr (2, [.int (iI qx), .int (iI qy), .int (iI qhx), .int (iI qhy)])), (aSt, .inl (gI g, 4, .inl (ar st))), (aSx, .inl (gI g, 4, .inl (ar sx))), (aSy, .inl (gI g, 4, .inl (ar sy)))]) (cc := cX8_searchFrom) (maxL := 4) (ret := none) (Qc := (fun A => (va_Qv (fun (u : Unit) => True) (fun u t => xE g A ((fun (u : Unit) => [(aS, .inr (6, [.ref aQ, .ref aSt, .ref aSx, .ref aSy, .int (iI sr), .int (iI (mn sl (gaN st sx sy 2 stp be qx qy qhx qhy)))])), (aQ, .inr (2, [.int (iI qx), .int (iI qy), .int (iI qhx), .int (iI qhy)])), (aSt, .inl (gI g, 4, .inl (ar st))), (aSx, .inl (gI g, 4, .inl (ar sx))), (aSy, .inl (gI g, 4, .inl (ar sy)))]) u) t) A))) (by decide) rfl (Nat.le_of_ble_eq_true rfl) ?_
  intro p e s m args below meth c A ls hx hb hr hml hown hts hlocks hname hC hP hD hS hA hl
  have hK := hC.1
  have hown : s.vm.findClass RX8 = some m.cls := hown
  have hin4 : ∀ w ∈ u_ws RX4 TX4 6, w ∈ wsX8_searchFrom := by decide +kernel
  have hl : lv_has ls 4 [(0, .ref aS), (1, .int (iI stp)), (2, .int (iI be))] := hl
  obtain ⟨H, hH⟩ : ∃ z, z = s.heap := ⟨_, rfl⟩
  obtain ⟨locs, hlo⟩ : ∃ z : List Loc, z = [] := ⟨_, rfl⟩
  obtain ⟨Q9, hQ9⟩ : ∃ z, z = MQ below (va_Qv (fun (u : Unit) => True) (fun u t => xE g A ((fun (u : Unit) => [(aS, .inr (6, [.ref aQ, .ref aSt, .ref aSx, .ref aSy, .int (iI sr), .int (iI (mn sl (gaN st sx sy 2 stp be qx qy qhx qhy)))])), (aQ, .inr (2, [.int (iI qx), .int (iI qy), .int (iI qhx), .int (iI qhy)])), (aSt, .inl (gI g, 4, .inl (ar st))), (aSx, .inl (gI g, 4, .inl (ar sx))), (aSy, .inl (gI g, 4, .inl (ar sy)))]) u) t) A) args s 0 0 A := ⟨_, rfl⟩
  have hP : va_P (gD g) vwCl [(aS, .inr (6, [.ref aQ, .ref aSt, .ref aSx, .ref aSy, .int (iI sr), .int (iI sl)])), (aQ, .inr (2, [.int (iI qx), .int (iI qy), .int (iI qhx), .int (iI qhy)])), (aSt, .inl (gI g, 4, .inl (ar st))), (aSx, .inl (gI g, 4, .inl (ar sx))), (aSy, .inl (gI g, 4, .inl (ar sy)))] H := by rw [hH]; exact hP
  have hS : va_S A s.heap H locs := by rw [hH, hlo]; exact hS
  have goal_ : W p l e { frames := 5, cells := 0, slots := 0, locals := 108 } s m args below meth c H locs 0 0 Q9 (F0 m 0 ls []) := by
    clear hH hlo
    refine lv_iload_n hx hb dX8_searchFrom_0 rfl (lv_at hl 1 rfl) ?_
    refine lv_aload_n hx hb dX8_searchFrom_1 rfl (lv_at hl 0 rfl) ?_
    refine va_get (D := gD g) (ci := 6) (v := .int (iI sr)) (C := RX4) (T := TX4) (N := 6) hx hb hts hin4 hown hK hP 0 rfl rfl 4 (by decide) (hts (.fieldLink RX8 372 "TunnelRing$Search" "rings" "I") (List.mem_of_getElem? (i := 1) rfl)) (fun _ h9 => h9) rfl dX8_searchFrom_2 ?_
    refine x_cmp_lt (tgt := 13) hx hb (by omega) (by omega) dX8_searchFrom_5 (by decide) (fun c_1 => ?_) (fun c_1 => ?_)
    · skip
      refine lv_aload_n hx hb dX8_searchFrom_13 rfl (lv_at hl 0 rfl) ?_
      refine lv_iload_n hx hb dX8_searchFrom_14 rfl (lv_at hl 1 rfl) ?_
      refine x_calli (S := Unit) (wc := [(aS, .inr (6, [.ref aQ, .ref aSt, .ref aSx, .ref aSy, .int (iI sr), .int (iI sl)])), (aQ, .inr (2, [.int (iI qx), .int (iI qy), .int (iI qhx), .int (iI qhy)])), (aSt, .inl (gI g, 4, .inl (ar st))), (aSx, .inl (gI g, 4, .inl (ar sx))), (aSy, .inl (gI g, 4, .inl (ar sy)))]) (wr := []) hC hP hD hS hA [0, 1, 2, 3, 4] [] [0, 1, 2, 3, 4] rfl rfl (fun hpre => va_runV (As := [.int (iI stp)]) (rest := []) ⟨hx, hb, hml, hown, hts⟩ (c_X4_atLeast l g H.size aS aQ aSt aSx aSy sr sl qx qy qhx qhy stp st sx sy (by first | (first | assumption | omega | exact bnd_up (by assumption) (by omega) (by omega)) | fail "q8") (by first | (first | assumption | omega | exact bnd_up (by assumption) (by omega) (by omega)) | fail "q8") (by first | (first | assumption | omega | exact bnd_up (by assumption) (by omega) (by omega)) | fail "q8") (by first | (first | assumption | omega | exact bnd_up (by assumption) (by omega) (by omega)) | fail "q8") (by first | (first | assumption | omega | exact bnd_up (by assumption) (by omega) (by omega)) | fail "q8") (by first | (first | assumption | omega | exact bnd_up (by assumption) (by omega) (by omega)) | fail "q8") (by first | (first | assumption | omega | exact bnd_up (by assumption) (by omega) (by omega)) | fail "q8") (by first | (first | assumption | omega | exact bnd_up (by assumption) (by omega) (by omega)) | fail "q8") (by first | (first | assumption | omega | exact bnd_up (by assumption) (by omega) (by omega)) | fail "q8")) (cwV 1 hts gX8_searchFrom_X4_atLeast rfl rfl rfl (by decide +kernel) ⟨Nat.le_of_ble_eq_true rfl, Nat.le_of_ble_eq_true rfl⟩) ⟨xB_blind, va_recv hK hP (ci := 6) (q0 := 0) rfl rfl, hpre _⟩ rfl rfl hl.1 rfl (lv_room (Nat.le_of_ble_eq_true rfl)) dX8_searchFrom_15 ⟨Nat.le_of_ble_eq_true rfl, Nat.le_of_ble_eq_true rfl⟩) (fun (u : Unit) => [(aS, .inr (6, [.ref aQ, .ref aSt, .ref aSx, .ref aSy, .int (iI sr), .int (iI sl)])), (aQ, .inr (2, [.int (iI qx), .int (iI qy), .int (iI qhx), .int (iI qhy)])), (aSt, .inl (gI g, 4, .inl (ar st))), (aSx, .inl (gI g, 4, .inl (ar sx))), (aSy, .inl (gI g, 4, .inl (ar sy)))]) rfl rfl (by decide) (fun _ => rfl) rfl (fun u v_2 H locs hv_2 pv_2 hP hD hS => ?_)
      have hP : va_P (gD g) vwCl [(aS, .inr (6, [.ref aQ, .ref aSt, .ref aSx, .ref aSy, .int (iI sr), .int (iI sl)])), (aQ, .inr (2, [.int (iI qx), .int (iI qy), .int (iI qhx), .int (iI qhy)])), (aSt, .inl (gI g, 4, .inl (ar st))), (aSx, .inl (gI g, 4, .inl (ar sx))), (aSy, .inl (gI g, 4, .inl (ar sy)))] H := hP
      have hD : va_D A [(aS, .inr (6, [.ref aQ, .ref aSt, .ref aSx, .ref aSy, .int (iI sr), .int (iI sl)])), (aQ, .inr (2, [.int (iI qx), .int (iI qy), .int (iI qhx), .int (iI qhy)])), (aSt, .inl (gI g, 4, .inl (ar st))), (aSx, .inl (gI g, 4, .inl (ar sx))), (aSy, .inl (gI g, 4, .inl (ar sy)))] := hD
      have hv_2 : v_2 = mx 0 (aI (qx + (sr - stp) * qhx - (sumI (fun k => (sr - k) * sx k) sr - sumI (fun k => (sr - k) * sx k) stp)) - (sumI (fun k => (sr - k) * st k) sr - sumI (fun k => (sr - k) * st k) stp)) + mx 0 (aI (qy + (sr - stp) * qhy - (sumI (fun k => (sr - k) * sy k) sr - sumI (fun k => (sr - k) * sy k) stp)) - (sumI (fun k => (sr - k) * st k) sr - sumI (fun k => (sr - k) * st k) stp)) := hv_2
      have hal9 := hv_2
      have hab9 := atL_b hsr (by omega) (by omega) (by omega) (by omega) (by omega) hb_st hb_sx hb_sy hal9
      refine lv_aload_n hx hb dX8_searchFrom_18 rfl (lv_at hl 0 rfl) ?_
      refine va_get (D := gD g) (ci := 6) (v := .int (iI sl)) (C := RX4) (T := TX4) (N := 6) hx hb hts hin4 hown hK hP 0 rfl rfl 5 (by decide) (hts (.fieldLink RX8 271 "TunnelRing$Search" "least" "I") (List.mem_of_getElem? (i := 2) rfl)) (fun _ h9 => h9) rfl dX8_searchFrom_19 ?_
      refine x_cmp_lt (tgt := 26) hx hb (by omega) (by omega) dX8_searchFrom_22 (by decide) (fun c_3 => ?_) (fun c_3 => ?_)
      · skip
        refine x_iconst hx hb dX8_searchFrom_26 ?_
        refine lv_istore_n (lv' := [(3, .int (iI 0)), (0, .ref aS), (1, .int (iI stp)), (2, .int (iI be))]) hx hb dX8_searchFrom_27 rfl hl (by decide) rfl (fun ls hl => ?_)
        have lp28 : ∀ (n : Nat) (zk : Int) (zl : Int) (zqx : Int) (zqy : Int) (zqhx : Int) (zqhy : Int), (0 ≤ zk ∧ zk ≤ 8) → (zqx = qx) → (zqy = qy) → (zqhx = qhx) → (zqhy = qhy) → (zl = mn sl (lstI (fun p => gaN st sx sy 1 (stp + 1) p (qx + (qhx + (st stp * toSide p - sx stp))) (qy + (qhy + (st stp * upward p - sy stp))) (qhx + (st stp * toSide p - sx stp)) (qhy + (st stp * upward p - sy stp))) (fun p => decide (fitP be p)) zk)) → (0 ≤ zl ∧ zl ≤ 2147483647) → 8 - zk + 1 ≤ (n : Int) → ∀ (H : Heap) (locs : List Loc), va_P (gD g) vwCl [(aS, .inr (6, [.ref aQ, .ref aSt, .ref aSx, .ref aSy, .int (iI sr), .int (iI zl)])), (aQ, .inr (2, [.int (iI zqx), .int (iI zqy), .int (iI zqhx), .int (iI zqhy)])), (aSt, .inl (gI g, 4, .inl (ar st))), (aSx, .inl (gI g, 4, .inl (ar sx))), (aSy, .inl (gI g, 4, .inl (ar sy)))] H → va_D A [(aS, .inr (6, [.ref aQ, .ref aSt, .ref aSx, .ref aSy, .int (iI sr), .int (iI zl)])), (aQ, .inr (2, [.int (iI zqx), .int (iI zqy), .int (iI zqhx), .int (iI zqhy)])), (aSt, .inl (gI g, 4, .inl (ar st))), (aSx, .inl (gI g, 4, .inl (ar sx))), (aSy, .inl (gI g, 4, .inl (ar sy)))] → va_S A s.heap H locs → ∀ (ls : Array Slot), lv_has ls 4 [(3, .int (iI zk)), (0, .ref aS), (1, .int (iI stp)), (2, .int (iI be))] → W p l e { frames := 5, cells := 0, slots := 0, locals := 108 } s m args below meth c H locs 0 0 Q9 (F0 m 28 ls []) := by
          intro n
          induction n with
          | zero => intro zk zl zqx zqy zqhx zqhy hzk hzqx hzqy hzqhx hzqhy hzl hzr hm; exfalso; omega
          | succ n ih28 =>
            intro zk zl zqx zqy zqhx zqhy hzk hzqx hzqy hzqhx hzqhy hzl hzr hm H locs hP hD hS ls hl
            refine lv_iload_n hx hb dX8_searchFrom_28 rfl (lv_at hl 0 rfl) ?_
            refine va_gets hx hb hC.2.1.1 hS hown (hts (.fieldLink RX8 260 "TunnelRing" "TO_SIDE" "[I") (List.mem_of_getElem? (i := 3) rfl)) (fun _ h9 => h9) dX8_searchFrom_29 ?_
            refine va_tlen hx hb hC.2.1.2 hS (v := iI 8) (by decide) dX8_searchFrom_32 ?_
            refine x_cmp_ge (tgt := 70) hx hb (by omega) (by omega) dX8_searchFrom_33 (by decide) (fun c_4 => ?_) (fun c_4 => ?_)
            · skip
              have q_5 : (mn sl (gaN st sx sy 2 stp be qx qy qhx qhy)) = zl := by
                first
                | (
                   first | (show mn sl (lstI (fun p => gaN st sx sy 1 (stp + 1) p (qx + (qhx + (st stp * toSide p - sx stp))) (qy + (qhy + (st stp * upward p - sy stp))) (qhx + (st stp * toSide p - sx stp)) (qhy + (st stp * upward p - sy stp))) (fun p => decide (fitP be p)) 8) = zl; rw [show (8 : Int) = zk by omega]; exact hzl.symm) | (have hlb := lbN (st := st) (sx := sx) (sy := sy) hb_st 2 stp be qx qy qhx qhy; have s1 := alN_sum (F := sx) (sr := sr) 2 stp hstp (by omega); have s2 := alN_sum (F := sy) (sr := sr) 2 stp hstp (by omega); have s3 := alN_sum (F := st) (sr := sr) 2 stp hstp (by omega); rw [s1, s2, s3, show sr - stp = ((2 : Nat) : Int) by omega] at hal9; rw [← hal9] at hlb; exact mn_left (by unfold mn at hlb; split at hlb <;> omega)))
                | fail "q9"
              have q_6 : qx = zqx := by
                first
                | (
                   omega)
                | fail "q9"
              have q_7 : qy = zqy := by
                first
                | (
                   omega)
                | fail "q9"
              have q_8 : qhx = zqhx := by
                first
                | (
                   omega)
                | fail "q9"
              have q_9 : qhy = zqhy := by
                first
                | (
                   omega)
                | fail "q9"
              have hw_10 := (congr (congr (congr (congr (congrArg (fun (z0 : Int) (z1 : Int) (z2 : Int) (z3 : Int) (z4 : Int) => ([(aS, .inr (6, [.ref aQ, .ref aSt, .ref aSx, .ref aSy, .int (iI sr), .int (iI z0)])), (aQ, .inr (2, [.int (iI z1), .int (iI z2), .int (iI z3), .int (iI z4)])), (aSt, .inl (gI g, 4, .inl (ar st))), (aSx, .inl (gI g, 4, .inl (ar sx))), (aSy, .inl (gI g, 4, .inl (ar sy)))] : va_W)) q_5.symm) q_6.symm) q_7.symm) q_8.symm) q_9.symm)
              rw [hQ9]
              exact x_vret hx hb hr hlocks hP hD hS (S := Unit) (Φ := _) (W1 := _) dX8_searchFrom_70 () trivial hw_10 (Nat.le_of_ble_eq_true rfl) (Nat.le_of_ble_eq_true rfl)
            · skip
              refine lv_iload_n hx hb dX8_searchFrom_36 rfl (lv_at hl 3 rfl) ?_
              refine lv_iload_n hx hb dX8_searchFrom_37 rfl (lv_at hl 0 rfl) ?_
              refine x_calli (S := Unit) (wc := []) (wr := [(aS, .inr (6, [.ref aQ, .ref aSt, .ref aSx, .ref aSy, .int (iI sr), .int (iI zl)])), (aQ, .inr (2, [.int (iI zqx), .int (iI zqy), .int (iI zqhx), .int (iI zqhy)])), (aSt, .inl (gI g, 4, .inl (ar st))), (aSx, .inl (gI g, 4, .inl (ar sx))), (aSy, .inl (gI g, 4, .inl (ar sy)))]) hC hP hD hS hA [] [0, 1, 2, 3, 4] [0, 1, 2, 3, 4] rfl rfl (fun hpre => va_runS (As := [.int (iI be), .int (iI zk)]) (rest := []) ⟨hx, hb, hml, hown, hts⟩ (c_X8_fits l g H.size be zk (by first | (first | assumption | omega | exact bnd_up (by assumption) (by omega) (by omega)) | fail "q8") (by first | (first | assumption | omega | exact bnd_up (by assumption) (by omega) (by omega)) | fail "q8")) (va_cwS 2 hts gX8_searchFrom_X8_fits rfl rfl rfl (by decide +kernel) ⟨Nat.le_of_ble_eq_true rfl, Nat.le_of_ble_eq_true rfl⟩) ⟨xB_blind, hpre _⟩ rfl rfl hl.1 rfl (lv_room (Nat.le_of_ble_eq_true rfl)) dX8_searchFrom_38 ⟨Nat.le_of_ble_eq_true rfl, Nat.le_of_ble_eq_true rfl⟩) (fun (u : Unit) => [(aS, .inr (6, [.ref aQ, .ref aSt, .ref aSx, .ref aSy, .int (iI sr), .int (iI zl)])), (aQ, .inr (2, [.int (iI zqx), .int (iI zqy), .int (iI zqhx), .int (iI zqhy)])), (aSt, .inl (gI g, 4, .inl (ar st))), (aSx, .inl (gI g, 4, .inl (ar sx))), (aSy, .inl (gI g, 4, .inl (ar sy)))]) rfl rfl (by decide) (fun _ => rfl) rfl (fun u v_11 H locs hv_11 pv_11 hP hD hS => ?_)
              have hP : va_P (gD g) vwCl [(aS, .inr (6, [.ref aQ, .ref aSt, .ref aSx, .ref aSy, .int (iI sr), .int (iI zl)])), (aQ, .inr (2, [.int (iI zqx), .int (iI zqy), .int (iI zqhx), .int (iI zqhy)])), (aSt, .inl (gI g, 4, .inl (ar st))), (aSx, .inl (gI g, 4, .inl (ar sx))), (aSy, .inl (gI g, 4, .inl (ar sy)))] H := hP
              have hD : va_D A [(aS, .inr (6, [.ref aQ, .ref aSt, .ref aSx, .ref aSy, .int (iI sr), .int (iI zl)])), (aQ, .inr (2, [.int (iI zqx), .int (iI zqy), .int (iI zqhx), .int (iI zqhy)])), (aSt, .inl (gI g, 4, .inl (ar st))), (aSx, .inl (gI g, 4, .inl (ar sx))), (aSy, .inl (gI g, 4, .inl (ar sy)))] := hD
              have hv_11 : v_11 = bI (fitP be zk) := hv_11
              refine x_top hv_11 ?_
              refine x_ifb_eq (tgt := 64) (P := fitP be zk) hx hb dX8_searchFrom_41 (by decide) (fun c_12 => ?_) (fun c_12 => ?_)
              · skip
                refine x_iinc (k := 0) (lv' := [(3, .int (iI (zk + 1))), (0, .ref aS), (1, .int (iI stp)), (2, .int (iI be))]) hx hb dX8_searchFrom_64 hl rfl (by decide) rfl (fun ls hl => ?_)
                refine lv_goto (tgt := 28) hx hb dX8_searchFrom_67 (by decide) ?_
                exact ih28 (zk + 1) zl zqx zqy zqhx zqhy (show 0 ≤ (zk + 1) ∧ (zk + 1) ≤ 8 by
                    first
                    | (
                       first | assumption | omega | rfl)
                    | fail "q9") (show zqx = qx by
                    first
                    | (
                       first | assumption | omega | rfl)
                    | fail "q9") (show zqy = qy by
                    first
                    | (
                       first | assumption | omega | rfl)
                    | fail "q9") (show zqhx = qhx by
                    first
                    | (
                       first | assumption | omega | rfl)
                    | fail "q9") (show zqhy = qhy by
                    first
                    | (
                       first | assumption | omega | rfl)
                    | fail "q9") (show zl = mn sl (lstI (fun p => gaN st sx sy 1 (stp + 1) p (qx + (qhx + (st stp * toSide p - sx stp))) (qy + (qhy + (st stp * upward p - sy stp))) (qhx + (st stp * toSide p - sx stp)) (qhy + (st stp * upward p - sy stp))) (fun p => decide (fitP be p)) (zk + 1)) by
                    first
                    | (
                       rw [lstI_step _ _ (by omega)]
                       simp only [decide_eq_true_eq]
                       first | (rw [if_pos (by omega), hzl, mn_assoc, hzqx, hzqy, hzqhx, hzqhy]) | (rw [if_neg (by omega)]; assumption))
                    | fail "q9") (show 0 ≤ zl ∧ zl ≤ 2147483647 by
                    first
                    | (
                       first | assumption | (have g1 := gaN_nn st sx sy 1 (stp + 1) zk (zqx + (zqhx + (st stp * toSide zk - sx stp))) (zqy + (zqhy + (st stp * upward zk - sy stp))) (zqhx + (st stp * toSide zk - sx stp)) (zqhy + (st stp * upward zk - sy stp)); have g2 := mn_r zl _ (rfl : mn zl (gaN st sx sy 1 (stp + 1) zk (zqx + (zqhx + (st stp * toSide zk - sx stp))) (zqy + (zqhy + (st stp * upward zk - sy stp))) (zqhx + (st stp * toSide zk - sx stp)) (zqhy + (st stp * upward zk - sy stp))) = _); omega))
                    | fail "q9") (by
                    first
                    | (
                       omega)
                    | fail "q9") _ _ hP hD hS ls (lv_sub hl [0, 1, 2, 3] rfl)
              · skip
                refine lv_aload_n hx hb dX8_searchFrom_44 rfl (lv_at hl 1 rfl) ?_
                refine lv_iload_n hx hb dX8_searchFrom_45 rfl (lv_at hl 2 rfl) ?_
                refine lv_iload_n hx hb dX8_searchFrom_46 rfl (lv_at hl 0 rfl) ?_
                refine x_callv (S := Unit) (wc := [(aS, .inr (6, [.ref aQ, .ref aSt, .ref aSx, .ref aSy, .int (iI sr), .int (iI zl)])), (aQ, .inr (2, [.int (iI zqx), .int (iI zqy), .int (iI zqhx), .int (iI zqhy)])), (aSt, .inl (gI g, 4, .inl (ar st))), (aSx, .inl (gI g, 4, .inl (ar sx))), (aSy, .inl (gI g, 4, .inl (ar sy)))]) (wr := []) hC hP hD hS hA [0, 1, 2, 3, 4] [] [0, 1, 2, 3, 4] rfl rfl (fun hpre => va_runV (As := [.int (iI stp), .int (iI zk)]) (rest := []) ⟨hx, hb, hml, hown, hts⟩ (c_X4_tryOut l g H.size aS aQ aSt aSx aSy sr zl zqx zqy zqhx zqhy stp zk st sx sy (by first | (first | assumption | omega | exact bnd_up (by assumption) (by omega) (by omega)) | fail "q8") (by first | (first | assumption | omega | exact bnd_up (by assumption) (by omega) (by omega)) | fail "q8")) (cwV 2 hts gX8_searchFrom_X4_tryOut rfl rfl rfl (by decide +kernel) ⟨Nat.le_of_ble_eq_true rfl, Nat.le_of_ble_eq_true rfl⟩) ⟨xB_blind, va_recv hK hP (ci := 6) (q0 := 0) rfl rfl, hpre _⟩ rfl rfl hl.1 rfl (lv_room (Nat.le_of_ble_eq_true rfl)) dX8_searchFrom_47 ⟨Nat.le_of_ble_eq_true rfl, Nat.le_of_ble_eq_true rfl⟩) (fun (u : Unit) => [(aS, .inr (6, [.ref aQ, .ref aSt, .ref aSx, .ref aSy, .int (iI sr), .int (iI zl)])), (aQ, .inr (2, [.int (iI (zqx + (zqhx + (st stp * toSide zk - sx stp)))), .int (iI (zqy + (zqhy + (st stp * upward zk - sy stp)))), .int (iI (zqhx + (st stp * toSide zk - sx stp))), .int (iI (zqhy + (st stp * upward zk - sy stp)))])), (aSt, .inl (gI g, 4, .inl (ar st))), (aSx, .inl (gI g, 4, .inl (ar sx))), (aSy, .inl (gI g, 4, .inl (ar sy)))]) rfl rfl (by decide) (fun _ => rfl) rfl (fun u H locs hv_13 hP hD hS => ?_)
                have hP : va_P (gD g) vwCl [(aS, .inr (6, [.ref aQ, .ref aSt, .ref aSx, .ref aSy, .int (iI sr), .int (iI zl)])), (aQ, .inr (2, [.int (iI (zqx + (zqhx + (st stp * toSide zk - sx stp)))), .int (iI (zqy + (zqhy + (st stp * upward zk - sy stp)))), .int (iI (zqhx + (st stp * toSide zk - sx stp))), .int (iI (zqhy + (st stp * upward zk - sy stp)))])), (aSt, .inl (gI g, 4, .inl (ar st))), (aSx, .inl (gI g, 4, .inl (ar sx))), (aSy, .inl (gI g, 4, .inl (ar sy)))] H := hP
                have hD : va_D A [(aS, .inr (6, [.ref aQ, .ref aSt, .ref aSx, .ref aSy, .int (iI sr), .int (iI zl)])), (aQ, .inr (2, [.int (iI (zqx + (zqhx + (st stp * toSide zk - sx stp)))), .int (iI (zqy + (zqhy + (st stp * upward zk - sy stp)))), .int (iI (zqhx + (st stp * toSide zk - sx stp))), .int (iI (zqhy + (st stp * upward zk - sy stp)))])), (aSt, .inl (gI g, 4, .inl (ar st))), (aSx, .inl (gI g, 4, .inl (ar sx))), (aSy, .inl (gI g, 4, .inl (ar sy)))] := hD
                have m1 := mulb (A := 9) (B := 1) (a := st stp) (b := toSide zk) (by have := hb_st stp; omega) (toSide_r zk)
                have m2 := mulb (A := 9) (B := 1) (a := st stp) (b := upward zk) (by have := hb_st stp; omega) (upward_r zk)
                have m3 := hb_sx stp
                have m4 := hb_sy stp
                refine lv_aload_n hx hb dX8_searchFrom_50 rfl (lv_at hl 1 rfl) ?_
                refine lv_iload_n hx hb dX8_searchFrom_51 rfl (lv_at hl 2 rfl) ?_
                refine x_iconst hx hb dX8_searchFrom_52 ?_
                refine x_iadd hx hb dX8_searchFrom_53 ?_
                refine lv_iload_n hx hb dX8_searchFrom_54 rfl (lv_at hl 0 rfl) ?_
                refine x_callv (S := Unit) (wc := [(aS, .inr (6, [.ref aQ, .ref aSt, .ref aSx, .ref aSy, .int (iI sr), .int (iI zl)])), (aQ, .inr (2, [.int (iI (zqx + (zqhx + (st stp * toSide zk - sx stp)))), .int (iI (zqy + (zqhy + (st stp * upward zk - sy stp)))), .int (iI (zqhx + (st stp * toSide zk - sx stp))), .int (iI (zqhy + (st stp * upward zk - sy stp)))])), (aSt, .inl (gI g, 4, .inl (ar st))), (aSx, .inl (gI g, 4, .inl (ar sx))), (aSy, .inl (gI g, 4, .inl (ar sy)))]) (wr := []) hC hP hD hS hA [0, 1, 2, 3, 4] [] [0, 1, 2, 3, 4] rfl rfl (fun hpre => va_runS (As := [.ref aS, .int (iI (stp + 1)), .int (iI zk)]) (rest := []) ⟨hx, hb, hml, hown, hts⟩ (c_X8_searchFrom1 l g H.size aS aQ aSt aSx aSy sr zl (zqx + (zqhx + (st stp * toSide zk - sx stp))) (zqy + (zqhy + (st stp * upward zk - sy stp))) (zqhx + (st stp * toSide zk - sx stp)) (zqhy + (st stp * upward zk - sy stp)) (stp + 1) zk st sx sy (by first | (first | assumption | omega | exact bnd_up (by assumption) (by omega) (by omega)) | fail "q8") (by first | (first | assumption | omega | exact bnd_up (by assumption) (by omega) (by omega)) | fail "q8") (by first | (first | assumption | omega | exact bnd_up (by assumption) (by omega) (by omega)) | fail "q8") (by first | (first | assumption | omega | exact bnd_up (by assumption) (by omega) (by omega)) | fail "q8") (by first | (first | assumption | omega | exact bnd_up (by assumption) (by omega) (by omega)) | fail "q8") (by first | (first | assumption | omega | exact bnd_up (by assumption) (by omega) (by omega)) | fail "q8") (by first | (first | assumption | omega | exact bnd_up (by assumption) (by omega) (by omega)) | fail "q8") (by first | (first | assumption | omega | exact bnd_up (by assumption) (by omega) (by omega)) | fail "q8") (by first | (first | assumption | omega | exact bnd_up (by assumption) (by omega) (by omega)) | fail "q8") (by first | (first | assumption | omega | exact bnd_up (by assumption) (by omega) (by omega)) | fail "q8") (by first | (first | assumption | omega | exact bnd_up (by assumption) (by omega) (by omega)) | fail "q8") (by first | (first | assumption | omega | exact bnd_up (by assumption) (by omega) (by omega)) | fail "q8")) (va_cwS 3 hts gX8_searchFrom_X8_searchFrom rfl rfl rfl (by decide +kernel) ⟨Nat.le_of_ble_eq_true rfl, Nat.le_of_ble_eq_true rfl⟩) ⟨xB_blind, hpre _⟩ rfl rfl hl.1 rfl (lv_room (Nat.le_of_ble_eq_true rfl)) dX8_searchFrom_55 ⟨Nat.le_of_ble_eq_true rfl, Nat.le_of_ble_eq_true rfl⟩) (fun (u : Unit) => [(aS, .inr (6, [.ref aQ, .ref aSt, .ref aSx, .ref aSy, .int (iI sr), .int (iI (mn zl (gaN st sx sy 1 (stp + 1) zk (zqx + (zqhx + (st stp * toSide zk - sx stp))) (zqy + (zqhy + (st stp * upward zk - sy stp))) (zqhx + (st stp * toSide zk - sx stp)) (zqhy + (st stp * upward zk - sy stp)))))])), (aQ, .inr (2, [.int (iI (zqx + (zqhx + (st stp * toSide zk - sx stp)))), .int (iI (zqy + (zqhy + (st stp * upward zk - sy stp)))), .int (iI (zqhx + (st stp * toSide zk - sx stp))), .int (iI (zqhy + (st stp * upward zk - sy stp)))])), (aSt, .inl (gI g, 4, .inl (ar st))), (aSx, .inl (gI g, 4, .inl (ar sx))), (aSy, .inl (gI g, 4, .inl (ar sy)))]) rfl rfl (by decide) (fun _ => rfl) rfl (fun u H locs hv_14 hP hD hS => ?_)
                have hP : va_P (gD g) vwCl [(aS, .inr (6, [.ref aQ, .ref aSt, .ref aSx, .ref aSy, .int (iI sr), .int (iI (mn zl (gaN st sx sy 1 (stp + 1) zk (zqx + (zqhx + (st stp * toSide zk - sx stp))) (zqy + (zqhy + (st stp * upward zk - sy stp))) (zqhx + (st stp * toSide zk - sx stp)) (zqhy + (st stp * upward zk - sy stp)))))])), (aQ, .inr (2, [.int (iI (zqx + (zqhx + (st stp * toSide zk - sx stp)))), .int (iI (zqy + (zqhy + (st stp * upward zk - sy stp)))), .int (iI (zqhx + (st stp * toSide zk - sx stp))), .int (iI (zqhy + (st stp * upward zk - sy stp)))])), (aSt, .inl (gI g, 4, .inl (ar st))), (aSx, .inl (gI g, 4, .inl (ar sx))), (aSy, .inl (gI g, 4, .inl (ar sy)))] H := hP
                have hD : va_D A [(aS, .inr (6, [.ref aQ, .ref aSt, .ref aSx, .ref aSy, .int (iI sr), .int (iI (mn zl (gaN st sx sy 1 (stp + 1) zk (zqx + (zqhx + (st stp * toSide zk - sx stp))) (zqy + (zqhy + (st stp * upward zk - sy stp))) (zqhx + (st stp * toSide zk - sx stp)) (zqhy + (st stp * upward zk - sy stp)))))])), (aQ, .inr (2, [.int (iI (zqx + (zqhx + (st stp * toSide zk - sx stp)))), .int (iI (zqy + (zqhy + (st stp * upward zk - sy stp)))), .int (iI (zqhx + (st stp * toSide zk - sx stp))), .int (iI (zqhy + (st stp * upward zk - sy stp)))])), (aSt, .inl (gI g, 4, .inl (ar st))), (aSx, .inl (gI g, 4, .inl (ar sx))), (aSy, .inl (gI g, 4, .inl (ar sy)))] := hD
                refine lv_aload_n hx hb dX8_searchFrom_58 rfl (lv_at hl 1 rfl) ?_
                refine lv_iload_n hx hb dX8_searchFrom_59 rfl (lv_at hl 2 rfl) ?_
                refine lv_iload_n hx hb dX8_searchFrom_60 rfl (lv_at hl 0 rfl) ?_
                refine x_callv (S := Unit) (wc := [(aS, .inr (6, [.ref aQ, .ref aSt, .ref aSx, .ref aSy, .int (iI sr), .int (iI (mn zl (gaN st sx sy 1 (stp + 1) zk (zqx + (zqhx + (st stp * toSide zk - sx stp))) (zqy + (zqhy + (st stp * upward zk - sy stp))) (zqhx + (st stp * toSide zk - sx stp)) (zqhy + (st stp * upward zk - sy stp)))))])), (aQ, .inr (2, [.int (iI (zqx + (zqhx + (st stp * toSide zk - sx stp)))), .int (iI (zqy + (zqhy + (st stp * upward zk - sy stp)))), .int (iI (zqhx + (st stp * toSide zk - sx stp))), .int (iI (zqhy + (st stp * upward zk - sy stp)))])), (aSt, .inl (gI g, 4, .inl (ar st))), (aSx, .inl (gI g, 4, .inl (ar sx))), (aSy, .inl (gI g, 4, .inl (ar sy)))]) (wr := []) hC hP hD hS hA [0, 1, 2, 3, 4] [] [0, 1, 2, 3, 4] rfl rfl (fun hpre => va_runV (As := [.int (iI stp), .int (iI zk)]) (rest := []) ⟨hx, hb, hml, hown, hts⟩ (c_X4_takeBack l g H.size aS aQ aSt aSx aSy sr (mn zl (gaN st sx sy 1 (stp + 1) zk (zqx + (zqhx + (st stp * toSide zk - sx stp))) (zqy + (zqhy + (st stp * upward zk - sy stp))) (zqhx + (st stp * toSide zk - sx stp)) (zqhy + (st stp * upward zk - sy stp)))) (zqx + (zqhx + (st stp * toSide zk - sx stp))) (zqy + (zqhy + (st stp * upward zk - sy stp))) (zqhx + (st stp * toSide zk - sx stp)) (zqhy + (st stp * upward zk - sy stp)) stp zk st sx sy (by first | (first | assumption | omega | exact bnd_up (by assumption) (by omega) (by omega)) | fail "q8") (by first | (first | assumption | omega | exact bnd_up (by assumption) (by omega) (by omega)) | fail "q8")) (cwV 2 hts gX8_searchFrom_X4_takeBack rfl rfl rfl (by decide +kernel) ⟨Nat.le_of_ble_eq_true rfl, Nat.le_of_ble_eq_true rfl⟩) ⟨xB_blind, va_recv hK hP (ci := 6) (q0 := 0) rfl rfl, hpre _⟩ rfl rfl hl.1 rfl (lv_room (Nat.le_of_ble_eq_true rfl)) dX8_searchFrom_61 ⟨Nat.le_of_ble_eq_true rfl, Nat.le_of_ble_eq_true rfl⟩) (fun (u : Unit) => [(aS, .inr (6, [.ref aQ, .ref aSt, .ref aSx, .ref aSy, .int (iI sr), .int (iI (mn zl (gaN st sx sy 1 (stp + 1) zk (zqx + (zqhx + (st stp * toSide zk - sx stp))) (zqy + (zqhy + (st stp * upward zk - sy stp))) (zqhx + (st stp * toSide zk - sx stp)) (zqhy + (st stp * upward zk - sy stp)))))])), (aQ, .inr (2, [.int (iI ((zqx + (zqhx + (st stp * toSide zk - sx stp))) - (zqhx + (st stp * toSide zk - sx stp)))), .int (iI ((zqy + (zqhy + (st stp * upward zk - sy stp))) - (zqhy + (st stp * upward zk - sy stp)))), .int (iI ((zqhx + (st stp * toSide zk - sx stp)) - (st stp * toSide zk - sx stp))), .int (iI ((zqhy + (st stp * upward zk - sy stp)) - (st stp * upward zk - sy stp)))])), (aSt, .inl (gI g, 4, .inl (ar st))), (aSx, .inl (gI g, 4, .inl (ar sx))), (aSy, .inl (gI g, 4, .inl (ar sy)))]) rfl rfl (by decide) (fun _ => rfl) rfl (fun u H locs hv_15 hP hD hS => ?_)
                have hP : va_P (gD g) vwCl [(aS, .inr (6, [.ref aQ, .ref aSt, .ref aSx, .ref aSy, .int (iI sr), .int (iI (mn zl (gaN st sx sy 1 (stp + 1) zk (zqx + (zqhx + (st stp * toSide zk - sx stp))) (zqy + (zqhy + (st stp * upward zk - sy stp))) (zqhx + (st stp * toSide zk - sx stp)) (zqhy + (st stp * upward zk - sy stp)))))])), (aQ, .inr (2, [.int (iI ((zqx + (zqhx + (st stp * toSide zk - sx stp))) - (zqhx + (st stp * toSide zk - sx stp)))), .int (iI ((zqy + (zqhy + (st stp * upward zk - sy stp))) - (zqhy + (st stp * upward zk - sy stp)))), .int (iI ((zqhx + (st stp * toSide zk - sx stp)) - (st stp * toSide zk - sx stp))), .int (iI ((zqhy + (st stp * upward zk - sy stp)) - (st stp * upward zk - sy stp)))])), (aSt, .inl (gI g, 4, .inl (ar st))), (aSx, .inl (gI g, 4, .inl (ar sx))), (aSy, .inl (gI g, 4, .inl (ar sy)))] H := hP
                have hD : va_D A [(aS, .inr (6, [.ref aQ, .ref aSt, .ref aSx, .ref aSy, .int (iI sr), .int (iI (mn zl (gaN st sx sy 1 (stp + 1) zk (zqx + (zqhx + (st stp * toSide zk - sx stp))) (zqy + (zqhy + (st stp * upward zk - sy stp))) (zqhx + (st stp * toSide zk - sx stp)) (zqhy + (st stp * upward zk - sy stp)))))])), (aQ, .inr (2, [.int (iI ((zqx + (zqhx + (st stp * toSide zk - sx stp))) - (zqhx + (st stp * toSide zk - sx stp)))), .int (iI ((zqy + (zqhy + (st stp * upward zk - sy stp))) - (zqhy + (st stp * upward zk - sy stp)))), .int (iI ((zqhx + (st stp * toSide zk - sx stp)) - (st stp * toSide zk - sx stp))), .int (iI ((zqhy + (st stp * upward zk - sy stp)) - (st stp * upward zk - sy stp)))])), (aSt, .inl (gI g, 4, .inl (ar st))), (aSx, .inl (gI g, 4, .inl (ar sx))), (aSy, .inl (gI g, 4, .inl (ar sy)))] := hD
                refine x_iinc (k := 0) (lv' := [(3, .int (iI (zk + 1))), (0, .ref aS), (1, .int (iI stp)), (2, .int (iI be))]) hx hb dX8_searchFrom_64 hl rfl (by decide) rfl (fun ls hl => ?_)
                refine lv_goto (tgt := 28) hx hb dX8_searchFrom_67 (by decide) ?_
                exact ih28 (zk + 1) (mn zl (gaN st sx sy 1 (stp + 1) zk (zqx + (zqhx + (st stp * toSide zk - sx stp))) (zqy + (zqhy + (st stp * upward zk - sy stp))) (zqhx + (st stp * toSide zk - sx stp)) (zqhy + (st stp * upward zk - sy stp)))) ((zqx + (zqhx + (st stp * toSide zk - sx stp))) - (zqhx + (st stp * toSide zk - sx stp))) ((zqy + (zqhy + (st stp * upward zk - sy stp))) - (zqhy + (st stp * upward zk - sy stp))) ((zqhx + (st stp * toSide zk - sx stp)) - (st stp * toSide zk - sx stp)) ((zqhy + (st stp * upward zk - sy stp)) - (st stp * upward zk - sy stp)) (show 0 ≤ (zk + 1) ∧ (zk + 1) ≤ 8 by
                    first
                    | (
                       first | assumption | omega | rfl)
                    | fail "q9") (show ((zqx + (zqhx + (st stp * toSide zk - sx stp))) - (zqhx + (st stp * toSide zk - sx stp))) = qx by
                    first
                    | (
                       first | assumption | omega | rfl)
                    | fail "q9") (show ((zqy + (zqhy + (st stp * upward zk - sy stp))) - (zqhy + (st stp * upward zk - sy stp))) = qy by
                    first
                    | (
                       first | assumption | omega | rfl)
                    | fail "q9") (show ((zqhx + (st stp * toSide zk - sx stp)) - (st stp * toSide zk - sx stp)) = qhx by
                    first
                    | (
                       first | assumption | omega | rfl)
                    | fail "q9") (show ((zqhy + (st stp * upward zk - sy stp)) - (st stp * upward zk - sy stp)) = qhy by
                    first
                    | (
                       first | assumption | omega | rfl)
                    | fail "q9") (show (mn zl (gaN st sx sy 1 (stp + 1) zk (zqx + (zqhx + (st stp * toSide zk - sx stp))) (zqy + (zqhy + (st stp * upward zk - sy stp))) (zqhx + (st stp * toSide zk - sx stp)) (zqhy + (st stp * upward zk - sy stp)))) = mn sl (lstI (fun p => gaN st sx sy 1 (stp + 1) p (qx + (qhx + (st stp * toSide p - sx stp))) (qy + (qhy + (st stp * upward p - sy stp))) (qhx + (st stp * toSide p - sx stp)) (qhy + (st stp * upward p - sy stp))) (fun p => decide (fitP be p)) (zk + 1)) by
                    first
                    | (
                       rw [lstI_step _ _ (by omega)]
                       simp only [decide_eq_true_eq]
                       first | (rw [if_pos (by omega), hzl, mn_assoc, hzqx, hzqy, hzqhx, hzqhy]) | (rw [if_neg (by omega)]; assumption))
                    | fail "q9") (show 0 ≤ (mn zl (gaN st sx sy 1 (stp + 1) zk (zqx + (zqhx + (st stp * toSide zk - sx stp))) (zqy + (zqhy + (st stp * upward zk - sy stp))) (zqhx + (st stp * toSide zk - sx stp)) (zqhy + (st stp * upward zk - sy stp)))) ∧ (mn zl (gaN st sx sy 1 (stp + 1) zk (zqx + (zqhx + (st stp * toSide zk - sx stp))) (zqy + (zqhy + (st stp * upward zk - sy stp))) (zqhx + (st stp * toSide zk - sx stp)) (zqhy + (st stp * upward zk - sy stp)))) ≤ 2147483647 by
                    first
                    | (
                       first | assumption | (have g1 := gaN_nn st sx sy 1 (stp + 1) zk (zqx + (zqhx + (st stp * toSide zk - sx stp))) (zqy + (zqhy + (st stp * upward zk - sy stp))) (zqhx + (st stp * toSide zk - sx stp)) (zqhy + (st stp * upward zk - sy stp)); have g2 := mn_r zl _ (rfl : mn zl (gaN st sx sy 1 (stp + 1) zk (zqx + (zqhx + (st stp * toSide zk - sx stp))) (zqy + (zqhy + (st stp * upward zk - sy stp))) (zqhx + (st stp * toSide zk - sx stp)) (zqhy + (st stp * upward zk - sy stp))) = _); omega))
                    | fail "q9") (by
                    first
                    | (
                       omega)
                    | fail "q9") _ _ hP hD hS ls (lv_sub hl [0, 1, 2, 3] rfl)
        exact lp28 (8 - 0 + 1 : Int).toNat 0 sl qx qy qhx qhy (show 0 ≤ 0 ∧ 0 ≤ 8 by
            first
            | (
               first | assumption | omega | rfl)
            | fail "q9") (show qx = qx by
            first
            | (
               first | assumption | omega | rfl)
            | fail "q9") (show qy = qy by
            first
            | (
               first | assumption | omega | rfl)
            | fail "q9") (show qhx = qhx by
            first
            | (
               first | assumption | omega | rfl)
            | fail "q9") (show qhy = qhy by
            first
            | (
               first | assumption | omega | rfl)
            | fail "q9") (show sl = mn sl (lstI (fun p => gaN st sx sy 1 (stp + 1) p (qx + (qhx + (st stp * toSide p - sx stp))) (qy + (qhy + (st stp * upward p - sy stp))) (qhx + (st stp * toSide p - sx stp)) (qhy + (st stp * upward p - sy stp))) (fun p => decide (fitP be p)) 0) by
            first
            | (
               exact (mn_max hsl.2).symm)
            | fail "q9") (show 0 ≤ sl ∧ sl ≤ 2147483647 by
            first
            | (
               first | assumption | omega | rfl)
            | fail "q9") (by omega) _ _ hP hD hS ls (lv_sub hl [0, 1, 2, 3] rfl)
      · skip
        have q_16 : (mn sl (gaN st sx sy 2 stp be qx qy qhx qhy)) = sl := by
          first
          | (
             first | (show mn sl (lstI (fun p => gaN st sx sy 1 (stp + 1) p (qx + (qhx + (st stp * toSide p - sx stp))) (qy + (qhy + (st stp * upward p - sy stp))) (qhx + (st stp * toSide p - sx stp)) (qhy + (st stp * upward p - sy stp))) (fun p => decide (fitP be p)) 8) = zl; rw [show (8 : Int) = zk by omega]; exact hzl.symm) | (have hlb := lbN (st := st) (sx := sx) (sy := sy) hb_st 2 stp be qx qy qhx qhy; have s1 := alN_sum (F := sx) (sr := sr) 2 stp hstp (by omega); have s2 := alN_sum (F := sy) (sr := sr) 2 stp hstp (by omega); have s3 := alN_sum (F := st) (sr := sr) 2 stp hstp (by omega); rw [s1, s2, s3, show sr - stp = ((2 : Nat) : Int) by omega] at hal9; rw [← hal9] at hlb; exact mn_left (by unfold mn at hlb; split at hlb <;> omega)))
          | fail "q9"
        have hw_17 := (congrArg (fun (z0 : Int) => ([(aS, .inr (6, [.ref aQ, .ref aSt, .ref aSx, .ref aSy, .int (iI sr), .int (iI z0)])), (aQ, .inr (2, [.int (iI qx), .int (iI qy), .int (iI qhx), .int (iI qhy)])), (aSt, .inl (gI g, 4, .inl (ar st))), (aSx, .inl (gI g, 4, .inl (ar sx))), (aSy, .inl (gI g, 4, .inl (ar sy)))] : va_W)) q_16.symm)
        rw [hQ9]
        exact x_vret hx hb hr hlocks hP hD hS (S := Unit) (Φ := _) (W1 := _) dX8_searchFrom_25 () trivial hw_17 (Nat.le_of_ble_eq_true rfl) (Nat.le_of_ble_eq_true rfl)
    · skip
      exfalso; omega
  rw [hH, hlo, hQ9] at goal_
  exact goal_

set_option maxHeartbeats 4000000 in
set_option maxRecDepth 100000 in
theorem c_X8_searchFrom3 (l : Launch) (g : xg) (sz : Nat) (aS aQ aSt aSx aSy : Nat) (sr sl qx qy qhx qhy stp be : Int) (st sx sy : Int → Int) (hsr : 0 ≤ sr ∧ sr ≤ 4) (hsd : sr - stp = 3) (hstp : 0 ≤ stp) (hbe : -1 ≤ be ∧ be ≤ 7) (hqx : -716500 ≤ qx ∧ qx ≤ 716500) (hqy : -716500 ≤ qy ∧ qy ≤ 716500) (hqhx : -3014 ≤ qhx ∧ qhx ≤ 3014) (hqhy : -3014 ≤ qhy ∧ qhy ≤ 3014) (hsl : 0 ≤ sl ∧ sl ≤ 2147483647) (hb_st : bnd st 0 9) (hb_sx : bnd sx (-5) 5) (hb_sy : bnd sy (-5) 5) : Met l yX8_searchFrom wsX8_searchFrom { frames := 6, cells := 0, slots := 0, locals := 131 } (va_Pc [.ref aS, .int (iI stp), .int (iI be)] (xB g [(aS, .inr (6, [.ref aQ, .ref aSt, .ref aSx, .ref aSy, .int (iI sr), .int (iI sl)])), (aQ, .inr (2, [.int (iI qx), .int (iI qy), .int (iI qhx), .int (iI qhy)])), (aSt, .inl (gI g, 4, .inl (ar st))), (aSx, .inl (gI g, 4, .inl (ar sx))), (aSy, .inl (gI g, 4, .inl (ar sy)))] sz)) (va_Qv (fun (u : Unit) => True) (fun u t => xE g (va_A [(aS, .inr (6, [.ref aQ, .ref aSt, .ref aSx, .ref aSy, .int (iI sr), .int (iI sl)])), (aQ, .inr (2, [.int (iI qx), .int (iI qy), .int (iI qhx), .int (iI qhy)])), (aSt, .inl (gI g, 4, .inl (ar st))), (aSx, .inl (gI g, 4, .inl (ar sx))), (aSy, .inl (gI g, 4, .inl (ar sy)))] sz) ((fun (u : Unit) => [(aS, .inr (6, [.ref aQ, .ref aSt, .ref aSx, .ref aSy, .int (iI sr), .int (iI (mn sl (gaN st sx sy 3 stp be qx qy qhx qhy)))])), (aQ, .inr (2, [.int (iI qx), .int (iI qy), .int (iI qhx), .int (iI qhy)])), (aSt, .inl (gI g, 4, .inl (ar st))), (aSx, .inl (gI g, 4, .inl (ar sx))), (aSy, .inl (gI g, 4, .inl (ar sy)))]) u) t) (va_A [(aS, .inr (6, [.ref aQ, .ref aSt, .ref aSx, .ref aSy, .int (iI sr), .int (iI sl)])), (aQ, .inr (2, [.int (iI qx), .int (iI qy), .int (iI qhx), .int (iI qhy)])), (aSt, .inl (gI g, 4, .inl (ar st))), (aSx, .inl (gI g, 4, .inl (ar sx))), (aSy, .inl (gI g, 4, .inl (ar sy)))] sz)) 0 0 (va_A [(aS, .inr (6, [.ref aQ, .ref aSt, .ref aSx, .ref aSy, .int (iI sr), .int (iI sl)])), (aQ, .inr (2, [.int (iI qx), .int (iI qy), .int (iI qhx), .int (iI qhy)])), (aSt, .inl (gI g, 4, .inl (ar st))), (aSx, .inl (gI g, 4, .inl (ar sx))), (aSy, .inl (gI g, 4, .inl (ar sy)))] sz) := by
  refine x_enter (y := yX8_searchFrom) (ws := wsX8_searchFrom) (g := g) (sz := sz) (av := [.ref aS, .int (iI stp), .int (iI be)]) (WS := [(aS, .inr (6, [.ref aQ, .ref aSt, .ref aSx, .ref aSy, .int (iI sr), .int (iI sl)])), (aQ, .inr (2, [.int (iI qx), .int (iI qy), .int (iI qhx), .int (iI qhy)])), (aSt, .inl (gI g, 4, .inl (ar st))), (aSx, .inl (gI g, 4, .inl (ar sx))), (aSy, .inl (gI g, 4, .inl (ar sy)))]) (cc := cX8_searchFrom) (maxL := 4) (ret := none) (Qc := (fun A => (va_Qv (fun (u : Unit) => True) (fun u t => xE g A ((fun (u : Unit) => [(aS, .inr (6, [.ref aQ, .ref aSt, .ref aSx, .ref aSy, .int (iI sr), .int (iI (mn sl (gaN st sx sy 3 stp be qx qy qhx qhy)))])), (aQ, .inr (2, [.int (iI qx), .int (iI qy), .int (iI qhx), .int (iI qhy)])), (aSt, .inl (gI g, 4, .inl (ar st))), (aSx, .inl (gI g, 4, .inl (ar sx))), (aSy, .inl (gI g, 4, .inl (ar sy)))]) u) t) A))) (by decide) rfl (Nat.le_of_ble_eq_true rfl) ?_
  intro p e s m args below meth c A ls hx hb hr hml hown hts hlocks hname hC hP hD hS hA hl
  have hK := hC.1
  have hown : s.vm.findClass RX8 = some m.cls := hown
  have hin4 : ∀ w ∈ u_ws RX4 TX4 6, w ∈ wsX8_searchFrom := by decide +kernel
  have hl : lv_has ls 4 [(0, .ref aS), (1, .int (iI stp)), (2, .int (iI be))] := hl
  obtain ⟨H, hH⟩ : ∃ z, z = s.heap := ⟨_, rfl⟩
  obtain ⟨locs, hlo⟩ : ∃ z : List Loc, z = [] := ⟨_, rfl⟩
  obtain ⟨Q9, hQ9⟩ : ∃ z, z = MQ below (va_Qv (fun (u : Unit) => True) (fun u t => xE g A ((fun (u : Unit) => [(aS, .inr (6, [.ref aQ, .ref aSt, .ref aSx, .ref aSy, .int (iI sr), .int (iI (mn sl (gaN st sx sy 3 stp be qx qy qhx qhy)))])), (aQ, .inr (2, [.int (iI qx), .int (iI qy), .int (iI qhx), .int (iI qhy)])), (aSt, .inl (gI g, 4, .inl (ar st))), (aSx, .inl (gI g, 4, .inl (ar sx))), (aSy, .inl (gI g, 4, .inl (ar sy)))]) u) t) A) args s 0 0 A := ⟨_, rfl⟩
  have hP : va_P (gD g) vwCl [(aS, .inr (6, [.ref aQ, .ref aSt, .ref aSx, .ref aSy, .int (iI sr), .int (iI sl)])), (aQ, .inr (2, [.int (iI qx), .int (iI qy), .int (iI qhx), .int (iI qhy)])), (aSt, .inl (gI g, 4, .inl (ar st))), (aSx, .inl (gI g, 4, .inl (ar sx))), (aSy, .inl (gI g, 4, .inl (ar sy)))] H := by rw [hH]; exact hP
  have hS : va_S A s.heap H locs := by rw [hH, hlo]; exact hS
  have goal_ : W p l e { frames := 6, cells := 0, slots := 0, locals := 131 } s m args below meth c H locs 0 0 Q9 (F0 m 0 ls []) := by
    clear hH hlo
    refine lv_iload_n hx hb dX8_searchFrom_0 rfl (lv_at hl 1 rfl) ?_
    refine lv_aload_n hx hb dX8_searchFrom_1 rfl (lv_at hl 0 rfl) ?_
    refine va_get (D := gD g) (ci := 6) (v := .int (iI sr)) (C := RX4) (T := TX4) (N := 6) hx hb hts hin4 hown hK hP 0 rfl rfl 4 (by decide) (hts (.fieldLink RX8 372 "TunnelRing$Search" "rings" "I") (List.mem_of_getElem? (i := 1) rfl)) (fun _ h9 => h9) rfl dX8_searchFrom_2 ?_
    refine x_cmp_lt (tgt := 13) hx hb (by omega) (by omega) dX8_searchFrom_5 (by decide) (fun c_1 => ?_) (fun c_1 => ?_)
    · skip
      refine lv_aload_n hx hb dX8_searchFrom_13 rfl (lv_at hl 0 rfl) ?_
      refine lv_iload_n hx hb dX8_searchFrom_14 rfl (lv_at hl 1 rfl) ?_
      refine x_calli (S := Unit) (wc := [(aS, .inr (6, [.ref aQ, .ref aSt, .ref aSx, .ref aSy, .int (iI sr), .int (iI sl)])), (aQ, .inr (2, [.int (iI qx), .int (iI qy), .int (iI qhx), .int (iI qhy)])), (aSt, .inl (gI g, 4, .inl (ar st))), (aSx, .inl (gI g, 4, .inl (ar sx))), (aSy, .inl (gI g, 4, .inl (ar sy)))]) (wr := []) hC hP hD hS hA [0, 1, 2, 3, 4] [] [0, 1, 2, 3, 4] rfl rfl (fun hpre => va_runV (As := [.int (iI stp)]) (rest := []) ⟨hx, hb, hml, hown, hts⟩ (c_X4_atLeast l g H.size aS aQ aSt aSx aSy sr sl qx qy qhx qhy stp st sx sy (by first | (first | assumption | omega | exact bnd_up (by assumption) (by omega) (by omega)) | fail "q8") (by first | (first | assumption | omega | exact bnd_up (by assumption) (by omega) (by omega)) | fail "q8") (by first | (first | assumption | omega | exact bnd_up (by assumption) (by omega) (by omega)) | fail "q8") (by first | (first | assumption | omega | exact bnd_up (by assumption) (by omega) (by omega)) | fail "q8") (by first | (first | assumption | omega | exact bnd_up (by assumption) (by omega) (by omega)) | fail "q8") (by first | (first | assumption | omega | exact bnd_up (by assumption) (by omega) (by omega)) | fail "q8") (by first | (first | assumption | omega | exact bnd_up (by assumption) (by omega) (by omega)) | fail "q8") (by first | (first | assumption | omega | exact bnd_up (by assumption) (by omega) (by omega)) | fail "q8") (by first | (first | assumption | omega | exact bnd_up (by assumption) (by omega) (by omega)) | fail "q8")) (cwV 1 hts gX8_searchFrom_X4_atLeast rfl rfl rfl (by decide +kernel) ⟨Nat.le_of_ble_eq_true rfl, Nat.le_of_ble_eq_true rfl⟩) ⟨xB_blind, va_recv hK hP (ci := 6) (q0 := 0) rfl rfl, hpre _⟩ rfl rfl hl.1 rfl (lv_room (Nat.le_of_ble_eq_true rfl)) dX8_searchFrom_15 ⟨Nat.le_of_ble_eq_true rfl, Nat.le_of_ble_eq_true rfl⟩) (fun (u : Unit) => [(aS, .inr (6, [.ref aQ, .ref aSt, .ref aSx, .ref aSy, .int (iI sr), .int (iI sl)])), (aQ, .inr (2, [.int (iI qx), .int (iI qy), .int (iI qhx), .int (iI qhy)])), (aSt, .inl (gI g, 4, .inl (ar st))), (aSx, .inl (gI g, 4, .inl (ar sx))), (aSy, .inl (gI g, 4, .inl (ar sy)))]) rfl rfl (by decide) (fun _ => rfl) rfl (fun u v_2 H locs hv_2 pv_2 hP hD hS => ?_)
      have hP : va_P (gD g) vwCl [(aS, .inr (6, [.ref aQ, .ref aSt, .ref aSx, .ref aSy, .int (iI sr), .int (iI sl)])), (aQ, .inr (2, [.int (iI qx), .int (iI qy), .int (iI qhx), .int (iI qhy)])), (aSt, .inl (gI g, 4, .inl (ar st))), (aSx, .inl (gI g, 4, .inl (ar sx))), (aSy, .inl (gI g, 4, .inl (ar sy)))] H := hP
      have hD : va_D A [(aS, .inr (6, [.ref aQ, .ref aSt, .ref aSx, .ref aSy, .int (iI sr), .int (iI sl)])), (aQ, .inr (2, [.int (iI qx), .int (iI qy), .int (iI qhx), .int (iI qhy)])), (aSt, .inl (gI g, 4, .inl (ar st))), (aSx, .inl (gI g, 4, .inl (ar sx))), (aSy, .inl (gI g, 4, .inl (ar sy)))] := hD
      have hv_2 : v_2 = mx 0 (aI (qx + (sr - stp) * qhx - (sumI (fun k => (sr - k) * sx k) sr - sumI (fun k => (sr - k) * sx k) stp)) - (sumI (fun k => (sr - k) * st k) sr - sumI (fun k => (sr - k) * st k) stp)) + mx 0 (aI (qy + (sr - stp) * qhy - (sumI (fun k => (sr - k) * sy k) sr - sumI (fun k => (sr - k) * sy k) stp)) - (sumI (fun k => (sr - k) * st k) sr - sumI (fun k => (sr - k) * st k) stp)) := hv_2
      have hal9 := hv_2
      have hab9 := atL_b hsr (by omega) (by omega) (by omega) (by omega) (by omega) hb_st hb_sx hb_sy hal9
      refine lv_aload_n hx hb dX8_searchFrom_18 rfl (lv_at hl 0 rfl) ?_
      refine va_get (D := gD g) (ci := 6) (v := .int (iI sl)) (C := RX4) (T := TX4) (N := 6) hx hb hts hin4 hown hK hP 0 rfl rfl 5 (by decide) (hts (.fieldLink RX8 271 "TunnelRing$Search" "least" "I") (List.mem_of_getElem? (i := 2) rfl)) (fun _ h9 => h9) rfl dX8_searchFrom_19 ?_
      refine x_cmp_lt (tgt := 26) hx hb (by omega) (by omega) dX8_searchFrom_22 (by decide) (fun c_3 => ?_) (fun c_3 => ?_)
      · skip
        refine x_iconst hx hb dX8_searchFrom_26 ?_
        refine lv_istore_n (lv' := [(3, .int (iI 0)), (0, .ref aS), (1, .int (iI stp)), (2, .int (iI be))]) hx hb dX8_searchFrom_27 rfl hl (by decide) rfl (fun ls hl => ?_)
        have lp28 : ∀ (n : Nat) (zk : Int) (zl : Int) (zqx : Int) (zqy : Int) (zqhx : Int) (zqhy : Int), (0 ≤ zk ∧ zk ≤ 8) → (zqx = qx) → (zqy = qy) → (zqhx = qhx) → (zqhy = qhy) → (zl = mn sl (lstI (fun p => gaN st sx sy 2 (stp + 1) p (qx + (qhx + (st stp * toSide p - sx stp))) (qy + (qhy + (st stp * upward p - sy stp))) (qhx + (st stp * toSide p - sx stp)) (qhy + (st stp * upward p - sy stp))) (fun p => decide (fitP be p)) zk)) → (0 ≤ zl ∧ zl ≤ 2147483647) → 8 - zk + 1 ≤ (n : Int) → ∀ (H : Heap) (locs : List Loc), va_P (gD g) vwCl [(aS, .inr (6, [.ref aQ, .ref aSt, .ref aSx, .ref aSy, .int (iI sr), .int (iI zl)])), (aQ, .inr (2, [.int (iI zqx), .int (iI zqy), .int (iI zqhx), .int (iI zqhy)])), (aSt, .inl (gI g, 4, .inl (ar st))), (aSx, .inl (gI g, 4, .inl (ar sx))), (aSy, .inl (gI g, 4, .inl (ar sy)))] H → va_D A [(aS, .inr (6, [.ref aQ, .ref aSt, .ref aSx, .ref aSy, .int (iI sr), .int (iI zl)])), (aQ, .inr (2, [.int (iI zqx), .int (iI zqy), .int (iI zqhx), .int (iI zqhy)])), (aSt, .inl (gI g, 4, .inl (ar st))), (aSx, .inl (gI g, 4, .inl (ar sx))), (aSy, .inl (gI g, 4, .inl (ar sy)))] → va_S A s.heap H locs → ∀ (ls : Array Slot), lv_has ls 4 [(3, .int (iI zk)), (0, .ref aS), (1, .int (iI stp)), (2, .int (iI be))] → W p l e { frames := 6, cells := 0, slots := 0, locals := 131 } s m args below meth c H locs 0 0 Q9 (F0 m 28 ls []) := by
          intro n
          induction n with
          | zero => intro zk zl zqx zqy zqhx zqhy hzk hzqx hzqy hzqhx hzqhy hzl hzr hm; exfalso; omega
          | succ n ih28 =>
            intro zk zl zqx zqy zqhx zqhy hzk hzqx hzqy hzqhx hzqhy hzl hzr hm H locs hP hD hS ls hl
            refine lv_iload_n hx hb dX8_searchFrom_28 rfl (lv_at hl 0 rfl) ?_
            refine va_gets hx hb hC.2.1.1 hS hown (hts (.fieldLink RX8 260 "TunnelRing" "TO_SIDE" "[I") (List.mem_of_getElem? (i := 3) rfl)) (fun _ h9 => h9) dX8_searchFrom_29 ?_
            refine va_tlen hx hb hC.2.1.2 hS (v := iI 8) (by decide) dX8_searchFrom_32 ?_
            refine x_cmp_ge (tgt := 70) hx hb (by omega) (by omega) dX8_searchFrom_33 (by decide) (fun c_4 => ?_) (fun c_4 => ?_)
            · skip
              have q_5 : (mn sl (gaN st sx sy 3 stp be qx qy qhx qhy)) = zl := by
                first
                | (
                   first | (show mn sl (lstI (fun p => gaN st sx sy 2 (stp + 1) p (qx + (qhx + (st stp * toSide p - sx stp))) (qy + (qhy + (st stp * upward p - sy stp))) (qhx + (st stp * toSide p - sx stp)) (qhy + (st stp * upward p - sy stp))) (fun p => decide (fitP be p)) 8) = zl; rw [show (8 : Int) = zk by omega]; exact hzl.symm) | (have hlb := lbN (st := st) (sx := sx) (sy := sy) hb_st 3 stp be qx qy qhx qhy; have s1 := alN_sum (F := sx) (sr := sr) 3 stp hstp (by omega); have s2 := alN_sum (F := sy) (sr := sr) 3 stp hstp (by omega); have s3 := alN_sum (F := st) (sr := sr) 3 stp hstp (by omega); rw [s1, s2, s3, show sr - stp = ((3 : Nat) : Int) by omega] at hal9; rw [← hal9] at hlb; exact mn_left (by unfold mn at hlb; split at hlb <;> omega)))
                | fail "q9"
              have q_6 : qx = zqx := by
                first
                | (
                   omega)
                | fail "q9"
              have q_7 : qy = zqy := by
                first
                | (
                   omega)
                | fail "q9"
              have q_8 : qhx = zqhx := by
                first
                | (
                   omega)
                | fail "q9"
              have q_9 : qhy = zqhy := by
                first
                | (
                   omega)
                | fail "q9"
              have hw_10 := (congr (congr (congr (congr (congrArg (fun (z0 : Int) (z1 : Int) (z2 : Int) (z3 : Int) (z4 : Int) => ([(aS, .inr (6, [.ref aQ, .ref aSt, .ref aSx, .ref aSy, .int (iI sr), .int (iI z0)])), (aQ, .inr (2, [.int (iI z1), .int (iI z2), .int (iI z3), .int (iI z4)])), (aSt, .inl (gI g, 4, .inl (ar st))), (aSx, .inl (gI g, 4, .inl (ar sx))), (aSy, .inl (gI g, 4, .inl (ar sy)))] : va_W)) q_5.symm) q_6.symm) q_7.symm) q_8.symm) q_9.symm)
              rw [hQ9]
              exact x_vret hx hb hr hlocks hP hD hS (S := Unit) (Φ := _) (W1 := _) dX8_searchFrom_70 () trivial hw_10 (Nat.le_of_ble_eq_true rfl) (Nat.le_of_ble_eq_true rfl)
            · skip
              refine lv_iload_n hx hb dX8_searchFrom_36 rfl (lv_at hl 3 rfl) ?_
              refine lv_iload_n hx hb dX8_searchFrom_37 rfl (lv_at hl 0 rfl) ?_
              refine x_calli (S := Unit) (wc := []) (wr := [(aS, .inr (6, [.ref aQ, .ref aSt, .ref aSx, .ref aSy, .int (iI sr), .int (iI zl)])), (aQ, .inr (2, [.int (iI zqx), .int (iI zqy), .int (iI zqhx), .int (iI zqhy)])), (aSt, .inl (gI g, 4, .inl (ar st))), (aSx, .inl (gI g, 4, .inl (ar sx))), (aSy, .inl (gI g, 4, .inl (ar sy)))]) hC hP hD hS hA [] [0, 1, 2, 3, 4] [0, 1, 2, 3, 4] rfl rfl (fun hpre => va_runS (As := [.int (iI be), .int (iI zk)]) (rest := []) ⟨hx, hb, hml, hown, hts⟩ (c_X8_fits l g H.size be zk (by first | (first | assumption | omega | exact bnd_up (by assumption) (by omega) (by omega)) | fail "q8") (by first | (first | assumption | omega | exact bnd_up (by assumption) (by omega) (by omega)) | fail "q8")) (va_cwS 2 hts gX8_searchFrom_X8_fits rfl rfl rfl (by decide +kernel) ⟨Nat.le_of_ble_eq_true rfl, Nat.le_of_ble_eq_true rfl⟩) ⟨xB_blind, hpre _⟩ rfl rfl hl.1 rfl (lv_room (Nat.le_of_ble_eq_true rfl)) dX8_searchFrom_38 ⟨Nat.le_of_ble_eq_true rfl, Nat.le_of_ble_eq_true rfl⟩) (fun (u : Unit) => [(aS, .inr (6, [.ref aQ, .ref aSt, .ref aSx, .ref aSy, .int (iI sr), .int (iI zl)])), (aQ, .inr (2, [.int (iI zqx), .int (iI zqy), .int (iI zqhx), .int (iI zqhy)])), (aSt, .inl (gI g, 4, .inl (ar st))), (aSx, .inl (gI g, 4, .inl (ar sx))), (aSy, .inl (gI g, 4, .inl (ar sy)))]) rfl rfl (by decide) (fun _ => rfl) rfl (fun u v_11 H locs hv_11 pv_11 hP hD hS => ?_)
              have hP : va_P (gD g) vwCl [(aS, .inr (6, [.ref aQ, .ref aSt, .ref aSx, .ref aSy, .int (iI sr), .int (iI zl)])), (aQ, .inr (2, [.int (iI zqx), .int (iI zqy), .int (iI zqhx), .int (iI zqhy)])), (aSt, .inl (gI g, 4, .inl (ar st))), (aSx, .inl (gI g, 4, .inl (ar sx))), (aSy, .inl (gI g, 4, .inl (ar sy)))] H := hP
              have hD : va_D A [(aS, .inr (6, [.ref aQ, .ref aSt, .ref aSx, .ref aSy, .int (iI sr), .int (iI zl)])), (aQ, .inr (2, [.int (iI zqx), .int (iI zqy), .int (iI zqhx), .int (iI zqhy)])), (aSt, .inl (gI g, 4, .inl (ar st))), (aSx, .inl (gI g, 4, .inl (ar sx))), (aSy, .inl (gI g, 4, .inl (ar sy)))] := hD
              have hv_11 : v_11 = bI (fitP be zk) := hv_11
              refine x_top hv_11 ?_
              refine x_ifb_eq (tgt := 64) (P := fitP be zk) hx hb dX8_searchFrom_41 (by decide) (fun c_12 => ?_) (fun c_12 => ?_)
              · skip
                refine x_iinc (k := 0) (lv' := [(3, .int (iI (zk + 1))), (0, .ref aS), (1, .int (iI stp)), (2, .int (iI be))]) hx hb dX8_searchFrom_64 hl rfl (by decide) rfl (fun ls hl => ?_)
                refine lv_goto (tgt := 28) hx hb dX8_searchFrom_67 (by decide) ?_
                exact ih28 (zk + 1) zl zqx zqy zqhx zqhy (show 0 ≤ (zk + 1) ∧ (zk + 1) ≤ 8 by
                    first
                    | (
                       first | assumption | omega | rfl)
                    | fail "q9") (show zqx = qx by
                    first
                    | (
                       first | assumption | omega | rfl)
                    | fail "q9") (show zqy = qy by
                    first
                    | (
                       first | assumption | omega | rfl)
                    | fail "q9") (show zqhx = qhx by
                    first
                    | (
                       first | assumption | omega | rfl)
                    | fail "q9") (show zqhy = qhy by
                    first
                    | (
                       first | assumption | omega | rfl)
                    | fail "q9") (show zl = mn sl (lstI (fun p => gaN st sx sy 2 (stp + 1) p (qx + (qhx + (st stp * toSide p - sx stp))) (qy + (qhy + (st stp * upward p - sy stp))) (qhx + (st stp * toSide p - sx stp)) (qhy + (st stp * upward p - sy stp))) (fun p => decide (fitP be p)) (zk + 1)) by
                    first
                    | (
                       rw [lstI_step _ _ (by omega)]
                       simp only [decide_eq_true_eq]
                       first | (rw [if_pos (by omega), hzl, mn_assoc, hzqx, hzqy, hzqhx, hzqhy]) | (rw [if_neg (by omega)]; assumption))
                    | fail "q9") (show 0 ≤ zl ∧ zl ≤ 2147483647 by
                    first
                    | (
                       first | assumption | (have g1 := gaN_nn st sx sy 2 (stp + 1) zk (zqx + (zqhx + (st stp * toSide zk - sx stp))) (zqy + (zqhy + (st stp * upward zk - sy stp))) (zqhx + (st stp * toSide zk - sx stp)) (zqhy + (st stp * upward zk - sy stp)); have g2 := mn_r zl _ (rfl : mn zl (gaN st sx sy 2 (stp + 1) zk (zqx + (zqhx + (st stp * toSide zk - sx stp))) (zqy + (zqhy + (st stp * upward zk - sy stp))) (zqhx + (st stp * toSide zk - sx stp)) (zqhy + (st stp * upward zk - sy stp))) = _); omega))
                    | fail "q9") (by
                    first
                    | (
                       omega)
                    | fail "q9") _ _ hP hD hS ls (lv_sub hl [0, 1, 2, 3] rfl)
              · skip
                refine lv_aload_n hx hb dX8_searchFrom_44 rfl (lv_at hl 1 rfl) ?_
                refine lv_iload_n hx hb dX8_searchFrom_45 rfl (lv_at hl 2 rfl) ?_
                refine lv_iload_n hx hb dX8_searchFrom_46 rfl (lv_at hl 0 rfl) ?_
                refine x_callv (S := Unit) (wc := [(aS, .inr (6, [.ref aQ, .ref aSt, .ref aSx, .ref aSy, .int (iI sr), .int (iI zl)])), (aQ, .inr (2, [.int (iI zqx), .int (iI zqy), .int (iI zqhx), .int (iI zqhy)])), (aSt, .inl (gI g, 4, .inl (ar st))), (aSx, .inl (gI g, 4, .inl (ar sx))), (aSy, .inl (gI g, 4, .inl (ar sy)))]) (wr := []) hC hP hD hS hA [0, 1, 2, 3, 4] [] [0, 1, 2, 3, 4] rfl rfl (fun hpre => va_runV (As := [.int (iI stp), .int (iI zk)]) (rest := []) ⟨hx, hb, hml, hown, hts⟩ (c_X4_tryOut l g H.size aS aQ aSt aSx aSy sr zl zqx zqy zqhx zqhy stp zk st sx sy (by first | (first | assumption | omega | exact bnd_up (by assumption) (by omega) (by omega)) | fail "q8") (by first | (first | assumption | omega | exact bnd_up (by assumption) (by omega) (by omega)) | fail "q8")) (cwV 2 hts gX8_searchFrom_X4_tryOut rfl rfl rfl (by decide +kernel) ⟨Nat.le_of_ble_eq_true rfl, Nat.le_of_ble_eq_true rfl⟩) ⟨xB_blind, va_recv hK hP (ci := 6) (q0 := 0) rfl rfl, hpre _⟩ rfl rfl hl.1 rfl (lv_room (Nat.le_of_ble_eq_true rfl)) dX8_searchFrom_47 ⟨Nat.le_of_ble_eq_true rfl, Nat.le_of_ble_eq_true rfl⟩) (fun (u : Unit) => [(aS, .inr (6, [.ref aQ, .ref aSt, .ref aSx, .ref aSy, .int (iI sr), .int (iI zl)])), (aQ, .inr (2, [.int (iI (zqx + (zqhx + (st stp * toSide zk - sx stp)))), .int (iI (zqy + (zqhy + (st stp * upward zk - sy stp)))), .int (iI (zqhx + (st stp * toSide zk - sx stp))), .int (iI (zqhy + (st stp * upward zk - sy stp)))])), (aSt, .inl (gI g, 4, .inl (ar st))), (aSx, .inl (gI g, 4, .inl (ar sx))), (aSy, .inl (gI g, 4, .inl (ar sy)))]) rfl rfl (by decide) (fun _ => rfl) rfl (fun u H locs hv_13 hP hD hS => ?_)
                have hP : va_P (gD g) vwCl [(aS, .inr (6, [.ref aQ, .ref aSt, .ref aSx, .ref aSy, .int (iI sr), .int (iI zl)])), (aQ, .inr (2, [.int (iI (zqx + (zqhx + (st stp * toSide zk - sx stp)))), .int (iI (zqy + (zqhy + (st stp * upward zk - sy stp)))), .int (iI (zqhx + (st stp * toSide zk - sx stp))), .int (iI (zqhy + (st stp * upward zk - sy stp)))])), (aSt, .inl (gI g, 4, .inl (ar st))), (aSx, .inl (gI g, 4, .inl (ar sx))), (aSy, .inl (gI g, 4, .inl (ar sy)))] H := hP
                have hD : va_D A [(aS, .inr (6, [.ref aQ, .ref aSt, .ref aSx, .ref aSy, .int (iI sr), .int (iI zl)])), (aQ, .inr (2, [.int (iI (zqx + (zqhx + (st stp * toSide zk - sx stp)))), .int (iI (zqy + (zqhy + (st stp * upward zk - sy stp)))), .int (iI (zqhx + (st stp * toSide zk - sx stp))), .int (iI (zqhy + (st stp * upward zk - sy stp)))])), (aSt, .inl (gI g, 4, .inl (ar st))), (aSx, .inl (gI g, 4, .inl (ar sx))), (aSy, .inl (gI g, 4, .inl (ar sy)))] := hD
                have m1 := mulb (A := 9) (B := 1) (a := st stp) (b := toSide zk) (by have := hb_st stp; omega) (toSide_r zk)
                have m2 := mulb (A := 9) (B := 1) (a := st stp) (b := upward zk) (by have := hb_st stp; omega) (upward_r zk)
                have m3 := hb_sx stp
                have m4 := hb_sy stp
                refine lv_aload_n hx hb dX8_searchFrom_50 rfl (lv_at hl 1 rfl) ?_
                refine lv_iload_n hx hb dX8_searchFrom_51 rfl (lv_at hl 2 rfl) ?_
                refine x_iconst hx hb dX8_searchFrom_52 ?_
                refine x_iadd hx hb dX8_searchFrom_53 ?_
                refine lv_iload_n hx hb dX8_searchFrom_54 rfl (lv_at hl 0 rfl) ?_
                refine x_callv (S := Unit) (wc := [(aS, .inr (6, [.ref aQ, .ref aSt, .ref aSx, .ref aSy, .int (iI sr), .int (iI zl)])), (aQ, .inr (2, [.int (iI (zqx + (zqhx + (st stp * toSide zk - sx stp)))), .int (iI (zqy + (zqhy + (st stp * upward zk - sy stp)))), .int (iI (zqhx + (st stp * toSide zk - sx stp))), .int (iI (zqhy + (st stp * upward zk - sy stp)))])), (aSt, .inl (gI g, 4, .inl (ar st))), (aSx, .inl (gI g, 4, .inl (ar sx))), (aSy, .inl (gI g, 4, .inl (ar sy)))]) (wr := []) hC hP hD hS hA [0, 1, 2, 3, 4] [] [0, 1, 2, 3, 4] rfl rfl (fun hpre => va_runS (As := [.ref aS, .int (iI (stp + 1)), .int (iI zk)]) (rest := []) ⟨hx, hb, hml, hown, hts⟩ (c_X8_searchFrom2 l g H.size aS aQ aSt aSx aSy sr zl (zqx + (zqhx + (st stp * toSide zk - sx stp))) (zqy + (zqhy + (st stp * upward zk - sy stp))) (zqhx + (st stp * toSide zk - sx stp)) (zqhy + (st stp * upward zk - sy stp)) (stp + 1) zk st sx sy (by first | (first | assumption | omega | exact bnd_up (by assumption) (by omega) (by omega)) | fail "q8") (by first | (first | assumption | omega | exact bnd_up (by assumption) (by omega) (by omega)) | fail "q8") (by first | (first | assumption | omega | exact bnd_up (by assumption) (by omega) (by omega)) | fail "q8") (by first | (first | assumption | omega | exact bnd_up (by assumption) (by omega) (by omega)) | fail "q8") (by first | (first | assumption | omega | exact bnd_up (by assumption) (by omega) (by omega)) | fail "q8") (by first | (first | assumption | omega | exact bnd_up (by assumption) (by omega) (by omega)) | fail "q8") (by first | (first | assumption | omega | exact bnd_up (by assumption) (by omega) (by omega)) | fail "q8") (by first | (first | assumption | omega | exact bnd_up (by assumption) (by omega) (by omega)) | fail "q8") (by first | (first | assumption | omega | exact bnd_up (by assumption) (by omega) (by omega)) | fail "q8") (by first | (first | assumption | omega | exact bnd_up (by assumption) (by omega) (by omega)) | fail "q8") (by first | (first | assumption | omega | exact bnd_up (by assumption) (by omega) (by omega)) | fail "q8") (by first | (first | assumption | omega | exact bnd_up (by assumption) (by omega) (by omega)) | fail "q8")) (va_cwS 3 hts gX8_searchFrom_X8_searchFrom rfl rfl rfl (by decide +kernel) ⟨Nat.le_of_ble_eq_true rfl, Nat.le_of_ble_eq_true rfl⟩) ⟨xB_blind, hpre _⟩ rfl rfl hl.1 rfl (lv_room (Nat.le_of_ble_eq_true rfl)) dX8_searchFrom_55 ⟨Nat.le_of_ble_eq_true rfl, Nat.le_of_ble_eq_true rfl⟩) (fun (u : Unit) => [(aS, .inr (6, [.ref aQ, .ref aSt, .ref aSx, .ref aSy, .int (iI sr), .int (iI (mn zl (gaN st sx sy 2 (stp + 1) zk (zqx + (zqhx + (st stp * toSide zk - sx stp))) (zqy + (zqhy + (st stp * upward zk - sy stp))) (zqhx + (st stp * toSide zk - sx stp)) (zqhy + (st stp * upward zk - sy stp)))))])), (aQ, .inr (2, [.int (iI (zqx + (zqhx + (st stp * toSide zk - sx stp)))), .int (iI (zqy + (zqhy + (st stp * upward zk - sy stp)))), .int (iI (zqhx + (st stp * toSide zk - sx stp))), .int (iI (zqhy + (st stp * upward zk - sy stp)))])), (aSt, .inl (gI g, 4, .inl (ar st))), (aSx, .inl (gI g, 4, .inl (ar sx))), (aSy, .inl (gI g, 4, .inl (ar sy)))]) rfl rfl (by decide) (fun _ => rfl) rfl (fun u H locs hv_14 hP hD hS => ?_)
                have hP : va_P (gD g) vwCl [(aS, .inr (6, [.ref aQ, .ref aSt, .ref aSx, .ref aSy, .int (iI sr), .int (iI (mn zl (gaN st sx sy 2 (stp + 1) zk (zqx + (zqhx + (st stp * toSide zk - sx stp))) (zqy + (zqhy + (st stp * upward zk - sy stp))) (zqhx + (st stp * toSide zk - sx stp)) (zqhy + (st stp * upward zk - sy stp)))))])), (aQ, .inr (2, [.int (iI (zqx + (zqhx + (st stp * toSide zk - sx stp)))), .int (iI (zqy + (zqhy + (st stp * upward zk - sy stp)))), .int (iI (zqhx + (st stp * toSide zk - sx stp))), .int (iI (zqhy + (st stp * upward zk - sy stp)))])), (aSt, .inl (gI g, 4, .inl (ar st))), (aSx, .inl (gI g, 4, .inl (ar sx))), (aSy, .inl (gI g, 4, .inl (ar sy)))] H := hP
                have hD : va_D A [(aS, .inr (6, [.ref aQ, .ref aSt, .ref aSx, .ref aSy, .int (iI sr), .int (iI (mn zl (gaN st sx sy 2 (stp + 1) zk (zqx + (zqhx + (st stp * toSide zk - sx stp))) (zqy + (zqhy + (st stp * upward zk - sy stp))) (zqhx + (st stp * toSide zk - sx stp)) (zqhy + (st stp * upward zk - sy stp)))))])), (aQ, .inr (2, [.int (iI (zqx + (zqhx + (st stp * toSide zk - sx stp)))), .int (iI (zqy + (zqhy + (st stp * upward zk - sy stp)))), .int (iI (zqhx + (st stp * toSide zk - sx stp))), .int (iI (zqhy + (st stp * upward zk - sy stp)))])), (aSt, .inl (gI g, 4, .inl (ar st))), (aSx, .inl (gI g, 4, .inl (ar sx))), (aSy, .inl (gI g, 4, .inl (ar sy)))] := hD
                refine lv_aload_n hx hb dX8_searchFrom_58 rfl (lv_at hl 1 rfl) ?_
                refine lv_iload_n hx hb dX8_searchFrom_59 rfl (lv_at hl 2 rfl) ?_
                refine lv_iload_n hx hb dX8_searchFrom_60 rfl (lv_at hl 0 rfl) ?_
                refine x_callv (S := Unit) (wc := [(aS, .inr (6, [.ref aQ, .ref aSt, .ref aSx, .ref aSy, .int (iI sr), .int (iI (mn zl (gaN st sx sy 2 (stp + 1) zk (zqx + (zqhx + (st stp * toSide zk - sx stp))) (zqy + (zqhy + (st stp * upward zk - sy stp))) (zqhx + (st stp * toSide zk - sx stp)) (zqhy + (st stp * upward zk - sy stp)))))])), (aQ, .inr (2, [.int (iI (zqx + (zqhx + (st stp * toSide zk - sx stp)))), .int (iI (zqy + (zqhy + (st stp * upward zk - sy stp)))), .int (iI (zqhx + (st stp * toSide zk - sx stp))), .int (iI (zqhy + (st stp * upward zk - sy stp)))])), (aSt, .inl (gI g, 4, .inl (ar st))), (aSx, .inl (gI g, 4, .inl (ar sx))), (aSy, .inl (gI g, 4, .inl (ar sy)))]) (wr := []) hC hP hD hS hA [0, 1, 2, 3, 4] [] [0, 1, 2, 3, 4] rfl rfl (fun hpre => va_runV (As := [.int (iI stp), .int (iI zk)]) (rest := []) ⟨hx, hb, hml, hown, hts⟩ (c_X4_takeBack l g H.size aS aQ aSt aSx aSy sr (mn zl (gaN st sx sy 2 (stp + 1) zk (zqx + (zqhx + (st stp * toSide zk - sx stp))) (zqy + (zqhy + (st stp * upward zk - sy stp))) (zqhx + (st stp * toSide zk - sx stp)) (zqhy + (st stp * upward zk - sy stp)))) (zqx + (zqhx + (st stp * toSide zk - sx stp))) (zqy + (zqhy + (st stp * upward zk - sy stp))) (zqhx + (st stp * toSide zk - sx stp)) (zqhy + (st stp * upward zk - sy stp)) stp zk st sx sy (by first | (first | assumption | omega | exact bnd_up (by assumption) (by omega) (by omega)) | fail "q8") (by first | (first | assumption | omega | exact bnd_up (by assumption) (by omega) (by omega)) | fail "q8")) (cwV 2 hts gX8_searchFrom_X4_takeBack rfl rfl rfl (by decide +kernel) ⟨Nat.le_of_ble_eq_true rfl, Nat.le_of_ble_eq_true rfl⟩) ⟨xB_blind, va_recv hK hP (ci := 6) (q0 := 0) rfl rfl, hpre _⟩ rfl rfl hl.1 rfl (lv_room (Nat.le_of_ble_eq_true rfl)) dX8_searchFrom_61 ⟨Nat.le_of_ble_eq_true rfl, Nat.le_of_ble_eq_true rfl⟩) (fun (u : Unit) => [(aS, .inr (6, [.ref aQ, .ref aSt, .ref aSx, .ref aSy, .int (iI sr), .int (iI (mn zl (gaN st sx sy 2 (stp + 1) zk (zqx + (zqhx + (st stp * toSide zk - sx stp))) (zqy + (zqhy + (st stp * upward zk - sy stp))) (zqhx + (st stp * toSide zk - sx stp)) (zqhy + (st stp * upward zk - sy stp)))))])), (aQ, .inr (2, [.int (iI ((zqx + (zqhx + (st stp * toSide zk - sx stp))) - (zqhx + (st stp * toSide zk - sx stp)))), .int (iI ((zqy + (zqhy + (st stp * upward zk - sy stp))) - (zqhy + (st stp * upward zk - sy stp)))), .int (iI ((zqhx + (st stp * toSide zk - sx stp)) - (st stp * toSide zk - sx stp))), .int (iI ((zqhy + (st stp * upward zk - sy stp)) - (st stp * upward zk - sy stp)))])), (aSt, .inl (gI g, 4, .inl (ar st))), (aSx, .inl (gI g, 4, .inl (ar sx))), (aSy, .inl (gI g, 4, .inl (ar sy)))]) rfl rfl (by decide) (fun _ => rfl) rfl (fun u H locs hv_15 hP hD hS => ?_)
                have hP : va_P (gD g) vwCl [(aS, .inr (6, [.ref aQ, .ref aSt, .ref aSx, .ref aSy, .int (iI sr), .int (iI (mn zl (gaN st sx sy 2 (stp + 1) zk (zqx + (zqhx + (st stp * toSide zk - sx stp))) (zqy + (zqhy + (st stp * upward zk - sy stp))) (zqhx + (st stp * toSide zk - sx stp)) (zqhy + (st stp * upward zk - sy stp)))))])), (aQ, .inr (2, [.int (iI ((zqx + (zqhx + (st stp * toSide zk - sx stp))) - (zqhx + (st stp * toSide zk - sx stp)))), .int (iI ((zqy + (zqhy + (st stp * upward zk - sy stp))) - (zqhy + (st stp * upward zk - sy stp)))), .int (iI ((zqhx + (st stp * toSide zk - sx stp)) - (st stp * toSide zk - sx stp))), .int (iI ((zqhy + (st stp * upward zk - sy stp)) - (st stp * upward zk - sy stp)))])), (aSt, .inl (gI g, 4, .inl (ar st))), (aSx, .inl (gI g, 4, .inl (ar sx))), (aSy, .inl (gI g, 4, .inl (ar sy)))] H := hP
                have hD : va_D A [(aS, .inr (6, [.ref aQ, .ref aSt, .ref aSx, .ref aSy, .int (iI sr), .int (iI (mn zl (gaN st sx sy 2 (stp + 1) zk (zqx + (zqhx + (st stp * toSide zk - sx stp))) (zqy + (zqhy + (st stp * upward zk - sy stp))) (zqhx + (st stp * toSide zk - sx stp)) (zqhy + (st stp * upward zk - sy stp)))))])), (aQ, .inr (2, [.int (iI ((zqx + (zqhx + (st stp * toSide zk - sx stp))) - (zqhx + (st stp * toSide zk - sx stp)))), .int (iI ((zqy + (zqhy + (st stp * upward zk - sy stp))) - (zqhy + (st stp * upward zk - sy stp)))), .int (iI ((zqhx + (st stp * toSide zk - sx stp)) - (st stp * toSide zk - sx stp))), .int (iI ((zqhy + (st stp * upward zk - sy stp)) - (st stp * upward zk - sy stp)))])), (aSt, .inl (gI g, 4, .inl (ar st))), (aSx, .inl (gI g, 4, .inl (ar sx))), (aSy, .inl (gI g, 4, .inl (ar sy)))] := hD
                refine x_iinc (k := 0) (lv' := [(3, .int (iI (zk + 1))), (0, .ref aS), (1, .int (iI stp)), (2, .int (iI be))]) hx hb dX8_searchFrom_64 hl rfl (by decide) rfl (fun ls hl => ?_)
                refine lv_goto (tgt := 28) hx hb dX8_searchFrom_67 (by decide) ?_
                exact ih28 (zk + 1) (mn zl (gaN st sx sy 2 (stp + 1) zk (zqx + (zqhx + (st stp * toSide zk - sx stp))) (zqy + (zqhy + (st stp * upward zk - sy stp))) (zqhx + (st stp * toSide zk - sx stp)) (zqhy + (st stp * upward zk - sy stp)))) ((zqx + (zqhx + (st stp * toSide zk - sx stp))) - (zqhx + (st stp * toSide zk - sx stp))) ((zqy + (zqhy + (st stp * upward zk - sy stp))) - (zqhy + (st stp * upward zk - sy stp))) ((zqhx + (st stp * toSide zk - sx stp)) - (st stp * toSide zk - sx stp)) ((zqhy + (st stp * upward zk - sy stp)) - (st stp * upward zk - sy stp)) (show 0 ≤ (zk + 1) ∧ (zk + 1) ≤ 8 by
                    first
                    | (
                       first | assumption | omega | rfl)
                    | fail "q9") (show ((zqx + (zqhx + (st stp * toSide zk - sx stp))) - (zqhx + (st stp * toSide zk - sx stp))) = qx by
                    first
                    | (
                       first | assumption | omega | rfl)
                    | fail "q9") (show ((zqy + (zqhy + (st stp * upward zk - sy stp))) - (zqhy + (st stp * upward zk - sy stp))) = qy by
                    first
                    | (
                       first | assumption | omega | rfl)
                    | fail "q9") (show ((zqhx + (st stp * toSide zk - sx stp)) - (st stp * toSide zk - sx stp)) = qhx by
                    first
                    | (
                       first | assumption | omega | rfl)
                    | fail "q9") (show ((zqhy + (st stp * upward zk - sy stp)) - (st stp * upward zk - sy stp)) = qhy by
                    first
                    | (
                       first | assumption | omega | rfl)
                    | fail "q9") (show (mn zl (gaN st sx sy 2 (stp + 1) zk (zqx + (zqhx + (st stp * toSide zk - sx stp))) (zqy + (zqhy + (st stp * upward zk - sy stp))) (zqhx + (st stp * toSide zk - sx stp)) (zqhy + (st stp * upward zk - sy stp)))) = mn sl (lstI (fun p => gaN st sx sy 2 (stp + 1) p (qx + (qhx + (st stp * toSide p - sx stp))) (qy + (qhy + (st stp * upward p - sy stp))) (qhx + (st stp * toSide p - sx stp)) (qhy + (st stp * upward p - sy stp))) (fun p => decide (fitP be p)) (zk + 1)) by
                    first
                    | (
                       rw [lstI_step _ _ (by omega)]
                       simp only [decide_eq_true_eq]
                       first | (rw [if_pos (by omega), hzl, mn_assoc, hzqx, hzqy, hzqhx, hzqhy]) | (rw [if_neg (by omega)]; assumption))
                    | fail "q9") (show 0 ≤ (mn zl (gaN st sx sy 2 (stp + 1) zk (zqx + (zqhx + (st stp * toSide zk - sx stp))) (zqy + (zqhy + (st stp * upward zk - sy stp))) (zqhx + (st stp * toSide zk - sx stp)) (zqhy + (st stp * upward zk - sy stp)))) ∧ (mn zl (gaN st sx sy 2 (stp + 1) zk (zqx + (zqhx + (st stp * toSide zk - sx stp))) (zqy + (zqhy + (st stp * upward zk - sy stp))) (zqhx + (st stp * toSide zk - sx stp)) (zqhy + (st stp * upward zk - sy stp)))) ≤ 2147483647 by
                    first
                    | (
                       first | assumption | (have g1 := gaN_nn st sx sy 2 (stp + 1) zk (zqx + (zqhx + (st stp * toSide zk - sx stp))) (zqy + (zqhy + (st stp * upward zk - sy stp))) (zqhx + (st stp * toSide zk - sx stp)) (zqhy + (st stp * upward zk - sy stp)); have g2 := mn_r zl _ (rfl : mn zl (gaN st sx sy 2 (stp + 1) zk (zqx + (zqhx + (st stp * toSide zk - sx stp))) (zqy + (zqhy + (st stp * upward zk - sy stp))) (zqhx + (st stp * toSide zk - sx stp)) (zqhy + (st stp * upward zk - sy stp))) = _); omega))
                    | fail "q9") (by
                    first
                    | (
                       omega)
                    | fail "q9") _ _ hP hD hS ls (lv_sub hl [0, 1, 2, 3] rfl)
        exact lp28 (8 - 0 + 1 : Int).toNat 0 sl qx qy qhx qhy (show 0 ≤ 0 ∧ 0 ≤ 8 by
            first
            | (
               first | assumption | omega | rfl)
            | fail "q9") (show qx = qx by
            first
            | (
               first | assumption | omega | rfl)
            | fail "q9") (show qy = qy by
            first
            | (
               first | assumption | omega | rfl)
            | fail "q9") (show qhx = qhx by
            first
            | (
               first | assumption | omega | rfl)
            | fail "q9") (show qhy = qhy by
            first
            | (
               first | assumption | omega | rfl)
            | fail "q9") (show sl = mn sl (lstI (fun p => gaN st sx sy 2 (stp + 1) p (qx + (qhx + (st stp * toSide p - sx stp))) (qy + (qhy + (st stp * upward p - sy stp))) (qhx + (st stp * toSide p - sx stp)) (qhy + (st stp * upward p - sy stp))) (fun p => decide (fitP be p)) 0) by
            first
            | (
               exact (mn_max hsl.2).symm)
            | fail "q9") (show 0 ≤ sl ∧ sl ≤ 2147483647 by
            first
            | (
               first | assumption | omega | rfl)
            | fail "q9") (by omega) _ _ hP hD hS ls (lv_sub hl [0, 1, 2, 3] rfl)
      · skip
        have q_16 : (mn sl (gaN st sx sy 3 stp be qx qy qhx qhy)) = sl := by
          first
          | (
             first | (show mn sl (lstI (fun p => gaN st sx sy 2 (stp + 1) p (qx + (qhx + (st stp * toSide p - sx stp))) (qy + (qhy + (st stp * upward p - sy stp))) (qhx + (st stp * toSide p - sx stp)) (qhy + (st stp * upward p - sy stp))) (fun p => decide (fitP be p)) 8) = zl; rw [show (8 : Int) = zk by omega]; exact hzl.symm) | (have hlb := lbN (st := st) (sx := sx) (sy := sy) hb_st 3 stp be qx qy qhx qhy; have s1 := alN_sum (F := sx) (sr := sr) 3 stp hstp (by omega); have s2 := alN_sum (F := sy) (sr := sr) 3 stp hstp (by omega); have s3 := alN_sum (F := st) (sr := sr) 3 stp hstp (by omega); rw [s1, s2, s3, show sr - stp = ((3 : Nat) : Int) by omega] at hal9; rw [← hal9] at hlb; exact mn_left (by unfold mn at hlb; split at hlb <;> omega)))
          | fail "q9"
        have hw_17 := (congrArg (fun (z0 : Int) => ([(aS, .inr (6, [.ref aQ, .ref aSt, .ref aSx, .ref aSy, .int (iI sr), .int (iI z0)])), (aQ, .inr (2, [.int (iI qx), .int (iI qy), .int (iI qhx), .int (iI qhy)])), (aSt, .inl (gI g, 4, .inl (ar st))), (aSx, .inl (gI g, 4, .inl (ar sx))), (aSy, .inl (gI g, 4, .inl (ar sy)))] : va_W)) q_16.symm)
        rw [hQ9]
        exact x_vret hx hb hr hlocks hP hD hS (S := Unit) (Φ := _) (W1 := _) dX8_searchFrom_25 () trivial hw_17 (Nat.le_of_ble_eq_true rfl) (Nat.le_of_ble_eq_true rfl)
    · skip
      exfalso; omega
  rw [hH, hlo, hQ9] at goal_
  exact goal_

set_option maxHeartbeats 4000000 in
set_option maxRecDepth 100000 in
theorem c_X8_searchFrom4 (l : Launch) (g : xg) (sz : Nat) (aS aQ aSt aSx aSy : Nat) (sr sl qx qy qhx qhy stp be : Int) (st sx sy : Int → Int) (hsr : 0 ≤ sr ∧ sr ≤ 4) (hsd : sr - stp = 4) (hstp : 0 ≤ stp) (hbe : -1 ≤ be ∧ be ≤ 7) (hqx : -712500 ≤ qx ∧ qx ≤ 712500) (hqy : -712500 ≤ qy ∧ qy ≤ 712500) (hqhx : -3000 ≤ qhx ∧ qhx ≤ 3000) (hqhy : -3000 ≤ qhy ∧ qhy ≤ 3000) (hsl : 0 ≤ sl ∧ sl ≤ 2147483647) (hb_st : bnd st 0 9) (hb_sx : bnd sx (-5) 5) (hb_sy : bnd sy (-5) 5) : Met l yX8_searchFrom wsX8_searchFrom { frames := 7, cells := 0, slots := 0, locals := 154 } (va_Pc [.ref aS, .int (iI stp), .int (iI be)] (xB g [(aS, .inr (6, [.ref aQ, .ref aSt, .ref aSx, .ref aSy, .int (iI sr), .int (iI sl)])), (aQ, .inr (2, [.int (iI qx), .int (iI qy), .int (iI qhx), .int (iI qhy)])), (aSt, .inl (gI g, 4, .inl (ar st))), (aSx, .inl (gI g, 4, .inl (ar sx))), (aSy, .inl (gI g, 4, .inl (ar sy)))] sz)) (va_Qv (fun (u : Unit) => True) (fun u t => xE g (va_A [(aS, .inr (6, [.ref aQ, .ref aSt, .ref aSx, .ref aSy, .int (iI sr), .int (iI sl)])), (aQ, .inr (2, [.int (iI qx), .int (iI qy), .int (iI qhx), .int (iI qhy)])), (aSt, .inl (gI g, 4, .inl (ar st))), (aSx, .inl (gI g, 4, .inl (ar sx))), (aSy, .inl (gI g, 4, .inl (ar sy)))] sz) ((fun (u : Unit) => [(aS, .inr (6, [.ref aQ, .ref aSt, .ref aSx, .ref aSy, .int (iI sr), .int (iI (mn sl (gaN st sx sy 4 stp be qx qy qhx qhy)))])), (aQ, .inr (2, [.int (iI qx), .int (iI qy), .int (iI qhx), .int (iI qhy)])), (aSt, .inl (gI g, 4, .inl (ar st))), (aSx, .inl (gI g, 4, .inl (ar sx))), (aSy, .inl (gI g, 4, .inl (ar sy)))]) u) t) (va_A [(aS, .inr (6, [.ref aQ, .ref aSt, .ref aSx, .ref aSy, .int (iI sr), .int (iI sl)])), (aQ, .inr (2, [.int (iI qx), .int (iI qy), .int (iI qhx), .int (iI qhy)])), (aSt, .inl (gI g, 4, .inl (ar st))), (aSx, .inl (gI g, 4, .inl (ar sx))), (aSy, .inl (gI g, 4, .inl (ar sy)))] sz)) 0 0 (va_A [(aS, .inr (6, [.ref aQ, .ref aSt, .ref aSx, .ref aSy, .int (iI sr), .int (iI sl)])), (aQ, .inr (2, [.int (iI qx), .int (iI qy), .int (iI qhx), .int (iI qhy)])), (aSt, .inl (gI g, 4, .inl (ar st))), (aSx, .inl (gI g, 4, .inl (ar sx))), (aSy, .inl (gI g, 4, .inl (ar sy)))] sz) := by
  refine x_enter (y := yX8_searchFrom) (ws := wsX8_searchFrom) (g := g) (sz := sz) (av := [.ref aS, .int (iI stp), .int (iI be)]) (WS := [(aS, .inr (6, [.ref aQ, .ref aSt, .ref aSx, .ref aSy, .int (iI sr), .int (iI sl)])), (aQ, .inr (2, [.int (iI qx), .int (iI qy), .int (iI qhx), .int (iI qhy)])), (aSt, .inl (gI g, 4, .inl (ar st))), (aSx, .inl (gI g, 4, .inl (ar sx))), (aSy, .inl (gI g, 4, .inl (ar sy)))]) (cc := cX8_searchFrom) (maxL := 4) (ret := none) (Qc := (fun A => (va_Qv (fun (u : Unit) => True) (fun u t => xE g A ((fun (u : Unit) => [(aS, .inr (6, [.ref aQ, .ref aSt, .ref aSx, .ref aSy, .int (iI sr), .int (iI (mn sl (gaN st sx sy 4 stp be qx qy qhx qhy)))])), (aQ, .inr (2, [.int (iI qx), .int (iI qy), .int (iI qhx), .int (iI qhy)])), (aSt, .inl (gI g, 4, .inl (ar st))), (aSx, .inl (gI g, 4, .inl (ar sx))), (aSy, .inl (gI g, 4, .inl (ar sy)))]) u) t) A))) (by decide) rfl (Nat.le_of_ble_eq_true rfl) ?_
  intro p e s m args below meth c A ls hx hb hr hml hown hts hlocks hname hC hP hD hS hA hl
  have hK := hC.1
  have hown : s.vm.findClass RX8 = some m.cls := hown
  have hin4 : ∀ w ∈ u_ws RX4 TX4 6, w ∈ wsX8_searchFrom := by decide +kernel
  have hl : lv_has ls 4 [(0, .ref aS), (1, .int (iI stp)), (2, .int (iI be))] := hl
  obtain ⟨H, hH⟩ : ∃ z, z = s.heap := ⟨_, rfl⟩
  obtain ⟨locs, hlo⟩ : ∃ z : List Loc, z = [] := ⟨_, rfl⟩
  obtain ⟨Q9, hQ9⟩ : ∃ z, z = MQ below (va_Qv (fun (u : Unit) => True) (fun u t => xE g A ((fun (u : Unit) => [(aS, .inr (6, [.ref aQ, .ref aSt, .ref aSx, .ref aSy, .int (iI sr), .int (iI (mn sl (gaN st sx sy 4 stp be qx qy qhx qhy)))])), (aQ, .inr (2, [.int (iI qx), .int (iI qy), .int (iI qhx), .int (iI qhy)])), (aSt, .inl (gI g, 4, .inl (ar st))), (aSx, .inl (gI g, 4, .inl (ar sx))), (aSy, .inl (gI g, 4, .inl (ar sy)))]) u) t) A) args s 0 0 A := ⟨_, rfl⟩
  have hP : va_P (gD g) vwCl [(aS, .inr (6, [.ref aQ, .ref aSt, .ref aSx, .ref aSy, .int (iI sr), .int (iI sl)])), (aQ, .inr (2, [.int (iI qx), .int (iI qy), .int (iI qhx), .int (iI qhy)])), (aSt, .inl (gI g, 4, .inl (ar st))), (aSx, .inl (gI g, 4, .inl (ar sx))), (aSy, .inl (gI g, 4, .inl (ar sy)))] H := by rw [hH]; exact hP
  have hS : va_S A s.heap H locs := by rw [hH, hlo]; exact hS
  have goal_ : W p l e { frames := 7, cells := 0, slots := 0, locals := 154 } s m args below meth c H locs 0 0 Q9 (F0 m 0 ls []) := by
    clear hH hlo
    refine lv_iload_n hx hb dX8_searchFrom_0 rfl (lv_at hl 1 rfl) ?_
    refine lv_aload_n hx hb dX8_searchFrom_1 rfl (lv_at hl 0 rfl) ?_
    refine va_get (D := gD g) (ci := 6) (v := .int (iI sr)) (C := RX4) (T := TX4) (N := 6) hx hb hts hin4 hown hK hP 0 rfl rfl 4 (by decide) (hts (.fieldLink RX8 372 "TunnelRing$Search" "rings" "I") (List.mem_of_getElem? (i := 1) rfl)) (fun _ h9 => h9) rfl dX8_searchFrom_2 ?_
    refine x_cmp_lt (tgt := 13) hx hb (by omega) (by omega) dX8_searchFrom_5 (by decide) (fun c_1 => ?_) (fun c_1 => ?_)
    · skip
      refine lv_aload_n hx hb dX8_searchFrom_13 rfl (lv_at hl 0 rfl) ?_
      refine lv_iload_n hx hb dX8_searchFrom_14 rfl (lv_at hl 1 rfl) ?_
      refine x_calli (S := Unit) (wc := [(aS, .inr (6, [.ref aQ, .ref aSt, .ref aSx, .ref aSy, .int (iI sr), .int (iI sl)])), (aQ, .inr (2, [.int (iI qx), .int (iI qy), .int (iI qhx), .int (iI qhy)])), (aSt, .inl (gI g, 4, .inl (ar st))), (aSx, .inl (gI g, 4, .inl (ar sx))), (aSy, .inl (gI g, 4, .inl (ar sy)))]) (wr := []) hC hP hD hS hA [0, 1, 2, 3, 4] [] [0, 1, 2, 3, 4] rfl rfl (fun hpre => va_runV (As := [.int (iI stp)]) (rest := []) ⟨hx, hb, hml, hown, hts⟩ (c_X4_atLeast l g H.size aS aQ aSt aSx aSy sr sl qx qy qhx qhy stp st sx sy (by first | (first | assumption | omega | exact bnd_up (by assumption) (by omega) (by omega)) | fail "q8") (by first | (first | assumption | omega | exact bnd_up (by assumption) (by omega) (by omega)) | fail "q8") (by first | (first | assumption | omega | exact bnd_up (by assumption) (by omega) (by omega)) | fail "q8") (by first | (first | assumption | omega | exact bnd_up (by assumption) (by omega) (by omega)) | fail "q8") (by first | (first | assumption | omega | exact bnd_up (by assumption) (by omega) (by omega)) | fail "q8") (by first | (first | assumption | omega | exact bnd_up (by assumption) (by omega) (by omega)) | fail "q8") (by first | (first | assumption | omega | exact bnd_up (by assumption) (by omega) (by omega)) | fail "q8") (by first | (first | assumption | omega | exact bnd_up (by assumption) (by omega) (by omega)) | fail "q8") (by first | (first | assumption | omega | exact bnd_up (by assumption) (by omega) (by omega)) | fail "q8")) (cwV 1 hts gX8_searchFrom_X4_atLeast rfl rfl rfl (by decide +kernel) ⟨Nat.le_of_ble_eq_true rfl, Nat.le_of_ble_eq_true rfl⟩) ⟨xB_blind, va_recv hK hP (ci := 6) (q0 := 0) rfl rfl, hpre _⟩ rfl rfl hl.1 rfl (lv_room (Nat.le_of_ble_eq_true rfl)) dX8_searchFrom_15 ⟨Nat.le_of_ble_eq_true rfl, Nat.le_of_ble_eq_true rfl⟩) (fun (u : Unit) => [(aS, .inr (6, [.ref aQ, .ref aSt, .ref aSx, .ref aSy, .int (iI sr), .int (iI sl)])), (aQ, .inr (2, [.int (iI qx), .int (iI qy), .int (iI qhx), .int (iI qhy)])), (aSt, .inl (gI g, 4, .inl (ar st))), (aSx, .inl (gI g, 4, .inl (ar sx))), (aSy, .inl (gI g, 4, .inl (ar sy)))]) rfl rfl (by decide) (fun _ => rfl) rfl (fun u v_2 H locs hv_2 pv_2 hP hD hS => ?_)
      have hP : va_P (gD g) vwCl [(aS, .inr (6, [.ref aQ, .ref aSt, .ref aSx, .ref aSy, .int (iI sr), .int (iI sl)])), (aQ, .inr (2, [.int (iI qx), .int (iI qy), .int (iI qhx), .int (iI qhy)])), (aSt, .inl (gI g, 4, .inl (ar st))), (aSx, .inl (gI g, 4, .inl (ar sx))), (aSy, .inl (gI g, 4, .inl (ar sy)))] H := hP
      have hD : va_D A [(aS, .inr (6, [.ref aQ, .ref aSt, .ref aSx, .ref aSy, .int (iI sr), .int (iI sl)])), (aQ, .inr (2, [.int (iI qx), .int (iI qy), .int (iI qhx), .int (iI qhy)])), (aSt, .inl (gI g, 4, .inl (ar st))), (aSx, .inl (gI g, 4, .inl (ar sx))), (aSy, .inl (gI g, 4, .inl (ar sy)))] := hD
      have hv_2 : v_2 = mx 0 (aI (qx + (sr - stp) * qhx - (sumI (fun k => (sr - k) * sx k) sr - sumI (fun k => (sr - k) * sx k) stp)) - (sumI (fun k => (sr - k) * st k) sr - sumI (fun k => (sr - k) * st k) stp)) + mx 0 (aI (qy + (sr - stp) * qhy - (sumI (fun k => (sr - k) * sy k) sr - sumI (fun k => (sr - k) * sy k) stp)) - (sumI (fun k => (sr - k) * st k) sr - sumI (fun k => (sr - k) * st k) stp)) := hv_2
      have hal9 := hv_2
      have hab9 := atL_b hsr (by omega) (by omega) (by omega) (by omega) (by omega) hb_st hb_sx hb_sy hal9
      refine lv_aload_n hx hb dX8_searchFrom_18 rfl (lv_at hl 0 rfl) ?_
      refine va_get (D := gD g) (ci := 6) (v := .int (iI sl)) (C := RX4) (T := TX4) (N := 6) hx hb hts hin4 hown hK hP 0 rfl rfl 5 (by decide) (hts (.fieldLink RX8 271 "TunnelRing$Search" "least" "I") (List.mem_of_getElem? (i := 2) rfl)) (fun _ h9 => h9) rfl dX8_searchFrom_19 ?_
      refine x_cmp_lt (tgt := 26) hx hb (by omega) (by omega) dX8_searchFrom_22 (by decide) (fun c_3 => ?_) (fun c_3 => ?_)
      · skip
        refine x_iconst hx hb dX8_searchFrom_26 ?_
        refine lv_istore_n (lv' := [(3, .int (iI 0)), (0, .ref aS), (1, .int (iI stp)), (2, .int (iI be))]) hx hb dX8_searchFrom_27 rfl hl (by decide) rfl (fun ls hl => ?_)
        have lp28 : ∀ (n : Nat) (zk : Int) (zl : Int) (zqx : Int) (zqy : Int) (zqhx : Int) (zqhy : Int), (0 ≤ zk ∧ zk ≤ 8) → (zqx = qx) → (zqy = qy) → (zqhx = qhx) → (zqhy = qhy) → (zl = mn sl (lstI (fun p => gaN st sx sy 3 (stp + 1) p (qx + (qhx + (st stp * toSide p - sx stp))) (qy + (qhy + (st stp * upward p - sy stp))) (qhx + (st stp * toSide p - sx stp)) (qhy + (st stp * upward p - sy stp))) (fun p => decide (fitP be p)) zk)) → (0 ≤ zl ∧ zl ≤ 2147483647) → 8 - zk + 1 ≤ (n : Int) → ∀ (H : Heap) (locs : List Loc), va_P (gD g) vwCl [(aS, .inr (6, [.ref aQ, .ref aSt, .ref aSx, .ref aSy, .int (iI sr), .int (iI zl)])), (aQ, .inr (2, [.int (iI zqx), .int (iI zqy), .int (iI zqhx), .int (iI zqhy)])), (aSt, .inl (gI g, 4, .inl (ar st))), (aSx, .inl (gI g, 4, .inl (ar sx))), (aSy, .inl (gI g, 4, .inl (ar sy)))] H → va_D A [(aS, .inr (6, [.ref aQ, .ref aSt, .ref aSx, .ref aSy, .int (iI sr), .int (iI zl)])), (aQ, .inr (2, [.int (iI zqx), .int (iI zqy), .int (iI zqhx), .int (iI zqhy)])), (aSt, .inl (gI g, 4, .inl (ar st))), (aSx, .inl (gI g, 4, .inl (ar sx))), (aSy, .inl (gI g, 4, .inl (ar sy)))] → va_S A s.heap H locs → ∀ (ls : Array Slot), lv_has ls 4 [(3, .int (iI zk)), (0, .ref aS), (1, .int (iI stp)), (2, .int (iI be))] → W p l e { frames := 7, cells := 0, slots := 0, locals := 154 } s m args below meth c H locs 0 0 Q9 (F0 m 28 ls []) := by
          intro n
          induction n with
          | zero => intro zk zl zqx zqy zqhx zqhy hzk hzqx hzqy hzqhx hzqhy hzl hzr hm; exfalso; omega
          | succ n ih28 =>
            intro zk zl zqx zqy zqhx zqhy hzk hzqx hzqy hzqhx hzqhy hzl hzr hm H locs hP hD hS ls hl
            refine lv_iload_n hx hb dX8_searchFrom_28 rfl (lv_at hl 0 rfl) ?_
            refine va_gets hx hb hC.2.1.1 hS hown (hts (.fieldLink RX8 260 "TunnelRing" "TO_SIDE" "[I") (List.mem_of_getElem? (i := 3) rfl)) (fun _ h9 => h9) dX8_searchFrom_29 ?_
            refine va_tlen hx hb hC.2.1.2 hS (v := iI 8) (by decide) dX8_searchFrom_32 ?_
            refine x_cmp_ge (tgt := 70) hx hb (by omega) (by omega) dX8_searchFrom_33 (by decide) (fun c_4 => ?_) (fun c_4 => ?_)
            · skip
              have q_5 : (mn sl (gaN st sx sy 4 stp be qx qy qhx qhy)) = zl := by
                first
                | (
                   first | (show mn sl (lstI (fun p => gaN st sx sy 3 (stp + 1) p (qx + (qhx + (st stp * toSide p - sx stp))) (qy + (qhy + (st stp * upward p - sy stp))) (qhx + (st stp * toSide p - sx stp)) (qhy + (st stp * upward p - sy stp))) (fun p => decide (fitP be p)) 8) = zl; rw [show (8 : Int) = zk by omega]; exact hzl.symm) | (have hlb := lbN (st := st) (sx := sx) (sy := sy) hb_st 4 stp be qx qy qhx qhy; have s1 := alN_sum (F := sx) (sr := sr) 4 stp hstp (by omega); have s2 := alN_sum (F := sy) (sr := sr) 4 stp hstp (by omega); have s3 := alN_sum (F := st) (sr := sr) 4 stp hstp (by omega); rw [s1, s2, s3, show sr - stp = ((4 : Nat) : Int) by omega] at hal9; rw [← hal9] at hlb; exact mn_left (by unfold mn at hlb; split at hlb <;> omega)))
                | fail "q9"
              have q_6 : qx = zqx := by
                first
                | (
                   omega)
                | fail "q9"
              have q_7 : qy = zqy := by
                first
                | (
                   omega)
                | fail "q9"
              have q_8 : qhx = zqhx := by
                first
                | (
                   omega)
                | fail "q9"
              have q_9 : qhy = zqhy := by
                first
                | (
                   omega)
                | fail "q9"
              have hw_10 := (congr (congr (congr (congr (congrArg (fun (z0 : Int) (z1 : Int) (z2 : Int) (z3 : Int) (z4 : Int) => ([(aS, .inr (6, [.ref aQ, .ref aSt, .ref aSx, .ref aSy, .int (iI sr), .int (iI z0)])), (aQ, .inr (2, [.int (iI z1), .int (iI z2), .int (iI z3), .int (iI z4)])), (aSt, .inl (gI g, 4, .inl (ar st))), (aSx, .inl (gI g, 4, .inl (ar sx))), (aSy, .inl (gI g, 4, .inl (ar sy)))] : va_W)) q_5.symm) q_6.symm) q_7.symm) q_8.symm) q_9.symm)
              rw [hQ9]
              exact x_vret hx hb hr hlocks hP hD hS (S := Unit) (Φ := _) (W1 := _) dX8_searchFrom_70 () trivial hw_10 (Nat.le_of_ble_eq_true rfl) (Nat.le_of_ble_eq_true rfl)
            · skip
              refine lv_iload_n hx hb dX8_searchFrom_36 rfl (lv_at hl 3 rfl) ?_
              refine lv_iload_n hx hb dX8_searchFrom_37 rfl (lv_at hl 0 rfl) ?_
              refine x_calli (S := Unit) (wc := []) (wr := [(aS, .inr (6, [.ref aQ, .ref aSt, .ref aSx, .ref aSy, .int (iI sr), .int (iI zl)])), (aQ, .inr (2, [.int (iI zqx), .int (iI zqy), .int (iI zqhx), .int (iI zqhy)])), (aSt, .inl (gI g, 4, .inl (ar st))), (aSx, .inl (gI g, 4, .inl (ar sx))), (aSy, .inl (gI g, 4, .inl (ar sy)))]) hC hP hD hS hA [] [0, 1, 2, 3, 4] [0, 1, 2, 3, 4] rfl rfl (fun hpre => va_runS (As := [.int (iI be), .int (iI zk)]) (rest := []) ⟨hx, hb, hml, hown, hts⟩ (c_X8_fits l g H.size be zk (by first | (first | assumption | omega | exact bnd_up (by assumption) (by omega) (by omega)) | fail "q8") (by first | (first | assumption | omega | exact bnd_up (by assumption) (by omega) (by omega)) | fail "q8")) (va_cwS 2 hts gX8_searchFrom_X8_fits rfl rfl rfl (by decide +kernel) ⟨Nat.le_of_ble_eq_true rfl, Nat.le_of_ble_eq_true rfl⟩) ⟨xB_blind, hpre _⟩ rfl rfl hl.1 rfl (lv_room (Nat.le_of_ble_eq_true rfl)) dX8_searchFrom_38 ⟨Nat.le_of_ble_eq_true rfl, Nat.le_of_ble_eq_true rfl⟩) (fun (u : Unit) => [(aS, .inr (6, [.ref aQ, .ref aSt, .ref aSx, .ref aSy, .int (iI sr), .int (iI zl)])), (aQ, .inr (2, [.int (iI zqx), .int (iI zqy), .int (iI zqhx), .int (iI zqhy)])), (aSt, .inl (gI g, 4, .inl (ar st))), (aSx, .inl (gI g, 4, .inl (ar sx))), (aSy, .inl (gI g, 4, .inl (ar sy)))]) rfl rfl (by decide) (fun _ => rfl) rfl (fun u v_11 H locs hv_11 pv_11 hP hD hS => ?_)
              have hP : va_P (gD g) vwCl [(aS, .inr (6, [.ref aQ, .ref aSt, .ref aSx, .ref aSy, .int (iI sr), .int (iI zl)])), (aQ, .inr (2, [.int (iI zqx), .int (iI zqy), .int (iI zqhx), .int (iI zqhy)])), (aSt, .inl (gI g, 4, .inl (ar st))), (aSx, .inl (gI g, 4, .inl (ar sx))), (aSy, .inl (gI g, 4, .inl (ar sy)))] H := hP
              have hD : va_D A [(aS, .inr (6, [.ref aQ, .ref aSt, .ref aSx, .ref aSy, .int (iI sr), .int (iI zl)])), (aQ, .inr (2, [.int (iI zqx), .int (iI zqy), .int (iI zqhx), .int (iI zqhy)])), (aSt, .inl (gI g, 4, .inl (ar st))), (aSx, .inl (gI g, 4, .inl (ar sx))), (aSy, .inl (gI g, 4, .inl (ar sy)))] := hD
              have hv_11 : v_11 = bI (fitP be zk) := hv_11
              refine x_top hv_11 ?_
              refine x_ifb_eq (tgt := 64) (P := fitP be zk) hx hb dX8_searchFrom_41 (by decide) (fun c_12 => ?_) (fun c_12 => ?_)
              · skip
                refine x_iinc (k := 0) (lv' := [(3, .int (iI (zk + 1))), (0, .ref aS), (1, .int (iI stp)), (2, .int (iI be))]) hx hb dX8_searchFrom_64 hl rfl (by decide) rfl (fun ls hl => ?_)
                refine lv_goto (tgt := 28) hx hb dX8_searchFrom_67 (by decide) ?_
                exact ih28 (zk + 1) zl zqx zqy zqhx zqhy (show 0 ≤ (zk + 1) ∧ (zk + 1) ≤ 8 by
                    first
                    | (
                       first | assumption | omega | rfl)
                    | fail "q9") (show zqx = qx by
                    first
                    | (
                       first | assumption | omega | rfl)
                    | fail "q9") (show zqy = qy by
                    first
                    | (
                       first | assumption | omega | rfl)
                    | fail "q9") (show zqhx = qhx by
                    first
                    | (
                       first | assumption | omega | rfl)
                    | fail "q9") (show zqhy = qhy by
                    first
                    | (
                       first | assumption | omega | rfl)
                    | fail "q9") (show zl = mn sl (lstI (fun p => gaN st sx sy 3 (stp + 1) p (qx + (qhx + (st stp * toSide p - sx stp))) (qy + (qhy + (st stp * upward p - sy stp))) (qhx + (st stp * toSide p - sx stp)) (qhy + (st stp * upward p - sy stp))) (fun p => decide (fitP be p)) (zk + 1)) by
                    first
                    | (
                       rw [lstI_step _ _ (by omega)]
                       simp only [decide_eq_true_eq]
                       first | (rw [if_pos (by omega), hzl, mn_assoc, hzqx, hzqy, hzqhx, hzqhy]) | (rw [if_neg (by omega)]; assumption))
                    | fail "q9") (show 0 ≤ zl ∧ zl ≤ 2147483647 by
                    first
                    | (
                       first | assumption | (have g1 := gaN_nn st sx sy 3 (stp + 1) zk (zqx + (zqhx + (st stp * toSide zk - sx stp))) (zqy + (zqhy + (st stp * upward zk - sy stp))) (zqhx + (st stp * toSide zk - sx stp)) (zqhy + (st stp * upward zk - sy stp)); have g2 := mn_r zl _ (rfl : mn zl (gaN st sx sy 3 (stp + 1) zk (zqx + (zqhx + (st stp * toSide zk - sx stp))) (zqy + (zqhy + (st stp * upward zk - sy stp))) (zqhx + (st stp * toSide zk - sx stp)) (zqhy + (st stp * upward zk - sy stp))) = _); omega))
                    | fail "q9") (by
                    first
                    | (
                       omega)
                    | fail "q9") _ _ hP hD hS ls (lv_sub hl [0, 1, 2, 3] rfl)
              · skip
                refine lv_aload_n hx hb dX8_searchFrom_44 rfl (lv_at hl 1 rfl) ?_
                refine lv_iload_n hx hb dX8_searchFrom_45 rfl (lv_at hl 2 rfl) ?_
                refine lv_iload_n hx hb dX8_searchFrom_46 rfl (lv_at hl 0 rfl) ?_
                refine x_callv (S := Unit) (wc := [(aS, .inr (6, [.ref aQ, .ref aSt, .ref aSx, .ref aSy, .int (iI sr), .int (iI zl)])), (aQ, .inr (2, [.int (iI zqx), .int (iI zqy), .int (iI zqhx), .int (iI zqhy)])), (aSt, .inl (gI g, 4, .inl (ar st))), (aSx, .inl (gI g, 4, .inl (ar sx))), (aSy, .inl (gI g, 4, .inl (ar sy)))]) (wr := []) hC hP hD hS hA [0, 1, 2, 3, 4] [] [0, 1, 2, 3, 4] rfl rfl (fun hpre => va_runV (As := [.int (iI stp), .int (iI zk)]) (rest := []) ⟨hx, hb, hml, hown, hts⟩ (c_X4_tryOut l g H.size aS aQ aSt aSx aSy sr zl zqx zqy zqhx zqhy stp zk st sx sy (by first | (first | assumption | omega | exact bnd_up (by assumption) (by omega) (by omega)) | fail "q8") (by first | (first | assumption | omega | exact bnd_up (by assumption) (by omega) (by omega)) | fail "q8")) (cwV 2 hts gX8_searchFrom_X4_tryOut rfl rfl rfl (by decide +kernel) ⟨Nat.le_of_ble_eq_true rfl, Nat.le_of_ble_eq_true rfl⟩) ⟨xB_blind, va_recv hK hP (ci := 6) (q0 := 0) rfl rfl, hpre _⟩ rfl rfl hl.1 rfl (lv_room (Nat.le_of_ble_eq_true rfl)) dX8_searchFrom_47 ⟨Nat.le_of_ble_eq_true rfl, Nat.le_of_ble_eq_true rfl⟩) (fun (u : Unit) => [(aS, .inr (6, [.ref aQ, .ref aSt, .ref aSx, .ref aSy, .int (iI sr), .int (iI zl)])), (aQ, .inr (2, [.int (iI (zqx + (zqhx + (st stp * toSide zk - sx stp)))), .int (iI (zqy + (zqhy + (st stp * upward zk - sy stp)))), .int (iI (zqhx + (st stp * toSide zk - sx stp))), .int (iI (zqhy + (st stp * upward zk - sy stp)))])), (aSt, .inl (gI g, 4, .inl (ar st))), (aSx, .inl (gI g, 4, .inl (ar sx))), (aSy, .inl (gI g, 4, .inl (ar sy)))]) rfl rfl (by decide) (fun _ => rfl) rfl (fun u H locs hv_13 hP hD hS => ?_)
                have hP : va_P (gD g) vwCl [(aS, .inr (6, [.ref aQ, .ref aSt, .ref aSx, .ref aSy, .int (iI sr), .int (iI zl)])), (aQ, .inr (2, [.int (iI (zqx + (zqhx + (st stp * toSide zk - sx stp)))), .int (iI (zqy + (zqhy + (st stp * upward zk - sy stp)))), .int (iI (zqhx + (st stp * toSide zk - sx stp))), .int (iI (zqhy + (st stp * upward zk - sy stp)))])), (aSt, .inl (gI g, 4, .inl (ar st))), (aSx, .inl (gI g, 4, .inl (ar sx))), (aSy, .inl (gI g, 4, .inl (ar sy)))] H := hP
                have hD : va_D A [(aS, .inr (6, [.ref aQ, .ref aSt, .ref aSx, .ref aSy, .int (iI sr), .int (iI zl)])), (aQ, .inr (2, [.int (iI (zqx + (zqhx + (st stp * toSide zk - sx stp)))), .int (iI (zqy + (zqhy + (st stp * upward zk - sy stp)))), .int (iI (zqhx + (st stp * toSide zk - sx stp))), .int (iI (zqhy + (st stp * upward zk - sy stp)))])), (aSt, .inl (gI g, 4, .inl (ar st))), (aSx, .inl (gI g, 4, .inl (ar sx))), (aSy, .inl (gI g, 4, .inl (ar sy)))] := hD
                have m1 := mulb (A := 9) (B := 1) (a := st stp) (b := toSide zk) (by have := hb_st stp; omega) (toSide_r zk)
                have m2 := mulb (A := 9) (B := 1) (a := st stp) (b := upward zk) (by have := hb_st stp; omega) (upward_r zk)
                have m3 := hb_sx stp
                have m4 := hb_sy stp
                refine lv_aload_n hx hb dX8_searchFrom_50 rfl (lv_at hl 1 rfl) ?_
                refine lv_iload_n hx hb dX8_searchFrom_51 rfl (lv_at hl 2 rfl) ?_
                refine x_iconst hx hb dX8_searchFrom_52 ?_
                refine x_iadd hx hb dX8_searchFrom_53 ?_
                refine lv_iload_n hx hb dX8_searchFrom_54 rfl (lv_at hl 0 rfl) ?_
                refine x_callv (S := Unit) (wc := [(aS, .inr (6, [.ref aQ, .ref aSt, .ref aSx, .ref aSy, .int (iI sr), .int (iI zl)])), (aQ, .inr (2, [.int (iI (zqx + (zqhx + (st stp * toSide zk - sx stp)))), .int (iI (zqy + (zqhy + (st stp * upward zk - sy stp)))), .int (iI (zqhx + (st stp * toSide zk - sx stp))), .int (iI (zqhy + (st stp * upward zk - sy stp)))])), (aSt, .inl (gI g, 4, .inl (ar st))), (aSx, .inl (gI g, 4, .inl (ar sx))), (aSy, .inl (gI g, 4, .inl (ar sy)))]) (wr := []) hC hP hD hS hA [0, 1, 2, 3, 4] [] [0, 1, 2, 3, 4] rfl rfl (fun hpre => va_runS (As := [.ref aS, .int (iI (stp + 1)), .int (iI zk)]) (rest := []) ⟨hx, hb, hml, hown, hts⟩ (c_X8_searchFrom3 l g H.size aS aQ aSt aSx aSy sr zl (zqx + (zqhx + (st stp * toSide zk - sx stp))) (zqy + (zqhy + (st stp * upward zk - sy stp))) (zqhx + (st stp * toSide zk - sx stp)) (zqhy + (st stp * upward zk - sy stp)) (stp + 1) zk st sx sy (by first | (first | assumption | omega | exact bnd_up (by assumption) (by omega) (by omega)) | fail "q8") (by first | (first | assumption | omega | exact bnd_up (by assumption) (by omega) (by omega)) | fail "q8") (by first | (first | assumption | omega | exact bnd_up (by assumption) (by omega) (by omega)) | fail "q8") (by first | (first | assumption | omega | exact bnd_up (by assumption) (by omega) (by omega)) | fail "q8") (by first | (first | assumption | omega | exact bnd_up (by assumption) (by omega) (by omega)) | fail "q8") (by first | (first | assumption | omega | exact bnd_up (by assumption) (by omega) (by omega)) | fail "q8") (by first | (first | assumption | omega | exact bnd_up (by assumption) (by omega) (by omega)) | fail "q8") (by first | (first | assumption | omega | exact bnd_up (by assumption) (by omega) (by omega)) | fail "q8") (by first | (first | assumption | omega | exact bnd_up (by assumption) (by omega) (by omega)) | fail "q8") (by first | (first | assumption | omega | exact bnd_up (by assumption) (by omega) (by omega)) | fail "q8") (by first | (first | assumption | omega | exact bnd_up (by assumption) (by omega) (by omega)) | fail "q8") (by first | (first | assumption | omega | exact bnd_up (by assumption) (by omega) (by omega)) | fail "q8")) (va_cwS 3 hts gX8_searchFrom_X8_searchFrom rfl rfl rfl (by decide +kernel) ⟨Nat.le_of_ble_eq_true rfl, Nat.le_of_ble_eq_true rfl⟩) ⟨xB_blind, hpre _⟩ rfl rfl hl.1 rfl (lv_room (Nat.le_of_ble_eq_true rfl)) dX8_searchFrom_55 ⟨Nat.le_of_ble_eq_true rfl, Nat.le_of_ble_eq_true rfl⟩) (fun (u : Unit) => [(aS, .inr (6, [.ref aQ, .ref aSt, .ref aSx, .ref aSy, .int (iI sr), .int (iI (mn zl (gaN st sx sy 3 (stp + 1) zk (zqx + (zqhx + (st stp * toSide zk - sx stp))) (zqy + (zqhy + (st stp * upward zk - sy stp))) (zqhx + (st stp * toSide zk - sx stp)) (zqhy + (st stp * upward zk - sy stp)))))])), (aQ, .inr (2, [.int (iI (zqx + (zqhx + (st stp * toSide zk - sx stp)))), .int (iI (zqy + (zqhy + (st stp * upward zk - sy stp)))), .int (iI (zqhx + (st stp * toSide zk - sx stp))), .int (iI (zqhy + (st stp * upward zk - sy stp)))])), (aSt, .inl (gI g, 4, .inl (ar st))), (aSx, .inl (gI g, 4, .inl (ar sx))), (aSy, .inl (gI g, 4, .inl (ar sy)))]) rfl rfl (by decide) (fun _ => rfl) rfl (fun u H locs hv_14 hP hD hS => ?_)
                have hP : va_P (gD g) vwCl [(aS, .inr (6, [.ref aQ, .ref aSt, .ref aSx, .ref aSy, .int (iI sr), .int (iI (mn zl (gaN st sx sy 3 (stp + 1) zk (zqx + (zqhx + (st stp * toSide zk - sx stp))) (zqy + (zqhy + (st stp * upward zk - sy stp))) (zqhx + (st stp * toSide zk - sx stp)) (zqhy + (st stp * upward zk - sy stp)))))])), (aQ, .inr (2, [.int (iI (zqx + (zqhx + (st stp * toSide zk - sx stp)))), .int (iI (zqy + (zqhy + (st stp * upward zk - sy stp)))), .int (iI (zqhx + (st stp * toSide zk - sx stp))), .int (iI (zqhy + (st stp * upward zk - sy stp)))])), (aSt, .inl (gI g, 4, .inl (ar st))), (aSx, .inl (gI g, 4, .inl (ar sx))), (aSy, .inl (gI g, 4, .inl (ar sy)))] H := hP
                have hD : va_D A [(aS, .inr (6, [.ref aQ, .ref aSt, .ref aSx, .ref aSy, .int (iI sr), .int (iI (mn zl (gaN st sx sy 3 (stp + 1) zk (zqx + (zqhx + (st stp * toSide zk - sx stp))) (zqy + (zqhy + (st stp * upward zk - sy stp))) (zqhx + (st stp * toSide zk - sx stp)) (zqhy + (st stp * upward zk - sy stp)))))])), (aQ, .inr (2, [.int (iI (zqx + (zqhx + (st stp * toSide zk - sx stp)))), .int (iI (zqy + (zqhy + (st stp * upward zk - sy stp)))), .int (iI (zqhx + (st stp * toSide zk - sx stp))), .int (iI (zqhy + (st stp * upward zk - sy stp)))])), (aSt, .inl (gI g, 4, .inl (ar st))), (aSx, .inl (gI g, 4, .inl (ar sx))), (aSy, .inl (gI g, 4, .inl (ar sy)))] := hD
                refine lv_aload_n hx hb dX8_searchFrom_58 rfl (lv_at hl 1 rfl) ?_
                refine lv_iload_n hx hb dX8_searchFrom_59 rfl (lv_at hl 2 rfl) ?_
                refine lv_iload_n hx hb dX8_searchFrom_60 rfl (lv_at hl 0 rfl) ?_
                refine x_callv (S := Unit) (wc := [(aS, .inr (6, [.ref aQ, .ref aSt, .ref aSx, .ref aSy, .int (iI sr), .int (iI (mn zl (gaN st sx sy 3 (stp + 1) zk (zqx + (zqhx + (st stp * toSide zk - sx stp))) (zqy + (zqhy + (st stp * upward zk - sy stp))) (zqhx + (st stp * toSide zk - sx stp)) (zqhy + (st stp * upward zk - sy stp)))))])), (aQ, .inr (2, [.int (iI (zqx + (zqhx + (st stp * toSide zk - sx stp)))), .int (iI (zqy + (zqhy + (st stp * upward zk - sy stp)))), .int (iI (zqhx + (st stp * toSide zk - sx stp))), .int (iI (zqhy + (st stp * upward zk - sy stp)))])), (aSt, .inl (gI g, 4, .inl (ar st))), (aSx, .inl (gI g, 4, .inl (ar sx))), (aSy, .inl (gI g, 4, .inl (ar sy)))]) (wr := []) hC hP hD hS hA [0, 1, 2, 3, 4] [] [0, 1, 2, 3, 4] rfl rfl (fun hpre => va_runV (As := [.int (iI stp), .int (iI zk)]) (rest := []) ⟨hx, hb, hml, hown, hts⟩ (c_X4_takeBack l g H.size aS aQ aSt aSx aSy sr (mn zl (gaN st sx sy 3 (stp + 1) zk (zqx + (zqhx + (st stp * toSide zk - sx stp))) (zqy + (zqhy + (st stp * upward zk - sy stp))) (zqhx + (st stp * toSide zk - sx stp)) (zqhy + (st stp * upward zk - sy stp)))) (zqx + (zqhx + (st stp * toSide zk - sx stp))) (zqy + (zqhy + (st stp * upward zk - sy stp))) (zqhx + (st stp * toSide zk - sx stp)) (zqhy + (st stp * upward zk - sy stp)) stp zk st sx sy (by first | (first | assumption | omega | exact bnd_up (by assumption) (by omega) (by omega)) | fail "q8") (by first | (first | assumption | omega | exact bnd_up (by assumption) (by omega) (by omega)) | fail "q8")) (cwV 2 hts gX8_searchFrom_X4_takeBack rfl rfl rfl (by decide +kernel) ⟨Nat.le_of_ble_eq_true rfl, Nat.le_of_ble_eq_true rfl⟩) ⟨xB_blind, va_recv hK hP (ci := 6) (q0 := 0) rfl rfl, hpre _⟩ rfl rfl hl.1 rfl (lv_room (Nat.le_of_ble_eq_true rfl)) dX8_searchFrom_61 ⟨Nat.le_of_ble_eq_true rfl, Nat.le_of_ble_eq_true rfl⟩) (fun (u : Unit) => [(aS, .inr (6, [.ref aQ, .ref aSt, .ref aSx, .ref aSy, .int (iI sr), .int (iI (mn zl (gaN st sx sy 3 (stp + 1) zk (zqx + (zqhx + (st stp * toSide zk - sx stp))) (zqy + (zqhy + (st stp * upward zk - sy stp))) (zqhx + (st stp * toSide zk - sx stp)) (zqhy + (st stp * upward zk - sy stp)))))])), (aQ, .inr (2, [.int (iI ((zqx + (zqhx + (st stp * toSide zk - sx stp))) - (zqhx + (st stp * toSide zk - sx stp)))), .int (iI ((zqy + (zqhy + (st stp * upward zk - sy stp))) - (zqhy + (st stp * upward zk - sy stp)))), .int (iI ((zqhx + (st stp * toSide zk - sx stp)) - (st stp * toSide zk - sx stp))), .int (iI ((zqhy + (st stp * upward zk - sy stp)) - (st stp * upward zk - sy stp)))])), (aSt, .inl (gI g, 4, .inl (ar st))), (aSx, .inl (gI g, 4, .inl (ar sx))), (aSy, .inl (gI g, 4, .inl (ar sy)))]) rfl rfl (by decide) (fun _ => rfl) rfl (fun u H locs hv_15 hP hD hS => ?_)
                have hP : va_P (gD g) vwCl [(aS, .inr (6, [.ref aQ, .ref aSt, .ref aSx, .ref aSy, .int (iI sr), .int (iI (mn zl (gaN st sx sy 3 (stp + 1) zk (zqx + (zqhx + (st stp * toSide zk - sx stp))) (zqy + (zqhy + (st stp * upward zk - sy stp))) (zqhx + (st stp * toSide zk - sx stp)) (zqhy + (st stp * upward zk - sy stp)))))])), (aQ, .inr (2, [.int (iI ((zqx + (zqhx + (st stp * toSide zk - sx stp))) - (zqhx + (st stp * toSide zk - sx stp)))), .int (iI ((zqy + (zqhy + (st stp * upward zk - sy stp))) - (zqhy + (st stp * upward zk - sy stp)))), .int (iI ((zqhx + (st stp * toSide zk - sx stp)) - (st stp * toSide zk - sx stp))), .int (iI ((zqhy + (st stp * upward zk - sy stp)) - (st stp * upward zk - sy stp)))])), (aSt, .inl (gI g, 4, .inl (ar st))), (aSx, .inl (gI g, 4, .inl (ar sx))), (aSy, .inl (gI g, 4, .inl (ar sy)))] H := hP
                have hD : va_D A [(aS, .inr (6, [.ref aQ, .ref aSt, .ref aSx, .ref aSy, .int (iI sr), .int (iI (mn zl (gaN st sx sy 3 (stp + 1) zk (zqx + (zqhx + (st stp * toSide zk - sx stp))) (zqy + (zqhy + (st stp * upward zk - sy stp))) (zqhx + (st stp * toSide zk - sx stp)) (zqhy + (st stp * upward zk - sy stp)))))])), (aQ, .inr (2, [.int (iI ((zqx + (zqhx + (st stp * toSide zk - sx stp))) - (zqhx + (st stp * toSide zk - sx stp)))), .int (iI ((zqy + (zqhy + (st stp * upward zk - sy stp))) - (zqhy + (st stp * upward zk - sy stp)))), .int (iI ((zqhx + (st stp * toSide zk - sx stp)) - (st stp * toSide zk - sx stp))), .int (iI ((zqhy + (st stp * upward zk - sy stp)) - (st stp * upward zk - sy stp)))])), (aSt, .inl (gI g, 4, .inl (ar st))), (aSx, .inl (gI g, 4, .inl (ar sx))), (aSy, .inl (gI g, 4, .inl (ar sy)))] := hD
                refine x_iinc (k := 0) (lv' := [(3, .int (iI (zk + 1))), (0, .ref aS), (1, .int (iI stp)), (2, .int (iI be))]) hx hb dX8_searchFrom_64 hl rfl (by decide) rfl (fun ls hl => ?_)
                refine lv_goto (tgt := 28) hx hb dX8_searchFrom_67 (by decide) ?_
                exact ih28 (zk + 1) (mn zl (gaN st sx sy 3 (stp + 1) zk (zqx + (zqhx + (st stp * toSide zk - sx stp))) (zqy + (zqhy + (st stp * upward zk - sy stp))) (zqhx + (st stp * toSide zk - sx stp)) (zqhy + (st stp * upward zk - sy stp)))) ((zqx + (zqhx + (st stp * toSide zk - sx stp))) - (zqhx + (st stp * toSide zk - sx stp))) ((zqy + (zqhy + (st stp * upward zk - sy stp))) - (zqhy + (st stp * upward zk - sy stp))) ((zqhx + (st stp * toSide zk - sx stp)) - (st stp * toSide zk - sx stp)) ((zqhy + (st stp * upward zk - sy stp)) - (st stp * upward zk - sy stp)) (show 0 ≤ (zk + 1) ∧ (zk + 1) ≤ 8 by
                    first
                    | (
                       first | assumption | omega | rfl)
                    | fail "q9") (show ((zqx + (zqhx + (st stp * toSide zk - sx stp))) - (zqhx + (st stp * toSide zk - sx stp))) = qx by
                    first
                    | (
                       first | assumption | omega | rfl)
                    | fail "q9") (show ((zqy + (zqhy + (st stp * upward zk - sy stp))) - (zqhy + (st stp * upward zk - sy stp))) = qy by
                    first
                    | (
                       first | assumption | omega | rfl)
                    | fail "q9") (show ((zqhx + (st stp * toSide zk - sx stp)) - (st stp * toSide zk - sx stp)) = qhx by
                    first
                    | (
                       first | assumption | omega | rfl)
                    | fail "q9") (show ((zqhy + (st stp * upward zk - sy stp)) - (st stp * upward zk - sy stp)) = qhy by
                    first
                    | (
                       first | assumption | omega | rfl)
                    | fail "q9") (show (mn zl (gaN st sx sy 3 (stp + 1) zk (zqx + (zqhx + (st stp * toSide zk - sx stp))) (zqy + (zqhy + (st stp * upward zk - sy stp))) (zqhx + (st stp * toSide zk - sx stp)) (zqhy + (st stp * upward zk - sy stp)))) = mn sl (lstI (fun p => gaN st sx sy 3 (stp + 1) p (qx + (qhx + (st stp * toSide p - sx stp))) (qy + (qhy + (st stp * upward p - sy stp))) (qhx + (st stp * toSide p - sx stp)) (qhy + (st stp * upward p - sy stp))) (fun p => decide (fitP be p)) (zk + 1)) by
                    first
                    | (
                       rw [lstI_step _ _ (by omega)]
                       simp only [decide_eq_true_eq]
                       first | (rw [if_pos (by omega), hzl, mn_assoc, hzqx, hzqy, hzqhx, hzqhy]) | (rw [if_neg (by omega)]; assumption))
                    | fail "q9") (show 0 ≤ (mn zl (gaN st sx sy 3 (stp + 1) zk (zqx + (zqhx + (st stp * toSide zk - sx stp))) (zqy + (zqhy + (st stp * upward zk - sy stp))) (zqhx + (st stp * toSide zk - sx stp)) (zqhy + (st stp * upward zk - sy stp)))) ∧ (mn zl (gaN st sx sy 3 (stp + 1) zk (zqx + (zqhx + (st stp * toSide zk - sx stp))) (zqy + (zqhy + (st stp * upward zk - sy stp))) (zqhx + (st stp * toSide zk - sx stp)) (zqhy + (st stp * upward zk - sy stp)))) ≤ 2147483647 by
                    first
                    | (
                       first | assumption | (have g1 := gaN_nn st sx sy 3 (stp + 1) zk (zqx + (zqhx + (st stp * toSide zk - sx stp))) (zqy + (zqhy + (st stp * upward zk - sy stp))) (zqhx + (st stp * toSide zk - sx stp)) (zqhy + (st stp * upward zk - sy stp)); have g2 := mn_r zl _ (rfl : mn zl (gaN st sx sy 3 (stp + 1) zk (zqx + (zqhx + (st stp * toSide zk - sx stp))) (zqy + (zqhy + (st stp * upward zk - sy stp))) (zqhx + (st stp * toSide zk - sx stp)) (zqhy + (st stp * upward zk - sy stp))) = _); omega))
                    | fail "q9") (by
                    first
                    | (
                       omega)
                    | fail "q9") _ _ hP hD hS ls (lv_sub hl [0, 1, 2, 3] rfl)
        exact lp28 (8 - 0 + 1 : Int).toNat 0 sl qx qy qhx qhy (show 0 ≤ 0 ∧ 0 ≤ 8 by
            first
            | (
               first | assumption | omega | rfl)
            | fail "q9") (show qx = qx by
            first
            | (
               first | assumption | omega | rfl)
            | fail "q9") (show qy = qy by
            first
            | (
               first | assumption | omega | rfl)
            | fail "q9") (show qhx = qhx by
            first
            | (
               first | assumption | omega | rfl)
            | fail "q9") (show qhy = qhy by
            first
            | (
               first | assumption | omega | rfl)
            | fail "q9") (show sl = mn sl (lstI (fun p => gaN st sx sy 3 (stp + 1) p (qx + (qhx + (st stp * toSide p - sx stp))) (qy + (qhy + (st stp * upward p - sy stp))) (qhx + (st stp * toSide p - sx stp)) (qhy + (st stp * upward p - sy stp))) (fun p => decide (fitP be p)) 0) by
            first
            | (
               exact (mn_max hsl.2).symm)
            | fail "q9") (show 0 ≤ sl ∧ sl ≤ 2147483647 by
            first
            | (
               first | assumption | omega | rfl)
            | fail "q9") (by omega) _ _ hP hD hS ls (lv_sub hl [0, 1, 2, 3] rfl)
      · skip
        have q_16 : (mn sl (gaN st sx sy 4 stp be qx qy qhx qhy)) = sl := by
          first
          | (
             first | (show mn sl (lstI (fun p => gaN st sx sy 3 (stp + 1) p (qx + (qhx + (st stp * toSide p - sx stp))) (qy + (qhy + (st stp * upward p - sy stp))) (qhx + (st stp * toSide p - sx stp)) (qhy + (st stp * upward p - sy stp))) (fun p => decide (fitP be p)) 8) = zl; rw [show (8 : Int) = zk by omega]; exact hzl.symm) | (have hlb := lbN (st := st) (sx := sx) (sy := sy) hb_st 4 stp be qx qy qhx qhy; have s1 := alN_sum (F := sx) (sr := sr) 4 stp hstp (by omega); have s2 := alN_sum (F := sy) (sr := sr) 4 stp hstp (by omega); have s3 := alN_sum (F := st) (sr := sr) 4 stp hstp (by omega); rw [s1, s2, s3, show sr - stp = ((4 : Nat) : Int) by omega] at hal9; rw [← hal9] at hlb; exact mn_left (by unfold mn at hlb; split at hlb <;> omega)))
          | fail "q9"
        have hw_17 := (congrArg (fun (z0 : Int) => ([(aS, .inr (6, [.ref aQ, .ref aSt, .ref aSx, .ref aSy, .int (iI sr), .int (iI z0)])), (aQ, .inr (2, [.int (iI qx), .int (iI qy), .int (iI qhx), .int (iI qhy)])), (aSt, .inl (gI g, 4, .inl (ar st))), (aSx, .inl (gI g, 4, .inl (ar sx))), (aSy, .inl (gI g, 4, .inl (ar sy)))] : va_W)) q_16.symm)
        rw [hQ9]
        exact x_vret hx hb hr hlocks hP hD hS (S := Unit) (Φ := _) (W1 := _) dX8_searchFrom_25 () trivial hw_17 (Nat.le_of_ble_eq_true rfl) (Nat.le_of_ble_eq_true rfl)
    · skip
      exfalso; omega
  rw [hH, hlo, hQ9] at goal_
  exact goal_
