set_option maxHeartbeats 4000000 in
set_option maxRecDepth 100000 in
theorem c_L_addGround (l : Launch) (hflags : l.stackTraces = false) (g : xg) (sz : Nat) (aR aG aP aH aY aT aS aF aX aGn aGw aGs : Nat) (pr tk tol hou kn rgs nn nw : Int) (nd wk : Int → Int) (hkn : 0 ≤ kn ∧ kn ≤ 200) (hr_rgs : iR rgs) (hr_nn : iR nn) (hr_nw : iR nw) : Met l yL_addGround wsL_addGround { frames := 8, cells := 4, slots := 24, locals := 137 } (va_Pc [.ref aR, .int (iI rgs), .int (iI nn), .int (iI nw)] (xB g [(aR, .inr (11, [.ref aG, .ref aP, .ref aH, .ref aY, .ref aT, .ref aS, .ref aF, .ref aX, .int (iI pr), .int (iI tk), .int (iI tol), .int (iI hou)])), (aG, .inr (4, [.ref aGn, .ref aGw, .ref aGs, .int (iI kn)])), (aGn, .inl (gI g, 200, .inl (ar nd))), (aGw, .inl (gI g, 200, .inl (ar wk)))] sz)) (va_Qi (fun r u => r = iI ((fun (u : Unit) => (if agT kn rgs nn nw = 0 then kn + rgs else -900000 - agT kn rgs nn nw)) u) ∧ (fun (u : Unit) => True) u) (fun u t => xE g (va_A [(aR, .inr (11, [.ref aG, .ref aP, .ref aH, .ref aY, .ref aT, .ref aS, .ref aF, .ref aX, .int (iI pr), .int (iI tk), .int (iI tol), .int (iI hou)])), (aG, .inr (4, [.ref aGn, .ref aGw, .ref aGs, .int (iI kn)])), (aGn, .inl (gI g, 200, .inl (ar nd))), (aGw, .inl (gI g, 200, .inl (ar wk)))] sz) ((fun (u : Unit) => [(aR, .inr (11, [.ref aG, .ref aP, .ref aH, .ref aY, .ref aT, .ref aS, .ref aF, .ref aX, .int (iI pr), .int (iI tk), .int (iI tol), .int (iI hou)])), (aG, .inr (4, [.ref aGn, .ref aGw, .ref aGs, .int (iI (if agT kn rgs nn nw = 0 then (kn + rgs) else kn))])), (aGn, .inl (gI g, 200, .inl (ar (if agT kn rgs nn nw = 0 then (fil nd kn (kn + rgs) nn) else nd)))), (aGw, .inl (gI g, 200, .inl (ar (if agT kn rgs nn nw = 0 then (fil wk kn (kn + rgs) nw) else wk))))]) u) t) (va_A [(aR, .inr (11, [.ref aG, .ref aP, .ref aH, .ref aY, .ref aT, .ref aS, .ref aF, .ref aX, .int (iI pr), .int (iI tk), .int (iI tol), .int (iI hou)])), (aG, .inr (4, [.ref aGn, .ref aGw, .ref aGs, .int (iI kn)])), (aGn, .inl (gI g, 200, .inl (ar nd))), (aGw, .inl (gI g, 200, .inl (ar wk)))] sz)) 4 24 (va_A [(aR, .inr (11, [.ref aG, .ref aP, .ref aH, .ref aY, .ref aT, .ref aS, .ref aF, .ref aX, .int (iI pr), .int (iI tk), .int (iI tol), .int (iI hou)])), (aG, .inr (4, [.ref aGn, .ref aGw, .ref aGs, .int (iI kn)])), (aGn, .inl (gI g, 200, .inl (ar nd))), (aGw, .inl (gI g, 200, .inl (ar wk)))] sz) := by
  refine x_enterH (y := yL_addGround) (ws := wsL_addGround) (g := g) (sz := sz) (av := [.ref aR, .int (iI rgs), .int (iI nn), .int (iI nw)]) (WS := [(aR, .inr (11, [.ref aG, .ref aP, .ref aH, .ref aY, .ref aT, .ref aS, .ref aF, .ref aX, .int (iI pr), .int (iI tk), .int (iI tol), .int (iI hou)])), (aG, .inr (4, [.ref aGn, .ref aGw, .ref aGs, .int (iI kn)])), (aGn, .inl (gI g, 200, .inl (ar nd))), (aGw, .inl (gI g, 200, .inl (ar wk)))]) (cc := cL_addGround) (maxL := 5) (ret := some .int) (Qc := (fun A => (va_Qi (fun r u => r = iI ((fun (u : Unit) => (if agT kn rgs nn nw = 0 then kn + rgs else -900000 - agT kn rgs nn nw)) u) ∧ (fun (u : Unit) => True) u) (fun u t => xE g A ((fun (u : Unit) => [(aR, .inr (11, [.ref aG, .ref aP, .ref aH, .ref aY, .ref aT, .ref aS, .ref aF, .ref aX, .int (iI pr), .int (iI tk), .int (iI tol), .int (iI hou)])), (aG, .inr (4, [.ref aGn, .ref aGw, .ref aGs, .int (iI (if agT kn rgs nn nw = 0 then (kn + rgs) else kn))])), (aGn, .inl (gI g, 200, .inl (ar (if agT kn rgs nn nw = 0 then (fil nd kn (kn + rgs) nn) else nd)))), (aGw, .inl (gI g, 200, .inl (ar (if agT kn rgs nn nw = 0 then (fil wk kn (kn + rgs) nw) else wk))))]) u) t) A))) (by decide) rfl (Nat.le_of_ble_eq_true rfl) ?_
  intro p e s m args below meth c A ls hx hb hr hml hown hts hlocks htab hC hP hD hS hA hl
  have hK := hC.1
  have hown : s.vm.findClass RL = some m.cls := hown
  have hl : lv_has ls 5 [(0, .ref aR), (1, .int (iI rgs)), (2, .int (iI nn)), (3, .int (iI nw))] := hl
  obtain ⟨H, hH⟩ : ∃ z, z = s.heap := ⟨_, rfl⟩
  obtain ⟨locs, hlo⟩ : ∃ z : List Loc, z = [] := ⟨_, rfl⟩
  obtain ⟨Q9, hQ9⟩ : ∃ z, z = MQ below (va_Qi (fun r u => r = iI ((fun (u : Unit) => (if agT kn rgs nn nw = 0 then kn + rgs else -900000 - agT kn rgs nn nw)) u) ∧ (fun (u : Unit) => True) u) (fun u t => xE g A ((fun (u : Unit) => [(aR, .inr (11, [.ref aG, .ref aP, .ref aH, .ref aY, .ref aT, .ref aS, .ref aF, .ref aX, .int (iI pr), .int (iI tk), .int (iI tol), .int (iI hou)])), (aG, .inr (4, [.ref aGn, .ref aGw, .ref aGs, .int (iI (if agT kn rgs nn nw = 0 then (kn + rgs) else kn))])), (aGn, .inl (gI g, 200, .inl (ar (if agT kn rgs nn nw = 0 then (fil nd kn (kn + rgs) nn) else nd)))), (aGw, .inl (gI g, 200, .inl (ar (if agT kn rgs nn nw = 0 then (fil wk kn (kn + rgs) nw) else wk))))]) u) t) A) args s 4 24 A := ⟨_, rfl⟩
  have hP : va_P (gD g) vwCl [(aR, .inr (11, [.ref aG, .ref aP, .ref aH, .ref aY, .ref aT, .ref aS, .ref aF, .ref aX, .int (iI pr), .int (iI tk), .int (iI tol), .int (iI hou)])), (aG, .inr (4, [.ref aGn, .ref aGw, .ref aGs, .int (iI kn)])), (aGn, .inl (gI g, 200, .inl (ar nd))), (aGw, .inl (gI g, 200, .inl (ar wk)))] H := by rw [hH]; exact hP
  have hS : va_S A s.heap H locs := by rw [hH, hlo]; exact hS
  have goal_ : W p l e { frames := 8, cells := 4, slots := 24, locals := 137 } s m args below meth c H locs 0 0 Q9 (F0 m 0 ls []) := by
    clear hH hlo
    refine lv_aload_n hx hb dL_addGround_0 rfl (lv_at hl 0 rfl) ?_
    refine lv_iload_n hx hb dL_addGround_1 rfl (lv_at hl 1 rfl) ?_
    refine lv_iload_n hx hb dL_addGround_2 rfl (lv_at hl 2 rfl) ?_
    refine lv_iload_n hx hb dL_addGround_3 rfl (lv_at hl 3 rfl) ?_
    refine x_calliX (S := Unit) (SX := Unit) (wc := [(aR, .inr (11, [.ref aG, .ref aP, .ref aH, .ref aY, .ref aT, .ref aS, .ref aF, .ref aX, .int (iI pr), .int (iI tk), .int (iI tol), .int (iI hou)])), (aG, .inr (4, [.ref aGn, .ref aGw, .ref aGs, .int (iI kn)])), (aGn, .inl (gI g, 200, .inl (ar nd))), (aGw, .inl (gI g, 200, .inl (ar wk)))]) (wr := []) hC hP hD hS hA [0, 1, 2, 3] [] [0, 1, 2, 3] rfl rfl (fun hpre => vx_runV (As := [.int (iI rgs), .int (iI nn), .int (iI nw)]) (rest := []) ⟨hx, hb, hml, hown, hts⟩ (c_X8_addGround l hflags g H.size aR aG aP aH aY aT aS aF aX aGn aGw aGs pr tk tol hou kn rgs nn nw nd wk (by first | (first | assumption | omega | exact bnd_up (by assumption) (by omega) (by omega)) | fail "q8") (by first | (first | assumption | omega | exact bnd_up (by assumption) (by omega) (by omega)) | fail "q8") (by first | (first | assumption | omega | exact bnd_up (by assumption) (by omega) (by omega)) | fail "q8") (by first | (first | assumption | omega | exact bnd_up (by assumption) (by omega) (by omega)) | fail "q8")) (cwV 3 hts gL_addGround_X8_addGround rfl rfl rfl (by decide +kernel) ⟨Nat.le_of_ble_eq_true rfl, Nat.le_of_ble_eq_true rfl⟩) ⟨xB_blind, va_recv hK hP (ci := 11) (q0 := 0) rfl rfl, hpre _⟩ rfl rfl hl.1 rfl (lv_room (Nat.le_of_ble_eq_true rfl)) dL_addGround_4 ⟨Nat.le_of_ble_eq_true rfl, Nat.le_of_ble_eq_true rfl⟩) (fun (u : Unit) => [(aR, .inr (11, [.ref aG, .ref aP, .ref aH, .ref aY, .ref aT, .ref aS, .ref aF, .ref aX, .int (iI pr), .int (iI tk), .int (iI tol), .int (iI hou)])), (aG, .inr (4, [.ref aGn, .ref aGw, .ref aGs, .int (iI (kn + rgs))])), (aGn, .inl (gI g, 200, .inl (ar (fil nd kn (kn + rgs) nn)))), (aGw, .inl (gI g, 200, .inl (ar (fil wk kn (kn + rgs) nw))))]) (fun (u : Unit) => ([(aR, .inr (11, [.ref aG, .ref aP, .ref aH, .ref aY, .ref aT, .ref aS, .ref aF, .ref aX, .int (iI pr), .int (iI tk), .int (iI tol), .int (iI hou)])), (aG, .inr (4, [.ref aGn, .ref aGw, .ref aGs, .int (iI kn)])), (aGn, .inl (gI g, 200, .inl (ar nd))), (aGw, .inl (gI g, 200, .inl (ar wk)))] : va_W)) rfl rfl (by decide) (fun _ => rfl) (fun _ => rfl) rfl (fun E ce q9 u H locs hXP hPX hP hD hS hcell hv9 hcl => ?_) (fun u v_1 H locs hv_1 pv_1 hP hD hS => ?_)
    · skip
      have hP : va_P (gD g) vwCl [(aR, .inr (11, [.ref aG, .ref aP, .ref aH, .ref aY, .ref aT, .ref aS, .ref aF, .ref aX, .int (iI pr), .int (iI tk), .int (iI tol), .int (iI hou)])), (aG, .inr (4, [.ref aGn, .ref aGw, .ref aGs, .int (iI kn)])), (aGn, .inl (gI g, 200, .inl (ar nd))), (aGw, .inl (gI g, 200, .inl (ar wk)))] H := hP
      have hD : va_D A [(aR, .inr (11, [.ref aG, .ref aP, .ref aH, .ref aY, .ref aT, .ref aS, .ref aF, .ref aX, .int (iI pr), .int (iI tk), .int (iI tol), .int (iI hou)])), (aG, .inr (4, [.ref aGn, .ref aGw, .ref aGs, .int (iI kn)])), (aGn, .inl (gI g, 200, .inl (ar nd))), (aGw, .inl (gI g, 200, .inl (ar wk)))] := hD
      rcases hPX with ⟨hE, hp⟩ | ⟨hE, hp⟩
      · skip
        have hp : agT kn rgs nn nw = 1 := hp
        subst hE
        refine vx_catch (E := "java/lang/IllegalArgumentException") (name := "java/lang/IllegalArgumentException") hown [] ⟨0, 7, 8, 15⟩ [⟨0, 7, 13, 18⟩] (by rw [htab]; rfl) (fun z hz => by cases hz) (by decide) (by decide) (hts (.classLink RL 15 "java/lang/IllegalArgumentException") (List.mem_of_getElem? (i := 1) rfl)) (va_Nw.use rfl (hC.2.2.2.2.2.2.2.2.2.2.1 "java/lang/IllegalArgumentException" (List.mem_of_getElem? (i := 0) rfl))) hcell hv9 hcl ?_
        refine lv_astore (lv' := [(4, .ref q9), (0, .ref aR), (1, .int (iI rgs)), (2, .int (iI nn)), (3, .int (iI nw))]) hx hb dL_addGround_8 hl (by decide) rfl (fun ls hl => ?_)
        refine x_ldc (v := -900001) hx hb hown (hts (.constant RL 17 (-900001)) (List.mem_of_getElem? (i := 3) rfl)) (by decide) dL_addGround_10 ?_
        have q_2 : (if agT kn rgs nn nw = 0 then (kn + rgs) else kn) = kn := by
          first
          | (
             first | rfl | (rw [if_pos (by omega)]) | (rw [if_neg (by omega)]) | (rw [if_pos (by omega)]; subst_vars; rfl))
          | fail "q9"
        have q_3 : (if agT kn rgs nn nw = 0 then (fil nd kn (kn + rgs) nn) else nd) = nd := by
          first
          | (
             first | rfl | (rw [if_pos (by omega)]) | (rw [if_neg (by omega)]) | (rw [if_pos (by omega)]; subst_vars; rfl))
          | fail "q9"
        have q_4 : (if agT kn rgs nn nw = 0 then (fil wk kn (kn + rgs) nw) else wk) = wk := by
          first
          | (
             first | rfl | (rw [if_pos (by omega)]) | (rw [if_neg (by omega)]) | (rw [if_pos (by omega)]; subst_vars; rfl))
          | fail "q9"
        have hw_5 := (congr (congr (congrArg (fun (z0 : Int) (z1 : Int → Int) (z2 : Int → Int) => ([(aR, .inr (11, [.ref aG, .ref aP, .ref aH, .ref aY, .ref aT, .ref aS, .ref aF, .ref aX, .int (iI pr), .int (iI tk), .int (iI tol), .int (iI hou)])), (aG, .inr (4, [.ref aGn, .ref aGw, .ref aGs, .int (iI z0)])), (aGn, .inl (gI g, 200, .inl (ar z1))), (aGw, .inl (gI g, 200, .inl (ar z2)))] : va_W)) q_2.symm) q_3.symm) q_4.symm)
        rw [hQ9]
        exact x_iret hx hb hr hlocks hP hD hS (S := Unit) rfl dL_addGround_12 () (by
            first
            | (
               first | (rw [if_pos (by omega)]; first | assumption | (subst_vars; rfl)) | (rw [if_neg (by omega)]; omega))
            | fail "q9") trivial hw_5 (Nat.le_of_ble_eq_true rfl) (Nat.le_of_ble_eq_true rfl)
      · skip
        have hp : agT kn rgs nn nw = 2 := hp
        subst hE
        refine vx_catch (E := "java/lang/IllegalStateException") (name := "java/lang/IllegalStateException") hown [⟨0, 7, 8, 15⟩] ⟨0, 7, 13, 18⟩ [] (by rw [htab]; rfl) (fun z hz => by rcases List.mem_cons.mp hz with rfl | hz; exact Or.inr ⟨by decide, "java/lang/IllegalArgumentException", (hts (.classLink RL 15 "java/lang/IllegalArgumentException") (List.mem_of_getElem? (i := 1) rfl)), hC.d.2.2.2.2.2.1 ("java/lang/IllegalStateException", "java/lang/IllegalArgumentException") (List.mem_of_getElem? (i := 5) (by decide +kernel))⟩; cases hz) (by decide) (by decide) (hts (.classLink RL 18 "java/lang/IllegalStateException") (List.mem_of_getElem? (i := 2) rfl)) (va_Nw.use rfl (hC.2.2.2.2.2.2.2.2.2.2.1 "java/lang/IllegalStateException" (List.mem_of_getElem? (i := 1) rfl))) hcell hv9 hcl ?_
        refine lv_astore (lv' := [(4, .ref q9), (0, .ref aR), (1, .int (iI rgs)), (2, .int (iI nn)), (3, .int (iI nw))]) hx hb dL_addGround_13 hl (by decide) rfl (fun ls hl => ?_)
        refine x_ldc (v := -900002) hx hb hown (hts (.constant RL 20 (-900002)) (List.mem_of_getElem? (i := 4) rfl)) (by decide) dL_addGround_15 ?_
        have q_6 : (if agT kn rgs nn nw = 0 then (kn + rgs) else kn) = kn := by
          first
          | (
             first | rfl | (rw [if_pos (by omega)]) | (rw [if_neg (by omega)]) | (rw [if_pos (by omega)]; subst_vars; rfl))
          | fail "q9"
        have q_7 : (if agT kn rgs nn nw = 0 then (fil nd kn (kn + rgs) nn) else nd) = nd := by
          first
          | (
             first | rfl | (rw [if_pos (by omega)]) | (rw [if_neg (by omega)]) | (rw [if_pos (by omega)]; subst_vars; rfl))
          | fail "q9"
        have q_8 : (if agT kn rgs nn nw = 0 then (fil wk kn (kn + rgs) nw) else wk) = wk := by
          first
          | (
             first | rfl | (rw [if_pos (by omega)]) | (rw [if_neg (by omega)]) | (rw [if_pos (by omega)]; subst_vars; rfl))
          | fail "q9"
        have hw_9 := (congr (congr (congrArg (fun (z0 : Int) (z1 : Int → Int) (z2 : Int → Int) => ([(aR, .inr (11, [.ref aG, .ref aP, .ref aH, .ref aY, .ref aT, .ref aS, .ref aF, .ref aX, .int (iI pr), .int (iI tk), .int (iI tol), .int (iI hou)])), (aG, .inr (4, [.ref aGn, .ref aGw, .ref aGs, .int (iI z0)])), (aGn, .inl (gI g, 200, .inl (ar z1))), (aGw, .inl (gI g, 200, .inl (ar z2)))] : va_W)) q_6.symm) q_7.symm) q_8.symm)
        rw [hQ9]
        exact x_iret hx hb hr hlocks hP hD hS (S := Unit) rfl dL_addGround_17 () (by
            first
            | (
               first | (rw [if_pos (by omega)]; first | assumption | (subst_vars; rfl)) | (rw [if_neg (by omega)]; omega))
            | fail "q9") trivial hw_9 (Nat.le_of_ble_eq_true rfl) (Nat.le_of_ble_eq_true rfl)
    · skip
      have hP : va_P (gD g) vwCl [(aR, .inr (11, [.ref aG, .ref aP, .ref aH, .ref aY, .ref aT, .ref aS, .ref aF, .ref aX, .int (iI pr), .int (iI tk), .int (iI tol), .int (iI hou)])), (aG, .inr (4, [.ref aGn, .ref aGw, .ref aGs, .int (iI (kn + rgs))])), (aGn, .inl (gI g, 200, .inl (ar (fil nd kn (kn + rgs) nn)))), (aGw, .inl (gI g, 200, .inl (ar (fil wk kn (kn + rgs) nw))))] H := hP
      have hD : va_D A [(aR, .inr (11, [.ref aG, .ref aP, .ref aH, .ref aY, .ref aT, .ref aS, .ref aF, .ref aX, .int (iI pr), .int (iI tk), .int (iI tol), .int (iI hou)])), (aG, .inr (4, [.ref aGn, .ref aGw, .ref aGs, .int (iI (kn + rgs))])), (aGn, .inl (gI g, 200, .inl (ar (fil nd kn (kn + rgs) nn)))), (aGw, .inl (gI g, 200, .inl (ar (fil wk kn (kn + rgs) nw))))] := hD
      have hv_1 : v_1 = kn + rgs := hv_1
      obtain ⟨tv_1, pv_1⟩ := pv_1
      have tv_1 : agT kn rgs nn nw = 0 := tv_1
      have q_10 : (if agT kn rgs nn nw = 0 then (kn + rgs) else kn) = (kn + rgs) := by
        first
        | (
           first | rfl | (rw [if_pos (by omega)]) | (rw [if_neg (by omega)]) | (rw [if_pos (by omega)]; subst_vars; rfl))
        | fail "q9"
      have q_11 : (if agT kn rgs nn nw = 0 then (fil nd kn (kn + rgs) nn) else nd) = (fil nd kn (kn + rgs) nn) := by
        first
        | (
           first | rfl | (rw [if_pos (by omega)]) | (rw [if_neg (by omega)]) | (rw [if_pos (by omega)]; subst_vars; rfl))
        | fail "q9"
      have q_12 : (if agT kn rgs nn nw = 0 then (fil wk kn (kn + rgs) nw) else wk) = (fil wk kn (kn + rgs) nw) := by
        first
        | (
           first | rfl | (rw [if_pos (by omega)]) | (rw [if_neg (by omega)]) | (rw [if_pos (by omega)]; subst_vars; rfl))
        | fail "q9"
      have hw_13 := (congr (congr (congrArg (fun (z0 : Int) (z1 : Int → Int) (z2 : Int → Int) => ([(aR, .inr (11, [.ref aG, .ref aP, .ref aH, .ref aY, .ref aT, .ref aS, .ref aF, .ref aX, .int (iI pr), .int (iI tk), .int (iI tol), .int (iI hou)])), (aG, .inr (4, [.ref aGn, .ref aGw, .ref aGs, .int (iI z0)])), (aGn, .inl (gI g, 200, .inl (ar z1))), (aGw, .inl (gI g, 200, .inl (ar z2)))] : va_W)) q_10.symm) q_11.symm) q_12.symm)
      rw [hQ9]
      exact x_iret hx hb hr hlocks hP hD hS (S := Unit) rfl dL_addGround_7 () (by
          first
          | (
             first | (rw [if_pos (by omega)]; first | assumption | (subst_vars; rfl)) | (rw [if_neg (by omega)]; omega))
          | fail "q9") trivial hw_13 (Nat.le_of_ble_eq_true rfl) (Nat.le_of_ble_eq_true rfl)
  rw [hH, hlo, hQ9] at goal_
  exact goal_

set_option maxHeartbeats 4000000 in
set_option maxRecDepth 100000 in
theorem c_L_addCurve (l : Launch) (hflags : l.stackTraces = false) (g : xg) (sz : Nat) (aR aG aP aH aY aT aS aF aX aPx aPy : Nat) (pr tk tol hou pn rgs nx ny : Int) (bx byy : Int → Int) (hpn : 0 ≤ pn ∧ pn ≤ 200) (hr_rgs : iR rgs) (hr_nx : iR nx) (hr_ny : iR ny) : Met l yL_addCurve wsL_addCurve { frames := 8, cells := 4, slots := 24, locals := 137 } (va_Pc [.ref aR, .int (iI rgs), .int (iI nx), .int (iI ny)] (xB g [(aR, .inr (11, [.ref aG, .ref aP, .ref aH, .ref aY, .ref aT, .ref aS, .ref aF, .ref aX, .int (iI pr), .int (iI tk), .int (iI tol), .int (iI hou)])), (aP, .inr (6, [.ref aPx, .ref aPy, .int (iI pn)])), (aPx, .inl (gI g, 200, .inl (ar bx))), (aPy, .inl (gI g, 200, .inl (ar byy)))] sz)) (va_Qi (fun r u => r = iI ((fun (u : Unit) => (if acT pn rgs nx ny = 0 then pn + rgs else -900000 - acT pn rgs nx ny)) u) ∧ (fun (u : Unit) => True) u) (fun u t => xE g (va_A [(aR, .inr (11, [.ref aG, .ref aP, .ref aH, .ref aY, .ref aT, .ref aS, .ref aF, .ref aX, .int (iI pr), .int (iI tk), .int (iI tol), .int (iI hou)])), (aP, .inr (6, [.ref aPx, .ref aPy, .int (iI pn)])), (aPx, .inl (gI g, 200, .inl (ar bx))), (aPy, .inl (gI g, 200, .inl (ar byy)))] sz) ((fun (u : Unit) => [(aR, .inr (11, [.ref aG, .ref aP, .ref aH, .ref aY, .ref aT, .ref aS, .ref aF, .ref aX, .int (iI pr), .int (iI tk), .int (iI tol), .int (iI hou)])), (aP, .inr (6, [.ref aPx, .ref aPy, .int (iI (if acT pn rgs nx ny = 0 then (pn + rgs) else pn))])), (aPx, .inl (gI g, 200, .inl (ar (if acT pn rgs nx ny = 0 then (fil bx pn (pn + rgs) nx) else bx)))), (aPy, .inl (gI g, 200, .inl (ar (if acT pn rgs nx ny = 0 then (fil byy pn (pn + rgs) ny) else byy))))]) u) t) (va_A [(aR, .inr (11, [.ref aG, .ref aP, .ref aH, .ref aY, .ref aT, .ref aS, .ref aF, .ref aX, .int (iI pr), .int (iI tk), .int (iI tol), .int (iI hou)])), (aP, .inr (6, [.ref aPx, .ref aPy, .int (iI pn)])), (aPx, .inl (gI g, 200, .inl (ar bx))), (aPy, .inl (gI g, 200, .inl (ar byy)))] sz)) 4 24 (va_A [(aR, .inr (11, [.ref aG, .ref aP, .ref aH, .ref aY, .ref aT, .ref aS, .ref aF, .ref aX, .int (iI pr), .int (iI tk), .int (iI tol), .int (iI hou)])), (aP, .inr (6, [.ref aPx, .ref aPy, .int (iI pn)])), (aPx, .inl (gI g, 200, .inl (ar bx))), (aPy, .inl (gI g, 200, .inl (ar byy)))] sz) := by
  refine x_enterH (y := yL_addCurve) (ws := wsL_addCurve) (g := g) (sz := sz) (av := [.ref aR, .int (iI rgs), .int (iI nx), .int (iI ny)]) (WS := [(aR, .inr (11, [.ref aG, .ref aP, .ref aH, .ref aY, .ref aT, .ref aS, .ref aF, .ref aX, .int (iI pr), .int (iI tk), .int (iI tol), .int (iI hou)])), (aP, .inr (6, [.ref aPx, .ref aPy, .int (iI pn)])), (aPx, .inl (gI g, 200, .inl (ar bx))), (aPy, .inl (gI g, 200, .inl (ar byy)))]) (cc := cL_addCurve) (maxL := 5) (ret := some .int) (Qc := (fun A => (va_Qi (fun r u => r = iI ((fun (u : Unit) => (if acT pn rgs nx ny = 0 then pn + rgs else -900000 - acT pn rgs nx ny)) u) ∧ (fun (u : Unit) => True) u) (fun u t => xE g A ((fun (u : Unit) => [(aR, .inr (11, [.ref aG, .ref aP, .ref aH, .ref aY, .ref aT, .ref aS, .ref aF, .ref aX, .int (iI pr), .int (iI tk), .int (iI tol), .int (iI hou)])), (aP, .inr (6, [.ref aPx, .ref aPy, .int (iI (if acT pn rgs nx ny = 0 then (pn + rgs) else pn))])), (aPx, .inl (gI g, 200, .inl (ar (if acT pn rgs nx ny = 0 then (fil bx pn (pn + rgs) nx) else bx)))), (aPy, .inl (gI g, 200, .inl (ar (if acT pn rgs nx ny = 0 then (fil byy pn (pn + rgs) ny) else byy))))]) u) t) A))) (by decide) rfl (Nat.le_of_ble_eq_true rfl) ?_
  intro p e s m args below meth c A ls hx hb hr hml hown hts hlocks htab hC hP hD hS hA hl
  have hK := hC.1
  have hown : s.vm.findClass RL = some m.cls := hown
  have hl : lv_has ls 5 [(0, .ref aR), (1, .int (iI rgs)), (2, .int (iI nx)), (3, .int (iI ny))] := hl
  obtain ⟨H, hH⟩ : ∃ z, z = s.heap := ⟨_, rfl⟩
  obtain ⟨locs, hlo⟩ : ∃ z : List Loc, z = [] := ⟨_, rfl⟩
  obtain ⟨Q9, hQ9⟩ : ∃ z, z = MQ below (va_Qi (fun r u => r = iI ((fun (u : Unit) => (if acT pn rgs nx ny = 0 then pn + rgs else -900000 - acT pn rgs nx ny)) u) ∧ (fun (u : Unit) => True) u) (fun u t => xE g A ((fun (u : Unit) => [(aR, .inr (11, [.ref aG, .ref aP, .ref aH, .ref aY, .ref aT, .ref aS, .ref aF, .ref aX, .int (iI pr), .int (iI tk), .int (iI tol), .int (iI hou)])), (aP, .inr (6, [.ref aPx, .ref aPy, .int (iI (if acT pn rgs nx ny = 0 then (pn + rgs) else pn))])), (aPx, .inl (gI g, 200, .inl (ar (if acT pn rgs nx ny = 0 then (fil bx pn (pn + rgs) nx) else bx)))), (aPy, .inl (gI g, 200, .inl (ar (if acT pn rgs nx ny = 0 then (fil byy pn (pn + rgs) ny) else byy))))]) u) t) A) args s 4 24 A := ⟨_, rfl⟩
  have hP : va_P (gD g) vwCl [(aR, .inr (11, [.ref aG, .ref aP, .ref aH, .ref aY, .ref aT, .ref aS, .ref aF, .ref aX, .int (iI pr), .int (iI tk), .int (iI tol), .int (iI hou)])), (aP, .inr (6, [.ref aPx, .ref aPy, .int (iI pn)])), (aPx, .inl (gI g, 200, .inl (ar bx))), (aPy, .inl (gI g, 200, .inl (ar byy)))] H := by rw [hH]; exact hP
  have hS : va_S A s.heap H locs := by rw [hH, hlo]; exact hS
  have goal_ : W p l e { frames := 8, cells := 4, slots := 24, locals := 137 } s m args below meth c H locs 0 0 Q9 (F0 m 0 ls []) := by
    clear hH hlo
    refine lv_aload_n hx hb dL_addCurve_0 rfl (lv_at hl 0 rfl) ?_
    refine lv_iload_n hx hb dL_addCurve_1 rfl (lv_at hl 1 rfl) ?_
    refine lv_iload_n hx hb dL_addCurve_2 rfl (lv_at hl 2 rfl) ?_
    refine lv_iload_n hx hb dL_addCurve_3 rfl (lv_at hl 3 rfl) ?_
    refine x_calliX (S := Unit) (SX := Unit) (wc := [(aR, .inr (11, [.ref aG, .ref aP, .ref aH, .ref aY, .ref aT, .ref aS, .ref aF, .ref aX, .int (iI pr), .int (iI tk), .int (iI tol), .int (iI hou)])), (aP, .inr (6, [.ref aPx, .ref aPy, .int (iI pn)])), (aPx, .inl (gI g, 200, .inl (ar bx))), (aPy, .inl (gI g, 200, .inl (ar byy)))]) (wr := []) hC hP hD hS hA [0, 1, 2, 3] [] [0, 1, 2, 3] rfl rfl (fun hpre => vx_runV (As := [.int (iI rgs), .int (iI nx), .int (iI ny)]) (rest := []) ⟨hx, hb, hml, hown, hts⟩ (c_X8_addCurve l hflags g H.size aR aG aP aH aY aT aS aF aX aPx aPy pr tk tol hou pn rgs nx ny bx byy (by first | (first | assumption | omega | exact bnd_up (by assumption) (by omega) (by omega)) | fail "q8") (by first | (first | assumption | omega | exact bnd_up (by assumption) (by omega) (by omega)) | fail "q8") (by first | (first | assumption | omega | exact bnd_up (by assumption) (by omega) (by omega)) | fail "q8") (by first | (first | assumption | omega | exact bnd_up (by assumption) (by omega) (by omega)) | fail "q8")) (cwV 3 hts gL_addCurve_X8_addCurve rfl rfl rfl (by decide +kernel) ⟨Nat.le_of_ble_eq_true rfl, Nat.le_of_ble_eq_true rfl⟩) ⟨xB_blind, va_recv hK hP (ci := 11) (q0 := 0) rfl rfl, hpre _⟩ rfl rfl hl.1 rfl (lv_room (Nat.le_of_ble_eq_true rfl)) dL_addCurve_4 ⟨Nat.le_of_ble_eq_true rfl, Nat.le_of_ble_eq_true rfl⟩) (fun (u : Unit) => [(aR, .inr (11, [.ref aG, .ref aP, .ref aH, .ref aY, .ref aT, .ref aS, .ref aF, .ref aX, .int (iI pr), .int (iI tk), .int (iI tol), .int (iI hou)])), (aP, .inr (6, [.ref aPx, .ref aPy, .int (iI (pn + rgs))])), (aPx, .inl (gI g, 200, .inl (ar (fil bx pn (pn + rgs) nx)))), (aPy, .inl (gI g, 200, .inl (ar (fil byy pn (pn + rgs) ny))))]) (fun (u : Unit) => ([(aR, .inr (11, [.ref aG, .ref aP, .ref aH, .ref aY, .ref aT, .ref aS, .ref aF, .ref aX, .int (iI pr), .int (iI tk), .int (iI tol), .int (iI hou)])), (aP, .inr (6, [.ref aPx, .ref aPy, .int (iI pn)])), (aPx, .inl (gI g, 200, .inl (ar bx))), (aPy, .inl (gI g, 200, .inl (ar byy)))] : va_W)) rfl rfl (by decide) (fun _ => rfl) (fun _ => rfl) rfl (fun E ce q9 u H locs hXP hPX hP hD hS hcell hv9 hcl => ?_) (fun u v_1 H locs hv_1 pv_1 hP hD hS => ?_)
    · skip
      have hP : va_P (gD g) vwCl [(aR, .inr (11, [.ref aG, .ref aP, .ref aH, .ref aY, .ref aT, .ref aS, .ref aF, .ref aX, .int (iI pr), .int (iI tk), .int (iI tol), .int (iI hou)])), (aP, .inr (6, [.ref aPx, .ref aPy, .int (iI pn)])), (aPx, .inl (gI g, 200, .inl (ar bx))), (aPy, .inl (gI g, 200, .inl (ar byy)))] H := hP
      have hD : va_D A [(aR, .inr (11, [.ref aG, .ref aP, .ref aH, .ref aY, .ref aT, .ref aS, .ref aF, .ref aX, .int (iI pr), .int (iI tk), .int (iI tol), .int (iI hou)])), (aP, .inr (6, [.ref aPx, .ref aPy, .int (iI pn)])), (aPx, .inl (gI g, 200, .inl (ar bx))), (aPy, .inl (gI g, 200, .inl (ar byy)))] := hD
      rcases hPX with ⟨hE, hp⟩ | ⟨hE, hp⟩
      · skip
        have hp : acT pn rgs nx ny = 1 := hp
        subst hE
        refine vx_catch (E := "java/lang/IllegalArgumentException") (name := "java/lang/IllegalArgumentException") hown [] ⟨0, 7, 8, 15⟩ [⟨0, 7, 13, 18⟩] (by rw [htab]; rfl) (fun z hz => by cases hz) (by decide) (by decide) (hts (.classLink RL 15 "java/lang/IllegalArgumentException") (List.mem_of_getElem? (i := 1) rfl)) (va_Nw.use rfl (hC.2.2.2.2.2.2.2.2.2.2.1 "java/lang/IllegalArgumentException" (List.mem_of_getElem? (i := 0) rfl))) hcell hv9 hcl ?_
        refine lv_astore (lv' := [(4, .ref q9), (0, .ref aR), (1, .int (iI rgs)), (2, .int (iI nx)), (3, .int (iI ny))]) hx hb dL_addCurve_8 hl (by decide) rfl (fun ls hl => ?_)
        refine x_ldc (v := -900001) hx hb hown (hts (.constant RL 17 (-900001)) (List.mem_of_getElem? (i := 3) rfl)) (by decide) dL_addCurve_10 ?_
        have q_2 : (if acT pn rgs nx ny = 0 then (pn + rgs) else pn) = pn := by
          first
          | (
             first | rfl | (rw [if_pos (by omega)]) | (rw [if_neg (by omega)]) | (rw [if_pos (by omega)]; subst_vars; rfl))
          | fail "q9"
        have q_3 : (if acT pn rgs nx ny = 0 then (fil bx pn (pn + rgs) nx) else bx) = bx := by
          first
          | (
             first | rfl | (rw [if_pos (by omega)]) | (rw [if_neg (by omega)]) | (rw [if_pos (by omega)]; subst_vars; rfl))
          | fail "q9"
        have q_4 : (if acT pn rgs nx ny = 0 then (fil byy pn (pn + rgs) ny) else byy) = byy := by
          first
          | (
             first | rfl | (rw [if_pos (by omega)]) | (rw [if_neg (by omega)]) | (rw [if_pos (by omega)]; subst_vars; rfl))
          | fail "q9"
        have hw_5 := (congr (congr (congrArg (fun (z0 : Int) (z1 : Int → Int) (z2 : Int → Int) => ([(aR, .inr (11, [.ref aG, .ref aP, .ref aH, .ref aY, .ref aT, .ref aS, .ref aF, .ref aX, .int (iI pr), .int (iI tk), .int (iI tol), .int (iI hou)])), (aP, .inr (6, [.ref aPx, .ref aPy, .int (iI z0)])), (aPx, .inl (gI g, 200, .inl (ar z1))), (aPy, .inl (gI g, 200, .inl (ar z2)))] : va_W)) q_2.symm) q_3.symm) q_4.symm)
        rw [hQ9]
        exact x_iret hx hb hr hlocks hP hD hS (S := Unit) rfl dL_addCurve_12 () (by
            first
            | (
               first | (rw [if_pos (by omega)]; first | assumption | (subst_vars; rfl)) | (rw [if_neg (by omega)]; omega))
            | fail "q9") trivial hw_5 (Nat.le_of_ble_eq_true rfl) (Nat.le_of_ble_eq_true rfl)
      · skip
        have hp : acT pn rgs nx ny = 2 := hp
        subst hE
        refine vx_catch (E := "java/lang/IllegalStateException") (name := "java/lang/IllegalStateException") hown [⟨0, 7, 8, 15⟩] ⟨0, 7, 13, 18⟩ [] (by rw [htab]; rfl) (fun z hz => by rcases List.mem_cons.mp hz with rfl | hz; exact Or.inr ⟨by decide, "java/lang/IllegalArgumentException", (hts (.classLink RL 15 "java/lang/IllegalArgumentException") (List.mem_of_getElem? (i := 1) rfl)), hC.d.2.2.2.2.2.1 ("java/lang/IllegalStateException", "java/lang/IllegalArgumentException") (List.mem_of_getElem? (i := 5) (by decide +kernel))⟩; cases hz) (by decide) (by decide) (hts (.classLink RL 18 "java/lang/IllegalStateException") (List.mem_of_getElem? (i := 2) rfl)) (va_Nw.use rfl (hC.2.2.2.2.2.2.2.2.2.2.1 "java/lang/IllegalStateException" (List.mem_of_getElem? (i := 1) rfl))) hcell hv9 hcl ?_
        refine lv_astore (lv' := [(4, .ref q9), (0, .ref aR), (1, .int (iI rgs)), (2, .int (iI nx)), (3, .int (iI ny))]) hx hb dL_addCurve_13 hl (by decide) rfl (fun ls hl => ?_)
        refine x_ldc (v := -900002) hx hb hown (hts (.constant RL 20 (-900002)) (List.mem_of_getElem? (i := 4) rfl)) (by decide) dL_addCurve_15 ?_
        have q_6 : (if acT pn rgs nx ny = 0 then (pn + rgs) else pn) = pn := by
          first
          | (
             first | rfl | (rw [if_pos (by omega)]) | (rw [if_neg (by omega)]) | (rw [if_pos (by omega)]; subst_vars; rfl))
          | fail "q9"
        have q_7 : (if acT pn rgs nx ny = 0 then (fil bx pn (pn + rgs) nx) else bx) = bx := by
          first
          | (
             first | rfl | (rw [if_pos (by omega)]) | (rw [if_neg (by omega)]) | (rw [if_pos (by omega)]; subst_vars; rfl))
          | fail "q9"
        have q_8 : (if acT pn rgs nx ny = 0 then (fil byy pn (pn + rgs) ny) else byy) = byy := by
          first
          | (
             first | rfl | (rw [if_pos (by omega)]) | (rw [if_neg (by omega)]) | (rw [if_pos (by omega)]; subst_vars; rfl))
          | fail "q9"
        have hw_9 := (congr (congr (congrArg (fun (z0 : Int) (z1 : Int → Int) (z2 : Int → Int) => ([(aR, .inr (11, [.ref aG, .ref aP, .ref aH, .ref aY, .ref aT, .ref aS, .ref aF, .ref aX, .int (iI pr), .int (iI tk), .int (iI tol), .int (iI hou)])), (aP, .inr (6, [.ref aPx, .ref aPy, .int (iI z0)])), (aPx, .inl (gI g, 200, .inl (ar z1))), (aPy, .inl (gI g, 200, .inl (ar z2)))] : va_W)) q_6.symm) q_7.symm) q_8.symm)
        rw [hQ9]
        exact x_iret hx hb hr hlocks hP hD hS (S := Unit) rfl dL_addCurve_17 () (by
            first
            | (
               first | (rw [if_pos (by omega)]; first | assumption | (subst_vars; rfl)) | (rw [if_neg (by omega)]; omega))
            | fail "q9") trivial hw_9 (Nat.le_of_ble_eq_true rfl) (Nat.le_of_ble_eq_true rfl)
    · skip
      have hP : va_P (gD g) vwCl [(aR, .inr (11, [.ref aG, .ref aP, .ref aH, .ref aY, .ref aT, .ref aS, .ref aF, .ref aX, .int (iI pr), .int (iI tk), .int (iI tol), .int (iI hou)])), (aP, .inr (6, [.ref aPx, .ref aPy, .int (iI (pn + rgs))])), (aPx, .inl (gI g, 200, .inl (ar (fil bx pn (pn + rgs) nx)))), (aPy, .inl (gI g, 200, .inl (ar (fil byy pn (pn + rgs) ny))))] H := hP
      have hD : va_D A [(aR, .inr (11, [.ref aG, .ref aP, .ref aH, .ref aY, .ref aT, .ref aS, .ref aF, .ref aX, .int (iI pr), .int (iI tk), .int (iI tol), .int (iI hou)])), (aP, .inr (6, [.ref aPx, .ref aPy, .int (iI (pn + rgs))])), (aPx, .inl (gI g, 200, .inl (ar (fil bx pn (pn + rgs) nx)))), (aPy, .inl (gI g, 200, .inl (ar (fil byy pn (pn + rgs) ny))))] := hD
      have hv_1 : v_1 = pn + rgs := hv_1
      obtain ⟨tv_1, pv_1⟩ := pv_1
      have tv_1 : acT pn rgs nx ny = 0 := tv_1
      have q_10 : (if acT pn rgs nx ny = 0 then (pn + rgs) else pn) = (pn + rgs) := by
        first
        | (
           first | rfl | (rw [if_pos (by omega)]) | (rw [if_neg (by omega)]) | (rw [if_pos (by omega)]; subst_vars; rfl))
        | fail "q9"
      have q_11 : (if acT pn rgs nx ny = 0 then (fil bx pn (pn + rgs) nx) else bx) = (fil bx pn (pn + rgs) nx) := by
        first
        | (
           first | rfl | (rw [if_pos (by omega)]) | (rw [if_neg (by omega)]) | (rw [if_pos (by omega)]; subst_vars; rfl))
        | fail "q9"
      have q_12 : (if acT pn rgs nx ny = 0 then (fil byy pn (pn + rgs) ny) else byy) = (fil byy pn (pn + rgs) ny) := by
        first
        | (
           first | rfl | (rw [if_pos (by omega)]) | (rw [if_neg (by omega)]) | (rw [if_pos (by omega)]; subst_vars; rfl))
        | fail "q9"
      have hw_13 := (congr (congr (congrArg (fun (z0 : Int) (z1 : Int → Int) (z2 : Int → Int) => ([(aR, .inr (11, [.ref aG, .ref aP, .ref aH, .ref aY, .ref aT, .ref aS, .ref aF, .ref aX, .int (iI pr), .int (iI tk), .int (iI tol), .int (iI hou)])), (aP, .inr (6, [.ref aPx, .ref aPy, .int (iI z0)])), (aPx, .inl (gI g, 200, .inl (ar z1))), (aPy, .inl (gI g, 200, .inl (ar z2)))] : va_W)) q_10.symm) q_11.symm) q_12.symm)
      rw [hQ9]
      exact x_iret hx hb hr hlocks hP hD hS (S := Unit) rfl dL_addCurve_7 () (by
          first
          | (
             first | (rw [if_pos (by omega)]; first | assumption | (subst_vars; rfl)) | (rw [if_neg (by omega)]; omega))
          | fail "q9") trivial hw_13 (Nat.le_of_ble_eq_true rfl) (Nat.le_of_ble_eq_true rfl)
  rw [hH, hlo, hQ9] at goal_
  exact goal_

set_option maxHeartbeats 4000000 in
set_option maxRecDepth 100000 in
theorem c_L_addHouse (l : Launch) (hflags : l.stackTraces = false) (g : xg) (sz : Nat) (aR aG aP aH aY aT aS aF aX aGn aGw aGs aHf aHl aHm aHr aHp : Nat) (pr tk tol hou kn bu fr lr nl nr : Int) (fi la li ra : Int → Int) (hkn : 0 ≤ kn ∧ kn ≤ 200) (hbu : 0 ≤ bu ∧ bu ≤ 8) (hr_fr : iR fr) (hr_lr : iR lr) (hr_nl : iR nl) (hr_nr : iR nr) : Met l yL_addHouse wsL_addHouse { frames := 8, cells := 5, slots := 30, locals := 138 } (va_Pc [.ref aR, .int (iI fr), .int (iI lr), .int (iI nl), .int (iI nr)] (xB g [(aR, .inr (11, [.ref aG, .ref aP, .ref aH, .ref aY, .ref aT, .ref aS, .ref aF, .ref aX, .int (iI pr), .int (iI tk), .int (iI tol), .int (iI hou)])), (aG, .inr (4, [.ref aGn, .ref aGw, .ref aGs, .int (iI kn)])), (aH, .inr (5, [.ref aHf, .ref aHl, .ref aHm, .ref aHr, .ref aHp, .int (iI bu)])), (aHf, .inl (gI g, 8, .inl (ar fi))), (aHl, .inl (gI g, 8, .inl (ar la))), (aHm, .inl (gI g, 8, .inl (ar li))), (aHr, .inl (gI g, 8, .inl (ar ra)))] sz)) (va_Qi (fun r u => r = iI ((fun (u : Unit) => (if ahT kn bu fr lr nl nr = 0 then bu else -900000 - ahT kn bu fr lr nl nr)) u) ∧ (fun (u : Unit) => True) u) (fun u t => xE g (va_A [(aR, .inr (11, [.ref aG, .ref aP, .ref aH, .ref aY, .ref aT, .ref aS, .ref aF, .ref aX, .int (iI pr), .int (iI tk), .int (iI tol), .int (iI hou)])), (aG, .inr (4, [.ref aGn, .ref aGw, .ref aGs, .int (iI kn)])), (aH, .inr (5, [.ref aHf, .ref aHl, .ref aHm, .ref aHr, .ref aHp, .int (iI bu)])), (aHf, .inl (gI g, 8, .inl (ar fi))), (aHl, .inl (gI g, 8, .inl (ar la))), (aHm, .inl (gI g, 8, .inl (ar li))), (aHr, .inl (gI g, 8, .inl (ar ra)))] sz) ((fun (u : Unit) => [(aR, .inr (11, [.ref aG, .ref aP, .ref aH, .ref aY, .ref aT, .ref aS, .ref aF, .ref aX, .int (iI pr), .int (iI tk), .int (iI tol), .int (iI hou)])), (aG, .inr (4, [.ref aGn, .ref aGw, .ref aGs, .int (iI kn)])), (aH, .inr (5, [.ref aHf, .ref aHl, .ref aHm, .ref aHr, .ref aHp, .int (iI (if ahT kn bu fr lr nl nr = 0 then (bu + 1) else bu))])), (aHf, .inl (gI g, 8, .inl (ar (if ahT kn bu fr lr nl nr = 0 then (up fi bu fr) else fi)))), (aHl, .inl (gI g, 8, .inl (ar (if ahT kn bu fr lr nl nr = 0 then (up la bu lr) else la)))), (aHm, .inl (gI g, 8, .inl (ar (if ahT kn bu fr lr nl nr = 0 then (up li bu nl) else li)))), (aHr, .inl (gI g, 8, .inl (ar (if ahT kn bu fr lr nl nr = 0 then (up ra bu nr) else ra))))]) u) t) (va_A [(aR, .inr (11, [.ref aG, .ref aP, .ref aH, .ref aY, .ref aT, .ref aS, .ref aF, .ref aX, .int (iI pr), .int (iI tk), .int (iI tol), .int (iI hou)])), (aG, .inr (4, [.ref aGn, .ref aGw, .ref aGs, .int (iI kn)])), (aH, .inr (5, [.ref aHf, .ref aHl, .ref aHm, .ref aHr, .ref aHp, .int (iI bu)])), (aHf, .inl (gI g, 8, .inl (ar fi))), (aHl, .inl (gI g, 8, .inl (ar la))), (aHm, .inl (gI g, 8, .inl (ar li))), (aHr, .inl (gI g, 8, .inl (ar ra)))] sz)) 5 30 (va_A [(aR, .inr (11, [.ref aG, .ref aP, .ref aH, .ref aY, .ref aT, .ref aS, .ref aF, .ref aX, .int (iI pr), .int (iI tk), .int (iI tol), .int (iI hou)])), (aG, .inr (4, [.ref aGn, .ref aGw, .ref aGs, .int (iI kn)])), (aH, .inr (5, [.ref aHf, .ref aHl, .ref aHm, .ref aHr, .ref aHp, .int (iI bu)])), (aHf, .inl (gI g, 8, .inl (ar fi))), (aHl, .inl (gI g, 8, .inl (ar la))), (aHm, .inl (gI g, 8, .inl (ar li))), (aHr, .inl (gI g, 8, .inl (ar ra)))] sz) := by
  refine x_enterH (y := yL_addHouse) (ws := wsL_addHouse) (g := g) (sz := sz) (av := [.ref aR, .int (iI fr), .int (iI lr), .int (iI nl), .int (iI nr)]) (WS := [(aR, .inr (11, [.ref aG, .ref aP, .ref aH, .ref aY, .ref aT, .ref aS, .ref aF, .ref aX, .int (iI pr), .int (iI tk), .int (iI tol), .int (iI hou)])), (aG, .inr (4, [.ref aGn, .ref aGw, .ref aGs, .int (iI kn)])), (aH, .inr (5, [.ref aHf, .ref aHl, .ref aHm, .ref aHr, .ref aHp, .int (iI bu)])), (aHf, .inl (gI g, 8, .inl (ar fi))), (aHl, .inl (gI g, 8, .inl (ar la))), (aHm, .inl (gI g, 8, .inl (ar li))), (aHr, .inl (gI g, 8, .inl (ar ra)))]) (cc := cL_addHouse) (maxL := 6) (ret := some .int) (Qc := (fun A => (va_Qi (fun r u => r = iI ((fun (u : Unit) => (if ahT kn bu fr lr nl nr = 0 then bu else -900000 - ahT kn bu fr lr nl nr)) u) ∧ (fun (u : Unit) => True) u) (fun u t => xE g A ((fun (u : Unit) => [(aR, .inr (11, [.ref aG, .ref aP, .ref aH, .ref aY, .ref aT, .ref aS, .ref aF, .ref aX, .int (iI pr), .int (iI tk), .int (iI tol), .int (iI hou)])), (aG, .inr (4, [.ref aGn, .ref aGw, .ref aGs, .int (iI kn)])), (aH, .inr (5, [.ref aHf, .ref aHl, .ref aHm, .ref aHr, .ref aHp, .int (iI (if ahT kn bu fr lr nl nr = 0 then (bu + 1) else bu))])), (aHf, .inl (gI g, 8, .inl (ar (if ahT kn bu fr lr nl nr = 0 then (up fi bu fr) else fi)))), (aHl, .inl (gI g, 8, .inl (ar (if ahT kn bu fr lr nl nr = 0 then (up la bu lr) else la)))), (aHm, .inl (gI g, 8, .inl (ar (if ahT kn bu fr lr nl nr = 0 then (up li bu nl) else li)))), (aHr, .inl (gI g, 8, .inl (ar (if ahT kn bu fr lr nl nr = 0 then (up ra bu nr) else ra))))]) u) t) A))) (by decide) rfl (Nat.le_of_ble_eq_true rfl) ?_
  intro p e s m args below meth c A ls hx hb hr hml hown hts hlocks htab hC hP hD hS hA hl
  have hK := hC.1
  have hown : s.vm.findClass RL = some m.cls := hown
  have hl : lv_has ls 6 [(0, .ref aR), (1, .int (iI fr)), (2, .int (iI lr)), (3, .int (iI nl)), (4, .int (iI nr))] := hl
  obtain ⟨H, hH⟩ : ∃ z, z = s.heap := ⟨_, rfl⟩
  obtain ⟨locs, hlo⟩ : ∃ z : List Loc, z = [] := ⟨_, rfl⟩
  obtain ⟨Q9, hQ9⟩ : ∃ z, z = MQ below (va_Qi (fun r u => r = iI ((fun (u : Unit) => (if ahT kn bu fr lr nl nr = 0 then bu else -900000 - ahT kn bu fr lr nl nr)) u) ∧ (fun (u : Unit) => True) u) (fun u t => xE g A ((fun (u : Unit) => [(aR, .inr (11, [.ref aG, .ref aP, .ref aH, .ref aY, .ref aT, .ref aS, .ref aF, .ref aX, .int (iI pr), .int (iI tk), .int (iI tol), .int (iI hou)])), (aG, .inr (4, [.ref aGn, .ref aGw, .ref aGs, .int (iI kn)])), (aH, .inr (5, [.ref aHf, .ref aHl, .ref aHm, .ref aHr, .ref aHp, .int (iI (if ahT kn bu fr lr nl nr = 0 then (bu + 1) else bu))])), (aHf, .inl (gI g, 8, .inl (ar (if ahT kn bu fr lr nl nr = 0 then (up fi bu fr) else fi)))), (aHl, .inl (gI g, 8, .inl (ar (if ahT kn bu fr lr nl nr = 0 then (up la bu lr) else la)))), (aHm, .inl (gI g, 8, .inl (ar (if ahT kn bu fr lr nl nr = 0 then (up li bu nl) else li)))), (aHr, .inl (gI g, 8, .inl (ar (if ahT kn bu fr lr nl nr = 0 then (up ra bu nr) else ra))))]) u) t) A) args s 5 30 A := ⟨_, rfl⟩
  have hP : va_P (gD g) vwCl [(aR, .inr (11, [.ref aG, .ref aP, .ref aH, .ref aY, .ref aT, .ref aS, .ref aF, .ref aX, .int (iI pr), .int (iI tk), .int (iI tol), .int (iI hou)])), (aG, .inr (4, [.ref aGn, .ref aGw, .ref aGs, .int (iI kn)])), (aH, .inr (5, [.ref aHf, .ref aHl, .ref aHm, .ref aHr, .ref aHp, .int (iI bu)])), (aHf, .inl (gI g, 8, .inl (ar fi))), (aHl, .inl (gI g, 8, .inl (ar la))), (aHm, .inl (gI g, 8, .inl (ar li))), (aHr, .inl (gI g, 8, .inl (ar ra)))] H := by rw [hH]; exact hP
  have hS : va_S A s.heap H locs := by rw [hH, hlo]; exact hS
  have goal_ : W p l e { frames := 8, cells := 5, slots := 30, locals := 138 } s m args below meth c H locs 0 0 Q9 (F0 m 0 ls []) := by
    clear hH hlo
    refine lv_aload_n hx hb dL_addHouse_0 rfl (lv_at hl 0 rfl) ?_
    refine lv_iload_n hx hb dL_addHouse_1 rfl (lv_at hl 1 rfl) ?_
    refine lv_iload_n hx hb dL_addHouse_2 rfl (lv_at hl 2 rfl) ?_
    refine lv_iload_n hx hb dL_addHouse_3 rfl (lv_at hl 3 rfl) ?_
    refine lv_iload hx hb dL_addHouse_4 (lv_at hl 4 rfl) ?_
    refine x_calliX (S := Unit) (SX := Unit) (wc := [(aR, .inr (11, [.ref aG, .ref aP, .ref aH, .ref aY, .ref aT, .ref aS, .ref aF, .ref aX, .int (iI pr), .int (iI tk), .int (iI tol), .int (iI hou)])), (aG, .inr (4, [.ref aGn, .ref aGw, .ref aGs, .int (iI kn)])), (aH, .inr (5, [.ref aHf, .ref aHl, .ref aHm, .ref aHr, .ref aHp, .int (iI bu)])), (aHf, .inl (gI g, 8, .inl (ar fi))), (aHl, .inl (gI g, 8, .inl (ar la))), (aHm, .inl (gI g, 8, .inl (ar li))), (aHr, .inl (gI g, 8, .inl (ar ra)))]) (wr := []) hC hP hD hS hA [0, 1, 2, 3, 4, 5, 6] [] [0, 1, 2, 3, 4, 5, 6] rfl rfl (fun hpre => vx_runV (As := [.int (iI fr), .int (iI lr), .int (iI nl), .int (iI nr)]) (rest := []) ⟨hx, hb, hml, hown, hts⟩ (c_X8_addHouse l hflags g H.size aR aG aP aH aY aT aS aF aX aGn aGw aGs aHf aHl aHm aHr aHp pr tk tol hou kn bu fr lr nl nr fi la li ra (by first | (first | assumption | omega | exact bnd_up (by assumption) (by omega) (by omega)) | fail "q8") (by first | (first | assumption | omega | exact bnd_up (by assumption) (by omega) (by omega)) | fail "q8") (by first | (first | assumption | omega | exact bnd_up (by assumption) (by omega) (by omega)) | fail "q8") (by first | (first | assumption | omega | exact bnd_up (by assumption) (by omega) (by omega)) | fail "q8") (by first | (first | assumption | omega | exact bnd_up (by assumption) (by omega) (by omega)) | fail "q8") (by first | (first | assumption | omega | exact bnd_up (by assumption) (by omega) (by omega)) | fail "q8")) (cwV 4 hts gL_addHouse_X8_addHouse rfl rfl rfl (by decide +kernel) ⟨Nat.le_of_ble_eq_true rfl, Nat.le_of_ble_eq_true rfl⟩) ⟨xB_blind, va_recv hK hP (ci := 11) (q0 := 0) rfl rfl, hpre _⟩ rfl rfl hl.1 rfl (lv_room (Nat.le_of_ble_eq_true rfl)) dL_addHouse_6 ⟨Nat.le_of_ble_eq_true rfl, Nat.le_of_ble_eq_true rfl⟩) (fun (u : Unit) => [(aR, .inr (11, [.ref aG, .ref aP, .ref aH, .ref aY, .ref aT, .ref aS, .ref aF, .ref aX, .int (iI pr), .int (iI tk), .int (iI tol), .int (iI hou)])), (aG, .inr (4, [.ref aGn, .ref aGw, .ref aGs, .int (iI kn)])), (aH, .inr (5, [.ref aHf, .ref aHl, .ref aHm, .ref aHr, .ref aHp, .int (iI (bu + 1))])), (aHf, .inl (gI g, 8, .inl (ar (up fi bu fr)))), (aHl, .inl (gI g, 8, .inl (ar (up la bu lr)))), (aHm, .inl (gI g, 8, .inl (ar (up li bu nl)))), (aHr, .inl (gI g, 8, .inl (ar (up ra bu nr))))]) (fun (u : Unit) => ([(aR, .inr (11, [.ref aG, .ref aP, .ref aH, .ref aY, .ref aT, .ref aS, .ref aF, .ref aX, .int (iI pr), .int (iI tk), .int (iI tol), .int (iI hou)])), (aG, .inr (4, [.ref aGn, .ref aGw, .ref aGs, .int (iI kn)])), (aH, .inr (5, [.ref aHf, .ref aHl, .ref aHm, .ref aHr, .ref aHp, .int (iI bu)])), (aHf, .inl (gI g, 8, .inl (ar fi))), (aHl, .inl (gI g, 8, .inl (ar la))), (aHm, .inl (gI g, 8, .inl (ar li))), (aHr, .inl (gI g, 8, .inl (ar ra)))] : va_W)) rfl rfl (by decide) (fun _ => rfl) (fun _ => rfl) rfl (fun E ce q9 u H locs hXP hPX hP hD hS hcell hv9 hcl => ?_) (fun u v_1 H locs hv_1 pv_1 hP hD hS => ?_)
    · skip
      have hP : va_P (gD g) vwCl [(aR, .inr (11, [.ref aG, .ref aP, .ref aH, .ref aY, .ref aT, .ref aS, .ref aF, .ref aX, .int (iI pr), .int (iI tk), .int (iI tol), .int (iI hou)])), (aG, .inr (4, [.ref aGn, .ref aGw, .ref aGs, .int (iI kn)])), (aH, .inr (5, [.ref aHf, .ref aHl, .ref aHm, .ref aHr, .ref aHp, .int (iI bu)])), (aHf, .inl (gI g, 8, .inl (ar fi))), (aHl, .inl (gI g, 8, .inl (ar la))), (aHm, .inl (gI g, 8, .inl (ar li))), (aHr, .inl (gI g, 8, .inl (ar ra)))] H := hP
      have hD : va_D A [(aR, .inr (11, [.ref aG, .ref aP, .ref aH, .ref aY, .ref aT, .ref aS, .ref aF, .ref aX, .int (iI pr), .int (iI tk), .int (iI tol), .int (iI hou)])), (aG, .inr (4, [.ref aGn, .ref aGw, .ref aGs, .int (iI kn)])), (aH, .inr (5, [.ref aHf, .ref aHl, .ref aHm, .ref aHr, .ref aHp, .int (iI bu)])), (aHf, .inl (gI g, 8, .inl (ar fi))), (aHl, .inl (gI g, 8, .inl (ar la))), (aHm, .inl (gI g, 8, .inl (ar li))), (aHr, .inl (gI g, 8, .inl (ar ra)))] := hD
      rcases hPX with ⟨hE, hp⟩ | ⟨hE, hp⟩ | ⟨hE, hp⟩
      · skip
        have hp : ahT kn bu fr lr nl nr = 1 := hp
        subst hE
        refine vx_catch (E := "java/lang/IndexOutOfBoundsException") (name := "java/lang/IndexOutOfBoundsException") hown [] ⟨0, 9, 10, 28⟩ [⟨0, 9, 15, 15⟩, ⟨0, 9, 20, 18⟩] (by rw [htab]; rfl) (fun z hz => by cases hz) (by decide) (by decide) (hts (.classLink RL 28 "java/lang/IndexOutOfBoundsException") (List.mem_of_getElem? (i := 1) rfl)) (va_Nw.use rfl (hC.2.2.2.2.2.2.2.2.2.2.1 "java/lang/IndexOutOfBoundsException" (List.mem_of_getElem? (i := 2) rfl))) hcell hv9 hcl ?_
        refine lv_astore (lv' := [(5, .ref q9), (0, .ref aR), (1, .int (iI fr)), (2, .int (iI lr)), (3, .int (iI nl)), (4, .int (iI nr))]) hx hb dL_addHouse_10 hl (by decide) rfl (fun ls hl => ?_)
        refine x_ldc (v := -900001) hx hb hown (hts (.constant RL 17 (-900001)) (List.mem_of_getElem? (i := 4) rfl)) (by decide) dL_addHouse_12 ?_
        have q_2 : (if ahT kn bu fr lr nl nr = 0 then (bu + 1) else bu) = bu := by
          first
          | (
             first | rfl | (rw [if_pos (by omega)]) | (rw [if_neg (by omega)]) | (rw [if_pos (by omega)]; subst_vars; rfl))
          | fail "q9"
        have q_3 : (if ahT kn bu fr lr nl nr = 0 then (up fi bu fr) else fi) = fi := by
          first
          | (
             first | rfl | (rw [if_pos (by omega)]) | (rw [if_neg (by omega)]) | (rw [if_pos (by omega)]; subst_vars; rfl))
          | fail "q9"
        have q_4 : (if ahT kn bu fr lr nl nr = 0 then (up la bu lr) else la) = la := by
          first
          | (
             first | rfl | (rw [if_pos (by omega)]) | (rw [if_neg (by omega)]) | (rw [if_pos (by omega)]; subst_vars; rfl))
          | fail "q9"
        have q_5 : (if ahT kn bu fr lr nl nr = 0 then (up li bu nl) else li) = li := by
          first
          | (
             first | rfl | (rw [if_pos (by omega)]) | (rw [if_neg (by omega)]) | (rw [if_pos (by omega)]; subst_vars; rfl))
          | fail "q9"
        have q_6 : (if ahT kn bu fr lr nl nr = 0 then (up ra bu nr) else ra) = ra := by
          first
          | (
             first | rfl | (rw [if_pos (by omega)]) | (rw [if_neg (by omega)]) | (rw [if_pos (by omega)]; subst_vars; rfl))
          | fail "q9"
        have hw_7 := (congr (congr (congr (congr (congrArg (fun (z0 : Int) (z1 : Int → Int) (z2 : Int → Int) (z3 : Int → Int) (z4 : Int → Int) => ([(aR, .inr (11, [.ref aG, .ref aP, .ref aH, .ref aY, .ref aT, .ref aS, .ref aF, .ref aX, .int (iI pr), .int (iI tk), .int (iI tol), .int (iI hou)])), (aG, .inr (4, [.ref aGn, .ref aGw, .ref aGs, .int (iI kn)])), (aH, .inr (5, [.ref aHf, .ref aHl, .ref aHm, .ref aHr, .ref aHp, .int (iI z0)])), (aHf, .inl (gI g, 8, .inl (ar z1))), (aHl, .inl (gI g, 8, .inl (ar z2))), (aHm, .inl (gI g, 8, .inl (ar z3))), (aHr, .inl (gI g, 8, .inl (ar z4)))] : va_W)) q_2.symm) q_3.symm) q_4.symm) q_5.symm) q_6.symm)
        rw [hQ9]
        exact x_iret hx hb hr hlocks hP hD hS (S := Unit) rfl dL_addHouse_14 () (by
            first
            | (
               first | (rw [if_pos (by omega)]; first | assumption | (subst_vars; rfl)) | (rw [if_neg (by omega)]; omega))
            | fail "q9") trivial hw_7 (Nat.le_of_ble_eq_true rfl) (Nat.le_of_ble_eq_true rfl)
      · skip
        have hp : ahT kn bu fr lr nl nr = 2 := hp
        subst hE
        refine vx_catch (E := "java/lang/IllegalArgumentException") (name := "java/lang/IllegalArgumentException") hown [⟨0, 9, 10, 28⟩] ⟨0, 9, 15, 15⟩ [⟨0, 9, 20, 18⟩] (by rw [htab]; rfl) (fun z hz => by rcases List.mem_cons.mp hz with rfl | hz; exact Or.inr ⟨by decide, "java/lang/IndexOutOfBoundsException", (hts (.classLink RL 28 "java/lang/IndexOutOfBoundsException") (List.mem_of_getElem? (i := 1) rfl)), hC.d.2.2.2.2.2.1 ("java/lang/IllegalArgumentException", "java/lang/IndexOutOfBoundsException") (List.mem_of_getElem? (i := 1) (by decide +kernel))⟩; cases hz) (by decide) (by decide) (hts (.classLink RL 15 "java/lang/IllegalArgumentException") (List.mem_of_getElem? (i := 2) rfl)) (va_Nw.use rfl (hC.2.2.2.2.2.2.2.2.2.2.1 "java/lang/IllegalArgumentException" (List.mem_of_getElem? (i := 0) rfl))) hcell hv9 hcl ?_
        refine lv_astore (lv' := [(5, .ref q9), (0, .ref aR), (1, .int (iI fr)), (2, .int (iI lr)), (3, .int (iI nl)), (4, .int (iI nr))]) hx hb dL_addHouse_15 hl (by decide) rfl (fun ls hl => ?_)
        refine x_ldc (v := -900002) hx hb hown (hts (.constant RL 20 (-900002)) (List.mem_of_getElem? (i := 5) rfl)) (by decide) dL_addHouse_17 ?_
        have q_8 : (if ahT kn bu fr lr nl nr = 0 then (bu + 1) else bu) = bu := by
          first
          | (
             first | rfl | (rw [if_pos (by omega)]) | (rw [if_neg (by omega)]) | (rw [if_pos (by omega)]; subst_vars; rfl))
          | fail "q9"
        have q_9 : (if ahT kn bu fr lr nl nr = 0 then (up fi bu fr) else fi) = fi := by
          first
          | (
             first | rfl | (rw [if_pos (by omega)]) | (rw [if_neg (by omega)]) | (rw [if_pos (by omega)]; subst_vars; rfl))
          | fail "q9"
        have q_10 : (if ahT kn bu fr lr nl nr = 0 then (up la bu lr) else la) = la := by
          first
          | (
             first | rfl | (rw [if_pos (by omega)]) | (rw [if_neg (by omega)]) | (rw [if_pos (by omega)]; subst_vars; rfl))
          | fail "q9"
        have q_11 : (if ahT kn bu fr lr nl nr = 0 then (up li bu nl) else li) = li := by
          first
          | (
             first | rfl | (rw [if_pos (by omega)]) | (rw [if_neg (by omega)]) | (rw [if_pos (by omega)]; subst_vars; rfl))
          | fail "q9"
        have q_12 : (if ahT kn bu fr lr nl nr = 0 then (up ra bu nr) else ra) = ra := by
          first
          | (
             first | rfl | (rw [if_pos (by omega)]) | (rw [if_neg (by omega)]) | (rw [if_pos (by omega)]; subst_vars; rfl))
          | fail "q9"
        have hw_13 := (congr (congr (congr (congr (congrArg (fun (z0 : Int) (z1 : Int → Int) (z2 : Int → Int) (z3 : Int → Int) (z4 : Int → Int) => ([(aR, .inr (11, [.ref aG, .ref aP, .ref aH, .ref aY, .ref aT, .ref aS, .ref aF, .ref aX, .int (iI pr), .int (iI tk), .int (iI tol), .int (iI hou)])), (aG, .inr (4, [.ref aGn, .ref aGw, .ref aGs, .int (iI kn)])), (aH, .inr (5, [.ref aHf, .ref aHl, .ref aHm, .ref aHr, .ref aHp, .int (iI z0)])), (aHf, .inl (gI g, 8, .inl (ar z1))), (aHl, .inl (gI g, 8, .inl (ar z2))), (aHm, .inl (gI g, 8, .inl (ar z3))), (aHr, .inl (gI g, 8, .inl (ar z4)))] : va_W)) q_8.symm) q_9.symm) q_10.symm) q_11.symm) q_12.symm)
        rw [hQ9]
        exact x_iret hx hb hr hlocks hP hD hS (S := Unit) rfl dL_addHouse_19 () (by
            first
            | (
               first | (rw [if_pos (by omega)]; first | assumption | (subst_vars; rfl)) | (rw [if_neg (by omega)]; omega))
            | fail "q9") trivial hw_13 (Nat.le_of_ble_eq_true rfl) (Nat.le_of_ble_eq_true rfl)
      · skip
        have hp : ahT kn bu fr lr nl nr = 3 := hp
        subst hE
        refine vx_catch (E := "java/lang/IllegalStateException") (name := "java/lang/IllegalStateException") hown [⟨0, 9, 10, 28⟩, ⟨0, 9, 15, 15⟩] ⟨0, 9, 20, 18⟩ [] (by rw [htab]; rfl) (fun z hz => by rcases List.mem_cons.mp hz with rfl | hz; exact Or.inr ⟨by decide, "java/lang/IndexOutOfBoundsException", (hts (.classLink RL 28 "java/lang/IndexOutOfBoundsException") (List.mem_of_getElem? (i := 1) rfl)), hC.d.2.2.2.2.2.1 ("java/lang/IllegalStateException", "java/lang/IndexOutOfBoundsException") (List.mem_of_getElem? (i := 6) (by decide +kernel))⟩; rcases List.mem_cons.mp hz with rfl | hz; exact Or.inr ⟨by decide, "java/lang/IllegalArgumentException", (hts (.classLink RL 15 "java/lang/IllegalArgumentException") (List.mem_of_getElem? (i := 2) rfl)), hC.d.2.2.2.2.2.1 ("java/lang/IllegalStateException", "java/lang/IllegalArgumentException") (List.mem_of_getElem? (i := 5) (by decide +kernel))⟩; cases hz) (by decide) (by decide) (hts (.classLink RL 18 "java/lang/IllegalStateException") (List.mem_of_getElem? (i := 3) rfl)) (va_Nw.use rfl (hC.2.2.2.2.2.2.2.2.2.2.1 "java/lang/IllegalStateException" (List.mem_of_getElem? (i := 1) rfl))) hcell hv9 hcl ?_
        refine lv_astore (lv' := [(5, .ref q9), (0, .ref aR), (1, .int (iI fr)), (2, .int (iI lr)), (3, .int (iI nl)), (4, .int (iI nr))]) hx hb dL_addHouse_20 hl (by decide) rfl (fun ls hl => ?_)
        refine x_ldc (v := -900003) hx hb hown (hts (.constant RL 30 (-900003)) (List.mem_of_getElem? (i := 6) rfl)) (by decide) dL_addHouse_22 ?_
        have q_14 : (if ahT kn bu fr lr nl nr = 0 then (bu + 1) else bu) = bu := by
          first
          | (
             first | rfl | (rw [if_pos (by omega)]) | (rw [if_neg (by omega)]) | (rw [if_pos (by omega)]; subst_vars; rfl))
          | fail "q9"
        have q_15 : (if ahT kn bu fr lr nl nr = 0 then (up fi bu fr) else fi) = fi := by
          first
          | (
             first | rfl | (rw [if_pos (by omega)]) | (rw [if_neg (by omega)]) | (rw [if_pos (by omega)]; subst_vars; rfl))
          | fail "q9"
        have q_16 : (if ahT kn bu fr lr nl nr = 0 then (up la bu lr) else la) = la := by
          first
          | (
             first | rfl | (rw [if_pos (by omega)]) | (rw [if_neg (by omega)]) | (rw [if_pos (by omega)]; subst_vars; rfl))
          | fail "q9"
        have q_17 : (if ahT kn bu fr lr nl nr = 0 then (up li bu nl) else li) = li := by
          first
          | (
             first | rfl | (rw [if_pos (by omega)]) | (rw [if_neg (by omega)]) | (rw [if_pos (by omega)]; subst_vars; rfl))
          | fail "q9"
        have q_18 : (if ahT kn bu fr lr nl nr = 0 then (up ra bu nr) else ra) = ra := by
          first
          | (
             first | rfl | (rw [if_pos (by omega)]) | (rw [if_neg (by omega)]) | (rw [if_pos (by omega)]; subst_vars; rfl))
          | fail "q9"
        have hw_19 := (congr (congr (congr (congr (congrArg (fun (z0 : Int) (z1 : Int → Int) (z2 : Int → Int) (z3 : Int → Int) (z4 : Int → Int) => ([(aR, .inr (11, [.ref aG, .ref aP, .ref aH, .ref aY, .ref aT, .ref aS, .ref aF, .ref aX, .int (iI pr), .int (iI tk), .int (iI tol), .int (iI hou)])), (aG, .inr (4, [.ref aGn, .ref aGw, .ref aGs, .int (iI kn)])), (aH, .inr (5, [.ref aHf, .ref aHl, .ref aHm, .ref aHr, .ref aHp, .int (iI z0)])), (aHf, .inl (gI g, 8, .inl (ar z1))), (aHl, .inl (gI g, 8, .inl (ar z2))), (aHm, .inl (gI g, 8, .inl (ar z3))), (aHr, .inl (gI g, 8, .inl (ar z4)))] : va_W)) q_14.symm) q_15.symm) q_16.symm) q_17.symm) q_18.symm)
        rw [hQ9]
        exact x_iret hx hb hr hlocks hP hD hS (S := Unit) rfl dL_addHouse_24 () (by
            first
            | (
               first | (rw [if_pos (by omega)]; first | assumption | (subst_vars; rfl)) | (rw [if_neg (by omega)]; omega))
            | fail "q9") trivial hw_19 (Nat.le_of_ble_eq_true rfl) (Nat.le_of_ble_eq_true rfl)
    · skip
      have hP : va_P (gD g) vwCl [(aR, .inr (11, [.ref aG, .ref aP, .ref aH, .ref aY, .ref aT, .ref aS, .ref aF, .ref aX, .int (iI pr), .int (iI tk), .int (iI tol), .int (iI hou)])), (aG, .inr (4, [.ref aGn, .ref aGw, .ref aGs, .int (iI kn)])), (aH, .inr (5, [.ref aHf, .ref aHl, .ref aHm, .ref aHr, .ref aHp, .int (iI (bu + 1))])), (aHf, .inl (gI g, 8, .inl (ar (up fi bu fr)))), (aHl, .inl (gI g, 8, .inl (ar (up la bu lr)))), (aHm, .inl (gI g, 8, .inl (ar (up li bu nl)))), (aHr, .inl (gI g, 8, .inl (ar (up ra bu nr))))] H := hP
      have hD : va_D A [(aR, .inr (11, [.ref aG, .ref aP, .ref aH, .ref aY, .ref aT, .ref aS, .ref aF, .ref aX, .int (iI pr), .int (iI tk), .int (iI tol), .int (iI hou)])), (aG, .inr (4, [.ref aGn, .ref aGw, .ref aGs, .int (iI kn)])), (aH, .inr (5, [.ref aHf, .ref aHl, .ref aHm, .ref aHr, .ref aHp, .int (iI (bu + 1))])), (aHf, .inl (gI g, 8, .inl (ar (up fi bu fr)))), (aHl, .inl (gI g, 8, .inl (ar (up la bu lr)))), (aHm, .inl (gI g, 8, .inl (ar (up li bu nl)))), (aHr, .inl (gI g, 8, .inl (ar (up ra bu nr))))] := hD
      have hv_1 : v_1 = bu := hv_1
      obtain ⟨tv_1, pv_1⟩ := pv_1
      have tv_1 : ahT kn bu fr lr nl nr = 0 := tv_1
      have q_20 : (if ahT kn bu fr lr nl nr = 0 then (bu + 1) else bu) = (bu + 1) := by
        first
        | (
           first | rfl | (rw [if_pos (by omega)]) | (rw [if_neg (by omega)]) | (rw [if_pos (by omega)]; subst_vars; rfl))
        | fail "q9"
      have q_21 : (if ahT kn bu fr lr nl nr = 0 then (up fi bu fr) else fi) = (up fi bu fr) := by
        first
        | (
           first | rfl | (rw [if_pos (by omega)]) | (rw [if_neg (by omega)]) | (rw [if_pos (by omega)]; subst_vars; rfl))
        | fail "q9"
      have q_22 : (if ahT kn bu fr lr nl nr = 0 then (up la bu lr) else la) = (up la bu lr) := by
        first
        | (
           first | rfl | (rw [if_pos (by omega)]) | (rw [if_neg (by omega)]) | (rw [if_pos (by omega)]; subst_vars; rfl))
        | fail "q9"
      have q_23 : (if ahT kn bu fr lr nl nr = 0 then (up li bu nl) else li) = (up li bu nl) := by
        first
        | (
           first | rfl | (rw [if_pos (by omega)]) | (rw [if_neg (by omega)]) | (rw [if_pos (by omega)]; subst_vars; rfl))
        | fail "q9"
      have q_24 : (if ahT kn bu fr lr nl nr = 0 then (up ra bu nr) else ra) = (up ra bu nr) := by
        first
        | (
           first | rfl | (rw [if_pos (by omega)]) | (rw [if_neg (by omega)]) | (rw [if_pos (by omega)]; subst_vars; rfl))
        | fail "q9"
      have hw_25 := (congr (congr (congr (congr (congrArg (fun (z0 : Int) (z1 : Int → Int) (z2 : Int → Int) (z3 : Int → Int) (z4 : Int → Int) => ([(aR, .inr (11, [.ref aG, .ref aP, .ref aH, .ref aY, .ref aT, .ref aS, .ref aF, .ref aX, .int (iI pr), .int (iI tk), .int (iI tol), .int (iI hou)])), (aG, .inr (4, [.ref aGn, .ref aGw, .ref aGs, .int (iI kn)])), (aH, .inr (5, [.ref aHf, .ref aHl, .ref aHm, .ref aHr, .ref aHp, .int (iI z0)])), (aHf, .inl (gI g, 8, .inl (ar z1))), (aHl, .inl (gI g, 8, .inl (ar z2))), (aHm, .inl (gI g, 8, .inl (ar z3))), (aHr, .inl (gI g, 8, .inl (ar z4)))] : va_W)) q_20.symm) q_21.symm) q_22.symm) q_23.symm) q_24.symm)
      rw [hQ9]
      exact x_iret hx hb hr hlocks hP hD hS (S := Unit) rfl dL_addHouse_9 () (by
          first
          | (
             first | (rw [if_pos (by omega)]; first | assumption | (subst_vars; rfl)) | (rw [if_neg (by omega)]; omega))
          | fail "q9") trivial hw_25 (Nat.le_of_ble_eq_true rfl) (Nat.le_of_ble_eq_true rfl)
  rw [hH, hlo, hQ9] at goal_
  exact goal_

set_option maxHeartbeats 4000000 in
set_option maxRecDepth 100000 in
theorem c_L_cast (l : Launch) (hflags : l.stackTraces = false) (g : xg) (sz : Nat) (aR aG aP aH aY aT aS aF aX aYh aYt aYc : Nat) (pr tk tol hou sta nt : Int) (ht yt yc : Int → Int) (hb_ht : bnd ht 0 12) (hhou : 0 ≤ hou ∧ hou ≤ 5000) (hr_sta : iR sta) (hr_nt : iR nt) : Met l yL_cast wsL_cast { frames := 8, cells := 3, slots := 18, locals := 136 } (va_Pc [.ref aR, .int (iI sta), .int (iI nt)] (xB g [(aR, .inr (11, [.ref aG, .ref aP, .ref aH, .ref aY, .ref aT, .ref aS, .ref aF, .ref aX, .int (iI pr), .int (iI tk), .int (iI tol), .int (iI hou)])), (aY, .inr (10, [.ref aYh, .ref aYt, .ref aYc])), (aYh, .inl (gI g, 3, .inl (ar ht))), (aYt, .inl (gI g, 36, .inl (ar yt))), (aYc, .inl (gI g, 36, .inl (ar yc)))] sz)) (va_Qi (fun r u => r = iI ((fun (u : Unit) => (if caT ht sta nt = 0 then ht sta + 1 else -900000 - caT ht sta nt)) u) ∧ (fun (u : Unit) => True) u) (fun u t => xE g (va_A [(aR, .inr (11, [.ref aG, .ref aP, .ref aH, .ref aY, .ref aT, .ref aS, .ref aF, .ref aX, .int (iI pr), .int (iI tk), .int (iI tol), .int (iI hou)])), (aY, .inr (10, [.ref aYh, .ref aYt, .ref aYc])), (aYh, .inl (gI g, 3, .inl (ar ht))), (aYt, .inl (gI g, 36, .inl (ar yt))), (aYc, .inl (gI g, 36, .inl (ar yc)))] sz) ((fun (u : Unit) => [(aR, .inr (11, [.ref aG, .ref aP, .ref aH, .ref aY, .ref aT, .ref aS, .ref aF, .ref aX, .int (iI pr), .int (iI tk), .int (iI tol), .int (iI hou)])), (aY, .inr (10, [.ref aYh, .ref aYt, .ref aYc])), (aYh, .inl (gI g, 3, .inl (ar (if caT ht sta nt = 0 then (up ht sta (ht sta + 1)) else ht)))), (aYt, .inl (gI g, 36, .inl (ar (if caT ht sta nt = 0 then (up yt (sta * 12 + ht sta) nt) else yt)))), (aYc, .inl (gI g, 36, .inl (ar (if caT ht sta nt = 0 then (up yc (sta * 12 + ht sta) hou) else yc))))]) u) t) (va_A [(aR, .inr (11, [.ref aG, .ref aP, .ref aH, .ref aY, .ref aT, .ref aS, .ref aF, .ref aX, .int (iI pr), .int (iI tk), .int (iI tol), .int (iI hou)])), (aY, .inr (10, [.ref aYh, .ref aYt, .ref aYc])), (aYh, .inl (gI g, 3, .inl (ar ht))), (aYt, .inl (gI g, 36, .inl (ar yt))), (aYc, .inl (gI g, 36, .inl (ar yc)))] sz)) 3 18 (va_A [(aR, .inr (11, [.ref aG, .ref aP, .ref aH, .ref aY, .ref aT, .ref aS, .ref aF, .ref aX, .int (iI pr), .int (iI tk), .int (iI tol), .int (iI hou)])), (aY, .inr (10, [.ref aYh, .ref aYt, .ref aYc])), (aYh, .inl (gI g, 3, .inl (ar ht))), (aYt, .inl (gI g, 36, .inl (ar yt))), (aYc, .inl (gI g, 36, .inl (ar yc)))] sz) := by
  refine x_enterH (y := yL_cast) (ws := wsL_cast) (g := g) (sz := sz) (av := [.ref aR, .int (iI sta), .int (iI nt)]) (WS := [(aR, .inr (11, [.ref aG, .ref aP, .ref aH, .ref aY, .ref aT, .ref aS, .ref aF, .ref aX, .int (iI pr), .int (iI tk), .int (iI tol), .int (iI hou)])), (aY, .inr (10, [.ref aYh, .ref aYt, .ref aYc])), (aYh, .inl (gI g, 3, .inl (ar ht))), (aYt, .inl (gI g, 36, .inl (ar yt))), (aYc, .inl (gI g, 36, .inl (ar yc)))]) (cc := cL_cast) (maxL := 4) (ret := some .int) (Qc := (fun A => (va_Qi (fun r u => r = iI ((fun (u : Unit) => (if caT ht sta nt = 0 then ht sta + 1 else -900000 - caT ht sta nt)) u) ∧ (fun (u : Unit) => True) u) (fun u t => xE g A ((fun (u : Unit) => [(aR, .inr (11, [.ref aG, .ref aP, .ref aH, .ref aY, .ref aT, .ref aS, .ref aF, .ref aX, .int (iI pr), .int (iI tk), .int (iI tol), .int (iI hou)])), (aY, .inr (10, [.ref aYh, .ref aYt, .ref aYc])), (aYh, .inl (gI g, 3, .inl (ar (if caT ht sta nt = 0 then (up ht sta (ht sta + 1)) else ht)))), (aYt, .inl (gI g, 36, .inl (ar (if caT ht sta nt = 0 then (up yt (sta * 12 + ht sta) nt) else yt)))), (aYc, .inl (gI g, 36, .inl (ar (if caT ht sta nt = 0 then (up yc (sta * 12 + ht sta) hou) else yc))))]) u) t) A))) (by decide) rfl (Nat.le_of_ble_eq_true rfl) ?_
  intro p e s m args below meth c A ls hx hb hr hml hown hts hlocks htab hC hP hD hS hA hl
  have hK := hC.1
  have hown : s.vm.findClass RL = some m.cls := hown
  have hl : lv_has ls 4 [(0, .ref aR), (1, .int (iI sta)), (2, .int (iI nt))] := hl
  obtain ⟨H, hH⟩ : ∃ z, z = s.heap := ⟨_, rfl⟩
  obtain ⟨locs, hlo⟩ : ∃ z : List Loc, z = [] := ⟨_, rfl⟩
  obtain ⟨Q9, hQ9⟩ : ∃ z, z = MQ below (va_Qi (fun r u => r = iI ((fun (u : Unit) => (if caT ht sta nt = 0 then ht sta + 1 else -900000 - caT ht sta nt)) u) ∧ (fun (u : Unit) => True) u) (fun u t => xE g A ((fun (u : Unit) => [(aR, .inr (11, [.ref aG, .ref aP, .ref aH, .ref aY, .ref aT, .ref aS, .ref aF, .ref aX, .int (iI pr), .int (iI tk), .int (iI tol), .int (iI hou)])), (aY, .inr (10, [.ref aYh, .ref aYt, .ref aYc])), (aYh, .inl (gI g, 3, .inl (ar (if caT ht sta nt = 0 then (up ht sta (ht sta + 1)) else ht)))), (aYt, .inl (gI g, 36, .inl (ar (if caT ht sta nt = 0 then (up yt (sta * 12 + ht sta) nt) else yt)))), (aYc, .inl (gI g, 36, .inl (ar (if caT ht sta nt = 0 then (up yc (sta * 12 + ht sta) hou) else yc))))]) u) t) A) args s 3 18 A := ⟨_, rfl⟩
  have hP : va_P (gD g) vwCl [(aR, .inr (11, [.ref aG, .ref aP, .ref aH, .ref aY, .ref aT, .ref aS, .ref aF, .ref aX, .int (iI pr), .int (iI tk), .int (iI tol), .int (iI hou)])), (aY, .inr (10, [.ref aYh, .ref aYt, .ref aYc])), (aYh, .inl (gI g, 3, .inl (ar ht))), (aYt, .inl (gI g, 36, .inl (ar yt))), (aYc, .inl (gI g, 36, .inl (ar yc)))] H := by rw [hH]; exact hP
  have hS : va_S A s.heap H locs := by rw [hH, hlo]; exact hS
  have goal_ : W p l e { frames := 8, cells := 3, slots := 18, locals := 136 } s m args below meth c H locs 0 0 Q9 (F0 m 0 ls []) := by
    clear hH hlo
    refine lv_aload_n hx hb dL_cast_0 rfl (lv_at hl 0 rfl) ?_
    refine lv_iload_n hx hb dL_cast_1 rfl (lv_at hl 1 rfl) ?_
    refine lv_iload_n hx hb dL_cast_2 rfl (lv_at hl 2 rfl) ?_
    refine x_calliX (S := Unit) (SX := Unit) (wc := [(aR, .inr (11, [.ref aG, .ref aP, .ref aH, .ref aY, .ref aT, .ref aS, .ref aF, .ref aX, .int (iI pr), .int (iI tk), .int (iI tol), .int (iI hou)])), (aY, .inr (10, [.ref aYh, .ref aYt, .ref aYc])), (aYh, .inl (gI g, 3, .inl (ar ht))), (aYt, .inl (gI g, 36, .inl (ar yt))), (aYc, .inl (gI g, 36, .inl (ar yc)))]) (wr := []) hC hP hD hS hA [0, 1, 2, 3, 4] [] [0, 1, 2, 3, 4] rfl rfl (fun hpre => vx_runV (As := [.int (iI sta), .int (iI nt)]) (rest := []) ⟨hx, hb, hml, hown, hts⟩ (c_X8_cast l hflags g H.size aR aG aP aH aY aT aS aF aX aYh aYt aYc pr tk tol hou sta nt ht yt yc (by first | (first | assumption | omega | exact bnd_up (by assumption) (by omega) (by omega)) | fail "q8") (by first | (first | assumption | omega | exact bnd_up (by assumption) (by omega) (by omega)) | fail "q8") (by first | (first | assumption | omega | exact bnd_up (by assumption) (by omega) (by omega)) | fail "q8") (by first | (first | assumption | omega | exact bnd_up (by assumption) (by omega) (by omega)) | fail "q8")) (cwV 2 hts gL_cast_X8_cast rfl rfl rfl (by decide +kernel) ⟨Nat.le_of_ble_eq_true rfl, Nat.le_of_ble_eq_true rfl⟩) ⟨xB_blind, va_recv hK hP (ci := 11) (q0 := 0) rfl rfl, hpre _⟩ rfl rfl hl.1 rfl (lv_room (Nat.le_of_ble_eq_true rfl)) dL_cast_3 ⟨Nat.le_of_ble_eq_true rfl, Nat.le_of_ble_eq_true rfl⟩) (fun (u : Unit) => [(aR, .inr (11, [.ref aG, .ref aP, .ref aH, .ref aY, .ref aT, .ref aS, .ref aF, .ref aX, .int (iI pr), .int (iI tk), .int (iI tol), .int (iI hou)])), (aY, .inr (10, [.ref aYh, .ref aYt, .ref aYc])), (aYh, .inl (gI g, 3, .inl (ar (up ht sta (ht sta + 1))))), (aYt, .inl (gI g, 36, .inl (ar (up yt (sta * 12 + ht sta) nt)))), (aYc, .inl (gI g, 36, .inl (ar (up yc (sta * 12 + ht sta) hou))))]) (fun (u : Unit) => ([(aR, .inr (11, [.ref aG, .ref aP, .ref aH, .ref aY, .ref aT, .ref aS, .ref aF, .ref aX, .int (iI pr), .int (iI tk), .int (iI tol), .int (iI hou)])), (aY, .inr (10, [.ref aYh, .ref aYt, .ref aYc])), (aYh, .inl (gI g, 3, .inl (ar ht))), (aYt, .inl (gI g, 36, .inl (ar yt))), (aYc, .inl (gI g, 36, .inl (ar yc)))] : va_W)) rfl rfl (by decide) (fun _ => rfl) (fun _ => rfl) rfl (fun E ce q9 u H locs hXP hPX hP hD hS hcell hv9 hcl => ?_) (fun u v_1 H locs hv_1 pv_1 hP hD hS => ?_)
    · skip
      have hP : va_P (gD g) vwCl [(aR, .inr (11, [.ref aG, .ref aP, .ref aH, .ref aY, .ref aT, .ref aS, .ref aF, .ref aX, .int (iI pr), .int (iI tk), .int (iI tol), .int (iI hou)])), (aY, .inr (10, [.ref aYh, .ref aYt, .ref aYc])), (aYh, .inl (gI g, 3, .inl (ar ht))), (aYt, .inl (gI g, 36, .inl (ar yt))), (aYc, .inl (gI g, 36, .inl (ar yc)))] H := hP
      have hD : va_D A [(aR, .inr (11, [.ref aG, .ref aP, .ref aH, .ref aY, .ref aT, .ref aS, .ref aF, .ref aX, .int (iI pr), .int (iI tk), .int (iI tol), .int (iI hou)])), (aY, .inr (10, [.ref aYh, .ref aYt, .ref aYc])), (aYh, .inl (gI g, 3, .inl (ar ht))), (aYt, .inl (gI g, 36, .inl (ar yt))), (aYc, .inl (gI g, 36, .inl (ar yc)))] := hD
      rcases hPX with ⟨hE, hp⟩ | ⟨hE, hp⟩ | ⟨hE, hp⟩
      · skip
        have hp : caT ht sta nt = 1 := hp
        subst hE
        refine vx_catch (E := "java/lang/IndexOutOfBoundsException") (name := "java/lang/IndexOutOfBoundsException") hown [] ⟨0, 6, 7, 28⟩ [⟨0, 6, 11, 15⟩, ⟨0, 6, 15, 18⟩] (by rw [htab]; rfl) (fun z hz => by cases hz) (by decide) (by decide) (hts (.classLink RL 28 "java/lang/IndexOutOfBoundsException") (List.mem_of_getElem? (i := 1) rfl)) (va_Nw.use rfl (hC.2.2.2.2.2.2.2.2.2.2.1 "java/lang/IndexOutOfBoundsException" (List.mem_of_getElem? (i := 2) rfl))) hcell hv9 hcl ?_
        refine lv_astore_n (lv' := [(3, .ref q9), (0, .ref aR), (1, .int (iI sta)), (2, .int (iI nt))]) hx hb dL_cast_7 rfl hl (by decide) rfl (fun ls hl => ?_)
        refine x_ldc (v := -900001) hx hb hown (hts (.constant RL 17 (-900001)) (List.mem_of_getElem? (i := 4) rfl)) (by decide) dL_cast_8 ?_
        have q_2 : (if caT ht sta nt = 0 then (up ht sta (ht sta + 1)) else ht) = ht := by
          first
          | (
             first | rfl | (rw [if_pos (by omega)]) | (rw [if_neg (by omega)]) | (rw [if_pos (by omega)]; subst_vars; rfl))
          | fail "q9"
        have q_3 : (if caT ht sta nt = 0 then (up yt (sta * 12 + ht sta) nt) else yt) = yt := by
          first
          | (
             first | rfl | (rw [if_pos (by omega)]) | (rw [if_neg (by omega)]) | (rw [if_pos (by omega)]; subst_vars; rfl))
          | fail "q9"
        have q_4 : (if caT ht sta nt = 0 then (up yc (sta * 12 + ht sta) hou) else yc) = yc := by
          first
          | (
             first | rfl | (rw [if_pos (by omega)]) | (rw [if_neg (by omega)]) | (rw [if_pos (by omega)]; subst_vars; rfl))
          | fail "q9"
        have hw_5 := (congr (congr (congrArg (fun (z0 : Int → Int) (z1 : Int → Int) (z2 : Int → Int) => ([(aR, .inr (11, [.ref aG, .ref aP, .ref aH, .ref aY, .ref aT, .ref aS, .ref aF, .ref aX, .int (iI pr), .int (iI tk), .int (iI tol), .int (iI hou)])), (aY, .inr (10, [.ref aYh, .ref aYt, .ref aYc])), (aYh, .inl (gI g, 3, .inl (ar z0))), (aYt, .inl (gI g, 36, .inl (ar z1))), (aYc, .inl (gI g, 36, .inl (ar z2)))] : va_W)) q_2.symm) q_3.symm) q_4.symm)
        rw [hQ9]
        exact x_iret hx hb hr hlocks hP hD hS (S := Unit) rfl dL_cast_10 () (by
            first
            | (
               first | (rw [if_pos (by omega)]; first | assumption | (subst_vars; rfl)) | (rw [if_neg (by omega)]; omega))
            | fail "q9") trivial hw_5 (Nat.le_of_ble_eq_true rfl) (Nat.le_of_ble_eq_true rfl)
      · skip
        have hp : caT ht sta nt = 2 := hp
        subst hE
        refine vx_catch (E := "java/lang/IllegalArgumentException") (name := "java/lang/IllegalArgumentException") hown [⟨0, 6, 7, 28⟩] ⟨0, 6, 11, 15⟩ [⟨0, 6, 15, 18⟩] (by rw [htab]; rfl) (fun z hz => by rcases List.mem_cons.mp hz with rfl | hz; exact Or.inr ⟨by decide, "java/lang/IndexOutOfBoundsException", (hts (.classLink RL 28 "java/lang/IndexOutOfBoundsException") (List.mem_of_getElem? (i := 1) rfl)), hC.d.2.2.2.2.2.1 ("java/lang/IllegalArgumentException", "java/lang/IndexOutOfBoundsException") (List.mem_of_getElem? (i := 1) (by decide +kernel))⟩; cases hz) (by decide) (by decide) (hts (.classLink RL 15 "java/lang/IllegalArgumentException") (List.mem_of_getElem? (i := 2) rfl)) (va_Nw.use rfl (hC.2.2.2.2.2.2.2.2.2.2.1 "java/lang/IllegalArgumentException" (List.mem_of_getElem? (i := 0) rfl))) hcell hv9 hcl ?_
        refine lv_astore_n (lv' := [(3, .ref q9), (0, .ref aR), (1, .int (iI sta)), (2, .int (iI nt))]) hx hb dL_cast_11 rfl hl (by decide) rfl (fun ls hl => ?_)
        refine x_ldc (v := -900002) hx hb hown (hts (.constant RL 20 (-900002)) (List.mem_of_getElem? (i := 5) rfl)) (by decide) dL_cast_12 ?_
        have q_6 : (if caT ht sta nt = 0 then (up ht sta (ht sta + 1)) else ht) = ht := by
          first
          | (
             first | rfl | (rw [if_pos (by omega)]) | (rw [if_neg (by omega)]) | (rw [if_pos (by omega)]; subst_vars; rfl))
          | fail "q9"
        have q_7 : (if caT ht sta nt = 0 then (up yt (sta * 12 + ht sta) nt) else yt) = yt := by
          first
          | (
             first | rfl | (rw [if_pos (by omega)]) | (rw [if_neg (by omega)]) | (rw [if_pos (by omega)]; subst_vars; rfl))
          | fail "q9"
        have q_8 : (if caT ht sta nt = 0 then (up yc (sta * 12 + ht sta) hou) else yc) = yc := by
          first
          | (
             first | rfl | (rw [if_pos (by omega)]) | (rw [if_neg (by omega)]) | (rw [if_pos (by omega)]; subst_vars; rfl))
          | fail "q9"
        have hw_9 := (congr (congr (congrArg (fun (z0 : Int → Int) (z1 : Int → Int) (z2 : Int → Int) => ([(aR, .inr (11, [.ref aG, .ref aP, .ref aH, .ref aY, .ref aT, .ref aS, .ref aF, .ref aX, .int (iI pr), .int (iI tk), .int (iI tol), .int (iI hou)])), (aY, .inr (10, [.ref aYh, .ref aYt, .ref aYc])), (aYh, .inl (gI g, 3, .inl (ar z0))), (aYt, .inl (gI g, 36, .inl (ar z1))), (aYc, .inl (gI g, 36, .inl (ar z2)))] : va_W)) q_6.symm) q_7.symm) q_8.symm)
        rw [hQ9]
        exact x_iret hx hb hr hlocks hP hD hS (S := Unit) rfl dL_cast_14 () (by
            first
            | (
               first | (rw [if_pos (by omega)]; first | assumption | (subst_vars; rfl)) | (rw [if_neg (by omega)]; omega))
            | fail "q9") trivial hw_9 (Nat.le_of_ble_eq_true rfl) (Nat.le_of_ble_eq_true rfl)
      · skip
        have hp : caT ht sta nt = 3 := hp
        subst hE
        refine vx_catch (E := "java/lang/IllegalStateException") (name := "java/lang/IllegalStateException") hown [⟨0, 6, 7, 28⟩, ⟨0, 6, 11, 15⟩] ⟨0, 6, 15, 18⟩ [] (by rw [htab]; rfl) (fun z hz => by rcases List.mem_cons.mp hz with rfl | hz; exact Or.inr ⟨by decide, "java/lang/IndexOutOfBoundsException", (hts (.classLink RL 28 "java/lang/IndexOutOfBoundsException") (List.mem_of_getElem? (i := 1) rfl)), hC.d.2.2.2.2.2.1 ("java/lang/IllegalStateException", "java/lang/IndexOutOfBoundsException") (List.mem_of_getElem? (i := 6) (by decide +kernel))⟩; rcases List.mem_cons.mp hz with rfl | hz; exact Or.inr ⟨by decide, "java/lang/IllegalArgumentException", (hts (.classLink RL 15 "java/lang/IllegalArgumentException") (List.mem_of_getElem? (i := 2) rfl)), hC.d.2.2.2.2.2.1 ("java/lang/IllegalStateException", "java/lang/IllegalArgumentException") (List.mem_of_getElem? (i := 5) (by decide +kernel))⟩; cases hz) (by decide) (by decide) (hts (.classLink RL 18 "java/lang/IllegalStateException") (List.mem_of_getElem? (i := 3) rfl)) (va_Nw.use rfl (hC.2.2.2.2.2.2.2.2.2.2.1 "java/lang/IllegalStateException" (List.mem_of_getElem? (i := 1) rfl))) hcell hv9 hcl ?_
        refine lv_astore_n (lv' := [(3, .ref q9), (0, .ref aR), (1, .int (iI sta)), (2, .int (iI nt))]) hx hb dL_cast_15 rfl hl (by decide) rfl (fun ls hl => ?_)
        refine x_ldc (v := -900003) hx hb hown (hts (.constant RL 30 (-900003)) (List.mem_of_getElem? (i := 6) rfl)) (by decide) dL_cast_16 ?_
        have q_10 : (if caT ht sta nt = 0 then (up ht sta (ht sta + 1)) else ht) = ht := by
          first
          | (
             first | rfl | (rw [if_pos (by omega)]) | (rw [if_neg (by omega)]) | (rw [if_pos (by omega)]; subst_vars; rfl))
          | fail "q9"
        have q_11 : (if caT ht sta nt = 0 then (up yt (sta * 12 + ht sta) nt) else yt) = yt := by
          first
          | (
             first | rfl | (rw [if_pos (by omega)]) | (rw [if_neg (by omega)]) | (rw [if_pos (by omega)]; subst_vars; rfl))
          | fail "q9"
        have q_12 : (if caT ht sta nt = 0 then (up yc (sta * 12 + ht sta) hou) else yc) = yc := by
          first
          | (
             first | rfl | (rw [if_pos (by omega)]) | (rw [if_neg (by omega)]) | (rw [if_pos (by omega)]; subst_vars; rfl))
          | fail "q9"
        have hw_13 := (congr (congr (congrArg (fun (z0 : Int → Int) (z1 : Int → Int) (z2 : Int → Int) => ([(aR, .inr (11, [.ref aG, .ref aP, .ref aH, .ref aY, .ref aT, .ref aS, .ref aF, .ref aX, .int (iI pr), .int (iI tk), .int (iI tol), .int (iI hou)])), (aY, .inr (10, [.ref aYh, .ref aYt, .ref aYc])), (aYh, .inl (gI g, 3, .inl (ar z0))), (aYt, .inl (gI g, 36, .inl (ar z1))), (aYc, .inl (gI g, 36, .inl (ar z2)))] : va_W)) q_10.symm) q_11.symm) q_12.symm)
        rw [hQ9]
        exact x_iret hx hb hr hlocks hP hD hS (S := Unit) rfl dL_cast_18 () (by
            first
            | (
               first | (rw [if_pos (by omega)]; first | assumption | (subst_vars; rfl)) | (rw [if_neg (by omega)]; omega))
            | fail "q9") trivial hw_13 (Nat.le_of_ble_eq_true rfl) (Nat.le_of_ble_eq_true rfl)
    · skip
      have hP : va_P (gD g) vwCl [(aR, .inr (11, [.ref aG, .ref aP, .ref aH, .ref aY, .ref aT, .ref aS, .ref aF, .ref aX, .int (iI pr), .int (iI tk), .int (iI tol), .int (iI hou)])), (aY, .inr (10, [.ref aYh, .ref aYt, .ref aYc])), (aYh, .inl (gI g, 3, .inl (ar (up ht sta (ht sta + 1))))), (aYt, .inl (gI g, 36, .inl (ar (up yt (sta * 12 + ht sta) nt)))), (aYc, .inl (gI g, 36, .inl (ar (up yc (sta * 12 + ht sta) hou))))] H := hP
      have hD : va_D A [(aR, .inr (11, [.ref aG, .ref aP, .ref aH, .ref aY, .ref aT, .ref aS, .ref aF, .ref aX, .int (iI pr), .int (iI tk), .int (iI tol), .int (iI hou)])), (aY, .inr (10, [.ref aYh, .ref aYt, .ref aYc])), (aYh, .inl (gI g, 3, .inl (ar (up ht sta (ht sta + 1))))), (aYt, .inl (gI g, 36, .inl (ar (up yt (sta * 12 + ht sta) nt)))), (aYc, .inl (gI g, 36, .inl (ar (up yc (sta * 12 + ht sta) hou))))] := hD
      have hv_1 : v_1 = ht sta + 1 := hv_1
      obtain ⟨tv_1, pv_1⟩ := pv_1
      have tv_1 : caT ht sta nt = 0 := tv_1
      have q_14 : (if caT ht sta nt = 0 then (up ht sta (ht sta + 1)) else ht) = (up ht sta (ht sta + 1)) := by
        first
        | (
           first | rfl | (rw [if_pos (by omega)]) | (rw [if_neg (by omega)]) | (rw [if_pos (by omega)]; subst_vars; rfl))
        | fail "q9"
      have q_15 : (if caT ht sta nt = 0 then (up yt (sta * 12 + ht sta) nt) else yt) = (up yt (sta * 12 + ht sta) nt) := by
        first
        | (
           first | rfl | (rw [if_pos (by omega)]) | (rw [if_neg (by omega)]) | (rw [if_pos (by omega)]; subst_vars; rfl))
        | fail "q9"
      have q_16 : (if caT ht sta nt = 0 then (up yc (sta * 12 + ht sta) hou) else yc) = (up yc (sta * 12 + ht sta) hou) := by
        first
        | (
           first | rfl | (rw [if_pos (by omega)]) | (rw [if_neg (by omega)]) | (rw [if_pos (by omega)]; subst_vars; rfl))
        | fail "q9"
      have hw_17 := (congr (congr (congrArg (fun (z0 : Int → Int) (z1 : Int → Int) (z2 : Int → Int) => ([(aR, .inr (11, [.ref aG, .ref aP, .ref aH, .ref aY, .ref aT, .ref aS, .ref aF, .ref aX, .int (iI pr), .int (iI tk), .int (iI tol), .int (iI hou)])), (aY, .inr (10, [.ref aYh, .ref aYt, .ref aYc])), (aYh, .inl (gI g, 3, .inl (ar z0))), (aYt, .inl (gI g, 36, .inl (ar z1))), (aYc, .inl (gI g, 36, .inl (ar z2)))] : va_W)) q_14.symm) q_15.symm) q_16.symm)
      rw [hQ9]
      exact x_iret hx hb hr hlocks hP hD hS (S := Unit) rfl dL_cast_6 () (by
          first
          | (
             first | (rw [if_pos (by omega)]; first | assumption | (subst_vars; rfl)) | (rw [if_neg (by omega)]; omega))
          | fail "q9") trivial hw_17 (Nat.le_of_ble_eq_true rfl) (Nat.le_of_ble_eq_true rfl)
  rw [hH, hlo, hQ9] at goal_
  exact goal_

set_option maxHeartbeats 4000000 in
set_option maxRecDepth 100000 in
theorem c_L_heightOf (l : Launch) (hflags : l.stackTraces = false) (g : xg) (sz : Nat) (aR aG aP aH aY aT aS aF aX aYh aYt aYc : Nat) (pr tk tol hou sta : Int) (ht : Int → Int) (hb_ht : bnd ht 0 12) (hr_sta : iR sta) : Met l yL_heightOf wsL_heightOf { frames := 8, cells := 1, slots := 6, locals := 133 } (va_Pc [.ref aR, .int (iI sta)] (xB g [(aR, .inr (11, [.ref aG, .ref aP, .ref aH, .ref aY, .ref aT, .ref aS, .ref aF, .ref aX, .int (iI pr), .int (iI tk), .int (iI tol), .int (iI hou)])), (aY, .inr (10, [.ref aYh, .ref aYt, .ref aYc])), (aYh, .inl (gI g, 3, .inl (ar ht)))] sz)) (va_Qi (fun r u => r = iI ((fun (u : Unit) => (if stT sta = 0 then ht sta else -900000 - stT sta)) u) ∧ (fun (u : Unit) => True) u) (fun u t => xE g (va_A [(aR, .inr (11, [.ref aG, .ref aP, .ref aH, .ref aY, .ref aT, .ref aS, .ref aF, .ref aX, .int (iI pr), .int (iI tk), .int (iI tol), .int (iI hou)])), (aY, .inr (10, [.ref aYh, .ref aYt, .ref aYc])), (aYh, .inl (gI g, 3, .inl (ar ht)))] sz) ((fun (u : Unit) => [(aR, .inr (11, [.ref aG, .ref aP, .ref aH, .ref aY, .ref aT, .ref aS, .ref aF, .ref aX, .int (iI pr), .int (iI tk), .int (iI tol), .int (iI hou)])), (aY, .inr (10, [.ref aYh, .ref aYt, .ref aYc])), (aYh, .inl (gI g, 3, .inl (ar ht)))]) u) t) (va_A [(aR, .inr (11, [.ref aG, .ref aP, .ref aH, .ref aY, .ref aT, .ref aS, .ref aF, .ref aX, .int (iI pr), .int (iI tk), .int (iI tol), .int (iI hou)])), (aY, .inr (10, [.ref aYh, .ref aYt, .ref aYc])), (aYh, .inl (gI g, 3, .inl (ar ht)))] sz)) 1 6 (va_A [(aR, .inr (11, [.ref aG, .ref aP, .ref aH, .ref aY, .ref aT, .ref aS, .ref aF, .ref aX, .int (iI pr), .int (iI tk), .int (iI tol), .int (iI hou)])), (aY, .inr (10, [.ref aYh, .ref aYt, .ref aYc])), (aYh, .inl (gI g, 3, .inl (ar ht)))] sz) := by
  refine x_enterH (y := yL_heightOf) (ws := wsL_heightOf) (g := g) (sz := sz) (av := [.ref aR, .int (iI sta)]) (WS := [(aR, .inr (11, [.ref aG, .ref aP, .ref aH, .ref aY, .ref aT, .ref aS, .ref aF, .ref aX, .int (iI pr), .int (iI tk), .int (iI tol), .int (iI hou)])), (aY, .inr (10, [.ref aYh, .ref aYt, .ref aYc])), (aYh, .inl (gI g, 3, .inl (ar ht)))]) (cc := cL_heightOf) (maxL := 3) (ret := some .int) (Qc := (fun A => (va_Qi (fun r u => r = iI ((fun (u : Unit) => (if stT sta = 0 then ht sta else -900000 - stT sta)) u) ∧ (fun (u : Unit) => True) u) (fun u t => xE g A ((fun (u : Unit) => [(aR, .inr (11, [.ref aG, .ref aP, .ref aH, .ref aY, .ref aT, .ref aS, .ref aF, .ref aX, .int (iI pr), .int (iI tk), .int (iI tol), .int (iI hou)])), (aY, .inr (10, [.ref aYh, .ref aYt, .ref aYc])), (aYh, .inl (gI g, 3, .inl (ar ht)))]) u) t) A))) (by decide) rfl (Nat.le_of_ble_eq_true rfl) ?_
  intro p e s m args below meth c A ls hx hb hr hml hown hts hlocks htab hC hP hD hS hA hl
  have hK := hC.1
  have hown : s.vm.findClass RL = some m.cls := hown
  have hl : lv_has ls 3 [(0, .ref aR), (1, .int (iI sta))] := hl
  obtain ⟨H, hH⟩ : ∃ z, z = s.heap := ⟨_, rfl⟩
  obtain ⟨locs, hlo⟩ : ∃ z : List Loc, z = [] := ⟨_, rfl⟩
  obtain ⟨Q9, hQ9⟩ : ∃ z, z = MQ below (va_Qi (fun r u => r = iI ((fun (u : Unit) => (if stT sta = 0 then ht sta else -900000 - stT sta)) u) ∧ (fun (u : Unit) => True) u) (fun u t => xE g A ((fun (u : Unit) => [(aR, .inr (11, [.ref aG, .ref aP, .ref aH, .ref aY, .ref aT, .ref aS, .ref aF, .ref aX, .int (iI pr), .int (iI tk), .int (iI tol), .int (iI hou)])), (aY, .inr (10, [.ref aYh, .ref aYt, .ref aYc])), (aYh, .inl (gI g, 3, .inl (ar ht)))]) u) t) A) args s 1 6 A := ⟨_, rfl⟩
  have hP : va_P (gD g) vwCl [(aR, .inr (11, [.ref aG, .ref aP, .ref aH, .ref aY, .ref aT, .ref aS, .ref aF, .ref aX, .int (iI pr), .int (iI tk), .int (iI tol), .int (iI hou)])), (aY, .inr (10, [.ref aYh, .ref aYt, .ref aYc])), (aYh, .inl (gI g, 3, .inl (ar ht)))] H := by rw [hH]; exact hP
  have hS : va_S A s.heap H locs := by rw [hH, hlo]; exact hS
  have goal_ : W p l e { frames := 8, cells := 1, slots := 6, locals := 133 } s m args below meth c H locs 0 0 Q9 (F0 m 0 ls []) := by
    clear hH hlo
    refine lv_aload_n hx hb dL_heightOf_0 rfl (lv_at hl 0 rfl) ?_
    refine lv_iload_n hx hb dL_heightOf_1 rfl (lv_at hl 1 rfl) ?_
    refine x_calliX (S := Unit) (SX := Unit) (wc := [(aR, .inr (11, [.ref aG, .ref aP, .ref aH, .ref aY, .ref aT, .ref aS, .ref aF, .ref aX, .int (iI pr), .int (iI tk), .int (iI tol), .int (iI hou)])), (aY, .inr (10, [.ref aYh, .ref aYt, .ref aYc])), (aYh, .inl (gI g, 3, .inl (ar ht)))]) (wr := []) hC hP hD hS hA [0, 1, 2] [] [0, 1, 2] rfl rfl (fun hpre => vx_runV (As := [.int (iI sta)]) (rest := []) ⟨hx, hb, hml, hown, hts⟩ (c_X8_heightOf l hflags g H.size aR aG aP aH aY aT aS aF aX aYh aYt aYc pr tk tol hou sta ht (by first | (first | assumption | omega | exact bnd_up (by assumption) (by omega) (by omega)) | fail "q8") (by first | (first | assumption | omega | exact bnd_up (by assumption) (by omega) (by omega)) | fail "q8")) (cwV 1 hts gL_heightOf_X8_heightOf rfl rfl rfl (by decide +kernel) ⟨Nat.le_of_ble_eq_true rfl, Nat.le_of_ble_eq_true rfl⟩) ⟨xB_blind, va_recv hK hP (ci := 11) (q0 := 0) rfl rfl, hpre _⟩ rfl rfl hl.1 rfl (lv_room (Nat.le_of_ble_eq_true rfl)) dL_heightOf_2 ⟨Nat.le_of_ble_eq_true rfl, Nat.le_of_ble_eq_true rfl⟩) (fun (u : Unit) => [(aR, .inr (11, [.ref aG, .ref aP, .ref aH, .ref aY, .ref aT, .ref aS, .ref aF, .ref aX, .int (iI pr), .int (iI tk), .int (iI tol), .int (iI hou)])), (aY, .inr (10, [.ref aYh, .ref aYt, .ref aYc])), (aYh, .inl (gI g, 3, .inl (ar ht)))]) (fun (u : Unit) => ([(aR, .inr (11, [.ref aG, .ref aP, .ref aH, .ref aY, .ref aT, .ref aS, .ref aF, .ref aX, .int (iI pr), .int (iI tk), .int (iI tol), .int (iI hou)])), (aY, .inr (10, [.ref aYh, .ref aYt, .ref aYc])), (aYh, .inl (gI g, 3, .inl (ar ht)))] : va_W)) rfl rfl (by decide) (fun _ => rfl) (fun _ => rfl) rfl (fun E ce q9 u H locs hXP hPX hP hD hS hcell hv9 hcl => ?_) (fun u v_1 H locs hv_1 pv_1 hP hD hS => ?_)
    · skip
      have hP : va_P (gD g) vwCl [(aR, .inr (11, [.ref aG, .ref aP, .ref aH, .ref aY, .ref aT, .ref aS, .ref aF, .ref aX, .int (iI pr), .int (iI tk), .int (iI tol), .int (iI hou)])), (aY, .inr (10, [.ref aYh, .ref aYt, .ref aYc])), (aYh, .inl (gI g, 3, .inl (ar ht)))] H := hP
      have hD : va_D A [(aR, .inr (11, [.ref aG, .ref aP, .ref aH, .ref aY, .ref aT, .ref aS, .ref aF, .ref aX, .int (iI pr), .int (iI tk), .int (iI tol), .int (iI hou)])), (aY, .inr (10, [.ref aYh, .ref aYt, .ref aYc])), (aYh, .inl (gI g, 3, .inl (ar ht)))] := hD
      obtain ⟨hE, hp⟩ := hPX
      have hp : stT sta = 1 := hp
      subst hE
      refine vx_catch (E := "java/lang/IndexOutOfBoundsException") (name := "java/lang/IndexOutOfBoundsException") hown [] ⟨0, 5, 6, 28⟩ [] (by rw [htab]; rfl) (fun z hz => by cases hz) (by decide) (by decide) (hts (.classLink RL 28 "java/lang/IndexOutOfBoundsException") (List.mem_of_getElem? (i := 1) rfl)) (va_Nw.use rfl (hC.2.2.2.2.2.2.2.2.2.2.1 "java/lang/IndexOutOfBoundsException" (List.mem_of_getElem? (i := 2) rfl))) hcell hv9 hcl ?_
      refine lv_astore_n (lv' := [(2, .ref q9), (0, .ref aR), (1, .int (iI sta))]) hx hb dL_heightOf_6 rfl hl (by decide) rfl (fun ls hl => ?_)
      refine x_ldc (v := -900001) hx hb hown (hts (.constant RL 17 (-900001)) (List.mem_of_getElem? (i := 2) rfl)) (by decide) dL_heightOf_7 ?_
      rw [hQ9]
      exact x_iret hx hb hr hlocks hP hD hS (S := Unit) rfl dL_heightOf_9 () (by
          first
          | (
             first | (rw [if_pos (by omega)]; first | assumption | (subst_vars; rfl)) | (rw [if_neg (by omega)]; omega))
          | fail "q9") trivial rfl (Nat.le_of_ble_eq_true rfl) (Nat.le_of_ble_eq_true rfl)
    · skip
      have hP : va_P (gD g) vwCl [(aR, .inr (11, [.ref aG, .ref aP, .ref aH, .ref aY, .ref aT, .ref aS, .ref aF, .ref aX, .int (iI pr), .int (iI tk), .int (iI tol), .int (iI hou)])), (aY, .inr (10, [.ref aYh, .ref aYt, .ref aYc])), (aYh, .inl (gI g, 3, .inl (ar ht)))] H := hP
      have hD : va_D A [(aR, .inr (11, [.ref aG, .ref aP, .ref aH, .ref aY, .ref aT, .ref aS, .ref aF, .ref aX, .int (iI pr), .int (iI tk), .int (iI tol), .int (iI hou)])), (aY, .inr (10, [.ref aYh, .ref aYt, .ref aYc])), (aYh, .inl (gI g, 3, .inl (ar ht)))] := hD
      have hv_1 : v_1 = ht sta := hv_1
      obtain ⟨tv_1, pv_1⟩ := pv_1
      have tv_1 : stT sta = 0 := tv_1
      rw [hQ9]
      exact x_iret hx hb hr hlocks hP hD hS (S := Unit) rfl dL_heightOf_5 () (by
          first
          | (
             first | (rw [if_pos (by omega)]; first | assumption | (subst_vars; rfl)) | (rw [if_neg (by omega)]; omega))
          | fail "q9") trivial rfl (Nat.le_of_ble_eq_true rfl) (Nat.le_of_ble_eq_true rfl)
  rw [hH, hlo, hQ9] at goal_
  exact goal_

set_option maxHeartbeats 4000000 in
set_option maxRecDepth 100000 in
theorem c_L_taperAt (l : Launch) (hflags : l.stackTraces = false) (g : xg) (sz : Nat) (aR aG aP aH aY aT aS aF aX aYh aYt aYc : Nat) (pr tk tol hou sta pl : Int) (ht yt : Int → Int) (hb_ht : bnd ht 0 12) (hr_sta : iR sta) (hr_pl : iR pl) : Met l yL_taperAt wsL_taperAt { frames := 8, cells := 2, slots := 12, locals := 134 } (va_Pc [.ref aR, .int (iI sta), .int (iI pl)] (xB g [(aR, .inr (11, [.ref aG, .ref aP, .ref aH, .ref aY, .ref aT, .ref aS, .ref aF, .ref aX, .int (iI pr), .int (iI tk), .int (iI tol), .int (iI hou)])), (aY, .inr (10, [.ref aYh, .ref aYt, .ref aYc])), (aYh, .inl (gI g, 3, .inl (ar ht))), (aYt, .inl (gI g, 36, .inl (ar yt)))] sz)) (va_Qi (fun r u => r = iI ((fun (u : Unit) => (if taT ht sta pl = 0 then yt (sta * 12 + pl) else -900000 - taT ht sta pl)) u) ∧ (fun (u : Unit) => True) u) (fun u t => xE g (va_A [(aR, .inr (11, [.ref aG, .ref aP, .ref aH, .ref aY, .ref aT, .ref aS, .ref aF, .ref aX, .int (iI pr), .int (iI tk), .int (iI tol), .int (iI hou)])), (aY, .inr (10, [.ref aYh, .ref aYt, .ref aYc])), (aYh, .inl (gI g, 3, .inl (ar ht))), (aYt, .inl (gI g, 36, .inl (ar yt)))] sz) ((fun (u : Unit) => [(aR, .inr (11, [.ref aG, .ref aP, .ref aH, .ref aY, .ref aT, .ref aS, .ref aF, .ref aX, .int (iI pr), .int (iI tk), .int (iI tol), .int (iI hou)])), (aY, .inr (10, [.ref aYh, .ref aYt, .ref aYc])), (aYh, .inl (gI g, 3, .inl (ar ht))), (aYt, .inl (gI g, 36, .inl (ar yt)))]) u) t) (va_A [(aR, .inr (11, [.ref aG, .ref aP, .ref aH, .ref aY, .ref aT, .ref aS, .ref aF, .ref aX, .int (iI pr), .int (iI tk), .int (iI tol), .int (iI hou)])), (aY, .inr (10, [.ref aYh, .ref aYt, .ref aYc])), (aYh, .inl (gI g, 3, .inl (ar ht))), (aYt, .inl (gI g, 36, .inl (ar yt)))] sz)) 2 12 (va_A [(aR, .inr (11, [.ref aG, .ref aP, .ref aH, .ref aY, .ref aT, .ref aS, .ref aF, .ref aX, .int (iI pr), .int (iI tk), .int (iI tol), .int (iI hou)])), (aY, .inr (10, [.ref aYh, .ref aYt, .ref aYc])), (aYh, .inl (gI g, 3, .inl (ar ht))), (aYt, .inl (gI g, 36, .inl (ar yt)))] sz) := by
  refine x_enterH (y := yL_taperAt) (ws := wsL_taperAt) (g := g) (sz := sz) (av := [.ref aR, .int (iI sta), .int (iI pl)]) (WS := [(aR, .inr (11, [.ref aG, .ref aP, .ref aH, .ref aY, .ref aT, .ref aS, .ref aF, .ref aX, .int (iI pr), .int (iI tk), .int (iI tol), .int (iI hou)])), (aY, .inr (10, [.ref aYh, .ref aYt, .ref aYc])), (aYh, .inl (gI g, 3, .inl (ar ht))), (aYt, .inl (gI g, 36, .inl (ar yt)))]) (cc := cL_taperAt) (maxL := 4) (ret := some .int) (Qc := (fun A => (va_Qi (fun r u => r = iI ((fun (u : Unit) => (if taT ht sta pl = 0 then yt (sta * 12 + pl) else -900000 - taT ht sta pl)) u) ∧ (fun (u : Unit) => True) u) (fun u t => xE g A ((fun (u : Unit) => [(aR, .inr (11, [.ref aG, .ref aP, .ref aH, .ref aY, .ref aT, .ref aS, .ref aF, .ref aX, .int (iI pr), .int (iI tk), .int (iI tol), .int (iI hou)])), (aY, .inr (10, [.ref aYh, .ref aYt, .ref aYc])), (aYh, .inl (gI g, 3, .inl (ar ht))), (aYt, .inl (gI g, 36, .inl (ar yt)))]) u) t) A))) (by decide) rfl (Nat.le_of_ble_eq_true rfl) ?_
  intro p e s m args below meth c A ls hx hb hr hml hown hts hlocks htab hC hP hD hS hA hl
  have hK := hC.1
  have hown : s.vm.findClass RL = some m.cls := hown
  have hl : lv_has ls 4 [(0, .ref aR), (1, .int (iI sta)), (2, .int (iI pl))] := hl
  obtain ⟨H, hH⟩ : ∃ z, z = s.heap := ⟨_, rfl⟩
  obtain ⟨locs, hlo⟩ : ∃ z : List Loc, z = [] := ⟨_, rfl⟩
  obtain ⟨Q9, hQ9⟩ : ∃ z, z = MQ below (va_Qi (fun r u => r = iI ((fun (u : Unit) => (if taT ht sta pl = 0 then yt (sta * 12 + pl) else -900000 - taT ht sta pl)) u) ∧ (fun (u : Unit) => True) u) (fun u t => xE g A ((fun (u : Unit) => [(aR, .inr (11, [.ref aG, .ref aP, .ref aH, .ref aY, .ref aT, .ref aS, .ref aF, .ref aX, .int (iI pr), .int (iI tk), .int (iI tol), .int (iI hou)])), (aY, .inr (10, [.ref aYh, .ref aYt, .ref aYc])), (aYh, .inl (gI g, 3, .inl (ar ht))), (aYt, .inl (gI g, 36, .inl (ar yt)))]) u) t) A) args s 2 12 A := ⟨_, rfl⟩
  have hP : va_P (gD g) vwCl [(aR, .inr (11, [.ref aG, .ref aP, .ref aH, .ref aY, .ref aT, .ref aS, .ref aF, .ref aX, .int (iI pr), .int (iI tk), .int (iI tol), .int (iI hou)])), (aY, .inr (10, [.ref aYh, .ref aYt, .ref aYc])), (aYh, .inl (gI g, 3, .inl (ar ht))), (aYt, .inl (gI g, 36, .inl (ar yt)))] H := by rw [hH]; exact hP
  have hS : va_S A s.heap H locs := by rw [hH, hlo]; exact hS
  have goal_ : W p l e { frames := 8, cells := 2, slots := 12, locals := 134 } s m args below meth c H locs 0 0 Q9 (F0 m 0 ls []) := by
    clear hH hlo
    refine lv_aload_n hx hb dL_taperAt_0 rfl (lv_at hl 0 rfl) ?_
    refine lv_iload_n hx hb dL_taperAt_1 rfl (lv_at hl 1 rfl) ?_
    refine lv_iload_n hx hb dL_taperAt_2 rfl (lv_at hl 2 rfl) ?_
    refine x_calliX (S := Unit) (SX := Unit) (wc := [(aR, .inr (11, [.ref aG, .ref aP, .ref aH, .ref aY, .ref aT, .ref aS, .ref aF, .ref aX, .int (iI pr), .int (iI tk), .int (iI tol), .int (iI hou)])), (aY, .inr (10, [.ref aYh, .ref aYt, .ref aYc])), (aYh, .inl (gI g, 3, .inl (ar ht))), (aYt, .inl (gI g, 36, .inl (ar yt)))]) (wr := []) hC hP hD hS hA [0, 1, 2, 3] [] [0, 1, 2, 3] rfl rfl (fun hpre => vx_runV (As := [.int (iI sta), .int (iI pl)]) (rest := []) ⟨hx, hb, hml, hown, hts⟩ (c_X8_taperAt l hflags g H.size aR aG aP aH aY aT aS aF aX aYh aYt aYc pr tk tol hou sta pl ht yt (by first | (first | assumption | omega | exact bnd_up (by assumption) (by omega) (by omega)) | fail "q8") (by first | (first | assumption | omega | exact bnd_up (by assumption) (by omega) (by omega)) | fail "q8") (by first | (first | assumption | omega | exact bnd_up (by assumption) (by omega) (by omega)) | fail "q8")) (cwV 2 hts gL_taperAt_X8_taperAt rfl rfl rfl (by decide +kernel) ⟨Nat.le_of_ble_eq_true rfl, Nat.le_of_ble_eq_true rfl⟩) ⟨xB_blind, va_recv hK hP (ci := 11) (q0 := 0) rfl rfl, hpre _⟩ rfl rfl hl.1 rfl (lv_room (Nat.le_of_ble_eq_true rfl)) dL_taperAt_3 ⟨Nat.le_of_ble_eq_true rfl, Nat.le_of_ble_eq_true rfl⟩) (fun (u : Unit) => [(aR, .inr (11, [.ref aG, .ref aP, .ref aH, .ref aY, .ref aT, .ref aS, .ref aF, .ref aX, .int (iI pr), .int (iI tk), .int (iI tol), .int (iI hou)])), (aY, .inr (10, [.ref aYh, .ref aYt, .ref aYc])), (aYh, .inl (gI g, 3, .inl (ar ht))), (aYt, .inl (gI g, 36, .inl (ar yt)))]) (fun (u : Unit) => ([(aR, .inr (11, [.ref aG, .ref aP, .ref aH, .ref aY, .ref aT, .ref aS, .ref aF, .ref aX, .int (iI pr), .int (iI tk), .int (iI tol), .int (iI hou)])), (aY, .inr (10, [.ref aYh, .ref aYt, .ref aYc])), (aYh, .inl (gI g, 3, .inl (ar ht))), (aYt, .inl (gI g, 36, .inl (ar yt)))] : va_W)) rfl rfl (by decide) (fun _ => rfl) (fun _ => rfl) rfl (fun E ce q9 u H locs hXP hPX hP hD hS hcell hv9 hcl => ?_) (fun u v_1 H locs hv_1 pv_1 hP hD hS => ?_)
    · skip
      have hP : va_P (gD g) vwCl [(aR, .inr (11, [.ref aG, .ref aP, .ref aH, .ref aY, .ref aT, .ref aS, .ref aF, .ref aX, .int (iI pr), .int (iI tk), .int (iI tol), .int (iI hou)])), (aY, .inr (10, [.ref aYh, .ref aYt, .ref aYc])), (aYh, .inl (gI g, 3, .inl (ar ht))), (aYt, .inl (gI g, 36, .inl (ar yt)))] H := hP
      have hD : va_D A [(aR, .inr (11, [.ref aG, .ref aP, .ref aH, .ref aY, .ref aT, .ref aS, .ref aF, .ref aX, .int (iI pr), .int (iI tk), .int (iI tol), .int (iI hou)])), (aY, .inr (10, [.ref aYh, .ref aYt, .ref aYc])), (aYh, .inl (gI g, 3, .inl (ar ht))), (aYt, .inl (gI g, 36, .inl (ar yt)))] := hD
      rcases hPX with ⟨hE, hp⟩ | ⟨hE, hp⟩
      · skip
        have hp : taT ht sta pl = 1 := hp
        subst hE
        refine vx_catch (E := "java/lang/IndexOutOfBoundsException") (name := "java/lang/IndexOutOfBoundsException") hown [] ⟨0, 6, 7, 28⟩ [⟨0, 6, 11, 42⟩] (by rw [htab]; rfl) (fun z hz => by cases hz) (by decide) (by decide) (hts (.classLink RL 28 "java/lang/IndexOutOfBoundsException") (List.mem_of_getElem? (i := 1) rfl)) (va_Nw.use rfl (hC.2.2.2.2.2.2.2.2.2.2.1 "java/lang/IndexOutOfBoundsException" (List.mem_of_getElem? (i := 2) rfl))) hcell hv9 hcl ?_
        refine lv_astore_n (lv' := [(3, .ref q9), (0, .ref aR), (1, .int (iI sta)), (2, .int (iI pl))]) hx hb dL_taperAt_7 rfl hl (by decide) rfl (fun ls hl => ?_)
        refine x_ldc (v := -900001) hx hb hown (hts (.constant RL 17 (-900001)) (List.mem_of_getElem? (i := 3) rfl)) (by decide) dL_taperAt_8 ?_
        rw [hQ9]
        exact x_iret hx hb hr hlocks hP hD hS (S := Unit) rfl dL_taperAt_10 () (by
            first
            | (
               first | (rw [if_pos (by omega)]; first | assumption | (subst_vars; rfl)) | (rw [if_neg (by omega)]; omega))
            | fail "q9") trivial rfl (Nat.le_of_ble_eq_true rfl) (Nat.le_of_ble_eq_true rfl)
      · skip
        have hp : taT ht sta pl = 2 := hp
        subst hE
        refine vx_catch (E := "java/util/NoSuchElementException") (name := "java/util/NoSuchElementException") hown [⟨0, 6, 7, 28⟩] ⟨0, 6, 11, 42⟩ [] (by rw [htab]; rfl) (fun z hz => by rcases List.mem_cons.mp hz with rfl | hz; exact Or.inr ⟨by decide, "java/lang/IndexOutOfBoundsException", (hts (.classLink RL 28 "java/lang/IndexOutOfBoundsException") (List.mem_of_getElem? (i := 1) rfl)), hC.d.2.2.2.2.2.1 ("java/util/NoSuchElementException", "java/lang/IndexOutOfBoundsException") (List.mem_of_getElem? (i := 17) (by decide +kernel))⟩; cases hz) (by decide) (by decide) (hts (.classLink RL 42 "java/util/NoSuchElementException") (List.mem_of_getElem? (i := 2) rfl)) (va_Nw.use rfl (hC.2.2.2.2.2.2.2.2.2.2.1 "java/util/NoSuchElementException" (List.mem_of_getElem? (i := 3) rfl))) hcell hv9 hcl ?_
        refine lv_astore_n (lv' := [(3, .ref q9), (0, .ref aR), (1, .int (iI sta)), (2, .int (iI pl))]) hx hb dL_taperAt_11 rfl hl (by decide) rfl (fun ls hl => ?_)
        refine x_ldc (v := -900002) hx hb hown (hts (.constant RL 20 (-900002)) (List.mem_of_getElem? (i := 4) rfl)) (by decide) dL_taperAt_12 ?_
        rw [hQ9]
        exact x_iret hx hb hr hlocks hP hD hS (S := Unit) rfl dL_taperAt_14 () (by
            first
            | (
               first | (rw [if_pos (by omega)]; first | assumption | (subst_vars; rfl)) | (rw [if_neg (by omega)]; omega))
            | fail "q9") trivial rfl (Nat.le_of_ble_eq_true rfl) (Nat.le_of_ble_eq_true rfl)
    · skip
      have hP : va_P (gD g) vwCl [(aR, .inr (11, [.ref aG, .ref aP, .ref aH, .ref aY, .ref aT, .ref aS, .ref aF, .ref aX, .int (iI pr), .int (iI tk), .int (iI tol), .int (iI hou)])), (aY, .inr (10, [.ref aYh, .ref aYt, .ref aYc])), (aYh, .inl (gI g, 3, .inl (ar ht))), (aYt, .inl (gI g, 36, .inl (ar yt)))] H := hP
      have hD : va_D A [(aR, .inr (11, [.ref aG, .ref aP, .ref aH, .ref aY, .ref aT, .ref aS, .ref aF, .ref aX, .int (iI pr), .int (iI tk), .int (iI tol), .int (iI hou)])), (aY, .inr (10, [.ref aYh, .ref aYt, .ref aYc])), (aYh, .inl (gI g, 3, .inl (ar ht))), (aYt, .inl (gI g, 36, .inl (ar yt)))] := hD
      have hv_1 : v_1 = yt (sta * 12 + pl) := hv_1
      obtain ⟨tv_1, pv_1⟩ := pv_1
      have tv_1 : taT ht sta pl = 0 := tv_1
      rw [hQ9]
      exact x_iret hx hb hr hlocks hP hD hS (S := Unit) rfl dL_taperAt_6 () (by
          first
          | (
             first | (rw [if_pos (by omega)]; first | assumption | (subst_vars; rfl)) | (rw [if_neg (by omega)]; omega))
          | fail "q9") trivial rfl (Nat.le_of_ble_eq_true rfl) (Nat.le_of_ble_eq_true rfl)
  rw [hH, hlo, hQ9] at goal_
  exact goal_

set_option maxHeartbeats 4000000 in
set_option maxRecDepth 100000 in
theorem c_L_hoursToCure (l : Launch) (hflags : l.stackTraces = false) (g : xg) (sz : Nat) (aR aG aP aH aY aT aS aF aX aYh aYt aYc : Nat) (pr tk tol hou sta : Int) (ht yc : Int → Int) (hb_ht : bnd ht 0 12) (hhou : 0 ≤ hou ∧ hou ≤ 5000) (hb_yc : bnd yc 0 5000) (hr_sta : iR sta) : Met l yL_hoursToCure wsL_hoursToCure { frames := 8, cells := 2, slots := 12, locals := 135 } (va_Pc [.ref aR, .int (iI sta)] (xB g [(aR, .inr (11, [.ref aG, .ref aP, .ref aH, .ref aY, .ref aT, .ref aS, .ref aF, .ref aX, .int (iI pr), .int (iI tk), .int (iI tol), .int (iI hou)])), (aY, .inr (10, [.ref aYh, .ref aYt, .ref aYc])), (aYh, .inl (gI g, 3, .inl (ar ht))), (aYc, .inl (gI g, 36, .inl (ar yc)))] sz)) (va_Qi (fun r u => r = iI ((fun (u : Unit) => (if emT ht sta = 0 then mx 0 (yc (sta * 12 + (ht sta - 1)) + 24 - hou) else -900000 - emT ht sta)) u) ∧ (fun (u : Unit) => True) u) (fun u t => xE g (va_A [(aR, .inr (11, [.ref aG, .ref aP, .ref aH, .ref aY, .ref aT, .ref aS, .ref aF, .ref aX, .int (iI pr), .int (iI tk), .int (iI tol), .int (iI hou)])), (aY, .inr (10, [.ref aYh, .ref aYt, .ref aYc])), (aYh, .inl (gI g, 3, .inl (ar ht))), (aYc, .inl (gI g, 36, .inl (ar yc)))] sz) ((fun (u : Unit) => [(aR, .inr (11, [.ref aG, .ref aP, .ref aH, .ref aY, .ref aT, .ref aS, .ref aF, .ref aX, .int (iI pr), .int (iI tk), .int (iI tol), .int (iI hou)])), (aY, .inr (10, [.ref aYh, .ref aYt, .ref aYc])), (aYh, .inl (gI g, 3, .inl (ar ht))), (aYc, .inl (gI g, 36, .inl (ar yc)))]) u) t) (va_A [(aR, .inr (11, [.ref aG, .ref aP, .ref aH, .ref aY, .ref aT, .ref aS, .ref aF, .ref aX, .int (iI pr), .int (iI tk), .int (iI tol), .int (iI hou)])), (aY, .inr (10, [.ref aYh, .ref aYt, .ref aYc])), (aYh, .inl (gI g, 3, .inl (ar ht))), (aYc, .inl (gI g, 36, .inl (ar yc)))] sz)) 2 12 (va_A [(aR, .inr (11, [.ref aG, .ref aP, .ref aH, .ref aY, .ref aT, .ref aS, .ref aF, .ref aX, .int (iI pr), .int (iI tk), .int (iI tol), .int (iI hou)])), (aY, .inr (10, [.ref aYh, .ref aYt, .ref aYc])), (aYh, .inl (gI g, 3, .inl (ar ht))), (aYc, .inl (gI g, 36, .inl (ar yc)))] sz) := by
  refine x_enterH (y := yL_hoursToCure) (ws := wsL_hoursToCure) (g := g) (sz := sz) (av := [.ref aR, .int (iI sta)]) (WS := [(aR, .inr (11, [.ref aG, .ref aP, .ref aH, .ref aY, .ref aT, .ref aS, .ref aF, .ref aX, .int (iI pr), .int (iI tk), .int (iI tol), .int (iI hou)])), (aY, .inr (10, [.ref aYh, .ref aYt, .ref aYc])), (aYh, .inl (gI g, 3, .inl (ar ht))), (aYc, .inl (gI g, 36, .inl (ar yc)))]) (cc := cL_hoursToCure) (maxL := 3) (ret := some .int) (Qc := (fun A => (va_Qi (fun r u => r = iI ((fun (u : Unit) => (if emT ht sta = 0 then mx 0 (yc (sta * 12 + (ht sta - 1)) + 24 - hou) else -900000 - emT ht sta)) u) ∧ (fun (u : Unit) => True) u) (fun u t => xE g A ((fun (u : Unit) => [(aR, .inr (11, [.ref aG, .ref aP, .ref aH, .ref aY, .ref aT, .ref aS, .ref aF, .ref aX, .int (iI pr), .int (iI tk), .int (iI tol), .int (iI hou)])), (aY, .inr (10, [.ref aYh, .ref aYt, .ref aYc])), (aYh, .inl (gI g, 3, .inl (ar ht))), (aYc, .inl (gI g, 36, .inl (ar yc)))]) u) t) A))) (by decide) rfl (Nat.le_of_ble_eq_true rfl) ?_
  intro p e s m args below meth c A ls hx hb hr hml hown hts hlocks htab hC hP hD hS hA hl
  have hK := hC.1
  have hown : s.vm.findClass RL = some m.cls := hown
  have hl : lv_has ls 3 [(0, .ref aR), (1, .int (iI sta))] := hl
  obtain ⟨H, hH⟩ : ∃ z, z = s.heap := ⟨_, rfl⟩
  obtain ⟨locs, hlo⟩ : ∃ z : List Loc, z = [] := ⟨_, rfl⟩
  obtain ⟨Q9, hQ9⟩ : ∃ z, z = MQ below (va_Qi (fun r u => r = iI ((fun (u : Unit) => (if emT ht sta = 0 then mx 0 (yc (sta * 12 + (ht sta - 1)) + 24 - hou) else -900000 - emT ht sta)) u) ∧ (fun (u : Unit) => True) u) (fun u t => xE g A ((fun (u : Unit) => [(aR, .inr (11, [.ref aG, .ref aP, .ref aH, .ref aY, .ref aT, .ref aS, .ref aF, .ref aX, .int (iI pr), .int (iI tk), .int (iI tol), .int (iI hou)])), (aY, .inr (10, [.ref aYh, .ref aYt, .ref aYc])), (aYh, .inl (gI g, 3, .inl (ar ht))), (aYc, .inl (gI g, 36, .inl (ar yc)))]) u) t) A) args s 2 12 A := ⟨_, rfl⟩
  have hP : va_P (gD g) vwCl [(aR, .inr (11, [.ref aG, .ref aP, .ref aH, .ref aY, .ref aT, .ref aS, .ref aF, .ref aX, .int (iI pr), .int (iI tk), .int (iI tol), .int (iI hou)])), (aY, .inr (10, [.ref aYh, .ref aYt, .ref aYc])), (aYh, .inl (gI g, 3, .inl (ar ht))), (aYc, .inl (gI g, 36, .inl (ar yc)))] H := by rw [hH]; exact hP
  have hS : va_S A s.heap H locs := by rw [hH, hlo]; exact hS
  have goal_ : W p l e { frames := 8, cells := 2, slots := 12, locals := 135 } s m args below meth c H locs 0 0 Q9 (F0 m 0 ls []) := by
    clear hH hlo
    refine lv_aload_n hx hb dL_hoursToCure_0 rfl (lv_at hl 0 rfl) ?_
    refine lv_iload_n hx hb dL_hoursToCure_1 rfl (lv_at hl 1 rfl) ?_
    refine x_calliX (S := Unit) (SX := Unit) (wc := [(aR, .inr (11, [.ref aG, .ref aP, .ref aH, .ref aY, .ref aT, .ref aS, .ref aF, .ref aX, .int (iI pr), .int (iI tk), .int (iI tol), .int (iI hou)])), (aY, .inr (10, [.ref aYh, .ref aYt, .ref aYc])), (aYh, .inl (gI g, 3, .inl (ar ht))), (aYc, .inl (gI g, 36, .inl (ar yc)))]) (wr := []) hC hP hD hS hA [0, 1, 2, 3] [] [0, 1, 2, 3] rfl rfl (fun hpre => vx_runV (As := [.int (iI sta)]) (rest := []) ⟨hx, hb, hml, hown, hts⟩ (c_X8_hoursToCure l hflags g H.size aR aG aP aH aY aT aS aF aX aYh aYt aYc pr tk tol hou sta ht yc (by first | (first | assumption | omega | exact bnd_up (by assumption) (by omega) (by omega)) | fail "q8") (by first | (first | assumption | omega | exact bnd_up (by assumption) (by omega) (by omega)) | fail "q8") (by first | (first | assumption | omega | exact bnd_up (by assumption) (by omega) (by omega)) | fail "q8") (by first | (first | assumption | omega | exact bnd_up (by assumption) (by omega) (by omega)) | fail "q8")) (cwV 1 hts gL_hoursToCure_X8_hoursToCure rfl rfl rfl (by decide +kernel) ⟨Nat.le_of_ble_eq_true rfl, Nat.le_of_ble_eq_true rfl⟩) ⟨xB_blind, va_recv hK hP (ci := 11) (q0 := 0) rfl rfl, hpre _⟩ rfl rfl hl.1 rfl (lv_room (Nat.le_of_ble_eq_true rfl)) dL_hoursToCure_2 ⟨Nat.le_of_ble_eq_true rfl, Nat.le_of_ble_eq_true rfl⟩) (fun (u : Unit) => [(aR, .inr (11, [.ref aG, .ref aP, .ref aH, .ref aY, .ref aT, .ref aS, .ref aF, .ref aX, .int (iI pr), .int (iI tk), .int (iI tol), .int (iI hou)])), (aY, .inr (10, [.ref aYh, .ref aYt, .ref aYc])), (aYh, .inl (gI g, 3, .inl (ar ht))), (aYc, .inl (gI g, 36, .inl (ar yc)))]) (fun (u : Unit) => ([(aR, .inr (11, [.ref aG, .ref aP, .ref aH, .ref aY, .ref aT, .ref aS, .ref aF, .ref aX, .int (iI pr), .int (iI tk), .int (iI tol), .int (iI hou)])), (aY, .inr (10, [.ref aYh, .ref aYt, .ref aYc])), (aYh, .inl (gI g, 3, .inl (ar ht))), (aYc, .inl (gI g, 36, .inl (ar yc)))] : va_W)) rfl rfl (by decide) (fun _ => rfl) (fun _ => rfl) rfl (fun E ce q9 u H locs hXP hPX hP hD hS hcell hv9 hcl => ?_) (fun u v_1 H locs hv_1 pv_1 hP hD hS => ?_)
    · skip
      have hP : va_P (gD g) vwCl [(aR, .inr (11, [.ref aG, .ref aP, .ref aH, .ref aY, .ref aT, .ref aS, .ref aF, .ref aX, .int (iI pr), .int (iI tk), .int (iI tol), .int (iI hou)])), (aY, .inr (10, [.ref aYh, .ref aYt, .ref aYc])), (aYh, .inl (gI g, 3, .inl (ar ht))), (aYc, .inl (gI g, 36, .inl (ar yc)))] H := hP
      have hD : va_D A [(aR, .inr (11, [.ref aG, .ref aP, .ref aH, .ref aY, .ref aT, .ref aS, .ref aF, .ref aX, .int (iI pr), .int (iI tk), .int (iI tol), .int (iI hou)])), (aY, .inr (10, [.ref aYh, .ref aYt, .ref aYc])), (aYh, .inl (gI g, 3, .inl (ar ht))), (aYc, .inl (gI g, 36, .inl (ar yc)))] := hD
      rcases hPX with ⟨hE, hp⟩ | ⟨hE, hp⟩
      · skip
        have hp : emT ht sta = 1 := hp
        subst hE
        refine vx_catch (E := "java/lang/IndexOutOfBoundsException") (name := "java/lang/IndexOutOfBoundsException") hown [] ⟨0, 5, 6, 28⟩ [⟨0, 5, 10, 42⟩] (by rw [htab]; rfl) (fun z hz => by cases hz) (by decide) (by decide) (hts (.classLink RL 28 "java/lang/IndexOutOfBoundsException") (List.mem_of_getElem? (i := 1) rfl)) (va_Nw.use rfl (hC.2.2.2.2.2.2.2.2.2.2.1 "java/lang/IndexOutOfBoundsException" (List.mem_of_getElem? (i := 2) rfl))) hcell hv9 hcl ?_
        refine lv_astore_n (lv' := [(2, .ref q9), (0, .ref aR), (1, .int (iI sta))]) hx hb dL_hoursToCure_6 rfl hl (by decide) rfl (fun ls hl => ?_)
        refine x_ldc (v := -900001) hx hb hown (hts (.constant RL 17 (-900001)) (List.mem_of_getElem? (i := 3) rfl)) (by decide) dL_hoursToCure_7 ?_
        rw [hQ9]
        exact x_iret hx hb hr hlocks hP hD hS (S := Unit) rfl dL_hoursToCure_9 () (by
            first
            | (
               first | (rw [if_pos (by omega)]; first | assumption | (subst_vars; rfl)) | (rw [if_neg (by omega)]; omega))
            | fail "q9") trivial rfl (Nat.le_of_ble_eq_true rfl) (Nat.le_of_ble_eq_true rfl)
      · skip
        have hp : emT ht sta = 2 := hp
        subst hE
        refine vx_catch (E := "java/util/NoSuchElementException") (name := "java/util/NoSuchElementException") hown [⟨0, 5, 6, 28⟩] ⟨0, 5, 10, 42⟩ [] (by rw [htab]; rfl) (fun z hz => by rcases List.mem_cons.mp hz with rfl | hz; exact Or.inr ⟨by decide, "java/lang/IndexOutOfBoundsException", (hts (.classLink RL 28 "java/lang/IndexOutOfBoundsException") (List.mem_of_getElem? (i := 1) rfl)), hC.d.2.2.2.2.2.1 ("java/util/NoSuchElementException", "java/lang/IndexOutOfBoundsException") (List.mem_of_getElem? (i := 17) (by decide +kernel))⟩; cases hz) (by decide) (by decide) (hts (.classLink RL 42 "java/util/NoSuchElementException") (List.mem_of_getElem? (i := 2) rfl)) (va_Nw.use rfl (hC.2.2.2.2.2.2.2.2.2.2.1 "java/util/NoSuchElementException" (List.mem_of_getElem? (i := 3) rfl))) hcell hv9 hcl ?_
        refine lv_astore_n (lv' := [(2, .ref q9), (0, .ref aR), (1, .int (iI sta))]) hx hb dL_hoursToCure_10 rfl hl (by decide) rfl (fun ls hl => ?_)
        refine x_ldc (v := -900002) hx hb hown (hts (.constant RL 20 (-900002)) (List.mem_of_getElem? (i := 4) rfl)) (by decide) dL_hoursToCure_11 ?_
        rw [hQ9]
        exact x_iret hx hb hr hlocks hP hD hS (S := Unit) rfl dL_hoursToCure_13 () (by
            first
            | (
               first | (rw [if_pos (by omega)]; first | assumption | (subst_vars; rfl)) | (rw [if_neg (by omega)]; omega))
            | fail "q9") trivial rfl (Nat.le_of_ble_eq_true rfl) (Nat.le_of_ble_eq_true rfl)
    · skip
      have hP : va_P (gD g) vwCl [(aR, .inr (11, [.ref aG, .ref aP, .ref aH, .ref aY, .ref aT, .ref aS, .ref aF, .ref aX, .int (iI pr), .int (iI tk), .int (iI tol), .int (iI hou)])), (aY, .inr (10, [.ref aYh, .ref aYt, .ref aYc])), (aYh, .inl (gI g, 3, .inl (ar ht))), (aYc, .inl (gI g, 36, .inl (ar yc)))] H := hP
      have hD : va_D A [(aR, .inr (11, [.ref aG, .ref aP, .ref aH, .ref aY, .ref aT, .ref aS, .ref aF, .ref aX, .int (iI pr), .int (iI tk), .int (iI tol), .int (iI hou)])), (aY, .inr (10, [.ref aYh, .ref aYt, .ref aYc])), (aYh, .inl (gI g, 3, .inl (ar ht))), (aYc, .inl (gI g, 36, .inl (ar yc)))] := hD
      have hv_1 : v_1 = mx 0 (yc (sta * 12 + (ht sta - 1)) + 24 - hou) := hv_1
      obtain ⟨tv_1, pv_1⟩ := pv_1
      have tv_1 : emT ht sta = 0 := tv_1
      rw [hQ9]
      exact x_iret hx hb hr hlocks hP hD hS (S := Unit) rfl dL_hoursToCure_5 () (by
          first
          | (
             first | (rw [if_pos (by omega)]; first | assumption | (subst_vars; rfl)) | (rw [if_neg (by omega)]; omega))
          | fail "q9") trivial rfl (Nat.le_of_ble_eq_true rfl) (Nat.le_of_ble_eq_true rfl)
  rw [hH, hlo, hQ9] at goal_
  exact goal_

set_option maxHeartbeats 4000000 in
set_option maxRecDepth 100000 in
theorem c_L_restack (l : Launch) (hflags : l.stackTraces = false) (g : xg) (sz : Nat) (aR aG aP aH aY aT aS aF aX aYh aYt aYc : Nat) (pr tk tol hou sta stb : Int) (ht yt yc : Int → Int) (hb_ht : bnd ht 0 12) (hr_sta : iR sta) (hr_stb : iR stb) : Met l yL_restack wsL_restack { frames := 8, cells := 4, slots := 24, locals := 136 } (va_Pc [.ref aR, .int (iI sta), .int (iI stb)] (xB g [(aR, .inr (11, [.ref aG, .ref aP, .ref aH, .ref aY, .ref aT, .ref aS, .ref aF, .ref aX, .int (iI pr), .int (iI tk), .int (iI tol), .int (iI hou)])), (aY, .inr (10, [.ref aYh, .ref aYt, .ref aYc])), (aYh, .inl (gI g, 3, .inl (ar ht))), (aYt, .inl (gI g, 36, .inl (ar yt))), (aYc, .inl (gI g, 36, .inl (ar yc)))] sz)) (va_Qi (fun r u => r = iI ((fun (u : Unit) => (if reT ht sta stb = 0 then rsH ht sta stb stb else -900000 - reT ht sta stb)) u) ∧ (fun (u : Unit) => True) u) (fun u t => xE g (va_A [(aR, .inr (11, [.ref aG, .ref aP, .ref aH, .ref aY, .ref aT, .ref aS, .ref aF, .ref aX, .int (iI pr), .int (iI tk), .int (iI tol), .int (iI hou)])), (aY, .inr (10, [.ref aYh, .ref aYt, .ref aYc])), (aYh, .inl (gI g, 3, .inl (ar ht))), (aYt, .inl (gI g, 36, .inl (ar yt))), (aYc, .inl (gI g, 36, .inl (ar yc)))] sz) ((fun (u : Unit) => [(aR, .inr (11, [.ref aG, .ref aP, .ref aH, .ref aY, .ref aT, .ref aS, .ref aF, .ref aX, .int (iI pr), .int (iI tk), .int (iI tol), .int (iI hou)])), (aY, .inr (10, [.ref aYh, .ref aYt, .ref aYc])), (aYh, .inl (gI g, 3, .inl (ar (if reT ht sta stb = 0 then (rsH ht sta stb) else ht)))), (aYt, .inl (gI g, 36, .inl (ar (if reT ht sta stb = 0 then (rsF ht yt sta stb) else yt)))), (aYc, .inl (gI g, 36, .inl (ar (if reT ht sta stb = 0 then (rsF ht yc sta stb) else yc))))]) u) t) (va_A [(aR, .inr (11, [.ref aG, .ref aP, .ref aH, .ref aY, .ref aT, .ref aS, .ref aF, .ref aX, .int (iI pr), .int (iI tk), .int (iI tol), .int (iI hou)])), (aY, .inr (10, [.ref aYh, .ref aYt, .ref aYc])), (aYh, .inl (gI g, 3, .inl (ar ht))), (aYt, .inl (gI g, 36, .inl (ar yt))), (aYc, .inl (gI g, 36, .inl (ar yc)))] sz)) 4 24 (va_A [(aR, .inr (11, [.ref aG, .ref aP, .ref aH, .ref aY, .ref aT, .ref aS, .ref aF, .ref aX, .int (iI pr), .int (iI tk), .int (iI tol), .int (iI hou)])), (aY, .inr (10, [.ref aYh, .ref aYt, .ref aYc])), (aYh, .inl (gI g, 3, .inl (ar ht))), (aYt, .inl (gI g, 36, .inl (ar yt))), (aYc, .inl (gI g, 36, .inl (ar yc)))] sz) := by
  refine x_enterH (y := yL_restack) (ws := wsL_restack) (g := g) (sz := sz) (av := [.ref aR, .int (iI sta), .int (iI stb)]) (WS := [(aR, .inr (11, [.ref aG, .ref aP, .ref aH, .ref aY, .ref aT, .ref aS, .ref aF, .ref aX, .int (iI pr), .int (iI tk), .int (iI tol), .int (iI hou)])), (aY, .inr (10, [.ref aYh, .ref aYt, .ref aYc])), (aYh, .inl (gI g, 3, .inl (ar ht))), (aYt, .inl (gI g, 36, .inl (ar yt))), (aYc, .inl (gI g, 36, .inl (ar yc)))]) (cc := cL_restack) (maxL := 4) (ret := some .int) (Qc := (fun A => (va_Qi (fun r u => r = iI ((fun (u : Unit) => (if reT ht sta stb = 0 then rsH ht sta stb stb else -900000 - reT ht sta stb)) u) ∧ (fun (u : Unit) => True) u) (fun u t => xE g A ((fun (u : Unit) => [(aR, .inr (11, [.ref aG, .ref aP, .ref aH, .ref aY, .ref aT, .ref aS, .ref aF, .ref aX, .int (iI pr), .int (iI tk), .int (iI tol), .int (iI hou)])), (aY, .inr (10, [.ref aYh, .ref aYt, .ref aYc])), (aYh, .inl (gI g, 3, .inl (ar (if reT ht sta stb = 0 then (rsH ht sta stb) else ht)))), (aYt, .inl (gI g, 36, .inl (ar (if reT ht sta stb = 0 then (rsF ht yt sta stb) else yt)))), (aYc, .inl (gI g, 36, .inl (ar (if reT ht sta stb = 0 then (rsF ht yc sta stb) else yc))))]) u) t) A))) (by decide) rfl (Nat.le_of_ble_eq_true rfl) ?_
  intro p e s m args below meth c A ls hx hb hr hml hown hts hlocks htab hC hP hD hS hA hl
  have hK := hC.1
  have hown : s.vm.findClass RL = some m.cls := hown
  have hl : lv_has ls 4 [(0, .ref aR), (1, .int (iI sta)), (2, .int (iI stb))] := hl
  obtain ⟨H, hH⟩ : ∃ z, z = s.heap := ⟨_, rfl⟩
  obtain ⟨locs, hlo⟩ : ∃ z : List Loc, z = [] := ⟨_, rfl⟩
  obtain ⟨Q9, hQ9⟩ : ∃ z, z = MQ below (va_Qi (fun r u => r = iI ((fun (u : Unit) => (if reT ht sta stb = 0 then rsH ht sta stb stb else -900000 - reT ht sta stb)) u) ∧ (fun (u : Unit) => True) u) (fun u t => xE g A ((fun (u : Unit) => [(aR, .inr (11, [.ref aG, .ref aP, .ref aH, .ref aY, .ref aT, .ref aS, .ref aF, .ref aX, .int (iI pr), .int (iI tk), .int (iI tol), .int (iI hou)])), (aY, .inr (10, [.ref aYh, .ref aYt, .ref aYc])), (aYh, .inl (gI g, 3, .inl (ar (if reT ht sta stb = 0 then (rsH ht sta stb) else ht)))), (aYt, .inl (gI g, 36, .inl (ar (if reT ht sta stb = 0 then (rsF ht yt sta stb) else yt)))), (aYc, .inl (gI g, 36, .inl (ar (if reT ht sta stb = 0 then (rsF ht yc sta stb) else yc))))]) u) t) A) args s 4 24 A := ⟨_, rfl⟩
  have hP : va_P (gD g) vwCl [(aR, .inr (11, [.ref aG, .ref aP, .ref aH, .ref aY, .ref aT, .ref aS, .ref aF, .ref aX, .int (iI pr), .int (iI tk), .int (iI tol), .int (iI hou)])), (aY, .inr (10, [.ref aYh, .ref aYt, .ref aYc])), (aYh, .inl (gI g, 3, .inl (ar ht))), (aYt, .inl (gI g, 36, .inl (ar yt))), (aYc, .inl (gI g, 36, .inl (ar yc)))] H := by rw [hH]; exact hP
  have hS : va_S A s.heap H locs := by rw [hH, hlo]; exact hS
  have goal_ : W p l e { frames := 8, cells := 4, slots := 24, locals := 136 } s m args below meth c H locs 0 0 Q9 (F0 m 0 ls []) := by
    clear hH hlo
    refine lv_aload_n hx hb dL_restack_0 rfl (lv_at hl 0 rfl) ?_
    refine lv_iload_n hx hb dL_restack_1 rfl (lv_at hl 1 rfl) ?_
    refine lv_iload_n hx hb dL_restack_2 rfl (lv_at hl 2 rfl) ?_
    refine x_calliX (S := Unit) (SX := Unit) (wc := [(aR, .inr (11, [.ref aG, .ref aP, .ref aH, .ref aY, .ref aT, .ref aS, .ref aF, .ref aX, .int (iI pr), .int (iI tk), .int (iI tol), .int (iI hou)])), (aY, .inr (10, [.ref aYh, .ref aYt, .ref aYc])), (aYh, .inl (gI g, 3, .inl (ar ht))), (aYt, .inl (gI g, 36, .inl (ar yt))), (aYc, .inl (gI g, 36, .inl (ar yc)))]) (wr := []) hC hP hD hS hA [0, 1, 2, 3, 4] [] [0, 1, 2, 3, 4] rfl rfl (fun hpre => vx_runV (As := [.int (iI sta), .int (iI stb)]) (rest := []) ⟨hx, hb, hml, hown, hts⟩ (c_X8_restack l hflags g H.size aR aG aP aH aY aT aS aF aX aYh aYt aYc pr tk tol hou sta stb ht yt yc (by first | (first | assumption | omega | exact bnd_up (by assumption) (by omega) (by omega)) | fail "q8") (by first | (first | assumption | omega | exact bnd_up (by assumption) (by omega) (by omega)) | fail "q8") (by first | (first | assumption | omega | exact bnd_up (by assumption) (by omega) (by omega)) | fail "q8")) (cwV 2 hts gL_restack_X8_restack rfl rfl rfl (by decide +kernel) ⟨Nat.le_of_ble_eq_true rfl, Nat.le_of_ble_eq_true rfl⟩) ⟨xB_blind, va_recv hK hP (ci := 11) (q0 := 0) rfl rfl, hpre _⟩ rfl rfl hl.1 rfl (lv_room (Nat.le_of_ble_eq_true rfl)) dL_restack_3 ⟨Nat.le_of_ble_eq_true rfl, Nat.le_of_ble_eq_true rfl⟩) (fun (u : Unit) => [(aR, .inr (11, [.ref aG, .ref aP, .ref aH, .ref aY, .ref aT, .ref aS, .ref aF, .ref aX, .int (iI pr), .int (iI tk), .int (iI tol), .int (iI hou)])), (aY, .inr (10, [.ref aYh, .ref aYt, .ref aYc])), (aYh, .inl (gI g, 3, .inl (ar (rsH ht sta stb)))), (aYt, .inl (gI g, 36, .inl (ar (rsF ht yt sta stb)))), (aYc, .inl (gI g, 36, .inl (ar (rsF ht yc sta stb))))]) (fun (u : Unit) => ([(aR, .inr (11, [.ref aG, .ref aP, .ref aH, .ref aY, .ref aT, .ref aS, .ref aF, .ref aX, .int (iI pr), .int (iI tk), .int (iI tol), .int (iI hou)])), (aY, .inr (10, [.ref aYh, .ref aYt, .ref aYc])), (aYh, .inl (gI g, 3, .inl (ar ht))), (aYt, .inl (gI g, 36, .inl (ar yt))), (aYc, .inl (gI g, 36, .inl (ar yc)))] : va_W)) rfl rfl (by decide) (fun _ => rfl) (fun _ => rfl) rfl (fun E ce q9 u H locs hXP hPX hP hD hS hcell hv9 hcl => ?_) (fun u v_1 H locs hv_1 pv_1 hP hD hS => ?_)
    · skip
      have hP : va_P (gD g) vwCl [(aR, .inr (11, [.ref aG, .ref aP, .ref aH, .ref aY, .ref aT, .ref aS, .ref aF, .ref aX, .int (iI pr), .int (iI tk), .int (iI tol), .int (iI hou)])), (aY, .inr (10, [.ref aYh, .ref aYt, .ref aYc])), (aYh, .inl (gI g, 3, .inl (ar ht))), (aYt, .inl (gI g, 36, .inl (ar yt))), (aYc, .inl (gI g, 36, .inl (ar yc)))] H := hP
      have hD : va_D A [(aR, .inr (11, [.ref aG, .ref aP, .ref aH, .ref aY, .ref aT, .ref aS, .ref aF, .ref aX, .int (iI pr), .int (iI tk), .int (iI tol), .int (iI hou)])), (aY, .inr (10, [.ref aYh, .ref aYt, .ref aYc])), (aYh, .inl (gI g, 3, .inl (ar ht))), (aYt, .inl (gI g, 36, .inl (ar yt))), (aYc, .inl (gI g, 36, .inl (ar yc)))] := hD
      rcases hPX with ⟨hE, hp⟩ | ⟨hE, hp⟩ | ⟨hE, hp⟩
      · skip
        have hp : reT ht sta stb = 1 := hp
        subst hE
        refine vx_catch (E := "java/lang/IndexOutOfBoundsException") (name := "java/lang/IndexOutOfBoundsException") hown [] ⟨0, 6, 7, 28⟩ [⟨0, 6, 11, 42⟩, ⟨0, 6, 15, 18⟩] (by rw [htab]; rfl) (fun z hz => by cases hz) (by decide) (by decide) (hts (.classLink RL 28 "java/lang/IndexOutOfBoundsException") (List.mem_of_getElem? (i := 1) rfl)) (va_Nw.use rfl (hC.2.2.2.2.2.2.2.2.2.2.1 "java/lang/IndexOutOfBoundsException" (List.mem_of_getElem? (i := 2) rfl))) hcell hv9 hcl ?_
        refine lv_astore_n (lv' := [(3, .ref q9), (0, .ref aR), (1, .int (iI sta)), (2, .int (iI stb))]) hx hb dL_restack_7 rfl hl (by decide) rfl (fun ls hl => ?_)
        refine x_ldc (v := -900001) hx hb hown (hts (.constant RL 17 (-900001)) (List.mem_of_getElem? (i := 4) rfl)) (by decide) dL_restack_8 ?_
        have q_2 : (if reT ht sta stb = 0 then (rsH ht sta stb) else ht) = ht := by
          first
          | (
             first | rfl | (rw [if_pos (by omega)]) | (rw [if_neg (by omega)]) | (rw [if_pos (by omega)]; subst_vars; rfl))
          | fail "q9"
        have q_3 : (if reT ht sta stb = 0 then (rsF ht yt sta stb) else yt) = yt := by
          first
          | (
             first | rfl | (rw [if_pos (by omega)]) | (rw [if_neg (by omega)]) | (rw [if_pos (by omega)]; subst_vars; rfl))
          | fail "q9"
        have q_4 : (if reT ht sta stb = 0 then (rsF ht yc sta stb) else yc) = yc := by
          first
          | (
             first | rfl | (rw [if_pos (by omega)]) | (rw [if_neg (by omega)]) | (rw [if_pos (by omega)]; subst_vars; rfl))
          | fail "q9"
        have hw_5 := (congr (congr (congrArg (fun (z0 : Int → Int) (z1 : Int → Int) (z2 : Int → Int) => ([(aR, .inr (11, [.ref aG, .ref aP, .ref aH, .ref aY, .ref aT, .ref aS, .ref aF, .ref aX, .int (iI pr), .int (iI tk), .int (iI tol), .int (iI hou)])), (aY, .inr (10, [.ref aYh, .ref aYt, .ref aYc])), (aYh, .inl (gI g, 3, .inl (ar z0))), (aYt, .inl (gI g, 36, .inl (ar z1))), (aYc, .inl (gI g, 36, .inl (ar z2)))] : va_W)) q_2.symm) q_3.symm) q_4.symm)
        rw [hQ9]
        exact x_iret hx hb hr hlocks hP hD hS (S := Unit) rfl dL_restack_10 () (by
            first
            | (
               first | (rw [if_pos (by omega)]; first | assumption | (subst_vars; rfl)) | (rw [if_neg (by omega)]; omega))
            | fail "q9") trivial hw_5 (Nat.le_of_ble_eq_true rfl) (Nat.le_of_ble_eq_true rfl)
      · skip
        have hp : reT ht sta stb = 2 := hp
        subst hE
        refine vx_catch (E := "java/util/NoSuchElementException") (name := "java/util/NoSuchElementException") hown [⟨0, 6, 7, 28⟩] ⟨0, 6, 11, 42⟩ [⟨0, 6, 15, 18⟩] (by rw [htab]; rfl) (fun z hz => by rcases List.mem_cons.mp hz with rfl | hz; exact Or.inr ⟨by decide, "java/lang/IndexOutOfBoundsException", (hts (.classLink RL 28 "java/lang/IndexOutOfBoundsException") (List.mem_of_getElem? (i := 1) rfl)), hC.d.2.2.2.2.2.1 ("java/util/NoSuchElementException", "java/lang/IndexOutOfBoundsException") (List.mem_of_getElem? (i := 17) (by decide +kernel))⟩; cases hz) (by decide) (by decide) (hts (.classLink RL 42 "java/util/NoSuchElementException") (List.mem_of_getElem? (i := 2) rfl)) (va_Nw.use rfl (hC.2.2.2.2.2.2.2.2.2.2.1 "java/util/NoSuchElementException" (List.mem_of_getElem? (i := 3) rfl))) hcell hv9 hcl ?_
        refine lv_astore_n (lv' := [(3, .ref q9), (0, .ref aR), (1, .int (iI sta)), (2, .int (iI stb))]) hx hb dL_restack_11 rfl hl (by decide) rfl (fun ls hl => ?_)
        refine x_ldc (v := -900002) hx hb hown (hts (.constant RL 20 (-900002)) (List.mem_of_getElem? (i := 5) rfl)) (by decide) dL_restack_12 ?_
        have q_6 : (if reT ht sta stb = 0 then (rsH ht sta stb) else ht) = ht := by
          first
          | (
             first | rfl | (rw [if_pos (by omega)]) | (rw [if_neg (by omega)]) | (rw [if_pos (by omega)]; subst_vars; rfl))
          | fail "q9"
        have q_7 : (if reT ht sta stb = 0 then (rsF ht yt sta stb) else yt) = yt := by
          first
          | (
             first | rfl | (rw [if_pos (by omega)]) | (rw [if_neg (by omega)]) | (rw [if_pos (by omega)]; subst_vars; rfl))
          | fail "q9"
        have q_8 : (if reT ht sta stb = 0 then (rsF ht yc sta stb) else yc) = yc := by
          first
          | (
             first | rfl | (rw [if_pos (by omega)]) | (rw [if_neg (by omega)]) | (rw [if_pos (by omega)]; subst_vars; rfl))
          | fail "q9"
        have hw_9 := (congr (congr (congrArg (fun (z0 : Int → Int) (z1 : Int → Int) (z2 : Int → Int) => ([(aR, .inr (11, [.ref aG, .ref aP, .ref aH, .ref aY, .ref aT, .ref aS, .ref aF, .ref aX, .int (iI pr), .int (iI tk), .int (iI tol), .int (iI hou)])), (aY, .inr (10, [.ref aYh, .ref aYt, .ref aYc])), (aYh, .inl (gI g, 3, .inl (ar z0))), (aYt, .inl (gI g, 36, .inl (ar z1))), (aYc, .inl (gI g, 36, .inl (ar z2)))] : va_W)) q_6.symm) q_7.symm) q_8.symm)
        rw [hQ9]
        exact x_iret hx hb hr hlocks hP hD hS (S := Unit) rfl dL_restack_14 () (by
            first
            | (
               first | (rw [if_pos (by omega)]; first | assumption | (subst_vars; rfl)) | (rw [if_neg (by omega)]; omega))
            | fail "q9") trivial hw_9 (Nat.le_of_ble_eq_true rfl) (Nat.le_of_ble_eq_true rfl)
      · skip
        have hp : reT ht sta stb = 3 := hp
        subst hE
        refine vx_catch (E := "java/lang/IllegalStateException") (name := "java/lang/IllegalStateException") hown [⟨0, 6, 7, 28⟩, ⟨0, 6, 11, 42⟩] ⟨0, 6, 15, 18⟩ [] (by rw [htab]; rfl) (fun z hz => by rcases List.mem_cons.mp hz with rfl | hz; exact Or.inr ⟨by decide, "java/lang/IndexOutOfBoundsException", (hts (.classLink RL 28 "java/lang/IndexOutOfBoundsException") (List.mem_of_getElem? (i := 1) rfl)), hC.d.2.2.2.2.2.1 ("java/lang/IllegalStateException", "java/lang/IndexOutOfBoundsException") (List.mem_of_getElem? (i := 6) (by decide +kernel))⟩; rcases List.mem_cons.mp hz with rfl | hz; exact Or.inr ⟨by decide, "java/util/NoSuchElementException", (hts (.classLink RL 42 "java/util/NoSuchElementException") (List.mem_of_getElem? (i := 2) rfl)), hC.d.2.2.2.2.2.1 ("java/lang/IllegalStateException", "java/util/NoSuchElementException") (List.mem_of_getElem? (i := 7) (by decide +kernel))⟩; cases hz) (by decide) (by decide) (hts (.classLink RL 18 "java/lang/IllegalStateException") (List.mem_of_getElem? (i := 3) rfl)) (va_Nw.use rfl (hC.2.2.2.2.2.2.2.2.2.2.1 "java/lang/IllegalStateException" (List.mem_of_getElem? (i := 1) rfl))) hcell hv9 hcl ?_
        refine lv_astore_n (lv' := [(3, .ref q9), (0, .ref aR), (1, .int (iI sta)), (2, .int (iI stb))]) hx hb dL_restack_15 rfl hl (by decide) rfl (fun ls hl => ?_)
        refine x_ldc (v := -900003) hx hb hown (hts (.constant RL 30 (-900003)) (List.mem_of_getElem? (i := 6) rfl)) (by decide) dL_restack_16 ?_
        have q_10 : (if reT ht sta stb = 0 then (rsH ht sta stb) else ht) = ht := by
          first
          | (
             first | rfl | (rw [if_pos (by omega)]) | (rw [if_neg (by omega)]) | (rw [if_pos (by omega)]; subst_vars; rfl))
          | fail "q9"
        have q_11 : (if reT ht sta stb = 0 then (rsF ht yt sta stb) else yt) = yt := by
          first
          | (
             first | rfl | (rw [if_pos (by omega)]) | (rw [if_neg (by omega)]) | (rw [if_pos (by omega)]; subst_vars; rfl))
          | fail "q9"
        have q_12 : (if reT ht sta stb = 0 then (rsF ht yc sta stb) else yc) = yc := by
          first
          | (
             first | rfl | (rw [if_pos (by omega)]) | (rw [if_neg (by omega)]) | (rw [if_pos (by omega)]; subst_vars; rfl))
          | fail "q9"
        have hw_13 := (congr (congr (congrArg (fun (z0 : Int → Int) (z1 : Int → Int) (z2 : Int → Int) => ([(aR, .inr (11, [.ref aG, .ref aP, .ref aH, .ref aY, .ref aT, .ref aS, .ref aF, .ref aX, .int (iI pr), .int (iI tk), .int (iI tol), .int (iI hou)])), (aY, .inr (10, [.ref aYh, .ref aYt, .ref aYc])), (aYh, .inl (gI g, 3, .inl (ar z0))), (aYt, .inl (gI g, 36, .inl (ar z1))), (aYc, .inl (gI g, 36, .inl (ar z2)))] : va_W)) q_10.symm) q_11.symm) q_12.symm)
        rw [hQ9]
        exact x_iret hx hb hr hlocks hP hD hS (S := Unit) rfl dL_restack_18 () (by
            first
            | (
               first | (rw [if_pos (by omega)]; first | assumption | (subst_vars; rfl)) | (rw [if_neg (by omega)]; omega))
            | fail "q9") trivial hw_13 (Nat.le_of_ble_eq_true rfl) (Nat.le_of_ble_eq_true rfl)
    · skip
      have hP : va_P (gD g) vwCl [(aR, .inr (11, [.ref aG, .ref aP, .ref aH, .ref aY, .ref aT, .ref aS, .ref aF, .ref aX, .int (iI pr), .int (iI tk), .int (iI tol), .int (iI hou)])), (aY, .inr (10, [.ref aYh, .ref aYt, .ref aYc])), (aYh, .inl (gI g, 3, .inl (ar (rsH ht sta stb)))), (aYt, .inl (gI g, 36, .inl (ar (rsF ht yt sta stb)))), (aYc, .inl (gI g, 36, .inl (ar (rsF ht yc sta stb))))] H := hP
      have hD : va_D A [(aR, .inr (11, [.ref aG, .ref aP, .ref aH, .ref aY, .ref aT, .ref aS, .ref aF, .ref aX, .int (iI pr), .int (iI tk), .int (iI tol), .int (iI hou)])), (aY, .inr (10, [.ref aYh, .ref aYt, .ref aYc])), (aYh, .inl (gI g, 3, .inl (ar (rsH ht sta stb)))), (aYt, .inl (gI g, 36, .inl (ar (rsF ht yt sta stb)))), (aYc, .inl (gI g, 36, .inl (ar (rsF ht yc sta stb))))] := hD
      have hv_1 : v_1 = rsH ht sta stb stb := hv_1
      obtain ⟨tv_1, pv_1⟩ := pv_1
      have tv_1 : reT ht sta stb = 0 := tv_1
      have q_14 : (if reT ht sta stb = 0 then (rsH ht sta stb) else ht) = (rsH ht sta stb) := by
        first
        | (
           first | rfl | (rw [if_pos (by omega)]) | (rw [if_neg (by omega)]) | (rw [if_pos (by omega)]; subst_vars; rfl))
        | fail "q9"
      have q_15 : (if reT ht sta stb = 0 then (rsF ht yt sta stb) else yt) = (rsF ht yt sta stb) := by
        first
        | (
           first | rfl | (rw [if_pos (by omega)]) | (rw [if_neg (by omega)]) | (rw [if_pos (by omega)]; subst_vars; rfl))
        | fail "q9"
      have q_16 : (if reT ht sta stb = 0 then (rsF ht yc sta stb) else yc) = (rsF ht yc sta stb) := by
        first
        | (
           first | rfl | (rw [if_pos (by omega)]) | (rw [if_neg (by omega)]) | (rw [if_pos (by omega)]; subst_vars; rfl))
        | fail "q9"
      have hw_17 := (congr (congr (congrArg (fun (z0 : Int → Int) (z1 : Int → Int) (z2 : Int → Int) => ([(aR, .inr (11, [.ref aG, .ref aP, .ref aH, .ref aY, .ref aT, .ref aS, .ref aF, .ref aX, .int (iI pr), .int (iI tk), .int (iI tol), .int (iI hou)])), (aY, .inr (10, [.ref aYh, .ref aYt, .ref aYc])), (aYh, .inl (gI g, 3, .inl (ar z0))), (aYt, .inl (gI g, 36, .inl (ar z1))), (aYc, .inl (gI g, 36, .inl (ar z2)))] : va_W)) q_14.symm) q_15.symm) q_16.symm)
      rw [hQ9]
      exact x_iret hx hb hr hlocks hP hD hS (S := Unit) rfl dL_restack_6 () (by
          first
          | (
             first | (rw [if_pos (by omega)]; first | assumption | (subst_vars; rfl)) | (rw [if_neg (by omega)]; omega))
          | fail "q9") trivial hw_17 (Nat.le_of_ble_eq_true rfl) (Nat.le_of_ble_eq_true rfl)
  rw [hH, hlo, hQ9] at goal_
  exact goal_

set_option maxHeartbeats 4000000 in
set_option maxRecDepth 100000 in
theorem c_L_curedShare (l : Launch) (hflags : l.stackTraces = false) (g : xg) (sz : Nat) (aR aG aP aH aY aT aS aF aX aYh aYt aYc : Nat) (pr tk tol hou : Int) (ht yc : Int → Int) (hb_ht : bnd ht 0 12) (hhou : 0 ≤ hou ∧ hou ≤ 5000) (hb_yc : bnd yc 0 5000) : Met l yL_curedShare wsL_curedShare { frames := 7, cells := 1, slots := 6, locals := 113 } (va_Pc [.ref aR] (xB g [(aR, .inr (11, [.ref aG, .ref aP, .ref aH, .ref aY, .ref aT, .ref aS, .ref aF, .ref aX, .int (iI pr), .int (iI tk), .int (iI tol), .int (iI hou)])), (aY, .inr (10, [.ref aYh, .ref aYt, .ref aYc])), (aYh, .inl (gI g, 3, .inl (ar ht))), (aYc, .inl (gI g, 36, .inl (ar yc)))] sz)) (va_Qf (fun r u => r = (fun (u : Unit) => (if sumI ht 3 = 0 then 3378231824 else shF (sumI (cuF ht yc hou) 3) (sumI ht 3))) u ∧ (fun (u : Unit) => True) u) (fun u t => xE g (va_A [(aR, .inr (11, [.ref aG, .ref aP, .ref aH, .ref aY, .ref aT, .ref aS, .ref aF, .ref aX, .int (iI pr), .int (iI tk), .int (iI tol), .int (iI hou)])), (aY, .inr (10, [.ref aYh, .ref aYt, .ref aYc])), (aYh, .inl (gI g, 3, .inl (ar ht))), (aYc, .inl (gI g, 36, .inl (ar yc)))] sz) ((fun (u : Unit) => [(aR, .inr (11, [.ref aG, .ref aP, .ref aH, .ref aY, .ref aT, .ref aS, .ref aF, .ref aX, .int (iI pr), .int (iI tk), .int (iI tol), .int (iI hou)])), (aY, .inr (10, [.ref aYh, .ref aYt, .ref aYc])), (aYh, .inl (gI g, 3, .inl (ar ht))), (aYc, .inl (gI g, 36, .inl (ar yc)))]) u) t) (va_A [(aR, .inr (11, [.ref aG, .ref aP, .ref aH, .ref aY, .ref aT, .ref aS, .ref aF, .ref aX, .int (iI pr), .int (iI tk), .int (iI tol), .int (iI hou)])), (aY, .inr (10, [.ref aYh, .ref aYt, .ref aYc])), (aYh, .inl (gI g, 3, .inl (ar ht))), (aYc, .inl (gI g, 36, .inl (ar yc)))] sz)) 1 6 (va_A [(aR, .inr (11, [.ref aG, .ref aP, .ref aH, .ref aY, .ref aT, .ref aS, .ref aF, .ref aX, .int (iI pr), .int (iI tk), .int (iI tol), .int (iI hou)])), (aY, .inr (10, [.ref aYh, .ref aYt, .ref aYc])), (aYh, .inl (gI g, 3, .inl (ar ht))), (aYc, .inl (gI g, 36, .inl (ar yc)))] sz) := by
  refine x_enterH (y := yL_curedShare) (ws := wsL_curedShare) (g := g) (sz := sz) (av := [.ref aR]) (WS := [(aR, .inr (11, [.ref aG, .ref aP, .ref aH, .ref aY, .ref aT, .ref aS, .ref aF, .ref aX, .int (iI pr), .int (iI tk), .int (iI tol), .int (iI hou)])), (aY, .inr (10, [.ref aYh, .ref aYt, .ref aYc])), (aYh, .inl (gI g, 3, .inl (ar ht))), (aYc, .inl (gI g, 36, .inl (ar yc)))]) (cc := cL_curedShare) (maxL := 2) (ret := some .float) (Qc := (fun A => (va_Qf (fun r u => r = (fun (u : Unit) => (if sumI ht 3 = 0 then 3378231824 else shF (sumI (cuF ht yc hou) 3) (sumI ht 3))) u ∧ (fun (u : Unit) => True) u) (fun u t => xE g A ((fun (u : Unit) => [(aR, .inr (11, [.ref aG, .ref aP, .ref aH, .ref aY, .ref aT, .ref aS, .ref aF, .ref aX, .int (iI pr), .int (iI tk), .int (iI tol), .int (iI hou)])), (aY, .inr (10, [.ref aYh, .ref aYt, .ref aYc])), (aYh, .inl (gI g, 3, .inl (ar ht))), (aYc, .inl (gI g, 36, .inl (ar yc)))]) u) t) A))) (by decide) rfl (Nat.le_of_ble_eq_true rfl) ?_
  intro p e s m args below meth c A ls hx hb hr hml hown hts hlocks htab hC hP hD hS hA hl
  have hK := hC.1
  have hown : s.vm.findClass RL = some m.cls := hown
  have hl : lv_has ls 2 [(0, .ref aR)] := hl
  obtain ⟨H, hH⟩ : ∃ z, z = s.heap := ⟨_, rfl⟩
  obtain ⟨locs, hlo⟩ : ∃ z : List Loc, z = [] := ⟨_, rfl⟩
  obtain ⟨Q9, hQ9⟩ : ∃ z, z = MQ below (va_Qf (fun r u => r = (fun (u : Unit) => (if sumI ht 3 = 0 then 3378231824 else shF (sumI (cuF ht yc hou) 3) (sumI ht 3))) u ∧ (fun (u : Unit) => True) u) (fun u t => xE g A ((fun (u : Unit) => [(aR, .inr (11, [.ref aG, .ref aP, .ref aH, .ref aY, .ref aT, .ref aS, .ref aF, .ref aX, .int (iI pr), .int (iI tk), .int (iI tol), .int (iI hou)])), (aY, .inr (10, [.ref aYh, .ref aYt, .ref aYc])), (aYh, .inl (gI g, 3, .inl (ar ht))), (aYc, .inl (gI g, 36, .inl (ar yc)))]) u) t) A) args s 1 6 A := ⟨_, rfl⟩
  have hP : va_P (gD g) vwCl [(aR, .inr (11, [.ref aG, .ref aP, .ref aH, .ref aY, .ref aT, .ref aS, .ref aF, .ref aX, .int (iI pr), .int (iI tk), .int (iI tol), .int (iI hou)])), (aY, .inr (10, [.ref aYh, .ref aYt, .ref aYc])), (aYh, .inl (gI g, 3, .inl (ar ht))), (aYc, .inl (gI g, 36, .inl (ar yc)))] H := by rw [hH]; exact hP
  have hS : va_S A s.heap H locs := by rw [hH, hlo]; exact hS
  have goal_ : W p l e { frames := 7, cells := 1, slots := 6, locals := 113 } s m args below meth c H locs 0 0 Q9 (F0 m 0 ls []) := by
    clear hH hlo
    refine lv_aload_n hx hb dL_curedShare_0 rfl (lv_at hl 0 rfl) ?_
    refine x_callfX (S := Unit) (SX := Unit) (wc := [(aR, .inr (11, [.ref aG, .ref aP, .ref aH, .ref aY, .ref aT, .ref aS, .ref aF, .ref aX, .int (iI pr), .int (iI tk), .int (iI tol), .int (iI hou)])), (aY, .inr (10, [.ref aYh, .ref aYt, .ref aYc])), (aYh, .inl (gI g, 3, .inl (ar ht))), (aYc, .inl (gI g, 36, .inl (ar yc)))]) (wr := []) hC hP hD hS hA [0, 1, 2, 3] [] [0, 1, 2, 3] rfl rfl (fun hpre => vx_runV (As := []) (rest := []) ⟨hx, hb, hml, hown, hts⟩ (c_X8_curedShare l hflags g H.size aR aG aP aH aY aT aS aF aX aYh aYt aYc pr tk tol hou ht yc (by first | (first | assumption | omega | exact bnd_up (by assumption) (by omega) (by omega)) | fail "q8") (by first | (first | assumption | omega | exact bnd_up (by assumption) (by omega) (by omega)) | fail "q8") (by first | (first | assumption | omega | exact bnd_up (by assumption) (by omega) (by omega)) | fail "q8")) (cwV 0 hts gL_curedShare_X8_curedShare rfl rfl rfl (by decide +kernel) ⟨Nat.le_of_ble_eq_true rfl, Nat.le_of_ble_eq_true rfl⟩) ⟨xB_blind, va_recv hK hP (ci := 11) (q0 := 0) rfl rfl, hpre _⟩ rfl rfl hl.1 rfl (lv_room (Nat.le_of_ble_eq_true rfl)) dL_curedShare_1 ⟨Nat.le_of_ble_eq_true rfl, Nat.le_of_ble_eq_true rfl⟩) (fun (u : Unit) => [(aR, .inr (11, [.ref aG, .ref aP, .ref aH, .ref aY, .ref aT, .ref aS, .ref aF, .ref aX, .int (iI pr), .int (iI tk), .int (iI tol), .int (iI hou)])), (aY, .inr (10, [.ref aYh, .ref aYt, .ref aYc])), (aYh, .inl (gI g, 3, .inl (ar ht))), (aYc, .inl (gI g, 36, .inl (ar yc)))]) (fun (u : Unit) => ([(aR, .inr (11, [.ref aG, .ref aP, .ref aH, .ref aY, .ref aT, .ref aS, .ref aF, .ref aX, .int (iI pr), .int (iI tk), .int (iI tol), .int (iI hou)])), (aY, .inr (10, [.ref aYh, .ref aYt, .ref aYc])), (aYh, .inl (gI g, 3, .inl (ar ht))), (aYc, .inl (gI g, 36, .inl (ar yc)))] : va_W)) rfl rfl (by decide) (fun _ => rfl) (fun _ => rfl) rfl (fun E ce q9 u H locs hXP hPX hP hD hS hcell hv9 hcl => ?_) (fun u v_1 H locs hv_1 pv_1 hP hD hS => ?_)
    · skip
      have hP : va_P (gD g) vwCl [(aR, .inr (11, [.ref aG, .ref aP, .ref aH, .ref aY, .ref aT, .ref aS, .ref aF, .ref aX, .int (iI pr), .int (iI tk), .int (iI tol), .int (iI hou)])), (aY, .inr (10, [.ref aYh, .ref aYt, .ref aYc])), (aYh, .inl (gI g, 3, .inl (ar ht))), (aYc, .inl (gI g, 36, .inl (ar yc)))] H := hP
      have hD : va_D A [(aR, .inr (11, [.ref aG, .ref aP, .ref aH, .ref aY, .ref aT, .ref aS, .ref aF, .ref aX, .int (iI pr), .int (iI tk), .int (iI tol), .int (iI hou)])), (aY, .inr (10, [.ref aYh, .ref aYt, .ref aYc])), (aYh, .inl (gI g, 3, .inl (ar ht))), (aYc, .inl (gI g, 36, .inl (ar yc)))] := hD
      obtain ⟨hE, hp⟩ := hPX
      have hp : sumI ht 3 = 0 := hp
      subst hE
      refine vx_catch (E := "java/lang/ArithmeticException") (name := "java/lang/ArithmeticException") hown [] ⟨0, 4, 5, 54⟩ [] (by rw [htab]; rfl) (fun z hz => by cases hz) (by decide) (by decide) (hts (.classLink RL 54 "java/lang/ArithmeticException") (List.mem_of_getElem? (i := 1) rfl)) (va_Nw.use rfl (hC.2.2.2.2.2.2.2.2.2.2.1 "java/lang/ArithmeticException" (List.mem_of_getElem? (i := 4) rfl))) hcell hv9 hcl ?_
      refine lv_astore_n (lv' := [(1, .ref q9), (0, .ref aR)]) hx hb dL_curedShare_5 rfl hl (by decide) rfl (fun ls hl => ?_)
      refine lv_ldcf (v := 3378231824) hx hb hown (hts (.constantFloat RL 56 (3378231824)) (List.mem_of_getElem? (i := 2) rfl)) dL_curedShare_6 ?_
      rw [hQ9]
      exact x_fret hx hb hr hlocks hP hD hS (S := Unit)  dL_curedShare_8 () (by
          first
          | (
             first | (rw [if_pos (by omega)]) | (rw [if_neg (by omega)]; first | assumption | (subst_vars; rfl)))
          | fail "q9") trivial rfl (Nat.le_of_ble_eq_true rfl) (Nat.le_of_ble_eq_true rfl)
    · skip
      have hP : va_P (gD g) vwCl [(aR, .inr (11, [.ref aG, .ref aP, .ref aH, .ref aY, .ref aT, .ref aS, .ref aF, .ref aX, .int (iI pr), .int (iI tk), .int (iI tol), .int (iI hou)])), (aY, .inr (10, [.ref aYh, .ref aYt, .ref aYc])), (aYh, .inl (gI g, 3, .inl (ar ht))), (aYc, .inl (gI g, 36, .inl (ar yc)))] H := hP
      have hD : va_D A [(aR, .inr (11, [.ref aG, .ref aP, .ref aH, .ref aY, .ref aT, .ref aS, .ref aF, .ref aX, .int (iI pr), .int (iI tk), .int (iI tol), .int (iI hou)])), (aY, .inr (10, [.ref aYh, .ref aYt, .ref aYc])), (aYh, .inl (gI g, 3, .inl (ar ht))), (aYc, .inl (gI g, 36, .inl (ar yc)))] := hD
      have hv_1 : v_1 = shF (sumI (cuF ht yc hou) 3) (sumI ht 3) := hv_1
      obtain ⟨tv_1, pv_1⟩ := pv_1
      have tv_1 : sumI ht 3 ≠ 0 := tv_1
      rw [hQ9]
      exact x_fret hx hb hr hlocks hP hD hS (S := Unit)  dL_curedShare_4 () (by
          first
          | (
             first | (rw [if_pos (by omega)]) | (rw [if_neg (by omega)]; first | assumption | (subst_vars; rfl)))
          | fail "q9") trivial rfl (Nat.le_of_ble_eq_true rfl) (Nat.le_of_ble_eq_true rfl)
  rw [hH, hlo, hQ9] at goal_
  exact goal_

set_option maxHeartbeats 4000000 in
set_option maxRecDepth 100000 in
theorem c_L_setPressure (l : Launch) (hflags : l.stackTraces = false) (g : xg) (sz : Nat) (aR aG aP aH aY aT aS aF aX : Nat) (pr tk tol hou pre : Int) (hpr : 0 ≤ pr ∧ pr ≤ 100) (hr_pre : iR pre) : Met l yL_setPressure wsL_setPressure { frames := 8, cells := 1, slots := 6, locals := 136 } (va_Pc [.ref aR, .int (iI pre)] (xB g [(aR, .inr (11, [.ref aG, .ref aP, .ref aH, .ref aY, .ref aT, .ref aS, .ref aF, .ref aX, .int (iI pr), .int (iI tk), .int (iI tol), .int (iI hou)]))] sz)) (va_Qi (fun r u => r = iI ((fun (u : Unit) => (if inT 0 100 pre = 0 then pr else -900000 - inT 0 100 pre)) u) ∧ (fun (u : Unit) => True) u) (fun u t => xE g (va_A [(aR, .inr (11, [.ref aG, .ref aP, .ref aH, .ref aY, .ref aT, .ref aS, .ref aF, .ref aX, .int (iI pr), .int (iI tk), .int (iI tol), .int (iI hou)]))] sz) ((fun (u : Unit) => [(aR, .inr (11, [.ref aG, .ref aP, .ref aH, .ref aY, .ref aT, .ref aS, .ref aF, .ref aX, .int (iI (if inT 0 100 pre = 0 then pre else pr)), .int (iI tk), .int (iI tol), .int (iI hou)]))]) u) t) (va_A [(aR, .inr (11, [.ref aG, .ref aP, .ref aH, .ref aY, .ref aT, .ref aS, .ref aF, .ref aX, .int (iI pr), .int (iI tk), .int (iI tol), .int (iI hou)]))] sz)) 1 6 (va_A [(aR, .inr (11, [.ref aG, .ref aP, .ref aH, .ref aY, .ref aT, .ref aS, .ref aF, .ref aX, .int (iI pr), .int (iI tk), .int (iI tol), .int (iI hou)]))] sz) := by
  refine x_enterH (y := yL_setPressure) (ws := wsL_setPressure) (g := g) (sz := sz) (av := [.ref aR, .int (iI pre)]) (WS := [(aR, .inr (11, [.ref aG, .ref aP, .ref aH, .ref aY, .ref aT, .ref aS, .ref aF, .ref aX, .int (iI pr), .int (iI tk), .int (iI tol), .int (iI hou)]))]) (cc := cL_setPressure) (maxL := 3) (ret := some .int) (Qc := (fun A => (va_Qi (fun r u => r = iI ((fun (u : Unit) => (if inT 0 100 pre = 0 then pr else -900000 - inT 0 100 pre)) u) ∧ (fun (u : Unit) => True) u) (fun u t => xE g A ((fun (u : Unit) => [(aR, .inr (11, [.ref aG, .ref aP, .ref aH, .ref aY, .ref aT, .ref aS, .ref aF, .ref aX, .int (iI (if inT 0 100 pre = 0 then pre else pr)), .int (iI tk), .int (iI tol), .int (iI hou)]))]) u) t) A))) (by decide) rfl (Nat.le_of_ble_eq_true rfl) ?_
  intro p e s m args below meth c A ls hx hb hr hml hown hts hlocks htab hC hP hD hS hA hl
  have hK := hC.1
  have hown : s.vm.findClass RL = some m.cls := hown
  have hl : lv_has ls 3 [(0, .ref aR), (1, .int (iI pre))] := hl
  obtain ⟨H, hH⟩ : ∃ z, z = s.heap := ⟨_, rfl⟩
  obtain ⟨locs, hlo⟩ : ∃ z : List Loc, z = [] := ⟨_, rfl⟩
  obtain ⟨Q9, hQ9⟩ : ∃ z, z = MQ below (va_Qi (fun r u => r = iI ((fun (u : Unit) => (if inT 0 100 pre = 0 then pr else -900000 - inT 0 100 pre)) u) ∧ (fun (u : Unit) => True) u) (fun u t => xE g A ((fun (u : Unit) => [(aR, .inr (11, [.ref aG, .ref aP, .ref aH, .ref aY, .ref aT, .ref aS, .ref aF, .ref aX, .int (iI (if inT 0 100 pre = 0 then pre else pr)), .int (iI tk), .int (iI tol), .int (iI hou)]))]) u) t) A) args s 1 6 A := ⟨_, rfl⟩
  have hP : va_P (gD g) vwCl [(aR, .inr (11, [.ref aG, .ref aP, .ref aH, .ref aY, .ref aT, .ref aS, .ref aF, .ref aX, .int (iI pr), .int (iI tk), .int (iI tol), .int (iI hou)]))] H := by rw [hH]; exact hP
  have hS : va_S A s.heap H locs := by rw [hH, hlo]; exact hS
  have goal_ : W p l e { frames := 8, cells := 1, slots := 6, locals := 136 } s m args below meth c H locs 0 0 Q9 (F0 m 0 ls []) := by
    clear hH hlo
    refine lv_aload_n hx hb dL_setPressure_0 rfl (lv_at hl 0 rfl) ?_
    refine lv_iload_n hx hb dL_setPressure_1 rfl (lv_at hl 1 rfl) ?_
    refine x_calliX (S := Unit) (SX := Unit) (wc := [(aR, .inr (11, [.ref aG, .ref aP, .ref aH, .ref aY, .ref aT, .ref aS, .ref aF, .ref aX, .int (iI pr), .int (iI tk), .int (iI tol), .int (iI hou)]))]) (wr := []) hC hP hD hS hA [0] [] [0] rfl rfl (fun hpre => vx_runV (As := [.int (iI pre)]) (rest := []) ⟨hx, hb, hml, hown, hts⟩ (c_X8_setPressure l hflags g H.size aR aG aP aH aY aT aS aF aX pr tk tol hou pre (by first | (first | assumption | omega | exact bnd_up (by assumption) (by omega) (by omega)) | fail "q8") (by first | (first | assumption | omega | exact bnd_up (by assumption) (by omega) (by omega)) | fail "q8")) (cwV 1 hts gL_setPressure_X8_setPressure rfl rfl rfl (by decide +kernel) ⟨Nat.le_of_ble_eq_true rfl, Nat.le_of_ble_eq_true rfl⟩) ⟨xB_blind, va_recv hK hP (ci := 11) (q0 := 0) rfl rfl, hpre _⟩ rfl rfl hl.1 rfl (lv_room (Nat.le_of_ble_eq_true rfl)) dL_setPressure_2 ⟨Nat.le_of_ble_eq_true rfl, Nat.le_of_ble_eq_true rfl⟩) (fun (u : Unit) => [(aR, .inr (11, [.ref aG, .ref aP, .ref aH, .ref aY, .ref aT, .ref aS, .ref aF, .ref aX, .int (iI pre), .int (iI tk), .int (iI tol), .int (iI hou)]))]) (fun (u : Unit) => ([(aR, .inr (11, [.ref aG, .ref aP, .ref aH, .ref aY, .ref aT, .ref aS, .ref aF, .ref aX, .int (iI pr), .int (iI tk), .int (iI tol), .int (iI hou)]))] : va_W)) rfl rfl (by decide) (fun _ => rfl) (fun _ => rfl) rfl (fun E ce q9 u H locs hXP hPX hP hD hS hcell hv9 hcl => ?_) (fun u v_1 H locs hv_1 pv_1 hP hD hS => ?_)
    · skip
      have hP : va_P (gD g) vwCl [(aR, .inr (11, [.ref aG, .ref aP, .ref aH, .ref aY, .ref aT, .ref aS, .ref aF, .ref aX, .int (iI pr), .int (iI tk), .int (iI tol), .int (iI hou)]))] H := hP
      have hD : va_D A [(aR, .inr (11, [.ref aG, .ref aP, .ref aH, .ref aY, .ref aT, .ref aS, .ref aF, .ref aX, .int (iI pr), .int (iI tk), .int (iI tol), .int (iI hou)]))] := hD
      obtain ⟨hE, hp⟩ := hPX
      have hp : inT 0 100 pre = 1 := hp
      subst hE
      refine vx_catch (E := "java/lang/IllegalArgumentException") (name := "java/lang/IllegalArgumentException") hown [] ⟨0, 5, 6, 15⟩ [] (by rw [htab]; rfl) (fun z hz => by cases hz) (by decide) (by decide) (hts (.classLink RL 15 "java/lang/IllegalArgumentException") (List.mem_of_getElem? (i := 1) rfl)) (va_Nw.use rfl (hC.2.2.2.2.2.2.2.2.2.2.1 "java/lang/IllegalArgumentException" (List.mem_of_getElem? (i := 0) rfl))) hcell hv9 hcl ?_
      refine lv_astore_n (lv' := [(2, .ref q9), (0, .ref aR), (1, .int (iI pre))]) hx hb dL_setPressure_6 rfl hl (by decide) rfl (fun ls hl => ?_)
      refine x_ldc (v := -900001) hx hb hown (hts (.constant RL 17 (-900001)) (List.mem_of_getElem? (i := 2) rfl)) (by decide) dL_setPressure_7 ?_
      have q_2 : (if inT 0 100 pre = 0 then pre else pr) = pr := by
        first
        | (
           first | rfl | (rw [if_pos (by omega)]) | (rw [if_neg (by omega)]) | (rw [if_pos (by omega)]; subst_vars; rfl))
        | fail "q9"
      have hw_3 := (congrArg (fun (z0 : Int) => ([(aR, .inr (11, [.ref aG, .ref aP, .ref aH, .ref aY, .ref aT, .ref aS, .ref aF, .ref aX, .int (iI z0), .int (iI tk), .int (iI tol), .int (iI hou)]))] : va_W)) q_2.symm)
      rw [hQ9]
      exact x_iret hx hb hr hlocks hP hD hS (S := Unit) rfl dL_setPressure_9 () (by
          first
          | (
             first | (rw [if_pos (by omega)]; first | assumption | (subst_vars; rfl)) | (rw [if_neg (by omega)]; omega))
          | fail "q9") trivial hw_3 (Nat.le_of_ble_eq_true rfl) (Nat.le_of_ble_eq_true rfl)
    · skip
      have hP : va_P (gD g) vwCl [(aR, .inr (11, [.ref aG, .ref aP, .ref aH, .ref aY, .ref aT, .ref aS, .ref aF, .ref aX, .int (iI pre), .int (iI tk), .int (iI tol), .int (iI hou)]))] H := hP
      have hD : va_D A [(aR, .inr (11, [.ref aG, .ref aP, .ref aH, .ref aY, .ref aT, .ref aS, .ref aF, .ref aX, .int (iI pre), .int (iI tk), .int (iI tol), .int (iI hou)]))] := hD
      have hv_1 : v_1 = pr := hv_1
      obtain ⟨tv_1, pv_1⟩ := pv_1
      have tv_1 : inT 0 100 pre = 0 := tv_1
      have q_4 : (if inT 0 100 pre = 0 then pre else pr) = pre := by
        first
        | (
           first | rfl | (rw [if_pos (by omega)]) | (rw [if_neg (by omega)]) | (rw [if_pos (by omega)]; subst_vars; rfl))
        | fail "q9"
      have hw_5 := (congrArg (fun (z0 : Int) => ([(aR, .inr (11, [.ref aG, .ref aP, .ref aH, .ref aY, .ref aT, .ref aS, .ref aF, .ref aX, .int (iI z0), .int (iI tk), .int (iI tol), .int (iI hou)]))] : va_W)) q_4.symm)
      rw [hQ9]
      exact x_iret hx hb hr hlocks hP hD hS (S := Unit) rfl dL_setPressure_5 () (by
          first
          | (
             first | (rw [if_pos (by omega)]; first | assumption | (subst_vars; rfl)) | (rw [if_neg (by omega)]; omega))
          | fail "q9") trivial hw_5 (Nat.le_of_ble_eq_true rfl) (Nat.le_of_ble_eq_true rfl)
  rw [hH, hlo, hQ9] at goal_
  exact goal_

set_option maxHeartbeats 4000000 in
set_option maxRecDepth 100000 in
theorem c_L_addSlurry (l : Launch) (hflags : l.stackTraces = false) (g : xg) (sz : Nat) (aR aG aP aH aY aT aS aF aX : Nat) (pr tk tol hou vo : Int) (htk : 0 ≤ tk ∧ tk ≤ 1000) (hr_vo : iR vo) : Met l yL_addSlurry wsL_addSlurry { frames := 8, cells := 2, slots := 12, locals := 135 } (va_Pc [.ref aR, .int (iI vo)] (xB g [(aR, .inr (11, [.ref aG, .ref aP, .ref aH, .ref aY, .ref aT, .ref aS, .ref aF, .ref aX, .int (iI pr), .int (iI tk), .int (iI tol), .int (iI hou)]))] sz)) (va_Qi (fun r u => r = iI ((fun (u : Unit) => (if slT tk vo = 0 then tk + vo else -900000 - slT tk vo)) u) ∧ (fun (u : Unit) => True) u) (fun u t => xE g (va_A [(aR, .inr (11, [.ref aG, .ref aP, .ref aH, .ref aY, .ref aT, .ref aS, .ref aF, .ref aX, .int (iI pr), .int (iI tk), .int (iI tol), .int (iI hou)]))] sz) ((fun (u : Unit) => [(aR, .inr (11, [.ref aG, .ref aP, .ref aH, .ref aY, .ref aT, .ref aS, .ref aF, .ref aX, .int (iI pr), .int (iI (if slT tk vo = 0 then (tk + vo) else tk)), .int (iI tol), .int (iI hou)]))]) u) t) (va_A [(aR, .inr (11, [.ref aG, .ref aP, .ref aH, .ref aY, .ref aT, .ref aS, .ref aF, .ref aX, .int (iI pr), .int (iI tk), .int (iI tol), .int (iI hou)]))] sz)) 2 12 (va_A [(aR, .inr (11, [.ref aG, .ref aP, .ref aH, .ref aY, .ref aT, .ref aS, .ref aF, .ref aX, .int (iI pr), .int (iI tk), .int (iI tol), .int (iI hou)]))] sz) := by
  refine x_enterH (y := yL_addSlurry) (ws := wsL_addSlurry) (g := g) (sz := sz) (av := [.ref aR, .int (iI vo)]) (WS := [(aR, .inr (11, [.ref aG, .ref aP, .ref aH, .ref aY, .ref aT, .ref aS, .ref aF, .ref aX, .int (iI pr), .int (iI tk), .int (iI tol), .int (iI hou)]))]) (cc := cL_addSlurry) (maxL := 3) (ret := some .int) (Qc := (fun A => (va_Qi (fun r u => r = iI ((fun (u : Unit) => (if slT tk vo = 0 then tk + vo else -900000 - slT tk vo)) u) ∧ (fun (u : Unit) => True) u) (fun u t => xE g A ((fun (u : Unit) => [(aR, .inr (11, [.ref aG, .ref aP, .ref aH, .ref aY, .ref aT, .ref aS, .ref aF, .ref aX, .int (iI pr), .int (iI (if slT tk vo = 0 then (tk + vo) else tk)), .int (iI tol), .int (iI hou)]))]) u) t) A))) (by decide) rfl (Nat.le_of_ble_eq_true rfl) ?_
  intro p e s m args below meth c A ls hx hb hr hml hown hts hlocks htab hC hP hD hS hA hl
  have hK := hC.1
  have hown : s.vm.findClass RL = some m.cls := hown
  have hl : lv_has ls 3 [(0, .ref aR), (1, .int (iI vo))] := hl
  obtain ⟨H, hH⟩ : ∃ z, z = s.heap := ⟨_, rfl⟩
  obtain ⟨locs, hlo⟩ : ∃ z : List Loc, z = [] := ⟨_, rfl⟩
  obtain ⟨Q9, hQ9⟩ : ∃ z, z = MQ below (va_Qi (fun r u => r = iI ((fun (u : Unit) => (if slT tk vo = 0 then tk + vo else -900000 - slT tk vo)) u) ∧ (fun (u : Unit) => True) u) (fun u t => xE g A ((fun (u : Unit) => [(aR, .inr (11, [.ref aG, .ref aP, .ref aH, .ref aY, .ref aT, .ref aS, .ref aF, .ref aX, .int (iI pr), .int (iI (if slT tk vo = 0 then (tk + vo) else tk)), .int (iI tol), .int (iI hou)]))]) u) t) A) args s 2 12 A := ⟨_, rfl⟩
  have hP : va_P (gD g) vwCl [(aR, .inr (11, [.ref aG, .ref aP, .ref aH, .ref aY, .ref aT, .ref aS, .ref aF, .ref aX, .int (iI pr), .int (iI tk), .int (iI tol), .int (iI hou)]))] H := by rw [hH]; exact hP
  have hS : va_S A s.heap H locs := by rw [hH, hlo]; exact hS
  have goal_ : W p l e { frames := 8, cells := 2, slots := 12, locals := 135 } s m args below meth c H locs 0 0 Q9 (F0 m 0 ls []) := by
    clear hH hlo
    refine lv_aload_n hx hb dL_addSlurry_0 rfl (lv_at hl 0 rfl) ?_
    refine lv_iload_n hx hb dL_addSlurry_1 rfl (lv_at hl 1 rfl) ?_
    refine x_calliX (S := Unit) (SX := Unit) (wc := [(aR, .inr (11, [.ref aG, .ref aP, .ref aH, .ref aY, .ref aT, .ref aS, .ref aF, .ref aX, .int (iI pr), .int (iI tk), .int (iI tol), .int (iI hou)]))]) (wr := []) hC hP hD hS hA [0] [] [0] rfl rfl (fun hpre => vx_runV (As := [.int (iI vo)]) (rest := []) ⟨hx, hb, hml, hown, hts⟩ (c_X8_addSlurry l hflags g H.size aR aG aP aH aY aT aS aF aX pr tk tol hou vo (by first | (first | assumption | omega | exact bnd_up (by assumption) (by omega) (by omega)) | fail "q8") (by first | (first | assumption | omega | exact bnd_up (by assumption) (by omega) (by omega)) | fail "q8")) (cwV 1 hts gL_addSlurry_X8_addSlurry rfl rfl rfl (by decide +kernel) ⟨Nat.le_of_ble_eq_true rfl, Nat.le_of_ble_eq_true rfl⟩) ⟨xB_blind, va_recv hK hP (ci := 11) (q0 := 0) rfl rfl, hpre _⟩ rfl rfl hl.1 rfl (lv_room (Nat.le_of_ble_eq_true rfl)) dL_addSlurry_2 ⟨Nat.le_of_ble_eq_true rfl, Nat.le_of_ble_eq_true rfl⟩) (fun (u : Unit) => [(aR, .inr (11, [.ref aG, .ref aP, .ref aH, .ref aY, .ref aT, .ref aS, .ref aF, .ref aX, .int (iI pr), .int (iI (tk + vo)), .int (iI tol), .int (iI hou)]))]) (fun (u : Unit) => ([(aR, .inr (11, [.ref aG, .ref aP, .ref aH, .ref aY, .ref aT, .ref aS, .ref aF, .ref aX, .int (iI pr), .int (iI tk), .int (iI tol), .int (iI hou)]))] : va_W)) rfl rfl (by decide) (fun _ => rfl) (fun _ => rfl) rfl (fun E ce q9 u H locs hXP hPX hP hD hS hcell hv9 hcl => ?_) (fun u v_1 H locs hv_1 pv_1 hP hD hS => ?_)
    · skip
      have hP : va_P (gD g) vwCl [(aR, .inr (11, [.ref aG, .ref aP, .ref aH, .ref aY, .ref aT, .ref aS, .ref aF, .ref aX, .int (iI pr), .int (iI tk), .int (iI tol), .int (iI hou)]))] H := hP
      have hD : va_D A [(aR, .inr (11, [.ref aG, .ref aP, .ref aH, .ref aY, .ref aT, .ref aS, .ref aF, .ref aX, .int (iI pr), .int (iI tk), .int (iI tol), .int (iI hou)]))] := hD
      rcases hPX with ⟨hE, hp⟩ | ⟨hE, hp⟩
      · skip
        have hp : slT tk vo = 1 := hp
        subst hE
        refine vx_catch (E := "java/lang/IllegalArgumentException") (name := "java/lang/IllegalArgumentException") hown [] ⟨0, 5, 6, 15⟩ [⟨0, 5, 10, 18⟩] (by rw [htab]; rfl) (fun z hz => by cases hz) (by decide) (by decide) (hts (.classLink RL 15 "java/lang/IllegalArgumentException") (List.mem_of_getElem? (i := 1) rfl)) (va_Nw.use rfl (hC.2.2.2.2.2.2.2.2.2.2.1 "java/lang/IllegalArgumentException" (List.mem_of_getElem? (i := 0) rfl))) hcell hv9 hcl ?_
        refine lv_astore_n (lv' := [(2, .ref q9), (0, .ref aR), (1, .int (iI vo))]) hx hb dL_addSlurry_6 rfl hl (by decide) rfl (fun ls hl => ?_)
        refine x_ldc (v := -900001) hx hb hown (hts (.constant RL 17 (-900001)) (List.mem_of_getElem? (i := 3) rfl)) (by decide) dL_addSlurry_7 ?_
        have q_2 : (if slT tk vo = 0 then (tk + vo) else tk) = tk := by
          first
          | (
             first | rfl | (rw [if_pos (by omega)]) | (rw [if_neg (by omega)]) | (rw [if_pos (by omega)]; subst_vars; rfl))
          | fail "q9"
        have hw_3 := (congrArg (fun (z0 : Int) => ([(aR, .inr (11, [.ref aG, .ref aP, .ref aH, .ref aY, .ref aT, .ref aS, .ref aF, .ref aX, .int (iI pr), .int (iI z0), .int (iI tol), .int (iI hou)]))] : va_W)) q_2.symm)
        rw [hQ9]
        exact x_iret hx hb hr hlocks hP hD hS (S := Unit) rfl dL_addSlurry_9 () (by
            first
            | (
               first | (rw [if_pos (by omega)]; first | assumption | (subst_vars; rfl)) | (rw [if_neg (by omega)]; omega))
            | fail "q9") trivial hw_3 (Nat.le_of_ble_eq_true rfl) (Nat.le_of_ble_eq_true rfl)
      · skip
        have hp : slT tk vo = 2 := hp
        subst hE
        refine vx_catch (E := "java/lang/IllegalStateException") (name := "java/lang/IllegalStateException") hown [⟨0, 5, 6, 15⟩] ⟨0, 5, 10, 18⟩ [] (by rw [htab]; rfl) (fun z hz => by rcases List.mem_cons.mp hz with rfl | hz; exact Or.inr ⟨by decide, "java/lang/IllegalArgumentException", (hts (.classLink RL 15 "java/lang/IllegalArgumentException") (List.mem_of_getElem? (i := 1) rfl)), hC.d.2.2.2.2.2.1 ("java/lang/IllegalStateException", "java/lang/IllegalArgumentException") (List.mem_of_getElem? (i := 5) (by decide +kernel))⟩; cases hz) (by decide) (by decide) (hts (.classLink RL 18 "java/lang/IllegalStateException") (List.mem_of_getElem? (i := 2) rfl)) (va_Nw.use rfl (hC.2.2.2.2.2.2.2.2.2.2.1 "java/lang/IllegalStateException" (List.mem_of_getElem? (i := 1) rfl))) hcell hv9 hcl ?_
        refine lv_astore_n (lv' := [(2, .ref q9), (0, .ref aR), (1, .int (iI vo))]) hx hb dL_addSlurry_10 rfl hl (by decide) rfl (fun ls hl => ?_)
        refine x_ldc (v := -900002) hx hb hown (hts (.constant RL 20 (-900002)) (List.mem_of_getElem? (i := 4) rfl)) (by decide) dL_addSlurry_11 ?_
        have q_4 : (if slT tk vo = 0 then (tk + vo) else tk) = tk := by
          first
          | (
             first | rfl | (rw [if_pos (by omega)]) | (rw [if_neg (by omega)]) | (rw [if_pos (by omega)]; subst_vars; rfl))
          | fail "q9"
        have hw_5 := (congrArg (fun (z0 : Int) => ([(aR, .inr (11, [.ref aG, .ref aP, .ref aH, .ref aY, .ref aT, .ref aS, .ref aF, .ref aX, .int (iI pr), .int (iI z0), .int (iI tol), .int (iI hou)]))] : va_W)) q_4.symm)
        rw [hQ9]
        exact x_iret hx hb hr hlocks hP hD hS (S := Unit) rfl dL_addSlurry_13 () (by
            first
            | (
               first | (rw [if_pos (by omega)]; first | assumption | (subst_vars; rfl)) | (rw [if_neg (by omega)]; omega))
            | fail "q9") trivial hw_5 (Nat.le_of_ble_eq_true rfl) (Nat.le_of_ble_eq_true rfl)
    · skip
      have hP : va_P (gD g) vwCl [(aR, .inr (11, [.ref aG, .ref aP, .ref aH, .ref aY, .ref aT, .ref aS, .ref aF, .ref aX, .int (iI pr), .int (iI (tk + vo)), .int (iI tol), .int (iI hou)]))] H := hP
      have hD : va_D A [(aR, .inr (11, [.ref aG, .ref aP, .ref aH, .ref aY, .ref aT, .ref aS, .ref aF, .ref aX, .int (iI pr), .int (iI (tk + vo)), .int (iI tol), .int (iI hou)]))] := hD
      have hv_1 : v_1 = tk + vo := hv_1
      obtain ⟨tv_1, pv_1⟩ := pv_1
      have tv_1 : slT tk vo = 0 := tv_1
      have q_6 : (if slT tk vo = 0 then (tk + vo) else tk) = (tk + vo) := by
        first
        | (
           first | rfl | (rw [if_pos (by omega)]) | (rw [if_neg (by omega)]) | (rw [if_pos (by omega)]; subst_vars; rfl))
        | fail "q9"
      have hw_7 := (congrArg (fun (z0 : Int) => ([(aR, .inr (11, [.ref aG, .ref aP, .ref aH, .ref aY, .ref aT, .ref aS, .ref aF, .ref aX, .int (iI pr), .int (iI z0), .int (iI tol), .int (iI hou)]))] : va_W)) q_6.symm)
      rw [hQ9]
      exact x_iret hx hb hr hlocks hP hD hS (S := Unit) rfl dL_addSlurry_5 () (by
          first
          | (
             first | (rw [if_pos (by omega)]; first | assumption | (subst_vars; rfl)) | (rw [if_neg (by omega)]; omega))
          | fail "q9") trivial hw_7 (Nat.le_of_ble_eq_true rfl) (Nat.le_of_ble_eq_true rfl)
  rw [hH, hlo, hQ9] at goal_
  exact goal_

set_option maxHeartbeats 4000000 in
set_option maxRecDepth 100000 in
theorem c_L_slurryFor (l : Launch) (hflags : l.stackTraces = false) (g : xg) (sz : Nat) (aR aG aP aH aY aT aS aF aX aGn aGw aGs aTp aTt aTx aTy aE : Nat) (pr tk tol hou kn ld : Int) (nd wk : Int → Int) (hkn : 0 ≤ kn ∧ kn ≤ 200) (hld : 0 ≤ ld ∧ ld ≤ 200) (hpr : 0 ≤ pr ∧ pr ≤ 100) (hb_nd : bnd nd 0 100) (hb_wk : bnd wk 0 20) : Met l yL_slurryFor wsL_slurryFor { frames := 7, cells := 1, slots := 6, locals := 112 } (va_Pc [.ref aR] (xB g [(aR, .inr (11, [.ref aG, .ref aP, .ref aH, .ref aY, .ref aT, .ref aS, .ref aF, .ref aX, .int (iI pr), .int (iI tk), .int (iI tol), .int (iI hou)])), (aG, .inr (4, [.ref aGn, .ref aGw, .ref aGs, .int (iI kn)])), (aGn, .inl (gI g, 200, .inl (ar nd))), (aGw, .inl (gI g, 200, .inl (ar wk))), (aT, .inr (9, [.ref aTp, .ref aTt, .ref aTx, .ref aTy, .ref aE, .int (iI ld)]))] sz)) (va_Qi (fun r u => r = iI ((fun (u : Unit) => (if sfT ld kn = 0 then takF nd wk pr ld else -900000 - sfT ld kn)) u) ∧ (fun (u : Unit) => True) u) (fun u t => xE g (va_A [(aR, .inr (11, [.ref aG, .ref aP, .ref aH, .ref aY, .ref aT, .ref aS, .ref aF, .ref aX, .int (iI pr), .int (iI tk), .int (iI tol), .int (iI hou)])), (aG, .inr (4, [.ref aGn, .ref aGw, .ref aGs, .int (iI kn)])), (aGn, .inl (gI g, 200, .inl (ar nd))), (aGw, .inl (gI g, 200, .inl (ar wk))), (aT, .inr (9, [.ref aTp, .ref aTt, .ref aTx, .ref aTy, .ref aE, .int (iI ld)]))] sz) ((fun (u : Unit) => [(aR, .inr (11, [.ref aG, .ref aP, .ref aH, .ref aY, .ref aT, .ref aS, .ref aF, .ref aX, .int (iI pr), .int (iI tk), .int (iI tol), .int (iI hou)])), (aG, .inr (4, [.ref aGn, .ref aGw, .ref aGs, .int (iI kn)])), (aGn, .inl (gI g, 200, .inl (ar nd))), (aGw, .inl (gI g, 200, .inl (ar wk))), (aT, .inr (9, [.ref aTp, .ref aTt, .ref aTx, .ref aTy, .ref aE, .int (iI ld)]))]) u) t) (va_A [(aR, .inr (11, [.ref aG, .ref aP, .ref aH, .ref aY, .ref aT, .ref aS, .ref aF, .ref aX, .int (iI pr), .int (iI tk), .int (iI tol), .int (iI hou)])), (aG, .inr (4, [.ref aGn, .ref aGw, .ref aGs, .int (iI kn)])), (aGn, .inl (gI g, 200, .inl (ar nd))), (aGw, .inl (gI g, 200, .inl (ar wk))), (aT, .inr (9, [.ref aTp, .ref aTt, .ref aTx, .ref aTy, .ref aE, .int (iI ld)]))] sz)) 1 6 (va_A [(aR, .inr (11, [.ref aG, .ref aP, .ref aH, .ref aY, .ref aT, .ref aS, .ref aF, .ref aX, .int (iI pr), .int (iI tk), .int (iI tol), .int (iI hou)])), (aG, .inr (4, [.ref aGn, .ref aGw, .ref aGs, .int (iI kn)])), (aGn, .inl (gI g, 200, .inl (ar nd))), (aGw, .inl (gI g, 200, .inl (ar wk))), (aT, .inr (9, [.ref aTp, .ref aTt, .ref aTx, .ref aTy, .ref aE, .int (iI ld)]))] sz) := by
  refine x_enterH (y := yL_slurryFor) (ws := wsL_slurryFor) (g := g) (sz := sz) (av := [.ref aR]) (WS := [(aR, .inr (11, [.ref aG, .ref aP, .ref aH, .ref aY, .ref aT, .ref aS, .ref aF, .ref aX, .int (iI pr), .int (iI tk), .int (iI tol), .int (iI hou)])), (aG, .inr (4, [.ref aGn, .ref aGw, .ref aGs, .int (iI kn)])), (aGn, .inl (gI g, 200, .inl (ar nd))), (aGw, .inl (gI g, 200, .inl (ar wk))), (aT, .inr (9, [.ref aTp, .ref aTt, .ref aTx, .ref aTy, .ref aE, .int (iI ld)]))]) (cc := cL_slurryFor) (maxL := 2) (ret := some .int) (Qc := (fun A => (va_Qi (fun r u => r = iI ((fun (u : Unit) => (if sfT ld kn = 0 then takF nd wk pr ld else -900000 - sfT ld kn)) u) ∧ (fun (u : Unit) => True) u) (fun u t => xE g A ((fun (u : Unit) => [(aR, .inr (11, [.ref aG, .ref aP, .ref aH, .ref aY, .ref aT, .ref aS, .ref aF, .ref aX, .int (iI pr), .int (iI tk), .int (iI tol), .int (iI hou)])), (aG, .inr (4, [.ref aGn, .ref aGw, .ref aGs, .int (iI kn)])), (aGn, .inl (gI g, 200, .inl (ar nd))), (aGw, .inl (gI g, 200, .inl (ar wk))), (aT, .inr (9, [.ref aTp, .ref aTt, .ref aTx, .ref aTy, .ref aE, .int (iI ld)]))]) u) t) A))) (by decide) rfl (Nat.le_of_ble_eq_true rfl) ?_
  intro p e s m args below meth c A ls hx hb hr hml hown hts hlocks htab hC hP hD hS hA hl
  have hK := hC.1
  have hown : s.vm.findClass RL = some m.cls := hown
  have hl : lv_has ls 2 [(0, .ref aR)] := hl
  obtain ⟨H, hH⟩ : ∃ z, z = s.heap := ⟨_, rfl⟩
  obtain ⟨locs, hlo⟩ : ∃ z : List Loc, z = [] := ⟨_, rfl⟩
  obtain ⟨Q9, hQ9⟩ : ∃ z, z = MQ below (va_Qi (fun r u => r = iI ((fun (u : Unit) => (if sfT ld kn = 0 then takF nd wk pr ld else -900000 - sfT ld kn)) u) ∧ (fun (u : Unit) => True) u) (fun u t => xE g A ((fun (u : Unit) => [(aR, .inr (11, [.ref aG, .ref aP, .ref aH, .ref aY, .ref aT, .ref aS, .ref aF, .ref aX, .int (iI pr), .int (iI tk), .int (iI tol), .int (iI hou)])), (aG, .inr (4, [.ref aGn, .ref aGw, .ref aGs, .int (iI kn)])), (aGn, .inl (gI g, 200, .inl (ar nd))), (aGw, .inl (gI g, 200, .inl (ar wk))), (aT, .inr (9, [.ref aTp, .ref aTt, .ref aTx, .ref aTy, .ref aE, .int (iI ld)]))]) u) t) A) args s 1 6 A := ⟨_, rfl⟩
  have hP : va_P (gD g) vwCl [(aR, .inr (11, [.ref aG, .ref aP, .ref aH, .ref aY, .ref aT, .ref aS, .ref aF, .ref aX, .int (iI pr), .int (iI tk), .int (iI tol), .int (iI hou)])), (aG, .inr (4, [.ref aGn, .ref aGw, .ref aGs, .int (iI kn)])), (aGn, .inl (gI g, 200, .inl (ar nd))), (aGw, .inl (gI g, 200, .inl (ar wk))), (aT, .inr (9, [.ref aTp, .ref aTt, .ref aTx, .ref aTy, .ref aE, .int (iI ld)]))] H := by rw [hH]; exact hP
  have hS : va_S A s.heap H locs := by rw [hH, hlo]; exact hS
  have goal_ : W p l e { frames := 7, cells := 1, slots := 6, locals := 112 } s m args below meth c H locs 0 0 Q9 (F0 m 0 ls []) := by
    clear hH hlo
    refine lv_aload_n hx hb dL_slurryFor_0 rfl (lv_at hl 0 rfl) ?_
    refine x_calliX (S := Unit) (SX := Unit) (wc := [(aR, .inr (11, [.ref aG, .ref aP, .ref aH, .ref aY, .ref aT, .ref aS, .ref aF, .ref aX, .int (iI pr), .int (iI tk), .int (iI tol), .int (iI hou)])), (aG, .inr (4, [.ref aGn, .ref aGw, .ref aGs, .int (iI kn)])), (aGn, .inl (gI g, 200, .inl (ar nd))), (aGw, .inl (gI g, 200, .inl (ar wk))), (aT, .inr (9, [.ref aTp, .ref aTt, .ref aTx, .ref aTy, .ref aE, .int (iI ld)]))]) (wr := []) hC hP hD hS hA [0, 1, 2, 3, 4] [] [0, 1, 2, 3, 4] rfl rfl (fun hpre => vx_runV (As := []) (rest := []) ⟨hx, hb, hml, hown, hts⟩ (c_X8_slurryFor l hflags g H.size aR aG aP aH aY aT aS aF aX aGn aGw aGs aTp aTt aTx aTy aE pr tk tol hou kn ld nd wk (by first | (first | assumption | omega | exact bnd_up (by assumption) (by omega) (by omega)) | fail "q8") (by first | (first | assumption | omega | exact bnd_up (by assumption) (by omega) (by omega)) | fail "q8") (by first | (first | assumption | omega | exact bnd_up (by assumption) (by omega) (by omega)) | fail "q8") (by first | (first | assumption | omega | exact bnd_up (by assumption) (by omega) (by omega)) | fail "q8") (by first | (first | assumption | omega | exact bnd_up (by assumption) (by omega) (by omega)) | fail "q8")) (cwV 0 hts gL_slurryFor_X8_slurryFor rfl rfl rfl (by decide +kernel) ⟨Nat.le_of_ble_eq_true rfl, Nat.le_of_ble_eq_true rfl⟩) ⟨xB_blind, va_recv hK hP (ci := 11) (q0 := 0) rfl rfl, hpre _⟩ rfl rfl hl.1 rfl (lv_room (Nat.le_of_ble_eq_true rfl)) dL_slurryFor_1 ⟨Nat.le_of_ble_eq_true rfl, Nat.le_of_ble_eq_true rfl⟩) (fun (u : Unit) => [(aR, .inr (11, [.ref aG, .ref aP, .ref aH, .ref aY, .ref aT, .ref aS, .ref aF, .ref aX, .int (iI pr), .int (iI tk), .int (iI tol), .int (iI hou)])), (aG, .inr (4, [.ref aGn, .ref aGw, .ref aGs, .int (iI kn)])), (aGn, .inl (gI g, 200, .inl (ar nd))), (aGw, .inl (gI g, 200, .inl (ar wk))), (aT, .inr (9, [.ref aTp, .ref aTt, .ref aTx, .ref aTy, .ref aE, .int (iI ld)]))]) (fun (u : Unit) => ([(aR, .inr (11, [.ref aG, .ref aP, .ref aH, .ref aY, .ref aT, .ref aS, .ref aF, .ref aX, .int (iI pr), .int (iI tk), .int (iI tol), .int (iI hou)])), (aG, .inr (4, [.ref aGn, .ref aGw, .ref aGs, .int (iI kn)])), (aGn, .inl (gI g, 200, .inl (ar nd))), (aGw, .inl (gI g, 200, .inl (ar wk))), (aT, .inr (9, [.ref aTp, .ref aTt, .ref aTx, .ref aTy, .ref aE, .int (iI ld)]))] : va_W)) rfl rfl (by decide) (fun _ => rfl) (fun _ => rfl) rfl (fun E ce q9 u H locs hXP hPX hP hD hS hcell hv9 hcl => ?_) (fun u v_1 H locs hv_1 pv_1 hP hD hS => ?_)
    · skip
      have hP : va_P (gD g) vwCl [(aR, .inr (11, [.ref aG, .ref aP, .ref aH, .ref aY, .ref aT, .ref aS, .ref aF, .ref aX, .int (iI pr), .int (iI tk), .int (iI tol), .int (iI hou)])), (aG, .inr (4, [.ref aGn, .ref aGw, .ref aGs, .int (iI kn)])), (aGn, .inl (gI g, 200, .inl (ar nd))), (aGw, .inl (gI g, 200, .inl (ar wk))), (aT, .inr (9, [.ref aTp, .ref aTt, .ref aTx, .ref aTy, .ref aE, .int (iI ld)]))] H := hP
      have hD : va_D A [(aR, .inr (11, [.ref aG, .ref aP, .ref aH, .ref aY, .ref aT, .ref aS, .ref aF, .ref aX, .int (iI pr), .int (iI tk), .int (iI tol), .int (iI hou)])), (aG, .inr (4, [.ref aGn, .ref aGw, .ref aGs, .int (iI kn)])), (aGn, .inl (gI g, 200, .inl (ar nd))), (aGw, .inl (gI g, 200, .inl (ar wk))), (aT, .inr (9, [.ref aTp, .ref aTt, .ref aTx, .ref aTy, .ref aE, .int (iI ld)]))] := hD
      obtain ⟨hE, hp⟩ := hPX
      have hp : sfT ld kn = 1 := hp
      subst hE
      refine vx_catch (E := "java/util/NoSuchElementException") (name := "java/util/NoSuchElementException") hown [] ⟨0, 4, 5, 42⟩ [] (by rw [htab]; rfl) (fun z hz => by cases hz) (by decide) (by decide) (hts (.classLink RL 42 "java/util/NoSuchElementException") (List.mem_of_getElem? (i := 1) rfl)) (va_Nw.use rfl (hC.2.2.2.2.2.2.2.2.2.2.1 "java/util/NoSuchElementException" (List.mem_of_getElem? (i := 3) rfl))) hcell hv9 hcl ?_
      refine lv_astore_n (lv' := [(1, .ref q9), (0, .ref aR)]) hx hb dL_slurryFor_5 rfl hl (by decide) rfl (fun ls hl => ?_)
      refine x_ldc (v := -900001) hx hb hown (hts (.constant RL 17 (-900001)) (List.mem_of_getElem? (i := 2) rfl)) (by decide) dL_slurryFor_6 ?_
      rw [hQ9]
      exact x_iret hx hb hr hlocks hP hD hS (S := Unit) rfl dL_slurryFor_8 () (by
          first
          | (
             first | (rw [if_pos (by omega)]; first | assumption | (subst_vars; rfl)) | (rw [if_neg (by omega)]; omega))
          | fail "q9") trivial rfl (Nat.le_of_ble_eq_true rfl) (Nat.le_of_ble_eq_true rfl)
    · skip
      have hP : va_P (gD g) vwCl [(aR, .inr (11, [.ref aG, .ref aP, .ref aH, .ref aY, .ref aT, .ref aS, .ref aF, .ref aX, .int (iI pr), .int (iI tk), .int (iI tol), .int (iI hou)])), (aG, .inr (4, [.ref aGn, .ref aGw, .ref aGs, .int (iI kn)])), (aGn, .inl (gI g, 200, .inl (ar nd))), (aGw, .inl (gI g, 200, .inl (ar wk))), (aT, .inr (9, [.ref aTp, .ref aTt, .ref aTx, .ref aTy, .ref aE, .int (iI ld)]))] H := hP
      have hD : va_D A [(aR, .inr (11, [.ref aG, .ref aP, .ref aH, .ref aY, .ref aT, .ref aS, .ref aF, .ref aX, .int (iI pr), .int (iI tk), .int (iI tol), .int (iI hou)])), (aG, .inr (4, [.ref aGn, .ref aGw, .ref aGs, .int (iI kn)])), (aGn, .inl (gI g, 200, .inl (ar nd))), (aGw, .inl (gI g, 200, .inl (ar wk))), (aT, .inr (9, [.ref aTp, .ref aTt, .ref aTx, .ref aTy, .ref aE, .int (iI ld)]))] := hD
      have hv_1 : v_1 = takF nd wk pr ld := hv_1
      obtain ⟨tv_1, pv_1⟩ := pv_1
      have tv_1 : sfT ld kn = 0 := tv_1
      rw [hQ9]
      exact x_iret hx hb hr hlocks hP hD hS (S := Unit) rfl dL_slurryFor_4 () (by
          first
          | (
             first | (rw [if_pos (by omega)]; first | assumption | (subst_vars; rfl)) | (rw [if_neg (by omega)]; omega))
          | fail "q9") trivial rfl (Nat.le_of_ble_eq_true rfl) (Nat.le_of_ble_eq_true rfl)
  rw [hH, hlo, hQ9] at goal_
  exact goal_

set_option maxHeartbeats 4000000 in
set_option maxRecDepth 100000 in
theorem c_L_setTolerance (l : Launch) (hflags : l.stackTraces = false) (g : xg) (sz : Nat) (aR aG aP aH aY aT aS aF aX : Nat) (pr tk tol hou nto : Int) (htol : 0 ≤ tol ∧ tol ≤ 9999) (hr_nto : iR nto) : Met l yL_setTolerance wsL_setTolerance { frames := 8, cells := 1, slots := 6, locals := 136 } (va_Pc [.ref aR, .int (iI nto)] (xB g [(aR, .inr (11, [.ref aG, .ref aP, .ref aH, .ref aY, .ref aT, .ref aS, .ref aF, .ref aX, .int (iI pr), .int (iI tk), .int (iI tol), .int (iI hou)]))] sz)) (va_Qi (fun r u => r = iI ((fun (u : Unit) => (if inT 0 9999 nto = 0 then tol else -900000 - inT 0 9999 nto)) u) ∧ (fun (u : Unit) => True) u) (fun u t => xE g (va_A [(aR, .inr (11, [.ref aG, .ref aP, .ref aH, .ref aY, .ref aT, .ref aS, .ref aF, .ref aX, .int (iI pr), .int (iI tk), .int (iI tol), .int (iI hou)]))] sz) ((fun (u : Unit) => [(aR, .inr (11, [.ref aG, .ref aP, .ref aH, .ref aY, .ref aT, .ref aS, .ref aF, .ref aX, .int (iI pr), .int (iI tk), .int (iI (if inT 0 9999 nto = 0 then nto else tol)), .int (iI hou)]))]) u) t) (va_A [(aR, .inr (11, [.ref aG, .ref aP, .ref aH, .ref aY, .ref aT, .ref aS, .ref aF, .ref aX, .int (iI pr), .int (iI tk), .int (iI tol), .int (iI hou)]))] sz)) 1 6 (va_A [(aR, .inr (11, [.ref aG, .ref aP, .ref aH, .ref aY, .ref aT, .ref aS, .ref aF, .ref aX, .int (iI pr), .int (iI tk), .int (iI tol), .int (iI hou)]))] sz) := by
  refine x_enterH (y := yL_setTolerance) (ws := wsL_setTolerance) (g := g) (sz := sz) (av := [.ref aR, .int (iI nto)]) (WS := [(aR, .inr (11, [.ref aG, .ref aP, .ref aH, .ref aY, .ref aT, .ref aS, .ref aF, .ref aX, .int (iI pr), .int (iI tk), .int (iI tol), .int (iI hou)]))]) (cc := cL_setTolerance) (maxL := 3) (ret := some .int) (Qc := (fun A => (va_Qi (fun r u => r = iI ((fun (u : Unit) => (if inT 0 9999 nto = 0 then tol else -900000 - inT 0 9999 nto)) u) ∧ (fun (u : Unit) => True) u) (fun u t => xE g A ((fun (u : Unit) => [(aR, .inr (11, [.ref aG, .ref aP, .ref aH, .ref aY, .ref aT, .ref aS, .ref aF, .ref aX, .int (iI pr), .int (iI tk), .int (iI (if inT 0 9999 nto = 0 then nto else tol)), .int (iI hou)]))]) u) t) A))) (by decide) rfl (Nat.le_of_ble_eq_true rfl) ?_
  intro p e s m args below meth c A ls hx hb hr hml hown hts hlocks htab hC hP hD hS hA hl
  have hK := hC.1
  have hown : s.vm.findClass RL = some m.cls := hown
  have hl : lv_has ls 3 [(0, .ref aR), (1, .int (iI nto))] := hl
  obtain ⟨H, hH⟩ : ∃ z, z = s.heap := ⟨_, rfl⟩
  obtain ⟨locs, hlo⟩ : ∃ z : List Loc, z = [] := ⟨_, rfl⟩
  obtain ⟨Q9, hQ9⟩ : ∃ z, z = MQ below (va_Qi (fun r u => r = iI ((fun (u : Unit) => (if inT 0 9999 nto = 0 then tol else -900000 - inT 0 9999 nto)) u) ∧ (fun (u : Unit) => True) u) (fun u t => xE g A ((fun (u : Unit) => [(aR, .inr (11, [.ref aG, .ref aP, .ref aH, .ref aY, .ref aT, .ref aS, .ref aF, .ref aX, .int (iI pr), .int (iI tk), .int (iI (if inT 0 9999 nto = 0 then nto else tol)), .int (iI hou)]))]) u) t) A) args s 1 6 A := ⟨_, rfl⟩
  have hP : va_P (gD g) vwCl [(aR, .inr (11, [.ref aG, .ref aP, .ref aH, .ref aY, .ref aT, .ref aS, .ref aF, .ref aX, .int (iI pr), .int (iI tk), .int (iI tol), .int (iI hou)]))] H := by rw [hH]; exact hP
  have hS : va_S A s.heap H locs := by rw [hH, hlo]; exact hS
  have goal_ : W p l e { frames := 8, cells := 1, slots := 6, locals := 136 } s m args below meth c H locs 0 0 Q9 (F0 m 0 ls []) := by
    clear hH hlo
    refine lv_aload_n hx hb dL_setTolerance_0 rfl (lv_at hl 0 rfl) ?_
    refine lv_iload_n hx hb dL_setTolerance_1 rfl (lv_at hl 1 rfl) ?_
    refine x_calliX (S := Unit) (SX := Unit) (wc := [(aR, .inr (11, [.ref aG, .ref aP, .ref aH, .ref aY, .ref aT, .ref aS, .ref aF, .ref aX, .int (iI pr), .int (iI tk), .int (iI tol), .int (iI hou)]))]) (wr := []) hC hP hD hS hA [0] [] [0] rfl rfl (fun hpre => vx_runV (As := [.int (iI nto)]) (rest := []) ⟨hx, hb, hml, hown, hts⟩ (c_X8_setTolerance l hflags g H.size aR aG aP aH aY aT aS aF aX pr tk tol hou nto (by first | (first | assumption | omega | exact bnd_up (by assumption) (by omega) (by omega)) | fail "q8") (by first | (first | assumption | omega | exact bnd_up (by assumption) (by omega) (by omega)) | fail "q8")) (cwV 1 hts gL_setTolerance_X8_setTolerance rfl rfl rfl (by decide +kernel) ⟨Nat.le_of_ble_eq_true rfl, Nat.le_of_ble_eq_true rfl⟩) ⟨xB_blind, va_recv hK hP (ci := 11) (q0 := 0) rfl rfl, hpre _⟩ rfl rfl hl.1 rfl (lv_room (Nat.le_of_ble_eq_true rfl)) dL_setTolerance_2 ⟨Nat.le_of_ble_eq_true rfl, Nat.le_of_ble_eq_true rfl⟩) (fun (u : Unit) => [(aR, .inr (11, [.ref aG, .ref aP, .ref aH, .ref aY, .ref aT, .ref aS, .ref aF, .ref aX, .int (iI pr), .int (iI tk), .int (iI nto), .int (iI hou)]))]) (fun (u : Unit) => ([(aR, .inr (11, [.ref aG, .ref aP, .ref aH, .ref aY, .ref aT, .ref aS, .ref aF, .ref aX, .int (iI pr), .int (iI tk), .int (iI tol), .int (iI hou)]))] : va_W)) rfl rfl (by decide) (fun _ => rfl) (fun _ => rfl) rfl (fun E ce q9 u H locs hXP hPX hP hD hS hcell hv9 hcl => ?_) (fun u v_1 H locs hv_1 pv_1 hP hD hS => ?_)
    · skip
      have hP : va_P (gD g) vwCl [(aR, .inr (11, [.ref aG, .ref aP, .ref aH, .ref aY, .ref aT, .ref aS, .ref aF, .ref aX, .int (iI pr), .int (iI tk), .int (iI tol), .int (iI hou)]))] H := hP
      have hD : va_D A [(aR, .inr (11, [.ref aG, .ref aP, .ref aH, .ref aY, .ref aT, .ref aS, .ref aF, .ref aX, .int (iI pr), .int (iI tk), .int (iI tol), .int (iI hou)]))] := hD
      obtain ⟨hE, hp⟩ := hPX
      have hp : inT 0 9999 nto = 1 := hp
      subst hE
      refine vx_catch (E := "java/lang/IllegalArgumentException") (name := "java/lang/IllegalArgumentException") hown [] ⟨0, 5, 6, 15⟩ [] (by rw [htab]; rfl) (fun z hz => by cases hz) (by decide) (by decide) (hts (.classLink RL 15 "java/lang/IllegalArgumentException") (List.mem_of_getElem? (i := 1) rfl)) (va_Nw.use rfl (hC.2.2.2.2.2.2.2.2.2.2.1 "java/lang/IllegalArgumentException" (List.mem_of_getElem? (i := 0) rfl))) hcell hv9 hcl ?_
      refine lv_astore_n (lv' := [(2, .ref q9), (0, .ref aR), (1, .int (iI nto))]) hx hb dL_setTolerance_6 rfl hl (by decide) rfl (fun ls hl => ?_)
      refine x_ldc (v := -900001) hx hb hown (hts (.constant RL 17 (-900001)) (List.mem_of_getElem? (i := 2) rfl)) (by decide) dL_setTolerance_7 ?_
      have q_2 : (if inT 0 9999 nto = 0 then nto else tol) = tol := by
        first
        | (
           first | rfl | (rw [if_pos (by omega)]) | (rw [if_neg (by omega)]) | (rw [if_pos (by omega)]; subst_vars; rfl))
        | fail "q9"
      have hw_3 := (congrArg (fun (z0 : Int) => ([(aR, .inr (11, [.ref aG, .ref aP, .ref aH, .ref aY, .ref aT, .ref aS, .ref aF, .ref aX, .int (iI pr), .int (iI tk), .int (iI z0), .int (iI hou)]))] : va_W)) q_2.symm)
      rw [hQ9]
      exact x_iret hx hb hr hlocks hP hD hS (S := Unit) rfl dL_setTolerance_9 () (by
          first
          | (
             first | (rw [if_pos (by omega)]; first | assumption | (subst_vars; rfl)) | (rw [if_neg (by omega)]; omega))
          | fail "q9") trivial hw_3 (Nat.le_of_ble_eq_true rfl) (Nat.le_of_ble_eq_true rfl)
    · skip
      have hP : va_P (gD g) vwCl [(aR, .inr (11, [.ref aG, .ref aP, .ref aH, .ref aY, .ref aT, .ref aS, .ref aF, .ref aX, .int (iI pr), .int (iI tk), .int (iI nto), .int (iI hou)]))] H := hP
      have hD : va_D A [(aR, .inr (11, [.ref aG, .ref aP, .ref aH, .ref aY, .ref aT, .ref aS, .ref aF, .ref aX, .int (iI pr), .int (iI tk), .int (iI nto), .int (iI hou)]))] := hD
      have hv_1 : v_1 = tol := hv_1
      obtain ⟨tv_1, pv_1⟩ := pv_1
      have tv_1 : inT 0 9999 nto = 0 := tv_1
      have q_4 : (if inT 0 9999 nto = 0 then nto else tol) = nto := by
        first
        | (
           first | rfl | (rw [if_pos (by omega)]) | (rw [if_neg (by omega)]) | (rw [if_pos (by omega)]; subst_vars; rfl))
        | fail "q9"
      have hw_5 := (congrArg (fun (z0 : Int) => ([(aR, .inr (11, [.ref aG, .ref aP, .ref aH, .ref aY, .ref aT, .ref aS, .ref aF, .ref aX, .int (iI pr), .int (iI tk), .int (iI z0), .int (iI hou)]))] : va_W)) q_4.symm)
      rw [hQ9]
      exact x_iret hx hb hr hlocks hP hD hS (S := Unit) rfl dL_setTolerance_5 () (by
          first
          | (
             first | (rw [if_pos (by omega)]; first | assumption | (subst_vars; rfl)) | (rw [if_neg (by omega)]; omega))
          | fail "q9") trivial hw_5 (Nat.le_of_ble_eq_true rfl) (Nat.le_of_ble_eq_true rfl)
  rw [hH, hlo, hQ9] at goal_
  exact goal_

set_option maxHeartbeats 4000000 in
set_option maxRecDepth 100000 in
theorem c_L_reasonFor (l : Launch) (hflags : l.stackTraces = false) (g : xg) (sz : Nat) (aR aG aP aH aY aT aS aF aX aTp aTt aTx aTy aE aPx aPy aQ aSt aSx aSy aYh aYt aYc aGn aGw aGs : Nat) (pr tk tol hou ld ex ey ehx ehy pn fx fy fhx fhy sr sl qx qy qhx qhy kn sta po : Int) (bx byy st sx sy ht yt nd wk tp yc : Int → Int) (kx : Int → Int) (ky : Int → Int) (hkn : 0 ≤ kn ∧ kn ≤ 200) (hpn : 0 ≤ pn ∧ pn ≤ 200) (hld : 0 ≤ ld ∧ ld ≤ 200) (hhou : 0 ≤ hou ∧ hou ≤ 5000) (hpr : 0 ≤ pr ∧ pr ≤ 100) (htk : 0 ≤ tk ∧ tk ≤ 1000) (htol : 0 ≤ tol ∧ tol ≤ 9999) (hb_nd : bnd nd 0 100) (hb_wk : bnd wk 0 20) (hb_bx : bnd bx (-5) 5) (hb_byy : bnd byy (-5) 5) (hb_tp : bnd tp 0 7) (hb_yt : bnd yt 0 9) (hb_yc : bnd yc 0 5000) (hb_ht : bnd ht 0 12) (hehx : -2000 ≤ ehx ∧ ehx ≤ 2000) (hehy : -2000 ≤ ehy ∧ ehy ≤ 2000) (hex : -400000 ≤ ex ∧ ex ≤ 400000) (hey : -400000 ≤ ey ∧ ey ≤ 400000) (hb_st : bnd st 0 9) (hb_sx : bnd sx (-5) 5) (hb_sy : bnd sy (-5) 5) (helx : ex = lastF ld kx) (hely : ey = lastF ld ky) (hr_sta : iR sta) (hr_po : iR po) : Met l yL_reasonFor wsL_reasonFor { frames := 8, cells := 2, slots := 12, locals := 134 } (va_Pc [.ref aR, .int (iI sta), .int (iI po)] (xB g [(aR, .inr (11, [.ref aG, .ref aP, .ref aH, .ref aY, .ref aT, .ref aS, .ref aF, .ref aX, .int (iI pr), .int (iI tk), .int (iI tol), .int (iI hou)])), (aT, .inr (9, [.ref aTp, .ref aTt, .ref aTx, .ref aTy, .ref aE, .int (iI ld)])), (aE, .inr (3, [.int (iI ex), .int (iI ey), .int (iI ehx), .int (iI ehy)])), (aP, .inr (6, [.ref aPx, .ref aPy, .int (iI pn)])), (aPx, .inl (gI g, 200, .inl (ar bx))), (aPy, .inl (gI g, 200, .inl (ar byy))), (aF, .inr (3, [.int (iI fx), .int (iI fy), .int (iI fhx), .int (iI fhy)])), (aS, .inr (7, [.ref aQ, .ref aSt, .ref aSx, .ref aSy, .int (iI sr), .int (iI sl)])), (aQ, .inr (3, [.int (iI qx), .int (iI qy), .int (iI qhx), .int (iI qhy)])), (aSt, .inl (gI g, 4, .inl (ar st))), (aSx, .inl (gI g, 4, .inl (ar sx))), (aSy, .inl (gI g, 4, .inl (ar sy))), (aY, .inr (10, [.ref aYh, .ref aYt, .ref aYc])), (aYh, .inl (gI g, 3, .inl (ar ht))), (aYt, .inl (gI g, 36, .inl (ar yt))), (aG, .inr (4, [.ref aGn, .ref aGw, .ref aGs, .int (iI kn)])), (aGn, .inl (gI g, 200, .inl (ar nd))), (aGw, .inl (gI g, 200, .inl (ar wk))), (aTp, .inl (gI g, 200, .inl (ar tp))), (aYc, .inl (gI g, 36, .inl (ar yc)))] sz)) (va_Qi (fun r u => r = iI ((fun (u : Int × Int × Int × Int × Int × Int × Int × Int × Int × Int × (Int → Int) × (Int → Int) × (Int → Int)) => (if rfT sta po = 0 then reaF kn ld (ht sta) (mx 0 (yc (sta * 12 + (ht sta - 1)) + 24 - hou)) (lastP ld tp) po tk (takF nd wk pr ld) (devF pn bx byy kx ky ld ehx ehy (yt (sta * 12 + (ht sta - 1))) po) tol else -900000 - rfT sta po)) u) ∧ (fun (u : Int × Int × Int × Int × Int × Int × Int × Int × Int × Int × (Int → Int) × (Int → Int) × (Int → Int)) => bnd u.2.2.2.2.2.2.2.2.2.2.1 0 9 ∧ bnd u.2.2.2.2.2.2.2.2.2.2.2.1 (-5) 5 ∧ bnd u.2.2.2.2.2.2.2.2.2.2.2.2 (-5) 5) u) (fun u t => xE g (va_A [(aR, .inr (11, [.ref aG, .ref aP, .ref aH, .ref aY, .ref aT, .ref aS, .ref aF, .ref aX, .int (iI pr), .int (iI tk), .int (iI tol), .int (iI hou)])), (aT, .inr (9, [.ref aTp, .ref aTt, .ref aTx, .ref aTy, .ref aE, .int (iI ld)])), (aE, .inr (3, [.int (iI ex), .int (iI ey), .int (iI ehx), .int (iI ehy)])), (aP, .inr (6, [.ref aPx, .ref aPy, .int (iI pn)])), (aPx, .inl (gI g, 200, .inl (ar bx))), (aPy, .inl (gI g, 200, .inl (ar byy))), (aF, .inr (3, [.int (iI fx), .int (iI fy), .int (iI fhx), .int (iI fhy)])), (aS, .inr (7, [.ref aQ, .ref aSt, .ref aSx, .ref aSy, .int (iI sr), .int (iI sl)])), (aQ, .inr (3, [.int (iI qx), .int (iI qy), .int (iI qhx), .int (iI qhy)])), (aSt, .inl (gI g, 4, .inl (ar st))), (aSx, .inl (gI g, 4, .inl (ar sx))), (aSy, .inl (gI g, 4, .inl (ar sy))), (aY, .inr (10, [.ref aYh, .ref aYt, .ref aYc])), (aYh, .inl (gI g, 3, .inl (ar ht))), (aYt, .inl (gI g, 36, .inl (ar yt))), (aG, .inr (4, [.ref aGn, .ref aGw, .ref aGs, .int (iI kn)])), (aGn, .inl (gI g, 200, .inl (ar nd))), (aGw, .inl (gI g, 200, .inl (ar wk))), (aTp, .inl (gI g, 200, .inl (ar tp))), (aYc, .inl (gI g, 36, .inl (ar yc)))] sz) ((fun (u : Int × Int × Int × Int × Int × Int × Int × Int × Int × Int × (Int → Int) × (Int → Int) × (Int → Int)) => [(aR, .inr (11, [.ref aG, .ref aP, .ref aH, .ref aY, .ref aT, .ref aS, .ref aF, .ref aX, .int (iI pr), .int (iI tk), .int (iI tol), .int (iI hou)])), (aT, .inr (9, [.ref aTp, .ref aTt, .ref aTx, .ref aTy, .ref aE, .int (iI ld)])), (aE, .inr (3, [.int (iI ex), .int (iI ey), .int (iI ehx), .int (iI ehy)])), (aP, .inr (6, [.ref aPx, .ref aPy, .int (iI pn)])), (aPx, .inl (gI g, 200, .inl (ar bx))), (aPy, .inl (gI g, 200, .inl (ar byy))), (aF, .inr (3, [.int (iI u.1), .int (iI u.2.1), .int (iI u.2.2.1), .int (iI u.2.2.2.1)])), (aS, .inr (7, [.ref aQ, .ref aSt, .ref aSx, .ref aSy, .int (iI u.2.2.2.2.2.2.2.2.1), .int (iI u.2.2.2.2.2.2.2.2.2.1)])), (aQ, .inr (3, [.int (iI u.2.2.2.2.1), .int (iI u.2.2.2.2.2.1), .int (iI u.2.2.2.2.2.2.1), .int (iI u.2.2.2.2.2.2.2.1)])), (aSt, .inl (gI g, 4, .inl (ar u.2.2.2.2.2.2.2.2.2.2.1))), (aSx, .inl (gI g, 4, .inl (ar u.2.2.2.2.2.2.2.2.2.2.2.1))), (aSy, .inl (gI g, 4, .inl (ar u.2.2.2.2.2.2.2.2.2.2.2.2))), (aY, .inr (10, [.ref aYh, .ref aYt, .ref aYc])), (aYh, .inl (gI g, 3, .inl (ar ht))), (aYt, .inl (gI g, 36, .inl (ar yt))), (aG, .inr (4, [.ref aGn, .ref aGw, .ref aGs, .int (iI kn)])), (aGn, .inl (gI g, 200, .inl (ar nd))), (aGw, .inl (gI g, 200, .inl (ar wk))), (aTp, .inl (gI g, 200, .inl (ar tp))), (aYc, .inl (gI g, 36, .inl (ar yc)))]) u) t) (va_A [(aR, .inr (11, [.ref aG, .ref aP, .ref aH, .ref aY, .ref aT, .ref aS, .ref aF, .ref aX, .int (iI pr), .int (iI tk), .int (iI tol), .int (iI hou)])), (aT, .inr (9, [.ref aTp, .ref aTt, .ref aTx, .ref aTy, .ref aE, .int (iI ld)])), (aE, .inr (3, [.int (iI ex), .int (iI ey), .int (iI ehx), .int (iI ehy)])), (aP, .inr (6, [.ref aPx, .ref aPy, .int (iI pn)])), (aPx, .inl (gI g, 200, .inl (ar bx))), (aPy, .inl (gI g, 200, .inl (ar byy))), (aF, .inr (3, [.int (iI fx), .int (iI fy), .int (iI fhx), .int (iI fhy)])), (aS, .inr (7, [.ref aQ, .ref aSt, .ref aSx, .ref aSy, .int (iI sr), .int (iI sl)])), (aQ, .inr (3, [.int (iI qx), .int (iI qy), .int (iI qhx), .int (iI qhy)])), (aSt, .inl (gI g, 4, .inl (ar st))), (aSx, .inl (gI g, 4, .inl (ar sx))), (aSy, .inl (gI g, 4, .inl (ar sy))), (aY, .inr (10, [.ref aYh, .ref aYt, .ref aYc])), (aYh, .inl (gI g, 3, .inl (ar ht))), (aYt, .inl (gI g, 36, .inl (ar yt))), (aG, .inr (4, [.ref aGn, .ref aGw, .ref aGs, .int (iI kn)])), (aGn, .inl (gI g, 200, .inl (ar nd))), (aGw, .inl (gI g, 200, .inl (ar wk))), (aTp, .inl (gI g, 200, .inl (ar tp))), (aYc, .inl (gI g, 36, .inl (ar yc)))] sz)) 2 12 (va_A [(aR, .inr (11, [.ref aG, .ref aP, .ref aH, .ref aY, .ref aT, .ref aS, .ref aF, .ref aX, .int (iI pr), .int (iI tk), .int (iI tol), .int (iI hou)])), (aT, .inr (9, [.ref aTp, .ref aTt, .ref aTx, .ref aTy, .ref aE, .int (iI ld)])), (aE, .inr (3, [.int (iI ex), .int (iI ey), .int (iI ehx), .int (iI ehy)])), (aP, .inr (6, [.ref aPx, .ref aPy, .int (iI pn)])), (aPx, .inl (gI g, 200, .inl (ar bx))), (aPy, .inl (gI g, 200, .inl (ar byy))), (aF, .inr (3, [.int (iI fx), .int (iI fy), .int (iI fhx), .int (iI fhy)])), (aS, .inr (7, [.ref aQ, .ref aSt, .ref aSx, .ref aSy, .int (iI sr), .int (iI sl)])), (aQ, .inr (3, [.int (iI qx), .int (iI qy), .int (iI qhx), .int (iI qhy)])), (aSt, .inl (gI g, 4, .inl (ar st))), (aSx, .inl (gI g, 4, .inl (ar sx))), (aSy, .inl (gI g, 4, .inl (ar sy))), (aY, .inr (10, [.ref aYh, .ref aYt, .ref aYc])), (aYh, .inl (gI g, 3, .inl (ar ht))), (aYt, .inl (gI g, 36, .inl (ar yt))), (aG, .inr (4, [.ref aGn, .ref aGw, .ref aGs, .int (iI kn)])), (aGn, .inl (gI g, 200, .inl (ar nd))), (aGw, .inl (gI g, 200, .inl (ar wk))), (aTp, .inl (gI g, 200, .inl (ar tp))), (aYc, .inl (gI g, 36, .inl (ar yc)))] sz) := by
  refine x_enterH (y := yL_reasonFor) (ws := wsL_reasonFor) (g := g) (sz := sz) (av := [.ref aR, .int (iI sta), .int (iI po)]) (WS := [(aR, .inr (11, [.ref aG, .ref aP, .ref aH, .ref aY, .ref aT, .ref aS, .ref aF, .ref aX, .int (iI pr), .int (iI tk), .int (iI tol), .int (iI hou)])), (aT, .inr (9, [.ref aTp, .ref aTt, .ref aTx, .ref aTy, .ref aE, .int (iI ld)])), (aE, .inr (3, [.int (iI ex), .int (iI ey), .int (iI ehx), .int (iI ehy)])), (aP, .inr (6, [.ref aPx, .ref aPy, .int (iI pn)])), (aPx, .inl (gI g, 200, .inl (ar bx))), (aPy, .inl (gI g, 200, .inl (ar byy))), (aF, .inr (3, [.int (iI fx), .int (iI fy), .int (iI fhx), .int (iI fhy)])), (aS, .inr (7, [.ref aQ, .ref aSt, .ref aSx, .ref aSy, .int (iI sr), .int (iI sl)])), (aQ, .inr (3, [.int (iI qx), .int (iI qy), .int (iI qhx), .int (iI qhy)])), (aSt, .inl (gI g, 4, .inl (ar st))), (aSx, .inl (gI g, 4, .inl (ar sx))), (aSy, .inl (gI g, 4, .inl (ar sy))), (aY, .inr (10, [.ref aYh, .ref aYt, .ref aYc])), (aYh, .inl (gI g, 3, .inl (ar ht))), (aYt, .inl (gI g, 36, .inl (ar yt))), (aG, .inr (4, [.ref aGn, .ref aGw, .ref aGs, .int (iI kn)])), (aGn, .inl (gI g, 200, .inl (ar nd))), (aGw, .inl (gI g, 200, .inl (ar wk))), (aTp, .inl (gI g, 200, .inl (ar tp))), (aYc, .inl (gI g, 36, .inl (ar yc)))]) (cc := cL_reasonFor) (maxL := 4) (ret := some .int) (Qc := (fun A => (va_Qi (fun r u => r = iI ((fun (u : Int × Int × Int × Int × Int × Int × Int × Int × Int × Int × (Int → Int) × (Int → Int) × (Int → Int)) => (if rfT sta po = 0 then reaF kn ld (ht sta) (mx 0 (yc (sta * 12 + (ht sta - 1)) + 24 - hou)) (lastP ld tp) po tk (takF nd wk pr ld) (devF pn bx byy kx ky ld ehx ehy (yt (sta * 12 + (ht sta - 1))) po) tol else -900000 - rfT sta po)) u) ∧ (fun (u : Int × Int × Int × Int × Int × Int × Int × Int × Int × Int × (Int → Int) × (Int → Int) × (Int → Int)) => bnd u.2.2.2.2.2.2.2.2.2.2.1 0 9 ∧ bnd u.2.2.2.2.2.2.2.2.2.2.2.1 (-5) 5 ∧ bnd u.2.2.2.2.2.2.2.2.2.2.2.2 (-5) 5) u) (fun u t => xE g A ((fun (u : Int × Int × Int × Int × Int × Int × Int × Int × Int × Int × (Int → Int) × (Int → Int) × (Int → Int)) => [(aR, .inr (11, [.ref aG, .ref aP, .ref aH, .ref aY, .ref aT, .ref aS, .ref aF, .ref aX, .int (iI pr), .int (iI tk), .int (iI tol), .int (iI hou)])), (aT, .inr (9, [.ref aTp, .ref aTt, .ref aTx, .ref aTy, .ref aE, .int (iI ld)])), (aE, .inr (3, [.int (iI ex), .int (iI ey), .int (iI ehx), .int (iI ehy)])), (aP, .inr (6, [.ref aPx, .ref aPy, .int (iI pn)])), (aPx, .inl (gI g, 200, .inl (ar bx))), (aPy, .inl (gI g, 200, .inl (ar byy))), (aF, .inr (3, [.int (iI u.1), .int (iI u.2.1), .int (iI u.2.2.1), .int (iI u.2.2.2.1)])), (aS, .inr (7, [.ref aQ, .ref aSt, .ref aSx, .ref aSy, .int (iI u.2.2.2.2.2.2.2.2.1), .int (iI u.2.2.2.2.2.2.2.2.2.1)])), (aQ, .inr (3, [.int (iI u.2.2.2.2.1), .int (iI u.2.2.2.2.2.1), .int (iI u.2.2.2.2.2.2.1), .int (iI u.2.2.2.2.2.2.2.1)])), (aSt, .inl (gI g, 4, .inl (ar u.2.2.2.2.2.2.2.2.2.2.1))), (aSx, .inl (gI g, 4, .inl (ar u.2.2.2.2.2.2.2.2.2.2.2.1))), (aSy, .inl (gI g, 4, .inl (ar u.2.2.2.2.2.2.2.2.2.2.2.2))), (aY, .inr (10, [.ref aYh, .ref aYt, .ref aYc])), (aYh, .inl (gI g, 3, .inl (ar ht))), (aYt, .inl (gI g, 36, .inl (ar yt))), (aG, .inr (4, [.ref aGn, .ref aGw, .ref aGs, .int (iI kn)])), (aGn, .inl (gI g, 200, .inl (ar nd))), (aGw, .inl (gI g, 200, .inl (ar wk))), (aTp, .inl (gI g, 200, .inl (ar tp))), (aYc, .inl (gI g, 36, .inl (ar yc)))]) u) t) A))) (by decide) rfl (Nat.le_of_ble_eq_true rfl) ?_
  intro p e s m args below meth c A ls hx hb hr hml hown hts hlocks htab hC hP hD hS hA hl
  have hK := hC.1
  have hown : s.vm.findClass RL = some m.cls := hown
  have hl : lv_has ls 4 [(0, .ref aR), (1, .int (iI sta)), (2, .int (iI po))] := hl
  obtain ⟨H, hH⟩ : ∃ z, z = s.heap := ⟨_, rfl⟩
  obtain ⟨locs, hlo⟩ : ∃ z : List Loc, z = [] := ⟨_, rfl⟩
  obtain ⟨Q9, hQ9⟩ : ∃ z, z = MQ below (va_Qi (fun r u => r = iI ((fun (u : Int × Int × Int × Int × Int × Int × Int × Int × Int × Int × (Int → Int) × (Int → Int) × (Int → Int)) => (if rfT sta po = 0 then reaF kn ld (ht sta) (mx 0 (yc (sta * 12 + (ht sta - 1)) + 24 - hou)) (lastP ld tp) po tk (takF nd wk pr ld) (devF pn bx byy kx ky ld ehx ehy (yt (sta * 12 + (ht sta - 1))) po) tol else -900000 - rfT sta po)) u) ∧ (fun (u : Int × Int × Int × Int × Int × Int × Int × Int × Int × Int × (Int → Int) × (Int → Int) × (Int → Int)) => bnd u.2.2.2.2.2.2.2.2.2.2.1 0 9 ∧ bnd u.2.2.2.2.2.2.2.2.2.2.2.1 (-5) 5 ∧ bnd u.2.2.2.2.2.2.2.2.2.2.2.2 (-5) 5) u) (fun u t => xE g A ((fun (u : Int × Int × Int × Int × Int × Int × Int × Int × Int × Int × (Int → Int) × (Int → Int) × (Int → Int)) => [(aR, .inr (11, [.ref aG, .ref aP, .ref aH, .ref aY, .ref aT, .ref aS, .ref aF, .ref aX, .int (iI pr), .int (iI tk), .int (iI tol), .int (iI hou)])), (aT, .inr (9, [.ref aTp, .ref aTt, .ref aTx, .ref aTy, .ref aE, .int (iI ld)])), (aE, .inr (3, [.int (iI ex), .int (iI ey), .int (iI ehx), .int (iI ehy)])), (aP, .inr (6, [.ref aPx, .ref aPy, .int (iI pn)])), (aPx, .inl (gI g, 200, .inl (ar bx))), (aPy, .inl (gI g, 200, .inl (ar byy))), (aF, .inr (3, [.int (iI u.1), .int (iI u.2.1), .int (iI u.2.2.1), .int (iI u.2.2.2.1)])), (aS, .inr (7, [.ref aQ, .ref aSt, .ref aSx, .ref aSy, .int (iI u.2.2.2.2.2.2.2.2.1), .int (iI u.2.2.2.2.2.2.2.2.2.1)])), (aQ, .inr (3, [.int (iI u.2.2.2.2.1), .int (iI u.2.2.2.2.2.1), .int (iI u.2.2.2.2.2.2.1), .int (iI u.2.2.2.2.2.2.2.1)])), (aSt, .inl (gI g, 4, .inl (ar u.2.2.2.2.2.2.2.2.2.2.1))), (aSx, .inl (gI g, 4, .inl (ar u.2.2.2.2.2.2.2.2.2.2.2.1))), (aSy, .inl (gI g, 4, .inl (ar u.2.2.2.2.2.2.2.2.2.2.2.2))), (aY, .inr (10, [.ref aYh, .ref aYt, .ref aYc])), (aYh, .inl (gI g, 3, .inl (ar ht))), (aYt, .inl (gI g, 36, .inl (ar yt))), (aG, .inr (4, [.ref aGn, .ref aGw, .ref aGs, .int (iI kn)])), (aGn, .inl (gI g, 200, .inl (ar nd))), (aGw, .inl (gI g, 200, .inl (ar wk))), (aTp, .inl (gI g, 200, .inl (ar tp))), (aYc, .inl (gI g, 36, .inl (ar yc)))]) u) t) A) args s 2 12 A := ⟨_, rfl⟩
  have hP : va_P (gD g) vwCl [(aR, .inr (11, [.ref aG, .ref aP, .ref aH, .ref aY, .ref aT, .ref aS, .ref aF, .ref aX, .int (iI pr), .int (iI tk), .int (iI tol), .int (iI hou)])), (aT, .inr (9, [.ref aTp, .ref aTt, .ref aTx, .ref aTy, .ref aE, .int (iI ld)])), (aE, .inr (3, [.int (iI ex), .int (iI ey), .int (iI ehx), .int (iI ehy)])), (aP, .inr (6, [.ref aPx, .ref aPy, .int (iI pn)])), (aPx, .inl (gI g, 200, .inl (ar bx))), (aPy, .inl (gI g, 200, .inl (ar byy))), (aF, .inr (3, [.int (iI fx), .int (iI fy), .int (iI fhx), .int (iI fhy)])), (aS, .inr (7, [.ref aQ, .ref aSt, .ref aSx, .ref aSy, .int (iI sr), .int (iI sl)])), (aQ, .inr (3, [.int (iI qx), .int (iI qy), .int (iI qhx), .int (iI qhy)])), (aSt, .inl (gI g, 4, .inl (ar st))), (aSx, .inl (gI g, 4, .inl (ar sx))), (aSy, .inl (gI g, 4, .inl (ar sy))), (aY, .inr (10, [.ref aYh, .ref aYt, .ref aYc])), (aYh, .inl (gI g, 3, .inl (ar ht))), (aYt, .inl (gI g, 36, .inl (ar yt))), (aG, .inr (4, [.ref aGn, .ref aGw, .ref aGs, .int (iI kn)])), (aGn, .inl (gI g, 200, .inl (ar nd))), (aGw, .inl (gI g, 200, .inl (ar wk))), (aTp, .inl (gI g, 200, .inl (ar tp))), (aYc, .inl (gI g, 36, .inl (ar yc)))] H := by rw [hH]; exact hP
  have hS : va_S A s.heap H locs := by rw [hH, hlo]; exact hS
  have goal_ : W p l e { frames := 8, cells := 2, slots := 12, locals := 134 } s m args below meth c H locs 0 0 Q9 (F0 m 0 ls []) := by
    clear hH hlo
    refine lv_aload_n hx hb dL_reasonFor_0 rfl (lv_at hl 0 rfl) ?_
    refine lv_iload_n hx hb dL_reasonFor_1 rfl (lv_at hl 1 rfl) ?_
    refine lv_iload_n hx hb dL_reasonFor_2 rfl (lv_at hl 2 rfl) ?_
    refine x_calliX (S := Int × Int × Int × Int × Int × Int × Int × Int × Int × Int × (Int → Int) × (Int → Int) × (Int → Int)) (SX := Int × Int × Int × Int × Int × Int × Int × Int × Int × Int × (Int → Int) × (Int → Int) × (Int → Int)) (wc := [(aR, .inr (11, [.ref aG, .ref aP, .ref aH, .ref aY, .ref aT, .ref aS, .ref aF, .ref aX, .int (iI pr), .int (iI tk), .int (iI tol), .int (iI hou)])), (aT, .inr (9, [.ref aTp, .ref aTt, .ref aTx, .ref aTy, .ref aE, .int (iI ld)])), (aE, .inr (3, [.int (iI ex), .int (iI ey), .int (iI ehx), .int (iI ehy)])), (aP, .inr (6, [.ref aPx, .ref aPy, .int (iI pn)])), (aPx, .inl (gI g, 200, .inl (ar bx))), (aPy, .inl (gI g, 200, .inl (ar byy))), (aF, .inr (3, [.int (iI fx), .int (iI fy), .int (iI fhx), .int (iI fhy)])), (aS, .inr (7, [.ref aQ, .ref aSt, .ref aSx, .ref aSy, .int (iI sr), .int (iI sl)])), (aQ, .inr (3, [.int (iI qx), .int (iI qy), .int (iI qhx), .int (iI qhy)])), (aSt, .inl (gI g, 4, .inl (ar st))), (aSx, .inl (gI g, 4, .inl (ar sx))), (aSy, .inl (gI g, 4, .inl (ar sy))), (aY, .inr (10, [.ref aYh, .ref aYt, .ref aYc])), (aYh, .inl (gI g, 3, .inl (ar ht))), (aYt, .inl (gI g, 36, .inl (ar yt))), (aG, .inr (4, [.ref aGn, .ref aGw, .ref aGs, .int (iI kn)])), (aGn, .inl (gI g, 200, .inl (ar nd))), (aGw, .inl (gI g, 200, .inl (ar wk))), (aTp, .inl (gI g, 200, .inl (ar tp))), (aYc, .inl (gI g, 36, .inl (ar yc)))]) (wr := []) hC hP hD hS hA [0, 1, 2, 3, 4, 5, 6, 7, 8, 9, 10, 11, 12, 13, 14, 15, 16, 17, 18, 19] [] [0, 1, 2, 3, 4, 5, 6, 7, 8, 9, 10, 11, 12, 13, 14, 15, 16, 17, 18, 19] rfl rfl (fun hpre => vx_runV (As := [.int (iI sta), .int (iI po)]) (rest := []) ⟨hx, hb, hml, hown, hts⟩ (c_X8_reasonFor l hflags g H.size aR aG aP aH aY aT aS aF aX aTp aTt aTx aTy aE aPx aPy aQ aSt aSx aSy aYh aYt aYc aGn aGw aGs pr tk tol hou ld ex ey ehx ehy pn fx fy fhx fhy sr sl qx qy qhx qhy kn sta po bx byy st sx sy ht yt nd wk tp yc kx ky (by first | (first | assumption | omega | exact bnd_up (by assumption) (by omega) (by omega)) | fail "q8") (by first | (first | assumption | omega | exact bnd_up (by assumption) (by omega) (by omega)) | fail "q8") (by first | (first | assumption | omega | exact bnd_up (by assumption) (by omega) (by omega)) | fail "q8") (by first | (first | assumption | omega | exact bnd_up (by assumption) (by omega) (by omega)) | fail "q8") (by first | (first | assumption | omega | exact bnd_up (by assumption) (by omega) (by omega)) | fail "q8") (by first | (first | assumption | omega | exact bnd_up (by assumption) (by omega) (by omega)) | fail "q8") (by first | (first | assumption | omega | exact bnd_up (by assumption) (by omega) (by omega)) | fail "q8") (by first | (first | assumption | omega | exact bnd_up (by assumption) (by omega) (by omega)) | fail "q8") (by first | (first | assumption | omega | exact bnd_up (by assumption) (by omega) (by omega)) | fail "q8") (by first | (first | assumption | omega | exact bnd_up (by assumption) (by omega) (by omega)) | fail "q8") (by first | (first | assumption | omega | exact bnd_up (by assumption) (by omega) (by omega)) | fail "q8") (by first | (first | assumption | omega | exact bnd_up (by assumption) (by omega) (by omega)) | fail "q8") (by first | (first | assumption | omega | exact bnd_up (by assumption) (by omega) (by omega)) | fail "q8") (by first | (first | assumption | omega | exact bnd_up (by assumption) (by omega) (by omega)) | fail "q8") (by first | (first | assumption | omega | exact bnd_up (by assumption) (by omega) (by omega)) | fail "q8") (by first | (first | assumption | omega | exact bnd_up (by assumption) (by omega) (by omega)) | fail "q8") (by first | (first | assumption | omega | exact bnd_up (by assumption) (by omega) (by omega)) | fail "q8") (by first | (first | assumption | omega | exact bnd_up (by assumption) (by omega) (by omega)) | fail "q8") (by first | (first | assumption | omega | exact bnd_up (by assumption) (by omega) (by omega)) | fail "q8") (by first | (first | assumption | omega | exact bnd_up (by assumption) (by omega) (by omega)) | fail "q8") (by first | (first | assumption | omega | exact bnd_up (by assumption) (by omega) (by omega)) | fail "q8") (by first | (first | assumption | omega | exact bnd_up (by assumption) (by omega) (by omega)) | fail "q8") (by first | (first | assumption | omega | exact bnd_up (by assumption) (by omega) (by omega)) | fail "q8") (by first | (first | assumption | omega | exact bnd_up (by assumption) (by omega) (by omega)) | fail "q8") (by first | (first | assumption | omega | exact bnd_up (by assumption) (by omega) (by omega)) | fail "q8") (by first | (first | assumption | omega | exact bnd_up (by assumption) (by omega) (by omega)) | fail "q8")) (cwV 2 hts gL_reasonFor_X8_reasonFor rfl rfl rfl (by decide +kernel) ⟨Nat.le_of_ble_eq_true rfl, Nat.le_of_ble_eq_true rfl⟩) ⟨xB_blind, va_recv hK hP (ci := 11) (q0 := 0) rfl rfl, hpre _⟩ rfl rfl hl.1 rfl (lv_room (Nat.le_of_ble_eq_true rfl)) dL_reasonFor_3 ⟨Nat.le_of_ble_eq_true rfl, Nat.le_of_ble_eq_true rfl⟩) (fun (u : Int × Int × Int × Int × Int × Int × Int × Int × Int × Int × (Int → Int) × (Int → Int) × (Int → Int)) => [(aR, .inr (11, [.ref aG, .ref aP, .ref aH, .ref aY, .ref aT, .ref aS, .ref aF, .ref aX, .int (iI pr), .int (iI tk), .int (iI tol), .int (iI hou)])), (aT, .inr (9, [.ref aTp, .ref aTt, .ref aTx, .ref aTy, .ref aE, .int (iI ld)])), (aE, .inr (3, [.int (iI ex), .int (iI ey), .int (iI ehx), .int (iI ehy)])), (aP, .inr (6, [.ref aPx, .ref aPy, .int (iI pn)])), (aPx, .inl (gI g, 200, .inl (ar bx))), (aPy, .inl (gI g, 200, .inl (ar byy))), (aF, .inr (3, [.int (iI u.1), .int (iI u.2.1), .int (iI u.2.2.1), .int (iI u.2.2.2.1)])), (aS, .inr (7, [.ref aQ, .ref aSt, .ref aSx, .ref aSy, .int (iI u.2.2.2.2.2.2.2.2.1), .int (iI u.2.2.2.2.2.2.2.2.2.1)])), (aQ, .inr (3, [.int (iI u.2.2.2.2.1), .int (iI u.2.2.2.2.2.1), .int (iI u.2.2.2.2.2.2.1), .int (iI u.2.2.2.2.2.2.2.1)])), (aSt, .inl (gI g, 4, .inl (ar u.2.2.2.2.2.2.2.2.2.2.1))), (aSx, .inl (gI g, 4, .inl (ar u.2.2.2.2.2.2.2.2.2.2.2.1))), (aSy, .inl (gI g, 4, .inl (ar u.2.2.2.2.2.2.2.2.2.2.2.2))), (aY, .inr (10, [.ref aYh, .ref aYt, .ref aYc])), (aYh, .inl (gI g, 3, .inl (ar ht))), (aYt, .inl (gI g, 36, .inl (ar yt))), (aG, .inr (4, [.ref aGn, .ref aGw, .ref aGs, .int (iI kn)])), (aGn, .inl (gI g, 200, .inl (ar nd))), (aGw, .inl (gI g, 200, .inl (ar wk))), (aTp, .inl (gI g, 200, .inl (ar tp))), (aYc, .inl (gI g, 36, .inl (ar yc)))]) (fun (u : Int × Int × Int × Int × Int × Int × Int × Int × Int × Int × (Int → Int) × (Int → Int) × (Int → Int)) => ([(aR, .inr (11, [.ref aG, .ref aP, .ref aH, .ref aY, .ref aT, .ref aS, .ref aF, .ref aX, .int (iI pr), .int (iI tk), .int (iI tol), .int (iI hou)])), (aT, .inr (9, [.ref aTp, .ref aTt, .ref aTx, .ref aTy, .ref aE, .int (iI ld)])), (aE, .inr (3, [.int (iI ex), .int (iI ey), .int (iI ehx), .int (iI ehy)])), (aP, .inr (6, [.ref aPx, .ref aPy, .int (iI pn)])), (aPx, .inl (gI g, 200, .inl (ar bx))), (aPy, .inl (gI g, 200, .inl (ar byy))), (aF, .inr (3, [.int (iI u.1), .int (iI u.2.1), .int (iI u.2.2.1), .int (iI u.2.2.2.1)])), (aS, .inr (7, [.ref aQ, .ref aSt, .ref aSx, .ref aSy, .int (iI u.2.2.2.2.2.2.2.2.1), .int (iI u.2.2.2.2.2.2.2.2.2.1)])), (aQ, .inr (3, [.int (iI u.2.2.2.2.1), .int (iI u.2.2.2.2.2.1), .int (iI u.2.2.2.2.2.2.1), .int (iI u.2.2.2.2.2.2.2.1)])), (aSt, .inl (gI g, 4, .inl (ar u.2.2.2.2.2.2.2.2.2.2.1))), (aSx, .inl (gI g, 4, .inl (ar u.2.2.2.2.2.2.2.2.2.2.2.1))), (aSy, .inl (gI g, 4, .inl (ar u.2.2.2.2.2.2.2.2.2.2.2.2))), (aY, .inr (10, [.ref aYh, .ref aYt, .ref aYc])), (aYh, .inl (gI g, 3, .inl (ar ht))), (aYt, .inl (gI g, 36, .inl (ar yt))), (aG, .inr (4, [.ref aGn, .ref aGw, .ref aGs, .int (iI kn)])), (aGn, .inl (gI g, 200, .inl (ar nd))), (aGw, .inl (gI g, 200, .inl (ar wk))), (aTp, .inl (gI g, 200, .inl (ar tp))), (aYc, .inl (gI g, 36, .inl (ar yc)))] : va_W)) rfl rfl (by decide) (fun _ => rfl) (fun _ => rfl) rfl (fun E ce q9 u H locs hXP hPX hP hD hS hcell hv9 hcl => ?_) (fun u v_14 H locs hv_14 pv_14 hP hD hS => ?_)
    · skip
      obtain ⟨fx_o_15, fy_o_16, fhx_o_17, fhy_o_18, qx_o_19, qy_o_20, qhx_o_21, qhy_o_22, sr_o_23, sl_o_24, st_o_25, sx_o_26, sy_o_27⟩ := u
      have hXP : bnd st_o_25 0 9 ∧ bnd sx_o_26 (-5) 5 ∧ bnd sy_o_27 (-5) 5 := hXP
      have hP : va_P (gD g) vwCl [(aR, .inr (11, [.ref aG, .ref aP, .ref aH, .ref aY, .ref aT, .ref aS, .ref aF, .ref aX, .int (iI pr), .int (iI tk), .int (iI tol), .int (iI hou)])), (aT, .inr (9, [.ref aTp, .ref aTt, .ref aTx, .ref aTy, .ref aE, .int (iI ld)])), (aE, .inr (3, [.int (iI ex), .int (iI ey), .int (iI ehx), .int (iI ehy)])), (aP, .inr (6, [.ref aPx, .ref aPy, .int (iI pn)])), (aPx, .inl (gI g, 200, .inl (ar bx))), (aPy, .inl (gI g, 200, .inl (ar byy))), (aF, .inr (3, [.int (iI fx_o_15), .int (iI fy_o_16), .int (iI fhx_o_17), .int (iI fhy_o_18)])), (aS, .inr (7, [.ref aQ, .ref aSt, .ref aSx, .ref aSy, .int (iI sr_o_23), .int (iI sl_o_24)])), (aQ, .inr (3, [.int (iI qx_o_19), .int (iI qy_o_20), .int (iI qhx_o_21), .int (iI qhy_o_22)])), (aSt, .inl (gI g, 4, .inl (ar st_o_25))), (aSx, .inl (gI g, 4, .inl (ar sx_o_26))), (aSy, .inl (gI g, 4, .inl (ar sy_o_27))), (aY, .inr (10, [.ref aYh, .ref aYt, .ref aYc])), (aYh, .inl (gI g, 3, .inl (ar ht))), (aYt, .inl (gI g, 36, .inl (ar yt))), (aG, .inr (4, [.ref aGn, .ref aGw, .ref aGs, .int (iI kn)])), (aGn, .inl (gI g, 200, .inl (ar nd))), (aGw, .inl (gI g, 200, .inl (ar wk))), (aTp, .inl (gI g, 200, .inl (ar tp))), (aYc, .inl (gI g, 36, .inl (ar yc)))] H := hP
      have hD : va_D A [(aR, .inr (11, [.ref aG, .ref aP, .ref aH, .ref aY, .ref aT, .ref aS, .ref aF, .ref aX, .int (iI pr), .int (iI tk), .int (iI tol), .int (iI hou)])), (aT, .inr (9, [.ref aTp, .ref aTt, .ref aTx, .ref aTy, .ref aE, .int (iI ld)])), (aE, .inr (3, [.int (iI ex), .int (iI ey), .int (iI ehx), .int (iI ehy)])), (aP, .inr (6, [.ref aPx, .ref aPy, .int (iI pn)])), (aPx, .inl (gI g, 200, .inl (ar bx))), (aPy, .inl (gI g, 200, .inl (ar byy))), (aF, .inr (3, [.int (iI fx_o_15), .int (iI fy_o_16), .int (iI fhx_o_17), .int (iI fhy_o_18)])), (aS, .inr (7, [.ref aQ, .ref aSt, .ref aSx, .ref aSy, .int (iI sr_o_23), .int (iI sl_o_24)])), (aQ, .inr (3, [.int (iI qx_o_19), .int (iI qy_o_20), .int (iI qhx_o_21), .int (iI qhy_o_22)])), (aSt, .inl (gI g, 4, .inl (ar st_o_25))), (aSx, .inl (gI g, 4, .inl (ar sx_o_26))), (aSy, .inl (gI g, 4, .inl (ar sy_o_27))), (aY, .inr (10, [.ref aYh, .ref aYt, .ref aYc])), (aYh, .inl (gI g, 3, .inl (ar ht))), (aYt, .inl (gI g, 36, .inl (ar yt))), (aG, .inr (4, [.ref aGn, .ref aGw, .ref aGs, .int (iI kn)])), (aGn, .inl (gI g, 200, .inl (ar nd))), (aGw, .inl (gI g, 200, .inl (ar wk))), (aTp, .inl (gI g, 200, .inl (ar tp))), (aYc, .inl (gI g, 36, .inl (ar yc)))] := hD
      rcases hPX with ⟨hE, hp⟩ | ⟨hE, hp⟩
      · skip
        have hp : rfT sta po = 1 := hp
        subst hE
        refine vx_catch (E := "java/lang/IndexOutOfBoundsException") (name := "java/lang/IndexOutOfBoundsException") hown [] ⟨0, 6, 7, 28⟩ [⟨0, 6, 11, 15⟩] (by rw [htab]; rfl) (fun z hz => by cases hz) (by decide) (by decide) (hts (.classLink RL 28 "java/lang/IndexOutOfBoundsException") (List.mem_of_getElem? (i := 1) rfl)) (va_Nw.use rfl (hC.2.2.2.2.2.2.2.2.2.2.1 "java/lang/IndexOutOfBoundsException" (List.mem_of_getElem? (i := 2) rfl))) hcell hv9 hcl ?_
        refine lv_astore_n (lv' := [(3, .ref q9), (0, .ref aR), (1, .int (iI sta)), (2, .int (iI po))]) hx hb dL_reasonFor_7 rfl hl (by decide) rfl (fun ls hl => ?_)
        refine x_ldc (v := -900001) hx hb hown (hts (.constant RL 17 (-900001)) (List.mem_of_getElem? (i := 3) rfl)) (by decide) dL_reasonFor_8 ?_
        rw [hQ9]
        exact x_iret hx hb hr hlocks hP hD hS (S := Int × Int × Int × Int × Int × Int × Int × Int × Int × Int × (Int → Int) × (Int → Int) × (Int → Int)) rfl dL_reasonFor_10 ⟨fx_o_15, fy_o_16, fhx_o_17, fhy_o_18, qx_o_19, qy_o_20, qhx_o_21, qhy_o_22, sr_o_23, sl_o_24, st_o_25, sx_o_26, sy_o_27⟩ (by
            first
            | (
               first | (rw [if_pos (by omega)]; first | assumption | (subst_vars; rfl)) | (rw [if_neg (by omega)]; omega))
            | fail "q9") (by
            first
            | (
               first | exact hjk | exact hjk.2 | exact hXP | exact ⟨hb_st, hb_sx, hb_sy⟩)
            | fail "q9") rfl (Nat.le_of_ble_eq_true rfl) (Nat.le_of_ble_eq_true rfl)
      · skip
        have hp : rfT sta po = 2 := hp
        subst hE
        refine vx_catch (E := "java/lang/IllegalArgumentException") (name := "java/lang/IllegalArgumentException") hown [⟨0, 6, 7, 28⟩] ⟨0, 6, 11, 15⟩ [] (by rw [htab]; rfl) (fun z hz => by rcases List.mem_cons.mp hz with rfl | hz; exact Or.inr ⟨by decide, "java/lang/IndexOutOfBoundsException", (hts (.classLink RL 28 "java/lang/IndexOutOfBoundsException") (List.mem_of_getElem? (i := 1) rfl)), hC.d.2.2.2.2.2.1 ("java/lang/IllegalArgumentException", "java/lang/IndexOutOfBoundsException") (List.mem_of_getElem? (i := 1) (by decide +kernel))⟩; cases hz) (by decide) (by decide) (hts (.classLink RL 15 "java/lang/IllegalArgumentException") (List.mem_of_getElem? (i := 2) rfl)) (va_Nw.use rfl (hC.2.2.2.2.2.2.2.2.2.2.1 "java/lang/IllegalArgumentException" (List.mem_of_getElem? (i := 0) rfl))) hcell hv9 hcl ?_
        refine lv_astore_n (lv' := [(3, .ref q9), (0, .ref aR), (1, .int (iI sta)), (2, .int (iI po))]) hx hb dL_reasonFor_11 rfl hl (by decide) rfl (fun ls hl => ?_)
        refine x_ldc (v := -900002) hx hb hown (hts (.constant RL 20 (-900002)) (List.mem_of_getElem? (i := 4) rfl)) (by decide) dL_reasonFor_12 ?_
        rw [hQ9]
        exact x_iret hx hb hr hlocks hP hD hS (S := Int × Int × Int × Int × Int × Int × Int × Int × Int × Int × (Int → Int) × (Int → Int) × (Int → Int)) rfl dL_reasonFor_14 ⟨fx_o_15, fy_o_16, fhx_o_17, fhy_o_18, qx_o_19, qy_o_20, qhx_o_21, qhy_o_22, sr_o_23, sl_o_24, st_o_25, sx_o_26, sy_o_27⟩ (by
            first
            | (
               first | (rw [if_pos (by omega)]; first | assumption | (subst_vars; rfl)) | (rw [if_neg (by omega)]; omega))
            | fail "q9") (by
            first
            | (
               first | exact hjk | exact hjk.2 | exact hXP | exact ⟨hb_st, hb_sx, hb_sy⟩)
            | fail "q9") rfl (Nat.le_of_ble_eq_true rfl) (Nat.le_of_ble_eq_true rfl)
    · skip
      obtain ⟨fx_o_1, fy_o_2, fhx_o_3, fhy_o_4, qx_o_5, qy_o_6, qhx_o_7, qhy_o_8, sr_o_9, sl_o_10, st_o_11, sx_o_12, sy_o_13⟩ := u
      have hP : va_P (gD g) vwCl [(aR, .inr (11, [.ref aG, .ref aP, .ref aH, .ref aY, .ref aT, .ref aS, .ref aF, .ref aX, .int (iI pr), .int (iI tk), .int (iI tol), .int (iI hou)])), (aT, .inr (9, [.ref aTp, .ref aTt, .ref aTx, .ref aTy, .ref aE, .int (iI ld)])), (aE, .inr (3, [.int (iI ex), .int (iI ey), .int (iI ehx), .int (iI ehy)])), (aP, .inr (6, [.ref aPx, .ref aPy, .int (iI pn)])), (aPx, .inl (gI g, 200, .inl (ar bx))), (aPy, .inl (gI g, 200, .inl (ar byy))), (aF, .inr (3, [.int (iI fx_o_1), .int (iI fy_o_2), .int (iI fhx_o_3), .int (iI fhy_o_4)])), (aS, .inr (7, [.ref aQ, .ref aSt, .ref aSx, .ref aSy, .int (iI sr_o_9), .int (iI sl_o_10)])), (aQ, .inr (3, [.int (iI qx_o_5), .int (iI qy_o_6), .int (iI qhx_o_7), .int (iI qhy_o_8)])), (aSt, .inl (gI g, 4, .inl (ar st_o_11))), (aSx, .inl (gI g, 4, .inl (ar sx_o_12))), (aSy, .inl (gI g, 4, .inl (ar sy_o_13))), (aY, .inr (10, [.ref aYh, .ref aYt, .ref aYc])), (aYh, .inl (gI g, 3, .inl (ar ht))), (aYt, .inl (gI g, 36, .inl (ar yt))), (aG, .inr (4, [.ref aGn, .ref aGw, .ref aGs, .int (iI kn)])), (aGn, .inl (gI g, 200, .inl (ar nd))), (aGw, .inl (gI g, 200, .inl (ar wk))), (aTp, .inl (gI g, 200, .inl (ar tp))), (aYc, .inl (gI g, 36, .inl (ar yc)))] H := hP
      have hD : va_D A [(aR, .inr (11, [.ref aG, .ref aP, .ref aH, .ref aY, .ref aT, .ref aS, .ref aF, .ref aX, .int (iI pr), .int (iI tk), .int (iI tol), .int (iI hou)])), (aT, .inr (9, [.ref aTp, .ref aTt, .ref aTx, .ref aTy, .ref aE, .int (iI ld)])), (aE, .inr (3, [.int (iI ex), .int (iI ey), .int (iI ehx), .int (iI ehy)])), (aP, .inr (6, [.ref aPx, .ref aPy, .int (iI pn)])), (aPx, .inl (gI g, 200, .inl (ar bx))), (aPy, .inl (gI g, 200, .inl (ar byy))), (aF, .inr (3, [.int (iI fx_o_1), .int (iI fy_o_2), .int (iI fhx_o_3), .int (iI fhy_o_4)])), (aS, .inr (7, [.ref aQ, .ref aSt, .ref aSx, .ref aSy, .int (iI sr_o_9), .int (iI sl_o_10)])), (aQ, .inr (3, [.int (iI qx_o_5), .int (iI qy_o_6), .int (iI qhx_o_7), .int (iI qhy_o_8)])), (aSt, .inl (gI g, 4, .inl (ar st_o_11))), (aSx, .inl (gI g, 4, .inl (ar sx_o_12))), (aSy, .inl (gI g, 4, .inl (ar sy_o_13))), (aY, .inr (10, [.ref aYh, .ref aYt, .ref aYc])), (aYh, .inl (gI g, 3, .inl (ar ht))), (aYt, .inl (gI g, 36, .inl (ar yt))), (aG, .inr (4, [.ref aGn, .ref aGw, .ref aGs, .int (iI kn)])), (aGn, .inl (gI g, 200, .inl (ar nd))), (aGw, .inl (gI g, 200, .inl (ar wk))), (aTp, .inl (gI g, 200, .inl (ar tp))), (aYc, .inl (gI g, 36, .inl (ar yc)))] := hD
      have hv_14 : v_14 = reaF kn ld (ht sta) (mx 0 (yc (sta * 12 + (ht sta - 1)) + 24 - hou)) (lastP ld tp) po tk (takF nd wk pr ld) (devF pn bx byy kx ky ld ehx ehy (yt (sta * 12 + (ht sta - 1))) po) tol := hv_14
      obtain ⟨tv_14, pv_14⟩ := pv_14
      have tv_14 : rfT sta po = 0 := tv_14
      have pv_14 : (0 ≤ v_14 ∧ v_14 ≤ 200) ∧ bnd st_o_11 0 9 ∧ bnd sx_o_12 (-5) 5 ∧ bnd sy_o_13 (-5) 5 := by first | exact pv_14 | (rw [hv_14]; exact pv_14)
      have hjk := pv_14
      rw [hQ9]
      exact x_iret hx hb hr hlocks hP hD hS (S := Int × Int × Int × Int × Int × Int × Int × Int × Int × Int × (Int → Int) × (Int → Int) × (Int → Int)) rfl dL_reasonFor_6 ⟨fx_o_1, fy_o_2, fhx_o_3, fhy_o_4, qx_o_5, qy_o_6, qhx_o_7, qhy_o_8, sr_o_9, sl_o_10, st_o_11, sx_o_12, sy_o_13⟩ (by
          first
          | (
             first | (rw [if_pos (by omega)]; first | assumption | (subst_vars; rfl)) | (rw [if_neg (by omega)]; omega))
          | fail "q9") (by
          first
          | (
             first | exact hjk | exact hjk.2 | exact hXP | exact ⟨hb_st, hb_sx, hb_sy⟩)
          | fail "q9") rfl (Nat.le_of_ble_eq_true rfl) (Nat.le_of_ble_eq_true rfl)
  rw [hH, hlo, hQ9] at goal_
  exact goal_

set_option maxHeartbeats 4000000 in
set_option maxRecDepth 100000 in
theorem c_L_lay (l : Launch) (hflags : l.stackTraces = false) (g : xg) (sz : Nat) (aR aG aP aH aY aT aS aF aX aTp aTt aTx aTy aE aPx aPy aQ aSt aSx aSy aYh aYt aYc aGn aGw aGs : Nat) (pr tk tol hou ld ex ey ehx ehy pn fx fy fhx fhy sr sl qx qy qhx qhy kn sta po : Int) (bx byy st sx sy ht yt nd wk tp yc sk tt kx ky : Int → Int) (hkn : 0 ≤ kn ∧ kn ≤ 200) (hpn : 0 ≤ pn ∧ pn ≤ 200) (hld : 0 ≤ ld ∧ ld ≤ 200) (hhou : 0 ≤ hou ∧ hou ≤ 5000) (hpr : 0 ≤ pr ∧ pr ≤ 100) (htk : 0 ≤ tk ∧ tk ≤ 1000) (htol : 0 ≤ tol ∧ tol ≤ 9999) (hb_nd : bnd nd 0 100) (hb_wk : bnd wk 0 20) (hb_bx : bnd bx (-5) 5) (hb_byy : bnd byy (-5) 5) (hb_tp : bnd tp 0 7) (hb_yt : bnd yt 0 9) (hb_yc : bnd yc 0 5000) (hb_ht : bnd ht 0 12) (hehx : -2000 ≤ ehx ∧ ehx ≤ 2000) (hehy : -2000 ≤ ehy ∧ ehy ≤ 2000) (hex : -400000 ≤ ex ∧ ex ≤ 400000) (hey : -400000 ≤ ey ∧ ey ≤ 400000) (hb_st : bnd st 0 9) (hb_sx : bnd sx (-5) 5) (hb_sy : bnd sy (-5) 5) (helx : ex = lastF ld kx) (hely : ey = lastF ld ky) (hb_tt : bnd tt 0 9) (hr_sta : iR sta) (hr_po : iR po) : Met l yL_lay wsL_lay { frames := 8, cells := 3, slots := 18, locals := 135 } (va_Pc [.ref aR, .int (iI sta), .int (iI po)] (xB g [(aR, .inr (11, [.ref aG, .ref aP, .ref aH, .ref aY, .ref aT, .ref aS, .ref aF, .ref aX, .int (iI pr), .int (iI tk), .int (iI tol), .int (iI hou)])), (aT, .inr (9, [.ref aTp, .ref aTt, .ref aTx, .ref aTy, .ref aE, .int (iI ld)])), (aE, .inr (3, [.int (iI ex), .int (iI ey), .int (iI ehx), .int (iI ehy)])), (aP, .inr (6, [.ref aPx, .ref aPy, .int (iI pn)])), (aPx, .inl (gI g, 200, .inl (ar bx))), (aPy, .inl (gI g, 200, .inl (ar byy))), (aF, .inr (3, [.int (iI fx), .int (iI fy), .int (iI fhx), .int (iI fhy)])), (aS, .inr (7, [.ref aQ, .ref aSt, .ref aSx, .ref aSy, .int (iI sr), .int (iI sl)])), (aQ, .inr (3, [.int (iI qx), .int (iI qy), .int (iI qhx), .int (iI qhy)])), (aSt, .inl (gI g, 4, .inl (ar st))), (aSx, .inl (gI g, 4, .inl (ar sx))), (aSy, .inl (gI g, 4, .inl (ar sy))), (aY, .inr (10, [.ref aYh, .ref aYt, .ref aYc])), (aYh, .inl (gI g, 3, .inl (ar ht))), (aYt, .inl (gI g, 36, .inl (ar yt))), (aG, .inr (4, [.ref aGn, .ref aGw, .ref aGs, .int (iI kn)])), (aGn, .inl (gI g, 200, .inl (ar nd))), (aGw, .inl (gI g, 200, .inl (ar wk))), (aTp, .inl (gI g, 200, .inl (ar tp))), (aYc, .inl (gI g, 36, .inl (ar yc))), (aGs, .inl (gI g, 200, .inl (ar sk))), (aTt, .inl (gI g, 200, .inl (ar tt))), (aTx, .inl (gI g, 200, .inl (ar kx))), (aTy, .inl (gI g, 200, .inl (ar ky)))] sz)) (va_Qi (fun r u => r = iI ((fun (u : Int × Int × Int × Int × Int × Int × Int × Int × Int × Int × (Int → Int) × (Int → Int) × (Int → Int)) => (if laT sta po (reaF kn ld (ht sta) (mx 0 (yc (sta * 12 + (ht sta - 1)) + 24 - hou)) (lastP ld tp) po tk (takF nd wk pr ld) (devF pn bx byy kx ky ld ehx ehy (yt (sta * 12 + (ht sta - 1))) po) tol) hou = 0 then ld else -900000 - laT sta po (reaF kn ld (ht sta) (mx 0 (yc (sta * 12 + (ht sta - 1)) + 24 - hou)) (lastP ld tp) po tk (takF nd wk pr ld) (devF pn bx byy kx ky ld ehx ehy (yt (sta * 12 + (ht sta - 1))) po) tol) hou)) u) ∧ (fun (u : Int × Int × Int × Int × Int × Int × Int × Int × Int × Int × (Int → Int) × (Int → Int) × (Int → Int)) => bnd u.2.2.2.2.2.2.2.2.2.2.1 0 9 ∧ bnd u.2.2.2.2.2.2.2.2.2.2.2.1 (-5) 5 ∧ bnd u.2.2.2.2.2.2.2.2.2.2.2.2 (-5) 5) u) (fun u t => xE g (va_A [(aR, .inr (11, [.ref aG, .ref aP, .ref aH, .ref aY, .ref aT, .ref aS, .ref aF, .ref aX, .int (iI pr), .int (iI tk), .int (iI tol), .int (iI hou)])), (aT, .inr (9, [.ref aTp, .ref aTt, .ref aTx, .ref aTy, .ref aE, .int (iI ld)])), (aE, .inr (3, [.int (iI ex), .int (iI ey), .int (iI ehx), .int (iI ehy)])), (aP, .inr (6, [.ref aPx, .ref aPy, .int (iI pn)])), (aPx, .inl (gI g, 200, .inl (ar bx))), (aPy, .inl (gI g, 200, .inl (ar byy))), (aF, .inr (3, [.int (iI fx), .int (iI fy), .int (iI fhx), .int (iI fhy)])), (aS, .inr (7, [.ref aQ, .ref aSt, .ref aSx, .ref aSy, .int (iI sr), .int (iI sl)])), (aQ, .inr (3, [.int (iI qx), .int (iI qy), .int (iI qhx), .int (iI qhy)])), (aSt, .inl (gI g, 4, .inl (ar st))), (aSx, .inl (gI g, 4, .inl (ar sx))), (aSy, .inl (gI g, 4, .inl (ar sy))), (aY, .inr (10, [.ref aYh, .ref aYt, .ref aYc])), (aYh, .inl (gI g, 3, .inl (ar ht))), (aYt, .inl (gI g, 36, .inl (ar yt))), (aG, .inr (4, [.ref aGn, .ref aGw, .ref aGs, .int (iI kn)])), (aGn, .inl (gI g, 200, .inl (ar nd))), (aGw, .inl (gI g, 200, .inl (ar wk))), (aTp, .inl (gI g, 200, .inl (ar tp))), (aYc, .inl (gI g, 36, .inl (ar yc))), (aGs, .inl (gI g, 200, .inl (ar sk))), (aTt, .inl (gI g, 200, .inl (ar tt))), (aTx, .inl (gI g, 200, .inl (ar kx))), (aTy, .inl (gI g, 200, .inl (ar ky)))] sz) ((fun (u : Int × Int × Int × Int × Int × Int × Int × Int × Int × Int × (Int → Int) × (Int → Int) × (Int → Int)) => [(aR, .inr (11, [.ref aG, .ref aP, .ref aH, .ref aY, .ref aT, .ref aS, .ref aF, .ref aX, .int (iI pr), .int (iI (if laT sta po (reaF kn ld (ht sta) (mx 0 (yc (sta * 12 + (ht sta - 1)) + 24 - hou)) (lastP ld tp) po tk (takF nd wk pr ld) (devF pn bx byy kx ky ld ehx ehy (yt (sta * 12 + (ht sta - 1))) po) tol) hou = 0 then (tk - takF nd wk pr ld) else tk)), .int (iI tol), .int (iI (if laT sta po (reaF kn ld (ht sta) (mx 0 (yc (sta * 12 + (ht sta - 1)) + 24 - hou)) (lastP ld tp) po tk (takF nd wk pr ld) (devF pn bx byy kx ky ld ehx ehy (yt (sta * 12 + (ht sta - 1))) po) tol) hou = 0 then (hou + 2) else hou))])), (aT, .inr (9, [.ref aTp, .ref aTt, .ref aTx, .ref aTy, .ref aE, .int (iI (if laT sta po (reaF kn ld (ht sta) (mx 0 (yc (sta * 12 + (ht sta - 1)) + 24 - hou)) (lastP ld tp) po tk (takF nd wk pr ld) (devF pn bx byy kx ky ld ehx ehy (yt (sta * 12 + (ht sta - 1))) po) tol) hou = 0 then (ld + 1) else ld))])), (aE, .inr (3, [.int (iI (if laT sta po (reaF kn ld (ht sta) (mx 0 (yc (sta * 12 + (ht sta - 1)) + 24 - hou)) (lastP ld tp) po tk (takF nd wk pr ld) (devF pn bx byy kx ky ld ehx ehy (yt (sta * 12 + (ht sta - 1))) po) tol) hou = 0 then (lastF ld kx + (ehx + (yt (sta * 12 + (ht sta - 1))) * toSide po)) else ex)), .int (iI (if laT sta po (reaF kn ld (ht sta) (mx 0 (yc (sta * 12 + (ht sta - 1)) + 24 - hou)) (lastP ld tp) po tk (takF nd wk pr ld) (devF pn bx byy kx ky ld ehx ehy (yt (sta * 12 + (ht sta - 1))) po) tol) hou = 0 then (lastF ld ky + (ehy + (yt (sta * 12 + (ht sta - 1))) * upward po)) else ey)), .int (iI (if laT sta po (reaF kn ld (ht sta) (mx 0 (yc (sta * 12 + (ht sta - 1)) + 24 - hou)) (lastP ld tp) po tk (takF nd wk pr ld) (devF pn bx byy kx ky ld ehx ehy (yt (sta * 12 + (ht sta - 1))) po) tol) hou = 0 then (ehx + (yt (sta * 12 + (ht sta - 1))) * toSide po) else ehx)), .int (iI (if laT sta po (reaF kn ld (ht sta) (mx 0 (yc (sta * 12 + (ht sta - 1)) + 24 - hou)) (lastP ld tp) po tk (takF nd wk pr ld) (devF pn bx byy kx ky ld ehx ehy (yt (sta * 12 + (ht sta - 1))) po) tol) hou = 0 then (ehy + (yt (sta * 12 + (ht sta - 1))) * upward po) else ehy))])), (aP, .inr (6, [.ref aPx, .ref aPy, .int (iI pn)])), (aPx, .inl (gI g, 200, .inl (ar bx))), (aPy, .inl (gI g, 200, .inl (ar byy))), (aF, .inr (3, [.int (iI u.1), .int (iI u.2.1), .int (iI u.2.2.1), .int (iI u.2.2.2.1)])), (aS, .inr (7, [.ref aQ, .ref aSt, .ref aSx, .ref aSy, .int (iI u.2.2.2.2.2.2.2.2.1), .int (iI u.2.2.2.2.2.2.2.2.2.1)])), (aQ, .inr (3, [.int (iI u.2.2.2.2.1), .int (iI u.2.2.2.2.2.1), .int (iI u.2.2.2.2.2.2.1), .int (iI u.2.2.2.2.2.2.2.1)])), (aSt, .inl (gI g, 4, .inl (ar u.2.2.2.2.2.2.2.2.2.2.1))), (aSx, .inl (gI g, 4, .inl (ar u.2.2.2.2.2.2.2.2.2.2.2.1))), (aSy, .inl (gI g, 4, .inl (ar u.2.2.2.2.2.2.2.2.2.2.2.2))), (aY, .inr (10, [.ref aYh, .ref aYt, .ref aYc])), (aYh, .inl (gI g, 3, .inl (ar (if laT sta po (reaF kn ld (ht sta) (mx 0 (yc (sta * 12 + (ht sta - 1)) + 24 - hou)) (lastP ld tp) po tk (takF nd wk pr ld) (devF pn bx byy kx ky ld ehx ehy (yt (sta * 12 + (ht sta - 1))) po) tol) hou = 0 then (up ht sta (ht sta - 1)) else ht)))), (aYt, .inl (gI g, 36, .inl (ar yt))), (aG, .inr (4, [.ref aGn, .ref aGw, .ref aGs, .int (iI kn)])), (aGn, .inl (gI g, 200, .inl (ar nd))), (aGw, .inl (gI g, 200, .inl (ar wk))), (aTp, .inl (gI g, 200, .inl (ar (if laT sta po (reaF kn ld (ht sta) (mx 0 (yc (sta * 12 + (ht sta - 1)) + 24 - hou)) (lastP ld tp) po tk (takF nd wk pr ld) (devF pn bx byy kx ky ld ehx ehy (yt (sta * 12 + (ht sta - 1))) po) tol) hou = 0 then (up tp ld po) else tp)))), (aYc, .inl (gI g, 36, .inl (ar yc))), (aGs, .inl (gI g, 200, .inl (ar (if laT sta po (reaF kn ld (ht sta) (mx 0 (yc (sta * 12 + (ht sta - 1)) + 24 - hou)) (lastP ld tp) po tk (takF nd wk pr ld) (devF pn bx byy kx ky ld ehx ehy (yt (sta * 12 + (ht sta - 1))) po) tol) hou = 0 then (sinkF kn (sinkF kn (sinkF kn sk ld (mx 0 (gt0 kn nd ld - pr) * gt0 kn wk ld / 10)) (ld - 1) ((mx 0 (gt0 kn nd ld - pr) * gt0 kn wk ld / 10) / 2)) (ld + 1) ((mx 0 (gt0 kn nd ld - pr) * gt0 kn wk ld / 10) / 2)) else sk)))), (aTt, .inl (gI g, 200, .inl (ar (if laT sta po (reaF kn ld (ht sta) (mx 0 (yc (sta * 12 + (ht sta - 1)) + 24 - hou)) (lastP ld tp) po tk (takF nd wk pr ld) (devF pn bx byy kx ky ld ehx ehy (yt (sta * 12 + (ht sta - 1))) po) tol) hou = 0 then (up tt ld (yt (sta * 12 + (ht sta - 1)))) else tt)))), (aTx, .inl (gI g, 200, .inl (ar (if laT sta po (reaF kn ld (ht sta) (mx 0 (yc (sta * 12 + (ht sta - 1)) + 24 - hou)) (lastP ld tp) po tk (takF nd wk pr ld) (devF pn bx byy kx ky ld ehx ehy (yt (sta * 12 + (ht sta - 1))) po) tol) hou = 0 then (up kx ld (lastF ld kx + (ehx + (yt (sta * 12 + (ht sta - 1))) * toSide po))) else kx)))), (aTy, .inl (gI g, 200, .inl (ar (if laT sta po (reaF kn ld (ht sta) (mx 0 (yc (sta * 12 + (ht sta - 1)) + 24 - hou)) (lastP ld tp) po tk (takF nd wk pr ld) (devF pn bx byy kx ky ld ehx ehy (yt (sta * 12 + (ht sta - 1))) po) tol) hou = 0 then (up ky ld (lastF ld ky + (ehy + (yt (sta * 12 + (ht sta - 1))) * upward po))) else ky))))]) u) t) (va_A [(aR, .inr (11, [.ref aG, .ref aP, .ref aH, .ref aY, .ref aT, .ref aS, .ref aF, .ref aX, .int (iI pr), .int (iI tk), .int (iI tol), .int (iI hou)])), (aT, .inr (9, [.ref aTp, .ref aTt, .ref aTx, .ref aTy, .ref aE, .int (iI ld)])), (aE, .inr (3, [.int (iI ex), .int (iI ey), .int (iI ehx), .int (iI ehy)])), (aP, .inr (6, [.ref aPx, .ref aPy, .int (iI pn)])), (aPx, .inl (gI g, 200, .inl (ar bx))), (aPy, .inl (gI g, 200, .inl (ar byy))), (aF, .inr (3, [.int (iI fx), .int (iI fy), .int (iI fhx), .int (iI fhy)])), (aS, .inr (7, [.ref aQ, .ref aSt, .ref aSx, .ref aSy, .int (iI sr), .int (iI sl)])), (aQ, .inr (3, [.int (iI qx), .int (iI qy), .int (iI qhx), .int (iI qhy)])), (aSt, .inl (gI g, 4, .inl (ar st))), (aSx, .inl (gI g, 4, .inl (ar sx))), (aSy, .inl (gI g, 4, .inl (ar sy))), (aY, .inr (10, [.ref aYh, .ref aYt, .ref aYc])), (aYh, .inl (gI g, 3, .inl (ar ht))), (aYt, .inl (gI g, 36, .inl (ar yt))), (aG, .inr (4, [.ref aGn, .ref aGw, .ref aGs, .int (iI kn)])), (aGn, .inl (gI g, 200, .inl (ar nd))), (aGw, .inl (gI g, 200, .inl (ar wk))), (aTp, .inl (gI g, 200, .inl (ar tp))), (aYc, .inl (gI g, 36, .inl (ar yc))), (aGs, .inl (gI g, 200, .inl (ar sk))), (aTt, .inl (gI g, 200, .inl (ar tt))), (aTx, .inl (gI g, 200, .inl (ar kx))), (aTy, .inl (gI g, 200, .inl (ar ky)))] sz)) 3 18 (va_A [(aR, .inr (11, [.ref aG, .ref aP, .ref aH, .ref aY, .ref aT, .ref aS, .ref aF, .ref aX, .int (iI pr), .int (iI tk), .int (iI tol), .int (iI hou)])), (aT, .inr (9, [.ref aTp, .ref aTt, .ref aTx, .ref aTy, .ref aE, .int (iI ld)])), (aE, .inr (3, [.int (iI ex), .int (iI ey), .int (iI ehx), .int (iI ehy)])), (aP, .inr (6, [.ref aPx, .ref aPy, .int (iI pn)])), (aPx, .inl (gI g, 200, .inl (ar bx))), (aPy, .inl (gI g, 200, .inl (ar byy))), (aF, .inr (3, [.int (iI fx), .int (iI fy), .int (iI fhx), .int (iI fhy)])), (aS, .inr (7, [.ref aQ, .ref aSt, .ref aSx, .ref aSy, .int (iI sr), .int (iI sl)])), (aQ, .inr (3, [.int (iI qx), .int (iI qy), .int (iI qhx), .int (iI qhy)])), (aSt, .inl (gI g, 4, .inl (ar st))), (aSx, .inl (gI g, 4, .inl (ar sx))), (aSy, .inl (gI g, 4, .inl (ar sy))), (aY, .inr (10, [.ref aYh, .ref aYt, .ref aYc])), (aYh, .inl (gI g, 3, .inl (ar ht))), (aYt, .inl (gI g, 36, .inl (ar yt))), (aG, .inr (4, [.ref aGn, .ref aGw, .ref aGs, .int (iI kn)])), (aGn, .inl (gI g, 200, .inl (ar nd))), (aGw, .inl (gI g, 200, .inl (ar wk))), (aTp, .inl (gI g, 200, .inl (ar tp))), (aYc, .inl (gI g, 36, .inl (ar yc))), (aGs, .inl (gI g, 200, .inl (ar sk))), (aTt, .inl (gI g, 200, .inl (ar tt))), (aTx, .inl (gI g, 200, .inl (ar kx))), (aTy, .inl (gI g, 200, .inl (ar ky)))] sz) := by
  refine x_enterH (y := yL_lay) (ws := wsL_lay) (g := g) (sz := sz) (av := [.ref aR, .int (iI sta), .int (iI po)]) (WS := [(aR, .inr (11, [.ref aG, .ref aP, .ref aH, .ref aY, .ref aT, .ref aS, .ref aF, .ref aX, .int (iI pr), .int (iI tk), .int (iI tol), .int (iI hou)])), (aT, .inr (9, [.ref aTp, .ref aTt, .ref aTx, .ref aTy, .ref aE, .int (iI ld)])), (aE, .inr (3, [.int (iI ex), .int (iI ey), .int (iI ehx), .int (iI ehy)])), (aP, .inr (6, [.ref aPx, .ref aPy, .int (iI pn)])), (aPx, .inl (gI g, 200, .inl (ar bx))), (aPy, .inl (gI g, 200, .inl (ar byy))), (aF, .inr (3, [.int (iI fx), .int (iI fy), .int (iI fhx), .int (iI fhy)])), (aS, .inr (7, [.ref aQ, .ref aSt, .ref aSx, .ref aSy, .int (iI sr), .int (iI sl)])), (aQ, .inr (3, [.int (iI qx), .int (iI qy), .int (iI qhx), .int (iI qhy)])), (aSt, .inl (gI g, 4, .inl (ar st))), (aSx, .inl (gI g, 4, .inl (ar sx))), (aSy, .inl (gI g, 4, .inl (ar sy))), (aY, .inr (10, [.ref aYh, .ref aYt, .ref aYc])), (aYh, .inl (gI g, 3, .inl (ar ht))), (aYt, .inl (gI g, 36, .inl (ar yt))), (aG, .inr (4, [.ref aGn, .ref aGw, .ref aGs, .int (iI kn)])), (aGn, .inl (gI g, 200, .inl (ar nd))), (aGw, .inl (gI g, 200, .inl (ar wk))), (aTp, .inl (gI g, 200, .inl (ar tp))), (aYc, .inl (gI g, 36, .inl (ar yc))), (aGs, .inl (gI g, 200, .inl (ar sk))), (aTt, .inl (gI g, 200, .inl (ar tt))), (aTx, .inl (gI g, 200, .inl (ar kx))), (aTy, .inl (gI g, 200, .inl (ar ky)))]) (cc := cL_lay) (maxL := 4) (ret := some .int) (Qc := (fun A => (va_Qi (fun r u => r = iI ((fun (u : Int × Int × Int × Int × Int × Int × Int × Int × Int × Int × (Int → Int) × (Int → Int) × (Int → Int)) => (if laT sta po (reaF kn ld (ht sta) (mx 0 (yc (sta * 12 + (ht sta - 1)) + 24 - hou)) (lastP ld tp) po tk (takF nd wk pr ld) (devF pn bx byy kx ky ld ehx ehy (yt (sta * 12 + (ht sta - 1))) po) tol) hou = 0 then ld else -900000 - laT sta po (reaF kn ld (ht sta) (mx 0 (yc (sta * 12 + (ht sta - 1)) + 24 - hou)) (lastP ld tp) po tk (takF nd wk pr ld) (devF pn bx byy kx ky ld ehx ehy (yt (sta * 12 + (ht sta - 1))) po) tol) hou)) u) ∧ (fun (u : Int × Int × Int × Int × Int × Int × Int × Int × Int × Int × (Int → Int) × (Int → Int) × (Int → Int)) => bnd u.2.2.2.2.2.2.2.2.2.2.1 0 9 ∧ bnd u.2.2.2.2.2.2.2.2.2.2.2.1 (-5) 5 ∧ bnd u.2.2.2.2.2.2.2.2.2.2.2.2 (-5) 5) u) (fun u t => xE g A ((fun (u : Int × Int × Int × Int × Int × Int × Int × Int × Int × Int × (Int → Int) × (Int → Int) × (Int → Int)) => [(aR, .inr (11, [.ref aG, .ref aP, .ref aH, .ref aY, .ref aT, .ref aS, .ref aF, .ref aX, .int (iI pr), .int (iI (if laT sta po (reaF kn ld (ht sta) (mx 0 (yc (sta * 12 + (ht sta - 1)) + 24 - hou)) (lastP ld tp) po tk (takF nd wk pr ld) (devF pn bx byy kx ky ld ehx ehy (yt (sta * 12 + (ht sta - 1))) po) tol) hou = 0 then (tk - takF nd wk pr ld) else tk)), .int (iI tol), .int (iI (if laT sta po (reaF kn ld (ht sta) (mx 0 (yc (sta * 12 + (ht sta - 1)) + 24 - hou)) (lastP ld tp) po tk (takF nd wk pr ld) (devF pn bx byy kx ky ld ehx ehy (yt (sta * 12 + (ht sta - 1))) po) tol) hou = 0 then (hou + 2) else hou))])), (aT, .inr (9, [.ref aTp, .ref aTt, .ref aTx, .ref aTy, .ref aE, .int (iI (if laT sta po (reaF kn ld (ht sta) (mx 0 (yc (sta * 12 + (ht sta - 1)) + 24 - hou)) (lastP ld tp) po tk (takF nd wk pr ld) (devF pn bx byy kx ky ld ehx ehy (yt (sta * 12 + (ht sta - 1))) po) tol) hou = 0 then (ld + 1) else ld))])), (aE, .inr (3, [.int (iI (if laT sta po (reaF kn ld (ht sta) (mx 0 (yc (sta * 12 + (ht sta - 1)) + 24 - hou)) (lastP ld tp) po tk (takF nd wk pr ld) (devF pn bx byy kx ky ld ehx ehy (yt (sta * 12 + (ht sta - 1))) po) tol) hou = 0 then (lastF ld kx + (ehx + (yt (sta * 12 + (ht sta - 1))) * toSide po)) else ex)), .int (iI (if laT sta po (reaF kn ld (ht sta) (mx 0 (yc (sta * 12 + (ht sta - 1)) + 24 - hou)) (lastP ld tp) po tk (takF nd wk pr ld) (devF pn bx byy kx ky ld ehx ehy (yt (sta * 12 + (ht sta - 1))) po) tol) hou = 0 then (lastF ld ky + (ehy + (yt (sta * 12 + (ht sta - 1))) * upward po)) else ey)), .int (iI (if laT sta po (reaF kn ld (ht sta) (mx 0 (yc (sta * 12 + (ht sta - 1)) + 24 - hou)) (lastP ld tp) po tk (takF nd wk pr ld) (devF pn bx byy kx ky ld ehx ehy (yt (sta * 12 + (ht sta - 1))) po) tol) hou = 0 then (ehx + (yt (sta * 12 + (ht sta - 1))) * toSide po) else ehx)), .int (iI (if laT sta po (reaF kn ld (ht sta) (mx 0 (yc (sta * 12 + (ht sta - 1)) + 24 - hou)) (lastP ld tp) po tk (takF nd wk pr ld) (devF pn bx byy kx ky ld ehx ehy (yt (sta * 12 + (ht sta - 1))) po) tol) hou = 0 then (ehy + (yt (sta * 12 + (ht sta - 1))) * upward po) else ehy))])), (aP, .inr (6, [.ref aPx, .ref aPy, .int (iI pn)])), (aPx, .inl (gI g, 200, .inl (ar bx))), (aPy, .inl (gI g, 200, .inl (ar byy))), (aF, .inr (3, [.int (iI u.1), .int (iI u.2.1), .int (iI u.2.2.1), .int (iI u.2.2.2.1)])), (aS, .inr (7, [.ref aQ, .ref aSt, .ref aSx, .ref aSy, .int (iI u.2.2.2.2.2.2.2.2.1), .int (iI u.2.2.2.2.2.2.2.2.2.1)])), (aQ, .inr (3, [.int (iI u.2.2.2.2.1), .int (iI u.2.2.2.2.2.1), .int (iI u.2.2.2.2.2.2.1), .int (iI u.2.2.2.2.2.2.2.1)])), (aSt, .inl (gI g, 4, .inl (ar u.2.2.2.2.2.2.2.2.2.2.1))), (aSx, .inl (gI g, 4, .inl (ar u.2.2.2.2.2.2.2.2.2.2.2.1))), (aSy, .inl (gI g, 4, .inl (ar u.2.2.2.2.2.2.2.2.2.2.2.2))), (aY, .inr (10, [.ref aYh, .ref aYt, .ref aYc])), (aYh, .inl (gI g, 3, .inl (ar (if laT sta po (reaF kn ld (ht sta) (mx 0 (yc (sta * 12 + (ht sta - 1)) + 24 - hou)) (lastP ld tp) po tk (takF nd wk pr ld) (devF pn bx byy kx ky ld ehx ehy (yt (sta * 12 + (ht sta - 1))) po) tol) hou = 0 then (up ht sta (ht sta - 1)) else ht)))), (aYt, .inl (gI g, 36, .inl (ar yt))), (aG, .inr (4, [.ref aGn, .ref aGw, .ref aGs, .int (iI kn)])), (aGn, .inl (gI g, 200, .inl (ar nd))), (aGw, .inl (gI g, 200, .inl (ar wk))), (aTp, .inl (gI g, 200, .inl (ar (if laT sta po (reaF kn ld (ht sta) (mx 0 (yc (sta * 12 + (ht sta - 1)) + 24 - hou)) (lastP ld tp) po tk (takF nd wk pr ld) (devF pn bx byy kx ky ld ehx ehy (yt (sta * 12 + (ht sta - 1))) po) tol) hou = 0 then (up tp ld po) else tp)))), (aYc, .inl (gI g, 36, .inl (ar yc))), (aGs, .inl (gI g, 200, .inl (ar (if laT sta po (reaF kn ld (ht sta) (mx 0 (yc (sta * 12 + (ht sta - 1)) + 24 - hou)) (lastP ld tp) po tk (takF nd wk pr ld) (devF pn bx byy kx ky ld ehx ehy (yt (sta * 12 + (ht sta - 1))) po) tol) hou = 0 then (sinkF kn (sinkF kn (sinkF kn sk ld (mx 0 (gt0 kn nd ld - pr) * gt0 kn wk ld / 10)) (ld - 1) ((mx 0 (gt0 kn nd ld - pr) * gt0 kn wk ld / 10) / 2)) (ld + 1) ((mx 0 (gt0 kn nd ld - pr) * gt0 kn wk ld / 10) / 2)) else sk)))), (aTt, .inl (gI g, 200, .inl (ar (if laT sta po (reaF kn ld (ht sta) (mx 0 (yc (sta * 12 + (ht sta - 1)) + 24 - hou)) (lastP ld tp) po tk (takF nd wk pr ld) (devF pn bx byy kx ky ld ehx ehy (yt (sta * 12 + (ht sta - 1))) po) tol) hou = 0 then (up tt ld (yt (sta * 12 + (ht sta - 1)))) else tt)))), (aTx, .inl (gI g, 200, .inl (ar (if laT sta po (reaF kn ld (ht sta) (mx 0 (yc (sta * 12 + (ht sta - 1)) + 24 - hou)) (lastP ld tp) po tk (takF nd wk pr ld) (devF pn bx byy kx ky ld ehx ehy (yt (sta * 12 + (ht sta - 1))) po) tol) hou = 0 then (up kx ld (lastF ld kx + (ehx + (yt (sta * 12 + (ht sta - 1))) * toSide po))) else kx)))), (aTy, .inl (gI g, 200, .inl (ar (if laT sta po (reaF kn ld (ht sta) (mx 0 (yc (sta * 12 + (ht sta - 1)) + 24 - hou)) (lastP ld tp) po tk (takF nd wk pr ld) (devF pn bx byy kx ky ld ehx ehy (yt (sta * 12 + (ht sta - 1))) po) tol) hou = 0 then (up ky ld (lastF ld ky + (ehy + (yt (sta * 12 + (ht sta - 1))) * upward po))) else ky))))]) u) t) A))) (by decide) rfl (Nat.le_of_ble_eq_true rfl) ?_
  intro p e s m args below meth c A ls hx hb hr hml hown hts hlocks htab hC hP hD hS hA hl
  have hK := hC.1
  have hown : s.vm.findClass RL = some m.cls := hown
  have hl : lv_has ls 4 [(0, .ref aR), (1, .int (iI sta)), (2, .int (iI po))] := hl
  obtain ⟨H, hH⟩ : ∃ z, z = s.heap := ⟨_, rfl⟩
  obtain ⟨locs, hlo⟩ : ∃ z : List Loc, z = [] := ⟨_, rfl⟩
  obtain ⟨Q9, hQ9⟩ : ∃ z, z = MQ below (va_Qi (fun r u => r = iI ((fun (u : Int × Int × Int × Int × Int × Int × Int × Int × Int × Int × (Int → Int) × (Int → Int) × (Int → Int)) => (if laT sta po (reaF kn ld (ht sta) (mx 0 (yc (sta * 12 + (ht sta - 1)) + 24 - hou)) (lastP ld tp) po tk (takF nd wk pr ld) (devF pn bx byy kx ky ld ehx ehy (yt (sta * 12 + (ht sta - 1))) po) tol) hou = 0 then ld else -900000 - laT sta po (reaF kn ld (ht sta) (mx 0 (yc (sta * 12 + (ht sta - 1)) + 24 - hou)) (lastP ld tp) po tk (takF nd wk pr ld) (devF pn bx byy kx ky ld ehx ehy (yt (sta * 12 + (ht sta - 1))) po) tol) hou)) u) ∧ (fun (u : Int × Int × Int × Int × Int × Int × Int × Int × Int × Int × (Int → Int) × (Int → Int) × (Int → Int)) => bnd u.2.2.2.2.2.2.2.2.2.2.1 0 9 ∧ bnd u.2.2.2.2.2.2.2.2.2.2.2.1 (-5) 5 ∧ bnd u.2.2.2.2.2.2.2.2.2.2.2.2 (-5) 5) u) (fun u t => xE g A ((fun (u : Int × Int × Int × Int × Int × Int × Int × Int × Int × Int × (Int → Int) × (Int → Int) × (Int → Int)) => [(aR, .inr (11, [.ref aG, .ref aP, .ref aH, .ref aY, .ref aT, .ref aS, .ref aF, .ref aX, .int (iI pr), .int (iI (if laT sta po (reaF kn ld (ht sta) (mx 0 (yc (sta * 12 + (ht sta - 1)) + 24 - hou)) (lastP ld tp) po tk (takF nd wk pr ld) (devF pn bx byy kx ky ld ehx ehy (yt (sta * 12 + (ht sta - 1))) po) tol) hou = 0 then (tk - takF nd wk pr ld) else tk)), .int (iI tol), .int (iI (if laT sta po (reaF kn ld (ht sta) (mx 0 (yc (sta * 12 + (ht sta - 1)) + 24 - hou)) (lastP ld tp) po tk (takF nd wk pr ld) (devF pn bx byy kx ky ld ehx ehy (yt (sta * 12 + (ht sta - 1))) po) tol) hou = 0 then (hou + 2) else hou))])), (aT, .inr (9, [.ref aTp, .ref aTt, .ref aTx, .ref aTy, .ref aE, .int (iI (if laT sta po (reaF kn ld (ht sta) (mx 0 (yc (sta * 12 + (ht sta - 1)) + 24 - hou)) (lastP ld tp) po tk (takF nd wk pr ld) (devF pn bx byy kx ky ld ehx ehy (yt (sta * 12 + (ht sta - 1))) po) tol) hou = 0 then (ld + 1) else ld))])), (aE, .inr (3, [.int (iI (if laT sta po (reaF kn ld (ht sta) (mx 0 (yc (sta * 12 + (ht sta - 1)) + 24 - hou)) (lastP ld tp) po tk (takF nd wk pr ld) (devF pn bx byy kx ky ld ehx ehy (yt (sta * 12 + (ht sta - 1))) po) tol) hou = 0 then (lastF ld kx + (ehx + (yt (sta * 12 + (ht sta - 1))) * toSide po)) else ex)), .int (iI (if laT sta po (reaF kn ld (ht sta) (mx 0 (yc (sta * 12 + (ht sta - 1)) + 24 - hou)) (lastP ld tp) po tk (takF nd wk pr ld) (devF pn bx byy kx ky ld ehx ehy (yt (sta * 12 + (ht sta - 1))) po) tol) hou = 0 then (lastF ld ky + (ehy + (yt (sta * 12 + (ht sta - 1))) * upward po)) else ey)), .int (iI (if laT sta po (reaF kn ld (ht sta) (mx 0 (yc (sta * 12 + (ht sta - 1)) + 24 - hou)) (lastP ld tp) po tk (takF nd wk pr ld) (devF pn bx byy kx ky ld ehx ehy (yt (sta * 12 + (ht sta - 1))) po) tol) hou = 0 then (ehx + (yt (sta * 12 + (ht sta - 1))) * toSide po) else ehx)), .int (iI (if laT sta po (reaF kn ld (ht sta) (mx 0 (yc (sta * 12 + (ht sta - 1)) + 24 - hou)) (lastP ld tp) po tk (takF nd wk pr ld) (devF pn bx byy kx ky ld ehx ehy (yt (sta * 12 + (ht sta - 1))) po) tol) hou = 0 then (ehy + (yt (sta * 12 + (ht sta - 1))) * upward po) else ehy))])), (aP, .inr (6, [.ref aPx, .ref aPy, .int (iI pn)])), (aPx, .inl (gI g, 200, .inl (ar bx))), (aPy, .inl (gI g, 200, .inl (ar byy))), (aF, .inr (3, [.int (iI u.1), .int (iI u.2.1), .int (iI u.2.2.1), .int (iI u.2.2.2.1)])), (aS, .inr (7, [.ref aQ, .ref aSt, .ref aSx, .ref aSy, .int (iI u.2.2.2.2.2.2.2.2.1), .int (iI u.2.2.2.2.2.2.2.2.2.1)])), (aQ, .inr (3, [.int (iI u.2.2.2.2.1), .int (iI u.2.2.2.2.2.1), .int (iI u.2.2.2.2.2.2.1), .int (iI u.2.2.2.2.2.2.2.1)])), (aSt, .inl (gI g, 4, .inl (ar u.2.2.2.2.2.2.2.2.2.2.1))), (aSx, .inl (gI g, 4, .inl (ar u.2.2.2.2.2.2.2.2.2.2.2.1))), (aSy, .inl (gI g, 4, .inl (ar u.2.2.2.2.2.2.2.2.2.2.2.2))), (aY, .inr (10, [.ref aYh, .ref aYt, .ref aYc])), (aYh, .inl (gI g, 3, .inl (ar (if laT sta po (reaF kn ld (ht sta) (mx 0 (yc (sta * 12 + (ht sta - 1)) + 24 - hou)) (lastP ld tp) po tk (takF nd wk pr ld) (devF pn bx byy kx ky ld ehx ehy (yt (sta * 12 + (ht sta - 1))) po) tol) hou = 0 then (up ht sta (ht sta - 1)) else ht)))), (aYt, .inl (gI g, 36, .inl (ar yt))), (aG, .inr (4, [.ref aGn, .ref aGw, .ref aGs, .int (iI kn)])), (aGn, .inl (gI g, 200, .inl (ar nd))), (aGw, .inl (gI g, 200, .inl (ar wk))), (aTp, .inl (gI g, 200, .inl (ar (if laT sta po (reaF kn ld (ht sta) (mx 0 (yc (sta * 12 + (ht sta - 1)) + 24 - hou)) (lastP ld tp) po tk (takF nd wk pr ld) (devF pn bx byy kx ky ld ehx ehy (yt (sta * 12 + (ht sta - 1))) po) tol) hou = 0 then (up tp ld po) else tp)))), (aYc, .inl (gI g, 36, .inl (ar yc))), (aGs, .inl (gI g, 200, .inl (ar (if laT sta po (reaF kn ld (ht sta) (mx 0 (yc (sta * 12 + (ht sta - 1)) + 24 - hou)) (lastP ld tp) po tk (takF nd wk pr ld) (devF pn bx byy kx ky ld ehx ehy (yt (sta * 12 + (ht sta - 1))) po) tol) hou = 0 then (sinkF kn (sinkF kn (sinkF kn sk ld (mx 0 (gt0 kn nd ld - pr) * gt0 kn wk ld / 10)) (ld - 1) ((mx 0 (gt0 kn nd ld - pr) * gt0 kn wk ld / 10) / 2)) (ld + 1) ((mx 0 (gt0 kn nd ld - pr) * gt0 kn wk ld / 10) / 2)) else sk)))), (aTt, .inl (gI g, 200, .inl (ar (if laT sta po (reaF kn ld (ht sta) (mx 0 (yc (sta * 12 + (ht sta - 1)) + 24 - hou)) (lastP ld tp) po tk (takF nd wk pr ld) (devF pn bx byy kx ky ld ehx ehy (yt (sta * 12 + (ht sta - 1))) po) tol) hou = 0 then (up tt ld (yt (sta * 12 + (ht sta - 1)))) else tt)))), (aTx, .inl (gI g, 200, .inl (ar (if laT sta po (reaF kn ld (ht sta) (mx 0 (yc (sta * 12 + (ht sta - 1)) + 24 - hou)) (lastP ld tp) po tk (takF nd wk pr ld) (devF pn bx byy kx ky ld ehx ehy (yt (sta * 12 + (ht sta - 1))) po) tol) hou = 0 then (up kx ld (lastF ld kx + (ehx + (yt (sta * 12 + (ht sta - 1))) * toSide po))) else kx)))), (aTy, .inl (gI g, 200, .inl (ar (if laT sta po (reaF kn ld (ht sta) (mx 0 (yc (sta * 12 + (ht sta - 1)) + 24 - hou)) (lastP ld tp) po tk (takF nd wk pr ld) (devF pn bx byy kx ky ld ehx ehy (yt (sta * 12 + (ht sta - 1))) po) tol) hou = 0 then (up ky ld (lastF ld ky + (ehy + (yt (sta * 12 + (ht sta - 1))) * upward po))) else ky))))]) u) t) A) args s 3 18 A := ⟨_, rfl⟩
  have hP : va_P (gD g) vwCl [(aR, .inr (11, [.ref aG, .ref aP, .ref aH, .ref aY, .ref aT, .ref aS, .ref aF, .ref aX, .int (iI pr), .int (iI tk), .int (iI tol), .int (iI hou)])), (aT, .inr (9, [.ref aTp, .ref aTt, .ref aTx, .ref aTy, .ref aE, .int (iI ld)])), (aE, .inr (3, [.int (iI ex), .int (iI ey), .int (iI ehx), .int (iI ehy)])), (aP, .inr (6, [.ref aPx, .ref aPy, .int (iI pn)])), (aPx, .inl (gI g, 200, .inl (ar bx))), (aPy, .inl (gI g, 200, .inl (ar byy))), (aF, .inr (3, [.int (iI fx), .int (iI fy), .int (iI fhx), .int (iI fhy)])), (aS, .inr (7, [.ref aQ, .ref aSt, .ref aSx, .ref aSy, .int (iI sr), .int (iI sl)])), (aQ, .inr (3, [.int (iI qx), .int (iI qy), .int (iI qhx), .int (iI qhy)])), (aSt, .inl (gI g, 4, .inl (ar st))), (aSx, .inl (gI g, 4, .inl (ar sx))), (aSy, .inl (gI g, 4, .inl (ar sy))), (aY, .inr (10, [.ref aYh, .ref aYt, .ref aYc])), (aYh, .inl (gI g, 3, .inl (ar ht))), (aYt, .inl (gI g, 36, .inl (ar yt))), (aG, .inr (4, [.ref aGn, .ref aGw, .ref aGs, .int (iI kn)])), (aGn, .inl (gI g, 200, .inl (ar nd))), (aGw, .inl (gI g, 200, .inl (ar wk))), (aTp, .inl (gI g, 200, .inl (ar tp))), (aYc, .inl (gI g, 36, .inl (ar yc))), (aGs, .inl (gI g, 200, .inl (ar sk))), (aTt, .inl (gI g, 200, .inl (ar tt))), (aTx, .inl (gI g, 200, .inl (ar kx))), (aTy, .inl (gI g, 200, .inl (ar ky)))] H := by rw [hH]; exact hP
  have hS : va_S A s.heap H locs := by rw [hH, hlo]; exact hS
  have goal_ : W p l e { frames := 8, cells := 3, slots := 18, locals := 135 } s m args below meth c H locs 0 0 Q9 (F0 m 0 ls []) := by
    clear hH hlo
    refine lv_aload_n hx hb dL_lay_0 rfl (lv_at hl 0 rfl) ?_
    refine lv_iload_n hx hb dL_lay_1 rfl (lv_at hl 1 rfl) ?_
    refine lv_iload_n hx hb dL_lay_2 rfl (lv_at hl 2 rfl) ?_
    refine x_calliX (S := Int × Int × Int × Int × Int × Int × Int × Int × Int × Int × (Int → Int) × (Int → Int) × (Int → Int)) (SX := Int × Int × Int × Int × Int × Int × Int × Int × Int × Int × (Int → Int) × (Int → Int) × (Int → Int)) (wc := [(aR, .inr (11, [.ref aG, .ref aP, .ref aH, .ref aY, .ref aT, .ref aS, .ref aF, .ref aX, .int (iI pr), .int (iI tk), .int (iI tol), .int (iI hou)])), (aT, .inr (9, [.ref aTp, .ref aTt, .ref aTx, .ref aTy, .ref aE, .int (iI ld)])), (aE, .inr (3, [.int (iI ex), .int (iI ey), .int (iI ehx), .int (iI ehy)])), (aP, .inr (6, [.ref aPx, .ref aPy, .int (iI pn)])), (aPx, .inl (gI g, 200, .inl (ar bx))), (aPy, .inl (gI g, 200, .inl (ar byy))), (aF, .inr (3, [.int (iI fx), .int (iI fy), .int (iI fhx), .int (iI fhy)])), (aS, .inr (7, [.ref aQ, .ref aSt, .ref aSx, .ref aSy, .int (iI sr), .int (iI sl)])), (aQ, .inr (3, [.int (iI qx), .int (iI qy), .int (iI qhx), .int (iI qhy)])), (aSt, .inl (gI g, 4, .inl (ar st))), (aSx, .inl (gI g, 4, .inl (ar sx))), (aSy, .inl (gI g, 4, .inl (ar sy))), (aY, .inr (10, [.ref aYh, .ref aYt, .ref aYc])), (aYh, .inl (gI g, 3, .inl (ar ht))), (aYt, .inl (gI g, 36, .inl (ar yt))), (aG, .inr (4, [.ref aGn, .ref aGw, .ref aGs, .int (iI kn)])), (aGn, .inl (gI g, 200, .inl (ar nd))), (aGw, .inl (gI g, 200, .inl (ar wk))), (aTp, .inl (gI g, 200, .inl (ar tp))), (aYc, .inl (gI g, 36, .inl (ar yc))), (aGs, .inl (gI g, 200, .inl (ar sk))), (aTt, .inl (gI g, 200, .inl (ar tt))), (aTx, .inl (gI g, 200, .inl (ar kx))), (aTy, .inl (gI g, 200, .inl (ar ky)))]) (wr := []) hC hP hD hS hA [0, 1, 2, 3, 4, 5, 6, 7, 8, 9, 10, 11, 12, 13, 14, 15, 16, 17, 18, 19, 20, 21, 22, 23] [] [0, 1, 2, 3, 4, 5, 6, 7, 8, 9, 10, 11, 12, 13, 14, 15, 16, 17, 18, 19, 20, 21, 22, 23] rfl rfl (fun hpre => vx_runV (As := [.int (iI sta), .int (iI po)]) (rest := []) ⟨hx, hb, hml, hown, hts⟩ (c_X8_lay l hflags g H.size aR aG aP aH aY aT aS aF aX aTp aTt aTx aTy aE aPx aPy aQ aSt aSx aSy aYh aYt aYc aGn aGw aGs pr tk tol hou ld ex ey ehx ehy pn fx fy fhx fhy sr sl qx qy qhx qhy kn sta po bx byy st sx sy ht yt nd wk tp yc sk tt kx ky (by first | (first | assumption | omega | exact bnd_up (by assumption) (by omega) (by omega)) | fail "q8") (by first | (first | assumption | omega | exact bnd_up (by assumption) (by omega) (by omega)) | fail "q8") (by first | (first | assumption | omega | exact bnd_up (by assumption) (by omega) (by omega)) | fail "q8") (by first | (first | assumption | omega | exact bnd_up (by assumption) (by omega) (by omega)) | fail "q8") (by first | (first | assumption | omega | exact bnd_up (by assumption) (by omega) (by omega)) | fail "q8") (by first | (first | assumption | omega | exact bnd_up (by assumption) (by omega) (by omega)) | fail "q8") (by first | (first | assumption | omega | exact bnd_up (by assumption) (by omega) (by omega)) | fail "q8") (by first | (first | assumption | omega | exact bnd_up (by assumption) (by omega) (by omega)) | fail "q8") (by first | (first | assumption | omega | exact bnd_up (by assumption) (by omega) (by omega)) | fail "q8") (by first | (first | assumption | omega | exact bnd_up (by assumption) (by omega) (by omega)) | fail "q8") (by first | (first | assumption | omega | exact bnd_up (by assumption) (by omega) (by omega)) | fail "q8") (by first | (first | assumption | omega | exact bnd_up (by assumption) (by omega) (by omega)) | fail "q8") (by first | (first | assumption | omega | exact bnd_up (by assumption) (by omega) (by omega)) | fail "q8") (by first | (first | assumption | omega | exact bnd_up (by assumption) (by omega) (by omega)) | fail "q8") (by first | (first | assumption | omega | exact bnd_up (by assumption) (by omega) (by omega)) | fail "q8") (by first | (first | assumption | omega | exact bnd_up (by assumption) (by omega) (by omega)) | fail "q8") (by first | (first | assumption | omega | exact bnd_up (by assumption) (by omega) (by omega)) | fail "q8") (by first | (first | assumption | omega | exact bnd_up (by assumption) (by omega) (by omega)) | fail "q8") (by first | (first | assumption | omega | exact bnd_up (by assumption) (by omega) (by omega)) | fail "q8") (by first | (first | assumption | omega | exact bnd_up (by assumption) (by omega) (by omega)) | fail "q8") (by first | (first | assumption | omega | exact bnd_up (by assumption) (by omega) (by omega)) | fail "q8") (by first | (first | assumption | omega | exact bnd_up (by assumption) (by omega) (by omega)) | fail "q8") (by first | (first | assumption | omega | exact bnd_up (by assumption) (by omega) (by omega)) | fail "q8") (by first | (first | assumption | omega | exact bnd_up (by assumption) (by omega) (by omega)) | fail "q8") (by first | (first | assumption | omega | exact bnd_up (by assumption) (by omega) (by omega)) | fail "q8") (by first | (first | assumption | omega | exact bnd_up (by assumption) (by omega) (by omega)) | fail "q8") (by first | (first | assumption | omega | exact bnd_up (by assumption) (by omega) (by omega)) | fail "q8")) (cwV 2 hts gL_lay_X8_lay rfl rfl rfl (by decide +kernel) ⟨Nat.le_of_ble_eq_true rfl, Nat.le_of_ble_eq_true rfl⟩) ⟨xB_blind, va_recv hK hP (ci := 11) (q0 := 0) rfl rfl, hpre _⟩ rfl rfl hl.1 rfl (lv_room (Nat.le_of_ble_eq_true rfl)) dL_lay_3 ⟨Nat.le_of_ble_eq_true rfl, Nat.le_of_ble_eq_true rfl⟩) (fun (u : Int × Int × Int × Int × Int × Int × Int × Int × Int × Int × (Int → Int) × (Int → Int) × (Int → Int)) => [(aR, .inr (11, [.ref aG, .ref aP, .ref aH, .ref aY, .ref aT, .ref aS, .ref aF, .ref aX, .int (iI pr), .int (iI (tk - takF nd wk pr ld)), .int (iI tol), .int (iI (hou + 2))])), (aT, .inr (9, [.ref aTp, .ref aTt, .ref aTx, .ref aTy, .ref aE, .int (iI (ld + 1))])), (aE, .inr (3, [.int (iI (lastF ld kx + (ehx + (yt (sta * 12 + (ht sta - 1))) * toSide po))), .int (iI (lastF ld ky + (ehy + (yt (sta * 12 + (ht sta - 1))) * upward po))), .int (iI (ehx + (yt (sta * 12 + (ht sta - 1))) * toSide po)), .int (iI (ehy + (yt (sta * 12 + (ht sta - 1))) * upward po))])), (aP, .inr (6, [.ref aPx, .ref aPy, .int (iI pn)])), (aPx, .inl (gI g, 200, .inl (ar bx))), (aPy, .inl (gI g, 200, .inl (ar byy))), (aF, .inr (3, [.int (iI u.1), .int (iI u.2.1), .int (iI u.2.2.1), .int (iI u.2.2.2.1)])), (aS, .inr (7, [.ref aQ, .ref aSt, .ref aSx, .ref aSy, .int (iI u.2.2.2.2.2.2.2.2.1), .int (iI u.2.2.2.2.2.2.2.2.2.1)])), (aQ, .inr (3, [.int (iI u.2.2.2.2.1), .int (iI u.2.2.2.2.2.1), .int (iI u.2.2.2.2.2.2.1), .int (iI u.2.2.2.2.2.2.2.1)])), (aSt, .inl (gI g, 4, .inl (ar u.2.2.2.2.2.2.2.2.2.2.1))), (aSx, .inl (gI g, 4, .inl (ar u.2.2.2.2.2.2.2.2.2.2.2.1))), (aSy, .inl (gI g, 4, .inl (ar u.2.2.2.2.2.2.2.2.2.2.2.2))), (aY, .inr (10, [.ref aYh, .ref aYt, .ref aYc])), (aYh, .inl (gI g, 3, .inl (ar (up ht sta (ht sta - 1))))), (aYt, .inl (gI g, 36, .inl (ar yt))), (aG, .inr (4, [.ref aGn, .ref aGw, .ref aGs, .int (iI kn)])), (aGn, .inl (gI g, 200, .inl (ar nd))), (aGw, .inl (gI g, 200, .inl (ar wk))), (aTp, .inl (gI g, 200, .inl (ar (up tp ld po)))), (aYc, .inl (gI g, 36, .inl (ar yc))), (aGs, .inl (gI g, 200, .inl (ar (sinkF kn (sinkF kn (sinkF kn sk ld (mx 0 (gt0 kn nd ld - pr) * gt0 kn wk ld / 10)) (ld - 1) ((mx 0 (gt0 kn nd ld - pr) * gt0 kn wk ld / 10) / 2)) (ld + 1) ((mx 0 (gt0 kn nd ld - pr) * gt0 kn wk ld / 10) / 2))))), (aTt, .inl (gI g, 200, .inl (ar (up tt ld (yt (sta * 12 + (ht sta - 1))))))), (aTx, .inl (gI g, 200, .inl (ar (up kx ld (lastF ld kx + (ehx + (yt (sta * 12 + (ht sta - 1))) * toSide po)))))), (aTy, .inl (gI g, 200, .inl (ar (up ky ld (lastF ld ky + (ehy + (yt (sta * 12 + (ht sta - 1))) * upward po))))))]) (fun (u : Int × Int × Int × Int × Int × Int × Int × Int × Int × Int × (Int → Int) × (Int → Int) × (Int → Int)) => ([(aR, .inr (11, [.ref aG, .ref aP, .ref aH, .ref aY, .ref aT, .ref aS, .ref aF, .ref aX, .int (iI pr), .int (iI tk), .int (iI tol), .int (iI hou)])), (aT, .inr (9, [.ref aTp, .ref aTt, .ref aTx, .ref aTy, .ref aE, .int (iI ld)])), (aE, .inr (3, [.int (iI ex), .int (iI ey), .int (iI ehx), .int (iI ehy)])), (aP, .inr (6, [.ref aPx, .ref aPy, .int (iI pn)])), (aPx, .inl (gI g, 200, .inl (ar bx))), (aPy, .inl (gI g, 200, .inl (ar byy))), (aF, .inr (3, [.int (iI u.1), .int (iI u.2.1), .int (iI u.2.2.1), .int (iI u.2.2.2.1)])), (aS, .inr (7, [.ref aQ, .ref aSt, .ref aSx, .ref aSy, .int (iI u.2.2.2.2.2.2.2.2.1), .int (iI u.2.2.2.2.2.2.2.2.2.1)])), (aQ, .inr (3, [.int (iI u.2.2.2.2.1), .int (iI u.2.2.2.2.2.1), .int (iI u.2.2.2.2.2.2.1), .int (iI u.2.2.2.2.2.2.2.1)])), (aSt, .inl (gI g, 4, .inl (ar u.2.2.2.2.2.2.2.2.2.2.1))), (aSx, .inl (gI g, 4, .inl (ar u.2.2.2.2.2.2.2.2.2.2.2.1))), (aSy, .inl (gI g, 4, .inl (ar u.2.2.2.2.2.2.2.2.2.2.2.2))), (aY, .inr (10, [.ref aYh, .ref aYt, .ref aYc])), (aYh, .inl (gI g, 3, .inl (ar ht))), (aYt, .inl (gI g, 36, .inl (ar yt))), (aG, .inr (4, [.ref aGn, .ref aGw, .ref aGs, .int (iI kn)])), (aGn, .inl (gI g, 200, .inl (ar nd))), (aGw, .inl (gI g, 200, .inl (ar wk))), (aTp, .inl (gI g, 200, .inl (ar tp))), (aYc, .inl (gI g, 36, .inl (ar yc))), (aGs, .inl (gI g, 200, .inl (ar sk))), (aTt, .inl (gI g, 200, .inl (ar tt))), (aTx, .inl (gI g, 200, .inl (ar kx))), (aTy, .inl (gI g, 200, .inl (ar ky)))] : va_W)) rfl rfl (by decide) (fun _ => rfl) (fun _ => rfl) rfl (fun E ce q9 u H locs hXP hPX hP hD hS hcell hv9 hcl => ?_) (fun u v_14 H locs hv_14 pv_14 hP hD hS => ?_)
    · skip
      obtain ⟨fx_o_15, fy_o_16, fhx_o_17, fhy_o_18, qx_o_19, qy_o_20, qhx_o_21, qhy_o_22, sr_o_23, sl_o_24, st_o_25, sx_o_26, sy_o_27⟩ := u
      have hXP : bnd st_o_25 0 9 ∧ bnd sx_o_26 (-5) 5 ∧ bnd sy_o_27 (-5) 5 := hXP
      have hP : va_P (gD g) vwCl [(aR, .inr (11, [.ref aG, .ref aP, .ref aH, .ref aY, .ref aT, .ref aS, .ref aF, .ref aX, .int (iI pr), .int (iI tk), .int (iI tol), .int (iI hou)])), (aT, .inr (9, [.ref aTp, .ref aTt, .ref aTx, .ref aTy, .ref aE, .int (iI ld)])), (aE, .inr (3, [.int (iI ex), .int (iI ey), .int (iI ehx), .int (iI ehy)])), (aP, .inr (6, [.ref aPx, .ref aPy, .int (iI pn)])), (aPx, .inl (gI g, 200, .inl (ar bx))), (aPy, .inl (gI g, 200, .inl (ar byy))), (aF, .inr (3, [.int (iI fx_o_15), .int (iI fy_o_16), .int (iI fhx_o_17), .int (iI fhy_o_18)])), (aS, .inr (7, [.ref aQ, .ref aSt, .ref aSx, .ref aSy, .int (iI sr_o_23), .int (iI sl_o_24)])), (aQ, .inr (3, [.int (iI qx_o_19), .int (iI qy_o_20), .int (iI qhx_o_21), .int (iI qhy_o_22)])), (aSt, .inl (gI g, 4, .inl (ar st_o_25))), (aSx, .inl (gI g, 4, .inl (ar sx_o_26))), (aSy, .inl (gI g, 4, .inl (ar sy_o_27))), (aY, .inr (10, [.ref aYh, .ref aYt, .ref aYc])), (aYh, .inl (gI g, 3, .inl (ar ht))), (aYt, .inl (gI g, 36, .inl (ar yt))), (aG, .inr (4, [.ref aGn, .ref aGw, .ref aGs, .int (iI kn)])), (aGn, .inl (gI g, 200, .inl (ar nd))), (aGw, .inl (gI g, 200, .inl (ar wk))), (aTp, .inl (gI g, 200, .inl (ar tp))), (aYc, .inl (gI g, 36, .inl (ar yc))), (aGs, .inl (gI g, 200, .inl (ar sk))), (aTt, .inl (gI g, 200, .inl (ar tt))), (aTx, .inl (gI g, 200, .inl (ar kx))), (aTy, .inl (gI g, 200, .inl (ar ky)))] H := hP
      have hD : va_D A [(aR, .inr (11, [.ref aG, .ref aP, .ref aH, .ref aY, .ref aT, .ref aS, .ref aF, .ref aX, .int (iI pr), .int (iI tk), .int (iI tol), .int (iI hou)])), (aT, .inr (9, [.ref aTp, .ref aTt, .ref aTx, .ref aTy, .ref aE, .int (iI ld)])), (aE, .inr (3, [.int (iI ex), .int (iI ey), .int (iI ehx), .int (iI ehy)])), (aP, .inr (6, [.ref aPx, .ref aPy, .int (iI pn)])), (aPx, .inl (gI g, 200, .inl (ar bx))), (aPy, .inl (gI g, 200, .inl (ar byy))), (aF, .inr (3, [.int (iI fx_o_15), .int (iI fy_o_16), .int (iI fhx_o_17), .int (iI fhy_o_18)])), (aS, .inr (7, [.ref aQ, .ref aSt, .ref aSx, .ref aSy, .int (iI sr_o_23), .int (iI sl_o_24)])), (aQ, .inr (3, [.int (iI qx_o_19), .int (iI qy_o_20), .int (iI qhx_o_21), .int (iI qhy_o_22)])), (aSt, .inl (gI g, 4, .inl (ar st_o_25))), (aSx, .inl (gI g, 4, .inl (ar sx_o_26))), (aSy, .inl (gI g, 4, .inl (ar sy_o_27))), (aY, .inr (10, [.ref aYh, .ref aYt, .ref aYc])), (aYh, .inl (gI g, 3, .inl (ar ht))), (aYt, .inl (gI g, 36, .inl (ar yt))), (aG, .inr (4, [.ref aGn, .ref aGw, .ref aGs, .int (iI kn)])), (aGn, .inl (gI g, 200, .inl (ar nd))), (aGw, .inl (gI g, 200, .inl (ar wk))), (aTp, .inl (gI g, 200, .inl (ar tp))), (aYc, .inl (gI g, 36, .inl (ar yc))), (aGs, .inl (gI g, 200, .inl (ar sk))), (aTt, .inl (gI g, 200, .inl (ar tt))), (aTx, .inl (gI g, 200, .inl (ar kx))), (aTy, .inl (gI g, 200, .inl (ar ky)))] := hD
      rcases hPX with ⟨hE, hp⟩ | ⟨hE, hp⟩ | ⟨hE, hp⟩ | ⟨hE, hp⟩
      · skip
        have hp : laT sta po (reaF kn ld (ht sta) (mx 0 (yc (sta * 12 + (ht sta - 1)) + 24 - hou)) (lastP ld tp) po tk (takF nd wk pr ld) (devF pn bx byy kx ky ld ehx ehy (yt (sta * 12 + (ht sta - 1))) po) tol) hou = 1 := hp
        subst hE
        refine vx_catch (E := "java/lang/IndexOutOfBoundsException") (name := "java/lang/IndexOutOfBoundsException") hown [] ⟨0, 6, 7, 28⟩ [⟨0, 6, 11, 15⟩, ⟨0, 6, 15, 77⟩, ⟨0, 6, 19, 18⟩] (by rw [htab]; rfl) (fun z hz => by cases hz) (by decide) (by decide) (hts (.classLink RL 28 "java/lang/IndexOutOfBoundsException") (List.mem_of_getElem? (i := 1) rfl)) (va_Nw.use rfl (hC.2.2.2.2.2.2.2.2.2.2.1 "java/lang/IndexOutOfBoundsException" (List.mem_of_getElem? (i := 2) rfl))) hcell hv9 hcl ?_
        refine lv_astore_n (lv' := [(3, .ref q9), (0, .ref aR), (1, .int (iI sta)), (2, .int (iI po))]) hx hb dL_lay_7 rfl hl (by decide) rfl (fun ls hl => ?_)
        refine x_ldc (v := -900001) hx hb hown (hts (.constant RL 17 (-900001)) (List.mem_of_getElem? (i := 5) rfl)) (by decide) dL_lay_8 ?_
        have q_28 : (if laT sta po (reaF kn ld (ht sta) (mx 0 (yc (sta * 12 + (ht sta - 1)) + 24 - hou)) (lastP ld tp) po tk (takF nd wk pr ld) (devF pn bx byy kx ky ld ehx ehy (yt (sta * 12 + (ht sta - 1))) po) tol) hou = 0 then (tk - takF nd wk pr ld) else tk) = tk := by
          first
          | (
             first | rfl | (rw [if_pos (by omega)]) | (rw [if_neg (by omega)]) | (rw [if_pos (by omega)]; subst_vars; rfl))
          | fail "q9"
        have q_29 : (if laT sta po (reaF kn ld (ht sta) (mx 0 (yc (sta * 12 + (ht sta - 1)) + 24 - hou)) (lastP ld tp) po tk (takF nd wk pr ld) (devF pn bx byy kx ky ld ehx ehy (yt (sta * 12 + (ht sta - 1))) po) tol) hou = 0 then (hou + 2) else hou) = hou := by
          first
          | (
             first | rfl | (rw [if_pos (by omega)]) | (rw [if_neg (by omega)]) | (rw [if_pos (by omega)]; subst_vars; rfl))
          | fail "q9"
        have q_30 : (if laT sta po (reaF kn ld (ht sta) (mx 0 (yc (sta * 12 + (ht sta - 1)) + 24 - hou)) (lastP ld tp) po tk (takF nd wk pr ld) (devF pn bx byy kx ky ld ehx ehy (yt (sta * 12 + (ht sta - 1))) po) tol) hou = 0 then (ld + 1) else ld) = ld := by
          first
          | (
             first | rfl | (rw [if_pos (by omega)]) | (rw [if_neg (by omega)]) | (rw [if_pos (by omega)]; subst_vars; rfl))
          | fail "q9"
        have q_31 : (if laT sta po (reaF kn ld (ht sta) (mx 0 (yc (sta * 12 + (ht sta - 1)) + 24 - hou)) (lastP ld tp) po tk (takF nd wk pr ld) (devF pn bx byy kx ky ld ehx ehy (yt (sta * 12 + (ht sta - 1))) po) tol) hou = 0 then (lastF ld kx + (ehx + (yt (sta * 12 + (ht sta - 1))) * toSide po)) else ex) = ex := by
          first
          | (
             first | rfl | (rw [if_pos (by omega)]) | (rw [if_neg (by omega)]) | (rw [if_pos (by omega)]; subst_vars; rfl))
          | fail "q9"
        have q_32 : (if laT sta po (reaF kn ld (ht sta) (mx 0 (yc (sta * 12 + (ht sta - 1)) + 24 - hou)) (lastP ld tp) po tk (takF nd wk pr ld) (devF pn bx byy kx ky ld ehx ehy (yt (sta * 12 + (ht sta - 1))) po) tol) hou = 0 then (lastF ld ky + (ehy + (yt (sta * 12 + (ht sta - 1))) * upward po)) else ey) = ey := by
          first
          | (
             first | rfl | (rw [if_pos (by omega)]) | (rw [if_neg (by omega)]) | (rw [if_pos (by omega)]; subst_vars; rfl))
          | fail "q9"
        have q_33 : (if laT sta po (reaF kn ld (ht sta) (mx 0 (yc (sta * 12 + (ht sta - 1)) + 24 - hou)) (lastP ld tp) po tk (takF nd wk pr ld) (devF pn bx byy kx ky ld ehx ehy (yt (sta * 12 + (ht sta - 1))) po) tol) hou = 0 then (ehx + (yt (sta * 12 + (ht sta - 1))) * toSide po) else ehx) = ehx := by
          first
          | (
             first | rfl | (rw [if_pos (by omega)]) | (rw [if_neg (by omega)]) | (rw [if_pos (by omega)]; subst_vars; rfl))
          | fail "q9"
        have q_34 : (if laT sta po (reaF kn ld (ht sta) (mx 0 (yc (sta * 12 + (ht sta - 1)) + 24 - hou)) (lastP ld tp) po tk (takF nd wk pr ld) (devF pn bx byy kx ky ld ehx ehy (yt (sta * 12 + (ht sta - 1))) po) tol) hou = 0 then (ehy + (yt (sta * 12 + (ht sta - 1))) * upward po) else ehy) = ehy := by
          first
          | (
             first | rfl | (rw [if_pos (by omega)]) | (rw [if_neg (by omega)]) | (rw [if_pos (by omega)]; subst_vars; rfl))
          | fail "q9"
        have q_35 : (if laT sta po (reaF kn ld (ht sta) (mx 0 (yc (sta * 12 + (ht sta - 1)) + 24 - hou)) (lastP ld tp) po tk (takF nd wk pr ld) (devF pn bx byy kx ky ld ehx ehy (yt (sta * 12 + (ht sta - 1))) po) tol) hou = 0 then (up ht sta (ht sta - 1)) else ht) = ht := by
          first
          | (
             first | rfl | (rw [if_pos (by omega)]) | (rw [if_neg (by omega)]) | (rw [if_pos (by omega)]; subst_vars; rfl))
          | fail "q9"
        have q_36 : (if laT sta po (reaF kn ld (ht sta) (mx 0 (yc (sta * 12 + (ht sta - 1)) + 24 - hou)) (lastP ld tp) po tk (takF nd wk pr ld) (devF pn bx byy kx ky ld ehx ehy (yt (sta * 12 + (ht sta - 1))) po) tol) hou = 0 then (up tp ld po) else tp) = tp := by
          first
          | (
             first | rfl | (rw [if_pos (by omega)]) | (rw [if_neg (by omega)]) | (rw [if_pos (by omega)]; subst_vars; rfl))
          | fail "q9"
        have q_37 : (if laT sta po (reaF kn ld (ht sta) (mx 0 (yc (sta * 12 + (ht sta - 1)) + 24 - hou)) (lastP ld tp) po tk (takF nd wk pr ld) (devF pn bx byy kx ky ld ehx ehy (yt (sta * 12 + (ht sta - 1))) po) tol) hou = 0 then (sinkF kn (sinkF kn (sinkF kn sk ld (mx 0 (gt0 kn nd ld - pr) * gt0 kn wk ld / 10)) (ld - 1) ((mx 0 (gt0 kn nd ld - pr) * gt0 kn wk ld / 10) / 2)) (ld + 1) ((mx 0 (gt0 kn nd ld - pr) * gt0 kn wk ld / 10) / 2)) else sk) = sk := by
          first
          | (
             first | rfl | (rw [if_pos (by omega)]) | (rw [if_neg (by omega)]) | (rw [if_pos (by omega)]; subst_vars; rfl))
          | fail "q9"
        have q_38 : (if laT sta po (reaF kn ld (ht sta) (mx 0 (yc (sta * 12 + (ht sta - 1)) + 24 - hou)) (lastP ld tp) po tk (takF nd wk pr ld) (devF pn bx byy kx ky ld ehx ehy (yt (sta * 12 + (ht sta - 1))) po) tol) hou = 0 then (up tt ld (yt (sta * 12 + (ht sta - 1)))) else tt) = tt := by
          first
          | (
             first | rfl | (rw [if_pos (by omega)]) | (rw [if_neg (by omega)]) | (rw [if_pos (by omega)]; subst_vars; rfl))
          | fail "q9"
        have q_39 : (if laT sta po (reaF kn ld (ht sta) (mx 0 (yc (sta * 12 + (ht sta - 1)) + 24 - hou)) (lastP ld tp) po tk (takF nd wk pr ld) (devF pn bx byy kx ky ld ehx ehy (yt (sta * 12 + (ht sta - 1))) po) tol) hou = 0 then (up kx ld (lastF ld kx + (ehx + (yt (sta * 12 + (ht sta - 1))) * toSide po))) else kx) = kx := by
          first
          | (
             first | rfl | (rw [if_pos (by omega)]) | (rw [if_neg (by omega)]) | (rw [if_pos (by omega)]; subst_vars; rfl))
          | fail "q9"
        have q_40 : (if laT sta po (reaF kn ld (ht sta) (mx 0 (yc (sta * 12 + (ht sta - 1)) + 24 - hou)) (lastP ld tp) po tk (takF nd wk pr ld) (devF pn bx byy kx ky ld ehx ehy (yt (sta * 12 + (ht sta - 1))) po) tol) hou = 0 then (up ky ld (lastF ld ky + (ehy + (yt (sta * 12 + (ht sta - 1))) * upward po))) else ky) = ky := by
          first
          | (
             first | rfl | (rw [if_pos (by omega)]) | (rw [if_neg (by omega)]) | (rw [if_pos (by omega)]; subst_vars; rfl))
          | fail "q9"
        have hw_41 := (congr (congr (congr (congr (congr (congr (congr (congr (congr (congr (congr (congr (congrArg (fun (z0 : Int) (z1 : Int) (z2 : Int) (z3 : Int) (z4 : Int) (z5 : Int) (z6 : Int) (z7 : Int → Int) (z8 : Int → Int) (z9 : Int → Int) (z10 : Int → Int) (z11 : Int → Int) (z12 : Int → Int) => ([(aR, .inr (11, [.ref aG, .ref aP, .ref aH, .ref aY, .ref aT, .ref aS, .ref aF, .ref aX, .int (iI pr), .int (iI z0), .int (iI tol), .int (iI z1)])), (aT, .inr (9, [.ref aTp, .ref aTt, .ref aTx, .ref aTy, .ref aE, .int (iI z2)])), (aE, .inr (3, [.int (iI z3), .int (iI z4), .int (iI z5), .int (iI z6)])), (aP, .inr (6, [.ref aPx, .ref aPy, .int (iI pn)])), (aPx, .inl (gI g, 200, .inl (ar bx))), (aPy, .inl (gI g, 200, .inl (ar byy))), (aF, .inr (3, [.int (iI fx_o_15), .int (iI fy_o_16), .int (iI fhx_o_17), .int (iI fhy_o_18)])), (aS, .inr (7, [.ref aQ, .ref aSt, .ref aSx, .ref aSy, .int (iI sr_o_23), .int (iI sl_o_24)])), (aQ, .inr (3, [.int (iI qx_o_19), .int (iI qy_o_20), .int (iI qhx_o_21), .int (iI qhy_o_22)])), (aSt, .inl (gI g, 4, .inl (ar st_o_25))), (aSx, .inl (gI g, 4, .inl (ar sx_o_26))), (aSy, .inl (gI g, 4, .inl (ar sy_o_27))), (aY, .inr (10, [.ref aYh, .ref aYt, .ref aYc])), (aYh, .inl (gI g, 3, .inl (ar z7))), (aYt, .inl (gI g, 36, .inl (ar yt))), (aG, .inr (4, [.ref aGn, .ref aGw, .ref aGs, .int (iI kn)])), (aGn, .inl (gI g, 200, .inl (ar nd))), (aGw, .inl (gI g, 200, .inl (ar wk))), (aTp, .inl (gI g, 200, .inl (ar z8))), (aYc, .inl (gI g, 36, .inl (ar yc))), (aGs, .inl (gI g, 200, .inl (ar z9))), (aTt, .inl (gI g, 200, .inl (ar z10))), (aTx, .inl (gI g, 200, .inl (ar z11))), (aTy, .inl (gI g, 200, .inl (ar z12)))] : va_W)) q_28.symm) q_29.symm) q_30.symm) q_31.symm) q_32.symm) q_33.symm) q_34.symm) q_35.symm) q_36.symm) q_37.symm) q_38.symm) q_39.symm) q_40.symm)
        rw [hQ9]
        exact x_iret hx hb hr hlocks hP hD hS (S := Int × Int × Int × Int × Int × Int × Int × Int × Int × Int × (Int → Int) × (Int → Int) × (Int → Int)) rfl dL_lay_10 ⟨fx_o_15, fy_o_16, fhx_o_17, fhy_o_18, qx_o_19, qy_o_20, qhx_o_21, qhy_o_22, sr_o_23, sl_o_24, st_o_25, sx_o_26, sy_o_27⟩ (by
            first
            | (
               first | (rw [if_pos (by omega)]; first | assumption | (subst_vars; rfl)) | (rw [if_neg (by omega)]; omega))
            | fail "q9") (by
            first
            | (
               first | exact hjk | exact hjk.2 | exact hXP | exact ⟨hb_st, hb_sx, hb_sy⟩)
            | fail "q9") hw_41 (Nat.le_of_ble_eq_true rfl) (Nat.le_of_ble_eq_true rfl)
      · skip
        have hp : laT sta po (reaF kn ld (ht sta) (mx 0 (yc (sta * 12 + (ht sta - 1)) + 24 - hou)) (lastP ld tp) po tk (takF nd wk pr ld) (devF pn bx byy kx ky ld ehx ehy (yt (sta * 12 + (ht sta - 1))) po) tol) hou = 2 := hp
        subst hE
        refine vx_catch (E := "java/lang/IllegalArgumentException") (name := "java/lang/IllegalArgumentException") hown [⟨0, 6, 7, 28⟩] ⟨0, 6, 11, 15⟩ [⟨0, 6, 15, 77⟩, ⟨0, 6, 19, 18⟩] (by rw [htab]; rfl) (fun z hz => by rcases List.mem_cons.mp hz with rfl | hz; exact Or.inr ⟨by decide, "java/lang/IndexOutOfBoundsException", (hts (.classLink RL 28 "java/lang/IndexOutOfBoundsException") (List.mem_of_getElem? (i := 1) rfl)), hC.d.2.2.2.2.2.1 ("java/lang/IllegalArgumentException", "java/lang/IndexOutOfBoundsException") (List.mem_of_getElem? (i := 1) (by decide +kernel))⟩; cases hz) (by decide) (by decide) (hts (.classLink RL 15 "java/lang/IllegalArgumentException") (List.mem_of_getElem? (i := 2) rfl)) (va_Nw.use rfl (hC.2.2.2.2.2.2.2.2.2.2.1 "java/lang/IllegalArgumentException" (List.mem_of_getElem? (i := 0) rfl))) hcell hv9 hcl ?_
        refine lv_astore_n (lv' := [(3, .ref q9), (0, .ref aR), (1, .int (iI sta)), (2, .int (iI po))]) hx hb dL_lay_11 rfl hl (by decide) rfl (fun ls hl => ?_)
        refine x_ldc (v := -900002) hx hb hown (hts (.constant RL 20 (-900002)) (List.mem_of_getElem? (i := 6) rfl)) (by decide) dL_lay_12 ?_
        have q_42 : (if laT sta po (reaF kn ld (ht sta) (mx 0 (yc (sta * 12 + (ht sta - 1)) + 24 - hou)) (lastP ld tp) po tk (takF nd wk pr ld) (devF pn bx byy kx ky ld ehx ehy (yt (sta * 12 + (ht sta - 1))) po) tol) hou = 0 then (tk - takF nd wk pr ld) else tk) = tk := by
          first
          | (
             first | rfl | (rw [if_pos (by omega)]) | (rw [if_neg (by omega)]) | (rw [if_pos (by omega)]; subst_vars; rfl))
          | fail "q9"
        have q_43 : (if laT sta po (reaF kn ld (ht sta) (mx 0 (yc (sta * 12 + (ht sta - 1)) + 24 - hou)) (lastP ld tp) po tk (takF nd wk pr ld) (devF pn bx byy kx ky ld ehx ehy (yt (sta * 12 + (ht sta - 1))) po) tol) hou = 0 then (hou + 2) else hou) = hou := by
          first
          | (
             first | rfl | (rw [if_pos (by omega)]) | (rw [if_neg (by omega)]) | (rw [if_pos (by omega)]; subst_vars; rfl))
          | fail "q9"
        have q_44 : (if laT sta po (reaF kn ld (ht sta) (mx 0 (yc (sta * 12 + (ht sta - 1)) + 24 - hou)) (lastP ld tp) po tk (takF nd wk pr ld) (devF pn bx byy kx ky ld ehx ehy (yt (sta * 12 + (ht sta - 1))) po) tol) hou = 0 then (ld + 1) else ld) = ld := by
          first
          | (
             first | rfl | (rw [if_pos (by omega)]) | (rw [if_neg (by omega)]) | (rw [if_pos (by omega)]; subst_vars; rfl))
          | fail "q9"
        have q_45 : (if laT sta po (reaF kn ld (ht sta) (mx 0 (yc (sta * 12 + (ht sta - 1)) + 24 - hou)) (lastP ld tp) po tk (takF nd wk pr ld) (devF pn bx byy kx ky ld ehx ehy (yt (sta * 12 + (ht sta - 1))) po) tol) hou = 0 then (lastF ld kx + (ehx + (yt (sta * 12 + (ht sta - 1))) * toSide po)) else ex) = ex := by
          first
          | (
             first | rfl | (rw [if_pos (by omega)]) | (rw [if_neg (by omega)]) | (rw [if_pos (by omega)]; subst_vars; rfl))
          | fail "q9"
        have q_46 : (if laT sta po (reaF kn ld (ht sta) (mx 0 (yc (sta * 12 + (ht sta - 1)) + 24 - hou)) (lastP ld tp) po tk (takF nd wk pr ld) (devF pn bx byy kx ky ld ehx ehy (yt (sta * 12 + (ht sta - 1))) po) tol) hou = 0 then (lastF ld ky + (ehy + (yt (sta * 12 + (ht sta - 1))) * upward po)) else ey) = ey := by
          first
          | (
             first | rfl | (rw [if_pos (by omega)]) | (rw [if_neg (by omega)]) | (rw [if_pos (by omega)]; subst_vars; rfl))
          | fail "q9"
        have q_47 : (if laT sta po (reaF kn ld (ht sta) (mx 0 (yc (sta * 12 + (ht sta - 1)) + 24 - hou)) (lastP ld tp) po tk (takF nd wk pr ld) (devF pn bx byy kx ky ld ehx ehy (yt (sta * 12 + (ht sta - 1))) po) tol) hou = 0 then (ehx + (yt (sta * 12 + (ht sta - 1))) * toSide po) else ehx) = ehx := by
          first
          | (
             first | rfl | (rw [if_pos (by omega)]) | (rw [if_neg (by omega)]) | (rw [if_pos (by omega)]; subst_vars; rfl))
          | fail "q9"
        have q_48 : (if laT sta po (reaF kn ld (ht sta) (mx 0 (yc (sta * 12 + (ht sta - 1)) + 24 - hou)) (lastP ld tp) po tk (takF nd wk pr ld) (devF pn bx byy kx ky ld ehx ehy (yt (sta * 12 + (ht sta - 1))) po) tol) hou = 0 then (ehy + (yt (sta * 12 + (ht sta - 1))) * upward po) else ehy) = ehy := by
          first
          | (
             first | rfl | (rw [if_pos (by omega)]) | (rw [if_neg (by omega)]) | (rw [if_pos (by omega)]; subst_vars; rfl))
          | fail "q9"
        have q_49 : (if laT sta po (reaF kn ld (ht sta) (mx 0 (yc (sta * 12 + (ht sta - 1)) + 24 - hou)) (lastP ld tp) po tk (takF nd wk pr ld) (devF pn bx byy kx ky ld ehx ehy (yt (sta * 12 + (ht sta - 1))) po) tol) hou = 0 then (up ht sta (ht sta - 1)) else ht) = ht := by
          first
          | (
             first | rfl | (rw [if_pos (by omega)]) | (rw [if_neg (by omega)]) | (rw [if_pos (by omega)]; subst_vars; rfl))
          | fail "q9"
        have q_50 : (if laT sta po (reaF kn ld (ht sta) (mx 0 (yc (sta * 12 + (ht sta - 1)) + 24 - hou)) (lastP ld tp) po tk (takF nd wk pr ld) (devF pn bx byy kx ky ld ehx ehy (yt (sta * 12 + (ht sta - 1))) po) tol) hou = 0 then (up tp ld po) else tp) = tp := by
          first
          | (
             first | rfl | (rw [if_pos (by omega)]) | (rw [if_neg (by omega)]) | (rw [if_pos (by omega)]; subst_vars; rfl))
          | fail "q9"
        have q_51 : (if laT sta po (reaF kn ld (ht sta) (mx 0 (yc (sta * 12 + (ht sta - 1)) + 24 - hou)) (lastP ld tp) po tk (takF nd wk pr ld) (devF pn bx byy kx ky ld ehx ehy (yt (sta * 12 + (ht sta - 1))) po) tol) hou = 0 then (sinkF kn (sinkF kn (sinkF kn sk ld (mx 0 (gt0 kn nd ld - pr) * gt0 kn wk ld / 10)) (ld - 1) ((mx 0 (gt0 kn nd ld - pr) * gt0 kn wk ld / 10) / 2)) (ld + 1) ((mx 0 (gt0 kn nd ld - pr) * gt0 kn wk ld / 10) / 2)) else sk) = sk := by
          first
          | (
             first | rfl | (rw [if_pos (by omega)]) | (rw [if_neg (by omega)]) | (rw [if_pos (by omega)]; subst_vars; rfl))
          | fail "q9"
        have q_52 : (if laT sta po (reaF kn ld (ht sta) (mx 0 (yc (sta * 12 + (ht sta - 1)) + 24 - hou)) (lastP ld tp) po tk (takF nd wk pr ld) (devF pn bx byy kx ky ld ehx ehy (yt (sta * 12 + (ht sta - 1))) po) tol) hou = 0 then (up tt ld (yt (sta * 12 + (ht sta - 1)))) else tt) = tt := by
          first
          | (
             first | rfl | (rw [if_pos (by omega)]) | (rw [if_neg (by omega)]) | (rw [if_pos (by omega)]; subst_vars; rfl))
          | fail "q9"
        have q_53 : (if laT sta po (reaF kn ld (ht sta) (mx 0 (yc (sta * 12 + (ht sta - 1)) + 24 - hou)) (lastP ld tp) po tk (takF nd wk pr ld) (devF pn bx byy kx ky ld ehx ehy (yt (sta * 12 + (ht sta - 1))) po) tol) hou = 0 then (up kx ld (lastF ld kx + (ehx + (yt (sta * 12 + (ht sta - 1))) * toSide po))) else kx) = kx := by
          first
          | (
             first | rfl | (rw [if_pos (by omega)]) | (rw [if_neg (by omega)]) | (rw [if_pos (by omega)]; subst_vars; rfl))
          | fail "q9"
        have q_54 : (if laT sta po (reaF kn ld (ht sta) (mx 0 (yc (sta * 12 + (ht sta - 1)) + 24 - hou)) (lastP ld tp) po tk (takF nd wk pr ld) (devF pn bx byy kx ky ld ehx ehy (yt (sta * 12 + (ht sta - 1))) po) tol) hou = 0 then (up ky ld (lastF ld ky + (ehy + (yt (sta * 12 + (ht sta - 1))) * upward po))) else ky) = ky := by
          first
          | (
             first | rfl | (rw [if_pos (by omega)]) | (rw [if_neg (by omega)]) | (rw [if_pos (by omega)]; subst_vars; rfl))
          | fail "q9"
        have hw_55 := (congr (congr (congr (congr (congr (congr (congr (congr (congr (congr (congr (congr (congrArg (fun (z0 : Int) (z1 : Int) (z2 : Int) (z3 : Int) (z4 : Int) (z5 : Int) (z6 : Int) (z7 : Int → Int) (z8 : Int → Int) (z9 : Int → Int) (z10 : Int → Int) (z11 : Int → Int) (z12 : Int → Int) => ([(aR, .inr (11, [.ref aG, .ref aP, .ref aH, .ref aY, .ref aT, .ref aS, .ref aF, .ref aX, .int (iI pr), .int (iI z0), .int (iI tol), .int (iI z1)])), (aT, .inr (9, [.ref aTp, .ref aTt, .ref aTx, .ref aTy, .ref aE, .int (iI z2)])), (aE, .inr (3, [.int (iI z3), .int (iI z4), .int (iI z5), .int (iI z6)])), (aP, .inr (6, [.ref aPx, .ref aPy, .int (iI pn)])), (aPx, .inl (gI g, 200, .inl (ar bx))), (aPy, .inl (gI g, 200, .inl (ar byy))), (aF, .inr (3, [.int (iI fx_o_15), .int (iI fy_o_16), .int (iI fhx_o_17), .int (iI fhy_o_18)])), (aS, .inr (7, [.ref aQ, .ref aSt, .ref aSx, .ref aSy, .int (iI sr_o_23), .int (iI sl_o_24)])), (aQ, .inr (3, [.int (iI qx_o_19), .int (iI qy_o_20), .int (iI qhx_o_21), .int (iI qhy_o_22)])), (aSt, .inl (gI g, 4, .inl (ar st_o_25))), (aSx, .inl (gI g, 4, .inl (ar sx_o_26))), (aSy, .inl (gI g, 4, .inl (ar sy_o_27))), (aY, .inr (10, [.ref aYh, .ref aYt, .ref aYc])), (aYh, .inl (gI g, 3, .inl (ar z7))), (aYt, .inl (gI g, 36, .inl (ar yt))), (aG, .inr (4, [.ref aGn, .ref aGw, .ref aGs, .int (iI kn)])), (aGn, .inl (gI g, 200, .inl (ar nd))), (aGw, .inl (gI g, 200, .inl (ar wk))), (aTp, .inl (gI g, 200, .inl (ar z8))), (aYc, .inl (gI g, 36, .inl (ar yc))), (aGs, .inl (gI g, 200, .inl (ar z9))), (aTt, .inl (gI g, 200, .inl (ar z10))), (aTx, .inl (gI g, 200, .inl (ar z11))), (aTy, .inl (gI g, 200, .inl (ar z12)))] : va_W)) q_42.symm) q_43.symm) q_44.symm) q_45.symm) q_46.symm) q_47.symm) q_48.symm) q_49.symm) q_50.symm) q_51.symm) q_52.symm) q_53.symm) q_54.symm)
        rw [hQ9]
        exact x_iret hx hb hr hlocks hP hD hS (S := Int × Int × Int × Int × Int × Int × Int × Int × Int × Int × (Int → Int) × (Int → Int) × (Int → Int)) rfl dL_lay_14 ⟨fx_o_15, fy_o_16, fhx_o_17, fhy_o_18, qx_o_19, qy_o_20, qhx_o_21, qhy_o_22, sr_o_23, sl_o_24, st_o_25, sx_o_26, sy_o_27⟩ (by
            first
            | (
               first | (rw [if_pos (by omega)]; first | assumption | (subst_vars; rfl)) | (rw [if_neg (by omega)]; omega))
            | fail "q9") (by
            first
            | (
               first | exact hjk | exact hjk.2 | exact hXP | exact ⟨hb_st, hb_sx, hb_sy⟩)
            | fail "q9") hw_55 (Nat.le_of_ble_eq_true rfl) (Nat.le_of_ble_eq_true rfl)
      · skip
        have hp : laT sta po (reaF kn ld (ht sta) (mx 0 (yc (sta * 12 + (ht sta - 1)) + 24 - hou)) (lastP ld tp) po tk (takF nd wk pr ld) (devF pn bx byy kx ky ld ehx ehy (yt (sta * 12 + (ht sta - 1))) po) tol) hou = 3 := hp
        subst hE
        refine vx_catch (E := "java/lang/UnsupportedOperationException") (name := "java/lang/UnsupportedOperationException") hown [⟨0, 6, 7, 28⟩, ⟨0, 6, 11, 15⟩] ⟨0, 6, 15, 77⟩ [⟨0, 6, 19, 18⟩] (by rw [htab]; rfl) (fun z hz => by rcases List.mem_cons.mp hz with rfl | hz; exact Or.inr ⟨by decide, "java/lang/IndexOutOfBoundsException", (hts (.classLink RL 28 "java/lang/IndexOutOfBoundsException") (List.mem_of_getElem? (i := 1) rfl)), hC.d.2.2.2.2.2.1 ("java/lang/UnsupportedOperationException", "java/lang/IndexOutOfBoundsException") (List.mem_of_getElem? (i := 27) (by decide +kernel))⟩; rcases List.mem_cons.mp hz with rfl | hz; exact Or.inr ⟨by decide, "java/lang/IllegalArgumentException", (hts (.classLink RL 15 "java/lang/IllegalArgumentException") (List.mem_of_getElem? (i := 2) rfl)), hC.d.2.2.2.2.2.1 ("java/lang/UnsupportedOperationException", "java/lang/IllegalArgumentException") (List.mem_of_getElem? (i := 25) (by decide +kernel))⟩; cases hz) (by decide) (by decide) (hts (.classLink RL 77 "java/lang/UnsupportedOperationException") (List.mem_of_getElem? (i := 3) rfl)) (va_Nw.use rfl (hC.2.2.2.2.2.2.2.2.2.2.1 "java/lang/UnsupportedOperationException" (List.mem_of_getElem? (i := 5) rfl))) hcell hv9 hcl ?_
        refine lv_astore_n (lv' := [(3, .ref q9), (0, .ref aR), (1, .int (iI sta)), (2, .int (iI po))]) hx hb dL_lay_15 rfl hl (by decide) rfl (fun ls hl => ?_)
        refine x_ldc (v := -900003) hx hb hown (hts (.constant RL 30 (-900003)) (List.mem_of_getElem? (i := 7) rfl)) (by decide) dL_lay_16 ?_
        have q_56 : (if laT sta po (reaF kn ld (ht sta) (mx 0 (yc (sta * 12 + (ht sta - 1)) + 24 - hou)) (lastP ld tp) po tk (takF nd wk pr ld) (devF pn bx byy kx ky ld ehx ehy (yt (sta * 12 + (ht sta - 1))) po) tol) hou = 0 then (tk - takF nd wk pr ld) else tk) = tk := by
          first
          | (
             first | rfl | (rw [if_pos (by omega)]) | (rw [if_neg (by omega)]) | (rw [if_pos (by omega)]; subst_vars; rfl))
          | fail "q9"
        have q_57 : (if laT sta po (reaF kn ld (ht sta) (mx 0 (yc (sta * 12 + (ht sta - 1)) + 24 - hou)) (lastP ld tp) po tk (takF nd wk pr ld) (devF pn bx byy kx ky ld ehx ehy (yt (sta * 12 + (ht sta - 1))) po) tol) hou = 0 then (hou + 2) else hou) = hou := by
          first
          | (
             first | rfl | (rw [if_pos (by omega)]) | (rw [if_neg (by omega)]) | (rw [if_pos (by omega)]; subst_vars; rfl))
          | fail "q9"
        have q_58 : (if laT sta po (reaF kn ld (ht sta) (mx 0 (yc (sta * 12 + (ht sta - 1)) + 24 - hou)) (lastP ld tp) po tk (takF nd wk pr ld) (devF pn bx byy kx ky ld ehx ehy (yt (sta * 12 + (ht sta - 1))) po) tol) hou = 0 then (ld + 1) else ld) = ld := by
          first
          | (
             first | rfl | (rw [if_pos (by omega)]) | (rw [if_neg (by omega)]) | (rw [if_pos (by omega)]; subst_vars; rfl))
          | fail "q9"
        have q_59 : (if laT sta po (reaF kn ld (ht sta) (mx 0 (yc (sta * 12 + (ht sta - 1)) + 24 - hou)) (lastP ld tp) po tk (takF nd wk pr ld) (devF pn bx byy kx ky ld ehx ehy (yt (sta * 12 + (ht sta - 1))) po) tol) hou = 0 then (lastF ld kx + (ehx + (yt (sta * 12 + (ht sta - 1))) * toSide po)) else ex) = ex := by
          first
          | (
             first | rfl | (rw [if_pos (by omega)]) | (rw [if_neg (by omega)]) | (rw [if_pos (by omega)]; subst_vars; rfl))
          | fail "q9"
        have q_60 : (if laT sta po (reaF kn ld (ht sta) (mx 0 (yc (sta * 12 + (ht sta - 1)) + 24 - hou)) (lastP ld tp) po tk (takF nd wk pr ld) (devF pn bx byy kx ky ld ehx ehy (yt (sta * 12 + (ht sta - 1))) po) tol) hou = 0 then (lastF ld ky + (ehy + (yt (sta * 12 + (ht sta - 1))) * upward po)) else ey) = ey := by
          first
          | (
             first | rfl | (rw [if_pos (by omega)]) | (rw [if_neg (by omega)]) | (rw [if_pos (by omega)]; subst_vars; rfl))
          | fail "q9"
        have q_61 : (if laT sta po (reaF kn ld (ht sta) (mx 0 (yc (sta * 12 + (ht sta - 1)) + 24 - hou)) (lastP ld tp) po tk (takF nd wk pr ld) (devF pn bx byy kx ky ld ehx ehy (yt (sta * 12 + (ht sta - 1))) po) tol) hou = 0 then (ehx + (yt (sta * 12 + (ht sta - 1))) * toSide po) else ehx) = ehx := by
          first
          | (
             first | rfl | (rw [if_pos (by omega)]) | (rw [if_neg (by omega)]) | (rw [if_pos (by omega)]; subst_vars; rfl))
          | fail "q9"
        have q_62 : (if laT sta po (reaF kn ld (ht sta) (mx 0 (yc (sta * 12 + (ht sta - 1)) + 24 - hou)) (lastP ld tp) po tk (takF nd wk pr ld) (devF pn bx byy kx ky ld ehx ehy (yt (sta * 12 + (ht sta - 1))) po) tol) hou = 0 then (ehy + (yt (sta * 12 + (ht sta - 1))) * upward po) else ehy) = ehy := by
          first
          | (
             first | rfl | (rw [if_pos (by omega)]) | (rw [if_neg (by omega)]) | (rw [if_pos (by omega)]; subst_vars; rfl))
          | fail "q9"
        have q_63 : (if laT sta po (reaF kn ld (ht sta) (mx 0 (yc (sta * 12 + (ht sta - 1)) + 24 - hou)) (lastP ld tp) po tk (takF nd wk pr ld) (devF pn bx byy kx ky ld ehx ehy (yt (sta * 12 + (ht sta - 1))) po) tol) hou = 0 then (up ht sta (ht sta - 1)) else ht) = ht := by
          first
          | (
             first | rfl | (rw [if_pos (by omega)]) | (rw [if_neg (by omega)]) | (rw [if_pos (by omega)]; subst_vars; rfl))
          | fail "q9"
        have q_64 : (if laT sta po (reaF kn ld (ht sta) (mx 0 (yc (sta * 12 + (ht sta - 1)) + 24 - hou)) (lastP ld tp) po tk (takF nd wk pr ld) (devF pn bx byy kx ky ld ehx ehy (yt (sta * 12 + (ht sta - 1))) po) tol) hou = 0 then (up tp ld po) else tp) = tp := by
          first
          | (
             first | rfl | (rw [if_pos (by omega)]) | (rw [if_neg (by omega)]) | (rw [if_pos (by omega)]; subst_vars; rfl))
          | fail "q9"
        have q_65 : (if laT sta po (reaF kn ld (ht sta) (mx 0 (yc (sta * 12 + (ht sta - 1)) + 24 - hou)) (lastP ld tp) po tk (takF nd wk pr ld) (devF pn bx byy kx ky ld ehx ehy (yt (sta * 12 + (ht sta - 1))) po) tol) hou = 0 then (sinkF kn (sinkF kn (sinkF kn sk ld (mx 0 (gt0 kn nd ld - pr) * gt0 kn wk ld / 10)) (ld - 1) ((mx 0 (gt0 kn nd ld - pr) * gt0 kn wk ld / 10) / 2)) (ld + 1) ((mx 0 (gt0 kn nd ld - pr) * gt0 kn wk ld / 10) / 2)) else sk) = sk := by
          first
          | (
             first | rfl | (rw [if_pos (by omega)]) | (rw [if_neg (by omega)]) | (rw [if_pos (by omega)]; subst_vars; rfl))
          | fail "q9"
        have q_66 : (if laT sta po (reaF kn ld (ht sta) (mx 0 (yc (sta * 12 + (ht sta - 1)) + 24 - hou)) (lastP ld tp) po tk (takF nd wk pr ld) (devF pn bx byy kx ky ld ehx ehy (yt (sta * 12 + (ht sta - 1))) po) tol) hou = 0 then (up tt ld (yt (sta * 12 + (ht sta - 1)))) else tt) = tt := by
          first
          | (
             first | rfl | (rw [if_pos (by omega)]) | (rw [if_neg (by omega)]) | (rw [if_pos (by omega)]; subst_vars; rfl))
          | fail "q9"
        have q_67 : (if laT sta po (reaF kn ld (ht sta) (mx 0 (yc (sta * 12 + (ht sta - 1)) + 24 - hou)) (lastP ld tp) po tk (takF nd wk pr ld) (devF pn bx byy kx ky ld ehx ehy (yt (sta * 12 + (ht sta - 1))) po) tol) hou = 0 then (up kx ld (lastF ld kx + (ehx + (yt (sta * 12 + (ht sta - 1))) * toSide po))) else kx) = kx := by
          first
          | (
             first | rfl | (rw [if_pos (by omega)]) | (rw [if_neg (by omega)]) | (rw [if_pos (by omega)]; subst_vars; rfl))
          | fail "q9"
        have q_68 : (if laT sta po (reaF kn ld (ht sta) (mx 0 (yc (sta * 12 + (ht sta - 1)) + 24 - hou)) (lastP ld tp) po tk (takF nd wk pr ld) (devF pn bx byy kx ky ld ehx ehy (yt (sta * 12 + (ht sta - 1))) po) tol) hou = 0 then (up ky ld (lastF ld ky + (ehy + (yt (sta * 12 + (ht sta - 1))) * upward po))) else ky) = ky := by
          first
          | (
             first | rfl | (rw [if_pos (by omega)]) | (rw [if_neg (by omega)]) | (rw [if_pos (by omega)]; subst_vars; rfl))
          | fail "q9"
        have hw_69 := (congr (congr (congr (congr (congr (congr (congr (congr (congr (congr (congr (congr (congrArg (fun (z0 : Int) (z1 : Int) (z2 : Int) (z3 : Int) (z4 : Int) (z5 : Int) (z6 : Int) (z7 : Int → Int) (z8 : Int → Int) (z9 : Int → Int) (z10 : Int → Int) (z11 : Int → Int) (z12 : Int → Int) => ([(aR, .inr (11, [.ref aG, .ref aP, .ref aH, .ref aY, .ref aT, .ref aS, .ref aF, .ref aX, .int (iI pr), .int (iI z0), .int (iI tol), .int (iI z1)])), (aT, .inr (9, [.ref aTp, .ref aTt, .ref aTx, .ref aTy, .ref aE, .int (iI z2)])), (aE, .inr (3, [.int (iI z3), .int (iI z4), .int (iI z5), .int (iI z6)])), (aP, .inr (6, [.ref aPx, .ref aPy, .int (iI pn)])), (aPx, .inl (gI g, 200, .inl (ar bx))), (aPy, .inl (gI g, 200, .inl (ar byy))), (aF, .inr (3, [.int (iI fx_o_15), .int (iI fy_o_16), .int (iI fhx_o_17), .int (iI fhy_o_18)])), (aS, .inr (7, [.ref aQ, .ref aSt, .ref aSx, .ref aSy, .int (iI sr_o_23), .int (iI sl_o_24)])), (aQ, .inr (3, [.int (iI qx_o_19), .int (iI qy_o_20), .int (iI qhx_o_21), .int (iI qhy_o_22)])), (aSt, .inl (gI g, 4, .inl (ar st_o_25))), (aSx, .inl (gI g, 4, .inl (ar sx_o_26))), (aSy, .inl (gI g, 4, .inl (ar sy_o_27))), (aY, .inr (10, [.ref aYh, .ref aYt, .ref aYc])), (aYh, .inl (gI g, 3, .inl (ar z7))), (aYt, .inl (gI g, 36, .inl (ar yt))), (aG, .inr (4, [.ref aGn, .ref aGw, .ref aGs, .int (iI kn)])), (aGn, .inl (gI g, 200, .inl (ar nd))), (aGw, .inl (gI g, 200, .inl (ar wk))), (aTp, .inl (gI g, 200, .inl (ar z8))), (aYc, .inl (gI g, 36, .inl (ar yc))), (aGs, .inl (gI g, 200, .inl (ar z9))), (aTt, .inl (gI g, 200, .inl (ar z10))), (aTx, .inl (gI g, 200, .inl (ar z11))), (aTy, .inl (gI g, 200, .inl (ar z12)))] : va_W)) q_56.symm) q_57.symm) q_58.symm) q_59.symm) q_60.symm) q_61.symm) q_62.symm) q_63.symm) q_64.symm) q_65.symm) q_66.symm) q_67.symm) q_68.symm)
        rw [hQ9]
        exact x_iret hx hb hr hlocks hP hD hS (S := Int × Int × Int × Int × Int × Int × Int × Int × Int × Int × (Int → Int) × (Int → Int) × (Int → Int)) rfl dL_lay_18 ⟨fx_o_15, fy_o_16, fhx_o_17, fhy_o_18, qx_o_19, qy_o_20, qhx_o_21, qhy_o_22, sr_o_23, sl_o_24, st_o_25, sx_o_26, sy_o_27⟩ (by
            first
            | (
               first | (rw [if_pos (by omega)]; first | assumption | (subst_vars; rfl)) | (rw [if_neg (by omega)]; omega))
            | fail "q9") (by
            first
            | (
               first | exact hjk | exact hjk.2 | exact hXP | exact ⟨hb_st, hb_sx, hb_sy⟩)
            | fail "q9") hw_69 (Nat.le_of_ble_eq_true rfl) (Nat.le_of_ble_eq_true rfl)
      · skip
        have hp : laT sta po (reaF kn ld (ht sta) (mx 0 (yc (sta * 12 + (ht sta - 1)) + 24 - hou)) (lastP ld tp) po tk (takF nd wk pr ld) (devF pn bx byy kx ky ld ehx ehy (yt (sta * 12 + (ht sta - 1))) po) tol) hou = 4 := hp
        subst hE
        refine vx_catch (E := "java/lang/IllegalStateException") (name := "java/lang/IllegalStateException") hown [⟨0, 6, 7, 28⟩, ⟨0, 6, 11, 15⟩, ⟨0, 6, 15, 77⟩] ⟨0, 6, 19, 18⟩ [] (by rw [htab]; rfl) (fun z hz => by rcases List.mem_cons.mp hz with rfl | hz; exact Or.inr ⟨by decide, "java/lang/IndexOutOfBoundsException", (hts (.classLink RL 28 "java/lang/IndexOutOfBoundsException") (List.mem_of_getElem? (i := 1) rfl)), hC.d.2.2.2.2.2.1 ("java/lang/IllegalStateException", "java/lang/IndexOutOfBoundsException") (List.mem_of_getElem? (i := 6) (by decide +kernel))⟩; rcases List.mem_cons.mp hz with rfl | hz; exact Or.inr ⟨by decide, "java/lang/IllegalArgumentException", (hts (.classLink RL 15 "java/lang/IllegalArgumentException") (List.mem_of_getElem? (i := 2) rfl)), hC.d.2.2.2.2.2.1 ("java/lang/IllegalStateException", "java/lang/IllegalArgumentException") (List.mem_of_getElem? (i := 5) (by decide +kernel))⟩; rcases List.mem_cons.mp hz with rfl | hz; exact Or.inr ⟨by decide, "java/lang/UnsupportedOperationException", (hts (.classLink RL 77 "java/lang/UnsupportedOperationException") (List.mem_of_getElem? (i := 3) rfl)), hC.d.2.2.2.2.2.1 ("java/lang/IllegalStateException", "java/lang/UnsupportedOperationException") (List.mem_of_getElem? (i := 9) (by decide +kernel))⟩; cases hz) (by decide) (by decide) (hts (.classLink RL 18 "java/lang/IllegalStateException") (List.mem_of_getElem? (i := 4) rfl)) (va_Nw.use rfl (hC.2.2.2.2.2.2.2.2.2.2.1 "java/lang/IllegalStateException" (List.mem_of_getElem? (i := 1) rfl))) hcell hv9 hcl ?_
        refine lv_astore_n (lv' := [(3, .ref q9), (0, .ref aR), (1, .int (iI sta)), (2, .int (iI po))]) hx hb dL_lay_19 rfl hl (by decide) rfl (fun ls hl => ?_)
        refine x_ldc (v := -900004) hx hb hown (hts (.constant RL 79 (-900004)) (List.mem_of_getElem? (i := 8) rfl)) (by decide) dL_lay_20 ?_
        have q_70 : (if laT sta po (reaF kn ld (ht sta) (mx 0 (yc (sta * 12 + (ht sta - 1)) + 24 - hou)) (lastP ld tp) po tk (takF nd wk pr ld) (devF pn bx byy kx ky ld ehx ehy (yt (sta * 12 + (ht sta - 1))) po) tol) hou = 0 then (tk - takF nd wk pr ld) else tk) = tk := by
          first
          | (
             first | rfl | (rw [if_pos (by omega)]) | (rw [if_neg (by omega)]) | (rw [if_pos (by omega)]; subst_vars; rfl))
          | fail "q9"
        have q_71 : (if laT sta po (reaF kn ld (ht sta) (mx 0 (yc (sta * 12 + (ht sta - 1)) + 24 - hou)) (lastP ld tp) po tk (takF nd wk pr ld) (devF pn bx byy kx ky ld ehx ehy (yt (sta * 12 + (ht sta - 1))) po) tol) hou = 0 then (hou + 2) else hou) = hou := by
          first
          | (
             first | rfl | (rw [if_pos (by omega)]) | (rw [if_neg (by omega)]) | (rw [if_pos (by omega)]; subst_vars; rfl))
          | fail "q9"
        have q_72 : (if laT sta po (reaF kn ld (ht sta) (mx 0 (yc (sta * 12 + (ht sta - 1)) + 24 - hou)) (lastP ld tp) po tk (takF nd wk pr ld) (devF pn bx byy kx ky ld ehx ehy (yt (sta * 12 + (ht sta - 1))) po) tol) hou = 0 then (ld + 1) else ld) = ld := by
          first
          | (
             first | rfl | (rw [if_pos (by omega)]) | (rw [if_neg (by omega)]) | (rw [if_pos (by omega)]; subst_vars; rfl))
          | fail "q9"
        have q_73 : (if laT sta po (reaF kn ld (ht sta) (mx 0 (yc (sta * 12 + (ht sta - 1)) + 24 - hou)) (lastP ld tp) po tk (takF nd wk pr ld) (devF pn bx byy kx ky ld ehx ehy (yt (sta * 12 + (ht sta - 1))) po) tol) hou = 0 then (lastF ld kx + (ehx + (yt (sta * 12 + (ht sta - 1))) * toSide po)) else ex) = ex := by
          first
          | (
             first | rfl | (rw [if_pos (by omega)]) | (rw [if_neg (by omega)]) | (rw [if_pos (by omega)]; subst_vars; rfl))
          | fail "q9"
        have q_74 : (if laT sta po (reaF kn ld (ht sta) (mx 0 (yc (sta * 12 + (ht sta - 1)) + 24 - hou)) (lastP ld tp) po tk (takF nd wk pr ld) (devF pn bx byy kx ky ld ehx ehy (yt (sta * 12 + (ht sta - 1))) po) tol) hou = 0 then (lastF ld ky + (ehy + (yt (sta * 12 + (ht sta - 1))) * upward po)) else ey) = ey := by
          first
          | (
             first | rfl | (rw [if_pos (by omega)]) | (rw [if_neg (by omega)]) | (rw [if_pos (by omega)]; subst_vars; rfl))
          | fail "q9"
        have q_75 : (if laT sta po (reaF kn ld (ht sta) (mx 0 (yc (sta * 12 + (ht sta - 1)) + 24 - hou)) (lastP ld tp) po tk (takF nd wk pr ld) (devF pn bx byy kx ky ld ehx ehy (yt (sta * 12 + (ht sta - 1))) po) tol) hou = 0 then (ehx + (yt (sta * 12 + (ht sta - 1))) * toSide po) else ehx) = ehx := by
          first
          | (
             first | rfl | (rw [if_pos (by omega)]) | (rw [if_neg (by omega)]) | (rw [if_pos (by omega)]; subst_vars; rfl))
          | fail "q9"
        have q_76 : (if laT sta po (reaF kn ld (ht sta) (mx 0 (yc (sta * 12 + (ht sta - 1)) + 24 - hou)) (lastP ld tp) po tk (takF nd wk pr ld) (devF pn bx byy kx ky ld ehx ehy (yt (sta * 12 + (ht sta - 1))) po) tol) hou = 0 then (ehy + (yt (sta * 12 + (ht sta - 1))) * upward po) else ehy) = ehy := by
          first
          | (
             first | rfl | (rw [if_pos (by omega)]) | (rw [if_neg (by omega)]) | (rw [if_pos (by omega)]; subst_vars; rfl))
          | fail "q9"
        have q_77 : (if laT sta po (reaF kn ld (ht sta) (mx 0 (yc (sta * 12 + (ht sta - 1)) + 24 - hou)) (lastP ld tp) po tk (takF nd wk pr ld) (devF pn bx byy kx ky ld ehx ehy (yt (sta * 12 + (ht sta - 1))) po) tol) hou = 0 then (up ht sta (ht sta - 1)) else ht) = ht := by
          first
          | (
             first | rfl | (rw [if_pos (by omega)]) | (rw [if_neg (by omega)]) | (rw [if_pos (by omega)]; subst_vars; rfl))
          | fail "q9"
        have q_78 : (if laT sta po (reaF kn ld (ht sta) (mx 0 (yc (sta * 12 + (ht sta - 1)) + 24 - hou)) (lastP ld tp) po tk (takF nd wk pr ld) (devF pn bx byy kx ky ld ehx ehy (yt (sta * 12 + (ht sta - 1))) po) tol) hou = 0 then (up tp ld po) else tp) = tp := by
          first
          | (
             first | rfl | (rw [if_pos (by omega)]) | (rw [if_neg (by omega)]) | (rw [if_pos (by omega)]; subst_vars; rfl))
          | fail "q9"
        have q_79 : (if laT sta po (reaF kn ld (ht sta) (mx 0 (yc (sta * 12 + (ht sta - 1)) + 24 - hou)) (lastP ld tp) po tk (takF nd wk pr ld) (devF pn bx byy kx ky ld ehx ehy (yt (sta * 12 + (ht sta - 1))) po) tol) hou = 0 then (sinkF kn (sinkF kn (sinkF kn sk ld (mx 0 (gt0 kn nd ld - pr) * gt0 kn wk ld / 10)) (ld - 1) ((mx 0 (gt0 kn nd ld - pr) * gt0 kn wk ld / 10) / 2)) (ld + 1) ((mx 0 (gt0 kn nd ld - pr) * gt0 kn wk ld / 10) / 2)) else sk) = sk := by
          first
          | (
             first | rfl | (rw [if_pos (by omega)]) | (rw [if_neg (by omega)]) | (rw [if_pos (by omega)]; subst_vars; rfl))
          | fail "q9"
        have q_80 : (if laT sta po (reaF kn ld (ht sta) (mx 0 (yc (sta * 12 + (ht sta - 1)) + 24 - hou)) (lastP ld tp) po tk (takF nd wk pr ld) (devF pn bx byy kx ky ld ehx ehy (yt (sta * 12 + (ht sta - 1))) po) tol) hou = 0 then (up tt ld (yt (sta * 12 + (ht sta - 1)))) else tt) = tt := by
          first
          | (
             first | rfl | (rw [if_pos (by omega)]) | (rw [if_neg (by omega)]) | (rw [if_pos (by omega)]; subst_vars; rfl))
          | fail "q9"
        have q_81 : (if laT sta po (reaF kn ld (ht sta) (mx 0 (yc (sta * 12 + (ht sta - 1)) + 24 - hou)) (lastP ld tp) po tk (takF nd wk pr ld) (devF pn bx byy kx ky ld ehx ehy (yt (sta * 12 + (ht sta - 1))) po) tol) hou = 0 then (up kx ld (lastF ld kx + (ehx + (yt (sta * 12 + (ht sta - 1))) * toSide po))) else kx) = kx := by
          first
          | (
             first | rfl | (rw [if_pos (by omega)]) | (rw [if_neg (by omega)]) | (rw [if_pos (by omega)]; subst_vars; rfl))
          | fail "q9"
        have q_82 : (if laT sta po (reaF kn ld (ht sta) (mx 0 (yc (sta * 12 + (ht sta - 1)) + 24 - hou)) (lastP ld tp) po tk (takF nd wk pr ld) (devF pn bx byy kx ky ld ehx ehy (yt (sta * 12 + (ht sta - 1))) po) tol) hou = 0 then (up ky ld (lastF ld ky + (ehy + (yt (sta * 12 + (ht sta - 1))) * upward po))) else ky) = ky := by
          first
          | (
             first | rfl | (rw [if_pos (by omega)]) | (rw [if_neg (by omega)]) | (rw [if_pos (by omega)]; subst_vars; rfl))
          | fail "q9"
        have hw_83 := (congr (congr (congr (congr (congr (congr (congr (congr (congr (congr (congr (congr (congrArg (fun (z0 : Int) (z1 : Int) (z2 : Int) (z3 : Int) (z4 : Int) (z5 : Int) (z6 : Int) (z7 : Int → Int) (z8 : Int → Int) (z9 : Int → Int) (z10 : Int → Int) (z11 : Int → Int) (z12 : Int → Int) => ([(aR, .inr (11, [.ref aG, .ref aP, .ref aH, .ref aY, .ref aT, .ref aS, .ref aF, .ref aX, .int (iI pr), .int (iI z0), .int (iI tol), .int (iI z1)])), (aT, .inr (9, [.ref aTp, .ref aTt, .ref aTx, .ref aTy, .ref aE, .int (iI z2)])), (aE, .inr (3, [.int (iI z3), .int (iI z4), .int (iI z5), .int (iI z6)])), (aP, .inr (6, [.ref aPx, .ref aPy, .int (iI pn)])), (aPx, .inl (gI g, 200, .inl (ar bx))), (aPy, .inl (gI g, 200, .inl (ar byy))), (aF, .inr (3, [.int (iI fx_o_15), .int (iI fy_o_16), .int (iI fhx_o_17), .int (iI fhy_o_18)])), (aS, .inr (7, [.ref aQ, .ref aSt, .ref aSx, .ref aSy, .int (iI sr_o_23), .int (iI sl_o_24)])), (aQ, .inr (3, [.int (iI qx_o_19), .int (iI qy_o_20), .int (iI qhx_o_21), .int (iI qhy_o_22)])), (aSt, .inl (gI g, 4, .inl (ar st_o_25))), (aSx, .inl (gI g, 4, .inl (ar sx_o_26))), (aSy, .inl (gI g, 4, .inl (ar sy_o_27))), (aY, .inr (10, [.ref aYh, .ref aYt, .ref aYc])), (aYh, .inl (gI g, 3, .inl (ar z7))), (aYt, .inl (gI g, 36, .inl (ar yt))), (aG, .inr (4, [.ref aGn, .ref aGw, .ref aGs, .int (iI kn)])), (aGn, .inl (gI g, 200, .inl (ar nd))), (aGw, .inl (gI g, 200, .inl (ar wk))), (aTp, .inl (gI g, 200, .inl (ar z8))), (aYc, .inl (gI g, 36, .inl (ar yc))), (aGs, .inl (gI g, 200, .inl (ar z9))), (aTt, .inl (gI g, 200, .inl (ar z10))), (aTx, .inl (gI g, 200, .inl (ar z11))), (aTy, .inl (gI g, 200, .inl (ar z12)))] : va_W)) q_70.symm) q_71.symm) q_72.symm) q_73.symm) q_74.symm) q_75.symm) q_76.symm) q_77.symm) q_78.symm) q_79.symm) q_80.symm) q_81.symm) q_82.symm)
        rw [hQ9]
        exact x_iret hx hb hr hlocks hP hD hS (S := Int × Int × Int × Int × Int × Int × Int × Int × Int × Int × (Int → Int) × (Int → Int) × (Int → Int)) rfl dL_lay_22 ⟨fx_o_15, fy_o_16, fhx_o_17, fhy_o_18, qx_o_19, qy_o_20, qhx_o_21, qhy_o_22, sr_o_23, sl_o_24, st_o_25, sx_o_26, sy_o_27⟩ (by
            first
            | (
               first | (rw [if_pos (by omega)]; first | assumption | (subst_vars; rfl)) | (rw [if_neg (by omega)]; omega))
            | fail "q9") (by
            first
            | (
               first | exact hjk | exact hjk.2 | exact hXP | exact ⟨hb_st, hb_sx, hb_sy⟩)
            | fail "q9") hw_83 (Nat.le_of_ble_eq_true rfl) (Nat.le_of_ble_eq_true rfl)
    · skip
      obtain ⟨fx_o_1, fy_o_2, fhx_o_3, fhy_o_4, qx_o_5, qy_o_6, qhx_o_7, qhy_o_8, sr_o_9, sl_o_10, st_o_11, sx_o_12, sy_o_13⟩ := u
      have hP : va_P (gD g) vwCl [(aR, .inr (11, [.ref aG, .ref aP, .ref aH, .ref aY, .ref aT, .ref aS, .ref aF, .ref aX, .int (iI pr), .int (iI (tk - takF nd wk pr ld)), .int (iI tol), .int (iI (hou + 2))])), (aT, .inr (9, [.ref aTp, .ref aTt, .ref aTx, .ref aTy, .ref aE, .int (iI (ld + 1))])), (aE, .inr (3, [.int (iI (lastF ld kx + (ehx + (yt (sta * 12 + (ht sta - 1))) * toSide po))), .int (iI (lastF ld ky + (ehy + (yt (sta * 12 + (ht sta - 1))) * upward po))), .int (iI (ehx + (yt (sta * 12 + (ht sta - 1))) * toSide po)), .int (iI (ehy + (yt (sta * 12 + (ht sta - 1))) * upward po))])), (aP, .inr (6, [.ref aPx, .ref aPy, .int (iI pn)])), (aPx, .inl (gI g, 200, .inl (ar bx))), (aPy, .inl (gI g, 200, .inl (ar byy))), (aF, .inr (3, [.int (iI fx_o_1), .int (iI fy_o_2), .int (iI fhx_o_3), .int (iI fhy_o_4)])), (aS, .inr (7, [.ref aQ, .ref aSt, .ref aSx, .ref aSy, .int (iI sr_o_9), .int (iI sl_o_10)])), (aQ, .inr (3, [.int (iI qx_o_5), .int (iI qy_o_6), .int (iI qhx_o_7), .int (iI qhy_o_8)])), (aSt, .inl (gI g, 4, .inl (ar st_o_11))), (aSx, .inl (gI g, 4, .inl (ar sx_o_12))), (aSy, .inl (gI g, 4, .inl (ar sy_o_13))), (aY, .inr (10, [.ref aYh, .ref aYt, .ref aYc])), (aYh, .inl (gI g, 3, .inl (ar (up ht sta (ht sta - 1))))), (aYt, .inl (gI g, 36, .inl (ar yt))), (aG, .inr (4, [.ref aGn, .ref aGw, .ref aGs, .int (iI kn)])), (aGn, .inl (gI g, 200, .inl (ar nd))), (aGw, .inl (gI g, 200, .inl (ar wk))), (aTp, .inl (gI g, 200, .inl (ar (up tp ld po)))), (aYc, .inl (gI g, 36, .inl (ar yc))), (aGs, .inl (gI g, 200, .inl (ar (sinkF kn (sinkF kn (sinkF kn sk ld (mx 0 (gt0 kn nd ld - pr) * gt0 kn wk ld / 10)) (ld - 1) ((mx 0 (gt0 kn nd ld - pr) * gt0 kn wk ld / 10) / 2)) (ld + 1) ((mx 0 (gt0 kn nd ld - pr) * gt0 kn wk ld / 10) / 2))))), (aTt, .inl (gI g, 200, .inl (ar (up tt ld (yt (sta * 12 + (ht sta - 1))))))), (aTx, .inl (gI g, 200, .inl (ar (up kx ld (lastF ld kx + (ehx + (yt (sta * 12 + (ht sta - 1))) * toSide po)))))), (aTy, .inl (gI g, 200, .inl (ar (up ky ld (lastF ld ky + (ehy + (yt (sta * 12 + (ht sta - 1))) * upward po))))))] H := hP
      have hD : va_D A [(aR, .inr (11, [.ref aG, .ref aP, .ref aH, .ref aY, .ref aT, .ref aS, .ref aF, .ref aX, .int (iI pr), .int (iI (tk - takF nd wk pr ld)), .int (iI tol), .int (iI (hou + 2))])), (aT, .inr (9, [.ref aTp, .ref aTt, .ref aTx, .ref aTy, .ref aE, .int (iI (ld + 1))])), (aE, .inr (3, [.int (iI (lastF ld kx + (ehx + (yt (sta * 12 + (ht sta - 1))) * toSide po))), .int (iI (lastF ld ky + (ehy + (yt (sta * 12 + (ht sta - 1))) * upward po))), .int (iI (ehx + (yt (sta * 12 + (ht sta - 1))) * toSide po)), .int (iI (ehy + (yt (sta * 12 + (ht sta - 1))) * upward po))])), (aP, .inr (6, [.ref aPx, .ref aPy, .int (iI pn)])), (aPx, .inl (gI g, 200, .inl (ar bx))), (aPy, .inl (gI g, 200, .inl (ar byy))), (aF, .inr (3, [.int (iI fx_o_1), .int (iI fy_o_2), .int (iI fhx_o_3), .int (iI fhy_o_4)])), (aS, .inr (7, [.ref aQ, .ref aSt, .ref aSx, .ref aSy, .int (iI sr_o_9), .int (iI sl_o_10)])), (aQ, .inr (3, [.int (iI qx_o_5), .int (iI qy_o_6), .int (iI qhx_o_7), .int (iI qhy_o_8)])), (aSt, .inl (gI g, 4, .inl (ar st_o_11))), (aSx, .inl (gI g, 4, .inl (ar sx_o_12))), (aSy, .inl (gI g, 4, .inl (ar sy_o_13))), (aY, .inr (10, [.ref aYh, .ref aYt, .ref aYc])), (aYh, .inl (gI g, 3, .inl (ar (up ht sta (ht sta - 1))))), (aYt, .inl (gI g, 36, .inl (ar yt))), (aG, .inr (4, [.ref aGn, .ref aGw, .ref aGs, .int (iI kn)])), (aGn, .inl (gI g, 200, .inl (ar nd))), (aGw, .inl (gI g, 200, .inl (ar wk))), (aTp, .inl (gI g, 200, .inl (ar (up tp ld po)))), (aYc, .inl (gI g, 36, .inl (ar yc))), (aGs, .inl (gI g, 200, .inl (ar (sinkF kn (sinkF kn (sinkF kn sk ld (mx 0 (gt0 kn nd ld - pr) * gt0 kn wk ld / 10)) (ld - 1) ((mx 0 (gt0 kn nd ld - pr) * gt0 kn wk ld / 10) / 2)) (ld + 1) ((mx 0 (gt0 kn nd ld - pr) * gt0 kn wk ld / 10) / 2))))), (aTt, .inl (gI g, 200, .inl (ar (up tt ld (yt (sta * 12 + (ht sta - 1))))))), (aTx, .inl (gI g, 200, .inl (ar (up kx ld (lastF ld kx + (ehx + (yt (sta * 12 + (ht sta - 1))) * toSide po)))))), (aTy, .inl (gI g, 200, .inl (ar (up ky ld (lastF ld ky + (ehy + (yt (sta * 12 + (ht sta - 1))) * upward po))))))] := hD
      have hv_14 : v_14 = ld := hv_14
      obtain ⟨tv_14, pv_14⟩ := pv_14
      have tv_14 : laT sta po (reaF kn ld (ht sta) (mx 0 (yc (sta * 12 + (ht sta - 1)) + 24 - hou)) (lastP ld tp) po tk (takF nd wk pr ld) (devF pn bx byy kx ky ld ehx ehy (yt (sta * 12 + (ht sta - 1))) po) tol) hou = 0 := tv_14
      have pv_14 : bnd st_o_11 0 9 ∧ bnd sx_o_12 (-5) 5 ∧ bnd sy_o_13 (-5) 5 := by first | exact pv_14 | (rw [hv_14]; exact pv_14)
      have hjk := pv_14
      have q_84 : (if laT sta po (reaF kn ld (ht sta) (mx 0 (yc (sta * 12 + (ht sta - 1)) + 24 - hou)) (lastP ld tp) po tk (takF nd wk pr ld) (devF pn bx byy kx ky ld ehx ehy (yt (sta * 12 + (ht sta - 1))) po) tol) hou = 0 then (tk - takF nd wk pr ld) else tk) = (tk - takF nd wk pr ld) := by
        first
        | (
           first | rfl | (rw [if_pos (by omega)]) | (rw [if_neg (by omega)]) | (rw [if_pos (by omega)]; subst_vars; rfl))
        | fail "q9"
      have q_85 : (if laT sta po (reaF kn ld (ht sta) (mx 0 (yc (sta * 12 + (ht sta - 1)) + 24 - hou)) (lastP ld tp) po tk (takF nd wk pr ld) (devF pn bx byy kx ky ld ehx ehy (yt (sta * 12 + (ht sta - 1))) po) tol) hou = 0 then (hou + 2) else hou) = (hou + 2) := by
        first
        | (
           first | rfl | (rw [if_pos (by omega)]) | (rw [if_neg (by omega)]) | (rw [if_pos (by omega)]; subst_vars; rfl))
        | fail "q9"
      have q_86 : (if laT sta po (reaF kn ld (ht sta) (mx 0 (yc (sta * 12 + (ht sta - 1)) + 24 - hou)) (lastP ld tp) po tk (takF nd wk pr ld) (devF pn bx byy kx ky ld ehx ehy (yt (sta * 12 + (ht sta - 1))) po) tol) hou = 0 then (ld + 1) else ld) = (ld + 1) := by
        first
        | (
           first | rfl | (rw [if_pos (by omega)]) | (rw [if_neg (by omega)]) | (rw [if_pos (by omega)]; subst_vars; rfl))
        | fail "q9"
      have q_87 : (if laT sta po (reaF kn ld (ht sta) (mx 0 (yc (sta * 12 + (ht sta - 1)) + 24 - hou)) (lastP ld tp) po tk (takF nd wk pr ld) (devF pn bx byy kx ky ld ehx ehy (yt (sta * 12 + (ht sta - 1))) po) tol) hou = 0 then (lastF ld kx + (ehx + (yt (sta * 12 + (ht sta - 1))) * toSide po)) else ex) = (lastF ld kx + (ehx + (yt (sta * 12 + (ht sta - 1))) * toSide po)) := by
        first
        | (
           first | rfl | (rw [if_pos (by omega)]) | (rw [if_neg (by omega)]) | (rw [if_pos (by omega)]; subst_vars; rfl))
        | fail "q9"
      have q_88 : (if laT sta po (reaF kn ld (ht sta) (mx 0 (yc (sta * 12 + (ht sta - 1)) + 24 - hou)) (lastP ld tp) po tk (takF nd wk pr ld) (devF pn bx byy kx ky ld ehx ehy (yt (sta * 12 + (ht sta - 1))) po) tol) hou = 0 then (lastF ld ky + (ehy + (yt (sta * 12 + (ht sta - 1))) * upward po)) else ey) = (lastF ld ky + (ehy + (yt (sta * 12 + (ht sta - 1))) * upward po)) := by
        first
        | (
           first | rfl | (rw [if_pos (by omega)]) | (rw [if_neg (by omega)]) | (rw [if_pos (by omega)]; subst_vars; rfl))
        | fail "q9"
      have q_89 : (if laT sta po (reaF kn ld (ht sta) (mx 0 (yc (sta * 12 + (ht sta - 1)) + 24 - hou)) (lastP ld tp) po tk (takF nd wk pr ld) (devF pn bx byy kx ky ld ehx ehy (yt (sta * 12 + (ht sta - 1))) po) tol) hou = 0 then (ehx + (yt (sta * 12 + (ht sta - 1))) * toSide po) else ehx) = (ehx + (yt (sta * 12 + (ht sta - 1))) * toSide po) := by
        first
        | (
           first | rfl | (rw [if_pos (by omega)]) | (rw [if_neg (by omega)]) | (rw [if_pos (by omega)]; subst_vars; rfl))
        | fail "q9"
      have q_90 : (if laT sta po (reaF kn ld (ht sta) (mx 0 (yc (sta * 12 + (ht sta - 1)) + 24 - hou)) (lastP ld tp) po tk (takF nd wk pr ld) (devF pn bx byy kx ky ld ehx ehy (yt (sta * 12 + (ht sta - 1))) po) tol) hou = 0 then (ehy + (yt (sta * 12 + (ht sta - 1))) * upward po) else ehy) = (ehy + (yt (sta * 12 + (ht sta - 1))) * upward po) := by
        first
        | (
           first | rfl | (rw [if_pos (by omega)]) | (rw [if_neg (by omega)]) | (rw [if_pos (by omega)]; subst_vars; rfl))
        | fail "q9"
      have q_91 : (if laT sta po (reaF kn ld (ht sta) (mx 0 (yc (sta * 12 + (ht sta - 1)) + 24 - hou)) (lastP ld tp) po tk (takF nd wk pr ld) (devF pn bx byy kx ky ld ehx ehy (yt (sta * 12 + (ht sta - 1))) po) tol) hou = 0 then (up ht sta (ht sta - 1)) else ht) = (up ht sta (ht sta - 1)) := by
        first
        | (
           first | rfl | (rw [if_pos (by omega)]) | (rw [if_neg (by omega)]) | (rw [if_pos (by omega)]; subst_vars; rfl))
        | fail "q9"
      have q_92 : (if laT sta po (reaF kn ld (ht sta) (mx 0 (yc (sta * 12 + (ht sta - 1)) + 24 - hou)) (lastP ld tp) po tk (takF nd wk pr ld) (devF pn bx byy kx ky ld ehx ehy (yt (sta * 12 + (ht sta - 1))) po) tol) hou = 0 then (up tp ld po) else tp) = (up tp ld po) := by
        first
        | (
           first | rfl | (rw [if_pos (by omega)]) | (rw [if_neg (by omega)]) | (rw [if_pos (by omega)]; subst_vars; rfl))
        | fail "q9"
      have q_93 : (if laT sta po (reaF kn ld (ht sta) (mx 0 (yc (sta * 12 + (ht sta - 1)) + 24 - hou)) (lastP ld tp) po tk (takF nd wk pr ld) (devF pn bx byy kx ky ld ehx ehy (yt (sta * 12 + (ht sta - 1))) po) tol) hou = 0 then (sinkF kn (sinkF kn (sinkF kn sk ld (mx 0 (gt0 kn nd ld - pr) * gt0 kn wk ld / 10)) (ld - 1) ((mx 0 (gt0 kn nd ld - pr) * gt0 kn wk ld / 10) / 2)) (ld + 1) ((mx 0 (gt0 kn nd ld - pr) * gt0 kn wk ld / 10) / 2)) else sk) = (sinkF kn (sinkF kn (sinkF kn sk ld (mx 0 (gt0 kn nd ld - pr) * gt0 kn wk ld / 10)) (ld - 1) ((mx 0 (gt0 kn nd ld - pr) * gt0 kn wk ld / 10) / 2)) (ld + 1) ((mx 0 (gt0 kn nd ld - pr) * gt0 kn wk ld / 10) / 2)) := by
        first
        | (
           first | rfl | (rw [if_pos (by omega)]) | (rw [if_neg (by omega)]) | (rw [if_pos (by omega)]; subst_vars; rfl))
        | fail "q9"
      have q_94 : (if laT sta po (reaF kn ld (ht sta) (mx 0 (yc (sta * 12 + (ht sta - 1)) + 24 - hou)) (lastP ld tp) po tk (takF nd wk pr ld) (devF pn bx byy kx ky ld ehx ehy (yt (sta * 12 + (ht sta - 1))) po) tol) hou = 0 then (up tt ld (yt (sta * 12 + (ht sta - 1)))) else tt) = (up tt ld (yt (sta * 12 + (ht sta - 1)))) := by
        first
        | (
           first | rfl | (rw [if_pos (by omega)]) | (rw [if_neg (by omega)]) | (rw [if_pos (by omega)]; subst_vars; rfl))
        | fail "q9"
      have q_95 : (if laT sta po (reaF kn ld (ht sta) (mx 0 (yc (sta * 12 + (ht sta - 1)) + 24 - hou)) (lastP ld tp) po tk (takF nd wk pr ld) (devF pn bx byy kx ky ld ehx ehy (yt (sta * 12 + (ht sta - 1))) po) tol) hou = 0 then (up kx ld (lastF ld kx + (ehx + (yt (sta * 12 + (ht sta - 1))) * toSide po))) else kx) = (up kx ld (lastF ld kx + (ehx + (yt (sta * 12 + (ht sta - 1))) * toSide po))) := by
        first
        | (
           first | rfl | (rw [if_pos (by omega)]) | (rw [if_neg (by omega)]) | (rw [if_pos (by omega)]; subst_vars; rfl))
        | fail "q9"
      have q_96 : (if laT sta po (reaF kn ld (ht sta) (mx 0 (yc (sta * 12 + (ht sta - 1)) + 24 - hou)) (lastP ld tp) po tk (takF nd wk pr ld) (devF pn bx byy kx ky ld ehx ehy (yt (sta * 12 + (ht sta - 1))) po) tol) hou = 0 then (up ky ld (lastF ld ky + (ehy + (yt (sta * 12 + (ht sta - 1))) * upward po))) else ky) = (up ky ld (lastF ld ky + (ehy + (yt (sta * 12 + (ht sta - 1))) * upward po))) := by
        first
        | (
           first | rfl | (rw [if_pos (by omega)]) | (rw [if_neg (by omega)]) | (rw [if_pos (by omega)]; subst_vars; rfl))
        | fail "q9"
      have hw_97 := (congr (congr (congr (congr (congr (congr (congr (congr (congr (congr (congr (congr (congrArg (fun (z0 : Int) (z1 : Int) (z2 : Int) (z3 : Int) (z4 : Int) (z5 : Int) (z6 : Int) (z7 : Int → Int) (z8 : Int → Int) (z9 : Int → Int) (z10 : Int → Int) (z11 : Int → Int) (z12 : Int → Int) => ([(aR, .inr (11, [.ref aG, .ref aP, .ref aH, .ref aY, .ref aT, .ref aS, .ref aF, .ref aX, .int (iI pr), .int (iI z0), .int (iI tol), .int (iI z1)])), (aT, .inr (9, [.ref aTp, .ref aTt, .ref aTx, .ref aTy, .ref aE, .int (iI z2)])), (aE, .inr (3, [.int (iI z3), .int (iI z4), .int (iI z5), .int (iI z6)])), (aP, .inr (6, [.ref aPx, .ref aPy, .int (iI pn)])), (aPx, .inl (gI g, 200, .inl (ar bx))), (aPy, .inl (gI g, 200, .inl (ar byy))), (aF, .inr (3, [.int (iI fx_o_1), .int (iI fy_o_2), .int (iI fhx_o_3), .int (iI fhy_o_4)])), (aS, .inr (7, [.ref aQ, .ref aSt, .ref aSx, .ref aSy, .int (iI sr_o_9), .int (iI sl_o_10)])), (aQ, .inr (3, [.int (iI qx_o_5), .int (iI qy_o_6), .int (iI qhx_o_7), .int (iI qhy_o_8)])), (aSt, .inl (gI g, 4, .inl (ar st_o_11))), (aSx, .inl (gI g, 4, .inl (ar sx_o_12))), (aSy, .inl (gI g, 4, .inl (ar sy_o_13))), (aY, .inr (10, [.ref aYh, .ref aYt, .ref aYc])), (aYh, .inl (gI g, 3, .inl (ar z7))), (aYt, .inl (gI g, 36, .inl (ar yt))), (aG, .inr (4, [.ref aGn, .ref aGw, .ref aGs, .int (iI kn)])), (aGn, .inl (gI g, 200, .inl (ar nd))), (aGw, .inl (gI g, 200, .inl (ar wk))), (aTp, .inl (gI g, 200, .inl (ar z8))), (aYc, .inl (gI g, 36, .inl (ar yc))), (aGs, .inl (gI g, 200, .inl (ar z9))), (aTt, .inl (gI g, 200, .inl (ar z10))), (aTx, .inl (gI g, 200, .inl (ar z11))), (aTy, .inl (gI g, 200, .inl (ar z12)))] : va_W)) q_84.symm) q_85.symm) q_86.symm) q_87.symm) q_88.symm) q_89.symm) q_90.symm) q_91.symm) q_92.symm) q_93.symm) q_94.symm) q_95.symm) q_96.symm)
      rw [hQ9]
      exact x_iret hx hb hr hlocks hP hD hS (S := Int × Int × Int × Int × Int × Int × Int × Int × Int × Int × (Int → Int) × (Int → Int) × (Int → Int)) rfl dL_lay_6 ⟨fx_o_1, fy_o_2, fhx_o_3, fhy_o_4, qx_o_5, qy_o_6, qhx_o_7, qhy_o_8, sr_o_9, sl_o_10, st_o_11, sx_o_12, sy_o_13⟩ (by
          first
          | (
             first | (rw [if_pos (by omega)]; first | assumption | (subst_vars; rfl)) | (rw [if_neg (by omega)]; omega))
          | fail "q9") (by
          first
          | (
             first | exact hjk | exact hjk.2 | exact hXP | exact ⟨hb_st, hb_sx, hb_sy⟩)
          | fail "q9") hw_97 (Nat.le_of_ble_eq_true rfl) (Nat.le_of_ble_eq_true rfl)
  rw [hH, hlo, hQ9] at goal_
  exact goal_

set_option maxHeartbeats 4000000 in
set_option maxRecDepth 100000 in
theorem c_L_stop (l : Launch) (hflags : l.stackTraces = false) (g : xg) (sz : Nat) (aR aG aP aH aY aT aS aF aX aGn aGw aGs aTp aTt aTx aTy aE : Nat) (pr tk tol hou kn ld hrs : Int) (nd wk sk : Int → Int) (hkn : 0 ≤ kn ∧ kn ≤ 200) (hld : 0 ≤ ld ∧ ld ≤ 200) (hhou : 0 ≤ hou ∧ hou ≤ 5000) (hpr : 0 ≤ pr ∧ pr ≤ 100) (hb_nd : bnd nd 0 100) (hb_wk : bnd wk 0 20) (hr_hrs : iR hrs) : Met l yL_stop wsL_stop { frames := 8, cells := 2, slots := 12, locals := 135 } (va_Pc [.ref aR, .int (iI hrs)] (xB g [(aR, .inr (11, [.ref aG, .ref aP, .ref aH, .ref aY, .ref aT, .ref aS, .ref aF, .ref aX, .int (iI pr), .int (iI tk), .int (iI tol), .int (iI hou)])), (aG, .inr (4, [.ref aGn, .ref aGw, .ref aGs, .int (iI kn)])), (aGn, .inl (gI g, 200, .inl (ar nd))), (aGw, .inl (gI g, 200, .inl (ar wk))), (aGs, .inl (gI g, 200, .inl (ar sk))), (aT, .inr (9, [.ref aTp, .ref aTt, .ref aTx, .ref aTy, .ref aE, .int (iI ld)]))] sz)) (va_Qi (fun r u => r = iI ((fun (u : Unit) => (if soT hou hrs = 0 then hou + hrs else -900000 - soT hou hrs)) u) ∧ (fun (u : Unit) => True) u) (fun u t => xE g (va_A [(aR, .inr (11, [.ref aG, .ref aP, .ref aH, .ref aY, .ref aT, .ref aS, .ref aF, .ref aX, .int (iI pr), .int (iI tk), .int (iI tol), .int (iI hou)])), (aG, .inr (4, [.ref aGn, .ref aGw, .ref aGs, .int (iI kn)])), (aGn, .inl (gI g, 200, .inl (ar nd))), (aGw, .inl (gI g, 200, .inl (ar wk))), (aGs, .inl (gI g, 200, .inl (ar sk))), (aT, .inr (9, [.ref aTp, .ref aTt, .ref aTx, .ref aTy, .ref aE, .int (iI ld)]))] sz) ((fun (u : Unit) => [(aR, .inr (11, [.ref aG, .ref aP, .ref aH, .ref aY, .ref aT, .ref aS, .ref aF, .ref aX, .int (iI pr), .int (iI tk), .int (iI tol), .int (iI (if soT hou hrs = 0 then (hou + hrs) else hou))])), (aG, .inr (4, [.ref aGn, .ref aGw, .ref aGs, .int (iI kn)])), (aGn, .inl (gI g, 200, .inl (ar nd))), (aGw, .inl (gI g, 200, .inl (ar wk))), (aGs, .inl (gI g, 200, .inl (ar (if soT hou hrs = 0 then (sinkF kn sk ld (hrs * (mx 0 (gt0 kn nd ld - pr) * gt0 kn wk ld / 50))) else sk)))), (aT, .inr (9, [.ref aTp, .ref aTt, .ref aTx, .ref aTy, .ref aE, .int (iI ld)]))]) u) t) (va_A [(aR, .inr (11, [.ref aG, .ref aP, .ref aH, .ref aY, .ref aT, .ref aS, .ref aF, .ref aX, .int (iI pr), .int (iI tk), .int (iI tol), .int (iI hou)])), (aG, .inr (4, [.ref aGn, .ref aGw, .ref aGs, .int (iI kn)])), (aGn, .inl (gI g, 200, .inl (ar nd))), (aGw, .inl (gI g, 200, .inl (ar wk))), (aGs, .inl (gI g, 200, .inl (ar sk))), (aT, .inr (9, [.ref aTp, .ref aTt, .ref aTx, .ref aTy, .ref aE, .int (iI ld)]))] sz)) 2 12 (va_A [(aR, .inr (11, [.ref aG, .ref aP, .ref aH, .ref aY, .ref aT, .ref aS, .ref aF, .ref aX, .int (iI pr), .int (iI tk), .int (iI tol), .int (iI hou)])), (aG, .inr (4, [.ref aGn, .ref aGw, .ref aGs, .int (iI kn)])), (aGn, .inl (gI g, 200, .inl (ar nd))), (aGw, .inl (gI g, 200, .inl (ar wk))), (aGs, .inl (gI g, 200, .inl (ar sk))), (aT, .inr (9, [.ref aTp, .ref aTt, .ref aTx, .ref aTy, .ref aE, .int (iI ld)]))] sz) := by
  refine x_enterH (y := yL_stop) (ws := wsL_stop) (g := g) (sz := sz) (av := [.ref aR, .int (iI hrs)]) (WS := [(aR, .inr (11, [.ref aG, .ref aP, .ref aH, .ref aY, .ref aT, .ref aS, .ref aF, .ref aX, .int (iI pr), .int (iI tk), .int (iI tol), .int (iI hou)])), (aG, .inr (4, [.ref aGn, .ref aGw, .ref aGs, .int (iI kn)])), (aGn, .inl (gI g, 200, .inl (ar nd))), (aGw, .inl (gI g, 200, .inl (ar wk))), (aGs, .inl (gI g, 200, .inl (ar sk))), (aT, .inr (9, [.ref aTp, .ref aTt, .ref aTx, .ref aTy, .ref aE, .int (iI ld)]))]) (cc := cL_stop) (maxL := 3) (ret := some .int) (Qc := (fun A => (va_Qi (fun r u => r = iI ((fun (u : Unit) => (if soT hou hrs = 0 then hou + hrs else -900000 - soT hou hrs)) u) ∧ (fun (u : Unit) => True) u) (fun u t => xE g A ((fun (u : Unit) => [(aR, .inr (11, [.ref aG, .ref aP, .ref aH, .ref aY, .ref aT, .ref aS, .ref aF, .ref aX, .int (iI pr), .int (iI tk), .int (iI tol), .int (iI (if soT hou hrs = 0 then (hou + hrs) else hou))])), (aG, .inr (4, [.ref aGn, .ref aGw, .ref aGs, .int (iI kn)])), (aGn, .inl (gI g, 200, .inl (ar nd))), (aGw, .inl (gI g, 200, .inl (ar wk))), (aGs, .inl (gI g, 200, .inl (ar (if soT hou hrs = 0 then (sinkF kn sk ld (hrs * (mx 0 (gt0 kn nd ld - pr) * gt0 kn wk ld / 50))) else sk)))), (aT, .inr (9, [.ref aTp, .ref aTt, .ref aTx, .ref aTy, .ref aE, .int (iI ld)]))]) u) t) A))) (by decide) rfl (Nat.le_of_ble_eq_true rfl) ?_
  intro p e s m args below meth c A ls hx hb hr hml hown hts hlocks htab hC hP hD hS hA hl
  have hK := hC.1
  have hown : s.vm.findClass RL = some m.cls := hown
  have hl : lv_has ls 3 [(0, .ref aR), (1, .int (iI hrs))] := hl
  obtain ⟨H, hH⟩ : ∃ z, z = s.heap := ⟨_, rfl⟩
  obtain ⟨locs, hlo⟩ : ∃ z : List Loc, z = [] := ⟨_, rfl⟩
  obtain ⟨Q9, hQ9⟩ : ∃ z, z = MQ below (va_Qi (fun r u => r = iI ((fun (u : Unit) => (if soT hou hrs = 0 then hou + hrs else -900000 - soT hou hrs)) u) ∧ (fun (u : Unit) => True) u) (fun u t => xE g A ((fun (u : Unit) => [(aR, .inr (11, [.ref aG, .ref aP, .ref aH, .ref aY, .ref aT, .ref aS, .ref aF, .ref aX, .int (iI pr), .int (iI tk), .int (iI tol), .int (iI (if soT hou hrs = 0 then (hou + hrs) else hou))])), (aG, .inr (4, [.ref aGn, .ref aGw, .ref aGs, .int (iI kn)])), (aGn, .inl (gI g, 200, .inl (ar nd))), (aGw, .inl (gI g, 200, .inl (ar wk))), (aGs, .inl (gI g, 200, .inl (ar (if soT hou hrs = 0 then (sinkF kn sk ld (hrs * (mx 0 (gt0 kn nd ld - pr) * gt0 kn wk ld / 50))) else sk)))), (aT, .inr (9, [.ref aTp, .ref aTt, .ref aTx, .ref aTy, .ref aE, .int (iI ld)]))]) u) t) A) args s 2 12 A := ⟨_, rfl⟩
  have hP : va_P (gD g) vwCl [(aR, .inr (11, [.ref aG, .ref aP, .ref aH, .ref aY, .ref aT, .ref aS, .ref aF, .ref aX, .int (iI pr), .int (iI tk), .int (iI tol), .int (iI hou)])), (aG, .inr (4, [.ref aGn, .ref aGw, .ref aGs, .int (iI kn)])), (aGn, .inl (gI g, 200, .inl (ar nd))), (aGw, .inl (gI g, 200, .inl (ar wk))), (aGs, .inl (gI g, 200, .inl (ar sk))), (aT, .inr (9, [.ref aTp, .ref aTt, .ref aTx, .ref aTy, .ref aE, .int (iI ld)]))] H := by rw [hH]; exact hP
  have hS : va_S A s.heap H locs := by rw [hH, hlo]; exact hS
  have goal_ : W p l e { frames := 8, cells := 2, slots := 12, locals := 135 } s m args below meth c H locs 0 0 Q9 (F0 m 0 ls []) := by
    clear hH hlo
    refine lv_aload_n hx hb dL_stop_0 rfl (lv_at hl 0 rfl) ?_
    refine lv_iload_n hx hb dL_stop_1 rfl (lv_at hl 1 rfl) ?_
    refine x_calliX (S := Unit) (SX := Unit) (wc := [(aR, .inr (11, [.ref aG, .ref aP, .ref aH, .ref aY, .ref aT, .ref aS, .ref aF, .ref aX, .int (iI pr), .int (iI tk), .int (iI tol), .int (iI hou)])), (aG, .inr (4, [.ref aGn, .ref aGw, .ref aGs, .int (iI kn)])), (aGn, .inl (gI g, 200, .inl (ar nd))), (aGw, .inl (gI g, 200, .inl (ar wk))), (aGs, .inl (gI g, 200, .inl (ar sk))), (aT, .inr (9, [.ref aTp, .ref aTt, .ref aTx, .ref aTy, .ref aE, .int (iI ld)]))]) (wr := []) hC hP hD hS hA [0, 1, 2, 3, 4, 5] [] [0, 1, 2, 3, 4, 5] rfl rfl (fun hpre => vx_runV (As := [.int (iI hrs)]) (rest := []) ⟨hx, hb, hml, hown, hts⟩ (c_X8_stop l hflags g H.size aR aG aP aH aY aT aS aF aX aGn aGw aGs aTp aTt aTx aTy aE pr tk tol hou kn ld hrs nd wk sk (by first | (first | assumption | omega | exact bnd_up (by assumption) (by omega) (by omega)) | fail "q8") (by first | (first | assumption | omega | exact bnd_up (by assumption) (by omega) (by omega)) | fail "q8") (by first | (first | assumption | omega | exact bnd_up (by assumption) (by omega) (by omega)) | fail "q8") (by first | (first | assumption | omega | exact bnd_up (by assumption) (by omega) (by omega)) | fail "q8") (by first | (first | assumption | omega | exact bnd_up (by assumption) (by omega) (by omega)) | fail "q8") (by first | (first | assumption | omega | exact bnd_up (by assumption) (by omega) (by omega)) | fail "q8") (by first | (first | assumption | omega | exact bnd_up (by assumption) (by omega) (by omega)) | fail "q8")) (cwV 1 hts gL_stop_X8_stop rfl rfl rfl (by decide +kernel) ⟨Nat.le_of_ble_eq_true rfl, Nat.le_of_ble_eq_true rfl⟩) ⟨xB_blind, va_recv hK hP (ci := 11) (q0 := 0) rfl rfl, hpre _⟩ rfl rfl hl.1 rfl (lv_room (Nat.le_of_ble_eq_true rfl)) dL_stop_2 ⟨Nat.le_of_ble_eq_true rfl, Nat.le_of_ble_eq_true rfl⟩) (fun (u : Unit) => [(aR, .inr (11, [.ref aG, .ref aP, .ref aH, .ref aY, .ref aT, .ref aS, .ref aF, .ref aX, .int (iI pr), .int (iI tk), .int (iI tol), .int (iI (hou + hrs))])), (aG, .inr (4, [.ref aGn, .ref aGw, .ref aGs, .int (iI kn)])), (aGn, .inl (gI g, 200, .inl (ar nd))), (aGw, .inl (gI g, 200, .inl (ar wk))), (aGs, .inl (gI g, 200, .inl (ar (sinkF kn sk ld (hrs * (mx 0 (gt0 kn nd ld - pr) * gt0 kn wk ld / 50)))))), (aT, .inr (9, [.ref aTp, .ref aTt, .ref aTx, .ref aTy, .ref aE, .int (iI ld)]))]) (fun (u : Unit) => ([(aR, .inr (11, [.ref aG, .ref aP, .ref aH, .ref aY, .ref aT, .ref aS, .ref aF, .ref aX, .int (iI pr), .int (iI tk), .int (iI tol), .int (iI hou)])), (aG, .inr (4, [.ref aGn, .ref aGw, .ref aGs, .int (iI kn)])), (aGn, .inl (gI g, 200, .inl (ar nd))), (aGw, .inl (gI g, 200, .inl (ar wk))), (aGs, .inl (gI g, 200, .inl (ar sk))), (aT, .inr (9, [.ref aTp, .ref aTt, .ref aTx, .ref aTy, .ref aE, .int (iI ld)]))] : va_W)) rfl rfl (by decide) (fun _ => rfl) (fun _ => rfl) rfl (fun E ce q9 u H locs hXP hPX hP hD hS hcell hv9 hcl => ?_) (fun u v_1 H locs hv_1 pv_1 hP hD hS => ?_)
    · skip
      have hP : va_P (gD g) vwCl [(aR, .inr (11, [.ref aG, .ref aP, .ref aH, .ref aY, .ref aT, .ref aS, .ref aF, .ref aX, .int (iI pr), .int (iI tk), .int (iI tol), .int (iI hou)])), (aG, .inr (4, [.ref aGn, .ref aGw, .ref aGs, .int (iI kn)])), (aGn, .inl (gI g, 200, .inl (ar nd))), (aGw, .inl (gI g, 200, .inl (ar wk))), (aGs, .inl (gI g, 200, .inl (ar sk))), (aT, .inr (9, [.ref aTp, .ref aTt, .ref aTx, .ref aTy, .ref aE, .int (iI ld)]))] H := hP
      have hD : va_D A [(aR, .inr (11, [.ref aG, .ref aP, .ref aH, .ref aY, .ref aT, .ref aS, .ref aF, .ref aX, .int (iI pr), .int (iI tk), .int (iI tol), .int (iI hou)])), (aG, .inr (4, [.ref aGn, .ref aGw, .ref aGs, .int (iI kn)])), (aGn, .inl (gI g, 200, .inl (ar nd))), (aGw, .inl (gI g, 200, .inl (ar wk))), (aGs, .inl (gI g, 200, .inl (ar sk))), (aT, .inr (9, [.ref aTp, .ref aTt, .ref aTx, .ref aTy, .ref aE, .int (iI ld)]))] := hD
      rcases hPX with ⟨hE, hp⟩ | ⟨hE, hp⟩
      · skip
        have hp : soT hou hrs = 1 := hp
        subst hE
        refine vx_catch (E := "java/lang/IllegalArgumentException") (name := "java/lang/IllegalArgumentException") hown [] ⟨0, 5, 6, 15⟩ [⟨0, 5, 10, 18⟩] (by rw [htab]; rfl) (fun z hz => by cases hz) (by decide) (by decide) (hts (.classLink RL 15 "java/lang/IllegalArgumentException") (List.mem_of_getElem? (i := 1) rfl)) (va_Nw.use rfl (hC.2.2.2.2.2.2.2.2.2.2.1 "java/lang/IllegalArgumentException" (List.mem_of_getElem? (i := 0) rfl))) hcell hv9 hcl ?_
        refine lv_astore_n (lv' := [(2, .ref q9), (0, .ref aR), (1, .int (iI hrs))]) hx hb dL_stop_6 rfl hl (by decide) rfl (fun ls hl => ?_)
        refine x_ldc (v := -900001) hx hb hown (hts (.constant RL 17 (-900001)) (List.mem_of_getElem? (i := 3) rfl)) (by decide) dL_stop_7 ?_
        have q_2 : (if soT hou hrs = 0 then (hou + hrs) else hou) = hou := by
          first
          | (
             first | rfl | (rw [if_pos (by omega)]) | (rw [if_neg (by omega)]) | (rw [if_pos (by omega)]; subst_vars; rfl))
          | fail "q9"
        have q_3 : (if soT hou hrs = 0 then (sinkF kn sk ld (hrs * (mx 0 (gt0 kn nd ld - pr) * gt0 kn wk ld / 50))) else sk) = sk := by
          first
          | (
             first | rfl | (rw [if_pos (by omega)]) | (rw [if_neg (by omega)]) | (rw [if_pos (by omega)]; subst_vars; rfl))
          | fail "q9"
        have hw_4 := (congr (congrArg (fun (z0 : Int) (z1 : Int → Int) => ([(aR, .inr (11, [.ref aG, .ref aP, .ref aH, .ref aY, .ref aT, .ref aS, .ref aF, .ref aX, .int (iI pr), .int (iI tk), .int (iI tol), .int (iI z0)])), (aG, .inr (4, [.ref aGn, .ref aGw, .ref aGs, .int (iI kn)])), (aGn, .inl (gI g, 200, .inl (ar nd))), (aGw, .inl (gI g, 200, .inl (ar wk))), (aGs, .inl (gI g, 200, .inl (ar z1))), (aT, .inr (9, [.ref aTp, .ref aTt, .ref aTx, .ref aTy, .ref aE, .int (iI ld)]))] : va_W)) q_2.symm) q_3.symm)
        rw [hQ9]
        exact x_iret hx hb hr hlocks hP hD hS (S := Unit) rfl dL_stop_9 () (by
            first
            | (
               first | (rw [if_pos (by omega)]; first | assumption | (subst_vars; rfl)) | (rw [if_neg (by omega)]; omega))
            | fail "q9") trivial hw_4 (Nat.le_of_ble_eq_true rfl) (Nat.le_of_ble_eq_true rfl)
      · skip
        have hp : soT hou hrs = 2 := hp
        subst hE
        refine vx_catch (E := "java/lang/IllegalStateException") (name := "java/lang/IllegalStateException") hown [⟨0, 5, 6, 15⟩] ⟨0, 5, 10, 18⟩ [] (by rw [htab]; rfl) (fun z hz => by rcases List.mem_cons.mp hz with rfl | hz; exact Or.inr ⟨by decide, "java/lang/IllegalArgumentException", (hts (.classLink RL 15 "java/lang/IllegalArgumentException") (List.mem_of_getElem? (i := 1) rfl)), hC.d.2.2.2.2.2.1 ("java/lang/IllegalStateException", "java/lang/IllegalArgumentException") (List.mem_of_getElem? (i := 5) (by decide +kernel))⟩; cases hz) (by decide) (by decide) (hts (.classLink RL 18 "java/lang/IllegalStateException") (List.mem_of_getElem? (i := 2) rfl)) (va_Nw.use rfl (hC.2.2.2.2.2.2.2.2.2.2.1 "java/lang/IllegalStateException" (List.mem_of_getElem? (i := 1) rfl))) hcell hv9 hcl ?_
        refine lv_astore_n (lv' := [(2, .ref q9), (0, .ref aR), (1, .int (iI hrs))]) hx hb dL_stop_10 rfl hl (by decide) rfl (fun ls hl => ?_)
        refine x_ldc (v := -900002) hx hb hown (hts (.constant RL 20 (-900002)) (List.mem_of_getElem? (i := 4) rfl)) (by decide) dL_stop_11 ?_
        have q_5 : (if soT hou hrs = 0 then (hou + hrs) else hou) = hou := by
          first
          | (
             first | rfl | (rw [if_pos (by omega)]) | (rw [if_neg (by omega)]) | (rw [if_pos (by omega)]; subst_vars; rfl))
          | fail "q9"
        have q_6 : (if soT hou hrs = 0 then (sinkF kn sk ld (hrs * (mx 0 (gt0 kn nd ld - pr) * gt0 kn wk ld / 50))) else sk) = sk := by
          first
          | (
             first | rfl | (rw [if_pos (by omega)]) | (rw [if_neg (by omega)]) | (rw [if_pos (by omega)]; subst_vars; rfl))
          | fail "q9"
        have hw_7 := (congr (congrArg (fun (z0 : Int) (z1 : Int → Int) => ([(aR, .inr (11, [.ref aG, .ref aP, .ref aH, .ref aY, .ref aT, .ref aS, .ref aF, .ref aX, .int (iI pr), .int (iI tk), .int (iI tol), .int (iI z0)])), (aG, .inr (4, [.ref aGn, .ref aGw, .ref aGs, .int (iI kn)])), (aGn, .inl (gI g, 200, .inl (ar nd))), (aGw, .inl (gI g, 200, .inl (ar wk))), (aGs, .inl (gI g, 200, .inl (ar z1))), (aT, .inr (9, [.ref aTp, .ref aTt, .ref aTx, .ref aTy, .ref aE, .int (iI ld)]))] : va_W)) q_5.symm) q_6.symm)
        rw [hQ9]
        exact x_iret hx hb hr hlocks hP hD hS (S := Unit) rfl dL_stop_13 () (by
            first
            | (
               first | (rw [if_pos (by omega)]; first | assumption | (subst_vars; rfl)) | (rw [if_neg (by omega)]; omega))
            | fail "q9") trivial hw_7 (Nat.le_of_ble_eq_true rfl) (Nat.le_of_ble_eq_true rfl)
    · skip
      have hP : va_P (gD g) vwCl [(aR, .inr (11, [.ref aG, .ref aP, .ref aH, .ref aY, .ref aT, .ref aS, .ref aF, .ref aX, .int (iI pr), .int (iI tk), .int (iI tol), .int (iI (hou + hrs))])), (aG, .inr (4, [.ref aGn, .ref aGw, .ref aGs, .int (iI kn)])), (aGn, .inl (gI g, 200, .inl (ar nd))), (aGw, .inl (gI g, 200, .inl (ar wk))), (aGs, .inl (gI g, 200, .inl (ar (sinkF kn sk ld (hrs * (mx 0 (gt0 kn nd ld - pr) * gt0 kn wk ld / 50)))))), (aT, .inr (9, [.ref aTp, .ref aTt, .ref aTx, .ref aTy, .ref aE, .int (iI ld)]))] H := hP
      have hD : va_D A [(aR, .inr (11, [.ref aG, .ref aP, .ref aH, .ref aY, .ref aT, .ref aS, .ref aF, .ref aX, .int (iI pr), .int (iI tk), .int (iI tol), .int (iI (hou + hrs))])), (aG, .inr (4, [.ref aGn, .ref aGw, .ref aGs, .int (iI kn)])), (aGn, .inl (gI g, 200, .inl (ar nd))), (aGw, .inl (gI g, 200, .inl (ar wk))), (aGs, .inl (gI g, 200, .inl (ar (sinkF kn sk ld (hrs * (mx 0 (gt0 kn nd ld - pr) * gt0 kn wk ld / 50)))))), (aT, .inr (9, [.ref aTp, .ref aTt, .ref aTx, .ref aTy, .ref aE, .int (iI ld)]))] := hD
      have hv_1 : v_1 = hou + hrs := hv_1
      obtain ⟨tv_1, pv_1⟩ := pv_1
      have tv_1 : soT hou hrs = 0 := tv_1
      have q_8 : (if soT hou hrs = 0 then (hou + hrs) else hou) = (hou + hrs) := by
        first
        | (
           first | rfl | (rw [if_pos (by omega)]) | (rw [if_neg (by omega)]) | (rw [if_pos (by omega)]; subst_vars; rfl))
        | fail "q9"
      have q_9 : (if soT hou hrs = 0 then (sinkF kn sk ld (hrs * (mx 0 (gt0 kn nd ld - pr) * gt0 kn wk ld / 50))) else sk) = (sinkF kn sk ld (hrs * (mx 0 (gt0 kn nd ld - pr) * gt0 kn wk ld / 50))) := by
        first
        | (
           first | rfl | (rw [if_pos (by omega)]) | (rw [if_neg (by omega)]) | (rw [if_pos (by omega)]; subst_vars; rfl))
        | fail "q9"
      have hw_10 := (congr (congrArg (fun (z0 : Int) (z1 : Int → Int) => ([(aR, .inr (11, [.ref aG, .ref aP, .ref aH, .ref aY, .ref aT, .ref aS, .ref aF, .ref aX, .int (iI pr), .int (iI tk), .int (iI tol), .int (iI z0)])), (aG, .inr (4, [.ref aGn, .ref aGw, .ref aGs, .int (iI kn)])), (aGn, .inl (gI g, 200, .inl (ar nd))), (aGw, .inl (gI g, 200, .inl (ar wk))), (aGs, .inl (gI g, 200, .inl (ar z1))), (aT, .inr (9, [.ref aTp, .ref aTt, .ref aTx, .ref aTy, .ref aE, .int (iI ld)]))] : va_W)) q_8.symm) q_9.symm)
      rw [hQ9]
      exact x_iret hx hb hr hlocks hP hD hS (S := Unit) rfl dL_stop_5 () (by
          first
          | (
             first | (rw [if_pos (by omega)]; first | assumption | (subst_vars; rfl)) | (rw [if_neg (by omega)]; omega))
          | fail "q9") trivial hw_10 (Nat.le_of_ble_eq_true rfl) (Nat.le_of_ble_eq_true rfl)
  rw [hH, hlo, hQ9] at goal_
  exact goal_

set_option maxHeartbeats 4000000 in
set_option maxRecDepth 100000 in
theorem c_L_positionOf (l : Launch) (hflags : l.stackTraces = false) (g : xg) (sz : Nat) (aR aG aP aH aY aT aS aF aX aTp aTt aTx aTy aE : Nat) (pr tk tol hou ld rg : Int) (tp : Int → Int) (hld : 0 ≤ ld ∧ ld ≤ 200) (hb_tp : bnd tp 0 7) (hr_rg : iR rg) : Met l yL_positionOf wsL_positionOf { frames := 8, cells := 1, slots := 6, locals := 134 } (va_Pc [.ref aR, .int (iI rg)] (xB g [(aR, .inr (11, [.ref aG, .ref aP, .ref aH, .ref aY, .ref aT, .ref aS, .ref aF, .ref aX, .int (iI pr), .int (iI tk), .int (iI tol), .int (iI hou)])), (aT, .inr (9, [.ref aTp, .ref aTt, .ref aTx, .ref aTy, .ref aE, .int (iI ld)])), (aTp, .inl (gI g, 200, .inl (ar tp)))] sz)) (va_Qi (fun r u => r = iI ((fun (u : Unit) => (if rgT ld rg = 0 then gt0 ld tp rg else -900000 - rgT ld rg)) u) ∧ (fun (u : Unit) => True) u) (fun u t => xE g (va_A [(aR, .inr (11, [.ref aG, .ref aP, .ref aH, .ref aY, .ref aT, .ref aS, .ref aF, .ref aX, .int (iI pr), .int (iI tk), .int (iI tol), .int (iI hou)])), (aT, .inr (9, [.ref aTp, .ref aTt, .ref aTx, .ref aTy, .ref aE, .int (iI ld)])), (aTp, .inl (gI g, 200, .inl (ar tp)))] sz) ((fun (u : Unit) => [(aR, .inr (11, [.ref aG, .ref aP, .ref aH, .ref aY, .ref aT, .ref aS, .ref aF, .ref aX, .int (iI pr), .int (iI tk), .int (iI tol), .int (iI hou)])), (aT, .inr (9, [.ref aTp, .ref aTt, .ref aTx, .ref aTy, .ref aE, .int (iI ld)])), (aTp, .inl (gI g, 200, .inl (ar tp)))]) u) t) (va_A [(aR, .inr (11, [.ref aG, .ref aP, .ref aH, .ref aY, .ref aT, .ref aS, .ref aF, .ref aX, .int (iI pr), .int (iI tk), .int (iI tol), .int (iI hou)])), (aT, .inr (9, [.ref aTp, .ref aTt, .ref aTx, .ref aTy, .ref aE, .int (iI ld)])), (aTp, .inl (gI g, 200, .inl (ar tp)))] sz)) 1 6 (va_A [(aR, .inr (11, [.ref aG, .ref aP, .ref aH, .ref aY, .ref aT, .ref aS, .ref aF, .ref aX, .int (iI pr), .int (iI tk), .int (iI tol), .int (iI hou)])), (aT, .inr (9, [.ref aTp, .ref aTt, .ref aTx, .ref aTy, .ref aE, .int (iI ld)])), (aTp, .inl (gI g, 200, .inl (ar tp)))] sz) := by
  refine x_enterH (y := yL_positionOf) (ws := wsL_positionOf) (g := g) (sz := sz) (av := [.ref aR, .int (iI rg)]) (WS := [(aR, .inr (11, [.ref aG, .ref aP, .ref aH, .ref aY, .ref aT, .ref aS, .ref aF, .ref aX, .int (iI pr), .int (iI tk), .int (iI tol), .int (iI hou)])), (aT, .inr (9, [.ref aTp, .ref aTt, .ref aTx, .ref aTy, .ref aE, .int (iI ld)])), (aTp, .inl (gI g, 200, .inl (ar tp)))]) (cc := cL_positionOf) (maxL := 3) (ret := some .int) (Qc := (fun A => (va_Qi (fun r u => r = iI ((fun (u : Unit) => (if rgT ld rg = 0 then gt0 ld tp rg else -900000 - rgT ld rg)) u) ∧ (fun (u : Unit) => True) u) (fun u t => xE g A ((fun (u : Unit) => [(aR, .inr (11, [.ref aG, .ref aP, .ref aH, .ref aY, .ref aT, .ref aS, .ref aF, .ref aX, .int (iI pr), .int (iI tk), .int (iI tol), .int (iI hou)])), (aT, .inr (9, [.ref aTp, .ref aTt, .ref aTx, .ref aTy, .ref aE, .int (iI ld)])), (aTp, .inl (gI g, 200, .inl (ar tp)))]) u) t) A))) (by decide) rfl (Nat.le_of_ble_eq_true rfl) ?_
  intro p e s m args below meth c A ls hx hb hr hml hown hts hlocks htab hC hP hD hS hA hl
  have hK := hC.1
  have hown : s.vm.findClass RL = some m.cls := hown
  have hl : lv_has ls 3 [(0, .ref aR), (1, .int (iI rg))] := hl
  obtain ⟨H, hH⟩ : ∃ z, z = s.heap := ⟨_, rfl⟩
  obtain ⟨locs, hlo⟩ : ∃ z : List Loc, z = [] := ⟨_, rfl⟩
  obtain ⟨Q9, hQ9⟩ : ∃ z, z = MQ below (va_Qi (fun r u => r = iI ((fun (u : Unit) => (if rgT ld rg = 0 then gt0 ld tp rg else -900000 - rgT ld rg)) u) ∧ (fun (u : Unit) => True) u) (fun u t => xE g A ((fun (u : Unit) => [(aR, .inr (11, [.ref aG, .ref aP, .ref aH, .ref aY, .ref aT, .ref aS, .ref aF, .ref aX, .int (iI pr), .int (iI tk), .int (iI tol), .int (iI hou)])), (aT, .inr (9, [.ref aTp, .ref aTt, .ref aTx, .ref aTy, .ref aE, .int (iI ld)])), (aTp, .inl (gI g, 200, .inl (ar tp)))]) u) t) A) args s 1 6 A := ⟨_, rfl⟩
  have hP : va_P (gD g) vwCl [(aR, .inr (11, [.ref aG, .ref aP, .ref aH, .ref aY, .ref aT, .ref aS, .ref aF, .ref aX, .int (iI pr), .int (iI tk), .int (iI tol), .int (iI hou)])), (aT, .inr (9, [.ref aTp, .ref aTt, .ref aTx, .ref aTy, .ref aE, .int (iI ld)])), (aTp, .inl (gI g, 200, .inl (ar tp)))] H := by rw [hH]; exact hP
  have hS : va_S A s.heap H locs := by rw [hH, hlo]; exact hS
  have goal_ : W p l e { frames := 8, cells := 1, slots := 6, locals := 134 } s m args below meth c H locs 0 0 Q9 (F0 m 0 ls []) := by
    clear hH hlo
    refine lv_aload_n hx hb dL_positionOf_0 rfl (lv_at hl 0 rfl) ?_
    refine lv_iload_n hx hb dL_positionOf_1 rfl (lv_at hl 1 rfl) ?_
    refine x_calliX (S := Unit) (SX := Unit) (wc := [(aR, .inr (11, [.ref aG, .ref aP, .ref aH, .ref aY, .ref aT, .ref aS, .ref aF, .ref aX, .int (iI pr), .int (iI tk), .int (iI tol), .int (iI hou)])), (aT, .inr (9, [.ref aTp, .ref aTt, .ref aTx, .ref aTy, .ref aE, .int (iI ld)])), (aTp, .inl (gI g, 200, .inl (ar tp)))]) (wr := []) hC hP hD hS hA [0, 1, 2] [] [0, 1, 2] rfl rfl (fun hpre => vx_runV (As := [.int (iI rg)]) (rest := []) ⟨hx, hb, hml, hown, hts⟩ (c_X8_positionOf l hflags g H.size aR aG aP aH aY aT aS aF aX aTp aTt aTx aTy aE pr tk tol hou ld rg tp (by first | (first | assumption | omega | exact bnd_up (by assumption) (by omega) (by omega)) | fail "q8") (by first | (first | assumption | omega | exact bnd_up (by assumption) (by omega) (by omega)) | fail "q8") (by first | (first | assumption | omega | exact bnd_up (by assumption) (by omega) (by omega)) | fail "q8")) (cwV 1 hts gL_positionOf_X8_positionOf rfl rfl rfl (by decide +kernel) ⟨Nat.le_of_ble_eq_true rfl, Nat.le_of_ble_eq_true rfl⟩) ⟨xB_blind, va_recv hK hP (ci := 11) (q0 := 0) rfl rfl, hpre _⟩ rfl rfl hl.1 rfl (lv_room (Nat.le_of_ble_eq_true rfl)) dL_positionOf_2 ⟨Nat.le_of_ble_eq_true rfl, Nat.le_of_ble_eq_true rfl⟩) (fun (u : Unit) => [(aR, .inr (11, [.ref aG, .ref aP, .ref aH, .ref aY, .ref aT, .ref aS, .ref aF, .ref aX, .int (iI pr), .int (iI tk), .int (iI tol), .int (iI hou)])), (aT, .inr (9, [.ref aTp, .ref aTt, .ref aTx, .ref aTy, .ref aE, .int (iI ld)])), (aTp, .inl (gI g, 200, .inl (ar tp)))]) (fun (u : Unit) => ([(aR, .inr (11, [.ref aG, .ref aP, .ref aH, .ref aY, .ref aT, .ref aS, .ref aF, .ref aX, .int (iI pr), .int (iI tk), .int (iI tol), .int (iI hou)])), (aT, .inr (9, [.ref aTp, .ref aTt, .ref aTx, .ref aTy, .ref aE, .int (iI ld)])), (aTp, .inl (gI g, 200, .inl (ar tp)))] : va_W)) rfl rfl (by decide) (fun _ => rfl) (fun _ => rfl) rfl (fun E ce q9 u H locs hXP hPX hP hD hS hcell hv9 hcl => ?_) (fun u v_1 H locs hv_1 pv_1 hP hD hS => ?_)
    · skip
      have hP : va_P (gD g) vwCl [(aR, .inr (11, [.ref aG, .ref aP, .ref aH, .ref aY, .ref aT, .ref aS, .ref aF, .ref aX, .int (iI pr), .int (iI tk), .int (iI tol), .int (iI hou)])), (aT, .inr (9, [.ref aTp, .ref aTt, .ref aTx, .ref aTy, .ref aE, .int (iI ld)])), (aTp, .inl (gI g, 200, .inl (ar tp)))] H := hP
      have hD : va_D A [(aR, .inr (11, [.ref aG, .ref aP, .ref aH, .ref aY, .ref aT, .ref aS, .ref aF, .ref aX, .int (iI pr), .int (iI tk), .int (iI tol), .int (iI hou)])), (aT, .inr (9, [.ref aTp, .ref aTt, .ref aTx, .ref aTy, .ref aE, .int (iI ld)])), (aTp, .inl (gI g, 200, .inl (ar tp)))] := hD
      obtain ⟨hE, hp⟩ := hPX
      have hp : rgT ld rg = 1 := hp
      subst hE
      refine vx_catch (E := "java/lang/IndexOutOfBoundsException") (name := "java/lang/IndexOutOfBoundsException") hown [] ⟨0, 5, 6, 28⟩ [] (by rw [htab]; rfl) (fun z hz => by cases hz) (by decide) (by decide) (hts (.classLink RL 28 "java/lang/IndexOutOfBoundsException") (List.mem_of_getElem? (i := 1) rfl)) (va_Nw.use rfl (hC.2.2.2.2.2.2.2.2.2.2.1 "java/lang/IndexOutOfBoundsException" (List.mem_of_getElem? (i := 2) rfl))) hcell hv9 hcl ?_
      refine lv_astore_n (lv' := [(2, .ref q9), (0, .ref aR), (1, .int (iI rg))]) hx hb dL_positionOf_6 rfl hl (by decide) rfl (fun ls hl => ?_)
      refine x_ldc (v := -900001) hx hb hown (hts (.constant RL 17 (-900001)) (List.mem_of_getElem? (i := 2) rfl)) (by decide) dL_positionOf_7 ?_
      rw [hQ9]
      exact x_iret hx hb hr hlocks hP hD hS (S := Unit) rfl dL_positionOf_9 () (by
          first
          | (
             first | (rw [if_pos (by omega)]; first | assumption | (subst_vars; rfl)) | (rw [if_neg (by omega)]; omega))
          | fail "q9") trivial rfl (Nat.le_of_ble_eq_true rfl) (Nat.le_of_ble_eq_true rfl)
    · skip
      have hP : va_P (gD g) vwCl [(aR, .inr (11, [.ref aG, .ref aP, .ref aH, .ref aY, .ref aT, .ref aS, .ref aF, .ref aX, .int (iI pr), .int (iI tk), .int (iI tol), .int (iI hou)])), (aT, .inr (9, [.ref aTp, .ref aTt, .ref aTx, .ref aTy, .ref aE, .int (iI ld)])), (aTp, .inl (gI g, 200, .inl (ar tp)))] H := hP
      have hD : va_D A [(aR, .inr (11, [.ref aG, .ref aP, .ref aH, .ref aY, .ref aT, .ref aS, .ref aF, .ref aX, .int (iI pr), .int (iI tk), .int (iI tol), .int (iI hou)])), (aT, .inr (9, [.ref aTp, .ref aTt, .ref aTx, .ref aTy, .ref aE, .int (iI ld)])), (aTp, .inl (gI g, 200, .inl (ar tp)))] := hD
      have hv_1 : v_1 = gt0 ld tp rg := hv_1
      obtain ⟨tv_1, pv_1⟩ := pv_1
      have tv_1 : rgT ld rg = 0 := tv_1
      rw [hQ9]
      exact x_iret hx hb hr hlocks hP hD hS (S := Unit) rfl dL_positionOf_5 () (by
          first
          | (
             first | (rw [if_pos (by omega)]; first | assumption | (subst_vars; rfl)) | (rw [if_neg (by omega)]; omega))
          | fail "q9") trivial rfl (Nat.le_of_ble_eq_true rfl) (Nat.le_of_ble_eq_true rfl)
  rw [hH, hlo, hQ9] at goal_
  exact goal_

set_option maxHeartbeats 4000000 in
set_option maxRecDepth 100000 in
theorem c_L_taperOf (l : Launch) (hflags : l.stackTraces = false) (g : xg) (sz : Nat) (aR aG aP aH aY aT aS aF aX aTp aTt aTx aTy aE : Nat) (pr tk tol hou ld rg : Int) (tt : Int → Int) (hld : 0 ≤ ld ∧ ld ≤ 200) (hb_tt : bnd tt 0 9) (hr_rg : iR rg) : Met l yL_taperOf wsL_taperOf { frames := 8, cells := 1, slots := 6, locals := 134 } (va_Pc [.ref aR, .int (iI rg)] (xB g [(aR, .inr (11, [.ref aG, .ref aP, .ref aH, .ref aY, .ref aT, .ref aS, .ref aF, .ref aX, .int (iI pr), .int (iI tk), .int (iI tol), .int (iI hou)])), (aT, .inr (9, [.ref aTp, .ref aTt, .ref aTx, .ref aTy, .ref aE, .int (iI ld)])), (aTt, .inl (gI g, 200, .inl (ar tt)))] sz)) (va_Qi (fun r u => r = iI ((fun (u : Unit) => (if rgT ld rg = 0 then gt0 ld tt rg else -900000 - rgT ld rg)) u) ∧ (fun (u : Unit) => True) u) (fun u t => xE g (va_A [(aR, .inr (11, [.ref aG, .ref aP, .ref aH, .ref aY, .ref aT, .ref aS, .ref aF, .ref aX, .int (iI pr), .int (iI tk), .int (iI tol), .int (iI hou)])), (aT, .inr (9, [.ref aTp, .ref aTt, .ref aTx, .ref aTy, .ref aE, .int (iI ld)])), (aTt, .inl (gI g, 200, .inl (ar tt)))] sz) ((fun (u : Unit) => [(aR, .inr (11, [.ref aG, .ref aP, .ref aH, .ref aY, .ref aT, .ref aS, .ref aF, .ref aX, .int (iI pr), .int (iI tk), .int (iI tol), .int (iI hou)])), (aT, .inr (9, [.ref aTp, .ref aTt, .ref aTx, .ref aTy, .ref aE, .int (iI ld)])), (aTt, .inl (gI g, 200, .inl (ar tt)))]) u) t) (va_A [(aR, .inr (11, [.ref aG, .ref aP, .ref aH, .ref aY, .ref aT, .ref aS, .ref aF, .ref aX, .int (iI pr), .int (iI tk), .int (iI tol), .int (iI hou)])), (aT, .inr (9, [.ref aTp, .ref aTt, .ref aTx, .ref aTy, .ref aE, .int (iI ld)])), (aTt, .inl (gI g, 200, .inl (ar tt)))] sz)) 1 6 (va_A [(aR, .inr (11, [.ref aG, .ref aP, .ref aH, .ref aY, .ref aT, .ref aS, .ref aF, .ref aX, .int (iI pr), .int (iI tk), .int (iI tol), .int (iI hou)])), (aT, .inr (9, [.ref aTp, .ref aTt, .ref aTx, .ref aTy, .ref aE, .int (iI ld)])), (aTt, .inl (gI g, 200, .inl (ar tt)))] sz) := by
  refine x_enterH (y := yL_taperOf) (ws := wsL_taperOf) (g := g) (sz := sz) (av := [.ref aR, .int (iI rg)]) (WS := [(aR, .inr (11, [.ref aG, .ref aP, .ref aH, .ref aY, .ref aT, .ref aS, .ref aF, .ref aX, .int (iI pr), .int (iI tk), .int (iI tol), .int (iI hou)])), (aT, .inr (9, [.ref aTp, .ref aTt, .ref aTx, .ref aTy, .ref aE, .int (iI ld)])), (aTt, .inl (gI g, 200, .inl (ar tt)))]) (cc := cL_taperOf) (maxL := 3) (ret := some .int) (Qc := (fun A => (va_Qi (fun r u => r = iI ((fun (u : Unit) => (if rgT ld rg = 0 then gt0 ld tt rg else -900000 - rgT ld rg)) u) ∧ (fun (u : Unit) => True) u) (fun u t => xE g A ((fun (u : Unit) => [(aR, .inr (11, [.ref aG, .ref aP, .ref aH, .ref aY, .ref aT, .ref aS, .ref aF, .ref aX, .int (iI pr), .int (iI tk), .int (iI tol), .int (iI hou)])), (aT, .inr (9, [.ref aTp, .ref aTt, .ref aTx, .ref aTy, .ref aE, .int (iI ld)])), (aTt, .inl (gI g, 200, .inl (ar tt)))]) u) t) A))) (by decide) rfl (Nat.le_of_ble_eq_true rfl) ?_
  intro p e s m args below meth c A ls hx hb hr hml hown hts hlocks htab hC hP hD hS hA hl
  have hK := hC.1
  have hown : s.vm.findClass RL = some m.cls := hown
  have hl : lv_has ls 3 [(0, .ref aR), (1, .int (iI rg))] := hl
  obtain ⟨H, hH⟩ : ∃ z, z = s.heap := ⟨_, rfl⟩
  obtain ⟨locs, hlo⟩ : ∃ z : List Loc, z = [] := ⟨_, rfl⟩
  obtain ⟨Q9, hQ9⟩ : ∃ z, z = MQ below (va_Qi (fun r u => r = iI ((fun (u : Unit) => (if rgT ld rg = 0 then gt0 ld tt rg else -900000 - rgT ld rg)) u) ∧ (fun (u : Unit) => True) u) (fun u t => xE g A ((fun (u : Unit) => [(aR, .inr (11, [.ref aG, .ref aP, .ref aH, .ref aY, .ref aT, .ref aS, .ref aF, .ref aX, .int (iI pr), .int (iI tk), .int (iI tol), .int (iI hou)])), (aT, .inr (9, [.ref aTp, .ref aTt, .ref aTx, .ref aTy, .ref aE, .int (iI ld)])), (aTt, .inl (gI g, 200, .inl (ar tt)))]) u) t) A) args s 1 6 A := ⟨_, rfl⟩
  have hP : va_P (gD g) vwCl [(aR, .inr (11, [.ref aG, .ref aP, .ref aH, .ref aY, .ref aT, .ref aS, .ref aF, .ref aX, .int (iI pr), .int (iI tk), .int (iI tol), .int (iI hou)])), (aT, .inr (9, [.ref aTp, .ref aTt, .ref aTx, .ref aTy, .ref aE, .int (iI ld)])), (aTt, .inl (gI g, 200, .inl (ar tt)))] H := by rw [hH]; exact hP
  have hS : va_S A s.heap H locs := by rw [hH, hlo]; exact hS
  have goal_ : W p l e { frames := 8, cells := 1, slots := 6, locals := 134 } s m args below meth c H locs 0 0 Q9 (F0 m 0 ls []) := by
    clear hH hlo
    refine lv_aload_n hx hb dL_taperOf_0 rfl (lv_at hl 0 rfl) ?_
    refine lv_iload_n hx hb dL_taperOf_1 rfl (lv_at hl 1 rfl) ?_
    refine x_calliX (S := Unit) (SX := Unit) (wc := [(aR, .inr (11, [.ref aG, .ref aP, .ref aH, .ref aY, .ref aT, .ref aS, .ref aF, .ref aX, .int (iI pr), .int (iI tk), .int (iI tol), .int (iI hou)])), (aT, .inr (9, [.ref aTp, .ref aTt, .ref aTx, .ref aTy, .ref aE, .int (iI ld)])), (aTt, .inl (gI g, 200, .inl (ar tt)))]) (wr := []) hC hP hD hS hA [0, 1, 2] [] [0, 1, 2] rfl rfl (fun hpre => vx_runV (As := [.int (iI rg)]) (rest := []) ⟨hx, hb, hml, hown, hts⟩ (c_X8_taperOf l hflags g H.size aR aG aP aH aY aT aS aF aX aTp aTt aTx aTy aE pr tk tol hou ld rg tt (by first | (first | assumption | omega | exact bnd_up (by assumption) (by omega) (by omega)) | fail "q8") (by first | (first | assumption | omega | exact bnd_up (by assumption) (by omega) (by omega)) | fail "q8") (by first | (first | assumption | omega | exact bnd_up (by assumption) (by omega) (by omega)) | fail "q8")) (cwV 1 hts gL_taperOf_X8_taperOf rfl rfl rfl (by decide +kernel) ⟨Nat.le_of_ble_eq_true rfl, Nat.le_of_ble_eq_true rfl⟩) ⟨xB_blind, va_recv hK hP (ci := 11) (q0 := 0) rfl rfl, hpre _⟩ rfl rfl hl.1 rfl (lv_room (Nat.le_of_ble_eq_true rfl)) dL_taperOf_2 ⟨Nat.le_of_ble_eq_true rfl, Nat.le_of_ble_eq_true rfl⟩) (fun (u : Unit) => [(aR, .inr (11, [.ref aG, .ref aP, .ref aH, .ref aY, .ref aT, .ref aS, .ref aF, .ref aX, .int (iI pr), .int (iI tk), .int (iI tol), .int (iI hou)])), (aT, .inr (9, [.ref aTp, .ref aTt, .ref aTx, .ref aTy, .ref aE, .int (iI ld)])), (aTt, .inl (gI g, 200, .inl (ar tt)))]) (fun (u : Unit) => ([(aR, .inr (11, [.ref aG, .ref aP, .ref aH, .ref aY, .ref aT, .ref aS, .ref aF, .ref aX, .int (iI pr), .int (iI tk), .int (iI tol), .int (iI hou)])), (aT, .inr (9, [.ref aTp, .ref aTt, .ref aTx, .ref aTy, .ref aE, .int (iI ld)])), (aTt, .inl (gI g, 200, .inl (ar tt)))] : va_W)) rfl rfl (by decide) (fun _ => rfl) (fun _ => rfl) rfl (fun E ce q9 u H locs hXP hPX hP hD hS hcell hv9 hcl => ?_) (fun u v_1 H locs hv_1 pv_1 hP hD hS => ?_)
    · skip
      have hP : va_P (gD g) vwCl [(aR, .inr (11, [.ref aG, .ref aP, .ref aH, .ref aY, .ref aT, .ref aS, .ref aF, .ref aX, .int (iI pr), .int (iI tk), .int (iI tol), .int (iI hou)])), (aT, .inr (9, [.ref aTp, .ref aTt, .ref aTx, .ref aTy, .ref aE, .int (iI ld)])), (aTt, .inl (gI g, 200, .inl (ar tt)))] H := hP
      have hD : va_D A [(aR, .inr (11, [.ref aG, .ref aP, .ref aH, .ref aY, .ref aT, .ref aS, .ref aF, .ref aX, .int (iI pr), .int (iI tk), .int (iI tol), .int (iI hou)])), (aT, .inr (9, [.ref aTp, .ref aTt, .ref aTx, .ref aTy, .ref aE, .int (iI ld)])), (aTt, .inl (gI g, 200, .inl (ar tt)))] := hD
      obtain ⟨hE, hp⟩ := hPX
      have hp : rgT ld rg = 1 := hp
      subst hE
      refine vx_catch (E := "java/lang/IndexOutOfBoundsException") (name := "java/lang/IndexOutOfBoundsException") hown [] ⟨0, 5, 6, 28⟩ [] (by rw [htab]; rfl) (fun z hz => by cases hz) (by decide) (by decide) (hts (.classLink RL 28 "java/lang/IndexOutOfBoundsException") (List.mem_of_getElem? (i := 1) rfl)) (va_Nw.use rfl (hC.2.2.2.2.2.2.2.2.2.2.1 "java/lang/IndexOutOfBoundsException" (List.mem_of_getElem? (i := 2) rfl))) hcell hv9 hcl ?_
      refine lv_astore_n (lv' := [(2, .ref q9), (0, .ref aR), (1, .int (iI rg))]) hx hb dL_taperOf_6 rfl hl (by decide) rfl (fun ls hl => ?_)
      refine x_ldc (v := -900001) hx hb hown (hts (.constant RL 17 (-900001)) (List.mem_of_getElem? (i := 2) rfl)) (by decide) dL_taperOf_7 ?_
      rw [hQ9]
      exact x_iret hx hb hr hlocks hP hD hS (S := Unit) rfl dL_taperOf_9 () (by
          first
          | (
             first | (rw [if_pos (by omega)]; first | assumption | (subst_vars; rfl)) | (rw [if_neg (by omega)]; omega))
          | fail "q9") trivial rfl (Nat.le_of_ble_eq_true rfl) (Nat.le_of_ble_eq_true rfl)
    · skip
      have hP : va_P (gD g) vwCl [(aR, .inr (11, [.ref aG, .ref aP, .ref aH, .ref aY, .ref aT, .ref aS, .ref aF, .ref aX, .int (iI pr), .int (iI tk), .int (iI tol), .int (iI hou)])), (aT, .inr (9, [.ref aTp, .ref aTt, .ref aTx, .ref aTy, .ref aE, .int (iI ld)])), (aTt, .inl (gI g, 200, .inl (ar tt)))] H := hP
      have hD : va_D A [(aR, .inr (11, [.ref aG, .ref aP, .ref aH, .ref aY, .ref aT, .ref aS, .ref aF, .ref aX, .int (iI pr), .int (iI tk), .int (iI tol), .int (iI hou)])), (aT, .inr (9, [.ref aTp, .ref aTt, .ref aTx, .ref aTy, .ref aE, .int (iI ld)])), (aTt, .inl (gI g, 200, .inl (ar tt)))] := hD
      have hv_1 : v_1 = gt0 ld tt rg := hv_1
      obtain ⟨tv_1, pv_1⟩ := pv_1
      have tv_1 : rgT ld rg = 0 := tv_1
      rw [hQ9]
      exact x_iret hx hb hr hlocks hP hD hS (S := Unit) rfl dL_taperOf_5 () (by
          first
          | (
             first | (rw [if_pos (by omega)]; first | assumption | (subst_vars; rfl)) | (rw [if_neg (by omega)]; omega))
          | fail "q9") trivial rfl (Nat.le_of_ble_eq_true rfl) (Nat.le_of_ble_eq_true rfl)
  rw [hH, hlo, hQ9] at goal_
  exact goal_

set_option maxHeartbeats 4000000 in
set_option maxRecDepth 100000 in
theorem c_L_xAfter (l : Launch) (hflags : l.stackTraces = false) (g : xg) (sz : Nat) (aR aG aP aH aY aT aS aF aX aTp aTt aTx aTy aE : Nat) (pr tk tol hou ld rg : Int) (kx : Int → Int) (hld : 0 ≤ ld ∧ ld ≤ 200) (hb_kx : bnd kx (-400000) 400000) (hr_rg : iR rg) : Met l yL_xAfter wsL_xAfter { frames := 8, cells := 1, slots := 6, locals := 134 } (va_Pc [.ref aR, .int (iI rg)] (xB g [(aR, .inr (11, [.ref aG, .ref aP, .ref aH, .ref aY, .ref aT, .ref aS, .ref aF, .ref aX, .int (iI pr), .int (iI tk), .int (iI tol), .int (iI hou)])), (aT, .inr (9, [.ref aTp, .ref aTt, .ref aTx, .ref aTy, .ref aE, .int (iI ld)])), (aTx, .inl (gI g, 200, .inl (ar kx)))] sz)) (va_Qi (fun r u => r = iI ((fun (u : Unit) => (if rgT ld rg = 0 then gt0 ld kx rg else -900000 - rgT ld rg)) u) ∧ (fun (u : Unit) => True) u) (fun u t => xE g (va_A [(aR, .inr (11, [.ref aG, .ref aP, .ref aH, .ref aY, .ref aT, .ref aS, .ref aF, .ref aX, .int (iI pr), .int (iI tk), .int (iI tol), .int (iI hou)])), (aT, .inr (9, [.ref aTp, .ref aTt, .ref aTx, .ref aTy, .ref aE, .int (iI ld)])), (aTx, .inl (gI g, 200, .inl (ar kx)))] sz) ((fun (u : Unit) => [(aR, .inr (11, [.ref aG, .ref aP, .ref aH, .ref aY, .ref aT, .ref aS, .ref aF, .ref aX, .int (iI pr), .int (iI tk), .int (iI tol), .int (iI hou)])), (aT, .inr (9, [.ref aTp, .ref aTt, .ref aTx, .ref aTy, .ref aE, .int (iI ld)])), (aTx, .inl (gI g, 200, .inl (ar kx)))]) u) t) (va_A [(aR, .inr (11, [.ref aG, .ref aP, .ref aH, .ref aY, .ref aT, .ref aS, .ref aF, .ref aX, .int (iI pr), .int (iI tk), .int (iI tol), .int (iI hou)])), (aT, .inr (9, [.ref aTp, .ref aTt, .ref aTx, .ref aTy, .ref aE, .int (iI ld)])), (aTx, .inl (gI g, 200, .inl (ar kx)))] sz)) 1 6 (va_A [(aR, .inr (11, [.ref aG, .ref aP, .ref aH, .ref aY, .ref aT, .ref aS, .ref aF, .ref aX, .int (iI pr), .int (iI tk), .int (iI tol), .int (iI hou)])), (aT, .inr (9, [.ref aTp, .ref aTt, .ref aTx, .ref aTy, .ref aE, .int (iI ld)])), (aTx, .inl (gI g, 200, .inl (ar kx)))] sz) := by
  refine x_enterH (y := yL_xAfter) (ws := wsL_xAfter) (g := g) (sz := sz) (av := [.ref aR, .int (iI rg)]) (WS := [(aR, .inr (11, [.ref aG, .ref aP, .ref aH, .ref aY, .ref aT, .ref aS, .ref aF, .ref aX, .int (iI pr), .int (iI tk), .int (iI tol), .int (iI hou)])), (aT, .inr (9, [.ref aTp, .ref aTt, .ref aTx, .ref aTy, .ref aE, .int (iI ld)])), (aTx, .inl (gI g, 200, .inl (ar kx)))]) (cc := cL_xAfter) (maxL := 3) (ret := some .int) (Qc := (fun A => (va_Qi (fun r u => r = iI ((fun (u : Unit) => (if rgT ld rg = 0 then gt0 ld kx rg else -900000 - rgT ld rg)) u) ∧ (fun (u : Unit) => True) u) (fun u t => xE g A ((fun (u : Unit) => [(aR, .inr (11, [.ref aG, .ref aP, .ref aH, .ref aY, .ref aT, .ref aS, .ref aF, .ref aX, .int (iI pr), .int (iI tk), .int (iI tol), .int (iI hou)])), (aT, .inr (9, [.ref aTp, .ref aTt, .ref aTx, .ref aTy, .ref aE, .int (iI ld)])), (aTx, .inl (gI g, 200, .inl (ar kx)))]) u) t) A))) (by decide) rfl (Nat.le_of_ble_eq_true rfl) ?_
  intro p e s m args below meth c A ls hx hb hr hml hown hts hlocks htab hC hP hD hS hA hl
  have hK := hC.1
  have hown : s.vm.findClass RL = some m.cls := hown
  have hl : lv_has ls 3 [(0, .ref aR), (1, .int (iI rg))] := hl
  obtain ⟨H, hH⟩ : ∃ z, z = s.heap := ⟨_, rfl⟩
  obtain ⟨locs, hlo⟩ : ∃ z : List Loc, z = [] := ⟨_, rfl⟩
  obtain ⟨Q9, hQ9⟩ : ∃ z, z = MQ below (va_Qi (fun r u => r = iI ((fun (u : Unit) => (if rgT ld rg = 0 then gt0 ld kx rg else -900000 - rgT ld rg)) u) ∧ (fun (u : Unit) => True) u) (fun u t => xE g A ((fun (u : Unit) => [(aR, .inr (11, [.ref aG, .ref aP, .ref aH, .ref aY, .ref aT, .ref aS, .ref aF, .ref aX, .int (iI pr), .int (iI tk), .int (iI tol), .int (iI hou)])), (aT, .inr (9, [.ref aTp, .ref aTt, .ref aTx, .ref aTy, .ref aE, .int (iI ld)])), (aTx, .inl (gI g, 200, .inl (ar kx)))]) u) t) A) args s 1 6 A := ⟨_, rfl⟩
  have hP : va_P (gD g) vwCl [(aR, .inr (11, [.ref aG, .ref aP, .ref aH, .ref aY, .ref aT, .ref aS, .ref aF, .ref aX, .int (iI pr), .int (iI tk), .int (iI tol), .int (iI hou)])), (aT, .inr (9, [.ref aTp, .ref aTt, .ref aTx, .ref aTy, .ref aE, .int (iI ld)])), (aTx, .inl (gI g, 200, .inl (ar kx)))] H := by rw [hH]; exact hP
  have hS : va_S A s.heap H locs := by rw [hH, hlo]; exact hS
  have goal_ : W p l e { frames := 8, cells := 1, slots := 6, locals := 134 } s m args below meth c H locs 0 0 Q9 (F0 m 0 ls []) := by
    clear hH hlo
    refine lv_aload_n hx hb dL_xAfter_0 rfl (lv_at hl 0 rfl) ?_
    refine lv_iload_n hx hb dL_xAfter_1 rfl (lv_at hl 1 rfl) ?_
    refine x_calliX (S := Unit) (SX := Unit) (wc := [(aR, .inr (11, [.ref aG, .ref aP, .ref aH, .ref aY, .ref aT, .ref aS, .ref aF, .ref aX, .int (iI pr), .int (iI tk), .int (iI tol), .int (iI hou)])), (aT, .inr (9, [.ref aTp, .ref aTt, .ref aTx, .ref aTy, .ref aE, .int (iI ld)])), (aTx, .inl (gI g, 200, .inl (ar kx)))]) (wr := []) hC hP hD hS hA [0, 1, 2] [] [0, 1, 2] rfl rfl (fun hpre => vx_runV (As := [.int (iI rg)]) (rest := []) ⟨hx, hb, hml, hown, hts⟩ (c_X8_xAfter l hflags g H.size aR aG aP aH aY aT aS aF aX aTp aTt aTx aTy aE pr tk tol hou ld rg kx (by first | (first | assumption | omega | exact bnd_up (by assumption) (by omega) (by omega)) | fail "q8") (by first | (first | assumption | omega | exact bnd_up (by assumption) (by omega) (by omega)) | fail "q8") (by first | (first | assumption | omega | exact bnd_up (by assumption) (by omega) (by omega)) | fail "q8")) (cwV 1 hts gL_xAfter_X8_xAfter rfl rfl rfl (by decide +kernel) ⟨Nat.le_of_ble_eq_true rfl, Nat.le_of_ble_eq_true rfl⟩) ⟨xB_blind, va_recv hK hP (ci := 11) (q0 := 0) rfl rfl, hpre _⟩ rfl rfl hl.1 rfl (lv_room (Nat.le_of_ble_eq_true rfl)) dL_xAfter_2 ⟨Nat.le_of_ble_eq_true rfl, Nat.le_of_ble_eq_true rfl⟩) (fun (u : Unit) => [(aR, .inr (11, [.ref aG, .ref aP, .ref aH, .ref aY, .ref aT, .ref aS, .ref aF, .ref aX, .int (iI pr), .int (iI tk), .int (iI tol), .int (iI hou)])), (aT, .inr (9, [.ref aTp, .ref aTt, .ref aTx, .ref aTy, .ref aE, .int (iI ld)])), (aTx, .inl (gI g, 200, .inl (ar kx)))]) (fun (u : Unit) => ([(aR, .inr (11, [.ref aG, .ref aP, .ref aH, .ref aY, .ref aT, .ref aS, .ref aF, .ref aX, .int (iI pr), .int (iI tk), .int (iI tol), .int (iI hou)])), (aT, .inr (9, [.ref aTp, .ref aTt, .ref aTx, .ref aTy, .ref aE, .int (iI ld)])), (aTx, .inl (gI g, 200, .inl (ar kx)))] : va_W)) rfl rfl (by decide) (fun _ => rfl) (fun _ => rfl) rfl (fun E ce q9 u H locs hXP hPX hP hD hS hcell hv9 hcl => ?_) (fun u v_1 H locs hv_1 pv_1 hP hD hS => ?_)
    · skip
      have hP : va_P (gD g) vwCl [(aR, .inr (11, [.ref aG, .ref aP, .ref aH, .ref aY, .ref aT, .ref aS, .ref aF, .ref aX, .int (iI pr), .int (iI tk), .int (iI tol), .int (iI hou)])), (aT, .inr (9, [.ref aTp, .ref aTt, .ref aTx, .ref aTy, .ref aE, .int (iI ld)])), (aTx, .inl (gI g, 200, .inl (ar kx)))] H := hP
      have hD : va_D A [(aR, .inr (11, [.ref aG, .ref aP, .ref aH, .ref aY, .ref aT, .ref aS, .ref aF, .ref aX, .int (iI pr), .int (iI tk), .int (iI tol), .int (iI hou)])), (aT, .inr (9, [.ref aTp, .ref aTt, .ref aTx, .ref aTy, .ref aE, .int (iI ld)])), (aTx, .inl (gI g, 200, .inl (ar kx)))] := hD
      obtain ⟨hE, hp⟩ := hPX
      have hp : rgT ld rg = 1 := hp
      subst hE
      refine vx_catch (E := "java/lang/IndexOutOfBoundsException") (name := "java/lang/IndexOutOfBoundsException") hown [] ⟨0, 5, 6, 28⟩ [] (by rw [htab]; rfl) (fun z hz => by cases hz) (by decide) (by decide) (hts (.classLink RL 28 "java/lang/IndexOutOfBoundsException") (List.mem_of_getElem? (i := 1) rfl)) (va_Nw.use rfl (hC.2.2.2.2.2.2.2.2.2.2.1 "java/lang/IndexOutOfBoundsException" (List.mem_of_getElem? (i := 2) rfl))) hcell hv9 hcl ?_
      refine lv_astore_n (lv' := [(2, .ref q9), (0, .ref aR), (1, .int (iI rg))]) hx hb dL_xAfter_6 rfl hl (by decide) rfl (fun ls hl => ?_)
      refine x_ldc (v := -900001) hx hb hown (hts (.constant RL 17 (-900001)) (List.mem_of_getElem? (i := 2) rfl)) (by decide) dL_xAfter_7 ?_
      rw [hQ9]
      exact x_iret hx hb hr hlocks hP hD hS (S := Unit) rfl dL_xAfter_9 () (by
          first
          | (
             first | (rw [if_pos (by omega)]; first | assumption | (subst_vars; rfl)) | (rw [if_neg (by omega)]; omega))
          | fail "q9") trivial rfl (Nat.le_of_ble_eq_true rfl) (Nat.le_of_ble_eq_true rfl)
    · skip
      have hP : va_P (gD g) vwCl [(aR, .inr (11, [.ref aG, .ref aP, .ref aH, .ref aY, .ref aT, .ref aS, .ref aF, .ref aX, .int (iI pr), .int (iI tk), .int (iI tol), .int (iI hou)])), (aT, .inr (9, [.ref aTp, .ref aTt, .ref aTx, .ref aTy, .ref aE, .int (iI ld)])), (aTx, .inl (gI g, 200, .inl (ar kx)))] H := hP
      have hD : va_D A [(aR, .inr (11, [.ref aG, .ref aP, .ref aH, .ref aY, .ref aT, .ref aS, .ref aF, .ref aX, .int (iI pr), .int (iI tk), .int (iI tol), .int (iI hou)])), (aT, .inr (9, [.ref aTp, .ref aTt, .ref aTx, .ref aTy, .ref aE, .int (iI ld)])), (aTx, .inl (gI g, 200, .inl (ar kx)))] := hD
      have hv_1 : v_1 = gt0 ld kx rg := hv_1
      obtain ⟨tv_1, pv_1⟩ := pv_1
      have tv_1 : rgT ld rg = 0 := tv_1
      rw [hQ9]
      exact x_iret hx hb hr hlocks hP hD hS (S := Unit) rfl dL_xAfter_5 () (by
          first
          | (
             first | (rw [if_pos (by omega)]; first | assumption | (subst_vars; rfl)) | (rw [if_neg (by omega)]; omega))
          | fail "q9") trivial rfl (Nat.le_of_ble_eq_true rfl) (Nat.le_of_ble_eq_true rfl)
  rw [hH, hlo, hQ9] at goal_
  exact goal_

set_option maxHeartbeats 4000000 in
set_option maxRecDepth 100000 in
theorem c_L_yAfter (l : Launch) (hflags : l.stackTraces = false) (g : xg) (sz : Nat) (aR aG aP aH aY aT aS aF aX aTp aTt aTx aTy aE : Nat) (pr tk tol hou ld rg : Int) (ky : Int → Int) (hld : 0 ≤ ld ∧ ld ≤ 200) (hb_ky : bnd ky (-400000) 400000) (hr_rg : iR rg) : Met l yL_yAfter wsL_yAfter { frames := 8, cells := 1, slots := 6, locals := 134 } (va_Pc [.ref aR, .int (iI rg)] (xB g [(aR, .inr (11, [.ref aG, .ref aP, .ref aH, .ref aY, .ref aT, .ref aS, .ref aF, .ref aX, .int (iI pr), .int (iI tk), .int (iI tol), .int (iI hou)])), (aT, .inr (9, [.ref aTp, .ref aTt, .ref aTx, .ref aTy, .ref aE, .int (iI ld)])), (aTy, .inl (gI g, 200, .inl (ar ky)))] sz)) (va_Qi (fun r u => r = iI ((fun (u : Unit) => (if rgT ld rg = 0 then gt0 ld ky rg else -900000 - rgT ld rg)) u) ∧ (fun (u : Unit) => True) u) (fun u t => xE g (va_A [(aR, .inr (11, [.ref aG, .ref aP, .ref aH, .ref aY, .ref aT, .ref aS, .ref aF, .ref aX, .int (iI pr), .int (iI tk), .int (iI tol), .int (iI hou)])), (aT, .inr (9, [.ref aTp, .ref aTt, .ref aTx, .ref aTy, .ref aE, .int (iI ld)])), (aTy, .inl (gI g, 200, .inl (ar ky)))] sz) ((fun (u : Unit) => [(aR, .inr (11, [.ref aG, .ref aP, .ref aH, .ref aY, .ref aT, .ref aS, .ref aF, .ref aX, .int (iI pr), .int (iI tk), .int (iI tol), .int (iI hou)])), (aT, .inr (9, [.ref aTp, .ref aTt, .ref aTx, .ref aTy, .ref aE, .int (iI ld)])), (aTy, .inl (gI g, 200, .inl (ar ky)))]) u) t) (va_A [(aR, .inr (11, [.ref aG, .ref aP, .ref aH, .ref aY, .ref aT, .ref aS, .ref aF, .ref aX, .int (iI pr), .int (iI tk), .int (iI tol), .int (iI hou)])), (aT, .inr (9, [.ref aTp, .ref aTt, .ref aTx, .ref aTy, .ref aE, .int (iI ld)])), (aTy, .inl (gI g, 200, .inl (ar ky)))] sz)) 1 6 (va_A [(aR, .inr (11, [.ref aG, .ref aP, .ref aH, .ref aY, .ref aT, .ref aS, .ref aF, .ref aX, .int (iI pr), .int (iI tk), .int (iI tol), .int (iI hou)])), (aT, .inr (9, [.ref aTp, .ref aTt, .ref aTx, .ref aTy, .ref aE, .int (iI ld)])), (aTy, .inl (gI g, 200, .inl (ar ky)))] sz) := by
  refine x_enterH (y := yL_yAfter) (ws := wsL_yAfter) (g := g) (sz := sz) (av := [.ref aR, .int (iI rg)]) (WS := [(aR, .inr (11, [.ref aG, .ref aP, .ref aH, .ref aY, .ref aT, .ref aS, .ref aF, .ref aX, .int (iI pr), .int (iI tk), .int (iI tol), .int (iI hou)])), (aT, .inr (9, [.ref aTp, .ref aTt, .ref aTx, .ref aTy, .ref aE, .int (iI ld)])), (aTy, .inl (gI g, 200, .inl (ar ky)))]) (cc := cL_yAfter) (maxL := 3) (ret := some .int) (Qc := (fun A => (va_Qi (fun r u => r = iI ((fun (u : Unit) => (if rgT ld rg = 0 then gt0 ld ky rg else -900000 - rgT ld rg)) u) ∧ (fun (u : Unit) => True) u) (fun u t => xE g A ((fun (u : Unit) => [(aR, .inr (11, [.ref aG, .ref aP, .ref aH, .ref aY, .ref aT, .ref aS, .ref aF, .ref aX, .int (iI pr), .int (iI tk), .int (iI tol), .int (iI hou)])), (aT, .inr (9, [.ref aTp, .ref aTt, .ref aTx, .ref aTy, .ref aE, .int (iI ld)])), (aTy, .inl (gI g, 200, .inl (ar ky)))]) u) t) A))) (by decide) rfl (Nat.le_of_ble_eq_true rfl) ?_
  intro p e s m args below meth c A ls hx hb hr hml hown hts hlocks htab hC hP hD hS hA hl
  have hK := hC.1
  have hown : s.vm.findClass RL = some m.cls := hown
  have hl : lv_has ls 3 [(0, .ref aR), (1, .int (iI rg))] := hl
  obtain ⟨H, hH⟩ : ∃ z, z = s.heap := ⟨_, rfl⟩
  obtain ⟨locs, hlo⟩ : ∃ z : List Loc, z = [] := ⟨_, rfl⟩
  obtain ⟨Q9, hQ9⟩ : ∃ z, z = MQ below (va_Qi (fun r u => r = iI ((fun (u : Unit) => (if rgT ld rg = 0 then gt0 ld ky rg else -900000 - rgT ld rg)) u) ∧ (fun (u : Unit) => True) u) (fun u t => xE g A ((fun (u : Unit) => [(aR, .inr (11, [.ref aG, .ref aP, .ref aH, .ref aY, .ref aT, .ref aS, .ref aF, .ref aX, .int (iI pr), .int (iI tk), .int (iI tol), .int (iI hou)])), (aT, .inr (9, [.ref aTp, .ref aTt, .ref aTx, .ref aTy, .ref aE, .int (iI ld)])), (aTy, .inl (gI g, 200, .inl (ar ky)))]) u) t) A) args s 1 6 A := ⟨_, rfl⟩
  have hP : va_P (gD g) vwCl [(aR, .inr (11, [.ref aG, .ref aP, .ref aH, .ref aY, .ref aT, .ref aS, .ref aF, .ref aX, .int (iI pr), .int (iI tk), .int (iI tol), .int (iI hou)])), (aT, .inr (9, [.ref aTp, .ref aTt, .ref aTx, .ref aTy, .ref aE, .int (iI ld)])), (aTy, .inl (gI g, 200, .inl (ar ky)))] H := by rw [hH]; exact hP
  have hS : va_S A s.heap H locs := by rw [hH, hlo]; exact hS
  have goal_ : W p l e { frames := 8, cells := 1, slots := 6, locals := 134 } s m args below meth c H locs 0 0 Q9 (F0 m 0 ls []) := by
    clear hH hlo
    refine lv_aload_n hx hb dL_yAfter_0 rfl (lv_at hl 0 rfl) ?_
    refine lv_iload_n hx hb dL_yAfter_1 rfl (lv_at hl 1 rfl) ?_
    refine x_calliX (S := Unit) (SX := Unit) (wc := [(aR, .inr (11, [.ref aG, .ref aP, .ref aH, .ref aY, .ref aT, .ref aS, .ref aF, .ref aX, .int (iI pr), .int (iI tk), .int (iI tol), .int (iI hou)])), (aT, .inr (9, [.ref aTp, .ref aTt, .ref aTx, .ref aTy, .ref aE, .int (iI ld)])), (aTy, .inl (gI g, 200, .inl (ar ky)))]) (wr := []) hC hP hD hS hA [0, 1, 2] [] [0, 1, 2] rfl rfl (fun hpre => vx_runV (As := [.int (iI rg)]) (rest := []) ⟨hx, hb, hml, hown, hts⟩ (c_X8_yAfter l hflags g H.size aR aG aP aH aY aT aS aF aX aTp aTt aTx aTy aE pr tk tol hou ld rg ky (by first | (first | assumption | omega | exact bnd_up (by assumption) (by omega) (by omega)) | fail "q8") (by first | (first | assumption | omega | exact bnd_up (by assumption) (by omega) (by omega)) | fail "q8") (by first | (first | assumption | omega | exact bnd_up (by assumption) (by omega) (by omega)) | fail "q8")) (cwV 1 hts gL_yAfter_X8_yAfter rfl rfl rfl (by decide +kernel) ⟨Nat.le_of_ble_eq_true rfl, Nat.le_of_ble_eq_true rfl⟩) ⟨xB_blind, va_recv hK hP (ci := 11) (q0 := 0) rfl rfl, hpre _⟩ rfl rfl hl.1 rfl (lv_room (Nat.le_of_ble_eq_true rfl)) dL_yAfter_2 ⟨Nat.le_of_ble_eq_true rfl, Nat.le_of_ble_eq_true rfl⟩) (fun (u : Unit) => [(aR, .inr (11, [.ref aG, .ref aP, .ref aH, .ref aY, .ref aT, .ref aS, .ref aF, .ref aX, .int (iI pr), .int (iI tk), .int (iI tol), .int (iI hou)])), (aT, .inr (9, [.ref aTp, .ref aTt, .ref aTx, .ref aTy, .ref aE, .int (iI ld)])), (aTy, .inl (gI g, 200, .inl (ar ky)))]) (fun (u : Unit) => ([(aR, .inr (11, [.ref aG, .ref aP, .ref aH, .ref aY, .ref aT, .ref aS, .ref aF, .ref aX, .int (iI pr), .int (iI tk), .int (iI tol), .int (iI hou)])), (aT, .inr (9, [.ref aTp, .ref aTt, .ref aTx, .ref aTy, .ref aE, .int (iI ld)])), (aTy, .inl (gI g, 200, .inl (ar ky)))] : va_W)) rfl rfl (by decide) (fun _ => rfl) (fun _ => rfl) rfl (fun E ce q9 u H locs hXP hPX hP hD hS hcell hv9 hcl => ?_) (fun u v_1 H locs hv_1 pv_1 hP hD hS => ?_)
    · skip
      have hP : va_P (gD g) vwCl [(aR, .inr (11, [.ref aG, .ref aP, .ref aH, .ref aY, .ref aT, .ref aS, .ref aF, .ref aX, .int (iI pr), .int (iI tk), .int (iI tol), .int (iI hou)])), (aT, .inr (9, [.ref aTp, .ref aTt, .ref aTx, .ref aTy, .ref aE, .int (iI ld)])), (aTy, .inl (gI g, 200, .inl (ar ky)))] H := hP
      have hD : va_D A [(aR, .inr (11, [.ref aG, .ref aP, .ref aH, .ref aY, .ref aT, .ref aS, .ref aF, .ref aX, .int (iI pr), .int (iI tk), .int (iI tol), .int (iI hou)])), (aT, .inr (9, [.ref aTp, .ref aTt, .ref aTx, .ref aTy, .ref aE, .int (iI ld)])), (aTy, .inl (gI g, 200, .inl (ar ky)))] := hD
      obtain ⟨hE, hp⟩ := hPX
      have hp : rgT ld rg = 1 := hp
      subst hE
      refine vx_catch (E := "java/lang/IndexOutOfBoundsException") (name := "java/lang/IndexOutOfBoundsException") hown [] ⟨0, 5, 6, 28⟩ [] (by rw [htab]; rfl) (fun z hz => by cases hz) (by decide) (by decide) (hts (.classLink RL 28 "java/lang/IndexOutOfBoundsException") (List.mem_of_getElem? (i := 1) rfl)) (va_Nw.use rfl (hC.2.2.2.2.2.2.2.2.2.2.1 "java/lang/IndexOutOfBoundsException" (List.mem_of_getElem? (i := 2) rfl))) hcell hv9 hcl ?_
      refine lv_astore_n (lv' := [(2, .ref q9), (0, .ref aR), (1, .int (iI rg))]) hx hb dL_yAfter_6 rfl hl (by decide) rfl (fun ls hl => ?_)
      refine x_ldc (v := -900001) hx hb hown (hts (.constant RL 17 (-900001)) (List.mem_of_getElem? (i := 2) rfl)) (by decide) dL_yAfter_7 ?_
      rw [hQ9]
      exact x_iret hx hb hr hlocks hP hD hS (S := Unit) rfl dL_yAfter_9 () (by
          first
          | (
             first | (rw [if_pos (by omega)]; first | assumption | (subst_vars; rfl)) | (rw [if_neg (by omega)]; omega))
          | fail "q9") trivial rfl (Nat.le_of_ble_eq_true rfl) (Nat.le_of_ble_eq_true rfl)
    · skip
      have hP : va_P (gD g) vwCl [(aR, .inr (11, [.ref aG, .ref aP, .ref aH, .ref aY, .ref aT, .ref aS, .ref aF, .ref aX, .int (iI pr), .int (iI tk), .int (iI tol), .int (iI hou)])), (aT, .inr (9, [.ref aTp, .ref aTt, .ref aTx, .ref aTy, .ref aE, .int (iI ld)])), (aTy, .inl (gI g, 200, .inl (ar ky)))] H := hP
      have hD : va_D A [(aR, .inr (11, [.ref aG, .ref aP, .ref aH, .ref aY, .ref aT, .ref aS, .ref aF, .ref aX, .int (iI pr), .int (iI tk), .int (iI tol), .int (iI hou)])), (aT, .inr (9, [.ref aTp, .ref aTt, .ref aTx, .ref aTy, .ref aE, .int (iI ld)])), (aTy, .inl (gI g, 200, .inl (ar ky)))] := hD
      have hv_1 : v_1 = gt0 ld ky rg := hv_1
      obtain ⟨tv_1, pv_1⟩ := pv_1
      have tv_1 : rgT ld rg = 0 := tv_1
      rw [hQ9]
      exact x_iret hx hb hr hlocks hP hD hS (S := Unit) rfl dL_yAfter_5 () (by
          first
          | (
             first | (rw [if_pos (by omega)]; first | assumption | (subst_vars; rfl)) | (rw [if_neg (by omega)]; omega))
          | fail "q9") trivial rfl (Nat.le_of_ble_eq_true rfl) (Nat.le_of_ble_eq_true rfl)
  rw [hH, hlo, hQ9] at goal_
  exact goal_

set_option maxHeartbeats 4000000 in
set_option maxRecDepth 100000 in
theorem c_L_xAnew (l : Launch) (hflags : l.stackTraces = false) (g : xg) (sz : Nat) (aR aG aP aH aY aT aS aF aX aTp aTt aTx aTy aE : Nat) (pr tk tol hou ld fx fy fhx fhy rg : Int) (tp tt : Int → Int) (hld : 0 ≤ ld ∧ ld ≤ 200) (hb_tp : bnd tp 0 7) (hb_tt : bnd tt 0 9) (hr_rg : iR rg) : Met l yL_xAnew wsL_xAnew { frames := 8, cells := 1, slots := 6, locals := 134 } (va_Pc [.ref aR, .int (iI rg)] (xB g [(aR, .inr (11, [.ref aG, .ref aP, .ref aH, .ref aY, .ref aT, .ref aS, .ref aF, .ref aX, .int (iI pr), .int (iI tk), .int (iI tol), .int (iI hou)])), (aT, .inr (9, [.ref aTp, .ref aTt, .ref aTx, .ref aTy, .ref aE, .int (iI ld)])), (aTp, .inl (gI g, 200, .inl (ar tp))), (aTt, .inl (gI g, 200, .inl (ar tt))), (aF, .inr (3, [.int (iI fx), .int (iI fy), .int (iI fhx), .int (iI fhy)]))] sz)) (va_Qi (fun r u => r = iI ((fun (u : Int × Int × Int × Int) => (if rgT ld rg = 0 then lnO tt tp toSide (rg + 1) else -900000 - rgT ld rg)) u) ∧ (fun (u : Int × Int × Int × Int) => True) u) (fun u t => xE g (va_A [(aR, .inr (11, [.ref aG, .ref aP, .ref aH, .ref aY, .ref aT, .ref aS, .ref aF, .ref aX, .int (iI pr), .int (iI tk), .int (iI tol), .int (iI hou)])), (aT, .inr (9, [.ref aTp, .ref aTt, .ref aTx, .ref aTy, .ref aE, .int (iI ld)])), (aTp, .inl (gI g, 200, .inl (ar tp))), (aTt, .inl (gI g, 200, .inl (ar tt))), (aF, .inr (3, [.int (iI fx), .int (iI fy), .int (iI fhx), .int (iI fhy)]))] sz) ((fun (u : Int × Int × Int × Int) => [(aR, .inr (11, [.ref aG, .ref aP, .ref aH, .ref aY, .ref aT, .ref aS, .ref aF, .ref aX, .int (iI pr), .int (iI tk), .int (iI tol), .int (iI hou)])), (aT, .inr (9, [.ref aTp, .ref aTt, .ref aTx, .ref aTy, .ref aE, .int (iI ld)])), (aTp, .inl (gI g, 200, .inl (ar tp))), (aTt, .inl (gI g, 200, .inl (ar tt))), (aF, .inr (3, [.int (iI u.1), .int (iI u.2.1), .int (iI u.2.2.1), .int (iI u.2.2.2)]))]) u) t) (va_A [(aR, .inr (11, [.ref aG, .ref aP, .ref aH, .ref aY, .ref aT, .ref aS, .ref aF, .ref aX, .int (iI pr), .int (iI tk), .int (iI tol), .int (iI hou)])), (aT, .inr (9, [.ref aTp, .ref aTt, .ref aTx, .ref aTy, .ref aE, .int (iI ld)])), (aTp, .inl (gI g, 200, .inl (ar tp))), (aTt, .inl (gI g, 200, .inl (ar tt))), (aF, .inr (3, [.int (iI fx), .int (iI fy), .int (iI fhx), .int (iI fhy)]))] sz)) 1 6 (va_A [(aR, .inr (11, [.ref aG, .ref aP, .ref aH, .ref aY, .ref aT, .ref aS, .ref aF, .ref aX, .int (iI pr), .int (iI tk), .int (iI tol), .int (iI hou)])), (aT, .inr (9, [.ref aTp, .ref aTt, .ref aTx, .ref aTy, .ref aE, .int (iI ld)])), (aTp, .inl (gI g, 200, .inl (ar tp))), (aTt, .inl (gI g, 200, .inl (ar tt))), (aF, .inr (3, [.int (iI fx), .int (iI fy), .int (iI fhx), .int (iI fhy)]))] sz) := by
  refine x_enterH (y := yL_xAnew) (ws := wsL_xAnew) (g := g) (sz := sz) (av := [.ref aR, .int (iI rg)]) (WS := [(aR, .inr (11, [.ref aG, .ref aP, .ref aH, .ref aY, .ref aT, .ref aS, .ref aF, .ref aX, .int (iI pr), .int (iI tk), .int (iI tol), .int (iI hou)])), (aT, .inr (9, [.ref aTp, .ref aTt, .ref aTx, .ref aTy, .ref aE, .int (iI ld)])), (aTp, .inl (gI g, 200, .inl (ar tp))), (aTt, .inl (gI g, 200, .inl (ar tt))), (aF, .inr (3, [.int (iI fx), .int (iI fy), .int (iI fhx), .int (iI fhy)]))]) (cc := cL_xAnew) (maxL := 3) (ret := some .int) (Qc := (fun A => (va_Qi (fun r u => r = iI ((fun (u : Int × Int × Int × Int) => (if rgT ld rg = 0 then lnO tt tp toSide (rg + 1) else -900000 - rgT ld rg)) u) ∧ (fun (u : Int × Int × Int × Int) => True) u) (fun u t => xE g A ((fun (u : Int × Int × Int × Int) => [(aR, .inr (11, [.ref aG, .ref aP, .ref aH, .ref aY, .ref aT, .ref aS, .ref aF, .ref aX, .int (iI pr), .int (iI tk), .int (iI tol), .int (iI hou)])), (aT, .inr (9, [.ref aTp, .ref aTt, .ref aTx, .ref aTy, .ref aE, .int (iI ld)])), (aTp, .inl (gI g, 200, .inl (ar tp))), (aTt, .inl (gI g, 200, .inl (ar tt))), (aF, .inr (3, [.int (iI u.1), .int (iI u.2.1), .int (iI u.2.2.1), .int (iI u.2.2.2)]))]) u) t) A))) (by decide) rfl (Nat.le_of_ble_eq_true rfl) ?_
  intro p e s m args below meth c A ls hx hb hr hml hown hts hlocks htab hC hP hD hS hA hl
  have hK := hC.1
  have hown : s.vm.findClass RL = some m.cls := hown
  have hl : lv_has ls 3 [(0, .ref aR), (1, .int (iI rg))] := hl
  obtain ⟨H, hH⟩ : ∃ z, z = s.heap := ⟨_, rfl⟩
  obtain ⟨locs, hlo⟩ : ∃ z : List Loc, z = [] := ⟨_, rfl⟩
  obtain ⟨Q9, hQ9⟩ : ∃ z, z = MQ below (va_Qi (fun r u => r = iI ((fun (u : Int × Int × Int × Int) => (if rgT ld rg = 0 then lnO tt tp toSide (rg + 1) else -900000 - rgT ld rg)) u) ∧ (fun (u : Int × Int × Int × Int) => True) u) (fun u t => xE g A ((fun (u : Int × Int × Int × Int) => [(aR, .inr (11, [.ref aG, .ref aP, .ref aH, .ref aY, .ref aT, .ref aS, .ref aF, .ref aX, .int (iI pr), .int (iI tk), .int (iI tol), .int (iI hou)])), (aT, .inr (9, [.ref aTp, .ref aTt, .ref aTx, .ref aTy, .ref aE, .int (iI ld)])), (aTp, .inl (gI g, 200, .inl (ar tp))), (aTt, .inl (gI g, 200, .inl (ar tt))), (aF, .inr (3, [.int (iI u.1), .int (iI u.2.1), .int (iI u.2.2.1), .int (iI u.2.2.2)]))]) u) t) A) args s 1 6 A := ⟨_, rfl⟩
  have hP : va_P (gD g) vwCl [(aR, .inr (11, [.ref aG, .ref aP, .ref aH, .ref aY, .ref aT, .ref aS, .ref aF, .ref aX, .int (iI pr), .int (iI tk), .int (iI tol), .int (iI hou)])), (aT, .inr (9, [.ref aTp, .ref aTt, .ref aTx, .ref aTy, .ref aE, .int (iI ld)])), (aTp, .inl (gI g, 200, .inl (ar tp))), (aTt, .inl (gI g, 200, .inl (ar tt))), (aF, .inr (3, [.int (iI fx), .int (iI fy), .int (iI fhx), .int (iI fhy)]))] H := by rw [hH]; exact hP
  have hS : va_S A s.heap H locs := by rw [hH, hlo]; exact hS
  have goal_ : W p l e { frames := 8, cells := 1, slots := 6, locals := 134 } s m args below meth c H locs 0 0 Q9 (F0 m 0 ls []) := by
    clear hH hlo
    refine lv_aload_n hx hb dL_xAnew_0 rfl (lv_at hl 0 rfl) ?_
    refine lv_iload_n hx hb dL_xAnew_1 rfl (lv_at hl 1 rfl) ?_
    refine x_calliX (S := Int × Int × Int × Int) (SX := Unit) (wc := [(aR, .inr (11, [.ref aG, .ref aP, .ref aH, .ref aY, .ref aT, .ref aS, .ref aF, .ref aX, .int (iI pr), .int (iI tk), .int (iI tol), .int (iI hou)])), (aT, .inr (9, [.ref aTp, .ref aTt, .ref aTx, .ref aTy, .ref aE, .int (iI ld)])), (aTp, .inl (gI g, 200, .inl (ar tp))), (aTt, .inl (gI g, 200, .inl (ar tt))), (aF, .inr (3, [.int (iI fx), .int (iI fy), .int (iI fhx), .int (iI fhy)]))]) (wr := []) hC hP hD hS hA [0, 1, 2, 3, 4] [] [0, 1, 2, 3, 4] rfl rfl (fun hpre => vx_runV (As := [.int (iI rg)]) (rest := []) ⟨hx, hb, hml, hown, hts⟩ (c_X8_xAnew l hflags g H.size aR aG aP aH aY aT aS aF aX aTp aTt aTx aTy aE pr tk tol hou ld fx fy fhx fhy rg tp tt (by first | (first | assumption | omega | exact bnd_up (by assumption) (by omega) (by omega)) | fail "q8") (by first | (first | assumption | omega | exact bnd_up (by assumption) (by omega) (by omega)) | fail "q8") (by first | (first | assumption | omega | exact bnd_up (by assumption) (by omega) (by omega)) | fail "q8") (by first | (first | assumption | omega | exact bnd_up (by assumption) (by omega) (by omega)) | fail "q8")) (cwV 1 hts gL_xAnew_X8_xAnew rfl rfl rfl (by decide +kernel) ⟨Nat.le_of_ble_eq_true rfl, Nat.le_of_ble_eq_true rfl⟩) ⟨xB_blind, va_recv hK hP (ci := 11) (q0 := 0) rfl rfl, hpre _⟩ rfl rfl hl.1 rfl (lv_room (Nat.le_of_ble_eq_true rfl)) dL_xAnew_2 ⟨Nat.le_of_ble_eq_true rfl, Nat.le_of_ble_eq_true rfl⟩) (fun (u : Int × Int × Int × Int) => [(aR, .inr (11, [.ref aG, .ref aP, .ref aH, .ref aY, .ref aT, .ref aS, .ref aF, .ref aX, .int (iI pr), .int (iI tk), .int (iI tol), .int (iI hou)])), (aT, .inr (9, [.ref aTp, .ref aTt, .ref aTx, .ref aTy, .ref aE, .int (iI ld)])), (aTp, .inl (gI g, 200, .inl (ar tp))), (aTt, .inl (gI g, 200, .inl (ar tt))), (aF, .inr (3, [.int (iI u.1), .int (iI u.2.1), .int (iI u.2.2.1), .int (iI u.2.2.2)]))]) (fun (u : Unit) => ([(aR, .inr (11, [.ref aG, .ref aP, .ref aH, .ref aY, .ref aT, .ref aS, .ref aF, .ref aX, .int (iI pr), .int (iI tk), .int (iI tol), .int (iI hou)])), (aT, .inr (9, [.ref aTp, .ref aTt, .ref aTx, .ref aTy, .ref aE, .int (iI ld)])), (aTp, .inl (gI g, 200, .inl (ar tp))), (aTt, .inl (gI g, 200, .inl (ar tt))), (aF, .inr (3, [.int (iI fx), .int (iI fy), .int (iI fhx), .int (iI fhy)]))] : va_W)) rfl rfl (by decide) (fun _ => rfl) (fun _ => rfl) rfl (fun E ce q9 u H locs hXP hPX hP hD hS hcell hv9 hcl => ?_) (fun u v_5 H locs hv_5 pv_5 hP hD hS => ?_)
    · skip
      have hP : va_P (gD g) vwCl [(aR, .inr (11, [.ref aG, .ref aP, .ref aH, .ref aY, .ref aT, .ref aS, .ref aF, .ref aX, .int (iI pr), .int (iI tk), .int (iI tol), .int (iI hou)])), (aT, .inr (9, [.ref aTp, .ref aTt, .ref aTx, .ref aTy, .ref aE, .int (iI ld)])), (aTp, .inl (gI g, 200, .inl (ar tp))), (aTt, .inl (gI g, 200, .inl (ar tt))), (aF, .inr (3, [.int (iI fx), .int (iI fy), .int (iI fhx), .int (iI fhy)]))] H := hP
      have hD : va_D A [(aR, .inr (11, [.ref aG, .ref aP, .ref aH, .ref aY, .ref aT, .ref aS, .ref aF, .ref aX, .int (iI pr), .int (iI tk), .int (iI tol), .int (iI hou)])), (aT, .inr (9, [.ref aTp, .ref aTt, .ref aTx, .ref aTy, .ref aE, .int (iI ld)])), (aTp, .inl (gI g, 200, .inl (ar tp))), (aTt, .inl (gI g, 200, .inl (ar tt))), (aF, .inr (3, [.int (iI fx), .int (iI fy), .int (iI fhx), .int (iI fhy)]))] := hD
      obtain ⟨hE, hp⟩ := hPX
      have hp : rgT ld rg = 1 := hp
      subst hE
      refine vx_catch (E := "java/lang/IndexOutOfBoundsException") (name := "java/lang/IndexOutOfBoundsException") hown [] ⟨0, 5, 6, 28⟩ [] (by rw [htab]; rfl) (fun z hz => by cases hz) (by decide) (by decide) (hts (.classLink RL 28 "java/lang/IndexOutOfBoundsException") (List.mem_of_getElem? (i := 1) rfl)) (va_Nw.use rfl (hC.2.2.2.2.2.2.2.2.2.2.1 "java/lang/IndexOutOfBoundsException" (List.mem_of_getElem? (i := 2) rfl))) hcell hv9 hcl ?_
      refine lv_astore_n (lv' := [(2, .ref q9), (0, .ref aR), (1, .int (iI rg))]) hx hb dL_xAnew_6 rfl hl (by decide) rfl (fun ls hl => ?_)
      refine x_ldc (v := -900001) hx hb hown (hts (.constant RL 17 (-900001)) (List.mem_of_getElem? (i := 2) rfl)) (by decide) dL_xAnew_7 ?_
      rw [hQ9]
      exact x_iret hx hb hr hlocks hP hD hS (S := Int × Int × Int × Int) rfl dL_xAnew_9 ⟨fx, fy, fhx, fhy⟩ (by
          first
          | (
             first | (rw [if_pos (by omega)]; first | assumption | (subst_vars; rfl)) | (rw [if_neg (by omega)]; omega))
          | fail "q9") trivial rfl (Nat.le_of_ble_eq_true rfl) (Nat.le_of_ble_eq_true rfl)
    · skip
      obtain ⟨fx_o_1, fy_o_2, fhx_o_3, fhy_o_4⟩ := u
      have hP : va_P (gD g) vwCl [(aR, .inr (11, [.ref aG, .ref aP, .ref aH, .ref aY, .ref aT, .ref aS, .ref aF, .ref aX, .int (iI pr), .int (iI tk), .int (iI tol), .int (iI hou)])), (aT, .inr (9, [.ref aTp, .ref aTt, .ref aTx, .ref aTy, .ref aE, .int (iI ld)])), (aTp, .inl (gI g, 200, .inl (ar tp))), (aTt, .inl (gI g, 200, .inl (ar tt))), (aF, .inr (3, [.int (iI fx_o_1), .int (iI fy_o_2), .int (iI fhx_o_3), .int (iI fhy_o_4)]))] H := hP
      have hD : va_D A [(aR, .inr (11, [.ref aG, .ref aP, .ref aH, .ref aY, .ref aT, .ref aS, .ref aF, .ref aX, .int (iI pr), .int (iI tk), .int (iI tol), .int (iI hou)])), (aT, .inr (9, [.ref aTp, .ref aTt, .ref aTx, .ref aTy, .ref aE, .int (iI ld)])), (aTp, .inl (gI g, 200, .inl (ar tp))), (aTt, .inl (gI g, 200, .inl (ar tt))), (aF, .inr (3, [.int (iI fx_o_1), .int (iI fy_o_2), .int (iI fhx_o_3), .int (iI fhy_o_4)]))] := hD
      have hv_5 : v_5 = lnO tt tp toSide (rg + 1) := hv_5
      obtain ⟨tv_5, pv_5⟩ := pv_5
      have tv_5 : rgT ld rg = 0 := tv_5
      rw [hQ9]
      exact x_iret hx hb hr hlocks hP hD hS (S := Int × Int × Int × Int) rfl dL_xAnew_5 ⟨fx_o_1, fy_o_2, fhx_o_3, fhy_o_4⟩ (by
          first
          | (
             first | (rw [if_pos (by omega)]; first | assumption | (subst_vars; rfl)) | (rw [if_neg (by omega)]; omega))
          | fail "q9") trivial rfl (Nat.le_of_ble_eq_true rfl) (Nat.le_of_ble_eq_true rfl)
  rw [hH, hlo, hQ9] at goal_
  exact goal_

set_option maxHeartbeats 4000000 in
set_option maxRecDepth 100000 in
theorem c_L_yAnew (l : Launch) (hflags : l.stackTraces = false) (g : xg) (sz : Nat) (aR aG aP aH aY aT aS aF aX aTp aTt aTx aTy aE : Nat) (pr tk tol hou ld fx fy fhx fhy rg : Int) (tp tt : Int → Int) (hld : 0 ≤ ld ∧ ld ≤ 200) (hb_tp : bnd tp 0 7) (hb_tt : bnd tt 0 9) (hr_rg : iR rg) : Met l yL_yAnew wsL_yAnew { frames := 8, cells := 1, slots := 6, locals := 134 } (va_Pc [.ref aR, .int (iI rg)] (xB g [(aR, .inr (11, [.ref aG, .ref aP, .ref aH, .ref aY, .ref aT, .ref aS, .ref aF, .ref aX, .int (iI pr), .int (iI tk), .int (iI tol), .int (iI hou)])), (aT, .inr (9, [.ref aTp, .ref aTt, .ref aTx, .ref aTy, .ref aE, .int (iI ld)])), (aTp, .inl (gI g, 200, .inl (ar tp))), (aTt, .inl (gI g, 200, .inl (ar tt))), (aF, .inr (3, [.int (iI fx), .int (iI fy), .int (iI fhx), .int (iI fhy)]))] sz)) (va_Qi (fun r u => r = iI ((fun (u : Int × Int × Int × Int) => (if rgT ld rg = 0 then lnO tt tp upward (rg + 1) else -900000 - rgT ld rg)) u) ∧ (fun (u : Int × Int × Int × Int) => True) u) (fun u t => xE g (va_A [(aR, .inr (11, [.ref aG, .ref aP, .ref aH, .ref aY, .ref aT, .ref aS, .ref aF, .ref aX, .int (iI pr), .int (iI tk), .int (iI tol), .int (iI hou)])), (aT, .inr (9, [.ref aTp, .ref aTt, .ref aTx, .ref aTy, .ref aE, .int (iI ld)])), (aTp, .inl (gI g, 200, .inl (ar tp))), (aTt, .inl (gI g, 200, .inl (ar tt))), (aF, .inr (3, [.int (iI fx), .int (iI fy), .int (iI fhx), .int (iI fhy)]))] sz) ((fun (u : Int × Int × Int × Int) => [(aR, .inr (11, [.ref aG, .ref aP, .ref aH, .ref aY, .ref aT, .ref aS, .ref aF, .ref aX, .int (iI pr), .int (iI tk), .int (iI tol), .int (iI hou)])), (aT, .inr (9, [.ref aTp, .ref aTt, .ref aTx, .ref aTy, .ref aE, .int (iI ld)])), (aTp, .inl (gI g, 200, .inl (ar tp))), (aTt, .inl (gI g, 200, .inl (ar tt))), (aF, .inr (3, [.int (iI u.1), .int (iI u.2.1), .int (iI u.2.2.1), .int (iI u.2.2.2)]))]) u) t) (va_A [(aR, .inr (11, [.ref aG, .ref aP, .ref aH, .ref aY, .ref aT, .ref aS, .ref aF, .ref aX, .int (iI pr), .int (iI tk), .int (iI tol), .int (iI hou)])), (aT, .inr (9, [.ref aTp, .ref aTt, .ref aTx, .ref aTy, .ref aE, .int (iI ld)])), (aTp, .inl (gI g, 200, .inl (ar tp))), (aTt, .inl (gI g, 200, .inl (ar tt))), (aF, .inr (3, [.int (iI fx), .int (iI fy), .int (iI fhx), .int (iI fhy)]))] sz)) 1 6 (va_A [(aR, .inr (11, [.ref aG, .ref aP, .ref aH, .ref aY, .ref aT, .ref aS, .ref aF, .ref aX, .int (iI pr), .int (iI tk), .int (iI tol), .int (iI hou)])), (aT, .inr (9, [.ref aTp, .ref aTt, .ref aTx, .ref aTy, .ref aE, .int (iI ld)])), (aTp, .inl (gI g, 200, .inl (ar tp))), (aTt, .inl (gI g, 200, .inl (ar tt))), (aF, .inr (3, [.int (iI fx), .int (iI fy), .int (iI fhx), .int (iI fhy)]))] sz) := by
  refine x_enterH (y := yL_yAnew) (ws := wsL_yAnew) (g := g) (sz := sz) (av := [.ref aR, .int (iI rg)]) (WS := [(aR, .inr (11, [.ref aG, .ref aP, .ref aH, .ref aY, .ref aT, .ref aS, .ref aF, .ref aX, .int (iI pr), .int (iI tk), .int (iI tol), .int (iI hou)])), (aT, .inr (9, [.ref aTp, .ref aTt, .ref aTx, .ref aTy, .ref aE, .int (iI ld)])), (aTp, .inl (gI g, 200, .inl (ar tp))), (aTt, .inl (gI g, 200, .inl (ar tt))), (aF, .inr (3, [.int (iI fx), .int (iI fy), .int (iI fhx), .int (iI fhy)]))]) (cc := cL_yAnew) (maxL := 3) (ret := some .int) (Qc := (fun A => (va_Qi (fun r u => r = iI ((fun (u : Int × Int × Int × Int) => (if rgT ld rg = 0 then lnO tt tp upward (rg + 1) else -900000 - rgT ld rg)) u) ∧ (fun (u : Int × Int × Int × Int) => True) u) (fun u t => xE g A ((fun (u : Int × Int × Int × Int) => [(aR, .inr (11, [.ref aG, .ref aP, .ref aH, .ref aY, .ref aT, .ref aS, .ref aF, .ref aX, .int (iI pr), .int (iI tk), .int (iI tol), .int (iI hou)])), (aT, .inr (9, [.ref aTp, .ref aTt, .ref aTx, .ref aTy, .ref aE, .int (iI ld)])), (aTp, .inl (gI g, 200, .inl (ar tp))), (aTt, .inl (gI g, 200, .inl (ar tt))), (aF, .inr (3, [.int (iI u.1), .int (iI u.2.1), .int (iI u.2.2.1), .int (iI u.2.2.2)]))]) u) t) A))) (by decide) rfl (Nat.le_of_ble_eq_true rfl) ?_
  intro p e s m args below meth c A ls hx hb hr hml hown hts hlocks htab hC hP hD hS hA hl
  have hK := hC.1
  have hown : s.vm.findClass RL = some m.cls := hown
  have hl : lv_has ls 3 [(0, .ref aR), (1, .int (iI rg))] := hl
  obtain ⟨H, hH⟩ : ∃ z, z = s.heap := ⟨_, rfl⟩
  obtain ⟨locs, hlo⟩ : ∃ z : List Loc, z = [] := ⟨_, rfl⟩
  obtain ⟨Q9, hQ9⟩ : ∃ z, z = MQ below (va_Qi (fun r u => r = iI ((fun (u : Int × Int × Int × Int) => (if rgT ld rg = 0 then lnO tt tp upward (rg + 1) else -900000 - rgT ld rg)) u) ∧ (fun (u : Int × Int × Int × Int) => True) u) (fun u t => xE g A ((fun (u : Int × Int × Int × Int) => [(aR, .inr (11, [.ref aG, .ref aP, .ref aH, .ref aY, .ref aT, .ref aS, .ref aF, .ref aX, .int (iI pr), .int (iI tk), .int (iI tol), .int (iI hou)])), (aT, .inr (9, [.ref aTp, .ref aTt, .ref aTx, .ref aTy, .ref aE, .int (iI ld)])), (aTp, .inl (gI g, 200, .inl (ar tp))), (aTt, .inl (gI g, 200, .inl (ar tt))), (aF, .inr (3, [.int (iI u.1), .int (iI u.2.1), .int (iI u.2.2.1), .int (iI u.2.2.2)]))]) u) t) A) args s 1 6 A := ⟨_, rfl⟩
  have hP : va_P (gD g) vwCl [(aR, .inr (11, [.ref aG, .ref aP, .ref aH, .ref aY, .ref aT, .ref aS, .ref aF, .ref aX, .int (iI pr), .int (iI tk), .int (iI tol), .int (iI hou)])), (aT, .inr (9, [.ref aTp, .ref aTt, .ref aTx, .ref aTy, .ref aE, .int (iI ld)])), (aTp, .inl (gI g, 200, .inl (ar tp))), (aTt, .inl (gI g, 200, .inl (ar tt))), (aF, .inr (3, [.int (iI fx), .int (iI fy), .int (iI fhx), .int (iI fhy)]))] H := by rw [hH]; exact hP
  have hS : va_S A s.heap H locs := by rw [hH, hlo]; exact hS
  have goal_ : W p l e { frames := 8, cells := 1, slots := 6, locals := 134 } s m args below meth c H locs 0 0 Q9 (F0 m 0 ls []) := by
    clear hH hlo
    refine lv_aload_n hx hb dL_yAnew_0 rfl (lv_at hl 0 rfl) ?_
    refine lv_iload_n hx hb dL_yAnew_1 rfl (lv_at hl 1 rfl) ?_
    refine x_calliX (S := Int × Int × Int × Int) (SX := Unit) (wc := [(aR, .inr (11, [.ref aG, .ref aP, .ref aH, .ref aY, .ref aT, .ref aS, .ref aF, .ref aX, .int (iI pr), .int (iI tk), .int (iI tol), .int (iI hou)])), (aT, .inr (9, [.ref aTp, .ref aTt, .ref aTx, .ref aTy, .ref aE, .int (iI ld)])), (aTp, .inl (gI g, 200, .inl (ar tp))), (aTt, .inl (gI g, 200, .inl (ar tt))), (aF, .inr (3, [.int (iI fx), .int (iI fy), .int (iI fhx), .int (iI fhy)]))]) (wr := []) hC hP hD hS hA [0, 1, 2, 3, 4] [] [0, 1, 2, 3, 4] rfl rfl (fun hpre => vx_runV (As := [.int (iI rg)]) (rest := []) ⟨hx, hb, hml, hown, hts⟩ (c_X8_yAnew l hflags g H.size aR aG aP aH aY aT aS aF aX aTp aTt aTx aTy aE pr tk tol hou ld fx fy fhx fhy rg tp tt (by first | (first | assumption | omega | exact bnd_up (by assumption) (by omega) (by omega)) | fail "q8") (by first | (first | assumption | omega | exact bnd_up (by assumption) (by omega) (by omega)) | fail "q8") (by first | (first | assumption | omega | exact bnd_up (by assumption) (by omega) (by omega)) | fail "q8") (by first | (first | assumption | omega | exact bnd_up (by assumption) (by omega) (by omega)) | fail "q8")) (cwV 1 hts gL_yAnew_X8_yAnew rfl rfl rfl (by decide +kernel) ⟨Nat.le_of_ble_eq_true rfl, Nat.le_of_ble_eq_true rfl⟩) ⟨xB_blind, va_recv hK hP (ci := 11) (q0 := 0) rfl rfl, hpre _⟩ rfl rfl hl.1 rfl (lv_room (Nat.le_of_ble_eq_true rfl)) dL_yAnew_2 ⟨Nat.le_of_ble_eq_true rfl, Nat.le_of_ble_eq_true rfl⟩) (fun (u : Int × Int × Int × Int) => [(aR, .inr (11, [.ref aG, .ref aP, .ref aH, .ref aY, .ref aT, .ref aS, .ref aF, .ref aX, .int (iI pr), .int (iI tk), .int (iI tol), .int (iI hou)])), (aT, .inr (9, [.ref aTp, .ref aTt, .ref aTx, .ref aTy, .ref aE, .int (iI ld)])), (aTp, .inl (gI g, 200, .inl (ar tp))), (aTt, .inl (gI g, 200, .inl (ar tt))), (aF, .inr (3, [.int (iI u.1), .int (iI u.2.1), .int (iI u.2.2.1), .int (iI u.2.2.2)]))]) (fun (u : Unit) => ([(aR, .inr (11, [.ref aG, .ref aP, .ref aH, .ref aY, .ref aT, .ref aS, .ref aF, .ref aX, .int (iI pr), .int (iI tk), .int (iI tol), .int (iI hou)])), (aT, .inr (9, [.ref aTp, .ref aTt, .ref aTx, .ref aTy, .ref aE, .int (iI ld)])), (aTp, .inl (gI g, 200, .inl (ar tp))), (aTt, .inl (gI g, 200, .inl (ar tt))), (aF, .inr (3, [.int (iI fx), .int (iI fy), .int (iI fhx), .int (iI fhy)]))] : va_W)) rfl rfl (by decide) (fun _ => rfl) (fun _ => rfl) rfl (fun E ce q9 u H locs hXP hPX hP hD hS hcell hv9 hcl => ?_) (fun u v_5 H locs hv_5 pv_5 hP hD hS => ?_)
    · skip
      have hP : va_P (gD g) vwCl [(aR, .inr (11, [.ref aG, .ref aP, .ref aH, .ref aY, .ref aT, .ref aS, .ref aF, .ref aX, .int (iI pr), .int (iI tk), .int (iI tol), .int (iI hou)])), (aT, .inr (9, [.ref aTp, .ref aTt, .ref aTx, .ref aTy, .ref aE, .int (iI ld)])), (aTp, .inl (gI g, 200, .inl (ar tp))), (aTt, .inl (gI g, 200, .inl (ar tt))), (aF, .inr (3, [.int (iI fx), .int (iI fy), .int (iI fhx), .int (iI fhy)]))] H := hP
      have hD : va_D A [(aR, .inr (11, [.ref aG, .ref aP, .ref aH, .ref aY, .ref aT, .ref aS, .ref aF, .ref aX, .int (iI pr), .int (iI tk), .int (iI tol), .int (iI hou)])), (aT, .inr (9, [.ref aTp, .ref aTt, .ref aTx, .ref aTy, .ref aE, .int (iI ld)])), (aTp, .inl (gI g, 200, .inl (ar tp))), (aTt, .inl (gI g, 200, .inl (ar tt))), (aF, .inr (3, [.int (iI fx), .int (iI fy), .int (iI fhx), .int (iI fhy)]))] := hD
      obtain ⟨hE, hp⟩ := hPX
      have hp : rgT ld rg = 1 := hp
      subst hE
      refine vx_catch (E := "java/lang/IndexOutOfBoundsException") (name := "java/lang/IndexOutOfBoundsException") hown [] ⟨0, 5, 6, 28⟩ [] (by rw [htab]; rfl) (fun z hz => by cases hz) (by decide) (by decide) (hts (.classLink RL 28 "java/lang/IndexOutOfBoundsException") (List.mem_of_getElem? (i := 1) rfl)) (va_Nw.use rfl (hC.2.2.2.2.2.2.2.2.2.2.1 "java/lang/IndexOutOfBoundsException" (List.mem_of_getElem? (i := 2) rfl))) hcell hv9 hcl ?_
      refine lv_astore_n (lv' := [(2, .ref q9), (0, .ref aR), (1, .int (iI rg))]) hx hb dL_yAnew_6 rfl hl (by decide) rfl (fun ls hl => ?_)
      refine x_ldc (v := -900001) hx hb hown (hts (.constant RL 17 (-900001)) (List.mem_of_getElem? (i := 2) rfl)) (by decide) dL_yAnew_7 ?_
      rw [hQ9]
      exact x_iret hx hb hr hlocks hP hD hS (S := Int × Int × Int × Int) rfl dL_yAnew_9 ⟨fx, fy, fhx, fhy⟩ (by
          first
          | (
             first | (rw [if_pos (by omega)]; first | assumption | (subst_vars; rfl)) | (rw [if_neg (by omega)]; omega))
          | fail "q9") trivial rfl (Nat.le_of_ble_eq_true rfl) (Nat.le_of_ble_eq_true rfl)
    · skip
      obtain ⟨fx_o_1, fy_o_2, fhx_o_3, fhy_o_4⟩ := u
      have hP : va_P (gD g) vwCl [(aR, .inr (11, [.ref aG, .ref aP, .ref aH, .ref aY, .ref aT, .ref aS, .ref aF, .ref aX, .int (iI pr), .int (iI tk), .int (iI tol), .int (iI hou)])), (aT, .inr (9, [.ref aTp, .ref aTt, .ref aTx, .ref aTy, .ref aE, .int (iI ld)])), (aTp, .inl (gI g, 200, .inl (ar tp))), (aTt, .inl (gI g, 200, .inl (ar tt))), (aF, .inr (3, [.int (iI fx_o_1), .int (iI fy_o_2), .int (iI fhx_o_3), .int (iI fhy_o_4)]))] H := hP
      have hD : va_D A [(aR, .inr (11, [.ref aG, .ref aP, .ref aH, .ref aY, .ref aT, .ref aS, .ref aF, .ref aX, .int (iI pr), .int (iI tk), .int (iI tol), .int (iI hou)])), (aT, .inr (9, [.ref aTp, .ref aTt, .ref aTx, .ref aTy, .ref aE, .int (iI ld)])), (aTp, .inl (gI g, 200, .inl (ar tp))), (aTt, .inl (gI g, 200, .inl (ar tt))), (aF, .inr (3, [.int (iI fx_o_1), .int (iI fy_o_2), .int (iI fhx_o_3), .int (iI fhy_o_4)]))] := hD
      have hv_5 : v_5 = lnO tt tp upward (rg + 1) := hv_5
      obtain ⟨tv_5, pv_5⟩ := pv_5
      have tv_5 : rgT ld rg = 0 := tv_5
      rw [hQ9]
      exact x_iret hx hb hr hlocks hP hD hS (S := Int × Int × Int × Int) rfl dL_yAnew_5 ⟨fx_o_1, fy_o_2, fhx_o_3, fhy_o_4⟩ (by
          first
          | (
             first | (rw [if_pos (by omega)]; first | assumption | (subst_vars; rfl)) | (rw [if_neg (by omega)]; omega))
          | fail "q9") trivial rfl (Nat.le_of_ble_eq_true rfl) (Nat.le_of_ble_eq_true rfl)
  rw [hH, hlo, hQ9] at goal_
  exact goal_

set_option maxHeartbeats 4000000 in
set_option maxRecDepth 100000 in
theorem c_L_deviationAfter (l : Launch) (hflags : l.stackTraces = false) (g : xg) (sz : Nat) (aR aG aP aH aY aT aS aF aX aTp aTt aTx aTy aE aPx aPy : Nat) (pr tk tol hou ld pn fx fy fhx fhy rg : Int) (kx ky bx byy : Int → Int) (hld : 0 ≤ ld ∧ ld ≤ 200) (hpn : 0 ≤ pn ∧ pn ≤ 200) (hb_bx : bnd bx (-5) 5) (hb_byy : bnd byy (-5) 5) (hb_kx : bnd kx (-400000) 400000) (hb_ky : bnd ky (-400000) 400000) (hr_rg : iR rg) : Met l yL_deviationAfter wsL_deviationAfter { frames := 8, cells := 1, slots := 6, locals := 134 } (va_Pc [.ref aR, .int (iI rg)] (xB g [(aR, .inr (11, [.ref aG, .ref aP, .ref aH, .ref aY, .ref aT, .ref aS, .ref aF, .ref aX, .int (iI pr), .int (iI tk), .int (iI tol), .int (iI hou)])), (aT, .inr (9, [.ref aTp, .ref aTt, .ref aTx, .ref aTy, .ref aE, .int (iI ld)])), (aTx, .inl (gI g, 200, .inl (ar kx))), (aTy, .inl (gI g, 200, .inl (ar ky))), (aP, .inr (6, [.ref aPx, .ref aPy, .int (iI pn)])), (aPx, .inl (gI g, 200, .inl (ar bx))), (aPy, .inl (gI g, 200, .inl (ar byy))), (aF, .inr (3, [.int (iI fx), .int (iI fy), .int (iI fhx), .int (iI fhy)]))] sz)) (va_Qi (fun r u => r = iI ((fun (u : Int × Int × Int × Int) => (if rgT ld rg = 0 then aI (kx rg - plO pn bx (rg + 1)) + aI (ky rg - plO pn byy (rg + 1)) else -900000 - rgT ld rg)) u) ∧ (fun (u : Int × Int × Int × Int) => True) u) (fun u t => xE g (va_A [(aR, .inr (11, [.ref aG, .ref aP, .ref aH, .ref aY, .ref aT, .ref aS, .ref aF, .ref aX, .int (iI pr), .int (iI tk), .int (iI tol), .int (iI hou)])), (aT, .inr (9, [.ref aTp, .ref aTt, .ref aTx, .ref aTy, .ref aE, .int (iI ld)])), (aTx, .inl (gI g, 200, .inl (ar kx))), (aTy, .inl (gI g, 200, .inl (ar ky))), (aP, .inr (6, [.ref aPx, .ref aPy, .int (iI pn)])), (aPx, .inl (gI g, 200, .inl (ar bx))), (aPy, .inl (gI g, 200, .inl (ar byy))), (aF, .inr (3, [.int (iI fx), .int (iI fy), .int (iI fhx), .int (iI fhy)]))] sz) ((fun (u : Int × Int × Int × Int) => [(aR, .inr (11, [.ref aG, .ref aP, .ref aH, .ref aY, .ref aT, .ref aS, .ref aF, .ref aX, .int (iI pr), .int (iI tk), .int (iI tol), .int (iI hou)])), (aT, .inr (9, [.ref aTp, .ref aTt, .ref aTx, .ref aTy, .ref aE, .int (iI ld)])), (aTx, .inl (gI g, 200, .inl (ar kx))), (aTy, .inl (gI g, 200, .inl (ar ky))), (aP, .inr (6, [.ref aPx, .ref aPy, .int (iI pn)])), (aPx, .inl (gI g, 200, .inl (ar bx))), (aPy, .inl (gI g, 200, .inl (ar byy))), (aF, .inr (3, [.int (iI u.1), .int (iI u.2.1), .int (iI u.2.2.1), .int (iI u.2.2.2)]))]) u) t) (va_A [(aR, .inr (11, [.ref aG, .ref aP, .ref aH, .ref aY, .ref aT, .ref aS, .ref aF, .ref aX, .int (iI pr), .int (iI tk), .int (iI tol), .int (iI hou)])), (aT, .inr (9, [.ref aTp, .ref aTt, .ref aTx, .ref aTy, .ref aE, .int (iI ld)])), (aTx, .inl (gI g, 200, .inl (ar kx))), (aTy, .inl (gI g, 200, .inl (ar ky))), (aP, .inr (6, [.ref aPx, .ref aPy, .int (iI pn)])), (aPx, .inl (gI g, 200, .inl (ar bx))), (aPy, .inl (gI g, 200, .inl (ar byy))), (aF, .inr (3, [.int (iI fx), .int (iI fy), .int (iI fhx), .int (iI fhy)]))] sz)) 1 6 (va_A [(aR, .inr (11, [.ref aG, .ref aP, .ref aH, .ref aY, .ref aT, .ref aS, .ref aF, .ref aX, .int (iI pr), .int (iI tk), .int (iI tol), .int (iI hou)])), (aT, .inr (9, [.ref aTp, .ref aTt, .ref aTx, .ref aTy, .ref aE, .int (iI ld)])), (aTx, .inl (gI g, 200, .inl (ar kx))), (aTy, .inl (gI g, 200, .inl (ar ky))), (aP, .inr (6, [.ref aPx, .ref aPy, .int (iI pn)])), (aPx, .inl (gI g, 200, .inl (ar bx))), (aPy, .inl (gI g, 200, .inl (ar byy))), (aF, .inr (3, [.int (iI fx), .int (iI fy), .int (iI fhx), .int (iI fhy)]))] sz) := by
  refine x_enterH (y := yL_deviationAfter) (ws := wsL_deviationAfter) (g := g) (sz := sz) (av := [.ref aR, .int (iI rg)]) (WS := [(aR, .inr (11, [.ref aG, .ref aP, .ref aH, .ref aY, .ref aT, .ref aS, .ref aF, .ref aX, .int (iI pr), .int (iI tk), .int (iI tol), .int (iI hou)])), (aT, .inr (9, [.ref aTp, .ref aTt, .ref aTx, .ref aTy, .ref aE, .int (iI ld)])), (aTx, .inl (gI g, 200, .inl (ar kx))), (aTy, .inl (gI g, 200, .inl (ar ky))), (aP, .inr (6, [.ref aPx, .ref aPy, .int (iI pn)])), (aPx, .inl (gI g, 200, .inl (ar bx))), (aPy, .inl (gI g, 200, .inl (ar byy))), (aF, .inr (3, [.int (iI fx), .int (iI fy), .int (iI fhx), .int (iI fhy)]))]) (cc := cL_deviationAfter) (maxL := 3) (ret := some .int) (Qc := (fun A => (va_Qi (fun r u => r = iI ((fun (u : Int × Int × Int × Int) => (if rgT ld rg = 0 then aI (kx rg - plO pn bx (rg + 1)) + aI (ky rg - plO pn byy (rg + 1)) else -900000 - rgT ld rg)) u) ∧ (fun (u : Int × Int × Int × Int) => True) u) (fun u t => xE g A ((fun (u : Int × Int × Int × Int) => [(aR, .inr (11, [.ref aG, .ref aP, .ref aH, .ref aY, .ref aT, .ref aS, .ref aF, .ref aX, .int (iI pr), .int (iI tk), .int (iI tol), .int (iI hou)])), (aT, .inr (9, [.ref aTp, .ref aTt, .ref aTx, .ref aTy, .ref aE, .int (iI ld)])), (aTx, .inl (gI g, 200, .inl (ar kx))), (aTy, .inl (gI g, 200, .inl (ar ky))), (aP, .inr (6, [.ref aPx, .ref aPy, .int (iI pn)])), (aPx, .inl (gI g, 200, .inl (ar bx))), (aPy, .inl (gI g, 200, .inl (ar byy))), (aF, .inr (3, [.int (iI u.1), .int (iI u.2.1), .int (iI u.2.2.1), .int (iI u.2.2.2)]))]) u) t) A))) (by decide) rfl (Nat.le_of_ble_eq_true rfl) ?_
  intro p e s m args below meth c A ls hx hb hr hml hown hts hlocks htab hC hP hD hS hA hl
  have hK := hC.1
  have hown : s.vm.findClass RL = some m.cls := hown
  have hl : lv_has ls 3 [(0, .ref aR), (1, .int (iI rg))] := hl
  obtain ⟨H, hH⟩ : ∃ z, z = s.heap := ⟨_, rfl⟩
  obtain ⟨locs, hlo⟩ : ∃ z : List Loc, z = [] := ⟨_, rfl⟩
  obtain ⟨Q9, hQ9⟩ : ∃ z, z = MQ below (va_Qi (fun r u => r = iI ((fun (u : Int × Int × Int × Int) => (if rgT ld rg = 0 then aI (kx rg - plO pn bx (rg + 1)) + aI (ky rg - plO pn byy (rg + 1)) else -900000 - rgT ld rg)) u) ∧ (fun (u : Int × Int × Int × Int) => True) u) (fun u t => xE g A ((fun (u : Int × Int × Int × Int) => [(aR, .inr (11, [.ref aG, .ref aP, .ref aH, .ref aY, .ref aT, .ref aS, .ref aF, .ref aX, .int (iI pr), .int (iI tk), .int (iI tol), .int (iI hou)])), (aT, .inr (9, [.ref aTp, .ref aTt, .ref aTx, .ref aTy, .ref aE, .int (iI ld)])), (aTx, .inl (gI g, 200, .inl (ar kx))), (aTy, .inl (gI g, 200, .inl (ar ky))), (aP, .inr (6, [.ref aPx, .ref aPy, .int (iI pn)])), (aPx, .inl (gI g, 200, .inl (ar bx))), (aPy, .inl (gI g, 200, .inl (ar byy))), (aF, .inr (3, [.int (iI u.1), .int (iI u.2.1), .int (iI u.2.2.1), .int (iI u.2.2.2)]))]) u) t) A) args s 1 6 A := ⟨_, rfl⟩
  have hP : va_P (gD g) vwCl [(aR, .inr (11, [.ref aG, .ref aP, .ref aH, .ref aY, .ref aT, .ref aS, .ref aF, .ref aX, .int (iI pr), .int (iI tk), .int (iI tol), .int (iI hou)])), (aT, .inr (9, [.ref aTp, .ref aTt, .ref aTx, .ref aTy, .ref aE, .int (iI ld)])), (aTx, .inl (gI g, 200, .inl (ar kx))), (aTy, .inl (gI g, 200, .inl (ar ky))), (aP, .inr (6, [.ref aPx, .ref aPy, .int (iI pn)])), (aPx, .inl (gI g, 200, .inl (ar bx))), (aPy, .inl (gI g, 200, .inl (ar byy))), (aF, .inr (3, [.int (iI fx), .int (iI fy), .int (iI fhx), .int (iI fhy)]))] H := by rw [hH]; exact hP
  have hS : va_S A s.heap H locs := by rw [hH, hlo]; exact hS
  have goal_ : W p l e { frames := 8, cells := 1, slots := 6, locals := 134 } s m args below meth c H locs 0 0 Q9 (F0 m 0 ls []) := by
    clear hH hlo
    refine lv_aload_n hx hb dL_deviationAfter_0 rfl (lv_at hl 0 rfl) ?_
    refine lv_iload_n hx hb dL_deviationAfter_1 rfl (lv_at hl 1 rfl) ?_
    refine x_calliX (S := Int × Int × Int × Int) (SX := Unit) (wc := [(aR, .inr (11, [.ref aG, .ref aP, .ref aH, .ref aY, .ref aT, .ref aS, .ref aF, .ref aX, .int (iI pr), .int (iI tk), .int (iI tol), .int (iI hou)])), (aT, .inr (9, [.ref aTp, .ref aTt, .ref aTx, .ref aTy, .ref aE, .int (iI ld)])), (aTx, .inl (gI g, 200, .inl (ar kx))), (aTy, .inl (gI g, 200, .inl (ar ky))), (aP, .inr (6, [.ref aPx, .ref aPy, .int (iI pn)])), (aPx, .inl (gI g, 200, .inl (ar bx))), (aPy, .inl (gI g, 200, .inl (ar byy))), (aF, .inr (3, [.int (iI fx), .int (iI fy), .int (iI fhx), .int (iI fhy)]))]) (wr := []) hC hP hD hS hA [0, 1, 2, 3, 4, 5, 6, 7] [] [0, 1, 2, 3, 4, 5, 6, 7] rfl rfl (fun hpre => vx_runV (As := [.int (iI rg)]) (rest := []) ⟨hx, hb, hml, hown, hts⟩ (c_X8_deviationAfter l hflags g H.size aR aG aP aH aY aT aS aF aX aTp aTt aTx aTy aE aPx aPy pr tk tol hou ld pn fx fy fhx fhy rg kx ky bx byy (by first | (first | assumption | omega | exact bnd_up (by assumption) (by omega) (by omega)) | fail "q8") (by first | (first | assumption | omega | exact bnd_up (by assumption) (by omega) (by omega)) | fail "q8") (by first | (first | assumption | omega | exact bnd_up (by assumption) (by omega) (by omega)) | fail "q8") (by first | (first | assumption | omega | exact bnd_up (by assumption) (by omega) (by omega)) | fail "q8") (by first | (first | assumption | omega | exact bnd_up (by assumption) (by omega) (by omega)) | fail "q8") (by first | (first | assumption | omega | exact bnd_up (by assumption) (by omega) (by omega)) | fail "q8") (by first | (first | assumption | omega | exact bnd_up (by assumption) (by omega) (by omega)) | fail "q8")) (cwV 1 hts gL_deviationAfter_X8_deviationAfter rfl rfl rfl (by decide +kernel) ⟨Nat.le_of_ble_eq_true rfl, Nat.le_of_ble_eq_true rfl⟩) ⟨xB_blind, va_recv hK hP (ci := 11) (q0 := 0) rfl rfl, hpre _⟩ rfl rfl hl.1 rfl (lv_room (Nat.le_of_ble_eq_true rfl)) dL_deviationAfter_2 ⟨Nat.le_of_ble_eq_true rfl, Nat.le_of_ble_eq_true rfl⟩) (fun (u : Int × Int × Int × Int) => [(aR, .inr (11, [.ref aG, .ref aP, .ref aH, .ref aY, .ref aT, .ref aS, .ref aF, .ref aX, .int (iI pr), .int (iI tk), .int (iI tol), .int (iI hou)])), (aT, .inr (9, [.ref aTp, .ref aTt, .ref aTx, .ref aTy, .ref aE, .int (iI ld)])), (aTx, .inl (gI g, 200, .inl (ar kx))), (aTy, .inl (gI g, 200, .inl (ar ky))), (aP, .inr (6, [.ref aPx, .ref aPy, .int (iI pn)])), (aPx, .inl (gI g, 200, .inl (ar bx))), (aPy, .inl (gI g, 200, .inl (ar byy))), (aF, .inr (3, [.int (iI u.1), .int (iI u.2.1), .int (iI u.2.2.1), .int (iI u.2.2.2)]))]) (fun (u : Unit) => ([(aR, .inr (11, [.ref aG, .ref aP, .ref aH, .ref aY, .ref aT, .ref aS, .ref aF, .ref aX, .int (iI pr), .int (iI tk), .int (iI tol), .int (iI hou)])), (aT, .inr (9, [.ref aTp, .ref aTt, .ref aTx, .ref aTy, .ref aE, .int (iI ld)])), (aTx, .inl (gI g, 200, .inl (ar kx))), (aTy, .inl (gI g, 200, .inl (ar ky))), (aP, .inr (6, [.ref aPx, .ref aPy, .int (iI pn)])), (aPx, .inl (gI g, 200, .inl (ar bx))), (aPy, .inl (gI g, 200, .inl (ar byy))), (aF, .inr (3, [.int (iI fx), .int (iI fy), .int (iI fhx), .int (iI fhy)]))] : va_W)) rfl rfl (by decide) (fun _ => rfl) (fun _ => rfl) rfl (fun E ce q9 u H locs hXP hPX hP hD hS hcell hv9 hcl => ?_) (fun u v_5 H locs hv_5 pv_5 hP hD hS => ?_)
    · skip
      have hP : va_P (gD g) vwCl [(aR, .inr (11, [.ref aG, .ref aP, .ref aH, .ref aY, .ref aT, .ref aS, .ref aF, .ref aX, .int (iI pr), .int (iI tk), .int (iI tol), .int (iI hou)])), (aT, .inr (9, [.ref aTp, .ref aTt, .ref aTx, .ref aTy, .ref aE, .int (iI ld)])), (aTx, .inl (gI g, 200, .inl (ar kx))), (aTy, .inl (gI g, 200, .inl (ar ky))), (aP, .inr (6, [.ref aPx, .ref aPy, .int (iI pn)])), (aPx, .inl (gI g, 200, .inl (ar bx))), (aPy, .inl (gI g, 200, .inl (ar byy))), (aF, .inr (3, [.int (iI fx), .int (iI fy), .int (iI fhx), .int (iI fhy)]))] H := hP
      have hD : va_D A [(aR, .inr (11, [.ref aG, .ref aP, .ref aH, .ref aY, .ref aT, .ref aS, .ref aF, .ref aX, .int (iI pr), .int (iI tk), .int (iI tol), .int (iI hou)])), (aT, .inr (9, [.ref aTp, .ref aTt, .ref aTx, .ref aTy, .ref aE, .int (iI ld)])), (aTx, .inl (gI g, 200, .inl (ar kx))), (aTy, .inl (gI g, 200, .inl (ar ky))), (aP, .inr (6, [.ref aPx, .ref aPy, .int (iI pn)])), (aPx, .inl (gI g, 200, .inl (ar bx))), (aPy, .inl (gI g, 200, .inl (ar byy))), (aF, .inr (3, [.int (iI fx), .int (iI fy), .int (iI fhx), .int (iI fhy)]))] := hD
      obtain ⟨hE, hp⟩ := hPX
      have hp : rgT ld rg = 1 := hp
      subst hE
      refine vx_catch (E := "java/lang/IndexOutOfBoundsException") (name := "java/lang/IndexOutOfBoundsException") hown [] ⟨0, 5, 6, 28⟩ [] (by rw [htab]; rfl) (fun z hz => by cases hz) (by decide) (by decide) (hts (.classLink RL 28 "java/lang/IndexOutOfBoundsException") (List.mem_of_getElem? (i := 1) rfl)) (va_Nw.use rfl (hC.2.2.2.2.2.2.2.2.2.2.1 "java/lang/IndexOutOfBoundsException" (List.mem_of_getElem? (i := 2) rfl))) hcell hv9 hcl ?_
      refine lv_astore_n (lv' := [(2, .ref q9), (0, .ref aR), (1, .int (iI rg))]) hx hb dL_deviationAfter_6 rfl hl (by decide) rfl (fun ls hl => ?_)
      refine x_ldc (v := -900001) hx hb hown (hts (.constant RL 17 (-900001)) (List.mem_of_getElem? (i := 2) rfl)) (by decide) dL_deviationAfter_7 ?_
      rw [hQ9]
      exact x_iret hx hb hr hlocks hP hD hS (S := Int × Int × Int × Int) rfl dL_deviationAfter_9 ⟨fx, fy, fhx, fhy⟩ (by
          first
          | (
             first | (rw [if_pos (by omega)]; first | assumption | (subst_vars; rfl)) | (rw [if_neg (by omega)]; omega))
          | fail "q9") trivial rfl (Nat.le_of_ble_eq_true rfl) (Nat.le_of_ble_eq_true rfl)
    · skip
      obtain ⟨fx_o_1, fy_o_2, fhx_o_3, fhy_o_4⟩ := u
      have hP : va_P (gD g) vwCl [(aR, .inr (11, [.ref aG, .ref aP, .ref aH, .ref aY, .ref aT, .ref aS, .ref aF, .ref aX, .int (iI pr), .int (iI tk), .int (iI tol), .int (iI hou)])), (aT, .inr (9, [.ref aTp, .ref aTt, .ref aTx, .ref aTy, .ref aE, .int (iI ld)])), (aTx, .inl (gI g, 200, .inl (ar kx))), (aTy, .inl (gI g, 200, .inl (ar ky))), (aP, .inr (6, [.ref aPx, .ref aPy, .int (iI pn)])), (aPx, .inl (gI g, 200, .inl (ar bx))), (aPy, .inl (gI g, 200, .inl (ar byy))), (aF, .inr (3, [.int (iI fx_o_1), .int (iI fy_o_2), .int (iI fhx_o_3), .int (iI fhy_o_4)]))] H := hP
      have hD : va_D A [(aR, .inr (11, [.ref aG, .ref aP, .ref aH, .ref aY, .ref aT, .ref aS, .ref aF, .ref aX, .int (iI pr), .int (iI tk), .int (iI tol), .int (iI hou)])), (aT, .inr (9, [.ref aTp, .ref aTt, .ref aTx, .ref aTy, .ref aE, .int (iI ld)])), (aTx, .inl (gI g, 200, .inl (ar kx))), (aTy, .inl (gI g, 200, .inl (ar ky))), (aP, .inr (6, [.ref aPx, .ref aPy, .int (iI pn)])), (aPx, .inl (gI g, 200, .inl (ar bx))), (aPy, .inl (gI g, 200, .inl (ar byy))), (aF, .inr (3, [.int (iI fx_o_1), .int (iI fy_o_2), .int (iI fhx_o_3), .int (iI fhy_o_4)]))] := hD
      have hv_5 : v_5 = aI (kx rg - plO pn bx (rg + 1)) + aI (ky rg - plO pn byy (rg + 1)) := hv_5
      obtain ⟨tv_5, pv_5⟩ := pv_5
      have tv_5 : rgT ld rg = 0 := tv_5
      rw [hQ9]
      exact x_iret hx hb hr hlocks hP hD hS (S := Int × Int × Int × Int) rfl dL_deviationAfter_5 ⟨fx_o_1, fy_o_2, fhx_o_3, fhy_o_4⟩ (by
          first
          | (
             first | (rw [if_pos (by omega)]; first | assumption | (subst_vars; rfl)) | (rw [if_neg (by omega)]; omega))
          | fail "q9") trivial rfl (Nat.le_of_ble_eq_true rfl) (Nat.le_of_ble_eq_true rfl)
  rw [hH, hlo, hQ9] at goal_
  exact goal_

set_option maxHeartbeats 4000000 in
set_option maxRecDepth 100000 in
theorem c_L_writeRings (l : Launch) (hflags : l.stackTraces = false) (g : xg) (sz : Nat) (aR aG aP aH aY aT aS aF aX aTp aTt aTx aTy aE aXs : Nat) (pr tk tol hou ld tl rg : Int) (tp tt sg : Int → Int) (hld : 0 ≤ ld ∧ ld ≤ 200) (hb_tp : bnd tp 0 7) (hb_tt : bnd tt 0 9) (htl : 0 ≤ tl ∧ tl ≤ 40) (hr_rg : iR rg) : Met l yL_writeRings wsL_writeRings { frames := 8, cells := 1, slots := 6, locals := 136 } (va_Pc [.ref aR, .int (iI rg)] (xB g [(aR, .inr (11, [.ref aG, .ref aP, .ref aH, .ref aY, .ref aT, .ref aS, .ref aF, .ref aX, .int (iI pr), .int (iI tk), .int (iI tol), .int (iI hou)])), (aT, .inr (9, [.ref aTp, .ref aTt, .ref aTx, .ref aTy, .ref aE, .int (iI ld)])), (aTp, .inl (gI g, 200, .inl (ar tp))), (aTt, .inl (gI g, 200, .inl (ar tt))), (aX, .inr (8, [.ref aXs, .int (iI tl)])), (aXs, .inl (gC g, 40, .inl (ar sg)))] sz)) (va_Qi (fun r u => r = iI ((fun (u : Unit) => (if rgT ld rg = 0 then wrL (mn ld (rg + 10) - rg) else -900000 - rgT ld rg)) u) ∧ (fun (u : Unit) => True) u) (fun u t => xE g (va_A [(aR, .inr (11, [.ref aG, .ref aP, .ref aH, .ref aY, .ref aT, .ref aS, .ref aF, .ref aX, .int (iI pr), .int (iI tk), .int (iI tol), .int (iI hou)])), (aT, .inr (9, [.ref aTp, .ref aTt, .ref aTx, .ref aTy, .ref aE, .int (iI ld)])), (aTp, .inl (gI g, 200, .inl (ar tp))), (aTt, .inl (gI g, 200, .inl (ar tt))), (aX, .inr (8, [.ref aXs, .int (iI tl)])), (aXs, .inl (gC g, 40, .inl (ar sg)))] sz) ((fun (u : Unit) => [(aR, .inr (11, [.ref aG, .ref aP, .ref aH, .ref aY, .ref aT, .ref aS, .ref aF, .ref aX, .int (iI pr), .int (iI tk), .int (iI tol), .int (iI hou)])), (aT, .inr (9, [.ref aTp, .ref aTt, .ref aTx, .ref aTy, .ref aE, .int (iI ld)])), (aTp, .inl (gI g, 200, .inl (ar tp))), (aTt, .inl (gI g, 200, .inl (ar tt))), (aX, .inr (8, [.ref aXs, .int (iI (if rgT ld rg = 0 then (wrL (mn ld (rg + 10) - rg)) else tl))])), (aXs, .inl (gC g, 40, .inl (ar (if rgT ld rg = 0 then (wrI tp tt sg rg (mn ld (rg + 10) - rg)) else sg))))]) u) t) (va_A [(aR, .inr (11, [.ref aG, .ref aP, .ref aH, .ref aY, .ref aT, .ref aS, .ref aF, .ref aX, .int (iI pr), .int (iI tk), .int (iI tol), .int (iI hou)])), (aT, .inr (9, [.ref aTp, .ref aTt, .ref aTx, .ref aTy, .ref aE, .int (iI ld)])), (aTp, .inl (gI g, 200, .inl (ar tp))), (aTt, .inl (gI g, 200, .inl (ar tt))), (aX, .inr (8, [.ref aXs, .int (iI tl)])), (aXs, .inl (gC g, 40, .inl (ar sg)))] sz)) 1 6 (va_A [(aR, .inr (11, [.ref aG, .ref aP, .ref aH, .ref aY, .ref aT, .ref aS, .ref aF, .ref aX, .int (iI pr), .int (iI tk), .int (iI tol), .int (iI hou)])), (aT, .inr (9, [.ref aTp, .ref aTt, .ref aTx, .ref aTy, .ref aE, .int (iI ld)])), (aTp, .inl (gI g, 200, .inl (ar tp))), (aTt, .inl (gI g, 200, .inl (ar tt))), (aX, .inr (8, [.ref aXs, .int (iI tl)])), (aXs, .inl (gC g, 40, .inl (ar sg)))] sz) := by
  refine x_enterH (y := yL_writeRings) (ws := wsL_writeRings) (g := g) (sz := sz) (av := [.ref aR, .int (iI rg)]) (WS := [(aR, .inr (11, [.ref aG, .ref aP, .ref aH, .ref aY, .ref aT, .ref aS, .ref aF, .ref aX, .int (iI pr), .int (iI tk), .int (iI tol), .int (iI hou)])), (aT, .inr (9, [.ref aTp, .ref aTt, .ref aTx, .ref aTy, .ref aE, .int (iI ld)])), (aTp, .inl (gI g, 200, .inl (ar tp))), (aTt, .inl (gI g, 200, .inl (ar tt))), (aX, .inr (8, [.ref aXs, .int (iI tl)])), (aXs, .inl (gC g, 40, .inl (ar sg)))]) (cc := cL_writeRings) (maxL := 3) (ret := some .int) (Qc := (fun A => (va_Qi (fun r u => r = iI ((fun (u : Unit) => (if rgT ld rg = 0 then wrL (mn ld (rg + 10) - rg) else -900000 - rgT ld rg)) u) ∧ (fun (u : Unit) => True) u) (fun u t => xE g A ((fun (u : Unit) => [(aR, .inr (11, [.ref aG, .ref aP, .ref aH, .ref aY, .ref aT, .ref aS, .ref aF, .ref aX, .int (iI pr), .int (iI tk), .int (iI tol), .int (iI hou)])), (aT, .inr (9, [.ref aTp, .ref aTt, .ref aTx, .ref aTy, .ref aE, .int (iI ld)])), (aTp, .inl (gI g, 200, .inl (ar tp))), (aTt, .inl (gI g, 200, .inl (ar tt))), (aX, .inr (8, [.ref aXs, .int (iI (if rgT ld rg = 0 then (wrL (mn ld (rg + 10) - rg)) else tl))])), (aXs, .inl (gC g, 40, .inl (ar (if rgT ld rg = 0 then (wrI tp tt sg rg (mn ld (rg + 10) - rg)) else sg))))]) u) t) A))) (by decide) rfl (Nat.le_of_ble_eq_true rfl) ?_
  intro p e s m args below meth c A ls hx hb hr hml hown hts hlocks htab hC hP hD hS hA hl
  have hK := hC.1
  have hown : s.vm.findClass RL = some m.cls := hown
  have hl : lv_has ls 3 [(0, .ref aR), (1, .int (iI rg))] := hl
  obtain ⟨H, hH⟩ : ∃ z, z = s.heap := ⟨_, rfl⟩
  obtain ⟨locs, hlo⟩ : ∃ z : List Loc, z = [] := ⟨_, rfl⟩
  obtain ⟨Q9, hQ9⟩ : ∃ z, z = MQ below (va_Qi (fun r u => r = iI ((fun (u : Unit) => (if rgT ld rg = 0 then wrL (mn ld (rg + 10) - rg) else -900000 - rgT ld rg)) u) ∧ (fun (u : Unit) => True) u) (fun u t => xE g A ((fun (u : Unit) => [(aR, .inr (11, [.ref aG, .ref aP, .ref aH, .ref aY, .ref aT, .ref aS, .ref aF, .ref aX, .int (iI pr), .int (iI tk), .int (iI tol), .int (iI hou)])), (aT, .inr (9, [.ref aTp, .ref aTt, .ref aTx, .ref aTy, .ref aE, .int (iI ld)])), (aTp, .inl (gI g, 200, .inl (ar tp))), (aTt, .inl (gI g, 200, .inl (ar tt))), (aX, .inr (8, [.ref aXs, .int (iI (if rgT ld rg = 0 then (wrL (mn ld (rg + 10) - rg)) else tl))])), (aXs, .inl (gC g, 40, .inl (ar (if rgT ld rg = 0 then (wrI tp tt sg rg (mn ld (rg + 10) - rg)) else sg))))]) u) t) A) args s 1 6 A := ⟨_, rfl⟩
  have hP : va_P (gD g) vwCl [(aR, .inr (11, [.ref aG, .ref aP, .ref aH, .ref aY, .ref aT, .ref aS, .ref aF, .ref aX, .int (iI pr), .int (iI tk), .int (iI tol), .int (iI hou)])), (aT, .inr (9, [.ref aTp, .ref aTt, .ref aTx, .ref aTy, .ref aE, .int (iI ld)])), (aTp, .inl (gI g, 200, .inl (ar tp))), (aTt, .inl (gI g, 200, .inl (ar tt))), (aX, .inr (8, [.ref aXs, .int (iI tl)])), (aXs, .inl (gC g, 40, .inl (ar sg)))] H := by rw [hH]; exact hP
  have hS : va_S A s.heap H locs := by rw [hH, hlo]; exact hS
  have goal_ : W p l e { frames := 8, cells := 1, slots := 6, locals := 136 } s m args below meth c H locs 0 0 Q9 (F0 m 0 ls []) := by
    clear hH hlo
    refine lv_aload_n hx hb dL_writeRings_0 rfl (lv_at hl 0 rfl) ?_
    refine lv_iload_n hx hb dL_writeRings_1 rfl (lv_at hl 1 rfl) ?_
    refine x_calliX (S := Unit) (SX := Unit) (wc := [(aR, .inr (11, [.ref aG, .ref aP, .ref aH, .ref aY, .ref aT, .ref aS, .ref aF, .ref aX, .int (iI pr), .int (iI tk), .int (iI tol), .int (iI hou)])), (aT, .inr (9, [.ref aTp, .ref aTt, .ref aTx, .ref aTy, .ref aE, .int (iI ld)])), (aTp, .inl (gI g, 200, .inl (ar tp))), (aTt, .inl (gI g, 200, .inl (ar tt))), (aX, .inr (8, [.ref aXs, .int (iI tl)])), (aXs, .inl (gC g, 40, .inl (ar sg)))]) (wr := []) hC hP hD hS hA [0, 1, 2, 3, 4, 5] [] [0, 1, 2, 3, 4, 5] rfl rfl (fun hpre => vx_runV (As := [.int (iI rg)]) (rest := []) ⟨hx, hb, hml, hown, hts⟩ (c_X8_writeRings l hflags g H.size aR aG aP aH aY aT aS aF aX aTp aTt aTx aTy aE aXs pr tk tol hou ld tl rg tp tt sg (by first | (first | assumption | omega | exact bnd_up (by assumption) (by omega) (by omega)) | fail "q8") (by first | (first | assumption | omega | exact bnd_up (by assumption) (by omega) (by omega)) | fail "q8") (by first | (first | assumption | omega | exact bnd_up (by assumption) (by omega) (by omega)) | fail "q8") (by first | (first | assumption | omega | exact bnd_up (by assumption) (by omega) (by omega)) | fail "q8") (by first | (first | assumption | omega | exact bnd_up (by assumption) (by omega) (by omega)) | fail "q8")) (cwV 1 hts gL_writeRings_X8_writeRings rfl rfl rfl (by decide +kernel) ⟨Nat.le_of_ble_eq_true rfl, Nat.le_of_ble_eq_true rfl⟩) ⟨xB_blind, va_recv hK hP (ci := 11) (q0 := 0) rfl rfl, hpre _⟩ rfl rfl hl.1 rfl (lv_room (Nat.le_of_ble_eq_true rfl)) dL_writeRings_2 ⟨Nat.le_of_ble_eq_true rfl, Nat.le_of_ble_eq_true rfl⟩) (fun (u : Unit) => [(aR, .inr (11, [.ref aG, .ref aP, .ref aH, .ref aY, .ref aT, .ref aS, .ref aF, .ref aX, .int (iI pr), .int (iI tk), .int (iI tol), .int (iI hou)])), (aT, .inr (9, [.ref aTp, .ref aTt, .ref aTx, .ref aTy, .ref aE, .int (iI ld)])), (aTp, .inl (gI g, 200, .inl (ar tp))), (aTt, .inl (gI g, 200, .inl (ar tt))), (aX, .inr (8, [.ref aXs, .int (iI (wrL (mn ld (rg + 10) - rg)))])), (aXs, .inl (gC g, 40, .inl (ar (wrI tp tt sg rg (mn ld (rg + 10) - rg)))))]) (fun (u : Unit) => ([(aR, .inr (11, [.ref aG, .ref aP, .ref aH, .ref aY, .ref aT, .ref aS, .ref aF, .ref aX, .int (iI pr), .int (iI tk), .int (iI tol), .int (iI hou)])), (aT, .inr (9, [.ref aTp, .ref aTt, .ref aTx, .ref aTy, .ref aE, .int (iI ld)])), (aTp, .inl (gI g, 200, .inl (ar tp))), (aTt, .inl (gI g, 200, .inl (ar tt))), (aX, .inr (8, [.ref aXs, .int (iI tl)])), (aXs, .inl (gC g, 40, .inl (ar sg)))] : va_W)) rfl rfl (by decide) (fun _ => rfl) (fun _ => rfl) rfl (fun E ce q9 u H locs hXP hPX hP hD hS hcell hv9 hcl => ?_) (fun u v_1 H locs hv_1 pv_1 hP hD hS => ?_)
    · skip
      have hP : va_P (gD g) vwCl [(aR, .inr (11, [.ref aG, .ref aP, .ref aH, .ref aY, .ref aT, .ref aS, .ref aF, .ref aX, .int (iI pr), .int (iI tk), .int (iI tol), .int (iI hou)])), (aT, .inr (9, [.ref aTp, .ref aTt, .ref aTx, .ref aTy, .ref aE, .int (iI ld)])), (aTp, .inl (gI g, 200, .inl (ar tp))), (aTt, .inl (gI g, 200, .inl (ar tt))), (aX, .inr (8, [.ref aXs, .int (iI tl)])), (aXs, .inl (gC g, 40, .inl (ar sg)))] H := hP
      have hD : va_D A [(aR, .inr (11, [.ref aG, .ref aP, .ref aH, .ref aY, .ref aT, .ref aS, .ref aF, .ref aX, .int (iI pr), .int (iI tk), .int (iI tol), .int (iI hou)])), (aT, .inr (9, [.ref aTp, .ref aTt, .ref aTx, .ref aTy, .ref aE, .int (iI ld)])), (aTp, .inl (gI g, 200, .inl (ar tp))), (aTt, .inl (gI g, 200, .inl (ar tt))), (aX, .inr (8, [.ref aXs, .int (iI tl)])), (aXs, .inl (gC g, 40, .inl (ar sg)))] := hD
      obtain ⟨hE, hp⟩ := hPX
      have hp : rgT ld rg = 1 := hp
      subst hE
      refine vx_catch (E := "java/lang/IndexOutOfBoundsException") (name := "java/lang/IndexOutOfBoundsException") hown [] ⟨0, 5, 6, 28⟩ [] (by rw [htab]; rfl) (fun z hz => by cases hz) (by decide) (by decide) (hts (.classLink RL 28 "java/lang/IndexOutOfBoundsException") (List.mem_of_getElem? (i := 1) rfl)) (va_Nw.use rfl (hC.2.2.2.2.2.2.2.2.2.2.1 "java/lang/IndexOutOfBoundsException" (List.mem_of_getElem? (i := 2) rfl))) hcell hv9 hcl ?_
      refine lv_astore_n (lv' := [(2, .ref q9), (0, .ref aR), (1, .int (iI rg))]) hx hb dL_writeRings_6 rfl hl (by decide) rfl (fun ls hl => ?_)
      refine x_ldc (v := -900001) hx hb hown (hts (.constant RL 17 (-900001)) (List.mem_of_getElem? (i := 2) rfl)) (by decide) dL_writeRings_7 ?_
      have q_2 : (if rgT ld rg = 0 then (wrL (mn ld (rg + 10) - rg)) else tl) = tl := by
        first
        | (
           first | rfl | (rw [if_pos (by omega)]) | (rw [if_neg (by omega)]) | (rw [if_pos (by omega)]; subst_vars; rfl))
        | fail "q9"
      have q_3 : (if rgT ld rg = 0 then (wrI tp tt sg rg (mn ld (rg + 10) - rg)) else sg) = sg := by
        first
        | (
           first | rfl | (rw [if_pos (by omega)]) | (rw [if_neg (by omega)]) | (rw [if_pos (by omega)]; subst_vars; rfl))
        | fail "q9"
      have hw_4 := (congr (congrArg (fun (z0 : Int) (z1 : Int → Int) => ([(aR, .inr (11, [.ref aG, .ref aP, .ref aH, .ref aY, .ref aT, .ref aS, .ref aF, .ref aX, .int (iI pr), .int (iI tk), .int (iI tol), .int (iI hou)])), (aT, .inr (9, [.ref aTp, .ref aTt, .ref aTx, .ref aTy, .ref aE, .int (iI ld)])), (aTp, .inl (gI g, 200, .inl (ar tp))), (aTt, .inl (gI g, 200, .inl (ar tt))), (aX, .inr (8, [.ref aXs, .int (iI z0)])), (aXs, .inl (gC g, 40, .inl (ar z1)))] : va_W)) q_2.symm) q_3.symm)
      rw [hQ9]
      exact x_iret hx hb hr hlocks hP hD hS (S := Unit) rfl dL_writeRings_9 () (by
          first
          | (
             first | (rw [if_pos (by omega)]; first | assumption | (subst_vars; rfl)) | (rw [if_neg (by omega)]; omega))
          | fail "q9") trivial hw_4 (Nat.le_of_ble_eq_true rfl) (Nat.le_of_ble_eq_true rfl)
    · skip
      have hP : va_P (gD g) vwCl [(aR, .inr (11, [.ref aG, .ref aP, .ref aH, .ref aY, .ref aT, .ref aS, .ref aF, .ref aX, .int (iI pr), .int (iI tk), .int (iI tol), .int (iI hou)])), (aT, .inr (9, [.ref aTp, .ref aTt, .ref aTx, .ref aTy, .ref aE, .int (iI ld)])), (aTp, .inl (gI g, 200, .inl (ar tp))), (aTt, .inl (gI g, 200, .inl (ar tt))), (aX, .inr (8, [.ref aXs, .int (iI (wrL (mn ld (rg + 10) - rg)))])), (aXs, .inl (gC g, 40, .inl (ar (wrI tp tt sg rg (mn ld (rg + 10) - rg)))))] H := hP
      have hD : va_D A [(aR, .inr (11, [.ref aG, .ref aP, .ref aH, .ref aY, .ref aT, .ref aS, .ref aF, .ref aX, .int (iI pr), .int (iI tk), .int (iI tol), .int (iI hou)])), (aT, .inr (9, [.ref aTp, .ref aTt, .ref aTx, .ref aTy, .ref aE, .int (iI ld)])), (aTp, .inl (gI g, 200, .inl (ar tp))), (aTt, .inl (gI g, 200, .inl (ar tt))), (aX, .inr (8, [.ref aXs, .int (iI (wrL (mn ld (rg + 10) - rg)))])), (aXs, .inl (gC g, 40, .inl (ar (wrI tp tt sg rg (mn ld (rg + 10) - rg)))))] := hD
      have hv_1 : v_1 = wrL (mn ld (rg + 10) - rg) := hv_1
      obtain ⟨tv_1, pv_1⟩ := pv_1
      have tv_1 : rgT ld rg = 0 := tv_1
      have q_5 : (if rgT ld rg = 0 then (wrL (mn ld (rg + 10) - rg)) else tl) = (wrL (mn ld (rg + 10) - rg)) := by
        first
        | (
           first | rfl | (rw [if_pos (by omega)]) | (rw [if_neg (by omega)]) | (rw [if_pos (by omega)]; subst_vars; rfl))
        | fail "q9"
      have q_6 : (if rgT ld rg = 0 then (wrI tp tt sg rg (mn ld (rg + 10) - rg)) else sg) = (wrI tp tt sg rg (mn ld (rg + 10) - rg)) := by
        first
        | (
           first | rfl | (rw [if_pos (by omega)]) | (rw [if_neg (by omega)]) | (rw [if_pos (by omega)]; subst_vars; rfl))
        | fail "q9"
      have hw_7 := (congr (congrArg (fun (z0 : Int) (z1 : Int → Int) => ([(aR, .inr (11, [.ref aG, .ref aP, .ref aH, .ref aY, .ref aT, .ref aS, .ref aF, .ref aX, .int (iI pr), .int (iI tk), .int (iI tol), .int (iI hou)])), (aT, .inr (9, [.ref aTp, .ref aTt, .ref aTx, .ref aTy, .ref aE, .int (iI ld)])), (aTp, .inl (gI g, 200, .inl (ar tp))), (aTt, .inl (gI g, 200, .inl (ar tt))), (aX, .inr (8, [.ref aXs, .int (iI z0)])), (aXs, .inl (gC g, 40, .inl (ar z1)))] : va_W)) q_5.symm) q_6.symm)
      rw [hQ9]
      exact x_iret hx hb hr hlocks hP hD hS (S := Unit) rfl dL_writeRings_5 () (by
          first
          | (
             first | (rw [if_pos (by omega)]; first | assumption | (subst_vars; rfl)) | (rw [if_neg (by omega)]; omega))
          | fail "q9") trivial hw_7 (Nat.le_of_ble_eq_true rfl) (Nat.le_of_ble_eq_true rfl)
  rw [hH, hlo, hQ9] at goal_
  exact goal_

set_option maxHeartbeats 4000000 in
set_option maxRecDepth 100000 in
theorem c_L_lineAt (l : Launch) (hflags : l.stackTraces = false) (g : xg) (sz : Nat) (aR aG aP aH aY aT aS aF aX aXs : Nat) (pr tk tol hou tl ix : Int) (sg : Int → Int) (htl : 0 ≤ tl ∧ tl ≤ 40) (hb_sg : bnd sg 0 65535) (hr_ix : iR ix) : Met l yL_lineAt wsL_lineAt { frames := 7, cells := 1, slots := 6, locals := 113 } (va_Pc [.ref aR, .int (iI ix)] (xB g [(aR, .inr (11, [.ref aG, .ref aP, .ref aH, .ref aY, .ref aT, .ref aS, .ref aF, .ref aX, .int (iI pr), .int (iI tk), .int (iI tol), .int (iI hou)])), (aX, .inr (8, [.ref aXs, .int (iI tl)])), (aXs, .inl (gC g, 40, .inl (ar sg)))] sz)) (va_Qi (fun r u => r = iI ((fun (u : Unit) => (if rgT tl ix = 0 then sg ix else -900000 - rgT tl ix)) u) ∧ (fun (u : Unit) => True) u) (fun u t => xE g (va_A [(aR, .inr (11, [.ref aG, .ref aP, .ref aH, .ref aY, .ref aT, .ref aS, .ref aF, .ref aX, .int (iI pr), .int (iI tk), .int (iI tol), .int (iI hou)])), (aX, .inr (8, [.ref aXs, .int (iI tl)])), (aXs, .inl (gC g, 40, .inl (ar sg)))] sz) ((fun (u : Unit) => [(aR, .inr (11, [.ref aG, .ref aP, .ref aH, .ref aY, .ref aT, .ref aS, .ref aF, .ref aX, .int (iI pr), .int (iI tk), .int (iI tol), .int (iI hou)])), (aX, .inr (8, [.ref aXs, .int (iI tl)])), (aXs, .inl (gC g, 40, .inl (ar sg)))]) u) t) (va_A [(aR, .inr (11, [.ref aG, .ref aP, .ref aH, .ref aY, .ref aT, .ref aS, .ref aF, .ref aX, .int (iI pr), .int (iI tk), .int (iI tol), .int (iI hou)])), (aX, .inr (8, [.ref aXs, .int (iI tl)])), (aXs, .inl (gC g, 40, .inl (ar sg)))] sz)) 1 6 (va_A [(aR, .inr (11, [.ref aG, .ref aP, .ref aH, .ref aY, .ref aT, .ref aS, .ref aF, .ref aX, .int (iI pr), .int (iI tk), .int (iI tol), .int (iI hou)])), (aX, .inr (8, [.ref aXs, .int (iI tl)])), (aXs, .inl (gC g, 40, .inl (ar sg)))] sz) := by
  refine x_enterH (y := yL_lineAt) (ws := wsL_lineAt) (g := g) (sz := sz) (av := [.ref aR, .int (iI ix)]) (WS := [(aR, .inr (11, [.ref aG, .ref aP, .ref aH, .ref aY, .ref aT, .ref aS, .ref aF, .ref aX, .int (iI pr), .int (iI tk), .int (iI tol), .int (iI hou)])), (aX, .inr (8, [.ref aXs, .int (iI tl)])), (aXs, .inl (gC g, 40, .inl (ar sg)))]) (cc := cL_lineAt) (maxL := 3) (ret := some .int) (Qc := (fun A => (va_Qi (fun r u => r = iI ((fun (u : Unit) => (if rgT tl ix = 0 then sg ix else -900000 - rgT tl ix)) u) ∧ (fun (u : Unit) => True) u) (fun u t => xE g A ((fun (u : Unit) => [(aR, .inr (11, [.ref aG, .ref aP, .ref aH, .ref aY, .ref aT, .ref aS, .ref aF, .ref aX, .int (iI pr), .int (iI tk), .int (iI tol), .int (iI hou)])), (aX, .inr (8, [.ref aXs, .int (iI tl)])), (aXs, .inl (gC g, 40, .inl (ar sg)))]) u) t) A))) (by decide) rfl (Nat.le_of_ble_eq_true rfl) ?_
  intro p e s m args below meth c A ls hx hb hr hml hown hts hlocks htab hC hP hD hS hA hl
  have hK := hC.1
  have hown : s.vm.findClass RL = some m.cls := hown
  have hl : lv_has ls 3 [(0, .ref aR), (1, .int (iI ix))] := hl
  obtain ⟨H, hH⟩ : ∃ z, z = s.heap := ⟨_, rfl⟩
  obtain ⟨locs, hlo⟩ : ∃ z : List Loc, z = [] := ⟨_, rfl⟩
  obtain ⟨Q9, hQ9⟩ : ∃ z, z = MQ below (va_Qi (fun r u => r = iI ((fun (u : Unit) => (if rgT tl ix = 0 then sg ix else -900000 - rgT tl ix)) u) ∧ (fun (u : Unit) => True) u) (fun u t => xE g A ((fun (u : Unit) => [(aR, .inr (11, [.ref aG, .ref aP, .ref aH, .ref aY, .ref aT, .ref aS, .ref aF, .ref aX, .int (iI pr), .int (iI tk), .int (iI tol), .int (iI hou)])), (aX, .inr (8, [.ref aXs, .int (iI tl)])), (aXs, .inl (gC g, 40, .inl (ar sg)))]) u) t) A) args s 1 6 A := ⟨_, rfl⟩
  have hP : va_P (gD g) vwCl [(aR, .inr (11, [.ref aG, .ref aP, .ref aH, .ref aY, .ref aT, .ref aS, .ref aF, .ref aX, .int (iI pr), .int (iI tk), .int (iI tol), .int (iI hou)])), (aX, .inr (8, [.ref aXs, .int (iI tl)])), (aXs, .inl (gC g, 40, .inl (ar sg)))] H := by rw [hH]; exact hP
  have hS : va_S A s.heap H locs := by rw [hH, hlo]; exact hS
  have goal_ : W p l e { frames := 7, cells := 1, slots := 6, locals := 113 } s m args below meth c H locs 0 0 Q9 (F0 m 0 ls []) := by
    clear hH hlo
    refine lv_aload_n hx hb dL_lineAt_0 rfl (lv_at hl 0 rfl) ?_
    refine lv_iload_n hx hb dL_lineAt_1 rfl (lv_at hl 1 rfl) ?_
    refine x_calliX (S := Unit) (SX := Unit) (wc := [(aR, .inr (11, [.ref aG, .ref aP, .ref aH, .ref aY, .ref aT, .ref aS, .ref aF, .ref aX, .int (iI pr), .int (iI tk), .int (iI tol), .int (iI hou)])), (aX, .inr (8, [.ref aXs, .int (iI tl)])), (aXs, .inl (gC g, 40, .inl (ar sg)))]) (wr := []) hC hP hD hS hA [0, 1, 2] [] [0, 1, 2] rfl rfl (fun hpre => vx_runV (As := [.int (iI ix)]) (rest := []) ⟨hx, hb, hml, hown, hts⟩ (c_X8_lineAt l hflags g H.size aR aG aP aH aY aT aS aF aX aXs pr tk tol hou tl ix sg (by first | (first | assumption | omega | exact bnd_up (by assumption) (by omega) (by omega)) | fail "q8") (by first | (first | assumption | omega | exact bnd_up (by assumption) (by omega) (by omega)) | fail "q8") (by first | (first | assumption | omega | exact bnd_up (by assumption) (by omega) (by omega)) | fail "q8")) (cwV 1 hts gL_lineAt_X8_lineAt rfl rfl rfl (by decide +kernel) ⟨Nat.le_of_ble_eq_true rfl, Nat.le_of_ble_eq_true rfl⟩) ⟨xB_blind, va_recv hK hP (ci := 11) (q0 := 0) rfl rfl, hpre _⟩ rfl rfl hl.1 rfl (lv_room (Nat.le_of_ble_eq_true rfl)) dL_lineAt_2 ⟨Nat.le_of_ble_eq_true rfl, Nat.le_of_ble_eq_true rfl⟩) (fun (u : Unit) => [(aR, .inr (11, [.ref aG, .ref aP, .ref aH, .ref aY, .ref aT, .ref aS, .ref aF, .ref aX, .int (iI pr), .int (iI tk), .int (iI tol), .int (iI hou)])), (aX, .inr (8, [.ref aXs, .int (iI tl)])), (aXs, .inl (gC g, 40, .inl (ar sg)))]) (fun (u : Unit) => ([(aR, .inr (11, [.ref aG, .ref aP, .ref aH, .ref aY, .ref aT, .ref aS, .ref aF, .ref aX, .int (iI pr), .int (iI tk), .int (iI tol), .int (iI hou)])), (aX, .inr (8, [.ref aXs, .int (iI tl)])), (aXs, .inl (gC g, 40, .inl (ar sg)))] : va_W)) rfl rfl (by decide) (fun _ => rfl) (fun _ => rfl) rfl (fun E ce q9 u H locs hXP hPX hP hD hS hcell hv9 hcl => ?_) (fun u v_1 H locs hv_1 pv_1 hP hD hS => ?_)
    · skip
      have hP : va_P (gD g) vwCl [(aR, .inr (11, [.ref aG, .ref aP, .ref aH, .ref aY, .ref aT, .ref aS, .ref aF, .ref aX, .int (iI pr), .int (iI tk), .int (iI tol), .int (iI hou)])), (aX, .inr (8, [.ref aXs, .int (iI tl)])), (aXs, .inl (gC g, 40, .inl (ar sg)))] H := hP
      have hD : va_D A [(aR, .inr (11, [.ref aG, .ref aP, .ref aH, .ref aY, .ref aT, .ref aS, .ref aF, .ref aX, .int (iI pr), .int (iI tk), .int (iI tol), .int (iI hou)])), (aX, .inr (8, [.ref aXs, .int (iI tl)])), (aXs, .inl (gC g, 40, .inl (ar sg)))] := hD
      obtain ⟨hE, hp⟩ := hPX
      have hp : rgT tl ix = 1 := hp
      subst hE
      refine vx_catch (E := "java/lang/IndexOutOfBoundsException") (name := "java/lang/IndexOutOfBoundsException") hown [] ⟨0, 5, 6, 28⟩ [] (by rw [htab]; rfl) (fun z hz => by cases hz) (by decide) (by decide) (hts (.classLink RL 28 "java/lang/IndexOutOfBoundsException") (List.mem_of_getElem? (i := 1) rfl)) (va_Nw.use rfl (hC.2.2.2.2.2.2.2.2.2.2.1 "java/lang/IndexOutOfBoundsException" (List.mem_of_getElem? (i := 2) rfl))) hcell hv9 hcl ?_
      refine lv_astore_n (lv' := [(2, .ref q9), (0, .ref aR), (1, .int (iI ix))]) hx hb dL_lineAt_6 rfl hl (by decide) rfl (fun ls hl => ?_)
      refine x_ldc (v := -900001) hx hb hown (hts (.constant RL 17 (-900001)) (List.mem_of_getElem? (i := 2) rfl)) (by decide) dL_lineAt_7 ?_
      rw [hQ9]
      exact x_iret hx hb hr hlocks hP hD hS (S := Unit) rfl dL_lineAt_9 () (by
          first
          | (
             first | (rw [if_pos (by omega)]; first | assumption | (subst_vars; rfl)) | (rw [if_neg (by omega)]; omega))
          | fail "q9") trivial rfl (Nat.le_of_ble_eq_true rfl) (Nat.le_of_ble_eq_true rfl)
    · skip
      have hP : va_P (gD g) vwCl [(aR, .inr (11, [.ref aG, .ref aP, .ref aH, .ref aY, .ref aT, .ref aS, .ref aF, .ref aX, .int (iI pr), .int (iI tk), .int (iI tol), .int (iI hou)])), (aX, .inr (8, [.ref aXs, .int (iI tl)])), (aXs, .inl (gC g, 40, .inl (ar sg)))] H := hP
      have hD : va_D A [(aR, .inr (11, [.ref aG, .ref aP, .ref aH, .ref aY, .ref aT, .ref aS, .ref aF, .ref aX, .int (iI pr), .int (iI tk), .int (iI tol), .int (iI hou)])), (aX, .inr (8, [.ref aXs, .int (iI tl)])), (aXs, .inl (gC g, 40, .inl (ar sg)))] := hD
      have hv_1 : v_1 = sg ix := hv_1
      obtain ⟨tv_1, pv_1⟩ := pv_1
      have tv_1 : rgT tl ix = 0 := tv_1
      rw [hQ9]
      exact x_iret hx hb hr hlocks hP hD hS (S := Unit) rfl dL_lineAt_5 () (by
          first
          | (
             first | (rw [if_pos (by omega)]; first | assumption | (subst_vars; rfl)) | (rw [if_neg (by omega)]; omega))
          | fail "q9") trivial rfl (Nat.le_of_ble_eq_true rfl) (Nat.le_of_ble_eq_true rfl)
  rw [hH, hlo, hQ9] at goal_
  exact goal_
